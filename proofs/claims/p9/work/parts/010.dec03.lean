theorem dX10_nextLine_24 : decode cX10_nextLine 24 = .ok (.iaload, 1) := by decide +kernel
theorem dX10_nextLine_25 : decode cX10_nextLine 25 = .ok (.if_icmp .lt 16, 3) := by decide +kernel
theorem dX10_nextLine_45 : decode cX10_nextLine 45 = .ok (.aload_n 0, 1) := by decide +kernel
theorem dX10_nextLine_46 : decode cX10_nextLine 46 = .ok (.getfield 31, 3) := by decide +kernel
theorem dX10_nextLine_49 : decode cX10_nextLine 49 = .ok (.iload_n 1, 1) := by decide +kernel
theorem dX10_nextLine_50 : decode cX10_nextLine 50 = .ok (.dup2, 1) := by decide +kernel
theorem dX10_nextLine_51 : decode cX10_nextLine 51 = .ok (.iaload, 1) := by decide +kernel
theorem dX10_nextLine_52 : decode cX10_nextLine 52 = .ok (.iconst 1, 1) := by decide +kernel
theorem dX10_nextLine_53 : decode cX10_nextLine 53 = .ok (.iadd, 1) := by decide +kernel
theorem dX10_nextLine_54 : decode cX10_nextLine 54 = .ok (.iastore, 1) := by decide +kernel
theorem dX10_nextLine_55 : decode cX10_nextLine 55 = .ok (.aload_n 0, 1) := by decide +kernel
theorem dX10_nextLine_56 : decode cX10_nextLine 56 = .ok (.iload_n 1, 1) := by decide +kernel
theorem dX10_nextLine_57 : decode cX10_nextLine 57 = .ok (.invokevirtual 74, 3) := by decide +kernel
theorem dX10_nextLine_28 : decode cX10_nextLine 28 = .ok (.aload_n 0, 1) := by decide +kernel
theorem dX10_nextLine_29 : decode cX10_nextLine 29 = .ok (.getfield 31, 3) := by decide +kernel
theorem dX10_nextLine_32 : decode cX10_nextLine 32 = .ok (.iload_n 1, 1) := by decide +kernel
theorem dX10_nextLine_33 : decode cX10_nextLine 33 = .ok (.iconst 0, 1) := by decide +kernel
theorem dX10_nextLine_34 : decode cX10_nextLine 34 = .ok (.iastore, 1) := by decide +kernel
theorem dX10_nextLine_35 : decode cX10_nextLine 35 = .ok (.iinc 1 (-1), 3) := by decide +kernel
theorem dX10_nextLine_38 : decode cX10_nextLine 38 = .ok (.goto (-31), 3) := by decide +kernel
theorem dX10_bestDigit_0 : decode cX10_bestDigit 0 = .ok (.aload_n 0, 1) := by decide +kernel
theorem dX10_bestDigit_1 : decode cX10_bestDigit 1 = .ok (.getfield 34, 3) := by decide +kernel
theorem dX10_bestDigit_4 : decode cX10_bestDigit 4 = .ok (.iconst 5, 1) := by decide +kernel
theorem dX10_bestDigit_5 : decode cX10_bestDigit 5 = .ok (.imul, 1) := by decide +kernel
theorem dX10_bestDigit_6 : decode cX10_bestDigit 6 = .ok (.aload_n 0, 1) := by decide +kernel
theorem dX10_bestDigit_7 : decode cX10_bestDigit 7 = .ok (.getfield 34, 3) := by decide +kernel
theorem dX10_bestDigit_10 : decode cX10_bestDigit 10 = .ok (.iadd, 1) := by decide +kernel
theorem dX10_bestDigit_11 : decode cX10_bestDigit 11 = .ok (.istore_n 2, 1) := by decide +kernel
theorem dX10_bestDigit_12 : decode cX10_bestDigit 12 = .ok (.aload_n 0, 1) := by decide +kernel
theorem dX10_bestDigit_13 : decode cX10_bestDigit 13 = .ok (.getfield 9, 3) := by decide +kernel
theorem dX10_bestDigit_16 : decode cX10_bestDigit 16 = .ok (.iload_n 2, 1) := by decide +kernel
theorem dX10_bestDigit_17 : decode cX10_bestDigit 17 = .ok (.laload, 1) := by decide +kernel
theorem dX10_bestDigit_18 : decode cX10_bestDigit 18 = .ok (.aload_n 0, 1) := by decide +kernel
theorem dX10_bestDigit_19 : decode cX10_bestDigit 19 = .ok (.getfield 25, 3) := by decide +kernel
theorem dX10_bestDigit_22 : decode cX10_bestDigit 22 = .ok (.aload_n 0, 1) := by decide +kernel
theorem dX10_bestDigit_23 : decode cX10_bestDigit 23 = .ok (.getfield 34, 3) := by decide +kernel
theorem dX10_bestDigit_26 : decode cX10_bestDigit 26 = .ok (.iaload, 1) := by decide +kernel
theorem dX10_bestDigit_27 : decode cX10_bestDigit 27 = .ok (.i2l, 1) := by decide +kernel
theorem dX10_bestDigit_28 : decode cX10_bestDigit 28 = .ok (.lmul, 1) := by decide +kernel
theorem dX10_bestDigit_29 : decode cX10_bestDigit 29 = .ok (.lstore_n 3, 1) := by decide +kernel
theorem dX10_bestDigit_30 : decode cX10_bestDigit 30 = .ok (.lload_n 3, 1) := by decide +kernel
theorem dX10_bestDigit_31 : decode cX10_bestDigit 31 = .ok (.lconst 0, 1) := by decide +kernel
theorem dX10_bestDigit_32 : decode cX10_bestDigit 32 = .ok (.lcmp, 1) := by decide +kernel
theorem dX10_bestDigit_33 : decode cX10_bestDigit 33 = .ok (.ifCond .gt 5, 3) := by decide +kernel
theorem dX10_bestDigit_38 : decode cX10_bestDigit 38 = .ok (.aload_n 0, 1) := by decide +kernel
theorem dX10_bestDigit_39 : decode cX10_bestDigit 39 = .ok (.getfield 18, 3) := by decide +kernel
theorem dX10_bestDigit_42 : decode cX10_bestDigit 42 = .ok (.iload_n 2, 1) := by decide +kernel
theorem dX10_bestDigit_43 : decode cX10_bestDigit 43 = .ok (.laload, 1) := by decide +kernel
theorem dX10_bestDigit_44 : decode cX10_bestDigit 44 = .ok (.aload_n 0, 1) := by decide +kernel
theorem dX10_bestDigit_45 : decode cX10_bestDigit 45 = .ok (.getfield 21, 3) := by decide +kernel
theorem dX10_bestDigit_48 : decode cX10_bestDigit 48 = .ok (.aload_n 0, 1) := by decide +kernel
theorem dX10_bestDigit_49 : decode cX10_bestDigit 49 = .ok (.getfield 34, 3) := by decide +kernel
theorem dX10_bestDigit_52 : decode cX10_bestDigit 52 = .ok (.iaload, 1) := by decide +kernel
theorem dX10_bestDigit_53 : decode cX10_bestDigit 53 = .ok (.i2l, 1) := by decide +kernel
theorem dX10_bestDigit_54 : decode cX10_bestDigit 54 = .ok (.aload_n 0, 1) := by decide +kernel
theorem dX10_bestDigit_55 : decode cX10_bestDigit 55 = .ok (.getfield 9, 3) := by decide +kernel
theorem dX10_bestDigit_58 : decode cX10_bestDigit 58 = .ok (.iload_n 2, 1) := by decide +kernel
theorem dX10_bestDigit_59 : decode cX10_bestDigit 59 = .ok (.laload, 1) := by decide +kernel
theorem dX10_bestDigit_60 : decode cX10_bestDigit 60 = .ok (.lmul, 1) := by decide +kernel
theorem dX10_bestDigit_61 : decode cX10_bestDigit 61 = .ok (.lsub, 1) := by decide +kernel
theorem dX10_bestDigit_62 : decode cX10_bestDigit 62 = .ok (.lload_n 3, 1) := by decide +kernel
theorem dX10_bestDigit_63 : decode cX10_bestDigit 63 = .ok (.invokestatic 80, 3) := by decide +kernel
theorem dX10_bestDigit_66 : decode cX10_bestDigit 66 = .ok (.lstore 5, 2) := by decide +kernel
theorem dX10_bestDigit_68 : decode cX10_bestDigit 68 = .ok (.lconst 0, 1) := by decide +kernel
theorem dX10_bestDigit_69 : decode cX10_bestDigit 69 = .ok (.iload_n 1, 1) := by decide +kernel
theorem dX10_bestDigit_70 : decode cX10_bestDigit 70 = .ok (.iconst 1, 1) := by decide +kernel
theorem dX10_bestDigit_71 : decode cX10_bestDigit 71 = .ok (.isub, 1) := by decide +kernel
theorem dX10_bestDigit_72 : decode cX10_bestDigit 72 = .ok (.i2l, 1) := by decide +kernel
theorem dX10_bestDigit_73 : decode cX10_bestDigit 73 = .ok (.lload 5, 2) := by decide +kernel
theorem dX10_bestDigit_75 : decode cX10_bestDigit 75 = .ok (.invokestatic 84, 3) := by decide +kernel
theorem dX10_bestDigit_78 : decode cX10_bestDigit 78 = .ok (.invokestatic 87, 3) := by decide +kernel
theorem dX10_bestDigit_81 : decode cX10_bestDigit 81 = .ok (.l2i, 1) := by decide +kernel
theorem dX10_bestDigit_82 : decode cX10_bestDigit 82 = .ok (.istore 7, 2) := by decide +kernel
theorem dX10_bestDigit_84 : decode cX10_bestDigit 84 = .ok (.iload 7, 2) := by decide +kernel
theorem dX10_bestDigit_86 : decode cX10_bestDigit 86 = .ok (.iconst 1, 1) := by decide +kernel
theorem dX10_bestDigit_87 : decode cX10_bestDigit 87 = .ok (.iadd, 1) := by decide +kernel
theorem dX10_bestDigit_88 : decode cX10_bestDigit 88 = .ok (.iload_n 1, 1) := by decide +kernel
theorem dX10_bestDigit_89 : decode cX10_bestDigit 89 = .ok (.if_icmp .ge 28, 3) := by decide +kernel
theorem dX10_bestDigit_117 : decode cX10_bestDigit 117 = .ok (.iload 7, 2) := by decide +kernel
theorem dX10_bestDigit_119 : decode cX10_bestDigit 119 = .ok (.ireturn, 1) := by decide +kernel
theorem dX10_bestDigit_92 : decode cX10_bestDigit 92 = .ok (.aload_n 0, 1) := by decide +kernel
theorem dX10_bestDigit_93 : decode cX10_bestDigit 93 = .ok (.iload 7, 2) := by decide +kernel
theorem dX10_bestDigit_95 : decode cX10_bestDigit 95 = .ok (.iconst 1, 1) := by decide +kernel
theorem dX10_bestDigit_96 : decode cX10_bestDigit 96 = .ok (.iadd, 1) := by decide +kernel
theorem dX10_bestDigit_97 : decode cX10_bestDigit 97 = .ok (.invokevirtual 89, 3) := by decide +kernel
theorem dX10_bestDigit_100 : decode cX10_bestDigit 100 = .ok (.aload_n 0, 1) := by decide +kernel
theorem dX10_bestDigit_101 : decode cX10_bestDigit 101 = .ok (.iload 7, 2) := by decide +kernel
theorem dX10_bestDigit_103 : decode cX10_bestDigit 103 = .ok (.invokevirtual 89, 3) := by decide +kernel
theorem dX10_bestDigit_106 : decode cX10_bestDigit 106 = .ok (.lcmp, 1) := by decide +kernel
theorem dX10_bestDigit_107 : decode cX10_bestDigit 107 = .ok (.ifCond .ge 10, 3) := by decide +kernel
theorem dX10_bestDigit_110 : decode cX10_bestDigit 110 = .ok (.iload 7, 2) := by decide +kernel
theorem dX10_bestDigit_112 : decode cX10_bestDigit 112 = .ok (.iconst 1, 1) := by decide +kernel
theorem dX10_bestDigit_113 : decode cX10_bestDigit 113 = .ok (.iadd, 1) := by decide +kernel
theorem dX10_bestDigit_114 : decode cX10_bestDigit 114 = .ok (.goto 5, 3) := by decide +kernel
theorem dX10_bestDigit_36 : decode cX10_bestDigit 36 = .ok (.iconst 0, 1) := by decide +kernel
theorem dX10_bestDigit_37 : decode cX10_bestDigit 37 = .ok (.ireturn, 1) := by decide +kernel
theorem dX0_forget_0 : decode cX0_forget 0 = .ok (.aload_n 0, 1) := by decide +kernel
theorem dX0_forget_1 : decode cX0_forget 1 = .ok (.iconst 0, 1) := by decide +kernel
theorem dX0_forget_2 : decode cX0_forget 2 = .ok (.putfield 23, 3) := by decide +kernel
theorem dX0_forget_5 : decode cX0_forget 5 = .ok (.return_, 1) := by decide +kernel
theorem dX0_learn_0 : decode cX0_learn 0 = .ok (.aload_n 0, 1) := by decide +kernel
theorem dX0_learn_1 : decode cX0_learn 1 = .ok (.getfield 23, 3) := by decide +kernel
theorem dX0_learn_4 : decode cX0_learn 4 = .ok (.ifCond .eq 4, 3) := by decide +kernel
theorem dX0_learn_8 : decode cX0_learn 8 = .ok (.aload_n 0, 1) := by decide +kernel
theorem dX0_learn_9 : decode cX0_learn 9 = .ok (.iconst 1, 1) := by decide +kernel
theorem dX0_learn_10 : decode cX0_learn 10 = .ok (.putfield 23, 3) := by decide +kernel
theorem dX0_learn_13 : decode cX0_learn 13 = .ok (.aload_n 0, 1) := by decide +kernel
theorem dX0_learn_14 : decode cX0_learn 14 = .ok (.aload_n 1, 1) := by decide +kernel
theorem dX0_learn_15 : decode cX0_learn 15 = .ok (.getfield 37, 3) := by decide +kernel
theorem dX0_learn_18 : decode cX0_learn 18 = .ok (.putfield 19, 3) := by decide +kernel
theorem dX0_learn_21 : decode cX0_learn 21 = .ok (.iconst 0, 1) := by decide +kernel
theorem dX0_learn_22 : decode cX0_learn 22 = .ok (.istore_n 2, 1) := by decide +kernel
theorem dX0_learn_23 : decode cX0_learn 23 = .ok (.iload_n 2, 1) := by decide +kernel
theorem dX0_learn_24 : decode cX0_learn 24 = .ok (.aload_n 0, 1) := by decide +kernel
theorem dX0_learn_25 : decode cX0_learn 25 = .ok (.getfield 19, 3) := by decide +kernel
theorem dX0_learn_28 : decode cX0_learn 28 = .ok (.if_icmp .ge 45, 3) := by decide +kernel
theorem dX0_learn_73 : decode cX0_learn 73 = .ok (.return_, 1) := by decide +kernel
theorem dX0_learn_31 : decode cX0_learn 31 = .ok (.iload_n 2, 1) := by decide +kernel
theorem dX0_learn_32 : decode cX0_learn 32 = .ok (.iconst 1, 1) := by decide +kernel
theorem dX0_learn_33 : decode cX0_learn 33 = .ok (.iadd, 1) := by decide +kernel
theorem dX0_learn_34 : decode cX0_learn 34 = .ok (.istore_n 3, 1) := by decide +kernel
theorem dX0_learn_35 : decode cX0_learn 35 = .ok (.iload_n 3, 1) := by decide +kernel
theorem dX0_learn_36 : decode cX0_learn 36 = .ok (.aload_n 0, 1) := by decide +kernel
theorem dX0_learn_37 : decode cX0_learn 37 = .ok (.getfield 19, 3) := by decide +kernel
theorem dX0_learn_40 : decode cX0_learn 40 = .ok (.if_icmp .ge 27, 3) := by decide +kernel
theorem dX0_learn_67 : decode cX0_learn 67 = .ok (.iinc 2 1, 3) := by decide +kernel
theorem dX0_learn_70 : decode cX0_learn 70 = .ok (.goto (-47), 3) := by decide +kernel
theorem dX0_learn_43 : decode cX0_learn 43 = .ok (.aload_n 0, 1) := by decide +kernel
theorem dX0_learn_44 : decode cX0_learn 44 = .ok (.getfield 9, 3) := by decide +kernel
theorem dX0_learn_47 : decode cX0_learn 47 = .ok (.iload_n 2, 1) := by decide +kernel
theorem dX0_learn_48 : decode cX0_learn 48 = .ok (.bipush 16, 2) := by decide +kernel
theorem dX0_learn_50 : decode cX0_learn 50 = .ok (.imul, 1) := by decide +kernel
theorem dX0_learn_51 : decode cX0_learn 51 = .ok (.iload_n 3, 1) := by decide +kernel
theorem dX0_learn_52 : decode cX0_learn 52 = .ok (.iadd, 1) := by decide +kernel
theorem dX0_learn_53 : decode cX0_learn 53 = .ok (.aload_n 0, 1) := by decide +kernel
theorem dX0_learn_54 : decode cX0_learn 54 = .ok (.aload_n 1, 1) := by decide +kernel
theorem dX0_learn_55 : decode cX0_learn 55 = .ok (.iload_n 2, 1) := by decide +kernel
theorem dX0_learn_56 : decode cX0_learn 56 = .ok (.iload_n 3, 1) := by decide +kernel
theorem dX0_learn_57 : decode cX0_learn 57 = .ok (.invokevirtual 42, 3) := by decide +kernel
theorem dX0_worthOfPair_0 : decode cX0_worthOfPair 0 = .ok (.iconst 0, 1) := by decide +kernel
theorem dX0_worthOfPair_1 : decode cX0_worthOfPair 1 = .ok (.istore 4, 2) := by decide +kernel
theorem dX0_worthOfPair_3 : decode cX0_worthOfPair 3 = .ok (.iload 4, 2) := by decide +kernel
theorem dX0_worthOfPair_5 : decode cX0_worthOfPair 5 = .ok (.aload_n 1, 1) := by decide +kernel
theorem dX0_worthOfPair_6 : decode cX0_worthOfPair 6 = .ok (.getfield 46, 3) := by decide +kernel
theorem dX0_worthOfPair_9 : decode cX0_worthOfPair 9 = .ok (.if_icmp .ge 31, 3) := by decide +kernel
theorem dX0_worthOfPair_40 : decode cX0_worthOfPair 40 = .ok (.lconst 0, 1) := by decide +kernel
theorem dX0_worthOfPair_41 : decode cX0_worthOfPair 41 = .ok (.lstore 4, 2) := by decide +kernel
theorem dX0_worthOfPair_43 : decode cX0_worthOfPair 43 = .ok (.iconst 0, 1) := by decide +kernel
theorem dX0_worthOfPair_44 : decode cX0_worthOfPair 44 = .ok (.istore 6, 2) := by decide +kernel
theorem dX0_worthOfPair_46 : decode cX0_worthOfPair 46 = .ok (.iload 6, 2) := by decide +kernel
theorem dX0_worthOfPair_48 : decode cX0_worthOfPair 48 = .ok (.aload_n 1, 1) := by decide +kernel
theorem dX0_worthOfPair_49 : decode cX0_worthOfPair 49 = .ok (.getfield 53, 3) := by decide +kernel
theorem dX0_worthOfPair_52 : decode cX0_worthOfPair 52 = .ok (.if_icmp .ge 39, 3) := by decide +kernel
theorem dX0_worthOfPair_91 : decode cX0_worthOfPair 91 = .ok (.lload 4, 2) := by decide +kernel
theorem dX0_worthOfPair_93 : decode cX0_worthOfPair 93 = .ok (.lreturn, 1) := by decide +kernel
theorem dX0_worthOfPair_55 : decode cX0_worthOfPair 55 = .ok (.aload_n 1, 1) := by decide +kernel
theorem dX0_worthOfPair_56 : decode cX0_worthOfPair 56 = .ok (.getfield 56, 3) := by decide +kernel
theorem dX0_worthOfPair_59 : decode cX0_worthOfPair 59 = .ok (.iload 6, 2) := by decide +kernel
theorem dX0_worthOfPair_61 : decode cX0_worthOfPair 61 = .ok (.aload_n 0, 1) := by decide +kernel
theorem dX0_worthOfPair_62 : decode cX0_worthOfPair 62 = .ok (.getfield 15, 3) := by decide +kernel
theorem dX0_worthOfPair_65 : decode cX0_worthOfPair 65 = .ok (.aload_n 1, 1) := by decide +kernel
theorem dX0_worthOfPair_66 : decode cX0_worthOfPair 66 = .ok (.getfield 46, 3) := by decide +kernel
theorem dX0_worthOfPair_69 : decode cX0_worthOfPair 69 = .ok (.invokevirtual 60, 3) := by decide +kernel
theorem dX0_worthOfPair_72 : decode cX0_worthOfPair 72 = .ok (.i2l, 1) := by decide +kernel
theorem dX0_worthOfPair_73 : decode cX0_worthOfPair 73 = .ok (.lstore 7, 2) := by decide +kernel
theorem dX0_worthOfPair_75 : decode cX0_worthOfPair 75 = .ok (.lload 4, 2) := by decide +kernel
theorem dX0_worthOfPair_77 : decode cX0_worthOfPair 77 = .ok (.lload 7, 2) := by decide +kernel
theorem dX0_worthOfPair_79 : decode cX0_worthOfPair 79 = .ok (.lload 7, 2) := by decide +kernel
theorem dX0_worthOfPair_81 : decode cX0_worthOfPair 81 = .ok (.lmul, 1) := by decide +kernel
theorem dX0_worthOfPair_82 : decode cX0_worthOfPair 82 = .ok (.ladd, 1) := by decide +kernel
theorem dX0_worthOfPair_83 : decode cX0_worthOfPair 83 = .ok (.lstore 4, 2) := by decide +kernel
theorem dX0_worthOfPair_85 : decode cX0_worthOfPair 85 = .ok (.iinc 6 1, 3) := by decide +kernel
theorem dX0_worthOfPair_88 : decode cX0_worthOfPair 88 = .ok (.goto (-42), 3) := by decide +kernel
theorem dX0_worthOfPair_12 : decode cX0_worthOfPair 12 = .ok (.aload_n 0, 1) := by decide +kernel
theorem dX0_worthOfPair_13 : decode cX0_worthOfPair 13 = .ok (.getfield 15, 3) := by decide +kernel
theorem dX0_worthOfPair_16 : decode cX0_worthOfPair 16 = .ok (.iload 4, 2) := by decide +kernel
theorem dX0_worthOfPair_18 : decode cX0_worthOfPair 18 = .ok (.aload_n 1, 1) := by decide +kernel
theorem dX0_worthOfPair_19 : decode cX0_worthOfPair 19 = .ok (.iload_n 2, 1) := by decide +kernel
theorem dX0_worthOfPair_20 : decode cX0_worthOfPair 20 = .ok (.iload 4, 2) := by decide +kernel
theorem dX0_worthOfPair_22 : decode cX0_worthOfPair 22 = .ok (.invokevirtual 49, 3) := by decide +kernel
theorem dX0_worthOfPair_25 : decode cX0_worthOfPair 25 = .ok (.aload_n 1, 1) := by decide +kernel
theorem dX0_worthOfPair_26 : decode cX0_worthOfPair 26 = .ok (.iload_n 3, 1) := by decide +kernel
theorem dX0_worthOfPair_27 : decode cX0_worthOfPair 27 = .ok (.iload 4, 2) := by decide +kernel
theorem dX0_worthOfPair_29 : decode cX0_worthOfPair 29 = .ok (.invokevirtual 49, 3) := by decide +kernel
theorem dX0_worthOfPair_32 : decode cX0_worthOfPair 32 = .ok (.isub, 1) := by decide +kernel
theorem dX0_worthOfPair_33 : decode cX0_worthOfPair 33 = .ok (.iastore, 1) := by decide +kernel
theorem dX0_worthOfPair_34 : decode cX0_worthOfPair 34 = .ok (.iinc 4 1, 3) := by decide +kernel
theorem dX0_worthOfPair_37 : decode cX0_worthOfPair 37 = .ok (.goto (-34), 3) := by decide +kernel
theorem dX0_learn_60 : decode cX0_learn 60 = .ok (.lastore, 1) := by decide +kernel
theorem dX0_learn_61 : decode cX0_learn 61 = .ok (.iinc 3 1, 3) := by decide +kernel
theorem dX0_learn_64 : decode cX0_learn 64 = .ok (.goto (-29), 3) := by decide +kernel
theorem dX0_learn_7 : decode cX0_learn 7 = .ok (.return_, 1) := by decide +kernel
theorem dX0_findLeast_0 : decode cX0_findLeast 0 = .ok (.aload_n 0, 1) := by decide +kernel
theorem dX0_findLeast_1 : decode cX0_findLeast 1 = .ok (.ldc2_w 66, 3) := by decide +kernel
theorem dX0_findLeast_4 : decode cX0_findLeast 4 = .ok (.putfield 27, 3) := by decide +kernel
theorem dX0_findLeast_7 : decode cX0_findLeast 7 = .ok (.aload_n 0, 1) := by decide +kernel
theorem dX0_findLeast_8 : decode cX0_findLeast 8 = .ok (.iconst 0, 1) := by decide +kernel
theorem dX0_findLeast_9 : decode cX0_findLeast 9 = .ok (.putfield 31, 3) := by decide +kernel
theorem dX0_findLeast_12 : decode cX0_findLeast 12 = .ok (.iconst 0, 1) := by decide +kernel
theorem dX0_findLeast_13 : decode cX0_findLeast 13 = .ok (.istore_n 2, 1) := by decide +kernel
theorem dX0_findLeast_14 : decode cX0_findLeast 14 = .ok (.iload_n 2, 1) := by decide +kernel
theorem dX0_findLeast_15 : decode cX0_findLeast 15 = .ok (.aload_n 0, 1) := by decide +kernel
theorem dX0_findLeast_16 : decode cX0_findLeast 16 = .ok (.getfield 19, 3) := by decide +kernel
theorem dX0_findLeast_19 : decode cX0_findLeast 19 = .ok (.if_icmp .ge 43, 3) := by decide +kernel
theorem dX0_findLeast_62 : decode cX0_findLeast 62 = .ok (.return_, 1) := by decide +kernel
theorem dX0_findLeast_22 : decode cX0_findLeast 22 = .ok (.iload_n 2, 1) := by decide +kernel
theorem dX0_findLeast_23 : decode cX0_findLeast 23 = .ok (.iconst 1, 1) := by decide +kernel
theorem dX0_findLeast_24 : decode cX0_findLeast 24 = .ok (.iadd, 1) := by decide +kernel
theorem dX0_findLeast_25 : decode cX0_findLeast 25 = .ok (.istore_n 3, 1) := by decide +kernel
theorem dX0_findLeast_26 : decode cX0_findLeast 26 = .ok (.iload_n 3, 1) := by decide +kernel
theorem dX0_findLeast_27 : decode cX0_findLeast 27 = .ok (.aload_n 0, 1) := by decide +kernel
theorem dX0_findLeast_28 : decode cX0_findLeast 28 = .ok (.getfield 19, 3) := by decide +kernel
theorem dX0_findLeast_31 : decode cX0_findLeast 31 = .ok (.if_icmp .ge 25, 3) := by decide +kernel
theorem dX0_findLeast_56 : decode cX0_findLeast 56 = .ok (.iinc 2 1, 3) := by decide +kernel
theorem dX0_findLeast_59 : decode cX0_findLeast 59 = .ok (.goto (-45), 3) := by decide +kernel
theorem dX0_findLeast_34 : decode cX0_findLeast 34 = .ok (.iload_n 2, 1) := by decide +kernel
theorem dX0_findLeast_35 : decode cX0_findLeast 35 = .ok (.iload_n 1, 1) := by decide +kernel
theorem dX0_findLeast_36 : decode cX0_findLeast 36 = .ok (.if_icmp .eq 14, 3) := by decide +kernel
theorem dX0_findLeast_50 : decode cX0_findLeast 50 = .ok (.iinc 3 1, 3) := by decide +kernel
theorem dX0_findLeast_53 : decode cX0_findLeast 53 = .ok (.goto (-27), 3) := by decide +kernel
theorem dX0_findLeast_39 : decode cX0_findLeast 39 = .ok (.iload_n 3, 1) := by decide +kernel
theorem dX0_findLeast_40 : decode cX0_findLeast 40 = .ok (.iload_n 1, 1) := by decide +kernel
theorem dX0_findLeast_41 : decode cX0_findLeast 41 = .ok (.if_icmp .eq 9, 3) := by decide +kernel
theorem dX0_findLeast_44 : decode cX0_findLeast 44 = .ok (.aload_n 0, 1) := by decide +kernel
theorem dX0_findLeast_45 : decode cX0_findLeast 45 = .ok (.iload_n 2, 1) := by decide +kernel
theorem dX0_findLeast_46 : decode cX0_findLeast 46 = .ok (.iload_n 3, 1) := by decide +kernel
theorem dX0_findLeast_47 : decode cX0_findLeast 47 = .ok (.invokevirtual 68, 3) := by decide +kernel
theorem dX0_weighPair_0 : decode cX0_weighPair 0 = .ok (.aload_n 0, 1) := by decide +kernel
theorem dX0_weighPair_1 : decode cX0_weighPair 1 = .ok (.getfield 9, 3) := by decide +kernel
theorem dX0_weighPair_4 : decode cX0_weighPair 4 = .ok (.iload_n 1, 1) := by decide +kernel
theorem dX0_weighPair_5 : decode cX0_weighPair 5 = .ok (.bipush 16, 2) := by decide +kernel
theorem dX0_weighPair_7 : decode cX0_weighPair 7 = .ok (.imul, 1) := by decide +kernel
theorem dX0_weighPair_8 : decode cX0_weighPair 8 = .ok (.iload_n 2, 1) := by decide +kernel
theorem dX0_weighPair_9 : decode cX0_weighPair 9 = .ok (.iadd, 1) := by decide +kernel
theorem dX0_weighPair_10 : decode cX0_weighPair 10 = .ok (.laload, 1) := by decide +kernel
theorem dX0_weighPair_11 : decode cX0_weighPair 11 = .ok (.lstore_n 3, 1) := by decide +kernel
theorem dX0_weighPair_12 : decode cX0_weighPair 12 = .ok (.lload_n 3, 1) := by decide +kernel
theorem dX0_weighPair_13 : decode cX0_weighPair 13 = .ok (.aload_n 0, 1) := by decide +kernel
theorem dX0_weighPair_14 : decode cX0_weighPair 14 = .ok (.getfield 27, 3) := by decide +kernel
theorem dX0_weighPair_17 : decode cX0_weighPair 17 = .ok (.lcmp, 1) := by decide +kernel
theorem dX0_weighPair_18 : decode cX0_weighPair 18 = .ok (.ifCond .ge 23, 3) := by decide +kernel
theorem dX0_weighPair_41 : decode cX0_weighPair 41 = .ok (.lload_n 3, 1) := by decide +kernel
theorem dX0_weighPair_42 : decode cX0_weighPair 42 = .ok (.aload_n 0, 1) := by decide +kernel
theorem dX0_weighPair_43 : decode cX0_weighPair 43 = .ok (.getfield 27, 3) := by decide +kernel
theorem dX0_weighPair_46 : decode cX0_weighPair 46 = .ok (.lcmp, 1) := by decide +kernel
theorem dX0_weighPair_47 : decode cX0_weighPair 47 = .ok (.ifCond .ne 13, 3) := by decide +kernel
theorem dX0_weighPair_60 : decode cX0_weighPair 60 = .ok (.return_, 1) := by decide +kernel
theorem dX0_weighPair_50 : decode cX0_weighPair 50 = .ok (.aload_n 0, 1) := by decide +kernel
theorem dX0_weighPair_51 : decode cX0_weighPair 51 = .ok (.dup, 1) := by decide +kernel
theorem dX0_weighPair_52 : decode cX0_weighPair 52 = .ok (.getfield 31, 3) := by decide +kernel
theorem dX0_weighPair_55 : decode cX0_weighPair 55 = .ok (.iconst 1, 1) := by decide +kernel
theorem dX0_weighPair_56 : decode cX0_weighPair 56 = .ok (.iadd, 1) := by decide +kernel
theorem dX0_weighPair_57 : decode cX0_weighPair 57 = .ok (.putfield 31, 3) := by decide +kernel
theorem dX0_weighPair_21 : decode cX0_weighPair 21 = .ok (.aload_n 0, 1) := by decide +kernel
theorem dX0_weighPair_22 : decode cX0_weighPair 22 = .ok (.lload_n 3, 1) := by decide +kernel
theorem dX0_weighPair_23 : decode cX0_weighPair 23 = .ok (.putfield 27, 3) := by decide +kernel
theorem dX0_weighPair_26 : decode cX0_weighPair 26 = .ok (.aload_n 0, 1) := by decide +kernel
theorem dX0_weighPair_27 : decode cX0_weighPair 27 = .ok (.iconst 0, 1) := by decide +kernel
theorem dX0_weighPair_28 : decode cX0_weighPair 28 = .ok (.putfield 31, 3) := by decide +kernel
theorem dX0_weighPair_31 : decode cX0_weighPair 31 = .ok (.aload_n 0, 1) := by decide +kernel
theorem dX0_weighPair_32 : decode cX0_weighPair 32 = .ok (.bipush 100, 2) := by decide +kernel
theorem dX0_weighPair_34 : decode cX0_weighPair 34 = .ok (.iload_n 1, 1) := by decide +kernel
theorem dX0_weighPair_35 : decode cX0_weighPair 35 = .ok (.imul, 1) := by decide +kernel
theorem dX0_weighPair_36 : decode cX0_weighPair 36 = .ok (.iload_n 2, 1) := by decide +kernel
theorem dX0_weighPair_37 : decode cX0_weighPair 37 = .ok (.iadd, 1) := by decide +kernel
theorem dX0_weighPair_38 : decode cX0_weighPair 38 = .ok (.putfield 34, 3) := by decide +kernel
theorem dX6_forget_0 : decode cX6_forget 0 = .ok (.aload_n 0, 1) := by decide +kernel
theorem dX6_forget_1 : decode cX6_forget 1 = .ok (.getfield 22, 3) := by decide +kernel
theorem dX6_forget_4 : decode cX6_forget 4 = .ok (.ldc2_w 30, 3) := by decide +kernel
theorem dX6_forget_7 : decode cX6_forget 7 = .ok (.invokestatic 32, 3) := by decide +kernel
theorem dJ7_fill_d0a16_0 : decode cJ7_fill_d0a16 0 = .ok (.iconst 0, 1) := by decide +kernel
theorem dJ7_fill_d0a16_1 : decode cJ7_fill_d0a16 1 = .ok (.istore_n 3, 1) := by decide +kernel
theorem dJ7_fill_d0a16_2 : decode cJ7_fill_d0a16 2 = .ok (.aload_n 0, 1) := by decide +kernel
theorem dJ7_fill_d0a16_3 : decode cJ7_fill_d0a16 3 = .ok (.arraylength, 1) := by decide +kernel
theorem dJ7_fill_d0a16_4 : decode cJ7_fill_d0a16 4 = .ok (.istore 4, 2) := by decide +kernel
theorem dJ7_fill_d0a16_6 : decode cJ7_fill_d0a16 6 = .ok (.iload_n 3, 1) := by decide +kernel
theorem dJ7_fill_d0a16_7 : decode cJ7_fill_d0a16 7 = .ok (.iload 4, 2) := by decide +kernel
theorem dJ7_fill_d0a16_9 : decode cJ7_fill_d0a16 9 = .ok (.if_icmp .ge 13, 3) := by decide +kernel
theorem dJ7_fill_d0a16_12 : decode cJ7_fill_d0a16 12 = .ok (.aload_n 0, 1) := by decide +kernel
theorem dJ7_fill_d0a16_13 : decode cJ7_fill_d0a16 13 = .ok (.iload_n 3, 1) := by decide +kernel
theorem dJ7_fill_d0a16_14 : decode cJ7_fill_d0a16 14 = .ok (.lload_n 1, 1) := by decide +kernel
theorem dJ7_fill_d0a16_15 : decode cJ7_fill_d0a16 15 = .ok (.lastore, 1) := by decide +kernel
theorem dJ7_fill_d0a16_16 : decode cJ7_fill_d0a16 16 = .ok (.iinc 3 1, 3) := by decide +kernel
theorem dJ7_fill_d0a16_19 : decode cJ7_fill_d0a16 19 = .ok (.goto (-13), 3) := by decide +kernel
theorem dJ7_fill_d0a16_22 : decode cJ7_fill_d0a16 22 = .ok (.return_, 1) := by decide +kernel
theorem dX6_forget_10 : decode cX6_forget 10 = .ok (.return_, 1) := by decide +kernel
theorem dX6_findShortest_0 : decode cX6_findShortest 0 = .ok (.aload_n 0, 1) := by decide +kernel
theorem dX6_findShortest_1 : decode cX6_findShortest 1 = .ok (.getfield 12, 3) := by decide +kernel
theorem dX6_findShortest_4 : decode cX6_findShortest 4 = .ok (.aload_n 1, 1) := by decide +kernel
theorem dX6_findShortest_5 : decode cX6_findShortest 5 = .ok (.invokevirtual 50, 3) := by decide +kernel
theorem dX6_findShortest_8 : decode cX6_findShortest 8 = .ok (.iconst 0, 1) := by decide +kernel
theorem dX6_findShortest_9 : decode cX6_findShortest 9 = .ok (.istore 4, 2) := by decide +kernel
theorem dX6_findShortest_11 : decode cX6_findShortest 11 = .ok (.iload 4, 2) := by decide +kernel
theorem dX6_findShortest_13 : decode cX6_findShortest 13 = .ok (.aload_n 1, 1) := by decide +kernel
theorem dX6_findShortest_14 : decode cX6_findShortest 14 = .ok (.getfield 54, 3) := by decide +kernel
theorem dX6_findShortest_17 : decode cX6_findShortest 17 = .ok (.if_icmp .ge 61, 3) := by decide +kernel
theorem dX6_findShortest_78 : decode cX6_findShortest 78 = .ok (.aload_n 0, 1) := by decide +kernel
theorem dX6_findShortest_79 : decode cX6_findShortest 79 = .ok (.ldc2_w 61, 3) := by decide +kernel
theorem dX6_findShortest_82 : decode cX6_findShortest 82 = .ok (.putfield 26, 3) := by decide +kernel
theorem dX6_findShortest_85 : decode cX6_findShortest 85 = .ok (.aload_n 0, 1) := by decide +kernel
theorem dX6_findShortest_86 : decode cX6_findShortest 86 = .ok (.getfield 12, 3) := by decide +kernel
theorem dX6_findShortest_89 : decode cX6_findShortest 89 = .ok (.getfield 63, 3) := by decide +kernel
theorem dX6_findShortest_92 : decode cX6_findShortest 92 = .ok (.aload_n 0, 1) := by decide +kernel
theorem dX6_findShortest_93 : decode cX6_findShortest 93 = .ok (.getfield 12, 3) := by decide +kernel
theorem dX6_findShortest_96 : decode cX6_findShortest 96 = .ok (.getfield 66, 3) := by decide +kernel
theorem dX6_findShortest_99 : decode cX6_findShortest 99 = .ok (.iaload, 1) := by decide +kernel
theorem dX6_findShortest_100 : decode cX6_findShortest 100 = .ok (.istore 4, 2) := by decide +kernel
theorem dX6_findShortest_102 : decode cX6_findShortest 102 = .ok (.iload 4, 2) := by decide +kernel
theorem dX6_findShortest_104 : decode cX6_findShortest 104 = .ok (.iconst 1, 1) := by decide +kernel
theorem dX6_findShortest_105 : decode cX6_findShortest 105 = .ok (.isub, 1) := by decide +kernel
theorem dX6_findShortest_106 : decode cX6_findShortest 106 = .ok (.iconst 2, 1) := by decide +kernel
theorem dX6_findShortest_107 : decode cX6_findShortest 107 = .ok (.idiv, 1) := by decide +kernel
theorem dX6_findShortest_108 : decode cX6_findShortest 108 = .ok (.istore 5, 2) := by decide +kernel
theorem dX6_findShortest_110 : decode cX6_findShortest 110 = .ok (.aload_n 0, 1) := by decide +kernel
theorem dX6_findShortest_111 : decode cX6_findShortest 111 = .ok (.getfield 12, 3) := by decide +kernel
theorem dX6_findShortest_114 : decode cX6_findShortest 114 = .ok (.invokevirtual 69, 3) := by decide +kernel
theorem dX6_findShortest_117 : decode cX6_findShortest 117 = .ok (.iconst 1, 1) := by decide +kernel
theorem dX6_findShortest_118 : decode cX6_findShortest 118 = .ok (.isub, 1) := by decide +kernel
theorem dX6_findShortest_119 : decode cX6_findShortest 119 = .ok (.iconst 2, 1) := by decide +kernel
theorem dX6_findShortest_120 : decode cX6_findShortest 120 = .ok (.idiv, 1) := by decide +kernel
theorem dX6_findShortest_121 : decode cX6_findShortest 121 = .ok (.istore 6, 2) := by decide +kernel
theorem dX6_findShortest_123 : decode cX6_findShortest 123 = .ok (.aload_n 0, 1) := by decide +kernel
theorem dX6_findShortest_124 : decode cX6_findShortest 124 = .ok (.getfield 12, 3) := by decide +kernel
theorem dX6_findShortest_127 : decode cX6_findShortest 127 = .ok (.invokevirtual 73, 3) := by decide +kernel
theorem dX6_findShortest_130 : decode cX6_findShortest 130 = .ok (.iconst 0, 1) := by decide +kernel
theorem dX6_findShortest_131 : decode cX6_findShortest 131 = .ok (.istore 7, 2) := by decide +kernel
theorem dX6_findShortest_133 : decode cX6_findShortest 133 = .ok (.iload 7, 2) := by decide +kernel
theorem dX6_findShortest_135 : decode cX6_findShortest 135 = .ok (.iload 6, 2) := by decide +kernel
theorem dX6_findShortest_137 : decode cX6_findShortest 137 = .ok (.if_icmp .ge 22, 3) := by decide +kernel
theorem dX6_findShortest_159 : decode cX6_findShortest 159 = .ok (.iload 5, 2) := by decide +kernel
theorem dX6_findShortest_161 : decode cX6_findShortest 161 = .ok (.ifCond .le 9, 3) := by decide +kernel
theorem dX6_findShortest_170 : decode cX6_findShortest 170 = .ok (.return_, 1) := by decide +kernel
theorem dX6_findShortest_164 : decode cX6_findShortest 164 = .ok (.aload_n 0, 1) := by decide +kernel
theorem dX6_findShortest_165 : decode cX6_findShortest 165 = .ok (.iload 5, 2) := by decide +kernel
theorem dX6_findShortest_167 : decode cX6_findShortest 167 = .ok (.invokevirtual 76, 3) := by decide +kernel
theorem dX6_lookAtLine_0 : decode cX6_lookAtLine 0 = .ok (.aload_n 0, 1) := by decide +kernel
theorem dX6_lookAtLine_1 : decode cX6_lookAtLine 1 = .ok (.getfield 12, 3) := by decide +kernel
theorem dX6_lookAtLine_4 : decode cX6_lookAtLine 4 = .ok (.iload_n 1, 1) := by decide +kernel
theorem dX6_lookAtLine_5 : decode cX6_lookAtLine 5 = .ok (.invokevirtual 83, 3) := by decide +kernel
theorem dX6_lookAtLine_8 : decode cX6_lookAtLine 8 = .ok (.istore_n 2, 1) := by decide +kernel
theorem dX6_lookAtLine_9 : decode cX6_lookAtLine 9 = .ok (.aload_n 0, 1) := by decide +kernel
theorem dX6_lookAtLine_10 : decode cX6_lookAtLine 10 = .ok (.getfield 12, 3) := by decide +kernel
theorem dX6_lookAtLine_13 : decode cX6_lookAtLine 13 = .ok (.iload_n 2, 1) := by decide +kernel
theorem dX6_lookAtLine_14 : decode cX6_lookAtLine 14 = .ok (.invokevirtual 87, 3) := by decide +kernel
theorem dX6_lookAtLine_17 : decode cX6_lookAtLine 17 = .ok (.lstore_n 3, 1) := by decide +kernel
theorem dX6_lookAtLine_18 : decode cX6_lookAtLine 18 = .ok (.lload_n 3, 1) := by decide +kernel
theorem dX6_lookAtLine_19 : decode cX6_lookAtLine 19 = .ok (.aload_n 0, 1) := by decide +kernel
theorem dX6_lookAtLine_20 : decode cX6_lookAtLine 20 = .ok (.getfield 26, 3) := by decide +kernel
theorem dX6_lookAtLine_23 : decode cX6_lookAtLine 23 = .ok (.lcmp, 1) := by decide +kernel
theorem dX6_lookAtLine_24 : decode cX6_lookAtLine 24 = .ok (.ifCond .ge 86, 3) := by decide +kernel
theorem dX6_lookAtLine_110 : decode cX6_lookAtLine 110 = .ok (.return_, 1) := by decide +kernel
theorem dX6_lookAtLine_27 : decode cX6_lookAtLine 27 = .ok (.aload_n 0, 1) := by decide +kernel
theorem dX6_lookAtLine_28 : decode cX6_lookAtLine 28 = .ok (.lload_n 3, 1) := by decide +kernel
theorem dX6_lookAtLine_29 : decode cX6_lookAtLine 29 = .ok (.putfield 26, 3) := by decide +kernel
theorem dX6_lookAtLine_32 : decode cX6_lookAtLine 32 = .ok (.iconst 0, 1) := by decide +kernel
theorem dX6_lookAtLine_33 : decode cX6_lookAtLine 33 = .ok (.istore 5, 2) := by decide +kernel
theorem dX6_lookAtLine_35 : decode cX6_lookAtLine 35 = .ok (.iload 5, 2) := by decide +kernel
theorem dX6_lookAtLine_37 : decode cX6_lookAtLine 37 = .ok (.aload_n 0, 1) := by decide +kernel
theorem dX6_lookAtLine_38 : decode cX6_lookAtLine 38 = .ok (.getfield 12, 3) := by decide +kernel
theorem dX6_lookAtLine_41 : decode cX6_lookAtLine 41 = .ok (.getfield 66, 3) := by decide +kernel
theorem dX6_lookAtLine_44 : decode cX6_lookAtLine 44 = .ok (.if_icmp .ge 37, 3) := by decide +kernel
theorem dX6_lookAtLine_81 : decode cX6_lookAtLine 81 = .ok (.aload_n 0, 1) := by decide +kernel
theorem dX6_lookAtLine_82 : decode cX6_lookAtLine 82 = .ok (.getfield 18, 3) := by decide +kernel
theorem dX6_lookAtLine_85 : decode cX6_lookAtLine 85 = .ok (.aload_n 0, 1) := by decide +kernel
theorem dX6_lookAtLine_86 : decode cX6_lookAtLine 86 = .ok (.getfield 12, 3) := by decide +kernel
theorem dX6_lookAtLine_89 : decode cX6_lookAtLine 89 = .ok (.getfield 66, 3) := by decide +kernel
theorem dX6_lookAtLine_92 : decode cX6_lookAtLine 92 = .ok (.aload_n 0, 1) := by decide +kernel
theorem dX6_lookAtLine_93 : decode cX6_lookAtLine 93 = .ok (.getfield 12, 3) := by decide +kernel
theorem dX6_lookAtLine_96 : decode cX6_lookAtLine 96 = .ok (.getfield 91, 3) := by decide +kernel
theorem dX6_lookAtLine_99 : decode cX6_lookAtLine 99 = .ok (.aload_n 0, 1) := by decide +kernel
theorem dX6_lookAtLine_100 : decode cX6_lookAtLine 100 = .ok (.getfield 12, 3) := by decide +kernel
theorem dX6_lookAtLine_103 : decode cX6_lookAtLine 103 = .ok (.getfield 66, 3) := by decide +kernel
theorem dX6_lookAtLine_106 : decode cX6_lookAtLine 106 = .ok (.iaload, 1) := by decide +kernel
theorem dX6_lookAtLine_107 : decode cX6_lookAtLine 107 = .ok (.iload_n 2, 1) := by decide +kernel
theorem dX6_lookAtLine_108 : decode cX6_lookAtLine 108 = .ok (.iadd, 1) := by decide +kernel
theorem dX6_lookAtLine_109 : decode cX6_lookAtLine 109 = .ok (.iastore, 1) := by decide +kernel
theorem dX6_lookAtLine_47 : decode cX6_lookAtLine 47 = .ok (.aload_n 0, 1) := by decide +kernel
theorem dX6_lookAtLine_48 : decode cX6_lookAtLine 48 = .ok (.getfield 18, 3) := by decide +kernel
theorem dX6_lookAtLine_51 : decode cX6_lookAtLine 51 = .ok (.iload 5, 2) := by decide +kernel
theorem dX6_lookAtLine_53 : decode cX6_lookAtLine 53 = .ok (.aload_n 0, 1) := by decide +kernel
theorem dX6_lookAtLine_54 : decode cX6_lookAtLine 54 = .ok (.getfield 12, 3) := by decide +kernel
theorem dX6_lookAtLine_57 : decode cX6_lookAtLine 57 = .ok (.getfield 91, 3) := by decide +kernel
theorem dX6_lookAtLine_60 : decode cX6_lookAtLine 60 = .ok (.iload 5, 2) := by decide +kernel
theorem dX6_lookAtLine_62 : decode cX6_lookAtLine 62 = .ok (.iaload, 1) := by decide +kernel
theorem dX6_lookAtLine_63 : decode cX6_lookAtLine 63 = .ok (.aload_n 0, 1) := by decide +kernel
theorem dX6_lookAtLine_64 : decode cX6_lookAtLine 64 = .ok (.getfield 12, 3) := by decide +kernel
theorem dX6_lookAtLine_67 : decode cX6_lookAtLine 67 = .ok (.getfield 94, 3) := by decide +kernel
theorem dX6_lookAtLine_70 : decode cX6_lookAtLine 70 = .ok (.iload 5, 2) := by decide +kernel
theorem dX6_lookAtLine_72 : decode cX6_lookAtLine 72 = .ok (.iaload, 1) := by decide +kernel
theorem dX6_lookAtLine_73 : decode cX6_lookAtLine 73 = .ok (.iadd, 1) := by decide +kernel
theorem dX6_lookAtLine_74 : decode cX6_lookAtLine 74 = .ok (.iastore, 1) := by decide +kernel
theorem dX6_lookAtLine_75 : decode cX6_lookAtLine 75 = .ok (.iinc 5 1, 3) := by decide +kernel
theorem dX6_lookAtLine_78 : decode cX6_lookAtLine 78 = .ok (.goto (-43), 3) := by decide +kernel
theorem dX6_findShortest_140 : decode cX6_findShortest 140 = .ok (.aload_n 0, 1) := by decide +kernel
theorem dX6_findShortest_141 : decode cX6_findShortest 141 = .ok (.iload 4, 2) := by decide +kernel
theorem dX6_findShortest_143 : decode cX6_findShortest 143 = .ok (.invokevirtual 76, 3) := by decide +kernel
theorem dX6_findShortest_146 : decode cX6_findShortest 146 = .ok (.aload_n 0, 1) := by decide +kernel
theorem dX6_findShortest_147 : decode cX6_findShortest 147 = .ok (.getfield 12, 3) := by decide +kernel
theorem dX6_findShortest_150 : decode cX6_findShortest 150 = .ok (.invokevirtual 80, 3) := by decide +kernel
theorem dX6_findShortest_153 : decode cX6_findShortest 153 = .ok (.iinc 7 1, 3) := by decide +kernel
