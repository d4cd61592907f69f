theorem dX7_findTurns_39 : decode cX7_findTurns 39 = .ok (.isub, 1) := by decide +kernel
theorem dX7_findTurns_40 : decode cX7_findTurns 40 = .ok (.iaload, 1) := by decide +kernel
theorem dX7_findTurns_41 : decode cX7_findTurns 41 = .ok (.aload_n 0, 1) := by decide +kernel
theorem dX7_findTurns_42 : decode cX7_findTurns 42 = .ok (.getfield 32, 3) := by decide +kernel
theorem dX7_findTurns_45 : decode cX7_findTurns 45 = .ok (.iload 4, 2) := by decide +kernel
theorem dX7_findTurns_47 : decode cX7_findTurns 47 = .ok (.iconst 1, 1) := by decide +kernel
theorem dX7_findTurns_48 : decode cX7_findTurns 48 = .ok (.isub, 1) := by decide +kernel
theorem dX7_findTurns_49 : decode cX7_findTurns 49 = .ok (.iaload, 1) := by decide +kernel
theorem dX7_findTurns_50 : decode cX7_findTurns 50 = .ok (.invokevirtual 156, 3) := by decide +kernel
theorem dX7_findTurns_53 : decode cX7_findTurns 53 = .ok (.iload_n 3, 1) := by decide +kernel
theorem dX7_findTurns_54 : decode cX7_findTurns 54 = .ok (.if_icmp .ge 25, 3) := by decide +kernel
theorem dX7_findTurns_57 : decode cX7_findTurns 57 = .ok (.aload_n 0, 1) := by decide +kernel
theorem dX7_findTurns_58 : decode cX7_findTurns 58 = .ok (.getfield 32, 3) := by decide +kernel
theorem dX7_findTurns_61 : decode cX7_findTurns 61 = .ok (.iload 4, 2) := by decide +kernel
theorem dX7_findTurns_63 : decode cX7_findTurns 63 = .ok (.aload_n 0, 1) := by decide +kernel
theorem dX7_findTurns_64 : decode cX7_findTurns 64 = .ok (.getfield 32, 3) := by decide +kernel
theorem dX7_findTurns_67 : decode cX7_findTurns 67 = .ok (.iload 4, 2) := by decide +kernel
theorem dX7_findTurns_69 : decode cX7_findTurns 69 = .ok (.iconst 1, 1) := by decide +kernel
theorem dX7_findTurns_70 : decode cX7_findTurns 70 = .ok (.isub, 1) := by decide +kernel
theorem dX7_findTurns_71 : decode cX7_findTurns 71 = .ok (.iaload, 1) := by decide +kernel
theorem dX7_findTurns_72 : decode cX7_findTurns 72 = .ok (.iastore, 1) := by decide +kernel
theorem dX7_findTurns_73 : decode cX7_findTurns 73 = .ok (.iinc 4 (-1), 3) := by decide +kernel
theorem dX7_findTurns_76 : decode cX7_findTurns 76 = .ok (.goto (-53), 3) := by decide +kernel
theorem dX7_cancelAll_5 : decode cX7_cancelAll 5 = .ok (.aload_n 2, 1) := by decide +kernel
theorem dX7_cancelAll_6 : decode cX7_cancelAll 6 = .ok (.iconst 0, 1) := by decide +kernel
theorem dX7_cancelAll_7 : decode cX7_cancelAll 7 = .ok (.aload_n 0, 1) := by decide +kernel
theorem dX7_cancelAll_8 : decode cX7_cancelAll 8 = .ok (.getfield 38, 3) := by decide +kernel
theorem dX7_cancelAll_11 : decode cX7_cancelAll 11 = .ok (.iconst 0, 1) := by decide +kernel
theorem dX7_cancelAll_12 : decode cX7_cancelAll 12 = .ok (.bipush 6, 2) := by decide +kernel
theorem dX7_cancelAll_14 : decode cX7_cancelAll 14 = .ok (.invokestatic 133, 3) := by decide +kernel
theorem dX7_cancelAll_17 : decode cX7_cancelAll 17 = .ok (.iconst 0, 1) := by decide +kernel
theorem dX7_cancelAll_18 : decode cX7_cancelAll 18 = .ok (.istore_n 3, 1) := by decide +kernel
theorem dX7_cancelAll_19 : decode cX7_cancelAll 19 = .ok (.iload_n 3, 1) := by decide +kernel
theorem dX7_cancelAll_20 : decode cX7_cancelAll 20 = .ok (.aload_n 1, 1) := by decide +kernel
theorem dX7_cancelAll_21 : decode cX7_cancelAll 21 = .ok (.getfield 73, 3) := by decide +kernel
theorem dX7_cancelAll_24 : decode cX7_cancelAll 24 = .ok (.if_icmp .ge 78, 3) := by decide +kernel
theorem dX7_cancelAll_102 : decode cX7_cancelAll 102 = .ok (.return_, 1) := by decide +kernel
theorem dX7_cancelAll_27 : decode cX7_cancelAll 27 = .ok (.aload_n 0, 1) := by decide +kernel
theorem dX7_cancelAll_28 : decode cX7_cancelAll 28 = .ok (.getfield 32, 3) := by decide +kernel
theorem dX7_cancelAll_31 : decode cX7_cancelAll 31 = .ok (.iload_n 3, 1) := by decide +kernel
theorem dX7_cancelAll_32 : decode cX7_cancelAll 32 = .ok (.iaload, 1) := by decide +kernel
theorem dX7_cancelAll_33 : decode cX7_cancelAll 33 = .ok (.istore 4, 2) := by decide +kernel
theorem dX7_cancelAll_35 : decode cX7_cancelAll 35 = .ok (.aload_n 0, 1) := by decide +kernel
theorem dX7_cancelAll_36 : decode cX7_cancelAll 36 = .ok (.getfield 35, 3) := by decide +kernel
theorem dX7_cancelAll_39 : decode cX7_cancelAll 39 = .ok (.iload 4, 2) := by decide +kernel
theorem dX7_cancelAll_41 : decode cX7_cancelAll 41 = .ok (.aload_n 0, 1) := by decide +kernel
theorem dX7_cancelAll_42 : decode cX7_cancelAll 42 = .ok (.aload_n 1, 1) := by decide +kernel
theorem dX7_cancelAll_43 : decode cX7_cancelAll 43 = .ok (.iload 4, 2) := by decide +kernel
theorem dX7_cancelAll_45 : decode cX7_cancelAll 45 = .ok (.invokevirtual 139, 3) := by decide +kernel
theorem dX7_bestLetter_0 : decode cX7_bestLetter 0 = .ok (.iconst 0, 1) := by decide +kernel
theorem dX7_bestLetter_1 : decode cX7_bestLetter 1 = .ok (.istore_n 3, 1) := by decide +kernel
theorem dX7_bestLetter_2 : decode cX7_bestLetter 2 = .ok (.ldc2_w 76, 3) := by decide +kernel
theorem dX7_bestLetter_5 : decode cX7_bestLetter 5 = .ok (.lstore 4, 2) := by decide +kernel
theorem dX7_bestLetter_7 : decode cX7_bestLetter 7 = .ok (.iconst 0, 1) := by decide +kernel
theorem dX7_bestLetter_8 : decode cX7_bestLetter 8 = .ok (.istore 6, 2) := by decide +kernel
theorem dX7_bestLetter_10 : decode cX7_bestLetter 10 = .ok (.iload 6, 2) := by decide +kernel
theorem dX7_bestLetter_12 : decode cX7_bestLetter 12 = .ok (.aload_n 1, 1) := by decide +kernel
theorem dX7_bestLetter_13 : decode cX7_bestLetter 13 = .ok (.getfield 61, 3) := by decide +kernel
theorem dX7_bestLetter_16 : decode cX7_bestLetter 16 = .ok (.if_icmp .ge 42, 3) := by decide +kernel
theorem dX7_bestLetter_58 : decode cX7_bestLetter 58 = .ok (.iload_n 3, 1) := by decide +kernel
theorem dX7_bestLetter_59 : decode cX7_bestLetter 59 = .ok (.ireturn, 1) := by decide +kernel
theorem dX7_bestLetter_19 : decode cX7_bestLetter 19 = .ok (.aload_n 1, 1) := by decide +kernel
theorem dX7_bestLetter_20 : decode cX7_bestLetter 20 = .ok (.iload 6, 2) := by decide +kernel
theorem dX7_bestLetter_22 : decode cX7_bestLetter 22 = .ok (.invokevirtual 159, 3) := by decide +kernel
theorem dX7_bestLetter_25 : decode cX7_bestLetter 25 = .ok (.istore 7, 2) := by decide +kernel
theorem dX7_bestLetter_27 : decode cX7_bestLetter 27 = .ok (.aload_n 0, 1) := by decide +kernel
theorem dX7_bestLetter_28 : decode cX7_bestLetter 28 = .ok (.aload_n 1, 1) := by decide +kernel
theorem dX7_bestLetter_29 : decode cX7_bestLetter 29 = .ok (.iload_n 2, 1) := by decide +kernel
theorem dX7_bestLetter_30 : decode cX7_bestLetter 30 = .ok (.iload 7, 2) := by decide +kernel
theorem dX7_bestLetter_32 : decode cX7_bestLetter 32 = .ok (.invokevirtual 163, 3) := by decide +kernel
theorem dX7_squaresWith_0 : decode cX7_squaresWith 0 = .ok (.lconst 0, 1) := by decide +kernel
theorem dX7_squaresWith_1 : decode cX7_squaresWith 1 = .ok (.lstore 4, 2) := by decide +kernel
theorem dX7_squaresWith_3 : decode cX7_squaresWith 3 = .ok (.iconst 0, 1) := by decide +kernel
theorem dX7_squaresWith_4 : decode cX7_squaresWith 4 = .ok (.istore 6, 2) := by decide +kernel
theorem dX7_squaresWith_6 : decode cX7_squaresWith 6 = .ok (.iload 6, 2) := by decide +kernel
theorem dX7_squaresWith_8 : decode cX7_squaresWith 8 = .ok (.aload_n 1, 1) := by decide +kernel
theorem dX7_squaresWith_9 : decode cX7_squaresWith 9 = .ok (.getfield 143, 3) := by decide +kernel
theorem dX7_squaresWith_12 : decode cX7_squaresWith 12 = .ok (.if_icmp .ge 42, 3) := by decide +kernel
theorem dX7_squaresWith_54 : decode cX7_squaresWith 54 = .ok (.lload 4, 2) := by decide +kernel
theorem dX7_squaresWith_56 : decode cX7_squaresWith 56 = .ok (.lreturn, 1) := by decide +kernel
theorem dX7_squaresWith_15 : decode cX7_squaresWith 15 = .ok (.aload_n 0, 1) := by decide +kernel
theorem dX7_squaresWith_16 : decode cX7_squaresWith 16 = .ok (.getfield 38, 3) := by decide +kernel
theorem dX7_squaresWith_19 : decode cX7_squaresWith 19 = .ok (.iload 6, 2) := by decide +kernel
theorem dX7_squaresWith_21 : decode cX7_squaresWith 21 = .ok (.iaload, 1) := by decide +kernel
theorem dX7_squaresWith_22 : decode cX7_squaresWith 22 = .ok (.aload_n 1, 1) := by decide +kernel
theorem dX7_squaresWith_23 : decode cX7_squaresWith 23 = .ok (.getfield 146, 3) := by decide +kernel
theorem dX7_squaresWith_26 : decode cX7_squaresWith 26 = .ok (.iload 6, 2) := by decide +kernel
theorem dX7_squaresWith_28 : decode cX7_squaresWith 28 = .ok (.iload_n 2, 1) := by decide +kernel
theorem dX7_squaresWith_29 : decode cX7_squaresWith 29 = .ok (.invokevirtual 150, 3) := by decide +kernel
theorem dX7_squaresWith_32 : decode cX7_squaresWith 32 = .ok (.iload_n 3, 1) := by decide +kernel
theorem dX7_squaresWith_33 : decode cX7_squaresWith 33 = .ok (.imul, 1) := by decide +kernel
theorem dX7_squaresWith_34 : decode cX7_squaresWith 34 = .ok (.isub, 1) := by decide +kernel
theorem dX7_squaresWith_35 : decode cX7_squaresWith 35 = .ok (.i2l, 1) := by decide +kernel
theorem dX7_squaresWith_36 : decode cX7_squaresWith 36 = .ok (.lstore 7, 2) := by decide +kernel
theorem dX7_squaresWith_38 : decode cX7_squaresWith 38 = .ok (.lload 4, 2) := by decide +kernel
theorem dX7_squaresWith_40 : decode cX7_squaresWith 40 = .ok (.lload 7, 2) := by decide +kernel
theorem dX7_squaresWith_42 : decode cX7_squaresWith 42 = .ok (.lload 7, 2) := by decide +kernel
theorem dX7_squaresWith_44 : decode cX7_squaresWith 44 = .ok (.lmul, 1) := by decide +kernel
theorem dX7_squaresWith_45 : decode cX7_squaresWith 45 = .ok (.ladd, 1) := by decide +kernel
theorem dX7_squaresWith_46 : decode cX7_squaresWith 46 = .ok (.lstore 4, 2) := by decide +kernel
theorem dX7_squaresWith_48 : decode cX7_squaresWith 48 = .ok (.iinc 6 1, 3) := by decide +kernel
theorem dX7_squaresWith_51 : decode cX7_squaresWith 51 = .ok (.goto (-45), 3) := by decide +kernel
theorem dX7_bestLetter_35 : decode cX7_bestLetter 35 = .ok (.lstore 8, 2) := by decide +kernel
theorem dX7_bestLetter_37 : decode cX7_bestLetter 37 = .ok (.lload 8, 2) := by decide +kernel
theorem dX7_bestLetter_39 : decode cX7_bestLetter 39 = .ok (.lload 4, 2) := by decide +kernel
theorem dX7_bestLetter_41 : decode cX7_bestLetter 41 = .ok (.lcmp, 1) := by decide +kernel
theorem dX7_bestLetter_42 : decode cX7_bestLetter 42 = .ok (.ifCond .ge 10, 3) := by decide +kernel
theorem dX7_bestLetter_52 : decode cX7_bestLetter 52 = .ok (.iinc 6 1, 3) := by decide +kernel
theorem dX7_bestLetter_55 : decode cX7_bestLetter 55 = .ok (.goto (-45), 3) := by decide +kernel
theorem dX7_bestLetter_45 : decode cX7_bestLetter 45 = .ok (.lload 8, 2) := by decide +kernel
theorem dX7_bestLetter_47 : decode cX7_bestLetter 47 = .ok (.lstore 4, 2) := by decide +kernel
theorem dX7_bestLetter_49 : decode cX7_bestLetter 49 = .ok (.iload 7, 2) := by decide +kernel
theorem dX7_bestLetter_51 : decode cX7_bestLetter 51 = .ok (.istore_n 3, 1) := by decide +kernel
theorem dX7_cancelAll_48 : decode cX7_cancelAll 48 = .ok (.iastore, 1) := by decide +kernel
theorem dX7_cancelAll_49 : decode cX7_cancelAll 49 = .ok (.iconst 0, 1) := by decide +kernel
theorem dX7_cancelAll_50 : decode cX7_cancelAll 50 = .ok (.istore 5, 2) := by decide +kernel
theorem dX7_cancelAll_52 : decode cX7_cancelAll 52 = .ok (.iload 5, 2) := by decide +kernel
theorem dX7_cancelAll_54 : decode cX7_cancelAll 54 = .ok (.aload_n 1, 1) := by decide +kernel
theorem dX7_cancelAll_55 : decode cX7_cancelAll 55 = .ok (.getfield 143, 3) := by decide +kernel
theorem dX7_cancelAll_58 : decode cX7_cancelAll 58 = .ok (.if_icmp .ge 38, 3) := by decide +kernel
theorem dX7_cancelAll_96 : decode cX7_cancelAll 96 = .ok (.iinc 3 1, 3) := by decide +kernel
theorem dX7_cancelAll_99 : decode cX7_cancelAll 99 = .ok (.goto (-80), 3) := by decide +kernel
theorem dX7_cancelAll_61 : decode cX7_cancelAll 61 = .ok (.aload_n 0, 1) := by decide +kernel
theorem dX7_cancelAll_62 : decode cX7_cancelAll 62 = .ok (.getfield 38, 3) := by decide +kernel
theorem dX7_cancelAll_65 : decode cX7_cancelAll 65 = .ok (.iload 5, 2) := by decide +kernel
theorem dX7_cancelAll_67 : decode cX7_cancelAll 67 = .ok (.dup2, 1) := by decide +kernel
theorem dX7_cancelAll_68 : decode cX7_cancelAll 68 = .ok (.iaload, 1) := by decide +kernel
theorem dX7_cancelAll_69 : decode cX7_cancelAll 69 = .ok (.aload_n 1, 1) := by decide +kernel
theorem dX7_cancelAll_70 : decode cX7_cancelAll 70 = .ok (.getfield 146, 3) := by decide +kernel
theorem dX7_cancelAll_73 : decode cX7_cancelAll 73 = .ok (.iload 5, 2) := by decide +kernel
theorem dX7_cancelAll_75 : decode cX7_cancelAll 75 = .ok (.iload 4, 2) := by decide +kernel
theorem dX7_cancelAll_77 : decode cX7_cancelAll 77 = .ok (.invokevirtual 150, 3) := by decide +kernel
theorem dX7_cancelAll_80 : decode cX7_cancelAll 80 = .ok (.aload_n 0, 1) := by decide +kernel
theorem dX7_cancelAll_81 : decode cX7_cancelAll 81 = .ok (.getfield 35, 3) := by decide +kernel
theorem dX7_cancelAll_84 : decode cX7_cancelAll 84 = .ok (.iload 4, 2) := by decide +kernel
theorem dX7_cancelAll_86 : decode cX7_cancelAll 86 = .ok (.iaload, 1) := by decide +kernel
theorem dX7_cancelAll_87 : decode cX7_cancelAll 87 = .ok (.imul, 1) := by decide +kernel
theorem dX7_cancelAll_88 : decode cX7_cancelAll 88 = .ok (.isub, 1) := by decide +kernel
theorem dX7_cancelAll_89 : decode cX7_cancelAll 89 = .ok (.iastore, 1) := by decide +kernel
theorem dX7_cancelAll_90 : decode cX7_cancelAll 90 = .ok (.iinc 5 1, 3) := by decide +kernel
theorem dX7_cancelAll_93 : decode cX7_cancelAll 93 = .ok (.goto (-41), 3) := by decide +kernel
theorem dX7_leastWith_0 : decode cX7_leastWith 0 = .ok (.aload_n 0, 1) := by decide +kernel
theorem dX7_leastWith_1 : decode cX7_leastWith 1 = .ok (.getfield 26, 3) := by decide +kernel
theorem dX7_leastWith_4 : decode cX7_leastWith 4 = .ok (.iload_n 1, 1) := by decide +kernel
theorem dX7_leastWith_5 : decode cX7_leastWith 5 = .ok (.bipush 8, 2) := by decide +kernel
theorem dX7_leastWith_7 : decode cX7_leastWith 7 = .ok (.imul, 1) := by decide +kernel
theorem dX7_leastWith_8 : decode cX7_leastWith 8 = .ok (.iload_n 2, 1) := by decide +kernel
theorem dX7_leastWith_9 : decode cX7_leastWith 9 = .ok (.iadd, 1) := by decide +kernel
theorem dX7_leastWith_10 : decode cX7_leastWith 10 = .ok (.laload, 1) := by decide +kernel
theorem dX7_leastWith_11 : decode cX7_leastWith 11 = .ok (.lreturn, 1) := by decide +kernel
theorem dX7_shareOf_0 : decode cX7_shareOf 0 = .ok (.aload_n 0, 1) := by decide +kernel
theorem dX7_shareOf_1 : decode cX7_shareOf 1 = .ok (.getfield 45, 3) := by decide +kernel
theorem dX7_shareOf_4 : decode cX7_shareOf 4 = .ok (.lconst 0, 1) := by decide +kernel
theorem dX7_shareOf_5 : decode cX7_shareOf 5 = .ok (.lcmp, 1) := by decide +kernel
theorem dX7_shareOf_6 : decode cX7_shareOf 6 = .ok (.ifCond .gt 5, 3) := by decide +kernel
theorem dX7_shareOf_11 : decode cX7_shareOf 11 = .ok (.ldc2_w 128, 3) := by decide +kernel
theorem dX7_shareOf_14 : decode cX7_shareOf 14 = .ok (.aload_n 0, 1) := by decide +kernel
theorem dX7_shareOf_15 : decode cX7_shareOf 15 = .ok (.getfield 29, 3) := by decide +kernel
theorem dX7_shareOf_18 : decode cX7_shareOf 18 = .ok (.iload_n 1, 1) := by decide +kernel
theorem dX7_shareOf_19 : decode cX7_shareOf 19 = .ok (.bipush 8, 2) := by decide +kernel
theorem dX7_shareOf_21 : decode cX7_shareOf 21 = .ok (.imul, 1) := by decide +kernel
theorem dX7_shareOf_22 : decode cX7_shareOf 22 = .ok (.iload_n 2, 1) := by decide +kernel
theorem dX7_shareOf_23 : decode cX7_shareOf 23 = .ok (.iadd, 1) := by decide +kernel
theorem dX7_shareOf_24 : decode cX7_shareOf 24 = .ok (.laload, 1) := by decide +kernel
theorem dX7_shareOf_25 : decode cX7_shareOf 25 = .ok (.lmul, 1) := by decide +kernel
theorem dX7_shareOf_26 : decode cX7_shareOf 26 = .ok (.aload_n 0, 1) := by decide +kernel
theorem dX7_shareOf_27 : decode cX7_shareOf 27 = .ok (.getfield 45, 3) := by decide +kernel
theorem dX7_shareOf_30 : decode cX7_shareOf 30 = .ok (.ldiv, 1) := by decide +kernel
theorem dX7_shareOf_31 : decode cX7_shareOf 31 = .ok (.l2i, 1) := by decide +kernel
theorem dX7_shareOf_32 : decode cX7_shareOf 32 = .ok (.ireturn, 1) := by decide +kernel
theorem dX7_shareOf_9 : decode cX7_shareOf 9 = .ok (.iconst 0, 1) := by decide +kernel
theorem dX7_shareOf_10 : decode cX7_shareOf 10 = .ok (.ireturn, 1) := by decide +kernel
theorem dX7_leastWithout_0 : decode cX7_leastWithout 0 = .ok (.ldc2_w 76, 3) := by decide +kernel
theorem dX7_leastWithout_3 : decode cX7_leastWithout 3 = .ok (.lstore 4, 2) := by decide +kernel
theorem dX7_leastWithout_5 : decode cX7_leastWithout 5 = .ok (.iconst 0, 1) := by decide +kernel
theorem dX7_leastWithout_6 : decode cX7_leastWithout 6 = .ok (.istore 6, 2) := by decide +kernel
theorem dX7_leastWithout_8 : decode cX7_leastWithout 8 = .ok (.iload 6, 2) := by decide +kernel
theorem dX7_leastWithout_10 : decode cX7_leastWithout 10 = .ok (.iload_n 3, 1) := by decide +kernel
theorem dX7_leastWithout_11 : decode cX7_leastWithout 11 = .ok (.if_icmp .ge 29, 3) := by decide +kernel
theorem dX7_leastWithout_40 : decode cX7_leastWithout 40 = .ok (.lload 4, 2) := by decide +kernel
theorem dX7_leastWithout_42 : decode cX7_leastWithout 42 = .ok (.lreturn, 1) := by decide +kernel
theorem dX7_leastWithout_14 : decode cX7_leastWithout 14 = .ok (.iload 6, 2) := by decide +kernel
theorem dX7_leastWithout_16 : decode cX7_leastWithout 16 = .ok (.iload_n 2, 1) := by decide +kernel
theorem dX7_leastWithout_17 : decode cX7_leastWithout 17 = .ok (.if_icmp .eq 17, 3) := by decide +kernel
theorem dX7_leastWithout_34 : decode cX7_leastWithout 34 = .ok (.iinc 6 1, 3) := by decide +kernel
theorem dX7_leastWithout_37 : decode cX7_leastWithout 37 = .ok (.goto (-29), 3) := by decide +kernel
theorem dX7_leastWithout_20 : decode cX7_leastWithout 20 = .ok (.lload 4, 2) := by decide +kernel
theorem dX7_leastWithout_22 : decode cX7_leastWithout 22 = .ok (.aload_n 0, 1) := by decide +kernel
theorem dX7_leastWithout_23 : decode cX7_leastWithout 23 = .ok (.iload_n 1, 1) := by decide +kernel
theorem dX7_leastWithout_24 : decode cX7_leastWithout 24 = .ok (.iload 6, 2) := by decide +kernel
theorem dX7_leastWithout_26 : decode cX7_leastWithout 26 = .ok (.invokevirtual 124, 3) := by decide +kernel
theorem dX7_leastWithout_29 : decode cX7_leastWithout 29 = .ok (.invokestatic 115, 3) := by decide +kernel
theorem dX7_leastWithout_32 : decode cX7_leastWithout 32 = .ok (.lstore 4, 2) := by decide +kernel
theorem dX3_forget_0 : decode cX3_forget 0 = .ok (.aload_n 0, 1) := by decide +kernel
theorem dX3_forget_1 : decode cX3_forget 1 = .ok (.iconst 0, 1) := by decide +kernel
theorem dX3_forget_2 : decode cX3_forget 2 = .ok (.putfield 39, 3) := by decide +kernel
theorem dX3_forget_5 : decode cX3_forget 5 = .ok (.aload_n 0, 1) := by decide +kernel
theorem dX3_forget_6 : decode cX3_forget 6 = .ok (.ldc2_w 43, 3) := by decide +kernel
theorem dX3_forget_9 : decode cX3_forget 9 = .ok (.putfield 45, 3) := by decide +kernel
theorem dX3_forget_12 : decode cX3_forget 12 = .ok (.aload_n 0, 1) := by decide +kernel
theorem dX3_forget_13 : decode cX3_forget 13 = .ok (.ldc2_w 43, 3) := by decide +kernel
theorem dX3_forget_16 : decode cX3_forget 16 = .ok (.putfield 48, 3) := by decide +kernel
theorem dX3_forget_19 : decode cX3_forget 19 = .ok (.return_, 1) := by decide +kernel
theorem dX3_mostOfAll_0 : decode cX3_mostOfAll 0 = .ok (.aload_n 0, 1) := by decide +kernel
theorem dX3_mostOfAll_1 : decode cX3_mostOfAll 1 = .ok (.getfield 48, 3) := by decide +kernel
theorem dX3_mostOfAll_4 : decode cX3_mostOfAll 4 = .ok (.lconst 0, 1) := by decide +kernel
theorem dX3_mostOfAll_5 : decode cX3_mostOfAll 5 = .ok (.lcmp, 1) := by decide +kernel
theorem dX3_mostOfAll_6 : decode cX3_mostOfAll 6 = .ok (.ifCond .lt 8, 3) := by decide +kernel
theorem dX3_mostOfAll_14 : decode cX3_mostOfAll 14 = .ok (.aload_n 0, 1) := by decide +kernel
theorem dX3_mostOfAll_15 : decode cX3_mostOfAll 15 = .ok (.getfield 12, 3) := by decide +kernel
theorem dX3_mostOfAll_18 : decode cX3_mostOfAll 18 = .ok (.aload_n 1, 1) := by decide +kernel
theorem dX3_mostOfAll_19 : decode cX3_mostOfAll 19 = .ok (.invokevirtual 51, 3) := by decide +kernel
theorem dX3_mostOfAll_22 : decode cX3_mostOfAll 22 = .ok (.aload_n 0, 1) := by decide +kernel
theorem dX3_mostOfAll_23 : decode cX3_mostOfAll 23 = .ok (.aload_n 1, 1) := by decide +kernel
theorem dX3_mostOfAll_24 : decode cX3_mostOfAll 24 = .ok (.invokevirtual 143, 3) := by decide +kernel
theorem dX3_startTrying_0 : decode cX3_startTrying 0 = .ok (.aload_n 0, 1) := by decide +kernel
theorem dX3_startTrying_1 : decode cX3_startTrying 1 = .ok (.getfield 28, 3) := by decide +kernel
theorem dX3_startTrying_4 : decode cX3_startTrying 4 = .ok (.iconst 0, 1) := by decide +kernel
theorem dX3_startTrying_5 : decode cX3_startTrying 5 = .ok (.invokestatic 162, 3) := by decide +kernel
theorem dX3_startTrying_8 : decode cX3_startTrying 8 = .ok (.aload_n 0, 1) := by decide +kernel
theorem dX3_startTrying_9 : decode cX3_startTrying 9 = .ok (.getfield 31, 3) := by decide +kernel
theorem dX3_startTrying_12 : decode cX3_startTrying 12 = .ok (.lconst 0, 1) := by decide +kernel
theorem dX3_startTrying_13 : decode cX3_startTrying 13 = .ok (.invokestatic 168, 3) := by decide +kernel
theorem dX3_startTrying_16 : decode cX3_startTrying 16 = .ok (.aload_n 0, 1) := by decide +kernel
theorem dX3_startTrying_17 : decode cX3_startTrying 17 = .ok (.lconst 0, 1) := by decide +kernel
theorem dX3_startTrying_18 : decode cX3_startTrying 18 = .ok (.putfield 35, 3) := by decide +kernel
theorem dX3_startTrying_21 : decode cX3_startTrying 21 = .ok (.iconst 0, 1) := by decide +kernel
theorem dX3_startTrying_22 : decode cX3_startTrying 22 = .ok (.istore_n 2, 1) := by decide +kernel
theorem dX3_startTrying_23 : decode cX3_startTrying 23 = .ok (.iload_n 2, 1) := by decide +kernel
theorem dX3_startTrying_24 : decode cX3_startTrying 24 = .ok (.aload_n 1, 1) := by decide +kernel
theorem dX3_startTrying_25 : decode cX3_startTrying 25 = .ok (.getfield 79, 3) := by decide +kernel
theorem dX3_startTrying_28 : decode cX3_startTrying 28 = .ok (.if_icmp .ge 33, 3) := by decide +kernel
theorem dX3_startTrying_61 : decode cX3_startTrying 61 = .ok (.return_, 1) := by decide +kernel
theorem dX3_startTrying_31 : decode cX3_startTrying 31 = .ok (.aload_n 0, 1) := by decide +kernel
theorem dX3_startTrying_32 : decode cX3_startTrying 32 = .ok (.getfield 25, 3) := by decide +kernel
theorem dX3_startTrying_35 : decode cX3_startTrying 35 = .ok (.iload_n 2, 1) := by decide +kernel
theorem dX3_startTrying_36 : decode cX3_startTrying 36 = .ok (.iconst 1, 1) := by decide +kernel
theorem dX3_startTrying_37 : decode cX3_startTrying 37 = .ok (.aload_n 1, 1) := by decide +kernel
theorem dX3_startTrying_38 : decode cX3_startTrying 38 = .ok (.getfield 77, 3) := by decide +kernel
theorem dX3_startTrying_41 : decode cX3_startTrying 41 = .ok (.isub, 1) := by decide +kernel
theorem dX3_startTrying_42 : decode cX3_startTrying 42 = .ok (.iastore, 1) := by decide +kernel
theorem dX3_startTrying_43 : decode cX3_startTrying 43 = .ok (.aload_n 0, 1) := by decide +kernel
theorem dX3_startTrying_44 : decode cX3_startTrying 44 = .ok (.iload_n 2, 1) := by decide +kernel
theorem dX3_startTrying_45 : decode cX3_startTrying 45 = .ok (.aload_n 0, 1) := by decide +kernel
theorem dX3_startTrying_46 : decode cX3_startTrying 46 = .ok (.getfield 25, 3) := by decide +kernel
theorem dX3_startTrying_49 : decode cX3_startTrying 49 = .ok (.iload_n 2, 1) := by decide +kernel
theorem dX3_startTrying_50 : decode cX3_startTrying 50 = .ok (.iaload, 1) := by decide +kernel
theorem dX3_startTrying_51 : decode cX3_startTrying 51 = .ok (.i2l, 1) := by decide +kernel
theorem dX3_startTrying_52 : decode cX3_startTrying 52 = .ok (.invokevirtual 171, 3) := by decide +kernel
theorem dX3_move_0 : decode cX3_move 0 = .ok (.iload_n 1, 1) := by decide +kernel
theorem dX3_move_1 : decode cX3_move 1 = .ok (.iconst 5, 1) := by decide +kernel
theorem dX3_move_2 : decode cX3_move 2 = .ok (.imul, 1) := by decide +kernel
theorem dX3_move_3 : decode cX3_move 3 = .ok (.istore 4, 2) := by decide +kernel
theorem dX3_move_5 : decode cX3_move 5 = .ok (.aload_n 0, 1) := by decide +kernel
theorem dX3_move_6 : decode cX3_move 6 = .ok (.dup, 1) := by decide +kernel
theorem dX3_move_7 : decode cX3_move 7 = .ok (.getfield 35, 3) := by decide +kernel
theorem dX3_move_10 : decode cX3_move 10 = .ok (.lload_n 2, 1) := by decide +kernel
theorem dX3_move_11 : decode cX3_move 11 = .ok (.ldc2_w 175, 3) := by decide +kernel
theorem dX3_move_14 : decode cX3_move 14 = .ok (.aload_n 0, 1) := by decide +kernel
theorem dX3_move_15 : decode cX3_move 15 = .ok (.getfield 31, 3) := by decide +kernel
theorem dX3_move_18 : decode cX3_move 18 = .ok (.iload_n 1, 1) := by decide +kernel
theorem dX3_move_19 : decode cX3_move 19 = .ok (.laload, 1) := by decide +kernel
theorem dX3_move_20 : decode cX3_move 20 = .ok (.lmul, 1) := by decide +kernel
theorem dX3_move_21 : decode cX3_move 21 = .ok (.lload_n 2, 1) := by decide +kernel
theorem dX3_move_22 : decode cX3_move 22 = .ok (.aload_n 0, 1) := by decide +kernel
theorem dX3_move_23 : decode cX3_move 23 = .ok (.getfield 12, 3) := by decide +kernel
theorem dX3_move_26 : decode cX3_move 26 = .ok (.getfield 177, 3) := by decide +kernel
theorem dX3_move_29 : decode cX3_move 29 = .ok (.iload 4, 2) := by decide +kernel
theorem dX3_move_31 : decode cX3_move 31 = .ok (.iload_n 1, 1) := by decide +kernel
theorem dX3_move_32 : decode cX3_move 32 = .ok (.iadd, 1) := by decide +kernel
theorem dX3_move_33 : decode cX3_move 33 = .ok (.laload, 1) := by decide +kernel
theorem dX3_move_34 : decode cX3_move 34 = .ok (.lmul, 1) := by decide +kernel
theorem dX3_move_35 : decode cX3_move 35 = .ok (.ladd, 1) := by decide +kernel
theorem dX3_move_36 : decode cX3_move 36 = .ok (.lmul, 1) := by decide +kernel
theorem dX3_move_37 : decode cX3_move 37 = .ok (.ladd, 1) := by decide +kernel
theorem dX3_move_38 : decode cX3_move 38 = .ok (.putfield 35, 3) := by decide +kernel
theorem dX3_move_41 : decode cX3_move 41 = .ok (.iconst 0, 1) := by decide +kernel
theorem dX3_move_42 : decode cX3_move 42 = .ok (.istore 5, 2) := by decide +kernel
theorem dX3_move_44 : decode cX3_move 44 = .ok (.iload 5, 2) := by decide +kernel
theorem dX3_move_46 : decode cX3_move 46 = .ok (.aload_n 0, 1) := by decide +kernel
theorem dX3_move_47 : decode cX3_move 47 = .ok (.getfield 12, 3) := by decide +kernel
theorem dX3_move_50 : decode cX3_move 50 = .ok (.getfield 110, 3) := by decide +kernel
theorem dX3_move_53 : decode cX3_move 53 = .ok (.if_icmp .gt 34, 3) := by decide +kernel
theorem dX3_move_56 : decode cX3_move 56 = .ok (.aload_n 0, 1) := by decide +kernel
theorem dX3_move_57 : decode cX3_move 57 = .ok (.getfield 31, 3) := by decide +kernel
theorem dX3_move_60 : decode cX3_move 60 = .ok (.iload 5, 2) := by decide +kernel
theorem dX3_move_62 : decode cX3_move 62 = .ok (.dup2, 1) := by decide +kernel
theorem dX3_move_63 : decode cX3_move 63 = .ok (.laload, 1) := by decide +kernel
theorem dX3_move_64 : decode cX3_move 64 = .ok (.lload_n 2, 1) := by decide +kernel
theorem dX3_move_65 : decode cX3_move 65 = .ok (.aload_n 0, 1) := by decide +kernel
theorem dX3_move_66 : decode cX3_move 66 = .ok (.getfield 12, 3) := by decide +kernel
theorem dX3_move_69 : decode cX3_move 69 = .ok (.getfield 177, 3) := by decide +kernel
theorem dX3_move_72 : decode cX3_move 72 = .ok (.iload 4, 2) := by decide +kernel
theorem dX3_move_74 : decode cX3_move 74 = .ok (.iload 5, 2) := by decide +kernel
theorem dX3_move_76 : decode cX3_move 76 = .ok (.iadd, 1) := by decide +kernel
theorem dX3_move_77 : decode cX3_move 77 = .ok (.laload, 1) := by decide +kernel
theorem dX3_move_78 : decode cX3_move 78 = .ok (.lmul, 1) := by decide +kernel
theorem dX3_move_79 : decode cX3_move 79 = .ok (.ladd, 1) := by decide +kernel
theorem dX3_move_80 : decode cX3_move 80 = .ok (.lastore, 1) := by decide +kernel
theorem dX3_move_81 : decode cX3_move 81 = .ok (.iinc 5 1, 3) := by decide +kernel
theorem dX3_move_84 : decode cX3_move 84 = .ok (.goto (-40), 3) := by decide +kernel
theorem dX3_move_87 : decode cX3_move 87 = .ok (.return_, 1) := by decide +kernel
theorem dX3_startTrying_55 : decode cX3_startTrying 55 = .ok (.iinc 2 1, 3) := by decide +kernel
theorem dX3_startTrying_58 : decode cX3_startTrying 58 = .ok (.goto (-35), 3) := by decide +kernel
theorem dX3_mostOfAll_27 : decode cX3_mostOfAll 27 = .ok (.ldc2_w 43, 3) := by decide +kernel
theorem dX3_mostOfAll_30 : decode cX3_mostOfAll 30 = .ok (.lstore_n 2, 1) := by decide +kernel
theorem dX3_mostOfAll_31 : decode cX3_mostOfAll 31 = .ok (.aload_n 1, 1) := by decide +kernel
theorem dX3_mostOfAll_32 : decode cX3_mostOfAll 32 = .ok (.invokevirtual 146, 3) := by decide +kernel
theorem dX3_mostOfAll_35 : decode cX3_mostOfAll 35 = .ok (.iconst 1, 1) := by decide +kernel
theorem dX3_mostOfAll_36 : decode cX3_mostOfAll 36 = .ok (.iadd, 1) := by decide +kernel
theorem dX3_mostOfAll_37 : decode cX3_mostOfAll 37 = .ok (.iconst 2, 1) := by decide +kernel
theorem dX3_mostOfAll_38 : decode cX3_mostOfAll 38 = .ok (.idiv, 1) := by decide +kernel
theorem dX3_mostOfAll_39 : decode cX3_mostOfAll 39 = .ok (.istore 4, 2) := by decide +kernel
theorem dX3_mostOfAll_41 : decode cX3_mostOfAll 41 = .ok (.iconst 0, 1) := by decide +kernel
theorem dX3_mostOfAll_42 : decode cX3_mostOfAll 42 = .ok (.istore 5, 2) := by decide +kernel
theorem dX3_mostOfAll_44 : decode cX3_mostOfAll 44 = .ok (.iload 5, 2) := by decide +kernel
theorem dX3_mostOfAll_46 : decode cX3_mostOfAll 46 = .ok (.iload 4, 2) := by decide +kernel
theorem dX3_mostOfAll_48 : decode cX3_mostOfAll 48 = .ok (.if_icmp .ge 43, 3) := by decide +kernel
theorem dX3_mostOfAll_91 : decode cX3_mostOfAll 91 = .ok (.aload_n 0, 1) := by decide +kernel
theorem dX3_mostOfAll_92 : decode cX3_mostOfAll 92 = .ok (.lload_n 2, 1) := by decide +kernel
theorem dX3_mostOfAll_93 : decode cX3_mostOfAll 93 = .ok (.putfield 48, 3) := by decide +kernel
theorem dX3_mostOfAll_96 : decode cX3_mostOfAll 96 = .ok (.lload_n 2, 1) := by decide +kernel
theorem dX3_mostOfAll_97 : decode cX3_mostOfAll 97 = .ok (.lreturn, 1) := by decide +kernel
theorem dX3_mostOfAll_51 : decode cX3_mostOfAll 51 = .ok (.aload_n 0, 1) := by decide +kernel
theorem dX3_mostOfAll_52 : decode cX3_mostOfAll 52 = .ok (.lload_n 2, 1) := by decide +kernel
theorem dX3_mostOfAll_53 : decode cX3_mostOfAll 53 = .ok (.aload_n 1, 1) := by decide +kernel
theorem dX3_mostOfAll_54 : decode cX3_mostOfAll 54 = .ok (.invokevirtual 149, 3) := by decide +kernel
theorem dX3_fallsTo_0 : decode cX3_fallsTo 0 = .ok (.iconst 2, 1) := by decide +kernel
theorem dX3_fallsTo_1 : decode cX3_fallsTo 1 = .ok (.aload_n 3, 1) := by decide +kernel
theorem dX3_fallsTo_2 : decode cX3_fallsTo 2 = .ok (.getfield 77, 3) := by decide +kernel
theorem dX3_fallsTo_5 : decode cX3_fallsTo 5 = .ok (.imul, 1) := by decide +kernel
theorem dX3_fallsTo_6 : decode cX3_fallsTo 6 = .ok (.istore 4, 2) := by decide +kernel
theorem dX3_fallsTo_8 : decode cX3_fallsTo 8 = .ok (.iconst 0, 1) := by decide +kernel
theorem dX3_fallsTo_9 : decode cX3_fallsTo 9 = .ok (.istore 5, 2) := by decide +kernel
theorem dX3_fallsTo_11 : decode cX3_fallsTo 11 = .ok (.iload 5, 2) := by decide +kernel
theorem dX3_fallsTo_13 : decode cX3_fallsTo 13 = .ok (.sipush 243, 3) := by decide +kernel
theorem dX3_fallsTo_16 : decode cX3_fallsTo 16 = .ok (.if_icmp .ge 74, 3) := by decide +kernel
theorem dX3_fallsTo_19 : decode cX3_fallsTo 19 = .ok (.aload_n 0, 1) := by decide +kernel
theorem dX3_fallsTo_20 : decode cX3_fallsTo 20 = .ok (.getfield 35, 3) := by decide +kernel
theorem dX3_fallsTo_23 : decode cX3_fallsTo 23 = .ok (.lload_n 1, 1) := by decide +kernel
theorem dX3_fallsTo_24 : decode cX3_fallsTo 24 = .ok (.lcmp, 1) := by decide +kernel
theorem dX3_fallsTo_25 : decode cX3_fallsTo 25 = .ok (.ifCond .le 65, 3) := by decide +kernel
theorem dX3_fallsTo_90 : decode cX3_fallsTo 90 = .ok (.aload_n 0, 1) := by decide +kernel
theorem dX3_fallsTo_91 : decode cX3_fallsTo 91 = .ok (.getfield 35, 3) := by decide +kernel
theorem dX3_fallsTo_94 : decode cX3_fallsTo 94 = .ok (.lload_n 1, 1) := by decide +kernel
theorem dX3_fallsTo_95 : decode cX3_fallsTo 95 = .ok (.lcmp, 1) := by decide +kernel
theorem dX3_fallsTo_96 : decode cX3_fallsTo 96 = .ok (.ifCond .gt 7, 3) := by decide +kernel
theorem dX3_fallsTo_103 : decode cX3_fallsTo 103 = .ok (.iconst 0, 1) := by decide +kernel
theorem dX3_fallsTo_104 : decode cX3_fallsTo 104 = .ok (.ireturn, 1) := by decide +kernel
theorem dX3_fallsTo_99 : decode cX3_fallsTo 99 = .ok (.iconst 1, 1) := by decide +kernel
theorem dX3_fallsTo_100 : decode cX3_fallsTo 100 = .ok (.goto 4, 3) := by decide +kernel
theorem dX3_fallsTo_28 : decode cX3_fallsTo 28 = .ok (.aload_n 0, 1) := by decide +kernel
theorem dX3_fallsTo_29 : decode cX3_fallsTo 29 = .ok (.getfield 35, 3) := by decide +kernel
theorem dX3_fallsTo_32 : decode cX3_fallsTo 32 = .ok (.lstore 6, 2) := by decide +kernel
theorem dX3_fallsTo_34 : decode cX3_fallsTo 34 = .ok (.iconst 0, 1) := by decide +kernel
theorem dX3_fallsTo_35 : decode cX3_fallsTo 35 = .ok (.istore 8, 2) := by decide +kernel
theorem dX3_fallsTo_37 : decode cX3_fallsTo 37 = .ok (.iload 8, 2) := by decide +kernel
theorem dX3_fallsTo_39 : decode cX3_fallsTo 39 = .ok (.aload_n 0, 1) := by decide +kernel
theorem dX3_fallsTo_40 : decode cX3_fallsTo 40 = .ok (.getfield 12, 3) := by decide +kernel
theorem dX3_fallsTo_43 : decode cX3_fallsTo 43 = .ok (.getfield 110, 3) := by decide +kernel
theorem dX3_fallsTo_46 : decode cX3_fallsTo 46 = .ok (.if_icmp .gt 26, 3) := by decide +kernel
theorem dX3_fallsTo_49 : decode cX3_fallsTo 49 = .ok (.aload_n 0, 1) := by decide +kernel
theorem dX3_fallsTo_50 : decode cX3_fallsTo 50 = .ok (.getfield 35, 3) := by decide +kernel
theorem dX3_fallsTo_53 : decode cX3_fallsTo 53 = .ok (.lload_n 1, 1) := by decide +kernel
theorem dX3_fallsTo_54 : decode cX3_fallsTo 54 = .ok (.lcmp, 1) := by decide +kernel
theorem dX3_fallsTo_55 : decode cX3_fallsTo 55 = .ok (.ifCond .le 17, 3) := by decide +kernel
theorem dX3_fallsTo_72 : decode cX3_fallsTo 72 = .ok (.aload_n 0, 1) := by decide +kernel
theorem dX3_fallsTo_73 : decode cX3_fallsTo 73 = .ok (.getfield 35, 3) := by decide +kernel
theorem dX3_fallsTo_76 : decode cX3_fallsTo 76 = .ok (.lload 6, 2) := by decide +kernel
theorem dX3_fallsTo_78 : decode cX3_fallsTo 78 = .ok (.lcmp, 1) := by decide +kernel
theorem dX3_fallsTo_79 : decode cX3_fallsTo 79 = .ok (.ifCond .ne 5, 3) := by decide +kernel
theorem dX3_fallsTo_82 : decode cX3_fallsTo 82 = .ok (.iconst 0, 1) := by decide +kernel
theorem dX3_fallsTo_83 : decode cX3_fallsTo 83 = .ok (.ireturn, 1) := by decide +kernel
theorem dX3_fallsTo_58 : decode cX3_fallsTo 58 = .ok (.aload_n 0, 1) := by decide +kernel
theorem dX3_fallsTo_59 : decode cX3_fallsTo 59 = .ok (.iload 8, 2) := by decide +kernel
theorem dX3_fallsTo_61 : decode cX3_fallsTo 61 = .ok (.iload 4, 2) := by decide +kernel
theorem dX3_fallsTo_63 : decode cX3_fallsTo 63 = .ok (.invokevirtual 180, 3) := by decide +kernel
theorem dX3_better_0 : decode cX3_better 0 = .ok (.aload_n 0, 1) := by decide +kernel
theorem dX3_better_1 : decode cX3_better 1 = .ok (.getfield 31, 3) := by decide +kernel
theorem dX3_better_4 : decode cX3_better 4 = .ok (.iload_n 1, 1) := by decide +kernel
theorem dX3_better_5 : decode cX3_better 5 = .ok (.laload, 1) := by decide +kernel
theorem dX3_better_6 : decode cX3_better 6 = .ok (.lconst 0, 1) := by decide +kernel
theorem dX3_better_7 : decode cX3_better 7 = .ok (.lcmp, 1) := by decide +kernel
theorem dX3_better_8 : decode cX3_better 8 = .ok (.ifCond .le 7, 3) := by decide +kernel
theorem dX3_better_15 : decode cX3_better 15 = .ok (.iconst 1, 1) := by decide +kernel
theorem dX3_better_16 : decode cX3_better 16 = .ok (.istore_n 3, 1) := by decide +kernel
theorem dX3_better_17 : decode cX3_better 17 = .ok (.aload_n 0, 1) := by decide +kernel
theorem dX3_better_18 : decode cX3_better 18 = .ok (.getfield 28, 3) := by decide +kernel
theorem dX3_better_21 : decode cX3_better 21 = .ok (.iload_n 1, 1) := by decide +kernel
theorem dX3_better_22 : decode cX3_better 22 = .ok (.iaload, 1) := by decide +kernel
theorem dX3_better_23 : decode cX3_better 23 = .ok (.iload_n 3, 1) := by decide +kernel
theorem dX3_better_24 : decode cX3_better 24 = .ok (.iadd, 1) := by decide +kernel
theorem dX3_better_25 : decode cX3_better 25 = .ok (.iconst (-1), 1) := by decide +kernel
theorem dX3_better_26 : decode cX3_better 26 = .ok (.if_icmp .lt 15, 3) := by decide +kernel
theorem dX3_better_41 : decode cX3_better 41 = .ok (.return_, 1) := by decide +kernel
theorem dX3_better_29 : decode cX3_better 29 = .ok (.aload_n 0, 1) := by decide +kernel
theorem dX3_better_30 : decode cX3_better 30 = .ok (.getfield 28, 3) := by decide +kernel
theorem dX3_better_33 : decode cX3_better 33 = .ok (.iload_n 1, 1) := by decide +kernel
theorem dX3_better_34 : decode cX3_better 34 = .ok (.iaload, 1) := by decide +kernel
theorem dX3_better_35 : decode cX3_better 35 = .ok (.iload_n 3, 1) := by decide +kernel
