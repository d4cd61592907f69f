theorem dX1_mostPower_51 : decode cX1_mostPower 51 = .ok (.iload_n 3, 1) := by decide +kernel
theorem dX1_mostPower_52 : decode cX1_mostPower 52 = .ok (.invokestatic 76, 3) := by decide +kernel
theorem dX1_mostPower_55 : decode cX1_mostPower 55 = .ok (.istore_n 1, 1) := by decide +kernel
theorem dX1_mostPower_56 : decode cX1_mostPower 56 = .ok (.iinc 2 1, 3) := by decide +kernel
theorem dX1_mostPower_59 : decode cX1_mostPower 59 = .ok (.goto (-55), 3) := by decide +kernel
theorem dX1_mostPower_26 : decode cX1_mostPower 26 = .ok (.iload_n 3, 1) := by decide +kernel
theorem dX1_mostPower_27 : decode cX1_mostPower 27 = .ok (.aload_n 0, 1) := by decide +kernel
theorem dX1_mostPower_28 : decode cX1_mostPower 28 = .ok (.iload_n 2, 1) := by decide +kernel
theorem dX1_mostPower_29 : decode cX1_mostPower 29 = .ok (.iload 4, 2) := by decide +kernel
theorem dX1_mostPower_31 : decode cX1_mostPower 31 = .ok (.invokevirtual 69, 3) := by decide +kernel
theorem dX1_mostPower_34 : decode cX1_mostPower 34 = .ok (.aload_n 0, 1) := by decide +kernel
theorem dX1_mostPower_35 : decode cX1_mostPower 35 = .ok (.iload_n 2, 1) := by decide +kernel
theorem dX1_mostPower_36 : decode cX1_mostPower 36 = .ok (.iload 4, 2) := by decide +kernel
theorem dX1_mostPower_38 : decode cX1_mostPower 38 = .ok (.invokevirtual 69, 3) := by decide +kernel
theorem dX1_mostPower_41 : decode cX1_mostPower 41 = .ok (.imul, 1) := by decide +kernel
theorem dX1_mostPower_42 : decode cX1_mostPower 42 = .ok (.iadd, 1) := by decide +kernel
theorem dX1_mostPower_43 : decode cX1_mostPower 43 = .ok (.istore_n 3, 1) := by decide +kernel
theorem dX1_mostPower_44 : decode cX1_mostPower 44 = .ok (.iinc 4 1, 3) := by decide +kernel
theorem dX1_mostPower_47 : decode cX1_mostPower 47 = .ok (.goto (-30), 3) := by decide +kernel
theorem dX1_copyWord_0 : decode cX1_copyWord 0 = .ok (.iconst 0, 1) := by decide +kernel
theorem dX1_copyWord_1 : decode cX1_copyWord 1 = .ok (.istore_n 3, 1) := by decide +kernel
theorem dX1_copyWord_2 : decode cX1_copyWord 2 = .ok (.iload_n 3, 1) := by decide +kernel
theorem dX1_copyWord_3 : decode cX1_copyWord 3 = .ok (.aload_n 0, 1) := by decide +kernel
theorem dX1_copyWord_4 : decode cX1_copyWord 4 = .ok (.getfield 33, 3) := by decide +kernel
theorem dX1_copyWord_7 : decode cX1_copyWord 7 = .ok (.if_icmp .ge 18, 3) := by decide +kernel
theorem dX1_copyWord_25 : decode cX1_copyWord 25 = .ok (.return_, 1) := by decide +kernel
theorem dX1_copyWord_10 : decode cX1_copyWord 10 = .ok (.aload_n 2, 1) := by decide +kernel
theorem dX1_copyWord_11 : decode cX1_copyWord 11 = .ok (.iload_n 3, 1) := by decide +kernel
theorem dX1_copyWord_12 : decode cX1_copyWord 12 = .ok (.aload_n 0, 1) := by decide +kernel
theorem dX1_copyWord_13 : decode cX1_copyWord 13 = .ok (.iload_n 1, 1) := by decide +kernel
theorem dX1_copyWord_14 : decode cX1_copyWord 14 = .ok (.iload_n 3, 1) := by decide +kernel
theorem dX1_copyWord_15 : decode cX1_copyWord 15 = .ok (.invokevirtual 69, 3) := by decide +kernel
theorem dX1_copyWord_18 : decode cX1_copyWord 18 = .ok (.iastore, 1) := by decide +kernel
theorem dX1_copyWord_19 : decode cX1_copyWord 19 = .ok (.iinc 3 1, 3) := by decide +kernel
theorem dX1_copyWord_22 : decode cX1_copyWord 22 = .ok (.goto (-20), 3) := by decide +kernel
theorem dX1_rowOfLetters_0 : decode cX1_rowOfLetters 0 = .ok (.iconst 0, 1) := by decide +kernel
theorem dX1_rowOfLetters_1 : decode cX1_rowOfLetters 1 = .ok (.istore_n 2, 1) := by decide +kernel
theorem dX1_rowOfLetters_2 : decode cX1_rowOfLetters 2 = .ok (.iconst 0, 1) := by decide +kernel
theorem dX1_rowOfLetters_3 : decode cX1_rowOfLetters 3 = .ok (.istore_n 3, 1) := by decide +kernel
theorem dX1_rowOfLetters_4 : decode cX1_rowOfLetters 4 = .ok (.iload_n 3, 1) := by decide +kernel
theorem dX1_rowOfLetters_5 : decode cX1_rowOfLetters 5 = .ok (.aload_n 0, 1) := by decide +kernel
theorem dX1_rowOfLetters_6 : decode cX1_rowOfLetters 6 = .ok (.getfield 33, 3) := by decide +kernel
theorem dX1_rowOfLetters_9 : decode cX1_rowOfLetters 9 = .ok (.if_icmp .ge 24, 3) := by decide +kernel
theorem dX1_rowOfLetters_33 : decode cX1_rowOfLetters 33 = .ok (.iload_n 2, 1) := by decide +kernel
theorem dX1_rowOfLetters_34 : decode cX1_rowOfLetters 34 = .ok (.ireturn, 1) := by decide +kernel
theorem dX1_rowOfLetters_12 : decode cX1_rowOfLetters 12 = .ok (.iload_n 2, 1) := by decide +kernel
theorem dX1_rowOfLetters_13 : decode cX1_rowOfLetters 13 = .ok (.aload_n 0, 1) := by decide +kernel
theorem dX1_rowOfLetters_14 : decode cX1_rowOfLetters 14 = .ok (.getfield 29, 3) := by decide +kernel
theorem dX1_rowOfLetters_17 : decode cX1_rowOfLetters 17 = .ok (.imul, 1) := by decide +kernel
theorem dX1_rowOfLetters_18 : decode cX1_rowOfLetters 18 = .ok (.aload_n 0, 1) := by decide +kernel
theorem dX1_rowOfLetters_19 : decode cX1_rowOfLetters 19 = .ok (.aload_n 1, 1) := by decide +kernel
theorem dX1_rowOfLetters_20 : decode cX1_rowOfLetters 20 = .ok (.iload_n 3, 1) := by decide +kernel
theorem dX1_rowOfLetters_21 : decode cX1_rowOfLetters 21 = .ok (.iaload, 1) := by decide +kernel
theorem dX1_rowOfLetters_22 : decode cX1_rowOfLetters 22 = .ok (.invokevirtual 66, 3) := by decide +kernel
theorem dX1_rowOfLetters_25 : decode cX1_rowOfLetters 25 = .ok (.iadd, 1) := by decide +kernel
theorem dX1_rowOfLetters_26 : decode cX1_rowOfLetters 26 = .ok (.istore_n 2, 1) := by decide +kernel
theorem dX1_rowOfLetters_27 : decode cX1_rowOfLetters 27 = .ok (.iinc 3 1, 3) := by decide +kernel
theorem dX1_rowOfLetters_30 : decode cX1_rowOfLetters 30 = .ok (.goto (-26), 3) := by decide +kernel
theorem dX1_worthOf_0 : decode cX1_worthOf 0 = .ok (.aload_n 0, 1) := by decide +kernel
theorem dX1_worthOf_1 : decode cX1_worthOf 1 = .ok (.getfield 21, 3) := by decide +kernel
theorem dX1_worthOf_4 : decode cX1_worthOf 4 = .ok (.iload_n 1, 1) := by decide +kernel
theorem dX1_worthOf_5 : decode cX1_worthOf 5 = .ok (.aload_n 0, 1) := by decide +kernel
theorem dX1_worthOf_6 : decode cX1_worthOf 6 = .ok (.getfield 12, 3) := by decide +kernel
theorem dX1_worthOf_9 : decode cX1_worthOf 9 = .ok (.iload_n 1, 1) := by decide +kernel
theorem dX1_worthOf_10 : decode cX1_worthOf 10 = .ok (.iload_n 1, 1) := by decide +kernel
theorem dX1_worthOf_11 : decode cX1_worthOf 11 = .ok (.invokevirtual 81, 3) := by decide +kernel
theorem dX1_worthOf_14 : decode cX1_worthOf 14 = .ok (.aload_n 0, 1) := by decide +kernel
theorem dX1_worthOf_15 : decode cX1_worthOf 15 = .ok (.getfield 12, 3) := by decide +kernel
theorem dX1_worthOf_18 : decode cX1_worthOf 18 = .ok (.iload_n 1, 1) := by decide +kernel
theorem dX1_worthOf_19 : decode cX1_worthOf 19 = .ok (.invokevirtual 84, 3) := by decide +kernel
theorem dX1_worthOf_22 : decode cX1_worthOf 22 = .ok (.invokevirtual 87, 3) := by decide +kernel
theorem dX1_worthOf_25 : decode cX1_worthOf 25 = .ok (.ireturn, 1) := by decide +kernel
theorem dX10_start_0 : decode cX10_start 0 = .ok (.aload_n 0, 1) := by decide +kernel
theorem dX10_start_1 : decode cX10_start 1 = .ok (.iconst 0, 1) := by decide +kernel
theorem dX10_start_2 : decode cX10_start 2 = .ok (.aload_n 1, 1) := by decide +kernel
theorem dX10_start_3 : decode cX10_start 3 = .ok (.getfield 38, 3) := by decide +kernel
theorem dX10_start_6 : decode cX10_start 6 = .ok (.iconst 1, 1) := by decide +kernel
theorem dX10_start_7 : decode cX10_start 7 = .ok (.isub, 1) := by decide +kernel
theorem dX10_start_8 : decode cX10_start 8 = .ok (.invokestatic 43, 3) := by decide +kernel
theorem dX10_start_11 : decode cX10_start 11 = .ok (.putfield 34, 3) := by decide +kernel
theorem dX10_start_14 : decode cX10_start 14 = .ok (.iconst 0, 1) := by decide +kernel
theorem dX10_start_15 : decode cX10_start 15 = .ok (.istore_n 2, 1) := by decide +kernel
theorem dX10_start_16 : decode cX10_start 16 = .ok (.iload_n 2, 1) := by decide +kernel
theorem dX10_start_17 : decode cX10_start 17 = .ok (.aload_n 0, 1) := by decide +kernel
theorem dX10_start_18 : decode cX10_start 18 = .ok (.getfield 34, 3) := by decide +kernel
theorem dX10_start_21 : decode cX10_start 21 = .ok (.if_icmp .gt 52, 3) := by decide +kernel
theorem dX10_start_24 : decode cX10_start 24 = .ok (.iconst 0, 1) := by decide +kernel
theorem dX10_start_25 : decode cX10_start 25 = .ok (.istore_n 3, 1) := by decide +kernel
theorem dX10_start_26 : decode cX10_start 26 = .ok (.iload_n 3, 1) := by decide +kernel
theorem dX10_start_27 : decode cX10_start 27 = .ok (.aload_n 0, 1) := by decide +kernel
theorem dX10_start_28 : decode cX10_start 28 = .ok (.getfield 34, 3) := by decide +kernel
theorem dX10_start_31 : decode cX10_start 31 = .ok (.if_icmp .gt 29, 3) := by decide +kernel
theorem dX10_start_34 : decode cX10_start 34 = .ok (.aload_n 0, 1) := by decide +kernel
theorem dX10_start_35 : decode cX10_start 35 = .ok (.getfield 9, 3) := by decide +kernel
theorem dX10_start_38 : decode cX10_start 38 = .ok (.iload_n 2, 1) := by decide +kernel
theorem dX10_start_39 : decode cX10_start 39 = .ok (.iconst 5, 1) := by decide +kernel
theorem dX10_start_40 : decode cX10_start 40 = .ok (.imul, 1) := by decide +kernel
theorem dX10_start_41 : decode cX10_start 41 = .ok (.iload_n 3, 1) := by decide +kernel
theorem dX10_start_42 : decode cX10_start 42 = .ok (.iadd, 1) := by decide +kernel
theorem dX10_start_43 : decode cX10_start 43 = .ok (.aload_n 1, 1) := by decide +kernel
theorem dX10_start_44 : decode cX10_start 44 = .ok (.getfield 49, 3) := by decide +kernel
theorem dX10_start_47 : decode cX10_start 47 = .ok (.iload_n 2, 1) := by decide +kernel
theorem dX10_start_48 : decode cX10_start 48 = .ok (.iload_n 3, 1) := by decide +kernel
theorem dX10_start_49 : decode cX10_start 49 = .ok (.invokevirtual 53, 3) := by decide +kernel
theorem dX10_start_52 : decode cX10_start 52 = .ok (.i2l, 1) := by decide +kernel
theorem dX10_start_53 : decode cX10_start 53 = .ok (.lastore, 1) := by decide +kernel
theorem dX10_start_54 : decode cX10_start 54 = .ok (.iinc 3 1, 3) := by decide +kernel
theorem dX10_start_57 : decode cX10_start 57 = .ok (.goto (-31), 3) := by decide +kernel
theorem dX10_start_60 : decode cX10_start 60 = .ok (.aload_n 0, 1) := by decide +kernel
theorem dX10_start_61 : decode cX10_start 61 = .ok (.getfield 18, 3) := by decide +kernel
theorem dX10_start_64 : decode cX10_start 64 = .ok (.iload_n 2, 1) := by decide +kernel
theorem dX10_start_65 : decode cX10_start 65 = .ok (.lconst 0, 1) := by decide +kernel
theorem dX10_start_66 : decode cX10_start 66 = .ok (.lastore, 1) := by decide +kernel
theorem dX10_start_67 : decode cX10_start 67 = .ok (.iinc 2 1, 3) := by decide +kernel
theorem dX10_start_70 : decode cX10_start 70 = .ok (.goto (-54), 3) := by decide +kernel
theorem dX10_start_73 : decode cX10_start 73 = .ok (.aload_n 0, 1) := by decide +kernel
theorem dX10_start_74 : decode cX10_start 74 = .ok (.getfield 15, 3) := by decide +kernel
theorem dX10_start_77 : decode cX10_start 77 = .ok (.iconst 0, 1) := by decide +kernel
theorem dX10_start_78 : decode cX10_start 78 = .ok (.lconst 0, 1) := by decide +kernel
theorem dX10_start_79 : decode cX10_start 79 = .ok (.lastore, 1) := by decide +kernel
theorem dX10_start_80 : decode cX10_start 80 = .ok (.return_, 1) := by decide +kernel
theorem dX10_aimAt_0 : decode cX10_aimAt 0 = .ok (.lconst 0, 1) := by decide +kernel
theorem dX10_aimAt_1 : decode cX10_aimAt 1 = .ok (.lstore_n 3, 1) := by decide +kernel
theorem dX10_aimAt_2 : decode cX10_aimAt 2 = .ok (.iconst 0, 1) := by decide +kernel
theorem dX10_aimAt_3 : decode cX10_aimAt 3 = .ok (.istore 5, 2) := by decide +kernel
theorem dX10_aimAt_5 : decode cX10_aimAt 5 = .ok (.iload 5, 2) := by decide +kernel
theorem dX10_aimAt_7 : decode cX10_aimAt 7 = .ok (.aload_n 1, 1) := by decide +kernel
theorem dX10_aimAt_8 : decode cX10_aimAt 8 = .ok (.getfield 58, 3) := by decide +kernel
theorem dX10_aimAt_11 : decode cX10_aimAt 11 = .ok (.if_icmp .ge 23, 3) := by decide +kernel
theorem dX10_aimAt_34 : decode cX10_aimAt 34 = .ok (.aload_n 0, 1) := by decide +kernel
theorem dX10_aimAt_35 : decode cX10_aimAt 35 = .ok (.getfield 15, 3) := by decide +kernel
theorem dX10_aimAt_38 : decode cX10_aimAt 38 = .ok (.iconst 0, 1) := by decide +kernel
theorem dX10_aimAt_39 : decode cX10_aimAt 39 = .ok (.lload_n 3, 1) := by decide +kernel
theorem dX10_aimAt_40 : decode cX10_aimAt 40 = .ok (.lastore, 1) := by decide +kernel
theorem dX10_aimAt_41 : decode cX10_aimAt 41 = .ok (.iconst 0, 1) := by decide +kernel
theorem dX10_aimAt_42 : decode cX10_aimAt 42 = .ok (.istore 5, 2) := by decide +kernel
theorem dX10_aimAt_44 : decode cX10_aimAt 44 = .ok (.iload 5, 2) := by decide +kernel
theorem dX10_aimAt_46 : decode cX10_aimAt 46 = .ok (.aload_n 0, 1) := by decide +kernel
theorem dX10_aimAt_47 : decode cX10_aimAt 47 = .ok (.getfield 34, 3) := by decide +kernel
theorem dX10_aimAt_50 : decode cX10_aimAt 50 = .ok (.if_icmp .gt 62, 3) := by decide +kernel
theorem dX10_aimAt_53 : decode cX10_aimAt 53 = .ok (.lconst 0, 1) := by decide +kernel
theorem dX10_aimAt_54 : decode cX10_aimAt 54 = .ok (.lstore 6, 2) := by decide +kernel
theorem dX10_aimAt_56 : decode cX10_aimAt 56 = .ok (.iconst 0, 1) := by decide +kernel
theorem dX10_aimAt_57 : decode cX10_aimAt 57 = .ok (.istore 8, 2) := by decide +kernel
theorem dX10_aimAt_59 : decode cX10_aimAt 59 = .ok (.iload 8, 2) := by decide +kernel
theorem dX10_aimAt_61 : decode cX10_aimAt 61 = .ok (.aload_n 1, 1) := by decide +kernel
theorem dX10_aimAt_62 : decode cX10_aimAt 62 = .ok (.getfield 58, 3) := by decide +kernel
theorem dX10_aimAt_65 : decode cX10_aimAt 65 = .ok (.if_icmp .ge 32, 3) := by decide +kernel
theorem dX10_aimAt_97 : decode cX10_aimAt 97 = .ok (.aload_n 0, 1) := by decide +kernel
theorem dX10_aimAt_98 : decode cX10_aimAt 98 = .ok (.getfield 18, 3) := by decide +kernel
theorem dX10_aimAt_101 : decode cX10_aimAt 101 = .ok (.iload 5, 2) := by decide +kernel
theorem dX10_aimAt_103 : decode cX10_aimAt 103 = .ok (.lload 6, 2) := by decide +kernel
theorem dX10_aimAt_105 : decode cX10_aimAt 105 = .ok (.lastore, 1) := by decide +kernel
theorem dX10_aimAt_106 : decode cX10_aimAt 106 = .ok (.iinc 5 1, 3) := by decide +kernel
theorem dX10_aimAt_109 : decode cX10_aimAt 109 = .ok (.goto (-65), 3) := by decide +kernel
theorem dX10_aimAt_112 : decode cX10_aimAt 112 = .ok (.return_, 1) := by decide +kernel
theorem dX10_aimAt_14 : decode cX10_aimAt 14 = .ok (.lload_n 3, 1) := by decide +kernel
theorem dX10_aimAt_15 : decode cX10_aimAt 15 = .ok (.aload_n 2, 1) := by decide +kernel
theorem dX10_aimAt_16 : decode cX10_aimAt 16 = .ok (.iload 5, 2) := by decide +kernel
theorem dX10_aimAt_18 : decode cX10_aimAt 18 = .ok (.iaload, 1) := by decide +kernel
theorem dX10_aimAt_19 : decode cX10_aimAt 19 = .ok (.i2l, 1) := by decide +kernel
theorem dX10_aimAt_20 : decode cX10_aimAt 20 = .ok (.aload_n 2, 1) := by decide +kernel
theorem dX10_aimAt_21 : decode cX10_aimAt 21 = .ok (.iload 5, 2) := by decide +kernel
theorem dX10_aimAt_23 : decode cX10_aimAt 23 = .ok (.iaload, 1) := by decide +kernel
theorem dX10_aimAt_24 : decode cX10_aimAt 24 = .ok (.i2l, 1) := by decide +kernel
theorem dX10_aimAt_25 : decode cX10_aimAt 25 = .ok (.lmul, 1) := by decide +kernel
theorem dX10_aimAt_26 : decode cX10_aimAt 26 = .ok (.ladd, 1) := by decide +kernel
theorem dX10_aimAt_27 : decode cX10_aimAt 27 = .ok (.lstore_n 3, 1) := by decide +kernel
theorem dX10_aimAt_28 : decode cX10_aimAt 28 = .ok (.iinc 5 1, 3) := by decide +kernel
theorem dX10_aimAt_31 : decode cX10_aimAt 31 = .ok (.goto (-26), 3) := by decide +kernel
theorem dX10_aimAt_68 : decode cX10_aimAt 68 = .ok (.lload 6, 2) := by decide +kernel
theorem dX10_aimAt_70 : decode cX10_aimAt 70 = .ok (.aload_n 2, 1) := by decide +kernel
theorem dX10_aimAt_71 : decode cX10_aimAt 71 = .ok (.iload 8, 2) := by decide +kernel
theorem dX10_aimAt_73 : decode cX10_aimAt 73 = .ok (.iaload, 1) := by decide +kernel
theorem dX10_aimAt_74 : decode cX10_aimAt 74 = .ok (.i2l, 1) := by decide +kernel
theorem dX10_aimAt_75 : decode cX10_aimAt 75 = .ok (.aload_n 1, 1) := by decide +kernel
theorem dX10_aimAt_76 : decode cX10_aimAt 76 = .ok (.getfield 49, 3) := by decide +kernel
theorem dX10_aimAt_79 : decode cX10_aimAt 79 = .ok (.iload 8, 2) := by decide +kernel
theorem dX10_aimAt_81 : decode cX10_aimAt 81 = .ok (.iload 5, 2) := by decide +kernel
theorem dX10_aimAt_83 : decode cX10_aimAt 83 = .ok (.invokevirtual 61, 3) := by decide +kernel
theorem dX10_aimAt_86 : decode cX10_aimAt 86 = .ok (.i2l, 1) := by decide +kernel
theorem dX10_aimAt_87 : decode cX10_aimAt 87 = .ok (.lmul, 1) := by decide +kernel
theorem dX10_aimAt_88 : decode cX10_aimAt 88 = .ok (.ladd, 1) := by decide +kernel
theorem dX10_aimAt_89 : decode cX10_aimAt 89 = .ok (.lstore 6, 2) := by decide +kernel
theorem dX10_aimAt_91 : decode cX10_aimAt 91 = .ok (.iinc 8 1, 3) := by decide +kernel
theorem dX10_aimAt_94 : decode cX10_aimAt 94 = .ok (.goto (-35), 3) := by decide +kernel
theorem dX10_setAllNumbers_0 : decode cX10_setAllNumbers 0 = .ok (.iconst 0, 1) := by decide +kernel
theorem dX10_setAllNumbers_1 : decode cX10_setAllNumbers 1 = .ok (.istore 4, 2) := by decide +kernel
theorem dX10_setAllNumbers_3 : decode cX10_setAllNumbers 3 = .ok (.iload 4, 2) := by decide +kernel
theorem dX10_setAllNumbers_5 : decode cX10_setAllNumbers 5 = .ok (.aload_n 0, 1) := by decide +kernel
theorem dX10_setAllNumbers_6 : decode cX10_setAllNumbers 6 = .ok (.getfield 34, 3) := by decide +kernel
theorem dX10_setAllNumbers_9 : decode cX10_setAllNumbers 9 = .ok (.if_icmp .gt 18, 3) := by decide +kernel
theorem dX10_setAllNumbers_12 : decode cX10_setAllNumbers 12 = .ok (.aload_n 0, 1) := by decide +kernel
theorem dX10_setAllNumbers_13 : decode cX10_setAllNumbers 13 = .ok (.iload 4, 2) := by decide +kernel
theorem dX10_setAllNumbers_15 : decode cX10_setAllNumbers 15 = .ok (.iload_n 1, 1) := by decide +kernel
theorem dX10_setAllNumbers_16 : decode cX10_setAllNumbers 16 = .ok (.iload_n 2, 1) := by decide +kernel
theorem dX10_setAllNumbers_17 : decode cX10_setAllNumbers 17 = .ok (.iload_n 3, 1) := by decide +kernel
theorem dX10_setAllNumbers_18 : decode cX10_setAllNumbers 18 = .ok (.invokevirtual 64, 3) := by decide +kernel
theorem dX10_setNumbers_0 : decode cX10_setNumbers 0 = .ok (.aload_n 0, 1) := by decide +kernel
theorem dX10_setNumbers_1 : decode cX10_setNumbers 1 = .ok (.getfield 21, 3) := by decide +kernel
theorem dX10_setNumbers_4 : decode cX10_setNumbers 4 = .ok (.iload_n 1, 1) := by decide +kernel
theorem dX10_setNumbers_5 : decode cX10_setNumbers 5 = .ok (.iload_n 2, 1) := by decide +kernel
theorem dX10_setNumbers_6 : decode cX10_setNumbers 6 = .ok (.iastore, 1) := by decide +kernel
theorem dX10_setNumbers_7 : decode cX10_setNumbers 7 = .ok (.aload_n 0, 1) := by decide +kernel
theorem dX10_setNumbers_8 : decode cX10_setNumbers 8 = .ok (.getfield 25, 3) := by decide +kernel
theorem dX10_setNumbers_11 : decode cX10_setNumbers 11 = .ok (.iload_n 1, 1) := by decide +kernel
theorem dX10_setNumbers_12 : decode cX10_setNumbers 12 = .ok (.iload_n 3, 1) := by decide +kernel
theorem dX10_setNumbers_13 : decode cX10_setNumbers 13 = .ok (.iastore, 1) := by decide +kernel
theorem dX10_setNumbers_14 : decode cX10_setNumbers 14 = .ok (.aload_n 0, 1) := by decide +kernel
theorem dX10_setNumbers_15 : decode cX10_setNumbers 15 = .ok (.getfield 28, 3) := by decide +kernel
theorem dX10_setNumbers_18 : decode cX10_setNumbers 18 = .ok (.iload_n 1, 1) := by decide +kernel
theorem dX10_setNumbers_19 : decode cX10_setNumbers 19 = .ok (.iload 4, 2) := by decide +kernel
theorem dX10_setNumbers_21 : decode cX10_setNumbers 21 = .ok (.iastore, 1) := by decide +kernel
theorem dX10_setNumbers_22 : decode cX10_setNumbers 22 = .ok (.return_, 1) := by decide +kernel
theorem dX10_setAllNumbers_21 : decode cX10_setAllNumbers 21 = .ok (.iinc 4 1, 3) := by decide +kernel
theorem dX10_setAllNumbers_24 : decode cX10_setAllNumbers 24 = .ok (.goto (-21), 3) := by decide +kernel
theorem dX10_setAllNumbers_27 : decode cX10_setAllNumbers 27 = .ok (.return_, 1) := by decide +kernel
theorem dX10_firstLine_0 : decode cX10_firstLine 0 = .ok (.aload_n 0, 1) := by decide +kernel
theorem dX10_firstLine_1 : decode cX10_firstLine 1 = .ok (.getfield 31, 3) := by decide +kernel
theorem dX10_firstLine_4 : decode cX10_firstLine 4 = .ok (.iconst 0, 1) := by decide +kernel
theorem dX10_firstLine_5 : decode cX10_firstLine 5 = .ok (.invokestatic 68, 3) := by decide +kernel
theorem dX10_firstLine_8 : decode cX10_firstLine 8 = .ok (.aload_n 0, 1) := by decide +kernel
theorem dX10_firstLine_9 : decode cX10_firstLine 9 = .ok (.iconst 0, 1) := by decide +kernel
theorem dX10_firstLine_10 : decode cX10_firstLine 10 = .ok (.invokevirtual 74, 3) := by decide +kernel
theorem dX10_settle_0 : decode cX10_settle 0 = .ok (.iload_n 1, 1) := by decide +kernel
theorem dX10_settle_1 : decode cX10_settle 1 = .ok (.istore_n 2, 1) := by decide +kernel
theorem dX10_settle_2 : decode cX10_settle 2 = .ok (.iload_n 2, 1) := by decide +kernel
theorem dX10_settle_3 : decode cX10_settle 3 = .ok (.aload_n 0, 1) := by decide +kernel
theorem dX10_settle_4 : decode cX10_settle 4 = .ok (.getfield 34, 3) := by decide +kernel
theorem dX10_settle_7 : decode cX10_settle 7 = .ok (.if_icmp .ge 131, 3) := by decide +kernel
theorem dX10_settle_138 : decode cX10_settle 138 = .ok (.return_, 1) := by decide +kernel
theorem dX10_settle_10 : decode cX10_settle 10 = .ok (.iload_n 2, 1) := by decide +kernel
theorem dX10_settle_11 : decode cX10_settle 11 = .ok (.iconst 5, 1) := by decide +kernel
theorem dX10_settle_12 : decode cX10_settle 12 = .ok (.imul, 1) := by decide +kernel
theorem dX10_settle_13 : decode cX10_settle 13 = .ok (.istore_n 3, 1) := by decide +kernel
theorem dX10_settle_14 : decode cX10_settle 14 = .ok (.aload_n 0, 1) := by decide +kernel
theorem dX10_settle_15 : decode cX10_settle 15 = .ok (.getfield 21, 3) := by decide +kernel
theorem dX10_settle_18 : decode cX10_settle 18 = .ok (.iload_n 2, 1) := by decide +kernel
theorem dX10_settle_19 : decode cX10_settle 19 = .ok (.iaload, 1) := by decide +kernel
theorem dX10_settle_20 : decode cX10_settle 20 = .ok (.aload_n 0, 1) := by decide +kernel
theorem dX10_settle_21 : decode cX10_settle 21 = .ok (.getfield 25, 3) := by decide +kernel
theorem dX10_settle_24 : decode cX10_settle 24 = .ok (.iload_n 2, 1) := by decide +kernel
theorem dX10_settle_25 : decode cX10_settle 25 = .ok (.iaload, 1) := by decide +kernel
theorem dX10_settle_26 : decode cX10_settle 26 = .ok (.aload_n 0, 1) := by decide +kernel
theorem dX10_settle_27 : decode cX10_settle 27 = .ok (.getfield 31, 3) := by decide +kernel
theorem dX10_settle_30 : decode cX10_settle 30 = .ok (.iload_n 2, 1) := by decide +kernel
theorem dX10_settle_31 : decode cX10_settle 31 = .ok (.iaload, 1) := by decide +kernel
theorem dX10_settle_32 : decode cX10_settle 32 = .ok (.imul, 1) := by decide +kernel
theorem dX10_settle_33 : decode cX10_settle 33 = .ok (.iadd, 1) := by decide +kernel
theorem dX10_settle_34 : decode cX10_settle 34 = .ok (.i2l, 1) := by decide +kernel
theorem dX10_settle_35 : decode cX10_settle 35 = .ok (.lstore 4, 2) := by decide +kernel
theorem dX10_settle_37 : decode cX10_settle 37 = .ok (.aload_n 0, 1) := by decide +kernel
theorem dX10_settle_38 : decode cX10_settle 38 = .ok (.getfield 15, 3) := by decide +kernel
theorem dX10_settle_41 : decode cX10_settle 41 = .ok (.iload_n 2, 1) := by decide +kernel
theorem dX10_settle_42 : decode cX10_settle 42 = .ok (.iconst 1, 1) := by decide +kernel
theorem dX10_settle_43 : decode cX10_settle 43 = .ok (.iadd, 1) := by decide +kernel
theorem dX10_settle_44 : decode cX10_settle 44 = .ok (.aload_n 0, 1) := by decide +kernel
theorem dX10_settle_45 : decode cX10_settle 45 = .ok (.getfield 15, 3) := by decide +kernel
theorem dX10_settle_48 : decode cX10_settle 48 = .ok (.iload_n 2, 1) := by decide +kernel
theorem dX10_settle_49 : decode cX10_settle 49 = .ok (.laload, 1) := by decide +kernel
theorem dX10_settle_50 : decode cX10_settle 50 = .ok (.lload 4, 2) := by decide +kernel
theorem dX10_settle_52 : decode cX10_settle 52 = .ok (.lload 4, 2) := by decide +kernel
theorem dX10_settle_54 : decode cX10_settle 54 = .ok (.aload_n 0, 1) := by decide +kernel
theorem dX10_settle_55 : decode cX10_settle 55 = .ok (.getfield 9, 3) := by decide +kernel
theorem dX10_settle_58 : decode cX10_settle 58 = .ok (.iload_n 3, 1) := by decide +kernel
theorem dX10_settle_59 : decode cX10_settle 59 = .ok (.iload_n 2, 1) := by decide +kernel
theorem dX10_settle_60 : decode cX10_settle 60 = .ok (.iadd, 1) := by decide +kernel
theorem dX10_settle_61 : decode cX10_settle 61 = .ok (.laload, 1) := by decide +kernel
theorem dX10_settle_62 : decode cX10_settle 62 = .ok (.lmul, 1) := by decide +kernel
theorem dX10_settle_63 : decode cX10_settle 63 = .ok (.ldc2_w 78, 3) := by decide +kernel
theorem dX10_settle_66 : decode cX10_settle 66 = .ok (.aload_n 0, 1) := by decide +kernel
theorem dX10_settle_67 : decode cX10_settle 67 = .ok (.getfield 18, 3) := by decide +kernel
theorem dX10_settle_70 : decode cX10_settle 70 = .ok (.iload_n 3, 1) := by decide +kernel
theorem dX10_settle_71 : decode cX10_settle 71 = .ok (.iload_n 2, 1) := by decide +kernel
theorem dX10_settle_72 : decode cX10_settle 72 = .ok (.iadd, 1) := by decide +kernel
theorem dX10_settle_73 : decode cX10_settle 73 = .ok (.laload, 1) := by decide +kernel
theorem dX10_settle_74 : decode cX10_settle 74 = .ok (.lmul, 1) := by decide +kernel
theorem dX10_settle_75 : decode cX10_settle 75 = .ok (.lsub, 1) := by decide +kernel
theorem dX10_settle_76 : decode cX10_settle 76 = .ok (.lmul, 1) := by decide +kernel
theorem dX10_settle_77 : decode cX10_settle 77 = .ok (.ladd, 1) := by decide +kernel
theorem dX10_settle_78 : decode cX10_settle 78 = .ok (.lastore, 1) := by decide +kernel
theorem dX10_settle_79 : decode cX10_settle 79 = .ok (.iload_n 2, 1) := by decide +kernel
theorem dX10_settle_80 : decode cX10_settle 80 = .ok (.iconst 1, 1) := by decide +kernel
theorem dX10_settle_81 : decode cX10_settle 81 = .ok (.iadd, 1) := by decide +kernel
theorem dX10_settle_82 : decode cX10_settle 82 = .ok (.istore 6, 2) := by decide +kernel
theorem dX10_settle_84 : decode cX10_settle 84 = .ok (.iload 6, 2) := by decide +kernel
theorem dX10_settle_86 : decode cX10_settle 86 = .ok (.aload_n 0, 1) := by decide +kernel
theorem dX10_settle_87 : decode cX10_settle 87 = .ok (.getfield 34, 3) := by decide +kernel
theorem dX10_settle_90 : decode cX10_settle 90 = .ok (.if_icmp .gt 42, 3) := by decide +kernel
theorem dX10_settle_132 : decode cX10_settle 132 = .ok (.iinc 2 1, 3) := by decide +kernel
theorem dX10_settle_135 : decode cX10_settle 135 = .ok (.goto (-133), 3) := by decide +kernel
theorem dX10_settle_93 : decode cX10_settle 93 = .ok (.aload_n 0, 1) := by decide +kernel
theorem dX10_settle_94 : decode cX10_settle 94 = .ok (.getfield 18, 3) := by decide +kernel
theorem dX10_settle_97 : decode cX10_settle 97 = .ok (.iload_n 3, 1) := by decide +kernel
theorem dX10_settle_98 : decode cX10_settle 98 = .ok (.iconst 5, 1) := by decide +kernel
theorem dX10_settle_99 : decode cX10_settle 99 = .ok (.iadd, 1) := by decide +kernel
theorem dX10_settle_100 : decode cX10_settle 100 = .ok (.iload 6, 2) := by decide +kernel
theorem dX10_settle_102 : decode cX10_settle 102 = .ok (.iadd, 1) := by decide +kernel
theorem dX10_settle_103 : decode cX10_settle 103 = .ok (.aload_n 0, 1) := by decide +kernel
theorem dX10_settle_104 : decode cX10_settle 104 = .ok (.getfield 18, 3) := by decide +kernel
theorem dX10_settle_107 : decode cX10_settle 107 = .ok (.iload_n 3, 1) := by decide +kernel
theorem dX10_settle_108 : decode cX10_settle 108 = .ok (.iload 6, 2) := by decide +kernel
theorem dX10_settle_110 : decode cX10_settle 110 = .ok (.iadd, 1) := by decide +kernel
theorem dX10_settle_111 : decode cX10_settle 111 = .ok (.laload, 1) := by decide +kernel
theorem dX10_settle_112 : decode cX10_settle 112 = .ok (.lload 4, 2) := by decide +kernel
theorem dX10_settle_114 : decode cX10_settle 114 = .ok (.aload_n 0, 1) := by decide +kernel
theorem dX10_settle_115 : decode cX10_settle 115 = .ok (.getfield 9, 3) := by decide +kernel
theorem dX10_settle_118 : decode cX10_settle 118 = .ok (.iload_n 3, 1) := by decide +kernel
theorem dX10_settle_119 : decode cX10_settle 119 = .ok (.iload 6, 2) := by decide +kernel
theorem dX10_settle_121 : decode cX10_settle 121 = .ok (.iadd, 1) := by decide +kernel
theorem dX10_settle_122 : decode cX10_settle 122 = .ok (.laload, 1) := by decide +kernel
theorem dX10_settle_123 : decode cX10_settle 123 = .ok (.lmul, 1) := by decide +kernel
theorem dX10_settle_124 : decode cX10_settle 124 = .ok (.lsub, 1) := by decide +kernel
theorem dX10_settle_125 : decode cX10_settle 125 = .ok (.lastore, 1) := by decide +kernel
theorem dX10_settle_126 : decode cX10_settle 126 = .ok (.iinc 6 1, 3) := by decide +kernel
theorem dX10_settle_129 : decode cX10_settle 129 = .ok (.goto (-45), 3) := by decide +kernel
theorem dX10_firstLine_13 : decode cX10_firstLine 13 = .ok (.return_, 1) := by decide +kernel
theorem dX10_lineCount_0 : decode cX10_lineCount 0 = .ok (.iconst 1, 1) := by decide +kernel
theorem dX10_lineCount_1 : decode cX10_lineCount 1 = .ok (.istore_n 1, 1) := by decide +kernel
theorem dX10_lineCount_2 : decode cX10_lineCount 2 = .ok (.iconst 0, 1) := by decide +kernel
theorem dX10_lineCount_3 : decode cX10_lineCount 3 = .ok (.istore_n 2, 1) := by decide +kernel
theorem dX10_lineCount_4 : decode cX10_lineCount 4 = .ok (.iload_n 2, 1) := by decide +kernel
theorem dX10_lineCount_5 : decode cX10_lineCount 5 = .ok (.aload_n 0, 1) := by decide +kernel
theorem dX10_lineCount_6 : decode cX10_lineCount 6 = .ok (.getfield 34, 3) := by decide +kernel
theorem dX10_lineCount_9 : decode cX10_lineCount 9 = .ok (.if_icmp .ge 18, 3) := by decide +kernel
theorem dX10_lineCount_27 : decode cX10_lineCount 27 = .ok (.iload_n 1, 1) := by decide +kernel
theorem dX10_lineCount_28 : decode cX10_lineCount 28 = .ok (.ireturn, 1) := by decide +kernel
theorem dX10_lineCount_12 : decode cX10_lineCount 12 = .ok (.iload_n 1, 1) := by decide +kernel
theorem dX10_lineCount_13 : decode cX10_lineCount 13 = .ok (.aload_n 0, 1) := by decide +kernel
theorem dX10_lineCount_14 : decode cX10_lineCount 14 = .ok (.getfield 28, 3) := by decide +kernel
theorem dX10_lineCount_17 : decode cX10_lineCount 17 = .ok (.iload_n 2, 1) := by decide +kernel
theorem dX10_lineCount_18 : decode cX10_lineCount 18 = .ok (.iaload, 1) := by decide +kernel
theorem dX10_lineCount_19 : decode cX10_lineCount 19 = .ok (.imul, 1) := by decide +kernel
theorem dX10_lineCount_20 : decode cX10_lineCount 20 = .ok (.istore_n 1, 1) := by decide +kernel
theorem dX10_lineCount_21 : decode cX10_lineCount 21 = .ok (.iinc 2 1, 3) := by decide +kernel
theorem dX10_lineCount_24 : decode cX10_lineCount 24 = .ok (.goto (-20), 3) := by decide +kernel
theorem dX10_squaresAt_0 : decode cX10_squaresAt 0 = .ok (.aload_n 0, 1) := by decide +kernel
theorem dX10_squaresAt_1 : decode cX10_squaresAt 1 = .ok (.getfield 34, 3) := by decide +kernel
theorem dX10_squaresAt_4 : decode cX10_squaresAt 4 = .ok (.iconst 5, 1) := by decide +kernel
theorem dX10_squaresAt_5 : decode cX10_squaresAt 5 = .ok (.imul, 1) := by decide +kernel
theorem dX10_squaresAt_6 : decode cX10_squaresAt 6 = .ok (.aload_n 0, 1) := by decide +kernel
theorem dX10_squaresAt_7 : decode cX10_squaresAt 7 = .ok (.getfield 34, 3) := by decide +kernel
theorem dX10_squaresAt_10 : decode cX10_squaresAt 10 = .ok (.iadd, 1) := by decide +kernel
theorem dX10_squaresAt_11 : decode cX10_squaresAt 11 = .ok (.istore_n 2, 1) := by decide +kernel
theorem dX10_squaresAt_12 : decode cX10_squaresAt 12 = .ok (.aload_n 0, 1) := by decide +kernel
theorem dX10_squaresAt_13 : decode cX10_squaresAt 13 = .ok (.getfield 21, 3) := by decide +kernel
theorem dX10_squaresAt_16 : decode cX10_squaresAt 16 = .ok (.aload_n 0, 1) := by decide +kernel
theorem dX10_squaresAt_17 : decode cX10_squaresAt 17 = .ok (.getfield 34, 3) := by decide +kernel
theorem dX10_squaresAt_20 : decode cX10_squaresAt 20 = .ok (.iaload, 1) := by decide +kernel
theorem dX10_squaresAt_21 : decode cX10_squaresAt 21 = .ok (.aload_n 0, 1) := by decide +kernel
theorem dX10_squaresAt_22 : decode cX10_squaresAt 22 = .ok (.getfield 25, 3) := by decide +kernel
theorem dX10_squaresAt_25 : decode cX10_squaresAt 25 = .ok (.aload_n 0, 1) := by decide +kernel
theorem dX10_squaresAt_26 : decode cX10_squaresAt 26 = .ok (.getfield 34, 3) := by decide +kernel
theorem dX10_squaresAt_29 : decode cX10_squaresAt 29 = .ok (.iaload, 1) := by decide +kernel
theorem dX10_squaresAt_30 : decode cX10_squaresAt 30 = .ok (.iload_n 1, 1) := by decide +kernel
theorem dX10_squaresAt_31 : decode cX10_squaresAt 31 = .ok (.imul, 1) := by decide +kernel
theorem dX10_squaresAt_32 : decode cX10_squaresAt 32 = .ok (.iadd, 1) := by decide +kernel
theorem dX10_squaresAt_33 : decode cX10_squaresAt 33 = .ok (.i2l, 1) := by decide +kernel
theorem dX10_squaresAt_34 : decode cX10_squaresAt 34 = .ok (.lstore_n 3, 1) := by decide +kernel
theorem dX10_squaresAt_35 : decode cX10_squaresAt 35 = .ok (.aload_n 0, 1) := by decide +kernel
theorem dX10_squaresAt_36 : decode cX10_squaresAt 36 = .ok (.getfield 15, 3) := by decide +kernel
theorem dX10_squaresAt_39 : decode cX10_squaresAt 39 = .ok (.aload_n 0, 1) := by decide +kernel
theorem dX10_squaresAt_40 : decode cX10_squaresAt 40 = .ok (.getfield 34, 3) := by decide +kernel
theorem dX10_squaresAt_43 : decode cX10_squaresAt 43 = .ok (.laload, 1) := by decide +kernel
theorem dX10_squaresAt_44 : decode cX10_squaresAt 44 = .ok (.lload_n 3, 1) := by decide +kernel
theorem dX10_squaresAt_45 : decode cX10_squaresAt 45 = .ok (.lload_n 3, 1) := by decide +kernel
theorem dX10_squaresAt_46 : decode cX10_squaresAt 46 = .ok (.aload_n 0, 1) := by decide +kernel
theorem dX10_squaresAt_47 : decode cX10_squaresAt 47 = .ok (.getfield 9, 3) := by decide +kernel
theorem dX10_squaresAt_50 : decode cX10_squaresAt 50 = .ok (.iload_n 2, 1) := by decide +kernel
theorem dX10_squaresAt_51 : decode cX10_squaresAt 51 = .ok (.laload, 1) := by decide +kernel
theorem dX10_squaresAt_52 : decode cX10_squaresAt 52 = .ok (.lmul, 1) := by decide +kernel
theorem dX10_squaresAt_53 : decode cX10_squaresAt 53 = .ok (.ldc2_w 78, 3) := by decide +kernel
theorem dX10_squaresAt_56 : decode cX10_squaresAt 56 = .ok (.aload_n 0, 1) := by decide +kernel
theorem dX10_squaresAt_57 : decode cX10_squaresAt 57 = .ok (.getfield 18, 3) := by decide +kernel
theorem dX10_squaresAt_60 : decode cX10_squaresAt 60 = .ok (.iload_n 2, 1) := by decide +kernel
theorem dX10_squaresAt_61 : decode cX10_squaresAt 61 = .ok (.laload, 1) := by decide +kernel
theorem dX10_squaresAt_62 : decode cX10_squaresAt 62 = .ok (.lmul, 1) := by decide +kernel
theorem dX10_squaresAt_63 : decode cX10_squaresAt 63 = .ok (.lsub, 1) := by decide +kernel
theorem dX10_squaresAt_64 : decode cX10_squaresAt 64 = .ok (.lmul, 1) := by decide +kernel
theorem dX10_squaresAt_65 : decode cX10_squaresAt 65 = .ok (.ladd, 1) := by decide +kernel
theorem dX10_squaresAt_66 : decode cX10_squaresAt 66 = .ok (.lreturn, 1) := by decide +kernel
theorem dX10_nextLine_0 : decode cX10_nextLine 0 = .ok (.aload_n 0, 1) := by decide +kernel
theorem dX10_nextLine_1 : decode cX10_nextLine 1 = .ok (.getfield 34, 3) := by decide +kernel
theorem dX10_nextLine_4 : decode cX10_nextLine 4 = .ok (.iconst 1, 1) := by decide +kernel
theorem dX10_nextLine_5 : decode cX10_nextLine 5 = .ok (.isub, 1) := by decide +kernel
theorem dX10_nextLine_6 : decode cX10_nextLine 6 = .ok (.istore_n 1, 1) := by decide +kernel
theorem dX10_nextLine_7 : decode cX10_nextLine 7 = .ok (.iload_n 1, 1) := by decide +kernel
theorem dX10_nextLine_8 : decode cX10_nextLine 8 = .ok (.ifCond .lt 33, 3) := by decide +kernel
theorem dX10_nextLine_41 : decode cX10_nextLine 41 = .ok (.iload_n 1, 1) := by decide +kernel
theorem dX10_nextLine_42 : decode cX10_nextLine 42 = .ok (.ifCond .lt 18, 3) := by decide +kernel
theorem dX10_nextLine_60 : decode cX10_nextLine 60 = .ok (.return_, 1) := by decide +kernel
theorem dX10_nextLine_11 : decode cX10_nextLine 11 = .ok (.aload_n 0, 1) := by decide +kernel
theorem dX10_nextLine_12 : decode cX10_nextLine 12 = .ok (.getfield 31, 3) := by decide +kernel
theorem dX10_nextLine_15 : decode cX10_nextLine 15 = .ok (.iload_n 1, 1) := by decide +kernel
theorem dX10_nextLine_16 : decode cX10_nextLine 16 = .ok (.iaload, 1) := by decide +kernel
theorem dX10_nextLine_17 : decode cX10_nextLine 17 = .ok (.iconst 1, 1) := by decide +kernel
theorem dX10_nextLine_18 : decode cX10_nextLine 18 = .ok (.iadd, 1) := by decide +kernel
theorem dX10_nextLine_19 : decode cX10_nextLine 19 = .ok (.aload_n 0, 1) := by decide +kernel
theorem dX10_nextLine_20 : decode cX10_nextLine 20 = .ok (.getfield 28, 3) := by decide +kernel
theorem dX10_nextLine_23 : decode cX10_nextLine 23 = .ok (.iload_n 1, 1) := by decide +kernel
