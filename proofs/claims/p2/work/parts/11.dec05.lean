theorem dX3_forget_6 : decode cX3_forget 6 = .ok (.ldc2_w 43, 3) := by decide +kernel
theorem dX3_forget_9 : decode cX3_forget 9 = .ok (.putfield 45, 3) := by decide +kernel
theorem dX3_forget_12 : decode cX3_forget 12 = .ok (.aload_n 0, 1) := by decide +kernel
theorem dX3_forget_13 : decode cX3_forget 13 = .ok (.ldc2_w 43, 3) := by decide +kernel
theorem dX3_forget_16 : decode cX3_forget 16 = .ok (.putfield 48, 3) := by decide +kernel
theorem dX3_forget_19 : decode cX3_forget 19 = .ok (.return_, 1) := by decide +kernel
theorem dX3_mostOfAll_0 : decode cX3_mostOfAll 0 = .ok (.aload_n 0, 1) := by decide +kernel
theorem dX3_mostOfAll_1 : decode cX3_mostOfAll 1 = .ok (.getfield 48, 3) := by decide +kernel
theorem dX3_mostOfAll_4 : decode cX3_mostOfAll 4 = .ok (.lconst 0, 1) := by decide +kernel
theorem dX3_mostOfAll_5 : decode cX3_mostOfAll 5 = .ok (.lcmp, 1) := by decide +kernel
theorem dX3_mostOfAll_6 : decode cX3_mostOfAll 6 = .ok (.ifCond .lt 8, 3) := by decide +kernel
theorem dX3_mostOfAll_14 : decode cX3_mostOfAll 14 = .ok (.aload_n 0, 1) := by decide +kernel
theorem dX3_mostOfAll_15 : decode cX3_mostOfAll 15 = .ok (.getfield 12, 3) := by decide +kernel
theorem dX3_mostOfAll_18 : decode cX3_mostOfAll 18 = .ok (.aload_n 1, 1) := by decide +kernel
theorem dX3_mostOfAll_19 : decode cX3_mostOfAll 19 = .ok (.invokevirtual 51, 3) := by decide +kernel
theorem dX3_mostOfAll_22 : decode cX3_mostOfAll 22 = .ok (.aload_n 0, 1) := by decide +kernel
theorem dX3_mostOfAll_23 : decode cX3_mostOfAll 23 = .ok (.aload_n 1, 1) := by decide +kernel
theorem dX3_mostOfAll_24 : decode cX3_mostOfAll 24 = .ok (.invokevirtual 143, 3) := by decide +kernel
theorem dX3_startTrying_0 : decode cX3_startTrying 0 = .ok (.aload_n 0, 1) := by decide +kernel
theorem dX3_startTrying_1 : decode cX3_startTrying 1 = .ok (.getfield 28, 3) := by decide +kernel
theorem dX3_startTrying_4 : decode cX3_startTrying 4 = .ok (.iconst 0, 1) := by decide +kernel
theorem dX3_startTrying_5 : decode cX3_startTrying 5 = .ok (.invokestatic 162, 3) := by decide +kernel
theorem dX3_startTrying_8 : decode cX3_startTrying 8 = .ok (.aload_n 0, 1) := by decide +kernel
theorem dX3_startTrying_9 : decode cX3_startTrying 9 = .ok (.getfield 31, 3) := by decide +kernel
theorem dX3_startTrying_12 : decode cX3_startTrying 12 = .ok (.lconst 0, 1) := by decide +kernel
theorem dX3_startTrying_13 : decode cX3_startTrying 13 = .ok (.invokestatic 168, 3) := by decide +kernel
theorem dX3_startTrying_16 : decode cX3_startTrying 16 = .ok (.aload_n 0, 1) := by decide +kernel
theorem dX3_startTrying_17 : decode cX3_startTrying 17 = .ok (.lconst 0, 1) := by decide +kernel
theorem dX3_startTrying_18 : decode cX3_startTrying 18 = .ok (.putfield 35, 3) := by decide +kernel
theorem dX3_startTrying_21 : decode cX3_startTrying 21 = .ok (.iconst 0, 1) := by decide +kernel
theorem dX3_startTrying_22 : decode cX3_startTrying 22 = .ok (.istore_n 2, 1) := by decide +kernel
theorem dX3_startTrying_23 : decode cX3_startTrying 23 = .ok (.iload_n 2, 1) := by decide +kernel
theorem dX3_startTrying_24 : decode cX3_startTrying 24 = .ok (.aload_n 1, 1) := by decide +kernel
theorem dX3_startTrying_25 : decode cX3_startTrying 25 = .ok (.getfield 79, 3) := by decide +kernel
theorem dX3_startTrying_28 : decode cX3_startTrying 28 = .ok (.if_icmp .ge 33, 3) := by decide +kernel
theorem dX3_startTrying_61 : decode cX3_startTrying 61 = .ok (.return_, 1) := by decide +kernel
theorem dX3_startTrying_31 : decode cX3_startTrying 31 = .ok (.aload_n 0, 1) := by decide +kernel
theorem dX3_startTrying_32 : decode cX3_startTrying 32 = .ok (.getfield 25, 3) := by decide +kernel
theorem dX3_startTrying_35 : decode cX3_startTrying 35 = .ok (.iload_n 2, 1) := by decide +kernel
theorem dX3_startTrying_36 : decode cX3_startTrying 36 = .ok (.iconst 1, 1) := by decide +kernel
theorem dX3_startTrying_37 : decode cX3_startTrying 37 = .ok (.aload_n 1, 1) := by decide +kernel
theorem dX3_startTrying_38 : decode cX3_startTrying 38 = .ok (.getfield 77, 3) := by decide +kernel
theorem dX3_startTrying_41 : decode cX3_startTrying 41 = .ok (.isub, 1) := by decide +kernel
theorem dX3_startTrying_42 : decode cX3_startTrying 42 = .ok (.iastore, 1) := by decide +kernel
theorem dX3_startTrying_43 : decode cX3_startTrying 43 = .ok (.aload_n 0, 1) := by decide +kernel
theorem dX3_startTrying_44 : decode cX3_startTrying 44 = .ok (.iload_n 2, 1) := by decide +kernel
theorem dX3_startTrying_45 : decode cX3_startTrying 45 = .ok (.aload_n 0, 1) := by decide +kernel
theorem dX3_startTrying_46 : decode cX3_startTrying 46 = .ok (.getfield 25, 3) := by decide +kernel
theorem dX3_startTrying_49 : decode cX3_startTrying 49 = .ok (.iload_n 2, 1) := by decide +kernel
theorem dX3_startTrying_50 : decode cX3_startTrying 50 = .ok (.iaload, 1) := by decide +kernel
theorem dX3_startTrying_51 : decode cX3_startTrying 51 = .ok (.i2l, 1) := by decide +kernel
theorem dX3_startTrying_52 : decode cX3_startTrying 52 = .ok (.invokevirtual 171, 3) := by decide +kernel
theorem dX3_move_0 : decode cX3_move 0 = .ok (.iload_n 1, 1) := by decide +kernel
theorem dX3_move_1 : decode cX3_move 1 = .ok (.iconst 5, 1) := by decide +kernel
theorem dX3_move_2 : decode cX3_move 2 = .ok (.imul, 1) := by decide +kernel
theorem dX3_move_3 : decode cX3_move 3 = .ok (.istore 4, 2) := by decide +kernel
theorem dX3_move_5 : decode cX3_move 5 = .ok (.aload_n 0, 1) := by decide +kernel
theorem dX3_move_6 : decode cX3_move 6 = .ok (.dup, 1) := by decide +kernel
theorem dX3_move_7 : decode cX3_move 7 = .ok (.getfield 35, 3) := by decide +kernel
theorem dX3_move_10 : decode cX3_move 10 = .ok (.lload_n 2, 1) := by decide +kernel
theorem dX3_move_11 : decode cX3_move 11 = .ok (.ldc2_w 175, 3) := by decide +kernel
theorem dX3_move_14 : decode cX3_move 14 = .ok (.aload_n 0, 1) := by decide +kernel
theorem dX3_move_15 : decode cX3_move 15 = .ok (.getfield 31, 3) := by decide +kernel
theorem dX3_move_18 : decode cX3_move 18 = .ok (.iload_n 1, 1) := by decide +kernel
theorem dX3_move_19 : decode cX3_move 19 = .ok (.laload, 1) := by decide +kernel
theorem dX3_move_20 : decode cX3_move 20 = .ok (.lmul, 1) := by decide +kernel
theorem dX3_move_21 : decode cX3_move 21 = .ok (.lload_n 2, 1) := by decide +kernel
theorem dX3_move_22 : decode cX3_move 22 = .ok (.aload_n 0, 1) := by decide +kernel
theorem dX3_move_23 : decode cX3_move 23 = .ok (.getfield 12, 3) := by decide +kernel
theorem dX3_move_26 : decode cX3_move 26 = .ok (.getfield 177, 3) := by decide +kernel
theorem dX3_move_29 : decode cX3_move 29 = .ok (.iload 4, 2) := by decide +kernel
theorem dX3_move_31 : decode cX3_move 31 = .ok (.iload_n 1, 1) := by decide +kernel
theorem dX3_move_32 : decode cX3_move 32 = .ok (.iadd, 1) := by decide +kernel
theorem dX3_move_33 : decode cX3_move 33 = .ok (.laload, 1) := by decide +kernel
theorem dX3_move_34 : decode cX3_move 34 = .ok (.lmul, 1) := by decide +kernel
theorem dX3_move_35 : decode cX3_move 35 = .ok (.ladd, 1) := by decide +kernel
theorem dX3_move_36 : decode cX3_move 36 = .ok (.lmul, 1) := by decide +kernel
theorem dX3_move_37 : decode cX3_move 37 = .ok (.ladd, 1) := by decide +kernel
theorem dX3_move_38 : decode cX3_move 38 = .ok (.putfield 35, 3) := by decide +kernel
theorem dX3_move_41 : decode cX3_move 41 = .ok (.iconst 0, 1) := by decide +kernel
theorem dX3_move_42 : decode cX3_move 42 = .ok (.istore 5, 2) := by decide +kernel
theorem dX3_move_44 : decode cX3_move 44 = .ok (.iload 5, 2) := by decide +kernel
theorem dX3_move_46 : decode cX3_move 46 = .ok (.aload_n 0, 1) := by decide +kernel
theorem dX3_move_47 : decode cX3_move 47 = .ok (.getfield 12, 3) := by decide +kernel
theorem dX3_move_50 : decode cX3_move 50 = .ok (.getfield 110, 3) := by decide +kernel
theorem dX3_move_53 : decode cX3_move 53 = .ok (.if_icmp .gt 34, 3) := by decide +kernel
theorem dX3_move_56 : decode cX3_move 56 = .ok (.aload_n 0, 1) := by decide +kernel
theorem dX3_move_57 : decode cX3_move 57 = .ok (.getfield 31, 3) := by decide +kernel
theorem dX3_move_60 : decode cX3_move 60 = .ok (.iload 5, 2) := by decide +kernel
theorem dX3_move_62 : decode cX3_move 62 = .ok (.dup2, 1) := by decide +kernel
theorem dX3_move_63 : decode cX3_move 63 = .ok (.laload, 1) := by decide +kernel
theorem dX3_move_64 : decode cX3_move 64 = .ok (.lload_n 2, 1) := by decide +kernel
theorem dX3_move_65 : decode cX3_move 65 = .ok (.aload_n 0, 1) := by decide +kernel
theorem dX3_move_66 : decode cX3_move 66 = .ok (.getfield 12, 3) := by decide +kernel
theorem dX3_move_69 : decode cX3_move 69 = .ok (.getfield 177, 3) := by decide +kernel
theorem dX3_move_72 : decode cX3_move 72 = .ok (.iload 4, 2) := by decide +kernel
theorem dX3_move_74 : decode cX3_move 74 = .ok (.iload 5, 2) := by decide +kernel
theorem dX3_move_76 : decode cX3_move 76 = .ok (.iadd, 1) := by decide +kernel
theorem dX3_move_77 : decode cX3_move 77 = .ok (.laload, 1) := by decide +kernel
theorem dX3_move_78 : decode cX3_move 78 = .ok (.lmul, 1) := by decide +kernel
theorem dX3_move_79 : decode cX3_move 79 = .ok (.ladd, 1) := by decide +kernel
theorem dX3_move_80 : decode cX3_move 80 = .ok (.lastore, 1) := by decide +kernel
theorem dX3_move_81 : decode cX3_move 81 = .ok (.iinc 5 1, 3) := by decide +kernel
theorem dX3_move_84 : decode cX3_move 84 = .ok (.goto (-40), 3) := by decide +kernel
theorem dX3_move_87 : decode cX3_move 87 = .ok (.return_, 1) := by decide +kernel
theorem dX3_startTrying_55 : decode cX3_startTrying 55 = .ok (.iinc 2 1, 3) := by decide +kernel
theorem dX3_startTrying_58 : decode cX3_startTrying 58 = .ok (.goto (-35), 3) := by decide +kernel
theorem dX3_mostOfAll_27 : decode cX3_mostOfAll 27 = .ok (.ldc2_w 43, 3) := by decide +kernel
theorem dX3_mostOfAll_30 : decode cX3_mostOfAll 30 = .ok (.lstore_n 2, 1) := by decide +kernel
theorem dX3_mostOfAll_31 : decode cX3_mostOfAll 31 = .ok (.aload_n 1, 1) := by decide +kernel
theorem dX3_mostOfAll_32 : decode cX3_mostOfAll 32 = .ok (.invokevirtual 146, 3) := by decide +kernel
theorem dX3_mostOfAll_35 : decode cX3_mostOfAll 35 = .ok (.iconst 1, 1) := by decide +kernel
theorem dX3_mostOfAll_36 : decode cX3_mostOfAll 36 = .ok (.iadd, 1) := by decide +kernel
theorem dX3_mostOfAll_37 : decode cX3_mostOfAll 37 = .ok (.iconst 2, 1) := by decide +kernel
theorem dX3_mostOfAll_38 : decode cX3_mostOfAll 38 = .ok (.idiv, 1) := by decide +kernel
theorem dX3_mostOfAll_39 : decode cX3_mostOfAll 39 = .ok (.istore 4, 2) := by decide +kernel
theorem dX3_mostOfAll_41 : decode cX3_mostOfAll 41 = .ok (.iconst 0, 1) := by decide +kernel
theorem dX3_mostOfAll_42 : decode cX3_mostOfAll 42 = .ok (.istore 5, 2) := by decide +kernel
theorem dX3_mostOfAll_44 : decode cX3_mostOfAll 44 = .ok (.iload 5, 2) := by decide +kernel
theorem dX3_mostOfAll_46 : decode cX3_mostOfAll 46 = .ok (.iload 4, 2) := by decide +kernel
theorem dX3_mostOfAll_48 : decode cX3_mostOfAll 48 = .ok (.if_icmp .ge 43, 3) := by decide +kernel
theorem dX3_mostOfAll_91 : decode cX3_mostOfAll 91 = .ok (.aload_n 0, 1) := by decide +kernel
theorem dX3_mostOfAll_92 : decode cX3_mostOfAll 92 = .ok (.lload_n 2, 1) := by decide +kernel
theorem dX3_mostOfAll_93 : decode cX3_mostOfAll 93 = .ok (.putfield 48, 3) := by decide +kernel
theorem dX3_mostOfAll_96 : decode cX3_mostOfAll 96 = .ok (.lload_n 2, 1) := by decide +kernel
theorem dX3_mostOfAll_97 : decode cX3_mostOfAll 97 = .ok (.lreturn, 1) := by decide +kernel
theorem dX3_mostOfAll_51 : decode cX3_mostOfAll 51 = .ok (.aload_n 0, 1) := by decide +kernel
theorem dX3_mostOfAll_52 : decode cX3_mostOfAll 52 = .ok (.lload_n 2, 1) := by decide +kernel
theorem dX3_mostOfAll_53 : decode cX3_mostOfAll 53 = .ok (.aload_n 1, 1) := by decide +kernel
theorem dX3_mostOfAll_54 : decode cX3_mostOfAll 54 = .ok (.invokevirtual 149, 3) := by decide +kernel
theorem dX3_fallsTo_0 : decode cX3_fallsTo 0 = .ok (.iconst 2, 1) := by decide +kernel
theorem dX3_fallsTo_1 : decode cX3_fallsTo 1 = .ok (.aload_n 3, 1) := by decide +kernel
theorem dX3_fallsTo_2 : decode cX3_fallsTo 2 = .ok (.getfield 77, 3) := by decide +kernel
theorem dX3_fallsTo_5 : decode cX3_fallsTo 5 = .ok (.imul, 1) := by decide +kernel
theorem dX3_fallsTo_6 : decode cX3_fallsTo 6 = .ok (.istore 4, 2) := by decide +kernel
theorem dX3_fallsTo_8 : decode cX3_fallsTo 8 = .ok (.iconst 0, 1) := by decide +kernel
theorem dX3_fallsTo_9 : decode cX3_fallsTo 9 = .ok (.istore 5, 2) := by decide +kernel
theorem dX3_fallsTo_11 : decode cX3_fallsTo 11 = .ok (.iload 5, 2) := by decide +kernel
theorem dX3_fallsTo_13 : decode cX3_fallsTo 13 = .ok (.sipush 243, 3) := by decide +kernel
theorem dX3_fallsTo_16 : decode cX3_fallsTo 16 = .ok (.if_icmp .ge 74, 3) := by decide +kernel
theorem dX3_fallsTo_19 : decode cX3_fallsTo 19 = .ok (.aload_n 0, 1) := by decide +kernel
theorem dX3_fallsTo_20 : decode cX3_fallsTo 20 = .ok (.getfield 35, 3) := by decide +kernel
theorem dX3_fallsTo_23 : decode cX3_fallsTo 23 = .ok (.lload_n 1, 1) := by decide +kernel
theorem dX3_fallsTo_24 : decode cX3_fallsTo 24 = .ok (.lcmp, 1) := by decide +kernel
theorem dX3_fallsTo_25 : decode cX3_fallsTo 25 = .ok (.ifCond .le 65, 3) := by decide +kernel
theorem dX3_fallsTo_90 : decode cX3_fallsTo 90 = .ok (.aload_n 0, 1) := by decide +kernel
theorem dX3_fallsTo_91 : decode cX3_fallsTo 91 = .ok (.getfield 35, 3) := by decide +kernel
theorem dX3_fallsTo_94 : decode cX3_fallsTo 94 = .ok (.lload_n 1, 1) := by decide +kernel
theorem dX3_fallsTo_95 : decode cX3_fallsTo 95 = .ok (.lcmp, 1) := by decide +kernel
theorem dX3_fallsTo_96 : decode cX3_fallsTo 96 = .ok (.ifCond .gt 7, 3) := by decide +kernel
theorem dX3_fallsTo_103 : decode cX3_fallsTo 103 = .ok (.iconst 0, 1) := by decide +kernel
theorem dX3_fallsTo_104 : decode cX3_fallsTo 104 = .ok (.ireturn, 1) := by decide +kernel
theorem dX3_fallsTo_99 : decode cX3_fallsTo 99 = .ok (.iconst 1, 1) := by decide +kernel
theorem dX3_fallsTo_100 : decode cX3_fallsTo 100 = .ok (.goto 4, 3) := by decide +kernel
theorem dX3_fallsTo_28 : decode cX3_fallsTo 28 = .ok (.aload_n 0, 1) := by decide +kernel
theorem dX3_fallsTo_29 : decode cX3_fallsTo 29 = .ok (.getfield 35, 3) := by decide +kernel
theorem dX3_fallsTo_32 : decode cX3_fallsTo 32 = .ok (.lstore 6, 2) := by decide +kernel
theorem dX3_fallsTo_34 : decode cX3_fallsTo 34 = .ok (.iconst 0, 1) := by decide +kernel
theorem dX3_fallsTo_35 : decode cX3_fallsTo 35 = .ok (.istore 8, 2) := by decide +kernel
theorem dX3_fallsTo_37 : decode cX3_fallsTo 37 = .ok (.iload 8, 2) := by decide +kernel
theorem dX3_fallsTo_39 : decode cX3_fallsTo 39 = .ok (.aload_n 0, 1) := by decide +kernel
theorem dX3_fallsTo_40 : decode cX3_fallsTo 40 = .ok (.getfield 12, 3) := by decide +kernel
theorem dX3_fallsTo_43 : decode cX3_fallsTo 43 = .ok (.getfield 110, 3) := by decide +kernel
theorem dX3_fallsTo_46 : decode cX3_fallsTo 46 = .ok (.if_icmp .gt 26, 3) := by decide +kernel
theorem dX3_fallsTo_49 : decode cX3_fallsTo 49 = .ok (.aload_n 0, 1) := by decide +kernel
theorem dX3_fallsTo_50 : decode cX3_fallsTo 50 = .ok (.getfield 35, 3) := by decide +kernel
theorem dX3_fallsTo_53 : decode cX3_fallsTo 53 = .ok (.lload_n 1, 1) := by decide +kernel
theorem dX3_fallsTo_54 : decode cX3_fallsTo 54 = .ok (.lcmp, 1) := by decide +kernel
theorem dX3_fallsTo_55 : decode cX3_fallsTo 55 = .ok (.ifCond .le 17, 3) := by decide +kernel
theorem dX3_fallsTo_72 : decode cX3_fallsTo 72 = .ok (.aload_n 0, 1) := by decide +kernel
theorem dX3_fallsTo_73 : decode cX3_fallsTo 73 = .ok (.getfield 35, 3) := by decide +kernel
theorem dX3_fallsTo_76 : decode cX3_fallsTo 76 = .ok (.lload 6, 2) := by decide +kernel
theorem dX3_fallsTo_78 : decode cX3_fallsTo 78 = .ok (.lcmp, 1) := by decide +kernel
theorem dX3_fallsTo_79 : decode cX3_fallsTo 79 = .ok (.ifCond .ne 5, 3) := by decide +kernel
theorem dX3_fallsTo_82 : decode cX3_fallsTo 82 = .ok (.iconst 0, 1) := by decide +kernel
theorem dX3_fallsTo_83 : decode cX3_fallsTo 83 = .ok (.ireturn, 1) := by decide +kernel
theorem dX3_fallsTo_58 : decode cX3_fallsTo 58 = .ok (.aload_n 0, 1) := by decide +kernel
theorem dX3_fallsTo_59 : decode cX3_fallsTo 59 = .ok (.iload 8, 2) := by decide +kernel
theorem dX3_fallsTo_61 : decode cX3_fallsTo 61 = .ok (.iload 4, 2) := by decide +kernel
theorem dX3_fallsTo_63 : decode cX3_fallsTo 63 = .ok (.invokevirtual 180, 3) := by decide +kernel
theorem dX3_better_0 : decode cX3_better 0 = .ok (.aload_n 0, 1) := by decide +kernel
theorem dX3_better_1 : decode cX3_better 1 = .ok (.getfield 31, 3) := by decide +kernel
theorem dX3_better_4 : decode cX3_better 4 = .ok (.iload_n 1, 1) := by decide +kernel
theorem dX3_better_5 : decode cX3_better 5 = .ok (.laload, 1) := by decide +kernel
theorem dX3_better_6 : decode cX3_better 6 = .ok (.lconst 0, 1) := by decide +kernel
theorem dX3_better_7 : decode cX3_better 7 = .ok (.lcmp, 1) := by decide +kernel
theorem dX3_better_8 : decode cX3_better 8 = .ok (.ifCond .le 7, 3) := by decide +kernel
theorem dX3_better_15 : decode cX3_better 15 = .ok (.iconst 1, 1) := by decide +kernel
theorem dX3_better_16 : decode cX3_better 16 = .ok (.istore_n 3, 1) := by decide +kernel
theorem dX3_better_17 : decode cX3_better 17 = .ok (.aload_n 0, 1) := by decide +kernel
theorem dX3_better_18 : decode cX3_better 18 = .ok (.getfield 28, 3) := by decide +kernel
theorem dX3_better_21 : decode cX3_better 21 = .ok (.iload_n 1, 1) := by decide +kernel
theorem dX3_better_22 : decode cX3_better 22 = .ok (.iaload, 1) := by decide +kernel
theorem dX3_better_23 : decode cX3_better 23 = .ok (.iload_n 3, 1) := by decide +kernel
theorem dX3_better_24 : decode cX3_better 24 = .ok (.iadd, 1) := by decide +kernel
theorem dX3_better_25 : decode cX3_better 25 = .ok (.iconst (-1), 1) := by decide +kernel
theorem dX3_better_26 : decode cX3_better 26 = .ok (.if_icmp .lt 15, 3) := by decide +kernel
theorem dX3_better_41 : decode cX3_better 41 = .ok (.return_, 1) := by decide +kernel
theorem dX3_better_29 : decode cX3_better 29 = .ok (.aload_n 0, 1) := by decide +kernel
theorem dX3_better_30 : decode cX3_better 30 = .ok (.getfield 28, 3) := by decide +kernel
theorem dX3_better_33 : decode cX3_better 33 = .ok (.iload_n 1, 1) := by decide +kernel
theorem dX3_better_34 : decode cX3_better 34 = .ok (.iaload, 1) := by decide +kernel
theorem dX3_better_35 : decode cX3_better 35 = .ok (.iload_n 3, 1) := by decide +kernel
theorem dX3_better_36 : decode cX3_better 36 = .ok (.iadd, 1) := by decide +kernel
theorem dX3_better_37 : decode cX3_better 37 = .ok (.iconst 1, 1) := by decide +kernel
theorem dX3_better_38 : decode cX3_better 38 = .ok (.if_icmp .le 4, 3) := by decide +kernel
theorem dX3_better_42 : decode cX3_better 42 = .ok (.iload_n 3, 1) := by decide +kernel
theorem dX3_better_43 : decode cX3_better 43 = .ok (.i2l, 1) := by decide +kernel
theorem dX3_better_44 : decode cX3_better 44 = .ok (.iload_n 2, 1) := by decide +kernel
theorem dX3_better_45 : decode cX3_better 45 = .ok (.i2l, 1) := by decide +kernel
theorem dX3_better_46 : decode cX3_better 46 = .ok (.lmul, 1) := by decide +kernel
theorem dX3_better_47 : decode cX3_better 47 = .ok (.lstore 4, 2) := by decide +kernel
theorem dX3_better_49 : decode cX3_better 49 = .ok (.lload 4, 2) := by decide +kernel
theorem dX3_better_51 : decode cX3_better 51 = .ok (.ldc2_w 175, 3) := by decide +kernel
theorem dX3_better_54 : decode cX3_better 54 = .ok (.aload_n 0, 1) := by decide +kernel
theorem dX3_better_55 : decode cX3_better 55 = .ok (.getfield 31, 3) := by decide +kernel
theorem dX3_better_58 : decode cX3_better 58 = .ok (.iload_n 1, 1) := by decide +kernel
theorem dX3_better_59 : decode cX3_better 59 = .ok (.laload, 1) := by decide +kernel
theorem dX3_better_60 : decode cX3_better 60 = .ok (.lmul, 1) := by decide +kernel
theorem dX3_better_61 : decode cX3_better 61 = .ok (.lload 4, 2) := by decide +kernel
theorem dX3_better_63 : decode cX3_better 63 = .ok (.aload_n 0, 1) := by decide +kernel
theorem dX3_better_64 : decode cX3_better 64 = .ok (.getfield 12, 3) := by decide +kernel
theorem dX3_better_67 : decode cX3_better 67 = .ok (.getfield 177, 3) := by decide +kernel
theorem dX3_better_70 : decode cX3_better 70 = .ok (.iload_n 1, 1) := by decide +kernel
theorem dX3_better_71 : decode cX3_better 71 = .ok (.iconst 5, 1) := by decide +kernel
theorem dX3_better_72 : decode cX3_better 72 = .ok (.imul, 1) := by decide +kernel
theorem dX3_better_73 : decode cX3_better 73 = .ok (.iload_n 1, 1) := by decide +kernel
theorem dX3_better_74 : decode cX3_better 74 = .ok (.iadd, 1) := by decide +kernel
theorem dX3_better_75 : decode cX3_better 75 = .ok (.laload, 1) := by decide +kernel
theorem dX3_better_76 : decode cX3_better 76 = .ok (.lmul, 1) := by decide +kernel
theorem dX3_better_77 : decode cX3_better 77 = .ok (.ladd, 1) := by decide +kernel
theorem dX3_better_78 : decode cX3_better 78 = .ok (.lmul, 1) := by decide +kernel
theorem dX3_better_79 : decode cX3_better 79 = .ok (.lconst 0, 1) := by decide +kernel
theorem dX3_better_80 : decode cX3_better 80 = .ok (.lcmp, 1) := by decide +kernel
theorem dX3_better_81 : decode cX3_better 81 = .ok (.ifCond .ge 20, 3) := by decide +kernel
theorem dX3_better_101 : decode cX3_better 101 = .ok (.return_, 1) := by decide +kernel
theorem dX3_better_84 : decode cX3_better 84 = .ok (.aload_n 0, 1) := by decide +kernel
theorem dX3_better_85 : decode cX3_better 85 = .ok (.getfield 28, 3) := by decide +kernel
theorem dX3_better_88 : decode cX3_better 88 = .ok (.iload_n 1, 1) := by decide +kernel
theorem dX3_better_89 : decode cX3_better 89 = .ok (.dup2, 1) := by decide +kernel
theorem dX3_better_90 : decode cX3_better 90 = .ok (.iaload, 1) := by decide +kernel
theorem dX3_better_91 : decode cX3_better 91 = .ok (.iload_n 3, 1) := by decide +kernel
theorem dX3_better_92 : decode cX3_better 92 = .ok (.iadd, 1) := by decide +kernel
theorem dX3_better_93 : decode cX3_better 93 = .ok (.iastore, 1) := by decide +kernel
theorem dX3_better_94 : decode cX3_better 94 = .ok (.aload_n 0, 1) := by decide +kernel
theorem dX3_better_95 : decode cX3_better 95 = .ok (.iload_n 1, 1) := by decide +kernel
theorem dX3_better_96 : decode cX3_better 96 = .ok (.lload 4, 2) := by decide +kernel
theorem dX3_better_98 : decode cX3_better 98 = .ok (.invokevirtual 171, 3) := by decide +kernel
theorem dX3_better_11 : decode cX3_better 11 = .ok (.iconst (-1), 1) := by decide +kernel
theorem dX3_better_12 : decode cX3_better 12 = .ok (.goto 4, 3) := by decide +kernel
theorem dX3_fallsTo_66 : decode cX3_fallsTo 66 = .ok (.iinc 8 1, 3) := by decide +kernel
theorem dX3_fallsTo_69 : decode cX3_fallsTo 69 = .ok (.goto (-32), 3) := by decide +kernel
theorem dX3_fallsTo_84 : decode cX3_fallsTo 84 = .ok (.iinc 5 1, 3) := by decide +kernel
theorem dX3_fallsTo_87 : decode cX3_fallsTo 87 = .ok (.goto (-76), 3) := by decide +kernel
theorem dX3_mostOfAll_57 : decode cX3_mostOfAll 57 = .ok (.ifCond .ne 23, 3) := by decide +kernel
theorem dX3_mostOfAll_80 : decode cX3_mostOfAll 80 = .ok (.aload_n 0, 1) := by decide +kernel
theorem dX3_mostOfAll_81 : decode cX3_mostOfAll 81 = .ok (.aload_n 1, 1) := by decide +kernel
theorem dX3_mostOfAll_82 : decode cX3_mostOfAll 82 = .ok (.invokevirtual 159, 3) := by decide +kernel
theorem dX3_nextLetters_0 : decode cX3_nextLetters 0 = .ok (.aload_n 0, 1) := by decide +kernel
theorem dX3_nextLetters_1 : decode cX3_nextLetters 1 = .ok (.getfield 12, 3) := by decide +kernel
theorem dX3_nextLetters_4 : decode cX3_nextLetters 4 = .ok (.getfield 110, 3) := by decide +kernel
theorem dX3_nextLetters_7 : decode cX3_nextLetters 7 = .ok (.istore_n 2, 1) := by decide +kernel
theorem dX3_nextLetters_8 : decode cX3_nextLetters 8 = .ok (.iload_n 2, 1) := by decide +kernel
theorem dX3_nextLetters_9 : decode cX3_nextLetters 9 = .ok (.ifCond .le 50, 3) := by decide +kernel
theorem dX3_nextLetters_59 : decode cX3_nextLetters 59 = .ok (.aload_n 0, 1) := by decide +kernel
theorem dX3_nextLetters_60 : decode cX3_nextLetters 60 = .ok (.getfield 25, 3) := by decide +kernel
theorem dX3_nextLetters_63 : decode cX3_nextLetters 63 = .ok (.iload_n 2, 1) := by decide +kernel
theorem dX3_nextLetters_64 : decode cX3_nextLetters 64 = .ok (.dup2, 1) := by decide +kernel
theorem dX3_nextLetters_65 : decode cX3_nextLetters 65 = .ok (.iaload, 1) := by decide +kernel
theorem dX3_nextLetters_66 : decode cX3_nextLetters 66 = .ok (.iconst 2, 1) := by decide +kernel
theorem dX3_nextLetters_67 : decode cX3_nextLetters 67 = .ok (.iadd, 1) := by decide +kernel
theorem dX3_nextLetters_68 : decode cX3_nextLetters 68 = .ok (.iastore, 1) := by decide +kernel
theorem dX3_nextLetters_69 : decode cX3_nextLetters 69 = .ok (.aload_n 0, 1) := by decide +kernel
theorem dX3_nextLetters_70 : decode cX3_nextLetters 70 = .ok (.iload_n 2, 1) := by decide +kernel
theorem dX3_nextLetters_71 : decode cX3_nextLetters 71 = .ok (.ldc2_w 175, 3) := by decide +kernel
theorem dX3_nextLetters_74 : decode cX3_nextLetters 74 = .ok (.invokevirtual 171, 3) := by decide +kernel
theorem dX3_nextLetters_77 : decode cX3_nextLetters 77 = .ok (.return_, 1) := by decide +kernel
theorem dX3_nextLetters_12 : decode cX3_nextLetters 12 = .ok (.aload_n 0, 1) := by decide +kernel
theorem dX3_nextLetters_13 : decode cX3_nextLetters 13 = .ok (.getfield 25, 3) := by decide +kernel
theorem dX3_nextLetters_16 : decode cX3_nextLetters 16 = .ok (.iload_n 2, 1) := by decide +kernel
theorem dX3_nextLetters_17 : decode cX3_nextLetters 17 = .ok (.iaload, 1) := by decide +kernel
theorem dX3_nextLetters_18 : decode cX3_nextLetters 18 = .ok (.aload_n 1, 1) := by decide +kernel
theorem dX3_nextLetters_19 : decode cX3_nextLetters 19 = .ok (.getfield 77, 3) := by decide +kernel
theorem dX3_nextLetters_22 : decode cX3_nextLetters 22 = .ok (.iconst 1, 1) := by decide +kernel
theorem dX3_nextLetters_23 : decode cX3_nextLetters 23 = .ok (.isub, 1) := by decide +kernel
theorem dX3_nextLetters_24 : decode cX3_nextLetters 24 = .ok (.if_icmp .ne 35, 3) := by decide +kernel
theorem dX3_nextLetters_27 : decode cX3_nextLetters 27 = .ok (.aload_n 0, 1) := by decide +kernel
theorem dX3_nextLetters_28 : decode cX3_nextLetters 28 = .ok (.getfield 25, 3) := by decide +kernel
theorem dX3_nextLetters_31 : decode cX3_nextLetters 31 = .ok (.iload_n 2, 1) := by decide +kernel
theorem dX3_nextLetters_32 : decode cX3_nextLetters 32 = .ok (.iconst 1, 1) := by decide +kernel
theorem dX3_nextLetters_33 : decode cX3_nextLetters 33 = .ok (.aload_n 1, 1) := by decide +kernel
theorem dX3_nextLetters_34 : decode cX3_nextLetters 34 = .ok (.getfield 77, 3) := by decide +kernel
theorem dX3_nextLetters_37 : decode cX3_nextLetters 37 = .ok (.isub, 1) := by decide +kernel
theorem dX3_nextLetters_38 : decode cX3_nextLetters 38 = .ok (.iastore, 1) := by decide +kernel
theorem dX3_nextLetters_39 : decode cX3_nextLetters 39 = .ok (.aload_n 0, 1) := by decide +kernel
theorem dX3_nextLetters_40 : decode cX3_nextLetters 40 = .ok (.iload_n 2, 1) := by decide +kernel
theorem dX3_nextLetters_41 : decode cX3_nextLetters 41 = .ok (.iconst 2, 1) := by decide +kernel
theorem dX3_nextLetters_42 : decode cX3_nextLetters 42 = .ok (.aload_n 0, 1) := by decide +kernel
theorem dX3_nextLetters_43 : decode cX3_nextLetters 43 = .ok (.getfield 25, 3) := by decide +kernel
theorem dX3_nextLetters_46 : decode cX3_nextLetters 46 = .ok (.iload_n 2, 1) := by decide +kernel
theorem dX3_nextLetters_47 : decode cX3_nextLetters 47 = .ok (.iaload, 1) := by decide +kernel
theorem dX3_nextLetters_48 : decode cX3_nextLetters 48 = .ok (.imul, 1) := by decide +kernel
theorem dX3_nextLetters_49 : decode cX3_nextLetters 49 = .ok (.i2l, 1) := by decide +kernel
theorem dX3_nextLetters_50 : decode cX3_nextLetters 50 = .ok (.invokevirtual 171, 3) := by decide +kernel
theorem dX3_nextLetters_53 : decode cX3_nextLetters 53 = .ok (.iinc 2 (-1), 3) := by decide +kernel
theorem dX3_nextLetters_56 : decode cX3_nextLetters 56 = .ok (.goto (-48), 3) := by decide +kernel
theorem dX3_mostOfAll_85 : decode cX3_mostOfAll 85 = .ok (.iinc 5 1, 3) := by decide +kernel
theorem dX3_mostOfAll_88 : decode cX3_mostOfAll 88 = .ok (.goto (-44), 3) := by decide +kernel
theorem dX3_mostOfAll_60 : decode cX3_mostOfAll 60 = .ok (.lload_n 2, 1) := by decide +kernel
theorem dX3_mostOfAll_61 : decode cX3_mostOfAll 61 = .ok (.aload_n 0, 1) := by decide +kernel
theorem dX3_mostOfAll_62 : decode cX3_mostOfAll 62 = .ok (.aload_n 1, 1) := by decide +kernel
theorem dX3_mostOfAll_63 : decode cX3_mostOfAll 63 = .ok (.aload_n 0, 1) := by decide +kernel
theorem dX3_mostOfAll_64 : decode cX3_mostOfAll 64 = .ok (.getfield 25, 3) := by decide +kernel
theorem dX3_mostOfAll_67 : decode cX3_mostOfAll 67 = .ok (.lload_n 2, 1) := by decide +kernel
theorem dX3_mostOfAll_68 : decode cX3_mostOfAll 68 = .ok (.invokevirtual 55, 3) := by decide +kernel
theorem dX3_leastFor_0 : decode cX3_leastFor 0 = .ok (.iconst 2, 1) := by decide +kernel
theorem dX3_leastFor_1 : decode cX3_leastFor 1 = .ok (.aload_n 1, 1) := by decide +kernel
theorem dX3_leastFor_2 : decode cX3_leastFor 2 = .ok (.getfield 77, 3) := by decide +kernel
theorem dX3_leastFor_5 : decode cX3_leastFor 5 = .ok (.imul, 1) := by decide +kernel
theorem dX3_leastFor_6 : decode cX3_leastFor 6 = .ok (.istore 5, 2) := by decide +kernel
theorem dX3_leastFor_8 : decode cX3_leastFor 8 = .ok (.iconst 0, 1) := by decide +kernel
theorem dX3_leastFor_9 : decode cX3_leastFor 9 = .ok (.istore 6, 2) := by decide +kernel
theorem dX3_leastFor_11 : decode cX3_leastFor 11 = .ok (.iload 6, 2) := by decide +kernel
theorem dX3_leastFor_13 : decode cX3_leastFor 13 = .ok (.aload_n 1, 1) := by decide +kernel
theorem dX3_leastFor_14 : decode cX3_leastFor 14 = .ok (.getfield 79, 3) := by decide +kernel
theorem dX3_leastFor_17 : decode cX3_leastFor 17 = .ok (.if_icmp .ge 28, 3) := by decide +kernel
theorem dX3_leastFor_45 : decode cX3_leastFor 45 = .ok (.aload_n 0, 1) := by decide +kernel
theorem dX3_leastFor_46 : decode cX3_leastFor 46 = .ok (.getfield 12, 3) := by decide +kernel
theorem dX3_leastFor_49 : decode cX3_leastFor 49 = .ok (.invokevirtual 86, 3) := by decide +kernel
theorem dX3_leastFor_52 : decode cX3_leastFor 52 = .ok (.ldc2_w 89, 3) := by decide +kernel
theorem dX3_leastFor_55 : decode cX3_leastFor 55 = .ok (.lstore 6, 2) := by decide +kernel
theorem dX3_leastFor_57 : decode cX3_leastFor 57 = .ok (.aload_n 0, 1) := by decide +kernel
theorem dX3_leastFor_58 : decode cX3_leastFor 58 = .ok (.getfield 12, 3) := by decide +kernel
theorem dX3_leastFor_61 : decode cX3_leastFor 61 = .ok (.invokevirtual 91, 3) := by decide +kernel
theorem dX3_leastFor_64 : decode cX3_leastFor 64 = .ok (.istore 8, 2) := by decide +kernel
theorem dX3_leastFor_66 : decode cX3_leastFor 66 = .ok (.iconst 0, 1) := by decide +kernel
theorem dX3_leastFor_67 : decode cX3_leastFor 67 = .ok (.istore 9, 2) := by decide +kernel
theorem dX3_leastFor_69 : decode cX3_leastFor 69 = .ok (.iload 9, 2) := by decide +kernel
theorem dX3_leastFor_71 : decode cX3_leastFor 71 = .ok (.iload 8, 2) := by decide +kernel
theorem dX3_leastFor_73 : decode cX3_leastFor 73 = .ok (.if_icmp .ge 62, 3) := by decide +kernel
theorem dX3_leastFor_135 : decode cX3_leastFor 135 = .ok (.lload 6, 2) := by decide +kernel
theorem dX3_leastFor_137 : decode cX3_leastFor 137 = .ok (.lreturn, 1) := by decide +kernel
theorem dX3_leastFor_76 : decode cX3_leastFor 76 = .ok (.lload 6, 2) := by decide +kernel
theorem dX3_leastFor_78 : decode cX3_leastFor 78 = .ok (.lload_n 3, 1) := by decide +kernel
theorem dX3_leastFor_79 : decode cX3_leastFor 79 = .ok (.lcmp, 1) := by decide +kernel
theorem dX3_leastFor_80 : decode cX3_leastFor 80 = .ok (.ifCond .le 55, 3) := by decide +kernel
theorem dX3_leastFor_83 : decode cX3_leastFor 83 = .ok (.aload_n 0, 1) := by decide +kernel
theorem dX3_leastFor_84 : decode cX3_leastFor 84 = .ok (.getfield 12, 3) := by decide +kernel
theorem dX3_leastFor_87 : decode cX3_leastFor 87 = .ok (.iconst 3, 1) := by decide +kernel
theorem dX3_leastFor_88 : decode cX3_leastFor 88 = .ok (.invokevirtual 95, 3) := by decide +kernel
theorem dX3_keepFound_0 : decode cX3_keepFound 0 = .ok (.iconst 0, 1) := by decide +kernel
theorem dX3_keepFound_1 : decode cX3_keepFound 1 = .ok (.istore_n 2, 1) := by decide +kernel
theorem dX3_keepFound_2 : decode cX3_keepFound 2 = .ok (.iload_n 2, 1) := by decide +kernel
theorem dX3_keepFound_3 : decode cX3_keepFound 3 = .ok (.aload_n 0, 1) := by decide +kernel
theorem dX3_keepFound_4 : decode cX3_keepFound 4 = .ok (.getfield 12, 3) := by decide +kernel
theorem dX3_keepFound_7 : decode cX3_keepFound 7 = .ok (.getfield 110, 3) := by decide +kernel
theorem dX3_keepFound_10 : decode cX3_keepFound 10 = .ok (.if_icmp .ge 26, 3) := by decide +kernel
theorem dX3_keepFound_36 : decode cX3_keepFound 36 = .ok (.aload_n 0, 1) := by decide +kernel
theorem dX3_keepFound_37 : decode cX3_keepFound 37 = .ok (.getfield 22, 3) := by decide +kernel
theorem dX3_keepFound_40 : decode cX3_keepFound 40 = .ok (.aload_n 0, 1) := by decide +kernel
theorem dX3_keepFound_41 : decode cX3_keepFound 41 = .ok (.getfield 12, 3) := by decide +kernel
theorem dX3_keepFound_44 : decode cX3_keepFound 44 = .ok (.getfield 110, 3) := by decide +kernel
theorem dX3_keepFound_47 : decode cX3_keepFound 47 = .ok (.iload_n 1, 1) := by decide +kernel
theorem dX3_keepFound_48 : decode cX3_keepFound 48 = .ok (.iconst 1, 1) := by decide +kernel
theorem dX3_keepFound_49 : decode cX3_keepFound 49 = .ok (.isub, 1) := by decide +kernel
theorem dX3_keepFound_50 : decode cX3_keepFound 50 = .ok (.iastore, 1) := by decide +kernel
theorem dX3_keepFound_51 : decode cX3_keepFound 51 = .ok (.return_, 1) := by decide +kernel
theorem dX3_keepFound_13 : decode cX3_keepFound 13 = .ok (.aload_n 0, 1) := by decide +kernel
theorem dX3_keepFound_14 : decode cX3_keepFound 14 = .ok (.getfield 22, 3) := by decide +kernel
theorem dX3_keepFound_17 : decode cX3_keepFound 17 = .ok (.iload_n 2, 1) := by decide +kernel
theorem dX3_keepFound_18 : decode cX3_keepFound 18 = .ok (.aload_n 0, 1) := by decide +kernel
theorem dX3_keepFound_19 : decode cX3_keepFound 19 = .ok (.getfield 12, 3) := by decide +kernel
theorem dX3_keepFound_22 : decode cX3_keepFound 22 = .ok (.getfield 113, 3) := by decide +kernel
theorem dX3_keepFound_25 : decode cX3_keepFound 25 = .ok (.iload_n 2, 1) := by decide +kernel
theorem dX3_keepFound_26 : decode cX3_keepFound 26 = .ok (.iaload, 1) := by decide +kernel
theorem dX3_keepFound_27 : decode cX3_keepFound 27 = .ok (.iconst 1, 1) := by decide +kernel
theorem dX3_keepFound_28 : decode cX3_keepFound 28 = .ok (.isub, 1) := by decide +kernel
theorem dX3_keepFound_29 : decode cX3_keepFound 29 = .ok (.iastore, 1) := by decide +kernel
theorem dX3_keepFound_30 : decode cX3_keepFound 30 = .ok (.iinc 2 1, 3) := by decide +kernel
theorem dX3_keepFound_33 : decode cX3_keepFound 33 = .ok (.goto (-31), 3) := by decide +kernel
theorem dX3_tryFound_0 : decode cX3_tryFound 0 = .ok (.iconst 0, 1) := by decide +kernel
theorem dX3_tryFound_1 : decode cX3_tryFound 1 = .ok (.istore_n 2, 1) := by decide +kernel
theorem dX3_tryFound_2 : decode cX3_tryFound 2 = .ok (.iload_n 2, 1) := by decide +kernel
theorem dX3_tryFound_3 : decode cX3_tryFound 3 = .ok (.aload_n 1, 1) := by decide +kernel
theorem dX3_tryFound_4 : decode cX3_tryFound 4 = .ok (.getfield 79, 3) := by decide +kernel
theorem dX3_tryFound_7 : decode cX3_tryFound 7 = .ok (.if_icmp .ge 65, 3) := by decide +kernel
theorem dX3_tryFound_72 : decode cX3_tryFound 72 = .ok (.return_, 1) := by decide +kernel
theorem dX3_tryFound_10 : decode cX3_tryFound 10 = .ok (.aload_n 0, 1) := by decide +kernel
theorem dX3_tryFound_11 : decode cX3_tryFound 11 = .ok (.getfield 28, 3) := by decide +kernel
theorem dX3_tryFound_14 : decode cX3_tryFound 14 = .ok (.iload_n 2, 1) := by decide +kernel
theorem dX3_tryFound_15 : decode cX3_tryFound 15 = .ok (.iaload, 1) := by decide +kernel
theorem dX3_tryFound_16 : decode cX3_tryFound 16 = .ok (.aload_n 0, 1) := by decide +kernel
theorem dX3_tryFound_17 : decode cX3_tryFound 17 = .ok (.getfield 22, 3) := by decide +kernel
theorem dX3_tryFound_20 : decode cX3_tryFound 20 = .ok (.iload_n 2, 1) := by decide +kernel
theorem dX3_tryFound_21 : decode cX3_tryFound 21 = .ok (.iaload, 1) := by decide +kernel
theorem dX3_tryFound_22 : decode cX3_tryFound 22 = .ok (.if_icmp .eq 44, 3) := by decide +kernel
theorem dX3_tryFound_66 : decode cX3_tryFound 66 = .ok (.iinc 2 1, 3) := by decide +kernel
theorem dX3_tryFound_69 : decode cX3_tryFound 69 = .ok (.goto (-67), 3) := by decide +kernel
theorem dX3_tryFound_25 : decode cX3_tryFound 25 = .ok (.aload_n 0, 1) := by decide +kernel
theorem dX3_tryFound_26 : decode cX3_tryFound 26 = .ok (.iload_n 2, 1) := by decide +kernel
