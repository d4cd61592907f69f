theorem lw_d_cX6_findShortest_156 : lw_dl cX6_findShortest [(156, .goto (-23), 3), (20, .iload_n 2, 1), (21, .iload 4, 2), (23, .ishr, 1), (24, .iconst 1, 1), (25, .iand, 1), (26, .iconst 1, 1), (27, .if_icmp .ne 7, 3), (34, .iconst 0, 1), (35, .istore 5, 2), (37, .aload_n 0, 1), (38, .getfield 12, 3), (41, .iload 4, 2), (43, .iload 5, 2), (45, .ifCond .eq 8, 3), (53, .iconst 0, 1), (54, .iconst 1, 1), (55, .iload 5, 2), (57, .ifCond .eq 11, 3), (68, .iconst 1, 1), (69, .invokevirtual 57, 3), (72, .iinc 4 1, 3), (75, .goto (-64), 3), (30, .iconst 1, 1), (31, .goto 4, 3), (48, .iload_n 3, 1), (49, .ineg, 1), (50, .goto 4, 3), (60, .iconst 2, 1), (61, .iload_n 3, 1), (62, .imul, 1), (63, .iconst 1, 1), (64, .iadd, 1), (65, .goto 4, 3)] = true := by decide +kernel
theorem dX6_findShortest_156 : decode cX6_findShortest 156 = .ok (.goto (-23), 3) := lw_dr lw_d_cX6_findShortest_156 0 rfl
theorem dX6_findShortest_20 : decode cX6_findShortest 20 = .ok (.iload_n 2, 1) := lw_dr lw_d_cX6_findShortest_156 1 rfl
theorem dX6_findShortest_21 : decode cX6_findShortest 21 = .ok (.iload 4, 2) := lw_dr lw_d_cX6_findShortest_156 2 rfl
theorem dX6_findShortest_23 : decode cX6_findShortest 23 = .ok (.ishr, 1) := lw_dr lw_d_cX6_findShortest_156 3 rfl
theorem dX6_findShortest_24 : decode cX6_findShortest 24 = .ok (.iconst 1, 1) := lw_dr lw_d_cX6_findShortest_156 4 rfl
theorem dX6_findShortest_25 : decode cX6_findShortest 25 = .ok (.iand, 1) := lw_dr lw_d_cX6_findShortest_156 5 rfl
theorem dX6_findShortest_26 : decode cX6_findShortest 26 = .ok (.iconst 1, 1) := lw_dr lw_d_cX6_findShortest_156 6 rfl
theorem dX6_findShortest_27 : decode cX6_findShortest 27 = .ok (.if_icmp .ne 7, 3) := lw_dr lw_d_cX6_findShortest_156 7 rfl
theorem dX6_findShortest_34 : decode cX6_findShortest 34 = .ok (.iconst 0, 1) := lw_dr lw_d_cX6_findShortest_156 8 rfl
theorem dX6_findShortest_35 : decode cX6_findShortest 35 = .ok (.istore 5, 2) := lw_dr lw_d_cX6_findShortest_156 9 rfl
theorem dX6_findShortest_37 : decode cX6_findShortest 37 = .ok (.aload_n 0, 1) := lw_dr lw_d_cX6_findShortest_156 10 rfl
theorem dX6_findShortest_38 : decode cX6_findShortest 38 = .ok (.getfield 12, 3) := lw_dr lw_d_cX6_findShortest_156 11 rfl
theorem dX6_findShortest_41 : decode cX6_findShortest 41 = .ok (.iload 4, 2) := lw_dr lw_d_cX6_findShortest_156 12 rfl
theorem dX6_findShortest_43 : decode cX6_findShortest 43 = .ok (.iload 5, 2) := lw_dr lw_d_cX6_findShortest_156 13 rfl
theorem dX6_findShortest_45 : decode cX6_findShortest 45 = .ok (.ifCond .eq 8, 3) := lw_dr lw_d_cX6_findShortest_156 14 rfl
theorem dX6_findShortest_53 : decode cX6_findShortest 53 = .ok (.iconst 0, 1) := lw_dr lw_d_cX6_findShortest_156 15 rfl
theorem dX6_findShortest_54 : decode cX6_findShortest 54 = .ok (.iconst 1, 1) := lw_dr lw_d_cX6_findShortest_156 16 rfl
theorem dX6_findShortest_55 : decode cX6_findShortest 55 = .ok (.iload 5, 2) := lw_dr lw_d_cX6_findShortest_156 17 rfl
theorem dX6_findShortest_57 : decode cX6_findShortest 57 = .ok (.ifCond .eq 11, 3) := lw_dr lw_d_cX6_findShortest_156 18 rfl
theorem dX6_findShortest_68 : decode cX6_findShortest 68 = .ok (.iconst 1, 1) := lw_dr lw_d_cX6_findShortest_156 19 rfl
theorem dX6_findShortest_69 : decode cX6_findShortest 69 = .ok (.invokevirtual 57, 3) := lw_dr lw_d_cX6_findShortest_156 20 rfl
theorem dX6_findShortest_72 : decode cX6_findShortest 72 = .ok (.iinc 4 1, 3) := lw_dr lw_d_cX6_findShortest_156 21 rfl
theorem dX6_findShortest_75 : decode cX6_findShortest 75 = .ok (.goto (-64), 3) := lw_dr lw_d_cX6_findShortest_156 22 rfl
theorem dX6_findShortest_30 : decode cX6_findShortest 30 = .ok (.iconst 1, 1) := lw_dr lw_d_cX6_findShortest_156 23 rfl
theorem dX6_findShortest_31 : decode cX6_findShortest 31 = .ok (.goto 4, 3) := lw_dr lw_d_cX6_findShortest_156 24 rfl
theorem dX6_findShortest_48 : decode cX6_findShortest 48 = .ok (.iload_n 3, 1) := lw_dr lw_d_cX6_findShortest_156 25 rfl
theorem dX6_findShortest_49 : decode cX6_findShortest 49 = .ok (.ineg, 1) := lw_dr lw_d_cX6_findShortest_156 26 rfl
theorem dX6_findShortest_50 : decode cX6_findShortest 50 = .ok (.goto 4, 3) := lw_dr lw_d_cX6_findShortest_156 27 rfl
theorem dX6_findShortest_60 : decode cX6_findShortest 60 = .ok (.iconst 2, 1) := lw_dr lw_d_cX6_findShortest_156 28 rfl
theorem dX6_findShortest_61 : decode cX6_findShortest 61 = .ok (.iload_n 3, 1) := lw_dr lw_d_cX6_findShortest_156 29 rfl
theorem dX6_findShortest_62 : decode cX6_findShortest 62 = .ok (.imul, 1) := lw_dr lw_d_cX6_findShortest_156 30 rfl
theorem dX6_findShortest_63 : decode cX6_findShortest 63 = .ok (.iconst 1, 1) := lw_dr lw_d_cX6_findShortest_156 31 rfl
theorem dX6_findShortest_64 : decode cX6_findShortest 64 = .ok (.iadd, 1) := lw_dr lw_d_cX6_findShortest_156 32 rfl
theorem dX6_findShortest_65 : decode cX6_findShortest 65 = .ok (.goto 4, 3) := lw_dr lw_d_cX6_findShortest_156 33 rfl
theorem lw_d_cX6_apartOf_0 : lw_dl cX6_apartOf [(0, .aload_n 0, 1), (1, .getfield 22, 3), (4, .iload_n 2, 1), (5, .laload, 1), (6, .lconst 0, 1), (7, .lcmp, 1), (8, .ifCond .ge 29, 3), (37, .aload_n 0, 1), (38, .getfield 22, 3), (41, .iload_n 2, 1), (42, .laload, 1), (43, .lreturn, 1), (11, .aload_n 0, 1), (12, .aload_n 1, 1), (13, .iload_n 2, 1), (14, .aload_n 1, 1), (15, .getfield 38, 3), (18, .iconst 1, 1), (19, .isub, 1), (20, .invokevirtual 44, 3), (23, .aload_n 0, 1), (24, .getfield 22, 3), (27, .iload_n 2, 1), (28, .ldc2_w 48, 3), (31, .aload_n 0, 1), (32, .getfield 26, 3), (35, .lmul, 1), (36, .lastore, 1)] = true := by decide +kernel
theorem dX6_apartOf_0 : decode cX6_apartOf 0 = .ok (.aload_n 0, 1) := lw_dr lw_d_cX6_apartOf_0 0 rfl
theorem dX6_apartOf_1 : decode cX6_apartOf 1 = .ok (.getfield 22, 3) := lw_dr lw_d_cX6_apartOf_0 1 rfl
theorem dX6_apartOf_4 : decode cX6_apartOf 4 = .ok (.iload_n 2, 1) := lw_dr lw_d_cX6_apartOf_0 2 rfl
theorem dX6_apartOf_5 : decode cX6_apartOf 5 = .ok (.laload, 1) := lw_dr lw_d_cX6_apartOf_0 3 rfl
theorem dX6_apartOf_6 : decode cX6_apartOf 6 = .ok (.lconst 0, 1) := lw_dr lw_d_cX6_apartOf_0 4 rfl
theorem dX6_apartOf_7 : decode cX6_apartOf 7 = .ok (.lcmp, 1) := lw_dr lw_d_cX6_apartOf_0 5 rfl
theorem dX6_apartOf_8 : decode cX6_apartOf 8 = .ok (.ifCond .ge 29, 3) := lw_dr lw_d_cX6_apartOf_0 6 rfl
theorem dX6_apartOf_37 : decode cX6_apartOf 37 = .ok (.aload_n 0, 1) := lw_dr lw_d_cX6_apartOf_0 7 rfl
theorem dX6_apartOf_38 : decode cX6_apartOf 38 = .ok (.getfield 22, 3) := lw_dr lw_d_cX6_apartOf_0 8 rfl
theorem dX6_apartOf_41 : decode cX6_apartOf 41 = .ok (.iload_n 2, 1) := lw_dr lw_d_cX6_apartOf_0 9 rfl
theorem dX6_apartOf_42 : decode cX6_apartOf 42 = .ok (.laload, 1) := lw_dr lw_d_cX6_apartOf_0 10 rfl
theorem dX6_apartOf_43 : decode cX6_apartOf 43 = .ok (.lreturn, 1) := lw_dr lw_d_cX6_apartOf_0 11 rfl
theorem dX6_apartOf_11 : decode cX6_apartOf 11 = .ok (.aload_n 0, 1) := lw_dr lw_d_cX6_apartOf_0 12 rfl
theorem dX6_apartOf_12 : decode cX6_apartOf 12 = .ok (.aload_n 1, 1) := lw_dr lw_d_cX6_apartOf_0 13 rfl
theorem dX6_apartOf_13 : decode cX6_apartOf 13 = .ok (.iload_n 2, 1) := lw_dr lw_d_cX6_apartOf_0 14 rfl
theorem dX6_apartOf_14 : decode cX6_apartOf 14 = .ok (.aload_n 1, 1) := lw_dr lw_d_cX6_apartOf_0 15 rfl
theorem dX6_apartOf_15 : decode cX6_apartOf 15 = .ok (.getfield 38, 3) := lw_dr lw_d_cX6_apartOf_0 16 rfl
theorem dX6_apartOf_18 : decode cX6_apartOf 18 = .ok (.iconst 1, 1) := lw_dr lw_d_cX6_apartOf_0 17 rfl
theorem dX6_apartOf_19 : decode cX6_apartOf 19 = .ok (.isub, 1) := lw_dr lw_d_cX6_apartOf_0 18 rfl
theorem dX6_apartOf_20 : decode cX6_apartOf 20 = .ok (.invokevirtual 44, 3) := lw_dr lw_d_cX6_apartOf_0 19 rfl
theorem dX6_apartOf_23 : decode cX6_apartOf 23 = .ok (.aload_n 0, 1) := lw_dr lw_d_cX6_apartOf_0 20 rfl
theorem dX6_apartOf_24 : decode cX6_apartOf 24 = .ok (.getfield 22, 3) := lw_dr lw_d_cX6_apartOf_0 21 rfl
theorem dX6_apartOf_27 : decode cX6_apartOf 27 = .ok (.iload_n 2, 1) := lw_dr lw_d_cX6_apartOf_0 22 rfl
theorem dX6_apartOf_28 : decode cX6_apartOf 28 = .ok (.ldc2_w 48, 3) := lw_dr lw_d_cX6_apartOf_0 23 rfl
theorem dX6_apartOf_31 : decode cX6_apartOf 31 = .ok (.aload_n 0, 1) := lw_dr lw_d_cX6_apartOf_0 24 rfl
theorem dX6_apartOf_32 : decode cX6_apartOf 32 = .ok (.getfield 26, 3) := lw_dr lw_d_cX6_apartOf_0 25 rfl
theorem dX6_apartOf_35 : decode cX6_apartOf 35 = .ok (.lmul, 1) := lw_dr lw_d_cX6_apartOf_0 26 rfl
theorem dX6_apartOf_36 : decode cX6_apartOf 36 = .ok (.lastore, 1) := lw_dr lw_d_cX6_apartOf_0 27 rfl
theorem lw_d_cX7_forget_0 : lw_dl cX7_forget [(0, .aload_n 0, 1), (1, .iconst 0, 1), (2, .putfield 49, 3), (5, .return_, 1)] = true := by decide +kernel
theorem dX7_forget_0 : decode cX7_forget 0 = .ok (.aload_n 0, 1) := lw_dr lw_d_cX7_forget_0 0 rfl
theorem dX7_forget_1 : decode cX7_forget 1 = .ok (.iconst 0, 1) := lw_dr lw_d_cX7_forget_0 1 rfl
theorem dX7_forget_2 : decode cX7_forget 2 = .ok (.putfield 49, 3) := lw_dr lw_d_cX7_forget_0 2 rfl
theorem dX7_forget_5 : decode cX7_forget 5 = .ok (.return_, 1) := lw_dr lw_d_cX7_forget_0 3 rfl
theorem lw_d_cX7_learn_0 : lw_dl cX7_learn [(0, .aload_n 0, 1), (1, .getfield 49, 3), (4, .ifCond .ne 10, 3), (14, .return_, 1), (7, .aload_n 1, 1), (8, .getfield 73, 3), (11, .ifCond .ne 4, 3), (15, .aload_n 0, 1), (16, .iconst 1, 1), (17, .putfield 49, 3), (20, .aload_n 0, 1), (21, .iconst 0, 1), (22, .putfield 41, 3), (25, .aload_n 0, 1), (26, .lconst 0, 1), (27, .putfield 45, 3), (30, .aload_n 0, 1), (31, .getfield 26, 3), (34, .ldc2_w 76, 3), (37, .invokestatic 78, 3), (40, .aload_n 0, 1), (41, .getfield 29, 3), (44, .lconst 0, 1), (45, .invokestatic 78, 3), (48, .aload_n 0, 1), (49, .aload_n 1, 1), (50, .aload_n 2, 1), (51, .invokevirtual 84, 3), (54, .aload_n 0, 1), (55, .getfield 12, 3), (58, .invokevirtual 87, 3), (61, .istore_n 3, 1), (62, .iconst 0, 1), (63, .istore 4, 2), (65, .iload 4, 2), (67, .iload_n 3, 1), (68, .if_icmp .ge 31, 3), (99, .return_, 1), (71, .aload_n 0, 1), (72, .iload 4, 2)] = true := by decide +kernel
theorem dX7_learn_0 : decode cX7_learn 0 = .ok (.aload_n 0, 1) := lw_dr lw_d_cX7_learn_0 0 rfl
theorem dX7_learn_1 : decode cX7_learn 1 = .ok (.getfield 49, 3) := lw_dr lw_d_cX7_learn_0 1 rfl
theorem dX7_learn_4 : decode cX7_learn 4 = .ok (.ifCond .ne 10, 3) := lw_dr lw_d_cX7_learn_0 2 rfl
theorem dX7_learn_14 : decode cX7_learn 14 = .ok (.return_, 1) := lw_dr lw_d_cX7_learn_0 3 rfl
theorem dX7_learn_7 : decode cX7_learn 7 = .ok (.aload_n 1, 1) := lw_dr lw_d_cX7_learn_0 4 rfl
theorem dX7_learn_8 : decode cX7_learn 8 = .ok (.getfield 73, 3) := lw_dr lw_d_cX7_learn_0 5 rfl
theorem dX7_learn_11 : decode cX7_learn 11 = .ok (.ifCond .ne 4, 3) := lw_dr lw_d_cX7_learn_0 6 rfl
theorem dX7_learn_15 : decode cX7_learn 15 = .ok (.aload_n 0, 1) := lw_dr lw_d_cX7_learn_0 7 rfl
theorem dX7_learn_16 : decode cX7_learn 16 = .ok (.iconst 1, 1) := lw_dr lw_d_cX7_learn_0 8 rfl
theorem dX7_learn_17 : decode cX7_learn 17 = .ok (.putfield 49, 3) := lw_dr lw_d_cX7_learn_0 9 rfl
theorem dX7_learn_20 : decode cX7_learn 20 = .ok (.aload_n 0, 1) := lw_dr lw_d_cX7_learn_0 10 rfl
theorem dX7_learn_21 : decode cX7_learn 21 = .ok (.iconst 0, 1) := lw_dr lw_d_cX7_learn_0 11 rfl
theorem dX7_learn_22 : decode cX7_learn 22 = .ok (.putfield 41, 3) := lw_dr lw_d_cX7_learn_0 12 rfl
theorem dX7_learn_25 : decode cX7_learn 25 = .ok (.aload_n 0, 1) := lw_dr lw_d_cX7_learn_0 13 rfl
theorem dX7_learn_26 : decode cX7_learn 26 = .ok (.lconst 0, 1) := lw_dr lw_d_cX7_learn_0 14 rfl
theorem dX7_learn_27 : decode cX7_learn 27 = .ok (.putfield 45, 3) := lw_dr lw_d_cX7_learn_0 15 rfl
theorem dX7_learn_30 : decode cX7_learn 30 = .ok (.aload_n 0, 1) := lw_dr lw_d_cX7_learn_0 16 rfl
theorem dX7_learn_31 : decode cX7_learn 31 = .ok (.getfield 26, 3) := lw_dr lw_d_cX7_learn_0 17 rfl
theorem dX7_learn_34 : decode cX7_learn 34 = .ok (.ldc2_w 76, 3) := lw_dr lw_d_cX7_learn_0 18 rfl
theorem dX7_learn_37 : decode cX7_learn 37 = .ok (.invokestatic 78, 3) := lw_dr lw_d_cX7_learn_0 19 rfl
theorem dX7_learn_40 : decode cX7_learn 40 = .ok (.aload_n 0, 1) := lw_dr lw_d_cX7_learn_0 20 rfl
theorem dX7_learn_41 : decode cX7_learn 41 = .ok (.getfield 29, 3) := lw_dr lw_d_cX7_learn_0 21 rfl
theorem dX7_learn_44 : decode cX7_learn 44 = .ok (.lconst 0, 1) := lw_dr lw_d_cX7_learn_0 22 rfl
theorem dX7_learn_45 : decode cX7_learn 45 = .ok (.invokestatic 78, 3) := lw_dr lw_d_cX7_learn_0 23 rfl
theorem dX7_learn_48 : decode cX7_learn 48 = .ok (.aload_n 0, 1) := lw_dr lw_d_cX7_learn_0 24 rfl
theorem dX7_learn_49 : decode cX7_learn 49 = .ok (.aload_n 1, 1) := lw_dr lw_d_cX7_learn_0 25 rfl
theorem dX7_learn_50 : decode cX7_learn 50 = .ok (.aload_n 2, 1) := lw_dr lw_d_cX7_learn_0 26 rfl
theorem dX7_learn_51 : decode cX7_learn 51 = .ok (.invokevirtual 84, 3) := lw_dr lw_d_cX7_learn_0 27 rfl
theorem dX7_learn_54 : decode cX7_learn 54 = .ok (.aload_n 0, 1) := lw_dr lw_d_cX7_learn_0 28 rfl
theorem dX7_learn_55 : decode cX7_learn 55 = .ok (.getfield 12, 3) := lw_dr lw_d_cX7_learn_0 29 rfl
theorem dX7_learn_58 : decode cX7_learn 58 = .ok (.invokevirtual 87, 3) := lw_dr lw_d_cX7_learn_0 30 rfl
theorem dX7_learn_61 : decode cX7_learn 61 = .ok (.istore_n 3, 1) := lw_dr lw_d_cX7_learn_0 31 rfl
theorem dX7_learn_62 : decode cX7_learn 62 = .ok (.iconst 0, 1) := lw_dr lw_d_cX7_learn_0 32 rfl
theorem dX7_learn_63 : decode cX7_learn 63 = .ok (.istore 4, 2) := lw_dr lw_d_cX7_learn_0 33 rfl
theorem dX7_learn_65 : decode cX7_learn 65 = .ok (.iload 4, 2) := lw_dr lw_d_cX7_learn_0 34 rfl
theorem dX7_learn_67 : decode cX7_learn 67 = .ok (.iload_n 3, 1) := lw_dr lw_d_cX7_learn_0 35 rfl
theorem dX7_learn_68 : decode cX7_learn 68 = .ok (.if_icmp .ge 31, 3) := lw_dr lw_d_cX7_learn_0 36 rfl
theorem dX7_learn_99 : decode cX7_learn 99 = .ok (.return_, 1) := lw_dr lw_d_cX7_learn_0 37 rfl
theorem dX7_learn_71 : decode cX7_learn 71 = .ok (.aload_n 0, 1) := lw_dr lw_d_cX7_learn_0 38 rfl
theorem dX7_learn_72 : decode cX7_learn 72 = .ok (.iload 4, 2) := lw_dr lw_d_cX7_learn_0 39 rfl
theorem lw_d_cX7_learn_74 : lw_dl cX7_learn [(74, .aload_n 1, 1), (75, .getfield 61, 3), (78, .imul, 1), (79, .aload_n 1, 1), (80, .getfield 61, 3), (83, .invokevirtual 91, 3), (86, .aload_n 0, 1), (87, .getfield 12, 3), (90, .invokevirtual 95, 3), (93, .iinc 4 1, 3), (96, .goto (-31), 3)] = true := by decide +kernel
theorem dX7_learn_74 : decode cX7_learn 74 = .ok (.aload_n 1, 1) := lw_dr lw_d_cX7_learn_74 0 rfl
theorem dX7_learn_75 : decode cX7_learn 75 = .ok (.getfield 61, 3) := lw_dr lw_d_cX7_learn_74 1 rfl
theorem dX7_learn_78 : decode cX7_learn 78 = .ok (.imul, 1) := lw_dr lw_d_cX7_learn_74 2 rfl
theorem dX7_learn_79 : decode cX7_learn 79 = .ok (.aload_n 1, 1) := lw_dr lw_d_cX7_learn_74 3 rfl
theorem dX7_learn_80 : decode cX7_learn 80 = .ok (.getfield 61, 3) := lw_dr lw_d_cX7_learn_74 4 rfl
theorem dX7_learn_83 : decode cX7_learn 83 = .ok (.invokevirtual 91, 3) := lw_dr lw_d_cX7_learn_74 5 rfl
theorem dX7_learn_86 : decode cX7_learn 86 = .ok (.aload_n 0, 1) := lw_dr lw_d_cX7_learn_74 6 rfl
theorem dX7_learn_87 : decode cX7_learn 87 = .ok (.getfield 12, 3) := lw_dr lw_d_cX7_learn_74 7 rfl
theorem dX7_learn_90 : decode cX7_learn 90 = .ok (.invokevirtual 95, 3) := lw_dr lw_d_cX7_learn_74 8 rfl
theorem dX7_learn_93 : decode cX7_learn 93 = .ok (.iinc 4 1, 3) := lw_dr lw_d_cX7_learn_74 9 rfl
theorem dX7_learn_96 : decode cX7_learn 96 = .ok (.goto (-31), 3) := lw_dr lw_d_cX7_learn_74 10 rfl
theorem lw_d_cX7_startWalk_0 : lw_dl cX7_startWalk [(0, .aload_n 0, 1), (1, .getfield 12, 3), (4, .aload_n 1, 1), (5, .invokevirtual 53, 3), (8, .aload_n 0, 1), (9, .getfield 12, 3), (12, .aload_n 1, 1), (13, .aload_n 2, 1), (14, .invokevirtual 57, 3), (17, .aload_n 0, 1), (18, .getfield 12, 3), (21, .iconst 1, 1), (22, .aload_n 1, 1), (23, .getfield 61, 3), (26, .isub, 1), (27, .iconst 2, 1), (28, .aload_n 1, 1), (29, .getfield 61, 3), (32, .invokevirtual 66, 3), (35, .aload_n 0, 1), (36, .getfield 12, 3), (39, .invokevirtual 70, 3), (42, .return_, 1)] = true := by decide +kernel
theorem dX7_startWalk_0 : decode cX7_startWalk 0 = .ok (.aload_n 0, 1) := lw_dr lw_d_cX7_startWalk_0 0 rfl
theorem dX7_startWalk_1 : decode cX7_startWalk 1 = .ok (.getfield 12, 3) := lw_dr lw_d_cX7_startWalk_0 1 rfl
theorem dX7_startWalk_4 : decode cX7_startWalk 4 = .ok (.aload_n 1, 1) := lw_dr lw_d_cX7_startWalk_0 2 rfl
theorem dX7_startWalk_5 : decode cX7_startWalk 5 = .ok (.invokevirtual 53, 3) := lw_dr lw_d_cX7_startWalk_0 3 rfl
theorem dX7_startWalk_8 : decode cX7_startWalk 8 = .ok (.aload_n 0, 1) := lw_dr lw_d_cX7_startWalk_0 4 rfl
theorem dX7_startWalk_9 : decode cX7_startWalk 9 = .ok (.getfield 12, 3) := lw_dr lw_d_cX7_startWalk_0 5 rfl
theorem dX7_startWalk_12 : decode cX7_startWalk 12 = .ok (.aload_n 1, 1) := lw_dr lw_d_cX7_startWalk_0 6 rfl
theorem dX7_startWalk_13 : decode cX7_startWalk 13 = .ok (.aload_n 2, 1) := lw_dr lw_d_cX7_startWalk_0 7 rfl
theorem dX7_startWalk_14 : decode cX7_startWalk 14 = .ok (.invokevirtual 57, 3) := lw_dr lw_d_cX7_startWalk_0 8 rfl
theorem dX7_startWalk_17 : decode cX7_startWalk 17 = .ok (.aload_n 0, 1) := lw_dr lw_d_cX7_startWalk_0 9 rfl
theorem dX7_startWalk_18 : decode cX7_startWalk 18 = .ok (.getfield 12, 3) := lw_dr lw_d_cX7_startWalk_0 10 rfl
theorem dX7_startWalk_21 : decode cX7_startWalk 21 = .ok (.iconst 1, 1) := lw_dr lw_d_cX7_startWalk_0 11 rfl
theorem dX7_startWalk_22 : decode cX7_startWalk 22 = .ok (.aload_n 1, 1) := lw_dr lw_d_cX7_startWalk_0 12 rfl
theorem dX7_startWalk_23 : decode cX7_startWalk 23 = .ok (.getfield 61, 3) := lw_dr lw_d_cX7_startWalk_0 13 rfl
theorem dX7_startWalk_26 : decode cX7_startWalk 26 = .ok (.isub, 1) := lw_dr lw_d_cX7_startWalk_0 14 rfl
theorem dX7_startWalk_27 : decode cX7_startWalk 27 = .ok (.iconst 2, 1) := lw_dr lw_d_cX7_startWalk_0 15 rfl
theorem dX7_startWalk_28 : decode cX7_startWalk 28 = .ok (.aload_n 1, 1) := lw_dr lw_d_cX7_startWalk_0 16 rfl
theorem dX7_startWalk_29 : decode cX7_startWalk 29 = .ok (.getfield 61, 3) := lw_dr lw_d_cX7_startWalk_0 17 rfl
theorem dX7_startWalk_32 : decode cX7_startWalk 32 = .ok (.invokevirtual 66, 3) := lw_dr lw_d_cX7_startWalk_0 18 rfl
theorem dX7_startWalk_35 : decode cX7_startWalk 35 = .ok (.aload_n 0, 1) := lw_dr lw_d_cX7_startWalk_0 19 rfl
theorem dX7_startWalk_36 : decode cX7_startWalk 36 = .ok (.getfield 12, 3) := lw_dr lw_d_cX7_startWalk_0 20 rfl
theorem dX7_startWalk_39 : decode cX7_startWalk 39 = .ok (.invokevirtual 70, 3) := lw_dr lw_d_cX7_startWalk_0 21 rfl
theorem dX7_startWalk_42 : decode cX7_startWalk 42 = .ok (.return_, 1) := lw_dr lw_d_cX7_startWalk_0 22 rfl
theorem lw_d_cX7_learnLine_0 : lw_dl cX7_learnLine [(0, .ldc2_w 76, 3), (3, .lstore_n 3, 1), (4, .lconst 0, 1), (5, .lstore 5, 2), (7, .iconst 0, 1), (8, .istore 7, 2), (10, .iload 7, 2), (12, .iload_n 2, 1), (13, .if_icmp .ge 82, 3), (95, .iconst 0, 1), (96, .istore 7, 2), (98, .iload 7, 2), (100, .aload_n 0, 1), (101, .getfield 12, 3), (104, .getfield 104, 3), (107, .if_icmp .ge 28, 3), (135, .aload_n 0, 1), (136, .dup, 1), (137, .getfield 45, 3), (140, .lload 5, 2), (142, .ladd, 1), (143, .putfield 45, 3), (146, .return_, 1), (110, .aload_n 0, 1), (111, .iload 7, 2), (113, .aload_n 0, 1), (114, .getfield 12, 3), (117, .getfield 121, 3), (120, .iload 7, 2), (122, .iaload, 1), (123, .lload_n 3, 1), (124, .lload 5, 2), (126, .invokevirtual 107, 3), (129, .iinc 7 1, 3), (132, .goto (-34), 3), (16, .aload_n 0, 1), (17, .getfield 12, 3), (20, .iload 7, 2), (22, .invokevirtual 98, 3), (25, .lstore 8, 2)] = true := by decide +kernel
theorem dX7_learnLine_0 : decode cX7_learnLine 0 = .ok (.ldc2_w 76, 3) := lw_dr lw_d_cX7_learnLine_0 0 rfl
theorem dX7_learnLine_3 : decode cX7_learnLine 3 = .ok (.lstore_n 3, 1) := lw_dr lw_d_cX7_learnLine_0 1 rfl
theorem dX7_learnLine_4 : decode cX7_learnLine 4 = .ok (.lconst 0, 1) := lw_dr lw_d_cX7_learnLine_0 2 rfl
theorem dX7_learnLine_5 : decode cX7_learnLine 5 = .ok (.lstore 5, 2) := lw_dr lw_d_cX7_learnLine_0 3 rfl
theorem dX7_learnLine_7 : decode cX7_learnLine 7 = .ok (.iconst 0, 1) := lw_dr lw_d_cX7_learnLine_0 4 rfl
theorem dX7_learnLine_8 : decode cX7_learnLine 8 = .ok (.istore 7, 2) := lw_dr lw_d_cX7_learnLine_0 5 rfl
theorem dX7_learnLine_10 : decode cX7_learnLine 10 = .ok (.iload 7, 2) := lw_dr lw_d_cX7_learnLine_0 6 rfl
theorem dX7_learnLine_12 : decode cX7_learnLine 12 = .ok (.iload_n 2, 1) := lw_dr lw_d_cX7_learnLine_0 7 rfl
theorem dX7_learnLine_13 : decode cX7_learnLine 13 = .ok (.if_icmp .ge 82, 3) := lw_dr lw_d_cX7_learnLine_0 8 rfl
theorem dX7_learnLine_95 : decode cX7_learnLine 95 = .ok (.iconst 0, 1) := lw_dr lw_d_cX7_learnLine_0 9 rfl
theorem dX7_learnLine_96 : decode cX7_learnLine 96 = .ok (.istore 7, 2) := lw_dr lw_d_cX7_learnLine_0 10 rfl
theorem dX7_learnLine_98 : decode cX7_learnLine 98 = .ok (.iload 7, 2) := lw_dr lw_d_cX7_learnLine_0 11 rfl
theorem dX7_learnLine_100 : decode cX7_learnLine 100 = .ok (.aload_n 0, 1) := lw_dr lw_d_cX7_learnLine_0 12 rfl
theorem dX7_learnLine_101 : decode cX7_learnLine 101 = .ok (.getfield 12, 3) := lw_dr lw_d_cX7_learnLine_0 13 rfl
theorem dX7_learnLine_104 : decode cX7_learnLine 104 = .ok (.getfield 104, 3) := lw_dr lw_d_cX7_learnLine_0 14 rfl
theorem dX7_learnLine_107 : decode cX7_learnLine 107 = .ok (.if_icmp .ge 28, 3) := lw_dr lw_d_cX7_learnLine_0 15 rfl
theorem dX7_learnLine_135 : decode cX7_learnLine 135 = .ok (.aload_n 0, 1) := lw_dr lw_d_cX7_learnLine_0 16 rfl
theorem dX7_learnLine_136 : decode cX7_learnLine 136 = .ok (.dup, 1) := lw_dr lw_d_cX7_learnLine_0 17 rfl
theorem dX7_learnLine_137 : decode cX7_learnLine 137 = .ok (.getfield 45, 3) := lw_dr lw_d_cX7_learnLine_0 18 rfl
theorem dX7_learnLine_140 : decode cX7_learnLine 140 = .ok (.lload 5, 2) := lw_dr lw_d_cX7_learnLine_0 19 rfl
theorem dX7_learnLine_142 : decode cX7_learnLine 142 = .ok (.ladd, 1) := lw_dr lw_d_cX7_learnLine_0 20 rfl
theorem dX7_learnLine_143 : decode cX7_learnLine 143 = .ok (.putfield 45, 3) := lw_dr lw_d_cX7_learnLine_0 21 rfl
theorem dX7_learnLine_146 : decode cX7_learnLine 146 = .ok (.return_, 1) := lw_dr lw_d_cX7_learnLine_0 22 rfl
theorem dX7_learnLine_110 : decode cX7_learnLine 110 = .ok (.aload_n 0, 1) := lw_dr lw_d_cX7_learnLine_0 23 rfl
theorem dX7_learnLine_111 : decode cX7_learnLine 111 = .ok (.iload 7, 2) := lw_dr lw_d_cX7_learnLine_0 24 rfl
theorem dX7_learnLine_113 : decode cX7_learnLine 113 = .ok (.aload_n 0, 1) := lw_dr lw_d_cX7_learnLine_0 25 rfl
theorem dX7_learnLine_114 : decode cX7_learnLine 114 = .ok (.getfield 12, 3) := lw_dr lw_d_cX7_learnLine_0 26 rfl
theorem dX7_learnLine_117 : decode cX7_learnLine 117 = .ok (.getfield 121, 3) := lw_dr lw_d_cX7_learnLine_0 27 rfl
theorem dX7_learnLine_120 : decode cX7_learnLine 120 = .ok (.iload 7, 2) := lw_dr lw_d_cX7_learnLine_0 28 rfl
theorem dX7_learnLine_122 : decode cX7_learnLine 122 = .ok (.iaload, 1) := lw_dr lw_d_cX7_learnLine_0 29 rfl
theorem dX7_learnLine_123 : decode cX7_learnLine 123 = .ok (.lload_n 3, 1) := lw_dr lw_d_cX7_learnLine_0 30 rfl
theorem dX7_learnLine_124 : decode cX7_learnLine 124 = .ok (.lload 5, 2) := lw_dr lw_d_cX7_learnLine_0 31 rfl
theorem dX7_learnLine_126 : decode cX7_learnLine 126 = .ok (.invokevirtual 107, 3) := lw_dr lw_d_cX7_learnLine_0 32 rfl
theorem dX7_learnLine_129 : decode cX7_learnLine 129 = .ok (.iinc 7 1, 3) := lw_dr lw_d_cX7_learnLine_0 33 rfl
theorem dX7_learnLine_132 : decode cX7_learnLine 132 = .ok (.goto (-34), 3) := lw_dr lw_d_cX7_learnLine_0 34 rfl
theorem dX7_learnLine_16 : decode cX7_learnLine 16 = .ok (.aload_n 0, 1) := lw_dr lw_d_cX7_learnLine_0 35 rfl
theorem dX7_learnLine_17 : decode cX7_learnLine 17 = .ok (.getfield 12, 3) := lw_dr lw_d_cX7_learnLine_0 36 rfl
theorem dX7_learnLine_20 : decode cX7_learnLine 20 = .ok (.iload 7, 2) := lw_dr lw_d_cX7_learnLine_0 37 rfl
theorem dX7_learnLine_22 : decode cX7_learnLine 22 = .ok (.invokevirtual 98, 3) := lw_dr lw_d_cX7_learnLine_0 38 rfl
theorem dX7_learnLine_25 : decode cX7_learnLine 25 = .ok (.lstore 8, 2) := lw_dr lw_d_cX7_learnLine_0 39 rfl
theorem lw_d_cX7_learnLine_27 : lw_dl cX7_learnLine [(27, .lload 8, 2), (29, .lconst 0, 1), (30, .lcmp, 1), (31, .ifCond .ge 7, 3), (38, .ldc2_w 102, 3), (41, .lconst 1, 1), (42, .lload 8, 2), (44, .ladd, 1), (45, .ldiv, 1), (46, .lstore 10, 2), (48, .aload_n 0, 1), (49, .aload_n 0, 1), (50, .getfield 12, 3), (53, .getfield 104, 3), (56, .iload 7, 2), (58, .lload 8, 2), (60, .lload 10, 2), (62, .invokevirtual 107, 3), (65, .aload_n 0, 1), (66, .iload_n 1, 1), (67, .iload 7, 2), (69, .iadd, 1), (70, .lload 8, 2), (72, .invokevirtual 111, 3), (75, .lload_n 3, 1), (76, .lload 8, 2), (78, .invokestatic 115, 3), (81, .lstore_n 3, 1), (82, .lload 5, 2), (84, .lload 10, 2), (86, .ladd, 1), (87, .lstore 5, 2), (89, .iinc 7 1, 3), (92, .goto (-82), 3), (34, .lconst 0, 1), (35, .goto 11, 3)] = true := by decide +kernel
theorem dX7_learnLine_27 : decode cX7_learnLine 27 = .ok (.lload 8, 2) := lw_dr lw_d_cX7_learnLine_27 0 rfl
theorem dX7_learnLine_29 : decode cX7_learnLine 29 = .ok (.lconst 0, 1) := lw_dr lw_d_cX7_learnLine_27 1 rfl
theorem dX7_learnLine_30 : decode cX7_learnLine 30 = .ok (.lcmp, 1) := lw_dr lw_d_cX7_learnLine_27 2 rfl
theorem dX7_learnLine_31 : decode cX7_learnLine 31 = .ok (.ifCond .ge 7, 3) := lw_dr lw_d_cX7_learnLine_27 3 rfl
theorem dX7_learnLine_38 : decode cX7_learnLine 38 = .ok (.ldc2_w 102, 3) := lw_dr lw_d_cX7_learnLine_27 4 rfl
theorem dX7_learnLine_41 : decode cX7_learnLine 41 = .ok (.lconst 1, 1) := lw_dr lw_d_cX7_learnLine_27 5 rfl
theorem dX7_learnLine_42 : decode cX7_learnLine 42 = .ok (.lload 8, 2) := lw_dr lw_d_cX7_learnLine_27 6 rfl
theorem dX7_learnLine_44 : decode cX7_learnLine 44 = .ok (.ladd, 1) := lw_dr lw_d_cX7_learnLine_27 7 rfl
theorem dX7_learnLine_45 : decode cX7_learnLine 45 = .ok (.ldiv, 1) := lw_dr lw_d_cX7_learnLine_27 8 rfl
theorem dX7_learnLine_46 : decode cX7_learnLine 46 = .ok (.lstore 10, 2) := lw_dr lw_d_cX7_learnLine_27 9 rfl
theorem dX7_learnLine_48 : decode cX7_learnLine 48 = .ok (.aload_n 0, 1) := lw_dr lw_d_cX7_learnLine_27 10 rfl
theorem dX7_learnLine_49 : decode cX7_learnLine 49 = .ok (.aload_n 0, 1) := lw_dr lw_d_cX7_learnLine_27 11 rfl
theorem dX7_learnLine_50 : decode cX7_learnLine 50 = .ok (.getfield 12, 3) := lw_dr lw_d_cX7_learnLine_27 12 rfl
theorem dX7_learnLine_53 : decode cX7_learnLine 53 = .ok (.getfield 104, 3) := lw_dr lw_d_cX7_learnLine_27 13 rfl
theorem dX7_learnLine_56 : decode cX7_learnLine 56 = .ok (.iload 7, 2) := lw_dr lw_d_cX7_learnLine_27 14 rfl
theorem dX7_learnLine_58 : decode cX7_learnLine 58 = .ok (.lload 8, 2) := lw_dr lw_d_cX7_learnLine_27 15 rfl
theorem dX7_learnLine_60 : decode cX7_learnLine 60 = .ok (.lload 10, 2) := lw_dr lw_d_cX7_learnLine_27 16 rfl
theorem dX7_learnLine_62 : decode cX7_learnLine 62 = .ok (.invokevirtual 107, 3) := lw_dr lw_d_cX7_learnLine_27 17 rfl
theorem dX7_learnLine_65 : decode cX7_learnLine 65 = .ok (.aload_n 0, 1) := lw_dr lw_d_cX7_learnLine_27 18 rfl
theorem dX7_learnLine_66 : decode cX7_learnLine 66 = .ok (.iload_n 1, 1) := lw_dr lw_d_cX7_learnLine_27 19 rfl
theorem dX7_learnLine_67 : decode cX7_learnLine 67 = .ok (.iload 7, 2) := lw_dr lw_d_cX7_learnLine_27 20 rfl
theorem dX7_learnLine_69 : decode cX7_learnLine 69 = .ok (.iadd, 1) := lw_dr lw_d_cX7_learnLine_27 21 rfl
theorem dX7_learnLine_70 : decode cX7_learnLine 70 = .ok (.lload 8, 2) := lw_dr lw_d_cX7_learnLine_27 22 rfl
theorem dX7_learnLine_72 : decode cX7_learnLine 72 = .ok (.invokevirtual 111, 3) := lw_dr lw_d_cX7_learnLine_27 23 rfl
theorem dX7_learnLine_75 : decode cX7_learnLine 75 = .ok (.lload_n 3, 1) := lw_dr lw_d_cX7_learnLine_27 24 rfl
theorem dX7_learnLine_76 : decode cX7_learnLine 76 = .ok (.lload 8, 2) := lw_dr lw_d_cX7_learnLine_27 25 rfl
theorem dX7_learnLine_78 : decode cX7_learnLine 78 = .ok (.invokestatic 115, 3) := lw_dr lw_d_cX7_learnLine_27 26 rfl
theorem dX7_learnLine_81 : decode cX7_learnLine 81 = .ok (.lstore_n 3, 1) := lw_dr lw_d_cX7_learnLine_27 27 rfl
theorem dX7_learnLine_82 : decode cX7_learnLine 82 = .ok (.lload 5, 2) := lw_dr lw_d_cX7_learnLine_27 28 rfl
theorem dX7_learnLine_84 : decode cX7_learnLine 84 = .ok (.lload 10, 2) := lw_dr lw_d_cX7_learnLine_27 29 rfl
theorem dX7_learnLine_86 : decode cX7_learnLine 86 = .ok (.ladd, 1) := lw_dr lw_d_cX7_learnLine_27 30 rfl
theorem dX7_learnLine_87 : decode cX7_learnLine 87 = .ok (.lstore 5, 2) := lw_dr lw_d_cX7_learnLine_27 31 rfl
theorem dX7_learnLine_89 : decode cX7_learnLine 89 = .ok (.iinc 7 1, 3) := lw_dr lw_d_cX7_learnLine_27 32 rfl
theorem dX7_learnLine_92 : decode cX7_learnLine 92 = .ok (.goto (-82), 3) := lw_dr lw_d_cX7_learnLine_27 33 rfl
theorem dX7_learnLine_34 : decode cX7_learnLine 34 = .ok (.lconst 0, 1) := lw_dr lw_d_cX7_learnLine_27 34 rfl
theorem dX7_learnLine_35 : decode cX7_learnLine 35 = .ok (.goto 11, 3) := lw_dr lw_d_cX7_learnLine_27 35 rfl
theorem lw_d_cX7_note_0 : lw_dl cX7_note [(0, .iload_n 1, 1), (1, .bipush 8, 2), (3, .imul, 1), (4, .iload_n 2, 1), (5, .iadd, 1), (6, .istore 7, 2), (8, .aload_n 0, 1), (9, .getfield 26, 3), (12, .iload 7, 2), (14, .aload_n 0, 1), (15, .getfield 26, 3), (18, .iload 7, 2), (20, .laload, 1), (21, .lload_n 3, 1), (22, .invokestatic 115, 3), (25, .lastore, 1), (26, .aload_n 0, 1), (27, .getfield 29, 3), (30, .iload 7, 2), (32, .dup2, 1), (33, .laload, 1), (34, .lload 5, 2), (36, .ladd, 1), (37, .lastore, 1), (38, .return_, 1)] = true := by decide +kernel
theorem dX7_note_0 : decode cX7_note 0 = .ok (.iload_n 1, 1) := lw_dr lw_d_cX7_note_0 0 rfl
theorem dX7_note_1 : decode cX7_note 1 = .ok (.bipush 8, 2) := lw_dr lw_d_cX7_note_0 1 rfl
theorem dX7_note_3 : decode cX7_note 3 = .ok (.imul, 1) := lw_dr lw_d_cX7_note_0 2 rfl
theorem dX7_note_4 : decode cX7_note 4 = .ok (.iload_n 2, 1) := lw_dr lw_d_cX7_note_0 3 rfl
theorem dX7_note_5 : decode cX7_note 5 = .ok (.iadd, 1) := lw_dr lw_d_cX7_note_0 4 rfl
theorem dX7_note_6 : decode cX7_note 6 = .ok (.istore 7, 2) := lw_dr lw_d_cX7_note_0 5 rfl
theorem dX7_note_8 : decode cX7_note 8 = .ok (.aload_n 0, 1) := lw_dr lw_d_cX7_note_0 6 rfl
theorem dX7_note_9 : decode cX7_note 9 = .ok (.getfield 26, 3) := lw_dr lw_d_cX7_note_0 7 rfl
theorem dX7_note_12 : decode cX7_note 12 = .ok (.iload 7, 2) := lw_dr lw_d_cX7_note_0 8 rfl
theorem dX7_note_14 : decode cX7_note 14 = .ok (.aload_n 0, 1) := lw_dr lw_d_cX7_note_0 9 rfl
theorem dX7_note_15 : decode cX7_note 15 = .ok (.getfield 26, 3) := lw_dr lw_d_cX7_note_0 10 rfl
theorem dX7_note_18 : decode cX7_note 18 = .ok (.iload 7, 2) := lw_dr lw_d_cX7_note_0 11 rfl
theorem dX7_note_20 : decode cX7_note 20 = .ok (.laload, 1) := lw_dr lw_d_cX7_note_0 12 rfl
theorem dX7_note_21 : decode cX7_note 21 = .ok (.lload_n 3, 1) := lw_dr lw_d_cX7_note_0 13 rfl
theorem dX7_note_22 : decode cX7_note 22 = .ok (.invokestatic 115, 3) := lw_dr lw_d_cX7_note_0 14 rfl
theorem dX7_note_25 : decode cX7_note 25 = .ok (.lastore, 1) := lw_dr lw_d_cX7_note_0 15 rfl
theorem dX7_note_26 : decode cX7_note 26 = .ok (.aload_n 0, 1) := lw_dr lw_d_cX7_note_0 16 rfl
theorem dX7_note_27 : decode cX7_note 27 = .ok (.getfield 29, 3) := lw_dr lw_d_cX7_note_0 17 rfl
theorem dX7_note_30 : decode cX7_note 30 = .ok (.iload 7, 2) := lw_dr lw_d_cX7_note_0 18 rfl
theorem dX7_note_32 : decode cX7_note 32 = .ok (.dup2, 1) := lw_dr lw_d_cX7_note_0 19 rfl
theorem dX7_note_33 : decode cX7_note 33 = .ok (.laload, 1) := lw_dr lw_d_cX7_note_0 20 rfl
theorem dX7_note_34 : decode cX7_note 34 = .ok (.lload 5, 2) := lw_dr lw_d_cX7_note_0 21 rfl
theorem dX7_note_36 : decode cX7_note 36 = .ok (.ladd, 1) := lw_dr lw_d_cX7_note_0 22 rfl
theorem dX7_note_37 : decode cX7_note 37 = .ok (.lastore, 1) := lw_dr lw_d_cX7_note_0 23 rfl
theorem dX7_note_38 : decode cX7_note 38 = .ok (.return_, 1) := lw_dr lw_d_cX7_note_0 24 rfl
theorem lw_d_cX7_admit_0 : lw_dl cX7_admit [(0, .aload_n 0, 1), (1, .getfield 41, 3), (4, .bipush 10, 2), (6, .if_icmp .ne 26, 3), (32, .aload_n 0, 1), (33, .getfield 41, 3), (36, .istore 4, 2), (38, .iload 4, 2), (40, .ifCond .le 55, 3), (95, .aload_n 0, 1), (96, .getfield 18, 3), (99, .iload 4, 2), (101, .lload_n 2, 1), (102, .lastore, 1), (103, .aload_n 0, 1), (104, .getfield 22, 3), (107, .iload 4, 2), (109, .iload_n 1, 1), (110, .iastore, 1), (111, .aload_n 0, 1), (112, .dup, 1), (113, .getfield 41, 3), (116, .iconst 1, 1), (117, .iadd, 1), (118, .putfield 41, 3), (121, .return_, 1), (43, .aload_n 0, 1), (44, .getfield 18, 3), (47, .iload 4, 2), (49, .iconst 1, 1), (50, .isub, 1), (51, .laload, 1), (52, .lload_n 2, 1), (53, .lcmp, 1), (54, .ifCond .le 41, 3), (57, .aload_n 0, 1), (58, .getfield 18, 3), (61, .iload 4, 2), (63, .aload_n 0, 1), (64, .getfield 18, 3)] = true := by decide +kernel
theorem dX7_admit_0 : decode cX7_admit 0 = .ok (.aload_n 0, 1) := lw_dr lw_d_cX7_admit_0 0 rfl
theorem dX7_admit_1 : decode cX7_admit 1 = .ok (.getfield 41, 3) := lw_dr lw_d_cX7_admit_0 1 rfl
theorem dX7_admit_4 : decode cX7_admit 4 = .ok (.bipush 10, 2) := lw_dr lw_d_cX7_admit_0 2 rfl
theorem dX7_admit_6 : decode cX7_admit 6 = .ok (.if_icmp .ne 26, 3) := lw_dr lw_d_cX7_admit_0 3 rfl
theorem dX7_admit_32 : decode cX7_admit 32 = .ok (.aload_n 0, 1) := lw_dr lw_d_cX7_admit_0 4 rfl
theorem dX7_admit_33 : decode cX7_admit 33 = .ok (.getfield 41, 3) := lw_dr lw_d_cX7_admit_0 5 rfl
theorem dX7_admit_36 : decode cX7_admit 36 = .ok (.istore 4, 2) := lw_dr lw_d_cX7_admit_0 6 rfl
theorem dX7_admit_38 : decode cX7_admit 38 = .ok (.iload 4, 2) := lw_dr lw_d_cX7_admit_0 7 rfl
theorem dX7_admit_40 : decode cX7_admit 40 = .ok (.ifCond .le 55, 3) := lw_dr lw_d_cX7_admit_0 8 rfl
theorem dX7_admit_95 : decode cX7_admit 95 = .ok (.aload_n 0, 1) := lw_dr lw_d_cX7_admit_0 9 rfl
theorem dX7_admit_96 : decode cX7_admit 96 = .ok (.getfield 18, 3) := lw_dr lw_d_cX7_admit_0 10 rfl
theorem dX7_admit_99 : decode cX7_admit 99 = .ok (.iload 4, 2) := lw_dr lw_d_cX7_admit_0 11 rfl
theorem dX7_admit_101 : decode cX7_admit 101 = .ok (.lload_n 2, 1) := lw_dr lw_d_cX7_admit_0 12 rfl
theorem dX7_admit_102 : decode cX7_admit 102 = .ok (.lastore, 1) := lw_dr lw_d_cX7_admit_0 13 rfl
theorem dX7_admit_103 : decode cX7_admit 103 = .ok (.aload_n 0, 1) := lw_dr lw_d_cX7_admit_0 14 rfl
theorem dX7_admit_104 : decode cX7_admit 104 = .ok (.getfield 22, 3) := lw_dr lw_d_cX7_admit_0 15 rfl
theorem dX7_admit_107 : decode cX7_admit 107 = .ok (.iload 4, 2) := lw_dr lw_d_cX7_admit_0 16 rfl
theorem dX7_admit_109 : decode cX7_admit 109 = .ok (.iload_n 1, 1) := lw_dr lw_d_cX7_admit_0 17 rfl
theorem dX7_admit_110 : decode cX7_admit 110 = .ok (.iastore, 1) := lw_dr lw_d_cX7_admit_0 18 rfl
theorem dX7_admit_111 : decode cX7_admit 111 = .ok (.aload_n 0, 1) := lw_dr lw_d_cX7_admit_0 19 rfl
theorem dX7_admit_112 : decode cX7_admit 112 = .ok (.dup, 1) := lw_dr lw_d_cX7_admit_0 20 rfl
theorem dX7_admit_113 : decode cX7_admit 113 = .ok (.getfield 41, 3) := lw_dr lw_d_cX7_admit_0 21 rfl
theorem dX7_admit_116 : decode cX7_admit 116 = .ok (.iconst 1, 1) := lw_dr lw_d_cX7_admit_0 22 rfl
theorem dX7_admit_117 : decode cX7_admit 117 = .ok (.iadd, 1) := lw_dr lw_d_cX7_admit_0 23 rfl
theorem dX7_admit_118 : decode cX7_admit 118 = .ok (.putfield 41, 3) := lw_dr lw_d_cX7_admit_0 24 rfl
theorem dX7_admit_121 : decode cX7_admit 121 = .ok (.return_, 1) := lw_dr lw_d_cX7_admit_0 25 rfl
theorem dX7_admit_43 : decode cX7_admit 43 = .ok (.aload_n 0, 1) := lw_dr lw_d_cX7_admit_0 26 rfl
theorem dX7_admit_44 : decode cX7_admit 44 = .ok (.getfield 18, 3) := lw_dr lw_d_cX7_admit_0 27 rfl
theorem dX7_admit_47 : decode cX7_admit 47 = .ok (.iload 4, 2) := lw_dr lw_d_cX7_admit_0 28 rfl
theorem dX7_admit_49 : decode cX7_admit 49 = .ok (.iconst 1, 1) := lw_dr lw_d_cX7_admit_0 29 rfl
theorem dX7_admit_50 : decode cX7_admit 50 = .ok (.isub, 1) := lw_dr lw_d_cX7_admit_0 30 rfl
theorem dX7_admit_51 : decode cX7_admit 51 = .ok (.laload, 1) := lw_dr lw_d_cX7_admit_0 31 rfl
theorem dX7_admit_52 : decode cX7_admit 52 = .ok (.lload_n 2, 1) := lw_dr lw_d_cX7_admit_0 32 rfl
theorem dX7_admit_53 : decode cX7_admit 53 = .ok (.lcmp, 1) := lw_dr lw_d_cX7_admit_0 33 rfl
theorem dX7_admit_54 : decode cX7_admit 54 = .ok (.ifCond .le 41, 3) := lw_dr lw_d_cX7_admit_0 34 rfl
theorem dX7_admit_57 : decode cX7_admit 57 = .ok (.aload_n 0, 1) := lw_dr lw_d_cX7_admit_0 35 rfl
theorem dX7_admit_58 : decode cX7_admit 58 = .ok (.getfield 18, 3) := lw_dr lw_d_cX7_admit_0 36 rfl
theorem dX7_admit_61 : decode cX7_admit 61 = .ok (.iload 4, 2) := lw_dr lw_d_cX7_admit_0 37 rfl
theorem dX7_admit_63 : decode cX7_admit 63 = .ok (.aload_n 0, 1) := lw_dr lw_d_cX7_admit_0 38 rfl
theorem dX7_admit_64 : decode cX7_admit 64 = .ok (.getfield 18, 3) := lw_dr lw_d_cX7_admit_0 39 rfl
theorem lw_d_cX7_admit_67 : lw_dl cX7_admit [(67, .iload 4, 2), (69, .iconst 1, 1), (70, .isub, 1), (71, .laload, 1), (72, .lastore, 1), (73, .aload_n 0, 1), (74, .getfield 22, 3), (77, .iload 4, 2), (79, .aload_n 0, 1), (80, .getfield 22, 3), (83, .iload 4, 2), (85, .iconst 1, 1), (86, .isub, 1), (87, .iaload, 1), (88, .iastore, 1), (89, .iinc 4 (-1), 3), (92, .goto (-54), 3), (9, .lload_n 2, 1), (10, .aload_n 0, 1), (11, .getfield 18, 3), (14, .bipush 9, 2), (16, .laload, 1), (17, .lcmp, 1), (18, .ifCond .lt 4, 3), (22, .aload_n 0, 1), (23, .dup, 1), (24, .getfield 41, 3), (27, .iconst 1, 1), (28, .isub, 1), (29, .putfield 41, 3), (21, .return_, 1)] = true := by decide +kernel
theorem dX7_admit_67 : decode cX7_admit 67 = .ok (.iload 4, 2) := lw_dr lw_d_cX7_admit_67 0 rfl
theorem dX7_admit_69 : decode cX7_admit 69 = .ok (.iconst 1, 1) := lw_dr lw_d_cX7_admit_67 1 rfl
theorem dX7_admit_70 : decode cX7_admit 70 = .ok (.isub, 1) := lw_dr lw_d_cX7_admit_67 2 rfl
theorem dX7_admit_71 : decode cX7_admit 71 = .ok (.laload, 1) := lw_dr lw_d_cX7_admit_67 3 rfl
theorem dX7_admit_72 : decode cX7_admit 72 = .ok (.lastore, 1) := lw_dr lw_d_cX7_admit_67 4 rfl
theorem dX7_admit_73 : decode cX7_admit 73 = .ok (.aload_n 0, 1) := lw_dr lw_d_cX7_admit_67 5 rfl
theorem dX7_admit_74 : decode cX7_admit 74 = .ok (.getfield 22, 3) := lw_dr lw_d_cX7_admit_67 6 rfl
theorem dX7_admit_77 : decode cX7_admit 77 = .ok (.iload 4, 2) := lw_dr lw_d_cX7_admit_67 7 rfl
theorem dX7_admit_79 : decode cX7_admit 79 = .ok (.aload_n 0, 1) := lw_dr lw_d_cX7_admit_67 8 rfl
theorem dX7_admit_80 : decode cX7_admit 80 = .ok (.getfield 22, 3) := lw_dr lw_d_cX7_admit_67 9 rfl
theorem dX7_admit_83 : decode cX7_admit 83 = .ok (.iload 4, 2) := lw_dr lw_d_cX7_admit_67 10 rfl
theorem dX7_admit_85 : decode cX7_admit 85 = .ok (.iconst 1, 1) := lw_dr lw_d_cX7_admit_67 11 rfl
theorem dX7_admit_86 : decode cX7_admit 86 = .ok (.isub, 1) := lw_dr lw_d_cX7_admit_67 12 rfl
theorem dX7_admit_87 : decode cX7_admit 87 = .ok (.iaload, 1) := lw_dr lw_d_cX7_admit_67 13 rfl
theorem dX7_admit_88 : decode cX7_admit 88 = .ok (.iastore, 1) := lw_dr lw_d_cX7_admit_67 14 rfl
theorem dX7_admit_89 : decode cX7_admit 89 = .ok (.iinc 4 (-1), 3) := lw_dr lw_d_cX7_admit_67 15 rfl
theorem dX7_admit_92 : decode cX7_admit 92 = .ok (.goto (-54), 3) := lw_dr lw_d_cX7_admit_67 16 rfl
theorem dX7_admit_9 : decode cX7_admit 9 = .ok (.lload_n 2, 1) := lw_dr lw_d_cX7_admit_67 17 rfl
theorem dX7_admit_10 : decode cX7_admit 10 = .ok (.aload_n 0, 1) := lw_dr lw_d_cX7_admit_67 18 rfl
theorem dX7_admit_11 : decode cX7_admit 11 = .ok (.getfield 18, 3) := lw_dr lw_d_cX7_admit_67 19 rfl
theorem dX7_admit_14 : decode cX7_admit 14 = .ok (.bipush 9, 2) := lw_dr lw_d_cX7_admit_67 20 rfl
theorem dX7_admit_16 : decode cX7_admit 16 = .ok (.laload, 1) := lw_dr lw_d_cX7_admit_67 21 rfl
theorem dX7_admit_17 : decode cX7_admit 17 = .ok (.lcmp, 1) := lw_dr lw_d_cX7_admit_67 22 rfl
theorem dX7_admit_18 : decode cX7_admit 18 = .ok (.ifCond .lt 4, 3) := lw_dr lw_d_cX7_admit_67 23 rfl
theorem dX7_admit_22 : decode cX7_admit 22 = .ok (.aload_n 0, 1) := lw_dr lw_d_cX7_admit_67 24 rfl
theorem dX7_admit_23 : decode cX7_admit 23 = .ok (.dup, 1) := lw_dr lw_d_cX7_admit_67 25 rfl
theorem dX7_admit_24 : decode cX7_admit 24 = .ok (.getfield 41, 3) := lw_dr lw_d_cX7_admit_67 26 rfl
theorem dX7_admit_27 : decode cX7_admit 27 = .ok (.iconst 1, 1) := lw_dr lw_d_cX7_admit_67 27 rfl
theorem dX7_admit_28 : decode cX7_admit 28 = .ok (.isub, 1) := lw_dr lw_d_cX7_admit_67 28 rfl
theorem dX7_admit_29 : decode cX7_admit 29 = .ok (.putfield 41, 3) := lw_dr lw_d_cX7_admit_67 29 rfl
theorem dX7_admit_21 : decode cX7_admit 21 = .ok (.return_, 1) := lw_dr lw_d_cX7_admit_67 30 rfl
theorem lw_d_cX7_countAhead_0 : lw_dl cX7_countAhead [(0, .aload_n 1, 1), (1, .getfield 73, 3), (4, .ifCond .ne 5, 3), (9, .aload_n 0, 1), (10, .aload_n 1, 1), (11, .aload_n 2, 1), (12, .invokevirtual 84, 3), (15, .iconst 0, 1), (16, .istore 6, 2), (18, .aload_n 0, 1), (19, .getfield 12, 3), (22, .invokevirtual 87, 3), (25, .istore 7, 2), (27, .iconst 0, 1), (28, .istore 8, 2), (30, .iconst 0, 1), (31, .istore 9, 2), (33, .iload 9, 2), (35, .iload 7, 2), (37, .if_icmp .ge 72, 3), (109, .iload 6, 2), (111, .ireturn, 1), (40, .iconst 0, 1), (41, .istore 10, 2), (43, .iload 10, 2), (45, .aload_n 1, 1), (46, .getfield 61, 3), (49, .if_icmp .ge 47, 3), (96, .aload_n 0, 1), (97, .getfield 12, 3), (100, .invokevirtual 95, 3), (103, .iinc 9 1, 3), (106, .goto (-73), 3), (52, .aload_n 0, 1), (53, .getfield 12, 3), (56, .iload 10, 2), (58, .invokevirtual 98, 3), (61, .lstore 11, 2), (63, .lload 11, 2), (65, .lload_n 3, 1)] = true := by decide +kernel
theorem dX7_countAhead_0 : decode cX7_countAhead 0 = .ok (.aload_n 1, 1) := lw_dr lw_d_cX7_countAhead_0 0 rfl
theorem dX7_countAhead_1 : decode cX7_countAhead 1 = .ok (.getfield 73, 3) := lw_dr lw_d_cX7_countAhead_0 1 rfl
theorem dX7_countAhead_4 : decode cX7_countAhead 4 = .ok (.ifCond .ne 5, 3) := lw_dr lw_d_cX7_countAhead_0 2 rfl
theorem dX7_countAhead_9 : decode cX7_countAhead 9 = .ok (.aload_n 0, 1) := lw_dr lw_d_cX7_countAhead_0 3 rfl
theorem dX7_countAhead_10 : decode cX7_countAhead 10 = .ok (.aload_n 1, 1) := lw_dr lw_d_cX7_countAhead_0 4 rfl
theorem dX7_countAhead_11 : decode cX7_countAhead 11 = .ok (.aload_n 2, 1) := lw_dr lw_d_cX7_countAhead_0 5 rfl
theorem dX7_countAhead_12 : decode cX7_countAhead 12 = .ok (.invokevirtual 84, 3) := lw_dr lw_d_cX7_countAhead_0 6 rfl
theorem dX7_countAhead_15 : decode cX7_countAhead 15 = .ok (.iconst 0, 1) := lw_dr lw_d_cX7_countAhead_0 7 rfl
theorem dX7_countAhead_16 : decode cX7_countAhead 16 = .ok (.istore 6, 2) := lw_dr lw_d_cX7_countAhead_0 8 rfl
theorem dX7_countAhead_18 : decode cX7_countAhead 18 = .ok (.aload_n 0, 1) := lw_dr lw_d_cX7_countAhead_0 9 rfl
theorem dX7_countAhead_19 : decode cX7_countAhead 19 = .ok (.getfield 12, 3) := lw_dr lw_d_cX7_countAhead_0 10 rfl
theorem dX7_countAhead_22 : decode cX7_countAhead 22 = .ok (.invokevirtual 87, 3) := lw_dr lw_d_cX7_countAhead_0 11 rfl
theorem dX7_countAhead_25 : decode cX7_countAhead 25 = .ok (.istore 7, 2) := lw_dr lw_d_cX7_countAhead_0 12 rfl
theorem dX7_countAhead_27 : decode cX7_countAhead 27 = .ok (.iconst 0, 1) := lw_dr lw_d_cX7_countAhead_0 13 rfl
theorem dX7_countAhead_28 : decode cX7_countAhead 28 = .ok (.istore 8, 2) := lw_dr lw_d_cX7_countAhead_0 14 rfl
theorem dX7_countAhead_30 : decode cX7_countAhead 30 = .ok (.iconst 0, 1) := lw_dr lw_d_cX7_countAhead_0 15 rfl
theorem dX7_countAhead_31 : decode cX7_countAhead 31 = .ok (.istore 9, 2) := lw_dr lw_d_cX7_countAhead_0 16 rfl
theorem dX7_countAhead_33 : decode cX7_countAhead 33 = .ok (.iload 9, 2) := lw_dr lw_d_cX7_countAhead_0 17 rfl
theorem dX7_countAhead_35 : decode cX7_countAhead 35 = .ok (.iload 7, 2) := lw_dr lw_d_cX7_countAhead_0 18 rfl
theorem dX7_countAhead_37 : decode cX7_countAhead 37 = .ok (.if_icmp .ge 72, 3) := lw_dr lw_d_cX7_countAhead_0 19 rfl
theorem dX7_countAhead_109 : decode cX7_countAhead 109 = .ok (.iload 6, 2) := lw_dr lw_d_cX7_countAhead_0 20 rfl
theorem dX7_countAhead_111 : decode cX7_countAhead 111 = .ok (.ireturn, 1) := lw_dr lw_d_cX7_countAhead_0 21 rfl
theorem dX7_countAhead_40 : decode cX7_countAhead 40 = .ok (.iconst 0, 1) := lw_dr lw_d_cX7_countAhead_0 22 rfl
theorem dX7_countAhead_41 : decode cX7_countAhead 41 = .ok (.istore 10, 2) := lw_dr lw_d_cX7_countAhead_0 23 rfl
theorem dX7_countAhead_43 : decode cX7_countAhead 43 = .ok (.iload 10, 2) := lw_dr lw_d_cX7_countAhead_0 24 rfl
theorem dX7_countAhead_45 : decode cX7_countAhead 45 = .ok (.aload_n 1, 1) := lw_dr lw_d_cX7_countAhead_0 25 rfl
theorem dX7_countAhead_46 : decode cX7_countAhead 46 = .ok (.getfield 61, 3) := lw_dr lw_d_cX7_countAhead_0 26 rfl
theorem dX7_countAhead_49 : decode cX7_countAhead 49 = .ok (.if_icmp .ge 47, 3) := lw_dr lw_d_cX7_countAhead_0 27 rfl
theorem dX7_countAhead_96 : decode cX7_countAhead 96 = .ok (.aload_n 0, 1) := lw_dr lw_d_cX7_countAhead_0 28 rfl
theorem dX7_countAhead_97 : decode cX7_countAhead 97 = .ok (.getfield 12, 3) := lw_dr lw_d_cX7_countAhead_0 29 rfl
theorem dX7_countAhead_100 : decode cX7_countAhead 100 = .ok (.invokevirtual 95, 3) := lw_dr lw_d_cX7_countAhead_0 30 rfl
theorem dX7_countAhead_103 : decode cX7_countAhead 103 = .ok (.iinc 9 1, 3) := lw_dr lw_d_cX7_countAhead_0 31 rfl
theorem dX7_countAhead_106 : decode cX7_countAhead 106 = .ok (.goto (-73), 3) := lw_dr lw_d_cX7_countAhead_0 32 rfl
theorem dX7_countAhead_52 : decode cX7_countAhead 52 = .ok (.aload_n 0, 1) := lw_dr lw_d_cX7_countAhead_0 33 rfl
theorem dX7_countAhead_53 : decode cX7_countAhead 53 = .ok (.getfield 12, 3) := lw_dr lw_d_cX7_countAhead_0 34 rfl
theorem dX7_countAhead_56 : decode cX7_countAhead 56 = .ok (.iload 10, 2) := lw_dr lw_d_cX7_countAhead_0 35 rfl
theorem dX7_countAhead_58 : decode cX7_countAhead 58 = .ok (.invokevirtual 98, 3) := lw_dr lw_d_cX7_countAhead_0 36 rfl
theorem dX7_countAhead_61 : decode cX7_countAhead 61 = .ok (.lstore 11, 2) := lw_dr lw_d_cX7_countAhead_0 37 rfl
theorem dX7_countAhead_63 : decode cX7_countAhead 63 = .ok (.lload 11, 2) := lw_dr lw_d_cX7_countAhead_0 38 rfl
theorem dX7_countAhead_65 : decode cX7_countAhead 65 = .ok (.lload_n 3, 1) := lw_dr lw_d_cX7_countAhead_0 39 rfl
theorem lw_d_cX7_countAhead_66 : lw_dl cX7_countAhead [(66, .lcmp, 1), (67, .ifCond .lt 17, 3), (84, .iinc 6 1, 3), (87, .iinc 8 1, 3), (90, .iinc 10 1, 3), (93, .goto (-50), 3), (70, .lload 11, 2), (72, .lload_n 3, 1), (73, .lcmp, 1), (74, .ifCond .ne 13, 3), (77, .iload 8, 2), (79, .iload 5, 2), (81, .if_icmp .ge 6, 3), (7, .iconst 0, 1), (8, .ireturn, 1)] = true := by decide +kernel
theorem dX7_countAhead_66 : decode cX7_countAhead 66 = .ok (.lcmp, 1) := lw_dr lw_d_cX7_countAhead_66 0 rfl
theorem dX7_countAhead_67 : decode cX7_countAhead 67 = .ok (.ifCond .lt 17, 3) := lw_dr lw_d_cX7_countAhead_66 1 rfl
theorem dX7_countAhead_84 : decode cX7_countAhead 84 = .ok (.iinc 6 1, 3) := lw_dr lw_d_cX7_countAhead_66 2 rfl
theorem dX7_countAhead_87 : decode cX7_countAhead 87 = .ok (.iinc 8 1, 3) := lw_dr lw_d_cX7_countAhead_66 3 rfl
theorem dX7_countAhead_90 : decode cX7_countAhead 90 = .ok (.iinc 10 1, 3) := lw_dr lw_d_cX7_countAhead_66 4 rfl
theorem dX7_countAhead_93 : decode cX7_countAhead 93 = .ok (.goto (-50), 3) := lw_dr lw_d_cX7_countAhead_66 5 rfl
theorem dX7_countAhead_70 : decode cX7_countAhead 70 = .ok (.lload 11, 2) := lw_dr lw_d_cX7_countAhead_66 6 rfl
theorem dX7_countAhead_72 : decode cX7_countAhead 72 = .ok (.lload_n 3, 1) := lw_dr lw_d_cX7_countAhead_66 7 rfl
theorem dX7_countAhead_73 : decode cX7_countAhead 73 = .ok (.lcmp, 1) := lw_dr lw_d_cX7_countAhead_66 8 rfl
theorem dX7_countAhead_74 : decode cX7_countAhead 74 = .ok (.ifCond .ne 13, 3) := lw_dr lw_d_cX7_countAhead_66 9 rfl
theorem dX7_countAhead_77 : decode cX7_countAhead 77 = .ok (.iload 8, 2) := lw_dr lw_d_cX7_countAhead_66 10 rfl
theorem dX7_countAhead_79 : decode cX7_countAhead 79 = .ok (.iload 5, 2) := lw_dr lw_d_cX7_countAhead_66 11 rfl
theorem dX7_countAhead_81 : decode cX7_countAhead 81 = .ok (.if_icmp .ge 6, 3) := lw_dr lw_d_cX7_countAhead_66 12 rfl
theorem dX7_countAhead_7 : decode cX7_countAhead 7 = .ok (.iconst 0, 1) := lw_dr lw_d_cX7_countAhead_66 13 rfl
theorem dX7_countAhead_8 : decode cX7_countAhead 8 = .ok (.ireturn, 1) := lw_dr lw_d_cX7_countAhead_66 14 rfl
theorem lw_d_cX7_cancelAll_0 : lw_dl cX7_cancelAll [(0, .aload_n 0, 1), (1, .aload_n 1, 1), (2, .invokevirtual 130, 3)] = true := by decide +kernel
theorem dX7_cancelAll_0 : decode cX7_cancelAll 0 = .ok (.aload_n 0, 1) := lw_dr lw_d_cX7_cancelAll_0 0 rfl
theorem dX7_cancelAll_1 : decode cX7_cancelAll 1 = .ok (.aload_n 1, 1) := lw_dr lw_d_cX7_cancelAll_0 1 rfl
theorem dX7_cancelAll_2 : decode cX7_cancelAll 2 = .ok (.invokevirtual 130, 3) := lw_dr lw_d_cX7_cancelAll_0 2 rfl
theorem lw_d_cX7_findTurns_0 : lw_dl cX7_findTurns [(0, .iconst 0, 1), (1, .istore_n 2, 1), (2, .iload_n 2, 1), (3, .aload_n 1, 1), (4, .getfield 73, 3), (7, .if_icmp .ge 86, 3), (93, .return_, 1), (10, .aload_n 1, 1), (11, .getfield 146, 3), (14, .iload_n 2, 1), (15, .iload_n 2, 1), (16, .invokevirtual 156, 3), (19, .istore_n 3, 1), (20, .iload_n 2, 1), (21, .istore 4, 2), (23, .iload 4, 2), (25, .ifCond .le 54, 3), (79, .aload_n 0, 1), (80, .getfield 32, 3), (83, .iload 4, 2), (85, .iload_n 2, 1), (86, .iastore, 1), (87, .iinc 2 1, 3), (90, .goto (-88), 3), (28, .aload_n 1, 1), (29, .getfield 146, 3), (32, .aload_n 0, 1), (33, .getfield 32, 3), (36, .iload 4, 2), (38, .iconst 1, 1)] = true := by decide +kernel
theorem dX7_findTurns_0 : decode cX7_findTurns 0 = .ok (.iconst 0, 1) := lw_dr lw_d_cX7_findTurns_0 0 rfl
theorem dX7_findTurns_1 : decode cX7_findTurns 1 = .ok (.istore_n 2, 1) := lw_dr lw_d_cX7_findTurns_0 1 rfl
theorem dX7_findTurns_2 : decode cX7_findTurns 2 = .ok (.iload_n 2, 1) := lw_dr lw_d_cX7_findTurns_0 2 rfl
theorem dX7_findTurns_3 : decode cX7_findTurns 3 = .ok (.aload_n 1, 1) := lw_dr lw_d_cX7_findTurns_0 3 rfl
theorem dX7_findTurns_4 : decode cX7_findTurns 4 = .ok (.getfield 73, 3) := lw_dr lw_d_cX7_findTurns_0 4 rfl
theorem dX7_findTurns_7 : decode cX7_findTurns 7 = .ok (.if_icmp .ge 86, 3) := lw_dr lw_d_cX7_findTurns_0 5 rfl
theorem dX7_findTurns_93 : decode cX7_findTurns 93 = .ok (.return_, 1) := lw_dr lw_d_cX7_findTurns_0 6 rfl
theorem dX7_findTurns_10 : decode cX7_findTurns 10 = .ok (.aload_n 1, 1) := lw_dr lw_d_cX7_findTurns_0 7 rfl
theorem dX7_findTurns_11 : decode cX7_findTurns 11 = .ok (.getfield 146, 3) := lw_dr lw_d_cX7_findTurns_0 8 rfl
theorem dX7_findTurns_14 : decode cX7_findTurns 14 = .ok (.iload_n 2, 1) := lw_dr lw_d_cX7_findTurns_0 9 rfl
theorem dX7_findTurns_15 : decode cX7_findTurns 15 = .ok (.iload_n 2, 1) := lw_dr lw_d_cX7_findTurns_0 10 rfl
theorem dX7_findTurns_16 : decode cX7_findTurns 16 = .ok (.invokevirtual 156, 3) := lw_dr lw_d_cX7_findTurns_0 11 rfl
theorem dX7_findTurns_19 : decode cX7_findTurns 19 = .ok (.istore_n 3, 1) := lw_dr lw_d_cX7_findTurns_0 12 rfl
theorem dX7_findTurns_20 : decode cX7_findTurns 20 = .ok (.iload_n 2, 1) := lw_dr lw_d_cX7_findTurns_0 13 rfl
theorem dX7_findTurns_21 : decode cX7_findTurns 21 = .ok (.istore 4, 2) := lw_dr lw_d_cX7_findTurns_0 14 rfl
theorem dX7_findTurns_23 : decode cX7_findTurns 23 = .ok (.iload 4, 2) := lw_dr lw_d_cX7_findTurns_0 15 rfl
theorem dX7_findTurns_25 : decode cX7_findTurns 25 = .ok (.ifCond .le 54, 3) := lw_dr lw_d_cX7_findTurns_0 16 rfl
theorem dX7_findTurns_79 : decode cX7_findTurns 79 = .ok (.aload_n 0, 1) := lw_dr lw_d_cX7_findTurns_0 17 rfl
theorem dX7_findTurns_80 : decode cX7_findTurns 80 = .ok (.getfield 32, 3) := lw_dr lw_d_cX7_findTurns_0 18 rfl
theorem dX7_findTurns_83 : decode cX7_findTurns 83 = .ok (.iload 4, 2) := lw_dr lw_d_cX7_findTurns_0 19 rfl
theorem dX7_findTurns_85 : decode cX7_findTurns 85 = .ok (.iload_n 2, 1) := lw_dr lw_d_cX7_findTurns_0 20 rfl
theorem dX7_findTurns_86 : decode cX7_findTurns 86 = .ok (.iastore, 1) := lw_dr lw_d_cX7_findTurns_0 21 rfl
theorem dX7_findTurns_87 : decode cX7_findTurns 87 = .ok (.iinc 2 1, 3) := lw_dr lw_d_cX7_findTurns_0 22 rfl
theorem dX7_findTurns_90 : decode cX7_findTurns 90 = .ok (.goto (-88), 3) := lw_dr lw_d_cX7_findTurns_0 23 rfl
theorem dX7_findTurns_28 : decode cX7_findTurns 28 = .ok (.aload_n 1, 1) := lw_dr lw_d_cX7_findTurns_0 24 rfl
theorem dX7_findTurns_29 : decode cX7_findTurns 29 = .ok (.getfield 146, 3) := lw_dr lw_d_cX7_findTurns_0 25 rfl
theorem dX7_findTurns_32 : decode cX7_findTurns 32 = .ok (.aload_n 0, 1) := lw_dr lw_d_cX7_findTurns_0 26 rfl
theorem dX7_findTurns_33 : decode cX7_findTurns 33 = .ok (.getfield 32, 3) := lw_dr lw_d_cX7_findTurns_0 27 rfl
theorem dX7_findTurns_36 : decode cX7_findTurns 36 = .ok (.iload 4, 2) := lw_dr lw_d_cX7_findTurns_0 28 rfl
theorem dX7_findTurns_38 : decode cX7_findTurns 38 = .ok (.iconst 1, 1) := lw_dr lw_d_cX7_findTurns_0 29 rfl
theorem lw_d_cX7_findTurns_39 : lw_dl cX7_findTurns [(39, .isub, 1), (40, .iaload, 1), (41, .aload_n 0, 1), (42, .getfield 32, 3), (45, .iload 4, 2), (47, .iconst 1, 1), (48, .isub, 1), (49, .iaload, 1), (50, .invokevirtual 156, 3), (53, .iload_n 3, 1), (54, .if_icmp .ge 25, 3), (57, .aload_n 0, 1), (58, .getfield 32, 3), (61, .iload 4, 2), (63, .aload_n 0, 1), (64, .getfield 32, 3), (67, .iload 4, 2), (69, .iconst 1, 1), (70, .isub, 1), (71, .iaload, 1), (72, .iastore, 1), (73, .iinc 4 (-1), 3), (76, .goto (-53), 3)] = true := by decide +kernel
theorem dX7_findTurns_39 : decode cX7_findTurns 39 = .ok (.isub, 1) := lw_dr lw_d_cX7_findTurns_39 0 rfl
theorem dX7_findTurns_40 : decode cX7_findTurns 40 = .ok (.iaload, 1) := lw_dr lw_d_cX7_findTurns_39 1 rfl
theorem dX7_findTurns_41 : decode cX7_findTurns 41 = .ok (.aload_n 0, 1) := lw_dr lw_d_cX7_findTurns_39 2 rfl
theorem dX7_findTurns_42 : decode cX7_findTurns 42 = .ok (.getfield 32, 3) := lw_dr lw_d_cX7_findTurns_39 3 rfl
theorem dX7_findTurns_45 : decode cX7_findTurns 45 = .ok (.iload 4, 2) := lw_dr lw_d_cX7_findTurns_39 4 rfl
theorem dX7_findTurns_47 : decode cX7_findTurns 47 = .ok (.iconst 1, 1) := lw_dr lw_d_cX7_findTurns_39 5 rfl
theorem dX7_findTurns_48 : decode cX7_findTurns 48 = .ok (.isub, 1) := lw_dr lw_d_cX7_findTurns_39 6 rfl
theorem dX7_findTurns_49 : decode cX7_findTurns 49 = .ok (.iaload, 1) := lw_dr lw_d_cX7_findTurns_39 7 rfl
theorem dX7_findTurns_50 : decode cX7_findTurns 50 = .ok (.invokevirtual 156, 3) := lw_dr lw_d_cX7_findTurns_39 8 rfl
theorem dX7_findTurns_53 : decode cX7_findTurns 53 = .ok (.iload_n 3, 1) := lw_dr lw_d_cX7_findTurns_39 9 rfl
theorem dX7_findTurns_54 : decode cX7_findTurns 54 = .ok (.if_icmp .ge 25, 3) := lw_dr lw_d_cX7_findTurns_39 10 rfl
theorem dX7_findTurns_57 : decode cX7_findTurns 57 = .ok (.aload_n 0, 1) := lw_dr lw_d_cX7_findTurns_39 11 rfl
theorem dX7_findTurns_58 : decode cX7_findTurns 58 = .ok (.getfield 32, 3) := lw_dr lw_d_cX7_findTurns_39 12 rfl
theorem dX7_findTurns_61 : decode cX7_findTurns 61 = .ok (.iload 4, 2) := lw_dr lw_d_cX7_findTurns_39 13 rfl
theorem dX7_findTurns_63 : decode cX7_findTurns 63 = .ok (.aload_n 0, 1) := lw_dr lw_d_cX7_findTurns_39 14 rfl
theorem dX7_findTurns_64 : decode cX7_findTurns 64 = .ok (.getfield 32, 3) := lw_dr lw_d_cX7_findTurns_39 15 rfl
theorem dX7_findTurns_67 : decode cX7_findTurns 67 = .ok (.iload 4, 2) := lw_dr lw_d_cX7_findTurns_39 16 rfl
theorem dX7_findTurns_69 : decode cX7_findTurns 69 = .ok (.iconst 1, 1) := lw_dr lw_d_cX7_findTurns_39 17 rfl
theorem dX7_findTurns_70 : decode cX7_findTurns 70 = .ok (.isub, 1) := lw_dr lw_d_cX7_findTurns_39 18 rfl
theorem dX7_findTurns_71 : decode cX7_findTurns 71 = .ok (.iaload, 1) := lw_dr lw_d_cX7_findTurns_39 19 rfl
theorem dX7_findTurns_72 : decode cX7_findTurns 72 = .ok (.iastore, 1) := lw_dr lw_d_cX7_findTurns_39 20 rfl
theorem dX7_findTurns_73 : decode cX7_findTurns 73 = .ok (.iinc 4 (-1), 3) := lw_dr lw_d_cX7_findTurns_39 21 rfl
theorem dX7_findTurns_76 : decode cX7_findTurns 76 = .ok (.goto (-53), 3) := lw_dr lw_d_cX7_findTurns_39 22 rfl
theorem lw_d_cX7_cancelAll_5 : lw_dl cX7_cancelAll [(5, .aload_n 2, 1), (6, .iconst 0, 1), (7, .aload_n 0, 1), (8, .getfield 38, 3), (11, .iconst 0, 1), (12, .bipush 6, 2), (14, .invokestatic 133, 3), (17, .iconst 0, 1), (18, .istore_n 3, 1), (19, .iload_n 3, 1), (20, .aload_n 1, 1), (21, .getfield 73, 3), (24, .if_icmp .ge 78, 3), (102, .return_, 1), (27, .aload_n 0, 1), (28, .getfield 32, 3), (31, .iload_n 3, 1), (32, .iaload, 1), (33, .istore 4, 2), (35, .aload_n 0, 1), (36, .getfield 35, 3), (39, .iload 4, 2), (41, .aload_n 0, 1), (42, .aload_n 1, 1), (43, .iload 4, 2), (45, .invokevirtual 139, 3), (48, .iastore, 1), (49, .iconst 0, 1), (50, .istore 5, 2), (52, .iload 5, 2), (54, .aload_n 1, 1), (55, .getfield 143, 3), (58, .if_icmp .ge 38, 3), (96, .iinc 3 1, 3), (99, .goto (-80), 3), (61, .aload_n 0, 1), (62, .getfield 38, 3), (65, .iload 5, 2), (67, .dup2, 1), (68, .iaload, 1)] = true := by decide +kernel
theorem dX7_cancelAll_5 : decode cX7_cancelAll 5 = .ok (.aload_n 2, 1) := lw_dr lw_d_cX7_cancelAll_5 0 rfl
theorem dX7_cancelAll_6 : decode cX7_cancelAll 6 = .ok (.iconst 0, 1) := lw_dr lw_d_cX7_cancelAll_5 1 rfl
theorem dX7_cancelAll_7 : decode cX7_cancelAll 7 = .ok (.aload_n 0, 1) := lw_dr lw_d_cX7_cancelAll_5 2 rfl
theorem dX7_cancelAll_8 : decode cX7_cancelAll 8 = .ok (.getfield 38, 3) := lw_dr lw_d_cX7_cancelAll_5 3 rfl
theorem dX7_cancelAll_11 : decode cX7_cancelAll 11 = .ok (.iconst 0, 1) := lw_dr lw_d_cX7_cancelAll_5 4 rfl
theorem dX7_cancelAll_12 : decode cX7_cancelAll 12 = .ok (.bipush 6, 2) := lw_dr lw_d_cX7_cancelAll_5 5 rfl
theorem dX7_cancelAll_14 : decode cX7_cancelAll 14 = .ok (.invokestatic 133, 3) := lw_dr lw_d_cX7_cancelAll_5 6 rfl
theorem dX7_cancelAll_17 : decode cX7_cancelAll 17 = .ok (.iconst 0, 1) := lw_dr lw_d_cX7_cancelAll_5 7 rfl
theorem dX7_cancelAll_18 : decode cX7_cancelAll 18 = .ok (.istore_n 3, 1) := lw_dr lw_d_cX7_cancelAll_5 8 rfl
theorem dX7_cancelAll_19 : decode cX7_cancelAll 19 = .ok (.iload_n 3, 1) := lw_dr lw_d_cX7_cancelAll_5 9 rfl
theorem dX7_cancelAll_20 : decode cX7_cancelAll 20 = .ok (.aload_n 1, 1) := lw_dr lw_d_cX7_cancelAll_5 10 rfl
theorem dX7_cancelAll_21 : decode cX7_cancelAll 21 = .ok (.getfield 73, 3) := lw_dr lw_d_cX7_cancelAll_5 11 rfl
theorem dX7_cancelAll_24 : decode cX7_cancelAll 24 = .ok (.if_icmp .ge 78, 3) := lw_dr lw_d_cX7_cancelAll_5 12 rfl
theorem dX7_cancelAll_102 : decode cX7_cancelAll 102 = .ok (.return_, 1) := lw_dr lw_d_cX7_cancelAll_5 13 rfl
theorem dX7_cancelAll_27 : decode cX7_cancelAll 27 = .ok (.aload_n 0, 1) := lw_dr lw_d_cX7_cancelAll_5 14 rfl
theorem dX7_cancelAll_28 : decode cX7_cancelAll 28 = .ok (.getfield 32, 3) := lw_dr lw_d_cX7_cancelAll_5 15 rfl
theorem dX7_cancelAll_31 : decode cX7_cancelAll 31 = .ok (.iload_n 3, 1) := lw_dr lw_d_cX7_cancelAll_5 16 rfl
theorem dX7_cancelAll_32 : decode cX7_cancelAll 32 = .ok (.iaload, 1) := lw_dr lw_d_cX7_cancelAll_5 17 rfl
theorem dX7_cancelAll_33 : decode cX7_cancelAll 33 = .ok (.istore 4, 2) := lw_dr lw_d_cX7_cancelAll_5 18 rfl
theorem dX7_cancelAll_35 : decode cX7_cancelAll 35 = .ok (.aload_n 0, 1) := lw_dr lw_d_cX7_cancelAll_5 19 rfl
theorem dX7_cancelAll_36 : decode cX7_cancelAll 36 = .ok (.getfield 35, 3) := lw_dr lw_d_cX7_cancelAll_5 20 rfl
theorem dX7_cancelAll_39 : decode cX7_cancelAll 39 = .ok (.iload 4, 2) := lw_dr lw_d_cX7_cancelAll_5 21 rfl
theorem dX7_cancelAll_41 : decode cX7_cancelAll 41 = .ok (.aload_n 0, 1) := lw_dr lw_d_cX7_cancelAll_5 22 rfl
theorem dX7_cancelAll_42 : decode cX7_cancelAll 42 = .ok (.aload_n 1, 1) := lw_dr lw_d_cX7_cancelAll_5 23 rfl
theorem dX7_cancelAll_43 : decode cX7_cancelAll 43 = .ok (.iload 4, 2) := lw_dr lw_d_cX7_cancelAll_5 24 rfl
theorem dX7_cancelAll_45 : decode cX7_cancelAll 45 = .ok (.invokevirtual 139, 3) := lw_dr lw_d_cX7_cancelAll_5 25 rfl
theorem dX7_cancelAll_48 : decode cX7_cancelAll 48 = .ok (.iastore, 1) := lw_dr lw_d_cX7_cancelAll_5 26 rfl
theorem dX7_cancelAll_49 : decode cX7_cancelAll 49 = .ok (.iconst 0, 1) := lw_dr lw_d_cX7_cancelAll_5 27 rfl
theorem dX7_cancelAll_50 : decode cX7_cancelAll 50 = .ok (.istore 5, 2) := lw_dr lw_d_cX7_cancelAll_5 28 rfl
theorem dX7_cancelAll_52 : decode cX7_cancelAll 52 = .ok (.iload 5, 2) := lw_dr lw_d_cX7_cancelAll_5 29 rfl
theorem dX7_cancelAll_54 : decode cX7_cancelAll 54 = .ok (.aload_n 1, 1) := lw_dr lw_d_cX7_cancelAll_5 30 rfl
theorem dX7_cancelAll_55 : decode cX7_cancelAll 55 = .ok (.getfield 143, 3) := lw_dr lw_d_cX7_cancelAll_5 31 rfl
theorem dX7_cancelAll_58 : decode cX7_cancelAll 58 = .ok (.if_icmp .ge 38, 3) := lw_dr lw_d_cX7_cancelAll_5 32 rfl
theorem dX7_cancelAll_96 : decode cX7_cancelAll 96 = .ok (.iinc 3 1, 3) := lw_dr lw_d_cX7_cancelAll_5 33 rfl
theorem dX7_cancelAll_99 : decode cX7_cancelAll 99 = .ok (.goto (-80), 3) := lw_dr lw_d_cX7_cancelAll_5 34 rfl
theorem dX7_cancelAll_61 : decode cX7_cancelAll 61 = .ok (.aload_n 0, 1) := lw_dr lw_d_cX7_cancelAll_5 35 rfl
theorem dX7_cancelAll_62 : decode cX7_cancelAll 62 = .ok (.getfield 38, 3) := lw_dr lw_d_cX7_cancelAll_5 36 rfl
theorem dX7_cancelAll_65 : decode cX7_cancelAll 65 = .ok (.iload 5, 2) := lw_dr lw_d_cX7_cancelAll_5 37 rfl
theorem dX7_cancelAll_67 : decode cX7_cancelAll 67 = .ok (.dup2, 1) := lw_dr lw_d_cX7_cancelAll_5 38 rfl
theorem dX7_cancelAll_68 : decode cX7_cancelAll 68 = .ok (.iaload, 1) := lw_dr lw_d_cX7_cancelAll_5 39 rfl
theorem lw_d_cX7_cancelAll_69 : lw_dl cX7_cancelAll [(69, .aload_n 1, 1), (70, .getfield 146, 3), (73, .iload 5, 2), (75, .iload 4, 2), (77, .invokevirtual 150, 3), (80, .aload_n 0, 1), (81, .getfield 35, 3), (84, .iload 4, 2), (86, .iaload, 1), (87, .imul, 1), (88, .isub, 1), (89, .iastore, 1), (90, .iinc 5 1, 3), (93, .goto (-41), 3)] = true := by decide +kernel
theorem dX7_cancelAll_69 : decode cX7_cancelAll 69 = .ok (.aload_n 1, 1) := lw_dr lw_d_cX7_cancelAll_69 0 rfl
theorem dX7_cancelAll_70 : decode cX7_cancelAll 70 = .ok (.getfield 146, 3) := lw_dr lw_d_cX7_cancelAll_69 1 rfl
theorem dX7_cancelAll_73 : decode cX7_cancelAll 73 = .ok (.iload 5, 2) := lw_dr lw_d_cX7_cancelAll_69 2 rfl
theorem dX7_cancelAll_75 : decode cX7_cancelAll 75 = .ok (.iload 4, 2) := lw_dr lw_d_cX7_cancelAll_69 3 rfl
theorem dX7_cancelAll_77 : decode cX7_cancelAll 77 = .ok (.invokevirtual 150, 3) := lw_dr lw_d_cX7_cancelAll_69 4 rfl
theorem dX7_cancelAll_80 : decode cX7_cancelAll 80 = .ok (.aload_n 0, 1) := lw_dr lw_d_cX7_cancelAll_69 5 rfl
theorem dX7_cancelAll_81 : decode cX7_cancelAll 81 = .ok (.getfield 35, 3) := lw_dr lw_d_cX7_cancelAll_69 6 rfl
theorem dX7_cancelAll_84 : decode cX7_cancelAll 84 = .ok (.iload 4, 2) := lw_dr lw_d_cX7_cancelAll_69 7 rfl
theorem dX7_cancelAll_86 : decode cX7_cancelAll 86 = .ok (.iaload, 1) := lw_dr lw_d_cX7_cancelAll_69 8 rfl
theorem dX7_cancelAll_87 : decode cX7_cancelAll 87 = .ok (.imul, 1) := lw_dr lw_d_cX7_cancelAll_69 9 rfl
theorem dX7_cancelAll_88 : decode cX7_cancelAll 88 = .ok (.isub, 1) := lw_dr lw_d_cX7_cancelAll_69 10 rfl
theorem dX7_cancelAll_89 : decode cX7_cancelAll 89 = .ok (.iastore, 1) := lw_dr lw_d_cX7_cancelAll_69 11 rfl
theorem dX7_cancelAll_90 : decode cX7_cancelAll 90 = .ok (.iinc 5 1, 3) := lw_dr lw_d_cX7_cancelAll_69 12 rfl
theorem dX7_cancelAll_93 : decode cX7_cancelAll 93 = .ok (.goto (-41), 3) := lw_dr lw_d_cX7_cancelAll_69 13 rfl
theorem lw_d_cX7_bestLetter_0 : lw_dl cX7_bestLetter [(0, .iconst 0, 1), (1, .istore_n 3, 1), (2, .ldc2_w 76, 3), (5, .lstore 4, 2), (7, .iconst 0, 1), (8, .istore 6, 2), (10, .iload 6, 2), (12, .aload_n 1, 1), (13, .getfield 61, 3), (16, .if_icmp .ge 42, 3), (58, .iload_n 3, 1), (59, .ireturn, 1), (19, .aload_n 1, 1), (20, .iload 6, 2), (22, .invokevirtual 159, 3), (25, .istore 7, 2), (27, .aload_n 0, 1), (28, .aload_n 1, 1), (29, .iload_n 2, 1), (30, .iload 7, 2), (32, .invokevirtual 163, 3), (35, .lstore 8, 2), (37, .lload 8, 2), (39, .lload 4, 2), (41, .lcmp, 1), (42, .ifCond .ge 10, 3), (52, .iinc 6 1, 3), (55, .goto (-45), 3), (45, .lload 8, 2), (47, .lstore 4, 2), (49, .iload 7, 2), (51, .istore_n 3, 1)] = true := by decide +kernel
theorem dX7_bestLetter_0 : decode cX7_bestLetter 0 = .ok (.iconst 0, 1) := lw_dr lw_d_cX7_bestLetter_0 0 rfl
theorem dX7_bestLetter_1 : decode cX7_bestLetter 1 = .ok (.istore_n 3, 1) := lw_dr lw_d_cX7_bestLetter_0 1 rfl
theorem dX7_bestLetter_2 : decode cX7_bestLetter 2 = .ok (.ldc2_w 76, 3) := lw_dr lw_d_cX7_bestLetter_0 2 rfl
theorem dX7_bestLetter_5 : decode cX7_bestLetter 5 = .ok (.lstore 4, 2) := lw_dr lw_d_cX7_bestLetter_0 3 rfl
theorem dX7_bestLetter_7 : decode cX7_bestLetter 7 = .ok (.iconst 0, 1) := lw_dr lw_d_cX7_bestLetter_0 4 rfl
theorem dX7_bestLetter_8 : decode cX7_bestLetter 8 = .ok (.istore 6, 2) := lw_dr lw_d_cX7_bestLetter_0 5 rfl
theorem dX7_bestLetter_10 : decode cX7_bestLetter 10 = .ok (.iload 6, 2) := lw_dr lw_d_cX7_bestLetter_0 6 rfl
theorem dX7_bestLetter_12 : decode cX7_bestLetter 12 = .ok (.aload_n 1, 1) := lw_dr lw_d_cX7_bestLetter_0 7 rfl
theorem dX7_bestLetter_13 : decode cX7_bestLetter 13 = .ok (.getfield 61, 3) := lw_dr lw_d_cX7_bestLetter_0 8 rfl
theorem dX7_bestLetter_16 : decode cX7_bestLetter 16 = .ok (.if_icmp .ge 42, 3) := lw_dr lw_d_cX7_bestLetter_0 9 rfl
theorem dX7_bestLetter_58 : decode cX7_bestLetter 58 = .ok (.iload_n 3, 1) := lw_dr lw_d_cX7_bestLetter_0 10 rfl
theorem dX7_bestLetter_59 : decode cX7_bestLetter 59 = .ok (.ireturn, 1) := lw_dr lw_d_cX7_bestLetter_0 11 rfl
theorem dX7_bestLetter_19 : decode cX7_bestLetter 19 = .ok (.aload_n 1, 1) := lw_dr lw_d_cX7_bestLetter_0 12 rfl
theorem dX7_bestLetter_20 : decode cX7_bestLetter 20 = .ok (.iload 6, 2) := lw_dr lw_d_cX7_bestLetter_0 13 rfl
theorem dX7_bestLetter_22 : decode cX7_bestLetter 22 = .ok (.invokevirtual 159, 3) := lw_dr lw_d_cX7_bestLetter_0 14 rfl
theorem dX7_bestLetter_25 : decode cX7_bestLetter 25 = .ok (.istore 7, 2) := lw_dr lw_d_cX7_bestLetter_0 15 rfl
theorem dX7_bestLetter_27 : decode cX7_bestLetter 27 = .ok (.aload_n 0, 1) := lw_dr lw_d_cX7_bestLetter_0 16 rfl
theorem dX7_bestLetter_28 : decode cX7_bestLetter 28 = .ok (.aload_n 1, 1) := lw_dr lw_d_cX7_bestLetter_0 17 rfl
theorem dX7_bestLetter_29 : decode cX7_bestLetter 29 = .ok (.iload_n 2, 1) := lw_dr lw_d_cX7_bestLetter_0 18 rfl
theorem dX7_bestLetter_30 : decode cX7_bestLetter 30 = .ok (.iload 7, 2) := lw_dr lw_d_cX7_bestLetter_0 19 rfl
theorem dX7_bestLetter_32 : decode cX7_bestLetter 32 = .ok (.invokevirtual 163, 3) := lw_dr lw_d_cX7_bestLetter_0 20 rfl
theorem dX7_bestLetter_35 : decode cX7_bestLetter 35 = .ok (.lstore 8, 2) := lw_dr lw_d_cX7_bestLetter_0 21 rfl
theorem dX7_bestLetter_37 : decode cX7_bestLetter 37 = .ok (.lload 8, 2) := lw_dr lw_d_cX7_bestLetter_0 22 rfl
theorem dX7_bestLetter_39 : decode cX7_bestLetter 39 = .ok (.lload 4, 2) := lw_dr lw_d_cX7_bestLetter_0 23 rfl
theorem dX7_bestLetter_41 : decode cX7_bestLetter 41 = .ok (.lcmp, 1) := lw_dr lw_d_cX7_bestLetter_0 24 rfl
theorem dX7_bestLetter_42 : decode cX7_bestLetter 42 = .ok (.ifCond .ge 10, 3) := lw_dr lw_d_cX7_bestLetter_0 25 rfl
theorem dX7_bestLetter_52 : decode cX7_bestLetter 52 = .ok (.iinc 6 1, 3) := lw_dr lw_d_cX7_bestLetter_0 26 rfl
theorem dX7_bestLetter_55 : decode cX7_bestLetter 55 = .ok (.goto (-45), 3) := lw_dr lw_d_cX7_bestLetter_0 27 rfl
theorem dX7_bestLetter_45 : decode cX7_bestLetter 45 = .ok (.lload 8, 2) := lw_dr lw_d_cX7_bestLetter_0 28 rfl
theorem dX7_bestLetter_47 : decode cX7_bestLetter 47 = .ok (.lstore 4, 2) := lw_dr lw_d_cX7_bestLetter_0 29 rfl
theorem dX7_bestLetter_49 : decode cX7_bestLetter 49 = .ok (.iload 7, 2) := lw_dr lw_d_cX7_bestLetter_0 30 rfl
theorem dX7_bestLetter_51 : decode cX7_bestLetter 51 = .ok (.istore_n 3, 1) := lw_dr lw_d_cX7_bestLetter_0 31 rfl
theorem lw_d_cX7_squaresWith_0 : lw_dl cX7_squaresWith [(0, .lconst 0, 1), (1, .lstore 4, 2), (3, .iconst 0, 1), (4, .istore 6, 2), (6, .iload 6, 2), (8, .aload_n 1, 1), (9, .getfield 143, 3), (12, .if_icmp .ge 42, 3), (54, .lload 4, 2), (56, .lreturn, 1), (15, .aload_n 0, 1), (16, .getfield 38, 3), (19, .iload 6, 2), (21, .iaload, 1), (22, .aload_n 1, 1), (23, .getfield 146, 3), (26, .iload 6, 2), (28, .iload_n 2, 1), (29, .invokevirtual 150, 3), (32, .iload_n 3, 1), (33, .imul, 1), (34, .isub, 1), (35, .i2l, 1), (36, .lstore 7, 2), (38, .lload 4, 2), (40, .lload 7, 2), (42, .lload 7, 2), (44, .lmul, 1), (45, .ladd, 1), (46, .lstore 4, 2), (48, .iinc 6 1, 3), (51, .goto (-45), 3)] = true := by decide +kernel
theorem dX7_squaresWith_0 : decode cX7_squaresWith 0 = .ok (.lconst 0, 1) := lw_dr lw_d_cX7_squaresWith_0 0 rfl
theorem dX7_squaresWith_1 : decode cX7_squaresWith 1 = .ok (.lstore 4, 2) := lw_dr lw_d_cX7_squaresWith_0 1 rfl
theorem dX7_squaresWith_3 : decode cX7_squaresWith 3 = .ok (.iconst 0, 1) := lw_dr lw_d_cX7_squaresWith_0 2 rfl
theorem dX7_squaresWith_4 : decode cX7_squaresWith 4 = .ok (.istore 6, 2) := lw_dr lw_d_cX7_squaresWith_0 3 rfl
theorem dX7_squaresWith_6 : decode cX7_squaresWith 6 = .ok (.iload 6, 2) := lw_dr lw_d_cX7_squaresWith_0 4 rfl
theorem dX7_squaresWith_8 : decode cX7_squaresWith 8 = .ok (.aload_n 1, 1) := lw_dr lw_d_cX7_squaresWith_0 5 rfl
theorem dX7_squaresWith_9 : decode cX7_squaresWith 9 = .ok (.getfield 143, 3) := lw_dr lw_d_cX7_squaresWith_0 6 rfl
theorem dX7_squaresWith_12 : decode cX7_squaresWith 12 = .ok (.if_icmp .ge 42, 3) := lw_dr lw_d_cX7_squaresWith_0 7 rfl
theorem dX7_squaresWith_54 : decode cX7_squaresWith 54 = .ok (.lload 4, 2) := lw_dr lw_d_cX7_squaresWith_0 8 rfl
theorem dX7_squaresWith_56 : decode cX7_squaresWith 56 = .ok (.lreturn, 1) := lw_dr lw_d_cX7_squaresWith_0 9 rfl
theorem dX7_squaresWith_15 : decode cX7_squaresWith 15 = .ok (.aload_n 0, 1) := lw_dr lw_d_cX7_squaresWith_0 10 rfl
theorem dX7_squaresWith_16 : decode cX7_squaresWith 16 = .ok (.getfield 38, 3) := lw_dr lw_d_cX7_squaresWith_0 11 rfl
theorem dX7_squaresWith_19 : decode cX7_squaresWith 19 = .ok (.iload 6, 2) := lw_dr lw_d_cX7_squaresWith_0 12 rfl
theorem dX7_squaresWith_21 : decode cX7_squaresWith 21 = .ok (.iaload, 1) := lw_dr lw_d_cX7_squaresWith_0 13 rfl
theorem dX7_squaresWith_22 : decode cX7_squaresWith 22 = .ok (.aload_n 1, 1) := lw_dr lw_d_cX7_squaresWith_0 14 rfl
theorem dX7_squaresWith_23 : decode cX7_squaresWith 23 = .ok (.getfield 146, 3) := lw_dr lw_d_cX7_squaresWith_0 15 rfl
theorem dX7_squaresWith_26 : decode cX7_squaresWith 26 = .ok (.iload 6, 2) := lw_dr lw_d_cX7_squaresWith_0 16 rfl
theorem dX7_squaresWith_28 : decode cX7_squaresWith 28 = .ok (.iload_n 2, 1) := lw_dr lw_d_cX7_squaresWith_0 17 rfl
theorem dX7_squaresWith_29 : decode cX7_squaresWith 29 = .ok (.invokevirtual 150, 3) := lw_dr lw_d_cX7_squaresWith_0 18 rfl
theorem dX7_squaresWith_32 : decode cX7_squaresWith 32 = .ok (.iload_n 3, 1) := lw_dr lw_d_cX7_squaresWith_0 19 rfl
theorem dX7_squaresWith_33 : decode cX7_squaresWith 33 = .ok (.imul, 1) := lw_dr lw_d_cX7_squaresWith_0 20 rfl
theorem dX7_squaresWith_34 : decode cX7_squaresWith 34 = .ok (.isub, 1) := lw_dr lw_d_cX7_squaresWith_0 21 rfl
theorem dX7_squaresWith_35 : decode cX7_squaresWith 35 = .ok (.i2l, 1) := lw_dr lw_d_cX7_squaresWith_0 22 rfl
theorem dX7_squaresWith_36 : decode cX7_squaresWith 36 = .ok (.lstore 7, 2) := lw_dr lw_d_cX7_squaresWith_0 23 rfl
theorem dX7_squaresWith_38 : decode cX7_squaresWith 38 = .ok (.lload 4, 2) := lw_dr lw_d_cX7_squaresWith_0 24 rfl
theorem dX7_squaresWith_40 : decode cX7_squaresWith 40 = .ok (.lload 7, 2) := lw_dr lw_d_cX7_squaresWith_0 25 rfl
theorem dX7_squaresWith_42 : decode cX7_squaresWith 42 = .ok (.lload 7, 2) := lw_dr lw_d_cX7_squaresWith_0 26 rfl
theorem dX7_squaresWith_44 : decode cX7_squaresWith 44 = .ok (.lmul, 1) := lw_dr lw_d_cX7_squaresWith_0 27 rfl
theorem dX7_squaresWith_45 : decode cX7_squaresWith 45 = .ok (.ladd, 1) := lw_dr lw_d_cX7_squaresWith_0 28 rfl
theorem dX7_squaresWith_46 : decode cX7_squaresWith 46 = .ok (.lstore 4, 2) := lw_dr lw_d_cX7_squaresWith_0 29 rfl
theorem dX7_squaresWith_48 : decode cX7_squaresWith 48 = .ok (.iinc 6 1, 3) := lw_dr lw_d_cX7_squaresWith_0 30 rfl
theorem dX7_squaresWith_51 : decode cX7_squaresWith 51 = .ok (.goto (-45), 3) := lw_dr lw_d_cX7_squaresWith_0 31 rfl
theorem lw_d_cX7_leastWith_0 : lw_dl cX7_leastWith [(0, .aload_n 0, 1), (1, .getfield 26, 3), (4, .iload_n 1, 1), (5, .bipush 8, 2), (7, .imul, 1), (8, .iload_n 2, 1), (9, .iadd, 1), (10, .laload, 1), (11, .lreturn, 1)] = true := by decide +kernel
theorem dX7_leastWith_0 : decode cX7_leastWith 0 = .ok (.aload_n 0, 1) := lw_dr lw_d_cX7_leastWith_0 0 rfl
theorem dX7_leastWith_1 : decode cX7_leastWith 1 = .ok (.getfield 26, 3) := lw_dr lw_d_cX7_leastWith_0 1 rfl
theorem dX7_leastWith_4 : decode cX7_leastWith 4 = .ok (.iload_n 1, 1) := lw_dr lw_d_cX7_leastWith_0 2 rfl
theorem dX7_leastWith_5 : decode cX7_leastWith 5 = .ok (.bipush 8, 2) := lw_dr lw_d_cX7_leastWith_0 3 rfl
theorem dX7_leastWith_7 : decode cX7_leastWith 7 = .ok (.imul, 1) := lw_dr lw_d_cX7_leastWith_0 4 rfl
theorem dX7_leastWith_8 : decode cX7_leastWith 8 = .ok (.iload_n 2, 1) := lw_dr lw_d_cX7_leastWith_0 5 rfl
theorem dX7_leastWith_9 : decode cX7_leastWith 9 = .ok (.iadd, 1) := lw_dr lw_d_cX7_leastWith_0 6 rfl
theorem dX7_leastWith_10 : decode cX7_leastWith 10 = .ok (.laload, 1) := lw_dr lw_d_cX7_leastWith_0 7 rfl
theorem dX7_leastWith_11 : decode cX7_leastWith 11 = .ok (.lreturn, 1) := lw_dr lw_d_cX7_leastWith_0 8 rfl
theorem lw_d_cX7_shareOf_0 : lw_dl cX7_shareOf [(0, .aload_n 0, 1), (1, .getfield 45, 3), (4, .lconst 0, 1), (5, .lcmp, 1), (6, .ifCond .gt 5, 3), (11, .ldc2_w 128, 3), (14, .aload_n 0, 1), (15, .getfield 29, 3), (18, .iload_n 1, 1), (19, .bipush 8, 2), (21, .imul, 1), (22, .iload_n 2, 1), (23, .iadd, 1), (24, .laload, 1), (25, .lmul, 1), (26, .aload_n 0, 1), (27, .getfield 45, 3), (30, .ldiv, 1), (31, .l2i, 1), (32, .ireturn, 1), (9, .iconst 0, 1), (10, .ireturn, 1)] = true := by decide +kernel
theorem dX7_shareOf_0 : decode cX7_shareOf 0 = .ok (.aload_n 0, 1) := lw_dr lw_d_cX7_shareOf_0 0 rfl
theorem dX7_shareOf_1 : decode cX7_shareOf 1 = .ok (.getfield 45, 3) := lw_dr lw_d_cX7_shareOf_0 1 rfl
theorem dX7_shareOf_4 : decode cX7_shareOf 4 = .ok (.lconst 0, 1) := lw_dr lw_d_cX7_shareOf_0 2 rfl
theorem dX7_shareOf_5 : decode cX7_shareOf 5 = .ok (.lcmp, 1) := lw_dr lw_d_cX7_shareOf_0 3 rfl
theorem dX7_shareOf_6 : decode cX7_shareOf 6 = .ok (.ifCond .gt 5, 3) := lw_dr lw_d_cX7_shareOf_0 4 rfl
theorem dX7_shareOf_11 : decode cX7_shareOf 11 = .ok (.ldc2_w 128, 3) := lw_dr lw_d_cX7_shareOf_0 5 rfl
theorem dX7_shareOf_14 : decode cX7_shareOf 14 = .ok (.aload_n 0, 1) := lw_dr lw_d_cX7_shareOf_0 6 rfl
theorem dX7_shareOf_15 : decode cX7_shareOf 15 = .ok (.getfield 29, 3) := lw_dr lw_d_cX7_shareOf_0 7 rfl
theorem dX7_shareOf_18 : decode cX7_shareOf 18 = .ok (.iload_n 1, 1) := lw_dr lw_d_cX7_shareOf_0 8 rfl
theorem dX7_shareOf_19 : decode cX7_shareOf 19 = .ok (.bipush 8, 2) := lw_dr lw_d_cX7_shareOf_0 9 rfl
theorem dX7_shareOf_21 : decode cX7_shareOf 21 = .ok (.imul, 1) := lw_dr lw_d_cX7_shareOf_0 10 rfl
theorem dX7_shareOf_22 : decode cX7_shareOf 22 = .ok (.iload_n 2, 1) := lw_dr lw_d_cX7_shareOf_0 11 rfl
theorem dX7_shareOf_23 : decode cX7_shareOf 23 = .ok (.iadd, 1) := lw_dr lw_d_cX7_shareOf_0 12 rfl
theorem dX7_shareOf_24 : decode cX7_shareOf 24 = .ok (.laload, 1) := lw_dr lw_d_cX7_shareOf_0 13 rfl
theorem dX7_shareOf_25 : decode cX7_shareOf 25 = .ok (.lmul, 1) := lw_dr lw_d_cX7_shareOf_0 14 rfl
theorem dX7_shareOf_26 : decode cX7_shareOf 26 = .ok (.aload_n 0, 1) := lw_dr lw_d_cX7_shareOf_0 15 rfl
theorem dX7_shareOf_27 : decode cX7_shareOf 27 = .ok (.getfield 45, 3) := lw_dr lw_d_cX7_shareOf_0 16 rfl
theorem dX7_shareOf_30 : decode cX7_shareOf 30 = .ok (.ldiv, 1) := lw_dr lw_d_cX7_shareOf_0 17 rfl
theorem dX7_shareOf_31 : decode cX7_shareOf 31 = .ok (.l2i, 1) := lw_dr lw_d_cX7_shareOf_0 18 rfl
theorem dX7_shareOf_32 : decode cX7_shareOf 32 = .ok (.ireturn, 1) := lw_dr lw_d_cX7_shareOf_0 19 rfl
theorem dX7_shareOf_9 : decode cX7_shareOf 9 = .ok (.iconst 0, 1) := lw_dr lw_d_cX7_shareOf_0 20 rfl
theorem dX7_shareOf_10 : decode cX7_shareOf 10 = .ok (.ireturn, 1) := lw_dr lw_d_cX7_shareOf_0 21 rfl
theorem lw_d_cX7_leastWithout_0 : lw_dl cX7_leastWithout [(0, .ldc2_w 76, 3), (3, .lstore 4, 2), (5, .iconst 0, 1), (6, .istore 6, 2), (8, .iload 6, 2), (10, .iload_n 3, 1), (11, .if_icmp .ge 29, 3), (40, .lload 4, 2), (42, .lreturn, 1), (14, .iload 6, 2), (16, .iload_n 2, 1), (17, .if_icmp .eq 17, 3), (34, .iinc 6 1, 3), (37, .goto (-29), 3), (20, .lload 4, 2), (22, .aload_n 0, 1), (23, .iload_n 1, 1), (24, .iload 6, 2), (26, .invokevirtual 124, 3), (29, .invokestatic 115, 3), (32, .lstore 4, 2)] = true := by decide +kernel
theorem dX7_leastWithout_0 : decode cX7_leastWithout 0 = .ok (.ldc2_w 76, 3) := lw_dr lw_d_cX7_leastWithout_0 0 rfl
theorem dX7_leastWithout_3 : decode cX7_leastWithout 3 = .ok (.lstore 4, 2) := lw_dr lw_d_cX7_leastWithout_0 1 rfl
theorem dX7_leastWithout_5 : decode cX7_leastWithout 5 = .ok (.iconst 0, 1) := lw_dr lw_d_cX7_leastWithout_0 2 rfl
theorem dX7_leastWithout_6 : decode cX7_leastWithout 6 = .ok (.istore 6, 2) := lw_dr lw_d_cX7_leastWithout_0 3 rfl
theorem dX7_leastWithout_8 : decode cX7_leastWithout 8 = .ok (.iload 6, 2) := lw_dr lw_d_cX7_leastWithout_0 4 rfl
theorem dX7_leastWithout_10 : decode cX7_leastWithout 10 = .ok (.iload_n 3, 1) := lw_dr lw_d_cX7_leastWithout_0 5 rfl
theorem dX7_leastWithout_11 : decode cX7_leastWithout 11 = .ok (.if_icmp .ge 29, 3) := lw_dr lw_d_cX7_leastWithout_0 6 rfl
theorem dX7_leastWithout_40 : decode cX7_leastWithout 40 = .ok (.lload 4, 2) := lw_dr lw_d_cX7_leastWithout_0 7 rfl
theorem dX7_leastWithout_42 : decode cX7_leastWithout 42 = .ok (.lreturn, 1) := lw_dr lw_d_cX7_leastWithout_0 8 rfl
theorem dX7_leastWithout_14 : decode cX7_leastWithout 14 = .ok (.iload 6, 2) := lw_dr lw_d_cX7_leastWithout_0 9 rfl
theorem dX7_leastWithout_16 : decode cX7_leastWithout 16 = .ok (.iload_n 2, 1) := lw_dr lw_d_cX7_leastWithout_0 10 rfl
theorem dX7_leastWithout_17 : decode cX7_leastWithout 17 = .ok (.if_icmp .eq 17, 3) := lw_dr lw_d_cX7_leastWithout_0 11 rfl
theorem dX7_leastWithout_34 : decode cX7_leastWithout 34 = .ok (.iinc 6 1, 3) := lw_dr lw_d_cX7_leastWithout_0 12 rfl
theorem dX7_leastWithout_37 : decode cX7_leastWithout 37 = .ok (.goto (-29), 3) := lw_dr lw_d_cX7_leastWithout_0 13 rfl
theorem dX7_leastWithout_20 : decode cX7_leastWithout 20 = .ok (.lload 4, 2) := lw_dr lw_d_cX7_leastWithout_0 14 rfl
theorem dX7_leastWithout_22 : decode cX7_leastWithout 22 = .ok (.aload_n 0, 1) := lw_dr lw_d_cX7_leastWithout_0 15 rfl
theorem dX7_leastWithout_23 : decode cX7_leastWithout 23 = .ok (.iload_n 1, 1) := lw_dr lw_d_cX7_leastWithout_0 16 rfl
theorem dX7_leastWithout_24 : decode cX7_leastWithout 24 = .ok (.iload 6, 2) := lw_dr lw_d_cX7_leastWithout_0 17 rfl
theorem dX7_leastWithout_26 : decode cX7_leastWithout 26 = .ok (.invokevirtual 124, 3) := lw_dr lw_d_cX7_leastWithout_0 18 rfl
theorem dX7_leastWithout_29 : decode cX7_leastWithout 29 = .ok (.invokestatic 115, 3) := lw_dr lw_d_cX7_leastWithout_0 19 rfl
theorem dX7_leastWithout_32 : decode cX7_leastWithout 32 = .ok (.lstore 4, 2) := lw_dr lw_d_cX7_leastWithout_0 20 rfl
theorem lw_d_cX3_forget_0 : lw_dl cX3_forget [(0, .aload_n 0, 1), (1, .iconst 0, 1), (2, .putfield 39, 3), (5, .aload_n 0, 1), (6, .ldc2_w 43, 3), (9, .putfield 45, 3), (12, .aload_n 0, 1), (13, .ldc2_w 43, 3), (16, .putfield 48, 3), (19, .return_, 1)] = true := by decide +kernel
theorem dX3_forget_0 : decode cX3_forget 0 = .ok (.aload_n 0, 1) := lw_dr lw_d_cX3_forget_0 0 rfl
theorem dX3_forget_1 : decode cX3_forget 1 = .ok (.iconst 0, 1) := lw_dr lw_d_cX3_forget_0 1 rfl
theorem dX3_forget_2 : decode cX3_forget 2 = .ok (.putfield 39, 3) := lw_dr lw_d_cX3_forget_0 2 rfl
theorem dX3_forget_5 : decode cX3_forget 5 = .ok (.aload_n 0, 1) := lw_dr lw_d_cX3_forget_0 3 rfl
theorem dX3_forget_6 : decode cX3_forget 6 = .ok (.ldc2_w 43, 3) := lw_dr lw_d_cX3_forget_0 4 rfl
theorem dX3_forget_9 : decode cX3_forget 9 = .ok (.putfield 45, 3) := lw_dr lw_d_cX3_forget_0 5 rfl
theorem dX3_forget_12 : decode cX3_forget 12 = .ok (.aload_n 0, 1) := lw_dr lw_d_cX3_forget_0 6 rfl
theorem dX3_forget_13 : decode cX3_forget 13 = .ok (.ldc2_w 43, 3) := lw_dr lw_d_cX3_forget_0 7 rfl
theorem dX3_forget_16 : decode cX3_forget 16 = .ok (.putfield 48, 3) := lw_dr lw_d_cX3_forget_0 8 rfl
theorem dX3_forget_19 : decode cX3_forget 19 = .ok (.return_, 1) := lw_dr lw_d_cX3_forget_0 9 rfl
theorem lw_d_cX3_mostOfAll_0 : lw_dl cX3_mostOfAll [(0, .aload_n 0, 1), (1, .getfield 48, 3), (4, .lconst 0, 1), (5, .lcmp, 1), (6, .ifCond .lt 8, 3), (14, .aload_n 0, 1), (15, .getfield 12, 3), (18, .aload_n 1, 1), (19, .invokevirtual 51, 3), (22, .aload_n 0, 1), (23, .aload_n 1, 1), (24, .invokevirtual 143, 3), (27, .ldc2_w 43, 3), (30, .lstore_n 2, 1), (31, .aload_n 1, 1), (32, .invokevirtual 146, 3), (35, .iconst 1, 1), (36, .iadd, 1), (37, .iconst 2, 1), (38, .idiv, 1), (39, .istore 4, 2), (41, .iconst 0, 1), (42, .istore 5, 2), (44, .iload 5, 2), (46, .iload 4, 2), (48, .if_icmp .ge 43, 3), (91, .aload_n 0, 1), (92, .lload_n 2, 1), (93, .putfield 48, 3), (96, .lload_n 2, 1), (97, .lreturn, 1), (51, .aload_n 0, 1), (52, .lload_n 2, 1), (53, .aload_n 1, 1), (54, .invokevirtual 149, 3)] = true := by decide +kernel
theorem dX3_mostOfAll_0 : decode cX3_mostOfAll 0 = .ok (.aload_n 0, 1) := lw_dr lw_d_cX3_mostOfAll_0 0 rfl
theorem dX3_mostOfAll_1 : decode cX3_mostOfAll 1 = .ok (.getfield 48, 3) := lw_dr lw_d_cX3_mostOfAll_0 1 rfl
theorem dX3_mostOfAll_4 : decode cX3_mostOfAll 4 = .ok (.lconst 0, 1) := lw_dr lw_d_cX3_mostOfAll_0 2 rfl
theorem dX3_mostOfAll_5 : decode cX3_mostOfAll 5 = .ok (.lcmp, 1) := lw_dr lw_d_cX3_mostOfAll_0 3 rfl
theorem dX3_mostOfAll_6 : decode cX3_mostOfAll 6 = .ok (.ifCond .lt 8, 3) := lw_dr lw_d_cX3_mostOfAll_0 4 rfl
theorem dX3_mostOfAll_14 : decode cX3_mostOfAll 14 = .ok (.aload_n 0, 1) := lw_dr lw_d_cX3_mostOfAll_0 5 rfl
theorem dX3_mostOfAll_15 : decode cX3_mostOfAll 15 = .ok (.getfield 12, 3) := lw_dr lw_d_cX3_mostOfAll_0 6 rfl
theorem dX3_mostOfAll_18 : decode cX3_mostOfAll 18 = .ok (.aload_n 1, 1) := lw_dr lw_d_cX3_mostOfAll_0 7 rfl
theorem dX3_mostOfAll_19 : decode cX3_mostOfAll 19 = .ok (.invokevirtual 51, 3) := lw_dr lw_d_cX3_mostOfAll_0 8 rfl
theorem dX3_mostOfAll_22 : decode cX3_mostOfAll 22 = .ok (.aload_n 0, 1) := lw_dr lw_d_cX3_mostOfAll_0 9 rfl
theorem dX3_mostOfAll_23 : decode cX3_mostOfAll 23 = .ok (.aload_n 1, 1) := lw_dr lw_d_cX3_mostOfAll_0 10 rfl
theorem dX3_mostOfAll_24 : decode cX3_mostOfAll 24 = .ok (.invokevirtual 143, 3) := lw_dr lw_d_cX3_mostOfAll_0 11 rfl
theorem dX3_mostOfAll_27 : decode cX3_mostOfAll 27 = .ok (.ldc2_w 43, 3) := lw_dr lw_d_cX3_mostOfAll_0 12 rfl
theorem dX3_mostOfAll_30 : decode cX3_mostOfAll 30 = .ok (.lstore_n 2, 1) := lw_dr lw_d_cX3_mostOfAll_0 13 rfl
theorem dX3_mostOfAll_31 : decode cX3_mostOfAll 31 = .ok (.aload_n 1, 1) := lw_dr lw_d_cX3_mostOfAll_0 14 rfl
theorem dX3_mostOfAll_32 : decode cX3_mostOfAll 32 = .ok (.invokevirtual 146, 3) := lw_dr lw_d_cX3_mostOfAll_0 15 rfl
theorem dX3_mostOfAll_35 : decode cX3_mostOfAll 35 = .ok (.iconst 1, 1) := lw_dr lw_d_cX3_mostOfAll_0 16 rfl
theorem dX3_mostOfAll_36 : decode cX3_mostOfAll 36 = .ok (.iadd, 1) := lw_dr lw_d_cX3_mostOfAll_0 17 rfl
theorem dX3_mostOfAll_37 : decode cX3_mostOfAll 37 = .ok (.iconst 2, 1) := lw_dr lw_d_cX3_mostOfAll_0 18 rfl
theorem dX3_mostOfAll_38 : decode cX3_mostOfAll 38 = .ok (.idiv, 1) := lw_dr lw_d_cX3_mostOfAll_0 19 rfl
theorem dX3_mostOfAll_39 : decode cX3_mostOfAll 39 = .ok (.istore 4, 2) := lw_dr lw_d_cX3_mostOfAll_0 20 rfl
theorem dX3_mostOfAll_41 : decode cX3_mostOfAll 41 = .ok (.iconst 0, 1) := lw_dr lw_d_cX3_mostOfAll_0 21 rfl
theorem dX3_mostOfAll_42 : decode cX3_mostOfAll 42 = .ok (.istore 5, 2) := lw_dr lw_d_cX3_mostOfAll_0 22 rfl
theorem dX3_mostOfAll_44 : decode cX3_mostOfAll 44 = .ok (.iload 5, 2) := lw_dr lw_d_cX3_mostOfAll_0 23 rfl
theorem dX3_mostOfAll_46 : decode cX3_mostOfAll 46 = .ok (.iload 4, 2) := lw_dr lw_d_cX3_mostOfAll_0 24 rfl
theorem dX3_mostOfAll_48 : decode cX3_mostOfAll 48 = .ok (.if_icmp .ge 43, 3) := lw_dr lw_d_cX3_mostOfAll_0 25 rfl
theorem dX3_mostOfAll_91 : decode cX3_mostOfAll 91 = .ok (.aload_n 0, 1) := lw_dr lw_d_cX3_mostOfAll_0 26 rfl
theorem dX3_mostOfAll_92 : decode cX3_mostOfAll 92 = .ok (.lload_n 2, 1) := lw_dr lw_d_cX3_mostOfAll_0 27 rfl
theorem dX3_mostOfAll_93 : decode cX3_mostOfAll 93 = .ok (.putfield 48, 3) := lw_dr lw_d_cX3_mostOfAll_0 28 rfl
theorem dX3_mostOfAll_96 : decode cX3_mostOfAll 96 = .ok (.lload_n 2, 1) := lw_dr lw_d_cX3_mostOfAll_0 29 rfl
theorem dX3_mostOfAll_97 : decode cX3_mostOfAll 97 = .ok (.lreturn, 1) := lw_dr lw_d_cX3_mostOfAll_0 30 rfl
theorem dX3_mostOfAll_51 : decode cX3_mostOfAll 51 = .ok (.aload_n 0, 1) := lw_dr lw_d_cX3_mostOfAll_0 31 rfl
theorem dX3_mostOfAll_52 : decode cX3_mostOfAll 52 = .ok (.lload_n 2, 1) := lw_dr lw_d_cX3_mostOfAll_0 32 rfl
theorem dX3_mostOfAll_53 : decode cX3_mostOfAll 53 = .ok (.aload_n 1, 1) := lw_dr lw_d_cX3_mostOfAll_0 33 rfl
theorem dX3_mostOfAll_54 : decode cX3_mostOfAll 54 = .ok (.invokevirtual 149, 3) := lw_dr lw_d_cX3_mostOfAll_0 34 rfl
theorem lw_d_cX3_startTrying_0 : lw_dl cX3_startTrying [(0, .aload_n 0, 1), (1, .getfield 28, 3), (4, .iconst 0, 1), (5, .invokestatic 162, 3), (8, .aload_n 0, 1), (9, .getfield 31, 3), (12, .lconst 0, 1), (13, .invokestatic 168, 3), (16, .aload_n 0, 1), (17, .lconst 0, 1), (18, .putfield 35, 3), (21, .iconst 0, 1), (22, .istore_n 2, 1), (23, .iload_n 2, 1), (24, .aload_n 1, 1), (25, .getfield 79, 3), (28, .if_icmp .ge 33, 3), (61, .return_, 1), (31, .aload_n 0, 1), (32, .getfield 25, 3), (35, .iload_n 2, 1), (36, .iconst 1, 1), (37, .aload_n 1, 1), (38, .getfield 77, 3), (41, .isub, 1), (42, .iastore, 1), (43, .aload_n 0, 1), (44, .iload_n 2, 1), (45, .aload_n 0, 1), (46, .getfield 25, 3), (49, .iload_n 2, 1), (50, .iaload, 1), (51, .i2l, 1), (52, .invokevirtual 171, 3), (55, .iinc 2 1, 3), (58, .goto (-35), 3)] = true := by decide +kernel
theorem dX3_startTrying_0 : decode cX3_startTrying 0 = .ok (.aload_n 0, 1) := lw_dr lw_d_cX3_startTrying_0 0 rfl
theorem dX3_startTrying_1 : decode cX3_startTrying 1 = .ok (.getfield 28, 3) := lw_dr lw_d_cX3_startTrying_0 1 rfl
theorem dX3_startTrying_4 : decode cX3_startTrying 4 = .ok (.iconst 0, 1) := lw_dr lw_d_cX3_startTrying_0 2 rfl
theorem dX3_startTrying_5 : decode cX3_startTrying 5 = .ok (.invokestatic 162, 3) := lw_dr lw_d_cX3_startTrying_0 3 rfl
theorem dX3_startTrying_8 : decode cX3_startTrying 8 = .ok (.aload_n 0, 1) := lw_dr lw_d_cX3_startTrying_0 4 rfl
theorem dX3_startTrying_9 : decode cX3_startTrying 9 = .ok (.getfield 31, 3) := lw_dr lw_d_cX3_startTrying_0 5 rfl
theorem dX3_startTrying_12 : decode cX3_startTrying 12 = .ok (.lconst 0, 1) := lw_dr lw_d_cX3_startTrying_0 6 rfl
theorem dX3_startTrying_13 : decode cX3_startTrying 13 = .ok (.invokestatic 168, 3) := lw_dr lw_d_cX3_startTrying_0 7 rfl
theorem dX3_startTrying_16 : decode cX3_startTrying 16 = .ok (.aload_n 0, 1) := lw_dr lw_d_cX3_startTrying_0 8 rfl
theorem dX3_startTrying_17 : decode cX3_startTrying 17 = .ok (.lconst 0, 1) := lw_dr lw_d_cX3_startTrying_0 9 rfl
theorem dX3_startTrying_18 : decode cX3_startTrying 18 = .ok (.putfield 35, 3) := lw_dr lw_d_cX3_startTrying_0 10 rfl
theorem dX3_startTrying_21 : decode cX3_startTrying 21 = .ok (.iconst 0, 1) := lw_dr lw_d_cX3_startTrying_0 11 rfl
theorem dX3_startTrying_22 : decode cX3_startTrying 22 = .ok (.istore_n 2, 1) := lw_dr lw_d_cX3_startTrying_0 12 rfl
theorem dX3_startTrying_23 : decode cX3_startTrying 23 = .ok (.iload_n 2, 1) := lw_dr lw_d_cX3_startTrying_0 13 rfl
theorem dX3_startTrying_24 : decode cX3_startTrying 24 = .ok (.aload_n 1, 1) := lw_dr lw_d_cX3_startTrying_0 14 rfl
theorem dX3_startTrying_25 : decode cX3_startTrying 25 = .ok (.getfield 79, 3) := lw_dr lw_d_cX3_startTrying_0 15 rfl
theorem dX3_startTrying_28 : decode cX3_startTrying 28 = .ok (.if_icmp .ge 33, 3) := lw_dr lw_d_cX3_startTrying_0 16 rfl
theorem dX3_startTrying_61 : decode cX3_startTrying 61 = .ok (.return_, 1) := lw_dr lw_d_cX3_startTrying_0 17 rfl
theorem dX3_startTrying_31 : decode cX3_startTrying 31 = .ok (.aload_n 0, 1) := lw_dr lw_d_cX3_startTrying_0 18 rfl
theorem dX3_startTrying_32 : decode cX3_startTrying 32 = .ok (.getfield 25, 3) := lw_dr lw_d_cX3_startTrying_0 19 rfl
theorem dX3_startTrying_35 : decode cX3_startTrying 35 = .ok (.iload_n 2, 1) := lw_dr lw_d_cX3_startTrying_0 20 rfl
theorem dX3_startTrying_36 : decode cX3_startTrying 36 = .ok (.iconst 1, 1) := lw_dr lw_d_cX3_startTrying_0 21 rfl
theorem dX3_startTrying_37 : decode cX3_startTrying 37 = .ok (.aload_n 1, 1) := lw_dr lw_d_cX3_startTrying_0 22 rfl
theorem dX3_startTrying_38 : decode cX3_startTrying 38 = .ok (.getfield 77, 3) := lw_dr lw_d_cX3_startTrying_0 23 rfl
theorem dX3_startTrying_41 : decode cX3_startTrying 41 = .ok (.isub, 1) := lw_dr lw_d_cX3_startTrying_0 24 rfl
theorem dX3_startTrying_42 : decode cX3_startTrying 42 = .ok (.iastore, 1) := lw_dr lw_d_cX3_startTrying_0 25 rfl
theorem dX3_startTrying_43 : decode cX3_startTrying 43 = .ok (.aload_n 0, 1) := lw_dr lw_d_cX3_startTrying_0 26 rfl
theorem dX3_startTrying_44 : decode cX3_startTrying 44 = .ok (.iload_n 2, 1) := lw_dr lw_d_cX3_startTrying_0 27 rfl
theorem dX3_startTrying_45 : decode cX3_startTrying 45 = .ok (.aload_n 0, 1) := lw_dr lw_d_cX3_startTrying_0 28 rfl
theorem dX3_startTrying_46 : decode cX3_startTrying 46 = .ok (.getfield 25, 3) := lw_dr lw_d_cX3_startTrying_0 29 rfl
theorem dX3_startTrying_49 : decode cX3_startTrying 49 = .ok (.iload_n 2, 1) := lw_dr lw_d_cX3_startTrying_0 30 rfl
theorem dX3_startTrying_50 : decode cX3_startTrying 50 = .ok (.iaload, 1) := lw_dr lw_d_cX3_startTrying_0 31 rfl
theorem dX3_startTrying_51 : decode cX3_startTrying 51 = .ok (.i2l, 1) := lw_dr lw_d_cX3_startTrying_0 32 rfl
theorem dX3_startTrying_52 : decode cX3_startTrying 52 = .ok (.invokevirtual 171, 3) := lw_dr lw_d_cX3_startTrying_0 33 rfl
theorem dX3_startTrying_55 : decode cX3_startTrying 55 = .ok (.iinc 2 1, 3) := lw_dr lw_d_cX3_startTrying_0 34 rfl
theorem dX3_startTrying_58 : decode cX3_startTrying 58 = .ok (.goto (-35), 3) := lw_dr lw_d_cX3_startTrying_0 35 rfl
theorem lw_d_cX3_move_0 : lw_dl cX3_move [(0, .iload_n 1, 1), (1, .iconst 5, 1), (2, .imul, 1), (3, .istore 4, 2), (5, .aload_n 0, 1), (6, .dup, 1), (7, .getfield 35, 3), (10, .lload_n 2, 1), (11, .ldc2_w 175, 3), (14, .aload_n 0, 1), (15, .getfield 31, 3), (18, .iload_n 1, 1), (19, .laload, 1), (20, .lmul, 1), (21, .lload_n 2, 1), (22, .aload_n 0, 1), (23, .getfield 12, 3), (26, .getfield 177, 3), (29, .iload 4, 2), (31, .iload_n 1, 1), (32, .iadd, 1), (33, .laload, 1), (34, .lmul, 1), (35, .ladd, 1), (36, .lmul, 1), (37, .ladd, 1), (38, .putfield 35, 3), (41, .iconst 0, 1), (42, .istore 5, 2), (44, .iload 5, 2), (46, .aload_n 0, 1), (47, .getfield 12, 3), (50, .getfield 110, 3), (53, .if_icmp .gt 34, 3), (56, .aload_n 0, 1), (57, .getfield 31, 3), (60, .iload 5, 2), (62, .dup2, 1), (63, .laload, 1), (64, .lload_n 2, 1)] = true := by decide +kernel
theorem dX3_move_0 : decode cX3_move 0 = .ok (.iload_n 1, 1) := lw_dr lw_d_cX3_move_0 0 rfl
theorem dX3_move_1 : decode cX3_move 1 = .ok (.iconst 5, 1) := lw_dr lw_d_cX3_move_0 1 rfl
theorem dX3_move_2 : decode cX3_move 2 = .ok (.imul, 1) := lw_dr lw_d_cX3_move_0 2 rfl
theorem dX3_move_3 : decode cX3_move 3 = .ok (.istore 4, 2) := lw_dr lw_d_cX3_move_0 3 rfl
theorem dX3_move_5 : decode cX3_move 5 = .ok (.aload_n 0, 1) := lw_dr lw_d_cX3_move_0 4 rfl
theorem dX3_move_6 : decode cX3_move 6 = .ok (.dup, 1) := lw_dr lw_d_cX3_move_0 5 rfl
theorem dX3_move_7 : decode cX3_move 7 = .ok (.getfield 35, 3) := lw_dr lw_d_cX3_move_0 6 rfl
theorem dX3_move_10 : decode cX3_move 10 = .ok (.lload_n 2, 1) := lw_dr lw_d_cX3_move_0 7 rfl
theorem dX3_move_11 : decode cX3_move 11 = .ok (.ldc2_w 175, 3) := lw_dr lw_d_cX3_move_0 8 rfl
theorem dX3_move_14 : decode cX3_move 14 = .ok (.aload_n 0, 1) := lw_dr lw_d_cX3_move_0 9 rfl
theorem dX3_move_15 : decode cX3_move 15 = .ok (.getfield 31, 3) := lw_dr lw_d_cX3_move_0 10 rfl
theorem dX3_move_18 : decode cX3_move 18 = .ok (.iload_n 1, 1) := lw_dr lw_d_cX3_move_0 11 rfl
theorem dX3_move_19 : decode cX3_move 19 = .ok (.laload, 1) := lw_dr lw_d_cX3_move_0 12 rfl
theorem dX3_move_20 : decode cX3_move 20 = .ok (.lmul, 1) := lw_dr lw_d_cX3_move_0 13 rfl
theorem dX3_move_21 : decode cX3_move 21 = .ok (.lload_n 2, 1) := lw_dr lw_d_cX3_move_0 14 rfl
theorem dX3_move_22 : decode cX3_move 22 = .ok (.aload_n 0, 1) := lw_dr lw_d_cX3_move_0 15 rfl
theorem dX3_move_23 : decode cX3_move 23 = .ok (.getfield 12, 3) := lw_dr lw_d_cX3_move_0 16 rfl
theorem dX3_move_26 : decode cX3_move 26 = .ok (.getfield 177, 3) := lw_dr lw_d_cX3_move_0 17 rfl
theorem dX3_move_29 : decode cX3_move 29 = .ok (.iload 4, 2) := lw_dr lw_d_cX3_move_0 18 rfl
theorem dX3_move_31 : decode cX3_move 31 = .ok (.iload_n 1, 1) := lw_dr lw_d_cX3_move_0 19 rfl
theorem dX3_move_32 : decode cX3_move 32 = .ok (.iadd, 1) := lw_dr lw_d_cX3_move_0 20 rfl
theorem dX3_move_33 : decode cX3_move 33 = .ok (.laload, 1) := lw_dr lw_d_cX3_move_0 21 rfl
theorem dX3_move_34 : decode cX3_move 34 = .ok (.lmul, 1) := lw_dr lw_d_cX3_move_0 22 rfl
theorem dX3_move_35 : decode cX3_move 35 = .ok (.ladd, 1) := lw_dr lw_d_cX3_move_0 23 rfl
theorem dX3_move_36 : decode cX3_move 36 = .ok (.lmul, 1) := lw_dr lw_d_cX3_move_0 24 rfl
theorem dX3_move_37 : decode cX3_move 37 = .ok (.ladd, 1) := lw_dr lw_d_cX3_move_0 25 rfl
theorem dX3_move_38 : decode cX3_move 38 = .ok (.putfield 35, 3) := lw_dr lw_d_cX3_move_0 26 rfl
theorem dX3_move_41 : decode cX3_move 41 = .ok (.iconst 0, 1) := lw_dr lw_d_cX3_move_0 27 rfl
theorem dX3_move_42 : decode cX3_move 42 = .ok (.istore 5, 2) := lw_dr lw_d_cX3_move_0 28 rfl
theorem dX3_move_44 : decode cX3_move 44 = .ok (.iload 5, 2) := lw_dr lw_d_cX3_move_0 29 rfl
theorem dX3_move_46 : decode cX3_move 46 = .ok (.aload_n 0, 1) := lw_dr lw_d_cX3_move_0 30 rfl
theorem dX3_move_47 : decode cX3_move 47 = .ok (.getfield 12, 3) := lw_dr lw_d_cX3_move_0 31 rfl
theorem dX3_move_50 : decode cX3_move 50 = .ok (.getfield 110, 3) := lw_dr lw_d_cX3_move_0 32 rfl
theorem dX3_move_53 : decode cX3_move 53 = .ok (.if_icmp .gt 34, 3) := lw_dr lw_d_cX3_move_0 33 rfl
theorem dX3_move_56 : decode cX3_move 56 = .ok (.aload_n 0, 1) := lw_dr lw_d_cX3_move_0 34 rfl
theorem dX3_move_57 : decode cX3_move 57 = .ok (.getfield 31, 3) := lw_dr lw_d_cX3_move_0 35 rfl
theorem dX3_move_60 : decode cX3_move 60 = .ok (.iload 5, 2) := lw_dr lw_d_cX3_move_0 36 rfl
theorem dX3_move_62 : decode cX3_move 62 = .ok (.dup2, 1) := lw_dr lw_d_cX3_move_0 37 rfl
theorem dX3_move_63 : decode cX3_move 63 = .ok (.laload, 1) := lw_dr lw_d_cX3_move_0 38 rfl
theorem dX3_move_64 : decode cX3_move 64 = .ok (.lload_n 2, 1) := lw_dr lw_d_cX3_move_0 39 rfl
theorem lw_d_cX3_move_65 : lw_dl cX3_move [(65, .aload_n 0, 1), (66, .getfield 12, 3), (69, .getfield 177, 3), (72, .iload 4, 2), (74, .iload 5, 2), (76, .iadd, 1), (77, .laload, 1), (78, .lmul, 1), (79, .ladd, 1), (80, .lastore, 1), (81, .iinc 5 1, 3), (84, .goto (-40), 3), (87, .return_, 1)] = true := by decide +kernel
theorem dX3_move_65 : decode cX3_move 65 = .ok (.aload_n 0, 1) := lw_dr lw_d_cX3_move_65 0 rfl
theorem dX3_move_66 : decode cX3_move 66 = .ok (.getfield 12, 3) := lw_dr lw_d_cX3_move_65 1 rfl
theorem dX3_move_69 : decode cX3_move 69 = .ok (.getfield 177, 3) := lw_dr lw_d_cX3_move_65 2 rfl
theorem dX3_move_72 : decode cX3_move 72 = .ok (.iload 4, 2) := lw_dr lw_d_cX3_move_65 3 rfl
theorem dX3_move_74 : decode cX3_move 74 = .ok (.iload 5, 2) := lw_dr lw_d_cX3_move_65 4 rfl
theorem dX3_move_76 : decode cX3_move 76 = .ok (.iadd, 1) := lw_dr lw_d_cX3_move_65 5 rfl
theorem dX3_move_77 : decode cX3_move 77 = .ok (.laload, 1) := lw_dr lw_d_cX3_move_65 6 rfl
theorem dX3_move_78 : decode cX3_move 78 = .ok (.lmul, 1) := lw_dr lw_d_cX3_move_65 7 rfl
theorem dX3_move_79 : decode cX3_move 79 = .ok (.ladd, 1) := lw_dr lw_d_cX3_move_65 8 rfl
theorem dX3_move_80 : decode cX3_move 80 = .ok (.lastore, 1) := lw_dr lw_d_cX3_move_65 9 rfl
theorem dX3_move_81 : decode cX3_move 81 = .ok (.iinc 5 1, 3) := lw_dr lw_d_cX3_move_65 10 rfl
theorem dX3_move_84 : decode cX3_move 84 = .ok (.goto (-40), 3) := lw_dr lw_d_cX3_move_65 11 rfl
theorem dX3_move_87 : decode cX3_move 87 = .ok (.return_, 1) := lw_dr lw_d_cX3_move_65 12 rfl
theorem lw_d_cX3_fallsTo_0 : lw_dl cX3_fallsTo [(0, .iconst 2, 1), (1, .aload_n 3, 1), (2, .getfield 77, 3), (5, .imul, 1), (6, .istore 4, 2), (8, .iconst 0, 1), (9, .istore 5, 2), (11, .iload 5, 2), (13, .sipush 243, 3), (16, .if_icmp .ge 74, 3), (19, .aload_n 0, 1), (20, .getfield 35, 3), (23, .lload_n 1, 1), (24, .lcmp, 1), (25, .ifCond .le 65, 3), (90, .aload_n 0, 1), (91, .getfield 35, 3), (94, .lload_n 1, 1), (95, .lcmp, 1), (96, .ifCond .gt 7, 3), (103, .iconst 0, 1), (104, .ireturn, 1), (99, .iconst 1, 1), (100, .goto 4, 3), (28, .aload_n 0, 1), (29, .getfield 35, 3), (32, .lstore 6, 2), (34, .iconst 0, 1), (35, .istore 8, 2), (37, .iload 8, 2), (39, .aload_n 0, 1), (40, .getfield 12, 3), (43, .getfield 110, 3), (46, .if_icmp .gt 26, 3), (49, .aload_n 0, 1), (50, .getfield 35, 3), (53, .lload_n 1, 1), (54, .lcmp, 1), (55, .ifCond .le 17, 3), (72, .aload_n 0, 1)] = true := by decide +kernel
theorem dX3_fallsTo_0 : decode cX3_fallsTo 0 = .ok (.iconst 2, 1) := lw_dr lw_d_cX3_fallsTo_0 0 rfl
theorem dX3_fallsTo_1 : decode cX3_fallsTo 1 = .ok (.aload_n 3, 1) := lw_dr lw_d_cX3_fallsTo_0 1 rfl
theorem dX3_fallsTo_2 : decode cX3_fallsTo 2 = .ok (.getfield 77, 3) := lw_dr lw_d_cX3_fallsTo_0 2 rfl
theorem dX3_fallsTo_5 : decode cX3_fallsTo 5 = .ok (.imul, 1) := lw_dr lw_d_cX3_fallsTo_0 3 rfl
theorem dX3_fallsTo_6 : decode cX3_fallsTo 6 = .ok (.istore 4, 2) := lw_dr lw_d_cX3_fallsTo_0 4 rfl
theorem dX3_fallsTo_8 : decode cX3_fallsTo 8 = .ok (.iconst 0, 1) := lw_dr lw_d_cX3_fallsTo_0 5 rfl
theorem dX3_fallsTo_9 : decode cX3_fallsTo 9 = .ok (.istore 5, 2) := lw_dr lw_d_cX3_fallsTo_0 6 rfl
theorem dX3_fallsTo_11 : decode cX3_fallsTo 11 = .ok (.iload 5, 2) := lw_dr lw_d_cX3_fallsTo_0 7 rfl
theorem dX3_fallsTo_13 : decode cX3_fallsTo 13 = .ok (.sipush 243, 3) := lw_dr lw_d_cX3_fallsTo_0 8 rfl
theorem dX3_fallsTo_16 : decode cX3_fallsTo 16 = .ok (.if_icmp .ge 74, 3) := lw_dr lw_d_cX3_fallsTo_0 9 rfl
theorem dX3_fallsTo_19 : decode cX3_fallsTo 19 = .ok (.aload_n 0, 1) := lw_dr lw_d_cX3_fallsTo_0 10 rfl
theorem dX3_fallsTo_20 : decode cX3_fallsTo 20 = .ok (.getfield 35, 3) := lw_dr lw_d_cX3_fallsTo_0 11 rfl
theorem dX3_fallsTo_23 : decode cX3_fallsTo 23 = .ok (.lload_n 1, 1) := lw_dr lw_d_cX3_fallsTo_0 12 rfl
theorem dX3_fallsTo_24 : decode cX3_fallsTo 24 = .ok (.lcmp, 1) := lw_dr lw_d_cX3_fallsTo_0 13 rfl
theorem dX3_fallsTo_25 : decode cX3_fallsTo 25 = .ok (.ifCond .le 65, 3) := lw_dr lw_d_cX3_fallsTo_0 14 rfl
theorem dX3_fallsTo_90 : decode cX3_fallsTo 90 = .ok (.aload_n 0, 1) := lw_dr lw_d_cX3_fallsTo_0 15 rfl
theorem dX3_fallsTo_91 : decode cX3_fallsTo 91 = .ok (.getfield 35, 3) := lw_dr lw_d_cX3_fallsTo_0 16 rfl
theorem dX3_fallsTo_94 : decode cX3_fallsTo 94 = .ok (.lload_n 1, 1) := lw_dr lw_d_cX3_fallsTo_0 17 rfl
theorem dX3_fallsTo_95 : decode cX3_fallsTo 95 = .ok (.lcmp, 1) := lw_dr lw_d_cX3_fallsTo_0 18 rfl
theorem dX3_fallsTo_96 : decode cX3_fallsTo 96 = .ok (.ifCond .gt 7, 3) := lw_dr lw_d_cX3_fallsTo_0 19 rfl
theorem dX3_fallsTo_103 : decode cX3_fallsTo 103 = .ok (.iconst 0, 1) := lw_dr lw_d_cX3_fallsTo_0 20 rfl
theorem dX3_fallsTo_104 : decode cX3_fallsTo 104 = .ok (.ireturn, 1) := lw_dr lw_d_cX3_fallsTo_0 21 rfl
theorem dX3_fallsTo_99 : decode cX3_fallsTo 99 = .ok (.iconst 1, 1) := lw_dr lw_d_cX3_fallsTo_0 22 rfl
theorem dX3_fallsTo_100 : decode cX3_fallsTo 100 = .ok (.goto 4, 3) := lw_dr lw_d_cX3_fallsTo_0 23 rfl
theorem dX3_fallsTo_28 : decode cX3_fallsTo 28 = .ok (.aload_n 0, 1) := lw_dr lw_d_cX3_fallsTo_0 24 rfl
theorem dX3_fallsTo_29 : decode cX3_fallsTo 29 = .ok (.getfield 35, 3) := lw_dr lw_d_cX3_fallsTo_0 25 rfl
theorem dX3_fallsTo_32 : decode cX3_fallsTo 32 = .ok (.lstore 6, 2) := lw_dr lw_d_cX3_fallsTo_0 26 rfl
theorem dX3_fallsTo_34 : decode cX3_fallsTo 34 = .ok (.iconst 0, 1) := lw_dr lw_d_cX3_fallsTo_0 27 rfl
theorem dX3_fallsTo_35 : decode cX3_fallsTo 35 = .ok (.istore 8, 2) := lw_dr lw_d_cX3_fallsTo_0 28 rfl
theorem dX3_fallsTo_37 : decode cX3_fallsTo 37 = .ok (.iload 8, 2) := lw_dr lw_d_cX3_fallsTo_0 29 rfl
theorem dX3_fallsTo_39 : decode cX3_fallsTo 39 = .ok (.aload_n 0, 1) := lw_dr lw_d_cX3_fallsTo_0 30 rfl
theorem dX3_fallsTo_40 : decode cX3_fallsTo 40 = .ok (.getfield 12, 3) := lw_dr lw_d_cX3_fallsTo_0 31 rfl
theorem dX3_fallsTo_43 : decode cX3_fallsTo 43 = .ok (.getfield 110, 3) := lw_dr lw_d_cX3_fallsTo_0 32 rfl
theorem dX3_fallsTo_46 : decode cX3_fallsTo 46 = .ok (.if_icmp .gt 26, 3) := lw_dr lw_d_cX3_fallsTo_0 33 rfl
theorem dX3_fallsTo_49 : decode cX3_fallsTo 49 = .ok (.aload_n 0, 1) := lw_dr lw_d_cX3_fallsTo_0 34 rfl
theorem dX3_fallsTo_50 : decode cX3_fallsTo 50 = .ok (.getfield 35, 3) := lw_dr lw_d_cX3_fallsTo_0 35 rfl
theorem dX3_fallsTo_53 : decode cX3_fallsTo 53 = .ok (.lload_n 1, 1) := lw_dr lw_d_cX3_fallsTo_0 36 rfl
theorem dX3_fallsTo_54 : decode cX3_fallsTo 54 = .ok (.lcmp, 1) := lw_dr lw_d_cX3_fallsTo_0 37 rfl
theorem dX3_fallsTo_55 : decode cX3_fallsTo 55 = .ok (.ifCond .le 17, 3) := lw_dr lw_d_cX3_fallsTo_0 38 rfl
theorem dX3_fallsTo_72 : decode cX3_fallsTo 72 = .ok (.aload_n 0, 1) := lw_dr lw_d_cX3_fallsTo_0 39 rfl
theorem lw_d_cX3_fallsTo_73 : lw_dl cX3_fallsTo [(73, .getfield 35, 3), (76, .lload 6, 2), (78, .lcmp, 1), (79, .ifCond .ne 5, 3), (82, .iconst 0, 1), (83, .ireturn, 1), (58, .aload_n 0, 1), (59, .iload 8, 2), (61, .iload 4, 2), (63, .invokevirtual 180, 3)] = true := by decide +kernel
theorem dX3_fallsTo_73 : decode cX3_fallsTo 73 = .ok (.getfield 35, 3) := lw_dr lw_d_cX3_fallsTo_73 0 rfl
theorem dX3_fallsTo_76 : decode cX3_fallsTo 76 = .ok (.lload 6, 2) := lw_dr lw_d_cX3_fallsTo_73 1 rfl
theorem dX3_fallsTo_78 : decode cX3_fallsTo 78 = .ok (.lcmp, 1) := lw_dr lw_d_cX3_fallsTo_73 2 rfl
theorem dX3_fallsTo_79 : decode cX3_fallsTo 79 = .ok (.ifCond .ne 5, 3) := lw_dr lw_d_cX3_fallsTo_73 3 rfl
theorem dX3_fallsTo_82 : decode cX3_fallsTo 82 = .ok (.iconst 0, 1) := lw_dr lw_d_cX3_fallsTo_73 4 rfl
theorem dX3_fallsTo_83 : decode cX3_fallsTo 83 = .ok (.ireturn, 1) := lw_dr lw_d_cX3_fallsTo_73 5 rfl
theorem dX3_fallsTo_58 : decode cX3_fallsTo 58 = .ok (.aload_n 0, 1) := lw_dr lw_d_cX3_fallsTo_73 6 rfl
theorem dX3_fallsTo_59 : decode cX3_fallsTo 59 = .ok (.iload 8, 2) := lw_dr lw_d_cX3_fallsTo_73 7 rfl
theorem dX3_fallsTo_61 : decode cX3_fallsTo 61 = .ok (.iload 4, 2) := lw_dr lw_d_cX3_fallsTo_73 8 rfl
theorem dX3_fallsTo_63 : decode cX3_fallsTo 63 = .ok (.invokevirtual 180, 3) := lw_dr lw_d_cX3_fallsTo_73 9 rfl
theorem lw_d_cX3_better_0 : lw_dl cX3_better [(0, .aload_n 0, 1), (1, .getfield 31, 3), (4, .iload_n 1, 1), (5, .laload, 1), (6, .lconst 0, 1), (7, .lcmp, 1), (8, .ifCond .le 7, 3), (15, .iconst 1, 1), (16, .istore_n 3, 1), (17, .aload_n 0, 1), (18, .getfield 28, 3), (21, .iload_n 1, 1), (22, .iaload, 1), (23, .iload_n 3, 1), (24, .iadd, 1), (25, .iconst (-1), 1), (26, .if_icmp .lt 15, 3), (41, .return_, 1), (29, .aload_n 0, 1), (30, .getfield 28, 3), (33, .iload_n 1, 1), (34, .iaload, 1), (35, .iload_n 3, 1)] = true := by decide +kernel
theorem dX3_better_0 : decode cX3_better 0 = .ok (.aload_n 0, 1) := lw_dr lw_d_cX3_better_0 0 rfl
theorem dX3_better_1 : decode cX3_better 1 = .ok (.getfield 31, 3) := lw_dr lw_d_cX3_better_0 1 rfl
theorem dX3_better_4 : decode cX3_better 4 = .ok (.iload_n 1, 1) := lw_dr lw_d_cX3_better_0 2 rfl
theorem dX3_better_5 : decode cX3_better 5 = .ok (.laload, 1) := lw_dr lw_d_cX3_better_0 3 rfl
theorem dX3_better_6 : decode cX3_better 6 = .ok (.lconst 0, 1) := lw_dr lw_d_cX3_better_0 4 rfl
theorem dX3_better_7 : decode cX3_better 7 = .ok (.lcmp, 1) := lw_dr lw_d_cX3_better_0 5 rfl
theorem dX3_better_8 : decode cX3_better 8 = .ok (.ifCond .le 7, 3) := lw_dr lw_d_cX3_better_0 6 rfl
theorem dX3_better_15 : decode cX3_better 15 = .ok (.iconst 1, 1) := lw_dr lw_d_cX3_better_0 7 rfl
theorem dX3_better_16 : decode cX3_better 16 = .ok (.istore_n 3, 1) := lw_dr lw_d_cX3_better_0 8 rfl
theorem dX3_better_17 : decode cX3_better 17 = .ok (.aload_n 0, 1) := lw_dr lw_d_cX3_better_0 9 rfl
theorem dX3_better_18 : decode cX3_better 18 = .ok (.getfield 28, 3) := lw_dr lw_d_cX3_better_0 10 rfl
theorem dX3_better_21 : decode cX3_better 21 = .ok (.iload_n 1, 1) := lw_dr lw_d_cX3_better_0 11 rfl
theorem dX3_better_22 : decode cX3_better 22 = .ok (.iaload, 1) := lw_dr lw_d_cX3_better_0 12 rfl
theorem dX3_better_23 : decode cX3_better 23 = .ok (.iload_n 3, 1) := lw_dr lw_d_cX3_better_0 13 rfl
theorem dX3_better_24 : decode cX3_better 24 = .ok (.iadd, 1) := lw_dr lw_d_cX3_better_0 14 rfl
theorem dX3_better_25 : decode cX3_better 25 = .ok (.iconst (-1), 1) := lw_dr lw_d_cX3_better_0 15 rfl
theorem dX3_better_26 : decode cX3_better 26 = .ok (.if_icmp .lt 15, 3) := lw_dr lw_d_cX3_better_0 16 rfl
theorem dX3_better_41 : decode cX3_better 41 = .ok (.return_, 1) := lw_dr lw_d_cX3_better_0 17 rfl
theorem dX3_better_29 : decode cX3_better 29 = .ok (.aload_n 0, 1) := lw_dr lw_d_cX3_better_0 18 rfl
theorem dX3_better_30 : decode cX3_better 30 = .ok (.getfield 28, 3) := lw_dr lw_d_cX3_better_0 19 rfl
theorem dX3_better_33 : decode cX3_better 33 = .ok (.iload_n 1, 1) := lw_dr lw_d_cX3_better_0 20 rfl
theorem dX3_better_34 : decode cX3_better 34 = .ok (.iaload, 1) := lw_dr lw_d_cX3_better_0 21 rfl
theorem dX3_better_35 : decode cX3_better 35 = .ok (.iload_n 3, 1) := lw_dr lw_d_cX3_better_0 22 rfl
theorem lw_d_cX3_better_36 : lw_dl cX3_better [(36, .iadd, 1), (37, .iconst 1, 1), (38, .if_icmp .le 4, 3), (42, .iload_n 3, 1), (43, .i2l, 1), (44, .iload_n 2, 1), (45, .i2l, 1), (46, .lmul, 1), (47, .lstore 4, 2), (49, .lload 4, 2), (51, .ldc2_w 175, 3), (54, .aload_n 0, 1), (55, .getfield 31, 3), (58, .iload_n 1, 1), (59, .laload, 1), (60, .lmul, 1), (61, .lload 4, 2), (63, .aload_n 0, 1), (64, .getfield 12, 3), (67, .getfield 177, 3), (70, .iload_n 1, 1), (71, .iconst 5, 1), (72, .imul, 1), (73, .iload_n 1, 1), (74, .iadd, 1), (75, .laload, 1), (76, .lmul, 1), (77, .ladd, 1), (78, .lmul, 1), (79, .lconst 0, 1), (80, .lcmp, 1), (81, .ifCond .ge 20, 3), (101, .return_, 1), (84, .aload_n 0, 1), (85, .getfield 28, 3), (88, .iload_n 1, 1), (89, .dup2, 1), (90, .iaload, 1), (91, .iload_n 3, 1), (92, .iadd, 1)] = true := by decide +kernel
theorem dX3_better_36 : decode cX3_better 36 = .ok (.iadd, 1) := lw_dr lw_d_cX3_better_36 0 rfl
theorem dX3_better_37 : decode cX3_better 37 = .ok (.iconst 1, 1) := lw_dr lw_d_cX3_better_36 1 rfl
theorem dX3_better_38 : decode cX3_better 38 = .ok (.if_icmp .le 4, 3) := lw_dr lw_d_cX3_better_36 2 rfl
theorem dX3_better_42 : decode cX3_better 42 = .ok (.iload_n 3, 1) := lw_dr lw_d_cX3_better_36 3 rfl
theorem dX3_better_43 : decode cX3_better 43 = .ok (.i2l, 1) := lw_dr lw_d_cX3_better_36 4 rfl
theorem dX3_better_44 : decode cX3_better 44 = .ok (.iload_n 2, 1) := lw_dr lw_d_cX3_better_36 5 rfl
theorem dX3_better_45 : decode cX3_better 45 = .ok (.i2l, 1) := lw_dr lw_d_cX3_better_36 6 rfl
theorem dX3_better_46 : decode cX3_better 46 = .ok (.lmul, 1) := lw_dr lw_d_cX3_better_36 7 rfl
theorem dX3_better_47 : decode cX3_better 47 = .ok (.lstore 4, 2) := lw_dr lw_d_cX3_better_36 8 rfl
theorem dX3_better_49 : decode cX3_better 49 = .ok (.lload 4, 2) := lw_dr lw_d_cX3_better_36 9 rfl
theorem dX3_better_51 : decode cX3_better 51 = .ok (.ldc2_w 175, 3) := lw_dr lw_d_cX3_better_36 10 rfl
theorem dX3_better_54 : decode cX3_better 54 = .ok (.aload_n 0, 1) := lw_dr lw_d_cX3_better_36 11 rfl
theorem dX3_better_55 : decode cX3_better 55 = .ok (.getfield 31, 3) := lw_dr lw_d_cX3_better_36 12 rfl
theorem dX3_better_58 : decode cX3_better 58 = .ok (.iload_n 1, 1) := lw_dr lw_d_cX3_better_36 13 rfl
theorem dX3_better_59 : decode cX3_better 59 = .ok (.laload, 1) := lw_dr lw_d_cX3_better_36 14 rfl
theorem dX3_better_60 : decode cX3_better 60 = .ok (.lmul, 1) := lw_dr lw_d_cX3_better_36 15 rfl
theorem dX3_better_61 : decode cX3_better 61 = .ok (.lload 4, 2) := lw_dr lw_d_cX3_better_36 16 rfl
theorem dX3_better_63 : decode cX3_better 63 = .ok (.aload_n 0, 1) := lw_dr lw_d_cX3_better_36 17 rfl
theorem dX3_better_64 : decode cX3_better 64 = .ok (.getfield 12, 3) := lw_dr lw_d_cX3_better_36 18 rfl
theorem dX3_better_67 : decode cX3_better 67 = .ok (.getfield 177, 3) := lw_dr lw_d_cX3_better_36 19 rfl
theorem dX3_better_70 : decode cX3_better 70 = .ok (.iload_n 1, 1) := lw_dr lw_d_cX3_better_36 20 rfl
theorem dX3_better_71 : decode cX3_better 71 = .ok (.iconst 5, 1) := lw_dr lw_d_cX3_better_36 21 rfl
theorem dX3_better_72 : decode cX3_better 72 = .ok (.imul, 1) := lw_dr lw_d_cX3_better_36 22 rfl
theorem dX3_better_73 : decode cX3_better 73 = .ok (.iload_n 1, 1) := lw_dr lw_d_cX3_better_36 23 rfl
theorem dX3_better_74 : decode cX3_better 74 = .ok (.iadd, 1) := lw_dr lw_d_cX3_better_36 24 rfl
theorem dX3_better_75 : decode cX3_better 75 = .ok (.laload, 1) := lw_dr lw_d_cX3_better_36 25 rfl
theorem dX3_better_76 : decode cX3_better 76 = .ok (.lmul, 1) := lw_dr lw_d_cX3_better_36 26 rfl
theorem dX3_better_77 : decode cX3_better 77 = .ok (.ladd, 1) := lw_dr lw_d_cX3_better_36 27 rfl
theorem dX3_better_78 : decode cX3_better 78 = .ok (.lmul, 1) := lw_dr lw_d_cX3_better_36 28 rfl
theorem dX3_better_79 : decode cX3_better 79 = .ok (.lconst 0, 1) := lw_dr lw_d_cX3_better_36 29 rfl
theorem dX3_better_80 : decode cX3_better 80 = .ok (.lcmp, 1) := lw_dr lw_d_cX3_better_36 30 rfl
theorem dX3_better_81 : decode cX3_better 81 = .ok (.ifCond .ge 20, 3) := lw_dr lw_d_cX3_better_36 31 rfl
theorem dX3_better_101 : decode cX3_better 101 = .ok (.return_, 1) := lw_dr lw_d_cX3_better_36 32 rfl
theorem dX3_better_84 : decode cX3_better 84 = .ok (.aload_n 0, 1) := lw_dr lw_d_cX3_better_36 33 rfl
theorem dX3_better_85 : decode cX3_better 85 = .ok (.getfield 28, 3) := lw_dr lw_d_cX3_better_36 34 rfl
theorem dX3_better_88 : decode cX3_better 88 = .ok (.iload_n 1, 1) := lw_dr lw_d_cX3_better_36 35 rfl
theorem dX3_better_89 : decode cX3_better 89 = .ok (.dup2, 1) := lw_dr lw_d_cX3_better_36 36 rfl
theorem dX3_better_90 : decode cX3_better 90 = .ok (.iaload, 1) := lw_dr lw_d_cX3_better_36 37 rfl
theorem dX3_better_91 : decode cX3_better 91 = .ok (.iload_n 3, 1) := lw_dr lw_d_cX3_better_36 38 rfl
theorem dX3_better_92 : decode cX3_better 92 = .ok (.iadd, 1) := lw_dr lw_d_cX3_better_36 39 rfl
theorem lw_d_cX3_better_93 : lw_dl cX3_better [(93, .iastore, 1), (94, .aload_n 0, 1), (95, .iload_n 1, 1), (96, .lload 4, 2), (98, .invokevirtual 171, 3), (11, .iconst (-1), 1), (12, .goto 4, 3)] = true := by decide +kernel
theorem dX3_better_93 : decode cX3_better 93 = .ok (.iastore, 1) := lw_dr lw_d_cX3_better_93 0 rfl
theorem dX3_better_94 : decode cX3_better 94 = .ok (.aload_n 0, 1) := lw_dr lw_d_cX3_better_93 1 rfl
theorem dX3_better_95 : decode cX3_better 95 = .ok (.iload_n 1, 1) := lw_dr lw_d_cX3_better_93 2 rfl
theorem dX3_better_96 : decode cX3_better 96 = .ok (.lload 4, 2) := lw_dr lw_d_cX3_better_93 3 rfl
theorem dX3_better_98 : decode cX3_better 98 = .ok (.invokevirtual 171, 3) := lw_dr lw_d_cX3_better_93 4 rfl
theorem dX3_better_11 : decode cX3_better 11 = .ok (.iconst (-1), 1) := lw_dr lw_d_cX3_better_93 5 rfl
theorem dX3_better_12 : decode cX3_better 12 = .ok (.goto 4, 3) := lw_dr lw_d_cX3_better_93 6 rfl
theorem lw_d_cX3_fallsTo_66 : lw_dl cX3_fallsTo [(66, .iinc 8 1, 3), (69, .goto (-32), 3), (84, .iinc 5 1, 3), (87, .goto (-76), 3)] = true := by decide +kernel
theorem dX3_fallsTo_66 : decode cX3_fallsTo 66 = .ok (.iinc 8 1, 3) := lw_dr lw_d_cX3_fallsTo_66 0 rfl
theorem dX3_fallsTo_69 : decode cX3_fallsTo 69 = .ok (.goto (-32), 3) := lw_dr lw_d_cX3_fallsTo_66 1 rfl
theorem dX3_fallsTo_84 : decode cX3_fallsTo 84 = .ok (.iinc 5 1, 3) := lw_dr lw_d_cX3_fallsTo_66 2 rfl
theorem dX3_fallsTo_87 : decode cX3_fallsTo 87 = .ok (.goto (-76), 3) := lw_dr lw_d_cX3_fallsTo_66 3 rfl
theorem lw_d_cX3_mostOfAll_57 : lw_dl cX3_mostOfAll [(57, .ifCond .ne 23, 3), (80, .aload_n 0, 1), (81, .aload_n 1, 1), (82, .invokevirtual 159, 3), (85, .iinc 5 1, 3), (88, .goto (-44), 3), (60, .lload_n 2, 1), (61, .aload_n 0, 1), (62, .aload_n 1, 1), (63, .aload_n 0, 1), (64, .getfield 25, 3), (67, .lload_n 2, 1), (68, .invokevirtual 55, 3), (71, .invokestatic 153, 3), (74, .lstore_n 2, 1), (75, .aload_n 0, 1), (76, .aload_n 1, 1), (77, .invokevirtual 156, 3), (9, .aload_n 0, 1), (10, .getfield 48, 3), (13, .lreturn, 1)] = true := by decide +kernel
theorem dX3_mostOfAll_57 : decode cX3_mostOfAll 57 = .ok (.ifCond .ne 23, 3) := lw_dr lw_d_cX3_mostOfAll_57 0 rfl
theorem dX3_mostOfAll_80 : decode cX3_mostOfAll 80 = .ok (.aload_n 0, 1) := lw_dr lw_d_cX3_mostOfAll_57 1 rfl
theorem dX3_mostOfAll_81 : decode cX3_mostOfAll 81 = .ok (.aload_n 1, 1) := lw_dr lw_d_cX3_mostOfAll_57 2 rfl
theorem dX3_mostOfAll_82 : decode cX3_mostOfAll 82 = .ok (.invokevirtual 159, 3) := lw_dr lw_d_cX3_mostOfAll_57 3 rfl
theorem dX3_mostOfAll_85 : decode cX3_mostOfAll 85 = .ok (.iinc 5 1, 3) := lw_dr lw_d_cX3_mostOfAll_57 4 rfl
theorem dX3_mostOfAll_88 : decode cX3_mostOfAll 88 = .ok (.goto (-44), 3) := lw_dr lw_d_cX3_mostOfAll_57 5 rfl
theorem dX3_mostOfAll_60 : decode cX3_mostOfAll 60 = .ok (.lload_n 2, 1) := lw_dr lw_d_cX3_mostOfAll_57 6 rfl
theorem dX3_mostOfAll_61 : decode cX3_mostOfAll 61 = .ok (.aload_n 0, 1) := lw_dr lw_d_cX3_mostOfAll_57 7 rfl
theorem dX3_mostOfAll_62 : decode cX3_mostOfAll 62 = .ok (.aload_n 1, 1) := lw_dr lw_d_cX3_mostOfAll_57 8 rfl
theorem dX3_mostOfAll_63 : decode cX3_mostOfAll 63 = .ok (.aload_n 0, 1) := lw_dr lw_d_cX3_mostOfAll_57 9 rfl
theorem dX3_mostOfAll_64 : decode cX3_mostOfAll 64 = .ok (.getfield 25, 3) := lw_dr lw_d_cX3_mostOfAll_57 10 rfl
theorem dX3_mostOfAll_67 : decode cX3_mostOfAll 67 = .ok (.lload_n 2, 1) := lw_dr lw_d_cX3_mostOfAll_57 11 rfl
theorem dX3_mostOfAll_68 : decode cX3_mostOfAll 68 = .ok (.invokevirtual 55, 3) := lw_dr lw_d_cX3_mostOfAll_57 12 rfl
theorem dX3_mostOfAll_71 : decode cX3_mostOfAll 71 = .ok (.invokestatic 153, 3) := lw_dr lw_d_cX3_mostOfAll_57 13 rfl
theorem dX3_mostOfAll_74 : decode cX3_mostOfAll 74 = .ok (.lstore_n 2, 1) := lw_dr lw_d_cX3_mostOfAll_57 14 rfl
theorem dX3_mostOfAll_75 : decode cX3_mostOfAll 75 = .ok (.aload_n 0, 1) := lw_dr lw_d_cX3_mostOfAll_57 15 rfl
theorem dX3_mostOfAll_76 : decode cX3_mostOfAll 76 = .ok (.aload_n 1, 1) := lw_dr lw_d_cX3_mostOfAll_57 16 rfl
theorem dX3_mostOfAll_77 : decode cX3_mostOfAll 77 = .ok (.invokevirtual 156, 3) := lw_dr lw_d_cX3_mostOfAll_57 17 rfl
theorem dX3_mostOfAll_9 : decode cX3_mostOfAll 9 = .ok (.aload_n 0, 1) := lw_dr lw_d_cX3_mostOfAll_57 18 rfl
theorem dX3_mostOfAll_10 : decode cX3_mostOfAll 10 = .ok (.getfield 48, 3) := lw_dr lw_d_cX3_mostOfAll_57 19 rfl
theorem dX3_mostOfAll_13 : decode cX3_mostOfAll 13 = .ok (.lreturn, 1) := lw_dr lw_d_cX3_mostOfAll_57 20 rfl
theorem lw_d_cX3_nextLetters_0 : lw_dl cX3_nextLetters [(0, .aload_n 0, 1), (1, .getfield 12, 3), (4, .getfield 110, 3), (7, .istore_n 2, 1), (8, .iload_n 2, 1), (9, .ifCond .le 50, 3), (59, .aload_n 0, 1), (60, .getfield 25, 3), (63, .iload_n 2, 1), (64, .dup2, 1), (65, .iaload, 1), (66, .iconst 2, 1), (67, .iadd, 1), (68, .iastore, 1), (69, .aload_n 0, 1), (70, .iload_n 2, 1), (71, .ldc2_w 175, 3), (74, .invokevirtual 171, 3), (77, .return_, 1), (12, .aload_n 0, 1), (13, .getfield 25, 3), (16, .iload_n 2, 1), (17, .iaload, 1), (18, .aload_n 1, 1), (19, .getfield 77, 3), (22, .iconst 1, 1), (23, .isub, 1), (24, .if_icmp .ne 35, 3), (27, .aload_n 0, 1), (28, .getfield 25, 3), (31, .iload_n 2, 1), (32, .iconst 1, 1), (33, .aload_n 1, 1), (34, .getfield 77, 3), (37, .isub, 1), (38, .iastore, 1), (39, .aload_n 0, 1), (40, .iload_n 2, 1), (41, .iconst 2, 1), (42, .aload_n 0, 1)] = true := by decide +kernel
theorem dX3_nextLetters_0 : decode cX3_nextLetters 0 = .ok (.aload_n 0, 1) := lw_dr lw_d_cX3_nextLetters_0 0 rfl
theorem dX3_nextLetters_1 : decode cX3_nextLetters 1 = .ok (.getfield 12, 3) := lw_dr lw_d_cX3_nextLetters_0 1 rfl
theorem dX3_nextLetters_4 : decode cX3_nextLetters 4 = .ok (.getfield 110, 3) := lw_dr lw_d_cX3_nextLetters_0 2 rfl
theorem dX3_nextLetters_7 : decode cX3_nextLetters 7 = .ok (.istore_n 2, 1) := lw_dr lw_d_cX3_nextLetters_0 3 rfl
theorem dX3_nextLetters_8 : decode cX3_nextLetters 8 = .ok (.iload_n 2, 1) := lw_dr lw_d_cX3_nextLetters_0 4 rfl
theorem dX3_nextLetters_9 : decode cX3_nextLetters 9 = .ok (.ifCond .le 50, 3) := lw_dr lw_d_cX3_nextLetters_0 5 rfl
theorem dX3_nextLetters_59 : decode cX3_nextLetters 59 = .ok (.aload_n 0, 1) := lw_dr lw_d_cX3_nextLetters_0 6 rfl
theorem dX3_nextLetters_60 : decode cX3_nextLetters 60 = .ok (.getfield 25, 3) := lw_dr lw_d_cX3_nextLetters_0 7 rfl
theorem dX3_nextLetters_63 : decode cX3_nextLetters 63 = .ok (.iload_n 2, 1) := lw_dr lw_d_cX3_nextLetters_0 8 rfl
theorem dX3_nextLetters_64 : decode cX3_nextLetters 64 = .ok (.dup2, 1) := lw_dr lw_d_cX3_nextLetters_0 9 rfl
theorem dX3_nextLetters_65 : decode cX3_nextLetters 65 = .ok (.iaload, 1) := lw_dr lw_d_cX3_nextLetters_0 10 rfl
theorem dX3_nextLetters_66 : decode cX3_nextLetters 66 = .ok (.iconst 2, 1) := lw_dr lw_d_cX3_nextLetters_0 11 rfl
theorem dX3_nextLetters_67 : decode cX3_nextLetters 67 = .ok (.iadd, 1) := lw_dr lw_d_cX3_nextLetters_0 12 rfl
theorem dX3_nextLetters_68 : decode cX3_nextLetters 68 = .ok (.iastore, 1) := lw_dr lw_d_cX3_nextLetters_0 13 rfl
theorem dX3_nextLetters_69 : decode cX3_nextLetters 69 = .ok (.aload_n 0, 1) := lw_dr lw_d_cX3_nextLetters_0 14 rfl
theorem dX3_nextLetters_70 : decode cX3_nextLetters 70 = .ok (.iload_n 2, 1) := lw_dr lw_d_cX3_nextLetters_0 15 rfl
theorem dX3_nextLetters_71 : decode cX3_nextLetters 71 = .ok (.ldc2_w 175, 3) := lw_dr lw_d_cX3_nextLetters_0 16 rfl
theorem dX3_nextLetters_74 : decode cX3_nextLetters 74 = .ok (.invokevirtual 171, 3) := lw_dr lw_d_cX3_nextLetters_0 17 rfl
theorem dX3_nextLetters_77 : decode cX3_nextLetters 77 = .ok (.return_, 1) := lw_dr lw_d_cX3_nextLetters_0 18 rfl
theorem dX3_nextLetters_12 : decode cX3_nextLetters 12 = .ok (.aload_n 0, 1) := lw_dr lw_d_cX3_nextLetters_0 19 rfl
theorem dX3_nextLetters_13 : decode cX3_nextLetters 13 = .ok (.getfield 25, 3) := lw_dr lw_d_cX3_nextLetters_0 20 rfl
theorem dX3_nextLetters_16 : decode cX3_nextLetters 16 = .ok (.iload_n 2, 1) := lw_dr lw_d_cX3_nextLetters_0 21 rfl
theorem dX3_nextLetters_17 : decode cX3_nextLetters 17 = .ok (.iaload, 1) := lw_dr lw_d_cX3_nextLetters_0 22 rfl
theorem dX3_nextLetters_18 : decode cX3_nextLetters 18 = .ok (.aload_n 1, 1) := lw_dr lw_d_cX3_nextLetters_0 23 rfl
theorem dX3_nextLetters_19 : decode cX3_nextLetters 19 = .ok (.getfield 77, 3) := lw_dr lw_d_cX3_nextLetters_0 24 rfl
theorem dX3_nextLetters_22 : decode cX3_nextLetters 22 = .ok (.iconst 1, 1) := lw_dr lw_d_cX3_nextLetters_0 25 rfl
theorem dX3_nextLetters_23 : decode cX3_nextLetters 23 = .ok (.isub, 1) := lw_dr lw_d_cX3_nextLetters_0 26 rfl
theorem dX3_nextLetters_24 : decode cX3_nextLetters 24 = .ok (.if_icmp .ne 35, 3) := lw_dr lw_d_cX3_nextLetters_0 27 rfl
theorem dX3_nextLetters_27 : decode cX3_nextLetters 27 = .ok (.aload_n 0, 1) := lw_dr lw_d_cX3_nextLetters_0 28 rfl
theorem dX3_nextLetters_28 : decode cX3_nextLetters 28 = .ok (.getfield 25, 3) := lw_dr lw_d_cX3_nextLetters_0 29 rfl
theorem dX3_nextLetters_31 : decode cX3_nextLetters 31 = .ok (.iload_n 2, 1) := lw_dr lw_d_cX3_nextLetters_0 30 rfl
theorem dX3_nextLetters_32 : decode cX3_nextLetters 32 = .ok (.iconst 1, 1) := lw_dr lw_d_cX3_nextLetters_0 31 rfl
theorem dX3_nextLetters_33 : decode cX3_nextLetters 33 = .ok (.aload_n 1, 1) := lw_dr lw_d_cX3_nextLetters_0 32 rfl
theorem dX3_nextLetters_34 : decode cX3_nextLetters 34 = .ok (.getfield 77, 3) := lw_dr lw_d_cX3_nextLetters_0 33 rfl
theorem dX3_nextLetters_37 : decode cX3_nextLetters 37 = .ok (.isub, 1) := lw_dr lw_d_cX3_nextLetters_0 34 rfl
theorem dX3_nextLetters_38 : decode cX3_nextLetters 38 = .ok (.iastore, 1) := lw_dr lw_d_cX3_nextLetters_0 35 rfl
theorem dX3_nextLetters_39 : decode cX3_nextLetters 39 = .ok (.aload_n 0, 1) := lw_dr lw_d_cX3_nextLetters_0 36 rfl
theorem dX3_nextLetters_40 : decode cX3_nextLetters 40 = .ok (.iload_n 2, 1) := lw_dr lw_d_cX3_nextLetters_0 37 rfl
theorem dX3_nextLetters_41 : decode cX3_nextLetters 41 = .ok (.iconst 2, 1) := lw_dr lw_d_cX3_nextLetters_0 38 rfl
theorem dX3_nextLetters_42 : decode cX3_nextLetters 42 = .ok (.aload_n 0, 1) := lw_dr lw_d_cX3_nextLetters_0 39 rfl
theorem lw_d_cX3_nextLetters_43 : lw_dl cX3_nextLetters [(43, .getfield 25, 3), (46, .iload_n 2, 1), (47, .iaload, 1), (48, .imul, 1), (49, .i2l, 1), (50, .invokevirtual 171, 3), (53, .iinc 2 (-1), 3), (56, .goto (-48), 3)] = true := by decide +kernel
theorem dX3_nextLetters_43 : decode cX3_nextLetters 43 = .ok (.getfield 25, 3) := lw_dr lw_d_cX3_nextLetters_43 0 rfl
theorem dX3_nextLetters_46 : decode cX3_nextLetters 46 = .ok (.iload_n 2, 1) := lw_dr lw_d_cX3_nextLetters_43 1 rfl
theorem dX3_nextLetters_47 : decode cX3_nextLetters 47 = .ok (.iaload, 1) := lw_dr lw_d_cX3_nextLetters_43 2 rfl
theorem dX3_nextLetters_48 : decode cX3_nextLetters 48 = .ok (.imul, 1) := lw_dr lw_d_cX3_nextLetters_43 3 rfl
theorem dX3_nextLetters_49 : decode cX3_nextLetters 49 = .ok (.i2l, 1) := lw_dr lw_d_cX3_nextLetters_43 4 rfl
theorem dX3_nextLetters_50 : decode cX3_nextLetters 50 = .ok (.invokevirtual 171, 3) := lw_dr lw_d_cX3_nextLetters_43 5 rfl
theorem dX3_nextLetters_53 : decode cX3_nextLetters 53 = .ok (.iinc 2 (-1), 3) := lw_dr lw_d_cX3_nextLetters_43 6 rfl
theorem dX3_nextLetters_56 : decode cX3_nextLetters 56 = .ok (.goto (-48), 3) := lw_dr lw_d_cX3_nextLetters_43 7 rfl
theorem lw_d_cX3_leastFor_0 : lw_dl cX3_leastFor [(0, .iconst 2, 1), (1, .aload_n 1, 1), (2, .getfield 77, 3), (5, .imul, 1), (6, .istore 5, 2), (8, .iconst 0, 1), (9, .istore 6, 2), (11, .iload 6, 2), (13, .aload_n 1, 1), (14, .getfield 79, 3), (17, .if_icmp .ge 28, 3), (45, .aload_n 0, 1), (46, .getfield 12, 3), (49, .invokevirtual 86, 3), (52, .ldc2_w 89, 3), (55, .lstore 6, 2), (57, .aload_n 0, 1), (58, .getfield 12, 3), (61, .invokevirtual 91, 3), (64, .istore 8, 2), (66, .iconst 0, 1), (67, .istore 9, 2), (69, .iload 9, 2), (71, .iload 8, 2), (73, .if_icmp .ge 62, 3), (135, .lload 6, 2), (137, .lreturn, 1), (76, .lload 6, 2), (78, .lload_n 3, 1), (79, .lcmp, 1), (80, .ifCond .le 55, 3), (83, .aload_n 0, 1), (84, .getfield 12, 3), (87, .iconst 3, 1), (88, .invokevirtual 95, 3), (91, .istore 10, 2), (93, .aload_n 0, 1), (94, .getfield 12, 3), (97, .iload 10, 2), (99, .invokevirtual 99, 3)] = true := by decide +kernel
theorem dX3_leastFor_0 : decode cX3_leastFor 0 = .ok (.iconst 2, 1) := lw_dr lw_d_cX3_leastFor_0 0 rfl
theorem dX3_leastFor_1 : decode cX3_leastFor 1 = .ok (.aload_n 1, 1) := lw_dr lw_d_cX3_leastFor_0 1 rfl
theorem dX3_leastFor_2 : decode cX3_leastFor 2 = .ok (.getfield 77, 3) := lw_dr lw_d_cX3_leastFor_0 2 rfl
theorem dX3_leastFor_5 : decode cX3_leastFor 5 = .ok (.imul, 1) := lw_dr lw_d_cX3_leastFor_0 3 rfl
theorem dX3_leastFor_6 : decode cX3_leastFor 6 = .ok (.istore 5, 2) := lw_dr lw_d_cX3_leastFor_0 4 rfl
theorem dX3_leastFor_8 : decode cX3_leastFor 8 = .ok (.iconst 0, 1) := lw_dr lw_d_cX3_leastFor_0 5 rfl
theorem dX3_leastFor_9 : decode cX3_leastFor 9 = .ok (.istore 6, 2) := lw_dr lw_d_cX3_leastFor_0 6 rfl
theorem dX3_leastFor_11 : decode cX3_leastFor 11 = .ok (.iload 6, 2) := lw_dr lw_d_cX3_leastFor_0 7 rfl
theorem dX3_leastFor_13 : decode cX3_leastFor 13 = .ok (.aload_n 1, 1) := lw_dr lw_d_cX3_leastFor_0 8 rfl
theorem dX3_leastFor_14 : decode cX3_leastFor 14 = .ok (.getfield 79, 3) := lw_dr lw_d_cX3_leastFor_0 9 rfl
theorem dX3_leastFor_17 : decode cX3_leastFor 17 = .ok (.if_icmp .ge 28, 3) := lw_dr lw_d_cX3_leastFor_0 10 rfl
theorem dX3_leastFor_45 : decode cX3_leastFor 45 = .ok (.aload_n 0, 1) := lw_dr lw_d_cX3_leastFor_0 11 rfl
theorem dX3_leastFor_46 : decode cX3_leastFor 46 = .ok (.getfield 12, 3) := lw_dr lw_d_cX3_leastFor_0 12 rfl
theorem dX3_leastFor_49 : decode cX3_leastFor 49 = .ok (.invokevirtual 86, 3) := lw_dr lw_d_cX3_leastFor_0 13 rfl
theorem dX3_leastFor_52 : decode cX3_leastFor 52 = .ok (.ldc2_w 89, 3) := lw_dr lw_d_cX3_leastFor_0 14 rfl
theorem dX3_leastFor_55 : decode cX3_leastFor 55 = .ok (.lstore 6, 2) := lw_dr lw_d_cX3_leastFor_0 15 rfl
theorem dX3_leastFor_57 : decode cX3_leastFor 57 = .ok (.aload_n 0, 1) := lw_dr lw_d_cX3_leastFor_0 16 rfl
theorem dX3_leastFor_58 : decode cX3_leastFor 58 = .ok (.getfield 12, 3) := lw_dr lw_d_cX3_leastFor_0 17 rfl
theorem dX3_leastFor_61 : decode cX3_leastFor 61 = .ok (.invokevirtual 91, 3) := lw_dr lw_d_cX3_leastFor_0 18 rfl
theorem dX3_leastFor_64 : decode cX3_leastFor 64 = .ok (.istore 8, 2) := lw_dr lw_d_cX3_leastFor_0 19 rfl
theorem dX3_leastFor_66 : decode cX3_leastFor 66 = .ok (.iconst 0, 1) := lw_dr lw_d_cX3_leastFor_0 20 rfl
theorem dX3_leastFor_67 : decode cX3_leastFor 67 = .ok (.istore 9, 2) := lw_dr lw_d_cX3_leastFor_0 21 rfl
theorem dX3_leastFor_69 : decode cX3_leastFor 69 = .ok (.iload 9, 2) := lw_dr lw_d_cX3_leastFor_0 22 rfl
theorem dX3_leastFor_71 : decode cX3_leastFor 71 = .ok (.iload 8, 2) := lw_dr lw_d_cX3_leastFor_0 23 rfl
theorem dX3_leastFor_73 : decode cX3_leastFor 73 = .ok (.if_icmp .ge 62, 3) := lw_dr lw_d_cX3_leastFor_0 24 rfl
theorem dX3_leastFor_135 : decode cX3_leastFor 135 = .ok (.lload 6, 2) := lw_dr lw_d_cX3_leastFor_0 25 rfl
theorem dX3_leastFor_137 : decode cX3_leastFor 137 = .ok (.lreturn, 1) := lw_dr lw_d_cX3_leastFor_0 26 rfl
theorem dX3_leastFor_76 : decode cX3_leastFor 76 = .ok (.lload 6, 2) := lw_dr lw_d_cX3_leastFor_0 27 rfl
theorem dX3_leastFor_78 : decode cX3_leastFor 78 = .ok (.lload_n 3, 1) := lw_dr lw_d_cX3_leastFor_0 28 rfl
theorem dX3_leastFor_79 : decode cX3_leastFor 79 = .ok (.lcmp, 1) := lw_dr lw_d_cX3_leastFor_0 29 rfl
theorem dX3_leastFor_80 : decode cX3_leastFor 80 = .ok (.ifCond .le 55, 3) := lw_dr lw_d_cX3_leastFor_0 30 rfl
theorem dX3_leastFor_83 : decode cX3_leastFor 83 = .ok (.aload_n 0, 1) := lw_dr lw_d_cX3_leastFor_0 31 rfl
theorem dX3_leastFor_84 : decode cX3_leastFor 84 = .ok (.getfield 12, 3) := lw_dr lw_d_cX3_leastFor_0 32 rfl
theorem dX3_leastFor_87 : decode cX3_leastFor 87 = .ok (.iconst 3, 1) := lw_dr lw_d_cX3_leastFor_0 33 rfl
theorem dX3_leastFor_88 : decode cX3_leastFor 88 = .ok (.invokevirtual 95, 3) := lw_dr lw_d_cX3_leastFor_0 34 rfl
theorem dX3_leastFor_91 : decode cX3_leastFor 91 = .ok (.istore 10, 2) := lw_dr lw_d_cX3_leastFor_0 35 rfl
theorem dX3_leastFor_93 : decode cX3_leastFor 93 = .ok (.aload_n 0, 1) := lw_dr lw_d_cX3_leastFor_0 36 rfl
theorem dX3_leastFor_94 : decode cX3_leastFor 94 = .ok (.getfield 12, 3) := lw_dr lw_d_cX3_leastFor_0 37 rfl
theorem dX3_leastFor_97 : decode cX3_leastFor 97 = .ok (.iload 10, 2) := lw_dr lw_d_cX3_leastFor_0 38 rfl
theorem dX3_leastFor_99 : decode cX3_leastFor 99 = .ok (.invokevirtual 99, 3) := lw_dr lw_d_cX3_leastFor_0 39 rfl
theorem lw_d_cX3_leastFor_102 : lw_dl cX3_leastFor [(102, .lstore 11, 2), (104, .lload 11, 2), (106, .lload 6, 2), (108, .lcmp, 1), (109, .ifCond .ge 13, 3), (122, .aload_n 0, 1), (123, .getfield 12, 3), (126, .invokevirtual 107, 3), (129, .iinc 9 1, 3), (132, .goto (-63), 3), (112, .lload 11, 2), (114, .lstore 6, 2), (116, .aload_n 0, 1), (117, .iload 10, 2), (119, .invokevirtual 103, 3), (20, .aload_n 0, 1), (21, .getfield 12, 3), (24, .iload 6, 2), (26, .aload_n 2, 1), (27, .iload 6, 2), (29, .iaload, 1), (30, .iload 5, 2), (32, .isub, 1), (33, .iload 5, 2), (35, .iconst 3, 1), (36, .invokevirtual 82, 3), (39, .iinc 6 1, 3), (42, .goto (-31), 3)] = true := by decide +kernel
theorem dX3_leastFor_102 : decode cX3_leastFor 102 = .ok (.lstore 11, 2) := lw_dr lw_d_cX3_leastFor_102 0 rfl
theorem dX3_leastFor_104 : decode cX3_leastFor 104 = .ok (.lload 11, 2) := lw_dr lw_d_cX3_leastFor_102 1 rfl
theorem dX3_leastFor_106 : decode cX3_leastFor 106 = .ok (.lload 6, 2) := lw_dr lw_d_cX3_leastFor_102 2 rfl
theorem dX3_leastFor_108 : decode cX3_leastFor 108 = .ok (.lcmp, 1) := lw_dr lw_d_cX3_leastFor_102 3 rfl
theorem dX3_leastFor_109 : decode cX3_leastFor 109 = .ok (.ifCond .ge 13, 3) := lw_dr lw_d_cX3_leastFor_102 4 rfl
theorem dX3_leastFor_122 : decode cX3_leastFor 122 = .ok (.aload_n 0, 1) := lw_dr lw_d_cX3_leastFor_102 5 rfl
theorem dX3_leastFor_123 : decode cX3_leastFor 123 = .ok (.getfield 12, 3) := lw_dr lw_d_cX3_leastFor_102 6 rfl
theorem dX3_leastFor_126 : decode cX3_leastFor 126 = .ok (.invokevirtual 107, 3) := lw_dr lw_d_cX3_leastFor_102 7 rfl
theorem dX3_leastFor_129 : decode cX3_leastFor 129 = .ok (.iinc 9 1, 3) := lw_dr lw_d_cX3_leastFor_102 8 rfl
theorem dX3_leastFor_132 : decode cX3_leastFor 132 = .ok (.goto (-63), 3) := lw_dr lw_d_cX3_leastFor_102 9 rfl
theorem dX3_leastFor_112 : decode cX3_leastFor 112 = .ok (.lload 11, 2) := lw_dr lw_d_cX3_leastFor_102 10 rfl
theorem dX3_leastFor_114 : decode cX3_leastFor 114 = .ok (.lstore 6, 2) := lw_dr lw_d_cX3_leastFor_102 11 rfl
theorem dX3_leastFor_116 : decode cX3_leastFor 116 = .ok (.aload_n 0, 1) := lw_dr lw_d_cX3_leastFor_102 12 rfl
theorem dX3_leastFor_117 : decode cX3_leastFor 117 = .ok (.iload 10, 2) := lw_dr lw_d_cX3_leastFor_102 13 rfl
theorem dX3_leastFor_119 : decode cX3_leastFor 119 = .ok (.invokevirtual 103, 3) := lw_dr lw_d_cX3_leastFor_102 14 rfl
theorem dX3_leastFor_20 : decode cX3_leastFor 20 = .ok (.aload_n 0, 1) := lw_dr lw_d_cX3_leastFor_102 15 rfl
theorem dX3_leastFor_21 : decode cX3_leastFor 21 = .ok (.getfield 12, 3) := lw_dr lw_d_cX3_leastFor_102 16 rfl
theorem dX3_leastFor_24 : decode cX3_leastFor 24 = .ok (.iload 6, 2) := lw_dr lw_d_cX3_leastFor_102 17 rfl
theorem dX3_leastFor_26 : decode cX3_leastFor 26 = .ok (.aload_n 2, 1) := lw_dr lw_d_cX3_leastFor_102 18 rfl
theorem dX3_leastFor_27 : decode cX3_leastFor 27 = .ok (.iload 6, 2) := lw_dr lw_d_cX3_leastFor_102 19 rfl
theorem dX3_leastFor_29 : decode cX3_leastFor 29 = .ok (.iaload, 1) := lw_dr lw_d_cX3_leastFor_102 20 rfl
theorem dX3_leastFor_30 : decode cX3_leastFor 30 = .ok (.iload 5, 2) := lw_dr lw_d_cX3_leastFor_102 21 rfl
theorem dX3_leastFor_32 : decode cX3_leastFor 32 = .ok (.isub, 1) := lw_dr lw_d_cX3_leastFor_102 22 rfl
theorem dX3_leastFor_33 : decode cX3_leastFor 33 = .ok (.iload 5, 2) := lw_dr lw_d_cX3_leastFor_102 23 rfl
theorem dX3_leastFor_35 : decode cX3_leastFor 35 = .ok (.iconst 3, 1) := lw_dr lw_d_cX3_leastFor_102 24 rfl
theorem dX3_leastFor_36 : decode cX3_leastFor 36 = .ok (.invokevirtual 82, 3) := lw_dr lw_d_cX3_leastFor_102 25 rfl
theorem dX3_leastFor_39 : decode cX3_leastFor 39 = .ok (.iinc 6 1, 3) := lw_dr lw_d_cX3_leastFor_102 26 rfl
theorem dX3_leastFor_42 : decode cX3_leastFor 42 = .ok (.goto (-31), 3) := lw_dr lw_d_cX3_leastFor_102 27 rfl
theorem lw_d_cX3_keepFound_0 : lw_dl cX3_keepFound [(0, .iconst 0, 1), (1, .istore_n 2, 1), (2, .iload_n 2, 1), (3, .aload_n 0, 1), (4, .getfield 12, 3), (7, .getfield 110, 3), (10, .if_icmp .ge 26, 3), (36, .aload_n 0, 1), (37, .getfield 22, 3), (40, .aload_n 0, 1), (41, .getfield 12, 3), (44, .getfield 110, 3), (47, .iload_n 1, 1), (48, .iconst 1, 1), (49, .isub, 1), (50, .iastore, 1), (51, .return_, 1), (13, .aload_n 0, 1), (14, .getfield 22, 3), (17, .iload_n 2, 1), (18, .aload_n 0, 1), (19, .getfield 12, 3), (22, .getfield 113, 3), (25, .iload_n 2, 1), (26, .iaload, 1), (27, .iconst 1, 1), (28, .isub, 1), (29, .iastore, 1), (30, .iinc 2 1, 3), (33, .goto (-31), 3)] = true := by decide +kernel
theorem dX3_keepFound_0 : decode cX3_keepFound 0 = .ok (.iconst 0, 1) := lw_dr lw_d_cX3_keepFound_0 0 rfl
theorem dX3_keepFound_1 : decode cX3_keepFound 1 = .ok (.istore_n 2, 1) := lw_dr lw_d_cX3_keepFound_0 1 rfl
theorem dX3_keepFound_2 : decode cX3_keepFound 2 = .ok (.iload_n 2, 1) := lw_dr lw_d_cX3_keepFound_0 2 rfl
theorem dX3_keepFound_3 : decode cX3_keepFound 3 = .ok (.aload_n 0, 1) := lw_dr lw_d_cX3_keepFound_0 3 rfl
theorem dX3_keepFound_4 : decode cX3_keepFound 4 = .ok (.getfield 12, 3) := lw_dr lw_d_cX3_keepFound_0 4 rfl
theorem dX3_keepFound_7 : decode cX3_keepFound 7 = .ok (.getfield 110, 3) := lw_dr lw_d_cX3_keepFound_0 5 rfl
theorem dX3_keepFound_10 : decode cX3_keepFound 10 = .ok (.if_icmp .ge 26, 3) := lw_dr lw_d_cX3_keepFound_0 6 rfl
theorem dX3_keepFound_36 : decode cX3_keepFound 36 = .ok (.aload_n 0, 1) := lw_dr lw_d_cX3_keepFound_0 7 rfl
theorem dX3_keepFound_37 : decode cX3_keepFound 37 = .ok (.getfield 22, 3) := lw_dr lw_d_cX3_keepFound_0 8 rfl
theorem dX3_keepFound_40 : decode cX3_keepFound 40 = .ok (.aload_n 0, 1) := lw_dr lw_d_cX3_keepFound_0 9 rfl
theorem dX3_keepFound_41 : decode cX3_keepFound 41 = .ok (.getfield 12, 3) := lw_dr lw_d_cX3_keepFound_0 10 rfl
theorem dX3_keepFound_44 : decode cX3_keepFound 44 = .ok (.getfield 110, 3) := lw_dr lw_d_cX3_keepFound_0 11 rfl
theorem dX3_keepFound_47 : decode cX3_keepFound 47 = .ok (.iload_n 1, 1) := lw_dr lw_d_cX3_keepFound_0 12 rfl
theorem dX3_keepFound_48 : decode cX3_keepFound 48 = .ok (.iconst 1, 1) := lw_dr lw_d_cX3_keepFound_0 13 rfl
theorem dX3_keepFound_49 : decode cX3_keepFound 49 = .ok (.isub, 1) := lw_dr lw_d_cX3_keepFound_0 14 rfl
theorem dX3_keepFound_50 : decode cX3_keepFound 50 = .ok (.iastore, 1) := lw_dr lw_d_cX3_keepFound_0 15 rfl
theorem dX3_keepFound_51 : decode cX3_keepFound 51 = .ok (.return_, 1) := lw_dr lw_d_cX3_keepFound_0 16 rfl
theorem dX3_keepFound_13 : decode cX3_keepFound 13 = .ok (.aload_n 0, 1) := lw_dr lw_d_cX3_keepFound_0 17 rfl
theorem dX3_keepFound_14 : decode cX3_keepFound 14 = .ok (.getfield 22, 3) := lw_dr lw_d_cX3_keepFound_0 18 rfl
theorem dX3_keepFound_17 : decode cX3_keepFound 17 = .ok (.iload_n 2, 1) := lw_dr lw_d_cX3_keepFound_0 19 rfl
theorem dX3_keepFound_18 : decode cX3_keepFound 18 = .ok (.aload_n 0, 1) := lw_dr lw_d_cX3_keepFound_0 20 rfl
theorem dX3_keepFound_19 : decode cX3_keepFound 19 = .ok (.getfield 12, 3) := lw_dr lw_d_cX3_keepFound_0 21 rfl
theorem dX3_keepFound_22 : decode cX3_keepFound 22 = .ok (.getfield 113, 3) := lw_dr lw_d_cX3_keepFound_0 22 rfl
theorem dX3_keepFound_25 : decode cX3_keepFound 25 = .ok (.iload_n 2, 1) := lw_dr lw_d_cX3_keepFound_0 23 rfl
theorem dX3_keepFound_26 : decode cX3_keepFound 26 = .ok (.iaload, 1) := lw_dr lw_d_cX3_keepFound_0 24 rfl
theorem dX3_keepFound_27 : decode cX3_keepFound 27 = .ok (.iconst 1, 1) := lw_dr lw_d_cX3_keepFound_0 25 rfl
theorem dX3_keepFound_28 : decode cX3_keepFound 28 = .ok (.isub, 1) := lw_dr lw_d_cX3_keepFound_0 26 rfl
theorem dX3_keepFound_29 : decode cX3_keepFound 29 = .ok (.iastore, 1) := lw_dr lw_d_cX3_keepFound_0 27 rfl
theorem dX3_keepFound_30 : decode cX3_keepFound 30 = .ok (.iinc 2 1, 3) := lw_dr lw_d_cX3_keepFound_0 28 rfl
theorem dX3_keepFound_33 : decode cX3_keepFound 33 = .ok (.goto (-31), 3) := lw_dr lw_d_cX3_keepFound_0 29 rfl
theorem lw_d_cX3_tryFound_0 : lw_dl cX3_tryFound [(0, .iconst 0, 1), (1, .istore_n 2, 1), (2, .iload_n 2, 1), (3, .aload_n 1, 1), (4, .getfield 79, 3), (7, .if_icmp .ge 65, 3), (72, .return_, 1), (10, .aload_n 0, 1), (11, .getfield 28, 3), (14, .iload_n 2, 1), (15, .iaload, 1), (16, .aload_n 0, 1), (17, .getfield 22, 3), (20, .iload_n 2, 1), (21, .iaload, 1), (22, .if_icmp .eq 44, 3), (66, .iinc 2 1, 3), (69, .goto (-67), 3), (25, .aload_n 0, 1), (26, .iload_n 2, 1), (27, .ldc2_w 175, 3), (30, .aload_n 1, 1), (31, .getfield 77, 3), (34, .i2l, 1), (35, .lmul, 1), (36, .aload_n 0, 1), (37, .getfield 22, 3), (40, .iload_n 2, 1), (41, .iaload, 1), (42, .aload_n 0, 1), (43, .getfield 28, 3), (46, .iload_n 2, 1), (47, .iaload, 1), (48, .isub, 1), (49, .i2l, 1), (50, .lmul, 1), (51, .invokevirtual 171, 3), (54, .aload_n 0, 1), (55, .getfield 28, 3), (58, .iload_n 2, 1)] = true := by decide +kernel
theorem dX3_tryFound_0 : decode cX3_tryFound 0 = .ok (.iconst 0, 1) := lw_dr lw_d_cX3_tryFound_0 0 rfl
theorem dX3_tryFound_1 : decode cX3_tryFound 1 = .ok (.istore_n 2, 1) := lw_dr lw_d_cX3_tryFound_0 1 rfl
theorem dX3_tryFound_2 : decode cX3_tryFound 2 = .ok (.iload_n 2, 1) := lw_dr lw_d_cX3_tryFound_0 2 rfl
theorem dX3_tryFound_3 : decode cX3_tryFound 3 = .ok (.aload_n 1, 1) := lw_dr lw_d_cX3_tryFound_0 3 rfl
theorem dX3_tryFound_4 : decode cX3_tryFound 4 = .ok (.getfield 79, 3) := lw_dr lw_d_cX3_tryFound_0 4 rfl
theorem dX3_tryFound_7 : decode cX3_tryFound 7 = .ok (.if_icmp .ge 65, 3) := lw_dr lw_d_cX3_tryFound_0 5 rfl
theorem dX3_tryFound_72 : decode cX3_tryFound 72 = .ok (.return_, 1) := lw_dr lw_d_cX3_tryFound_0 6 rfl
theorem dX3_tryFound_10 : decode cX3_tryFound 10 = .ok (.aload_n 0, 1) := lw_dr lw_d_cX3_tryFound_0 7 rfl
theorem dX3_tryFound_11 : decode cX3_tryFound 11 = .ok (.getfield 28, 3) := lw_dr lw_d_cX3_tryFound_0 8 rfl
theorem dX3_tryFound_14 : decode cX3_tryFound 14 = .ok (.iload_n 2, 1) := lw_dr lw_d_cX3_tryFound_0 9 rfl
theorem dX3_tryFound_15 : decode cX3_tryFound 15 = .ok (.iaload, 1) := lw_dr lw_d_cX3_tryFound_0 10 rfl
theorem dX3_tryFound_16 : decode cX3_tryFound 16 = .ok (.aload_n 0, 1) := lw_dr lw_d_cX3_tryFound_0 11 rfl
theorem dX3_tryFound_17 : decode cX3_tryFound 17 = .ok (.getfield 22, 3) := lw_dr lw_d_cX3_tryFound_0 12 rfl
theorem dX3_tryFound_20 : decode cX3_tryFound 20 = .ok (.iload_n 2, 1) := lw_dr lw_d_cX3_tryFound_0 13 rfl
theorem dX3_tryFound_21 : decode cX3_tryFound 21 = .ok (.iaload, 1) := lw_dr lw_d_cX3_tryFound_0 14 rfl
theorem dX3_tryFound_22 : decode cX3_tryFound 22 = .ok (.if_icmp .eq 44, 3) := lw_dr lw_d_cX3_tryFound_0 15 rfl
theorem dX3_tryFound_66 : decode cX3_tryFound 66 = .ok (.iinc 2 1, 3) := lw_dr lw_d_cX3_tryFound_0 16 rfl
theorem dX3_tryFound_69 : decode cX3_tryFound 69 = .ok (.goto (-67), 3) := lw_dr lw_d_cX3_tryFound_0 17 rfl
theorem dX3_tryFound_25 : decode cX3_tryFound 25 = .ok (.aload_n 0, 1) := lw_dr lw_d_cX3_tryFound_0 18 rfl
theorem dX3_tryFound_26 : decode cX3_tryFound 26 = .ok (.iload_n 2, 1) := lw_dr lw_d_cX3_tryFound_0 19 rfl
theorem dX3_tryFound_27 : decode cX3_tryFound 27 = .ok (.ldc2_w 175, 3) := lw_dr lw_d_cX3_tryFound_0 20 rfl
theorem dX3_tryFound_30 : decode cX3_tryFound 30 = .ok (.aload_n 1, 1) := lw_dr lw_d_cX3_tryFound_0 21 rfl
theorem dX3_tryFound_31 : decode cX3_tryFound 31 = .ok (.getfield 77, 3) := lw_dr lw_d_cX3_tryFound_0 22 rfl
theorem dX3_tryFound_34 : decode cX3_tryFound 34 = .ok (.i2l, 1) := lw_dr lw_d_cX3_tryFound_0 23 rfl
theorem dX3_tryFound_35 : decode cX3_tryFound 35 = .ok (.lmul, 1) := lw_dr lw_d_cX3_tryFound_0 24 rfl
theorem dX3_tryFound_36 : decode cX3_tryFound 36 = .ok (.aload_n 0, 1) := lw_dr lw_d_cX3_tryFound_0 25 rfl
theorem dX3_tryFound_37 : decode cX3_tryFound 37 = .ok (.getfield 22, 3) := lw_dr lw_d_cX3_tryFound_0 26 rfl
theorem dX3_tryFound_40 : decode cX3_tryFound 40 = .ok (.iload_n 2, 1) := lw_dr lw_d_cX3_tryFound_0 27 rfl
theorem dX3_tryFound_41 : decode cX3_tryFound 41 = .ok (.iaload, 1) := lw_dr lw_d_cX3_tryFound_0 28 rfl
theorem dX3_tryFound_42 : decode cX3_tryFound 42 = .ok (.aload_n 0, 1) := lw_dr lw_d_cX3_tryFound_0 29 rfl
theorem dX3_tryFound_43 : decode cX3_tryFound 43 = .ok (.getfield 28, 3) := lw_dr lw_d_cX3_tryFound_0 30 rfl
theorem dX3_tryFound_46 : decode cX3_tryFound 46 = .ok (.iload_n 2, 1) := lw_dr lw_d_cX3_tryFound_0 31 rfl
theorem dX3_tryFound_47 : decode cX3_tryFound 47 = .ok (.iaload, 1) := lw_dr lw_d_cX3_tryFound_0 32 rfl
theorem dX3_tryFound_48 : decode cX3_tryFound 48 = .ok (.isub, 1) := lw_dr lw_d_cX3_tryFound_0 33 rfl
theorem dX3_tryFound_49 : decode cX3_tryFound 49 = .ok (.i2l, 1) := lw_dr lw_d_cX3_tryFound_0 34 rfl
theorem dX3_tryFound_50 : decode cX3_tryFound 50 = .ok (.lmul, 1) := lw_dr lw_d_cX3_tryFound_0 35 rfl
theorem dX3_tryFound_51 : decode cX3_tryFound 51 = .ok (.invokevirtual 171, 3) := lw_dr lw_d_cX3_tryFound_0 36 rfl
theorem dX3_tryFound_54 : decode cX3_tryFound 54 = .ok (.aload_n 0, 1) := lw_dr lw_d_cX3_tryFound_0 37 rfl
theorem dX3_tryFound_55 : decode cX3_tryFound 55 = .ok (.getfield 28, 3) := lw_dr lw_d_cX3_tryFound_0 38 rfl
theorem dX3_tryFound_58 : decode cX3_tryFound 58 = .ok (.iload_n 2, 1) := lw_dr lw_d_cX3_tryFound_0 39 rfl
theorem lw_d_cX3_tryFound_59 : lw_dl cX3_tryFound [(59, .aload_n 0, 1), (60, .getfield 22, 3), (63, .iload_n 2, 1), (64, .iaload, 1), (65, .iastore, 1)] = true := by decide +kernel
theorem dX3_tryFound_59 : decode cX3_tryFound 59 = .ok (.aload_n 0, 1) := lw_dr lw_d_cX3_tryFound_59 0 rfl
theorem dX3_tryFound_60 : decode cX3_tryFound 60 = .ok (.getfield 22, 3) := lw_dr lw_d_cX3_tryFound_59 1 rfl
theorem dX3_tryFound_63 : decode cX3_tryFound 63 = .ok (.iload_n 2, 1) := lw_dr lw_d_cX3_tryFound_59 2 rfl
theorem dX3_tryFound_64 : decode cX3_tryFound 64 = .ok (.iaload, 1) := lw_dr lw_d_cX3_tryFound_59 3 rfl
theorem dX3_tryFound_65 : decode cX3_tryFound 65 = .ok (.iastore, 1) := lw_dr lw_d_cX3_tryFound_59 4 rfl
theorem lw_d_cX3_leastOfAll_0 : lw_dl cX3_leastOfAll [(0, .aload_n 0, 1), (1, .getfield 45, 3), (4, .lconst 0, 1), (5, .lcmp, 1), (6, .ifCond .lt 8, 3), (14, .iconst 3, 1), (15, .aload_n 1, 1), (16, .getfield 77, 3), (19, .imul, 1), (20, .istore_n 2, 1), (21, .aload_n 0, 1), (22, .getfield 12, 3), (25, .aload_n 1, 1), (26, .invokevirtual 51, 3), (29, .aload_n 0, 1), (30, .getfield 12, 3), (33, .iconst 1, 1), (34, .iload_n 2, 1), (35, .isub, 1), (36, .iconst 2, 1), (37, .iload_n 2, 1), (38, .invokevirtual 116, 3), (41, .aload_n 0, 1), (42, .getfield 12, 3), (45, .invokevirtual 86, 3), (48, .aload_n 1, 1), (49, .invokestatic 120, 3), (52, .lstore_n 3, 1), (53, .aload_n 1, 1), (54, .getfield 77, 3), (57, .iconst 2, 1), (58, .irem, 1), (59, .iconst 1, 1), (60, .if_icmp .ne 7, 3), (67, .ldc2_w 89, 3), (70, .lstore 5, 2), (72, .aload_n 0, 1), (73, .getfield 12, 3), (76, .invokevirtual 91, 3), (79, .iconst 1, 1)] = true := by decide +kernel
theorem dX3_leastOfAll_0 : decode cX3_leastOfAll 0 = .ok (.aload_n 0, 1) := lw_dr lw_d_cX3_leastOfAll_0 0 rfl
theorem dX3_leastOfAll_1 : decode cX3_leastOfAll 1 = .ok (.getfield 45, 3) := lw_dr lw_d_cX3_leastOfAll_0 1 rfl
theorem dX3_leastOfAll_4 : decode cX3_leastOfAll 4 = .ok (.lconst 0, 1) := lw_dr lw_d_cX3_leastOfAll_0 2 rfl
theorem dX3_leastOfAll_5 : decode cX3_leastOfAll 5 = .ok (.lcmp, 1) := lw_dr lw_d_cX3_leastOfAll_0 3 rfl
theorem dX3_leastOfAll_6 : decode cX3_leastOfAll 6 = .ok (.ifCond .lt 8, 3) := lw_dr lw_d_cX3_leastOfAll_0 4 rfl
theorem dX3_leastOfAll_14 : decode cX3_leastOfAll 14 = .ok (.iconst 3, 1) := lw_dr lw_d_cX3_leastOfAll_0 5 rfl
theorem dX3_leastOfAll_15 : decode cX3_leastOfAll 15 = .ok (.aload_n 1, 1) := lw_dr lw_d_cX3_leastOfAll_0 6 rfl
theorem dX3_leastOfAll_16 : decode cX3_leastOfAll 16 = .ok (.getfield 77, 3) := lw_dr lw_d_cX3_leastOfAll_0 7 rfl
theorem dX3_leastOfAll_19 : decode cX3_leastOfAll 19 = .ok (.imul, 1) := lw_dr lw_d_cX3_leastOfAll_0 8 rfl
theorem dX3_leastOfAll_20 : decode cX3_leastOfAll 20 = .ok (.istore_n 2, 1) := lw_dr lw_d_cX3_leastOfAll_0 9 rfl
theorem dX3_leastOfAll_21 : decode cX3_leastOfAll 21 = .ok (.aload_n 0, 1) := lw_dr lw_d_cX3_leastOfAll_0 10 rfl
theorem dX3_leastOfAll_22 : decode cX3_leastOfAll 22 = .ok (.getfield 12, 3) := lw_dr lw_d_cX3_leastOfAll_0 11 rfl
theorem dX3_leastOfAll_25 : decode cX3_leastOfAll 25 = .ok (.aload_n 1, 1) := lw_dr lw_d_cX3_leastOfAll_0 12 rfl
theorem dX3_leastOfAll_26 : decode cX3_leastOfAll 26 = .ok (.invokevirtual 51, 3) := lw_dr lw_d_cX3_leastOfAll_0 13 rfl
theorem dX3_leastOfAll_29 : decode cX3_leastOfAll 29 = .ok (.aload_n 0, 1) := lw_dr lw_d_cX3_leastOfAll_0 14 rfl
theorem dX3_leastOfAll_30 : decode cX3_leastOfAll 30 = .ok (.getfield 12, 3) := lw_dr lw_d_cX3_leastOfAll_0 15 rfl
theorem dX3_leastOfAll_33 : decode cX3_leastOfAll 33 = .ok (.iconst 1, 1) := lw_dr lw_d_cX3_leastOfAll_0 16 rfl
theorem dX3_leastOfAll_34 : decode cX3_leastOfAll 34 = .ok (.iload_n 2, 1) := lw_dr lw_d_cX3_leastOfAll_0 17 rfl
theorem dX3_leastOfAll_35 : decode cX3_leastOfAll 35 = .ok (.isub, 1) := lw_dr lw_d_cX3_leastOfAll_0 18 rfl
theorem dX3_leastOfAll_36 : decode cX3_leastOfAll 36 = .ok (.iconst 2, 1) := lw_dr lw_d_cX3_leastOfAll_0 19 rfl
theorem dX3_leastOfAll_37 : decode cX3_leastOfAll 37 = .ok (.iload_n 2, 1) := lw_dr lw_d_cX3_leastOfAll_0 20 rfl
theorem dX3_leastOfAll_38 : decode cX3_leastOfAll 38 = .ok (.invokevirtual 116, 3) := lw_dr lw_d_cX3_leastOfAll_0 21 rfl
theorem dX3_leastOfAll_41 : decode cX3_leastOfAll 41 = .ok (.aload_n 0, 1) := lw_dr lw_d_cX3_leastOfAll_0 22 rfl
theorem dX3_leastOfAll_42 : decode cX3_leastOfAll 42 = .ok (.getfield 12, 3) := lw_dr lw_d_cX3_leastOfAll_0 23 rfl
theorem dX3_leastOfAll_45 : decode cX3_leastOfAll 45 = .ok (.invokevirtual 86, 3) := lw_dr lw_d_cX3_leastOfAll_0 24 rfl
theorem dX3_leastOfAll_48 : decode cX3_leastOfAll 48 = .ok (.aload_n 1, 1) := lw_dr lw_d_cX3_leastOfAll_0 25 rfl
theorem dX3_leastOfAll_49 : decode cX3_leastOfAll 49 = .ok (.invokestatic 120, 3) := lw_dr lw_d_cX3_leastOfAll_0 26 rfl
theorem dX3_leastOfAll_52 : decode cX3_leastOfAll 52 = .ok (.lstore_n 3, 1) := lw_dr lw_d_cX3_leastOfAll_0 27 rfl
theorem dX3_leastOfAll_53 : decode cX3_leastOfAll 53 = .ok (.aload_n 1, 1) := lw_dr lw_d_cX3_leastOfAll_0 28 rfl
theorem dX3_leastOfAll_54 : decode cX3_leastOfAll 54 = .ok (.getfield 77, 3) := lw_dr lw_d_cX3_leastOfAll_0 29 rfl
theorem dX3_leastOfAll_57 : decode cX3_leastOfAll 57 = .ok (.iconst 2, 1) := lw_dr lw_d_cX3_leastOfAll_0 30 rfl
theorem dX3_leastOfAll_58 : decode cX3_leastOfAll 58 = .ok (.irem, 1) := lw_dr lw_d_cX3_leastOfAll_0 31 rfl
theorem dX3_leastOfAll_59 : decode cX3_leastOfAll 59 = .ok (.iconst 1, 1) := lw_dr lw_d_cX3_leastOfAll_0 32 rfl
theorem dX3_leastOfAll_60 : decode cX3_leastOfAll 60 = .ok (.if_icmp .ne 7, 3) := lw_dr lw_d_cX3_leastOfAll_0 33 rfl
theorem dX3_leastOfAll_67 : decode cX3_leastOfAll 67 = .ok (.ldc2_w 89, 3) := lw_dr lw_d_cX3_leastOfAll_0 34 rfl
theorem dX3_leastOfAll_70 : decode cX3_leastOfAll 70 = .ok (.lstore 5, 2) := lw_dr lw_d_cX3_leastOfAll_0 35 rfl
theorem dX3_leastOfAll_72 : decode cX3_leastOfAll 72 = .ok (.aload_n 0, 1) := lw_dr lw_d_cX3_leastOfAll_0 36 rfl
theorem dX3_leastOfAll_73 : decode cX3_leastOfAll 73 = .ok (.getfield 12, 3) := lw_dr lw_d_cX3_leastOfAll_0 37 rfl
theorem dX3_leastOfAll_76 : decode cX3_leastOfAll 76 = .ok (.invokevirtual 91, 3) := lw_dr lw_d_cX3_leastOfAll_0 38 rfl
theorem dX3_leastOfAll_79 : decode cX3_leastOfAll 79 = .ok (.iconst 1, 1) := lw_dr lw_d_cX3_leastOfAll_0 39 rfl
theorem lw_d_cX3_leastOfAll_80 : lw_dl cX3_leastOfAll [(80, .iadd, 1), (81, .iconst 2, 1), (82, .idiv, 1), (83, .istore 7, 2), (85, .iconst 0, 1), (86, .istore 8, 2), (88, .iload 8, 2), (90, .iload 7, 2), (92, .if_icmp .ge 45, 3), (137, .aload_n 0, 1), (138, .lload 5, 2), (140, .putfield 45, 3), (143, .lload 5, 2), (145, .lreturn, 1), (95, .lload 5, 2), (97, .lload_n 3, 1), (98, .lcmp, 1), (99, .ifCond .le 38, 3), (102, .lload 5, 2), (104, .aload_n 0, 1), (105, .getfield 12, 3), (108, .aload_n 0, 1), (109, .getfield 12, 3), (112, .iload_n 2, 1), (113, .invokevirtual 95, 3), (116, .invokevirtual 99, 3), (119, .invokestatic 124, 3), (122, .lstore 5, 2), (124, .aload_n 0, 1), (125, .getfield 12, 3), (128, .invokevirtual 107, 3), (131, .iinc 8 1, 3), (134, .goto (-46), 3), (63, .lconst 0, 1), (64, .goto 6, 3), (9, .aload_n 0, 1), (10, .getfield 45, 3), (13, .lreturn, 1)] = true := by decide +kernel
theorem dX3_leastOfAll_80 : decode cX3_leastOfAll 80 = .ok (.iadd, 1) := lw_dr lw_d_cX3_leastOfAll_80 0 rfl
theorem dX3_leastOfAll_81 : decode cX3_leastOfAll 81 = .ok (.iconst 2, 1) := lw_dr lw_d_cX3_leastOfAll_80 1 rfl
theorem dX3_leastOfAll_82 : decode cX3_leastOfAll 82 = .ok (.idiv, 1) := lw_dr lw_d_cX3_leastOfAll_80 2 rfl
theorem dX3_leastOfAll_83 : decode cX3_leastOfAll 83 = .ok (.istore 7, 2) := lw_dr lw_d_cX3_leastOfAll_80 3 rfl
theorem dX3_leastOfAll_85 : decode cX3_leastOfAll 85 = .ok (.iconst 0, 1) := lw_dr lw_d_cX3_leastOfAll_80 4 rfl
theorem dX3_leastOfAll_86 : decode cX3_leastOfAll 86 = .ok (.istore 8, 2) := lw_dr lw_d_cX3_leastOfAll_80 5 rfl
theorem dX3_leastOfAll_88 : decode cX3_leastOfAll 88 = .ok (.iload 8, 2) := lw_dr lw_d_cX3_leastOfAll_80 6 rfl
theorem dX3_leastOfAll_90 : decode cX3_leastOfAll 90 = .ok (.iload 7, 2) := lw_dr lw_d_cX3_leastOfAll_80 7 rfl
theorem dX3_leastOfAll_92 : decode cX3_leastOfAll 92 = .ok (.if_icmp .ge 45, 3) := lw_dr lw_d_cX3_leastOfAll_80 8 rfl
theorem dX3_leastOfAll_137 : decode cX3_leastOfAll 137 = .ok (.aload_n 0, 1) := lw_dr lw_d_cX3_leastOfAll_80 9 rfl
theorem dX3_leastOfAll_138 : decode cX3_leastOfAll 138 = .ok (.lload 5, 2) := lw_dr lw_d_cX3_leastOfAll_80 10 rfl
theorem dX3_leastOfAll_140 : decode cX3_leastOfAll 140 = .ok (.putfield 45, 3) := lw_dr lw_d_cX3_leastOfAll_80 11 rfl
theorem dX3_leastOfAll_143 : decode cX3_leastOfAll 143 = .ok (.lload 5, 2) := lw_dr lw_d_cX3_leastOfAll_80 12 rfl
theorem dX3_leastOfAll_145 : decode cX3_leastOfAll 145 = .ok (.lreturn, 1) := lw_dr lw_d_cX3_leastOfAll_80 13 rfl
theorem dX3_leastOfAll_95 : decode cX3_leastOfAll 95 = .ok (.lload 5, 2) := lw_dr lw_d_cX3_leastOfAll_80 14 rfl
theorem dX3_leastOfAll_97 : decode cX3_leastOfAll 97 = .ok (.lload_n 3, 1) := lw_dr lw_d_cX3_leastOfAll_80 15 rfl
theorem dX3_leastOfAll_98 : decode cX3_leastOfAll 98 = .ok (.lcmp, 1) := lw_dr lw_d_cX3_leastOfAll_80 16 rfl
theorem dX3_leastOfAll_99 : decode cX3_leastOfAll 99 = .ok (.ifCond .le 38, 3) := lw_dr lw_d_cX3_leastOfAll_80 17 rfl
theorem dX3_leastOfAll_102 : decode cX3_leastOfAll 102 = .ok (.lload 5, 2) := lw_dr lw_d_cX3_leastOfAll_80 18 rfl
theorem dX3_leastOfAll_104 : decode cX3_leastOfAll 104 = .ok (.aload_n 0, 1) := lw_dr lw_d_cX3_leastOfAll_80 19 rfl
theorem dX3_leastOfAll_105 : decode cX3_leastOfAll 105 = .ok (.getfield 12, 3) := lw_dr lw_d_cX3_leastOfAll_80 20 rfl
theorem dX3_leastOfAll_108 : decode cX3_leastOfAll 108 = .ok (.aload_n 0, 1) := lw_dr lw_d_cX3_leastOfAll_80 21 rfl
theorem dX3_leastOfAll_109 : decode cX3_leastOfAll 109 = .ok (.getfield 12, 3) := lw_dr lw_d_cX3_leastOfAll_80 22 rfl
theorem dX3_leastOfAll_112 : decode cX3_leastOfAll 112 = .ok (.iload_n 2, 1) := lw_dr lw_d_cX3_leastOfAll_80 23 rfl
theorem dX3_leastOfAll_113 : decode cX3_leastOfAll 113 = .ok (.invokevirtual 95, 3) := lw_dr lw_d_cX3_leastOfAll_80 24 rfl
theorem dX3_leastOfAll_116 : decode cX3_leastOfAll 116 = .ok (.invokevirtual 99, 3) := lw_dr lw_d_cX3_leastOfAll_80 25 rfl
theorem dX3_leastOfAll_119 : decode cX3_leastOfAll 119 = .ok (.invokestatic 124, 3) := lw_dr lw_d_cX3_leastOfAll_80 26 rfl
theorem dX3_leastOfAll_122 : decode cX3_leastOfAll 122 = .ok (.lstore 5, 2) := lw_dr lw_d_cX3_leastOfAll_80 27 rfl
theorem dX3_leastOfAll_124 : decode cX3_leastOfAll 124 = .ok (.aload_n 0, 1) := lw_dr lw_d_cX3_leastOfAll_80 28 rfl
theorem dX3_leastOfAll_125 : decode cX3_leastOfAll 125 = .ok (.getfield 12, 3) := lw_dr lw_d_cX3_leastOfAll_80 29 rfl
theorem dX3_leastOfAll_128 : decode cX3_leastOfAll 128 = .ok (.invokevirtual 107, 3) := lw_dr lw_d_cX3_leastOfAll_80 30 rfl
theorem dX3_leastOfAll_131 : decode cX3_leastOfAll 131 = .ok (.iinc 8 1, 3) := lw_dr lw_d_cX3_leastOfAll_80 31 rfl
theorem dX3_leastOfAll_134 : decode cX3_leastOfAll 134 = .ok (.goto (-46), 3) := lw_dr lw_d_cX3_leastOfAll_80 32 rfl
theorem dX3_leastOfAll_63 : decode cX3_leastOfAll 63 = .ok (.lconst 0, 1) := lw_dr lw_d_cX3_leastOfAll_80 33 rfl
theorem dX3_leastOfAll_64 : decode cX3_leastOfAll 64 = .ok (.goto 6, 3) := lw_dr lw_d_cX3_leastOfAll_80 34 rfl
theorem dX3_leastOfAll_9 : decode cX3_leastOfAll 9 = .ok (.aload_n 0, 1) := lw_dr lw_d_cX3_leastOfAll_80 35 rfl
theorem dX3_leastOfAll_10 : decode cX3_leastOfAll 10 = .ok (.getfield 45, 3) := lw_dr lw_d_cX3_leastOfAll_80 36 rfl
theorem dX3_leastOfAll_13 : decode cX3_leastOfAll 13 = .ok (.lreturn, 1) := lw_dr lw_d_cX3_leastOfAll_80 37 rfl
theorem lw_d_cX3_leastThinkable_0 : lw_dl cX3_leastThinkable [(0, .iconst 0, 1), (1, .istore_n 1, 1), (2, .iconst 0, 1), (3, .istore_n 2, 1), (4, .iload_n 2, 1), (5, .aload_n 0, 1), (6, .getfield 130, 3), (9, .if_icmp .ge 57, 3), (66, .iload_n 1, 1), (67, .i2l, 1), (68, .lreturn, 1), (12, .aload_n 0, 1), (13, .getfield 77, 3), (16, .iconst 2, 1), (17, .irem, 1), (18, .ifCond .ne 48, 3), (21, .iconst 0, 1), (22, .istore_n 3, 1), (23, .iconst 0, 1), (24, .istore 4, 2), (26, .iload 4, 2), (28, .aload_n 0, 1), (29, .getfield 79, 3), (32, .if_icmp .ge 22, 3), (54, .iload_n 1, 1), (55, .iload_n 3, 1), (56, .iconst 1, 1), (57, .iand, 1), (58, .iadd, 1), (59, .istore_n 1, 1), (60, .iinc 2 1, 3), (63, .goto (-59), 3), (35, .iload_n 3, 1), (36, .aload_n 0, 1), (37, .getfield 133, 3), (40, .iload_n 2, 1), (41, .iload 4, 2), (43, .invokevirtual 137, 3), (46, .iadd, 1), (47, .istore_n 3, 1)] = true := by decide +kernel
theorem dX3_leastThinkable_0 : decode cX3_leastThinkable 0 = .ok (.iconst 0, 1) := lw_dr lw_d_cX3_leastThinkable_0 0 rfl
theorem dX3_leastThinkable_1 : decode cX3_leastThinkable 1 = .ok (.istore_n 1, 1) := lw_dr lw_d_cX3_leastThinkable_0 1 rfl
theorem dX3_leastThinkable_2 : decode cX3_leastThinkable 2 = .ok (.iconst 0, 1) := lw_dr lw_d_cX3_leastThinkable_0 2 rfl
theorem dX3_leastThinkable_3 : decode cX3_leastThinkable 3 = .ok (.istore_n 2, 1) := lw_dr lw_d_cX3_leastThinkable_0 3 rfl
theorem dX3_leastThinkable_4 : decode cX3_leastThinkable 4 = .ok (.iload_n 2, 1) := lw_dr lw_d_cX3_leastThinkable_0 4 rfl
theorem dX3_leastThinkable_5 : decode cX3_leastThinkable 5 = .ok (.aload_n 0, 1) := lw_dr lw_d_cX3_leastThinkable_0 5 rfl
theorem dX3_leastThinkable_6 : decode cX3_leastThinkable 6 = .ok (.getfield 130, 3) := lw_dr lw_d_cX3_leastThinkable_0 6 rfl
theorem dX3_leastThinkable_9 : decode cX3_leastThinkable 9 = .ok (.if_icmp .ge 57, 3) := lw_dr lw_d_cX3_leastThinkable_0 7 rfl
theorem dX3_leastThinkable_66 : decode cX3_leastThinkable 66 = .ok (.iload_n 1, 1) := lw_dr lw_d_cX3_leastThinkable_0 8 rfl
theorem dX3_leastThinkable_67 : decode cX3_leastThinkable 67 = .ok (.i2l, 1) := lw_dr lw_d_cX3_leastThinkable_0 9 rfl
theorem dX3_leastThinkable_68 : decode cX3_leastThinkable 68 = .ok (.lreturn, 1) := lw_dr lw_d_cX3_leastThinkable_0 10 rfl
theorem dX3_leastThinkable_12 : decode cX3_leastThinkable 12 = .ok (.aload_n 0, 1) := lw_dr lw_d_cX3_leastThinkable_0 11 rfl
theorem dX3_leastThinkable_13 : decode cX3_leastThinkable 13 = .ok (.getfield 77, 3) := lw_dr lw_d_cX3_leastThinkable_0 12 rfl
theorem dX3_leastThinkable_16 : decode cX3_leastThinkable 16 = .ok (.iconst 2, 1) := lw_dr lw_d_cX3_leastThinkable_0 13 rfl
theorem dX3_leastThinkable_17 : decode cX3_leastThinkable 17 = .ok (.irem, 1) := lw_dr lw_d_cX3_leastThinkable_0 14 rfl
theorem dX3_leastThinkable_18 : decode cX3_leastThinkable 18 = .ok (.ifCond .ne 48, 3) := lw_dr lw_d_cX3_leastThinkable_0 15 rfl
theorem dX3_leastThinkable_21 : decode cX3_leastThinkable 21 = .ok (.iconst 0, 1) := lw_dr lw_d_cX3_leastThinkable_0 16 rfl
theorem dX3_leastThinkable_22 : decode cX3_leastThinkable 22 = .ok (.istore_n 3, 1) := lw_dr lw_d_cX3_leastThinkable_0 17 rfl
theorem dX3_leastThinkable_23 : decode cX3_leastThinkable 23 = .ok (.iconst 0, 1) := lw_dr lw_d_cX3_leastThinkable_0 18 rfl
theorem dX3_leastThinkable_24 : decode cX3_leastThinkable 24 = .ok (.istore 4, 2) := lw_dr lw_d_cX3_leastThinkable_0 19 rfl
theorem dX3_leastThinkable_26 : decode cX3_leastThinkable 26 = .ok (.iload 4, 2) := lw_dr lw_d_cX3_leastThinkable_0 20 rfl
theorem dX3_leastThinkable_28 : decode cX3_leastThinkable 28 = .ok (.aload_n 0, 1) := lw_dr lw_d_cX3_leastThinkable_0 21 rfl
theorem dX3_leastThinkable_29 : decode cX3_leastThinkable 29 = .ok (.getfield 79, 3) := lw_dr lw_d_cX3_leastThinkable_0 22 rfl
theorem dX3_leastThinkable_32 : decode cX3_leastThinkable 32 = .ok (.if_icmp .ge 22, 3) := lw_dr lw_d_cX3_leastThinkable_0 23 rfl
theorem dX3_leastThinkable_54 : decode cX3_leastThinkable 54 = .ok (.iload_n 1, 1) := lw_dr lw_d_cX3_leastThinkable_0 24 rfl
theorem dX3_leastThinkable_55 : decode cX3_leastThinkable 55 = .ok (.iload_n 3, 1) := lw_dr lw_d_cX3_leastThinkable_0 25 rfl
theorem dX3_leastThinkable_56 : decode cX3_leastThinkable 56 = .ok (.iconst 1, 1) := lw_dr lw_d_cX3_leastThinkable_0 26 rfl
theorem dX3_leastThinkable_57 : decode cX3_leastThinkable 57 = .ok (.iand, 1) := lw_dr lw_d_cX3_leastThinkable_0 27 rfl
theorem dX3_leastThinkable_58 : decode cX3_leastThinkable 58 = .ok (.iadd, 1) := lw_dr lw_d_cX3_leastThinkable_0 28 rfl
theorem dX3_leastThinkable_59 : decode cX3_leastThinkable 59 = .ok (.istore_n 1, 1) := lw_dr lw_d_cX3_leastThinkable_0 29 rfl
theorem dX3_leastThinkable_60 : decode cX3_leastThinkable 60 = .ok (.iinc 2 1, 3) := lw_dr lw_d_cX3_leastThinkable_0 30 rfl
theorem dX3_leastThinkable_63 : decode cX3_leastThinkable 63 = .ok (.goto (-59), 3) := lw_dr lw_d_cX3_leastThinkable_0 31 rfl
theorem dX3_leastThinkable_35 : decode cX3_leastThinkable 35 = .ok (.iload_n 3, 1) := lw_dr lw_d_cX3_leastThinkable_0 32 rfl
theorem dX3_leastThinkable_36 : decode cX3_leastThinkable 36 = .ok (.aload_n 0, 1) := lw_dr lw_d_cX3_leastThinkable_0 33 rfl
theorem dX3_leastThinkable_37 : decode cX3_leastThinkable 37 = .ok (.getfield 133, 3) := lw_dr lw_d_cX3_leastThinkable_0 34 rfl
theorem dX3_leastThinkable_40 : decode cX3_leastThinkable 40 = .ok (.iload_n 2, 1) := lw_dr lw_d_cX3_leastThinkable_0 35 rfl
theorem dX3_leastThinkable_41 : decode cX3_leastThinkable 41 = .ok (.iload 4, 2) := lw_dr lw_d_cX3_leastThinkable_0 36 rfl
theorem dX3_leastThinkable_43 : decode cX3_leastThinkable 43 = .ok (.invokevirtual 137, 3) := lw_dr lw_d_cX3_leastThinkable_0 37 rfl
theorem dX3_leastThinkable_46 : decode cX3_leastThinkable 46 = .ok (.iadd, 1) := lw_dr lw_d_cX3_leastThinkable_0 38 rfl
theorem dX3_leastThinkable_47 : decode cX3_leastThinkable 47 = .ok (.istore_n 3, 1) := lw_dr lw_d_cX3_leastThinkable_0 39 rfl
theorem lw_d_cX3_leastThinkable_48 : lw_dl cX3_leastThinkable [(48, .iinc 4 1, 3), (51, .goto (-25), 3)] = true := by decide +kernel
theorem dX3_leastThinkable_48 : decode cX3_leastThinkable 48 = .ok (.iinc 4 1, 3) := lw_dr lw_d_cX3_leastThinkable_48 0 rfl
theorem dX3_leastThinkable_51 : decode cX3_leastThinkable 51 = .ok (.goto (-25), 3) := lw_dr lw_d_cX3_leastThinkable_48 1 rfl
theorem lw_d_cX3_putAhead_0 : lw_dl cX3_putAhead [(0, .aload_n 0, 1), (1, .getfield 12, 3), (4, .aload_n 1, 1), (5, .invokevirtual 51, 3), (8, .aload_n 0, 1), (9, .aload_n 1, 1), (10, .aload_n 2, 1), (11, .ldc2_w 43, 3), (14, .invokevirtual 55, 3), (17, .lstore_n 3, 1), (18, .lload_n 3, 1), (19, .ldc2_w 59, 3), (22, .aload_n 1, 1), (23, .getfield 61, 3), (26, .i2l, 1), (27, .lmul, 1), (28, .lcmp, 1)] = true := by decide +kernel
theorem dX3_putAhead_0 : decode cX3_putAhead 0 = .ok (.aload_n 0, 1) := lw_dr lw_d_cX3_putAhead_0 0 rfl
theorem dX3_putAhead_1 : decode cX3_putAhead 1 = .ok (.getfield 12, 3) := lw_dr lw_d_cX3_putAhead_0 1 rfl
theorem dX3_putAhead_4 : decode cX3_putAhead 4 = .ok (.aload_n 1, 1) := lw_dr lw_d_cX3_putAhead_0 2 rfl
theorem dX3_putAhead_5 : decode cX3_putAhead 5 = .ok (.invokevirtual 51, 3) := lw_dr lw_d_cX3_putAhead_0 3 rfl
theorem dX3_putAhead_8 : decode cX3_putAhead 8 = .ok (.aload_n 0, 1) := lw_dr lw_d_cX3_putAhead_0 4 rfl
theorem dX3_putAhead_9 : decode cX3_putAhead 9 = .ok (.aload_n 1, 1) := lw_dr lw_d_cX3_putAhead_0 5 rfl
theorem dX3_putAhead_10 : decode cX3_putAhead 10 = .ok (.aload_n 2, 1) := lw_dr lw_d_cX3_putAhead_0 6 rfl
theorem dX3_putAhead_11 : decode cX3_putAhead 11 = .ok (.ldc2_w 43, 3) := lw_dr lw_d_cX3_putAhead_0 7 rfl
theorem dX3_putAhead_14 : decode cX3_putAhead 14 = .ok (.invokevirtual 55, 3) := lw_dr lw_d_cX3_putAhead_0 8 rfl
theorem dX3_putAhead_17 : decode cX3_putAhead 17 = .ok (.lstore_n 3, 1) := lw_dr lw_d_cX3_putAhead_0 9 rfl
theorem dX3_putAhead_18 : decode cX3_putAhead 18 = .ok (.lload_n 3, 1) := lw_dr lw_d_cX3_putAhead_0 10 rfl
theorem dX3_putAhead_19 : decode cX3_putAhead 19 = .ok (.ldc2_w 59, 3) := lw_dr lw_d_cX3_putAhead_0 11 rfl
theorem dX3_putAhead_22 : decode cX3_putAhead 22 = .ok (.aload_n 1, 1) := lw_dr lw_d_cX3_putAhead_0 12 rfl
theorem dX3_putAhead_23 : decode cX3_putAhead 23 = .ok (.getfield 61, 3) := lw_dr lw_d_cX3_putAhead_0 13 rfl
theorem dX3_putAhead_26 : decode cX3_putAhead 26 = .ok (.i2l, 1) := lw_dr lw_d_cX3_putAhead_0 14 rfl
theorem dX3_putAhead_27 : decode cX3_putAhead 27 = .ok (.lmul, 1) := lw_dr lw_d_cX3_putAhead_0 15 rfl
theorem dX3_putAhead_28 : decode cX3_putAhead 28 = .ok (.lcmp, 1) := lw_dr lw_d_cX3_putAhead_0 16 rfl
theorem lw_d_cX3_putAhead_29 : lw_dl cX3_putAhead [(29, .ifCond .le 8, 3), (37, .aload_n 0, 1), (38, .getfield 22, 3), (41, .iconst 0, 1), (42, .aload_n 0, 1), (43, .getfield 18, 3), (46, .iconst 0, 1), (47, .iconst 5, 1), (48, .invokestatic 71, 3), (51, .aload_n 0, 1), (52, .iconst 1, 1), (53, .putfield 39, 3), (56, .lload_n 3, 1), (57, .lreturn, 1), (32, .aload_n 0, 1), (33, .invokevirtual 67, 3), (36, .lreturn, 1)] = true := by decide +kernel
theorem dX3_putAhead_29 : decode cX3_putAhead 29 = .ok (.ifCond .le 8, 3) := lw_dr lw_d_cX3_putAhead_29 0 rfl
theorem dX3_putAhead_37 : decode cX3_putAhead 37 = .ok (.aload_n 0, 1) := lw_dr lw_d_cX3_putAhead_29 1 rfl
theorem dX3_putAhead_38 : decode cX3_putAhead 38 = .ok (.getfield 22, 3) := lw_dr lw_d_cX3_putAhead_29 2 rfl
theorem dX3_putAhead_41 : decode cX3_putAhead 41 = .ok (.iconst 0, 1) := lw_dr lw_d_cX3_putAhead_29 3 rfl
theorem dX3_putAhead_42 : decode cX3_putAhead 42 = .ok (.aload_n 0, 1) := lw_dr lw_d_cX3_putAhead_29 4 rfl
theorem dX3_putAhead_43 : decode cX3_putAhead 43 = .ok (.getfield 18, 3) := lw_dr lw_d_cX3_putAhead_29 5 rfl
theorem dX3_putAhead_46 : decode cX3_putAhead 46 = .ok (.iconst 0, 1) := lw_dr lw_d_cX3_putAhead_29 6 rfl
theorem dX3_putAhead_47 : decode cX3_putAhead 47 = .ok (.iconst 5, 1) := lw_dr lw_d_cX3_putAhead_29 7 rfl
theorem dX3_putAhead_48 : decode cX3_putAhead 48 = .ok (.invokestatic 71, 3) := lw_dr lw_d_cX3_putAhead_29 8 rfl
theorem dX3_putAhead_51 : decode cX3_putAhead 51 = .ok (.aload_n 0, 1) := lw_dr lw_d_cX3_putAhead_29 9 rfl
theorem dX3_putAhead_52 : decode cX3_putAhead 52 = .ok (.iconst 1, 1) := lw_dr lw_d_cX3_putAhead_29 10 rfl
theorem dX3_putAhead_53 : decode cX3_putAhead 53 = .ok (.putfield 39, 3) := lw_dr lw_d_cX3_putAhead_29 11 rfl
theorem dX3_putAhead_56 : decode cX3_putAhead 56 = .ok (.lload_n 3, 1) := lw_dr lw_d_cX3_putAhead_29 12 rfl
theorem dX3_putAhead_57 : decode cX3_putAhead 57 = .ok (.lreturn, 1) := lw_dr lw_d_cX3_putAhead_29 13 rfl
theorem dX3_putAhead_32 : decode cX3_putAhead 32 = .ok (.aload_n 0, 1) := lw_dr lw_d_cX3_putAhead_29 14 rfl
theorem dX3_putAhead_33 : decode cX3_putAhead 33 = .ok (.invokevirtual 67, 3) := lw_dr lw_d_cX3_putAhead_29 15 rfl
theorem dX3_putAhead_36 : decode cX3_putAhead 36 = .ok (.lreturn, 1) := lw_dr lw_d_cX3_putAhead_29 16 rfl
theorem lw_d_cX3_refuse_0 : lw_dl cX3_refuse [(0, .aload_n 0, 1), (1, .iconst 0, 1), (2, .putfield 39, 3), (5, .ldc2_w 43, 3), (8, .lreturn, 1)] = true := by decide +kernel
theorem dX3_refuse_0 : decode cX3_refuse 0 = .ok (.aload_n 0, 1) := lw_dr lw_d_cX3_refuse_0 0 rfl
theorem dX3_refuse_1 : decode cX3_refuse 1 = .ok (.iconst 0, 1) := lw_dr lw_d_cX3_refuse_0 1 rfl
theorem dX3_refuse_2 : decode cX3_refuse 2 = .ok (.putfield 39, 3) := lw_dr lw_d_cX3_refuse_0 2 rfl
theorem dX3_refuse_5 : decode cX3_refuse 5 = .ok (.ldc2_w 43, 3) := lw_dr lw_d_cX3_refuse_0 3 rfl
theorem dX3_refuse_8 : decode cX3_refuse 8 = .ok (.lreturn, 1) := lw_dr lw_d_cX3_refuse_0 4 rfl
theorem lw_d_cX11_feed_0 : lw_dl cX11_feed [(0, .aload_n 0, 1), (1, .getfield 20, 3), (4, .bipush 20, 2), (6, .invokevirtual 83, 3), (9, .ifCond .ne 5, 3), (14, .aload_n 0, 1), (15, .getfield 20, 3), (18, .iload_n 1, 1), (19, .invokevirtual 89, 3), (22, .aload_n 0, 1), (23, .getfield 20, 3), (26, .iload_n 2, 1), (27, .invokevirtual 89, 3), (30, .aload_n 0, 1), (31, .getfield 20, 3), (34, .iload_n 3, 1), (35, .invokevirtual 89, 3), (38, .aload_n 0, 1), (39, .getfield 20, 3), (42, .iload 4, 2), (44, .invokevirtual 89, 3), (47, .aload_n 0, 1), (48, .getfield 20, 3), (51, .iload 5, 2), (53, .invokevirtual 89, 3), (56, .aload_n 0, 1), (57, .getfield 20, 3), (60, .invokevirtual 93, 3), (63, .ireturn, 1), (12, .iconst (-1), 1), (13, .ireturn, 1)] = true := by decide +kernel
theorem dX11_feed_0 : decode cX11_feed 0 = .ok (.aload_n 0, 1) := lw_dr lw_d_cX11_feed_0 0 rfl
theorem dX11_feed_1 : decode cX11_feed 1 = .ok (.getfield 20, 3) := lw_dr lw_d_cX11_feed_0 1 rfl
theorem dX11_feed_4 : decode cX11_feed 4 = .ok (.bipush 20, 2) := lw_dr lw_d_cX11_feed_0 2 rfl
theorem dX11_feed_6 : decode cX11_feed 6 = .ok (.invokevirtual 83, 3) := lw_dr lw_d_cX11_feed_0 3 rfl
theorem dX11_feed_9 : decode cX11_feed 9 = .ok (.ifCond .ne 5, 3) := lw_dr lw_d_cX11_feed_0 4 rfl
theorem dX11_feed_14 : decode cX11_feed 14 = .ok (.aload_n 0, 1) := lw_dr lw_d_cX11_feed_0 5 rfl
theorem dX11_feed_15 : decode cX11_feed 15 = .ok (.getfield 20, 3) := lw_dr lw_d_cX11_feed_0 6 rfl
theorem dX11_feed_18 : decode cX11_feed 18 = .ok (.iload_n 1, 1) := lw_dr lw_d_cX11_feed_0 7 rfl
theorem dX11_feed_19 : decode cX11_feed 19 = .ok (.invokevirtual 89, 3) := lw_dr lw_d_cX11_feed_0 8 rfl
theorem dX11_feed_22 : decode cX11_feed 22 = .ok (.aload_n 0, 1) := lw_dr lw_d_cX11_feed_0 9 rfl
theorem dX11_feed_23 : decode cX11_feed 23 = .ok (.getfield 20, 3) := lw_dr lw_d_cX11_feed_0 10 rfl
theorem dX11_feed_26 : decode cX11_feed 26 = .ok (.iload_n 2, 1) := lw_dr lw_d_cX11_feed_0 11 rfl
theorem dX11_feed_27 : decode cX11_feed 27 = .ok (.invokevirtual 89, 3) := lw_dr lw_d_cX11_feed_0 12 rfl
theorem dX11_feed_30 : decode cX11_feed 30 = .ok (.aload_n 0, 1) := lw_dr lw_d_cX11_feed_0 13 rfl
theorem dX11_feed_31 : decode cX11_feed 31 = .ok (.getfield 20, 3) := lw_dr lw_d_cX11_feed_0 14 rfl
theorem dX11_feed_34 : decode cX11_feed 34 = .ok (.iload_n 3, 1) := lw_dr lw_d_cX11_feed_0 15 rfl
theorem dX11_feed_35 : decode cX11_feed 35 = .ok (.invokevirtual 89, 3) := lw_dr lw_d_cX11_feed_0 16 rfl
theorem dX11_feed_38 : decode cX11_feed 38 = .ok (.aload_n 0, 1) := lw_dr lw_d_cX11_feed_0 17 rfl
theorem dX11_feed_39 : decode cX11_feed 39 = .ok (.getfield 20, 3) := lw_dr lw_d_cX11_feed_0 18 rfl
theorem dX11_feed_42 : decode cX11_feed 42 = .ok (.iload 4, 2) := lw_dr lw_d_cX11_feed_0 19 rfl
theorem dX11_feed_44 : decode cX11_feed 44 = .ok (.invokevirtual 89, 3) := lw_dr lw_d_cX11_feed_0 20 rfl
theorem dX11_feed_47 : decode cX11_feed 47 = .ok (.aload_n 0, 1) := lw_dr lw_d_cX11_feed_0 21 rfl
theorem dX11_feed_48 : decode cX11_feed 48 = .ok (.getfield 20, 3) := lw_dr lw_d_cX11_feed_0 22 rfl
theorem dX11_feed_51 : decode cX11_feed 51 = .ok (.iload 5, 2) := lw_dr lw_d_cX11_feed_0 23 rfl
theorem dX11_feed_53 : decode cX11_feed 53 = .ok (.invokevirtual 89, 3) := lw_dr lw_d_cX11_feed_0 24 rfl
theorem dX11_feed_56 : decode cX11_feed 56 = .ok (.aload_n 0, 1) := lw_dr lw_d_cX11_feed_0 25 rfl
theorem dX11_feed_57 : decode cX11_feed 57 = .ok (.getfield 20, 3) := lw_dr lw_d_cX11_feed_0 26 rfl
theorem dX11_feed_60 : decode cX11_feed 60 = .ok (.invokevirtual 93, 3) := lw_dr lw_d_cX11_feed_0 27 rfl
theorem dX11_feed_63 : decode cX11_feed 63 = .ok (.ireturn, 1) := lw_dr lw_d_cX11_feed_0 28 rfl
theorem dX11_feed_12 : decode cX11_feed 12 = .ok (.iconst (-1), 1) := lw_dr lw_d_cX11_feed_0 29 rfl
theorem dX11_feed_13 : decode cX11_feed 13 = .ok (.ireturn, 1) := lw_dr lw_d_cX11_feed_0 30 rfl
theorem lw_d_cX11_end_0 : lw_dl cX11_end [(0, .iload_n 1, 1), (1, .ifCond .lt 14, 3), (15, .iconst 0, 1), (16, .ireturn, 1), (4, .iload_n 1, 1), (5, .aload_n 0, 1), (6, .getfield 20, 3), (9, .invokevirtual 93, 3), (12, .if_icmp .le 5, 3), (17, .aload_n 0, 1), (18, .getfield 20, 3), (21, .iload_n 1, 1), (22, .invokevirtual 97, 3), (25, .iconst 1, 1), (26, .ireturn, 1)] = true := by decide +kernel
theorem dX11_end_0 : decode cX11_end 0 = .ok (.iload_n 1, 1) := lw_dr lw_d_cX11_end_0 0 rfl
theorem dX11_end_1 : decode cX11_end 1 = .ok (.ifCond .lt 14, 3) := lw_dr lw_d_cX11_end_0 1 rfl
theorem dX11_end_15 : decode cX11_end 15 = .ok (.iconst 0, 1) := lw_dr lw_d_cX11_end_0 2 rfl
theorem dX11_end_16 : decode cX11_end 16 = .ok (.ireturn, 1) := lw_dr lw_d_cX11_end_0 3 rfl
theorem dX11_end_4 : decode cX11_end 4 = .ok (.iload_n 1, 1) := lw_dr lw_d_cX11_end_0 4 rfl
theorem dX11_end_5 : decode cX11_end 5 = .ok (.aload_n 0, 1) := lw_dr lw_d_cX11_end_0 5 rfl
theorem dX11_end_6 : decode cX11_end 6 = .ok (.getfield 20, 3) := lw_dr lw_d_cX11_end_0 6 rfl
theorem dX11_end_9 : decode cX11_end 9 = .ok (.invokevirtual 93, 3) := lw_dr lw_d_cX11_end_0 7 rfl
theorem dX11_end_12 : decode cX11_end 12 = .ok (.if_icmp .le 5, 3) := lw_dr lw_d_cX11_end_0 8 rfl
theorem dX11_end_17 : decode cX11_end 17 = .ok (.aload_n 0, 1) := lw_dr lw_d_cX11_end_0 9 rfl
theorem dX11_end_18 : decode cX11_end 18 = .ok (.getfield 20, 3) := lw_dr lw_d_cX11_end_0 10 rfl
theorem dX11_end_21 : decode cX11_end 21 = .ok (.iload_n 1, 1) := lw_dr lw_d_cX11_end_0 11 rfl
theorem dX11_end_22 : decode cX11_end 22 = .ok (.invokevirtual 97, 3) := lw_dr lw_d_cX11_end_0 12 rfl
theorem dX11_end_25 : decode cX11_end 25 = .ok (.iconst 1, 1) := lw_dr lw_d_cX11_end_0 13 rfl
theorem dX11_end_26 : decode cX11_end 26 = .ok (.ireturn, 1) := lw_dr lw_d_cX11_end_0 14 rfl
theorem lw_d_cX11_fault_0 : lw_dl cX11_fault [(0, .iload_n 1, 1), (1, .ifCond .ne 11, 3), (12, .iload_n 1, 1), (13, .iconst 1, 1), (14, .if_icmp .ne 13, 3), (27, .iconst (-1), 1), (28, .ireturn, 1), (17, .aload_n 0, 1), (18, .getfield 10, 3), (21, .getfield 130, 3), (24, .goto 4, 3), (4, .aload_n 0, 1), (5, .getfield 10, 3), (8, .getfield 127, 3), (11, .ireturn, 1)] = true := by decide +kernel
theorem dX11_fault_0 : decode cX11_fault 0 = .ok (.iload_n 1, 1) := lw_dr lw_d_cX11_fault_0 0 rfl
theorem dX11_fault_1 : decode cX11_fault 1 = .ok (.ifCond .ne 11, 3) := lw_dr lw_d_cX11_fault_0 1 rfl
theorem dX11_fault_12 : decode cX11_fault 12 = .ok (.iload_n 1, 1) := lw_dr lw_d_cX11_fault_0 2 rfl
theorem dX11_fault_13 : decode cX11_fault 13 = .ok (.iconst 1, 1) := lw_dr lw_d_cX11_fault_0 3 rfl
theorem dX11_fault_14 : decode cX11_fault 14 = .ok (.if_icmp .ne 13, 3) := lw_dr lw_d_cX11_fault_0 4 rfl
theorem dX11_fault_27 : decode cX11_fault 27 = .ok (.iconst (-1), 1) := lw_dr lw_d_cX11_fault_0 5 rfl
theorem dX11_fault_28 : decode cX11_fault 28 = .ok (.ireturn, 1) := lw_dr lw_d_cX11_fault_0 6 rfl
theorem dX11_fault_17 : decode cX11_fault 17 = .ok (.aload_n 0, 1) := lw_dr lw_d_cX11_fault_0 7 rfl
theorem dX11_fault_18 : decode cX11_fault 18 = .ok (.getfield 10, 3) := lw_dr lw_d_cX11_fault_0 8 rfl
theorem dX11_fault_21 : decode cX11_fault 21 = .ok (.getfield 130, 3) := lw_dr lw_d_cX11_fault_0 9 rfl
theorem dX11_fault_24 : decode cX11_fault 24 = .ok (.goto 4, 3) := lw_dr lw_d_cX11_fault_0 10 rfl
theorem dX11_fault_4 : decode cX11_fault 4 = .ok (.aload_n 0, 1) := lw_dr lw_d_cX11_fault_0 11 rfl
theorem dX11_fault_5 : decode cX11_fault 5 = .ok (.getfield 10, 3) := lw_dr lw_d_cX11_fault_0 12 rfl
theorem dX11_fault_8 : decode cX11_fault 8 = .ok (.getfield 127, 3) := lw_dr lw_d_cX11_fault_0 13 rfl
theorem dX11_fault_11 : decode cX11_fault 11 = .ok (.ireturn, 1) := lw_dr lw_d_cX11_fault_0 14 rfl
theorem lw_d_cX11_has_0 : lw_dl cX11_has [(0, .iload_n 1, 1), (1, .tableswitch 138 0 9 #[55, 63, 71, 79, 87, 95, 106, 114, 122, 130], 55), (56, .aload_n 0, 1), (57, .getfield 69, 3), (60, .getfield 133, 3), (63, .ireturn, 1), (64, .aload_n 0, 1), (65, .getfield 69, 3), (68, .getfield 136, 3), (71, .ireturn, 1), (72, .aload_n 0, 1), (73, .getfield 69, 3), (76, .getfield 139, 3), (79, .ireturn, 1), (80, .aload_n 0, 1), (81, .getfield 69, 3), (84, .getfield 142, 3), (87, .ireturn, 1), (88, .aload_n 0, 1), (89, .getfield 69, 3), (92, .getfield 145, 3), (95, .ireturn, 1), (96, .aload_n 0, 1), (97, .getfield 69, 3), (100, .getfield 148, 3), (103, .getfield 152, 3), (106, .ireturn, 1), (107, .aload_n 0, 1), (108, .getfield 69, 3), (111, .getfield 157, 3), (114, .ireturn, 1), (115, .aload_n 0, 1), (116, .getfield 76, 3), (119, .getfield 160, 3), (122, .ireturn, 1), (123, .aload_n 0, 1), (124, .getfield 76, 3), (127, .getfield 163, 3), (130, .ireturn, 1), (131, .aload_n 0, 1)] = true := by decide +kernel
theorem dX11_has_0 : decode cX11_has 0 = .ok (.iload_n 1, 1) := lw_dr lw_d_cX11_has_0 0 rfl
theorem dX11_has_1 : decode cX11_has 1 = .ok (.tableswitch 138 0 9 #[55, 63, 71, 79, 87, 95, 106, 114, 122, 130], 55) := lw_dr lw_d_cX11_has_0 1 rfl
theorem dX11_has_56 : decode cX11_has 56 = .ok (.aload_n 0, 1) := lw_dr lw_d_cX11_has_0 2 rfl
theorem dX11_has_57 : decode cX11_has 57 = .ok (.getfield 69, 3) := lw_dr lw_d_cX11_has_0 3 rfl
theorem dX11_has_60 : decode cX11_has 60 = .ok (.getfield 133, 3) := lw_dr lw_d_cX11_has_0 4 rfl
theorem dX11_has_63 : decode cX11_has 63 = .ok (.ireturn, 1) := lw_dr lw_d_cX11_has_0 5 rfl
theorem dX11_has_64 : decode cX11_has 64 = .ok (.aload_n 0, 1) := lw_dr lw_d_cX11_has_0 6 rfl
theorem dX11_has_65 : decode cX11_has 65 = .ok (.getfield 69, 3) := lw_dr lw_d_cX11_has_0 7 rfl
theorem dX11_has_68 : decode cX11_has 68 = .ok (.getfield 136, 3) := lw_dr lw_d_cX11_has_0 8 rfl
theorem dX11_has_71 : decode cX11_has 71 = .ok (.ireturn, 1) := lw_dr lw_d_cX11_has_0 9 rfl
theorem dX11_has_72 : decode cX11_has 72 = .ok (.aload_n 0, 1) := lw_dr lw_d_cX11_has_0 10 rfl
theorem dX11_has_73 : decode cX11_has 73 = .ok (.getfield 69, 3) := lw_dr lw_d_cX11_has_0 11 rfl
theorem dX11_has_76 : decode cX11_has 76 = .ok (.getfield 139, 3) := lw_dr lw_d_cX11_has_0 12 rfl
theorem dX11_has_79 : decode cX11_has 79 = .ok (.ireturn, 1) := lw_dr lw_d_cX11_has_0 13 rfl
theorem dX11_has_80 : decode cX11_has 80 = .ok (.aload_n 0, 1) := lw_dr lw_d_cX11_has_0 14 rfl
theorem dX11_has_81 : decode cX11_has 81 = .ok (.getfield 69, 3) := lw_dr lw_d_cX11_has_0 15 rfl
theorem dX11_has_84 : decode cX11_has 84 = .ok (.getfield 142, 3) := lw_dr lw_d_cX11_has_0 16 rfl
theorem dX11_has_87 : decode cX11_has 87 = .ok (.ireturn, 1) := lw_dr lw_d_cX11_has_0 17 rfl
theorem dX11_has_88 : decode cX11_has 88 = .ok (.aload_n 0, 1) := lw_dr lw_d_cX11_has_0 18 rfl
theorem dX11_has_89 : decode cX11_has 89 = .ok (.getfield 69, 3) := lw_dr lw_d_cX11_has_0 19 rfl
theorem dX11_has_92 : decode cX11_has 92 = .ok (.getfield 145, 3) := lw_dr lw_d_cX11_has_0 20 rfl
theorem dX11_has_95 : decode cX11_has 95 = .ok (.ireturn, 1) := lw_dr lw_d_cX11_has_0 21 rfl
theorem dX11_has_96 : decode cX11_has 96 = .ok (.aload_n 0, 1) := lw_dr lw_d_cX11_has_0 22 rfl
theorem dX11_has_97 : decode cX11_has 97 = .ok (.getfield 69, 3) := lw_dr lw_d_cX11_has_0 23 rfl
theorem dX11_has_100 : decode cX11_has 100 = .ok (.getfield 148, 3) := lw_dr lw_d_cX11_has_0 24 rfl
theorem dX11_has_103 : decode cX11_has 103 = .ok (.getfield 152, 3) := lw_dr lw_d_cX11_has_0 25 rfl
theorem dX11_has_106 : decode cX11_has 106 = .ok (.ireturn, 1) := lw_dr lw_d_cX11_has_0 26 rfl
theorem dX11_has_107 : decode cX11_has 107 = .ok (.aload_n 0, 1) := lw_dr lw_d_cX11_has_0 27 rfl
theorem dX11_has_108 : decode cX11_has 108 = .ok (.getfield 69, 3) := lw_dr lw_d_cX11_has_0 28 rfl
theorem dX11_has_111 : decode cX11_has 111 = .ok (.getfield 157, 3) := lw_dr lw_d_cX11_has_0 29 rfl
theorem dX11_has_114 : decode cX11_has 114 = .ok (.ireturn, 1) := lw_dr lw_d_cX11_has_0 30 rfl
theorem dX11_has_115 : decode cX11_has 115 = .ok (.aload_n 0, 1) := lw_dr lw_d_cX11_has_0 31 rfl
theorem dX11_has_116 : decode cX11_has 116 = .ok (.getfield 76, 3) := lw_dr lw_d_cX11_has_0 32 rfl
theorem dX11_has_119 : decode cX11_has 119 = .ok (.getfield 160, 3) := lw_dr lw_d_cX11_has_0 33 rfl
theorem dX11_has_122 : decode cX11_has 122 = .ok (.ireturn, 1) := lw_dr lw_d_cX11_has_0 34 rfl
theorem dX11_has_123 : decode cX11_has 123 = .ok (.aload_n 0, 1) := lw_dr lw_d_cX11_has_0 35 rfl
theorem dX11_has_124 : decode cX11_has 124 = .ok (.getfield 76, 3) := lw_dr lw_d_cX11_has_0 36 rfl
theorem dX11_has_127 : decode cX11_has 127 = .ok (.getfield 163, 3) := lw_dr lw_d_cX11_has_0 37 rfl
theorem dX11_has_130 : decode cX11_has 130 = .ok (.ireturn, 1) := lw_dr lw_d_cX11_has_0 38 rfl
theorem dX11_has_131 : decode cX11_has 131 = .ok (.aload_n 0, 1) := lw_dr lw_d_cX11_has_0 39 rfl
theorem lw_d_cX11_has_132 : lw_dl cX11_has [(132, .getfield 76, 3), (135, .getfield 166, 3), (138, .ireturn, 1), (139, .iconst (-1), 1), (140, .ireturn, 1)] = true := by decide +kernel
theorem dX11_has_132 : decode cX11_has 132 = .ok (.getfield 76, 3) := lw_dr lw_d_cX11_has_132 0 rfl
theorem dX11_has_135 : decode cX11_has 135 = .ok (.getfield 166, 3) := lw_dr lw_d_cX11_has_132 1 rfl
theorem dX11_has_138 : decode cX11_has 138 = .ok (.ireturn, 1) := lw_dr lw_d_cX11_has_132 2 rfl
theorem dX11_has_139 : decode cX11_has 139 = .ok (.iconst (-1), 1) := lw_dr lw_d_cX11_has_132 3 rfl
theorem dX11_has_140 : decode cX11_has 140 = .ok (.ireturn, 1) := lw_dr lw_d_cX11_has_132 4 rfl
theorem lw_d_cX11_table_0 : lw_dl cX11_table [(0, .aload_n 0, 1), (1, .getfield 69, 3), (4, .iload_n 1, 1), (5, .invokevirtual 169, 3), (8, .ifCond .eq 14, 3), (22, .ldc 175, 2), (24, .ireturn, 1), (11, .aload_n 0, 1), (12, .getfield 69, 3), (15, .iload_n 2, 1), (16, .invokevirtual 172, 3), (19, .ifCond .ne 6, 3), (25, .aload_n 0, 1), (26, .iload_n 3, 1), (27, .invokevirtual 176, 3), (30, .iload_n 1, 1), (31, .iload_n 2, 1), (32, .invokevirtual 180, 3), (35, .ireturn, 1)] = true := by decide +kernel
theorem dX11_table_0 : decode cX11_table 0 = .ok (.aload_n 0, 1) := lw_dr lw_d_cX11_table_0 0 rfl
theorem dX11_table_1 : decode cX11_table 1 = .ok (.getfield 69, 3) := lw_dr lw_d_cX11_table_0 1 rfl
theorem dX11_table_4 : decode cX11_table 4 = .ok (.iload_n 1, 1) := lw_dr lw_d_cX11_table_0 2 rfl
theorem dX11_table_5 : decode cX11_table 5 = .ok (.invokevirtual 169, 3) := lw_dr lw_d_cX11_table_0 3 rfl
theorem dX11_table_8 : decode cX11_table 8 = .ok (.ifCond .eq 14, 3) := lw_dr lw_d_cX11_table_0 4 rfl
theorem dX11_table_22 : decode cX11_table 22 = .ok (.ldc 175, 2) := lw_dr lw_d_cX11_table_0 5 rfl
theorem dX11_table_24 : decode cX11_table 24 = .ok (.ireturn, 1) := lw_dr lw_d_cX11_table_0 6 rfl
theorem dX11_table_11 : decode cX11_table 11 = .ok (.aload_n 0, 1) := lw_dr lw_d_cX11_table_0 7 rfl
theorem dX11_table_12 : decode cX11_table 12 = .ok (.getfield 69, 3) := lw_dr lw_d_cX11_table_0 8 rfl
theorem dX11_table_15 : decode cX11_table 15 = .ok (.iload_n 2, 1) := lw_dr lw_d_cX11_table_0 9 rfl
theorem dX11_table_16 : decode cX11_table 16 = .ok (.invokevirtual 172, 3) := lw_dr lw_d_cX11_table_0 10 rfl
theorem dX11_table_19 : decode cX11_table 19 = .ok (.ifCond .ne 6, 3) := lw_dr lw_d_cX11_table_0 11 rfl
theorem dX11_table_25 : decode cX11_table 25 = .ok (.aload_n 0, 1) := lw_dr lw_d_cX11_table_0 12 rfl
theorem dX11_table_26 : decode cX11_table 26 = .ok (.iload_n 3, 1) := lw_dr lw_d_cX11_table_0 13 rfl
theorem dX11_table_27 : decode cX11_table 27 = .ok (.invokevirtual 176, 3) := lw_dr lw_d_cX11_table_0 14 rfl
theorem dX11_table_30 : decode cX11_table 30 = .ok (.iload_n 1, 1) := lw_dr lw_d_cX11_table_0 15 rfl
theorem dX11_table_31 : decode cX11_table 31 = .ok (.iload_n 2, 1) := lw_dr lw_d_cX11_table_0 16 rfl
theorem dX11_table_32 : decode cX11_table 32 = .ok (.invokevirtual 180, 3) := lw_dr lw_d_cX11_table_0 17 rfl
theorem dX11_table_35 : decode cX11_table 35 = .ok (.ireturn, 1) := lw_dr lw_d_cX11_table_0 18 rfl
theorem lw_d_cX11_tableBy_0 : lw_dl cX11_tableBy [(0, .iload_n 1, 1), (1, .ifCond .eq 13, 3), (14, .aload_n 0, 1), (15, .getfield 69, 3), (18, .getfield 193, 3), (21, .areturn, 1), (4, .aload_n 0, 1), (5, .getfield 76, 3), (8, .getfield 189, 3), (11, .goto 10, 3)] = true := by decide +kernel
theorem dX11_tableBy_0 : decode cX11_tableBy 0 = .ok (.iload_n 1, 1) := lw_dr lw_d_cX11_tableBy_0 0 rfl
theorem dX11_tableBy_1 : decode cX11_tableBy 1 = .ok (.ifCond .eq 13, 3) := lw_dr lw_d_cX11_tableBy_0 1 rfl
theorem dX11_tableBy_14 : decode cX11_tableBy 14 = .ok (.aload_n 0, 1) := lw_dr lw_d_cX11_tableBy_0 2 rfl
theorem dX11_tableBy_15 : decode cX11_tableBy 15 = .ok (.getfield 69, 3) := lw_dr lw_d_cX11_tableBy_0 3 rfl
theorem dX11_tableBy_18 : decode cX11_tableBy 18 = .ok (.getfield 193, 3) := lw_dr lw_d_cX11_tableBy_0 4 rfl
theorem dX11_tableBy_21 : decode cX11_tableBy 21 = .ok (.areturn, 1) := lw_dr lw_d_cX11_tableBy_0 5 rfl
theorem dX11_tableBy_4 : decode cX11_tableBy 4 = .ok (.aload_n 0, 1) := lw_dr lw_d_cX11_tableBy_0 6 rfl
theorem dX11_tableBy_5 : decode cX11_tableBy 5 = .ok (.getfield 76, 3) := lw_dr lw_d_cX11_tableBy_0 7 rfl
theorem dX11_tableBy_8 : decode cX11_tableBy 8 = .ok (.getfield 189, 3) := lw_dr lw_d_cX11_tableBy_0 8 rfl
theorem dX11_tableBy_11 : decode cX11_tableBy 11 = .ok (.goto 10, 3) := lw_dr lw_d_cX11_tableBy_0 9 rfl
theorem lw_d_cX11_product_0 : lw_dl cX11_product [(0, .aload_n 0, 1), (1, .getfield 69, 3), (4, .iload_n 1, 1), (5, .invokevirtual 172, 3), (8, .ifCond .eq 14, 3), (22, .ldc 175, 2), (24, .ireturn, 1), (11, .aload_n 0, 1), (12, .getfield 69, 3), (15, .iload_n 2, 1), (16, .invokevirtual 172, 3), (19, .ifCond .ne 6, 3), (25, .aload_n 0, 1), (26, .iload_n 3, 1), (27, .invokevirtual 176, 3), (30, .iload_n 1, 1), (31, .iload_n 2, 1), (32, .invokevirtual 186, 3), (35, .ireturn, 1)] = true := by decide +kernel
theorem dX11_product_0 : decode cX11_product 0 = .ok (.aload_n 0, 1) := lw_dr lw_d_cX11_product_0 0 rfl
theorem dX11_product_1 : decode cX11_product 1 = .ok (.getfield 69, 3) := lw_dr lw_d_cX11_product_0 1 rfl
theorem dX11_product_4 : decode cX11_product 4 = .ok (.iload_n 1, 1) := lw_dr lw_d_cX11_product_0 2 rfl
theorem dX11_product_5 : decode cX11_product 5 = .ok (.invokevirtual 172, 3) := lw_dr lw_d_cX11_product_0 3 rfl
theorem dX11_product_8 : decode cX11_product 8 = .ok (.ifCond .eq 14, 3) := lw_dr lw_d_cX11_product_0 4 rfl
theorem dX11_product_22 : decode cX11_product 22 = .ok (.ldc 175, 2) := lw_dr lw_d_cX11_product_0 5 rfl
theorem dX11_product_24 : decode cX11_product 24 = .ok (.ireturn, 1) := lw_dr lw_d_cX11_product_0 6 rfl
theorem dX11_product_11 : decode cX11_product 11 = .ok (.aload_n 0, 1) := lw_dr lw_d_cX11_product_0 7 rfl
theorem dX11_product_12 : decode cX11_product 12 = .ok (.getfield 69, 3) := lw_dr lw_d_cX11_product_0 8 rfl
theorem dX11_product_15 : decode cX11_product 15 = .ok (.iload_n 2, 1) := lw_dr lw_d_cX11_product_0 9 rfl
theorem dX11_product_16 : decode cX11_product 16 = .ok (.invokevirtual 172, 3) := lw_dr lw_d_cX11_product_0 10 rfl
theorem dX11_product_19 : decode cX11_product 19 = .ok (.ifCond .ne 6, 3) := lw_dr lw_d_cX11_product_0 11 rfl
theorem dX11_product_25 : decode cX11_product 25 = .ok (.aload_n 0, 1) := lw_dr lw_d_cX11_product_0 12 rfl
theorem dX11_product_26 : decode cX11_product 26 = .ok (.iload_n 3, 1) := lw_dr lw_d_cX11_product_0 13 rfl
theorem dX11_product_27 : decode cX11_product 27 = .ok (.invokevirtual 176, 3) := lw_dr lw_d_cX11_product_0 14 rfl
theorem dX11_product_30 : decode cX11_product 30 = .ok (.iload_n 1, 1) := lw_dr lw_d_cX11_product_0 15 rfl
theorem dX11_product_31 : decode cX11_product 31 = .ok (.iload_n 2, 1) := lw_dr lw_d_cX11_product_0 16 rfl
theorem dX11_product_32 : decode cX11_product 32 = .ok (.invokevirtual 186, 3) := lw_dr lw_d_cX11_product_0 17 rfl
theorem dX11_product_35 : decode cX11_product 35 = .ok (.ireturn, 1) := lw_dr lw_d_cX11_product_0 18 rfl
theorem lw_d_cX11_hear_0 : lw_dl cX11_hear [(0, .aload_n 0, 1), (1, .getfield 20, 3), (4, .invokevirtual 93, 3), (7, .iconst 2, 1), (8, .aload_n 0, 1), (9, .getfield 69, 3), (12, .getfield 139, 3), (15, .imul, 1), (16, .if_icmp .ne 7, 3), (23, .iconst 0, 1), (24, .istore_n 1, 1), (25, .iload_n 1, 1), (26, .ifCond .eq 7, 3), (33, .aload_n 0, 1), (34, .getfield 20, 3), (37, .iconst 0, 1), (38, .invokevirtual 97, 3), (41, .iload_n 1, 1), (42, .ireturn, 1), (19, .iconst 1, 1), (20, .goto 4, 3), (29, .aload_n 0, 1), (30, .invokevirtual 194, 3)] = true := by decide +kernel
theorem dX11_hear_0 : decode cX11_hear 0 = .ok (.aload_n 0, 1) := lw_dr lw_d_cX11_hear_0 0 rfl
theorem dX11_hear_1 : decode cX11_hear 1 = .ok (.getfield 20, 3) := lw_dr lw_d_cX11_hear_0 1 rfl
theorem dX11_hear_4 : decode cX11_hear 4 = .ok (.invokevirtual 93, 3) := lw_dr lw_d_cX11_hear_0 2 rfl
theorem dX11_hear_7 : decode cX11_hear 7 = .ok (.iconst 2, 1) := lw_dr lw_d_cX11_hear_0 3 rfl
theorem dX11_hear_8 : decode cX11_hear 8 = .ok (.aload_n 0, 1) := lw_dr lw_d_cX11_hear_0 4 rfl
theorem dX11_hear_9 : decode cX11_hear 9 = .ok (.getfield 69, 3) := lw_dr lw_d_cX11_hear_0 5 rfl
theorem dX11_hear_12 : decode cX11_hear 12 = .ok (.getfield 139, 3) := lw_dr lw_d_cX11_hear_0 6 rfl
theorem dX11_hear_15 : decode cX11_hear 15 = .ok (.imul, 1) := lw_dr lw_d_cX11_hear_0 7 rfl
theorem dX11_hear_16 : decode cX11_hear 16 = .ok (.if_icmp .ne 7, 3) := lw_dr lw_d_cX11_hear_0 8 rfl
theorem dX11_hear_23 : decode cX11_hear 23 = .ok (.iconst 0, 1) := lw_dr lw_d_cX11_hear_0 9 rfl
theorem dX11_hear_24 : decode cX11_hear 24 = .ok (.istore_n 1, 1) := lw_dr lw_d_cX11_hear_0 10 rfl
theorem dX11_hear_25 : decode cX11_hear 25 = .ok (.iload_n 1, 1) := lw_dr lw_d_cX11_hear_0 11 rfl
theorem dX11_hear_26 : decode cX11_hear 26 = .ok (.ifCond .eq 7, 3) := lw_dr lw_d_cX11_hear_0 12 rfl
theorem dX11_hear_33 : decode cX11_hear 33 = .ok (.aload_n 0, 1) := lw_dr lw_d_cX11_hear_0 13 rfl
theorem dX11_hear_34 : decode cX11_hear 34 = .ok (.getfield 20, 3) := lw_dr lw_d_cX11_hear_0 14 rfl
theorem dX11_hear_37 : decode cX11_hear 37 = .ok (.iconst 0, 1) := lw_dr lw_d_cX11_hear_0 15 rfl
theorem dX11_hear_38 : decode cX11_hear 38 = .ok (.invokevirtual 97, 3) := lw_dr lw_d_cX11_hear_0 16 rfl
theorem dX11_hear_41 : decode cX11_hear 41 = .ok (.iload_n 1, 1) := lw_dr lw_d_cX11_hear_0 17 rfl
theorem dX11_hear_42 : decode cX11_hear 42 = .ok (.ireturn, 1) := lw_dr lw_d_cX11_hear_0 18 rfl
theorem dX11_hear_19 : decode cX11_hear 19 = .ok (.iconst 1, 1) := lw_dr lw_d_cX11_hear_0 19 rfl
theorem dX11_hear_20 : decode cX11_hear 20 = .ok (.goto 4, 3) := lw_dr lw_d_cX11_hear_0 20 rfl
theorem dX11_hear_29 : decode cX11_hear 29 = .ok (.aload_n 0, 1) := lw_dr lw_d_cX11_hear_0 21 rfl
theorem dX11_hear_30 : decode cX11_hear 30 = .ok (.invokevirtual 194, 3) := lw_dr lw_d_cX11_hear_0 22 rfl
theorem lw_d_cX11_takeHeard_0 : lw_dl cX11_takeHeard [(0, .iconst 0, 1), (1, .istore_n 1, 1), (2, .iload_n 1, 1), (3, .aload_n 0, 1), (4, .getfield 69, 3), (7, .getfield 139, 3), (10, .if_icmp .ge 25, 3), (35, .aload_n 0, 1), (36, .getfield 24, 3), (39, .invokevirtual 118, 3), (42, .return_, 1), (13, .aload_n 0, 1), (14, .getfield 49, 3), (17, .iload_n 1, 1), (18, .aload_n 0, 1), (19, .getfield 20, 3), (22, .iconst 2, 1), (23, .iload_n 1, 1), (24, .imul, 1), (25, .invokevirtual 197, 3), (28, .iastore, 1), (29, .iinc 1 1, 3), (32, .goto (-30), 3)] = true := by decide +kernel
theorem dX11_takeHeard_0 : decode cX11_takeHeard 0 = .ok (.iconst 0, 1) := lw_dr lw_d_cX11_takeHeard_0 0 rfl
theorem dX11_takeHeard_1 : decode cX11_takeHeard 1 = .ok (.istore_n 1, 1) := lw_dr lw_d_cX11_takeHeard_0 1 rfl
theorem dX11_takeHeard_2 : decode cX11_takeHeard 2 = .ok (.iload_n 1, 1) := lw_dr lw_d_cX11_takeHeard_0 2 rfl
theorem dX11_takeHeard_3 : decode cX11_takeHeard 3 = .ok (.aload_n 0, 1) := lw_dr lw_d_cX11_takeHeard_0 3 rfl
theorem dX11_takeHeard_4 : decode cX11_takeHeard 4 = .ok (.getfield 69, 3) := lw_dr lw_d_cX11_takeHeard_0 4 rfl
theorem dX11_takeHeard_7 : decode cX11_takeHeard 7 = .ok (.getfield 139, 3) := lw_dr lw_d_cX11_takeHeard_0 5 rfl
theorem dX11_takeHeard_10 : decode cX11_takeHeard 10 = .ok (.if_icmp .ge 25, 3) := lw_dr lw_d_cX11_takeHeard_0 6 rfl
theorem dX11_takeHeard_35 : decode cX11_takeHeard 35 = .ok (.aload_n 0, 1) := lw_dr lw_d_cX11_takeHeard_0 7 rfl
theorem dX11_takeHeard_36 : decode cX11_takeHeard 36 = .ok (.getfield 24, 3) := lw_dr lw_d_cX11_takeHeard_0 8 rfl
theorem dX11_takeHeard_39 : decode cX11_takeHeard 39 = .ok (.invokevirtual 118, 3) := lw_dr lw_d_cX11_takeHeard_0 9 rfl
theorem dX11_takeHeard_42 : decode cX11_takeHeard 42 = .ok (.return_, 1) := lw_dr lw_d_cX11_takeHeard_0 10 rfl
theorem dX11_takeHeard_13 : decode cX11_takeHeard 13 = .ok (.aload_n 0, 1) := lw_dr lw_d_cX11_takeHeard_0 11 rfl
theorem dX11_takeHeard_14 : decode cX11_takeHeard 14 = .ok (.getfield 49, 3) := lw_dr lw_d_cX11_takeHeard_0 12 rfl
theorem dX11_takeHeard_17 : decode cX11_takeHeard 17 = .ok (.iload_n 1, 1) := lw_dr lw_d_cX11_takeHeard_0 13 rfl
theorem dX11_takeHeard_18 : decode cX11_takeHeard 18 = .ok (.aload_n 0, 1) := lw_dr lw_d_cX11_takeHeard_0 14 rfl
theorem dX11_takeHeard_19 : decode cX11_takeHeard 19 = .ok (.getfield 20, 3) := lw_dr lw_d_cX11_takeHeard_0 15 rfl
theorem dX11_takeHeard_22 : decode cX11_takeHeard 22 = .ok (.iconst 2, 1) := lw_dr lw_d_cX11_takeHeard_0 16 rfl
theorem dX11_takeHeard_23 : decode cX11_takeHeard 23 = .ok (.iload_n 1, 1) := lw_dr lw_d_cX11_takeHeard_0 17 rfl
theorem dX11_takeHeard_24 : decode cX11_takeHeard 24 = .ok (.imul, 1) := lw_dr lw_d_cX11_takeHeard_0 18 rfl
theorem dX11_takeHeard_25 : decode cX11_takeHeard 25 = .ok (.invokevirtual 197, 3) := lw_dr lw_d_cX11_takeHeard_0 19 rfl
theorem dX11_takeHeard_28 : decode cX11_takeHeard 28 = .ok (.iastore, 1) := lw_dr lw_d_cX11_takeHeard_0 20 rfl
theorem dX11_takeHeard_29 : decode cX11_takeHeard 29 = .ok (.iinc 1 1, 3) := lw_dr lw_d_cX11_takeHeard_0 21 rfl
theorem dX11_takeHeard_32 : decode cX11_takeHeard 32 = .ok (.goto (-30), 3) := lw_dr lw_d_cX11_takeHeard_0 22 rfl
theorem lw_d_cX11_heard_0 : lw_dl cX11_heard [(0, .aload_n 0, 1), (1, .getfield 69, 3), (4, .iload_n 1, 1), (5, .invokevirtual 169, 3), (8, .ifCond .eq 12, 3), (20, .ldc 175, 2), (22, .ireturn, 1), (11, .aload_n 0, 1), (12, .getfield 49, 3), (15, .iload_n 1, 1), (16, .iaload, 1), (17, .goto 5, 3)] = true := by decide +kernel
theorem dX11_heard_0 : decode cX11_heard 0 = .ok (.aload_n 0, 1) := lw_dr lw_d_cX11_heard_0 0 rfl
theorem dX11_heard_1 : decode cX11_heard 1 = .ok (.getfield 69, 3) := lw_dr lw_d_cX11_heard_0 1 rfl
theorem dX11_heard_4 : decode cX11_heard 4 = .ok (.iload_n 1, 1) := lw_dr lw_d_cX11_heard_0 2 rfl
theorem dX11_heard_5 : decode cX11_heard 5 = .ok (.invokevirtual 169, 3) := lw_dr lw_d_cX11_heard_0 3 rfl
theorem dX11_heard_8 : decode cX11_heard 8 = .ok (.ifCond .eq 12, 3) := lw_dr lw_d_cX11_heard_0 4 rfl
theorem dX11_heard_20 : decode cX11_heard 20 = .ok (.ldc 175, 2) := lw_dr lw_d_cX11_heard_0 5 rfl
theorem dX11_heard_22 : decode cX11_heard 22 = .ok (.ireturn, 1) := lw_dr lw_d_cX11_heard_0 6 rfl
theorem dX11_heard_11 : decode cX11_heard 11 = .ok (.aload_n 0, 1) := lw_dr lw_d_cX11_heard_0 7 rfl
theorem dX11_heard_12 : decode cX11_heard 12 = .ok (.getfield 49, 3) := lw_dr lw_d_cX11_heard_0 8 rfl
theorem dX11_heard_15 : decode cX11_heard 15 = .ok (.iload_n 1, 1) := lw_dr lw_d_cX11_heard_0 9 rfl
theorem dX11_heard_16 : decode cX11_heard 16 = .ok (.iaload, 1) := lw_dr lw_d_cX11_heard_0 10 rfl
theorem dX11_heard_17 : decode cX11_heard 17 = .ok (.goto 5, 3) := lw_dr lw_d_cX11_heard_0 11 rfl
theorem lw_d_cX11_send_0 : lw_dl cX11_send [(0, .aload_n 0, 1), (1, .invokevirtual 201, 3), (4, .ifCond .ne 5, 3), (9, .iconst 0, 1), (10, .istore_n 1, 1), (11, .iload_n 1, 1), (12, .aload_n 0, 1), (13, .getfield 69, 3), (16, .getfield 139, 3), (19, .if_icmp .ge 37, 3), (56, .aload_n 0, 1), (57, .getfield 24, 3), (60, .invokevirtual 118, 3), (63, .iconst 1, 1), (64, .ireturn, 1), (22, .aload_n 0, 1), (23, .getfield 49, 3), (26, .iload_n 1, 1), (27, .aload_n 0, 1), (28, .getfield 69, 3), (31, .getfield 193, 3), (34, .iload_n 1, 1), (35, .aload_n 0, 1), (36, .getfield 53, 3), (39, .aload_n 0, 1), (40, .getfield 69, 3), (43, .getfield 136, 3), (46, .invokevirtual 204, 3), (49, .iastore, 1), (50, .iinc 1 1, 3), (53, .goto (-42), 3), (7, .iconst 0, 1), (8, .ireturn, 1)] = true := by decide +kernel
theorem dX11_send_0 : decode cX11_send 0 = .ok (.aload_n 0, 1) := lw_dr lw_d_cX11_send_0 0 rfl
theorem dX11_send_1 : decode cX11_send 1 = .ok (.invokevirtual 201, 3) := lw_dr lw_d_cX11_send_0 1 rfl
theorem dX11_send_4 : decode cX11_send 4 = .ok (.ifCond .ne 5, 3) := lw_dr lw_d_cX11_send_0 2 rfl
theorem dX11_send_9 : decode cX11_send 9 = .ok (.iconst 0, 1) := lw_dr lw_d_cX11_send_0 3 rfl
theorem dX11_send_10 : decode cX11_send 10 = .ok (.istore_n 1, 1) := lw_dr lw_d_cX11_send_0 4 rfl
theorem dX11_send_11 : decode cX11_send 11 = .ok (.iload_n 1, 1) := lw_dr lw_d_cX11_send_0 5 rfl
theorem dX11_send_12 : decode cX11_send 12 = .ok (.aload_n 0, 1) := lw_dr lw_d_cX11_send_0 6 rfl
theorem dX11_send_13 : decode cX11_send 13 = .ok (.getfield 69, 3) := lw_dr lw_d_cX11_send_0 7 rfl
theorem dX11_send_16 : decode cX11_send 16 = .ok (.getfield 139, 3) := lw_dr lw_d_cX11_send_0 8 rfl
theorem dX11_send_19 : decode cX11_send 19 = .ok (.if_icmp .ge 37, 3) := lw_dr lw_d_cX11_send_0 9 rfl
theorem dX11_send_56 : decode cX11_send 56 = .ok (.aload_n 0, 1) := lw_dr lw_d_cX11_send_0 10 rfl
theorem dX11_send_57 : decode cX11_send 57 = .ok (.getfield 24, 3) := lw_dr lw_d_cX11_send_0 11 rfl
theorem dX11_send_60 : decode cX11_send 60 = .ok (.invokevirtual 118, 3) := lw_dr lw_d_cX11_send_0 12 rfl
theorem dX11_send_63 : decode cX11_send 63 = .ok (.iconst 1, 1) := lw_dr lw_d_cX11_send_0 13 rfl
theorem dX11_send_64 : decode cX11_send 64 = .ok (.ireturn, 1) := lw_dr lw_d_cX11_send_0 14 rfl
theorem dX11_send_22 : decode cX11_send 22 = .ok (.aload_n 0, 1) := lw_dr lw_d_cX11_send_0 15 rfl
theorem dX11_send_23 : decode cX11_send 23 = .ok (.getfield 49, 3) := lw_dr lw_d_cX11_send_0 16 rfl
theorem dX11_send_26 : decode cX11_send 26 = .ok (.iload_n 1, 1) := lw_dr lw_d_cX11_send_0 17 rfl
theorem dX11_send_27 : decode cX11_send 27 = .ok (.aload_n 0, 1) := lw_dr lw_d_cX11_send_0 18 rfl
theorem dX11_send_28 : decode cX11_send 28 = .ok (.getfield 69, 3) := lw_dr lw_d_cX11_send_0 19 rfl
theorem dX11_send_31 : decode cX11_send 31 = .ok (.getfield 193, 3) := lw_dr lw_d_cX11_send_0 20 rfl
theorem dX11_send_34 : decode cX11_send 34 = .ok (.iload_n 1, 1) := lw_dr lw_d_cX11_send_0 21 rfl
theorem dX11_send_35 : decode cX11_send 35 = .ok (.aload_n 0, 1) := lw_dr lw_d_cX11_send_0 22 rfl
theorem dX11_send_36 : decode cX11_send 36 = .ok (.getfield 53, 3) := lw_dr lw_d_cX11_send_0 23 rfl
theorem dX11_send_39 : decode cX11_send 39 = .ok (.aload_n 0, 1) := lw_dr lw_d_cX11_send_0 24 rfl
theorem dX11_send_40 : decode cX11_send 40 = .ok (.getfield 69, 3) := lw_dr lw_d_cX11_send_0 25 rfl
theorem dX11_send_43 : decode cX11_send 43 = .ok (.getfield 136, 3) := lw_dr lw_d_cX11_send_0 26 rfl
theorem dX11_send_46 : decode cX11_send 46 = .ok (.invokevirtual 204, 3) := lw_dr lw_d_cX11_send_0 27 rfl
theorem dX11_send_49 : decode cX11_send 49 = .ok (.iastore, 1) := lw_dr lw_d_cX11_send_0 28 rfl
theorem dX11_send_50 : decode cX11_send 50 = .ok (.iinc 1 1, 3) := lw_dr lw_d_cX11_send_0 29 rfl
theorem dX11_send_53 : decode cX11_send 53 = .ok (.goto (-42), 3) := lw_dr lw_d_cX11_send_0 30 rfl
theorem dX11_send_7 : decode cX11_send 7 = .ok (.iconst 0, 1) := lw_dr lw_d_cX11_send_0 31 rfl
theorem dX11_send_8 : decode cX11_send 8 = .ok (.ireturn, 1) := lw_dr lw_d_cX11_send_0 32 rfl
theorem lw_d_cX11_takeRow_0 : lw_dl cX11_takeRow [(0, .aload_n 0, 1), (1, .getfield 69, 3), (4, .getfield 136, 3), (7, .ifCond .le 24, 3), (31, .iconst 0, 1), (32, .istore_n 1, 1), (33, .iconst 0, 1), (34, .istore_n 2, 1), (35, .iload_n 1, 1), (36, .ifCond .eq 48, 3), (84, .aload_n 0, 1), (85, .getfield 20, 3), (88, .iconst 0, 1), (89, .invokevirtual 97, 3), (92, .iload_n 1, 1), (93, .ireturn, 1), (10, .aload_n 0, 1), (11, .getfield 20, 3), (14, .invokevirtual 93, 3), (17, .aload_n 0, 1), (18, .getfield 69, 3), (21, .getfield 136, 3), (24, .if_icmp .ne 7, 3), (27, .iconst 1, 1), (28, .goto 4, 3), (39, .iload_n 2, 1), (40, .aload_n 0, 1), (41, .getfield 69, 3), (44, .getfield 136, 3), (47, .if_icmp .ge 37, 3), (50, .aload_n 0, 1), (51, .getfield 53, 3), (54, .iload_n 2, 1), (55, .aload_n 0, 1), (56, .getfield 20, 3), (59, .iload_n 2, 1), (60, .invokevirtual 214, 3), (63, .iastore, 1), (64, .aload_n 0, 1), (65, .getfield 69, 3)] = true := by decide +kernel
theorem dX11_takeRow_0 : decode cX11_takeRow 0 = .ok (.aload_n 0, 1) := lw_dr lw_d_cX11_takeRow_0 0 rfl
theorem dX11_takeRow_1 : decode cX11_takeRow 1 = .ok (.getfield 69, 3) := lw_dr lw_d_cX11_takeRow_0 1 rfl
theorem dX11_takeRow_4 : decode cX11_takeRow 4 = .ok (.getfield 136, 3) := lw_dr lw_d_cX11_takeRow_0 2 rfl
theorem dX11_takeRow_7 : decode cX11_takeRow 7 = .ok (.ifCond .le 24, 3) := lw_dr lw_d_cX11_takeRow_0 3 rfl
theorem dX11_takeRow_31 : decode cX11_takeRow 31 = .ok (.iconst 0, 1) := lw_dr lw_d_cX11_takeRow_0 4 rfl
theorem dX11_takeRow_32 : decode cX11_takeRow 32 = .ok (.istore_n 1, 1) := lw_dr lw_d_cX11_takeRow_0 5 rfl
theorem dX11_takeRow_33 : decode cX11_takeRow 33 = .ok (.iconst 0, 1) := lw_dr lw_d_cX11_takeRow_0 6 rfl
theorem dX11_takeRow_34 : decode cX11_takeRow 34 = .ok (.istore_n 2, 1) := lw_dr lw_d_cX11_takeRow_0 7 rfl
theorem dX11_takeRow_35 : decode cX11_takeRow 35 = .ok (.iload_n 1, 1) := lw_dr lw_d_cX11_takeRow_0 8 rfl
theorem dX11_takeRow_36 : decode cX11_takeRow 36 = .ok (.ifCond .eq 48, 3) := lw_dr lw_d_cX11_takeRow_0 9 rfl
theorem dX11_takeRow_84 : decode cX11_takeRow 84 = .ok (.aload_n 0, 1) := lw_dr lw_d_cX11_takeRow_0 10 rfl
theorem dX11_takeRow_85 : decode cX11_takeRow 85 = .ok (.getfield 20, 3) := lw_dr lw_d_cX11_takeRow_0 11 rfl
theorem dX11_takeRow_88 : decode cX11_takeRow 88 = .ok (.iconst 0, 1) := lw_dr lw_d_cX11_takeRow_0 12 rfl
theorem dX11_takeRow_89 : decode cX11_takeRow 89 = .ok (.invokevirtual 97, 3) := lw_dr lw_d_cX11_takeRow_0 13 rfl
theorem dX11_takeRow_92 : decode cX11_takeRow 92 = .ok (.iload_n 1, 1) := lw_dr lw_d_cX11_takeRow_0 14 rfl
theorem dX11_takeRow_93 : decode cX11_takeRow 93 = .ok (.ireturn, 1) := lw_dr lw_d_cX11_takeRow_0 15 rfl
theorem dX11_takeRow_10 : decode cX11_takeRow 10 = .ok (.aload_n 0, 1) := lw_dr lw_d_cX11_takeRow_0 16 rfl
theorem dX11_takeRow_11 : decode cX11_takeRow 11 = .ok (.getfield 20, 3) := lw_dr lw_d_cX11_takeRow_0 17 rfl
theorem dX11_takeRow_14 : decode cX11_takeRow 14 = .ok (.invokevirtual 93, 3) := lw_dr lw_d_cX11_takeRow_0 18 rfl
theorem dX11_takeRow_17 : decode cX11_takeRow 17 = .ok (.aload_n 0, 1) := lw_dr lw_d_cX11_takeRow_0 19 rfl
theorem dX11_takeRow_18 : decode cX11_takeRow 18 = .ok (.getfield 69, 3) := lw_dr lw_d_cX11_takeRow_0 20 rfl
theorem dX11_takeRow_21 : decode cX11_takeRow 21 = .ok (.getfield 136, 3) := lw_dr lw_d_cX11_takeRow_0 21 rfl
theorem dX11_takeRow_24 : decode cX11_takeRow 24 = .ok (.if_icmp .ne 7, 3) := lw_dr lw_d_cX11_takeRow_0 22 rfl
theorem dX11_takeRow_27 : decode cX11_takeRow 27 = .ok (.iconst 1, 1) := lw_dr lw_d_cX11_takeRow_0 23 rfl
theorem dX11_takeRow_28 : decode cX11_takeRow 28 = .ok (.goto 4, 3) := lw_dr lw_d_cX11_takeRow_0 24 rfl
theorem dX11_takeRow_39 : decode cX11_takeRow 39 = .ok (.iload_n 2, 1) := lw_dr lw_d_cX11_takeRow_0 25 rfl
theorem dX11_takeRow_40 : decode cX11_takeRow 40 = .ok (.aload_n 0, 1) := lw_dr lw_d_cX11_takeRow_0 26 rfl
theorem dX11_takeRow_41 : decode cX11_takeRow 41 = .ok (.getfield 69, 3) := lw_dr lw_d_cX11_takeRow_0 27 rfl
theorem dX11_takeRow_44 : decode cX11_takeRow 44 = .ok (.getfield 136, 3) := lw_dr lw_d_cX11_takeRow_0 28 rfl
theorem dX11_takeRow_47 : decode cX11_takeRow 47 = .ok (.if_icmp .ge 37, 3) := lw_dr lw_d_cX11_takeRow_0 29 rfl
theorem dX11_takeRow_50 : decode cX11_takeRow 50 = .ok (.aload_n 0, 1) := lw_dr lw_d_cX11_takeRow_0 30 rfl
theorem dX11_takeRow_51 : decode cX11_takeRow 51 = .ok (.getfield 53, 3) := lw_dr lw_d_cX11_takeRow_0 31 rfl
theorem dX11_takeRow_54 : decode cX11_takeRow 54 = .ok (.iload_n 2, 1) := lw_dr lw_d_cX11_takeRow_0 32 rfl
theorem dX11_takeRow_55 : decode cX11_takeRow 55 = .ok (.aload_n 0, 1) := lw_dr lw_d_cX11_takeRow_0 33 rfl
theorem dX11_takeRow_56 : decode cX11_takeRow 56 = .ok (.getfield 20, 3) := lw_dr lw_d_cX11_takeRow_0 34 rfl
theorem dX11_takeRow_59 : decode cX11_takeRow 59 = .ok (.iload_n 2, 1) := lw_dr lw_d_cX11_takeRow_0 35 rfl
theorem dX11_takeRow_60 : decode cX11_takeRow 60 = .ok (.invokevirtual 214, 3) := lw_dr lw_d_cX11_takeRow_0 36 rfl
theorem dX11_takeRow_63 : decode cX11_takeRow 63 = .ok (.iastore, 1) := lw_dr lw_d_cX11_takeRow_0 37 rfl
theorem dX11_takeRow_64 : decode cX11_takeRow 64 = .ok (.aload_n 0, 1) := lw_dr lw_d_cX11_takeRow_0 38 rfl
theorem dX11_takeRow_65 : decode cX11_takeRow 65 = .ok (.getfield 69, 3) := lw_dr lw_d_cX11_takeRow_0 39 rfl
theorem lw_d_cX11_takeRow_68 : lw_dl cX11_takeRow [(68, .aload_n 0, 1), (69, .getfield 53, 3), (72, .iload_n 2, 1), (73, .iaload, 1), (74, .invokevirtual 217, 3), (77, .istore_n 1, 1), (78, .iinc 2 1, 3), (81, .goto (-46), 3)] = true := by decide +kernel
theorem dX11_takeRow_68 : decode cX11_takeRow 68 = .ok (.aload_n 0, 1) := lw_dr lw_d_cX11_takeRow_68 0 rfl
theorem dX11_takeRow_69 : decode cX11_takeRow 69 = .ok (.getfield 53, 3) := lw_dr lw_d_cX11_takeRow_68 1 rfl
theorem dX11_takeRow_72 : decode cX11_takeRow 72 = .ok (.iload_n 2, 1) := lw_dr lw_d_cX11_takeRow_68 2 rfl
theorem dX11_takeRow_73 : decode cX11_takeRow 73 = .ok (.iaload, 1) := lw_dr lw_d_cX11_takeRow_68 3 rfl
theorem dX11_takeRow_74 : decode cX11_takeRow 74 = .ok (.invokevirtual 217, 3) := lw_dr lw_d_cX11_takeRow_68 4 rfl
theorem dX11_takeRow_77 : decode cX11_takeRow 77 = .ok (.istore_n 1, 1) := lw_dr lw_d_cX11_takeRow_68 5 rfl
theorem dX11_takeRow_78 : decode cX11_takeRow 78 = .ok (.iinc 2 1, 3) := lw_dr lw_d_cX11_takeRow_68 6 rfl
theorem dX11_takeRow_81 : decode cX11_takeRow 81 = .ok (.goto (-46), 3) := lw_dr lw_d_cX11_takeRow_68 7 rfl
theorem lw_d_cX11_distance_0 : lw_dl cX11_distance [(0, .aload_n 0, 1), (1, .invokevirtual 201, 3), (4, .ifCond .eq 21, 3), (25, .ldc2_w 212, 3), (28, .lreturn, 1), (7, .aload_n 0, 1), (8, .getfield 69, 3), (11, .aload_n 0, 1), (12, .getfield 53, 3), (15, .aload_n 0, 1), (16, .getfield 49, 3), (19, .invokevirtual 208, 3), (22, .goto 6, 3)] = true := by decide +kernel
theorem dX11_distance_0 : decode cX11_distance 0 = .ok (.aload_n 0, 1) := lw_dr lw_d_cX11_distance_0 0 rfl
theorem dX11_distance_1 : decode cX11_distance 1 = .ok (.invokevirtual 201, 3) := lw_dr lw_d_cX11_distance_0 1 rfl
theorem dX11_distance_4 : decode cX11_distance 4 = .ok (.ifCond .eq 21, 3) := lw_dr lw_d_cX11_distance_0 2 rfl
theorem dX11_distance_25 : decode cX11_distance 25 = .ok (.ldc2_w 212, 3) := lw_dr lw_d_cX11_distance_0 3 rfl
theorem dX11_distance_28 : decode cX11_distance 28 = .ok (.lreturn, 1) := lw_dr lw_d_cX11_distance_0 4 rfl
theorem dX11_distance_7 : decode cX11_distance 7 = .ok (.aload_n 0, 1) := lw_dr lw_d_cX11_distance_0 5 rfl
theorem dX11_distance_8 : decode cX11_distance 8 = .ok (.getfield 69, 3) := lw_dr lw_d_cX11_distance_0 6 rfl
theorem dX11_distance_11 : decode cX11_distance 11 = .ok (.aload_n 0, 1) := lw_dr lw_d_cX11_distance_0 7 rfl
theorem dX11_distance_12 : decode cX11_distance 12 = .ok (.getfield 53, 3) := lw_dr lw_d_cX11_distance_0 8 rfl
theorem dX11_distance_15 : decode cX11_distance 15 = .ok (.aload_n 0, 1) := lw_dr lw_d_cX11_distance_0 9 rfl
theorem dX11_distance_16 : decode cX11_distance 16 = .ok (.getfield 49, 3) := lw_dr lw_d_cX11_distance_0 10 rfl
theorem dX11_distance_19 : decode cX11_distance 19 = .ok (.invokevirtual 208, 3) := lw_dr lw_d_cX11_distance_0 11 rfl
theorem dX11_distance_22 : decode cX11_distance 22 = .ok (.goto 6, 3) := lw_dr lw_d_cX11_distance_0 12 rfl
theorem lw_d_cX11_slips_0 : lw_dl cX11_slips [(0, .iload_n 1, 1), (1, .ifCond .lt 20, 3), (21, .iconst (-1), 1), (22, .ireturn, 1), (4, .iload_n 1, 1), (5, .sipush 9999, 3), (8, .if_icmp .gt 13, 3), (11, .aload_n 0, 1), (12, .getfield 69, 3), (15, .getfield 139, 3), (18, .ifCond .ne 5, 3), (23, .iload_n 2, 1), (24, .i2l, 1), (25, .lstore_n 3, 1), (26, .iconst 0, 1), (27, .istore 5, 2), (29, .iload 5, 2), (31, .aload_n 0, 1), (32, .getfield 69, 3), (35, .getfield 139, 3), (38, .if_icmp .ge 77, 3), (115, .aload_n 0, 1), (116, .getfield 24, 3), (119, .invokevirtual 118, 3), (122, .aload_n 0, 1), (123, .getfield 69, 3), (126, .getfield 139, 3), (129, .ireturn, 1), (41, .ldc2_w 220, 3), (44, .lload_n 3, 1), (45, .lmul, 1), (46, .ldc2_w 222, 3), (49, .ladd, 1), (50, .ldc2_w 224, 3), (53, .land, 1), (54, .lstore_n 3, 1), (55, .lload_n 3, 1), (56, .ldc2_w 226, 3), (59, .ldiv, 1), (60, .ldc2_w 228, 3)] = true := by decide +kernel
theorem dX11_slips_0 : decode cX11_slips 0 = .ok (.iload_n 1, 1) := lw_dr lw_d_cX11_slips_0 0 rfl
theorem dX11_slips_1 : decode cX11_slips 1 = .ok (.ifCond .lt 20, 3) := lw_dr lw_d_cX11_slips_0 1 rfl
theorem dX11_slips_21 : decode cX11_slips 21 = .ok (.iconst (-1), 1) := lw_dr lw_d_cX11_slips_0 2 rfl
theorem dX11_slips_22 : decode cX11_slips 22 = .ok (.ireturn, 1) := lw_dr lw_d_cX11_slips_0 3 rfl
theorem dX11_slips_4 : decode cX11_slips 4 = .ok (.iload_n 1, 1) := lw_dr lw_d_cX11_slips_0 4 rfl
theorem dX11_slips_5 : decode cX11_slips 5 = .ok (.sipush 9999, 3) := lw_dr lw_d_cX11_slips_0 5 rfl
theorem dX11_slips_8 : decode cX11_slips 8 = .ok (.if_icmp .gt 13, 3) := lw_dr lw_d_cX11_slips_0 6 rfl
theorem dX11_slips_11 : decode cX11_slips 11 = .ok (.aload_n 0, 1) := lw_dr lw_d_cX11_slips_0 7 rfl
theorem dX11_slips_12 : decode cX11_slips 12 = .ok (.getfield 69, 3) := lw_dr lw_d_cX11_slips_0 8 rfl
theorem dX11_slips_15 : decode cX11_slips 15 = .ok (.getfield 139, 3) := lw_dr lw_d_cX11_slips_0 9 rfl
theorem dX11_slips_18 : decode cX11_slips 18 = .ok (.ifCond .ne 5, 3) := lw_dr lw_d_cX11_slips_0 10 rfl
theorem dX11_slips_23 : decode cX11_slips 23 = .ok (.iload_n 2, 1) := lw_dr lw_d_cX11_slips_0 11 rfl
theorem dX11_slips_24 : decode cX11_slips 24 = .ok (.i2l, 1) := lw_dr lw_d_cX11_slips_0 12 rfl
theorem dX11_slips_25 : decode cX11_slips 25 = .ok (.lstore_n 3, 1) := lw_dr lw_d_cX11_slips_0 13 rfl
theorem dX11_slips_26 : decode cX11_slips 26 = .ok (.iconst 0, 1) := lw_dr lw_d_cX11_slips_0 14 rfl
theorem dX11_slips_27 : decode cX11_slips 27 = .ok (.istore 5, 2) := lw_dr lw_d_cX11_slips_0 15 rfl
theorem dX11_slips_29 : decode cX11_slips 29 = .ok (.iload 5, 2) := lw_dr lw_d_cX11_slips_0 16 rfl
theorem dX11_slips_31 : decode cX11_slips 31 = .ok (.aload_n 0, 1) := lw_dr lw_d_cX11_slips_0 17 rfl
theorem dX11_slips_32 : decode cX11_slips 32 = .ok (.getfield 69, 3) := lw_dr lw_d_cX11_slips_0 18 rfl
theorem dX11_slips_35 : decode cX11_slips 35 = .ok (.getfield 139, 3) := lw_dr lw_d_cX11_slips_0 19 rfl
theorem dX11_slips_38 : decode cX11_slips 38 = .ok (.if_icmp .ge 77, 3) := lw_dr lw_d_cX11_slips_0 20 rfl
theorem dX11_slips_115 : decode cX11_slips 115 = .ok (.aload_n 0, 1) := lw_dr lw_d_cX11_slips_0 21 rfl
theorem dX11_slips_116 : decode cX11_slips 116 = .ok (.getfield 24, 3) := lw_dr lw_d_cX11_slips_0 22 rfl
theorem dX11_slips_119 : decode cX11_slips 119 = .ok (.invokevirtual 118, 3) := lw_dr lw_d_cX11_slips_0 23 rfl
theorem dX11_slips_122 : decode cX11_slips 122 = .ok (.aload_n 0, 1) := lw_dr lw_d_cX11_slips_0 24 rfl
theorem dX11_slips_123 : decode cX11_slips 123 = .ok (.getfield 69, 3) := lw_dr lw_d_cX11_slips_0 25 rfl
theorem dX11_slips_126 : decode cX11_slips 126 = .ok (.getfield 139, 3) := lw_dr lw_d_cX11_slips_0 26 rfl
theorem dX11_slips_129 : decode cX11_slips 129 = .ok (.ireturn, 1) := lw_dr lw_d_cX11_slips_0 27 rfl
theorem dX11_slips_41 : decode cX11_slips 41 = .ok (.ldc2_w 220, 3) := lw_dr lw_d_cX11_slips_0 28 rfl
theorem dX11_slips_44 : decode cX11_slips 44 = .ok (.lload_n 3, 1) := lw_dr lw_d_cX11_slips_0 29 rfl
theorem dX11_slips_45 : decode cX11_slips 45 = .ok (.lmul, 1) := lw_dr lw_d_cX11_slips_0 30 rfl
theorem dX11_slips_46 : decode cX11_slips 46 = .ok (.ldc2_w 222, 3) := lw_dr lw_d_cX11_slips_0 31 rfl
theorem dX11_slips_49 : decode cX11_slips 49 = .ok (.ladd, 1) := lw_dr lw_d_cX11_slips_0 32 rfl
theorem dX11_slips_50 : decode cX11_slips 50 = .ok (.ldc2_w 224, 3) := lw_dr lw_d_cX11_slips_0 33 rfl
theorem dX11_slips_53 : decode cX11_slips 53 = .ok (.land, 1) := lw_dr lw_d_cX11_slips_0 34 rfl
theorem dX11_slips_54 : decode cX11_slips 54 = .ok (.lstore_n 3, 1) := lw_dr lw_d_cX11_slips_0 35 rfl
theorem dX11_slips_55 : decode cX11_slips 55 = .ok (.lload_n 3, 1) := lw_dr lw_d_cX11_slips_0 36 rfl
theorem dX11_slips_56 : decode cX11_slips 56 = .ok (.ldc2_w 226, 3) := lw_dr lw_d_cX11_slips_0 37 rfl
theorem dX11_slips_59 : decode cX11_slips 59 = .ok (.ldiv, 1) := lw_dr lw_d_cX11_slips_0 38 rfl
theorem dX11_slips_60 : decode cX11_slips 60 = .ok (.ldc2_w 228, 3) := lw_dr lw_d_cX11_slips_0 39 rfl
theorem lw_d_cX11_slips_63 : lw_dl cX11_slips [(63, .iload_n 1, 1), (64, .i2l, 1), (65, .lmul, 1), (66, .lconst 1, 1), (67, .ladd, 1), (68, .lrem, 1), (69, .iload_n 1, 1), (70, .i2l, 1), (71, .lsub, 1), (72, .lstore 6, 2), (74, .aload_n 0, 1), (75, .getfield 49, 3), (78, .iload 5, 2), (80, .iaload, 1), (81, .i2l, 1), (82, .lload 6, 2), (84, .ladd, 1), (85, .lstore 8, 2), (87, .aload_n 0, 1), (88, .getfield 49, 3), (91, .iload 5, 2), (93, .ldc2_w 230, 3), (96, .ldc2_w 232, 3), (99, .lload 8, 2), (101, .invokestatic 234, 3), (104, .invokestatic 240, 3), (107, .l2i, 1), (108, .iastore, 1), (109, .iinc 5 1, 3), (112, .goto (-83), 3)] = true := by decide +kernel
theorem dX11_slips_63 : decode cX11_slips 63 = .ok (.iload_n 1, 1) := lw_dr lw_d_cX11_slips_63 0 rfl
theorem dX11_slips_64 : decode cX11_slips 64 = .ok (.i2l, 1) := lw_dr lw_d_cX11_slips_63 1 rfl
theorem dX11_slips_65 : decode cX11_slips 65 = .ok (.lmul, 1) := lw_dr lw_d_cX11_slips_63 2 rfl
theorem dX11_slips_66 : decode cX11_slips 66 = .ok (.lconst 1, 1) := lw_dr lw_d_cX11_slips_63 3 rfl
theorem dX11_slips_67 : decode cX11_slips 67 = .ok (.ladd, 1) := lw_dr lw_d_cX11_slips_63 4 rfl
theorem dX11_slips_68 : decode cX11_slips 68 = .ok (.lrem, 1) := lw_dr lw_d_cX11_slips_63 5 rfl
theorem dX11_slips_69 : decode cX11_slips 69 = .ok (.iload_n 1, 1) := lw_dr lw_d_cX11_slips_63 6 rfl
theorem dX11_slips_70 : decode cX11_slips 70 = .ok (.i2l, 1) := lw_dr lw_d_cX11_slips_63 7 rfl
theorem dX11_slips_71 : decode cX11_slips 71 = .ok (.lsub, 1) := lw_dr lw_d_cX11_slips_63 8 rfl
theorem dX11_slips_72 : decode cX11_slips 72 = .ok (.lstore 6, 2) := lw_dr lw_d_cX11_slips_63 9 rfl
theorem dX11_slips_74 : decode cX11_slips 74 = .ok (.aload_n 0, 1) := lw_dr lw_d_cX11_slips_63 10 rfl
theorem dX11_slips_75 : decode cX11_slips 75 = .ok (.getfield 49, 3) := lw_dr lw_d_cX11_slips_63 11 rfl
theorem dX11_slips_78 : decode cX11_slips 78 = .ok (.iload 5, 2) := lw_dr lw_d_cX11_slips_63 12 rfl
theorem dX11_slips_80 : decode cX11_slips 80 = .ok (.iaload, 1) := lw_dr lw_d_cX11_slips_63 13 rfl
theorem dX11_slips_81 : decode cX11_slips 81 = .ok (.i2l, 1) := lw_dr lw_d_cX11_slips_63 14 rfl
theorem dX11_slips_82 : decode cX11_slips 82 = .ok (.lload 6, 2) := lw_dr lw_d_cX11_slips_63 15 rfl
theorem dX11_slips_84 : decode cX11_slips 84 = .ok (.ladd, 1) := lw_dr lw_d_cX11_slips_63 16 rfl
theorem dX11_slips_85 : decode cX11_slips 85 = .ok (.lstore 8, 2) := lw_dr lw_d_cX11_slips_63 17 rfl
theorem dX11_slips_87 : decode cX11_slips 87 = .ok (.aload_n 0, 1) := lw_dr lw_d_cX11_slips_63 18 rfl
theorem dX11_slips_88 : decode cX11_slips 88 = .ok (.getfield 49, 3) := lw_dr lw_d_cX11_slips_63 19 rfl
theorem dX11_slips_91 : decode cX11_slips 91 = .ok (.iload 5, 2) := lw_dr lw_d_cX11_slips_63 20 rfl
theorem dX11_slips_93 : decode cX11_slips 93 = .ok (.ldc2_w 230, 3) := lw_dr lw_d_cX11_slips_63 21 rfl
theorem dX11_slips_96 : decode cX11_slips 96 = .ok (.ldc2_w 232, 3) := lw_dr lw_d_cX11_slips_63 22 rfl
theorem dX11_slips_99 : decode cX11_slips 99 = .ok (.lload 8, 2) := lw_dr lw_d_cX11_slips_63 23 rfl
theorem dX11_slips_101 : decode cX11_slips 101 = .ok (.invokestatic 234, 3) := lw_dr lw_d_cX11_slips_63 24 rfl
theorem dX11_slips_104 : decode cX11_slips 104 = .ok (.invokestatic 240, 3) := lw_dr lw_d_cX11_slips_63 25 rfl
theorem dX11_slips_107 : decode cX11_slips 107 = .ok (.l2i, 1) := lw_dr lw_d_cX11_slips_63 26 rfl
theorem dX11_slips_108 : decode cX11_slips 108 = .ok (.iastore, 1) := lw_dr lw_d_cX11_slips_63 27 rfl
theorem dX11_slips_109 : decode cX11_slips 109 = .ok (.iinc 5 1, 3) := lw_dr lw_d_cX11_slips_63 28 rfl
theorem dX11_slips_112 : decode cX11_slips 112 = .ok (.goto (-83), 3) := lw_dr lw_d_cX11_slips_63 29 rfl
theorem lw_d_cX11_nearest_0 : lw_dl cX11_nearest [(0, .aload_n 0, 1), (1, .getfield 69, 3)] = true := by decide +kernel
theorem dX11_nearest_0 : decode cX11_nearest 0 = .ok (.aload_n 0, 1) := lw_dr lw_d_cX11_nearest_0 0 rfl
theorem dX11_nearest_1 : decode cX11_nearest 1 = .ok (.getfield 69, 3) := lw_dr lw_d_cX11_nearest_0 1 rfl
