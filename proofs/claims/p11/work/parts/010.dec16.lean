theorem lw_d_cX12_cancels_40 : lw_dl cX12_cancels [(40, .if_icmp .ge 115, 3), (155, .return_, 1), (43, .aload_n 0, 1), (44, .getfield 112, 3), (47, .iload_n 1, 1), (48, .iaload, 1), (49, .istore_n 2, 1), (50, .iconst 1, 1), (51, .aload_n 0, 1), (52, .getfield 234, 3), (55, .isub, 1), (56, .istore_n 3, 1), (57, .iconst 3, 1), (58, .aload_n 0, 1), (59, .getfield 234, 3), (62, .isub, 1), (63, .istore 4, 2), (65, .iload 4, 2), (67, .aload_n 0, 1), (68, .getfield 234, 3), (71, .if_icmp .ge 29, 3), (100, .aload_n 0, 1), (101, .getfield 115, 3), (104, .iload_n 2, 1), (105, .iload_n 3, 1), (106, .iastore, 1), (107, .iconst 0, 1), (108, .istore 4, 2), (110, .iload 4, 2), (112, .aload_n 0, 1), (113, .getfield 240, 3), (116, .if_icmp .ge 33, 3), (149, .iinc 1 1, 3), (152, .goto (-117), 3), (74, .aload_n 0, 1), (75, .iload_n 2, 1), (76, .iload 4, 2), (78, .invokevirtual 422, 3), (81, .aload_n 0, 1), (82, .iload_n 2, 1)] = true := by decide +kernel
theorem dX12_cancels_40 : decode cX12_cancels 40 = .ok (.if_icmp .ge 115, 3) := lw_dr lw_d_cX12_cancels_40 0 rfl
theorem dX12_cancels_155 : decode cX12_cancels 155 = .ok (.return_, 1) := lw_dr lw_d_cX12_cancels_40 1 rfl
theorem dX12_cancels_43 : decode cX12_cancels 43 = .ok (.aload_n 0, 1) := lw_dr lw_d_cX12_cancels_40 2 rfl
theorem dX12_cancels_44 : decode cX12_cancels 44 = .ok (.getfield 112, 3) := lw_dr lw_d_cX12_cancels_40 3 rfl
theorem dX12_cancels_47 : decode cX12_cancels 47 = .ok (.iload_n 1, 1) := lw_dr lw_d_cX12_cancels_40 4 rfl
theorem dX12_cancels_48 : decode cX12_cancels 48 = .ok (.iaload, 1) := lw_dr lw_d_cX12_cancels_40 5 rfl
theorem dX12_cancels_49 : decode cX12_cancels 49 = .ok (.istore_n 2, 1) := lw_dr lw_d_cX12_cancels_40 6 rfl
theorem dX12_cancels_50 : decode cX12_cancels 50 = .ok (.iconst 1, 1) := lw_dr lw_d_cX12_cancels_40 7 rfl
theorem dX12_cancels_51 : decode cX12_cancels 51 = .ok (.aload_n 0, 1) := lw_dr lw_d_cX12_cancels_40 8 rfl
theorem dX12_cancels_52 : decode cX12_cancels 52 = .ok (.getfield 234, 3) := lw_dr lw_d_cX12_cancels_40 9 rfl
theorem dX12_cancels_55 : decode cX12_cancels 55 = .ok (.isub, 1) := lw_dr lw_d_cX12_cancels_40 10 rfl
theorem dX12_cancels_56 : decode cX12_cancels 56 = .ok (.istore_n 3, 1) := lw_dr lw_d_cX12_cancels_40 11 rfl
theorem dX12_cancels_57 : decode cX12_cancels 57 = .ok (.iconst 3, 1) := lw_dr lw_d_cX12_cancels_40 12 rfl
theorem dX12_cancels_58 : decode cX12_cancels 58 = .ok (.aload_n 0, 1) := lw_dr lw_d_cX12_cancels_40 13 rfl
theorem dX12_cancels_59 : decode cX12_cancels 59 = .ok (.getfield 234, 3) := lw_dr lw_d_cX12_cancels_40 14 rfl
theorem dX12_cancels_62 : decode cX12_cancels 62 = .ok (.isub, 1) := lw_dr lw_d_cX12_cancels_40 15 rfl
theorem dX12_cancels_63 : decode cX12_cancels 63 = .ok (.istore 4, 2) := lw_dr lw_d_cX12_cancels_40 16 rfl
theorem dX12_cancels_65 : decode cX12_cancels 65 = .ok (.iload 4, 2) := lw_dr lw_d_cX12_cancels_40 17 rfl
theorem dX12_cancels_67 : decode cX12_cancels 67 = .ok (.aload_n 0, 1) := lw_dr lw_d_cX12_cancels_40 18 rfl
theorem dX12_cancels_68 : decode cX12_cancels 68 = .ok (.getfield 234, 3) := lw_dr lw_d_cX12_cancels_40 19 rfl
theorem dX12_cancels_71 : decode cX12_cancels 71 = .ok (.if_icmp .ge 29, 3) := lw_dr lw_d_cX12_cancels_40 20 rfl
theorem dX12_cancels_100 : decode cX12_cancels 100 = .ok (.aload_n 0, 1) := lw_dr lw_d_cX12_cancels_40 21 rfl
theorem dX12_cancels_101 : decode cX12_cancels 101 = .ok (.getfield 115, 3) := lw_dr lw_d_cX12_cancels_40 22 rfl
theorem dX12_cancels_104 : decode cX12_cancels 104 = .ok (.iload_n 2, 1) := lw_dr lw_d_cX12_cancels_40 23 rfl
theorem dX12_cancels_105 : decode cX12_cancels 105 = .ok (.iload_n 3, 1) := lw_dr lw_d_cX12_cancels_40 24 rfl
theorem dX12_cancels_106 : decode cX12_cancels 106 = .ok (.iastore, 1) := lw_dr lw_d_cX12_cancels_40 25 rfl
theorem dX12_cancels_107 : decode cX12_cancels 107 = .ok (.iconst 0, 1) := lw_dr lw_d_cX12_cancels_40 26 rfl
theorem dX12_cancels_108 : decode cX12_cancels 108 = .ok (.istore 4, 2) := lw_dr lw_d_cX12_cancels_40 27 rfl
theorem dX12_cancels_110 : decode cX12_cancels 110 = .ok (.iload 4, 2) := lw_dr lw_d_cX12_cancels_40 28 rfl
theorem dX12_cancels_112 : decode cX12_cancels 112 = .ok (.aload_n 0, 1) := lw_dr lw_d_cX12_cancels_40 29 rfl
theorem dX12_cancels_113 : decode cX12_cancels 113 = .ok (.getfield 240, 3) := lw_dr lw_d_cX12_cancels_40 30 rfl
theorem dX12_cancels_116 : decode cX12_cancels 116 = .ok (.if_icmp .ge 33, 3) := lw_dr lw_d_cX12_cancels_40 31 rfl
theorem dX12_cancels_149 : decode cX12_cancels 149 = .ok (.iinc 1 1, 3) := lw_dr lw_d_cX12_cancels_40 32 rfl
theorem dX12_cancels_152 : decode cX12_cancels 152 = .ok (.goto (-117), 3) := lw_dr lw_d_cX12_cancels_40 33 rfl
theorem dX12_cancels_74 : decode cX12_cancels 74 = .ok (.aload_n 0, 1) := lw_dr lw_d_cX12_cancels_40 34 rfl
theorem dX12_cancels_75 : decode cX12_cancels 75 = .ok (.iload_n 2, 1) := lw_dr lw_d_cX12_cancels_40 35 rfl
theorem dX12_cancels_76 : decode cX12_cancels 76 = .ok (.iload 4, 2) := lw_dr lw_d_cX12_cancels_40 36 rfl
theorem dX12_cancels_78 : decode cX12_cancels 78 = .ok (.invokevirtual 422, 3) := lw_dr lw_d_cX12_cancels_40 37 rfl
theorem dX12_cancels_81 : decode cX12_cancels 81 = .ok (.aload_n 0, 1) := lw_dr lw_d_cX12_cancels_40 38 rfl
theorem dX12_cancels_82 : decode cX12_cancels 82 = .ok (.iload_n 2, 1) := lw_dr lw_d_cX12_cancels_40 39 rfl
theorem lw_d_cX12_cancels_83 : lw_dl cX12_cancels [(83, .iload_n 3, 1), (84, .invokevirtual 422, 3), (87, .lcmp, 1), (88, .ifCond .ge 6, 3), (94, .iinc 4 2, 3), (97, .goto (-32), 3), (91, .iload 4, 2), (93, .istore_n 3, 1), (14, .aload_n 0, 1), (15, .getfield 118, 3), (18, .iload_n 1, 1), (19, .aload_n 0, 1), (20, .getfield 100, 3), (23, .iload_n 1, 1), (24, .iaload, 1), (25, .i2l, 1), (26, .lastore, 1), (27, .iinc 1 1, 3), (30, .goto (-24), 3), (119, .aload_n 0, 1), (120, .getfield 118, 3), (123, .iload 4, 2), (125, .dup2, 1), (126, .laload, 1), (127, .aload_n 0, 1), (128, .getfield 69, 3), (131, .iconst 5, 1), (132, .iload 4, 2), (134, .imul, 1), (135, .iload_n 2, 1), (136, .iadd, 1), (137, .iaload, 1), (138, .iload_n 3, 1), (139, .imul, 1), (140, .i2l, 1), (141, .lsub, 1), (142, .lastore, 1), (143, .iinc 4 1, 3), (146, .goto (-36), 3)] = true := by decide +kernel
theorem dX12_cancels_83 : decode cX12_cancels 83 = .ok (.iload_n 3, 1) := lw_dr lw_d_cX12_cancels_83 0 rfl
theorem dX12_cancels_84 : decode cX12_cancels 84 = .ok (.invokevirtual 422, 3) := lw_dr lw_d_cX12_cancels_83 1 rfl
theorem dX12_cancels_87 : decode cX12_cancels 87 = .ok (.lcmp, 1) := lw_dr lw_d_cX12_cancels_83 2 rfl
theorem dX12_cancels_88 : decode cX12_cancels 88 = .ok (.ifCond .ge 6, 3) := lw_dr lw_d_cX12_cancels_83 3 rfl
theorem dX12_cancels_94 : decode cX12_cancels 94 = .ok (.iinc 4 2, 3) := lw_dr lw_d_cX12_cancels_83 4 rfl
theorem dX12_cancels_97 : decode cX12_cancels 97 = .ok (.goto (-32), 3) := lw_dr lw_d_cX12_cancels_83 5 rfl
theorem dX12_cancels_91 : decode cX12_cancels 91 = .ok (.iload 4, 2) := lw_dr lw_d_cX12_cancels_83 6 rfl
theorem dX12_cancels_93 : decode cX12_cancels 93 = .ok (.istore_n 3, 1) := lw_dr lw_d_cX12_cancels_83 7 rfl
theorem dX12_cancels_14 : decode cX12_cancels 14 = .ok (.aload_n 0, 1) := lw_dr lw_d_cX12_cancels_83 8 rfl
theorem dX12_cancels_15 : decode cX12_cancels 15 = .ok (.getfield 118, 3) := lw_dr lw_d_cX12_cancels_83 9 rfl
theorem dX12_cancels_18 : decode cX12_cancels 18 = .ok (.iload_n 1, 1) := lw_dr lw_d_cX12_cancels_83 10 rfl
theorem dX12_cancels_19 : decode cX12_cancels 19 = .ok (.aload_n 0, 1) := lw_dr lw_d_cX12_cancels_83 11 rfl
theorem dX12_cancels_20 : decode cX12_cancels 20 = .ok (.getfield 100, 3) := lw_dr lw_d_cX12_cancels_83 12 rfl
theorem dX12_cancels_23 : decode cX12_cancels 23 = .ok (.iload_n 1, 1) := lw_dr lw_d_cX12_cancels_83 13 rfl
theorem dX12_cancels_24 : decode cX12_cancels 24 = .ok (.iaload, 1) := lw_dr lw_d_cX12_cancels_83 14 rfl
theorem dX12_cancels_25 : decode cX12_cancels 25 = .ok (.i2l, 1) := lw_dr lw_d_cX12_cancels_83 15 rfl
theorem dX12_cancels_26 : decode cX12_cancels 26 = .ok (.lastore, 1) := lw_dr lw_d_cX12_cancels_83 16 rfl
theorem dX12_cancels_27 : decode cX12_cancels 27 = .ok (.iinc 1 1, 3) := lw_dr lw_d_cX12_cancels_83 17 rfl
theorem dX12_cancels_30 : decode cX12_cancels 30 = .ok (.goto (-24), 3) := lw_dr lw_d_cX12_cancels_83 18 rfl
theorem dX12_cancels_119 : decode cX12_cancels 119 = .ok (.aload_n 0, 1) := lw_dr lw_d_cX12_cancels_83 19 rfl
theorem dX12_cancels_120 : decode cX12_cancels 120 = .ok (.getfield 118, 3) := lw_dr lw_d_cX12_cancels_83 20 rfl
theorem dX12_cancels_123 : decode cX12_cancels 123 = .ok (.iload 4, 2) := lw_dr lw_d_cX12_cancels_83 21 rfl
theorem dX12_cancels_125 : decode cX12_cancels 125 = .ok (.dup2, 1) := lw_dr lw_d_cX12_cancels_83 22 rfl
theorem dX12_cancels_126 : decode cX12_cancels 126 = .ok (.laload, 1) := lw_dr lw_d_cX12_cancels_83 23 rfl
theorem dX12_cancels_127 : decode cX12_cancels 127 = .ok (.aload_n 0, 1) := lw_dr lw_d_cX12_cancels_83 24 rfl
theorem dX12_cancels_128 : decode cX12_cancels 128 = .ok (.getfield 69, 3) := lw_dr lw_d_cX12_cancels_83 25 rfl
theorem dX12_cancels_131 : decode cX12_cancels 131 = .ok (.iconst 5, 1) := lw_dr lw_d_cX12_cancels_83 26 rfl
theorem dX12_cancels_132 : decode cX12_cancels 132 = .ok (.iload 4, 2) := lw_dr lw_d_cX12_cancels_83 27 rfl
theorem dX12_cancels_134 : decode cX12_cancels 134 = .ok (.imul, 1) := lw_dr lw_d_cX12_cancels_83 28 rfl
theorem dX12_cancels_135 : decode cX12_cancels 135 = .ok (.iload_n 2, 1) := lw_dr lw_d_cX12_cancels_83 29 rfl
theorem dX12_cancels_136 : decode cX12_cancels 136 = .ok (.iadd, 1) := lw_dr lw_d_cX12_cancels_83 30 rfl
theorem dX12_cancels_137 : decode cX12_cancels 137 = .ok (.iaload, 1) := lw_dr lw_d_cX12_cancels_83 31 rfl
theorem dX12_cancels_138 : decode cX12_cancels 138 = .ok (.iload_n 3, 1) := lw_dr lw_d_cX12_cancels_83 32 rfl
theorem dX12_cancels_139 : decode cX12_cancels 139 = .ok (.imul, 1) := lw_dr lw_d_cX12_cancels_83 33 rfl
theorem dX12_cancels_140 : decode cX12_cancels 140 = .ok (.i2l, 1) := lw_dr lw_d_cX12_cancels_83 34 rfl
theorem dX12_cancels_141 : decode cX12_cancels 141 = .ok (.lsub, 1) := lw_dr lw_d_cX12_cancels_83 35 rfl
theorem dX12_cancels_142 : decode cX12_cancels 142 = .ok (.lastore, 1) := lw_dr lw_d_cX12_cancels_83 36 rfl
theorem dX12_cancels_143 : decode cX12_cancels 143 = .ok (.iinc 4 1, 3) := lw_dr lw_d_cX12_cancels_83 37 rfl
theorem dX12_cancels_146 : decode cX12_cancels 146 = .ok (.goto (-36), 3) := lw_dr lw_d_cX12_cancels_83 38 rfl
theorem lw_d_cX12_restBy_0 : lw_dl cX12_restBy [(0, .lconst 0, 1), (1, .lstore_n 3, 1), (2, .iconst 0, 1), (3, .istore 5, 2), (5, .iload 5, 2), (7, .aload_n 0, 1), (8, .getfield 240, 3), (11, .if_icmp .ge 41, 3), (52, .lload_n 3, 1), (53, .lreturn, 1), (14, .aload_n 0, 1), (15, .getfield 118, 3), (18, .iload 5, 2), (20, .laload, 1), (21, .aload_n 0, 1), (22, .getfield 69, 3), (25, .iconst 5, 1), (26, .iload 5, 2), (28, .imul, 1), (29, .iload_n 1, 1), (30, .iadd, 1), (31, .iaload, 1), (32, .iload_n 2, 1), (33, .imul, 1), (34, .i2l, 1), (35, .lsub, 1), (36, .lstore 6, 2), (38, .lload_n 3, 1), (39, .lload 6, 2), (41, .lload 6, 2), (43, .lmul, 1), (44, .ladd, 1), (45, .lstore_n 3, 1), (46, .iinc 5 1, 3), (49, .goto (-44), 3)] = true := by decide +kernel
theorem dX12_restBy_0 : decode cX12_restBy 0 = .ok (.lconst 0, 1) := lw_dr lw_d_cX12_restBy_0 0 rfl
theorem dX12_restBy_1 : decode cX12_restBy 1 = .ok (.lstore_n 3, 1) := lw_dr lw_d_cX12_restBy_0 1 rfl
theorem dX12_restBy_2 : decode cX12_restBy 2 = .ok (.iconst 0, 1) := lw_dr lw_d_cX12_restBy_0 2 rfl
theorem dX12_restBy_3 : decode cX12_restBy 3 = .ok (.istore 5, 2) := lw_dr lw_d_cX12_restBy_0 3 rfl
theorem dX12_restBy_5 : decode cX12_restBy 5 = .ok (.iload 5, 2) := lw_dr lw_d_cX12_restBy_0 4 rfl
theorem dX12_restBy_7 : decode cX12_restBy 7 = .ok (.aload_n 0, 1) := lw_dr lw_d_cX12_restBy_0 5 rfl
theorem dX12_restBy_8 : decode cX12_restBy 8 = .ok (.getfield 240, 3) := lw_dr lw_d_cX12_restBy_0 6 rfl
theorem dX12_restBy_11 : decode cX12_restBy 11 = .ok (.if_icmp .ge 41, 3) := lw_dr lw_d_cX12_restBy_0 7 rfl
theorem dX12_restBy_52 : decode cX12_restBy 52 = .ok (.lload_n 3, 1) := lw_dr lw_d_cX12_restBy_0 8 rfl
theorem dX12_restBy_53 : decode cX12_restBy 53 = .ok (.lreturn, 1) := lw_dr lw_d_cX12_restBy_0 9 rfl
theorem dX12_restBy_14 : decode cX12_restBy 14 = .ok (.aload_n 0, 1) := lw_dr lw_d_cX12_restBy_0 10 rfl
theorem dX12_restBy_15 : decode cX12_restBy 15 = .ok (.getfield 118, 3) := lw_dr lw_d_cX12_restBy_0 11 rfl
theorem dX12_restBy_18 : decode cX12_restBy 18 = .ok (.iload 5, 2) := lw_dr lw_d_cX12_restBy_0 12 rfl
theorem dX12_restBy_20 : decode cX12_restBy 20 = .ok (.laload, 1) := lw_dr lw_d_cX12_restBy_0 13 rfl
theorem dX12_restBy_21 : decode cX12_restBy 21 = .ok (.aload_n 0, 1) := lw_dr lw_d_cX12_restBy_0 14 rfl
theorem dX12_restBy_22 : decode cX12_restBy 22 = .ok (.getfield 69, 3) := lw_dr lw_d_cX12_restBy_0 15 rfl
theorem dX12_restBy_25 : decode cX12_restBy 25 = .ok (.iconst 5, 1) := lw_dr lw_d_cX12_restBy_0 16 rfl
theorem dX12_restBy_26 : decode cX12_restBy 26 = .ok (.iload 5, 2) := lw_dr lw_d_cX12_restBy_0 17 rfl
theorem dX12_restBy_28 : decode cX12_restBy 28 = .ok (.imul, 1) := lw_dr lw_d_cX12_restBy_0 18 rfl
theorem dX12_restBy_29 : decode cX12_restBy 29 = .ok (.iload_n 1, 1) := lw_dr lw_d_cX12_restBy_0 19 rfl
theorem dX12_restBy_30 : decode cX12_restBy 30 = .ok (.iadd, 1) := lw_dr lw_d_cX12_restBy_0 20 rfl
theorem dX12_restBy_31 : decode cX12_restBy 31 = .ok (.iaload, 1) := lw_dr lw_d_cX12_restBy_0 21 rfl
theorem dX12_restBy_32 : decode cX12_restBy 32 = .ok (.iload_n 2, 1) := lw_dr lw_d_cX12_restBy_0 22 rfl
theorem dX12_restBy_33 : decode cX12_restBy 33 = .ok (.imul, 1) := lw_dr lw_d_cX12_restBy_0 23 rfl
theorem dX12_restBy_34 : decode cX12_restBy 34 = .ok (.i2l, 1) := lw_dr lw_d_cX12_restBy_0 24 rfl
theorem dX12_restBy_35 : decode cX12_restBy 35 = .ok (.lsub, 1) := lw_dr lw_d_cX12_restBy_0 25 rfl
theorem dX12_restBy_36 : decode cX12_restBy 36 = .ok (.lstore 6, 2) := lw_dr lw_d_cX12_restBy_0 26 rfl
theorem dX12_restBy_38 : decode cX12_restBy 38 = .ok (.lload_n 3, 1) := lw_dr lw_d_cX12_restBy_0 27 rfl
theorem dX12_restBy_39 : decode cX12_restBy 39 = .ok (.lload 6, 2) := lw_dr lw_d_cX12_restBy_0 28 rfl
theorem dX12_restBy_41 : decode cX12_restBy 41 = .ok (.lload 6, 2) := lw_dr lw_d_cX12_restBy_0 29 rfl
theorem dX12_restBy_43 : decode cX12_restBy 43 = .ok (.lmul, 1) := lw_dr lw_d_cX12_restBy_0 30 rfl
theorem dX12_restBy_44 : decode cX12_restBy 44 = .ok (.ladd, 1) := lw_dr lw_d_cX12_restBy_0 31 rfl
theorem dX12_restBy_45 : decode cX12_restBy 45 = .ok (.lstore_n 3, 1) := lw_dr lw_d_cX12_restBy_0 32 rfl
theorem dX12_restBy_46 : decode cX12_restBy 46 = .ok (.iinc 5 1, 3) := lw_dr lw_d_cX12_restBy_0 33 rfl
theorem dX12_restBy_49 : decode cX12_restBy 49 = .ok (.goto (-44), 3) := lw_dr lw_d_cX12_restBy_0 34 rfl
theorem lw_d_cX12_cancel_16 : lw_dl cX12_cancel [(16, .aload_n 0, 1), (17, .getfield 115, 3), (20, .iload_n 1, 1), (21, .iaload, 1), (22, .ireturn, 1), (8, .ldc_w 364, 3), (11, .ireturn, 1)] = true := by decide +kernel
theorem dX12_cancel_16 : decode cX12_cancel 16 = .ok (.aload_n 0, 1) := lw_dr lw_d_cX12_cancel_16 0 rfl
theorem dX12_cancel_17 : decode cX12_cancel 17 = .ok (.getfield 115, 3) := lw_dr lw_d_cX12_cancel_16 1 rfl
theorem dX12_cancel_20 : decode cX12_cancel 20 = .ok (.iload_n 1, 1) := lw_dr lw_d_cX12_cancel_16 2 rfl
theorem dX12_cancel_21 : decode cX12_cancel 21 = .ok (.iaload, 1) := lw_dr lw_d_cX12_cancel_16 3 rfl
theorem dX12_cancel_22 : decode cX12_cancel 22 = .ok (.ireturn, 1) := lw_dr lw_d_cX12_cancel_16 4 rfl
theorem dX12_cancel_8 : decode cX12_cancel 8 = .ok (.ldc_w 364, 3) := lw_dr lw_d_cX12_cancel_16 5 rfl
theorem dX12_cancel_11 : decode cX12_cancel 11 = .ok (.ireturn, 1) := lw_dr lw_d_cX12_cancel_16 6 rfl
theorem lw_d_cX12_order_0 : lw_dl cX12_order [(0, .aload_n 0, 1), (1, .iload_n 1, 1), (2, .invokevirtual 361, 3), (5, .ifCond .ne 5, 3), (10, .aload_n 0, 1), (11, .invokevirtual 419, 3), (14, .aload_n 0, 1), (15, .getfield 112, 3), (18, .iload_n 1, 1), (19, .iaload, 1), (20, .ireturn, 1), (8, .iconst (-1), 1), (9, .ireturn, 1)] = true := by decide +kernel
theorem dX12_order_0 : decode cX12_order 0 = .ok (.aload_n 0, 1) := lw_dr lw_d_cX12_order_0 0 rfl
theorem dX12_order_1 : decode cX12_order 1 = .ok (.iload_n 1, 1) := lw_dr lw_d_cX12_order_0 1 rfl
theorem dX12_order_2 : decode cX12_order 2 = .ok (.invokevirtual 361, 3) := lw_dr lw_d_cX12_order_0 2 rfl
theorem dX12_order_5 : decode cX12_order 5 = .ok (.ifCond .ne 5, 3) := lw_dr lw_d_cX12_order_0 3 rfl
theorem dX12_order_10 : decode cX12_order 10 = .ok (.aload_n 0, 1) := lw_dr lw_d_cX12_order_0 4 rfl
theorem dX12_order_11 : decode cX12_order 11 = .ok (.invokevirtual 419, 3) := lw_dr lw_d_cX12_order_0 5 rfl
theorem dX12_order_14 : decode cX12_order 14 = .ok (.aload_n 0, 1) := lw_dr lw_d_cX12_order_0 6 rfl
theorem dX12_order_15 : decode cX12_order 15 = .ok (.getfield 112, 3) := lw_dr lw_d_cX12_order_0 7 rfl
theorem dX12_order_18 : decode cX12_order 18 = .ok (.iload_n 1, 1) := lw_dr lw_d_cX12_order_0 8 rfl
theorem dX12_order_19 : decode cX12_order 19 = .ok (.iaload, 1) := lw_dr lw_d_cX12_order_0 9 rfl
theorem dX12_order_20 : decode cX12_order 20 = .ok (.ireturn, 1) := lw_dr lw_d_cX12_order_0 10 rfl
theorem dX12_order_8 : decode cX12_order 8 = .ok (.iconst (-1), 1) := lw_dr lw_d_cX12_order_0 11 rfl
theorem dX12_order_9 : decode cX12_order 9 = .ok (.ireturn, 1) := lw_dr lw_d_cX12_order_0 12 rfl
theorem lw_d_cX12_left_0 : lw_dl cX12_left [(0, .aload_n 0, 1), (1, .getfield 237, 3), (4, .ifCond .ne 7, 3), (11, .aload_n 0, 1), (12, .invokevirtual 426, 3), (15, .lconst 0, 1), (16, .lstore_n 1, 1), (17, .iconst 0, 1), (18, .istore_n 3, 1), (19, .iload_n 3, 1), (20, .aload_n 0, 1), (21, .getfield 240, 3), (24, .if_icmp .ge 25, 3), (49, .lload_n 1, 1), (50, .lreturn, 1), (27, .lload_n 1, 1), (28, .aload_n 0, 1), (29, .getfield 118, 3), (32, .iload_n 3, 1), (33, .laload, 1), (34, .aload_n 0, 1), (35, .getfield 118, 3), (38, .iload_n 3, 1), (39, .laload, 1), (40, .lmul, 1), (41, .ladd, 1), (42, .lstore_n 1, 1), (43, .iinc 3 1, 3), (46, .goto (-27), 3), (7, .ldc2_w 384, 3), (10, .lreturn, 1)] = true := by decide +kernel
theorem dX12_left_0 : decode cX12_left 0 = .ok (.aload_n 0, 1) := lw_dr lw_d_cX12_left_0 0 rfl
theorem dX12_left_1 : decode cX12_left 1 = .ok (.getfield 237, 3) := lw_dr lw_d_cX12_left_0 1 rfl
theorem dX12_left_4 : decode cX12_left 4 = .ok (.ifCond .ne 7, 3) := lw_dr lw_d_cX12_left_0 2 rfl
theorem dX12_left_11 : decode cX12_left 11 = .ok (.aload_n 0, 1) := lw_dr lw_d_cX12_left_0 3 rfl
theorem dX12_left_12 : decode cX12_left 12 = .ok (.invokevirtual 426, 3) := lw_dr lw_d_cX12_left_0 4 rfl
theorem dX12_left_15 : decode cX12_left 15 = .ok (.lconst 0, 1) := lw_dr lw_d_cX12_left_0 5 rfl
theorem dX12_left_16 : decode cX12_left 16 = .ok (.lstore_n 1, 1) := lw_dr lw_d_cX12_left_0 6 rfl
theorem dX12_left_17 : decode cX12_left 17 = .ok (.iconst 0, 1) := lw_dr lw_d_cX12_left_0 7 rfl
theorem dX12_left_18 : decode cX12_left 18 = .ok (.istore_n 3, 1) := lw_dr lw_d_cX12_left_0 8 rfl
theorem dX12_left_19 : decode cX12_left 19 = .ok (.iload_n 3, 1) := lw_dr lw_d_cX12_left_0 9 rfl
theorem dX12_left_20 : decode cX12_left 20 = .ok (.aload_n 0, 1) := lw_dr lw_d_cX12_left_0 10 rfl
theorem dX12_left_21 : decode cX12_left 21 = .ok (.getfield 240, 3) := lw_dr lw_d_cX12_left_0 11 rfl
theorem dX12_left_24 : decode cX12_left 24 = .ok (.if_icmp .ge 25, 3) := lw_dr lw_d_cX12_left_0 12 rfl
theorem dX12_left_49 : decode cX12_left 49 = .ok (.lload_n 1, 1) := lw_dr lw_d_cX12_left_0 13 rfl
theorem dX12_left_50 : decode cX12_left 50 = .ok (.lreturn, 1) := lw_dr lw_d_cX12_left_0 14 rfl
theorem dX12_left_27 : decode cX12_left 27 = .ok (.lload_n 1, 1) := lw_dr lw_d_cX12_left_0 15 rfl
theorem dX12_left_28 : decode cX12_left 28 = .ok (.aload_n 0, 1) := lw_dr lw_d_cX12_left_0 16 rfl
theorem dX12_left_29 : decode cX12_left 29 = .ok (.getfield 118, 3) := lw_dr lw_d_cX12_left_0 17 rfl
theorem dX12_left_32 : decode cX12_left 32 = .ok (.iload_n 3, 1) := lw_dr lw_d_cX12_left_0 18 rfl
theorem dX12_left_33 : decode cX12_left 33 = .ok (.laload, 1) := lw_dr lw_d_cX12_left_0 19 rfl
theorem dX12_left_34 : decode cX12_left 34 = .ok (.aload_n 0, 1) := lw_dr lw_d_cX12_left_0 20 rfl
theorem dX12_left_35 : decode cX12_left 35 = .ok (.getfield 118, 3) := lw_dr lw_d_cX12_left_0 21 rfl
theorem dX12_left_38 : decode cX12_left 38 = .ok (.iload_n 3, 1) := lw_dr lw_d_cX12_left_0 22 rfl
theorem dX12_left_39 : decode cX12_left 39 = .ok (.laload, 1) := lw_dr lw_d_cX12_left_0 23 rfl
theorem dX12_left_40 : decode cX12_left 40 = .ok (.lmul, 1) := lw_dr lw_d_cX12_left_0 24 rfl
theorem dX12_left_41 : decode cX12_left 41 = .ok (.ladd, 1) := lw_dr lw_d_cX12_left_0 25 rfl
theorem dX12_left_42 : decode cX12_left 42 = .ok (.lstore_n 1, 1) := lw_dr lw_d_cX12_left_0 26 rfl
theorem dX12_left_43 : decode cX12_left 43 = .ok (.iinc 3 1, 3) := lw_dr lw_d_cX12_left_0 27 rfl
theorem dX12_left_46 : decode cX12_left 46 = .ok (.goto (-27), 3) := lw_dr lw_d_cX12_left_0 28 rfl
theorem dX12_left_7 : decode cX12_left 7 = .ok (.ldc2_w 384, 3) := lw_dr lw_d_cX12_left_0 29 rfl
theorem dX12_left_10 : decode cX12_left 10 = .ok (.lreturn, 1) := lw_dr lw_d_cX12_left_0 30 rfl
theorem lw_d_cX12_least_0 : lw_dl cX12_least [(0, .aload_n 0, 1), (1, .iload_n 1, 1), (2, .invokevirtual 361, 3), (5, .ifCond .eq 11, 3), (16, .ldc2_w 384, 3), (19, .lreturn, 1), (8, .aload_n 0, 1), (9, .iload_n 2, 1), (10, .invokevirtual 371, 3), (13, .ifCond .ne 7, 3), (20, .ldc2_w 384, 3), (23, .lstore_n 3, 1), (24, .iconst 0, 1), (25, .istore 5, 2), (27, .iload 5, 2), (29, .aload_n 0, 1), (30, .invokevirtual 406, 3), (33, .if_icmp .ge 43, 3), (76, .lload_n 3, 1), (77, .lreturn, 1), (36, .aload_n 0, 1), (37, .iload 5, 2), (39, .invokevirtual 409, 3), (42, .lstore 6, 2), (44, .aload_n 0, 1), (45, .getfield 103, 3), (48, .iload_n 1, 1), (49, .iaload, 1), (50, .iload_n 2, 1), (51, .if_icmp .ne 19, 3), (70, .iinc 5 1, 3), (73, .goto (-46), 3), (54, .lload_n 3, 1), (55, .lconst 0, 1), (56, .lcmp, 1), (57, .ifCond .lt 10, 3), (67, .lload 6, 2), (69, .lstore_n 3, 1), (60, .lload 6, 2), (62, .lload_n 3, 1)] = true := by decide +kernel
theorem dX12_least_0 : decode cX12_least 0 = .ok (.aload_n 0, 1) := lw_dr lw_d_cX12_least_0 0 rfl
theorem dX12_least_1 : decode cX12_least 1 = .ok (.iload_n 1, 1) := lw_dr lw_d_cX12_least_0 1 rfl
theorem dX12_least_2 : decode cX12_least 2 = .ok (.invokevirtual 361, 3) := lw_dr lw_d_cX12_least_0 2 rfl
theorem dX12_least_5 : decode cX12_least 5 = .ok (.ifCond .eq 11, 3) := lw_dr lw_d_cX12_least_0 3 rfl
theorem dX12_least_16 : decode cX12_least 16 = .ok (.ldc2_w 384, 3) := lw_dr lw_d_cX12_least_0 4 rfl
theorem dX12_least_19 : decode cX12_least 19 = .ok (.lreturn, 1) := lw_dr lw_d_cX12_least_0 5 rfl
theorem dX12_least_8 : decode cX12_least 8 = .ok (.aload_n 0, 1) := lw_dr lw_d_cX12_least_0 6 rfl
theorem dX12_least_9 : decode cX12_least 9 = .ok (.iload_n 2, 1) := lw_dr lw_d_cX12_least_0 7 rfl
theorem dX12_least_10 : decode cX12_least 10 = .ok (.invokevirtual 371, 3) := lw_dr lw_d_cX12_least_0 8 rfl
theorem dX12_least_13 : decode cX12_least 13 = .ok (.ifCond .ne 7, 3) := lw_dr lw_d_cX12_least_0 9 rfl
theorem dX12_least_20 : decode cX12_least 20 = .ok (.ldc2_w 384, 3) := lw_dr lw_d_cX12_least_0 10 rfl
theorem dX12_least_23 : decode cX12_least 23 = .ok (.lstore_n 3, 1) := lw_dr lw_d_cX12_least_0 11 rfl
theorem dX12_least_24 : decode cX12_least 24 = .ok (.iconst 0, 1) := lw_dr lw_d_cX12_least_0 12 rfl
theorem dX12_least_25 : decode cX12_least 25 = .ok (.istore 5, 2) := lw_dr lw_d_cX12_least_0 13 rfl
theorem dX12_least_27 : decode cX12_least 27 = .ok (.iload 5, 2) := lw_dr lw_d_cX12_least_0 14 rfl
theorem dX12_least_29 : decode cX12_least 29 = .ok (.aload_n 0, 1) := lw_dr lw_d_cX12_least_0 15 rfl
theorem dX12_least_30 : decode cX12_least 30 = .ok (.invokevirtual 406, 3) := lw_dr lw_d_cX12_least_0 16 rfl
theorem dX12_least_33 : decode cX12_least 33 = .ok (.if_icmp .ge 43, 3) := lw_dr lw_d_cX12_least_0 17 rfl
theorem dX12_least_76 : decode cX12_least 76 = .ok (.lload_n 3, 1) := lw_dr lw_d_cX12_least_0 18 rfl
theorem dX12_least_77 : decode cX12_least 77 = .ok (.lreturn, 1) := lw_dr lw_d_cX12_least_0 19 rfl
theorem dX12_least_36 : decode cX12_least 36 = .ok (.aload_n 0, 1) := lw_dr lw_d_cX12_least_0 20 rfl
theorem dX12_least_37 : decode cX12_least 37 = .ok (.iload 5, 2) := lw_dr lw_d_cX12_least_0 21 rfl
theorem dX12_least_39 : decode cX12_least 39 = .ok (.invokevirtual 409, 3) := lw_dr lw_d_cX12_least_0 22 rfl
theorem dX12_least_42 : decode cX12_least 42 = .ok (.lstore 6, 2) := lw_dr lw_d_cX12_least_0 23 rfl
theorem dX12_least_44 : decode cX12_least 44 = .ok (.aload_n 0, 1) := lw_dr lw_d_cX12_least_0 24 rfl
theorem dX12_least_45 : decode cX12_least 45 = .ok (.getfield 103, 3) := lw_dr lw_d_cX12_least_0 25 rfl
theorem dX12_least_48 : decode cX12_least 48 = .ok (.iload_n 1, 1) := lw_dr lw_d_cX12_least_0 26 rfl
theorem dX12_least_49 : decode cX12_least 49 = .ok (.iaload, 1) := lw_dr lw_d_cX12_least_0 27 rfl
theorem dX12_least_50 : decode cX12_least 50 = .ok (.iload_n 2, 1) := lw_dr lw_d_cX12_least_0 28 rfl
theorem dX12_least_51 : decode cX12_least 51 = .ok (.if_icmp .ne 19, 3) := lw_dr lw_d_cX12_least_0 29 rfl
theorem dX12_least_70 : decode cX12_least 70 = .ok (.iinc 5 1, 3) := lw_dr lw_d_cX12_least_0 30 rfl
theorem dX12_least_73 : decode cX12_least 73 = .ok (.goto (-46), 3) := lw_dr lw_d_cX12_least_0 31 rfl
theorem dX12_least_54 : decode cX12_least 54 = .ok (.lload_n 3, 1) := lw_dr lw_d_cX12_least_0 32 rfl
theorem dX12_least_55 : decode cX12_least 55 = .ok (.lconst 0, 1) := lw_dr lw_d_cX12_least_0 33 rfl
theorem dX12_least_56 : decode cX12_least 56 = .ok (.lcmp, 1) := lw_dr lw_d_cX12_least_0 34 rfl
theorem dX12_least_57 : decode cX12_least 57 = .ok (.ifCond .lt 10, 3) := lw_dr lw_d_cX12_least_0 35 rfl
theorem dX12_least_67 : decode cX12_least 67 = .ok (.lload 6, 2) := lw_dr lw_d_cX12_least_0 36 rfl
theorem dX12_least_69 : decode cX12_least 69 = .ok (.lstore_n 3, 1) := lw_dr lw_d_cX12_least_0 37 rfl
theorem dX12_least_60 : decode cX12_least 60 = .ok (.lload 6, 2) := lw_dr lw_d_cX12_least_0 38 rfl
theorem dX12_least_62 : decode cX12_least 62 = .ok (.lload_n 3, 1) := lw_dr lw_d_cX12_least_0 39 rfl
theorem lw_d_cX12_least_63 : lw_dl cX12_least [(63, .lcmp, 1), (64, .ifCond .ge 6, 3)] = true := by decide +kernel
theorem dX12_least_63 : decode cX12_least 63 = .ok (.lcmp, 1) := lw_dr lw_d_cX12_least_63 0 rfl
theorem dX12_least_64 : decode cX12_least 64 = .ok (.ifCond .ge 6, 3) := lw_dr lw_d_cX12_least_63 1 rfl
theorem lw_d_cX12_share_0 : lw_dl cX12_share [(0, .aload_n 0, 1), (1, .iload_n 1, 1), (2, .invokevirtual 361, 3), (5, .ifCond .eq 11, 3), (16, .iconst (-1), 1), (17, .ireturn, 1), (8, .aload_n 0, 1), (9, .iload_n 2, 1), (10, .invokevirtual 371, 3), (13, .ifCond .ne 5, 3), (18, .lconst 0, 1), (19, .lstore_n 3, 1), (20, .lconst 0, 1), (21, .lstore 5, 2), (23, .iconst 0, 1), (24, .istore 7, 2), (26, .iload 7, 2), (28, .aload_n 0, 1), (29, .invokevirtual 406, 3), (32, .if_icmp .ge 45, 3), (77, .lload 5, 2), (79, .lconst 0, 1), (80, .lcmp, 1), (81, .ifCond .ne 7, 3), (84, .iconst 0, 1), (85, .goto 12, 3), (97, .ireturn, 1), (35, .ldc2_w 429, 3), (38, .lconst 1, 1), (39, .aload_n 0, 1), (40, .iload 7, 2), (42, .invokevirtual 409, 3), (45, .ladd, 1), (46, .ldiv, 1)] = true := by decide +kernel
theorem dX12_share_0 : decode cX12_share 0 = .ok (.aload_n 0, 1) := lw_dr lw_d_cX12_share_0 0 rfl
theorem dX12_share_1 : decode cX12_share 1 = .ok (.iload_n 1, 1) := lw_dr lw_d_cX12_share_0 1 rfl
theorem dX12_share_2 : decode cX12_share 2 = .ok (.invokevirtual 361, 3) := lw_dr lw_d_cX12_share_0 2 rfl
theorem dX12_share_5 : decode cX12_share 5 = .ok (.ifCond .eq 11, 3) := lw_dr lw_d_cX12_share_0 3 rfl
theorem dX12_share_16 : decode cX12_share 16 = .ok (.iconst (-1), 1) := lw_dr lw_d_cX12_share_0 4 rfl
theorem dX12_share_17 : decode cX12_share 17 = .ok (.ireturn, 1) := lw_dr lw_d_cX12_share_0 5 rfl
theorem dX12_share_8 : decode cX12_share 8 = .ok (.aload_n 0, 1) := lw_dr lw_d_cX12_share_0 6 rfl
theorem dX12_share_9 : decode cX12_share 9 = .ok (.iload_n 2, 1) := lw_dr lw_d_cX12_share_0 7 rfl
theorem dX12_share_10 : decode cX12_share 10 = .ok (.invokevirtual 371, 3) := lw_dr lw_d_cX12_share_0 8 rfl
theorem dX12_share_13 : decode cX12_share 13 = .ok (.ifCond .ne 5, 3) := lw_dr lw_d_cX12_share_0 9 rfl
theorem dX12_share_18 : decode cX12_share 18 = .ok (.lconst 0, 1) := lw_dr lw_d_cX12_share_0 10 rfl
theorem dX12_share_19 : decode cX12_share 19 = .ok (.lstore_n 3, 1) := lw_dr lw_d_cX12_share_0 11 rfl
theorem dX12_share_20 : decode cX12_share 20 = .ok (.lconst 0, 1) := lw_dr lw_d_cX12_share_0 12 rfl
theorem dX12_share_21 : decode cX12_share 21 = .ok (.lstore 5, 2) := lw_dr lw_d_cX12_share_0 13 rfl
theorem dX12_share_23 : decode cX12_share 23 = .ok (.iconst 0, 1) := lw_dr lw_d_cX12_share_0 14 rfl
theorem dX12_share_24 : decode cX12_share 24 = .ok (.istore 7, 2) := lw_dr lw_d_cX12_share_0 15 rfl
theorem dX12_share_26 : decode cX12_share 26 = .ok (.iload 7, 2) := lw_dr lw_d_cX12_share_0 16 rfl
theorem dX12_share_28 : decode cX12_share 28 = .ok (.aload_n 0, 1) := lw_dr lw_d_cX12_share_0 17 rfl
theorem dX12_share_29 : decode cX12_share 29 = .ok (.invokevirtual 406, 3) := lw_dr lw_d_cX12_share_0 18 rfl
theorem dX12_share_32 : decode cX12_share 32 = .ok (.if_icmp .ge 45, 3) := lw_dr lw_d_cX12_share_0 19 rfl
theorem dX12_share_77 : decode cX12_share 77 = .ok (.lload 5, 2) := lw_dr lw_d_cX12_share_0 20 rfl
theorem dX12_share_79 : decode cX12_share 79 = .ok (.lconst 0, 1) := lw_dr lw_d_cX12_share_0 21 rfl
theorem dX12_share_80 : decode cX12_share 80 = .ok (.lcmp, 1) := lw_dr lw_d_cX12_share_0 22 rfl
theorem dX12_share_81 : decode cX12_share 81 = .ok (.ifCond .ne 7, 3) := lw_dr lw_d_cX12_share_0 23 rfl
theorem dX12_share_84 : decode cX12_share 84 = .ok (.iconst 0, 1) := lw_dr lw_d_cX12_share_0 24 rfl
theorem dX12_share_85 : decode cX12_share 85 = .ok (.goto 12, 3) := lw_dr lw_d_cX12_share_0 25 rfl
theorem dX12_share_97 : decode cX12_share 97 = .ok (.ireturn, 1) := lw_dr lw_d_cX12_share_0 26 rfl
theorem dX12_share_35 : decode cX12_share 35 = .ok (.ldc2_w 429, 3) := lw_dr lw_d_cX12_share_0 27 rfl
theorem dX12_share_38 : decode cX12_share 38 = .ok (.lconst 1, 1) := lw_dr lw_d_cX12_share_0 28 rfl
theorem dX12_share_39 : decode cX12_share 39 = .ok (.aload_n 0, 1) := lw_dr lw_d_cX12_share_0 29 rfl
theorem dX12_share_40 : decode cX12_share 40 = .ok (.iload 7, 2) := lw_dr lw_d_cX12_share_0 30 rfl
theorem dX12_share_42 : decode cX12_share 42 = .ok (.invokevirtual 409, 3) := lw_dr lw_d_cX12_share_0 31 rfl
theorem dX12_share_45 : decode cX12_share 45 = .ok (.ladd, 1) := lw_dr lw_d_cX12_share_0 32 rfl
theorem dX12_share_46 : decode cX12_share 46 = .ok (.ldiv, 1) := lw_dr lw_d_cX12_share_0 33 rfl
theorem lw_d_cX12_sure_0 : lw_dl cX12_sure [(0, .aload_n 0, 1), (1, .iload_n 1, 1), (2, .invokevirtual 361, 3), (5, .ifCond .ne 7, 3), (12, .aload_n 0, 1), (13, .iconst 1, 1), (14, .invokevirtual 413, 3), (17, .istore_n 2, 1), (18, .aload_n 0, 1), (19, .getfield 106, 3), (22, .iconst 0, 1), (23, .laload, 1), (24, .lstore_n 3, 1), (25, .aload_n 0, 1), (26, .aload_n 0, 1), (27, .getfield 109, 3), (30, .iconst 0, 1), (31, .iaload, 1), (32, .invokevirtual 403, 3), (35, .aload_n 0, 1), (36, .getfield 103, 3), (39, .iload_n 1, 1), (40, .iaload, 1), (41, .istore 5, 2), (43, .ldc2_w 384, 3), (46, .lstore 6, 2), (48, .iconst 0, 1), (49, .istore 8, 2), (51, .iload 8, 2), (53, .aload_n 0, 1), (54, .invokevirtual 406, 3), (57, .if_icmp .ge 47, 3), (104, .lload 6, 2), (106, .lload_n 3, 1), (107, .lsub, 1), (108, .lreturn, 1), (60, .aload_n 0, 1), (61, .iload 8, 2), (63, .invokevirtual 409, 3), (66, .lstore 9, 2)] = true := by decide +kernel
theorem dX12_sure_0 : decode cX12_sure 0 = .ok (.aload_n 0, 1) := lw_dr lw_d_cX12_sure_0 0 rfl
theorem dX12_sure_1 : decode cX12_sure 1 = .ok (.iload_n 1, 1) := lw_dr lw_d_cX12_sure_0 1 rfl
theorem dX12_sure_2 : decode cX12_sure 2 = .ok (.invokevirtual 361, 3) := lw_dr lw_d_cX12_sure_0 2 rfl
theorem dX12_sure_5 : decode cX12_sure 5 = .ok (.ifCond .ne 7, 3) := lw_dr lw_d_cX12_sure_0 3 rfl
theorem dX12_sure_12 : decode cX12_sure 12 = .ok (.aload_n 0, 1) := lw_dr lw_d_cX12_sure_0 4 rfl
theorem dX12_sure_13 : decode cX12_sure 13 = .ok (.iconst 1, 1) := lw_dr lw_d_cX12_sure_0 5 rfl
theorem dX12_sure_14 : decode cX12_sure 14 = .ok (.invokevirtual 413, 3) := lw_dr lw_d_cX12_sure_0 6 rfl
theorem dX12_sure_17 : decode cX12_sure 17 = .ok (.istore_n 2, 1) := lw_dr lw_d_cX12_sure_0 7 rfl
theorem dX12_sure_18 : decode cX12_sure 18 = .ok (.aload_n 0, 1) := lw_dr lw_d_cX12_sure_0 8 rfl
theorem dX12_sure_19 : decode cX12_sure 19 = .ok (.getfield 106, 3) := lw_dr lw_d_cX12_sure_0 9 rfl
theorem dX12_sure_22 : decode cX12_sure 22 = .ok (.iconst 0, 1) := lw_dr lw_d_cX12_sure_0 10 rfl
theorem dX12_sure_23 : decode cX12_sure 23 = .ok (.laload, 1) := lw_dr lw_d_cX12_sure_0 11 rfl
theorem dX12_sure_24 : decode cX12_sure 24 = .ok (.lstore_n 3, 1) := lw_dr lw_d_cX12_sure_0 12 rfl
theorem dX12_sure_25 : decode cX12_sure 25 = .ok (.aload_n 0, 1) := lw_dr lw_d_cX12_sure_0 13 rfl
theorem dX12_sure_26 : decode cX12_sure 26 = .ok (.aload_n 0, 1) := lw_dr lw_d_cX12_sure_0 14 rfl
theorem dX12_sure_27 : decode cX12_sure 27 = .ok (.getfield 109, 3) := lw_dr lw_d_cX12_sure_0 15 rfl
theorem dX12_sure_30 : decode cX12_sure 30 = .ok (.iconst 0, 1) := lw_dr lw_d_cX12_sure_0 16 rfl
theorem dX12_sure_31 : decode cX12_sure 31 = .ok (.iaload, 1) := lw_dr lw_d_cX12_sure_0 17 rfl
theorem dX12_sure_32 : decode cX12_sure 32 = .ok (.invokevirtual 403, 3) := lw_dr lw_d_cX12_sure_0 18 rfl
theorem dX12_sure_35 : decode cX12_sure 35 = .ok (.aload_n 0, 1) := lw_dr lw_d_cX12_sure_0 19 rfl
theorem dX12_sure_36 : decode cX12_sure 36 = .ok (.getfield 103, 3) := lw_dr lw_d_cX12_sure_0 20 rfl
theorem dX12_sure_39 : decode cX12_sure 39 = .ok (.iload_n 1, 1) := lw_dr lw_d_cX12_sure_0 21 rfl
theorem dX12_sure_40 : decode cX12_sure 40 = .ok (.iaload, 1) := lw_dr lw_d_cX12_sure_0 22 rfl
theorem dX12_sure_41 : decode cX12_sure 41 = .ok (.istore 5, 2) := lw_dr lw_d_cX12_sure_0 23 rfl
theorem dX12_sure_43 : decode cX12_sure 43 = .ok (.ldc2_w 384, 3) := lw_dr lw_d_cX12_sure_0 24 rfl
theorem dX12_sure_46 : decode cX12_sure 46 = .ok (.lstore 6, 2) := lw_dr lw_d_cX12_sure_0 25 rfl
theorem dX12_sure_48 : decode cX12_sure 48 = .ok (.iconst 0, 1) := lw_dr lw_d_cX12_sure_0 26 rfl
theorem dX12_sure_49 : decode cX12_sure 49 = .ok (.istore 8, 2) := lw_dr lw_d_cX12_sure_0 27 rfl
theorem dX12_sure_51 : decode cX12_sure 51 = .ok (.iload 8, 2) := lw_dr lw_d_cX12_sure_0 28 rfl
theorem dX12_sure_53 : decode cX12_sure 53 = .ok (.aload_n 0, 1) := lw_dr lw_d_cX12_sure_0 29 rfl
theorem dX12_sure_54 : decode cX12_sure 54 = .ok (.invokevirtual 406, 3) := lw_dr lw_d_cX12_sure_0 30 rfl
theorem dX12_sure_57 : decode cX12_sure 57 = .ok (.if_icmp .ge 47, 3) := lw_dr lw_d_cX12_sure_0 31 rfl
theorem dX12_sure_104 : decode cX12_sure 104 = .ok (.lload 6, 2) := lw_dr lw_d_cX12_sure_0 32 rfl
theorem dX12_sure_106 : decode cX12_sure 106 = .ok (.lload_n 3, 1) := lw_dr lw_d_cX12_sure_0 33 rfl
theorem dX12_sure_107 : decode cX12_sure 107 = .ok (.lsub, 1) := lw_dr lw_d_cX12_sure_0 34 rfl
theorem dX12_sure_108 : decode cX12_sure 108 = .ok (.lreturn, 1) := lw_dr lw_d_cX12_sure_0 35 rfl
theorem dX12_sure_60 : decode cX12_sure 60 = .ok (.aload_n 0, 1) := lw_dr lw_d_cX12_sure_0 36 rfl
theorem dX12_sure_61 : decode cX12_sure 61 = .ok (.iload 8, 2) := lw_dr lw_d_cX12_sure_0 37 rfl
theorem dX12_sure_63 : decode cX12_sure 63 = .ok (.invokevirtual 409, 3) := lw_dr lw_d_cX12_sure_0 38 rfl
theorem dX12_sure_66 : decode cX12_sure 66 = .ok (.lstore 9, 2) := lw_dr lw_d_cX12_sure_0 39 rfl
theorem lw_d_cX12_sure_68 : lw_dl cX12_sure [(68, .aload_n 0, 1), (69, .getfield 103, 3), (72, .iload_n 1, 1), (73, .iaload, 1), (74, .iload 5, 2), (76, .if_icmp .eq 22, 3), (98, .iinc 8 1, 3), (101, .goto (-50), 3), (79, .lload 6, 2), (81, .lconst 0, 1), (82, .lcmp, 1), (83, .ifCond .lt 11, 3), (94, .lload 9, 2), (96, .lstore 6, 2), (86, .lload 9, 2), (88, .lload 6, 2), (90, .lcmp, 1), (91, .ifCond .ge 7, 3), (8, .ldc2_w 384, 3), (11, .lreturn, 1)] = true := by decide +kernel
theorem dX12_sure_68 : decode cX12_sure 68 = .ok (.aload_n 0, 1) := lw_dr lw_d_cX12_sure_68 0 rfl
theorem dX12_sure_69 : decode cX12_sure 69 = .ok (.getfield 103, 3) := lw_dr lw_d_cX12_sure_68 1 rfl
theorem dX12_sure_72 : decode cX12_sure 72 = .ok (.iload_n 1, 1) := lw_dr lw_d_cX12_sure_68 2 rfl
theorem dX12_sure_73 : decode cX12_sure 73 = .ok (.iaload, 1) := lw_dr lw_d_cX12_sure_68 3 rfl
theorem dX12_sure_74 : decode cX12_sure 74 = .ok (.iload 5, 2) := lw_dr lw_d_cX12_sure_68 4 rfl
theorem dX12_sure_76 : decode cX12_sure 76 = .ok (.if_icmp .eq 22, 3) := lw_dr lw_d_cX12_sure_68 5 rfl
theorem dX12_sure_98 : decode cX12_sure 98 = .ok (.iinc 8 1, 3) := lw_dr lw_d_cX12_sure_68 6 rfl
theorem dX12_sure_101 : decode cX12_sure 101 = .ok (.goto (-50), 3) := lw_dr lw_d_cX12_sure_68 7 rfl
theorem dX12_sure_79 : decode cX12_sure 79 = .ok (.lload 6, 2) := lw_dr lw_d_cX12_sure_68 8 rfl
theorem dX12_sure_81 : decode cX12_sure 81 = .ok (.lconst 0, 1) := lw_dr lw_d_cX12_sure_68 9 rfl
theorem dX12_sure_82 : decode cX12_sure 82 = .ok (.lcmp, 1) := lw_dr lw_d_cX12_sure_68 10 rfl
theorem dX12_sure_83 : decode cX12_sure 83 = .ok (.ifCond .lt 11, 3) := lw_dr lw_d_cX12_sure_68 11 rfl
theorem dX12_sure_94 : decode cX12_sure 94 = .ok (.lload 9, 2) := lw_dr lw_d_cX12_sure_68 12 rfl
theorem dX12_sure_96 : decode cX12_sure 96 = .ok (.lstore 6, 2) := lw_dr lw_d_cX12_sure_68 13 rfl
theorem dX12_sure_86 : decode cX12_sure 86 = .ok (.lload 9, 2) := lw_dr lw_d_cX12_sure_68 14 rfl
theorem dX12_sure_88 : decode cX12_sure 88 = .ok (.lload 6, 2) := lw_dr lw_d_cX12_sure_68 15 rfl
theorem dX12_sure_90 : decode cX12_sure 90 = .ok (.lcmp, 1) := lw_dr lw_d_cX12_sure_68 16 rfl
theorem dX12_sure_91 : decode cX12_sure 91 = .ok (.ifCond .ge 7, 3) := lw_dr lw_d_cX12_sure_68 17 rfl
theorem dX12_sure_8 : decode cX12_sure 8 = .ok (.ldc2_w 384, 3) := lw_dr lw_d_cX12_sure_68 18 rfl
theorem dX12_sure_11 : decode cX12_sure 11 = .ok (.lreturn, 1) := lw_dr lw_d_cX12_sure_68 19 rfl
theorem lw_d_cX12_lead_0 : lw_dl cX12_lead [(0, .iload_n 1, 1), (1, .i2l, 1), (2, .lconst 1, 1), (3, .ldc2_w 440, 3), (6, .invokestatic 191, 3), (9, .ifCond .ne 5, 3), (14, .iconst 0, 1), (15, .istore_n 2, 1), (16, .iload_n 2, 1), (17, .iload_n 1, 1), (18, .if_icmp .ge 40, 3), (58, .iload_n 2, 1), (59, .ireturn, 1), (21, .aload_n 0, 1), (22, .invokevirtual 442, 3)] = true := by decide +kernel
theorem dX12_lead_0 : decode cX12_lead 0 = .ok (.iload_n 1, 1) := lw_dr lw_d_cX12_lead_0 0 rfl
theorem dX12_lead_1 : decode cX12_lead 1 = .ok (.i2l, 1) := lw_dr lw_d_cX12_lead_0 1 rfl
theorem dX12_lead_2 : decode cX12_lead 2 = .ok (.lconst 1, 1) := lw_dr lw_d_cX12_lead_0 2 rfl
theorem dX12_lead_3 : decode cX12_lead 3 = .ok (.ldc2_w 440, 3) := lw_dr lw_d_cX12_lead_0 3 rfl
theorem dX12_lead_6 : decode cX12_lead 6 = .ok (.invokestatic 191, 3) := lw_dr lw_d_cX12_lead_0 4 rfl
theorem dX12_lead_9 : decode cX12_lead 9 = .ok (.ifCond .ne 5, 3) := lw_dr lw_d_cX12_lead_0 5 rfl
theorem dX12_lead_14 : decode cX12_lead 14 = .ok (.iconst 0, 1) := lw_dr lw_d_cX12_lead_0 6 rfl
theorem dX12_lead_15 : decode cX12_lead 15 = .ok (.istore_n 2, 1) := lw_dr lw_d_cX12_lead_0 7 rfl
theorem dX12_lead_16 : decode cX12_lead 16 = .ok (.iload_n 2, 1) := lw_dr lw_d_cX12_lead_0 8 rfl
theorem dX12_lead_17 : decode cX12_lead 17 = .ok (.iload_n 1, 1) := lw_dr lw_d_cX12_lead_0 9 rfl
theorem dX12_lead_18 : decode cX12_lead 18 = .ok (.if_icmp .ge 40, 3) := lw_dr lw_d_cX12_lead_0 10 rfl
theorem dX12_lead_58 : decode cX12_lead 58 = .ok (.iload_n 2, 1) := lw_dr lw_d_cX12_lead_0 11 rfl
theorem dX12_lead_59 : decode cX12_lead 59 = .ok (.ireturn, 1) := lw_dr lw_d_cX12_lead_0 12 rfl
theorem dX12_lead_21 : decode cX12_lead 21 = .ok (.aload_n 0, 1) := lw_dr lw_d_cX12_lead_0 13 rfl
theorem dX12_lead_22 : decode cX12_lead 22 = .ok (.invokevirtual 442, 3) := lw_dr lw_d_cX12_lead_0 14 rfl
theorem lw_d_cX12_isStep_0 : lw_dl cX12_isStep [(0, .aload_n 0, 1), (1, .getfield 349, 3), (4, .sipush 200, 3), (7, .if_icmp .ne 5, 3), (12, .iconst 0, 1), (13, .istore_n 1, 1), (14, .iload_n 1, 1), (15, .aload_n 0, 1), (16, .getfield 237, 3), (19, .if_icmp .ge 123, 3), (142, .iconst 0, 1), (143, .ireturn, 1), (22, .iconst 0, 1), (23, .istore_n 2, 1), (24, .iload_n 2, 1), (25, .aload_n 0, 1), (26, .getfield 237, 3), (29, .if_icmp .ge 107, 3), (32, .aload_n 0, 1), (33, .iload_n 2, 1), (34, .iload_n 2, 1), (35, .aload_n 0, 1), (36, .getfield 97, 3), (39, .invokevirtual 334, 3), (42, .istore_n 3, 1), (43, .iload_n 1, 1), (44, .iload_n 2, 1), (45, .if_icmp .eq 85, 3), (130, .iinc 2 1, 3), (133, .goto (-109), 3), (136, .iinc 1 1, 3), (139, .goto (-125), 3), (48, .iload_n 3, 1), (49, .ifCond .ne 6, 3), (55, .aload_n 0, 1), (56, .iload_n 1, 1), (57, .iload_n 2, 1), (58, .aload_n 0, 1), (59, .getfield 97, 3), (62, .invokevirtual 334, 3)] = true := by decide +kernel
theorem dX12_isStep_0 : decode cX12_isStep 0 = .ok (.aload_n 0, 1) := lw_dr lw_d_cX12_isStep_0 0 rfl
theorem dX12_isStep_1 : decode cX12_isStep 1 = .ok (.getfield 349, 3) := lw_dr lw_d_cX12_isStep_0 1 rfl
theorem dX12_isStep_4 : decode cX12_isStep 4 = .ok (.sipush 200, 3) := lw_dr lw_d_cX12_isStep_0 2 rfl
theorem dX12_isStep_7 : decode cX12_isStep 7 = .ok (.if_icmp .ne 5, 3) := lw_dr lw_d_cX12_isStep_0 3 rfl
theorem dX12_isStep_12 : decode cX12_isStep 12 = .ok (.iconst 0, 1) := lw_dr lw_d_cX12_isStep_0 4 rfl
theorem dX12_isStep_13 : decode cX12_isStep 13 = .ok (.istore_n 1, 1) := lw_dr lw_d_cX12_isStep_0 5 rfl
theorem dX12_isStep_14 : decode cX12_isStep 14 = .ok (.iload_n 1, 1) := lw_dr lw_d_cX12_isStep_0 6 rfl
theorem dX12_isStep_15 : decode cX12_isStep 15 = .ok (.aload_n 0, 1) := lw_dr lw_d_cX12_isStep_0 7 rfl
theorem dX12_isStep_16 : decode cX12_isStep 16 = .ok (.getfield 237, 3) := lw_dr lw_d_cX12_isStep_0 8 rfl
theorem dX12_isStep_19 : decode cX12_isStep 19 = .ok (.if_icmp .ge 123, 3) := lw_dr lw_d_cX12_isStep_0 9 rfl
theorem dX12_isStep_142 : decode cX12_isStep 142 = .ok (.iconst 0, 1) := lw_dr lw_d_cX12_isStep_0 10 rfl
theorem dX12_isStep_143 : decode cX12_isStep 143 = .ok (.ireturn, 1) := lw_dr lw_d_cX12_isStep_0 11 rfl
theorem dX12_isStep_22 : decode cX12_isStep 22 = .ok (.iconst 0, 1) := lw_dr lw_d_cX12_isStep_0 12 rfl
theorem dX12_isStep_23 : decode cX12_isStep 23 = .ok (.istore_n 2, 1) := lw_dr lw_d_cX12_isStep_0 13 rfl
theorem dX12_isStep_24 : decode cX12_isStep 24 = .ok (.iload_n 2, 1) := lw_dr lw_d_cX12_isStep_0 14 rfl
theorem dX12_isStep_25 : decode cX12_isStep 25 = .ok (.aload_n 0, 1) := lw_dr lw_d_cX12_isStep_0 15 rfl
theorem dX12_isStep_26 : decode cX12_isStep 26 = .ok (.getfield 237, 3) := lw_dr lw_d_cX12_isStep_0 16 rfl
theorem dX12_isStep_29 : decode cX12_isStep 29 = .ok (.if_icmp .ge 107, 3) := lw_dr lw_d_cX12_isStep_0 17 rfl
theorem dX12_isStep_32 : decode cX12_isStep 32 = .ok (.aload_n 0, 1) := lw_dr lw_d_cX12_isStep_0 18 rfl
theorem dX12_isStep_33 : decode cX12_isStep 33 = .ok (.iload_n 2, 1) := lw_dr lw_d_cX12_isStep_0 19 rfl
theorem dX12_isStep_34 : decode cX12_isStep 34 = .ok (.iload_n 2, 1) := lw_dr lw_d_cX12_isStep_0 20 rfl
theorem dX12_isStep_35 : decode cX12_isStep 35 = .ok (.aload_n 0, 1) := lw_dr lw_d_cX12_isStep_0 21 rfl
theorem dX12_isStep_36 : decode cX12_isStep 36 = .ok (.getfield 97, 3) := lw_dr lw_d_cX12_isStep_0 22 rfl
theorem dX12_isStep_39 : decode cX12_isStep 39 = .ok (.invokevirtual 334, 3) := lw_dr lw_d_cX12_isStep_0 23 rfl
theorem dX12_isStep_42 : decode cX12_isStep 42 = .ok (.istore_n 3, 1) := lw_dr lw_d_cX12_isStep_0 24 rfl
theorem dX12_isStep_43 : decode cX12_isStep 43 = .ok (.iload_n 1, 1) := lw_dr lw_d_cX12_isStep_0 25 rfl
theorem dX12_isStep_44 : decode cX12_isStep 44 = .ok (.iload_n 2, 1) := lw_dr lw_d_cX12_isStep_0 26 rfl
theorem dX12_isStep_45 : decode cX12_isStep 45 = .ok (.if_icmp .eq 85, 3) := lw_dr lw_d_cX12_isStep_0 27 rfl
theorem dX12_isStep_130 : decode cX12_isStep 130 = .ok (.iinc 2 1, 3) := lw_dr lw_d_cX12_isStep_0 28 rfl
theorem dX12_isStep_133 : decode cX12_isStep 133 = .ok (.goto (-109), 3) := lw_dr lw_d_cX12_isStep_0 29 rfl
theorem dX12_isStep_136 : decode cX12_isStep 136 = .ok (.iinc 1 1, 3) := lw_dr lw_d_cX12_isStep_0 30 rfl
theorem dX12_isStep_139 : decode cX12_isStep 139 = .ok (.goto (-125), 3) := lw_dr lw_d_cX12_isStep_0 31 rfl
theorem dX12_isStep_48 : decode cX12_isStep 48 = .ok (.iload_n 3, 1) := lw_dr lw_d_cX12_isStep_0 32 rfl
theorem dX12_isStep_49 : decode cX12_isStep 49 = .ok (.ifCond .ne 6, 3) := lw_dr lw_d_cX12_isStep_0 33 rfl
theorem dX12_isStep_55 : decode cX12_isStep 55 = .ok (.aload_n 0, 1) := lw_dr lw_d_cX12_isStep_0 34 rfl
theorem dX12_isStep_56 : decode cX12_isStep 56 = .ok (.iload_n 1, 1) := lw_dr lw_d_cX12_isStep_0 35 rfl
theorem dX12_isStep_57 : decode cX12_isStep 57 = .ok (.iload_n 2, 1) := lw_dr lw_d_cX12_isStep_0 36 rfl
theorem dX12_isStep_58 : decode cX12_isStep 58 = .ok (.aload_n 0, 1) := lw_dr lw_d_cX12_isStep_0 37 rfl
theorem dX12_isStep_59 : decode cX12_isStep 59 = .ok (.getfield 97, 3) := lw_dr lw_d_cX12_isStep_0 38 rfl
theorem dX12_isStep_62 : decode cX12_isStep 62 = .ok (.invokevirtual 334, 3) := lw_dr lw_d_cX12_isStep_0 39 rfl
theorem lw_d_cX12_isStep_65 : lw_dl cX12_isStep [(65, .iload_n 3, 1), (66, .invokestatic 433, 3), (69, .istore 4, 2), (71, .iload 4, 2), (73, .ifCond .ne 6, 3), (79, .aload_n 0, 1), (80, .iload_n 1, 1), (81, .iload_n 2, 1), (82, .iload 4, 2), (84, .invokevirtual 436, 3)] = true := by decide +kernel
theorem dX12_isStep_65 : decode cX12_isStep 65 = .ok (.iload_n 3, 1) := lw_dr lw_d_cX12_isStep_65 0 rfl
theorem dX12_isStep_66 : decode cX12_isStep 66 = .ok (.invokestatic 433, 3) := lw_dr lw_d_cX12_isStep_65 1 rfl
theorem dX12_isStep_69 : decode cX12_isStep 69 = .ok (.istore 4, 2) := lw_dr lw_d_cX12_isStep_65 2 rfl
theorem dX12_isStep_71 : decode cX12_isStep 71 = .ok (.iload 4, 2) := lw_dr lw_d_cX12_isStep_65 3 rfl
theorem dX12_isStep_73 : decode cX12_isStep 73 = .ok (.ifCond .ne 6, 3) := lw_dr lw_d_cX12_isStep_65 4 rfl
theorem dX12_isStep_79 : decode cX12_isStep 79 = .ok (.aload_n 0, 1) := lw_dr lw_d_cX12_isStep_65 5 rfl
theorem dX12_isStep_80 : decode cX12_isStep 80 = .ok (.iload_n 1, 1) := lw_dr lw_d_cX12_isStep_65 6 rfl
theorem dX12_isStep_81 : decode cX12_isStep 81 = .ok (.iload_n 2, 1) := lw_dr lw_d_cX12_isStep_65 7 rfl
theorem dX12_isStep_82 : decode cX12_isStep 82 = .ok (.iload 4, 2) := lw_dr lw_d_cX12_isStep_65 8 rfl
theorem dX12_isStep_84 : decode cX12_isStep 84 = .ok (.invokevirtual 436, 3) := lw_dr lw_d_cX12_isStep_65 9 rfl
theorem lw_d_cX12_nearestTo_0 : lw_dl cX12_nearestTo [(0, .iload_n 0, 1), (1, .ifCond .ge 8, 3), (9, .iload_n 0, 1), (10, .istore_n 2, 1), (11, .iload_n 2, 1), (12, .iload_n 1, 1), (13, .idiv, 1), (14, .istore_n 3, 1), (15, .ldc2_w 431, 3), (18, .iload_n 2, 1), (19, .iload_n 1, 1), (20, .irem, 1), (21, .i2l, 1), (22, .lmul, 1), (23, .iload_n 1, 1), (24, .i2l, 1), (25, .lcmp, 1), (26, .ifCond .le 6, 3), (32, .iload_n 0, 1), (33, .ifCond .ge 8, 3), (41, .iload_n 3, 1), (42, .ireturn, 1), (29, .iinc 3 1, 3), (4, .iload_n 0, 1), (5, .ineg, 1), (6, .goto 4, 3), (36, .iload_n 3, 1), (37, .ineg, 1), (38, .goto 4, 3)] = true := by decide +kernel
theorem dX12_nearestTo_0 : decode cX12_nearestTo 0 = .ok (.iload_n 0, 1) := lw_dr lw_d_cX12_nearestTo_0 0 rfl
theorem dX12_nearestTo_1 : decode cX12_nearestTo 1 = .ok (.ifCond .ge 8, 3) := lw_dr lw_d_cX12_nearestTo_0 1 rfl
theorem dX12_nearestTo_9 : decode cX12_nearestTo 9 = .ok (.iload_n 0, 1) := lw_dr lw_d_cX12_nearestTo_0 2 rfl
theorem dX12_nearestTo_10 : decode cX12_nearestTo 10 = .ok (.istore_n 2, 1) := lw_dr lw_d_cX12_nearestTo_0 3 rfl
theorem dX12_nearestTo_11 : decode cX12_nearestTo 11 = .ok (.iload_n 2, 1) := lw_dr lw_d_cX12_nearestTo_0 4 rfl
theorem dX12_nearestTo_12 : decode cX12_nearestTo 12 = .ok (.iload_n 1, 1) := lw_dr lw_d_cX12_nearestTo_0 5 rfl
theorem dX12_nearestTo_13 : decode cX12_nearestTo 13 = .ok (.idiv, 1) := lw_dr lw_d_cX12_nearestTo_0 6 rfl
theorem dX12_nearestTo_14 : decode cX12_nearestTo 14 = .ok (.istore_n 3, 1) := lw_dr lw_d_cX12_nearestTo_0 7 rfl
theorem dX12_nearestTo_15 : decode cX12_nearestTo 15 = .ok (.ldc2_w 431, 3) := lw_dr lw_d_cX12_nearestTo_0 8 rfl
theorem dX12_nearestTo_18 : decode cX12_nearestTo 18 = .ok (.iload_n 2, 1) := lw_dr lw_d_cX12_nearestTo_0 9 rfl
theorem dX12_nearestTo_19 : decode cX12_nearestTo 19 = .ok (.iload_n 1, 1) := lw_dr lw_d_cX12_nearestTo_0 10 rfl
theorem dX12_nearestTo_20 : decode cX12_nearestTo 20 = .ok (.irem, 1) := lw_dr lw_d_cX12_nearestTo_0 11 rfl
theorem dX12_nearestTo_21 : decode cX12_nearestTo 21 = .ok (.i2l, 1) := lw_dr lw_d_cX12_nearestTo_0 12 rfl
theorem dX12_nearestTo_22 : decode cX12_nearestTo 22 = .ok (.lmul, 1) := lw_dr lw_d_cX12_nearestTo_0 13 rfl
theorem dX12_nearestTo_23 : decode cX12_nearestTo 23 = .ok (.iload_n 1, 1) := lw_dr lw_d_cX12_nearestTo_0 14 rfl
theorem dX12_nearestTo_24 : decode cX12_nearestTo 24 = .ok (.i2l, 1) := lw_dr lw_d_cX12_nearestTo_0 15 rfl
theorem dX12_nearestTo_25 : decode cX12_nearestTo 25 = .ok (.lcmp, 1) := lw_dr lw_d_cX12_nearestTo_0 16 rfl
theorem dX12_nearestTo_26 : decode cX12_nearestTo 26 = .ok (.ifCond .le 6, 3) := lw_dr lw_d_cX12_nearestTo_0 17 rfl
theorem dX12_nearestTo_32 : decode cX12_nearestTo 32 = .ok (.iload_n 0, 1) := lw_dr lw_d_cX12_nearestTo_0 18 rfl
theorem dX12_nearestTo_33 : decode cX12_nearestTo 33 = .ok (.ifCond .ge 8, 3) := lw_dr lw_d_cX12_nearestTo_0 19 rfl
theorem dX12_nearestTo_41 : decode cX12_nearestTo 41 = .ok (.iload_n 3, 1) := lw_dr lw_d_cX12_nearestTo_0 20 rfl
theorem dX12_nearestTo_42 : decode cX12_nearestTo 42 = .ok (.ireturn, 1) := lw_dr lw_d_cX12_nearestTo_0 21 rfl
theorem dX12_nearestTo_29 : decode cX12_nearestTo 29 = .ok (.iinc 3 1, 3) := lw_dr lw_d_cX12_nearestTo_0 22 rfl
theorem dX12_nearestTo_4 : decode cX12_nearestTo 4 = .ok (.iload_n 0, 1) := lw_dr lw_d_cX12_nearestTo_0 23 rfl
theorem dX12_nearestTo_5 : decode cX12_nearestTo 5 = .ok (.ineg, 1) := lw_dr lw_d_cX12_nearestTo_0 24 rfl
theorem dX12_nearestTo_6 : decode cX12_nearestTo 6 = .ok (.goto 4, 3) := lw_dr lw_d_cX12_nearestTo_0 25 rfl
theorem dX12_nearestTo_36 : decode cX12_nearestTo 36 = .ok (.iload_n 3, 1) := lw_dr lw_d_cX12_nearestTo_0 26 rfl
theorem dX12_nearestTo_37 : decode cX12_nearestTo 37 = .ok (.ineg, 1) := lw_dr lw_d_cX12_nearestTo_0 27 rfl
theorem dX12_nearestTo_38 : decode cX12_nearestTo 38 = .ok (.goto 4, 3) := lw_dr lw_d_cX12_nearestTo_0 28 rfl
theorem lw_d_cX12_goes_0 : lw_dl cX12_goes [(0, .iconst 0, 1), (1, .istore 4, 2), (3, .iload 4, 2), (5, .aload_n 0, 1), (6, .getfield 240, 3)] = true := by decide +kernel
theorem dX12_goes_0 : decode cX12_goes 0 = .ok (.iconst 0, 1) := lw_dr lw_d_cX12_goes_0 0 rfl
theorem dX12_goes_1 : decode cX12_goes 1 = .ok (.istore 4, 2) := lw_dr lw_d_cX12_goes_0 1 rfl
theorem dX12_goes_3 : decode cX12_goes 3 = .ok (.iload 4, 2) := lw_dr lw_d_cX12_goes_0 2 rfl
theorem dX12_goes_5 : decode cX12_goes 5 = .ok (.aload_n 0, 1) := lw_dr lw_d_cX12_goes_0 3 rfl
theorem dX12_goes_6 : decode cX12_goes 6 = .ok (.getfield 240, 3) := lw_dr lw_d_cX12_goes_0 4 rfl
theorem lw_d_cX12_goes_9 : lw_dl cX12_goes [(9, .if_icmp .ge 36, 3), (45, .iconst 0, 1), (46, .istore 4, 2), (48, .iload 4, 2), (50, .aload_n 0, 1), (51, .getfield 237, 3), (54, .if_icmp .ge 37, 3), (91, .return_, 1), (57, .aload_n 0, 1), (58, .getfield 121, 3), (61, .iconst 5, 1), (62, .iload 4, 2), (64, .imul, 1), (65, .iload_n 1, 1), (66, .iadd, 1), (67, .dup2, 1), (68, .laload, 1), (69, .iload_n 3, 1), (70, .i2l, 1), (71, .aload_n 0, 1), (72, .getfield 121, 3), (75, .iconst 5, 1), (76, .iload 4, 2), (78, .imul, 1), (79, .iload_n 2, 1), (80, .iadd, 1), (81, .laload, 1), (82, .lmul, 1), (83, .lsub, 1), (84, .lastore, 1), (85, .iinc 4 1, 3), (88, .goto (-40), 3), (12, .aload_n 0, 1), (13, .getfield 97, 3), (16, .iconst 5, 1), (17, .iload 4, 2), (19, .imul, 1), (20, .iload_n 1, 1), (21, .iadd, 1), (22, .dup2, 1)] = true := by decide +kernel
theorem dX12_goes_9 : decode cX12_goes 9 = .ok (.if_icmp .ge 36, 3) := lw_dr lw_d_cX12_goes_9 0 rfl
theorem dX12_goes_45 : decode cX12_goes 45 = .ok (.iconst 0, 1) := lw_dr lw_d_cX12_goes_9 1 rfl
theorem dX12_goes_46 : decode cX12_goes 46 = .ok (.istore 4, 2) := lw_dr lw_d_cX12_goes_9 2 rfl
theorem dX12_goes_48 : decode cX12_goes 48 = .ok (.iload 4, 2) := lw_dr lw_d_cX12_goes_9 3 rfl
theorem dX12_goes_50 : decode cX12_goes 50 = .ok (.aload_n 0, 1) := lw_dr lw_d_cX12_goes_9 4 rfl
theorem dX12_goes_51 : decode cX12_goes 51 = .ok (.getfield 237, 3) := lw_dr lw_d_cX12_goes_9 5 rfl
theorem dX12_goes_54 : decode cX12_goes 54 = .ok (.if_icmp .ge 37, 3) := lw_dr lw_d_cX12_goes_9 6 rfl
theorem dX12_goes_91 : decode cX12_goes 91 = .ok (.return_, 1) := lw_dr lw_d_cX12_goes_9 7 rfl
theorem dX12_goes_57 : decode cX12_goes 57 = .ok (.aload_n 0, 1) := lw_dr lw_d_cX12_goes_9 8 rfl
theorem dX12_goes_58 : decode cX12_goes 58 = .ok (.getfield 121, 3) := lw_dr lw_d_cX12_goes_9 9 rfl
theorem dX12_goes_61 : decode cX12_goes 61 = .ok (.iconst 5, 1) := lw_dr lw_d_cX12_goes_9 10 rfl
theorem dX12_goes_62 : decode cX12_goes 62 = .ok (.iload 4, 2) := lw_dr lw_d_cX12_goes_9 11 rfl
theorem dX12_goes_64 : decode cX12_goes 64 = .ok (.imul, 1) := lw_dr lw_d_cX12_goes_9 12 rfl
theorem dX12_goes_65 : decode cX12_goes 65 = .ok (.iload_n 1, 1) := lw_dr lw_d_cX12_goes_9 13 rfl
theorem dX12_goes_66 : decode cX12_goes 66 = .ok (.iadd, 1) := lw_dr lw_d_cX12_goes_9 14 rfl
theorem dX12_goes_67 : decode cX12_goes 67 = .ok (.dup2, 1) := lw_dr lw_d_cX12_goes_9 15 rfl
theorem dX12_goes_68 : decode cX12_goes 68 = .ok (.laload, 1) := lw_dr lw_d_cX12_goes_9 16 rfl
theorem dX12_goes_69 : decode cX12_goes 69 = .ok (.iload_n 3, 1) := lw_dr lw_d_cX12_goes_9 17 rfl
theorem dX12_goes_70 : decode cX12_goes 70 = .ok (.i2l, 1) := lw_dr lw_d_cX12_goes_9 18 rfl
theorem dX12_goes_71 : decode cX12_goes 71 = .ok (.aload_n 0, 1) := lw_dr lw_d_cX12_goes_9 19 rfl
theorem dX12_goes_72 : decode cX12_goes 72 = .ok (.getfield 121, 3) := lw_dr lw_d_cX12_goes_9 20 rfl
theorem dX12_goes_75 : decode cX12_goes 75 = .ok (.iconst 5, 1) := lw_dr lw_d_cX12_goes_9 21 rfl
theorem dX12_goes_76 : decode cX12_goes 76 = .ok (.iload 4, 2) := lw_dr lw_d_cX12_goes_9 22 rfl
theorem dX12_goes_78 : decode cX12_goes 78 = .ok (.imul, 1) := lw_dr lw_d_cX12_goes_9 23 rfl
theorem dX12_goes_79 : decode cX12_goes 79 = .ok (.iload_n 2, 1) := lw_dr lw_d_cX12_goes_9 24 rfl
theorem dX12_goes_80 : decode cX12_goes 80 = .ok (.iadd, 1) := lw_dr lw_d_cX12_goes_9 25 rfl
theorem dX12_goes_81 : decode cX12_goes 81 = .ok (.laload, 1) := lw_dr lw_d_cX12_goes_9 26 rfl
theorem dX12_goes_82 : decode cX12_goes 82 = .ok (.lmul, 1) := lw_dr lw_d_cX12_goes_9 27 rfl
theorem dX12_goes_83 : decode cX12_goes 83 = .ok (.lsub, 1) := lw_dr lw_d_cX12_goes_9 28 rfl
theorem dX12_goes_84 : decode cX12_goes 84 = .ok (.lastore, 1) := lw_dr lw_d_cX12_goes_9 29 rfl
theorem dX12_goes_85 : decode cX12_goes 85 = .ok (.iinc 4 1, 3) := lw_dr lw_d_cX12_goes_9 30 rfl
theorem dX12_goes_88 : decode cX12_goes 88 = .ok (.goto (-40), 3) := lw_dr lw_d_cX12_goes_9 31 rfl
theorem dX12_goes_12 : decode cX12_goes 12 = .ok (.aload_n 0, 1) := lw_dr lw_d_cX12_goes_9 32 rfl
theorem dX12_goes_13 : decode cX12_goes 13 = .ok (.getfield 97, 3) := lw_dr lw_d_cX12_goes_9 33 rfl
theorem dX12_goes_16 : decode cX12_goes 16 = .ok (.iconst 5, 1) := lw_dr lw_d_cX12_goes_9 34 rfl
theorem dX12_goes_17 : decode cX12_goes 17 = .ok (.iload 4, 2) := lw_dr lw_d_cX12_goes_9 35 rfl
theorem dX12_goes_19 : decode cX12_goes 19 = .ok (.imul, 1) := lw_dr lw_d_cX12_goes_9 36 rfl
theorem dX12_goes_20 : decode cX12_goes 20 = .ok (.iload_n 1, 1) := lw_dr lw_d_cX12_goes_9 37 rfl
theorem dX12_goes_21 : decode cX12_goes 21 = .ok (.iadd, 1) := lw_dr lw_d_cX12_goes_9 38 rfl
theorem dX12_goes_22 : decode cX12_goes 22 = .ok (.dup2, 1) := lw_dr lw_d_cX12_goes_9 39 rfl
theorem lw_d_cX12_goes_23 : lw_dl cX12_goes [(23, .iaload, 1), (24, .iload_n 3, 1), (25, .aload_n 0, 1), (26, .getfield 97, 3), (29, .iconst 5, 1), (30, .iload 4, 2), (32, .imul, 1), (33, .iload_n 2, 1), (34, .iadd, 1), (35, .iaload, 1), (36, .imul, 1), (37, .isub, 1), (38, .iastore, 1), (39, .iinc 4 1, 3), (42, .goto (-39), 3)] = true := by decide +kernel
theorem dX12_goes_23 : decode cX12_goes 23 = .ok (.iaload, 1) := lw_dr lw_d_cX12_goes_23 0 rfl
theorem dX12_goes_24 : decode cX12_goes 24 = .ok (.iload_n 3, 1) := lw_dr lw_d_cX12_goes_23 1 rfl
theorem dX12_goes_25 : decode cX12_goes 25 = .ok (.aload_n 0, 1) := lw_dr lw_d_cX12_goes_23 2 rfl
theorem dX12_goes_26 : decode cX12_goes 26 = .ok (.getfield 97, 3) := lw_dr lw_d_cX12_goes_23 3 rfl
theorem dX12_goes_29 : decode cX12_goes 29 = .ok (.iconst 5, 1) := lw_dr lw_d_cX12_goes_23 4 rfl
theorem dX12_goes_30 : decode cX12_goes 30 = .ok (.iload 4, 2) := lw_dr lw_d_cX12_goes_23 5 rfl
theorem dX12_goes_32 : decode cX12_goes 32 = .ok (.imul, 1) := lw_dr lw_d_cX12_goes_23 6 rfl
theorem dX12_goes_33 : decode cX12_goes 33 = .ok (.iload_n 2, 1) := lw_dr lw_d_cX12_goes_23 7 rfl
theorem dX12_goes_34 : decode cX12_goes 34 = .ok (.iadd, 1) := lw_dr lw_d_cX12_goes_23 8 rfl
theorem dX12_goes_35 : decode cX12_goes 35 = .ok (.iaload, 1) := lw_dr lw_d_cX12_goes_23 9 rfl
theorem dX12_goes_36 : decode cX12_goes 36 = .ok (.imul, 1) := lw_dr lw_d_cX12_goes_23 10 rfl
theorem dX12_goes_37 : decode cX12_goes 37 = .ok (.isub, 1) := lw_dr lw_d_cX12_goes_23 11 rfl
theorem dX12_goes_38 : decode cX12_goes 38 = .ok (.iastore, 1) := lw_dr lw_d_cX12_goes_23 12 rfl
theorem dX12_goes_39 : decode cX12_goes 39 = .ok (.iinc 4 1, 3) := lw_dr lw_d_cX12_goes_23 13 rfl
theorem dX12_goes_42 : decode cX12_goes 42 = .ok (.goto (-39), 3) := lw_dr lw_d_cX12_goes_23 14 rfl
theorem lw_d_cX12_isStep_87 : lw_dl cX12_isStep [(87, .aload_n 0, 1), (88, .getfield 124, 3), (91, .aload_n 0, 1), (92, .getfield 349, 3), (95, .iload_n 1, 1), (96, .iastore, 1), (97, .aload_n 0, 1), (98, .getfield 127, 3), (101, .aload_n 0, 1), (102, .getfield 349, 3), (105, .iload_n 2, 1), (106, .iastore, 1), (107, .aload_n 0, 1), (108, .getfield 130, 3), (111, .aload_n 0, 1), (112, .getfield 349, 3), (115, .iload 4, 2), (117, .iastore, 1), (118, .aload_n 0, 1), (119, .dup, 1), (120, .getfield 349, 3), (123, .iconst 1, 1), (124, .iadd, 1), (125, .putfield 349, 3), (128, .iconst 1, 1), (129, .ireturn, 1), (76, .goto 54, 3), (52, .goto 78, 3), (10, .iconst 0, 1), (11, .ireturn, 1)] = true := by decide +kernel
theorem dX12_isStep_87 : decode cX12_isStep 87 = .ok (.aload_n 0, 1) := lw_dr lw_d_cX12_isStep_87 0 rfl
theorem dX12_isStep_88 : decode cX12_isStep 88 = .ok (.getfield 124, 3) := lw_dr lw_d_cX12_isStep_87 1 rfl
theorem dX12_isStep_91 : decode cX12_isStep 91 = .ok (.aload_n 0, 1) := lw_dr lw_d_cX12_isStep_87 2 rfl
theorem dX12_isStep_92 : decode cX12_isStep 92 = .ok (.getfield 349, 3) := lw_dr lw_d_cX12_isStep_87 3 rfl
theorem dX12_isStep_95 : decode cX12_isStep 95 = .ok (.iload_n 1, 1) := lw_dr lw_d_cX12_isStep_87 4 rfl
theorem dX12_isStep_96 : decode cX12_isStep 96 = .ok (.iastore, 1) := lw_dr lw_d_cX12_isStep_87 5 rfl
theorem dX12_isStep_97 : decode cX12_isStep 97 = .ok (.aload_n 0, 1) := lw_dr lw_d_cX12_isStep_87 6 rfl
theorem dX12_isStep_98 : decode cX12_isStep 98 = .ok (.getfield 127, 3) := lw_dr lw_d_cX12_isStep_87 7 rfl
theorem dX12_isStep_101 : decode cX12_isStep 101 = .ok (.aload_n 0, 1) := lw_dr lw_d_cX12_isStep_87 8 rfl
theorem dX12_isStep_102 : decode cX12_isStep 102 = .ok (.getfield 349, 3) := lw_dr lw_d_cX12_isStep_87 9 rfl
theorem dX12_isStep_105 : decode cX12_isStep 105 = .ok (.iload_n 2, 1) := lw_dr lw_d_cX12_isStep_87 10 rfl
theorem dX12_isStep_106 : decode cX12_isStep 106 = .ok (.iastore, 1) := lw_dr lw_d_cX12_isStep_87 11 rfl
theorem dX12_isStep_107 : decode cX12_isStep 107 = .ok (.aload_n 0, 1) := lw_dr lw_d_cX12_isStep_87 12 rfl
theorem dX12_isStep_108 : decode cX12_isStep 108 = .ok (.getfield 130, 3) := lw_dr lw_d_cX12_isStep_87 13 rfl
theorem dX12_isStep_111 : decode cX12_isStep 111 = .ok (.aload_n 0, 1) := lw_dr lw_d_cX12_isStep_87 14 rfl
theorem dX12_isStep_112 : decode cX12_isStep 112 = .ok (.getfield 349, 3) := lw_dr lw_d_cX12_isStep_87 15 rfl
theorem dX12_isStep_115 : decode cX12_isStep 115 = .ok (.iload 4, 2) := lw_dr lw_d_cX12_isStep_87 16 rfl
theorem dX12_isStep_117 : decode cX12_isStep 117 = .ok (.iastore, 1) := lw_dr lw_d_cX12_isStep_87 17 rfl
theorem dX12_isStep_118 : decode cX12_isStep 118 = .ok (.aload_n 0, 1) := lw_dr lw_d_cX12_isStep_87 18 rfl
theorem dX12_isStep_119 : decode cX12_isStep 119 = .ok (.dup, 1) := lw_dr lw_d_cX12_isStep_87 19 rfl
theorem dX12_isStep_120 : decode cX12_isStep 120 = .ok (.getfield 349, 3) := lw_dr lw_d_cX12_isStep_87 20 rfl
theorem dX12_isStep_123 : decode cX12_isStep 123 = .ok (.iconst 1, 1) := lw_dr lw_d_cX12_isStep_87 21 rfl
theorem dX12_isStep_124 : decode cX12_isStep 124 = .ok (.iadd, 1) := lw_dr lw_d_cX12_isStep_87 22 rfl
theorem dX12_isStep_125 : decode cX12_isStep 125 = .ok (.putfield 349, 3) := lw_dr lw_d_cX12_isStep_87 23 rfl
theorem dX12_isStep_128 : decode cX12_isStep 128 = .ok (.iconst 1, 1) := lw_dr lw_d_cX12_isStep_87 24 rfl
theorem dX12_isStep_129 : decode cX12_isStep 129 = .ok (.ireturn, 1) := lw_dr lw_d_cX12_isStep_87 25 rfl
theorem dX12_isStep_76 : decode cX12_isStep 76 = .ok (.goto 54, 3) := lw_dr lw_d_cX12_isStep_87 26 rfl
theorem dX12_isStep_52 : decode cX12_isStep 52 = .ok (.goto 78, 3) := lw_dr lw_d_cX12_isStep_87 27 rfl
theorem dX12_isStep_10 : decode cX12_isStep 10 = .ok (.iconst 0, 1) := lw_dr lw_d_cX12_isStep_87 28 rfl
theorem dX12_isStep_11 : decode cX12_isStep 11 = .ok (.ireturn, 1) := lw_dr lw_d_cX12_isStep_87 29 rfl
theorem lw_d_cX12_lead_25 : lw_dl cX12_lead [(25, .ifCond .eq 33, 3), (28, .iinc 2 1, 3), (31, .aload_n 0, 1), (32, .getfield 352, 3), (35, .bipush 40, 2), (37, .if_icmp .ge 13, 3), (50, .aload_n 0, 1), (51, .iconst 0, 1), (52, .putfield 355, 3), (55, .goto (-39), 3), (40, .aload_n 0, 1), (41, .dup, 1), (42, .getfield 352, 3), (45, .iconst 1, 1), (46, .iadd, 1), (47, .putfield 352, 3), (12, .iconst (-1), 1), (13, .ireturn, 1)] = true := by decide +kernel
theorem dX12_lead_25 : decode cX12_lead 25 = .ok (.ifCond .eq 33, 3) := lw_dr lw_d_cX12_lead_25 0 rfl
theorem dX12_lead_28 : decode cX12_lead 28 = .ok (.iinc 2 1, 3) := lw_dr lw_d_cX12_lead_25 1 rfl
theorem dX12_lead_31 : decode cX12_lead 31 = .ok (.aload_n 0, 1) := lw_dr lw_d_cX12_lead_25 2 rfl
theorem dX12_lead_32 : decode cX12_lead 32 = .ok (.getfield 352, 3) := lw_dr lw_d_cX12_lead_25 3 rfl
theorem dX12_lead_35 : decode cX12_lead 35 = .ok (.bipush 40, 2) := lw_dr lw_d_cX12_lead_25 4 rfl
theorem dX12_lead_37 : decode cX12_lead 37 = .ok (.if_icmp .ge 13, 3) := lw_dr lw_d_cX12_lead_25 5 rfl
theorem dX12_lead_50 : decode cX12_lead 50 = .ok (.aload_n 0, 1) := lw_dr lw_d_cX12_lead_25 6 rfl
theorem dX12_lead_51 : decode cX12_lead 51 = .ok (.iconst 0, 1) := lw_dr lw_d_cX12_lead_25 7 rfl
theorem dX12_lead_52 : decode cX12_lead 52 = .ok (.putfield 355, 3) := lw_dr lw_d_cX12_lead_25 8 rfl
theorem dX12_lead_55 : decode cX12_lead 55 = .ok (.goto (-39), 3) := lw_dr lw_d_cX12_lead_25 9 rfl
theorem dX12_lead_40 : decode cX12_lead 40 = .ok (.aload_n 0, 1) := lw_dr lw_d_cX12_lead_25 10 rfl
theorem dX12_lead_41 : decode cX12_lead 41 = .ok (.dup, 1) := lw_dr lw_d_cX12_lead_25 11 rfl
theorem dX12_lead_42 : decode cX12_lead 42 = .ok (.getfield 352, 3) := lw_dr lw_d_cX12_lead_25 12 rfl
theorem dX12_lead_45 : decode cX12_lead 45 = .ok (.iconst 1, 1) := lw_dr lw_d_cX12_lead_25 13 rfl
theorem dX12_lead_46 : decode cX12_lead 46 = .ok (.iadd, 1) := lw_dr lw_d_cX12_lead_25 14 rfl
theorem dX12_lead_47 : decode cX12_lead 47 = .ok (.putfield 352, 3) := lw_dr lw_d_cX12_lead_25 15 rfl
theorem dX12_lead_12 : decode cX12_lead 12 = .ok (.iconst (-1), 1) := lw_dr lw_d_cX12_lead_25 16 rfl
theorem dX12_lead_13 : decode cX12_lead 13 = .ok (.ireturn, 1) := lw_dr lw_d_cX12_lead_25 17 rfl
theorem lw_d_cX12_undo_0 : lw_dl cX12_undo [(0, .aload_n 0, 1), (1, .getfield 352, 3), (4, .ifCond .ne 5, 3), (9, .aload_n 0, 1), (10, .dup, 1), (11, .getfield 349, 3), (14, .iconst 1, 1), (15, .isub, 1), (16, .putfield 349, 3), (19, .aload_n 0, 1), (20, .aload_n 0, 1), (21, .getfield 124, 3), (24, .aload_n 0, 1), (25, .getfield 349, 3), (28, .iaload, 1), (29, .aload_n 0, 1), (30, .getfield 127, 3), (33, .aload_n 0, 1), (34, .getfield 349, 3), (37, .iaload, 1), (38, .aload_n 0, 1), (39, .getfield 130, 3), (42, .aload_n 0, 1), (43, .getfield 349, 3), (46, .iaload, 1), (47, .ineg, 1), (48, .invokevirtual 436, 3), (51, .aload_n 0, 1), (52, .dup, 1), (53, .getfield 352, 3), (56, .iconst 1, 1), (57, .isub, 1), (58, .putfield 352, 3), (61, .aload_n 0, 1), (62, .dup, 1), (63, .getfield 355, 3), (66, .iconst 1, 1), (67, .iadd, 1), (68, .putfield 355, 3), (71, .iconst 1, 1)] = true := by decide +kernel
theorem dX12_undo_0 : decode cX12_undo 0 = .ok (.aload_n 0, 1) := lw_dr lw_d_cX12_undo_0 0 rfl
theorem dX12_undo_1 : decode cX12_undo 1 = .ok (.getfield 352, 3) := lw_dr lw_d_cX12_undo_0 1 rfl
theorem dX12_undo_4 : decode cX12_undo 4 = .ok (.ifCond .ne 5, 3) := lw_dr lw_d_cX12_undo_0 2 rfl
theorem dX12_undo_9 : decode cX12_undo 9 = .ok (.aload_n 0, 1) := lw_dr lw_d_cX12_undo_0 3 rfl
theorem dX12_undo_10 : decode cX12_undo 10 = .ok (.dup, 1) := lw_dr lw_d_cX12_undo_0 4 rfl
theorem dX12_undo_11 : decode cX12_undo 11 = .ok (.getfield 349, 3) := lw_dr lw_d_cX12_undo_0 5 rfl
theorem dX12_undo_14 : decode cX12_undo 14 = .ok (.iconst 1, 1) := lw_dr lw_d_cX12_undo_0 6 rfl
theorem dX12_undo_15 : decode cX12_undo 15 = .ok (.isub, 1) := lw_dr lw_d_cX12_undo_0 7 rfl
theorem dX12_undo_16 : decode cX12_undo 16 = .ok (.putfield 349, 3) := lw_dr lw_d_cX12_undo_0 8 rfl
theorem dX12_undo_19 : decode cX12_undo 19 = .ok (.aload_n 0, 1) := lw_dr lw_d_cX12_undo_0 9 rfl
theorem dX12_undo_20 : decode cX12_undo 20 = .ok (.aload_n 0, 1) := lw_dr lw_d_cX12_undo_0 10 rfl
theorem dX12_undo_21 : decode cX12_undo 21 = .ok (.getfield 124, 3) := lw_dr lw_d_cX12_undo_0 11 rfl
theorem dX12_undo_24 : decode cX12_undo 24 = .ok (.aload_n 0, 1) := lw_dr lw_d_cX12_undo_0 12 rfl
theorem dX12_undo_25 : decode cX12_undo 25 = .ok (.getfield 349, 3) := lw_dr lw_d_cX12_undo_0 13 rfl
theorem dX12_undo_28 : decode cX12_undo 28 = .ok (.iaload, 1) := lw_dr lw_d_cX12_undo_0 14 rfl
theorem dX12_undo_29 : decode cX12_undo 29 = .ok (.aload_n 0, 1) := lw_dr lw_d_cX12_undo_0 15 rfl
theorem dX12_undo_30 : decode cX12_undo 30 = .ok (.getfield 127, 3) := lw_dr lw_d_cX12_undo_0 16 rfl
theorem dX12_undo_33 : decode cX12_undo 33 = .ok (.aload_n 0, 1) := lw_dr lw_d_cX12_undo_0 17 rfl
theorem dX12_undo_34 : decode cX12_undo 34 = .ok (.getfield 349, 3) := lw_dr lw_d_cX12_undo_0 18 rfl
theorem dX12_undo_37 : decode cX12_undo 37 = .ok (.iaload, 1) := lw_dr lw_d_cX12_undo_0 19 rfl
theorem dX12_undo_38 : decode cX12_undo 38 = .ok (.aload_n 0, 1) := lw_dr lw_d_cX12_undo_0 20 rfl
theorem dX12_undo_39 : decode cX12_undo 39 = .ok (.getfield 130, 3) := lw_dr lw_d_cX12_undo_0 21 rfl
theorem dX12_undo_42 : decode cX12_undo 42 = .ok (.aload_n 0, 1) := lw_dr lw_d_cX12_undo_0 22 rfl
theorem dX12_undo_43 : decode cX12_undo 43 = .ok (.getfield 349, 3) := lw_dr lw_d_cX12_undo_0 23 rfl
theorem dX12_undo_46 : decode cX12_undo 46 = .ok (.iaload, 1) := lw_dr lw_d_cX12_undo_0 24 rfl
theorem dX12_undo_47 : decode cX12_undo 47 = .ok (.ineg, 1) := lw_dr lw_d_cX12_undo_0 25 rfl
theorem dX12_undo_48 : decode cX12_undo 48 = .ok (.invokevirtual 436, 3) := lw_dr lw_d_cX12_undo_0 26 rfl
theorem dX12_undo_51 : decode cX12_undo 51 = .ok (.aload_n 0, 1) := lw_dr lw_d_cX12_undo_0 27 rfl
theorem dX12_undo_52 : decode cX12_undo 52 = .ok (.dup, 1) := lw_dr lw_d_cX12_undo_0 28 rfl
theorem dX12_undo_53 : decode cX12_undo 53 = .ok (.getfield 352, 3) := lw_dr lw_d_cX12_undo_0 29 rfl
theorem dX12_undo_56 : decode cX12_undo 56 = .ok (.iconst 1, 1) := lw_dr lw_d_cX12_undo_0 30 rfl
theorem dX12_undo_57 : decode cX12_undo 57 = .ok (.isub, 1) := lw_dr lw_d_cX12_undo_0 31 rfl
theorem dX12_undo_58 : decode cX12_undo 58 = .ok (.putfield 352, 3) := lw_dr lw_d_cX12_undo_0 32 rfl
theorem dX12_undo_61 : decode cX12_undo 61 = .ok (.aload_n 0, 1) := lw_dr lw_d_cX12_undo_0 33 rfl
theorem dX12_undo_62 : decode cX12_undo 62 = .ok (.dup, 1) := lw_dr lw_d_cX12_undo_0 34 rfl
theorem dX12_undo_63 : decode cX12_undo 63 = .ok (.getfield 355, 3) := lw_dr lw_d_cX12_undo_0 35 rfl
theorem dX12_undo_66 : decode cX12_undo 66 = .ok (.iconst 1, 1) := lw_dr lw_d_cX12_undo_0 36 rfl
theorem dX12_undo_67 : decode cX12_undo 67 = .ok (.iadd, 1) := lw_dr lw_d_cX12_undo_0 37 rfl
theorem dX12_undo_68 : decode cX12_undo 68 = .ok (.putfield 355, 3) := lw_dr lw_d_cX12_undo_0 38 rfl
theorem dX12_undo_71 : decode cX12_undo 71 = .ok (.iconst 1, 1) := lw_dr lw_d_cX12_undo_0 39 rfl
theorem lw_d_cX12_undo_72 : lw_dl cX12_undo [(72, .ireturn, 1), (7, .iconst 0, 1), (8, .ireturn, 1)] = true := by decide +kernel
theorem dX12_undo_72 : decode cX12_undo 72 = .ok (.ireturn, 1) := lw_dr lw_d_cX12_undo_72 0 rfl
theorem dX12_undo_7 : decode cX12_undo 7 = .ok (.iconst 0, 1) := lw_dr lw_d_cX12_undo_72 1 rfl
theorem dX12_undo_8 : decode cX12_undo 8 = .ok (.ireturn, 1) := lw_dr lw_d_cX12_undo_72 2 rfl
theorem lw_d_cX12_redo_0 : lw_dl cX12_redo [(0, .aload_n 0, 1), (1, .getfield 355, 3), (4, .ifCond .ne 5, 3), (9, .aload_n 0, 1), (10, .aload_n 0, 1), (11, .getfield 124, 3), (14, .aload_n 0, 1), (15, .getfield 349, 3), (18, .iaload, 1), (19, .aload_n 0, 1), (20, .getfield 127, 3), (23, .aload_n 0, 1), (24, .getfield 349, 3), (27, .iaload, 1), (28, .aload_n 0, 1), (29, .getfield 130, 3), (32, .aload_n 0, 1), (33, .getfield 349, 3), (36, .iaload, 1), (37, .invokevirtual 436, 3), (40, .aload_n 0, 1), (41, .dup, 1), (42, .getfield 349, 3), (45, .iconst 1, 1), (46, .iadd, 1), (47, .putfield 349, 3), (50, .aload_n 0, 1), (51, .dup, 1), (52, .getfield 352, 3), (55, .iconst 1, 1), (56, .iadd, 1), (57, .putfield 352, 3), (60, .aload_n 0, 1), (61, .dup, 1), (62, .getfield 355, 3), (65, .iconst 1, 1), (66, .isub, 1), (67, .putfield 355, 3), (70, .iconst 1, 1), (71, .ireturn, 1)] = true := by decide +kernel
theorem dX12_redo_0 : decode cX12_redo 0 = .ok (.aload_n 0, 1) := lw_dr lw_d_cX12_redo_0 0 rfl
theorem dX12_redo_1 : decode cX12_redo 1 = .ok (.getfield 355, 3) := lw_dr lw_d_cX12_redo_0 1 rfl
theorem dX12_redo_4 : decode cX12_redo 4 = .ok (.ifCond .ne 5, 3) := lw_dr lw_d_cX12_redo_0 2 rfl
theorem dX12_redo_9 : decode cX12_redo 9 = .ok (.aload_n 0, 1) := lw_dr lw_d_cX12_redo_0 3 rfl
theorem dX12_redo_10 : decode cX12_redo 10 = .ok (.aload_n 0, 1) := lw_dr lw_d_cX12_redo_0 4 rfl
theorem dX12_redo_11 : decode cX12_redo 11 = .ok (.getfield 124, 3) := lw_dr lw_d_cX12_redo_0 5 rfl
theorem dX12_redo_14 : decode cX12_redo 14 = .ok (.aload_n 0, 1) := lw_dr lw_d_cX12_redo_0 6 rfl
theorem dX12_redo_15 : decode cX12_redo 15 = .ok (.getfield 349, 3) := lw_dr lw_d_cX12_redo_0 7 rfl
theorem dX12_redo_18 : decode cX12_redo 18 = .ok (.iaload, 1) := lw_dr lw_d_cX12_redo_0 8 rfl
theorem dX12_redo_19 : decode cX12_redo 19 = .ok (.aload_n 0, 1) := lw_dr lw_d_cX12_redo_0 9 rfl
theorem dX12_redo_20 : decode cX12_redo 20 = .ok (.getfield 127, 3) := lw_dr lw_d_cX12_redo_0 10 rfl
theorem dX12_redo_23 : decode cX12_redo 23 = .ok (.aload_n 0, 1) := lw_dr lw_d_cX12_redo_0 11 rfl
theorem dX12_redo_24 : decode cX12_redo 24 = .ok (.getfield 349, 3) := lw_dr lw_d_cX12_redo_0 12 rfl
theorem dX12_redo_27 : decode cX12_redo 27 = .ok (.iaload, 1) := lw_dr lw_d_cX12_redo_0 13 rfl
theorem dX12_redo_28 : decode cX12_redo 28 = .ok (.aload_n 0, 1) := lw_dr lw_d_cX12_redo_0 14 rfl
theorem dX12_redo_29 : decode cX12_redo 29 = .ok (.getfield 130, 3) := lw_dr lw_d_cX12_redo_0 15 rfl
theorem dX12_redo_32 : decode cX12_redo 32 = .ok (.aload_n 0, 1) := lw_dr lw_d_cX12_redo_0 16 rfl
theorem dX12_redo_33 : decode cX12_redo 33 = .ok (.getfield 349, 3) := lw_dr lw_d_cX12_redo_0 17 rfl
theorem dX12_redo_36 : decode cX12_redo 36 = .ok (.iaload, 1) := lw_dr lw_d_cX12_redo_0 18 rfl
theorem dX12_redo_37 : decode cX12_redo 37 = .ok (.invokevirtual 436, 3) := lw_dr lw_d_cX12_redo_0 19 rfl
theorem dX12_redo_40 : decode cX12_redo 40 = .ok (.aload_n 0, 1) := lw_dr lw_d_cX12_redo_0 20 rfl
theorem dX12_redo_41 : decode cX12_redo 41 = .ok (.dup, 1) := lw_dr lw_d_cX12_redo_0 21 rfl
theorem dX12_redo_42 : decode cX12_redo 42 = .ok (.getfield 349, 3) := lw_dr lw_d_cX12_redo_0 22 rfl
theorem dX12_redo_45 : decode cX12_redo 45 = .ok (.iconst 1, 1) := lw_dr lw_d_cX12_redo_0 23 rfl
theorem dX12_redo_46 : decode cX12_redo 46 = .ok (.iadd, 1) := lw_dr lw_d_cX12_redo_0 24 rfl
theorem dX12_redo_47 : decode cX12_redo 47 = .ok (.putfield 349, 3) := lw_dr lw_d_cX12_redo_0 25 rfl
theorem dX12_redo_50 : decode cX12_redo 50 = .ok (.aload_n 0, 1) := lw_dr lw_d_cX12_redo_0 26 rfl
theorem dX12_redo_51 : decode cX12_redo 51 = .ok (.dup, 1) := lw_dr lw_d_cX12_redo_0 27 rfl
theorem dX12_redo_52 : decode cX12_redo 52 = .ok (.getfield 352, 3) := lw_dr lw_d_cX12_redo_0 28 rfl
theorem dX12_redo_55 : decode cX12_redo 55 = .ok (.iconst 1, 1) := lw_dr lw_d_cX12_redo_0 29 rfl
theorem dX12_redo_56 : decode cX12_redo 56 = .ok (.iadd, 1) := lw_dr lw_d_cX12_redo_0 30 rfl
theorem dX12_redo_57 : decode cX12_redo 57 = .ok (.putfield 352, 3) := lw_dr lw_d_cX12_redo_0 31 rfl
theorem dX12_redo_60 : decode cX12_redo 60 = .ok (.aload_n 0, 1) := lw_dr lw_d_cX12_redo_0 32 rfl
theorem dX12_redo_61 : decode cX12_redo 61 = .ok (.dup, 1) := lw_dr lw_d_cX12_redo_0 33 rfl
theorem dX12_redo_62 : decode cX12_redo 62 = .ok (.getfield 355, 3) := lw_dr lw_d_cX12_redo_0 34 rfl
theorem dX12_redo_65 : decode cX12_redo 65 = .ok (.iconst 1, 1) := lw_dr lw_d_cX12_redo_0 35 rfl
theorem dX12_redo_66 : decode cX12_redo 66 = .ok (.isub, 1) := lw_dr lw_d_cX12_redo_0 36 rfl
theorem dX12_redo_67 : decode cX12_redo 67 = .ok (.putfield 355, 3) := lw_dr lw_d_cX12_redo_0 37 rfl
theorem dX12_redo_70 : decode cX12_redo 70 = .ok (.iconst 1, 1) := lw_dr lw_d_cX12_redo_0 38 rfl
theorem dX12_redo_71 : decode cX12_redo 71 = .ok (.ireturn, 1) := lw_dr lw_d_cX12_redo_0 39 rfl
theorem lw_d_cX12_redo_7 : lw_dl cX12_redo [(7, .iconst 0, 1), (8, .ireturn, 1)] = true := by decide +kernel
theorem dX12_redo_7 : decode cX12_redo 7 = .ok (.iconst 0, 1) := lw_dr lw_d_cX12_redo_7 0 rfl
theorem dX12_redo_8 : decode cX12_redo 8 = .ok (.ireturn, 1) := lw_dr lw_d_cX12_redo_7 1 rfl
theorem lw_d_cX12_step_0 : lw_dl cX12_step [(0, .iload_n 1, 1), (1, .i2l, 1), (2, .lconst 0, 1), (3, .aload_n 0, 1), (4, .getfield 352, 3), (7, .iconst 1, 1), (8, .isub, 1), (9, .i2l, 1), (10, .invokestatic 191, 3), (13, .ifCond .eq 15, 3), (28, .ldc_w 364, 3), (31, .ireturn, 1), (16, .iload_n 2, 1), (17, .i2l, 1), (18, .lconst 0, 1), (19, .ldc2_w 431, 3), (22, .invokestatic 191, 3), (25, .ifCond .ne 7, 3), (32, .aload_n 0, 1), (33, .getfield 349, 3), (36, .aload_n 0, 1), (37, .getfield 352, 3), (40, .isub, 1), (41, .iload_n 1, 1), (42, .iadd, 1), (43, .istore_n 3, 1), (44, .iload_n 2, 1), (45, .ifCond .ne 12, 3), (57, .iload_n 2, 1), (58, .iconst 1, 1), (59, .if_icmp .ne 12, 3), (71, .aload_n 0, 1), (72, .getfield 130, 3), (75, .iload_n 3, 1), (76, .iaload, 1), (77, .ireturn, 1), (62, .aload_n 0, 1), (63, .getfield 127, 3), (66, .iload_n 3, 1), (67, .iaload, 1)] = true := by decide +kernel
theorem dX12_step_0 : decode cX12_step 0 = .ok (.iload_n 1, 1) := lw_dr lw_d_cX12_step_0 0 rfl
theorem dX12_step_1 : decode cX12_step 1 = .ok (.i2l, 1) := lw_dr lw_d_cX12_step_0 1 rfl
theorem dX12_step_2 : decode cX12_step 2 = .ok (.lconst 0, 1) := lw_dr lw_d_cX12_step_0 2 rfl
theorem dX12_step_3 : decode cX12_step 3 = .ok (.aload_n 0, 1) := lw_dr lw_d_cX12_step_0 3 rfl
theorem dX12_step_4 : decode cX12_step 4 = .ok (.getfield 352, 3) := lw_dr lw_d_cX12_step_0 4 rfl
theorem dX12_step_7 : decode cX12_step 7 = .ok (.iconst 1, 1) := lw_dr lw_d_cX12_step_0 5 rfl
theorem dX12_step_8 : decode cX12_step 8 = .ok (.isub, 1) := lw_dr lw_d_cX12_step_0 6 rfl
theorem dX12_step_9 : decode cX12_step 9 = .ok (.i2l, 1) := lw_dr lw_d_cX12_step_0 7 rfl
theorem dX12_step_10 : decode cX12_step 10 = .ok (.invokestatic 191, 3) := lw_dr lw_d_cX12_step_0 8 rfl
theorem dX12_step_13 : decode cX12_step 13 = .ok (.ifCond .eq 15, 3) := lw_dr lw_d_cX12_step_0 9 rfl
theorem dX12_step_28 : decode cX12_step 28 = .ok (.ldc_w 364, 3) := lw_dr lw_d_cX12_step_0 10 rfl
theorem dX12_step_31 : decode cX12_step 31 = .ok (.ireturn, 1) := lw_dr lw_d_cX12_step_0 11 rfl
theorem dX12_step_16 : decode cX12_step 16 = .ok (.iload_n 2, 1) := lw_dr lw_d_cX12_step_0 12 rfl
theorem dX12_step_17 : decode cX12_step 17 = .ok (.i2l, 1) := lw_dr lw_d_cX12_step_0 13 rfl
theorem dX12_step_18 : decode cX12_step 18 = .ok (.lconst 0, 1) := lw_dr lw_d_cX12_step_0 14 rfl
theorem dX12_step_19 : decode cX12_step 19 = .ok (.ldc2_w 431, 3) := lw_dr lw_d_cX12_step_0 15 rfl
theorem dX12_step_22 : decode cX12_step 22 = .ok (.invokestatic 191, 3) := lw_dr lw_d_cX12_step_0 16 rfl
theorem dX12_step_25 : decode cX12_step 25 = .ok (.ifCond .ne 7, 3) := lw_dr lw_d_cX12_step_0 17 rfl
theorem dX12_step_32 : decode cX12_step 32 = .ok (.aload_n 0, 1) := lw_dr lw_d_cX12_step_0 18 rfl
theorem dX12_step_33 : decode cX12_step 33 = .ok (.getfield 349, 3) := lw_dr lw_d_cX12_step_0 19 rfl
theorem dX12_step_36 : decode cX12_step 36 = .ok (.aload_n 0, 1) := lw_dr lw_d_cX12_step_0 20 rfl
theorem dX12_step_37 : decode cX12_step 37 = .ok (.getfield 352, 3) := lw_dr lw_d_cX12_step_0 21 rfl
theorem dX12_step_40 : decode cX12_step 40 = .ok (.isub, 1) := lw_dr lw_d_cX12_step_0 22 rfl
theorem dX12_step_41 : decode cX12_step 41 = .ok (.iload_n 1, 1) := lw_dr lw_d_cX12_step_0 23 rfl
theorem dX12_step_42 : decode cX12_step 42 = .ok (.iadd, 1) := lw_dr lw_d_cX12_step_0 24 rfl
theorem dX12_step_43 : decode cX12_step 43 = .ok (.istore_n 3, 1) := lw_dr lw_d_cX12_step_0 25 rfl
theorem dX12_step_44 : decode cX12_step 44 = .ok (.iload_n 2, 1) := lw_dr lw_d_cX12_step_0 26 rfl
theorem dX12_step_45 : decode cX12_step 45 = .ok (.ifCond .ne 12, 3) := lw_dr lw_d_cX12_step_0 27 rfl
theorem dX12_step_57 : decode cX12_step 57 = .ok (.iload_n 2, 1) := lw_dr lw_d_cX12_step_0 28 rfl
theorem dX12_step_58 : decode cX12_step 58 = .ok (.iconst 1, 1) := lw_dr lw_d_cX12_step_0 29 rfl
theorem dX12_step_59 : decode cX12_step 59 = .ok (.if_icmp .ne 12, 3) := lw_dr lw_d_cX12_step_0 30 rfl
theorem dX12_step_71 : decode cX12_step 71 = .ok (.aload_n 0, 1) := lw_dr lw_d_cX12_step_0 31 rfl
theorem dX12_step_72 : decode cX12_step 72 = .ok (.getfield 130, 3) := lw_dr lw_d_cX12_step_0 32 rfl
theorem dX12_step_75 : decode cX12_step 75 = .ok (.iload_n 3, 1) := lw_dr lw_d_cX12_step_0 33 rfl
theorem dX12_step_76 : decode cX12_step 76 = .ok (.iaload, 1) := lw_dr lw_d_cX12_step_0 34 rfl
theorem dX12_step_77 : decode cX12_step 77 = .ok (.ireturn, 1) := lw_dr lw_d_cX12_step_0 35 rfl
theorem dX12_step_62 : decode cX12_step 62 = .ok (.aload_n 0, 1) := lw_dr lw_d_cX12_step_0 36 rfl
theorem dX12_step_63 : decode cX12_step 63 = .ok (.getfield 127, 3) := lw_dr lw_d_cX12_step_0 37 rfl
theorem dX12_step_66 : decode cX12_step 66 = .ok (.iload_n 3, 1) := lw_dr lw_d_cX12_step_0 38 rfl
theorem dX12_step_67 : decode cX12_step 67 = .ok (.iaload, 1) := lw_dr lw_d_cX12_step_0 39 rfl
theorem lw_d_cX12_step_68 : lw_dl cX12_step [(68, .goto 9, 3), (48, .aload_n 0, 1), (49, .getfield 124, 3), (52, .iload_n 3, 1), (53, .iaload, 1), (54, .goto 23, 3)] = true := by decide +kernel
theorem dX12_step_68 : decode cX12_step 68 = .ok (.goto 9, 3) := lw_dr lw_d_cX12_step_68 0 rfl
theorem dX12_step_48 : decode cX12_step 48 = .ok (.aload_n 0, 1) := lw_dr lw_d_cX12_step_68 1 rfl
theorem dX12_step_49 : decode cX12_step 49 = .ok (.getfield 124, 3) := lw_dr lw_d_cX12_step_68 2 rfl
theorem dX12_step_52 : decode cX12_step 52 = .ok (.iload_n 3, 1) := lw_dr lw_d_cX12_step_68 3 rfl
theorem dX12_step_53 : decode cX12_step 53 = .ok (.iaload, 1) := lw_dr lw_d_cX12_step_68 4 rfl
theorem dX12_step_54 : decode cX12_step 54 = .ok (.goto 23, 3) := lw_dr lw_d_cX12_step_68 5 rfl
theorem lw_d_cX12_leader_0 : lw_dl cX12_leader [(0, .aload_n 0, 1), (1, .iload_n 1, 1), (2, .invokevirtual 361, 3), (5, .ifCond .eq 24, 3), (29, .ldc2_w 445, 3), (32, .lreturn, 1), (8, .aload_n 0, 1), (9, .iload_n 2, 1), (10, .invokevirtual 361, 3), (13, .ifCond .eq 16, 3), (16, .aload_n 0, 1), (17, .getfield 121, 3), (20, .iconst 5, 1), (21, .iload_n 1, 1), (22, .imul, 1), (23, .iload_n 2, 1), (24, .iadd, 1), (25, .laload, 1), (26, .goto 6, 3)] = true := by decide +kernel
theorem dX12_leader_0 : decode cX12_leader 0 = .ok (.aload_n 0, 1) := lw_dr lw_d_cX12_leader_0 0 rfl
theorem dX12_leader_1 : decode cX12_leader 1 = .ok (.iload_n 1, 1) := lw_dr lw_d_cX12_leader_0 1 rfl
theorem dX12_leader_2 : decode cX12_leader 2 = .ok (.invokevirtual 361, 3) := lw_dr lw_d_cX12_leader_0 2 rfl
theorem dX12_leader_5 : decode cX12_leader 5 = .ok (.ifCond .eq 24, 3) := lw_dr lw_d_cX12_leader_0 3 rfl
theorem dX12_leader_29 : decode cX12_leader 29 = .ok (.ldc2_w 445, 3) := lw_dr lw_d_cX12_leader_0 4 rfl
theorem dX12_leader_32 : decode cX12_leader 32 = .ok (.lreturn, 1) := lw_dr lw_d_cX12_leader_0 5 rfl
theorem dX12_leader_8 : decode cX12_leader 8 = .ok (.aload_n 0, 1) := lw_dr lw_d_cX12_leader_0 6 rfl
theorem dX12_leader_9 : decode cX12_leader 9 = .ok (.iload_n 2, 1) := lw_dr lw_d_cX12_leader_0 7 rfl
theorem dX12_leader_10 : decode cX12_leader 10 = .ok (.invokevirtual 361, 3) := lw_dr lw_d_cX12_leader_0 8 rfl
theorem dX12_leader_13 : decode cX12_leader 13 = .ok (.ifCond .eq 16, 3) := lw_dr lw_d_cX12_leader_0 9 rfl
theorem dX12_leader_16 : decode cX12_leader 16 = .ok (.aload_n 0, 1) := lw_dr lw_d_cX12_leader_0 10 rfl
theorem dX12_leader_17 : decode cX12_leader 17 = .ok (.getfield 121, 3) := lw_dr lw_d_cX12_leader_0 11 rfl
theorem dX12_leader_20 : decode cX12_leader 20 = .ok (.iconst 5, 1) := lw_dr lw_d_cX12_leader_0 12 rfl
theorem dX12_leader_21 : decode cX12_leader 21 = .ok (.iload_n 1, 1) := lw_dr lw_d_cX12_leader_0 13 rfl
theorem dX12_leader_22 : decode cX12_leader 22 = .ok (.imul, 1) := lw_dr lw_d_cX12_leader_0 14 rfl
theorem dX12_leader_23 : decode cX12_leader 23 = .ok (.iload_n 2, 1) := lw_dr lw_d_cX12_leader_0 15 rfl
theorem dX12_leader_24 : decode cX12_leader 24 = .ok (.iadd, 1) := lw_dr lw_d_cX12_leader_0 16 rfl
theorem dX12_leader_25 : decode cX12_leader 25 = .ok (.laload, 1) := lw_dr lw_d_cX12_leader_0 17 rfl
theorem dX12_leader_26 : decode cX12_leader 26 = .ok (.goto 6, 3) := lw_dr lw_d_cX12_leader_0 18 rfl
theorem lw_d_cX12_squares_0 : lw_dl cX12_squares [(0, .lconst 0, 1), (1, .lstore_n 2, 1), (2, .iconst 0, 1), (3, .istore 4, 2), (5, .iload 4, 2), (7, .aload_n 0, 1), (8, .getfield 237, 3), (11, .if_icmp .ge 45, 3), (56, .lload_n 2, 1), (57, .lreturn, 1), (14, .lload_n 2, 1), (15, .iload_n 1, 1), (16, .ifCond .eq 19, 3), (35, .aload_n 0, 1), (36, .iload 4, 2), (38, .iload 4, 2), (40, .aload_n 0, 1), (41, .getfield 69, 3), (44, .invokevirtual 334, 3), (47, .i2l, 1), (48, .ladd, 1), (49, .lstore_n 2, 1), (50, .iinc 4 1, 3), (53, .goto (-48), 3), (19, .aload_n 0, 1), (20, .iload 4, 2), (22, .iload 4, 2), (24, .aload_n 0, 1), (25, .getfield 97, 3), (28, .invokevirtual 334, 3), (31, .i2l, 1), (32, .goto 16, 3)] = true := by decide +kernel
theorem dX12_squares_0 : decode cX12_squares 0 = .ok (.lconst 0, 1) := lw_dr lw_d_cX12_squares_0 0 rfl
theorem dX12_squares_1 : decode cX12_squares 1 = .ok (.lstore_n 2, 1) := lw_dr lw_d_cX12_squares_0 1 rfl
theorem dX12_squares_2 : decode cX12_squares 2 = .ok (.iconst 0, 1) := lw_dr lw_d_cX12_squares_0 2 rfl
theorem dX12_squares_3 : decode cX12_squares 3 = .ok (.istore 4, 2) := lw_dr lw_d_cX12_squares_0 3 rfl
theorem dX12_squares_5 : decode cX12_squares 5 = .ok (.iload 4, 2) := lw_dr lw_d_cX12_squares_0 4 rfl
theorem dX12_squares_7 : decode cX12_squares 7 = .ok (.aload_n 0, 1) := lw_dr lw_d_cX12_squares_0 5 rfl
theorem dX12_squares_8 : decode cX12_squares 8 = .ok (.getfield 237, 3) := lw_dr lw_d_cX12_squares_0 6 rfl
theorem dX12_squares_11 : decode cX12_squares 11 = .ok (.if_icmp .ge 45, 3) := lw_dr lw_d_cX12_squares_0 7 rfl
theorem dX12_squares_56 : decode cX12_squares 56 = .ok (.lload_n 2, 1) := lw_dr lw_d_cX12_squares_0 8 rfl
theorem dX12_squares_57 : decode cX12_squares 57 = .ok (.lreturn, 1) := lw_dr lw_d_cX12_squares_0 9 rfl
theorem dX12_squares_14 : decode cX12_squares 14 = .ok (.lload_n 2, 1) := lw_dr lw_d_cX12_squares_0 10 rfl
theorem dX12_squares_15 : decode cX12_squares 15 = .ok (.iload_n 1, 1) := lw_dr lw_d_cX12_squares_0 11 rfl
theorem dX12_squares_16 : decode cX12_squares 16 = .ok (.ifCond .eq 19, 3) := lw_dr lw_d_cX12_squares_0 12 rfl
theorem dX12_squares_35 : decode cX12_squares 35 = .ok (.aload_n 0, 1) := lw_dr lw_d_cX12_squares_0 13 rfl
theorem dX12_squares_36 : decode cX12_squares 36 = .ok (.iload 4, 2) := lw_dr lw_d_cX12_squares_0 14 rfl
theorem dX12_squares_38 : decode cX12_squares 38 = .ok (.iload 4, 2) := lw_dr lw_d_cX12_squares_0 15 rfl
theorem dX12_squares_40 : decode cX12_squares 40 = .ok (.aload_n 0, 1) := lw_dr lw_d_cX12_squares_0 16 rfl
theorem dX12_squares_41 : decode cX12_squares 41 = .ok (.getfield 69, 3) := lw_dr lw_d_cX12_squares_0 17 rfl
theorem dX12_squares_44 : decode cX12_squares 44 = .ok (.invokevirtual 334, 3) := lw_dr lw_d_cX12_squares_0 18 rfl
theorem dX12_squares_47 : decode cX12_squares 47 = .ok (.i2l, 1) := lw_dr lw_d_cX12_squares_0 19 rfl
theorem dX12_squares_48 : decode cX12_squares 48 = .ok (.ladd, 1) := lw_dr lw_d_cX12_squares_0 20 rfl
theorem dX12_squares_49 : decode cX12_squares 49 = .ok (.lstore_n 2, 1) := lw_dr lw_d_cX12_squares_0 21 rfl
theorem dX12_squares_50 : decode cX12_squares 50 = .ok (.iinc 4 1, 3) := lw_dr lw_d_cX12_squares_0 22 rfl
theorem dX12_squares_53 : decode cX12_squares 53 = .ok (.goto (-48), 3) := lw_dr lw_d_cX12_squares_0 23 rfl
theorem dX12_squares_19 : decode cX12_squares 19 = .ok (.aload_n 0, 1) := lw_dr lw_d_cX12_squares_0 24 rfl
theorem dX12_squares_20 : decode cX12_squares 20 = .ok (.iload 4, 2) := lw_dr lw_d_cX12_squares_0 25 rfl
theorem dX12_squares_22 : decode cX12_squares 22 = .ok (.iload 4, 2) := lw_dr lw_d_cX12_squares_0 26 rfl
theorem dX12_squares_24 : decode cX12_squares 24 = .ok (.aload_n 0, 1) := lw_dr lw_d_cX12_squares_0 27 rfl
theorem dX12_squares_25 : decode cX12_squares 25 = .ok (.getfield 97, 3) := lw_dr lw_d_cX12_squares_0 28 rfl
theorem dX12_squares_28 : decode cX12_squares 28 = .ok (.invokevirtual 334, 3) := lw_dr lw_d_cX12_squares_0 29 rfl
theorem dX12_squares_31 : decode cX12_squares 31 = .ok (.i2l, 1) := lw_dr lw_d_cX12_squares_0 30 rfl
theorem dX12_squares_32 : decode cX12_squares 32 = .ok (.goto 16, 3) := lw_dr lw_d_cX12_squares_0 31 rfl
theorem lw_d_cX12_sums_0 : lw_dl cX12_sums [(0, .aload_n 0, 1), (1, .iload_n 1, 1), (2, .invokevirtual 454, 3), (5, .ifCond .eq 38, 3), (43, .ldc2_w 445, 3), (46, .lreturn, 1), (8, .iload_n 2, 1), (9, .i2l, 1), (10, .lconst 1, 1), (11, .ldc2_w 431, 3), (14, .invokestatic 191, 3), (17, .ifCond .eq 26, 3), (20, .iload_n 3, 1), (21, .iconst (-1), 1), (22, .if_icmp .eq 11, 3), (33, .aload_n 0, 1), (34, .iload_n 1, 1), (35, .iload_n 2, 1), (36, .iconst 1, 1), (37, .invokevirtual 457, 3)] = true := by decide +kernel
theorem dX12_sums_0 : decode cX12_sums 0 = .ok (.aload_n 0, 1) := lw_dr lw_d_cX12_sums_0 0 rfl
theorem dX12_sums_1 : decode cX12_sums 1 = .ok (.iload_n 1, 1) := lw_dr lw_d_cX12_sums_0 1 rfl
theorem dX12_sums_2 : decode cX12_sums 2 = .ok (.invokevirtual 454, 3) := lw_dr lw_d_cX12_sums_0 2 rfl
theorem dX12_sums_5 : decode cX12_sums 5 = .ok (.ifCond .eq 38, 3) := lw_dr lw_d_cX12_sums_0 3 rfl
theorem dX12_sums_43 : decode cX12_sums 43 = .ok (.ldc2_w 445, 3) := lw_dr lw_d_cX12_sums_0 4 rfl
theorem dX12_sums_46 : decode cX12_sums 46 = .ok (.lreturn, 1) := lw_dr lw_d_cX12_sums_0 5 rfl
theorem dX12_sums_8 : decode cX12_sums 8 = .ok (.iload_n 2, 1) := lw_dr lw_d_cX12_sums_0 6 rfl
theorem dX12_sums_9 : decode cX12_sums 9 = .ok (.i2l, 1) := lw_dr lw_d_cX12_sums_0 7 rfl
theorem dX12_sums_10 : decode cX12_sums 10 = .ok (.lconst 1, 1) := lw_dr lw_d_cX12_sums_0 8 rfl
theorem dX12_sums_11 : decode cX12_sums 11 = .ok (.ldc2_w 431, 3) := lw_dr lw_d_cX12_sums_0 9 rfl
theorem dX12_sums_14 : decode cX12_sums 14 = .ok (.invokestatic 191, 3) := lw_dr lw_d_cX12_sums_0 10 rfl
theorem dX12_sums_17 : decode cX12_sums 17 = .ok (.ifCond .eq 26, 3) := lw_dr lw_d_cX12_sums_0 11 rfl
theorem dX12_sums_20 : decode cX12_sums 20 = .ok (.iload_n 3, 1) := lw_dr lw_d_cX12_sums_0 12 rfl
theorem dX12_sums_21 : decode cX12_sums 21 = .ok (.iconst (-1), 1) := lw_dr lw_d_cX12_sums_0 13 rfl
theorem dX12_sums_22 : decode cX12_sums 22 = .ok (.if_icmp .eq 11, 3) := lw_dr lw_d_cX12_sums_0 14 rfl
theorem dX12_sums_33 : decode cX12_sums 33 = .ok (.aload_n 0, 1) := lw_dr lw_d_cX12_sums_0 15 rfl
theorem dX12_sums_34 : decode cX12_sums 34 = .ok (.iload_n 1, 1) := lw_dr lw_d_cX12_sums_0 16 rfl
theorem dX12_sums_35 : decode cX12_sums 35 = .ok (.iload_n 2, 1) := lw_dr lw_d_cX12_sums_0 17 rfl
theorem dX12_sums_36 : decode cX12_sums 36 = .ok (.iconst 1, 1) := lw_dr lw_d_cX12_sums_0 18 rfl
theorem dX12_sums_37 : decode cX12_sums 37 = .ok (.invokevirtual 457, 3) := lw_dr lw_d_cX12_sums_0 19 rfl
theorem lw_d_cX12_areSenders_0 : lw_dl cX12_areSenders [(0, .iload_n 1, 1), (1, .i2l, 1), (2, .lconst 0, 1), (3, .iconst 1, 1), (4, .aload_n 0, 1), (5, .getfield 237, 3), (8, .ishl, 1), (9, .iconst 1, 1), (10, .isub, 1), (11, .i2l, 1), (12, .invokestatic 191, 3), (15, .ireturn, 1)] = true := by decide +kernel
theorem dX12_areSenders_0 : decode cX12_areSenders 0 = .ok (.iload_n 1, 1) := lw_dr lw_d_cX12_areSenders_0 0 rfl
theorem dX12_areSenders_1 : decode cX12_areSenders 1 = .ok (.i2l, 1) := lw_dr lw_d_cX12_areSenders_0 1 rfl
theorem dX12_areSenders_2 : decode cX12_areSenders 2 = .ok (.lconst 0, 1) := lw_dr lw_d_cX12_areSenders_0 2 rfl
theorem dX12_areSenders_3 : decode cX12_areSenders 3 = .ok (.iconst 1, 1) := lw_dr lw_d_cX12_areSenders_0 3 rfl
theorem dX12_areSenders_4 : decode cX12_areSenders 4 = .ok (.aload_n 0, 1) := lw_dr lw_d_cX12_areSenders_0 4 rfl
theorem dX12_areSenders_5 : decode cX12_areSenders 5 = .ok (.getfield 237, 3) := lw_dr lw_d_cX12_areSenders_0 5 rfl
theorem dX12_areSenders_8 : decode cX12_areSenders 8 = .ok (.ishl, 1) := lw_dr lw_d_cX12_areSenders_0 6 rfl
theorem dX12_areSenders_9 : decode cX12_areSenders 9 = .ok (.iconst 1, 1) := lw_dr lw_d_cX12_areSenders_0 7 rfl
theorem dX12_areSenders_10 : decode cX12_areSenders 10 = .ok (.isub, 1) := lw_dr lw_d_cX12_areSenders_0 8 rfl
theorem dX12_areSenders_11 : decode cX12_areSenders 11 = .ok (.i2l, 1) := lw_dr lw_d_cX12_areSenders_0 9 rfl
theorem dX12_areSenders_12 : decode cX12_areSenders 12 = .ok (.invokestatic 191, 3) := lw_dr lw_d_cX12_areSenders_0 10 rfl
theorem dX12_areSenders_15 : decode cX12_areSenders 15 = .ok (.ireturn, 1) := lw_dr lw_d_cX12_areSenders_0 11 rfl
theorem lw_d_cX12_isLeast_0 : lw_dl cX12_isLeast [(0, .aload_n 0, 1), (1, .ldc2_w 384, 3), (4, .putfield 447, 3), (7, .iconst 0, 1), (8, .istore 4, 2), (10, .iload 4, 2), (12, .aload_n 0, 1), (13, .getfield 237, 3), (16, .if_icmp .ge 32, 3), (48, .iconst 1, 1), (49, .istore 4, 2), (51, .iload 4, 2), (53, .ifCond .eq 136, 3), (56, .iconst 1, 1), (57, .istore 5, 2), (59, .iconst 0, 1), (60, .istore 6, 2), (62, .iload 6, 2), (64, .aload_n 0, 1), (65, .getfield 237, 3), (68, .if_icmp .ge 31, 3), (99, .iload 5, 2), (101, .ifCond .eq 7, 3), (104, .lconst 0, 1), (105, .goto 8, 3), (113, .lstore 6, 2), (115, .iload 5, 2), (117, .ifCond .ne 60, 3), (177, .aload_n 0, 1), (178, .iload_n 1, 1), (179, .iload_n 2, 1), (180, .iload_n 3, 1), (181, .invokevirtual 450, 3), (184, .istore 4, 2), (186, .goto (-135), 3), (189, .aload_n 0, 1), (190, .getfield 447, 3), (193, .lconst 0, 1), (194, .lcmp, 1), (195, .ifCond .lt 7, 3)] = true := by decide +kernel
theorem dX12_isLeast_0 : decode cX12_isLeast 0 = .ok (.aload_n 0, 1) := lw_dr lw_d_cX12_isLeast_0 0 rfl
theorem dX12_isLeast_1 : decode cX12_isLeast 1 = .ok (.ldc2_w 384, 3) := lw_dr lw_d_cX12_isLeast_0 1 rfl
theorem dX12_isLeast_4 : decode cX12_isLeast 4 = .ok (.putfield 447, 3) := lw_dr lw_d_cX12_isLeast_0 2 rfl
theorem dX12_isLeast_7 : decode cX12_isLeast 7 = .ok (.iconst 0, 1) := lw_dr lw_d_cX12_isLeast_0 3 rfl
theorem dX12_isLeast_8 : decode cX12_isLeast 8 = .ok (.istore 4, 2) := lw_dr lw_d_cX12_isLeast_0 4 rfl
theorem dX12_isLeast_10 : decode cX12_isLeast 10 = .ok (.iload 4, 2) := lw_dr lw_d_cX12_isLeast_0 5 rfl
theorem dX12_isLeast_12 : decode cX12_isLeast 12 = .ok (.aload_n 0, 1) := lw_dr lw_d_cX12_isLeast_0 6 rfl
theorem dX12_isLeast_13 : decode cX12_isLeast 13 = .ok (.getfield 237, 3) := lw_dr lw_d_cX12_isLeast_0 7 rfl
theorem dX12_isLeast_16 : decode cX12_isLeast 16 = .ok (.if_icmp .ge 32, 3) := lw_dr lw_d_cX12_isLeast_0 8 rfl
theorem dX12_isLeast_48 : decode cX12_isLeast 48 = .ok (.iconst 1, 1) := lw_dr lw_d_cX12_isLeast_0 9 rfl
theorem dX12_isLeast_49 : decode cX12_isLeast 49 = .ok (.istore 4, 2) := lw_dr lw_d_cX12_isLeast_0 10 rfl
theorem dX12_isLeast_51 : decode cX12_isLeast 51 = .ok (.iload 4, 2) := lw_dr lw_d_cX12_isLeast_0 11 rfl
theorem dX12_isLeast_53 : decode cX12_isLeast 53 = .ok (.ifCond .eq 136, 3) := lw_dr lw_d_cX12_isLeast_0 12 rfl
theorem dX12_isLeast_56 : decode cX12_isLeast 56 = .ok (.iconst 1, 1) := lw_dr lw_d_cX12_isLeast_0 13 rfl
theorem dX12_isLeast_57 : decode cX12_isLeast 57 = .ok (.istore 5, 2) := lw_dr lw_d_cX12_isLeast_0 14 rfl
theorem dX12_isLeast_59 : decode cX12_isLeast 59 = .ok (.iconst 0, 1) := lw_dr lw_d_cX12_isLeast_0 15 rfl
theorem dX12_isLeast_60 : decode cX12_isLeast 60 = .ok (.istore 6, 2) := lw_dr lw_d_cX12_isLeast_0 16 rfl
theorem dX12_isLeast_62 : decode cX12_isLeast 62 = .ok (.iload 6, 2) := lw_dr lw_d_cX12_isLeast_0 17 rfl
theorem dX12_isLeast_64 : decode cX12_isLeast 64 = .ok (.aload_n 0, 1) := lw_dr lw_d_cX12_isLeast_0 18 rfl
theorem dX12_isLeast_65 : decode cX12_isLeast 65 = .ok (.getfield 237, 3) := lw_dr lw_d_cX12_isLeast_0 19 rfl
theorem dX12_isLeast_68 : decode cX12_isLeast 68 = .ok (.if_icmp .ge 31, 3) := lw_dr lw_d_cX12_isLeast_0 20 rfl
theorem dX12_isLeast_99 : decode cX12_isLeast 99 = .ok (.iload 5, 2) := lw_dr lw_d_cX12_isLeast_0 21 rfl
theorem dX12_isLeast_101 : decode cX12_isLeast 101 = .ok (.ifCond .eq 7, 3) := lw_dr lw_d_cX12_isLeast_0 22 rfl
theorem dX12_isLeast_104 : decode cX12_isLeast 104 = .ok (.lconst 0, 1) := lw_dr lw_d_cX12_isLeast_0 23 rfl
theorem dX12_isLeast_105 : decode cX12_isLeast 105 = .ok (.goto 8, 3) := lw_dr lw_d_cX12_isLeast_0 24 rfl
theorem dX12_isLeast_113 : decode cX12_isLeast 113 = .ok (.lstore 6, 2) := lw_dr lw_d_cX12_isLeast_0 25 rfl
theorem dX12_isLeast_115 : decode cX12_isLeast 115 = .ok (.iload 5, 2) := lw_dr lw_d_cX12_isLeast_0 26 rfl
theorem dX12_isLeast_117 : decode cX12_isLeast 117 = .ok (.ifCond .ne 60, 3) := lw_dr lw_d_cX12_isLeast_0 27 rfl
theorem dX12_isLeast_177 : decode cX12_isLeast 177 = .ok (.aload_n 0, 1) := lw_dr lw_d_cX12_isLeast_0 28 rfl
theorem dX12_isLeast_178 : decode cX12_isLeast 178 = .ok (.iload_n 1, 1) := lw_dr lw_d_cX12_isLeast_0 29 rfl
theorem dX12_isLeast_179 : decode cX12_isLeast 179 = .ok (.iload_n 2, 1) := lw_dr lw_d_cX12_isLeast_0 30 rfl
theorem dX12_isLeast_180 : decode cX12_isLeast 180 = .ok (.iload_n 3, 1) := lw_dr lw_d_cX12_isLeast_0 31 rfl
theorem dX12_isLeast_181 : decode cX12_isLeast 181 = .ok (.invokevirtual 450, 3) := lw_dr lw_d_cX12_isLeast_0 32 rfl
theorem dX12_isLeast_184 : decode cX12_isLeast 184 = .ok (.istore 4, 2) := lw_dr lw_d_cX12_isLeast_0 33 rfl
theorem dX12_isLeast_186 : decode cX12_isLeast 186 = .ok (.goto (-135), 3) := lw_dr lw_d_cX12_isLeast_0 34 rfl
theorem dX12_isLeast_189 : decode cX12_isLeast 189 = .ok (.aload_n 0, 1) := lw_dr lw_d_cX12_isLeast_0 35 rfl
theorem dX12_isLeast_190 : decode cX12_isLeast 190 = .ok (.getfield 447, 3) := lw_dr lw_d_cX12_isLeast_0 36 rfl
theorem dX12_isLeast_193 : decode cX12_isLeast 193 = .ok (.lconst 0, 1) := lw_dr lw_d_cX12_isLeast_0 37 rfl
theorem dX12_isLeast_194 : decode cX12_isLeast 194 = .ok (.lcmp, 1) := lw_dr lw_d_cX12_isLeast_0 38 rfl
theorem dX12_isLeast_195 : decode cX12_isLeast 195 = .ok (.ifCond .lt 7, 3) := lw_dr lw_d_cX12_isLeast_0 39 rfl
theorem lw_d_cX12_isLeast_202 : lw_dl cX12_isLeast [(202, .iconst 0, 1), (203, .ireturn, 1)] = true := by decide +kernel
theorem dX12_isLeast_202 : decode cX12_isLeast 202 = .ok (.iconst 0, 1) := lw_dr lw_d_cX12_isLeast_202 0 rfl
theorem dX12_isLeast_203 : decode cX12_isLeast 203 = .ok (.ireturn, 1) := lw_dr lw_d_cX12_isLeast_202 1 rfl
theorem lw_d_cX12_isNext_0 : lw_dl cX12_isNext [(0, .aload_n 0, 1), (1, .getfield 237, 3), (4, .iconst 1, 1), (5, .isub, 1), (6, .istore 4, 2), (8, .iload 4, 2), (10, .ifCond .lt 54, 3), (64, .iconst 0, 1), (65, .ireturn, 1), (13, .iload_n 1, 1), (14, .iload 4, 2), (16, .ishr, 1), (17, .iconst 1, 1), (18, .iand, 1), (19, .ifCond .ne 6, 3), (25, .aload_n 0, 1), (26, .getfield 103, 3), (29, .iload 4, 2), (31, .dup2, 1), (32, .iaload, 1), (33, .iload_n 3, 1), (34, .iadd, 1), (35, .iastore, 1), (36, .aload_n 0, 1), (37, .getfield 103, 3), (40, .iload 4, 2), (42, .iaload, 1), (43, .iload_n 2, 1), (44, .if_icmp .gt 5, 3), (49, .aload_n 0, 1), (50, .getfield 103, 3), (53, .iload 4, 2), (55, .iload_n 2, 1), (56, .ineg, 1), (57, .iastore, 1), (58, .iinc 4 (-1), 3), (61, .goto (-53), 3), (47, .iconst 1, 1), (48, .ireturn, 1), (22, .goto 36, 3)] = true := by decide +kernel
theorem dX12_isNext_0 : decode cX12_isNext 0 = .ok (.aload_n 0, 1) := lw_dr lw_d_cX12_isNext_0 0 rfl
theorem dX12_isNext_1 : decode cX12_isNext 1 = .ok (.getfield 237, 3) := lw_dr lw_d_cX12_isNext_0 1 rfl
theorem dX12_isNext_4 : decode cX12_isNext 4 = .ok (.iconst 1, 1) := lw_dr lw_d_cX12_isNext_0 2 rfl
theorem dX12_isNext_5 : decode cX12_isNext 5 = .ok (.isub, 1) := lw_dr lw_d_cX12_isNext_0 3 rfl
theorem dX12_isNext_6 : decode cX12_isNext 6 = .ok (.istore 4, 2) := lw_dr lw_d_cX12_isNext_0 4 rfl
theorem dX12_isNext_8 : decode cX12_isNext 8 = .ok (.iload 4, 2) := lw_dr lw_d_cX12_isNext_0 5 rfl
theorem dX12_isNext_10 : decode cX12_isNext 10 = .ok (.ifCond .lt 54, 3) := lw_dr lw_d_cX12_isNext_0 6 rfl
theorem dX12_isNext_64 : decode cX12_isNext 64 = .ok (.iconst 0, 1) := lw_dr lw_d_cX12_isNext_0 7 rfl
theorem dX12_isNext_65 : decode cX12_isNext 65 = .ok (.ireturn, 1) := lw_dr lw_d_cX12_isNext_0 8 rfl
theorem dX12_isNext_13 : decode cX12_isNext 13 = .ok (.iload_n 1, 1) := lw_dr lw_d_cX12_isNext_0 9 rfl
theorem dX12_isNext_14 : decode cX12_isNext 14 = .ok (.iload 4, 2) := lw_dr lw_d_cX12_isNext_0 10 rfl
theorem dX12_isNext_16 : decode cX12_isNext 16 = .ok (.ishr, 1) := lw_dr lw_d_cX12_isNext_0 11 rfl
theorem dX12_isNext_17 : decode cX12_isNext 17 = .ok (.iconst 1, 1) := lw_dr lw_d_cX12_isNext_0 12 rfl
theorem dX12_isNext_18 : decode cX12_isNext 18 = .ok (.iand, 1) := lw_dr lw_d_cX12_isNext_0 13 rfl
theorem dX12_isNext_19 : decode cX12_isNext 19 = .ok (.ifCond .ne 6, 3) := lw_dr lw_d_cX12_isNext_0 14 rfl
theorem dX12_isNext_25 : decode cX12_isNext 25 = .ok (.aload_n 0, 1) := lw_dr lw_d_cX12_isNext_0 15 rfl
theorem dX12_isNext_26 : decode cX12_isNext 26 = .ok (.getfield 103, 3) := lw_dr lw_d_cX12_isNext_0 16 rfl
theorem dX12_isNext_29 : decode cX12_isNext 29 = .ok (.iload 4, 2) := lw_dr lw_d_cX12_isNext_0 17 rfl
theorem dX12_isNext_31 : decode cX12_isNext 31 = .ok (.dup2, 1) := lw_dr lw_d_cX12_isNext_0 18 rfl
theorem dX12_isNext_32 : decode cX12_isNext 32 = .ok (.iaload, 1) := lw_dr lw_d_cX12_isNext_0 19 rfl
theorem dX12_isNext_33 : decode cX12_isNext 33 = .ok (.iload_n 3, 1) := lw_dr lw_d_cX12_isNext_0 20 rfl
theorem dX12_isNext_34 : decode cX12_isNext 34 = .ok (.iadd, 1) := lw_dr lw_d_cX12_isNext_0 21 rfl
theorem dX12_isNext_35 : decode cX12_isNext 35 = .ok (.iastore, 1) := lw_dr lw_d_cX12_isNext_0 22 rfl
theorem dX12_isNext_36 : decode cX12_isNext 36 = .ok (.aload_n 0, 1) := lw_dr lw_d_cX12_isNext_0 23 rfl
theorem dX12_isNext_37 : decode cX12_isNext 37 = .ok (.getfield 103, 3) := lw_dr lw_d_cX12_isNext_0 24 rfl
theorem dX12_isNext_40 : decode cX12_isNext 40 = .ok (.iload 4, 2) := lw_dr lw_d_cX12_isNext_0 25 rfl
theorem dX12_isNext_42 : decode cX12_isNext 42 = .ok (.iaload, 1) := lw_dr lw_d_cX12_isNext_0 26 rfl
theorem dX12_isNext_43 : decode cX12_isNext 43 = .ok (.iload_n 2, 1) := lw_dr lw_d_cX12_isNext_0 27 rfl
theorem dX12_isNext_44 : decode cX12_isNext 44 = .ok (.if_icmp .gt 5, 3) := lw_dr lw_d_cX12_isNext_0 28 rfl
theorem dX12_isNext_49 : decode cX12_isNext 49 = .ok (.aload_n 0, 1) := lw_dr lw_d_cX12_isNext_0 29 rfl
theorem dX12_isNext_50 : decode cX12_isNext 50 = .ok (.getfield 103, 3) := lw_dr lw_d_cX12_isNext_0 30 rfl
theorem dX12_isNext_53 : decode cX12_isNext 53 = .ok (.iload 4, 2) := lw_dr lw_d_cX12_isNext_0 31 rfl
theorem dX12_isNext_55 : decode cX12_isNext 55 = .ok (.iload_n 2, 1) := lw_dr lw_d_cX12_isNext_0 32 rfl
theorem dX12_isNext_56 : decode cX12_isNext 56 = .ok (.ineg, 1) := lw_dr lw_d_cX12_isNext_0 33 rfl
theorem dX12_isNext_57 : decode cX12_isNext 57 = .ok (.iastore, 1) := lw_dr lw_d_cX12_isNext_0 34 rfl
theorem dX12_isNext_58 : decode cX12_isNext 58 = .ok (.iinc 4 (-1), 3) := lw_dr lw_d_cX12_isNext_0 35 rfl
theorem dX12_isNext_61 : decode cX12_isNext 61 = .ok (.goto (-53), 3) := lw_dr lw_d_cX12_isNext_0 36 rfl
theorem dX12_isNext_47 : decode cX12_isNext 47 = .ok (.iconst 1, 1) := lw_dr lw_d_cX12_isNext_0 37 rfl
theorem dX12_isNext_48 : decode cX12_isNext 48 = .ok (.ireturn, 1) := lw_dr lw_d_cX12_isNext_0 38 rfl
theorem dX12_isNext_22 : decode cX12_isNext 22 = .ok (.goto 36, 3) := lw_dr lw_d_cX12_isNext_0 39 rfl
theorem lw_d_cX12_apart_0 : lw_dl cX12_apart [(0, .aload_n 0, 1)] = true := by decide +kernel
theorem dX12_apart_0 : decode cX12_apart 0 = .ok (.aload_n 0, 1) := lw_dr lw_d_cX12_apart_0 0 rfl
theorem lw_d_cX12_apart_1 : lw_dl cX12_apart [(1, .iload_n 1, 1), (2, .invokevirtual 454, 3), (5, .ifCond .eq 27, 3), (32, .ldc2_w 384, 3), (35, .lreturn, 1), (8, .aload_n 0, 1), (9, .iload_n 1, 1), (10, .iconst 2, 1), (11, .aload_n 0, 1), (12, .getfield 234, 3), (15, .imul, 1), (16, .iconst 2, 1), (17, .isub, 1), (18, .iconst 2, 1), (19, .invokevirtual 457, 3)] = true := by decide +kernel
theorem dX12_apart_1 : decode cX12_apart 1 = .ok (.iload_n 1, 1) := lw_dr lw_d_cX12_apart_1 0 rfl
theorem dX12_apart_2 : decode cX12_apart 2 = .ok (.invokevirtual 454, 3) := lw_dr lw_d_cX12_apart_1 1 rfl
theorem dX12_apart_5 : decode cX12_apart 5 = .ok (.ifCond .eq 27, 3) := lw_dr lw_d_cX12_apart_1 2 rfl
theorem dX12_apart_32 : decode cX12_apart 32 = .ok (.ldc2_w 384, 3) := lw_dr lw_d_cX12_apart_1 3 rfl
theorem dX12_apart_35 : decode cX12_apart 35 = .ok (.lreturn, 1) := lw_dr lw_d_cX12_apart_1 4 rfl
theorem dX12_apart_8 : decode cX12_apart 8 = .ok (.aload_n 0, 1) := lw_dr lw_d_cX12_apart_1 5 rfl
theorem dX12_apart_9 : decode cX12_apart 9 = .ok (.iload_n 1, 1) := lw_dr lw_d_cX12_apart_1 6 rfl
theorem dX12_apart_10 : decode cX12_apart 10 = .ok (.iconst 2, 1) := lw_dr lw_d_cX12_apart_1 7 rfl
theorem dX12_apart_11 : decode cX12_apart 11 = .ok (.aload_n 0, 1) := lw_dr lw_d_cX12_apart_1 8 rfl
theorem dX12_apart_12 : decode cX12_apart 12 = .ok (.getfield 234, 3) := lw_dr lw_d_cX12_apart_1 9 rfl
theorem dX12_apart_15 : decode cX12_apart 15 = .ok (.imul, 1) := lw_dr lw_d_cX12_apart_1 10 rfl
theorem dX12_apart_16 : decode cX12_apart 16 = .ok (.iconst 2, 1) := lw_dr lw_d_cX12_apart_1 11 rfl
theorem dX12_apart_17 : decode cX12_apart 17 = .ok (.isub, 1) := lw_dr lw_d_cX12_apart_1 12 rfl
theorem dX12_apart_18 : decode cX12_apart 18 = .ok (.iconst 2, 1) := lw_dr lw_d_cX12_apart_1 13 rfl
theorem dX12_apart_19 : decode cX12_apart 19 = .ok (.invokevirtual 457, 3) := lw_dr lw_d_cX12_apart_1 14 rfl
theorem lw_d_cX12_word_0 : lw_dl cX12_word [(0, .iload_n 1, 1), (1, .i2l, 1), (2, .lconst 0, 1), (3, .aload_n 0, 1), (4, .getfield 246, 3), (7, .iconst 1, 1), (8, .isub, 1), (9, .i2l, 1), (10, .invokestatic 191, 3), (13, .ifCond .eq 24, 3), (37, .ldc_w 364, 3), (40, .ireturn, 1), (16, .aload_n 0, 1), (17, .iload_n 2, 1), (18, .invokevirtual 361, 3), (21, .ifCond .eq 16, 3), (24, .aload_n 0, 1), (25, .getfield 72, 3), (28, .iconst 5, 1), (29, .iload_n 1, 1), (30, .imul, 1), (31, .iload_n 2, 1), (32, .iadd, 1), (33, .iaload, 1), (34, .goto 6, 3)] = true := by decide +kernel
theorem dX12_word_0 : decode cX12_word 0 = .ok (.iload_n 1, 1) := lw_dr lw_d_cX12_word_0 0 rfl
theorem dX12_word_1 : decode cX12_word 1 = .ok (.i2l, 1) := lw_dr lw_d_cX12_word_0 1 rfl
theorem dX12_word_2 : decode cX12_word 2 = .ok (.lconst 0, 1) := lw_dr lw_d_cX12_word_0 2 rfl
theorem dX12_word_3 : decode cX12_word 3 = .ok (.aload_n 0, 1) := lw_dr lw_d_cX12_word_0 3 rfl
theorem dX12_word_4 : decode cX12_word 4 = .ok (.getfield 246, 3) := lw_dr lw_d_cX12_word_0 4 rfl
theorem dX12_word_7 : decode cX12_word 7 = .ok (.iconst 1, 1) := lw_dr lw_d_cX12_word_0 5 rfl
theorem dX12_word_8 : decode cX12_word 8 = .ok (.isub, 1) := lw_dr lw_d_cX12_word_0 6 rfl
theorem dX12_word_9 : decode cX12_word 9 = .ok (.i2l, 1) := lw_dr lw_d_cX12_word_0 7 rfl
theorem dX12_word_10 : decode cX12_word 10 = .ok (.invokestatic 191, 3) := lw_dr lw_d_cX12_word_0 8 rfl
theorem dX12_word_13 : decode cX12_word 13 = .ok (.ifCond .eq 24, 3) := lw_dr lw_d_cX12_word_0 9 rfl
theorem dX12_word_37 : decode cX12_word 37 = .ok (.ldc_w 364, 3) := lw_dr lw_d_cX12_word_0 10 rfl
theorem dX12_word_40 : decode cX12_word 40 = .ok (.ireturn, 1) := lw_dr lw_d_cX12_word_0 11 rfl
theorem dX12_word_16 : decode cX12_word 16 = .ok (.aload_n 0, 1) := lw_dr lw_d_cX12_word_0 12 rfl
theorem dX12_word_17 : decode cX12_word 17 = .ok (.iload_n 2, 1) := lw_dr lw_d_cX12_word_0 13 rfl
theorem dX12_word_18 : decode cX12_word 18 = .ok (.invokevirtual 361, 3) := lw_dr lw_d_cX12_word_0 14 rfl
theorem dX12_word_21 : decode cX12_word 21 = .ok (.ifCond .eq 16, 3) := lw_dr lw_d_cX12_word_0 15 rfl
theorem dX12_word_24 : decode cX12_word 24 = .ok (.aload_n 0, 1) := lw_dr lw_d_cX12_word_0 16 rfl
theorem dX12_word_25 : decode cX12_word 25 = .ok (.getfield 72, 3) := lw_dr lw_d_cX12_word_0 17 rfl
theorem dX12_word_28 : decode cX12_word 28 = .ok (.iconst 5, 1) := lw_dr lw_d_cX12_word_0 18 rfl
theorem dX12_word_29 : decode cX12_word 29 = .ok (.iload_n 1, 1) := lw_dr lw_d_cX12_word_0 19 rfl
theorem dX12_word_30 : decode cX12_word 30 = .ok (.imul, 1) := lw_dr lw_d_cX12_word_0 20 rfl
theorem dX12_word_31 : decode cX12_word 31 = .ok (.iload_n 2, 1) := lw_dr lw_d_cX12_word_0 21 rfl
theorem dX12_word_32 : decode cX12_word 32 = .ok (.iadd, 1) := lw_dr lw_d_cX12_word_0 22 rfl
theorem dX12_word_33 : decode cX12_word 33 = .ok (.iaload, 1) := lw_dr lw_d_cX12_word_0 23 rfl
theorem dX12_word_34 : decode cX12_word 34 = .ok (.goto 6, 3) := lw_dr lw_d_cX12_word_0 24 rfl
theorem lw_d_cX12_code_0 : lw_dl cX12_code [(0, .iload_n 1, 1), (1, .i2l, 1), (2, .lconst 0, 1), (3, .ldc2_w 460, 3), (6, .invokestatic 191, 3), (9, .ifCond .eq 20, 3), (29, .ldc2_w 384, 3), (32, .lreturn, 1), (12, .aload_n 0, 1), (13, .getfield 246, 3), (16, .iload_n 1, 1), (17, .iconst 3, 1), (18, .if_icmp .ne 7, 3), (25, .iconst 2, 1), (26, .if_icmp .ge 7, 3), (33, .lconst 0, 1), (34, .lstore_n 2, 1), (35, .iconst 0, 1), (36, .istore 4, 2), (38, .iload 4, 2), (40, .aload_n 0, 1), (41, .getfield 246, 3), (44, .if_icmp .ge 29, 3), (47, .aload_n 0, 1), (48, .iload 4, 2), (50, .invokevirtual 462, 3), (53, .i2l, 1), (54, .lload_n 2, 1), (55, .lcmp, 1), (56, .ifCond .le 11, 3), (67, .iinc 4 1, 3), (70, .goto (-32), 3), (59, .aload_n 0, 1), (60, .iload 4, 2), (62, .invokevirtual 462, 3), (65, .i2l, 1), (66, .lstore_n 2, 1), (73, .iload_n 1, 1), (74, .iconst 3, 1), (75, .if_icmp .ne 5, 3)] = true := by decide +kernel
theorem dX12_code_0 : decode cX12_code 0 = .ok (.iload_n 1, 1) := lw_dr lw_d_cX12_code_0 0 rfl
theorem dX12_code_1 : decode cX12_code 1 = .ok (.i2l, 1) := lw_dr lw_d_cX12_code_0 1 rfl
theorem dX12_code_2 : decode cX12_code 2 = .ok (.lconst 0, 1) := lw_dr lw_d_cX12_code_0 2 rfl
theorem dX12_code_3 : decode cX12_code 3 = .ok (.ldc2_w 460, 3) := lw_dr lw_d_cX12_code_0 3 rfl
theorem dX12_code_6 : decode cX12_code 6 = .ok (.invokestatic 191, 3) := lw_dr lw_d_cX12_code_0 4 rfl
theorem dX12_code_9 : decode cX12_code 9 = .ok (.ifCond .eq 20, 3) := lw_dr lw_d_cX12_code_0 5 rfl
theorem dX12_code_29 : decode cX12_code 29 = .ok (.ldc2_w 384, 3) := lw_dr lw_d_cX12_code_0 6 rfl
theorem dX12_code_32 : decode cX12_code 32 = .ok (.lreturn, 1) := lw_dr lw_d_cX12_code_0 7 rfl
theorem dX12_code_12 : decode cX12_code 12 = .ok (.aload_n 0, 1) := lw_dr lw_d_cX12_code_0 8 rfl
theorem dX12_code_13 : decode cX12_code 13 = .ok (.getfield 246, 3) := lw_dr lw_d_cX12_code_0 9 rfl
theorem dX12_code_16 : decode cX12_code 16 = .ok (.iload_n 1, 1) := lw_dr lw_d_cX12_code_0 10 rfl
theorem dX12_code_17 : decode cX12_code 17 = .ok (.iconst 3, 1) := lw_dr lw_d_cX12_code_0 11 rfl
theorem dX12_code_18 : decode cX12_code 18 = .ok (.if_icmp .ne 7, 3) := lw_dr lw_d_cX12_code_0 12 rfl
theorem dX12_code_25 : decode cX12_code 25 = .ok (.iconst 2, 1) := lw_dr lw_d_cX12_code_0 13 rfl
theorem dX12_code_26 : decode cX12_code 26 = .ok (.if_icmp .ge 7, 3) := lw_dr lw_d_cX12_code_0 14 rfl
theorem dX12_code_33 : decode cX12_code 33 = .ok (.lconst 0, 1) := lw_dr lw_d_cX12_code_0 15 rfl
theorem dX12_code_34 : decode cX12_code 34 = .ok (.lstore_n 2, 1) := lw_dr lw_d_cX12_code_0 16 rfl
theorem dX12_code_35 : decode cX12_code 35 = .ok (.iconst 0, 1) := lw_dr lw_d_cX12_code_0 17 rfl
theorem dX12_code_36 : decode cX12_code 36 = .ok (.istore 4, 2) := lw_dr lw_d_cX12_code_0 18 rfl
theorem dX12_code_38 : decode cX12_code 38 = .ok (.iload 4, 2) := lw_dr lw_d_cX12_code_0 19 rfl
theorem dX12_code_40 : decode cX12_code 40 = .ok (.aload_n 0, 1) := lw_dr lw_d_cX12_code_0 20 rfl
theorem dX12_code_41 : decode cX12_code 41 = .ok (.getfield 246, 3) := lw_dr lw_d_cX12_code_0 21 rfl
theorem dX12_code_44 : decode cX12_code 44 = .ok (.if_icmp .ge 29, 3) := lw_dr lw_d_cX12_code_0 22 rfl
theorem dX12_code_47 : decode cX12_code 47 = .ok (.aload_n 0, 1) := lw_dr lw_d_cX12_code_0 23 rfl
theorem dX12_code_48 : decode cX12_code 48 = .ok (.iload 4, 2) := lw_dr lw_d_cX12_code_0 24 rfl
theorem dX12_code_50 : decode cX12_code 50 = .ok (.invokevirtual 462, 3) := lw_dr lw_d_cX12_code_0 25 rfl
theorem dX12_code_53 : decode cX12_code 53 = .ok (.i2l, 1) := lw_dr lw_d_cX12_code_0 26 rfl
theorem dX12_code_54 : decode cX12_code 54 = .ok (.lload_n 2, 1) := lw_dr lw_d_cX12_code_0 27 rfl
theorem dX12_code_55 : decode cX12_code 55 = .ok (.lcmp, 1) := lw_dr lw_d_cX12_code_0 28 rfl
theorem dX12_code_56 : decode cX12_code 56 = .ok (.ifCond .le 11, 3) := lw_dr lw_d_cX12_code_0 29 rfl
theorem dX12_code_67 : decode cX12_code 67 = .ok (.iinc 4 1, 3) := lw_dr lw_d_cX12_code_0 30 rfl
theorem dX12_code_70 : decode cX12_code 70 = .ok (.goto (-32), 3) := lw_dr lw_d_cX12_code_0 31 rfl
theorem dX12_code_59 : decode cX12_code 59 = .ok (.aload_n 0, 1) := lw_dr lw_d_cX12_code_0 32 rfl
theorem dX12_code_60 : decode cX12_code 60 = .ok (.iload 4, 2) := lw_dr lw_d_cX12_code_0 33 rfl
theorem dX12_code_62 : decode cX12_code 62 = .ok (.invokevirtual 462, 3) := lw_dr lw_d_cX12_code_0 34 rfl
theorem dX12_code_65 : decode cX12_code 65 = .ok (.i2l, 1) := lw_dr lw_d_cX12_code_0 35 rfl
theorem dX12_code_66 : decode cX12_code 66 = .ok (.lstore_n 2, 1) := lw_dr lw_d_cX12_code_0 36 rfl
theorem dX12_code_73 : decode cX12_code 73 = .ok (.iload_n 1, 1) := lw_dr lw_d_cX12_code_0 37 rfl
theorem dX12_code_74 : decode cX12_code 74 = .ok (.iconst 3, 1) := lw_dr lw_d_cX12_code_0 38 rfl
theorem dX12_code_75 : decode cX12_code 75 = .ok (.if_icmp .ne 5, 3) := lw_dr lw_d_cX12_code_0 39 rfl
theorem lw_d_cX12_code_80 : lw_dl cX12_code [(80, .ldc2_w 384, 3), (83, .lstore 4, 2), (85, .iconst 0, 1), (86, .istore 6, 2), (88, .iconst 0, 1), (89, .istore 7, 2), (91, .iconst 0, 1), (92, .istore 8, 2), (94, .iload 8, 2), (96, .aload_n 0, 1), (97, .getfield 246, 3), (100, .if_icmp .ge 83, 3), (103, .iload 8, 2), (105, .iconst 1, 1), (106, .iadd, 1), (107, .istore 9, 2), (109, .iload 9, 2), (111, .aload_n 0, 1), (112, .getfield 246, 3), (115, .if_icmp .ge 62, 3), (118, .aload_n 0, 1), (119, .iload 8, 2), (121, .iload 9, 2), (123, .invokevirtual 465, 3), (126, .lstore 10, 2), (128, .lload 4, 2), (130, .lconst 0, 1), (131, .lcmp, 1), (132, .ifCond .lt 11, 3), (143, .lload 10, 2), (145, .lstore 4, 2), (147, .iconst 0, 1), (148, .istore 6, 2), (150, .bipush 100, 2), (152, .iload 8, 2), (154, .imul, 1), (155, .iload 9, 2), (157, .iadd, 1), (158, .istore 7, 2), (160, .lload 10, 2)] = true := by decide +kernel
theorem dX12_code_80 : decode cX12_code 80 = .ok (.ldc2_w 384, 3) := lw_dr lw_d_cX12_code_80 0 rfl
theorem dX12_code_83 : decode cX12_code 83 = .ok (.lstore 4, 2) := lw_dr lw_d_cX12_code_80 1 rfl
theorem dX12_code_85 : decode cX12_code 85 = .ok (.iconst 0, 1) := lw_dr lw_d_cX12_code_80 2 rfl
theorem dX12_code_86 : decode cX12_code 86 = .ok (.istore 6, 2) := lw_dr lw_d_cX12_code_80 3 rfl
theorem dX12_code_88 : decode cX12_code 88 = .ok (.iconst 0, 1) := lw_dr lw_d_cX12_code_80 4 rfl
theorem dX12_code_89 : decode cX12_code 89 = .ok (.istore 7, 2) := lw_dr lw_d_cX12_code_80 5 rfl
theorem dX12_code_91 : decode cX12_code 91 = .ok (.iconst 0, 1) := lw_dr lw_d_cX12_code_80 6 rfl
theorem dX12_code_92 : decode cX12_code 92 = .ok (.istore 8, 2) := lw_dr lw_d_cX12_code_80 7 rfl
theorem dX12_code_94 : decode cX12_code 94 = .ok (.iload 8, 2) := lw_dr lw_d_cX12_code_80 8 rfl
theorem dX12_code_96 : decode cX12_code 96 = .ok (.aload_n 0, 1) := lw_dr lw_d_cX12_code_80 9 rfl
theorem dX12_code_97 : decode cX12_code 97 = .ok (.getfield 246, 3) := lw_dr lw_d_cX12_code_80 10 rfl
theorem dX12_code_100 : decode cX12_code 100 = .ok (.if_icmp .ge 83, 3) := lw_dr lw_d_cX12_code_80 11 rfl
theorem dX12_code_103 : decode cX12_code 103 = .ok (.iload 8, 2) := lw_dr lw_d_cX12_code_80 12 rfl
theorem dX12_code_105 : decode cX12_code 105 = .ok (.iconst 1, 1) := lw_dr lw_d_cX12_code_80 13 rfl
theorem dX12_code_106 : decode cX12_code 106 = .ok (.iadd, 1) := lw_dr lw_d_cX12_code_80 14 rfl
theorem dX12_code_107 : decode cX12_code 107 = .ok (.istore 9, 2) := lw_dr lw_d_cX12_code_80 15 rfl
theorem dX12_code_109 : decode cX12_code 109 = .ok (.iload 9, 2) := lw_dr lw_d_cX12_code_80 16 rfl
theorem dX12_code_111 : decode cX12_code 111 = .ok (.aload_n 0, 1) := lw_dr lw_d_cX12_code_80 17 rfl
theorem dX12_code_112 : decode cX12_code 112 = .ok (.getfield 246, 3) := lw_dr lw_d_cX12_code_80 18 rfl
theorem dX12_code_115 : decode cX12_code 115 = .ok (.if_icmp .ge 62, 3) := lw_dr lw_d_cX12_code_80 19 rfl
theorem dX12_code_118 : decode cX12_code 118 = .ok (.aload_n 0, 1) := lw_dr lw_d_cX12_code_80 20 rfl
theorem dX12_code_119 : decode cX12_code 119 = .ok (.iload 8, 2) := lw_dr lw_d_cX12_code_80 21 rfl
theorem dX12_code_121 : decode cX12_code 121 = .ok (.iload 9, 2) := lw_dr lw_d_cX12_code_80 22 rfl
theorem dX12_code_123 : decode cX12_code 123 = .ok (.invokevirtual 465, 3) := lw_dr lw_d_cX12_code_80 23 rfl
theorem dX12_code_126 : decode cX12_code 126 = .ok (.lstore 10, 2) := lw_dr lw_d_cX12_code_80 24 rfl
theorem dX12_code_128 : decode cX12_code 128 = .ok (.lload 4, 2) := lw_dr lw_d_cX12_code_80 25 rfl
theorem dX12_code_130 : decode cX12_code 130 = .ok (.lconst 0, 1) := lw_dr lw_d_cX12_code_80 26 rfl
theorem dX12_code_131 : decode cX12_code 131 = .ok (.lcmp, 1) := lw_dr lw_d_cX12_code_80 27 rfl
theorem dX12_code_132 : decode cX12_code 132 = .ok (.ifCond .lt 11, 3) := lw_dr lw_d_cX12_code_80 28 rfl
theorem dX12_code_143 : decode cX12_code 143 = .ok (.lload 10, 2) := lw_dr lw_d_cX12_code_80 29 rfl
theorem dX12_code_145 : decode cX12_code 145 = .ok (.lstore 4, 2) := lw_dr lw_d_cX12_code_80 30 rfl
theorem dX12_code_147 : decode cX12_code 147 = .ok (.iconst 0, 1) := lw_dr lw_d_cX12_code_80 31 rfl
theorem dX12_code_148 : decode cX12_code 148 = .ok (.istore 6, 2) := lw_dr lw_d_cX12_code_80 32 rfl
theorem dX12_code_150 : decode cX12_code 150 = .ok (.bipush 100, 2) := lw_dr lw_d_cX12_code_80 33 rfl
theorem dX12_code_152 : decode cX12_code 152 = .ok (.iload 8, 2) := lw_dr lw_d_cX12_code_80 34 rfl
theorem dX12_code_154 : decode cX12_code 154 = .ok (.imul, 1) := lw_dr lw_d_cX12_code_80 35 rfl
theorem dX12_code_155 : decode cX12_code 155 = .ok (.iload 9, 2) := lw_dr lw_d_cX12_code_80 36 rfl
theorem dX12_code_157 : decode cX12_code 157 = .ok (.iadd, 1) := lw_dr lw_d_cX12_code_80 37 rfl
theorem dX12_code_158 : decode cX12_code 158 = .ok (.istore 7, 2) := lw_dr lw_d_cX12_code_80 38 rfl
theorem dX12_code_160 : decode cX12_code 160 = .ok (.lload 10, 2) := lw_dr lw_d_cX12_code_80 39 rfl
theorem lw_d_cX12_code_162 : lw_dl cX12_code [(162, .lload 4, 2), (164, .lcmp, 1), (165, .ifCond .ne 6, 3), (168, .iinc 6 1, 3), (171, .iinc 9 1, 3), (174, .goto (-65), 3), (177, .iinc 8 1, 3), (180, .goto (-86), 3), (135, .lload 10, 2), (137, .lload 4, 2), (139, .lcmp, 1), (140, .ifCond .ge 20, 3), (183, .iload_n 1, 1), (184, .ifCond .ne 8, 3), (192, .iload_n 1, 1), (193, .iconst 1, 1), (194, .if_icmp .ne 9, 3), (203, .iload 7, 2), (205, .i2l, 1), (206, .lreturn, 1), (197, .iload 6, 2), (199, .i2l, 1), (200, .goto 6, 3), (187, .lload 4, 2), (189, .goto 17, 3), (78, .lload_n 2, 1), (79, .lreturn, 1), (21, .iconst 1, 1), (22, .goto 4, 3)] = true := by decide +kernel
theorem dX12_code_162 : decode cX12_code 162 = .ok (.lload 4, 2) := lw_dr lw_d_cX12_code_162 0 rfl
theorem dX12_code_164 : decode cX12_code 164 = .ok (.lcmp, 1) := lw_dr lw_d_cX12_code_162 1 rfl
theorem dX12_code_165 : decode cX12_code 165 = .ok (.ifCond .ne 6, 3) := lw_dr lw_d_cX12_code_162 2 rfl
theorem dX12_code_168 : decode cX12_code 168 = .ok (.iinc 6 1, 3) := lw_dr lw_d_cX12_code_162 3 rfl
theorem dX12_code_171 : decode cX12_code 171 = .ok (.iinc 9 1, 3) := lw_dr lw_d_cX12_code_162 4 rfl
theorem dX12_code_174 : decode cX12_code 174 = .ok (.goto (-65), 3) := lw_dr lw_d_cX12_code_162 5 rfl
theorem dX12_code_177 : decode cX12_code 177 = .ok (.iinc 8 1, 3) := lw_dr lw_d_cX12_code_162 6 rfl
theorem dX12_code_180 : decode cX12_code 180 = .ok (.goto (-86), 3) := lw_dr lw_d_cX12_code_162 7 rfl
theorem dX12_code_135 : decode cX12_code 135 = .ok (.lload 10, 2) := lw_dr lw_d_cX12_code_162 8 rfl
theorem dX12_code_137 : decode cX12_code 137 = .ok (.lload 4, 2) := lw_dr lw_d_cX12_code_162 9 rfl
theorem dX12_code_139 : decode cX12_code 139 = .ok (.lcmp, 1) := lw_dr lw_d_cX12_code_162 10 rfl
theorem dX12_code_140 : decode cX12_code 140 = .ok (.ifCond .ge 20, 3) := lw_dr lw_d_cX12_code_162 11 rfl
theorem dX12_code_183 : decode cX12_code 183 = .ok (.iload_n 1, 1) := lw_dr lw_d_cX12_code_162 12 rfl
theorem dX12_code_184 : decode cX12_code 184 = .ok (.ifCond .ne 8, 3) := lw_dr lw_d_cX12_code_162 13 rfl
theorem dX12_code_192 : decode cX12_code 192 = .ok (.iload_n 1, 1) := lw_dr lw_d_cX12_code_162 14 rfl
theorem dX12_code_193 : decode cX12_code 193 = .ok (.iconst 1, 1) := lw_dr lw_d_cX12_code_162 15 rfl
theorem dX12_code_194 : decode cX12_code 194 = .ok (.if_icmp .ne 9, 3) := lw_dr lw_d_cX12_code_162 16 rfl
theorem dX12_code_203 : decode cX12_code 203 = .ok (.iload 7, 2) := lw_dr lw_d_cX12_code_162 17 rfl
theorem dX12_code_205 : decode cX12_code 205 = .ok (.i2l, 1) := lw_dr lw_d_cX12_code_162 18 rfl
theorem dX12_code_206 : decode cX12_code 206 = .ok (.lreturn, 1) := lw_dr lw_d_cX12_code_162 19 rfl
theorem dX12_code_197 : decode cX12_code 197 = .ok (.iload 6, 2) := lw_dr lw_d_cX12_code_162 20 rfl
theorem dX12_code_199 : decode cX12_code 199 = .ok (.i2l, 1) := lw_dr lw_d_cX12_code_162 21 rfl
theorem dX12_code_200 : decode cX12_code 200 = .ok (.goto 6, 3) := lw_dr lw_d_cX12_code_162 22 rfl
theorem dX12_code_187 : decode cX12_code 187 = .ok (.lload 4, 2) := lw_dr lw_d_cX12_code_162 23 rfl
theorem dX12_code_189 : decode cX12_code 189 = .ok (.goto 17, 3) := lw_dr lw_d_cX12_code_162 24 rfl
theorem dX12_code_78 : decode cX12_code 78 = .ok (.lload_n 2, 1) := lw_dr lw_d_cX12_code_162 25 rfl
theorem dX12_code_79 : decode cX12_code 79 = .ok (.lreturn, 1) := lw_dr lw_d_cX12_code_162 26 rfl
theorem dX12_code_21 : decode cX12_code 21 = .ok (.iconst 1, 1) := lw_dr lw_d_cX12_code_162 27 rfl
theorem dX12_code_22 : decode cX12_code 22 = .ok (.goto 4, 3) := lw_dr lw_d_cX12_code_162 28 rfl
theorem lw_d_cX12_power_0 : lw_dl cX12_power [(0, .iconst 0, 1), (1, .istore_n 2, 1), (2, .iconst 0, 1), (3, .istore_n 3, 1), (4, .iload_n 3, 1), (5, .aload_n 0, 1), (6, .getfield 237, 3), (9, .if_icmp .ge 33, 3), (42, .iload_n 2, 1), (43, .ireturn, 1), (12, .iload_n 2, 1), (13, .aload_n 0, 1), (14, .getfield 72, 3), (17, .iconst 5, 1), (18, .iload_n 1, 1), (19, .imul, 1), (20, .iload_n 3, 1), (21, .iadd, 1), (22, .iaload, 1), (23, .aload_n 0, 1), (24, .getfield 72, 3), (27, .iconst 5, 1), (28, .iload_n 1, 1), (29, .imul, 1), (30, .iload_n 3, 1), (31, .iadd, 1), (32, .iaload, 1), (33, .imul, 1), (34, .iadd, 1), (35, .istore_n 2, 1), (36, .iinc 3 1, 3), (39, .goto (-35), 3)] = true := by decide +kernel
theorem dX12_power_0 : decode cX12_power 0 = .ok (.iconst 0, 1) := lw_dr lw_d_cX12_power_0 0 rfl
theorem dX12_power_1 : decode cX12_power 1 = .ok (.istore_n 2, 1) := lw_dr lw_d_cX12_power_0 1 rfl
theorem dX12_power_2 : decode cX12_power 2 = .ok (.iconst 0, 1) := lw_dr lw_d_cX12_power_0 2 rfl
theorem dX12_power_3 : decode cX12_power 3 = .ok (.istore_n 3, 1) := lw_dr lw_d_cX12_power_0 3 rfl
theorem dX12_power_4 : decode cX12_power 4 = .ok (.iload_n 3, 1) := lw_dr lw_d_cX12_power_0 4 rfl
theorem dX12_power_5 : decode cX12_power 5 = .ok (.aload_n 0, 1) := lw_dr lw_d_cX12_power_0 5 rfl
theorem dX12_power_6 : decode cX12_power 6 = .ok (.getfield 237, 3) := lw_dr lw_d_cX12_power_0 6 rfl
theorem dX12_power_9 : decode cX12_power 9 = .ok (.if_icmp .ge 33, 3) := lw_dr lw_d_cX12_power_0 7 rfl
theorem dX12_power_42 : decode cX12_power 42 = .ok (.iload_n 2, 1) := lw_dr lw_d_cX12_power_0 8 rfl
theorem dX12_power_43 : decode cX12_power 43 = .ok (.ireturn, 1) := lw_dr lw_d_cX12_power_0 9 rfl
theorem dX12_power_12 : decode cX12_power 12 = .ok (.iload_n 2, 1) := lw_dr lw_d_cX12_power_0 10 rfl
theorem dX12_power_13 : decode cX12_power 13 = .ok (.aload_n 0, 1) := lw_dr lw_d_cX12_power_0 11 rfl
theorem dX12_power_14 : decode cX12_power 14 = .ok (.getfield 72, 3) := lw_dr lw_d_cX12_power_0 12 rfl
theorem dX12_power_17 : decode cX12_power 17 = .ok (.iconst 5, 1) := lw_dr lw_d_cX12_power_0 13 rfl
theorem dX12_power_18 : decode cX12_power 18 = .ok (.iload_n 1, 1) := lw_dr lw_d_cX12_power_0 14 rfl
theorem dX12_power_19 : decode cX12_power 19 = .ok (.imul, 1) := lw_dr lw_d_cX12_power_0 15 rfl
theorem dX12_power_20 : decode cX12_power 20 = .ok (.iload_n 3, 1) := lw_dr lw_d_cX12_power_0 16 rfl
theorem dX12_power_21 : decode cX12_power 21 = .ok (.iadd, 1) := lw_dr lw_d_cX12_power_0 17 rfl
theorem dX12_power_22 : decode cX12_power 22 = .ok (.iaload, 1) := lw_dr lw_d_cX12_power_0 18 rfl
theorem dX12_power_23 : decode cX12_power 23 = .ok (.aload_n 0, 1) := lw_dr lw_d_cX12_power_0 19 rfl
theorem dX12_power_24 : decode cX12_power 24 = .ok (.getfield 72, 3) := lw_dr lw_d_cX12_power_0 20 rfl
theorem dX12_power_27 : decode cX12_power 27 = .ok (.iconst 5, 1) := lw_dr lw_d_cX12_power_0 21 rfl
theorem dX12_power_28 : decode cX12_power 28 = .ok (.iload_n 1, 1) := lw_dr lw_d_cX12_power_0 22 rfl
theorem dX12_power_29 : decode cX12_power 29 = .ok (.imul, 1) := lw_dr lw_d_cX12_power_0 23 rfl
theorem dX12_power_30 : decode cX12_power 30 = .ok (.iload_n 3, 1) := lw_dr lw_d_cX12_power_0 24 rfl
theorem dX12_power_31 : decode cX12_power 31 = .ok (.iadd, 1) := lw_dr lw_d_cX12_power_0 25 rfl
theorem dX12_power_32 : decode cX12_power 32 = .ok (.iaload, 1) := lw_dr lw_d_cX12_power_0 26 rfl
theorem dX12_power_33 : decode cX12_power 33 = .ok (.imul, 1) := lw_dr lw_d_cX12_power_0 27 rfl
theorem dX12_power_34 : decode cX12_power 34 = .ok (.iadd, 1) := lw_dr lw_d_cX12_power_0 28 rfl
theorem dX12_power_35 : decode cX12_power 35 = .ok (.istore_n 2, 1) := lw_dr lw_d_cX12_power_0 29 rfl
theorem dX12_power_36 : decode cX12_power 36 = .ok (.iinc 3 1, 3) := lw_dr lw_d_cX12_power_0 30 rfl
theorem dX12_power_39 : decode cX12_power 39 = .ok (.goto (-35), 3) := lw_dr lw_d_cX12_power_0 31 rfl
theorem lw_d_cX12_apartOf_0 : lw_dl cX12_apartOf [(0, .iconst 0, 1), (1, .istore_n 3, 1), (2, .iload_n 3, 1), (3, .aload_n 0, 1), (4, .getfield 237, 3), (7, .if_icmp .ge 36, 3), (43, .aload_n 0, 1), (44, .iconst 0, 1), (45, .invokevirtual 380, 3), (48, .lreturn, 1), (10, .aload_n 0, 1), (11, .getfield 103, 3), (14, .iload_n 3, 1), (15, .aload_n 0, 1), (16, .getfield 72, 3), (19, .iconst 5, 1), (20, .iload_n 1, 1), (21, .imul, 1), (22, .iload_n 3, 1), (23, .iadd, 1), (24, .iaload, 1), (25, .aload_n 0, 1), (26, .getfield 72, 3), (29, .iconst 5, 1), (30, .iload_n 2, 1), (31, .imul, 1), (32, .iload_n 3, 1), (33, .iadd, 1), (34, .iaload, 1), (35, .isub, 1), (36, .iastore, 1), (37, .iinc 3 1, 3), (40, .goto (-38), 3)] = true := by decide +kernel
theorem dX12_apartOf_0 : decode cX12_apartOf 0 = .ok (.iconst 0, 1) := lw_dr lw_d_cX12_apartOf_0 0 rfl
theorem dX12_apartOf_1 : decode cX12_apartOf 1 = .ok (.istore_n 3, 1) := lw_dr lw_d_cX12_apartOf_0 1 rfl
theorem dX12_apartOf_2 : decode cX12_apartOf 2 = .ok (.iload_n 3, 1) := lw_dr lw_d_cX12_apartOf_0 2 rfl
theorem dX12_apartOf_3 : decode cX12_apartOf 3 = .ok (.aload_n 0, 1) := lw_dr lw_d_cX12_apartOf_0 3 rfl
theorem dX12_apartOf_4 : decode cX12_apartOf 4 = .ok (.getfield 237, 3) := lw_dr lw_d_cX12_apartOf_0 4 rfl
theorem dX12_apartOf_7 : decode cX12_apartOf 7 = .ok (.if_icmp .ge 36, 3) := lw_dr lw_d_cX12_apartOf_0 5 rfl
theorem dX12_apartOf_43 : decode cX12_apartOf 43 = .ok (.aload_n 0, 1) := lw_dr lw_d_cX12_apartOf_0 6 rfl
theorem dX12_apartOf_44 : decode cX12_apartOf 44 = .ok (.iconst 0, 1) := lw_dr lw_d_cX12_apartOf_0 7 rfl
theorem dX12_apartOf_45 : decode cX12_apartOf 45 = .ok (.invokevirtual 380, 3) := lw_dr lw_d_cX12_apartOf_0 8 rfl
theorem dX12_apartOf_48 : decode cX12_apartOf 48 = .ok (.lreturn, 1) := lw_dr lw_d_cX12_apartOf_0 9 rfl
theorem dX12_apartOf_10 : decode cX12_apartOf 10 = .ok (.aload_n 0, 1) := lw_dr lw_d_cX12_apartOf_0 10 rfl
theorem dX12_apartOf_11 : decode cX12_apartOf 11 = .ok (.getfield 103, 3) := lw_dr lw_d_cX12_apartOf_0 11 rfl
theorem dX12_apartOf_14 : decode cX12_apartOf 14 = .ok (.iload_n 3, 1) := lw_dr lw_d_cX12_apartOf_0 12 rfl
theorem dX12_apartOf_15 : decode cX12_apartOf 15 = .ok (.aload_n 0, 1) := lw_dr lw_d_cX12_apartOf_0 13 rfl
theorem dX12_apartOf_16 : decode cX12_apartOf 16 = .ok (.getfield 72, 3) := lw_dr lw_d_cX12_apartOf_0 14 rfl
theorem dX12_apartOf_19 : decode cX12_apartOf 19 = .ok (.iconst 5, 1) := lw_dr lw_d_cX12_apartOf_0 15 rfl
theorem dX12_apartOf_20 : decode cX12_apartOf 20 = .ok (.iload_n 1, 1) := lw_dr lw_d_cX12_apartOf_0 16 rfl
theorem dX12_apartOf_21 : decode cX12_apartOf 21 = .ok (.imul, 1) := lw_dr lw_d_cX12_apartOf_0 17 rfl
theorem dX12_apartOf_22 : decode cX12_apartOf 22 = .ok (.iload_n 3, 1) := lw_dr lw_d_cX12_apartOf_0 18 rfl
theorem dX12_apartOf_23 : decode cX12_apartOf 23 = .ok (.iadd, 1) := lw_dr lw_d_cX12_apartOf_0 19 rfl
theorem dX12_apartOf_24 : decode cX12_apartOf 24 = .ok (.iaload, 1) := lw_dr lw_d_cX12_apartOf_0 20 rfl
theorem dX12_apartOf_25 : decode cX12_apartOf 25 = .ok (.aload_n 0, 1) := lw_dr lw_d_cX12_apartOf_0 21 rfl
theorem dX12_apartOf_26 : decode cX12_apartOf 26 = .ok (.getfield 72, 3) := lw_dr lw_d_cX12_apartOf_0 22 rfl
theorem dX12_apartOf_29 : decode cX12_apartOf 29 = .ok (.iconst 5, 1) := lw_dr lw_d_cX12_apartOf_0 23 rfl
theorem dX12_apartOf_30 : decode cX12_apartOf 30 = .ok (.iload_n 2, 1) := lw_dr lw_d_cX12_apartOf_0 24 rfl
theorem dX12_apartOf_31 : decode cX12_apartOf 31 = .ok (.imul, 1) := lw_dr lw_d_cX12_apartOf_0 25 rfl
theorem dX12_apartOf_32 : decode cX12_apartOf 32 = .ok (.iload_n 3, 1) := lw_dr lw_d_cX12_apartOf_0 26 rfl
theorem dX12_apartOf_33 : decode cX12_apartOf 33 = .ok (.iadd, 1) := lw_dr lw_d_cX12_apartOf_0 27 rfl
theorem dX12_apartOf_34 : decode cX12_apartOf 34 = .ok (.iaload, 1) := lw_dr lw_d_cX12_apartOf_0 28 rfl
theorem dX12_apartOf_35 : decode cX12_apartOf 35 = .ok (.isub, 1) := lw_dr lw_d_cX12_apartOf_0 29 rfl
theorem dX12_apartOf_36 : decode cX12_apartOf 36 = .ok (.iastore, 1) := lw_dr lw_d_cX12_apartOf_0 30 rfl
theorem dX12_apartOf_37 : decode cX12_apartOf 37 = .ok (.iinc 3 1, 3) := lw_dr lw_d_cX12_apartOf_0 31 rfl
theorem dX12_apartOf_40 : decode cX12_apartOf 40 = .ok (.goto (-38), 3) := lw_dr lw_d_cX12_apartOf_0 32 rfl
theorem lw_d_cX12_leave_0 : lw_dl cX12_leave [(0, .iload_n 1, 1), (1, .i2l, 1), (2, .lconst 0, 1), (3, .lconst 1, 1), (4, .invokestatic 191, 3), (7, .ifCond .eq 11, 3), (18, .ldc2_w 384, 3), (21, .lreturn, 1), (10, .aload_n 0, 1), (11, .getfield 246, 3), (14, .iconst 3, 1), (15, .if_icmp .ge 7, 3), (22, .iconst 0, 1), (23, .istore_n 2, 1), (24, .iconst 1, 1), (25, .istore_n 3, 1), (26, .iload_n 3, 1), (27, .aload_n 0, 1), (28, .getfield 246, 3), (31, .if_icmp .ge 25, 3), (34, .aload_n 0, 1), (35, .iload_n 3, 1), (36, .invokevirtual 468, 3), (39, .aload_n 0, 1), (40, .iload_n 2, 1), (41, .invokevirtual 468, 3), (44, .lcmp, 1), (45, .ifCond .le 5, 3), (50, .iinc 3 1, 3), (53, .goto (-27), 3), (48, .iload_n 3, 1), (49, .istore_n 2, 1), (56, .iload_n 1, 1), (57, .ifCond .ne 8, 3), (65, .aload_n 0, 1), (66, .iload_n 2, 1), (67, .invokevirtual 468, 3), (70, .lreturn, 1), (60, .iload_n 2, 1), (61, .i2l, 1)] = true := by decide +kernel
theorem dX12_leave_0 : decode cX12_leave 0 = .ok (.iload_n 1, 1) := lw_dr lw_d_cX12_leave_0 0 rfl
theorem dX12_leave_1 : decode cX12_leave 1 = .ok (.i2l, 1) := lw_dr lw_d_cX12_leave_0 1 rfl
theorem dX12_leave_2 : decode cX12_leave 2 = .ok (.lconst 0, 1) := lw_dr lw_d_cX12_leave_0 2 rfl
theorem dX12_leave_3 : decode cX12_leave 3 = .ok (.lconst 1, 1) := lw_dr lw_d_cX12_leave_0 3 rfl
theorem dX12_leave_4 : decode cX12_leave 4 = .ok (.invokestatic 191, 3) := lw_dr lw_d_cX12_leave_0 4 rfl
theorem dX12_leave_7 : decode cX12_leave 7 = .ok (.ifCond .eq 11, 3) := lw_dr lw_d_cX12_leave_0 5 rfl
theorem dX12_leave_18 : decode cX12_leave 18 = .ok (.ldc2_w 384, 3) := lw_dr lw_d_cX12_leave_0 6 rfl
theorem dX12_leave_21 : decode cX12_leave 21 = .ok (.lreturn, 1) := lw_dr lw_d_cX12_leave_0 7 rfl
theorem dX12_leave_10 : decode cX12_leave 10 = .ok (.aload_n 0, 1) := lw_dr lw_d_cX12_leave_0 8 rfl
theorem dX12_leave_11 : decode cX12_leave 11 = .ok (.getfield 246, 3) := lw_dr lw_d_cX12_leave_0 9 rfl
theorem dX12_leave_14 : decode cX12_leave 14 = .ok (.iconst 3, 1) := lw_dr lw_d_cX12_leave_0 10 rfl
theorem dX12_leave_15 : decode cX12_leave 15 = .ok (.if_icmp .ge 7, 3) := lw_dr lw_d_cX12_leave_0 11 rfl
theorem dX12_leave_22 : decode cX12_leave 22 = .ok (.iconst 0, 1) := lw_dr lw_d_cX12_leave_0 12 rfl
theorem dX12_leave_23 : decode cX12_leave 23 = .ok (.istore_n 2, 1) := lw_dr lw_d_cX12_leave_0 13 rfl
theorem dX12_leave_24 : decode cX12_leave 24 = .ok (.iconst 1, 1) := lw_dr lw_d_cX12_leave_0 14 rfl
theorem dX12_leave_25 : decode cX12_leave 25 = .ok (.istore_n 3, 1) := lw_dr lw_d_cX12_leave_0 15 rfl
theorem dX12_leave_26 : decode cX12_leave 26 = .ok (.iload_n 3, 1) := lw_dr lw_d_cX12_leave_0 16 rfl
theorem dX12_leave_27 : decode cX12_leave 27 = .ok (.aload_n 0, 1) := lw_dr lw_d_cX12_leave_0 17 rfl
theorem dX12_leave_28 : decode cX12_leave 28 = .ok (.getfield 246, 3) := lw_dr lw_d_cX12_leave_0 18 rfl
theorem dX12_leave_31 : decode cX12_leave 31 = .ok (.if_icmp .ge 25, 3) := lw_dr lw_d_cX12_leave_0 19 rfl
theorem dX12_leave_34 : decode cX12_leave 34 = .ok (.aload_n 0, 1) := lw_dr lw_d_cX12_leave_0 20 rfl
theorem dX12_leave_35 : decode cX12_leave 35 = .ok (.iload_n 3, 1) := lw_dr lw_d_cX12_leave_0 21 rfl
theorem dX12_leave_36 : decode cX12_leave 36 = .ok (.invokevirtual 468, 3) := lw_dr lw_d_cX12_leave_0 22 rfl
theorem dX12_leave_39 : decode cX12_leave 39 = .ok (.aload_n 0, 1) := lw_dr lw_d_cX12_leave_0 23 rfl
theorem dX12_leave_40 : decode cX12_leave 40 = .ok (.iload_n 2, 1) := lw_dr lw_d_cX12_leave_0 24 rfl
theorem dX12_leave_41 : decode cX12_leave 41 = .ok (.invokevirtual 468, 3) := lw_dr lw_d_cX12_leave_0 25 rfl
theorem dX12_leave_44 : decode cX12_leave 44 = .ok (.lcmp, 1) := lw_dr lw_d_cX12_leave_0 26 rfl
theorem dX12_leave_45 : decode cX12_leave 45 = .ok (.ifCond .le 5, 3) := lw_dr lw_d_cX12_leave_0 27 rfl
theorem dX12_leave_50 : decode cX12_leave 50 = .ok (.iinc 3 1, 3) := lw_dr lw_d_cX12_leave_0 28 rfl
theorem dX12_leave_53 : decode cX12_leave 53 = .ok (.goto (-27), 3) := lw_dr lw_d_cX12_leave_0 29 rfl
theorem dX12_leave_48 : decode cX12_leave 48 = .ok (.iload_n 3, 1) := lw_dr lw_d_cX12_leave_0 30 rfl
theorem dX12_leave_49 : decode cX12_leave 49 = .ok (.istore_n 2, 1) := lw_dr lw_d_cX12_leave_0 31 rfl
theorem dX12_leave_56 : decode cX12_leave 56 = .ok (.iload_n 1, 1) := lw_dr lw_d_cX12_leave_0 32 rfl
theorem dX12_leave_57 : decode cX12_leave 57 = .ok (.ifCond .ne 8, 3) := lw_dr lw_d_cX12_leave_0 33 rfl
theorem dX12_leave_65 : decode cX12_leave 65 = .ok (.aload_n 0, 1) := lw_dr lw_d_cX12_leave_0 34 rfl
theorem dX12_leave_66 : decode cX12_leave 66 = .ok (.iload_n 2, 1) := lw_dr lw_d_cX12_leave_0 35 rfl
theorem dX12_leave_67 : decode cX12_leave 67 = .ok (.invokevirtual 468, 3) := lw_dr lw_d_cX12_leave_0 36 rfl
theorem dX12_leave_70 : decode cX12_leave 70 = .ok (.lreturn, 1) := lw_dr lw_d_cX12_leave_0 37 rfl
theorem dX12_leave_60 : decode cX12_leave 60 = .ok (.iload_n 2, 1) := lw_dr lw_d_cX12_leave_0 38 rfl
theorem dX12_leave_61 : decode cX12_leave 61 = .ok (.i2l, 1) := lw_dr lw_d_cX12_leave_0 39 rfl
theorem lw_d_cX12_leave_62 : lw_dl cX12_leave [(62, .goto 8, 3)] = true := by decide +kernel
theorem dX12_leave_62 : decode cX12_leave 62 = .ok (.goto 8, 3) := lw_dr lw_d_cX12_leave_62 0 rfl
theorem lw_d_cX12_leastWithout_0 : lw_dl cX12_leastWithout [(0, .ldc2_w 384, 3), (3, .lstore_n 2, 1), (4, .iconst 0, 1), (5, .istore 4, 2), (7, .iload 4, 2), (9, .aload_n 0, 1), (10, .getfield 246, 3), (13, .if_icmp .ge 71, 3), (84, .lload_n 2, 1), (85, .lreturn, 1), (16, .iload 4, 2), (18, .iconst 1, 1), (19, .iadd, 1), (20, .istore 5, 2), (22, .iload 5, 2), (24, .aload_n 0, 1), (25, .getfield 246, 3), (28, .if_icmp .ge 50, 3), (78, .iinc 4 1, 3), (81, .goto (-74), 3), (31, .iload 4, 2), (33, .iload_n 1, 1), (34, .if_icmp .eq 38, 3), (72, .iinc 5 1, 3), (75, .goto (-53), 3), (37, .iload 5, 2), (39, .iload_n 1, 1), (40, .if_icmp .ne 6, 3), (46, .aload_n 0, 1), (47, .iload 4, 2), (49, .iload 5, 2), (51, .invokevirtual 465, 3), (54, .lstore 6, 2), (56, .lload_n 2, 1), (57, .lconst 0, 1), (58, .lcmp, 1), (59, .ifCond .lt 10, 3), (69, .lload 6, 2), (71, .lstore_n 2, 1), (43, .goto 29, 3)] = true := by decide +kernel
theorem dX12_leastWithout_0 : decode cX12_leastWithout 0 = .ok (.ldc2_w 384, 3) := lw_dr lw_d_cX12_leastWithout_0 0 rfl
theorem dX12_leastWithout_3 : decode cX12_leastWithout 3 = .ok (.lstore_n 2, 1) := lw_dr lw_d_cX12_leastWithout_0 1 rfl
theorem dX12_leastWithout_4 : decode cX12_leastWithout 4 = .ok (.iconst 0, 1) := lw_dr lw_d_cX12_leastWithout_0 2 rfl
theorem dX12_leastWithout_5 : decode cX12_leastWithout 5 = .ok (.istore 4, 2) := lw_dr lw_d_cX12_leastWithout_0 3 rfl
theorem dX12_leastWithout_7 : decode cX12_leastWithout 7 = .ok (.iload 4, 2) := lw_dr lw_d_cX12_leastWithout_0 4 rfl
theorem dX12_leastWithout_9 : decode cX12_leastWithout 9 = .ok (.aload_n 0, 1) := lw_dr lw_d_cX12_leastWithout_0 5 rfl
theorem dX12_leastWithout_10 : decode cX12_leastWithout 10 = .ok (.getfield 246, 3) := lw_dr lw_d_cX12_leastWithout_0 6 rfl
theorem dX12_leastWithout_13 : decode cX12_leastWithout 13 = .ok (.if_icmp .ge 71, 3) := lw_dr lw_d_cX12_leastWithout_0 7 rfl
theorem dX12_leastWithout_84 : decode cX12_leastWithout 84 = .ok (.lload_n 2, 1) := lw_dr lw_d_cX12_leastWithout_0 8 rfl
theorem dX12_leastWithout_85 : decode cX12_leastWithout 85 = .ok (.lreturn, 1) := lw_dr lw_d_cX12_leastWithout_0 9 rfl
theorem dX12_leastWithout_16 : decode cX12_leastWithout 16 = .ok (.iload 4, 2) := lw_dr lw_d_cX12_leastWithout_0 10 rfl
theorem dX12_leastWithout_18 : decode cX12_leastWithout 18 = .ok (.iconst 1, 1) := lw_dr lw_d_cX12_leastWithout_0 11 rfl
theorem dX12_leastWithout_19 : decode cX12_leastWithout 19 = .ok (.iadd, 1) := lw_dr lw_d_cX12_leastWithout_0 12 rfl
theorem dX12_leastWithout_20 : decode cX12_leastWithout 20 = .ok (.istore 5, 2) := lw_dr lw_d_cX12_leastWithout_0 13 rfl
theorem dX12_leastWithout_22 : decode cX12_leastWithout 22 = .ok (.iload 5, 2) := lw_dr lw_d_cX12_leastWithout_0 14 rfl
theorem dX12_leastWithout_24 : decode cX12_leastWithout 24 = .ok (.aload_n 0, 1) := lw_dr lw_d_cX12_leastWithout_0 15 rfl
theorem dX12_leastWithout_25 : decode cX12_leastWithout 25 = .ok (.getfield 246, 3) := lw_dr lw_d_cX12_leastWithout_0 16 rfl
theorem dX12_leastWithout_28 : decode cX12_leastWithout 28 = .ok (.if_icmp .ge 50, 3) := lw_dr lw_d_cX12_leastWithout_0 17 rfl
theorem dX12_leastWithout_78 : decode cX12_leastWithout 78 = .ok (.iinc 4 1, 3) := lw_dr lw_d_cX12_leastWithout_0 18 rfl
theorem dX12_leastWithout_81 : decode cX12_leastWithout 81 = .ok (.goto (-74), 3) := lw_dr lw_d_cX12_leastWithout_0 19 rfl
theorem dX12_leastWithout_31 : decode cX12_leastWithout 31 = .ok (.iload 4, 2) := lw_dr lw_d_cX12_leastWithout_0 20 rfl
theorem dX12_leastWithout_33 : decode cX12_leastWithout 33 = .ok (.iload_n 1, 1) := lw_dr lw_d_cX12_leastWithout_0 21 rfl
theorem dX12_leastWithout_34 : decode cX12_leastWithout 34 = .ok (.if_icmp .eq 38, 3) := lw_dr lw_d_cX12_leastWithout_0 22 rfl
theorem dX12_leastWithout_72 : decode cX12_leastWithout 72 = .ok (.iinc 5 1, 3) := lw_dr lw_d_cX12_leastWithout_0 23 rfl
theorem dX12_leastWithout_75 : decode cX12_leastWithout 75 = .ok (.goto (-53), 3) := lw_dr lw_d_cX12_leastWithout_0 24 rfl
theorem dX12_leastWithout_37 : decode cX12_leastWithout 37 = .ok (.iload 5, 2) := lw_dr lw_d_cX12_leastWithout_0 25 rfl
theorem dX12_leastWithout_39 : decode cX12_leastWithout 39 = .ok (.iload_n 1, 1) := lw_dr lw_d_cX12_leastWithout_0 26 rfl
theorem dX12_leastWithout_40 : decode cX12_leastWithout 40 = .ok (.if_icmp .ne 6, 3) := lw_dr lw_d_cX12_leastWithout_0 27 rfl
theorem dX12_leastWithout_46 : decode cX12_leastWithout 46 = .ok (.aload_n 0, 1) := lw_dr lw_d_cX12_leastWithout_0 28 rfl
theorem dX12_leastWithout_47 : decode cX12_leastWithout 47 = .ok (.iload 4, 2) := lw_dr lw_d_cX12_leastWithout_0 29 rfl
theorem dX12_leastWithout_49 : decode cX12_leastWithout 49 = .ok (.iload 5, 2) := lw_dr lw_d_cX12_leastWithout_0 30 rfl
theorem dX12_leastWithout_51 : decode cX12_leastWithout 51 = .ok (.invokevirtual 465, 3) := lw_dr lw_d_cX12_leastWithout_0 31 rfl
theorem dX12_leastWithout_54 : decode cX12_leastWithout 54 = .ok (.lstore 6, 2) := lw_dr lw_d_cX12_leastWithout_0 32 rfl
theorem dX12_leastWithout_56 : decode cX12_leastWithout 56 = .ok (.lload_n 2, 1) := lw_dr lw_d_cX12_leastWithout_0 33 rfl
theorem dX12_leastWithout_57 : decode cX12_leastWithout 57 = .ok (.lconst 0, 1) := lw_dr lw_d_cX12_leastWithout_0 34 rfl
theorem dX12_leastWithout_58 : decode cX12_leastWithout 58 = .ok (.lcmp, 1) := lw_dr lw_d_cX12_leastWithout_0 35 rfl
theorem dX12_leastWithout_59 : decode cX12_leastWithout 59 = .ok (.ifCond .lt 10, 3) := lw_dr lw_d_cX12_leastWithout_0 36 rfl
theorem dX12_leastWithout_69 : decode cX12_leastWithout 69 = .ok (.lload 6, 2) := lw_dr lw_d_cX12_leastWithout_0 37 rfl
theorem dX12_leastWithout_71 : decode cX12_leastWithout 71 = .ok (.lstore_n 2, 1) := lw_dr lw_d_cX12_leastWithout_0 38 rfl
theorem dX12_leastWithout_43 : decode cX12_leastWithout 43 = .ok (.goto 29, 3) := lw_dr lw_d_cX12_leastWithout_0 39 rfl
theorem lw_d_cX12_leastWithout_62 : lw_dl cX12_leastWithout [(62, .lload 6, 2), (64, .lload_n 2, 1), (65, .lcmp, 1), (66, .ifCond .ge 6, 3)] = true := by decide +kernel
theorem dX12_leastWithout_62 : decode cX12_leastWithout 62 = .ok (.lload 6, 2) := lw_dr lw_d_cX12_leastWithout_62 0 rfl
theorem dX12_leastWithout_64 : decode cX12_leastWithout 64 = .ok (.lload_n 2, 1) := lw_dr lw_d_cX12_leastWithout_62 1 rfl
theorem dX12_leastWithout_65 : decode cX12_leastWithout 65 = .ok (.lcmp, 1) := lw_dr lw_d_cX12_leastWithout_62 2 rfl
theorem dX12_leastWithout_66 : decode cX12_leastWithout 66 = .ok (.ifCond .ge 6, 3) := lw_dr lw_d_cX12_leastWithout_62 3 rfl
theorem lw_d_cX12_behind_0 : lw_dl cX12_behind [(0, .aload_n 0, 1), (1, .iload_n 1, 1), (2, .invokevirtual 471, 3), (5, .ifCond .ne 5, 3), (10, .aload_n 0, 1), (11, .iload_n 1, 1), (12, .invokevirtual 474, 3), (15, .istore_n 2, 1), (16, .aload_n 0, 1), (17, .iload_n 2, 1), (18, .invokevirtual 409, 3), (21, .lstore_n 3, 1), (22, .iconst 0, 1), (23, .istore 5, 2), (25, .iconst 0, 1), (26, .istore 6, 2), (28, .iload 6, 2), (30, .aload_n 0, 1), (31, .invokevirtual 406, 3), (34, .if_icmp .ge 40, 3), (74, .iload 5, 2), (76, .ireturn, 1), (37, .aload_n 0, 1), (38, .iload 6, 2), (40, .invokevirtual 409, 3), (43, .lstore 7, 2), (45, .lload 7, 2), (47, .lload_n 3, 1), (48, .lcmp, 1), (49, .ifCond .lt 16, 3), (65, .iinc 5 1, 3), (68, .iinc 6 1, 3), (71, .goto (-43), 3), (52, .lload 7, 2), (54, .lload_n 3, 1), (55, .lcmp, 1), (56, .ifCond .ne 12, 3), (59, .iload 6, 2), (61, .iload_n 2, 1), (62, .if_icmp .ge 6, 3)] = true := by decide +kernel
theorem dX12_behind_0 : decode cX12_behind 0 = .ok (.aload_n 0, 1) := lw_dr lw_d_cX12_behind_0 0 rfl
theorem dX12_behind_1 : decode cX12_behind 1 = .ok (.iload_n 1, 1) := lw_dr lw_d_cX12_behind_0 1 rfl
theorem dX12_behind_2 : decode cX12_behind 2 = .ok (.invokevirtual 471, 3) := lw_dr lw_d_cX12_behind_0 2 rfl
theorem dX12_behind_5 : decode cX12_behind 5 = .ok (.ifCond .ne 5, 3) := lw_dr lw_d_cX12_behind_0 3 rfl
theorem dX12_behind_10 : decode cX12_behind 10 = .ok (.aload_n 0, 1) := lw_dr lw_d_cX12_behind_0 4 rfl
theorem dX12_behind_11 : decode cX12_behind 11 = .ok (.iload_n 1, 1) := lw_dr lw_d_cX12_behind_0 5 rfl
theorem dX12_behind_12 : decode cX12_behind 12 = .ok (.invokevirtual 474, 3) := lw_dr lw_d_cX12_behind_0 6 rfl
theorem dX12_behind_15 : decode cX12_behind 15 = .ok (.istore_n 2, 1) := lw_dr lw_d_cX12_behind_0 7 rfl
theorem dX12_behind_16 : decode cX12_behind 16 = .ok (.aload_n 0, 1) := lw_dr lw_d_cX12_behind_0 8 rfl
theorem dX12_behind_17 : decode cX12_behind 17 = .ok (.iload_n 2, 1) := lw_dr lw_d_cX12_behind_0 9 rfl
theorem dX12_behind_18 : decode cX12_behind 18 = .ok (.invokevirtual 409, 3) := lw_dr lw_d_cX12_behind_0 10 rfl
theorem dX12_behind_21 : decode cX12_behind 21 = .ok (.lstore_n 3, 1) := lw_dr lw_d_cX12_behind_0 11 rfl
theorem dX12_behind_22 : decode cX12_behind 22 = .ok (.iconst 0, 1) := lw_dr lw_d_cX12_behind_0 12 rfl
theorem dX12_behind_23 : decode cX12_behind 23 = .ok (.istore 5, 2) := lw_dr lw_d_cX12_behind_0 13 rfl
theorem dX12_behind_25 : decode cX12_behind 25 = .ok (.iconst 0, 1) := lw_dr lw_d_cX12_behind_0 14 rfl
theorem dX12_behind_26 : decode cX12_behind 26 = .ok (.istore 6, 2) := lw_dr lw_d_cX12_behind_0 15 rfl
theorem dX12_behind_28 : decode cX12_behind 28 = .ok (.iload 6, 2) := lw_dr lw_d_cX12_behind_0 16 rfl
theorem dX12_behind_30 : decode cX12_behind 30 = .ok (.aload_n 0, 1) := lw_dr lw_d_cX12_behind_0 17 rfl
theorem dX12_behind_31 : decode cX12_behind 31 = .ok (.invokevirtual 406, 3) := lw_dr lw_d_cX12_behind_0 18 rfl
theorem dX12_behind_34 : decode cX12_behind 34 = .ok (.if_icmp .ge 40, 3) := lw_dr lw_d_cX12_behind_0 19 rfl
theorem dX12_behind_74 : decode cX12_behind 74 = .ok (.iload 5, 2) := lw_dr lw_d_cX12_behind_0 20 rfl
theorem dX12_behind_76 : decode cX12_behind 76 = .ok (.ireturn, 1) := lw_dr lw_d_cX12_behind_0 21 rfl
theorem dX12_behind_37 : decode cX12_behind 37 = .ok (.aload_n 0, 1) := lw_dr lw_d_cX12_behind_0 22 rfl
theorem dX12_behind_38 : decode cX12_behind 38 = .ok (.iload 6, 2) := lw_dr lw_d_cX12_behind_0 23 rfl
theorem dX12_behind_40 : decode cX12_behind 40 = .ok (.invokevirtual 409, 3) := lw_dr lw_d_cX12_behind_0 24 rfl
theorem dX12_behind_43 : decode cX12_behind 43 = .ok (.lstore 7, 2) := lw_dr lw_d_cX12_behind_0 25 rfl
theorem dX12_behind_45 : decode cX12_behind 45 = .ok (.lload 7, 2) := lw_dr lw_d_cX12_behind_0 26 rfl
theorem dX12_behind_47 : decode cX12_behind 47 = .ok (.lload_n 3, 1) := lw_dr lw_d_cX12_behind_0 27 rfl
theorem dX12_behind_48 : decode cX12_behind 48 = .ok (.lcmp, 1) := lw_dr lw_d_cX12_behind_0 28 rfl
theorem dX12_behind_49 : decode cX12_behind 49 = .ok (.ifCond .lt 16, 3) := lw_dr lw_d_cX12_behind_0 29 rfl
theorem dX12_behind_65 : decode cX12_behind 65 = .ok (.iinc 5 1, 3) := lw_dr lw_d_cX12_behind_0 30 rfl
theorem dX12_behind_68 : decode cX12_behind 68 = .ok (.iinc 6 1, 3) := lw_dr lw_d_cX12_behind_0 31 rfl
theorem dX12_behind_71 : decode cX12_behind 71 = .ok (.goto (-43), 3) := lw_dr lw_d_cX12_behind_0 32 rfl
theorem dX12_behind_52 : decode cX12_behind 52 = .ok (.lload 7, 2) := lw_dr lw_d_cX12_behind_0 33 rfl
theorem dX12_behind_54 : decode cX12_behind 54 = .ok (.lload_n 3, 1) := lw_dr lw_d_cX12_behind_0 34 rfl
theorem dX12_behind_55 : decode cX12_behind 55 = .ok (.lcmp, 1) := lw_dr lw_d_cX12_behind_0 35 rfl
theorem dX12_behind_56 : decode cX12_behind 56 = .ok (.ifCond .ne 12, 3) := lw_dr lw_d_cX12_behind_0 36 rfl
theorem dX12_behind_59 : decode cX12_behind 59 = .ok (.iload 6, 2) := lw_dr lw_d_cX12_behind_0 37 rfl
theorem dX12_behind_61 : decode cX12_behind 61 = .ok (.iload_n 2, 1) := lw_dr lw_d_cX12_behind_0 38 rfl
theorem dX12_behind_62 : decode cX12_behind 62 = .ok (.if_icmp .ge 6, 3) := lw_dr lw_d_cX12_behind_0 39 rfl
theorem lw_d_cX12_behind_8 : lw_dl cX12_behind [(8, .iconst (-1), 1), (9, .ireturn, 1)] = true := by decide +kernel
theorem dX12_behind_8 : decode cX12_behind 8 = .ok (.iconst (-1), 1) := lw_dr lw_d_cX12_behind_8 0 rfl
theorem dX12_behind_9 : decode cX12_behind 9 = .ok (.ireturn, 1) := lw_dr lw_d_cX12_behind_8 1 rfl
theorem lw_d_cX12_isWord_0 : lw_dl cX12_isWord [(0, .iload_n 1, 1), (1, .i2l, 1), (2, .lconst 0, 1), (3, .aload_n 0, 1), (4, .getfield 246, 3), (7, .iconst 1, 1), (8, .isub, 1), (9, .i2l, 1), (10, .invokestatic 191, 3), (13, .ireturn, 1)] = true := by decide +kernel
theorem dX12_isWord_0 : decode cX12_isWord 0 = .ok (.iload_n 1, 1) := lw_dr lw_d_cX12_isWord_0 0 rfl
theorem dX12_isWord_1 : decode cX12_isWord 1 = .ok (.i2l, 1) := lw_dr lw_d_cX12_isWord_0 1 rfl
theorem dX12_isWord_2 : decode cX12_isWord 2 = .ok (.lconst 0, 1) := lw_dr lw_d_cX12_isWord_0 2 rfl
theorem dX12_isWord_3 : decode cX12_isWord 3 = .ok (.aload_n 0, 1) := lw_dr lw_d_cX12_isWord_0 3 rfl
theorem dX12_isWord_4 : decode cX12_isWord 4 = .ok (.getfield 246, 3) := lw_dr lw_d_cX12_isWord_0 4 rfl
theorem dX12_isWord_7 : decode cX12_isWord 7 = .ok (.iconst 1, 1) := lw_dr lw_d_cX12_isWord_0 5 rfl
theorem dX12_isWord_8 : decode cX12_isWord 8 = .ok (.isub, 1) := lw_dr lw_d_cX12_isWord_0 6 rfl
theorem dX12_isWord_9 : decode cX12_isWord 9 = .ok (.i2l, 1) := lw_dr lw_d_cX12_isWord_0 7 rfl
theorem dX12_isWord_10 : decode cX12_isWord 10 = .ok (.invokestatic 191, 3) := lw_dr lw_d_cX12_isWord_0 8 rfl
theorem dX12_isWord_13 : decode cX12_isWord 13 = .ok (.ireturn, 1) := lw_dr lw_d_cX12_isWord_0 9 rfl
theorem lw_d_cX12_numberOf_0 : lw_dl cX12_numberOf [(0, .iconst 0, 1), (1, .istore_n 2, 1), (2, .iconst 0, 1), (3, .istore_n 3, 1), (4, .iload_n 3, 1), (5, .aload_n 0, 1), (6, .getfield 237, 3), (9, .if_icmp .ge 36, 3), (45, .iload_n 2, 1), (46, .ireturn, 1), (12, .iload_n 2, 1), (13, .aload_n 0, 1), (14, .getfield 234, 3), (17, .imul, 1), (18, .aload_n 0, 1), (19, .getfield 72, 3), (22, .iconst 5, 1), (23, .iload_n 1, 1), (24, .imul, 1), (25, .iload_n 3, 1), (26, .iadd, 1), (27, .iaload, 1), (28, .aload_n 0, 1), (29, .getfield 234, 3), (32, .iadd, 1), (33, .iconst 1, 1), (34, .isub, 1), (35, .iconst 2, 1), (36, .idiv, 1), (37, .iadd, 1), (38, .istore_n 2, 1), (39, .iinc 3 1, 3), (42, .goto (-38), 3)] = true := by decide +kernel
theorem dX12_numberOf_0 : decode cX12_numberOf 0 = .ok (.iconst 0, 1) := lw_dr lw_d_cX12_numberOf_0 0 rfl
theorem dX12_numberOf_1 : decode cX12_numberOf 1 = .ok (.istore_n 2, 1) := lw_dr lw_d_cX12_numberOf_0 1 rfl
theorem dX12_numberOf_2 : decode cX12_numberOf 2 = .ok (.iconst 0, 1) := lw_dr lw_d_cX12_numberOf_0 2 rfl
theorem dX12_numberOf_3 : decode cX12_numberOf 3 = .ok (.istore_n 3, 1) := lw_dr lw_d_cX12_numberOf_0 3 rfl
theorem dX12_numberOf_4 : decode cX12_numberOf 4 = .ok (.iload_n 3, 1) := lw_dr lw_d_cX12_numberOf_0 4 rfl
theorem dX12_numberOf_5 : decode cX12_numberOf 5 = .ok (.aload_n 0, 1) := lw_dr lw_d_cX12_numberOf_0 5 rfl
theorem dX12_numberOf_6 : decode cX12_numberOf 6 = .ok (.getfield 237, 3) := lw_dr lw_d_cX12_numberOf_0 6 rfl
theorem dX12_numberOf_9 : decode cX12_numberOf 9 = .ok (.if_icmp .ge 36, 3) := lw_dr lw_d_cX12_numberOf_0 7 rfl
theorem dX12_numberOf_45 : decode cX12_numberOf 45 = .ok (.iload_n 2, 1) := lw_dr lw_d_cX12_numberOf_0 8 rfl
theorem dX12_numberOf_46 : decode cX12_numberOf 46 = .ok (.ireturn, 1) := lw_dr lw_d_cX12_numberOf_0 9 rfl
theorem dX12_numberOf_12 : decode cX12_numberOf 12 = .ok (.iload_n 2, 1) := lw_dr lw_d_cX12_numberOf_0 10 rfl
theorem dX12_numberOf_13 : decode cX12_numberOf 13 = .ok (.aload_n 0, 1) := lw_dr lw_d_cX12_numberOf_0 11 rfl
theorem dX12_numberOf_14 : decode cX12_numberOf 14 = .ok (.getfield 234, 3) := lw_dr lw_d_cX12_numberOf_0 12 rfl
theorem dX12_numberOf_17 : decode cX12_numberOf 17 = .ok (.imul, 1) := lw_dr lw_d_cX12_numberOf_0 13 rfl
theorem dX12_numberOf_18 : decode cX12_numberOf 18 = .ok (.aload_n 0, 1) := lw_dr lw_d_cX12_numberOf_0 14 rfl
theorem dX12_numberOf_19 : decode cX12_numberOf 19 = .ok (.getfield 72, 3) := lw_dr lw_d_cX12_numberOf_0 15 rfl
theorem dX12_numberOf_22 : decode cX12_numberOf 22 = .ok (.iconst 5, 1) := lw_dr lw_d_cX12_numberOf_0 16 rfl
theorem dX12_numberOf_23 : decode cX12_numberOf 23 = .ok (.iload_n 1, 1) := lw_dr lw_d_cX12_numberOf_0 17 rfl
theorem dX12_numberOf_24 : decode cX12_numberOf 24 = .ok (.imul, 1) := lw_dr lw_d_cX12_numberOf_0 18 rfl
theorem dX12_numberOf_25 : decode cX12_numberOf 25 = .ok (.iload_n 3, 1) := lw_dr lw_d_cX12_numberOf_0 19 rfl
theorem dX12_numberOf_26 : decode cX12_numberOf 26 = .ok (.iadd, 1) := lw_dr lw_d_cX12_numberOf_0 20 rfl
theorem dX12_numberOf_27 : decode cX12_numberOf 27 = .ok (.iaload, 1) := lw_dr lw_d_cX12_numberOf_0 21 rfl
theorem dX12_numberOf_28 : decode cX12_numberOf 28 = .ok (.aload_n 0, 1) := lw_dr lw_d_cX12_numberOf_0 22 rfl
theorem dX12_numberOf_29 : decode cX12_numberOf 29 = .ok (.getfield 234, 3) := lw_dr lw_d_cX12_numberOf_0 23 rfl
theorem dX12_numberOf_32 : decode cX12_numberOf 32 = .ok (.iadd, 1) := lw_dr lw_d_cX12_numberOf_0 24 rfl
theorem dX12_numberOf_33 : decode cX12_numberOf 33 = .ok (.iconst 1, 1) := lw_dr lw_d_cX12_numberOf_0 25 rfl
theorem dX12_numberOf_34 : decode cX12_numberOf 34 = .ok (.isub, 1) := lw_dr lw_d_cX12_numberOf_0 26 rfl
theorem dX12_numberOf_35 : decode cX12_numberOf 35 = .ok (.iconst 2, 1) := lw_dr lw_d_cX12_numberOf_0 27 rfl
theorem dX12_numberOf_36 : decode cX12_numberOf 36 = .ok (.idiv, 1) := lw_dr lw_d_cX12_numberOf_0 28 rfl
theorem dX12_numberOf_37 : decode cX12_numberOf 37 = .ok (.iadd, 1) := lw_dr lw_d_cX12_numberOf_0 29 rfl
theorem dX12_numberOf_38 : decode cX12_numberOf 38 = .ok (.istore_n 2, 1) := lw_dr lw_d_cX12_numberOf_0 30 rfl
theorem dX12_numberOf_39 : decode cX12_numberOf 39 = .ok (.iinc 3 1, 3) := lw_dr lw_d_cX12_numberOf_0 31 rfl
theorem dX12_numberOf_42 : decode cX12_numberOf 42 = .ok (.goto (-38), 3) := lw_dr lw_d_cX12_numberOf_0 32 rfl
theorem lw_d_cX12_unlike_0 : lw_dl cX12_unlike [(0, .aload_n 0, 1), (1, .iload_n 1, 1), (2, .invokevirtual 471, 3), (5, .ifCond .eq 11, 3), (16, .iconst (-1), 1), (17, .ireturn, 1), (8, .aload_n 0, 1), (9, .iload_n 2, 1), (10, .invokevirtual 471, 3), (13, .ifCond .ne 5, 3), (18, .iconst 0, 1), (19, .istore_n 3, 1), (20, .iconst 0, 1), (21, .istore 4, 2), (23, .iload 4, 2), (25, .aload_n 0, 1)] = true := by decide +kernel
theorem dX12_unlike_0 : decode cX12_unlike 0 = .ok (.aload_n 0, 1) := lw_dr lw_d_cX12_unlike_0 0 rfl
theorem dX12_unlike_1 : decode cX12_unlike 1 = .ok (.iload_n 1, 1) := lw_dr lw_d_cX12_unlike_0 1 rfl
theorem dX12_unlike_2 : decode cX12_unlike 2 = .ok (.invokevirtual 471, 3) := lw_dr lw_d_cX12_unlike_0 2 rfl
theorem dX12_unlike_5 : decode cX12_unlike 5 = .ok (.ifCond .eq 11, 3) := lw_dr lw_d_cX12_unlike_0 3 rfl
theorem dX12_unlike_16 : decode cX12_unlike 16 = .ok (.iconst (-1), 1) := lw_dr lw_d_cX12_unlike_0 4 rfl
theorem dX12_unlike_17 : decode cX12_unlike 17 = .ok (.ireturn, 1) := lw_dr lw_d_cX12_unlike_0 5 rfl
theorem dX12_unlike_8 : decode cX12_unlike 8 = .ok (.aload_n 0, 1) := lw_dr lw_d_cX12_unlike_0 6 rfl
theorem dX12_unlike_9 : decode cX12_unlike 9 = .ok (.iload_n 2, 1) := lw_dr lw_d_cX12_unlike_0 7 rfl
theorem dX12_unlike_10 : decode cX12_unlike 10 = .ok (.invokevirtual 471, 3) := lw_dr lw_d_cX12_unlike_0 8 rfl
theorem dX12_unlike_13 : decode cX12_unlike 13 = .ok (.ifCond .ne 5, 3) := lw_dr lw_d_cX12_unlike_0 9 rfl
theorem dX12_unlike_18 : decode cX12_unlike 18 = .ok (.iconst 0, 1) := lw_dr lw_d_cX12_unlike_0 10 rfl
theorem dX12_unlike_19 : decode cX12_unlike 19 = .ok (.istore_n 3, 1) := lw_dr lw_d_cX12_unlike_0 11 rfl
theorem dX12_unlike_20 : decode cX12_unlike 20 = .ok (.iconst 0, 1) := lw_dr lw_d_cX12_unlike_0 12 rfl
theorem dX12_unlike_21 : decode cX12_unlike 21 = .ok (.istore 4, 2) := lw_dr lw_d_cX12_unlike_0 13 rfl
theorem dX12_unlike_23 : decode cX12_unlike 23 = .ok (.iload 4, 2) := lw_dr lw_d_cX12_unlike_0 14 rfl
theorem dX12_unlike_25 : decode cX12_unlike 25 = .ok (.aload_n 0, 1) := lw_dr lw_d_cX12_unlike_0 15 rfl
theorem lw_d_cX12_unlike_26 : lw_dl cX12_unlike [(26, .getfield 237, 3), (29, .if_icmp .ge 37, 3), (66, .iload_n 3, 1), (67, .ireturn, 1), (32, .aload_n 0, 1), (33, .getfield 72, 3), (36, .iconst 5, 1), (37, .iload_n 1, 1), (38, .imul, 1), (39, .iload 4, 2), (41, .iadd, 1), (42, .iaload, 1), (43, .aload_n 0, 1), (44, .getfield 72, 3), (47, .iconst 5, 1), (48, .iload_n 2, 1), (49, .imul, 1), (50, .iload 4, 2), (52, .iadd, 1), (53, .iaload, 1), (54, .if_icmp .eq 6, 3), (60, .iinc 4 1, 3), (63, .goto (-40), 3), (57, .iinc 3 1, 3)] = true := by decide +kernel
theorem dX12_unlike_26 : decode cX12_unlike 26 = .ok (.getfield 237, 3) := lw_dr lw_d_cX12_unlike_26 0 rfl
theorem dX12_unlike_29 : decode cX12_unlike 29 = .ok (.if_icmp .ge 37, 3) := lw_dr lw_d_cX12_unlike_26 1 rfl
theorem dX12_unlike_66 : decode cX12_unlike 66 = .ok (.iload_n 3, 1) := lw_dr lw_d_cX12_unlike_26 2 rfl
theorem dX12_unlike_67 : decode cX12_unlike 67 = .ok (.ireturn, 1) := lw_dr lw_d_cX12_unlike_26 3 rfl
theorem dX12_unlike_32 : decode cX12_unlike 32 = .ok (.aload_n 0, 1) := lw_dr lw_d_cX12_unlike_26 4 rfl
theorem dX12_unlike_33 : decode cX12_unlike 33 = .ok (.getfield 72, 3) := lw_dr lw_d_cX12_unlike_26 5 rfl
theorem dX12_unlike_36 : decode cX12_unlike 36 = .ok (.iconst 5, 1) := lw_dr lw_d_cX12_unlike_26 6 rfl
theorem dX12_unlike_37 : decode cX12_unlike 37 = .ok (.iload_n 1, 1) := lw_dr lw_d_cX12_unlike_26 7 rfl
theorem dX12_unlike_38 : decode cX12_unlike 38 = .ok (.imul, 1) := lw_dr lw_d_cX12_unlike_26 8 rfl
theorem dX12_unlike_39 : decode cX12_unlike 39 = .ok (.iload 4, 2) := lw_dr lw_d_cX12_unlike_26 9 rfl
theorem dX12_unlike_41 : decode cX12_unlike 41 = .ok (.iadd, 1) := lw_dr lw_d_cX12_unlike_26 10 rfl
theorem dX12_unlike_42 : decode cX12_unlike 42 = .ok (.iaload, 1) := lw_dr lw_d_cX12_unlike_26 11 rfl
theorem dX12_unlike_43 : decode cX12_unlike 43 = .ok (.aload_n 0, 1) := lw_dr lw_d_cX12_unlike_26 12 rfl
theorem dX12_unlike_44 : decode cX12_unlike 44 = .ok (.getfield 72, 3) := lw_dr lw_d_cX12_unlike_26 13 rfl
theorem dX12_unlike_47 : decode cX12_unlike 47 = .ok (.iconst 5, 1) := lw_dr lw_d_cX12_unlike_26 14 rfl
theorem dX12_unlike_48 : decode cX12_unlike 48 = .ok (.iload_n 2, 1) := lw_dr lw_d_cX12_unlike_26 15 rfl
theorem dX12_unlike_49 : decode cX12_unlike 49 = .ok (.imul, 1) := lw_dr lw_d_cX12_unlike_26 16 rfl
theorem dX12_unlike_50 : decode cX12_unlike 50 = .ok (.iload 4, 2) := lw_dr lw_d_cX12_unlike_26 17 rfl
theorem dX12_unlike_52 : decode cX12_unlike 52 = .ok (.iadd, 1) := lw_dr lw_d_cX12_unlike_26 18 rfl
theorem dX12_unlike_53 : decode cX12_unlike 53 = .ok (.iaload, 1) := lw_dr lw_d_cX12_unlike_26 19 rfl
theorem dX12_unlike_54 : decode cX12_unlike 54 = .ok (.if_icmp .eq 6, 3) := lw_dr lw_d_cX12_unlike_26 20 rfl
theorem dX12_unlike_60 : decode cX12_unlike 60 = .ok (.iinc 4 1, 3) := lw_dr lw_d_cX12_unlike_26 21 rfl
theorem dX12_unlike_63 : decode cX12_unlike 63 = .ok (.goto (-40), 3) := lw_dr lw_d_cX12_unlike_26 22 rfl
theorem dX12_unlike_57 : decode cX12_unlike 57 = .ok (.iinc 3 1, 3) := lw_dr lw_d_cX12_unlike_26 23 rfl
theorem lw_d_cX12_decode_0 : lw_dl cX12_decode [(0, .iconst (-1), 1), (1, .istore_n 1, 1), (2, .lconst 0, 1), (3, .lstore_n 2, 1), (4, .iconst 0, 1), (5, .istore 4, 2), (7, .iload 4, 2), (9, .aload_n 0, 1), (10, .getfield 246, 3), (13, .if_icmp .ge 74, 3), (87, .iload_n 1, 1), (88, .ireturn, 1), (16, .iconst 0, 1), (17, .istore 5, 2), (19, .iload 5, 2), (21, .aload_n 0, 1), (22, .getfield 237, 3), (25, .if_icmp .ge 28, 3), (53, .aload_n 0, 1), (54, .iconst 1, 1), (55, .invokevirtual 380, 3), (58, .lstore 5, 2), (60, .iload_n 1, 1), (61, .iconst (-1), 1), (62, .if_icmp .eq 13, 3), (75, .iload 4, 2), (77, .istore_n 1, 1), (78, .lload 5, 2), (80, .lstore_n 2, 1), (81, .iinc 4 1, 3), (84, .goto (-77), 3), (28, .aload_n 0, 1), (29, .getfield 103, 3), (32, .iload 5, 2), (34, .aload_n 0, 1), (35, .getfield 72, 3), (38, .iconst 5, 1), (39, .iload 4, 2), (41, .imul, 1), (42, .iload 5, 2)] = true := by decide +kernel
theorem dX12_decode_0 : decode cX12_decode 0 = .ok (.iconst (-1), 1) := lw_dr lw_d_cX12_decode_0 0 rfl
theorem dX12_decode_1 : decode cX12_decode 1 = .ok (.istore_n 1, 1) := lw_dr lw_d_cX12_decode_0 1 rfl
theorem dX12_decode_2 : decode cX12_decode 2 = .ok (.lconst 0, 1) := lw_dr lw_d_cX12_decode_0 2 rfl
theorem dX12_decode_3 : decode cX12_decode 3 = .ok (.lstore_n 2, 1) := lw_dr lw_d_cX12_decode_0 3 rfl
theorem dX12_decode_4 : decode cX12_decode 4 = .ok (.iconst 0, 1) := lw_dr lw_d_cX12_decode_0 4 rfl
theorem dX12_decode_5 : decode cX12_decode 5 = .ok (.istore 4, 2) := lw_dr lw_d_cX12_decode_0 5 rfl
theorem dX12_decode_7 : decode cX12_decode 7 = .ok (.iload 4, 2) := lw_dr lw_d_cX12_decode_0 6 rfl
theorem dX12_decode_9 : decode cX12_decode 9 = .ok (.aload_n 0, 1) := lw_dr lw_d_cX12_decode_0 7 rfl
theorem dX12_decode_10 : decode cX12_decode 10 = .ok (.getfield 246, 3) := lw_dr lw_d_cX12_decode_0 8 rfl
theorem dX12_decode_13 : decode cX12_decode 13 = .ok (.if_icmp .ge 74, 3) := lw_dr lw_d_cX12_decode_0 9 rfl
theorem dX12_decode_87 : decode cX12_decode 87 = .ok (.iload_n 1, 1) := lw_dr lw_d_cX12_decode_0 10 rfl
theorem dX12_decode_88 : decode cX12_decode 88 = .ok (.ireturn, 1) := lw_dr lw_d_cX12_decode_0 11 rfl
theorem dX12_decode_16 : decode cX12_decode 16 = .ok (.iconst 0, 1) := lw_dr lw_d_cX12_decode_0 12 rfl
theorem dX12_decode_17 : decode cX12_decode 17 = .ok (.istore 5, 2) := lw_dr lw_d_cX12_decode_0 13 rfl
theorem dX12_decode_19 : decode cX12_decode 19 = .ok (.iload 5, 2) := lw_dr lw_d_cX12_decode_0 14 rfl
theorem dX12_decode_21 : decode cX12_decode 21 = .ok (.aload_n 0, 1) := lw_dr lw_d_cX12_decode_0 15 rfl
theorem dX12_decode_22 : decode cX12_decode 22 = .ok (.getfield 237, 3) := lw_dr lw_d_cX12_decode_0 16 rfl
theorem dX12_decode_25 : decode cX12_decode 25 = .ok (.if_icmp .ge 28, 3) := lw_dr lw_d_cX12_decode_0 17 rfl
theorem dX12_decode_53 : decode cX12_decode 53 = .ok (.aload_n 0, 1) := lw_dr lw_d_cX12_decode_0 18 rfl
theorem dX12_decode_54 : decode cX12_decode 54 = .ok (.iconst 1, 1) := lw_dr lw_d_cX12_decode_0 19 rfl
theorem dX12_decode_55 : decode cX12_decode 55 = .ok (.invokevirtual 380, 3) := lw_dr lw_d_cX12_decode_0 20 rfl
theorem dX12_decode_58 : decode cX12_decode 58 = .ok (.lstore 5, 2) := lw_dr lw_d_cX12_decode_0 21 rfl
theorem dX12_decode_60 : decode cX12_decode 60 = .ok (.iload_n 1, 1) := lw_dr lw_d_cX12_decode_0 22 rfl
theorem dX12_decode_61 : decode cX12_decode 61 = .ok (.iconst (-1), 1) := lw_dr lw_d_cX12_decode_0 23 rfl
theorem dX12_decode_62 : decode cX12_decode 62 = .ok (.if_icmp .eq 13, 3) := lw_dr lw_d_cX12_decode_0 24 rfl
theorem dX12_decode_75 : decode cX12_decode 75 = .ok (.iload 4, 2) := lw_dr lw_d_cX12_decode_0 25 rfl
theorem dX12_decode_77 : decode cX12_decode 77 = .ok (.istore_n 1, 1) := lw_dr lw_d_cX12_decode_0 26 rfl
theorem dX12_decode_78 : decode cX12_decode 78 = .ok (.lload 5, 2) := lw_dr lw_d_cX12_decode_0 27 rfl
theorem dX12_decode_80 : decode cX12_decode 80 = .ok (.lstore_n 2, 1) := lw_dr lw_d_cX12_decode_0 28 rfl
theorem dX12_decode_81 : decode cX12_decode 81 = .ok (.iinc 4 1, 3) := lw_dr lw_d_cX12_decode_0 29 rfl
theorem dX12_decode_84 : decode cX12_decode 84 = .ok (.goto (-77), 3) := lw_dr lw_d_cX12_decode_0 30 rfl
theorem dX12_decode_28 : decode cX12_decode 28 = .ok (.aload_n 0, 1) := lw_dr lw_d_cX12_decode_0 31 rfl
theorem dX12_decode_29 : decode cX12_decode 29 = .ok (.getfield 103, 3) := lw_dr lw_d_cX12_decode_0 32 rfl
theorem dX12_decode_32 : decode cX12_decode 32 = .ok (.iload 5, 2) := lw_dr lw_d_cX12_decode_0 33 rfl
theorem dX12_decode_34 : decode cX12_decode 34 = .ok (.aload_n 0, 1) := lw_dr lw_d_cX12_decode_0 34 rfl
theorem dX12_decode_35 : decode cX12_decode 35 = .ok (.getfield 72, 3) := lw_dr lw_d_cX12_decode_0 35 rfl
theorem dX12_decode_38 : decode cX12_decode 38 = .ok (.iconst 5, 1) := lw_dr lw_d_cX12_decode_0 36 rfl
theorem dX12_decode_39 : decode cX12_decode 39 = .ok (.iload 4, 2) := lw_dr lw_d_cX12_decode_0 37 rfl
theorem dX12_decode_41 : decode cX12_decode 41 = .ok (.imul, 1) := lw_dr lw_d_cX12_decode_0 38 rfl
theorem dX12_decode_42 : decode cX12_decode 42 = .ok (.iload 5, 2) := lw_dr lw_d_cX12_decode_0 39 rfl
theorem lw_d_cX12_decode_44 : lw_dl cX12_decode [(44, .iadd, 1), (45, .iaload, 1), (46, .iastore, 1), (47, .iinc 5 1, 3), (50, .goto (-31), 3), (65, .lload 5, 2), (67, .lload_n 2, 1), (68, .lcmp, 1), (69, .ifCond .lt 6, 3), (72, .goto 9, 3)] = true := by decide +kernel
theorem dX12_decode_44 : decode cX12_decode 44 = .ok (.iadd, 1) := lw_dr lw_d_cX12_decode_44 0 rfl
theorem dX12_decode_45 : decode cX12_decode 45 = .ok (.iaload, 1) := lw_dr lw_d_cX12_decode_44 1 rfl
theorem dX12_decode_46 : decode cX12_decode 46 = .ok (.iastore, 1) := lw_dr lw_d_cX12_decode_44 2 rfl
theorem dX12_decode_47 : decode cX12_decode 47 = .ok (.iinc 5 1, 3) := lw_dr lw_d_cX12_decode_44 3 rfl
theorem dX12_decode_50 : decode cX12_decode 50 = .ok (.goto (-31), 3) := lw_dr lw_d_cX12_decode_44 4 rfl
theorem dX12_decode_65 : decode cX12_decode 65 = .ok (.lload 5, 2) := lw_dr lw_d_cX12_decode_44 5 rfl
theorem dX12_decode_67 : decode cX12_decode 67 = .ok (.lload_n 2, 1) := lw_dr lw_d_cX12_decode_44 6 rfl
theorem dX12_decode_68 : decode cX12_decode 68 = .ok (.lcmp, 1) := lw_dr lw_d_cX12_decode_44 7 rfl
theorem dX12_decode_69 : decode cX12_decode 69 = .ok (.ifCond .lt 6, 3) := lw_dr lw_d_cX12_decode_44 8 rfl
theorem dX12_decode_72 : decode cX12_decode 72 = .ok (.goto 9, 3) := lw_dr lw_d_cX12_decode_44 9 rfl
theorem lw_d_cX12_ahead_0 : lw_dl cX12_ahead [(0, .aload_n 0, 1), (1, .iconst 0, 1), (2, .putfield 252, 3), (5, .aload_n 0, 1), (6, .invokevirtual 377, 3), (9, .ifCond .ne 7, 3), (16, .aload_n 0, 1), (17, .invokevirtual 477, 3), (20, .lstore_n 1, 1), (21, .lload_n 1, 1), (22, .ldc2_w 365, 3), (25, .aload_n 0, 1), (26, .getfield 63, 3), (29, .i2l, 1), (30, .lmul, 1), (31, .lcmp, 1), (32, .ifCond .le 7, 3), (39, .aload_n 0, 1), (40, .iconst 1, 1), (41, .putfield 252, 3), (44, .lload_n 1, 1), (45, .lreturn, 1), (35, .ldc2_w 384, 3), (38, .lreturn, 1), (12, .ldc2_w 384, 3), (15, .lreturn, 1)] = true := by decide +kernel
theorem dX12_ahead_0 : decode cX12_ahead 0 = .ok (.aload_n 0, 1) := lw_dr lw_d_cX12_ahead_0 0 rfl
theorem dX12_ahead_1 : decode cX12_ahead 1 = .ok (.iconst 0, 1) := lw_dr lw_d_cX12_ahead_0 1 rfl
theorem dX12_ahead_2 : decode cX12_ahead 2 = .ok (.putfield 252, 3) := lw_dr lw_d_cX12_ahead_0 2 rfl
theorem dX12_ahead_5 : decode cX12_ahead 5 = .ok (.aload_n 0, 1) := lw_dr lw_d_cX12_ahead_0 3 rfl
theorem dX12_ahead_6 : decode cX12_ahead 6 = .ok (.invokevirtual 377, 3) := lw_dr lw_d_cX12_ahead_0 4 rfl
theorem dX12_ahead_9 : decode cX12_ahead 9 = .ok (.ifCond .ne 7, 3) := lw_dr lw_d_cX12_ahead_0 5 rfl
theorem dX12_ahead_16 : decode cX12_ahead 16 = .ok (.aload_n 0, 1) := lw_dr lw_d_cX12_ahead_0 6 rfl
theorem dX12_ahead_17 : decode cX12_ahead 17 = .ok (.invokevirtual 477, 3) := lw_dr lw_d_cX12_ahead_0 7 rfl
theorem dX12_ahead_20 : decode cX12_ahead 20 = .ok (.lstore_n 1, 1) := lw_dr lw_d_cX12_ahead_0 8 rfl
theorem dX12_ahead_21 : decode cX12_ahead 21 = .ok (.lload_n 1, 1) := lw_dr lw_d_cX12_ahead_0 9 rfl
theorem dX12_ahead_22 : decode cX12_ahead 22 = .ok (.ldc2_w 365, 3) := lw_dr lw_d_cX12_ahead_0 10 rfl
theorem dX12_ahead_25 : decode cX12_ahead 25 = .ok (.aload_n 0, 1) := lw_dr lw_d_cX12_ahead_0 11 rfl
theorem dX12_ahead_26 : decode cX12_ahead 26 = .ok (.getfield 63, 3) := lw_dr lw_d_cX12_ahead_0 12 rfl
theorem dX12_ahead_29 : decode cX12_ahead 29 = .ok (.i2l, 1) := lw_dr lw_d_cX12_ahead_0 13 rfl
theorem dX12_ahead_30 : decode cX12_ahead 30 = .ok (.lmul, 1) := lw_dr lw_d_cX12_ahead_0 14 rfl
theorem dX12_ahead_31 : decode cX12_ahead 31 = .ok (.lcmp, 1) := lw_dr lw_d_cX12_ahead_0 15 rfl
theorem dX12_ahead_32 : decode cX12_ahead 32 = .ok (.ifCond .le 7, 3) := lw_dr lw_d_cX12_ahead_0 16 rfl
theorem dX12_ahead_39 : decode cX12_ahead 39 = .ok (.aload_n 0, 1) := lw_dr lw_d_cX12_ahead_0 17 rfl
theorem dX12_ahead_40 : decode cX12_ahead 40 = .ok (.iconst 1, 1) := lw_dr lw_d_cX12_ahead_0 18 rfl
theorem dX12_ahead_41 : decode cX12_ahead 41 = .ok (.putfield 252, 3) := lw_dr lw_d_cX12_ahead_0 19 rfl
theorem dX12_ahead_44 : decode cX12_ahead 44 = .ok (.lload_n 1, 1) := lw_dr lw_d_cX12_ahead_0 20 rfl
theorem dX12_ahead_45 : decode cX12_ahead 45 = .ok (.lreturn, 1) := lw_dr lw_d_cX12_ahead_0 21 rfl
theorem dX12_ahead_35 : decode cX12_ahead 35 = .ok (.ldc2_w 384, 3) := lw_dr lw_d_cX12_ahead_0 22 rfl
theorem dX12_ahead_38 : decode cX12_ahead 38 = .ok (.lreturn, 1) := lw_dr lw_d_cX12_ahead_0 23 rfl
theorem dX12_ahead_12 : decode cX12_ahead 12 = .ok (.ldc2_w 384, 3) := lw_dr lw_d_cX12_ahead_0 24 rfl
theorem dX12_ahead_15 : decode cX12_ahead 15 = .ok (.lreturn, 1) := lw_dr lw_d_cX12_ahead_0 25 rfl
theorem lw_d_cX12_aheadOf_0 : lw_dl cX12_aheadOf [(0, .iconst 0, 1), (1, .istore_n 1, 1), (2, .iload_n 1, 1), (3, .aload_n 0, 1), (4, .getfield 237, 3), (7, .if_icmp .ge 21, 3), (28, .iconst 1, 1), (29, .istore_n 1, 1), (30, .iconst 0, 1), (31, .istore_n 2, 1), (32, .iload_n 2, 1), (33, .aload_n 0, 1), (34, .getfield 237, 3), (37, .if_icmp .ge 13, 3), (50, .ldc2_w 384, 3), (53, .lstore_n 2, 1), (54, .iconst 0, 1), (55, .istore 4, 2), (57, .iload 4, 2), (59, .iload_n 1, 1), (60, .if_icmp .ge 139, 3), (63, .iload 4, 2), (65, .istore 5, 2), (67, .aload_n 0, 1), (68, .getfield 237, 3), (71, .iconst 1, 1), (72, .isub, 1), (73, .istore 6, 2), (75, .iload 6, 2), (77, .ifCond .lt 43, 3), (120, .aload_n 0, 1), (121, .iconst 0, 1), (122, .invokevirtual 380, 3), (125, .lstore 6, 2), (127, .lload_n 2, 1), (128, .lconst 0, 1), (129, .lcmp, 1), (130, .ifCond .lt 13, 3), (143, .lload 6, 2), (145, .lstore_n 2, 1)] = true := by decide +kernel
theorem dX12_aheadOf_0 : decode cX12_aheadOf 0 = .ok (.iconst 0, 1) := lw_dr lw_d_cX12_aheadOf_0 0 rfl
theorem dX12_aheadOf_1 : decode cX12_aheadOf 1 = .ok (.istore_n 1, 1) := lw_dr lw_d_cX12_aheadOf_0 1 rfl
theorem dX12_aheadOf_2 : decode cX12_aheadOf 2 = .ok (.iload_n 1, 1) := lw_dr lw_d_cX12_aheadOf_0 2 rfl
theorem dX12_aheadOf_3 : decode cX12_aheadOf 3 = .ok (.aload_n 0, 1) := lw_dr lw_d_cX12_aheadOf_0 3 rfl
theorem dX12_aheadOf_4 : decode cX12_aheadOf 4 = .ok (.getfield 237, 3) := lw_dr lw_d_cX12_aheadOf_0 4 rfl
theorem dX12_aheadOf_7 : decode cX12_aheadOf 7 = .ok (.if_icmp .ge 21, 3) := lw_dr lw_d_cX12_aheadOf_0 5 rfl
theorem dX12_aheadOf_28 : decode cX12_aheadOf 28 = .ok (.iconst 1, 1) := lw_dr lw_d_cX12_aheadOf_0 6 rfl
theorem dX12_aheadOf_29 : decode cX12_aheadOf 29 = .ok (.istore_n 1, 1) := lw_dr lw_d_cX12_aheadOf_0 7 rfl
theorem dX12_aheadOf_30 : decode cX12_aheadOf 30 = .ok (.iconst 0, 1) := lw_dr lw_d_cX12_aheadOf_0 8 rfl
theorem dX12_aheadOf_31 : decode cX12_aheadOf 31 = .ok (.istore_n 2, 1) := lw_dr lw_d_cX12_aheadOf_0 9 rfl
theorem dX12_aheadOf_32 : decode cX12_aheadOf 32 = .ok (.iload_n 2, 1) := lw_dr lw_d_cX12_aheadOf_0 10 rfl
theorem dX12_aheadOf_33 : decode cX12_aheadOf 33 = .ok (.aload_n 0, 1) := lw_dr lw_d_cX12_aheadOf_0 11 rfl
theorem dX12_aheadOf_34 : decode cX12_aheadOf 34 = .ok (.getfield 237, 3) := lw_dr lw_d_cX12_aheadOf_0 12 rfl
theorem dX12_aheadOf_37 : decode cX12_aheadOf 37 = .ok (.if_icmp .ge 13, 3) := lw_dr lw_d_cX12_aheadOf_0 13 rfl
theorem dX12_aheadOf_50 : decode cX12_aheadOf 50 = .ok (.ldc2_w 384, 3) := lw_dr lw_d_cX12_aheadOf_0 14 rfl
theorem dX12_aheadOf_53 : decode cX12_aheadOf 53 = .ok (.lstore_n 2, 1) := lw_dr lw_d_cX12_aheadOf_0 15 rfl
theorem dX12_aheadOf_54 : decode cX12_aheadOf 54 = .ok (.iconst 0, 1) := lw_dr lw_d_cX12_aheadOf_0 16 rfl
theorem dX12_aheadOf_55 : decode cX12_aheadOf 55 = .ok (.istore 4, 2) := lw_dr lw_d_cX12_aheadOf_0 17 rfl
theorem dX12_aheadOf_57 : decode cX12_aheadOf 57 = .ok (.iload 4, 2) := lw_dr lw_d_cX12_aheadOf_0 18 rfl
theorem dX12_aheadOf_59 : decode cX12_aheadOf 59 = .ok (.iload_n 1, 1) := lw_dr lw_d_cX12_aheadOf_0 19 rfl
theorem dX12_aheadOf_60 : decode cX12_aheadOf 60 = .ok (.if_icmp .ge 139, 3) := lw_dr lw_d_cX12_aheadOf_0 20 rfl
theorem dX12_aheadOf_63 : decode cX12_aheadOf 63 = .ok (.iload 4, 2) := lw_dr lw_d_cX12_aheadOf_0 21 rfl
theorem dX12_aheadOf_65 : decode cX12_aheadOf 65 = .ok (.istore 5, 2) := lw_dr lw_d_cX12_aheadOf_0 22 rfl
theorem dX12_aheadOf_67 : decode cX12_aheadOf 67 = .ok (.aload_n 0, 1) := lw_dr lw_d_cX12_aheadOf_0 23 rfl
theorem dX12_aheadOf_68 : decode cX12_aheadOf 68 = .ok (.getfield 237, 3) := lw_dr lw_d_cX12_aheadOf_0 24 rfl
theorem dX12_aheadOf_71 : decode cX12_aheadOf 71 = .ok (.iconst 1, 1) := lw_dr lw_d_cX12_aheadOf_0 25 rfl
theorem dX12_aheadOf_72 : decode cX12_aheadOf 72 = .ok (.isub, 1) := lw_dr lw_d_cX12_aheadOf_0 26 rfl
theorem dX12_aheadOf_73 : decode cX12_aheadOf 73 = .ok (.istore 6, 2) := lw_dr lw_d_cX12_aheadOf_0 27 rfl
theorem dX12_aheadOf_75 : decode cX12_aheadOf 75 = .ok (.iload 6, 2) := lw_dr lw_d_cX12_aheadOf_0 28 rfl
theorem dX12_aheadOf_77 : decode cX12_aheadOf 77 = .ok (.ifCond .lt 43, 3) := lw_dr lw_d_cX12_aheadOf_0 29 rfl
theorem dX12_aheadOf_120 : decode cX12_aheadOf 120 = .ok (.aload_n 0, 1) := lw_dr lw_d_cX12_aheadOf_0 30 rfl
theorem dX12_aheadOf_121 : decode cX12_aheadOf 121 = .ok (.iconst 0, 1) := lw_dr lw_d_cX12_aheadOf_0 31 rfl
theorem dX12_aheadOf_122 : decode cX12_aheadOf 122 = .ok (.invokevirtual 380, 3) := lw_dr lw_d_cX12_aheadOf_0 32 rfl
theorem dX12_aheadOf_125 : decode cX12_aheadOf 125 = .ok (.lstore 6, 2) := lw_dr lw_d_cX12_aheadOf_0 33 rfl
theorem dX12_aheadOf_127 : decode cX12_aheadOf 127 = .ok (.lload_n 2, 1) := lw_dr lw_d_cX12_aheadOf_0 34 rfl
theorem dX12_aheadOf_128 : decode cX12_aheadOf 128 = .ok (.lconst 0, 1) := lw_dr lw_d_cX12_aheadOf_0 35 rfl
theorem dX12_aheadOf_129 : decode cX12_aheadOf 129 = .ok (.lcmp, 1) := lw_dr lw_d_cX12_aheadOf_0 36 rfl
theorem dX12_aheadOf_130 : decode cX12_aheadOf 130 = .ok (.ifCond .lt 13, 3) := lw_dr lw_d_cX12_aheadOf_0 37 rfl
theorem dX12_aheadOf_143 : decode cX12_aheadOf 143 = .ok (.lload 6, 2) := lw_dr lw_d_cX12_aheadOf_0 38 rfl
theorem dX12_aheadOf_145 : decode cX12_aheadOf 145 = .ok (.lstore_n 2, 1) := lw_dr lw_d_cX12_aheadOf_0 39 rfl
theorem lw_d_cX12_aheadOf_146 : lw_dl cX12_aheadOf [(146, .iconst 0, 1), (147, .istore 8, 2), (149, .iload 8, 2), (151, .aload_n 0, 1), (152, .getfield 237, 3), (155, .if_icmp .ge 38, 3), (193, .iinc 4 1, 3), (196, .goto (-139), 3), (199, .lload_n 2, 1), (200, .lreturn, 1), (133, .lload 6, 2), (135, .lload_n 2, 1), (136, .lcmp, 1), (137, .ifCond .lt 6, 3), (140, .goto 53, 3), (10, .aload_n 0, 1), (11, .getfield 139, 3), (14, .iload_n 1, 1), (15, .aload_n 0, 1), (16, .getfield 103, 3), (19, .iload_n 1, 1), (20, .iaload, 1), (21, .iastore, 1), (22, .iinc 1 1, 3), (25, .goto (-23), 3), (40, .iload_n 1, 1), (41, .iconst 3, 1), (42, .imul, 1), (43, .istore_n 1, 1), (44, .iinc 2 1, 3), (47, .goto (-15), 3), (158, .aload_n 0, 1), (159, .getfield 136, 3), (162, .iload 8, 2), (164, .aload_n 0, 1), (165, .getfield 103, 3), (168, .iload 8, 2), (170, .iaload, 1), (171, .aload_n 0, 1), (172, .getfield 139, 3)] = true := by decide +kernel
theorem dX12_aheadOf_146 : decode cX12_aheadOf 146 = .ok (.iconst 0, 1) := lw_dr lw_d_cX12_aheadOf_146 0 rfl
theorem dX12_aheadOf_147 : decode cX12_aheadOf 147 = .ok (.istore 8, 2) := lw_dr lw_d_cX12_aheadOf_146 1 rfl
theorem dX12_aheadOf_149 : decode cX12_aheadOf 149 = .ok (.iload 8, 2) := lw_dr lw_d_cX12_aheadOf_146 2 rfl
theorem dX12_aheadOf_151 : decode cX12_aheadOf 151 = .ok (.aload_n 0, 1) := lw_dr lw_d_cX12_aheadOf_146 3 rfl
theorem dX12_aheadOf_152 : decode cX12_aheadOf 152 = .ok (.getfield 237, 3) := lw_dr lw_d_cX12_aheadOf_146 4 rfl
theorem dX12_aheadOf_155 : decode cX12_aheadOf 155 = .ok (.if_icmp .ge 38, 3) := lw_dr lw_d_cX12_aheadOf_146 5 rfl
theorem dX12_aheadOf_193 : decode cX12_aheadOf 193 = .ok (.iinc 4 1, 3) := lw_dr lw_d_cX12_aheadOf_146 6 rfl
theorem dX12_aheadOf_196 : decode cX12_aheadOf 196 = .ok (.goto (-139), 3) := lw_dr lw_d_cX12_aheadOf_146 7 rfl
theorem dX12_aheadOf_199 : decode cX12_aheadOf 199 = .ok (.lload_n 2, 1) := lw_dr lw_d_cX12_aheadOf_146 8 rfl
theorem dX12_aheadOf_200 : decode cX12_aheadOf 200 = .ok (.lreturn, 1) := lw_dr lw_d_cX12_aheadOf_146 9 rfl
theorem dX12_aheadOf_133 : decode cX12_aheadOf 133 = .ok (.lload 6, 2) := lw_dr lw_d_cX12_aheadOf_146 10 rfl
theorem dX12_aheadOf_135 : decode cX12_aheadOf 135 = .ok (.lload_n 2, 1) := lw_dr lw_d_cX12_aheadOf_146 11 rfl
theorem dX12_aheadOf_136 : decode cX12_aheadOf 136 = .ok (.lcmp, 1) := lw_dr lw_d_cX12_aheadOf_146 12 rfl
theorem dX12_aheadOf_137 : decode cX12_aheadOf 137 = .ok (.ifCond .lt 6, 3) := lw_dr lw_d_cX12_aheadOf_146 13 rfl
theorem dX12_aheadOf_140 : decode cX12_aheadOf 140 = .ok (.goto 53, 3) := lw_dr lw_d_cX12_aheadOf_146 14 rfl
theorem dX12_aheadOf_10 : decode cX12_aheadOf 10 = .ok (.aload_n 0, 1) := lw_dr lw_d_cX12_aheadOf_146 15 rfl
theorem dX12_aheadOf_11 : decode cX12_aheadOf 11 = .ok (.getfield 139, 3) := lw_dr lw_d_cX12_aheadOf_146 16 rfl
theorem dX12_aheadOf_14 : decode cX12_aheadOf 14 = .ok (.iload_n 1, 1) := lw_dr lw_d_cX12_aheadOf_146 17 rfl
theorem dX12_aheadOf_15 : decode cX12_aheadOf 15 = .ok (.aload_n 0, 1) := lw_dr lw_d_cX12_aheadOf_146 18 rfl
theorem dX12_aheadOf_16 : decode cX12_aheadOf 16 = .ok (.getfield 103, 3) := lw_dr lw_d_cX12_aheadOf_146 19 rfl
theorem dX12_aheadOf_19 : decode cX12_aheadOf 19 = .ok (.iload_n 1, 1) := lw_dr lw_d_cX12_aheadOf_146 20 rfl
theorem dX12_aheadOf_20 : decode cX12_aheadOf 20 = .ok (.iaload, 1) := lw_dr lw_d_cX12_aheadOf_146 21 rfl
theorem dX12_aheadOf_21 : decode cX12_aheadOf 21 = .ok (.iastore, 1) := lw_dr lw_d_cX12_aheadOf_146 22 rfl
theorem dX12_aheadOf_22 : decode cX12_aheadOf 22 = .ok (.iinc 1 1, 3) := lw_dr lw_d_cX12_aheadOf_146 23 rfl
theorem dX12_aheadOf_25 : decode cX12_aheadOf 25 = .ok (.goto (-23), 3) := lw_dr lw_d_cX12_aheadOf_146 24 rfl
theorem dX12_aheadOf_40 : decode cX12_aheadOf 40 = .ok (.iload_n 1, 1) := lw_dr lw_d_cX12_aheadOf_146 25 rfl
theorem dX12_aheadOf_41 : decode cX12_aheadOf 41 = .ok (.iconst 3, 1) := lw_dr lw_d_cX12_aheadOf_146 26 rfl
theorem dX12_aheadOf_42 : decode cX12_aheadOf 42 = .ok (.imul, 1) := lw_dr lw_d_cX12_aheadOf_146 27 rfl
theorem dX12_aheadOf_43 : decode cX12_aheadOf 43 = .ok (.istore_n 1, 1) := lw_dr lw_d_cX12_aheadOf_146 28 rfl
theorem dX12_aheadOf_44 : decode cX12_aheadOf 44 = .ok (.iinc 2 1, 3) := lw_dr lw_d_cX12_aheadOf_146 29 rfl
theorem dX12_aheadOf_47 : decode cX12_aheadOf 47 = .ok (.goto (-15), 3) := lw_dr lw_d_cX12_aheadOf_146 30 rfl
theorem dX12_aheadOf_158 : decode cX12_aheadOf 158 = .ok (.aload_n 0, 1) := lw_dr lw_d_cX12_aheadOf_146 31 rfl
theorem dX12_aheadOf_159 : decode cX12_aheadOf 159 = .ok (.getfield 136, 3) := lw_dr lw_d_cX12_aheadOf_146 32 rfl
theorem dX12_aheadOf_162 : decode cX12_aheadOf 162 = .ok (.iload 8, 2) := lw_dr lw_d_cX12_aheadOf_146 33 rfl
theorem dX12_aheadOf_164 : decode cX12_aheadOf 164 = .ok (.aload_n 0, 1) := lw_dr lw_d_cX12_aheadOf_146 34 rfl
theorem dX12_aheadOf_165 : decode cX12_aheadOf 165 = .ok (.getfield 103, 3) := lw_dr lw_d_cX12_aheadOf_146 35 rfl
theorem dX12_aheadOf_168 : decode cX12_aheadOf 168 = .ok (.iload 8, 2) := lw_dr lw_d_cX12_aheadOf_146 36 rfl
theorem dX12_aheadOf_170 : decode cX12_aheadOf 170 = .ok (.iaload, 1) := lw_dr lw_d_cX12_aheadOf_146 37 rfl
theorem dX12_aheadOf_171 : decode cX12_aheadOf 171 = .ok (.aload_n 0, 1) := lw_dr lw_d_cX12_aheadOf_146 38 rfl
theorem dX12_aheadOf_172 : decode cX12_aheadOf 172 = .ok (.getfield 139, 3) := lw_dr lw_d_cX12_aheadOf_146 39 rfl
theorem lw_d_cX12_aheadOf_175 : lw_dl cX12_aheadOf [(175, .iload 8, 2), (177, .iaload, 1), (178, .isub, 1), (179, .iconst 2, 1), (180, .aload_n 0, 1), (181, .getfield 234, 3), (184, .imul, 1), (185, .idiv, 1), (186, .iastore, 1), (187, .iinc 8 1, 3), (190, .goto (-41), 3), (80, .aload_n 0, 1), (81, .getfield 103, 3), (84, .iload 6, 2), (86, .aload_n 0, 1), (87, .getfield 139, 3), (90, .iload 6, 2), (92, .iaload, 1), (93, .iconst 2, 1), (94, .aload_n 0, 1), (95, .getfield 234, 3), (98, .imul, 1), (99, .iload 5, 2), (101, .iconst 3, 1), (102, .irem, 1), (103, .iconst 1, 1), (104, .isub, 1), (105, .imul, 1), (106, .iadd, 1), (107, .iastore, 1), (108, .iload 5, 2), (110, .iconst 3, 1), (111, .idiv, 1), (112, .istore 5, 2), (114, .iinc 6 (-1), 3), (117, .goto (-42), 3)] = true := by decide +kernel
theorem dX12_aheadOf_175 : decode cX12_aheadOf 175 = .ok (.iload 8, 2) := lw_dr lw_d_cX12_aheadOf_175 0 rfl
theorem dX12_aheadOf_177 : decode cX12_aheadOf 177 = .ok (.iaload, 1) := lw_dr lw_d_cX12_aheadOf_175 1 rfl
theorem dX12_aheadOf_178 : decode cX12_aheadOf 178 = .ok (.isub, 1) := lw_dr lw_d_cX12_aheadOf_175 2 rfl
theorem dX12_aheadOf_179 : decode cX12_aheadOf 179 = .ok (.iconst 2, 1) := lw_dr lw_d_cX12_aheadOf_175 3 rfl
theorem dX12_aheadOf_180 : decode cX12_aheadOf 180 = .ok (.aload_n 0, 1) := lw_dr lw_d_cX12_aheadOf_175 4 rfl
theorem dX12_aheadOf_181 : decode cX12_aheadOf 181 = .ok (.getfield 234, 3) := lw_dr lw_d_cX12_aheadOf_175 5 rfl
theorem dX12_aheadOf_184 : decode cX12_aheadOf 184 = .ok (.imul, 1) := lw_dr lw_d_cX12_aheadOf_175 6 rfl
theorem dX12_aheadOf_185 : decode cX12_aheadOf 185 = .ok (.idiv, 1) := lw_dr lw_d_cX12_aheadOf_175 7 rfl
theorem dX12_aheadOf_186 : decode cX12_aheadOf 186 = .ok (.iastore, 1) := lw_dr lw_d_cX12_aheadOf_175 8 rfl
theorem dX12_aheadOf_187 : decode cX12_aheadOf 187 = .ok (.iinc 8 1, 3) := lw_dr lw_d_cX12_aheadOf_175 9 rfl
theorem dX12_aheadOf_190 : decode cX12_aheadOf 190 = .ok (.goto (-41), 3) := lw_dr lw_d_cX12_aheadOf_175 10 rfl
theorem dX12_aheadOf_80 : decode cX12_aheadOf 80 = .ok (.aload_n 0, 1) := lw_dr lw_d_cX12_aheadOf_175 11 rfl
theorem dX12_aheadOf_81 : decode cX12_aheadOf 81 = .ok (.getfield 103, 3) := lw_dr lw_d_cX12_aheadOf_175 12 rfl
theorem dX12_aheadOf_84 : decode cX12_aheadOf 84 = .ok (.iload 6, 2) := lw_dr lw_d_cX12_aheadOf_175 13 rfl
theorem dX12_aheadOf_86 : decode cX12_aheadOf 86 = .ok (.aload_n 0, 1) := lw_dr lw_d_cX12_aheadOf_175 14 rfl
theorem dX12_aheadOf_87 : decode cX12_aheadOf 87 = .ok (.getfield 139, 3) := lw_dr lw_d_cX12_aheadOf_175 15 rfl
theorem dX12_aheadOf_90 : decode cX12_aheadOf 90 = .ok (.iload 6, 2) := lw_dr lw_d_cX12_aheadOf_175 16 rfl
theorem dX12_aheadOf_92 : decode cX12_aheadOf 92 = .ok (.iaload, 1) := lw_dr lw_d_cX12_aheadOf_175 17 rfl
theorem dX12_aheadOf_93 : decode cX12_aheadOf 93 = .ok (.iconst 2, 1) := lw_dr lw_d_cX12_aheadOf_175 18 rfl
theorem dX12_aheadOf_94 : decode cX12_aheadOf 94 = .ok (.aload_n 0, 1) := lw_dr lw_d_cX12_aheadOf_175 19 rfl
theorem dX12_aheadOf_95 : decode cX12_aheadOf 95 = .ok (.getfield 234, 3) := lw_dr lw_d_cX12_aheadOf_175 20 rfl
theorem dX12_aheadOf_98 : decode cX12_aheadOf 98 = .ok (.imul, 1) := lw_dr lw_d_cX12_aheadOf_175 21 rfl
theorem dX12_aheadOf_99 : decode cX12_aheadOf 99 = .ok (.iload 5, 2) := lw_dr lw_d_cX12_aheadOf_175 22 rfl
theorem dX12_aheadOf_101 : decode cX12_aheadOf 101 = .ok (.iconst 3, 1) := lw_dr lw_d_cX12_aheadOf_175 23 rfl
theorem dX12_aheadOf_102 : decode cX12_aheadOf 102 = .ok (.irem, 1) := lw_dr lw_d_cX12_aheadOf_175 24 rfl
theorem dX12_aheadOf_103 : decode cX12_aheadOf 103 = .ok (.iconst 1, 1) := lw_dr lw_d_cX12_aheadOf_175 25 rfl
theorem dX12_aheadOf_104 : decode cX12_aheadOf 104 = .ok (.isub, 1) := lw_dr lw_d_cX12_aheadOf_175 26 rfl
theorem dX12_aheadOf_105 : decode cX12_aheadOf 105 = .ok (.imul, 1) := lw_dr lw_d_cX12_aheadOf_175 27 rfl
theorem dX12_aheadOf_106 : decode cX12_aheadOf 106 = .ok (.iadd, 1) := lw_dr lw_d_cX12_aheadOf_175 28 rfl
theorem dX12_aheadOf_107 : decode cX12_aheadOf 107 = .ok (.iastore, 1) := lw_dr lw_d_cX12_aheadOf_175 29 rfl
theorem dX12_aheadOf_108 : decode cX12_aheadOf 108 = .ok (.iload 5, 2) := lw_dr lw_d_cX12_aheadOf_175 30 rfl
theorem dX12_aheadOf_110 : decode cX12_aheadOf 110 = .ok (.iconst 3, 1) := lw_dr lw_d_cX12_aheadOf_175 31 rfl
theorem dX12_aheadOf_111 : decode cX12_aheadOf 111 = .ok (.idiv, 1) := lw_dr lw_d_cX12_aheadOf_175 32 rfl
theorem dX12_aheadOf_112 : decode cX12_aheadOf 112 = .ok (.istore 5, 2) := lw_dr lw_d_cX12_aheadOf_175 33 rfl
theorem dX12_aheadOf_114 : decode cX12_aheadOf 114 = .ok (.iinc 6 (-1), 3) := lw_dr lw_d_cX12_aheadOf_175 34 rfl
theorem dX12_aheadOf_117 : decode cX12_aheadOf 117 = .ok (.goto (-42), 3) := lw_dr lw_d_cX12_aheadOf_175 35 rfl
theorem lw_d_cX12_span_0 : lw_dl cX12_span [(0, .iconst 0, 1), (1, .istore_n 2, 1), (2, .iload_n 2, 1), (3, .iconst 5, 1), (4, .if_icmp .ge 21, 3), (7, .aload_n 0, 1), (8, .getfield 142, 3), (11, .iload_n 2, 1), (12, .aload_n 0, 1), (13, .getfield 136, 3), (16, .iload_n 2, 1), (17, .iaload, 1), (18, .iastore, 1), (19, .iinc 2 1, 3), (22, .goto (-20), 3), (25, .ldc2_w 384, 3), (28, .lstore_n 2, 1), (29, .iconst 0, 1), (30, .istore 4, 2), (32, .iload 4, 2), (34, .aload_n 0, 1), (35, .invokevirtual 406, 3), (38, .if_icmp .ge 51, 3), (89, .iconst 0, 1), (90, .istore 4, 2), (92, .iload 4, 2), (94, .iconst 5, 1), (95, .if_icmp .ge 23, 3), (98, .aload_n 0, 1), (99, .getfield 136, 3), (102, .iload 4, 2), (104, .aload_n 0, 1), (105, .getfield 142, 3), (108, .iload 4, 2), (110, .iaload, 1), (111, .iastore, 1), (112, .iinc 4 1, 3), (115, .goto (-23), 3), (118, .lload_n 2, 1), (119, .lreturn, 1)] = true := by decide +kernel
theorem dX12_span_0 : decode cX12_span 0 = .ok (.iconst 0, 1) := lw_dr lw_d_cX12_span_0 0 rfl
theorem dX12_span_1 : decode cX12_span 1 = .ok (.istore_n 2, 1) := lw_dr lw_d_cX12_span_0 1 rfl
theorem dX12_span_2 : decode cX12_span 2 = .ok (.iload_n 2, 1) := lw_dr lw_d_cX12_span_0 2 rfl
theorem dX12_span_3 : decode cX12_span 3 = .ok (.iconst 5, 1) := lw_dr lw_d_cX12_span_0 3 rfl
theorem dX12_span_4 : decode cX12_span 4 = .ok (.if_icmp .ge 21, 3) := lw_dr lw_d_cX12_span_0 4 rfl
theorem dX12_span_7 : decode cX12_span 7 = .ok (.aload_n 0, 1) := lw_dr lw_d_cX12_span_0 5 rfl
theorem dX12_span_8 : decode cX12_span 8 = .ok (.getfield 142, 3) := lw_dr lw_d_cX12_span_0 6 rfl
theorem dX12_span_11 : decode cX12_span 11 = .ok (.iload_n 2, 1) := lw_dr lw_d_cX12_span_0 7 rfl
theorem dX12_span_12 : decode cX12_span 12 = .ok (.aload_n 0, 1) := lw_dr lw_d_cX12_span_0 8 rfl
theorem dX12_span_13 : decode cX12_span 13 = .ok (.getfield 136, 3) := lw_dr lw_d_cX12_span_0 9 rfl
theorem dX12_span_16 : decode cX12_span 16 = .ok (.iload_n 2, 1) := lw_dr lw_d_cX12_span_0 10 rfl
theorem dX12_span_17 : decode cX12_span 17 = .ok (.iaload, 1) := lw_dr lw_d_cX12_span_0 11 rfl
theorem dX12_span_18 : decode cX12_span 18 = .ok (.iastore, 1) := lw_dr lw_d_cX12_span_0 12 rfl
theorem dX12_span_19 : decode cX12_span 19 = .ok (.iinc 2 1, 3) := lw_dr lw_d_cX12_span_0 13 rfl
theorem dX12_span_22 : decode cX12_span 22 = .ok (.goto (-20), 3) := lw_dr lw_d_cX12_span_0 14 rfl
theorem dX12_span_25 : decode cX12_span 25 = .ok (.ldc2_w 384, 3) := lw_dr lw_d_cX12_span_0 15 rfl
theorem dX12_span_28 : decode cX12_span 28 = .ok (.lstore_n 2, 1) := lw_dr lw_d_cX12_span_0 16 rfl
theorem dX12_span_29 : decode cX12_span 29 = .ok (.iconst 0, 1) := lw_dr lw_d_cX12_span_0 17 rfl
theorem dX12_span_30 : decode cX12_span 30 = .ok (.istore 4, 2) := lw_dr lw_d_cX12_span_0 18 rfl
theorem dX12_span_32 : decode cX12_span 32 = .ok (.iload 4, 2) := lw_dr lw_d_cX12_span_0 19 rfl
theorem dX12_span_34 : decode cX12_span 34 = .ok (.aload_n 0, 1) := lw_dr lw_d_cX12_span_0 20 rfl
theorem dX12_span_35 : decode cX12_span 35 = .ok (.invokevirtual 406, 3) := lw_dr lw_d_cX12_span_0 21 rfl
theorem dX12_span_38 : decode cX12_span 38 = .ok (.if_icmp .ge 51, 3) := lw_dr lw_d_cX12_span_0 22 rfl
theorem dX12_span_89 : decode cX12_span 89 = .ok (.iconst 0, 1) := lw_dr lw_d_cX12_span_0 23 rfl
theorem dX12_span_90 : decode cX12_span 90 = .ok (.istore 4, 2) := lw_dr lw_d_cX12_span_0 24 rfl
theorem dX12_span_92 : decode cX12_span 92 = .ok (.iload 4, 2) := lw_dr lw_d_cX12_span_0 25 rfl
theorem dX12_span_94 : decode cX12_span 94 = .ok (.iconst 5, 1) := lw_dr lw_d_cX12_span_0 26 rfl
theorem dX12_span_95 : decode cX12_span 95 = .ok (.if_icmp .ge 23, 3) := lw_dr lw_d_cX12_span_0 27 rfl
theorem dX12_span_98 : decode cX12_span 98 = .ok (.aload_n 0, 1) := lw_dr lw_d_cX12_span_0 28 rfl
theorem dX12_span_99 : decode cX12_span 99 = .ok (.getfield 136, 3) := lw_dr lw_d_cX12_span_0 29 rfl
theorem dX12_span_102 : decode cX12_span 102 = .ok (.iload 4, 2) := lw_dr lw_d_cX12_span_0 30 rfl
theorem dX12_span_104 : decode cX12_span 104 = .ok (.aload_n 0, 1) := lw_dr lw_d_cX12_span_0 31 rfl
theorem dX12_span_105 : decode cX12_span 105 = .ok (.getfield 142, 3) := lw_dr lw_d_cX12_span_0 32 rfl
theorem dX12_span_108 : decode cX12_span 108 = .ok (.iload 4, 2) := lw_dr lw_d_cX12_span_0 33 rfl
theorem dX12_span_110 : decode cX12_span 110 = .ok (.iaload, 1) := lw_dr lw_d_cX12_span_0 34 rfl
theorem dX12_span_111 : decode cX12_span 111 = .ok (.iastore, 1) := lw_dr lw_d_cX12_span_0 35 rfl
theorem dX12_span_112 : decode cX12_span 112 = .ok (.iinc 4 1, 3) := lw_dr lw_d_cX12_span_0 36 rfl
theorem dX12_span_115 : decode cX12_span 115 = .ok (.goto (-23), 3) := lw_dr lw_d_cX12_span_0 37 rfl
theorem dX12_span_118 : decode cX12_span 118 = .ok (.lload_n 2, 1) := lw_dr lw_d_cX12_span_0 38 rfl
theorem dX12_span_119 : decode cX12_span 119 = .ok (.lreturn, 1) := lw_dr lw_d_cX12_span_0 39 rfl
theorem lw_d_cX12_span_41 : lw_dl cX12_span [(41, .aload_n 0, 1), (42, .iload 4, 2), (44, .invokevirtual 403, 3), (47, .aload_n 0, 1), (48, .invokevirtual 477, 3), (51, .lstore 5, 2), (53, .lload_n 2, 1), (54, .lconst 0, 1), (55, .lcmp, 1), (56, .ifCond .lt 24, 3), (80, .lload 5, 2), (82, .lstore_n 2, 1), (83, .iinc 4 1, 3), (86, .goto (-54), 3), (59, .iload_n 1, 1), (60, .ifCond .eq 13, 3), (73, .lload 5, 2), (75, .lload_n 2, 1), (76, .lcmp, 1), (77, .ifCond .ge 6, 3), (63, .lload 5, 2), (65, .lload_n 2, 1), (66, .lcmp, 1), (67, .ifCond .le 16, 3), (70, .goto 10, 3)] = true := by decide +kernel
theorem dX12_span_41 : decode cX12_span 41 = .ok (.aload_n 0, 1) := lw_dr lw_d_cX12_span_41 0 rfl
theorem dX12_span_42 : decode cX12_span 42 = .ok (.iload 4, 2) := lw_dr lw_d_cX12_span_41 1 rfl
theorem dX12_span_44 : decode cX12_span 44 = .ok (.invokevirtual 403, 3) := lw_dr lw_d_cX12_span_41 2 rfl
theorem dX12_span_47 : decode cX12_span 47 = .ok (.aload_n 0, 1) := lw_dr lw_d_cX12_span_41 3 rfl
theorem dX12_span_48 : decode cX12_span 48 = .ok (.invokevirtual 477, 3) := lw_dr lw_d_cX12_span_41 4 rfl
theorem dX12_span_51 : decode cX12_span 51 = .ok (.lstore 5, 2) := lw_dr lw_d_cX12_span_41 5 rfl
theorem dX12_span_53 : decode cX12_span 53 = .ok (.lload_n 2, 1) := lw_dr lw_d_cX12_span_41 6 rfl
theorem dX12_span_54 : decode cX12_span 54 = .ok (.lconst 0, 1) := lw_dr lw_d_cX12_span_41 7 rfl
theorem dX12_span_55 : decode cX12_span 55 = .ok (.lcmp, 1) := lw_dr lw_d_cX12_span_41 8 rfl
theorem dX12_span_56 : decode cX12_span 56 = .ok (.ifCond .lt 24, 3) := lw_dr lw_d_cX12_span_41 9 rfl
theorem dX12_span_80 : decode cX12_span 80 = .ok (.lload 5, 2) := lw_dr lw_d_cX12_span_41 10 rfl
theorem dX12_span_82 : decode cX12_span 82 = .ok (.lstore_n 2, 1) := lw_dr lw_d_cX12_span_41 11 rfl
theorem dX12_span_83 : decode cX12_span 83 = .ok (.iinc 4 1, 3) := lw_dr lw_d_cX12_span_41 12 rfl
theorem dX12_span_86 : decode cX12_span 86 = .ok (.goto (-54), 3) := lw_dr lw_d_cX12_span_41 13 rfl
theorem dX12_span_59 : decode cX12_span 59 = .ok (.iload_n 1, 1) := lw_dr lw_d_cX12_span_41 14 rfl
theorem dX12_span_60 : decode cX12_span 60 = .ok (.ifCond .eq 13, 3) := lw_dr lw_d_cX12_span_41 15 rfl
theorem dX12_span_73 : decode cX12_span 73 = .ok (.lload 5, 2) := lw_dr lw_d_cX12_span_41 16 rfl
theorem dX12_span_75 : decode cX12_span 75 = .ok (.lload_n 2, 1) := lw_dr lw_d_cX12_span_41 17 rfl
theorem dX12_span_76 : decode cX12_span 76 = .ok (.lcmp, 1) := lw_dr lw_d_cX12_span_41 18 rfl
theorem dX12_span_77 : decode cX12_span 77 = .ok (.ifCond .ge 6, 3) := lw_dr lw_d_cX12_span_41 19 rfl
theorem dX12_span_63 : decode cX12_span 63 = .ok (.lload 5, 2) := lw_dr lw_d_cX12_span_41 20 rfl
theorem dX12_span_65 : decode cX12_span 65 = .ok (.lload_n 2, 1) := lw_dr lw_d_cX12_span_41 21 rfl
theorem dX12_span_66 : decode cX12_span 66 = .ok (.lcmp, 1) := lw_dr lw_d_cX12_span_41 22 rfl
theorem dX12_span_67 : decode cX12_span 67 = .ok (.ifCond .le 16, 3) := lw_dr lw_d_cX12_span_41 23 rfl
theorem dX12_span_70 : decode cX12_span 70 = .ok (.goto 10, 3) := lw_dr lw_d_cX12_span_41 24 rfl
theorem lw_d_cX12_put_0 : lw_dl cX12_put [(0, .aload_n 0, 1), (1, .iload_n 1, 1), (2, .invokevirtual 361, 3), (5, .ifCond .eq 19, 3), (24, .ldc_w 364, 3), (27, .ireturn, 1), (8, .aload_n 0, 1), (9, .getfield 252, 3), (12, .ifCond .eq 12, 3), (15, .aload_n 0, 1), (16, .getfield 136, 3), (19, .iload_n 1, 1), (20, .iaload, 1), (21, .goto 6, 3)] = true := by decide +kernel
theorem dX12_put_0 : decode cX12_put 0 = .ok (.aload_n 0, 1) := lw_dr lw_d_cX12_put_0 0 rfl
theorem dX12_put_1 : decode cX12_put 1 = .ok (.iload_n 1, 1) := lw_dr lw_d_cX12_put_0 1 rfl
theorem dX12_put_2 : decode cX12_put 2 = .ok (.invokevirtual 361, 3) := lw_dr lw_d_cX12_put_0 2 rfl
theorem dX12_put_5 : decode cX12_put 5 = .ok (.ifCond .eq 19, 3) := lw_dr lw_d_cX12_put_0 3 rfl
theorem dX12_put_24 : decode cX12_put 24 = .ok (.ldc_w 364, 3) := lw_dr lw_d_cX12_put_0 4 rfl
theorem dX12_put_27 : decode cX12_put 27 = .ok (.ireturn, 1) := lw_dr lw_d_cX12_put_0 5 rfl
theorem dX12_put_8 : decode cX12_put 8 = .ok (.aload_n 0, 1) := lw_dr lw_d_cX12_put_0 6 rfl
theorem dX12_put_9 : decode cX12_put 9 = .ok (.getfield 252, 3) := lw_dr lw_d_cX12_put_0 7 rfl
theorem dX12_put_12 : decode cX12_put 12 = .ok (.ifCond .eq 12, 3) := lw_dr lw_d_cX12_put_0 8 rfl
theorem dX12_put_15 : decode cX12_put 15 = .ok (.aload_n 0, 1) := lw_dr lw_d_cX12_put_0 9 rfl
theorem dX12_put_16 : decode cX12_put 16 = .ok (.getfield 136, 3) := lw_dr lw_d_cX12_put_0 10 rfl
theorem dX12_put_19 : decode cX12_put 19 = .ok (.iload_n 1, 1) := lw_dr lw_d_cX12_put_0 11 rfl
theorem dX12_put_20 : decode cX12_put 20 = .ok (.iaload, 1) := lw_dr lw_d_cX12_put_0 12 rfl
theorem dX12_put_21 : decode cX12_put 21 = .ok (.goto 6, 3) := lw_dr lw_d_cX12_put_0 13 rfl
theorem lw_d_cX12_worth_0 : lw_dl cX12_worth [(0, .aload_n 0, 1), (1, .iload_n 1, 1), (2, .invokevirtual 361, 3), (5, .ifCond .eq 11, 3), (16, .ldc_w 364, 3), (19, .ireturn, 1), (8, .aload_n 0, 1), (9, .iload_n 1, 1), (10, .invokevirtual 481, 3)] = true := by decide +kernel
theorem dX12_worth_0 : decode cX12_worth 0 = .ok (.aload_n 0, 1) := lw_dr lw_d_cX12_worth_0 0 rfl
theorem dX12_worth_1 : decode cX12_worth 1 = .ok (.iload_n 1, 1) := lw_dr lw_d_cX12_worth_0 1 rfl
theorem dX12_worth_2 : decode cX12_worth 2 = .ok (.invokevirtual 361, 3) := lw_dr lw_d_cX12_worth_0 2 rfl
theorem dX12_worth_5 : decode cX12_worth 5 = .ok (.ifCond .eq 11, 3) := lw_dr lw_d_cX12_worth_0 3 rfl
theorem dX12_worth_16 : decode cX12_worth 16 = .ok (.ldc_w 364, 3) := lw_dr lw_d_cX12_worth_0 4 rfl
theorem dX12_worth_19 : decode cX12_worth 19 = .ok (.ireturn, 1) := lw_dr lw_d_cX12_worth_0 5 rfl
theorem dX12_worth_8 : decode cX12_worth 8 = .ok (.aload_n 0, 1) := lw_dr lw_d_cX12_worth_0 6 rfl
theorem dX12_worth_9 : decode cX12_worth 9 = .ok (.iload_n 1, 1) := lw_dr lw_d_cX12_worth_0 7 rfl
theorem dX12_worth_10 : decode cX12_worth 10 = .ok (.invokevirtual 481, 3) := lw_dr lw_d_cX12_worth_0 8 rfl
theorem lw_d_cX12_worthOf_0 : lw_dl cX12_worthOf [(0, .iconst 0, 1), (1, .istore_n 2, 1), (2, .iload_n 2, 1), (3, .aload_n 0, 1), (4, .getfield 81, 3), (7, .iconst 0, 1), (8, .iaload, 1), (9, .if_icmp .ge 50, 3), (59, .iconst 0, 1), (60, .ireturn, 1), (12, .aload_n 0, 1), (13, .aload_n 0, 1), (14, .getfield 87, 3), (17, .iload_n 2, 1), (18, .iaload, 1), (19, .aload_n 0, 1), (20, .getfield 90, 3), (23, .iload_n 2, 1), (24, .iaload, 1), (25, .iload_n 1, 1), (26, .invokevirtual 345, 3)] = true := by decide +kernel
theorem dX12_worthOf_0 : decode cX12_worthOf 0 = .ok (.iconst 0, 1) := lw_dr lw_d_cX12_worthOf_0 0 rfl
theorem dX12_worthOf_1 : decode cX12_worthOf 1 = .ok (.istore_n 2, 1) := lw_dr lw_d_cX12_worthOf_0 1 rfl
theorem dX12_worthOf_2 : decode cX12_worthOf 2 = .ok (.iload_n 2, 1) := lw_dr lw_d_cX12_worthOf_0 2 rfl
theorem dX12_worthOf_3 : decode cX12_worthOf 3 = .ok (.aload_n 0, 1) := lw_dr lw_d_cX12_worthOf_0 3 rfl
theorem dX12_worthOf_4 : decode cX12_worthOf 4 = .ok (.getfield 81, 3) := lw_dr lw_d_cX12_worthOf_0 4 rfl
theorem dX12_worthOf_7 : decode cX12_worthOf 7 = .ok (.iconst 0, 1) := lw_dr lw_d_cX12_worthOf_0 5 rfl
theorem dX12_worthOf_8 : decode cX12_worthOf 8 = .ok (.iaload, 1) := lw_dr lw_d_cX12_worthOf_0 6 rfl
theorem dX12_worthOf_9 : decode cX12_worthOf 9 = .ok (.if_icmp .ge 50, 3) := lw_dr lw_d_cX12_worthOf_0 7 rfl
theorem dX12_worthOf_59 : decode cX12_worthOf 59 = .ok (.iconst 0, 1) := lw_dr lw_d_cX12_worthOf_0 8 rfl
theorem dX12_worthOf_60 : decode cX12_worthOf 60 = .ok (.ireturn, 1) := lw_dr lw_d_cX12_worthOf_0 9 rfl
theorem dX12_worthOf_12 : decode cX12_worthOf 12 = .ok (.aload_n 0, 1) := lw_dr lw_d_cX12_worthOf_0 10 rfl
theorem dX12_worthOf_13 : decode cX12_worthOf 13 = .ok (.aload_n 0, 1) := lw_dr lw_d_cX12_worthOf_0 11 rfl
theorem dX12_worthOf_14 : decode cX12_worthOf 14 = .ok (.getfield 87, 3) := lw_dr lw_d_cX12_worthOf_0 12 rfl
theorem dX12_worthOf_17 : decode cX12_worthOf 17 = .ok (.iload_n 2, 1) := lw_dr lw_d_cX12_worthOf_0 13 rfl
theorem dX12_worthOf_18 : decode cX12_worthOf 18 = .ok (.iaload, 1) := lw_dr lw_d_cX12_worthOf_0 14 rfl
theorem dX12_worthOf_19 : decode cX12_worthOf 19 = .ok (.aload_n 0, 1) := lw_dr lw_d_cX12_worthOf_0 15 rfl
theorem dX12_worthOf_20 : decode cX12_worthOf 20 = .ok (.getfield 90, 3) := lw_dr lw_d_cX12_worthOf_0 16 rfl
theorem dX12_worthOf_23 : decode cX12_worthOf 23 = .ok (.iload_n 2, 1) := lw_dr lw_d_cX12_worthOf_0 17 rfl
theorem dX12_worthOf_24 : decode cX12_worthOf 24 = .ok (.iaload, 1) := lw_dr lw_d_cX12_worthOf_0 18 rfl
theorem dX12_worthOf_25 : decode cX12_worthOf 25 = .ok (.iload_n 1, 1) := lw_dr lw_d_cX12_worthOf_0 19 rfl
theorem dX12_worthOf_26 : decode cX12_worthOf 26 = .ok (.invokevirtual 345, 3) := lw_dr lw_d_cX12_worthOf_0 20 rfl
theorem lw_d_cX12_told_0 : lw_dl cX12_told [(0, .aload_n 0, 1), (1, .iconst 0, 1), (2, .putfield 315, 3), (5, .iload_n 1, 1), (6, .istore 4, 2), (8, .iload 4, 2), (10, .iload_n 2, 1), (11, .if_icmp .ge 156, 3), (167, .aload_n 0, 1), (168, .getfield 93, 3), (171, .iconst 0, 1), (172, .laload, 1), (173, .lreturn, 1), (14, .aload_n 0, 1), (15, .getfield 75, 3), (18, .iload 4, 2), (20, .iaload, 1), (21, .istore 5, 2), (23, .iload 5, 2), (25, .sipush 1000, 3), (28, .if_icmp .lt 17, 3), (45, .iload 5, 2), (47, .bipush 17, 2), (49, .if_icmp .ne 11, 3), (60, .iload 5, 2), (62, .bipush 16, 2), (64, .if_icmp .ne 30, 3), (94, .iload 5, 2), (96, .i2l, 1), (97, .ldc2_w 330, 3), (100, .ldc2_w 332, 3), (103, .invokestatic 191, 3), (106, .ifCond .eq 49, 3), (155, .aload_n 0, 1), (156, .iload 5, 2), (158, .invokevirtual 342, 3)] = true := by decide +kernel
theorem dX12_told_0 : decode cX12_told 0 = .ok (.aload_n 0, 1) := lw_dr lw_d_cX12_told_0 0 rfl
theorem dX12_told_1 : decode cX12_told 1 = .ok (.iconst 0, 1) := lw_dr lw_d_cX12_told_0 1 rfl
theorem dX12_told_2 : decode cX12_told 2 = .ok (.putfield 315, 3) := lw_dr lw_d_cX12_told_0 2 rfl
theorem dX12_told_5 : decode cX12_told 5 = .ok (.iload_n 1, 1) := lw_dr lw_d_cX12_told_0 3 rfl
theorem dX12_told_6 : decode cX12_told 6 = .ok (.istore 4, 2) := lw_dr lw_d_cX12_told_0 4 rfl
theorem dX12_told_8 : decode cX12_told 8 = .ok (.iload 4, 2) := lw_dr lw_d_cX12_told_0 5 rfl
theorem dX12_told_10 : decode cX12_told 10 = .ok (.iload_n 2, 1) := lw_dr lw_d_cX12_told_0 6 rfl
theorem dX12_told_11 : decode cX12_told 11 = .ok (.if_icmp .ge 156, 3) := lw_dr lw_d_cX12_told_0 7 rfl
theorem dX12_told_167 : decode cX12_told 167 = .ok (.aload_n 0, 1) := lw_dr lw_d_cX12_told_0 8 rfl
theorem dX12_told_168 : decode cX12_told 168 = .ok (.getfield 93, 3) := lw_dr lw_d_cX12_told_0 9 rfl
theorem dX12_told_171 : decode cX12_told 171 = .ok (.iconst 0, 1) := lw_dr lw_d_cX12_told_0 10 rfl
theorem dX12_told_172 : decode cX12_told 172 = .ok (.laload, 1) := lw_dr lw_d_cX12_told_0 11 rfl
theorem dX12_told_173 : decode cX12_told 173 = .ok (.lreturn, 1) := lw_dr lw_d_cX12_told_0 12 rfl
theorem dX12_told_14 : decode cX12_told 14 = .ok (.aload_n 0, 1) := lw_dr lw_d_cX12_told_0 13 rfl
theorem dX12_told_15 : decode cX12_told 15 = .ok (.getfield 75, 3) := lw_dr lw_d_cX12_told_0 14 rfl
theorem dX12_told_18 : decode cX12_told 18 = .ok (.iload 4, 2) := lw_dr lw_d_cX12_told_0 15 rfl
theorem dX12_told_20 : decode cX12_told 20 = .ok (.iaload, 1) := lw_dr lw_d_cX12_told_0 16 rfl
theorem dX12_told_21 : decode cX12_told 21 = .ok (.istore 5, 2) := lw_dr lw_d_cX12_told_0 17 rfl
theorem dX12_told_23 : decode cX12_told 23 = .ok (.iload 5, 2) := lw_dr lw_d_cX12_told_0 18 rfl
theorem dX12_told_25 : decode cX12_told 25 = .ok (.sipush 1000, 3) := lw_dr lw_d_cX12_told_0 19 rfl
theorem dX12_told_28 : decode cX12_told 28 = .ok (.if_icmp .lt 17, 3) := lw_dr lw_d_cX12_told_0 20 rfl
theorem dX12_told_45 : decode cX12_told 45 = .ok (.iload 5, 2) := lw_dr lw_d_cX12_told_0 21 rfl
theorem dX12_told_47 : decode cX12_told 47 = .ok (.bipush 17, 2) := lw_dr lw_d_cX12_told_0 22 rfl
theorem dX12_told_49 : decode cX12_told 49 = .ok (.if_icmp .ne 11, 3) := lw_dr lw_d_cX12_told_0 23 rfl
theorem dX12_told_60 : decode cX12_told 60 = .ok (.iload 5, 2) := lw_dr lw_d_cX12_told_0 24 rfl
theorem dX12_told_62 : decode cX12_told 62 = .ok (.bipush 16, 2) := lw_dr lw_d_cX12_told_0 25 rfl
theorem dX12_told_64 : decode cX12_told 64 = .ok (.if_icmp .ne 30, 3) := lw_dr lw_d_cX12_told_0 26 rfl
theorem dX12_told_94 : decode cX12_told 94 = .ok (.iload 5, 2) := lw_dr lw_d_cX12_told_0 27 rfl
theorem dX12_told_96 : decode cX12_told 96 = .ok (.i2l, 1) := lw_dr lw_d_cX12_told_0 28 rfl
theorem dX12_told_97 : decode cX12_told 97 = .ok (.ldc2_w 330, 3) := lw_dr lw_d_cX12_told_0 29 rfl
theorem dX12_told_100 : decode cX12_told 100 = .ok (.ldc2_w 332, 3) := lw_dr lw_d_cX12_told_0 30 rfl
theorem dX12_told_103 : decode cX12_told 103 = .ok (.invokestatic 191, 3) := lw_dr lw_d_cX12_told_0 31 rfl
theorem dX12_told_106 : decode cX12_told 106 = .ok (.ifCond .eq 49, 3) := lw_dr lw_d_cX12_told_0 32 rfl
theorem dX12_told_155 : decode cX12_told 155 = .ok (.aload_n 0, 1) := lw_dr lw_d_cX12_told_0 33 rfl
theorem dX12_told_156 : decode cX12_told 156 = .ok (.iload 5, 2) := lw_dr lw_d_cX12_told_0 34 rfl
theorem dX12_told_158 : decode cX12_told 158 = .ok (.invokevirtual 342, 3) := lw_dr lw_d_cX12_told_0 35 rfl
theorem lw_d_cX12_joins_0 : lw_dl cX12_joins [(0, .aload_n 0, 1), (1, .getfield 93, 3), (4, .aload_n 0, 1), (5, .getfield 315, 3), (8, .iconst 1, 1), (9, .isub, 1), (10, .laload, 1), (11, .lstore_n 2, 1), (12, .aload_n 0, 1), (13, .getfield 93, 3), (16, .aload_n 0, 1), (17, .getfield 315, 3), (20, .iconst 2, 1), (21, .isub, 1), (22, .laload, 1), (23, .lstore 4, 2), (25, .aload_n 0, 1), (26, .dup, 1), (27, .getfield 315, 3), (30, .iconst 2, 1), (31, .isub, 1), (32, .putfield 315, 3), (35, .iload_n 1, 1), (36, .tableswitch 235 1 14 #[72, 86, 100, 114, 127, 147, 235, 235, 235, 235, 167, 186, 205, 224], 72), (108, .aload_n 0, 1), (109, .lload 4, 2), (111, .lload_n 2, 1), (112, .ladd, 1), (113, .invokestatic 318, 3)] = true := by decide +kernel
theorem dX12_joins_0 : decode cX12_joins 0 = .ok (.aload_n 0, 1) := lw_dr lw_d_cX12_joins_0 0 rfl
theorem dX12_joins_1 : decode cX12_joins 1 = .ok (.getfield 93, 3) := lw_dr lw_d_cX12_joins_0 1 rfl
theorem dX12_joins_4 : decode cX12_joins 4 = .ok (.aload_n 0, 1) := lw_dr lw_d_cX12_joins_0 2 rfl
theorem dX12_joins_5 : decode cX12_joins 5 = .ok (.getfield 315, 3) := lw_dr lw_d_cX12_joins_0 3 rfl
theorem dX12_joins_8 : decode cX12_joins 8 = .ok (.iconst 1, 1) := lw_dr lw_d_cX12_joins_0 4 rfl
theorem dX12_joins_9 : decode cX12_joins 9 = .ok (.isub, 1) := lw_dr lw_d_cX12_joins_0 5 rfl
theorem dX12_joins_10 : decode cX12_joins 10 = .ok (.laload, 1) := lw_dr lw_d_cX12_joins_0 6 rfl
theorem dX12_joins_11 : decode cX12_joins 11 = .ok (.lstore_n 2, 1) := lw_dr lw_d_cX12_joins_0 7 rfl
theorem dX12_joins_12 : decode cX12_joins 12 = .ok (.aload_n 0, 1) := lw_dr lw_d_cX12_joins_0 8 rfl
theorem dX12_joins_13 : decode cX12_joins 13 = .ok (.getfield 93, 3) := lw_dr lw_d_cX12_joins_0 9 rfl
theorem dX12_joins_16 : decode cX12_joins 16 = .ok (.aload_n 0, 1) := lw_dr lw_d_cX12_joins_0 10 rfl
theorem dX12_joins_17 : decode cX12_joins 17 = .ok (.getfield 315, 3) := lw_dr lw_d_cX12_joins_0 11 rfl
theorem dX12_joins_20 : decode cX12_joins 20 = .ok (.iconst 2, 1) := lw_dr lw_d_cX12_joins_0 12 rfl
theorem dX12_joins_21 : decode cX12_joins 21 = .ok (.isub, 1) := lw_dr lw_d_cX12_joins_0 13 rfl
theorem dX12_joins_22 : decode cX12_joins 22 = .ok (.laload, 1) := lw_dr lw_d_cX12_joins_0 14 rfl
theorem dX12_joins_23 : decode cX12_joins 23 = .ok (.lstore 4, 2) := lw_dr lw_d_cX12_joins_0 15 rfl
theorem dX12_joins_25 : decode cX12_joins 25 = .ok (.aload_n 0, 1) := lw_dr lw_d_cX12_joins_0 16 rfl
theorem dX12_joins_26 : decode cX12_joins 26 = .ok (.dup, 1) := lw_dr lw_d_cX12_joins_0 17 rfl
theorem dX12_joins_27 : decode cX12_joins 27 = .ok (.getfield 315, 3) := lw_dr lw_d_cX12_joins_0 18 rfl
theorem dX12_joins_30 : decode cX12_joins 30 = .ok (.iconst 2, 1) := lw_dr lw_d_cX12_joins_0 19 rfl
theorem dX12_joins_31 : decode cX12_joins 31 = .ok (.isub, 1) := lw_dr lw_d_cX12_joins_0 20 rfl
theorem dX12_joins_32 : decode cX12_joins 32 = .ok (.putfield 315, 3) := lw_dr lw_d_cX12_joins_0 21 rfl
theorem dX12_joins_35 : decode cX12_joins 35 = .ok (.iload_n 1, 1) := lw_dr lw_d_cX12_joins_0 22 rfl
theorem dX12_joins_36 : decode cX12_joins 36 = .ok (.tableswitch 235 1 14 #[72, 86, 100, 114, 127, 147, 235, 235, 235, 235, 167, 186, 205, 224], 72) := lw_dr lw_d_cX12_joins_0 23 rfl
theorem dX12_joins_108 : decode cX12_joins 108 = .ok (.aload_n 0, 1) := lw_dr lw_d_cX12_joins_0 24 rfl
theorem dX12_joins_109 : decode cX12_joins 109 = .ok (.lload 4, 2) := lw_dr lw_d_cX12_joins_0 25 rfl
theorem dX12_joins_111 : decode cX12_joins 111 = .ok (.lload_n 2, 1) := lw_dr lw_d_cX12_joins_0 26 rfl
theorem dX12_joins_112 : decode cX12_joins 112 = .ok (.ladd, 1) := lw_dr lw_d_cX12_joins_0 27 rfl
theorem dX12_joins_113 : decode cX12_joins 113 = .ok (.invokestatic 318, 3) := lw_dr lw_d_cX12_joins_0 28 rfl
theorem lw_d_cX12_clip_0 : lw_dl cX12_clip [(0, .lload_n 0, 1), (1, .ldc2_w 311, 3), (4, .lcmp, 1), (5, .ifCond .le 9, 3), (14, .lload_n 0, 1), (15, .ldc2_w 313, 3), (18, .lcmp, 1), (19, .ifCond .ge 9, 3), (28, .lload_n 0, 1), (29, .lreturn, 1)] = true := by decide +kernel
theorem dX12_clip_0 : decode cX12_clip 0 = .ok (.lload_n 0, 1) := lw_dr lw_d_cX12_clip_0 0 rfl
theorem dX12_clip_1 : decode cX12_clip 1 = .ok (.ldc2_w 311, 3) := lw_dr lw_d_cX12_clip_0 1 rfl
theorem dX12_clip_4 : decode cX12_clip 4 = .ok (.lcmp, 1) := lw_dr lw_d_cX12_clip_0 2 rfl
theorem dX12_clip_5 : decode cX12_clip 5 = .ok (.ifCond .le 9, 3) := lw_dr lw_d_cX12_clip_0 3 rfl
theorem dX12_clip_14 : decode cX12_clip 14 = .ok (.lload_n 0, 1) := lw_dr lw_d_cX12_clip_0 4 rfl
theorem dX12_clip_15 : decode cX12_clip 15 = .ok (.ldc2_w 313, 3) := lw_dr lw_d_cX12_clip_0 5 rfl
theorem dX12_clip_18 : decode cX12_clip 18 = .ok (.lcmp, 1) := lw_dr lw_d_cX12_clip_0 6 rfl
theorem dX12_clip_19 : decode cX12_clip 19 = .ok (.ifCond .ge 9, 3) := lw_dr lw_d_cX12_clip_0 7 rfl
theorem dX12_clip_28 : decode cX12_clip 28 = .ok (.lload_n 0, 1) := lw_dr lw_d_cX12_clip_0 8 rfl
theorem dX12_clip_29 : decode cX12_clip 29 = .ok (.lreturn, 1) := lw_dr lw_d_cX12_clip_0 9 rfl
