theorem lw_d_cX12_leadsAnew_39 : lw_dl cX12_leadsAnew [(39, .iload_n 1, 1), (40, .iconst 5, 1), (41, .irem, 1), (42, .iload_n 1, 1), (43, .iconst 5, 1), (44, .idiv, 1), (45, .if_icmp .ne 7, 3), (48, .lconst 1, 1), (49, .goto 4, 3), (53, .lastore, 1), (54, .iinc 1 1, 3), (57, .goto (-29), 3), (60, .aload_n 0, 1), (61, .iconst 0, 1), (62, .putfield 349, 3), (65, .aload_n 0, 1), (66, .iconst 0, 1), (67, .putfield 352, 3), (70, .aload_n 0, 1), (71, .iconst 0, 1), (72, .putfield 355, 3), (75, .return_, 1), (52, .lconst 0, 1)] = true := by decide +kernel
theorem dX12_leadsAnew_39 : decode cX12_leadsAnew 39 = .ok (.iload_n 1, 1) := lw_dr lw_d_cX12_leadsAnew_39 0 rfl
theorem dX12_leadsAnew_40 : decode cX12_leadsAnew 40 = .ok (.iconst 5, 1) := lw_dr lw_d_cX12_leadsAnew_39 1 rfl
theorem dX12_leadsAnew_41 : decode cX12_leadsAnew 41 = .ok (.irem, 1) := lw_dr lw_d_cX12_leadsAnew_39 2 rfl
theorem dX12_leadsAnew_42 : decode cX12_leadsAnew 42 = .ok (.iload_n 1, 1) := lw_dr lw_d_cX12_leadsAnew_39 3 rfl
theorem dX12_leadsAnew_43 : decode cX12_leadsAnew 43 = .ok (.iconst 5, 1) := lw_dr lw_d_cX12_leadsAnew_39 4 rfl
theorem dX12_leadsAnew_44 : decode cX12_leadsAnew 44 = .ok (.idiv, 1) := lw_dr lw_d_cX12_leadsAnew_39 5 rfl
theorem dX12_leadsAnew_45 : decode cX12_leadsAnew 45 = .ok (.if_icmp .ne 7, 3) := lw_dr lw_d_cX12_leadsAnew_39 6 rfl
theorem dX12_leadsAnew_48 : decode cX12_leadsAnew 48 = .ok (.lconst 1, 1) := lw_dr lw_d_cX12_leadsAnew_39 7 rfl
theorem dX12_leadsAnew_49 : decode cX12_leadsAnew 49 = .ok (.goto 4, 3) := lw_dr lw_d_cX12_leadsAnew_39 8 rfl
theorem dX12_leadsAnew_53 : decode cX12_leadsAnew 53 = .ok (.lastore, 1) := lw_dr lw_d_cX12_leadsAnew_39 9 rfl
theorem dX12_leadsAnew_54 : decode cX12_leadsAnew 54 = .ok (.iinc 1 1, 3) := lw_dr lw_d_cX12_leadsAnew_39 10 rfl
theorem dX12_leadsAnew_57 : decode cX12_leadsAnew 57 = .ok (.goto (-29), 3) := lw_dr lw_d_cX12_leadsAnew_39 11 rfl
theorem dX12_leadsAnew_60 : decode cX12_leadsAnew 60 = .ok (.aload_n 0, 1) := lw_dr lw_d_cX12_leadsAnew_39 12 rfl
theorem dX12_leadsAnew_61 : decode cX12_leadsAnew 61 = .ok (.iconst 0, 1) := lw_dr lw_d_cX12_leadsAnew_39 13 rfl
theorem dX12_leadsAnew_62 : decode cX12_leadsAnew 62 = .ok (.putfield 349, 3) := lw_dr lw_d_cX12_leadsAnew_39 14 rfl
theorem dX12_leadsAnew_65 : decode cX12_leadsAnew 65 = .ok (.aload_n 0, 1) := lw_dr lw_d_cX12_leadsAnew_39 15 rfl
theorem dX12_leadsAnew_66 : decode cX12_leadsAnew 66 = .ok (.iconst 0, 1) := lw_dr lw_d_cX12_leadsAnew_39 16 rfl
theorem dX12_leadsAnew_67 : decode cX12_leadsAnew 67 = .ok (.putfield 352, 3) := lw_dr lw_d_cX12_leadsAnew_39 17 rfl
theorem dX12_leadsAnew_70 : decode cX12_leadsAnew 70 = .ok (.aload_n 0, 1) := lw_dr lw_d_cX12_leadsAnew_39 18 rfl
theorem dX12_leadsAnew_71 : decode cX12_leadsAnew 71 = .ok (.iconst 0, 1) := lw_dr lw_d_cX12_leadsAnew_39 19 rfl
theorem dX12_leadsAnew_72 : decode cX12_leadsAnew 72 = .ok (.putfield 355, 3) := lw_dr lw_d_cX12_leadsAnew_39 20 rfl
theorem dX12_leadsAnew_75 : decode cX12_leadsAnew 75 = .ok (.return_, 1) := lw_dr lw_d_cX12_leadsAnew_39 21 rfl
theorem dX12_leadsAnew_52 : decode cX12_leadsAnew 52 = .ok (.lconst 0, 1) := lw_dr lw_d_cX12_leadsAnew_39 22 rfl
theorem lw_d_cX12_stands_246 : lw_dl cX12_stands [(246, .aload_n 0, 1), (247, .iconst 0, 1), (248, .putfield 252, 3), (251, .return_, 1), (199, .aload_n 0, 1), (200, .getfield 75, 3), (203, .iload_n 1, 1), (204, .aload_n 0, 1), (205, .getfield 75, 3), (208, .sipush 1600, 3), (211, .iload_n 1, 1), (212, .iadd, 1), (213, .iaload, 1), (214, .iastore, 1), (215, .iinc 1 1, 3), (218, .goto (-27), 3)] = true := by decide +kernel
theorem dX12_stands_246 : decode cX12_stands 246 = .ok (.aload_n 0, 1) := lw_dr lw_d_cX12_stands_246 0 rfl
theorem dX12_stands_247 : decode cX12_stands 247 = .ok (.iconst 0, 1) := lw_dr lw_d_cX12_stands_246 1 rfl
theorem dX12_stands_248 : decode cX12_stands 248 = .ok (.putfield 252, 3) := lw_dr lw_d_cX12_stands_246 2 rfl
theorem dX12_stands_251 : decode cX12_stands 251 = .ok (.return_, 1) := lw_dr lw_d_cX12_stands_246 3 rfl
theorem dX12_stands_199 : decode cX12_stands 199 = .ok (.aload_n 0, 1) := lw_dr lw_d_cX12_stands_246 4 rfl
theorem dX12_stands_200 : decode cX12_stands 200 = .ok (.getfield 75, 3) := lw_dr lw_d_cX12_stands_246 5 rfl
theorem dX12_stands_203 : decode cX12_stands 203 = .ok (.iload_n 1, 1) := lw_dr lw_d_cX12_stands_246 6 rfl
theorem dX12_stands_204 : decode cX12_stands 204 = .ok (.aload_n 0, 1) := lw_dr lw_d_cX12_stands_246 7 rfl
theorem dX12_stands_205 : decode cX12_stands 205 = .ok (.getfield 75, 3) := lw_dr lw_d_cX12_stands_246 8 rfl
theorem dX12_stands_208 : decode cX12_stands 208 = .ok (.sipush 1600, 3) := lw_dr lw_d_cX12_stands_246 9 rfl
theorem dX12_stands_211 : decode cX12_stands 211 = .ok (.iload_n 1, 1) := lw_dr lw_d_cX12_stands_246 10 rfl
theorem dX12_stands_212 : decode cX12_stands 212 = .ok (.iadd, 1) := lw_dr lw_d_cX12_stands_246 11 rfl
theorem dX12_stands_213 : decode cX12_stands 213 = .ok (.iaload, 1) := lw_dr lw_d_cX12_stands_246 12 rfl
theorem dX12_stands_214 : decode cX12_stands 214 = .ok (.iastore, 1) := lw_dr lw_d_cX12_stands_246 13 rfl
theorem dX12_stands_215 : decode cX12_stands 215 = .ok (.iinc 1 1, 3) := lw_dr lw_d_cX12_stands_246 14 rfl
theorem dX12_stands_218 : decode cX12_stands 218 = .ok (.goto (-27), 3) := lw_dr lw_d_cX12_stands_246 15 rfl
theorem lw_d_cX12_house_200 : lw_dl cX12_house [(200, .aload_n 0, 1), (201, .getfield 202, 3), (204, .ireturn, 1), (194, .iconst (-1), 1), (195, .ireturn, 1), (156, .aload_n 0, 1), (157, .invokevirtual 163, 3), (160, .iconst (-1), 1), (161, .if_icmp .eq 10, 3), (164, .aload_n 0, 1), (165, .invokevirtual 225, 3)] = true := by decide +kernel
theorem dX12_house_200 : decode cX12_house 200 = .ok (.aload_n 0, 1) := lw_dr lw_d_cX12_house_200 0 rfl
theorem dX12_house_201 : decode cX12_house 201 = .ok (.getfield 202, 3) := lw_dr lw_d_cX12_house_200 1 rfl
theorem dX12_house_204 : decode cX12_house 204 = .ok (.ireturn, 1) := lw_dr lw_d_cX12_house_200 2 rfl
theorem dX12_house_194 : decode cX12_house 194 = .ok (.iconst (-1), 1) := lw_dr lw_d_cX12_house_200 3 rfl
theorem dX12_house_195 : decode cX12_house 195 = .ok (.ireturn, 1) := lw_dr lw_d_cX12_house_200 4 rfl
theorem dX12_house_156 : decode cX12_house 156 = .ok (.aload_n 0, 1) := lw_dr lw_d_cX12_house_200 5 rfl
theorem dX12_house_157 : decode cX12_house 157 = .ok (.invokevirtual 163, 3) := lw_dr lw_d_cX12_house_200 6 rfl
theorem dX12_house_160 : decode cX12_house 160 = .ok (.iconst (-1), 1) := lw_dr lw_d_cX12_house_200 7 rfl
theorem dX12_house_161 : decode cX12_house 161 = .ok (.if_icmp .eq 10, 3) := lw_dr lw_d_cX12_house_200 8 rfl
theorem dX12_house_164 : decode cX12_house 164 = .ok (.aload_n 0, 1) := lw_dr lw_d_cX12_house_200 9 rfl
theorem dX12_house_165 : decode cX12_house 165 = .ok (.invokevirtual 225, 3) := lw_dr lw_d_cX12_house_200 10 rfl
theorem lw_d_cX12_houseTold_0 : lw_dl cX12_houseTold [(0, .aload_n 0, 1), (1, .getfield 157, 3), (4, .istore_n 1, 1), (5, .aload_n 0, 1), (6, .getfield 202, 3), (9, .bipush 60, 2), (11, .if_icmp .ne 10, 3), (21, .aload_n 0, 1), (22, .aload_n 0, 1), (23, .getfield 21, 3), (26, .invokevirtual 178, 3), (29, .ifCond .eq 11, 3), (40, .aload_n 0, 1), (41, .aload_n 0, 1), (42, .getfield 24, 3), (45, .invokevirtual 178, 3), (48, .ifCond .eq 11, 3), (59, .aload_n 0, 1), (60, .aload_n 0, 1), (61, .getfield 30, 3), (64, .invokevirtual 178, 3), (67, .ifCond .eq 20, 3), (87, .aload_n 0, 1), (88, .aload_n 0, 1), (89, .getfield 27, 3), (92, .invokevirtual 212, 3), (95, .aload_n 0, 1), (96, .getfield 151, 3), (99, .ifCond .ne 8, 3), (107, .aload_n 0, 1), (108, .bipush 59, 2), (110, .invokevirtual 219, 3), (113, .aload_n 0, 1), (114, .dup, 1), (115, .getfield 202, 3), (118, .iconst 1, 1), (119, .iadd, 1), (120, .putfield 202, 3), (123, .return_, 1), (102, .aload_n 0, 1)] = true := by decide +kernel
theorem dX12_houseTold_0 : decode cX12_houseTold 0 = .ok (.aload_n 0, 1) := lw_dr lw_d_cX12_houseTold_0 0 rfl
theorem dX12_houseTold_1 : decode cX12_houseTold 1 = .ok (.getfield 157, 3) := lw_dr lw_d_cX12_houseTold_0 1 rfl
theorem dX12_houseTold_4 : decode cX12_houseTold 4 = .ok (.istore_n 1, 1) := lw_dr lw_d_cX12_houseTold_0 2 rfl
theorem dX12_houseTold_5 : decode cX12_houseTold 5 = .ok (.aload_n 0, 1) := lw_dr lw_d_cX12_houseTold_0 3 rfl
theorem dX12_houseTold_6 : decode cX12_houseTold 6 = .ok (.getfield 202, 3) := lw_dr lw_d_cX12_houseTold_0 4 rfl
theorem dX12_houseTold_9 : decode cX12_houseTold 9 = .ok (.bipush 60, 2) := lw_dr lw_d_cX12_houseTold_0 5 rfl
theorem dX12_houseTold_11 : decode cX12_houseTold 11 = .ok (.if_icmp .ne 10, 3) := lw_dr lw_d_cX12_houseTold_0 6 rfl
theorem dX12_houseTold_21 : decode cX12_houseTold 21 = .ok (.aload_n 0, 1) := lw_dr lw_d_cX12_houseTold_0 7 rfl
theorem dX12_houseTold_22 : decode cX12_houseTold 22 = .ok (.aload_n 0, 1) := lw_dr lw_d_cX12_houseTold_0 8 rfl
theorem dX12_houseTold_23 : decode cX12_houseTold 23 = .ok (.getfield 21, 3) := lw_dr lw_d_cX12_houseTold_0 9 rfl
theorem dX12_houseTold_26 : decode cX12_houseTold 26 = .ok (.invokevirtual 178, 3) := lw_dr lw_d_cX12_houseTold_0 10 rfl
theorem dX12_houseTold_29 : decode cX12_houseTold 29 = .ok (.ifCond .eq 11, 3) := lw_dr lw_d_cX12_houseTold_0 11 rfl
theorem dX12_houseTold_40 : decode cX12_houseTold 40 = .ok (.aload_n 0, 1) := lw_dr lw_d_cX12_houseTold_0 12 rfl
theorem dX12_houseTold_41 : decode cX12_houseTold 41 = .ok (.aload_n 0, 1) := lw_dr lw_d_cX12_houseTold_0 13 rfl
theorem dX12_houseTold_42 : decode cX12_houseTold 42 = .ok (.getfield 24, 3) := lw_dr lw_d_cX12_houseTold_0 14 rfl
theorem dX12_houseTold_45 : decode cX12_houseTold 45 = .ok (.invokevirtual 178, 3) := lw_dr lw_d_cX12_houseTold_0 15 rfl
theorem dX12_houseTold_48 : decode cX12_houseTold 48 = .ok (.ifCond .eq 11, 3) := lw_dr lw_d_cX12_houseTold_0 16 rfl
theorem dX12_houseTold_59 : decode cX12_houseTold 59 = .ok (.aload_n 0, 1) := lw_dr lw_d_cX12_houseTold_0 17 rfl
theorem dX12_houseTold_60 : decode cX12_houseTold 60 = .ok (.aload_n 0, 1) := lw_dr lw_d_cX12_houseTold_0 18 rfl
theorem dX12_houseTold_61 : decode cX12_houseTold 61 = .ok (.getfield 30, 3) := lw_dr lw_d_cX12_houseTold_0 19 rfl
theorem dX12_houseTold_64 : decode cX12_houseTold 64 = .ok (.invokevirtual 178, 3) := lw_dr lw_d_cX12_houseTold_0 20 rfl
theorem dX12_houseTold_67 : decode cX12_houseTold 67 = .ok (.ifCond .eq 20, 3) := lw_dr lw_d_cX12_houseTold_0 21 rfl
theorem dX12_houseTold_87 : decode cX12_houseTold 87 = .ok (.aload_n 0, 1) := lw_dr lw_d_cX12_houseTold_0 22 rfl
theorem dX12_houseTold_88 : decode cX12_houseTold 88 = .ok (.aload_n 0, 1) := lw_dr lw_d_cX12_houseTold_0 23 rfl
theorem dX12_houseTold_89 : decode cX12_houseTold 89 = .ok (.getfield 27, 3) := lw_dr lw_d_cX12_houseTold_0 24 rfl
theorem dX12_houseTold_92 : decode cX12_houseTold 92 = .ok (.invokevirtual 212, 3) := lw_dr lw_d_cX12_houseTold_0 25 rfl
theorem dX12_houseTold_95 : decode cX12_houseTold 95 = .ok (.aload_n 0, 1) := lw_dr lw_d_cX12_houseTold_0 26 rfl
theorem dX12_houseTold_96 : decode cX12_houseTold 96 = .ok (.getfield 151, 3) := lw_dr lw_d_cX12_houseTold_0 27 rfl
theorem dX12_houseTold_99 : decode cX12_houseTold 99 = .ok (.ifCond .ne 8, 3) := lw_dr lw_d_cX12_houseTold_0 28 rfl
theorem dX12_houseTold_107 : decode cX12_houseTold 107 = .ok (.aload_n 0, 1) := lw_dr lw_d_cX12_houseTold_0 29 rfl
theorem dX12_houseTold_108 : decode cX12_houseTold 108 = .ok (.bipush 59, 2) := lw_dr lw_d_cX12_houseTold_0 30 rfl
theorem dX12_houseTold_110 : decode cX12_houseTold 110 = .ok (.invokevirtual 219, 3) := lw_dr lw_d_cX12_houseTold_0 31 rfl
theorem dX12_houseTold_113 : decode cX12_houseTold 113 = .ok (.aload_n 0, 1) := lw_dr lw_d_cX12_houseTold_0 32 rfl
theorem dX12_houseTold_114 : decode cX12_houseTold 114 = .ok (.dup, 1) := lw_dr lw_d_cX12_houseTold_0 33 rfl
theorem dX12_houseTold_115 : decode cX12_houseTold 115 = .ok (.getfield 202, 3) := lw_dr lw_d_cX12_houseTold_0 34 rfl
theorem dX12_houseTold_118 : decode cX12_houseTold 118 = .ok (.iconst 1, 1) := lw_dr lw_d_cX12_houseTold_0 35 rfl
theorem dX12_houseTold_119 : decode cX12_houseTold 119 = .ok (.iadd, 1) := lw_dr lw_d_cX12_houseTold_0 36 rfl
theorem dX12_houseTold_120 : decode cX12_houseTold 120 = .ok (.putfield 202, 3) := lw_dr lw_d_cX12_houseTold_0 37 rfl
theorem dX12_houseTold_123 : decode cX12_houseTold 123 = .ok (.return_, 1) := lw_dr lw_d_cX12_houseTold_0 38 rfl
theorem dX12_houseTold_102 : decode cX12_houseTold 102 = .ok (.aload_n 0, 1) := lw_dr lw_d_cX12_houseTold_0 39 rfl
theorem lw_d_cX12_houseTold_103 : lw_dl cX12_houseTold [(103, .iload_n 1, 1), (104, .invokevirtual 216, 3)] = true := by decide +kernel
theorem dX12_houseTold_103 : decode cX12_houseTold 103 = .ok (.iload_n 1, 1) := lw_dr lw_d_cX12_houseTold_103 0 rfl
theorem dX12_houseTold_104 : decode cX12_houseTold 104 = .ok (.invokevirtual 216, 3) := lw_dr lw_d_cX12_houseTold_103 1 rfl
theorem lw_d_cX12_worthTold_0 : lw_dl cX12_worthTold [(0, .aload_n 0, 1), (1, .getfield 151, 3), (4, .ifCond .ne 20, 3), (24, .aload_n 0, 1), (25, .getfield 151, 3), (28, .ifCond .eq 4, 3), (32, .bipush 8, 2), (34, .aload_n 0, 1), (35, .getfield 81, 3), (38, .iconst 1, 1), (39, .iaload, 1), (40, .iadd, 1), (41, .istore_n 2, 1), (42, .aload_n 0, 1), (43, .getfield 84, 3), (46, .iload_n 2, 1), (47, .aload_n 0, 1), (48, .getfield 222, 3), (51, .iastore, 1), (52, .aload_n 0, 1), (53, .iconst 0, 1), (54, .putfield 259, 3), (57, .aload_n 0, 1), (58, .iconst 0, 1), (59, .putfield 256, 3), (62, .aload_n 0, 1), (63, .iconst 0, 1), (64, .putfield 265, 3), (67, .aload_n 0, 1), (68, .invokevirtual 293, 3)] = true := by decide +kernel
theorem dX12_worthTold_0 : decode cX12_worthTold 0 = .ok (.aload_n 0, 1) := lw_dr lw_d_cX12_worthTold_0 0 rfl
theorem dX12_worthTold_1 : decode cX12_worthTold 1 = .ok (.getfield 151, 3) := lw_dr lw_d_cX12_worthTold_0 1 rfl
theorem dX12_worthTold_4 : decode cX12_worthTold 4 = .ok (.ifCond .ne 20, 3) := lw_dr lw_d_cX12_worthTold_0 2 rfl
theorem dX12_worthTold_24 : decode cX12_worthTold 24 = .ok (.aload_n 0, 1) := lw_dr lw_d_cX12_worthTold_0 3 rfl
theorem dX12_worthTold_25 : decode cX12_worthTold 25 = .ok (.getfield 151, 3) := lw_dr lw_d_cX12_worthTold_0 4 rfl
theorem dX12_worthTold_28 : decode cX12_worthTold 28 = .ok (.ifCond .eq 4, 3) := lw_dr lw_d_cX12_worthTold_0 5 rfl
theorem dX12_worthTold_32 : decode cX12_worthTold 32 = .ok (.bipush 8, 2) := lw_dr lw_d_cX12_worthTold_0 6 rfl
theorem dX12_worthTold_34 : decode cX12_worthTold 34 = .ok (.aload_n 0, 1) := lw_dr lw_d_cX12_worthTold_0 7 rfl
theorem dX12_worthTold_35 : decode cX12_worthTold 35 = .ok (.getfield 81, 3) := lw_dr lw_d_cX12_worthTold_0 8 rfl
theorem dX12_worthTold_38 : decode cX12_worthTold 38 = .ok (.iconst 1, 1) := lw_dr lw_d_cX12_worthTold_0 9 rfl
theorem dX12_worthTold_39 : decode cX12_worthTold 39 = .ok (.iaload, 1) := lw_dr lw_d_cX12_worthTold_0 10 rfl
theorem dX12_worthTold_40 : decode cX12_worthTold 40 = .ok (.iadd, 1) := lw_dr lw_d_cX12_worthTold_0 11 rfl
theorem dX12_worthTold_41 : decode cX12_worthTold 41 = .ok (.istore_n 2, 1) := lw_dr lw_d_cX12_worthTold_0 12 rfl
theorem dX12_worthTold_42 : decode cX12_worthTold 42 = .ok (.aload_n 0, 1) := lw_dr lw_d_cX12_worthTold_0 13 rfl
theorem dX12_worthTold_43 : decode cX12_worthTold 43 = .ok (.getfield 84, 3) := lw_dr lw_d_cX12_worthTold_0 14 rfl
theorem dX12_worthTold_46 : decode cX12_worthTold 46 = .ok (.iload_n 2, 1) := lw_dr lw_d_cX12_worthTold_0 15 rfl
theorem dX12_worthTold_47 : decode cX12_worthTold 47 = .ok (.aload_n 0, 1) := lw_dr lw_d_cX12_worthTold_0 16 rfl
theorem dX12_worthTold_48 : decode cX12_worthTold 48 = .ok (.getfield 222, 3) := lw_dr lw_d_cX12_worthTold_0 17 rfl
theorem dX12_worthTold_51 : decode cX12_worthTold 51 = .ok (.iastore, 1) := lw_dr lw_d_cX12_worthTold_0 18 rfl
theorem dX12_worthTold_52 : decode cX12_worthTold 52 = .ok (.aload_n 0, 1) := lw_dr lw_d_cX12_worthTold_0 19 rfl
theorem dX12_worthTold_53 : decode cX12_worthTold 53 = .ok (.iconst 0, 1) := lw_dr lw_d_cX12_worthTold_0 20 rfl
theorem dX12_worthTold_54 : decode cX12_worthTold 54 = .ok (.putfield 259, 3) := lw_dr lw_d_cX12_worthTold_0 21 rfl
theorem dX12_worthTold_57 : decode cX12_worthTold 57 = .ok (.aload_n 0, 1) := lw_dr lw_d_cX12_worthTold_0 22 rfl
theorem dX12_worthTold_58 : decode cX12_worthTold 58 = .ok (.iconst 0, 1) := lw_dr lw_d_cX12_worthTold_0 23 rfl
theorem dX12_worthTold_59 : decode cX12_worthTold 59 = .ok (.putfield 256, 3) := lw_dr lw_d_cX12_worthTold_0 24 rfl
theorem dX12_worthTold_62 : decode cX12_worthTold 62 = .ok (.aload_n 0, 1) := lw_dr lw_d_cX12_worthTold_0 25 rfl
theorem dX12_worthTold_63 : decode cX12_worthTold 63 = .ok (.iconst 0, 1) := lw_dr lw_d_cX12_worthTold_0 26 rfl
theorem dX12_worthTold_64 : decode cX12_worthTold 64 = .ok (.putfield 265, 3) := lw_dr lw_d_cX12_worthTold_0 27 rfl
theorem dX12_worthTold_67 : decode cX12_worthTold 67 = .ok (.aload_n 0, 1) := lw_dr lw_d_cX12_worthTold_0 28 rfl
theorem dX12_worthTold_68 : decode cX12_worthTold 68 = .ok (.invokevirtual 293, 3) := lw_dr lw_d_cX12_worthTold_0 29 rfl
theorem lw_d_cX12_sumsTold_0 : lw_dl cX12_sumsTold [(0, .aload_n 0, 1), (1, .getfield 265, 3), (4, .istore_n 1, 1), (5, .aload_n 0, 1), (6, .aload_n 0, 1), (7, .getfield 259, 3), (10, .putfield 265, 3), (13, .iconst 1, 1), (14, .istore_n 2, 1), (15, .iload_n 2, 1), (16, .ifCond .eq 37, 3), (19, .aload_n 0, 1), (20, .getfield 151, 3), (23, .ifCond .ne 30, 3), (53, .aload_n 0, 1), (54, .getfield 151, 3), (57, .ifCond .ne 21, 3), (78, .aload_n 0, 1), (79, .iload_n 1, 1), (80, .putfield 265, 3), (83, .return_, 1), (60, .aload_n 0, 1), (61, .getfield 259, 3), (64, .aload_n 0, 1), (65, .getfield 265, 3), (68, .if_icmp .le 10, 3), (26, .aload_n 0, 1), (27, .invokevirtual 286, 3)] = true := by decide +kernel
theorem dX12_sumsTold_0 : decode cX12_sumsTold 0 = .ok (.aload_n 0, 1) := lw_dr lw_d_cX12_sumsTold_0 0 rfl
theorem dX12_sumsTold_1 : decode cX12_sumsTold 1 = .ok (.getfield 265, 3) := lw_dr lw_d_cX12_sumsTold_0 1 rfl
theorem dX12_sumsTold_4 : decode cX12_sumsTold 4 = .ok (.istore_n 1, 1) := lw_dr lw_d_cX12_sumsTold_0 2 rfl
theorem dX12_sumsTold_5 : decode cX12_sumsTold 5 = .ok (.aload_n 0, 1) := lw_dr lw_d_cX12_sumsTold_0 3 rfl
theorem dX12_sumsTold_6 : decode cX12_sumsTold 6 = .ok (.aload_n 0, 1) := lw_dr lw_d_cX12_sumsTold_0 4 rfl
theorem dX12_sumsTold_7 : decode cX12_sumsTold 7 = .ok (.getfield 259, 3) := lw_dr lw_d_cX12_sumsTold_0 5 rfl
theorem dX12_sumsTold_10 : decode cX12_sumsTold 10 = .ok (.putfield 265, 3) := lw_dr lw_d_cX12_sumsTold_0 6 rfl
theorem dX12_sumsTold_13 : decode cX12_sumsTold 13 = .ok (.iconst 1, 1) := lw_dr lw_d_cX12_sumsTold_0 7 rfl
theorem dX12_sumsTold_14 : decode cX12_sumsTold 14 = .ok (.istore_n 2, 1) := lw_dr lw_d_cX12_sumsTold_0 8 rfl
theorem dX12_sumsTold_15 : decode cX12_sumsTold 15 = .ok (.iload_n 2, 1) := lw_dr lw_d_cX12_sumsTold_0 9 rfl
theorem dX12_sumsTold_16 : decode cX12_sumsTold 16 = .ok (.ifCond .eq 37, 3) := lw_dr lw_d_cX12_sumsTold_0 10 rfl
theorem dX12_sumsTold_19 : decode cX12_sumsTold 19 = .ok (.aload_n 0, 1) := lw_dr lw_d_cX12_sumsTold_0 11 rfl
theorem dX12_sumsTold_20 : decode cX12_sumsTold 20 = .ok (.getfield 151, 3) := lw_dr lw_d_cX12_sumsTold_0 12 rfl
theorem dX12_sumsTold_23 : decode cX12_sumsTold 23 = .ok (.ifCond .ne 30, 3) := lw_dr lw_d_cX12_sumsTold_0 13 rfl
theorem dX12_sumsTold_53 : decode cX12_sumsTold 53 = .ok (.aload_n 0, 1) := lw_dr lw_d_cX12_sumsTold_0 14 rfl
theorem dX12_sumsTold_54 : decode cX12_sumsTold 54 = .ok (.getfield 151, 3) := lw_dr lw_d_cX12_sumsTold_0 15 rfl
theorem dX12_sumsTold_57 : decode cX12_sumsTold 57 = .ok (.ifCond .ne 21, 3) := lw_dr lw_d_cX12_sumsTold_0 16 rfl
theorem dX12_sumsTold_78 : decode cX12_sumsTold 78 = .ok (.aload_n 0, 1) := lw_dr lw_d_cX12_sumsTold_0 17 rfl
theorem dX12_sumsTold_79 : decode cX12_sumsTold 79 = .ok (.iload_n 1, 1) := lw_dr lw_d_cX12_sumsTold_0 18 rfl
theorem dX12_sumsTold_80 : decode cX12_sumsTold 80 = .ok (.putfield 265, 3) := lw_dr lw_d_cX12_sumsTold_0 19 rfl
theorem dX12_sumsTold_83 : decode cX12_sumsTold 83 = .ok (.return_, 1) := lw_dr lw_d_cX12_sumsTold_0 20 rfl
theorem dX12_sumsTold_60 : decode cX12_sumsTold 60 = .ok (.aload_n 0, 1) := lw_dr lw_d_cX12_sumsTold_0 21 rfl
theorem dX12_sumsTold_61 : decode cX12_sumsTold 61 = .ok (.getfield 259, 3) := lw_dr lw_d_cX12_sumsTold_0 22 rfl
theorem dX12_sumsTold_64 : decode cX12_sumsTold 64 = .ok (.aload_n 0, 1) := lw_dr lw_d_cX12_sumsTold_0 23 rfl
theorem dX12_sumsTold_65 : decode cX12_sumsTold 65 = .ok (.getfield 265, 3) := lw_dr lw_d_cX12_sumsTold_0 24 rfl
theorem dX12_sumsTold_68 : decode cX12_sumsTold 68 = .ok (.if_icmp .le 10, 3) := lw_dr lw_d_cX12_sumsTold_0 25 rfl
theorem dX12_sumsTold_26 : decode cX12_sumsTold 26 = .ok (.aload_n 0, 1) := lw_dr lw_d_cX12_sumsTold_0 26 rfl
theorem dX12_sumsTold_27 : decode cX12_sumsTold 27 = .ok (.invokevirtual 286, 3) := lw_dr lw_d_cX12_sumsTold_0 27 rfl
theorem lw_d_cX12_onePart_0 : lw_dl cX12_onePart [(0, .iconst 1, 1), (1, .istore_n 1, 1), (2, .iload_n 1, 1), (3, .ifCond .eq 143, 3), (6, .aload_n 0, 1), (7, .getfield 151, 3), (10, .ifCond .ne 136, 3), (146, .aload_n 0, 1), (147, .getfield 151, 3), (150, .ifCond .eq 4, 3), (154, .aload_n 0, 1), (155, .aload_n 0, 1), (156, .getfield 48, 3), (159, .invokevirtual 178, 3), (162, .ifCond .eq 8, 3), (170, .aload_n 0, 1), (171, .aload_n 0, 1), (172, .getfield 51, 3), (175, .invokevirtual 178, 3), (178, .ifCond .eq 8, 3), (186, .aload_n 0, 1), (187, .aload_n 0, 1), (188, .getfield 54, 3), (191, .invokevirtual 178, 3), (194, .ifCond .eq 8, 3), (202, .iconst (-1), 1), (203, .istore_n 2, 1), (204, .aload_n 0, 1), (205, .iload_n 2, 1), (206, .iconst (-1), 1), (207, .if_icmp .eq 7, 3), (214, .sipush 1000, 3), (217, .aload_n 0, 1), (218, .iconst 0, 1), (219, .sipush 9999, 3), (222, .invokevirtual 195, 3), (225, .iadd, 1), (226, .invokevirtual 262, 3), (229, .return_, 1), (197, .bipush 9, 2)] = true := by decide +kernel
theorem dX12_onePart_0 : decode cX12_onePart 0 = .ok (.iconst 1, 1) := lw_dr lw_d_cX12_onePart_0 0 rfl
theorem dX12_onePart_1 : decode cX12_onePart 1 = .ok (.istore_n 1, 1) := lw_dr lw_d_cX12_onePart_0 1 rfl
theorem dX12_onePart_2 : decode cX12_onePart 2 = .ok (.iload_n 1, 1) := lw_dr lw_d_cX12_onePart_0 2 rfl
theorem dX12_onePart_3 : decode cX12_onePart 3 = .ok (.ifCond .eq 143, 3) := lw_dr lw_d_cX12_onePart_0 3 rfl
theorem dX12_onePart_6 : decode cX12_onePart 6 = .ok (.aload_n 0, 1) := lw_dr lw_d_cX12_onePart_0 4 rfl
theorem dX12_onePart_7 : decode cX12_onePart 7 = .ok (.getfield 151, 3) := lw_dr lw_d_cX12_onePart_0 5 rfl
theorem dX12_onePart_10 : decode cX12_onePart 10 = .ok (.ifCond .ne 136, 3) := lw_dr lw_d_cX12_onePart_0 6 rfl
theorem dX12_onePart_146 : decode cX12_onePart 146 = .ok (.aload_n 0, 1) := lw_dr lw_d_cX12_onePart_0 7 rfl
theorem dX12_onePart_147 : decode cX12_onePart 147 = .ok (.getfield 151, 3) := lw_dr lw_d_cX12_onePart_0 8 rfl
theorem dX12_onePart_150 : decode cX12_onePart 150 = .ok (.ifCond .eq 4, 3) := lw_dr lw_d_cX12_onePart_0 9 rfl
theorem dX12_onePart_154 : decode cX12_onePart 154 = .ok (.aload_n 0, 1) := lw_dr lw_d_cX12_onePart_0 10 rfl
theorem dX12_onePart_155 : decode cX12_onePart 155 = .ok (.aload_n 0, 1) := lw_dr lw_d_cX12_onePart_0 11 rfl
theorem dX12_onePart_156 : decode cX12_onePart 156 = .ok (.getfield 48, 3) := lw_dr lw_d_cX12_onePart_0 12 rfl
theorem dX12_onePart_159 : decode cX12_onePart 159 = .ok (.invokevirtual 178, 3) := lw_dr lw_d_cX12_onePart_0 13 rfl
theorem dX12_onePart_162 : decode cX12_onePart 162 = .ok (.ifCond .eq 8, 3) := lw_dr lw_d_cX12_onePart_0 14 rfl
theorem dX12_onePart_170 : decode cX12_onePart 170 = .ok (.aload_n 0, 1) := lw_dr lw_d_cX12_onePart_0 15 rfl
theorem dX12_onePart_171 : decode cX12_onePart 171 = .ok (.aload_n 0, 1) := lw_dr lw_d_cX12_onePart_0 16 rfl
theorem dX12_onePart_172 : decode cX12_onePart 172 = .ok (.getfield 51, 3) := lw_dr lw_d_cX12_onePart_0 17 rfl
theorem dX12_onePart_175 : decode cX12_onePart 175 = .ok (.invokevirtual 178, 3) := lw_dr lw_d_cX12_onePart_0 18 rfl
theorem dX12_onePart_178 : decode cX12_onePart 178 = .ok (.ifCond .eq 8, 3) := lw_dr lw_d_cX12_onePart_0 19 rfl
theorem dX12_onePart_186 : decode cX12_onePart 186 = .ok (.aload_n 0, 1) := lw_dr lw_d_cX12_onePart_0 20 rfl
theorem dX12_onePart_187 : decode cX12_onePart 187 = .ok (.aload_n 0, 1) := lw_dr lw_d_cX12_onePart_0 21 rfl
theorem dX12_onePart_188 : decode cX12_onePart 188 = .ok (.getfield 54, 3) := lw_dr lw_d_cX12_onePart_0 22 rfl
theorem dX12_onePart_191 : decode cX12_onePart 191 = .ok (.invokevirtual 178, 3) := lw_dr lw_d_cX12_onePart_0 23 rfl
theorem dX12_onePart_194 : decode cX12_onePart 194 = .ok (.ifCond .eq 8, 3) := lw_dr lw_d_cX12_onePart_0 24 rfl
theorem dX12_onePart_202 : decode cX12_onePart 202 = .ok (.iconst (-1), 1) := lw_dr lw_d_cX12_onePart_0 25 rfl
theorem dX12_onePart_203 : decode cX12_onePart 203 = .ok (.istore_n 2, 1) := lw_dr lw_d_cX12_onePart_0 26 rfl
theorem dX12_onePart_204 : decode cX12_onePart 204 = .ok (.aload_n 0, 1) := lw_dr lw_d_cX12_onePart_0 27 rfl
theorem dX12_onePart_205 : decode cX12_onePart 205 = .ok (.iload_n 2, 1) := lw_dr lw_d_cX12_onePart_0 28 rfl
theorem dX12_onePart_206 : decode cX12_onePart 206 = .ok (.iconst (-1), 1) := lw_dr lw_d_cX12_onePart_0 29 rfl
theorem dX12_onePart_207 : decode cX12_onePart 207 = .ok (.if_icmp .eq 7, 3) := lw_dr lw_d_cX12_onePart_0 30 rfl
theorem dX12_onePart_214 : decode cX12_onePart 214 = .ok (.sipush 1000, 3) := lw_dr lw_d_cX12_onePart_0 31 rfl
theorem dX12_onePart_217 : decode cX12_onePart 217 = .ok (.aload_n 0, 1) := lw_dr lw_d_cX12_onePart_0 32 rfl
theorem dX12_onePart_218 : decode cX12_onePart 218 = .ok (.iconst 0, 1) := lw_dr lw_d_cX12_onePart_0 33 rfl
theorem dX12_onePart_219 : decode cX12_onePart 219 = .ok (.sipush 9999, 3) := lw_dr lw_d_cX12_onePart_0 34 rfl
theorem dX12_onePart_222 : decode cX12_onePart 222 = .ok (.invokevirtual 195, 3) := lw_dr lw_d_cX12_onePart_0 35 rfl
theorem dX12_onePart_225 : decode cX12_onePart 225 = .ok (.iadd, 1) := lw_dr lw_d_cX12_onePart_0 36 rfl
theorem dX12_onePart_226 : decode cX12_onePart 226 = .ok (.invokevirtual 262, 3) := lw_dr lw_d_cX12_onePart_0 37 rfl
theorem dX12_onePart_229 : decode cX12_onePart 229 = .ok (.return_, 1) := lw_dr lw_d_cX12_onePart_0 38 rfl
theorem dX12_onePart_197 : decode cX12_onePart 197 = .ok (.bipush 9, 2) := lw_dr lw_d_cX12_onePart_0 39 rfl
theorem lw_d_cX12_onePart_199 : lw_dl cX12_onePart [(199, .goto 4, 3), (210, .iload_n 2, 1), (211, .goto 15, 3), (181, .bipush 8, 2), (183, .goto 20, 3), (165, .bipush 7, 2), (167, .goto 36, 3), (153, .return_, 1), (13, .aload_n 0, 1), (14, .invokevirtual 163, 3), (17, .istore_n 2, 1), (18, .iload_n 2, 1), (19, .bipush 40, 2), (21, .if_icmp .ne 26, 3), (47, .aload_n 0, 1), (48, .aload_n 0, 1), (49, .getfield 57, 3), (52, .invokevirtual 174, 3), (55, .ifCond .ne 14, 3), (69, .aload_n 0, 1), (70, .aload_n 0, 1), (71, .getfield 57, 3), (74, .invokevirtual 178, 3), (77, .istore_n 3, 1), (78, .iload_n 3, 1), (79, .ifCond .ne 11, 3), (90, .aload_n 0, 1), (91, .invokevirtual 163, 3), (94, .bipush 40, 2), (96, .if_icmp .ne 10, 3), (106, .iconst (-1), 1), (107, .istore 4, 2), (109, .iload 4, 2), (111, .iconst (-1), 1), (112, .if_icmp .eq 20, 3), (132, .aload_n 0, 1), (133, .bipush 40, 2), (135, .invokevirtual 219, 3), (138, .goto 5, 3), (143, .goto (-141), 3)] = true := by decide +kernel
theorem dX12_onePart_199 : decode cX12_onePart 199 = .ok (.goto 4, 3) := lw_dr lw_d_cX12_onePart_199 0 rfl
theorem dX12_onePart_210 : decode cX12_onePart 210 = .ok (.iload_n 2, 1) := lw_dr lw_d_cX12_onePart_199 1 rfl
theorem dX12_onePart_211 : decode cX12_onePart 211 = .ok (.goto 15, 3) := lw_dr lw_d_cX12_onePart_199 2 rfl
theorem dX12_onePart_181 : decode cX12_onePart 181 = .ok (.bipush 8, 2) := lw_dr lw_d_cX12_onePart_199 3 rfl
theorem dX12_onePart_183 : decode cX12_onePart 183 = .ok (.goto 20, 3) := lw_dr lw_d_cX12_onePart_199 4 rfl
theorem dX12_onePart_165 : decode cX12_onePart 165 = .ok (.bipush 7, 2) := lw_dr lw_d_cX12_onePart_199 5 rfl
theorem dX12_onePart_167 : decode cX12_onePart 167 = .ok (.goto 36, 3) := lw_dr lw_d_cX12_onePart_199 6 rfl
theorem dX12_onePart_153 : decode cX12_onePart 153 = .ok (.return_, 1) := lw_dr lw_d_cX12_onePart_199 7 rfl
theorem dX12_onePart_13 : decode cX12_onePart 13 = .ok (.aload_n 0, 1) := lw_dr lw_d_cX12_onePart_199 8 rfl
theorem dX12_onePart_14 : decode cX12_onePart 14 = .ok (.invokevirtual 163, 3) := lw_dr lw_d_cX12_onePart_199 9 rfl
theorem dX12_onePart_17 : decode cX12_onePart 17 = .ok (.istore_n 2, 1) := lw_dr lw_d_cX12_onePart_199 10 rfl
theorem dX12_onePart_18 : decode cX12_onePart 18 = .ok (.iload_n 2, 1) := lw_dr lw_d_cX12_onePart_199 11 rfl
theorem dX12_onePart_19 : decode cX12_onePart 19 = .ok (.bipush 40, 2) := lw_dr lw_d_cX12_onePart_199 12 rfl
theorem dX12_onePart_21 : decode cX12_onePart 21 = .ok (.if_icmp .ne 26, 3) := lw_dr lw_d_cX12_onePart_199 13 rfl
theorem dX12_onePart_47 : decode cX12_onePart 47 = .ok (.aload_n 0, 1) := lw_dr lw_d_cX12_onePart_199 14 rfl
theorem dX12_onePart_48 : decode cX12_onePart 48 = .ok (.aload_n 0, 1) := lw_dr lw_d_cX12_onePart_199 15 rfl
theorem dX12_onePart_49 : decode cX12_onePart 49 = .ok (.getfield 57, 3) := lw_dr lw_d_cX12_onePart_199 16 rfl
theorem dX12_onePart_52 : decode cX12_onePart 52 = .ok (.invokevirtual 174, 3) := lw_dr lw_d_cX12_onePart_199 17 rfl
theorem dX12_onePart_55 : decode cX12_onePart 55 = .ok (.ifCond .ne 14, 3) := lw_dr lw_d_cX12_onePart_199 18 rfl
theorem dX12_onePart_69 : decode cX12_onePart 69 = .ok (.aload_n 0, 1) := lw_dr lw_d_cX12_onePart_199 19 rfl
theorem dX12_onePart_70 : decode cX12_onePart 70 = .ok (.aload_n 0, 1) := lw_dr lw_d_cX12_onePart_199 20 rfl
theorem dX12_onePart_71 : decode cX12_onePart 71 = .ok (.getfield 57, 3) := lw_dr lw_d_cX12_onePart_199 21 rfl
theorem dX12_onePart_74 : decode cX12_onePart 74 = .ok (.invokevirtual 178, 3) := lw_dr lw_d_cX12_onePart_199 22 rfl
theorem dX12_onePart_77 : decode cX12_onePart 77 = .ok (.istore_n 3, 1) := lw_dr lw_d_cX12_onePart_199 23 rfl
theorem dX12_onePart_78 : decode cX12_onePart 78 = .ok (.iload_n 3, 1) := lw_dr lw_d_cX12_onePart_199 24 rfl
theorem dX12_onePart_79 : decode cX12_onePart 79 = .ok (.ifCond .ne 11, 3) := lw_dr lw_d_cX12_onePart_199 25 rfl
theorem dX12_onePart_90 : decode cX12_onePart 90 = .ok (.aload_n 0, 1) := lw_dr lw_d_cX12_onePart_199 26 rfl
theorem dX12_onePart_91 : decode cX12_onePart 91 = .ok (.invokevirtual 163, 3) := lw_dr lw_d_cX12_onePart_199 27 rfl
theorem dX12_onePart_94 : decode cX12_onePart 94 = .ok (.bipush 40, 2) := lw_dr lw_d_cX12_onePart_199 28 rfl
theorem dX12_onePart_96 : decode cX12_onePart 96 = .ok (.if_icmp .ne 10, 3) := lw_dr lw_d_cX12_onePart_199 29 rfl
theorem dX12_onePart_106 : decode cX12_onePart 106 = .ok (.iconst (-1), 1) := lw_dr lw_d_cX12_onePart_199 30 rfl
theorem dX12_onePart_107 : decode cX12_onePart 107 = .ok (.istore 4, 2) := lw_dr lw_d_cX12_onePart_199 31 rfl
theorem dX12_onePart_109 : decode cX12_onePart 109 = .ok (.iload 4, 2) := lw_dr lw_d_cX12_onePart_199 32 rfl
theorem dX12_onePart_111 : decode cX12_onePart 111 = .ok (.iconst (-1), 1) := lw_dr lw_d_cX12_onePart_199 33 rfl
theorem dX12_onePart_112 : decode cX12_onePart 112 = .ok (.if_icmp .eq 20, 3) := lw_dr lw_d_cX12_onePart_199 34 rfl
theorem dX12_onePart_132 : decode cX12_onePart 132 = .ok (.aload_n 0, 1) := lw_dr lw_d_cX12_onePart_199 35 rfl
theorem dX12_onePart_133 : decode cX12_onePart 133 = .ok (.bipush 40, 2) := lw_dr lw_d_cX12_onePart_199 36 rfl
theorem dX12_onePart_135 : decode cX12_onePart 135 = .ok (.invokevirtual 219, 3) := lw_dr lw_d_cX12_onePart_199 37 rfl
theorem dX12_onePart_138 : decode cX12_onePart 138 = .ok (.goto 5, 3) := lw_dr lw_d_cX12_onePart_199 38 rfl
theorem dX12_onePart_143 : decode cX12_onePart 143 = .ok (.goto (-141), 3) := lw_dr lw_d_cX12_onePart_199 39 rfl
theorem lw_d_cX12_onePart_99 : lw_dl cX12_onePart [(99, .aload_n 0, 1), (100, .getfield 157, 3), (103, .goto 4, 3), (115, .aload_n 0, 1), (116, .iload_n 3, 1), (117, .ifCond .eq 8, 3), (120, .bipush 21, 2), (122, .goto 5, 3), (127, .iload 4, 2), (129, .invokevirtual 274, 3), (82, .aload_n 0, 1), (83, .aload_n 0, 1), (84, .getfield 60, 3), (87, .invokevirtual 212, 3), (125, .bipush 22, 2), (58, .aload_n 0, 1), (59, .aload_n 0, 1), (60, .getfield 60, 3), (63, .invokevirtual 174, 3), (66, .ifCond .eq 75, 3), (141, .iconst 0, 1), (142, .istore_n 1, 1), (24, .aload_n 0, 1), (25, .bipush 20, 2), (27, .aload_n 0, 1), (28, .getfield 157, 3), (31, .invokevirtual 274, 3), (34, .aload_n 0, 1), (35, .dup, 1), (36, .getfield 157, 3), (39, .iconst 1, 1), (40, .iadd, 1), (41, .putfield 157, 3), (44, .goto 99, 3)] = true := by decide +kernel
theorem dX12_onePart_99 : decode cX12_onePart 99 = .ok (.aload_n 0, 1) := lw_dr lw_d_cX12_onePart_99 0 rfl
theorem dX12_onePart_100 : decode cX12_onePart 100 = .ok (.getfield 157, 3) := lw_dr lw_d_cX12_onePart_99 1 rfl
theorem dX12_onePart_103 : decode cX12_onePart 103 = .ok (.goto 4, 3) := lw_dr lw_d_cX12_onePart_99 2 rfl
theorem dX12_onePart_115 : decode cX12_onePart 115 = .ok (.aload_n 0, 1) := lw_dr lw_d_cX12_onePart_99 3 rfl
theorem dX12_onePart_116 : decode cX12_onePart 116 = .ok (.iload_n 3, 1) := lw_dr lw_d_cX12_onePart_99 4 rfl
theorem dX12_onePart_117 : decode cX12_onePart 117 = .ok (.ifCond .eq 8, 3) := lw_dr lw_d_cX12_onePart_99 5 rfl
theorem dX12_onePart_120 : decode cX12_onePart 120 = .ok (.bipush 21, 2) := lw_dr lw_d_cX12_onePart_99 6 rfl
theorem dX12_onePart_122 : decode cX12_onePart 122 = .ok (.goto 5, 3) := lw_dr lw_d_cX12_onePart_99 7 rfl
theorem dX12_onePart_127 : decode cX12_onePart 127 = .ok (.iload 4, 2) := lw_dr lw_d_cX12_onePart_99 8 rfl
theorem dX12_onePart_129 : decode cX12_onePart 129 = .ok (.invokevirtual 274, 3) := lw_dr lw_d_cX12_onePart_99 9 rfl
theorem dX12_onePart_82 : decode cX12_onePart 82 = .ok (.aload_n 0, 1) := lw_dr lw_d_cX12_onePart_99 10 rfl
theorem dX12_onePart_83 : decode cX12_onePart 83 = .ok (.aload_n 0, 1) := lw_dr lw_d_cX12_onePart_99 11 rfl
theorem dX12_onePart_84 : decode cX12_onePart 84 = .ok (.getfield 60, 3) := lw_dr lw_d_cX12_onePart_99 12 rfl
theorem dX12_onePart_87 : decode cX12_onePart 87 = .ok (.invokevirtual 212, 3) := lw_dr lw_d_cX12_onePart_99 13 rfl
theorem dX12_onePart_125 : decode cX12_onePart 125 = .ok (.bipush 22, 2) := lw_dr lw_d_cX12_onePart_99 14 rfl
theorem dX12_onePart_58 : decode cX12_onePart 58 = .ok (.aload_n 0, 1) := lw_dr lw_d_cX12_onePart_99 15 rfl
theorem dX12_onePart_59 : decode cX12_onePart 59 = .ok (.aload_n 0, 1) := lw_dr lw_d_cX12_onePart_99 16 rfl
theorem dX12_onePart_60 : decode cX12_onePart 60 = .ok (.getfield 60, 3) := lw_dr lw_d_cX12_onePart_99 17 rfl
theorem dX12_onePart_63 : decode cX12_onePart 63 = .ok (.invokevirtual 174, 3) := lw_dr lw_d_cX12_onePart_99 18 rfl
theorem dX12_onePart_66 : decode cX12_onePart 66 = .ok (.ifCond .eq 75, 3) := lw_dr lw_d_cX12_onePart_99 19 rfl
theorem dX12_onePart_141 : decode cX12_onePart 141 = .ok (.iconst 0, 1) := lw_dr lw_d_cX12_onePart_99 20 rfl
theorem dX12_onePart_142 : decode cX12_onePart 142 = .ok (.istore_n 1, 1) := lw_dr lw_d_cX12_onePart_99 21 rfl
theorem dX12_onePart_24 : decode cX12_onePart 24 = .ok (.aload_n 0, 1) := lw_dr lw_d_cX12_onePart_99 22 rfl
theorem dX12_onePart_25 : decode cX12_onePart 25 = .ok (.bipush 20, 2) := lw_dr lw_d_cX12_onePart_99 23 rfl
theorem dX12_onePart_27 : decode cX12_onePart 27 = .ok (.aload_n 0, 1) := lw_dr lw_d_cX12_onePart_99 24 rfl
theorem dX12_onePart_28 : decode cX12_onePart 28 = .ok (.getfield 157, 3) := lw_dr lw_d_cX12_onePart_99 25 rfl
theorem dX12_onePart_31 : decode cX12_onePart 31 = .ok (.invokevirtual 274, 3) := lw_dr lw_d_cX12_onePart_99 26 rfl
theorem dX12_onePart_34 : decode cX12_onePart 34 = .ok (.aload_n 0, 1) := lw_dr lw_d_cX12_onePart_99 27 rfl
theorem dX12_onePart_35 : decode cX12_onePart 35 = .ok (.dup, 1) := lw_dr lw_d_cX12_onePart_99 28 rfl
theorem dX12_onePart_36 : decode cX12_onePart 36 = .ok (.getfield 157, 3) := lw_dr lw_d_cX12_onePart_99 29 rfl
theorem dX12_onePart_39 : decode cX12_onePart 39 = .ok (.iconst 1, 1) := lw_dr lw_d_cX12_onePart_99 30 rfl
theorem dX12_onePart_40 : decode cX12_onePart 40 = .ok (.iadd, 1) := lw_dr lw_d_cX12_onePart_99 31 rfl
theorem dX12_onePart_41 : decode cX12_onePart 41 = .ok (.putfield 157, 3) := lw_dr lw_d_cX12_onePart_99 32 rfl
theorem dX12_onePart_44 : decode cX12_onePart 44 = .ok (.goto 99, 3) := lw_dr lw_d_cX12_onePart_99 33 rfl
theorem lw_d_cX12_lay_0 : lw_dl cX12_lay [(0, .aload_n 0, 1), (1, .getfield 75, 3), (4, .sipush 1600, 3), (7, .aload_n 0, 1), (8, .getfield 222, 3), (11, .iadd, 1), (12, .iload_n 1, 1), (13, .iastore, 1), (14, .aload_n 0, 1), (15, .dup, 1), (16, .getfield 222, 3), (19, .iconst 1, 1), (20, .iadd, 1), (21, .putfield 222, 3), (24, .return_, 1)] = true := by decide +kernel
theorem dX12_lay_0 : decode cX12_lay 0 = .ok (.aload_n 0, 1) := lw_dr lw_d_cX12_lay_0 0 rfl
theorem dX12_lay_1 : decode cX12_lay 1 = .ok (.getfield 75, 3) := lw_dr lw_d_cX12_lay_0 1 rfl
theorem dX12_lay_4 : decode cX12_lay 4 = .ok (.sipush 1600, 3) := lw_dr lw_d_cX12_lay_0 2 rfl
theorem dX12_lay_7 : decode cX12_lay 7 = .ok (.aload_n 0, 1) := lw_dr lw_d_cX12_lay_0 3 rfl
theorem dX12_lay_8 : decode cX12_lay 8 = .ok (.getfield 222, 3) := lw_dr lw_d_cX12_lay_0 4 rfl
theorem dX12_lay_11 : decode cX12_lay 11 = .ok (.iadd, 1) := lw_dr lw_d_cX12_lay_0 5 rfl
theorem dX12_lay_12 : decode cX12_lay 12 = .ok (.iload_n 1, 1) := lw_dr lw_d_cX12_lay_0 6 rfl
theorem dX12_lay_13 : decode cX12_lay 13 = .ok (.iastore, 1) := lw_dr lw_d_cX12_lay_0 7 rfl
theorem dX12_lay_14 : decode cX12_lay 14 = .ok (.aload_n 0, 1) := lw_dr lw_d_cX12_lay_0 8 rfl
theorem dX12_lay_15 : decode cX12_lay 15 = .ok (.dup, 1) := lw_dr lw_d_cX12_lay_0 9 rfl
theorem dX12_lay_16 : decode cX12_lay 16 = .ok (.getfield 222, 3) := lw_dr lw_d_cX12_lay_0 10 rfl
theorem dX12_lay_19 : decode cX12_lay 19 = .ok (.iconst 1, 1) := lw_dr lw_d_cX12_lay_0 11 rfl
theorem dX12_lay_20 : decode cX12_lay 20 = .ok (.iadd, 1) := lw_dr lw_d_cX12_lay_0 12 rfl
theorem dX12_lay_21 : decode cX12_lay 21 = .ok (.putfield 222, 3) := lw_dr lw_d_cX12_lay_0 13 rfl
theorem dX12_lay_24 : decode cX12_lay 24 = .ok (.return_, 1) := lw_dr lw_d_cX12_lay_0 14 rfl
theorem lw_d_cX12_opens_0 : lw_dl cX12_opens [(0, .aload_n 0, 1), (1, .getfield 256, 3), (4, .bipush 6, 2), (6, .if_icmp .ne 10, 3), (16, .aload_n 0, 1), (17, .dup, 1), (18, .getfield 256, 3), (21, .iconst 1, 1), (22, .iadd, 1), (23, .putfield 256, 3), (26, .aload_n 0, 1), (27, .getfield 78, 3), (30, .aload_n 0, 1), (31, .getfield 259, 3), (34, .iload_n 1, 1), (35, .iastore, 1), (36, .aload_n 0, 1), (37, .dup, 1), (38, .getfield 259, 3), (41, .iconst 1, 1), (42, .iadd, 1), (43, .putfield 259, 3), (46, .return_, 1), (9, .aload_n 0, 1), (10, .iconst 3, 1), (11, .iload_n 2, 1), (12, .invokevirtual 181, 3), (15, .return_, 1)] = true := by decide +kernel
theorem dX12_opens_0 : decode cX12_opens 0 = .ok (.aload_n 0, 1) := lw_dr lw_d_cX12_opens_0 0 rfl
theorem dX12_opens_1 : decode cX12_opens 1 = .ok (.getfield 256, 3) := lw_dr lw_d_cX12_opens_0 1 rfl
theorem dX12_opens_4 : decode cX12_opens 4 = .ok (.bipush 6, 2) := lw_dr lw_d_cX12_opens_0 2 rfl
theorem dX12_opens_6 : decode cX12_opens 6 = .ok (.if_icmp .ne 10, 3) := lw_dr lw_d_cX12_opens_0 3 rfl
theorem dX12_opens_16 : decode cX12_opens 16 = .ok (.aload_n 0, 1) := lw_dr lw_d_cX12_opens_0 4 rfl
theorem dX12_opens_17 : decode cX12_opens 17 = .ok (.dup, 1) := lw_dr lw_d_cX12_opens_0 5 rfl
theorem dX12_opens_18 : decode cX12_opens 18 = .ok (.getfield 256, 3) := lw_dr lw_d_cX12_opens_0 6 rfl
theorem dX12_opens_21 : decode cX12_opens 21 = .ok (.iconst 1, 1) := lw_dr lw_d_cX12_opens_0 7 rfl
theorem dX12_opens_22 : decode cX12_opens 22 = .ok (.iadd, 1) := lw_dr lw_d_cX12_opens_0 8 rfl
theorem dX12_opens_23 : decode cX12_opens 23 = .ok (.putfield 256, 3) := lw_dr lw_d_cX12_opens_0 9 rfl
theorem dX12_opens_26 : decode cX12_opens 26 = .ok (.aload_n 0, 1) := lw_dr lw_d_cX12_opens_0 10 rfl
theorem dX12_opens_27 : decode cX12_opens 27 = .ok (.getfield 78, 3) := lw_dr lw_d_cX12_opens_0 11 rfl
theorem dX12_opens_30 : decode cX12_opens 30 = .ok (.aload_n 0, 1) := lw_dr lw_d_cX12_opens_0 12 rfl
theorem dX12_opens_31 : decode cX12_opens 31 = .ok (.getfield 259, 3) := lw_dr lw_d_cX12_opens_0 13 rfl
theorem dX12_opens_34 : decode cX12_opens 34 = .ok (.iload_n 1, 1) := lw_dr lw_d_cX12_opens_0 14 rfl
theorem dX12_opens_35 : decode cX12_opens 35 = .ok (.iastore, 1) := lw_dr lw_d_cX12_opens_0 15 rfl
theorem dX12_opens_36 : decode cX12_opens 36 = .ok (.aload_n 0, 1) := lw_dr lw_d_cX12_opens_0 16 rfl
theorem dX12_opens_37 : decode cX12_opens 37 = .ok (.dup, 1) := lw_dr lw_d_cX12_opens_0 17 rfl
theorem dX12_opens_38 : decode cX12_opens 38 = .ok (.getfield 259, 3) := lw_dr lw_d_cX12_opens_0 18 rfl
theorem dX12_opens_41 : decode cX12_opens 41 = .ok (.iconst 1, 1) := lw_dr lw_d_cX12_opens_0 19 rfl
theorem dX12_opens_42 : decode cX12_opens 42 = .ok (.iadd, 1) := lw_dr lw_d_cX12_opens_0 20 rfl
theorem dX12_opens_43 : decode cX12_opens 43 = .ok (.putfield 259, 3) := lw_dr lw_d_cX12_opens_0 21 rfl
theorem dX12_opens_46 : decode cX12_opens 46 = .ok (.return_, 1) := lw_dr lw_d_cX12_opens_0 22 rfl
theorem dX12_opens_9 : decode cX12_opens 9 = .ok (.aload_n 0, 1) := lw_dr lw_d_cX12_opens_0 23 rfl
theorem dX12_opens_10 : decode cX12_opens 10 = .ok (.iconst 3, 1) := lw_dr lw_d_cX12_opens_0 24 rfl
theorem dX12_opens_11 : decode cX12_opens 11 = .ok (.iload_n 2, 1) := lw_dr lw_d_cX12_opens_0 25 rfl
theorem dX12_opens_12 : decode cX12_opens 12 = .ok (.invokevirtual 181, 3) := lw_dr lw_d_cX12_opens_0 26 rfl
theorem dX12_opens_15 : decode cX12_opens 15 = .ok (.return_, 1) := lw_dr lw_d_cX12_opens_0 27 rfl
theorem lw_d_cX12_rowTold_0 : lw_dl cX12_rowTold [(0, .aload_n 0, 1), (1, .getfield 151, 3), (4, .ifCond .ne 24, 3), (28, .aload_n 0, 1), (29, .getfield 151, 3), (32, .ifCond .eq 4, 3), (36, .iconst 0, 1), (37, .istore_n 2, 1), (38, .iload_n 2, 1), (39, .aload_n 0, 1), (40, .getfield 66, 3), (43, .iconst 1, 1), (44, .iaload, 1), (45, .if_icmp .ge 34, 3), (79, .aload_n 0, 1), (80, .getfield 66, 3), (83, .iconst 3, 1), (84, .dup2, 1), (85, .iaload, 1), (86, .iconst 1, 1), (87, .iadd, 1), (88, .iastore, 1), (89, .return_, 1), (48, .aload_n 0, 1), (49, .getfield 69, 3), (52, .bipush 30, 2), (54, .iconst 5, 1), (55, .aload_n 0, 1), (56, .getfield 66, 3), (59, .iconst 3, 1), (60, .iaload, 1), (61, .imul, 1), (62, .iadd, 1), (63, .iload_n 2, 1), (64, .iadd, 1), (65, .aload_n 0, 1), (66, .bipush 99, 2), (68, .iconst 1, 1), (69, .invokevirtual 199, 3)] = true := by decide +kernel
theorem dX12_rowTold_0 : decode cX12_rowTold 0 = .ok (.aload_n 0, 1) := lw_dr lw_d_cX12_rowTold_0 0 rfl
theorem dX12_rowTold_1 : decode cX12_rowTold 1 = .ok (.getfield 151, 3) := lw_dr lw_d_cX12_rowTold_0 1 rfl
theorem dX12_rowTold_4 : decode cX12_rowTold 4 = .ok (.ifCond .ne 24, 3) := lw_dr lw_d_cX12_rowTold_0 2 rfl
theorem dX12_rowTold_28 : decode cX12_rowTold 28 = .ok (.aload_n 0, 1) := lw_dr lw_d_cX12_rowTold_0 3 rfl
theorem dX12_rowTold_29 : decode cX12_rowTold 29 = .ok (.getfield 151, 3) := lw_dr lw_d_cX12_rowTold_0 4 rfl
theorem dX12_rowTold_32 : decode cX12_rowTold 32 = .ok (.ifCond .eq 4, 3) := lw_dr lw_d_cX12_rowTold_0 5 rfl
theorem dX12_rowTold_36 : decode cX12_rowTold 36 = .ok (.iconst 0, 1) := lw_dr lw_d_cX12_rowTold_0 6 rfl
theorem dX12_rowTold_37 : decode cX12_rowTold 37 = .ok (.istore_n 2, 1) := lw_dr lw_d_cX12_rowTold_0 7 rfl
theorem dX12_rowTold_38 : decode cX12_rowTold 38 = .ok (.iload_n 2, 1) := lw_dr lw_d_cX12_rowTold_0 8 rfl
theorem dX12_rowTold_39 : decode cX12_rowTold 39 = .ok (.aload_n 0, 1) := lw_dr lw_d_cX12_rowTold_0 9 rfl
theorem dX12_rowTold_40 : decode cX12_rowTold 40 = .ok (.getfield 66, 3) := lw_dr lw_d_cX12_rowTold_0 10 rfl
theorem dX12_rowTold_43 : decode cX12_rowTold 43 = .ok (.iconst 1, 1) := lw_dr lw_d_cX12_rowTold_0 11 rfl
theorem dX12_rowTold_44 : decode cX12_rowTold 44 = .ok (.iaload, 1) := lw_dr lw_d_cX12_rowTold_0 12 rfl
theorem dX12_rowTold_45 : decode cX12_rowTold 45 = .ok (.if_icmp .ge 34, 3) := lw_dr lw_d_cX12_rowTold_0 13 rfl
theorem dX12_rowTold_79 : decode cX12_rowTold 79 = .ok (.aload_n 0, 1) := lw_dr lw_d_cX12_rowTold_0 14 rfl
theorem dX12_rowTold_80 : decode cX12_rowTold 80 = .ok (.getfield 66, 3) := lw_dr lw_d_cX12_rowTold_0 15 rfl
theorem dX12_rowTold_83 : decode cX12_rowTold 83 = .ok (.iconst 3, 1) := lw_dr lw_d_cX12_rowTold_0 16 rfl
theorem dX12_rowTold_84 : decode cX12_rowTold 84 = .ok (.dup2, 1) := lw_dr lw_d_cX12_rowTold_0 17 rfl
theorem dX12_rowTold_85 : decode cX12_rowTold 85 = .ok (.iaload, 1) := lw_dr lw_d_cX12_rowTold_0 18 rfl
theorem dX12_rowTold_86 : decode cX12_rowTold 86 = .ok (.iconst 1, 1) := lw_dr lw_d_cX12_rowTold_0 19 rfl
theorem dX12_rowTold_87 : decode cX12_rowTold 87 = .ok (.iadd, 1) := lw_dr lw_d_cX12_rowTold_0 20 rfl
theorem dX12_rowTold_88 : decode cX12_rowTold 88 = .ok (.iastore, 1) := lw_dr lw_d_cX12_rowTold_0 21 rfl
theorem dX12_rowTold_89 : decode cX12_rowTold 89 = .ok (.return_, 1) := lw_dr lw_d_cX12_rowTold_0 22 rfl
theorem dX12_rowTold_48 : decode cX12_rowTold 48 = .ok (.aload_n 0, 1) := lw_dr lw_d_cX12_rowTold_0 23 rfl
theorem dX12_rowTold_49 : decode cX12_rowTold 49 = .ok (.getfield 69, 3) := lw_dr lw_d_cX12_rowTold_0 24 rfl
theorem dX12_rowTold_52 : decode cX12_rowTold 52 = .ok (.bipush 30, 2) := lw_dr lw_d_cX12_rowTold_0 25 rfl
theorem dX12_rowTold_54 : decode cX12_rowTold 54 = .ok (.iconst 5, 1) := lw_dr lw_d_cX12_rowTold_0 26 rfl
theorem dX12_rowTold_55 : decode cX12_rowTold 55 = .ok (.aload_n 0, 1) := lw_dr lw_d_cX12_rowTold_0 27 rfl
theorem dX12_rowTold_56 : decode cX12_rowTold 56 = .ok (.getfield 66, 3) := lw_dr lw_d_cX12_rowTold_0 28 rfl
theorem dX12_rowTold_59 : decode cX12_rowTold 59 = .ok (.iconst 3, 1) := lw_dr lw_d_cX12_rowTold_0 29 rfl
theorem dX12_rowTold_60 : decode cX12_rowTold 60 = .ok (.iaload, 1) := lw_dr lw_d_cX12_rowTold_0 30 rfl
theorem dX12_rowTold_61 : decode cX12_rowTold 61 = .ok (.imul, 1) := lw_dr lw_d_cX12_rowTold_0 31 rfl
theorem dX12_rowTold_62 : decode cX12_rowTold 62 = .ok (.iadd, 1) := lw_dr lw_d_cX12_rowTold_0 32 rfl
theorem dX12_rowTold_63 : decode cX12_rowTold 63 = .ok (.iload_n 2, 1) := lw_dr lw_d_cX12_rowTold_0 33 rfl
theorem dX12_rowTold_64 : decode cX12_rowTold 64 = .ok (.iadd, 1) := lw_dr lw_d_cX12_rowTold_0 34 rfl
theorem dX12_rowTold_65 : decode cX12_rowTold 65 = .ok (.aload_n 0, 1) := lw_dr lw_d_cX12_rowTold_0 35 rfl
theorem dX12_rowTold_66 : decode cX12_rowTold 66 = .ok (.bipush 99, 2) := lw_dr lw_d_cX12_rowTold_0 36 rfl
theorem dX12_rowTold_68 : decode cX12_rowTold 68 = .ok (.iconst 1, 1) := lw_dr lw_d_cX12_rowTold_0 37 rfl
theorem dX12_rowTold_69 : decode cX12_rowTold 69 = .ok (.invokevirtual 199, 3) := lw_dr lw_d_cX12_rowTold_0 38 rfl
theorem lw_d_cX12_signed_0 : lw_dl cX12_signed [(0, .aload_n 0, 1), (1, .getfield 151, 3), (4, .ifCond .eq 5, 3), (9, .aload_n 0, 1), (10, .invokevirtual 163, 3), (13, .bipush 45, 2), (15, .if_icmp .ne 7, 3), (22, .iconst 0, 1), (23, .istore_n 3, 1), (24, .aload_n 0, 1), (25, .getfield 157, 3), (28, .istore 4, 2), (30, .iload_n 3, 1), (31, .ifCond .eq 13, 3), (44, .aload_n 0, 1), (45, .iconst 0, 1), (46, .sipush 9999, 3), (49, .invokevirtual 195, 3), (52, .istore 5, 2), (54, .iload_n 3, 1), (55, .ifCond .eq 8, 3), (63, .aload_n 0, 1), (64, .getfield 151, 3), (67, .ifCond .ne 38, 3), (105, .iload 5, 2), (107, .ireturn, 1), (70, .iload 5, 2), (72, .i2l, 1), (73, .iload_n 1, 1), (74, .ineg, 1), (75, .i2l, 1), (76, .iload_n 1, 1), (77, .i2l, 1), (78, .invokestatic 191, 3), (81, .ifCond .eq 17, 3), (98, .aload_n 0, 1), (99, .iconst 2, 1), (100, .iload 4, 2), (102, .invokevirtual 181, 3), (84, .iload_n 2, 1)] = true := by decide +kernel
theorem dX12_signed_0 : decode cX12_signed 0 = .ok (.aload_n 0, 1) := lw_dr lw_d_cX12_signed_0 0 rfl
theorem dX12_signed_1 : decode cX12_signed 1 = .ok (.getfield 151, 3) := lw_dr lw_d_cX12_signed_0 1 rfl
theorem dX12_signed_4 : decode cX12_signed 4 = .ok (.ifCond .eq 5, 3) := lw_dr lw_d_cX12_signed_0 2 rfl
theorem dX12_signed_9 : decode cX12_signed 9 = .ok (.aload_n 0, 1) := lw_dr lw_d_cX12_signed_0 3 rfl
theorem dX12_signed_10 : decode cX12_signed 10 = .ok (.invokevirtual 163, 3) := lw_dr lw_d_cX12_signed_0 4 rfl
theorem dX12_signed_13 : decode cX12_signed 13 = .ok (.bipush 45, 2) := lw_dr lw_d_cX12_signed_0 5 rfl
theorem dX12_signed_15 : decode cX12_signed 15 = .ok (.if_icmp .ne 7, 3) := lw_dr lw_d_cX12_signed_0 6 rfl
theorem dX12_signed_22 : decode cX12_signed 22 = .ok (.iconst 0, 1) := lw_dr lw_d_cX12_signed_0 7 rfl
theorem dX12_signed_23 : decode cX12_signed 23 = .ok (.istore_n 3, 1) := lw_dr lw_d_cX12_signed_0 8 rfl
theorem dX12_signed_24 : decode cX12_signed 24 = .ok (.aload_n 0, 1) := lw_dr lw_d_cX12_signed_0 9 rfl
theorem dX12_signed_25 : decode cX12_signed 25 = .ok (.getfield 157, 3) := lw_dr lw_d_cX12_signed_0 10 rfl
theorem dX12_signed_28 : decode cX12_signed 28 = .ok (.istore 4, 2) := lw_dr lw_d_cX12_signed_0 11 rfl
theorem dX12_signed_30 : decode cX12_signed 30 = .ok (.iload_n 3, 1) := lw_dr lw_d_cX12_signed_0 12 rfl
theorem dX12_signed_31 : decode cX12_signed 31 = .ok (.ifCond .eq 13, 3) := lw_dr lw_d_cX12_signed_0 13 rfl
theorem dX12_signed_44 : decode cX12_signed 44 = .ok (.aload_n 0, 1) := lw_dr lw_d_cX12_signed_0 14 rfl
theorem dX12_signed_45 : decode cX12_signed 45 = .ok (.iconst 0, 1) := lw_dr lw_d_cX12_signed_0 15 rfl
theorem dX12_signed_46 : decode cX12_signed 46 = .ok (.sipush 9999, 3) := lw_dr lw_d_cX12_signed_0 16 rfl
theorem dX12_signed_49 : decode cX12_signed 49 = .ok (.invokevirtual 195, 3) := lw_dr lw_d_cX12_signed_0 17 rfl
theorem dX12_signed_52 : decode cX12_signed 52 = .ok (.istore 5, 2) := lw_dr lw_d_cX12_signed_0 18 rfl
theorem dX12_signed_54 : decode cX12_signed 54 = .ok (.iload_n 3, 1) := lw_dr lw_d_cX12_signed_0 19 rfl
theorem dX12_signed_55 : decode cX12_signed 55 = .ok (.ifCond .eq 8, 3) := lw_dr lw_d_cX12_signed_0 20 rfl
theorem dX12_signed_63 : decode cX12_signed 63 = .ok (.aload_n 0, 1) := lw_dr lw_d_cX12_signed_0 21 rfl
theorem dX12_signed_64 : decode cX12_signed 64 = .ok (.getfield 151, 3) := lw_dr lw_d_cX12_signed_0 22 rfl
theorem dX12_signed_67 : decode cX12_signed 67 = .ok (.ifCond .ne 38, 3) := lw_dr lw_d_cX12_signed_0 23 rfl
theorem dX12_signed_105 : decode cX12_signed 105 = .ok (.iload 5, 2) := lw_dr lw_d_cX12_signed_0 24 rfl
theorem dX12_signed_107 : decode cX12_signed 107 = .ok (.ireturn, 1) := lw_dr lw_d_cX12_signed_0 25 rfl
theorem dX12_signed_70 : decode cX12_signed 70 = .ok (.iload 5, 2) := lw_dr lw_d_cX12_signed_0 26 rfl
theorem dX12_signed_72 : decode cX12_signed 72 = .ok (.i2l, 1) := lw_dr lw_d_cX12_signed_0 27 rfl
theorem dX12_signed_73 : decode cX12_signed 73 = .ok (.iload_n 1, 1) := lw_dr lw_d_cX12_signed_0 28 rfl
theorem dX12_signed_74 : decode cX12_signed 74 = .ok (.ineg, 1) := lw_dr lw_d_cX12_signed_0 29 rfl
theorem dX12_signed_75 : decode cX12_signed 75 = .ok (.i2l, 1) := lw_dr lw_d_cX12_signed_0 30 rfl
theorem dX12_signed_76 : decode cX12_signed 76 = .ok (.iload_n 1, 1) := lw_dr lw_d_cX12_signed_0 31 rfl
theorem dX12_signed_77 : decode cX12_signed 77 = .ok (.i2l, 1) := lw_dr lw_d_cX12_signed_0 32 rfl
theorem dX12_signed_78 : decode cX12_signed 78 = .ok (.invokestatic 191, 3) := lw_dr lw_d_cX12_signed_0 33 rfl
theorem dX12_signed_81 : decode cX12_signed 81 = .ok (.ifCond .eq 17, 3) := lw_dr lw_d_cX12_signed_0 34 rfl
theorem dX12_signed_98 : decode cX12_signed 98 = .ok (.aload_n 0, 1) := lw_dr lw_d_cX12_signed_0 35 rfl
theorem dX12_signed_99 : decode cX12_signed 99 = .ok (.iconst 2, 1) := lw_dr lw_d_cX12_signed_0 36 rfl
theorem dX12_signed_100 : decode cX12_signed 100 = .ok (.iload 4, 2) := lw_dr lw_d_cX12_signed_0 37 rfl
theorem dX12_signed_102 : decode cX12_signed 102 = .ok (.invokevirtual 181, 3) := lw_dr lw_d_cX12_signed_0 38 rfl
theorem dX12_signed_84 : decode cX12_signed 84 = .ok (.iload_n 2, 1) := lw_dr lw_d_cX12_signed_0 39 rfl
theorem lw_d_cX12_signed_85 : lw_dl cX12_signed [(85, .iconst 2, 1), (86, .if_icmp .ne 19, 3), (89, .iload 5, 2), (91, .iload_n 1, 1), (92, .iadd, 1), (93, .iconst 2, 1), (94, .irem, 1), (95, .ifCond .eq 10, 3), (18, .iconst 1, 1), (19, .goto 4, 3), (34, .aload_n 0, 1), (35, .dup, 1), (36, .getfield 157, 3), (39, .iconst 1, 1)] = true := by decide +kernel
theorem dX12_signed_85 : decode cX12_signed 85 = .ok (.iconst 2, 1) := lw_dr lw_d_cX12_signed_85 0 rfl
theorem dX12_signed_86 : decode cX12_signed 86 = .ok (.if_icmp .ne 19, 3) := lw_dr lw_d_cX12_signed_85 1 rfl
theorem dX12_signed_89 : decode cX12_signed 89 = .ok (.iload 5, 2) := lw_dr lw_d_cX12_signed_85 2 rfl
theorem dX12_signed_91 : decode cX12_signed 91 = .ok (.iload_n 1, 1) := lw_dr lw_d_cX12_signed_85 3 rfl
theorem dX12_signed_92 : decode cX12_signed 92 = .ok (.iadd, 1) := lw_dr lw_d_cX12_signed_85 4 rfl
theorem dX12_signed_93 : decode cX12_signed 93 = .ok (.iconst 2, 1) := lw_dr lw_d_cX12_signed_85 5 rfl
theorem dX12_signed_94 : decode cX12_signed 94 = .ok (.irem, 1) := lw_dr lw_d_cX12_signed_85 6 rfl
theorem dX12_signed_95 : decode cX12_signed 95 = .ok (.ifCond .eq 10, 3) := lw_dr lw_d_cX12_signed_85 7 rfl
theorem dX12_signed_18 : decode cX12_signed 18 = .ok (.iconst 1, 1) := lw_dr lw_d_cX12_signed_85 8 rfl
theorem dX12_signed_19 : decode cX12_signed 19 = .ok (.goto 4, 3) := lw_dr lw_d_cX12_signed_85 9 rfl
theorem dX12_signed_34 : decode cX12_signed 34 = .ok (.aload_n 0, 1) := lw_dr lw_d_cX12_signed_85 10 rfl
theorem dX12_signed_35 : decode cX12_signed 35 = .ok (.dup, 1) := lw_dr lw_d_cX12_signed_85 11 rfl
theorem dX12_signed_36 : decode cX12_signed 36 = .ok (.getfield 157, 3) := lw_dr lw_d_cX12_signed_85 12 rfl
theorem dX12_signed_39 : decode cX12_signed 39 = .ok (.iconst 1, 1) := lw_dr lw_d_cX12_signed_85 13 rfl
theorem lw_d_cX12_signed_40 : lw_dl cX12_signed [(40, .iadd, 1), (41, .putfield 157, 3), (58, .iload 5, 2), (60, .ineg, 1), (61, .istore 5, 2), (7, .iconst 0, 1), (8, .ireturn, 1)] = true := by decide +kernel
theorem dX12_signed_40 : decode cX12_signed 40 = .ok (.iadd, 1) := lw_dr lw_d_cX12_signed_40 0 rfl
theorem dX12_signed_41 : decode cX12_signed 41 = .ok (.putfield 157, 3) := lw_dr lw_d_cX12_signed_40 1 rfl
theorem dX12_signed_58 : decode cX12_signed 58 = .ok (.iload 5, 2) := lw_dr lw_d_cX12_signed_40 2 rfl
theorem dX12_signed_60 : decode cX12_signed 60 = .ok (.ineg, 1) := lw_dr lw_d_cX12_signed_40 3 rfl
theorem dX12_signed_61 : decode cX12_signed 61 = .ok (.istore 5, 2) := lw_dr lw_d_cX12_signed_40 4 rfl
theorem dX12_signed_7 : decode cX12_signed 7 = .ok (.iconst 0, 1) := lw_dr lw_d_cX12_signed_40 5 rfl
theorem dX12_signed_8 : decode cX12_signed 8 = .ok (.ireturn, 1) := lw_dr lw_d_cX12_signed_40 6 rfl
theorem lw_d_cX12_rowTold_72 : lw_dl cX12_rowTold [(72, .iastore, 1), (73, .iinc 2 1, 3), (76, .goto (-38), 3), (35, .return_, 1), (7, .aload_n 0, 1), (8, .getfield 66, 3), (11, .iconst 3, 1), (12, .iaload, 1), (13, .aload_n 0, 1), (14, .getfield 66, 3), (17, .iconst 2, 1), (18, .iaload, 1), (19, .if_icmp .ne 9, 3), (22, .aload_n 0, 1), (23, .iconst 4, 1), (24, .iload_n 1, 1), (25, .invokevirtual 181, 3)] = true := by decide +kernel
theorem dX12_rowTold_72 : decode cX12_rowTold 72 = .ok (.iastore, 1) := lw_dr lw_d_cX12_rowTold_72 0 rfl
theorem dX12_rowTold_73 : decode cX12_rowTold 73 = .ok (.iinc 2 1, 3) := lw_dr lw_d_cX12_rowTold_72 1 rfl
theorem dX12_rowTold_76 : decode cX12_rowTold 76 = .ok (.goto (-38), 3) := lw_dr lw_d_cX12_rowTold_72 2 rfl
theorem dX12_rowTold_35 : decode cX12_rowTold 35 = .ok (.return_, 1) := lw_dr lw_d_cX12_rowTold_72 3 rfl
theorem dX12_rowTold_7 : decode cX12_rowTold 7 = .ok (.aload_n 0, 1) := lw_dr lw_d_cX12_rowTold_72 4 rfl
theorem dX12_rowTold_8 : decode cX12_rowTold 8 = .ok (.getfield 66, 3) := lw_dr lw_d_cX12_rowTold_72 5 rfl
theorem dX12_rowTold_11 : decode cX12_rowTold 11 = .ok (.iconst 3, 1) := lw_dr lw_d_cX12_rowTold_72 6 rfl
theorem dX12_rowTold_12 : decode cX12_rowTold 12 = .ok (.iaload, 1) := lw_dr lw_d_cX12_rowTold_72 7 rfl
theorem dX12_rowTold_13 : decode cX12_rowTold 13 = .ok (.aload_n 0, 1) := lw_dr lw_d_cX12_rowTold_72 8 rfl
theorem dX12_rowTold_14 : decode cX12_rowTold 14 = .ok (.getfield 66, 3) := lw_dr lw_d_cX12_rowTold_72 9 rfl
theorem dX12_rowTold_17 : decode cX12_rowTold 17 = .ok (.iconst 2, 1) := lw_dr lw_d_cX12_rowTold_72 10 rfl
theorem dX12_rowTold_18 : decode cX12_rowTold 18 = .ok (.iaload, 1) := lw_dr lw_d_cX12_rowTold_72 11 rfl
theorem dX12_rowTold_19 : decode cX12_rowTold 19 = .ok (.if_icmp .ne 9, 3) := lw_dr lw_d_cX12_rowTold_72 12 rfl
theorem dX12_rowTold_22 : decode cX12_rowTold 22 = .ok (.aload_n 0, 1) := lw_dr lw_d_cX12_rowTold_72 13 rfl
theorem dX12_rowTold_23 : decode cX12_rowTold 23 = .ok (.iconst 4, 1) := lw_dr lw_d_cX12_rowTold_72 14 rfl
theorem dX12_rowTold_24 : decode cX12_rowTold 24 = .ok (.iload_n 1, 1) := lw_dr lw_d_cX12_rowTold_72 15 rfl
theorem dX12_rowTold_25 : decode cX12_rowTold 25 = .ok (.invokevirtual 181, 3) := lw_dr lw_d_cX12_rowTold_72 16 rfl
theorem lw_d_cX12_wordTold_0 : lw_dl cX12_wordTold [(0, .aload_n 0, 1), (1, .getfield 151, 3), (4, .ifCond .ne 20, 3), (24, .aload_n 0, 1), (25, .getfield 151, 3), (28, .ifCond .eq 4, 3), (32, .iconst 0, 1), (33, .istore_n 2, 1), (34, .iload_n 2, 1), (35, .aload_n 0, 1), (36, .getfield 66, 3), (39, .iconst 1, 1), (40, .iaload, 1), (41, .if_icmp .ge 40, 3), (81, .aload_n 0, 1), (82, .getfield 66, 3), (85, .iconst 4, 1), (86, .dup2, 1), (87, .iaload, 1), (88, .iconst 1, 1), (89, .iadd, 1), (90, .iastore, 1), (91, .return_, 1), (44, .aload_n 0, 1), (45, .getfield 72, 3), (48, .bipush 80, 2), (50, .iconst 5, 1), (51, .aload_n 0, 1), (52, .getfield 66, 3), (55, .iconst 4, 1), (56, .iaload, 1), (57, .imul, 1), (58, .iadd, 1), (59, .iload_n 2, 1), (60, .iadd, 1), (61, .aload_n 0, 1), (62, .aload_n 0, 1), (63, .getfield 66, 3), (66, .iconst 0, 1), (67, .iaload, 1)] = true := by decide +kernel
theorem dX12_wordTold_0 : decode cX12_wordTold 0 = .ok (.aload_n 0, 1) := lw_dr lw_d_cX12_wordTold_0 0 rfl
theorem dX12_wordTold_1 : decode cX12_wordTold 1 = .ok (.getfield 151, 3) := lw_dr lw_d_cX12_wordTold_0 1 rfl
theorem dX12_wordTold_4 : decode cX12_wordTold 4 = .ok (.ifCond .ne 20, 3) := lw_dr lw_d_cX12_wordTold_0 2 rfl
theorem dX12_wordTold_24 : decode cX12_wordTold 24 = .ok (.aload_n 0, 1) := lw_dr lw_d_cX12_wordTold_0 3 rfl
theorem dX12_wordTold_25 : decode cX12_wordTold 25 = .ok (.getfield 151, 3) := lw_dr lw_d_cX12_wordTold_0 4 rfl
theorem dX12_wordTold_28 : decode cX12_wordTold 28 = .ok (.ifCond .eq 4, 3) := lw_dr lw_d_cX12_wordTold_0 5 rfl
theorem dX12_wordTold_32 : decode cX12_wordTold 32 = .ok (.iconst 0, 1) := lw_dr lw_d_cX12_wordTold_0 6 rfl
theorem dX12_wordTold_33 : decode cX12_wordTold 33 = .ok (.istore_n 2, 1) := lw_dr lw_d_cX12_wordTold_0 7 rfl
theorem dX12_wordTold_34 : decode cX12_wordTold 34 = .ok (.iload_n 2, 1) := lw_dr lw_d_cX12_wordTold_0 8 rfl
theorem dX12_wordTold_35 : decode cX12_wordTold 35 = .ok (.aload_n 0, 1) := lw_dr lw_d_cX12_wordTold_0 9 rfl
theorem dX12_wordTold_36 : decode cX12_wordTold 36 = .ok (.getfield 66, 3) := lw_dr lw_d_cX12_wordTold_0 10 rfl
theorem dX12_wordTold_39 : decode cX12_wordTold 39 = .ok (.iconst 1, 1) := lw_dr lw_d_cX12_wordTold_0 11 rfl
theorem dX12_wordTold_40 : decode cX12_wordTold 40 = .ok (.iaload, 1) := lw_dr lw_d_cX12_wordTold_0 12 rfl
theorem dX12_wordTold_41 : decode cX12_wordTold 41 = .ok (.if_icmp .ge 40, 3) := lw_dr lw_d_cX12_wordTold_0 13 rfl
theorem dX12_wordTold_81 : decode cX12_wordTold 81 = .ok (.aload_n 0, 1) := lw_dr lw_d_cX12_wordTold_0 14 rfl
theorem dX12_wordTold_82 : decode cX12_wordTold 82 = .ok (.getfield 66, 3) := lw_dr lw_d_cX12_wordTold_0 15 rfl
theorem dX12_wordTold_85 : decode cX12_wordTold 85 = .ok (.iconst 4, 1) := lw_dr lw_d_cX12_wordTold_0 16 rfl
theorem dX12_wordTold_86 : decode cX12_wordTold 86 = .ok (.dup2, 1) := lw_dr lw_d_cX12_wordTold_0 17 rfl
theorem dX12_wordTold_87 : decode cX12_wordTold 87 = .ok (.iaload, 1) := lw_dr lw_d_cX12_wordTold_0 18 rfl
theorem dX12_wordTold_88 : decode cX12_wordTold 88 = .ok (.iconst 1, 1) := lw_dr lw_d_cX12_wordTold_0 19 rfl
theorem dX12_wordTold_89 : decode cX12_wordTold 89 = .ok (.iadd, 1) := lw_dr lw_d_cX12_wordTold_0 20 rfl
theorem dX12_wordTold_90 : decode cX12_wordTold 90 = .ok (.iastore, 1) := lw_dr lw_d_cX12_wordTold_0 21 rfl
theorem dX12_wordTold_91 : decode cX12_wordTold 91 = .ok (.return_, 1) := lw_dr lw_d_cX12_wordTold_0 22 rfl
theorem dX12_wordTold_44 : decode cX12_wordTold 44 = .ok (.aload_n 0, 1) := lw_dr lw_d_cX12_wordTold_0 23 rfl
theorem dX12_wordTold_45 : decode cX12_wordTold 45 = .ok (.getfield 72, 3) := lw_dr lw_d_cX12_wordTold_0 24 rfl
theorem dX12_wordTold_48 : decode cX12_wordTold 48 = .ok (.bipush 80, 2) := lw_dr lw_d_cX12_wordTold_0 25 rfl
theorem dX12_wordTold_50 : decode cX12_wordTold 50 = .ok (.iconst 5, 1) := lw_dr lw_d_cX12_wordTold_0 26 rfl
theorem dX12_wordTold_51 : decode cX12_wordTold 51 = .ok (.aload_n 0, 1) := lw_dr lw_d_cX12_wordTold_0 27 rfl
theorem dX12_wordTold_52 : decode cX12_wordTold 52 = .ok (.getfield 66, 3) := lw_dr lw_d_cX12_wordTold_0 28 rfl
theorem dX12_wordTold_55 : decode cX12_wordTold 55 = .ok (.iconst 4, 1) := lw_dr lw_d_cX12_wordTold_0 29 rfl
theorem dX12_wordTold_56 : decode cX12_wordTold 56 = .ok (.iaload, 1) := lw_dr lw_d_cX12_wordTold_0 30 rfl
theorem dX12_wordTold_57 : decode cX12_wordTold 57 = .ok (.imul, 1) := lw_dr lw_d_cX12_wordTold_0 31 rfl
theorem dX12_wordTold_58 : decode cX12_wordTold 58 = .ok (.iadd, 1) := lw_dr lw_d_cX12_wordTold_0 32 rfl
theorem dX12_wordTold_59 : decode cX12_wordTold 59 = .ok (.iload_n 2, 1) := lw_dr lw_d_cX12_wordTold_0 33 rfl
theorem dX12_wordTold_60 : decode cX12_wordTold 60 = .ok (.iadd, 1) := lw_dr lw_d_cX12_wordTold_0 34 rfl
theorem dX12_wordTold_61 : decode cX12_wordTold 61 = .ok (.aload_n 0, 1) := lw_dr lw_d_cX12_wordTold_0 35 rfl
theorem dX12_wordTold_62 : decode cX12_wordTold 62 = .ok (.aload_n 0, 1) := lw_dr lw_d_cX12_wordTold_0 36 rfl
theorem dX12_wordTold_63 : decode cX12_wordTold 63 = .ok (.getfield 66, 3) := lw_dr lw_d_cX12_wordTold_0 37 rfl
theorem dX12_wordTold_66 : decode cX12_wordTold 66 = .ok (.iconst 0, 1) := lw_dr lw_d_cX12_wordTold_0 38 rfl
theorem dX12_wordTold_67 : decode cX12_wordTold 67 = .ok (.iaload, 1) := lw_dr lw_d_cX12_wordTold_0 39 rfl
theorem lw_d_cX12_wordTold_68 : lw_dl cX12_wordTold [(68, .iconst 1, 1), (69, .isub, 1), (70, .iconst 2, 1), (71, .invokevirtual 199, 3), (74, .iastore, 1), (75, .iinc 2 1, 3), (78, .goto (-44), 3), (31, .return_, 1), (7, .aload_n 0, 1), (8, .getfield 66, 3), (11, .iconst 4, 1), (12, .iaload, 1), (13, .bipush 16, 2), (15, .if_icmp .ne 9, 3), (18, .aload_n 0, 1), (19, .iconst 4, 1), (20, .iload_n 1, 1), (21, .invokevirtual 181, 3)] = true := by decide +kernel
theorem dX12_wordTold_68 : decode cX12_wordTold 68 = .ok (.iconst 1, 1) := lw_dr lw_d_cX12_wordTold_68 0 rfl
theorem dX12_wordTold_69 : decode cX12_wordTold 69 = .ok (.isub, 1) := lw_dr lw_d_cX12_wordTold_68 1 rfl
theorem dX12_wordTold_70 : decode cX12_wordTold 70 = .ok (.iconst 2, 1) := lw_dr lw_d_cX12_wordTold_68 2 rfl
theorem dX12_wordTold_71 : decode cX12_wordTold 71 = .ok (.invokevirtual 199, 3) := lw_dr lw_d_cX12_wordTold_68 3 rfl
theorem dX12_wordTold_74 : decode cX12_wordTold 74 = .ok (.iastore, 1) := lw_dr lw_d_cX12_wordTold_68 4 rfl
theorem dX12_wordTold_75 : decode cX12_wordTold 75 = .ok (.iinc 2 1, 3) := lw_dr lw_d_cX12_wordTold_68 5 rfl
theorem dX12_wordTold_78 : decode cX12_wordTold 78 = .ok (.goto (-44), 3) := lw_dr lw_d_cX12_wordTold_68 6 rfl
theorem dX12_wordTold_31 : decode cX12_wordTold 31 = .ok (.return_, 1) := lw_dr lw_d_cX12_wordTold_68 7 rfl
theorem dX12_wordTold_7 : decode cX12_wordTold 7 = .ok (.aload_n 0, 1) := lw_dr lw_d_cX12_wordTold_68 8 rfl
theorem dX12_wordTold_8 : decode cX12_wordTold 8 = .ok (.getfield 66, 3) := lw_dr lw_d_cX12_wordTold_68 9 rfl
theorem dX12_wordTold_11 : decode cX12_wordTold 11 = .ok (.iconst 4, 1) := lw_dr lw_d_cX12_wordTold_68 10 rfl
theorem dX12_wordTold_12 : decode cX12_wordTold 12 = .ok (.iaload, 1) := lw_dr lw_d_cX12_wordTold_68 11 rfl
theorem dX12_wordTold_13 : decode cX12_wordTold 13 = .ok (.bipush 16, 2) := lw_dr lw_d_cX12_wordTold_68 12 rfl
theorem dX12_wordTold_15 : decode cX12_wordTold 15 = .ok (.if_icmp .ne 9, 3) := lw_dr lw_d_cX12_wordTold_68 13 rfl
theorem dX12_wordTold_18 : decode cX12_wordTold 18 = .ok (.aload_n 0, 1) := lw_dr lw_d_cX12_wordTold_68 14 rfl
theorem dX12_wordTold_19 : decode cX12_wordTold 19 = .ok (.iconst 4, 1) := lw_dr lw_d_cX12_wordTold_68 15 rfl
theorem dX12_wordTold_20 : decode cX12_wordTold 20 = .ok (.iload_n 1, 1) := lw_dr lw_d_cX12_wordTold_68 16 rfl
theorem dX12_wordTold_21 : decode cX12_wordTold 21 = .ok (.invokevirtual 181, 3) := lw_dr lw_d_cX12_wordTold_68 17 rfl
theorem lw_d_cX12_goesOn_0 : lw_dl cX12_goesOn [(0, .aload_n 0, 1), (1, .getfield 151, 3), (4, .ifCond .ne 114, 3), (118, .aload_n 0, 1), (119, .bipush 42, 2), (121, .invokevirtual 185, 3), (124, .ifCond .ne 12, 3), (136, .aload_n 0, 1), (137, .getfield 7, 3), (140, .aload_n 0, 1), (141, .getfield 157, 3), (144, .iconst 1, 1), (145, .isub, 1), (146, .iaload, 1), (147, .bipush 42, 2), (149, .if_icmp .ne 7, 3), (156, .iconst 4, 1), (157, .istore_n 1, 1), (158, .aload_n 0, 1), (159, .iconst 3, 1), (160, .invokevirtual 283, 3), (163, .ifCond .ne 11, 3), (174, .aload_n 0, 1), (175, .invokevirtual 271, 3), (178, .goto (-20), 3), (166, .aload_n 0, 1), (167, .iconst 4, 1), (168, .invokevirtual 283, 3), (171, .ifCond .eq 10, 3), (181, .aload_n 0, 1), (182, .getfield 78, 3), (185, .aload_n 0, 1), (186, .getfield 259, 3), (189, .iload_n 1, 1), (190, .iastore, 1), (191, .aload_n 0, 1), (192, .dup, 1), (193, .getfield 259, 3), (196, .iconst 1, 1), (197, .iadd, 1)] = true := by decide +kernel
theorem dX12_goesOn_0 : decode cX12_goesOn 0 = .ok (.aload_n 0, 1) := lw_dr lw_d_cX12_goesOn_0 0 rfl
theorem dX12_goesOn_1 : decode cX12_goesOn 1 = .ok (.getfield 151, 3) := lw_dr lw_d_cX12_goesOn_0 1 rfl
theorem dX12_goesOn_4 : decode cX12_goesOn 4 = .ok (.ifCond .ne 114, 3) := lw_dr lw_d_cX12_goesOn_0 2 rfl
theorem dX12_goesOn_118 : decode cX12_goesOn 118 = .ok (.aload_n 0, 1) := lw_dr lw_d_cX12_goesOn_0 3 rfl
theorem dX12_goesOn_119 : decode cX12_goesOn 119 = .ok (.bipush 42, 2) := lw_dr lw_d_cX12_goesOn_0 4 rfl
theorem dX12_goesOn_121 : decode cX12_goesOn 121 = .ok (.invokevirtual 185, 3) := lw_dr lw_d_cX12_goesOn_0 5 rfl
theorem dX12_goesOn_124 : decode cX12_goesOn 124 = .ok (.ifCond .ne 12, 3) := lw_dr lw_d_cX12_goesOn_0 6 rfl
theorem dX12_goesOn_136 : decode cX12_goesOn 136 = .ok (.aload_n 0, 1) := lw_dr lw_d_cX12_goesOn_0 7 rfl
theorem dX12_goesOn_137 : decode cX12_goesOn 137 = .ok (.getfield 7, 3) := lw_dr lw_d_cX12_goesOn_0 8 rfl
theorem dX12_goesOn_140 : decode cX12_goesOn 140 = .ok (.aload_n 0, 1) := lw_dr lw_d_cX12_goesOn_0 9 rfl
theorem dX12_goesOn_141 : decode cX12_goesOn 141 = .ok (.getfield 157, 3) := lw_dr lw_d_cX12_goesOn_0 10 rfl
theorem dX12_goesOn_144 : decode cX12_goesOn 144 = .ok (.iconst 1, 1) := lw_dr lw_d_cX12_goesOn_0 11 rfl
theorem dX12_goesOn_145 : decode cX12_goesOn 145 = .ok (.isub, 1) := lw_dr lw_d_cX12_goesOn_0 12 rfl
theorem dX12_goesOn_146 : decode cX12_goesOn 146 = .ok (.iaload, 1) := lw_dr lw_d_cX12_goesOn_0 13 rfl
theorem dX12_goesOn_147 : decode cX12_goesOn 147 = .ok (.bipush 42, 2) := lw_dr lw_d_cX12_goesOn_0 14 rfl
theorem dX12_goesOn_149 : decode cX12_goesOn 149 = .ok (.if_icmp .ne 7, 3) := lw_dr lw_d_cX12_goesOn_0 15 rfl
theorem dX12_goesOn_156 : decode cX12_goesOn 156 = .ok (.iconst 4, 1) := lw_dr lw_d_cX12_goesOn_0 16 rfl
theorem dX12_goesOn_157 : decode cX12_goesOn 157 = .ok (.istore_n 1, 1) := lw_dr lw_d_cX12_goesOn_0 17 rfl
theorem dX12_goesOn_158 : decode cX12_goesOn 158 = .ok (.aload_n 0, 1) := lw_dr lw_d_cX12_goesOn_0 18 rfl
theorem dX12_goesOn_159 : decode cX12_goesOn 159 = .ok (.iconst 3, 1) := lw_dr lw_d_cX12_goesOn_0 19 rfl
theorem dX12_goesOn_160 : decode cX12_goesOn 160 = .ok (.invokevirtual 283, 3) := lw_dr lw_d_cX12_goesOn_0 20 rfl
theorem dX12_goesOn_163 : decode cX12_goesOn 163 = .ok (.ifCond .ne 11, 3) := lw_dr lw_d_cX12_goesOn_0 21 rfl
theorem dX12_goesOn_174 : decode cX12_goesOn 174 = .ok (.aload_n 0, 1) := lw_dr lw_d_cX12_goesOn_0 22 rfl
theorem dX12_goesOn_175 : decode cX12_goesOn 175 = .ok (.invokevirtual 271, 3) := lw_dr lw_d_cX12_goesOn_0 23 rfl
theorem dX12_goesOn_178 : decode cX12_goesOn 178 = .ok (.goto (-20), 3) := lw_dr lw_d_cX12_goesOn_0 24 rfl
theorem dX12_goesOn_166 : decode cX12_goesOn 166 = .ok (.aload_n 0, 1) := lw_dr lw_d_cX12_goesOn_0 25 rfl
theorem dX12_goesOn_167 : decode cX12_goesOn 167 = .ok (.iconst 4, 1) := lw_dr lw_d_cX12_goesOn_0 26 rfl
theorem dX12_goesOn_168 : decode cX12_goesOn 168 = .ok (.invokevirtual 283, 3) := lw_dr lw_d_cX12_goesOn_0 27 rfl
theorem dX12_goesOn_171 : decode cX12_goesOn 171 = .ok (.ifCond .eq 10, 3) := lw_dr lw_d_cX12_goesOn_0 28 rfl
theorem dX12_goesOn_181 : decode cX12_goesOn 181 = .ok (.aload_n 0, 1) := lw_dr lw_d_cX12_goesOn_0 29 rfl
theorem dX12_goesOn_182 : decode cX12_goesOn 182 = .ok (.getfield 78, 3) := lw_dr lw_d_cX12_goesOn_0 30 rfl
theorem dX12_goesOn_185 : decode cX12_goesOn 185 = .ok (.aload_n 0, 1) := lw_dr lw_d_cX12_goesOn_0 31 rfl
theorem dX12_goesOn_186 : decode cX12_goesOn 186 = .ok (.getfield 259, 3) := lw_dr lw_d_cX12_goesOn_0 32 rfl
theorem dX12_goesOn_189 : decode cX12_goesOn 189 = .ok (.iload_n 1, 1) := lw_dr lw_d_cX12_goesOn_0 33 rfl
theorem dX12_goesOn_190 : decode cX12_goesOn 190 = .ok (.iastore, 1) := lw_dr lw_d_cX12_goesOn_0 34 rfl
theorem dX12_goesOn_191 : decode cX12_goesOn 191 = .ok (.aload_n 0, 1) := lw_dr lw_d_cX12_goesOn_0 35 rfl
theorem dX12_goesOn_192 : decode cX12_goesOn 192 = .ok (.dup, 1) := lw_dr lw_d_cX12_goesOn_0 36 rfl
theorem dX12_goesOn_193 : decode cX12_goesOn 193 = .ok (.getfield 259, 3) := lw_dr lw_d_cX12_goesOn_0 37 rfl
theorem dX12_goesOn_196 : decode cX12_goesOn 196 = .ok (.iconst 1, 1) := lw_dr lw_d_cX12_goesOn_0 38 rfl
theorem dX12_goesOn_197 : decode cX12_goesOn 197 = .ok (.iadd, 1) := lw_dr lw_d_cX12_goesOn_0 39 rfl
theorem lw_d_cX12_goesOn_198 : lw_dl cX12_goesOn [(198, .putfield 259, 3), (201, .iconst 1, 1), (202, .ireturn, 1)] = true := by decide +kernel
theorem dX12_goesOn_198 : decode cX12_goesOn 198 = .ok (.putfield 259, 3) := lw_dr lw_d_cX12_goesOn_198 0 rfl
theorem dX12_goesOn_201 : decode cX12_goesOn 201 = .ok (.iconst 1, 1) := lw_dr lw_d_cX12_goesOn_198 1 rfl
theorem dX12_goesOn_202 : decode cX12_goesOn 202 = .ok (.ireturn, 1) := lw_dr lw_d_cX12_goesOn_198 2 rfl
theorem lw_d_cX12_isOn_0 : lw_dl cX12_isOn [(0, .aload_n 0, 1), (1, .getfield 259, 3), (4, .ifCond .le 22, 3), (26, .iconst 0, 1), (27, .ireturn, 1), (7, .aload_n 0, 1), (8, .getfield 78, 3), (11, .aload_n 0, 1), (12, .getfield 259, 3), (15, .iconst 1, 1), (16, .isub, 1), (17, .iaload, 1), (18, .iload_n 1, 1), (19, .if_icmp .ne 7, 3), (22, .iconst 1, 1), (23, .goto 4, 3)] = true := by decide +kernel
theorem dX12_isOn_0 : decode cX12_isOn 0 = .ok (.aload_n 0, 1) := lw_dr lw_d_cX12_isOn_0 0 rfl
theorem dX12_isOn_1 : decode cX12_isOn 1 = .ok (.getfield 259, 3) := lw_dr lw_d_cX12_isOn_0 1 rfl
theorem dX12_isOn_4 : decode cX12_isOn 4 = .ok (.ifCond .le 22, 3) := lw_dr lw_d_cX12_isOn_0 2 rfl
theorem dX12_isOn_26 : decode cX12_isOn 26 = .ok (.iconst 0, 1) := lw_dr lw_d_cX12_isOn_0 3 rfl
theorem dX12_isOn_27 : decode cX12_isOn 27 = .ok (.ireturn, 1) := lw_dr lw_d_cX12_isOn_0 4 rfl
theorem dX12_isOn_7 : decode cX12_isOn 7 = .ok (.aload_n 0, 1) := lw_dr lw_d_cX12_isOn_0 5 rfl
theorem dX12_isOn_8 : decode cX12_isOn 8 = .ok (.getfield 78, 3) := lw_dr lw_d_cX12_isOn_0 6 rfl
theorem dX12_isOn_11 : decode cX12_isOn 11 = .ok (.aload_n 0, 1) := lw_dr lw_d_cX12_isOn_0 7 rfl
theorem dX12_isOn_12 : decode cX12_isOn 12 = .ok (.getfield 259, 3) := lw_dr lw_d_cX12_isOn_0 8 rfl
theorem dX12_isOn_15 : decode cX12_isOn 15 = .ok (.iconst 1, 1) := lw_dr lw_d_cX12_isOn_0 9 rfl
theorem dX12_isOn_16 : decode cX12_isOn 16 = .ok (.isub, 1) := lw_dr lw_d_cX12_isOn_0 10 rfl
theorem dX12_isOn_17 : decode cX12_isOn 17 = .ok (.iaload, 1) := lw_dr lw_d_cX12_isOn_0 11 rfl
theorem dX12_isOn_18 : decode cX12_isOn 18 = .ok (.iload_n 1, 1) := lw_dr lw_d_cX12_isOn_0 12 rfl
theorem dX12_isOn_19 : decode cX12_isOn 19 = .ok (.if_icmp .ne 7, 3) := lw_dr lw_d_cX12_isOn_0 13 rfl
theorem dX12_isOn_22 : decode cX12_isOn 22 = .ok (.iconst 1, 1) := lw_dr lw_d_cX12_isOn_0 14 rfl
theorem dX12_isOn_23 : decode cX12_isOn 23 = .ok (.goto 4, 3) := lw_dr lw_d_cX12_isOn_0 15 rfl
theorem lw_d_cX12_drops_0 : lw_dl cX12_drops [(0, .aload_n 0, 1), (1, .dup, 1), (2, .getfield 259, 3), (5, .iconst 1, 1), (6, .isub, 1), (7, .putfield 259, 3), (10, .aload_n 0, 1), (11, .aload_n 0, 1), (12, .getfield 78, 3), (15, .aload_n 0, 1), (16, .getfield 259, 3), (19, .iaload, 1), (20, .invokevirtual 262, 3), (23, .return_, 1)] = true := by decide +kernel
theorem dX12_drops_0 : decode cX12_drops 0 = .ok (.aload_n 0, 1) := lw_dr lw_d_cX12_drops_0 0 rfl
theorem dX12_drops_1 : decode cX12_drops 1 = .ok (.dup, 1) := lw_dr lw_d_cX12_drops_0 1 rfl
theorem dX12_drops_2 : decode cX12_drops 2 = .ok (.getfield 259, 3) := lw_dr lw_d_cX12_drops_0 2 rfl
theorem dX12_drops_5 : decode cX12_drops 5 = .ok (.iconst 1, 1) := lw_dr lw_d_cX12_drops_0 3 rfl
theorem dX12_drops_6 : decode cX12_drops 6 = .ok (.isub, 1) := lw_dr lw_d_cX12_drops_0 4 rfl
theorem dX12_drops_7 : decode cX12_drops 7 = .ok (.putfield 259, 3) := lw_dr lw_d_cX12_drops_0 5 rfl
theorem dX12_drops_10 : decode cX12_drops 10 = .ok (.aload_n 0, 1) := lw_dr lw_d_cX12_drops_0 6 rfl
theorem dX12_drops_11 : decode cX12_drops 11 = .ok (.aload_n 0, 1) := lw_dr lw_d_cX12_drops_0 7 rfl
theorem dX12_drops_12 : decode cX12_drops 12 = .ok (.getfield 78, 3) := lw_dr lw_d_cX12_drops_0 8 rfl
theorem dX12_drops_15 : decode cX12_drops 15 = .ok (.aload_n 0, 1) := lw_dr lw_d_cX12_drops_0 9 rfl
theorem dX12_drops_16 : decode cX12_drops 16 = .ok (.getfield 259, 3) := lw_dr lw_d_cX12_drops_0 10 rfl
theorem dX12_drops_19 : decode cX12_drops 19 = .ok (.iaload, 1) := lw_dr lw_d_cX12_drops_0 11 rfl
theorem dX12_drops_20 : decode cX12_drops 20 = .ok (.invokevirtual 262, 3) := lw_dr lw_d_cX12_drops_0 12 rfl
theorem dX12_drops_23 : decode cX12_drops 23 = .ok (.return_, 1) := lw_dr lw_d_cX12_drops_0 13 rfl
theorem lw_d_cX12_mark_0 : lw_dl cX12_mark [(0, .aload_n 0, 1), (1, .getfield 259, 3), (4, .iconst 1, 1), (5, .isub, 1), (6, .istore_n 1, 1), (7, .iload_n 1, 1), (8, .aload_n 0, 1), (9, .getfield 265, 3), (12, .if_icmp .lt 22, 3), (34, .iload_n 1, 1), (35, .aload_n 0, 1), (36, .getfield 265, 3), (39, .if_icmp .lt 12, 3), (51, .iconst (-1), 1), (52, .ireturn, 1), (42, .aload_n 0, 1), (43, .getfield 78, 3), (46, .iload_n 1, 1), (47, .iaload, 1), (48, .goto 4, 3), (15, .aload_n 0, 1), (16, .aload_n 0, 1), (17, .getfield 78, 3), (20, .iload_n 1, 1), (21, .iaload, 1), (22, .invokevirtual 268, 3), (25, .ifCond .ne 9, 3), (28, .iinc 1 (-1), 3), (31, .goto (-24), 3)] = true := by decide +kernel
theorem dX12_mark_0 : decode cX12_mark 0 = .ok (.aload_n 0, 1) := lw_dr lw_d_cX12_mark_0 0 rfl
theorem dX12_mark_1 : decode cX12_mark 1 = .ok (.getfield 259, 3) := lw_dr lw_d_cX12_mark_0 1 rfl
theorem dX12_mark_4 : decode cX12_mark 4 = .ok (.iconst 1, 1) := lw_dr lw_d_cX12_mark_0 2 rfl
theorem dX12_mark_5 : decode cX12_mark 5 = .ok (.isub, 1) := lw_dr lw_d_cX12_mark_0 3 rfl
theorem dX12_mark_6 : decode cX12_mark 6 = .ok (.istore_n 1, 1) := lw_dr lw_d_cX12_mark_0 4 rfl
theorem dX12_mark_7 : decode cX12_mark 7 = .ok (.iload_n 1, 1) := lw_dr lw_d_cX12_mark_0 5 rfl
theorem dX12_mark_8 : decode cX12_mark 8 = .ok (.aload_n 0, 1) := lw_dr lw_d_cX12_mark_0 6 rfl
theorem dX12_mark_9 : decode cX12_mark 9 = .ok (.getfield 265, 3) := lw_dr lw_d_cX12_mark_0 7 rfl
theorem dX12_mark_12 : decode cX12_mark 12 = .ok (.if_icmp .lt 22, 3) := lw_dr lw_d_cX12_mark_0 8 rfl
theorem dX12_mark_34 : decode cX12_mark 34 = .ok (.iload_n 1, 1) := lw_dr lw_d_cX12_mark_0 9 rfl
theorem dX12_mark_35 : decode cX12_mark 35 = .ok (.aload_n 0, 1) := lw_dr lw_d_cX12_mark_0 10 rfl
theorem dX12_mark_36 : decode cX12_mark 36 = .ok (.getfield 265, 3) := lw_dr lw_d_cX12_mark_0 11 rfl
theorem dX12_mark_39 : decode cX12_mark 39 = .ok (.if_icmp .lt 12, 3) := lw_dr lw_d_cX12_mark_0 12 rfl
theorem dX12_mark_51 : decode cX12_mark 51 = .ok (.iconst (-1), 1) := lw_dr lw_d_cX12_mark_0 13 rfl
theorem dX12_mark_52 : decode cX12_mark 52 = .ok (.ireturn, 1) := lw_dr lw_d_cX12_mark_0 14 rfl
theorem dX12_mark_42 : decode cX12_mark 42 = .ok (.aload_n 0, 1) := lw_dr lw_d_cX12_mark_0 15 rfl
theorem dX12_mark_43 : decode cX12_mark 43 = .ok (.getfield 78, 3) := lw_dr lw_d_cX12_mark_0 16 rfl
theorem dX12_mark_46 : decode cX12_mark 46 = .ok (.iload_n 1, 1) := lw_dr lw_d_cX12_mark_0 17 rfl
theorem dX12_mark_47 : decode cX12_mark 47 = .ok (.iaload, 1) := lw_dr lw_d_cX12_mark_0 18 rfl
theorem dX12_mark_48 : decode cX12_mark 48 = .ok (.goto 4, 3) := lw_dr lw_d_cX12_mark_0 19 rfl
theorem dX12_mark_15 : decode cX12_mark 15 = .ok (.aload_n 0, 1) := lw_dr lw_d_cX12_mark_0 20 rfl
theorem dX12_mark_16 : decode cX12_mark 16 = .ok (.aload_n 0, 1) := lw_dr lw_d_cX12_mark_0 21 rfl
theorem dX12_mark_17 : decode cX12_mark 17 = .ok (.getfield 78, 3) := lw_dr lw_d_cX12_mark_0 22 rfl
theorem dX12_mark_20 : decode cX12_mark 20 = .ok (.iload_n 1, 1) := lw_dr lw_d_cX12_mark_0 23 rfl
theorem dX12_mark_21 : decode cX12_mark 21 = .ok (.iaload, 1) := lw_dr lw_d_cX12_mark_0 24 rfl
theorem dX12_mark_22 : decode cX12_mark 22 = .ok (.invokevirtual 268, 3) := lw_dr lw_d_cX12_mark_0 25 rfl
theorem dX12_mark_25 : decode cX12_mark 25 = .ok (.ifCond .ne 9, 3) := lw_dr lw_d_cX12_mark_0 26 rfl
theorem dX12_mark_28 : decode cX12_mark 28 = .ok (.iinc 1 (-1), 3) := lw_dr lw_d_cX12_mark_0 27 rfl
theorem dX12_mark_31 : decode cX12_mark 31 = .ok (.goto (-24), 3) := lw_dr lw_d_cX12_mark_0 28 rfl
theorem lw_d_cX12_isMark_0 : lw_dl cX12_isMark [(0, .iload_n 1, 1), (1, .bipush 20, 2), (3, .if_icmp .lt 13, 3), (16, .iconst 0, 1), (17, .ireturn, 1), (6, .iload_n 1, 1), (7, .bipush 24, 2), (9, .if_icmp .gt 7, 3), (12, .iconst 1, 1), (13, .goto 4, 3)] = true := by decide +kernel
theorem dX12_isMark_0 : decode cX12_isMark 0 = .ok (.iload_n 1, 1) := lw_dr lw_d_cX12_isMark_0 0 rfl
theorem dX12_isMark_1 : decode cX12_isMark 1 = .ok (.bipush 20, 2) := lw_dr lw_d_cX12_isMark_0 1 rfl
theorem dX12_isMark_3 : decode cX12_isMark 3 = .ok (.if_icmp .lt 13, 3) := lw_dr lw_d_cX12_isMark_0 2 rfl
theorem dX12_isMark_16 : decode cX12_isMark 16 = .ok (.iconst 0, 1) := lw_dr lw_d_cX12_isMark_0 3 rfl
theorem dX12_isMark_17 : decode cX12_isMark 17 = .ok (.ireturn, 1) := lw_dr lw_d_cX12_isMark_0 4 rfl
theorem dX12_isMark_6 : decode cX12_isMark 6 = .ok (.iload_n 1, 1) := lw_dr lw_d_cX12_isMark_0 5 rfl
theorem dX12_isMark_7 : decode cX12_isMark 7 = .ok (.bipush 24, 2) := lw_dr lw_d_cX12_isMark_0 6 rfl
theorem dX12_isMark_9 : decode cX12_isMark 9 = .ok (.if_icmp .gt 7, 3) := lw_dr lw_d_cX12_isMark_0 7 rfl
theorem dX12_isMark_12 : decode cX12_isMark 12 = .ok (.iconst 1, 1) := lw_dr lw_d_cX12_isMark_0 8 rfl
theorem dX12_isMark_13 : decode cX12_isMark 13 = .ok (.goto 4, 3) := lw_dr lw_d_cX12_isMark_0 9 rfl
theorem lw_d_cX12_dropsToMark_0 : lw_dl cX12_dropsToMark [(0, .aload_n 0, 1), (1, .getfield 259, 3), (4, .aload_n 0, 1), (5, .getfield 265, 3), (8, .if_icmp .le 28, 3), (36, .return_, 1), (11, .aload_n 0, 1), (12, .aload_n 0, 1), (13, .getfield 78, 3), (16, .aload_n 0, 1), (17, .getfield 259, 3), (20, .iconst 1, 1), (21, .isub, 1), (22, .iaload, 1), (23, .invokevirtual 268, 3), (26, .ifCond .ne 10, 3), (29, .aload_n 0, 1), (30, .invokevirtual 271, 3), (33, .goto (-33), 3)] = true := by decide +kernel
theorem dX12_dropsToMark_0 : decode cX12_dropsToMark 0 = .ok (.aload_n 0, 1) := lw_dr lw_d_cX12_dropsToMark_0 0 rfl
theorem dX12_dropsToMark_1 : decode cX12_dropsToMark 1 = .ok (.getfield 259, 3) := lw_dr lw_d_cX12_dropsToMark_0 1 rfl
theorem dX12_dropsToMark_4 : decode cX12_dropsToMark 4 = .ok (.aload_n 0, 1) := lw_dr lw_d_cX12_dropsToMark_0 2 rfl
theorem dX12_dropsToMark_5 : decode cX12_dropsToMark 5 = .ok (.getfield 265, 3) := lw_dr lw_d_cX12_dropsToMark_0 3 rfl
theorem dX12_dropsToMark_8 : decode cX12_dropsToMark 8 = .ok (.if_icmp .le 28, 3) := lw_dr lw_d_cX12_dropsToMark_0 4 rfl
theorem dX12_dropsToMark_36 : decode cX12_dropsToMark 36 = .ok (.return_, 1) := lw_dr lw_d_cX12_dropsToMark_0 5 rfl
theorem dX12_dropsToMark_11 : decode cX12_dropsToMark 11 = .ok (.aload_n 0, 1) := lw_dr lw_d_cX12_dropsToMark_0 6 rfl
theorem dX12_dropsToMark_12 : decode cX12_dropsToMark 12 = .ok (.aload_n 0, 1) := lw_dr lw_d_cX12_dropsToMark_0 7 rfl
theorem dX12_dropsToMark_13 : decode cX12_dropsToMark 13 = .ok (.getfield 78, 3) := lw_dr lw_d_cX12_dropsToMark_0 8 rfl
theorem dX12_dropsToMark_16 : decode cX12_dropsToMark 16 = .ok (.aload_n 0, 1) := lw_dr lw_d_cX12_dropsToMark_0 9 rfl
theorem dX12_dropsToMark_17 : decode cX12_dropsToMark 17 = .ok (.getfield 259, 3) := lw_dr lw_d_cX12_dropsToMark_0 10 rfl
theorem dX12_dropsToMark_20 : decode cX12_dropsToMark 20 = .ok (.iconst 1, 1) := lw_dr lw_d_cX12_dropsToMark_0 11 rfl
theorem dX12_dropsToMark_21 : decode cX12_dropsToMark 21 = .ok (.isub, 1) := lw_dr lw_d_cX12_dropsToMark_0 12 rfl
theorem dX12_dropsToMark_22 : decode cX12_dropsToMark 22 = .ok (.iaload, 1) := lw_dr lw_d_cX12_dropsToMark_0 13 rfl
theorem dX12_dropsToMark_23 : decode cX12_dropsToMark 23 = .ok (.invokevirtual 268, 3) := lw_dr lw_d_cX12_dropsToMark_0 14 rfl
theorem dX12_dropsToMark_26 : decode cX12_dropsToMark 26 = .ok (.ifCond .ne 10, 3) := lw_dr lw_d_cX12_dropsToMark_0 15 rfl
theorem dX12_dropsToMark_29 : decode cX12_dropsToMark 29 = .ok (.aload_n 0, 1) := lw_dr lw_d_cX12_dropsToMark_0 16 rfl
theorem dX12_dropsToMark_30 : decode cX12_dropsToMark 30 = .ok (.invokevirtual 271, 3) := lw_dr lw_d_cX12_dropsToMark_0 17 rfl
theorem dX12_dropsToMark_33 : decode cX12_dropsToMark 33 = .ok (.goto (-33), 3) := lw_dr lw_d_cX12_dropsToMark_0 18 rfl
theorem lw_d_cX12_test_0 : lw_dl cX12_test [(0, .iconst 1, 1), (1, .istore_n 1, 1), (2, .iload_n 1, 1), (3, .ifCond .eq 107, 3), (6, .aload_n 0, 1), (7, .getfield 151, 3), (10, .ifCond .ne 100, 3), (110, .aload_n 0, 1), (111, .getfield 151, 3), (114, .ifCond .ne 17, 3), (131, .return_, 1), (117, .aload_n 0, 1), (118, .getfield 259, 3), (121, .ifCond .le 10, 3), (124, .aload_n 0, 1), (125, .invokevirtual 271, 3), (128, .goto (-18), 3)] = true := by decide +kernel
theorem dX12_test_0 : decode cX12_test 0 = .ok (.iconst 1, 1) := lw_dr lw_d_cX12_test_0 0 rfl
theorem dX12_test_1 : decode cX12_test 1 = .ok (.istore_n 1, 1) := lw_dr lw_d_cX12_test_0 1 rfl
theorem dX12_test_2 : decode cX12_test 2 = .ok (.iload_n 1, 1) := lw_dr lw_d_cX12_test_0 2 rfl
theorem dX12_test_3 : decode cX12_test 3 = .ok (.ifCond .eq 107, 3) := lw_dr lw_d_cX12_test_0 3 rfl
theorem dX12_test_6 : decode cX12_test 6 = .ok (.aload_n 0, 1) := lw_dr lw_d_cX12_test_0 4 rfl
theorem dX12_test_7 : decode cX12_test 7 = .ok (.getfield 151, 3) := lw_dr lw_d_cX12_test_0 5 rfl
theorem dX12_test_10 : decode cX12_test 10 = .ok (.ifCond .ne 100, 3) := lw_dr lw_d_cX12_test_0 6 rfl
theorem dX12_test_110 : decode cX12_test 110 = .ok (.aload_n 0, 1) := lw_dr lw_d_cX12_test_0 7 rfl
theorem dX12_test_111 : decode cX12_test 111 = .ok (.getfield 151, 3) := lw_dr lw_d_cX12_test_0 8 rfl
theorem dX12_test_114 : decode cX12_test 114 = .ok (.ifCond .ne 17, 3) := lw_dr lw_d_cX12_test_0 9 rfl
theorem dX12_test_131 : decode cX12_test 131 = .ok (.return_, 1) := lw_dr lw_d_cX12_test_0 10 rfl
theorem dX12_test_117 : decode cX12_test 117 = .ok (.aload_n 0, 1) := lw_dr lw_d_cX12_test_0 11 rfl
theorem dX12_test_118 : decode cX12_test 118 = .ok (.getfield 259, 3) := lw_dr lw_d_cX12_test_0 12 rfl
theorem dX12_test_121 : decode cX12_test 121 = .ok (.ifCond .le 10, 3) := lw_dr lw_d_cX12_test_0 13 rfl
theorem dX12_test_124 : decode cX12_test 124 = .ok (.aload_n 0, 1) := lw_dr lw_d_cX12_test_0 14 rfl
theorem dX12_test_125 : decode cX12_test 125 = .ok (.invokevirtual 271, 3) := lw_dr lw_d_cX12_test_0 15 rfl
theorem dX12_test_128 : decode cX12_test 128 = .ok (.goto (-18), 3) := lw_dr lw_d_cX12_test_0 16 rfl
theorem lw_d_cX12_fact_0 : lw_dl cX12_fact [(0, .aload_n 0, 1), (1, .aload_n 0, 1), (2, .getfield 45, 3), (5, .invokevirtual 178, 3), (8, .ifCond .eq 10, 3), (18, .aload_n 0, 1), (19, .invokevirtual 293, 3)] = true := by decide +kernel
theorem dX12_fact_0 : decode cX12_fact 0 = .ok (.aload_n 0, 1) := lw_dr lw_d_cX12_fact_0 0 rfl
theorem dX12_fact_1 : decode cX12_fact 1 = .ok (.aload_n 0, 1) := lw_dr lw_d_cX12_fact_0 1 rfl
theorem dX12_fact_2 : decode cX12_fact 2 = .ok (.getfield 45, 3) := lw_dr lw_d_cX12_fact_0 2 rfl
theorem dX12_fact_5 : decode cX12_fact 5 = .ok (.invokevirtual 178, 3) := lw_dr lw_d_cX12_fact_0 3 rfl
theorem dX12_fact_8 : decode cX12_fact 8 = .ok (.ifCond .eq 10, 3) := lw_dr lw_d_cX12_fact_0 4 rfl
theorem dX12_fact_18 : decode cX12_fact 18 = .ok (.aload_n 0, 1) := lw_dr lw_d_cX12_fact_0 5 rfl
theorem dX12_fact_19 : decode cX12_fact 19 = .ok (.invokevirtual 293, 3) := lw_dr lw_d_cX12_fact_0 6 rfl
theorem lw_d_cX12_dropsNots_0 : lw_dl cX12_dropsNots [(0, .aload_n 0, 1), (1, .getfield 151, 3), (4, .ifCond .ne 29, 3), (33, .return_, 1), (7, .aload_n 0, 1), (8, .bipush 16, 2), (10, .invokevirtual 283, 3), (13, .ifCond .eq 20, 3), (16, .aload_n 0, 1), (17, .dup, 1), (18, .getfield 256, 3), (21, .iconst 1, 1), (22, .isub, 1), (23, .putfield 256, 3), (26, .aload_n 0, 1), (27, .invokevirtual 271, 3), (30, .goto (-30), 3)] = true := by decide +kernel
theorem dX12_dropsNots_0 : decode cX12_dropsNots 0 = .ok (.aload_n 0, 1) := lw_dr lw_d_cX12_dropsNots_0 0 rfl
theorem dX12_dropsNots_1 : decode cX12_dropsNots 1 = .ok (.getfield 151, 3) := lw_dr lw_d_cX12_dropsNots_0 1 rfl
theorem dX12_dropsNots_4 : decode cX12_dropsNots 4 = .ok (.ifCond .ne 29, 3) := lw_dr lw_d_cX12_dropsNots_0 2 rfl
theorem dX12_dropsNots_33 : decode cX12_dropsNots 33 = .ok (.return_, 1) := lw_dr lw_d_cX12_dropsNots_0 3 rfl
theorem dX12_dropsNots_7 : decode cX12_dropsNots 7 = .ok (.aload_n 0, 1) := lw_dr lw_d_cX12_dropsNots_0 4 rfl
theorem dX12_dropsNots_8 : decode cX12_dropsNots 8 = .ok (.bipush 16, 2) := lw_dr lw_d_cX12_dropsNots_0 5 rfl
theorem dX12_dropsNots_10 : decode cX12_dropsNots 10 = .ok (.invokevirtual 283, 3) := lw_dr lw_d_cX12_dropsNots_0 6 rfl
theorem dX12_dropsNots_13 : decode cX12_dropsNots 13 = .ok (.ifCond .eq 20, 3) := lw_dr lw_d_cX12_dropsNots_0 7 rfl
theorem dX12_dropsNots_16 : decode cX12_dropsNots 16 = .ok (.aload_n 0, 1) := lw_dr lw_d_cX12_dropsNots_0 8 rfl
theorem dX12_dropsNots_17 : decode cX12_dropsNots 17 = .ok (.dup, 1) := lw_dr lw_d_cX12_dropsNots_0 9 rfl
theorem dX12_dropsNots_18 : decode cX12_dropsNots 18 = .ok (.getfield 256, 3) := lw_dr lw_d_cX12_dropsNots_0 10 rfl
theorem dX12_dropsNots_21 : decode cX12_dropsNots 21 = .ok (.iconst 1, 1) := lw_dr lw_d_cX12_dropsNots_0 11 rfl
theorem dX12_dropsNots_22 : decode cX12_dropsNots 22 = .ok (.isub, 1) := lw_dr lw_d_cX12_dropsNots_0 12 rfl
theorem dX12_dropsNots_23 : decode cX12_dropsNots 23 = .ok (.putfield 256, 3) := lw_dr lw_d_cX12_dropsNots_0 13 rfl
theorem dX12_dropsNots_26 : decode cX12_dropsNots 26 = .ok (.aload_n 0, 1) := lw_dr lw_d_cX12_dropsNots_0 14 rfl
theorem dX12_dropsNots_27 : decode cX12_dropsNots 27 = .ok (.invokevirtual 271, 3) := lw_dr lw_d_cX12_dropsNots_0 15 rfl
theorem dX12_dropsNots_30 : decode cX12_dropsNots 30 = .ok (.goto (-30), 3) := lw_dr lw_d_cX12_dropsNots_0 16 rfl
theorem lw_d_cX12_goesOnTest_0 : lw_dl cX12_goesOnTest [(0, .aload_n 0, 1), (1, .getfield 151, 3), (4, .ifCond .ne 72, 3), (76, .aload_n 0, 1), (77, .aload_n 0, 1), (78, .getfield 39, 3), (81, .invokevirtual 178, 3), (84, .ifCond .eq 42, 3), (126, .aload_n 0, 1), (127, .aload_n 0, 1), (128, .getfield 36, 3), (131, .invokevirtual 178, 3), (134, .ifCond .eq 51, 3), (185, .aload_n 0, 1), (186, .getfield 151, 3), (189, .ifCond .ne 19, 3), (208, .iconst 0, 1), (209, .ireturn, 1), (192, .aload_n 0, 1), (193, .invokevirtual 305, 3), (196, .ifCond .eq 12, 3), (199, .aload_n 0, 1), (200, .iconst 1, 1), (201, .aload_n 0, 1), (202, .getfield 157, 3), (205, .invokevirtual 181, 3), (137, .aload_n 0, 1), (138, .bipush 14, 2), (140, .invokevirtual 283, 3), (143, .ifCond .ne 12, 3), (155, .aload_n 0, 1), (156, .invokevirtual 271, 3), (159, .goto (-22), 3), (146, .aload_n 0, 1), (147, .bipush 15, 2), (149, .invokevirtual 283, 3), (152, .ifCond .eq 10, 3), (162, .aload_n 0, 1), (163, .getfield 78, 3), (166, .aload_n 0, 1)] = true := by decide +kernel
theorem dX12_goesOnTest_0 : decode cX12_goesOnTest 0 = .ok (.aload_n 0, 1) := lw_dr lw_d_cX12_goesOnTest_0 0 rfl
theorem dX12_goesOnTest_1 : decode cX12_goesOnTest 1 = .ok (.getfield 151, 3) := lw_dr lw_d_cX12_goesOnTest_0 1 rfl
theorem dX12_goesOnTest_4 : decode cX12_goesOnTest 4 = .ok (.ifCond .ne 72, 3) := lw_dr lw_d_cX12_goesOnTest_0 2 rfl
theorem dX12_goesOnTest_76 : decode cX12_goesOnTest 76 = .ok (.aload_n 0, 1) := lw_dr lw_d_cX12_goesOnTest_0 3 rfl
theorem dX12_goesOnTest_77 : decode cX12_goesOnTest 77 = .ok (.aload_n 0, 1) := lw_dr lw_d_cX12_goesOnTest_0 4 rfl
theorem dX12_goesOnTest_78 : decode cX12_goesOnTest 78 = .ok (.getfield 39, 3) := lw_dr lw_d_cX12_goesOnTest_0 5 rfl
theorem dX12_goesOnTest_81 : decode cX12_goesOnTest 81 = .ok (.invokevirtual 178, 3) := lw_dr lw_d_cX12_goesOnTest_0 6 rfl
theorem dX12_goesOnTest_84 : decode cX12_goesOnTest 84 = .ok (.ifCond .eq 42, 3) := lw_dr lw_d_cX12_goesOnTest_0 7 rfl
theorem dX12_goesOnTest_126 : decode cX12_goesOnTest 126 = .ok (.aload_n 0, 1) := lw_dr lw_d_cX12_goesOnTest_0 8 rfl
theorem dX12_goesOnTest_127 : decode cX12_goesOnTest 127 = .ok (.aload_n 0, 1) := lw_dr lw_d_cX12_goesOnTest_0 9 rfl
theorem dX12_goesOnTest_128 : decode cX12_goesOnTest 128 = .ok (.getfield 36, 3) := lw_dr lw_d_cX12_goesOnTest_0 10 rfl
theorem dX12_goesOnTest_131 : decode cX12_goesOnTest 131 = .ok (.invokevirtual 178, 3) := lw_dr lw_d_cX12_goesOnTest_0 11 rfl
theorem dX12_goesOnTest_134 : decode cX12_goesOnTest 134 = .ok (.ifCond .eq 51, 3) := lw_dr lw_d_cX12_goesOnTest_0 12 rfl
theorem dX12_goesOnTest_185 : decode cX12_goesOnTest 185 = .ok (.aload_n 0, 1) := lw_dr lw_d_cX12_goesOnTest_0 13 rfl
theorem dX12_goesOnTest_186 : decode cX12_goesOnTest 186 = .ok (.getfield 151, 3) := lw_dr lw_d_cX12_goesOnTest_0 14 rfl
theorem dX12_goesOnTest_189 : decode cX12_goesOnTest 189 = .ok (.ifCond .ne 19, 3) := lw_dr lw_d_cX12_goesOnTest_0 15 rfl
theorem dX12_goesOnTest_208 : decode cX12_goesOnTest 208 = .ok (.iconst 0, 1) := lw_dr lw_d_cX12_goesOnTest_0 16 rfl
theorem dX12_goesOnTest_209 : decode cX12_goesOnTest 209 = .ok (.ireturn, 1) := lw_dr lw_d_cX12_goesOnTest_0 17 rfl
theorem dX12_goesOnTest_192 : decode cX12_goesOnTest 192 = .ok (.aload_n 0, 1) := lw_dr lw_d_cX12_goesOnTest_0 18 rfl
theorem dX12_goesOnTest_193 : decode cX12_goesOnTest 193 = .ok (.invokevirtual 305, 3) := lw_dr lw_d_cX12_goesOnTest_0 19 rfl
theorem dX12_goesOnTest_196 : decode cX12_goesOnTest 196 = .ok (.ifCond .eq 12, 3) := lw_dr lw_d_cX12_goesOnTest_0 20 rfl
theorem dX12_goesOnTest_199 : decode cX12_goesOnTest 199 = .ok (.aload_n 0, 1) := lw_dr lw_d_cX12_goesOnTest_0 21 rfl
theorem dX12_goesOnTest_200 : decode cX12_goesOnTest 200 = .ok (.iconst 1, 1) := lw_dr lw_d_cX12_goesOnTest_0 22 rfl
theorem dX12_goesOnTest_201 : decode cX12_goesOnTest 201 = .ok (.aload_n 0, 1) := lw_dr lw_d_cX12_goesOnTest_0 23 rfl
theorem dX12_goesOnTest_202 : decode cX12_goesOnTest 202 = .ok (.getfield 157, 3) := lw_dr lw_d_cX12_goesOnTest_0 24 rfl
theorem dX12_goesOnTest_205 : decode cX12_goesOnTest 205 = .ok (.invokevirtual 181, 3) := lw_dr lw_d_cX12_goesOnTest_0 25 rfl
theorem dX12_goesOnTest_137 : decode cX12_goesOnTest 137 = .ok (.aload_n 0, 1) := lw_dr lw_d_cX12_goesOnTest_0 26 rfl
theorem dX12_goesOnTest_138 : decode cX12_goesOnTest 138 = .ok (.bipush 14, 2) := lw_dr lw_d_cX12_goesOnTest_0 27 rfl
theorem dX12_goesOnTest_140 : decode cX12_goesOnTest 140 = .ok (.invokevirtual 283, 3) := lw_dr lw_d_cX12_goesOnTest_0 28 rfl
theorem dX12_goesOnTest_143 : decode cX12_goesOnTest 143 = .ok (.ifCond .ne 12, 3) := lw_dr lw_d_cX12_goesOnTest_0 29 rfl
theorem dX12_goesOnTest_155 : decode cX12_goesOnTest 155 = .ok (.aload_n 0, 1) := lw_dr lw_d_cX12_goesOnTest_0 30 rfl
theorem dX12_goesOnTest_156 : decode cX12_goesOnTest 156 = .ok (.invokevirtual 271, 3) := lw_dr lw_d_cX12_goesOnTest_0 31 rfl
theorem dX12_goesOnTest_159 : decode cX12_goesOnTest 159 = .ok (.goto (-22), 3) := lw_dr lw_d_cX12_goesOnTest_0 32 rfl
theorem dX12_goesOnTest_146 : decode cX12_goesOnTest 146 = .ok (.aload_n 0, 1) := lw_dr lw_d_cX12_goesOnTest_0 33 rfl
theorem dX12_goesOnTest_147 : decode cX12_goesOnTest 147 = .ok (.bipush 15, 2) := lw_dr lw_d_cX12_goesOnTest_0 34 rfl
theorem dX12_goesOnTest_149 : decode cX12_goesOnTest 149 = .ok (.invokevirtual 283, 3) := lw_dr lw_d_cX12_goesOnTest_0 35 rfl
theorem dX12_goesOnTest_152 : decode cX12_goesOnTest 152 = .ok (.ifCond .eq 10, 3) := lw_dr lw_d_cX12_goesOnTest_0 36 rfl
theorem dX12_goesOnTest_162 : decode cX12_goesOnTest 162 = .ok (.aload_n 0, 1) := lw_dr lw_d_cX12_goesOnTest_0 37 rfl
theorem dX12_goesOnTest_163 : decode cX12_goesOnTest 163 = .ok (.getfield 78, 3) := lw_dr lw_d_cX12_goesOnTest_0 38 rfl
theorem dX12_goesOnTest_166 : decode cX12_goesOnTest 166 = .ok (.aload_n 0, 1) := lw_dr lw_d_cX12_goesOnTest_0 39 rfl
theorem lw_d_cX12_goesOnTest_167 : lw_dl cX12_goesOnTest [(167, .getfield 259, 3), (170, .bipush 15, 2), (172, .iastore, 1), (173, .aload_n 0, 1), (174, .dup, 1), (175, .getfield 259, 3), (178, .iconst 1, 1), (179, .iadd, 1), (180, .putfield 259, 3), (183, .iconst 1, 1), (184, .ireturn, 1)] = true := by decide +kernel
theorem dX12_goesOnTest_167 : decode cX12_goesOnTest 167 = .ok (.getfield 259, 3) := lw_dr lw_d_cX12_goesOnTest_167 0 rfl
theorem dX12_goesOnTest_170 : decode cX12_goesOnTest 170 = .ok (.bipush 15, 2) := lw_dr lw_d_cX12_goesOnTest_167 1 rfl
theorem dX12_goesOnTest_172 : decode cX12_goesOnTest 172 = .ok (.iastore, 1) := lw_dr lw_d_cX12_goesOnTest_167 2 rfl
theorem dX12_goesOnTest_173 : decode cX12_goesOnTest 173 = .ok (.aload_n 0, 1) := lw_dr lw_d_cX12_goesOnTest_167 3 rfl
theorem dX12_goesOnTest_174 : decode cX12_goesOnTest 174 = .ok (.dup, 1) := lw_dr lw_d_cX12_goesOnTest_167 4 rfl
theorem dX12_goesOnTest_175 : decode cX12_goesOnTest 175 = .ok (.getfield 259, 3) := lw_dr lw_d_cX12_goesOnTest_167 5 rfl
theorem dX12_goesOnTest_178 : decode cX12_goesOnTest 178 = .ok (.iconst 1, 1) := lw_dr lw_d_cX12_goesOnTest_167 6 rfl
theorem dX12_goesOnTest_179 : decode cX12_goesOnTest 179 = .ok (.iadd, 1) := lw_dr lw_d_cX12_goesOnTest_167 7 rfl
theorem dX12_goesOnTest_180 : decode cX12_goesOnTest 180 = .ok (.putfield 259, 3) := lw_dr lw_d_cX12_goesOnTest_167 8 rfl
theorem dX12_goesOnTest_183 : decode cX12_goesOnTest 183 = .ok (.iconst 1, 1) := lw_dr lw_d_cX12_goesOnTest_167 9 rfl
theorem dX12_goesOnTest_184 : decode cX12_goesOnTest 184 = .ok (.ireturn, 1) := lw_dr lw_d_cX12_goesOnTest_167 10 rfl
theorem lw_d_cX12_hasSquare_0 : lw_dl cX12_hasSquare [(0, .iconst 0, 1), (1, .istore_n 1, 1), (2, .iload_n 1, 1), (3, .aload_n 0, 1), (4, .getfield 259, 3), (7, .if_icmp .ge 22, 3), (29, .iconst 0, 1), (30, .ireturn, 1), (10, .aload_n 0, 1), (11, .getfield 78, 3), (14, .iload_n 1, 1), (15, .iaload, 1), (16, .bipush 25, 2), (18, .if_icmp .ne 5, 3), (23, .iinc 1 1, 3), (26, .goto (-24), 3), (21, .iconst 1, 1), (22, .ireturn, 1)] = true := by decide +kernel
theorem dX12_hasSquare_0 : decode cX12_hasSquare 0 = .ok (.iconst 0, 1) := lw_dr lw_d_cX12_hasSquare_0 0 rfl
theorem dX12_hasSquare_1 : decode cX12_hasSquare 1 = .ok (.istore_n 1, 1) := lw_dr lw_d_cX12_hasSquare_0 1 rfl
theorem dX12_hasSquare_2 : decode cX12_hasSquare 2 = .ok (.iload_n 1, 1) := lw_dr lw_d_cX12_hasSquare_0 2 rfl
theorem dX12_hasSquare_3 : decode cX12_hasSquare 3 = .ok (.aload_n 0, 1) := lw_dr lw_d_cX12_hasSquare_0 3 rfl
theorem dX12_hasSquare_4 : decode cX12_hasSquare 4 = .ok (.getfield 259, 3) := lw_dr lw_d_cX12_hasSquare_0 4 rfl
theorem dX12_hasSquare_7 : decode cX12_hasSquare 7 = .ok (.if_icmp .ge 22, 3) := lw_dr lw_d_cX12_hasSquare_0 5 rfl
theorem dX12_hasSquare_29 : decode cX12_hasSquare 29 = .ok (.iconst 0, 1) := lw_dr lw_d_cX12_hasSquare_0 6 rfl
theorem dX12_hasSquare_30 : decode cX12_hasSquare 30 = .ok (.ireturn, 1) := lw_dr lw_d_cX12_hasSquare_0 7 rfl
theorem dX12_hasSquare_10 : decode cX12_hasSquare 10 = .ok (.aload_n 0, 1) := lw_dr lw_d_cX12_hasSquare_0 8 rfl
theorem dX12_hasSquare_11 : decode cX12_hasSquare 11 = .ok (.getfield 78, 3) := lw_dr lw_d_cX12_hasSquare_0 9 rfl
theorem dX12_hasSquare_14 : decode cX12_hasSquare 14 = .ok (.iload_n 1, 1) := lw_dr lw_d_cX12_hasSquare_0 10 rfl
theorem dX12_hasSquare_15 : decode cX12_hasSquare 15 = .ok (.iaload, 1) := lw_dr lw_d_cX12_hasSquare_0 11 rfl
theorem dX12_hasSquare_16 : decode cX12_hasSquare 16 = .ok (.bipush 25, 2) := lw_dr lw_d_cX12_hasSquare_0 12 rfl
theorem dX12_hasSquare_18 : decode cX12_hasSquare 18 = .ok (.if_icmp .ne 5, 3) := lw_dr lw_d_cX12_hasSquare_0 13 rfl
theorem dX12_hasSquare_23 : decode cX12_hasSquare 23 = .ok (.iinc 1 1, 3) := lw_dr lw_d_cX12_hasSquare_0 14 rfl
theorem dX12_hasSquare_26 : decode cX12_hasSquare 26 = .ok (.goto (-24), 3) := lw_dr lw_d_cX12_hasSquare_0 15 rfl
theorem dX12_hasSquare_21 : decode cX12_hasSquare 21 = .ok (.iconst 1, 1) := lw_dr lw_d_cX12_hasSquare_0 16 rfl
theorem dX12_hasSquare_22 : decode cX12_hasSquare 22 = .ok (.ireturn, 1) := lw_dr lw_d_cX12_hasSquare_0 17 rfl
theorem lw_d_cX12_fault_0 : lw_dl cX12_fault [(0, .iload_n 1, 1), (1, .ifCond .ne 10, 3), (11, .iload_n 1, 1), (12, .iconst 1, 1), (13, .if_icmp .ne 10, 3), (23, .iconst (-1), 1), (24, .ireturn, 1), (16, .aload_n 0, 1), (17, .getfield 13, 3), (20, .goto 4, 3), (4, .aload_n 0, 1), (5, .getfield 228, 3), (8, .goto 16, 3)] = true := by decide +kernel
theorem dX12_fault_0 : decode cX12_fault 0 = .ok (.iload_n 1, 1) := lw_dr lw_d_cX12_fault_0 0 rfl
theorem dX12_fault_1 : decode cX12_fault 1 = .ok (.ifCond .ne 10, 3) := lw_dr lw_d_cX12_fault_0 1 rfl
theorem dX12_fault_11 : decode cX12_fault 11 = .ok (.iload_n 1, 1) := lw_dr lw_d_cX12_fault_0 2 rfl
theorem dX12_fault_12 : decode cX12_fault 12 = .ok (.iconst 1, 1) := lw_dr lw_d_cX12_fault_0 3 rfl
theorem dX12_fault_13 : decode cX12_fault 13 = .ok (.if_icmp .ne 10, 3) := lw_dr lw_d_cX12_fault_0 4 rfl
theorem dX12_fault_23 : decode cX12_fault 23 = .ok (.iconst (-1), 1) := lw_dr lw_d_cX12_fault_0 5 rfl
theorem dX12_fault_24 : decode cX12_fault 24 = .ok (.ireturn, 1) := lw_dr lw_d_cX12_fault_0 6 rfl
theorem dX12_fault_16 : decode cX12_fault 16 = .ok (.aload_n 0, 1) := lw_dr lw_d_cX12_fault_0 7 rfl
theorem dX12_fault_17 : decode cX12_fault 17 = .ok (.getfield 13, 3) := lw_dr lw_d_cX12_fault_0 8 rfl
theorem dX12_fault_20 : decode cX12_fault 20 = .ok (.goto 4, 3) := lw_dr lw_d_cX12_fault_0 9 rfl
theorem dX12_fault_4 : decode cX12_fault 4 = .ok (.aload_n 0, 1) := lw_dr lw_d_cX12_fault_0 10 rfl
theorem dX12_fault_5 : decode cX12_fault 5 = .ok (.getfield 228, 3) := lw_dr lw_d_cX12_fault_0 11 rfl
theorem dX12_fault_8 : decode cX12_fault 8 = .ok (.goto 16, 3) := lw_dr lw_d_cX12_fault_0 12 rfl
theorem lw_d_cX12_has_0 : lw_dl cX12_has [(0, .iload_n 1, 1), (1, .tableswitch 107 0 9 #[55, 60, 65, 70, 75, 80, 87, 92, 97, 102], 55), (56, .aload_n 0, 1), (57, .getfield 234, 3), (60, .ireturn, 1), (61, .aload_n 0, 1), (62, .getfield 237, 3), (65, .ireturn, 1), (66, .aload_n 0, 1), (67, .getfield 240, 3), (70, .ireturn, 1), (71, .aload_n 0, 1), (72, .getfield 243, 3), (75, .ireturn, 1), (76, .aload_n 0, 1), (77, .getfield 246, 3), (80, .ireturn, 1), (81, .aload_n 0, 1), (82, .getfield 81, 3), (85, .iconst 0, 1), (86, .iaload, 1), (87, .ireturn, 1), (88, .aload_n 0, 1), (89, .getfield 63, 3), (92, .ireturn, 1), (93, .aload_n 0, 1), (94, .getfield 349, 3), (97, .ireturn, 1), (98, .aload_n 0, 1), (99, .getfield 352, 3), (102, .ireturn, 1), (103, .aload_n 0, 1), (104, .getfield 355, 3), (107, .ireturn, 1), (108, .iconst (-1), 1), (109, .ireturn, 1)] = true := by decide +kernel
theorem dX12_has_0 : decode cX12_has 0 = .ok (.iload_n 1, 1) := lw_dr lw_d_cX12_has_0 0 rfl
theorem dX12_has_1 : decode cX12_has 1 = .ok (.tableswitch 107 0 9 #[55, 60, 65, 70, 75, 80, 87, 92, 97, 102], 55) := lw_dr lw_d_cX12_has_0 1 rfl
theorem dX12_has_56 : decode cX12_has 56 = .ok (.aload_n 0, 1) := lw_dr lw_d_cX12_has_0 2 rfl
theorem dX12_has_57 : decode cX12_has 57 = .ok (.getfield 234, 3) := lw_dr lw_d_cX12_has_0 3 rfl
theorem dX12_has_60 : decode cX12_has 60 = .ok (.ireturn, 1) := lw_dr lw_d_cX12_has_0 4 rfl
theorem dX12_has_61 : decode cX12_has 61 = .ok (.aload_n 0, 1) := lw_dr lw_d_cX12_has_0 5 rfl
theorem dX12_has_62 : decode cX12_has 62 = .ok (.getfield 237, 3) := lw_dr lw_d_cX12_has_0 6 rfl
theorem dX12_has_65 : decode cX12_has 65 = .ok (.ireturn, 1) := lw_dr lw_d_cX12_has_0 7 rfl
theorem dX12_has_66 : decode cX12_has 66 = .ok (.aload_n 0, 1) := lw_dr lw_d_cX12_has_0 8 rfl
theorem dX12_has_67 : decode cX12_has 67 = .ok (.getfield 240, 3) := lw_dr lw_d_cX12_has_0 9 rfl
theorem dX12_has_70 : decode cX12_has 70 = .ok (.ireturn, 1) := lw_dr lw_d_cX12_has_0 10 rfl
theorem dX12_has_71 : decode cX12_has 71 = .ok (.aload_n 0, 1) := lw_dr lw_d_cX12_has_0 11 rfl
theorem dX12_has_72 : decode cX12_has 72 = .ok (.getfield 243, 3) := lw_dr lw_d_cX12_has_0 12 rfl
theorem dX12_has_75 : decode cX12_has 75 = .ok (.ireturn, 1) := lw_dr lw_d_cX12_has_0 13 rfl
theorem dX12_has_76 : decode cX12_has 76 = .ok (.aload_n 0, 1) := lw_dr lw_d_cX12_has_0 14 rfl
theorem dX12_has_77 : decode cX12_has 77 = .ok (.getfield 246, 3) := lw_dr lw_d_cX12_has_0 15 rfl
theorem dX12_has_80 : decode cX12_has 80 = .ok (.ireturn, 1) := lw_dr lw_d_cX12_has_0 16 rfl
theorem dX12_has_81 : decode cX12_has 81 = .ok (.aload_n 0, 1) := lw_dr lw_d_cX12_has_0 17 rfl
theorem dX12_has_82 : decode cX12_has 82 = .ok (.getfield 81, 3) := lw_dr lw_d_cX12_has_0 18 rfl
theorem dX12_has_85 : decode cX12_has 85 = .ok (.iconst 0, 1) := lw_dr lw_d_cX12_has_0 19 rfl
theorem dX12_has_86 : decode cX12_has 86 = .ok (.iaload, 1) := lw_dr lw_d_cX12_has_0 20 rfl
theorem dX12_has_87 : decode cX12_has 87 = .ok (.ireturn, 1) := lw_dr lw_d_cX12_has_0 21 rfl
theorem dX12_has_88 : decode cX12_has 88 = .ok (.aload_n 0, 1) := lw_dr lw_d_cX12_has_0 22 rfl
theorem dX12_has_89 : decode cX12_has 89 = .ok (.getfield 63, 3) := lw_dr lw_d_cX12_has_0 23 rfl
theorem dX12_has_92 : decode cX12_has 92 = .ok (.ireturn, 1) := lw_dr lw_d_cX12_has_0 24 rfl
theorem dX12_has_93 : decode cX12_has 93 = .ok (.aload_n 0, 1) := lw_dr lw_d_cX12_has_0 25 rfl
theorem dX12_has_94 : decode cX12_has 94 = .ok (.getfield 349, 3) := lw_dr lw_d_cX12_has_0 26 rfl
theorem dX12_has_97 : decode cX12_has 97 = .ok (.ireturn, 1) := lw_dr lw_d_cX12_has_0 27 rfl
theorem dX12_has_98 : decode cX12_has 98 = .ok (.aload_n 0, 1) := lw_dr lw_d_cX12_has_0 28 rfl
theorem dX12_has_99 : decode cX12_has 99 = .ok (.getfield 352, 3) := lw_dr lw_d_cX12_has_0 29 rfl
theorem dX12_has_102 : decode cX12_has 102 = .ok (.ireturn, 1) := lw_dr lw_d_cX12_has_0 30 rfl
theorem dX12_has_103 : decode cX12_has 103 = .ok (.aload_n 0, 1) := lw_dr lw_d_cX12_has_0 31 rfl
theorem dX12_has_104 : decode cX12_has 104 = .ok (.getfield 355, 3) := lw_dr lw_d_cX12_has_0 32 rfl
theorem dX12_has_107 : decode cX12_has 107 = .ok (.ireturn, 1) := lw_dr lw_d_cX12_has_0 33 rfl
theorem dX12_has_108 : decode cX12_has 108 = .ok (.iconst (-1), 1) := lw_dr lw_d_cX12_has_0 34 rfl
theorem dX12_has_109 : decode cX12_has 109 = .ok (.ireturn, 1) := lw_dr lw_d_cX12_has_0 35 rfl
theorem lw_d_cX12_table_0 : lw_dl cX12_table [(0, .aload_n 0, 1), (1, .iload_n 1, 1), (2, .invokevirtual 358, 3), (5, .ifCond .eq 11, 3), (16, .ldc_w 364, 3), (19, .ireturn, 1), (8, .aload_n 0, 1), (9, .iload_n 2, 1), (10, .invokevirtual 361, 3)] = true := by decide +kernel
theorem dX12_table_0 : decode cX12_table 0 = .ok (.aload_n 0, 1) := lw_dr lw_d_cX12_table_0 0 rfl
theorem dX12_table_1 : decode cX12_table 1 = .ok (.iload_n 1, 1) := lw_dr lw_d_cX12_table_0 1 rfl
theorem dX12_table_2 : decode cX12_table 2 = .ok (.invokevirtual 358, 3) := lw_dr lw_d_cX12_table_0 2 rfl
theorem dX12_table_5 : decode cX12_table 5 = .ok (.ifCond .eq 11, 3) := lw_dr lw_d_cX12_table_0 3 rfl
theorem dX12_table_16 : decode cX12_table 16 = .ok (.ldc_w 364, 3) := lw_dr lw_d_cX12_table_0 4 rfl
theorem dX12_table_19 : decode cX12_table 19 = .ok (.ireturn, 1) := lw_dr lw_d_cX12_table_0 5 rfl
theorem dX12_table_8 : decode cX12_table 8 = .ok (.aload_n 0, 1) := lw_dr lw_d_cX12_table_0 6 rfl
theorem dX12_table_9 : decode cX12_table 9 = .ok (.iload_n 2, 1) := lw_dr lw_d_cX12_table_0 7 rfl
theorem dX12_table_10 : decode cX12_table 10 = .ok (.invokevirtual 361, 3) := lw_dr lw_d_cX12_table_0 8 rfl
theorem lw_d_cX12_isReceiver_0 : lw_dl cX12_isReceiver [(0, .iload_n 1, 1), (1, .i2l, 1), (2, .lconst 0, 1), (3, .aload_n 0, 1), (4, .getfield 240, 3), (7, .iconst 1, 1), (8, .isub, 1), (9, .i2l, 1), (10, .invokestatic 191, 3), (13, .ireturn, 1)] = true := by decide +kernel
theorem dX12_isReceiver_0 : decode cX12_isReceiver 0 = .ok (.iload_n 1, 1) := lw_dr lw_d_cX12_isReceiver_0 0 rfl
theorem dX12_isReceiver_1 : decode cX12_isReceiver 1 = .ok (.i2l, 1) := lw_dr lw_d_cX12_isReceiver_0 1 rfl
theorem dX12_isReceiver_2 : decode cX12_isReceiver 2 = .ok (.lconst 0, 1) := lw_dr lw_d_cX12_isReceiver_0 2 rfl
theorem dX12_isReceiver_3 : decode cX12_isReceiver 3 = .ok (.aload_n 0, 1) := lw_dr lw_d_cX12_isReceiver_0 3 rfl
theorem dX12_isReceiver_4 : decode cX12_isReceiver 4 = .ok (.getfield 240, 3) := lw_dr lw_d_cX12_isReceiver_0 4 rfl
theorem dX12_isReceiver_7 : decode cX12_isReceiver 7 = .ok (.iconst 1, 1) := lw_dr lw_d_cX12_isReceiver_0 5 rfl
theorem dX12_isReceiver_8 : decode cX12_isReceiver 8 = .ok (.isub, 1) := lw_dr lw_d_cX12_isReceiver_0 6 rfl
theorem dX12_isReceiver_9 : decode cX12_isReceiver 9 = .ok (.i2l, 1) := lw_dr lw_d_cX12_isReceiver_0 7 rfl
theorem dX12_isReceiver_10 : decode cX12_isReceiver 10 = .ok (.invokestatic 191, 3) := lw_dr lw_d_cX12_isReceiver_0 8 rfl
theorem dX12_isReceiver_13 : decode cX12_isReceiver 13 = .ok (.ireturn, 1) := lw_dr lw_d_cX12_isReceiver_0 9 rfl
theorem lw_d_cX12_isSender_0 : lw_dl cX12_isSender [(0, .iload_n 1, 1), (1, .i2l, 1), (2, .lconst 0, 1), (3, .aload_n 0, 1), (4, .getfield 237, 3), (7, .iconst 1, 1), (8, .isub, 1), (9, .i2l, 1), (10, .invokestatic 191, 3)] = true := by decide +kernel
theorem dX12_isSender_0 : decode cX12_isSender 0 = .ok (.iload_n 1, 1) := lw_dr lw_d_cX12_isSender_0 0 rfl
theorem dX12_isSender_1 : decode cX12_isSender 1 = .ok (.i2l, 1) := lw_dr lw_d_cX12_isSender_0 1 rfl
theorem dX12_isSender_2 : decode cX12_isSender 2 = .ok (.lconst 0, 1) := lw_dr lw_d_cX12_isSender_0 2 rfl
theorem dX12_isSender_3 : decode cX12_isSender 3 = .ok (.aload_n 0, 1) := lw_dr lw_d_cX12_isSender_0 3 rfl
theorem dX12_isSender_4 : decode cX12_isSender 4 = .ok (.getfield 237, 3) := lw_dr lw_d_cX12_isSender_0 4 rfl
theorem dX12_isSender_7 : decode cX12_isSender 7 = .ok (.iconst 1, 1) := lw_dr lw_d_cX12_isSender_0 5 rfl
theorem dX12_isSender_8 : decode cX12_isSender 8 = .ok (.isub, 1) := lw_dr lw_d_cX12_isSender_0 6 rfl
theorem dX12_isSender_9 : decode cX12_isSender 9 = .ok (.i2l, 1) := lw_dr lw_d_cX12_isSender_0 7 rfl
theorem dX12_isSender_10 : decode cX12_isSender 10 = .ok (.invokestatic 191, 3) := lw_dr lw_d_cX12_isSender_0 8 rfl
theorem lw_d_cX12_isSender_13 : lw_dl cX12_isSender [(13, .ireturn, 1)] = true := by decide +kernel
theorem dX12_isSender_13 : decode cX12_isSender 13 = .ok (.ireturn, 1) := lw_dr lw_d_cX12_isSender_13 0 rfl
theorem lw_d_cX12_table_13 : lw_dl cX12_table [(13, .ifCond .ne 7, 3), (20, .iload_n 3, 1), (21, .ifCond .eq 16, 3), (37, .aload_n 0, 1), (38, .getfield 69, 3), (41, .iconst 5, 1), (42, .iload_n 1, 1), (43, .imul, 1), (44, .iload_n 2, 1), (45, .iadd, 1), (46, .iaload, 1), (47, .ireturn, 1), (24, .aload_n 0, 1), (25, .getfield 97, 3), (28, .iconst 5, 1), (29, .iload_n 1, 1), (30, .imul, 1), (31, .iload_n 2, 1), (32, .iadd, 1), (33, .iaload, 1), (34, .goto 13, 3)] = true := by decide +kernel
theorem dX12_table_13 : decode cX12_table 13 = .ok (.ifCond .ne 7, 3) := lw_dr lw_d_cX12_table_13 0 rfl
theorem dX12_table_20 : decode cX12_table 20 = .ok (.iload_n 3, 1) := lw_dr lw_d_cX12_table_13 1 rfl
theorem dX12_table_21 : decode cX12_table 21 = .ok (.ifCond .eq 16, 3) := lw_dr lw_d_cX12_table_13 2 rfl
theorem dX12_table_37 : decode cX12_table 37 = .ok (.aload_n 0, 1) := lw_dr lw_d_cX12_table_13 3 rfl
theorem dX12_table_38 : decode cX12_table 38 = .ok (.getfield 69, 3) := lw_dr lw_d_cX12_table_13 4 rfl
theorem dX12_table_41 : decode cX12_table 41 = .ok (.iconst 5, 1) := lw_dr lw_d_cX12_table_13 5 rfl
theorem dX12_table_42 : decode cX12_table 42 = .ok (.iload_n 1, 1) := lw_dr lw_d_cX12_table_13 6 rfl
theorem dX12_table_43 : decode cX12_table 43 = .ok (.imul, 1) := lw_dr lw_d_cX12_table_13 7 rfl
theorem dX12_table_44 : decode cX12_table 44 = .ok (.iload_n 2, 1) := lw_dr lw_d_cX12_table_13 8 rfl
theorem dX12_table_45 : decode cX12_table 45 = .ok (.iadd, 1) := lw_dr lw_d_cX12_table_13 9 rfl
theorem dX12_table_46 : decode cX12_table 46 = .ok (.iaload, 1) := lw_dr lw_d_cX12_table_13 10 rfl
theorem dX12_table_47 : decode cX12_table 47 = .ok (.ireturn, 1) := lw_dr lw_d_cX12_table_13 11 rfl
theorem dX12_table_24 : decode cX12_table 24 = .ok (.aload_n 0, 1) := lw_dr lw_d_cX12_table_13 12 rfl
theorem dX12_table_25 : decode cX12_table 25 = .ok (.getfield 97, 3) := lw_dr lw_d_cX12_table_13 13 rfl
theorem dX12_table_28 : decode cX12_table 28 = .ok (.iconst 5, 1) := lw_dr lw_d_cX12_table_13 14 rfl
theorem dX12_table_29 : decode cX12_table 29 = .ok (.iload_n 1, 1) := lw_dr lw_d_cX12_table_13 15 rfl
theorem dX12_table_30 : decode cX12_table 30 = .ok (.imul, 1) := lw_dr lw_d_cX12_table_13 16 rfl
theorem dX12_table_31 : decode cX12_table 31 = .ok (.iload_n 2, 1) := lw_dr lw_d_cX12_table_13 17 rfl
theorem dX12_table_32 : decode cX12_table 32 = .ok (.iadd, 1) := lw_dr lw_d_cX12_table_13 18 rfl
theorem dX12_table_33 : decode cX12_table 33 = .ok (.iaload, 1) := lw_dr lw_d_cX12_table_13 19 rfl
theorem dX12_table_34 : decode cX12_table 34 = .ok (.goto 13, 3) := lw_dr lw_d_cX12_table_13 20 rfl
theorem lw_d_cX12_product_0 : lw_dl cX12_product [(0, .aload_n 0, 1), (1, .iload_n 1, 1), (2, .invokevirtual 361, 3), (5, .ifCond .eq 11, 3), (16, .ldc_w 364, 3), (19, .ireturn, 1), (8, .aload_n 0, 1), (9, .iload_n 2, 1), (10, .invokevirtual 361, 3), (13, .ifCond .ne 7, 3), (20, .iload_n 3, 1), (21, .ifCond .eq 16, 3), (37, .aload_n 0, 1), (38, .iload_n 1, 1), (39, .iload_n 2, 1), (40, .aload_n 0, 1), (41, .getfield 69, 3), (44, .invokevirtual 334, 3), (47, .ireturn, 1), (24, .aload_n 0, 1), (25, .iload_n 1, 1), (26, .iload_n 2, 1), (27, .aload_n 0, 1), (28, .getfield 97, 3), (31, .invokevirtual 334, 3), (34, .goto 13, 3)] = true := by decide +kernel
theorem dX12_product_0 : decode cX12_product 0 = .ok (.aload_n 0, 1) := lw_dr lw_d_cX12_product_0 0 rfl
theorem dX12_product_1 : decode cX12_product 1 = .ok (.iload_n 1, 1) := lw_dr lw_d_cX12_product_0 1 rfl
theorem dX12_product_2 : decode cX12_product 2 = .ok (.invokevirtual 361, 3) := lw_dr lw_d_cX12_product_0 2 rfl
theorem dX12_product_5 : decode cX12_product 5 = .ok (.ifCond .eq 11, 3) := lw_dr lw_d_cX12_product_0 3 rfl
theorem dX12_product_16 : decode cX12_product 16 = .ok (.ldc_w 364, 3) := lw_dr lw_d_cX12_product_0 4 rfl
theorem dX12_product_19 : decode cX12_product 19 = .ok (.ireturn, 1) := lw_dr lw_d_cX12_product_0 5 rfl
theorem dX12_product_8 : decode cX12_product 8 = .ok (.aload_n 0, 1) := lw_dr lw_d_cX12_product_0 6 rfl
theorem dX12_product_9 : decode cX12_product 9 = .ok (.iload_n 2, 1) := lw_dr lw_d_cX12_product_0 7 rfl
theorem dX12_product_10 : decode cX12_product 10 = .ok (.invokevirtual 361, 3) := lw_dr lw_d_cX12_product_0 8 rfl
theorem dX12_product_13 : decode cX12_product 13 = .ok (.ifCond .ne 7, 3) := lw_dr lw_d_cX12_product_0 9 rfl
theorem dX12_product_20 : decode cX12_product 20 = .ok (.iload_n 3, 1) := lw_dr lw_d_cX12_product_0 10 rfl
theorem dX12_product_21 : decode cX12_product 21 = .ok (.ifCond .eq 16, 3) := lw_dr lw_d_cX12_product_0 11 rfl
theorem dX12_product_37 : decode cX12_product 37 = .ok (.aload_n 0, 1) := lw_dr lw_d_cX12_product_0 12 rfl
theorem dX12_product_38 : decode cX12_product 38 = .ok (.iload_n 1, 1) := lw_dr lw_d_cX12_product_0 13 rfl
theorem dX12_product_39 : decode cX12_product 39 = .ok (.iload_n 2, 1) := lw_dr lw_d_cX12_product_0 14 rfl
theorem dX12_product_40 : decode cX12_product 40 = .ok (.aload_n 0, 1) := lw_dr lw_d_cX12_product_0 15 rfl
theorem dX12_product_41 : decode cX12_product 41 = .ok (.getfield 69, 3) := lw_dr lw_d_cX12_product_0 16 rfl
theorem dX12_product_44 : decode cX12_product 44 = .ok (.invokevirtual 334, 3) := lw_dr lw_d_cX12_product_0 17 rfl
theorem dX12_product_47 : decode cX12_product 47 = .ok (.ireturn, 1) := lw_dr lw_d_cX12_product_0 18 rfl
theorem dX12_product_24 : decode cX12_product 24 = .ok (.aload_n 0, 1) := lw_dr lw_d_cX12_product_0 19 rfl
theorem dX12_product_25 : decode cX12_product 25 = .ok (.iload_n 1, 1) := lw_dr lw_d_cX12_product_0 20 rfl
theorem dX12_product_26 : decode cX12_product 26 = .ok (.iload_n 2, 1) := lw_dr lw_d_cX12_product_0 21 rfl
theorem dX12_product_27 : decode cX12_product 27 = .ok (.aload_n 0, 1) := lw_dr lw_d_cX12_product_0 22 rfl
theorem dX12_product_28 : decode cX12_product 28 = .ok (.getfield 97, 3) := lw_dr lw_d_cX12_product_0 23 rfl
theorem dX12_product_31 : decode cX12_product 31 = .ok (.invokevirtual 334, 3) := lw_dr lw_d_cX12_product_0 24 rfl
theorem dX12_product_34 : decode cX12_product 34 = .ok (.goto 13, 3) := lw_dr lw_d_cX12_product_0 25 rfl
theorem lw_d_cX12_productOf_0 : lw_dl cX12_productOf [(0, .iconst 0, 1), (1, .istore 4, 2), (3, .iconst 0, 1), (4, .istore 5, 2), (6, .iload 5, 2), (8, .aload_n 0, 1), (9, .getfield 240, 3), (12, .if_icmp .ge 31, 3), (43, .iload 4, 2), (45, .ireturn, 1), (15, .iload 4, 2), (17, .aload_n 3, 1), (18, .iconst 5, 1), (19, .iload 5, 2), (21, .imul, 1), (22, .iload_n 1, 1), (23, .iadd, 1), (24, .iaload, 1), (25, .aload_n 3, 1), (26, .iconst 5, 1), (27, .iload 5, 2), (29, .imul, 1), (30, .iload_n 2, 1), (31, .iadd, 1), (32, .iaload, 1), (33, .imul, 1), (34, .iadd, 1), (35, .istore 4, 2), (37, .iinc 5 1, 3), (40, .goto (-34), 3)] = true := by decide +kernel
theorem dX12_productOf_0 : decode cX12_productOf 0 = .ok (.iconst 0, 1) := lw_dr lw_d_cX12_productOf_0 0 rfl
theorem dX12_productOf_1 : decode cX12_productOf 1 = .ok (.istore 4, 2) := lw_dr lw_d_cX12_productOf_0 1 rfl
theorem dX12_productOf_3 : decode cX12_productOf 3 = .ok (.iconst 0, 1) := lw_dr lw_d_cX12_productOf_0 2 rfl
theorem dX12_productOf_4 : decode cX12_productOf 4 = .ok (.istore 5, 2) := lw_dr lw_d_cX12_productOf_0 3 rfl
theorem dX12_productOf_6 : decode cX12_productOf 6 = .ok (.iload 5, 2) := lw_dr lw_d_cX12_productOf_0 4 rfl
theorem dX12_productOf_8 : decode cX12_productOf 8 = .ok (.aload_n 0, 1) := lw_dr lw_d_cX12_productOf_0 5 rfl
theorem dX12_productOf_9 : decode cX12_productOf 9 = .ok (.getfield 240, 3) := lw_dr lw_d_cX12_productOf_0 6 rfl
theorem dX12_productOf_12 : decode cX12_productOf 12 = .ok (.if_icmp .ge 31, 3) := lw_dr lw_d_cX12_productOf_0 7 rfl
theorem dX12_productOf_43 : decode cX12_productOf 43 = .ok (.iload 4, 2) := lw_dr lw_d_cX12_productOf_0 8 rfl
theorem dX12_productOf_45 : decode cX12_productOf 45 = .ok (.ireturn, 1) := lw_dr lw_d_cX12_productOf_0 9 rfl
theorem dX12_productOf_15 : decode cX12_productOf 15 = .ok (.iload 4, 2) := lw_dr lw_d_cX12_productOf_0 10 rfl
theorem dX12_productOf_17 : decode cX12_productOf 17 = .ok (.aload_n 3, 1) := lw_dr lw_d_cX12_productOf_0 11 rfl
theorem dX12_productOf_18 : decode cX12_productOf 18 = .ok (.iconst 5, 1) := lw_dr lw_d_cX12_productOf_0 12 rfl
theorem dX12_productOf_19 : decode cX12_productOf 19 = .ok (.iload 5, 2) := lw_dr lw_d_cX12_productOf_0 13 rfl
theorem dX12_productOf_21 : decode cX12_productOf 21 = .ok (.imul, 1) := lw_dr lw_d_cX12_productOf_0 14 rfl
theorem dX12_productOf_22 : decode cX12_productOf 22 = .ok (.iload_n 1, 1) := lw_dr lw_d_cX12_productOf_0 15 rfl
theorem dX12_productOf_23 : decode cX12_productOf 23 = .ok (.iadd, 1) := lw_dr lw_d_cX12_productOf_0 16 rfl
theorem dX12_productOf_24 : decode cX12_productOf 24 = .ok (.iaload, 1) := lw_dr lw_d_cX12_productOf_0 17 rfl
theorem dX12_productOf_25 : decode cX12_productOf 25 = .ok (.aload_n 3, 1) := lw_dr lw_d_cX12_productOf_0 18 rfl
theorem dX12_productOf_26 : decode cX12_productOf 26 = .ok (.iconst 5, 1) := lw_dr lw_d_cX12_productOf_0 19 rfl
theorem dX12_productOf_27 : decode cX12_productOf 27 = .ok (.iload 5, 2) := lw_dr lw_d_cX12_productOf_0 20 rfl
theorem dX12_productOf_29 : decode cX12_productOf 29 = .ok (.imul, 1) := lw_dr lw_d_cX12_productOf_0 21 rfl
theorem dX12_productOf_30 : decode cX12_productOf 30 = .ok (.iload_n 2, 1) := lw_dr lw_d_cX12_productOf_0 22 rfl
theorem dX12_productOf_31 : decode cX12_productOf 31 = .ok (.iadd, 1) := lw_dr lw_d_cX12_productOf_0 23 rfl
theorem dX12_productOf_32 : decode cX12_productOf 32 = .ok (.iaload, 1) := lw_dr lw_d_cX12_productOf_0 24 rfl
theorem dX12_productOf_33 : decode cX12_productOf 33 = .ok (.imul, 1) := lw_dr lw_d_cX12_productOf_0 25 rfl
theorem dX12_productOf_34 : decode cX12_productOf 34 = .ok (.iadd, 1) := lw_dr lw_d_cX12_productOf_0 26 rfl
theorem dX12_productOf_35 : decode cX12_productOf 35 = .ok (.istore 4, 2) := lw_dr lw_d_cX12_productOf_0 27 rfl
theorem dX12_productOf_37 : decode cX12_productOf 37 = .ok (.iinc 5 1, 3) := lw_dr lw_d_cX12_productOf_0 28 rfl
theorem dX12_productOf_40 : decode cX12_productOf 40 = .ok (.goto (-34), 3) := lw_dr lw_d_cX12_productOf_0 29 rfl
theorem lw_d_cX12_clash_0 : lw_dl cX12_clash [(0, .aload_n 0, 1), (1, .iload_n 1, 1), (2, .invokevirtual 361, 3), (5, .ifCond .eq 16, 3), (21, .iconst (-1), 1), (22, .ireturn, 1), (8, .aload_n 0, 1), (9, .iload_n 2, 1), (10, .invokevirtual 361, 3), (13, .ifCond .eq 8, 3), (16, .iload_n 1, 1), (17, .iload_n 2, 1), (18, .if_icmp .ne 5, 3), (23, .iload_n 3, 1), (24, .ifCond .eq 16, 3), (40, .aload_n 0, 1), (41, .iload_n 1, 1), (42, .iload_n 2, 1), (43, .aload_n 0, 1), (44, .getfield 69, 3), (47, .invokevirtual 367, 3), (50, .ireturn, 1), (27, .aload_n 0, 1), (28, .iload_n 1, 1), (29, .iload_n 2, 1), (30, .aload_n 0, 1), (31, .getfield 97, 3), (34, .invokevirtual 367, 3), (37, .goto 13, 3)] = true := by decide +kernel
theorem dX12_clash_0 : decode cX12_clash 0 = .ok (.aload_n 0, 1) := lw_dr lw_d_cX12_clash_0 0 rfl
theorem dX12_clash_1 : decode cX12_clash 1 = .ok (.iload_n 1, 1) := lw_dr lw_d_cX12_clash_0 1 rfl
theorem dX12_clash_2 : decode cX12_clash 2 = .ok (.invokevirtual 361, 3) := lw_dr lw_d_cX12_clash_0 2 rfl
theorem dX12_clash_5 : decode cX12_clash 5 = .ok (.ifCond .eq 16, 3) := lw_dr lw_d_cX12_clash_0 3 rfl
theorem dX12_clash_21 : decode cX12_clash 21 = .ok (.iconst (-1), 1) := lw_dr lw_d_cX12_clash_0 4 rfl
theorem dX12_clash_22 : decode cX12_clash 22 = .ok (.ireturn, 1) := lw_dr lw_d_cX12_clash_0 5 rfl
theorem dX12_clash_8 : decode cX12_clash 8 = .ok (.aload_n 0, 1) := lw_dr lw_d_cX12_clash_0 6 rfl
theorem dX12_clash_9 : decode cX12_clash 9 = .ok (.iload_n 2, 1) := lw_dr lw_d_cX12_clash_0 7 rfl
theorem dX12_clash_10 : decode cX12_clash 10 = .ok (.invokevirtual 361, 3) := lw_dr lw_d_cX12_clash_0 8 rfl
theorem dX12_clash_13 : decode cX12_clash 13 = .ok (.ifCond .eq 8, 3) := lw_dr lw_d_cX12_clash_0 9 rfl
theorem dX12_clash_16 : decode cX12_clash 16 = .ok (.iload_n 1, 1) := lw_dr lw_d_cX12_clash_0 10 rfl
theorem dX12_clash_17 : decode cX12_clash 17 = .ok (.iload_n 2, 1) := lw_dr lw_d_cX12_clash_0 11 rfl
theorem dX12_clash_18 : decode cX12_clash 18 = .ok (.if_icmp .ne 5, 3) := lw_dr lw_d_cX12_clash_0 12 rfl
theorem dX12_clash_23 : decode cX12_clash 23 = .ok (.iload_n 3, 1) := lw_dr lw_d_cX12_clash_0 13 rfl
theorem dX12_clash_24 : decode cX12_clash 24 = .ok (.ifCond .eq 16, 3) := lw_dr lw_d_cX12_clash_0 14 rfl
theorem dX12_clash_40 : decode cX12_clash 40 = .ok (.aload_n 0, 1) := lw_dr lw_d_cX12_clash_0 15 rfl
theorem dX12_clash_41 : decode cX12_clash 41 = .ok (.iload_n 1, 1) := lw_dr lw_d_cX12_clash_0 16 rfl
theorem dX12_clash_42 : decode cX12_clash 42 = .ok (.iload_n 2, 1) := lw_dr lw_d_cX12_clash_0 17 rfl
theorem dX12_clash_43 : decode cX12_clash 43 = .ok (.aload_n 0, 1) := lw_dr lw_d_cX12_clash_0 18 rfl
theorem dX12_clash_44 : decode cX12_clash 44 = .ok (.getfield 69, 3) := lw_dr lw_d_cX12_clash_0 19 rfl
theorem dX12_clash_47 : decode cX12_clash 47 = .ok (.invokevirtual 367, 3) := lw_dr lw_d_cX12_clash_0 20 rfl
theorem dX12_clash_50 : decode cX12_clash 50 = .ok (.ireturn, 1) := lw_dr lw_d_cX12_clash_0 21 rfl
theorem dX12_clash_27 : decode cX12_clash 27 = .ok (.aload_n 0, 1) := lw_dr lw_d_cX12_clash_0 22 rfl
theorem dX12_clash_28 : decode cX12_clash 28 = .ok (.iload_n 1, 1) := lw_dr lw_d_cX12_clash_0 23 rfl
theorem dX12_clash_29 : decode cX12_clash 29 = .ok (.iload_n 2, 1) := lw_dr lw_d_cX12_clash_0 24 rfl
theorem dX12_clash_30 : decode cX12_clash 30 = .ok (.aload_n 0, 1) := lw_dr lw_d_cX12_clash_0 25 rfl
theorem dX12_clash_31 : decode cX12_clash 31 = .ok (.getfield 97, 3) := lw_dr lw_d_cX12_clash_0 26 rfl
theorem dX12_clash_34 : decode cX12_clash 34 = .ok (.invokevirtual 367, 3) := lw_dr lw_d_cX12_clash_0 27 rfl
theorem dX12_clash_37 : decode cX12_clash 37 = .ok (.goto 13, 3) := lw_dr lw_d_cX12_clash_0 28 rfl
theorem lw_d_cX12_clashOf_0 : lw_dl cX12_clashOf [(0, .aload_n 0, 1), (1, .iload_n 1, 1), (2, .iload_n 1, 1), (3, .aload_n 3, 1), (4, .invokevirtual 334, 3), (7, .i2l, 1), (8, .lstore 4, 2), (10, .aload_n 0, 1), (11, .iload_n 2, 1), (12, .iload_n 2, 1), (13, .aload_n 3, 1), (14, .invokevirtual 334, 3), (17, .i2l, 1), (18, .lstore 6, 2), (20, .aload_n 0, 1), (21, .iload_n 1, 1), (22, .iload_n 2, 1), (23, .aload_n 3, 1), (24, .invokevirtual 334, 3), (27, .i2l, 1), (28, .lstore 8, 2), (30, .lload 4, 2), (32, .lconst 0, 1), (33, .lcmp, 1), (34, .ifCond .eq 10, 3), (44, .iconst 0, 1), (45, .goto 19, 3), (64, .ireturn, 1), (37, .lload 6, 2), (39, .lconst 0, 1), (40, .lcmp, 1), (41, .ifCond .ne 7, 3), (48, .ldc2_w 365, 3), (51, .lload 8, 2), (53, .lmul, 1), (54, .lload 8, 2), (56, .lmul, 1), (57, .lload 4, 2), (59, .lload 6, 2), (61, .lmul, 1)] = true := by decide +kernel
theorem dX12_clashOf_0 : decode cX12_clashOf 0 = .ok (.aload_n 0, 1) := lw_dr lw_d_cX12_clashOf_0 0 rfl
theorem dX12_clashOf_1 : decode cX12_clashOf 1 = .ok (.iload_n 1, 1) := lw_dr lw_d_cX12_clashOf_0 1 rfl
theorem dX12_clashOf_2 : decode cX12_clashOf 2 = .ok (.iload_n 1, 1) := lw_dr lw_d_cX12_clashOf_0 2 rfl
theorem dX12_clashOf_3 : decode cX12_clashOf 3 = .ok (.aload_n 3, 1) := lw_dr lw_d_cX12_clashOf_0 3 rfl
theorem dX12_clashOf_4 : decode cX12_clashOf 4 = .ok (.invokevirtual 334, 3) := lw_dr lw_d_cX12_clashOf_0 4 rfl
theorem dX12_clashOf_7 : decode cX12_clashOf 7 = .ok (.i2l, 1) := lw_dr lw_d_cX12_clashOf_0 5 rfl
theorem dX12_clashOf_8 : decode cX12_clashOf 8 = .ok (.lstore 4, 2) := lw_dr lw_d_cX12_clashOf_0 6 rfl
theorem dX12_clashOf_10 : decode cX12_clashOf 10 = .ok (.aload_n 0, 1) := lw_dr lw_d_cX12_clashOf_0 7 rfl
theorem dX12_clashOf_11 : decode cX12_clashOf 11 = .ok (.iload_n 2, 1) := lw_dr lw_d_cX12_clashOf_0 8 rfl
theorem dX12_clashOf_12 : decode cX12_clashOf 12 = .ok (.iload_n 2, 1) := lw_dr lw_d_cX12_clashOf_0 9 rfl
theorem dX12_clashOf_13 : decode cX12_clashOf 13 = .ok (.aload_n 3, 1) := lw_dr lw_d_cX12_clashOf_0 10 rfl
theorem dX12_clashOf_14 : decode cX12_clashOf 14 = .ok (.invokevirtual 334, 3) := lw_dr lw_d_cX12_clashOf_0 11 rfl
theorem dX12_clashOf_17 : decode cX12_clashOf 17 = .ok (.i2l, 1) := lw_dr lw_d_cX12_clashOf_0 12 rfl
theorem dX12_clashOf_18 : decode cX12_clashOf 18 = .ok (.lstore 6, 2) := lw_dr lw_d_cX12_clashOf_0 13 rfl
theorem dX12_clashOf_20 : decode cX12_clashOf 20 = .ok (.aload_n 0, 1) := lw_dr lw_d_cX12_clashOf_0 14 rfl
theorem dX12_clashOf_21 : decode cX12_clashOf 21 = .ok (.iload_n 1, 1) := lw_dr lw_d_cX12_clashOf_0 15 rfl
theorem dX12_clashOf_22 : decode cX12_clashOf 22 = .ok (.iload_n 2, 1) := lw_dr lw_d_cX12_clashOf_0 16 rfl
theorem dX12_clashOf_23 : decode cX12_clashOf 23 = .ok (.aload_n 3, 1) := lw_dr lw_d_cX12_clashOf_0 17 rfl
theorem dX12_clashOf_24 : decode cX12_clashOf 24 = .ok (.invokevirtual 334, 3) := lw_dr lw_d_cX12_clashOf_0 18 rfl
theorem dX12_clashOf_27 : decode cX12_clashOf 27 = .ok (.i2l, 1) := lw_dr lw_d_cX12_clashOf_0 19 rfl
theorem dX12_clashOf_28 : decode cX12_clashOf 28 = .ok (.lstore 8, 2) := lw_dr lw_d_cX12_clashOf_0 20 rfl
theorem dX12_clashOf_30 : decode cX12_clashOf 30 = .ok (.lload 4, 2) := lw_dr lw_d_cX12_clashOf_0 21 rfl
theorem dX12_clashOf_32 : decode cX12_clashOf 32 = .ok (.lconst 0, 1) := lw_dr lw_d_cX12_clashOf_0 22 rfl
theorem dX12_clashOf_33 : decode cX12_clashOf 33 = .ok (.lcmp, 1) := lw_dr lw_d_cX12_clashOf_0 23 rfl
theorem dX12_clashOf_34 : decode cX12_clashOf 34 = .ok (.ifCond .eq 10, 3) := lw_dr lw_d_cX12_clashOf_0 24 rfl
theorem dX12_clashOf_44 : decode cX12_clashOf 44 = .ok (.iconst 0, 1) := lw_dr lw_d_cX12_clashOf_0 25 rfl
theorem dX12_clashOf_45 : decode cX12_clashOf 45 = .ok (.goto 19, 3) := lw_dr lw_d_cX12_clashOf_0 26 rfl
theorem dX12_clashOf_64 : decode cX12_clashOf 64 = .ok (.ireturn, 1) := lw_dr lw_d_cX12_clashOf_0 27 rfl
theorem dX12_clashOf_37 : decode cX12_clashOf 37 = .ok (.lload 6, 2) := lw_dr lw_d_cX12_clashOf_0 28 rfl
theorem dX12_clashOf_39 : decode cX12_clashOf 39 = .ok (.lconst 0, 1) := lw_dr lw_d_cX12_clashOf_0 29 rfl
theorem dX12_clashOf_40 : decode cX12_clashOf 40 = .ok (.lcmp, 1) := lw_dr lw_d_cX12_clashOf_0 30 rfl
theorem dX12_clashOf_41 : decode cX12_clashOf 41 = .ok (.ifCond .ne 7, 3) := lw_dr lw_d_cX12_clashOf_0 31 rfl
theorem dX12_clashOf_48 : decode cX12_clashOf 48 = .ok (.ldc2_w 365, 3) := lw_dr lw_d_cX12_clashOf_0 32 rfl
theorem dX12_clashOf_51 : decode cX12_clashOf 51 = .ok (.lload 8, 2) := lw_dr lw_d_cX12_clashOf_0 33 rfl
theorem dX12_clashOf_53 : decode cX12_clashOf 53 = .ok (.lmul, 1) := lw_dr lw_d_cX12_clashOf_0 34 rfl
theorem dX12_clashOf_54 : decode cX12_clashOf 54 = .ok (.lload 8, 2) := lw_dr lw_d_cX12_clashOf_0 35 rfl
theorem dX12_clashOf_56 : decode cX12_clashOf 56 = .ok (.lmul, 1) := lw_dr lw_d_cX12_clashOf_0 36 rfl
theorem dX12_clashOf_57 : decode cX12_clashOf 57 = .ok (.lload 4, 2) := lw_dr lw_d_cX12_clashOf_0 37 rfl
theorem dX12_clashOf_59 : decode cX12_clashOf 59 = .ok (.lload 6, 2) := lw_dr lw_d_cX12_clashOf_0 38 rfl
theorem dX12_clashOf_61 : decode cX12_clashOf 61 = .ok (.lmul, 1) := lw_dr lw_d_cX12_clashOf_0 39 rfl
theorem lw_d_cX12_clashOf_62 : lw_dl cX12_clashOf [(62, .ldiv, 1), (63, .l2i, 1)] = true := by decide +kernel
theorem dX12_clashOf_62 : decode cX12_clashOf 62 = .ok (.ldiv, 1) := lw_dr lw_d_cX12_clashOf_62 0 rfl
theorem dX12_clashOf_63 : decode cX12_clashOf 63 = .ok (.l2i, 1) := lw_dr lw_d_cX12_clashOf_62 1 rfl
theorem lw_d_cX12_worst_0 : lw_dl cX12_worst [(0, .iconst (-1), 1), (1, .istore_n 2, 1), (2, .iconst (-1), 1), (3, .istore_n 3, 1), (4, .iconst 0, 1), (5, .istore 4, 2), (7, .iload 4, 2), (9, .aload_n 0, 1), (10, .getfield 237, 3), (13, .if_icmp .ge 84, 3), (97, .iload_n 2, 1), (98, .ireturn, 1), (16, .iload 4, 2), (18, .iconst 1, 1), (19, .iadd, 1), (20, .istore 5, 2), (22, .iload 5, 2), (24, .aload_n 0, 1), (25, .getfield 237, 3), (28, .if_icmp .ge 63, 3), (91, .iinc 4 1, 3), (94, .goto (-87), 3), (31, .iload_n 1, 1), (32, .ifCond .eq 18, 3), (50, .aload_n 0, 1), (51, .iload 4, 2), (53, .iload 5, 2), (55, .aload_n 0, 1), (56, .getfield 69, 3), (59, .invokevirtual 367, 3), (62, .istore 6, 2), (64, .iload 6, 2), (66, .iload_n 3, 1), (67, .if_icmp .gt 6, 3), (73, .bipush 100, 2), (75, .iload 4, 2), (77, .imul, 1), (78, .iload 5, 2), (80, .iadd, 1), (81, .istore_n 2, 1)] = true := by decide +kernel
theorem dX12_worst_0 : decode cX12_worst 0 = .ok (.iconst (-1), 1) := lw_dr lw_d_cX12_worst_0 0 rfl
theorem dX12_worst_1 : decode cX12_worst 1 = .ok (.istore_n 2, 1) := lw_dr lw_d_cX12_worst_0 1 rfl
theorem dX12_worst_2 : decode cX12_worst 2 = .ok (.iconst (-1), 1) := lw_dr lw_d_cX12_worst_0 2 rfl
theorem dX12_worst_3 : decode cX12_worst 3 = .ok (.istore_n 3, 1) := lw_dr lw_d_cX12_worst_0 3 rfl
theorem dX12_worst_4 : decode cX12_worst 4 = .ok (.iconst 0, 1) := lw_dr lw_d_cX12_worst_0 4 rfl
theorem dX12_worst_5 : decode cX12_worst 5 = .ok (.istore 4, 2) := lw_dr lw_d_cX12_worst_0 5 rfl
theorem dX12_worst_7 : decode cX12_worst 7 = .ok (.iload 4, 2) := lw_dr lw_d_cX12_worst_0 6 rfl
theorem dX12_worst_9 : decode cX12_worst 9 = .ok (.aload_n 0, 1) := lw_dr lw_d_cX12_worst_0 7 rfl
theorem dX12_worst_10 : decode cX12_worst 10 = .ok (.getfield 237, 3) := lw_dr lw_d_cX12_worst_0 8 rfl
theorem dX12_worst_13 : decode cX12_worst 13 = .ok (.if_icmp .ge 84, 3) := lw_dr lw_d_cX12_worst_0 9 rfl
theorem dX12_worst_97 : decode cX12_worst 97 = .ok (.iload_n 2, 1) := lw_dr lw_d_cX12_worst_0 10 rfl
theorem dX12_worst_98 : decode cX12_worst 98 = .ok (.ireturn, 1) := lw_dr lw_d_cX12_worst_0 11 rfl
theorem dX12_worst_16 : decode cX12_worst 16 = .ok (.iload 4, 2) := lw_dr lw_d_cX12_worst_0 12 rfl
theorem dX12_worst_18 : decode cX12_worst 18 = .ok (.iconst 1, 1) := lw_dr lw_d_cX12_worst_0 13 rfl
theorem dX12_worst_19 : decode cX12_worst 19 = .ok (.iadd, 1) := lw_dr lw_d_cX12_worst_0 14 rfl
theorem dX12_worst_20 : decode cX12_worst 20 = .ok (.istore 5, 2) := lw_dr lw_d_cX12_worst_0 15 rfl
theorem dX12_worst_22 : decode cX12_worst 22 = .ok (.iload 5, 2) := lw_dr lw_d_cX12_worst_0 16 rfl
theorem dX12_worst_24 : decode cX12_worst 24 = .ok (.aload_n 0, 1) := lw_dr lw_d_cX12_worst_0 17 rfl
theorem dX12_worst_25 : decode cX12_worst 25 = .ok (.getfield 237, 3) := lw_dr lw_d_cX12_worst_0 18 rfl
theorem dX12_worst_28 : decode cX12_worst 28 = .ok (.if_icmp .ge 63, 3) := lw_dr lw_d_cX12_worst_0 19 rfl
theorem dX12_worst_91 : decode cX12_worst 91 = .ok (.iinc 4 1, 3) := lw_dr lw_d_cX12_worst_0 20 rfl
theorem dX12_worst_94 : decode cX12_worst 94 = .ok (.goto (-87), 3) := lw_dr lw_d_cX12_worst_0 21 rfl
theorem dX12_worst_31 : decode cX12_worst 31 = .ok (.iload_n 1, 1) := lw_dr lw_d_cX12_worst_0 22 rfl
theorem dX12_worst_32 : decode cX12_worst 32 = .ok (.ifCond .eq 18, 3) := lw_dr lw_d_cX12_worst_0 23 rfl
theorem dX12_worst_50 : decode cX12_worst 50 = .ok (.aload_n 0, 1) := lw_dr lw_d_cX12_worst_0 24 rfl
theorem dX12_worst_51 : decode cX12_worst 51 = .ok (.iload 4, 2) := lw_dr lw_d_cX12_worst_0 25 rfl
theorem dX12_worst_53 : decode cX12_worst 53 = .ok (.iload 5, 2) := lw_dr lw_d_cX12_worst_0 26 rfl
theorem dX12_worst_55 : decode cX12_worst 55 = .ok (.aload_n 0, 1) := lw_dr lw_d_cX12_worst_0 27 rfl
theorem dX12_worst_56 : decode cX12_worst 56 = .ok (.getfield 69, 3) := lw_dr lw_d_cX12_worst_0 28 rfl
theorem dX12_worst_59 : decode cX12_worst 59 = .ok (.invokevirtual 367, 3) := lw_dr lw_d_cX12_worst_0 29 rfl
theorem dX12_worst_62 : decode cX12_worst 62 = .ok (.istore 6, 2) := lw_dr lw_d_cX12_worst_0 30 rfl
theorem dX12_worst_64 : decode cX12_worst 64 = .ok (.iload 6, 2) := lw_dr lw_d_cX12_worst_0 31 rfl
theorem dX12_worst_66 : decode cX12_worst 66 = .ok (.iload_n 3, 1) := lw_dr lw_d_cX12_worst_0 32 rfl
theorem dX12_worst_67 : decode cX12_worst 67 = .ok (.if_icmp .gt 6, 3) := lw_dr lw_d_cX12_worst_0 33 rfl
theorem dX12_worst_73 : decode cX12_worst 73 = .ok (.bipush 100, 2) := lw_dr lw_d_cX12_worst_0 34 rfl
theorem dX12_worst_75 : decode cX12_worst 75 = .ok (.iload 4, 2) := lw_dr lw_d_cX12_worst_0 35 rfl
theorem dX12_worst_77 : decode cX12_worst 77 = .ok (.imul, 1) := lw_dr lw_d_cX12_worst_0 36 rfl
theorem dX12_worst_78 : decode cX12_worst 78 = .ok (.iload 5, 2) := lw_dr lw_d_cX12_worst_0 37 rfl
theorem dX12_worst_80 : decode cX12_worst 80 = .ok (.iadd, 1) := lw_dr lw_d_cX12_worst_0 38 rfl
theorem dX12_worst_81 : decode cX12_worst 81 = .ok (.istore_n 2, 1) := lw_dr lw_d_cX12_worst_0 39 rfl
theorem lw_d_cX12_worst_82 : lw_dl cX12_worst [(82, .iload 6, 2), (84, .istore_n 3, 1), (85, .iinc 5 1, 3), (88, .goto (-66), 3), (70, .goto 15, 3), (35, .aload_n 0, 1), (36, .iload 4, 2), (38, .iload 5, 2), (40, .aload_n 0, 1), (41, .getfield 97, 3), (44, .invokevirtual 367, 3), (47, .goto 15, 3)] = true := by decide +kernel
theorem dX12_worst_82 : decode cX12_worst 82 = .ok (.iload 6, 2) := lw_dr lw_d_cX12_worst_82 0 rfl
theorem dX12_worst_84 : decode cX12_worst 84 = .ok (.istore_n 3, 1) := lw_dr lw_d_cX12_worst_82 1 rfl
theorem dX12_worst_85 : decode cX12_worst 85 = .ok (.iinc 5 1, 3) := lw_dr lw_d_cX12_worst_82 2 rfl
theorem dX12_worst_88 : decode cX12_worst 88 = .ok (.goto (-66), 3) := lw_dr lw_d_cX12_worst_82 3 rfl
theorem dX12_worst_70 : decode cX12_worst 70 = .ok (.goto 15, 3) := lw_dr lw_d_cX12_worst_82 4 rfl
theorem dX12_worst_35 : decode cX12_worst 35 = .ok (.aload_n 0, 1) := lw_dr lw_d_cX12_worst_82 5 rfl
theorem dX12_worst_36 : decode cX12_worst 36 = .ok (.iload 4, 2) := lw_dr lw_d_cX12_worst_82 6 rfl
theorem dX12_worst_38 : decode cX12_worst 38 = .ok (.iload 5, 2) := lw_dr lw_d_cX12_worst_82 7 rfl
theorem dX12_worst_40 : decode cX12_worst 40 = .ok (.aload_n 0, 1) := lw_dr lw_d_cX12_worst_82 8 rfl
theorem dX12_worst_41 : decode cX12_worst 41 = .ok (.getfield 97, 3) := lw_dr lw_d_cX12_worst_82 9 rfl
theorem dX12_worst_44 : decode cX12_worst 44 = .ok (.invokevirtual 367, 3) := lw_dr lw_d_cX12_worst_82 10 rfl
theorem dX12_worst_47 : decode cX12_worst 47 = .ok (.goto 15, 3) := lw_dr lw_d_cX12_worst_82 11 rfl
theorem lw_d_cX12_hear_0 : lw_dl cX12_hear [(0, .aload_n 0, 1), (1, .getfield 148, 3), (4, .istore_n 1, 1), (5, .aload_n 0, 1), (6, .iconst 0, 1), (7, .putfield 148, 3), (10, .iload_n 1, 1), (11, .iconst 2, 1), (12, .aload_n 0, 1), (13, .getfield 240, 3), (16, .imul, 1), (17, .if_icmp .eq 5, 3), (22, .iconst 0, 1), (23, .istore_n 2, 1), (24, .iload_n 2, 1), (25, .aload_n 0, 1), (26, .getfield 240, 3), (29, .if_icmp .ge 55, 3), (84, .iconst 1, 1), (85, .ireturn, 1), (32, .sipush 256, 3), (35, .aload_n 0, 1), (36, .getfield 7, 3), (39, .iconst 2, 1), (40, .iload_n 2, 1), (41, .imul, 1), (42, .iaload, 1), (43, .imul, 1), (44, .aload_n 0, 1), (45, .getfield 7, 3), (48, .iconst 2, 1), (49, .iload_n 2, 1), (50, .imul, 1), (51, .iconst 1, 1), (52, .iadd, 1), (53, .iaload, 1), (54, .iadd, 1), (55, .istore_n 3, 1), (56, .aload_n 0, 1), (57, .getfield 100, 3)] = true := by decide +kernel
theorem dX12_hear_0 : decode cX12_hear 0 = .ok (.aload_n 0, 1) := lw_dr lw_d_cX12_hear_0 0 rfl
theorem dX12_hear_1 : decode cX12_hear 1 = .ok (.getfield 148, 3) := lw_dr lw_d_cX12_hear_0 1 rfl
theorem dX12_hear_4 : decode cX12_hear 4 = .ok (.istore_n 1, 1) := lw_dr lw_d_cX12_hear_0 2 rfl
theorem dX12_hear_5 : decode cX12_hear 5 = .ok (.aload_n 0, 1) := lw_dr lw_d_cX12_hear_0 3 rfl
theorem dX12_hear_6 : decode cX12_hear 6 = .ok (.iconst 0, 1) := lw_dr lw_d_cX12_hear_0 4 rfl
theorem dX12_hear_7 : decode cX12_hear 7 = .ok (.putfield 148, 3) := lw_dr lw_d_cX12_hear_0 5 rfl
theorem dX12_hear_10 : decode cX12_hear 10 = .ok (.iload_n 1, 1) := lw_dr lw_d_cX12_hear_0 6 rfl
theorem dX12_hear_11 : decode cX12_hear 11 = .ok (.iconst 2, 1) := lw_dr lw_d_cX12_hear_0 7 rfl
theorem dX12_hear_12 : decode cX12_hear 12 = .ok (.aload_n 0, 1) := lw_dr lw_d_cX12_hear_0 8 rfl
theorem dX12_hear_13 : decode cX12_hear 13 = .ok (.getfield 240, 3) := lw_dr lw_d_cX12_hear_0 9 rfl
theorem dX12_hear_16 : decode cX12_hear 16 = .ok (.imul, 1) := lw_dr lw_d_cX12_hear_0 10 rfl
theorem dX12_hear_17 : decode cX12_hear 17 = .ok (.if_icmp .eq 5, 3) := lw_dr lw_d_cX12_hear_0 11 rfl
theorem dX12_hear_22 : decode cX12_hear 22 = .ok (.iconst 0, 1) := lw_dr lw_d_cX12_hear_0 12 rfl
theorem dX12_hear_23 : decode cX12_hear 23 = .ok (.istore_n 2, 1) := lw_dr lw_d_cX12_hear_0 13 rfl
theorem dX12_hear_24 : decode cX12_hear 24 = .ok (.iload_n 2, 1) := lw_dr lw_d_cX12_hear_0 14 rfl
theorem dX12_hear_25 : decode cX12_hear 25 = .ok (.aload_n 0, 1) := lw_dr lw_d_cX12_hear_0 15 rfl
theorem dX12_hear_26 : decode cX12_hear 26 = .ok (.getfield 240, 3) := lw_dr lw_d_cX12_hear_0 16 rfl
theorem dX12_hear_29 : decode cX12_hear 29 = .ok (.if_icmp .ge 55, 3) := lw_dr lw_d_cX12_hear_0 17 rfl
theorem dX12_hear_84 : decode cX12_hear 84 = .ok (.iconst 1, 1) := lw_dr lw_d_cX12_hear_0 18 rfl
theorem dX12_hear_85 : decode cX12_hear 85 = .ok (.ireturn, 1) := lw_dr lw_d_cX12_hear_0 19 rfl
theorem dX12_hear_32 : decode cX12_hear 32 = .ok (.sipush 256, 3) := lw_dr lw_d_cX12_hear_0 20 rfl
theorem dX12_hear_35 : decode cX12_hear 35 = .ok (.aload_n 0, 1) := lw_dr lw_d_cX12_hear_0 21 rfl
theorem dX12_hear_36 : decode cX12_hear 36 = .ok (.getfield 7, 3) := lw_dr lw_d_cX12_hear_0 22 rfl
theorem dX12_hear_39 : decode cX12_hear 39 = .ok (.iconst 2, 1) := lw_dr lw_d_cX12_hear_0 23 rfl
theorem dX12_hear_40 : decode cX12_hear 40 = .ok (.iload_n 2, 1) := lw_dr lw_d_cX12_hear_0 24 rfl
theorem dX12_hear_41 : decode cX12_hear 41 = .ok (.imul, 1) := lw_dr lw_d_cX12_hear_0 25 rfl
theorem dX12_hear_42 : decode cX12_hear 42 = .ok (.iaload, 1) := lw_dr lw_d_cX12_hear_0 26 rfl
theorem dX12_hear_43 : decode cX12_hear 43 = .ok (.imul, 1) := lw_dr lw_d_cX12_hear_0 27 rfl
theorem dX12_hear_44 : decode cX12_hear 44 = .ok (.aload_n 0, 1) := lw_dr lw_d_cX12_hear_0 28 rfl
theorem dX12_hear_45 : decode cX12_hear 45 = .ok (.getfield 7, 3) := lw_dr lw_d_cX12_hear_0 29 rfl
theorem dX12_hear_48 : decode cX12_hear 48 = .ok (.iconst 2, 1) := lw_dr lw_d_cX12_hear_0 30 rfl
theorem dX12_hear_49 : decode cX12_hear 49 = .ok (.iload_n 2, 1) := lw_dr lw_d_cX12_hear_0 31 rfl
theorem dX12_hear_50 : decode cX12_hear 50 = .ok (.imul, 1) := lw_dr lw_d_cX12_hear_0 32 rfl
theorem dX12_hear_51 : decode cX12_hear 51 = .ok (.iconst 1, 1) := lw_dr lw_d_cX12_hear_0 33 rfl
theorem dX12_hear_52 : decode cX12_hear 52 = .ok (.iadd, 1) := lw_dr lw_d_cX12_hear_0 34 rfl
theorem dX12_hear_53 : decode cX12_hear 53 = .ok (.iaload, 1) := lw_dr lw_d_cX12_hear_0 35 rfl
theorem dX12_hear_54 : decode cX12_hear 54 = .ok (.iadd, 1) := lw_dr lw_d_cX12_hear_0 36 rfl
theorem dX12_hear_55 : decode cX12_hear 55 = .ok (.istore_n 3, 1) := lw_dr lw_d_cX12_hear_0 37 rfl
theorem dX12_hear_56 : decode cX12_hear 56 = .ok (.aload_n 0, 1) := lw_dr lw_d_cX12_hear_0 38 rfl
theorem dX12_hear_57 : decode cX12_hear 57 = .ok (.getfield 100, 3) := lw_dr lw_d_cX12_hear_0 39 rfl
theorem lw_d_cX12_hear_60 : lw_dl cX12_hear [(60, .iload_n 2, 1), (61, .iload_n 3, 1), (62, .sipush 32767, 3), (65, .if_icmp .le 11, 3), (76, .iload_n 3, 1), (77, .iastore, 1), (78, .iinc 2 1, 3), (81, .goto (-57), 3), (68, .iload_n 3, 1), (69, .ldc_w 370, 3), (72, .isub, 1), (73, .goto 4, 3), (20, .iconst 0, 1), (21, .ireturn, 1)] = true := by decide +kernel
theorem dX12_hear_60 : decode cX12_hear 60 = .ok (.iload_n 2, 1) := lw_dr lw_d_cX12_hear_60 0 rfl
theorem dX12_hear_61 : decode cX12_hear 61 = .ok (.iload_n 3, 1) := lw_dr lw_d_cX12_hear_60 1 rfl
theorem dX12_hear_62 : decode cX12_hear 62 = .ok (.sipush 32767, 3) := lw_dr lw_d_cX12_hear_60 2 rfl
theorem dX12_hear_65 : decode cX12_hear 65 = .ok (.if_icmp .le 11, 3) := lw_dr lw_d_cX12_hear_60 3 rfl
theorem dX12_hear_76 : decode cX12_hear 76 = .ok (.iload_n 3, 1) := lw_dr lw_d_cX12_hear_60 4 rfl
theorem dX12_hear_77 : decode cX12_hear 77 = .ok (.iastore, 1) := lw_dr lw_d_cX12_hear_60 5 rfl
theorem dX12_hear_78 : decode cX12_hear 78 = .ok (.iinc 2 1, 3) := lw_dr lw_d_cX12_hear_60 6 rfl
theorem dX12_hear_81 : decode cX12_hear 81 = .ok (.goto (-57), 3) := lw_dr lw_d_cX12_hear_60 7 rfl
theorem dX12_hear_68 : decode cX12_hear 68 = .ok (.iload_n 3, 1) := lw_dr lw_d_cX12_hear_60 8 rfl
theorem dX12_hear_69 : decode cX12_hear 69 = .ok (.ldc_w 370, 3) := lw_dr lw_d_cX12_hear_60 9 rfl
theorem dX12_hear_72 : decode cX12_hear 72 = .ok (.isub, 1) := lw_dr lw_d_cX12_hear_60 10 rfl
theorem dX12_hear_73 : decode cX12_hear 73 = .ok (.goto 4, 3) := lw_dr lw_d_cX12_hear_60 11 rfl
theorem dX12_hear_20 : decode cX12_hear 20 = .ok (.iconst 0, 1) := lw_dr lw_d_cX12_hear_60 12 rfl
theorem dX12_hear_21 : decode cX12_hear 21 = .ok (.ireturn, 1) := lw_dr lw_d_cX12_hear_60 13 rfl
theorem lw_d_cX12_heard_0 : lw_dl cX12_heard [(0, .aload_n 0, 1), (1, .iload_n 1, 1), (2, .invokevirtual 358, 3), (5, .ifCond .eq 12, 3), (17, .ldc_w 364, 3), (20, .ireturn, 1), (8, .aload_n 0, 1), (9, .getfield 100, 3), (12, .iload_n 1, 1), (13, .iaload, 1), (14, .goto 6, 3)] = true := by decide +kernel
theorem dX12_heard_0 : decode cX12_heard 0 = .ok (.aload_n 0, 1) := lw_dr lw_d_cX12_heard_0 0 rfl
theorem dX12_heard_1 : decode cX12_heard 1 = .ok (.iload_n 1, 1) := lw_dr lw_d_cX12_heard_0 1 rfl
theorem dX12_heard_2 : decode cX12_heard 2 = .ok (.invokevirtual 358, 3) := lw_dr lw_d_cX12_heard_0 2 rfl
theorem dX12_heard_5 : decode cX12_heard 5 = .ok (.ifCond .eq 12, 3) := lw_dr lw_d_cX12_heard_0 3 rfl
theorem dX12_heard_17 : decode cX12_heard 17 = .ok (.ldc_w 364, 3) := lw_dr lw_d_cX12_heard_0 4 rfl
theorem dX12_heard_20 : decode cX12_heard 20 = .ok (.ireturn, 1) := lw_dr lw_d_cX12_heard_0 5 rfl
theorem dX12_heard_8 : decode cX12_heard 8 = .ok (.aload_n 0, 1) := lw_dr lw_d_cX12_heard_0 6 rfl
theorem dX12_heard_9 : decode cX12_heard 9 = .ok (.getfield 100, 3) := lw_dr lw_d_cX12_heard_0 7 rfl
theorem dX12_heard_12 : decode cX12_heard 12 = .ok (.iload_n 1, 1) := lw_dr lw_d_cX12_heard_0 8 rfl
theorem dX12_heard_13 : decode cX12_heard 13 = .ok (.iaload, 1) := lw_dr lw_d_cX12_heard_0 9 rfl
theorem dX12_heard_14 : decode cX12_heard 14 = .ok (.goto 6, 3) := lw_dr lw_d_cX12_heard_0 10 rfl
theorem lw_d_cX12_send_0 : lw_dl cX12_send [(0, .aload_n 0, 1), (1, .invokevirtual 377, 3), (4, .ifCond .ne 5, 3), (9, .iconst 0, 1), (10, .istore_n 1, 1), (11, .iload_n 1, 1), (12, .aload_n 0, 1), (13, .getfield 240, 3), (16, .if_icmp .ge 20, 3), (36, .iconst 1, 1), (37, .ireturn, 1), (19, .aload_n 0, 1), (20, .getfield 100, 3), (23, .iload_n 1, 1), (24, .aload_n 0, 1), (25, .iload_n 1, 1), (26, .invokevirtual 374, 3), (29, .iastore, 1), (30, .iinc 1 1, 3), (33, .goto (-22), 3), (7, .iconst 0, 1), (8, .ireturn, 1)] = true := by decide +kernel
theorem dX12_send_0 : decode cX12_send 0 = .ok (.aload_n 0, 1) := lw_dr lw_d_cX12_send_0 0 rfl
theorem dX12_send_1 : decode cX12_send 1 = .ok (.invokevirtual 377, 3) := lw_dr lw_d_cX12_send_0 1 rfl
theorem dX12_send_4 : decode cX12_send 4 = .ok (.ifCond .ne 5, 3) := lw_dr lw_d_cX12_send_0 2 rfl
theorem dX12_send_9 : decode cX12_send 9 = .ok (.iconst 0, 1) := lw_dr lw_d_cX12_send_0 3 rfl
theorem dX12_send_10 : decode cX12_send 10 = .ok (.istore_n 1, 1) := lw_dr lw_d_cX12_send_0 4 rfl
theorem dX12_send_11 : decode cX12_send 11 = .ok (.iload_n 1, 1) := lw_dr lw_d_cX12_send_0 5 rfl
theorem dX12_send_12 : decode cX12_send 12 = .ok (.aload_n 0, 1) := lw_dr lw_d_cX12_send_0 6 rfl
theorem dX12_send_13 : decode cX12_send 13 = .ok (.getfield 240, 3) := lw_dr lw_d_cX12_send_0 7 rfl
theorem dX12_send_16 : decode cX12_send 16 = .ok (.if_icmp .ge 20, 3) := lw_dr lw_d_cX12_send_0 8 rfl
theorem dX12_send_36 : decode cX12_send 36 = .ok (.iconst 1, 1) := lw_dr lw_d_cX12_send_0 9 rfl
theorem dX12_send_37 : decode cX12_send 37 = .ok (.ireturn, 1) := lw_dr lw_d_cX12_send_0 10 rfl
theorem dX12_send_19 : decode cX12_send 19 = .ok (.aload_n 0, 1) := lw_dr lw_d_cX12_send_0 11 rfl
theorem dX12_send_20 : decode cX12_send 20 = .ok (.getfield 100, 3) := lw_dr lw_d_cX12_send_0 12 rfl
theorem dX12_send_23 : decode cX12_send 23 = .ok (.iload_n 1, 1) := lw_dr lw_d_cX12_send_0 13 rfl
theorem dX12_send_24 : decode cX12_send 24 = .ok (.aload_n 0, 1) := lw_dr lw_d_cX12_send_0 14 rfl
theorem dX12_send_25 : decode cX12_send 25 = .ok (.iload_n 1, 1) := lw_dr lw_d_cX12_send_0 15 rfl
theorem dX12_send_26 : decode cX12_send 26 = .ok (.invokevirtual 374, 3) := lw_dr lw_d_cX12_send_0 16 rfl
theorem dX12_send_29 : decode cX12_send 29 = .ok (.iastore, 1) := lw_dr lw_d_cX12_send_0 17 rfl
theorem dX12_send_30 : decode cX12_send 30 = .ok (.iinc 1 1, 3) := lw_dr lw_d_cX12_send_0 18 rfl
theorem dX12_send_33 : decode cX12_send 33 = .ok (.goto (-22), 3) := lw_dr lw_d_cX12_send_0 19 rfl
theorem dX12_send_7 : decode cX12_send 7 = .ok (.iconst 0, 1) := lw_dr lw_d_cX12_send_0 20 rfl
theorem dX12_send_8 : decode cX12_send 8 = .ok (.ireturn, 1) := lw_dr lw_d_cX12_send_0 21 rfl
theorem lw_d_cX12_isRowTold_0 : lw_dl cX12_isRowTold [(0, .aload_n 0, 1), (1, .getfield 148, 3), (4, .istore_n 1, 1), (5, .aload_n 0, 1), (6, .iconst 0, 1), (7, .putfield 148, 3), (10, .aload_n 0, 1), (11, .getfield 237, 3), (14, .ifCond .eq 11, 3), (25, .iconst 0, 1), (26, .ireturn, 1), (17, .iload_n 1, 1), (18, .aload_n 0, 1), (19, .getfield 237, 3), (22, .if_icmp .eq 5, 3), (27, .iconst 0, 1), (28, .istore_n 2, 1), (29, .iload_n 2, 1), (30, .aload_n 0, 1), (31, .getfield 237, 3), (34, .if_icmp .ge 60, 3), (37, .aload_n 0, 1), (38, .getfield 103, 3), (41, .iload_n 2, 1), (42, .aload_n 0, 1), (43, .getfield 7, 3), (46, .iload_n 2, 1), (47, .iaload, 1), (48, .bipush 127, 2), (50, .if_icmp .le 16, 3), (66, .aload_n 0, 1), (67, .getfield 7, 3), (70, .iload_n 2, 1), (71, .iaload, 1), (72, .iastore, 1), (73, .aload_n 0, 1), (74, .aload_n 0, 1), (75, .getfield 103, 3), (78, .iload_n 2, 1), (79, .iaload, 1)] = true := by decide +kernel
theorem dX12_isRowTold_0 : decode cX12_isRowTold 0 = .ok (.aload_n 0, 1) := lw_dr lw_d_cX12_isRowTold_0 0 rfl
theorem dX12_isRowTold_1 : decode cX12_isRowTold 1 = .ok (.getfield 148, 3) := lw_dr lw_d_cX12_isRowTold_0 1 rfl
theorem dX12_isRowTold_4 : decode cX12_isRowTold 4 = .ok (.istore_n 1, 1) := lw_dr lw_d_cX12_isRowTold_0 2 rfl
theorem dX12_isRowTold_5 : decode cX12_isRowTold 5 = .ok (.aload_n 0, 1) := lw_dr lw_d_cX12_isRowTold_0 3 rfl
theorem dX12_isRowTold_6 : decode cX12_isRowTold 6 = .ok (.iconst 0, 1) := lw_dr lw_d_cX12_isRowTold_0 4 rfl
theorem dX12_isRowTold_7 : decode cX12_isRowTold 7 = .ok (.putfield 148, 3) := lw_dr lw_d_cX12_isRowTold_0 5 rfl
theorem dX12_isRowTold_10 : decode cX12_isRowTold 10 = .ok (.aload_n 0, 1) := lw_dr lw_d_cX12_isRowTold_0 6 rfl
theorem dX12_isRowTold_11 : decode cX12_isRowTold 11 = .ok (.getfield 237, 3) := lw_dr lw_d_cX12_isRowTold_0 7 rfl
theorem dX12_isRowTold_14 : decode cX12_isRowTold 14 = .ok (.ifCond .eq 11, 3) := lw_dr lw_d_cX12_isRowTold_0 8 rfl
theorem dX12_isRowTold_25 : decode cX12_isRowTold 25 = .ok (.iconst 0, 1) := lw_dr lw_d_cX12_isRowTold_0 9 rfl
theorem dX12_isRowTold_26 : decode cX12_isRowTold 26 = .ok (.ireturn, 1) := lw_dr lw_d_cX12_isRowTold_0 10 rfl
theorem dX12_isRowTold_17 : decode cX12_isRowTold 17 = .ok (.iload_n 1, 1) := lw_dr lw_d_cX12_isRowTold_0 11 rfl
theorem dX12_isRowTold_18 : decode cX12_isRowTold 18 = .ok (.aload_n 0, 1) := lw_dr lw_d_cX12_isRowTold_0 12 rfl
theorem dX12_isRowTold_19 : decode cX12_isRowTold 19 = .ok (.getfield 237, 3) := lw_dr lw_d_cX12_isRowTold_0 13 rfl
theorem dX12_isRowTold_22 : decode cX12_isRowTold 22 = .ok (.if_icmp .eq 5, 3) := lw_dr lw_d_cX12_isRowTold_0 14 rfl
theorem dX12_isRowTold_27 : decode cX12_isRowTold 27 = .ok (.iconst 0, 1) := lw_dr lw_d_cX12_isRowTold_0 15 rfl
theorem dX12_isRowTold_28 : decode cX12_isRowTold 28 = .ok (.istore_n 2, 1) := lw_dr lw_d_cX12_isRowTold_0 16 rfl
theorem dX12_isRowTold_29 : decode cX12_isRowTold 29 = .ok (.iload_n 2, 1) := lw_dr lw_d_cX12_isRowTold_0 17 rfl
theorem dX12_isRowTold_30 : decode cX12_isRowTold 30 = .ok (.aload_n 0, 1) := lw_dr lw_d_cX12_isRowTold_0 18 rfl
theorem dX12_isRowTold_31 : decode cX12_isRowTold 31 = .ok (.getfield 237, 3) := lw_dr lw_d_cX12_isRowTold_0 19 rfl
theorem dX12_isRowTold_34 : decode cX12_isRowTold 34 = .ok (.if_icmp .ge 60, 3) := lw_dr lw_d_cX12_isRowTold_0 20 rfl
theorem dX12_isRowTold_37 : decode cX12_isRowTold 37 = .ok (.aload_n 0, 1) := lw_dr lw_d_cX12_isRowTold_0 21 rfl
theorem dX12_isRowTold_38 : decode cX12_isRowTold 38 = .ok (.getfield 103, 3) := lw_dr lw_d_cX12_isRowTold_0 22 rfl
theorem dX12_isRowTold_41 : decode cX12_isRowTold 41 = .ok (.iload_n 2, 1) := lw_dr lw_d_cX12_isRowTold_0 23 rfl
theorem dX12_isRowTold_42 : decode cX12_isRowTold 42 = .ok (.aload_n 0, 1) := lw_dr lw_d_cX12_isRowTold_0 24 rfl
theorem dX12_isRowTold_43 : decode cX12_isRowTold 43 = .ok (.getfield 7, 3) := lw_dr lw_d_cX12_isRowTold_0 25 rfl
theorem dX12_isRowTold_46 : decode cX12_isRowTold 46 = .ok (.iload_n 2, 1) := lw_dr lw_d_cX12_isRowTold_0 26 rfl
theorem dX12_isRowTold_47 : decode cX12_isRowTold 47 = .ok (.iaload, 1) := lw_dr lw_d_cX12_isRowTold_0 27 rfl
theorem dX12_isRowTold_48 : decode cX12_isRowTold 48 = .ok (.bipush 127, 2) := lw_dr lw_d_cX12_isRowTold_0 28 rfl
theorem dX12_isRowTold_50 : decode cX12_isRowTold 50 = .ok (.if_icmp .le 16, 3) := lw_dr lw_d_cX12_isRowTold_0 29 rfl
theorem dX12_isRowTold_66 : decode cX12_isRowTold 66 = .ok (.aload_n 0, 1) := lw_dr lw_d_cX12_isRowTold_0 30 rfl
theorem dX12_isRowTold_67 : decode cX12_isRowTold 67 = .ok (.getfield 7, 3) := lw_dr lw_d_cX12_isRowTold_0 31 rfl
theorem dX12_isRowTold_70 : decode cX12_isRowTold 70 = .ok (.iload_n 2, 1) := lw_dr lw_d_cX12_isRowTold_0 32 rfl
theorem dX12_isRowTold_71 : decode cX12_isRowTold 71 = .ok (.iaload, 1) := lw_dr lw_d_cX12_isRowTold_0 33 rfl
theorem dX12_isRowTold_72 : decode cX12_isRowTold 72 = .ok (.iastore, 1) := lw_dr lw_d_cX12_isRowTold_0 34 rfl
theorem dX12_isRowTold_73 : decode cX12_isRowTold 73 = .ok (.aload_n 0, 1) := lw_dr lw_d_cX12_isRowTold_0 35 rfl
theorem dX12_isRowTold_74 : decode cX12_isRowTold 74 = .ok (.aload_n 0, 1) := lw_dr lw_d_cX12_isRowTold_0 36 rfl
theorem dX12_isRowTold_75 : decode cX12_isRowTold 75 = .ok (.getfield 103, 3) := lw_dr lw_d_cX12_isRowTold_0 37 rfl
theorem dX12_isRowTold_78 : decode cX12_isRowTold 78 = .ok (.iload_n 2, 1) := lw_dr lw_d_cX12_isRowTold_0 38 rfl
theorem dX12_isRowTold_79 : decode cX12_isRowTold 79 = .ok (.iaload, 1) := lw_dr lw_d_cX12_isRowTold_0 39 rfl
theorem lw_d_cX12_isRowTold_80 : lw_dl cX12_isRowTold [(80, .invokevirtual 371, 3), (83, .ifCond .ne 5, 3), (88, .iinc 2 1, 3), (91, .goto (-62), 3), (86, .iconst 0, 1), (87, .ireturn, 1), (53, .aload_n 0, 1), (54, .getfield 7, 3), (57, .iload_n 2, 1), (58, .iaload, 1), (59, .sipush 256, 3), (62, .isub, 1), (63, .goto 9, 3), (94, .iconst 1, 1), (95, .ireturn, 1)] = true := by decide +kernel
theorem dX12_isRowTold_80 : decode cX12_isRowTold 80 = .ok (.invokevirtual 371, 3) := lw_dr lw_d_cX12_isRowTold_80 0 rfl
theorem dX12_isRowTold_83 : decode cX12_isRowTold 83 = .ok (.ifCond .ne 5, 3) := lw_dr lw_d_cX12_isRowTold_80 1 rfl
theorem dX12_isRowTold_88 : decode cX12_isRowTold 88 = .ok (.iinc 2 1, 3) := lw_dr lw_d_cX12_isRowTold_80 2 rfl
theorem dX12_isRowTold_91 : decode cX12_isRowTold 91 = .ok (.goto (-62), 3) := lw_dr lw_d_cX12_isRowTold_80 3 rfl
theorem dX12_isRowTold_86 : decode cX12_isRowTold 86 = .ok (.iconst 0, 1) := lw_dr lw_d_cX12_isRowTold_80 4 rfl
theorem dX12_isRowTold_87 : decode cX12_isRowTold 87 = .ok (.ireturn, 1) := lw_dr lw_d_cX12_isRowTold_80 5 rfl
theorem dX12_isRowTold_53 : decode cX12_isRowTold 53 = .ok (.aload_n 0, 1) := lw_dr lw_d_cX12_isRowTold_80 6 rfl
theorem dX12_isRowTold_54 : decode cX12_isRowTold 54 = .ok (.getfield 7, 3) := lw_dr lw_d_cX12_isRowTold_80 7 rfl
theorem dX12_isRowTold_57 : decode cX12_isRowTold 57 = .ok (.iload_n 2, 1) := lw_dr lw_d_cX12_isRowTold_80 8 rfl
theorem dX12_isRowTold_58 : decode cX12_isRowTold 58 = .ok (.iaload, 1) := lw_dr lw_d_cX12_isRowTold_80 9 rfl
theorem dX12_isRowTold_59 : decode cX12_isRowTold 59 = .ok (.sipush 256, 3) := lw_dr lw_d_cX12_isRowTold_80 10 rfl
theorem dX12_isRowTold_62 : decode cX12_isRowTold 62 = .ok (.isub, 1) := lw_dr lw_d_cX12_isRowTold_80 11 rfl
theorem dX12_isRowTold_63 : decode cX12_isRowTold 63 = .ok (.goto 9, 3) := lw_dr lw_d_cX12_isRowTold_80 12 rfl
theorem dX12_isRowTold_94 : decode cX12_isRowTold 94 = .ok (.iconst 1, 1) := lw_dr lw_d_cX12_isRowTold_80 13 rfl
theorem dX12_isRowTold_95 : decode cX12_isRowTold 95 = .ok (.ireturn, 1) := lw_dr lw_d_cX12_isRowTold_80 14 rfl
theorem lw_d_cX12_isLetterOf_0 : lw_dl cX12_isLetterOf [(0, .iload_n 1, 1), (1, .i2l, 1), (2, .iconst 1, 1), (3, .aload_n 0, 1), (4, .getfield 234, 3), (7, .isub, 1), (8, .i2l, 1), (9, .aload_n 0, 1), (10, .getfield 234, 3), (13, .iconst 1, 1), (14, .isub, 1), (15, .i2l, 1), (16, .invokestatic 191, 3), (19, .ifCond .eq 20, 3), (39, .iconst 0, 1), (40, .ireturn, 1), (22, .iload_n 1, 1), (23, .aload_n 0, 1), (24, .getfield 234, 3), (27, .iadd, 1), (28, .iconst 1, 1), (29, .isub, 1), (30, .iconst 2, 1), (31, .irem, 1), (32, .ifCond .ne 7, 3), (35, .iconst 1, 1), (36, .goto 4, 3)] = true := by decide +kernel
theorem dX12_isLetterOf_0 : decode cX12_isLetterOf 0 = .ok (.iload_n 1, 1) := lw_dr lw_d_cX12_isLetterOf_0 0 rfl
theorem dX12_isLetterOf_1 : decode cX12_isLetterOf 1 = .ok (.i2l, 1) := lw_dr lw_d_cX12_isLetterOf_0 1 rfl
theorem dX12_isLetterOf_2 : decode cX12_isLetterOf 2 = .ok (.iconst 1, 1) := lw_dr lw_d_cX12_isLetterOf_0 2 rfl
theorem dX12_isLetterOf_3 : decode cX12_isLetterOf 3 = .ok (.aload_n 0, 1) := lw_dr lw_d_cX12_isLetterOf_0 3 rfl
theorem dX12_isLetterOf_4 : decode cX12_isLetterOf 4 = .ok (.getfield 234, 3) := lw_dr lw_d_cX12_isLetterOf_0 4 rfl
theorem dX12_isLetterOf_7 : decode cX12_isLetterOf 7 = .ok (.isub, 1) := lw_dr lw_d_cX12_isLetterOf_0 5 rfl
theorem dX12_isLetterOf_8 : decode cX12_isLetterOf 8 = .ok (.i2l, 1) := lw_dr lw_d_cX12_isLetterOf_0 6 rfl
theorem dX12_isLetterOf_9 : decode cX12_isLetterOf 9 = .ok (.aload_n 0, 1) := lw_dr lw_d_cX12_isLetterOf_0 7 rfl
theorem dX12_isLetterOf_10 : decode cX12_isLetterOf 10 = .ok (.getfield 234, 3) := lw_dr lw_d_cX12_isLetterOf_0 8 rfl
theorem dX12_isLetterOf_13 : decode cX12_isLetterOf 13 = .ok (.iconst 1, 1) := lw_dr lw_d_cX12_isLetterOf_0 9 rfl
theorem dX12_isLetterOf_14 : decode cX12_isLetterOf 14 = .ok (.isub, 1) := lw_dr lw_d_cX12_isLetterOf_0 10 rfl
theorem dX12_isLetterOf_15 : decode cX12_isLetterOf 15 = .ok (.i2l, 1) := lw_dr lw_d_cX12_isLetterOf_0 11 rfl
theorem dX12_isLetterOf_16 : decode cX12_isLetterOf 16 = .ok (.invokestatic 191, 3) := lw_dr lw_d_cX12_isLetterOf_0 12 rfl
theorem dX12_isLetterOf_19 : decode cX12_isLetterOf 19 = .ok (.ifCond .eq 20, 3) := lw_dr lw_d_cX12_isLetterOf_0 13 rfl
theorem dX12_isLetterOf_39 : decode cX12_isLetterOf 39 = .ok (.iconst 0, 1) := lw_dr lw_d_cX12_isLetterOf_0 14 rfl
theorem dX12_isLetterOf_40 : decode cX12_isLetterOf 40 = .ok (.ireturn, 1) := lw_dr lw_d_cX12_isLetterOf_0 15 rfl
theorem dX12_isLetterOf_22 : decode cX12_isLetterOf 22 = .ok (.iload_n 1, 1) := lw_dr lw_d_cX12_isLetterOf_0 16 rfl
theorem dX12_isLetterOf_23 : decode cX12_isLetterOf 23 = .ok (.aload_n 0, 1) := lw_dr lw_d_cX12_isLetterOf_0 17 rfl
theorem dX12_isLetterOf_24 : decode cX12_isLetterOf 24 = .ok (.getfield 234, 3) := lw_dr lw_d_cX12_isLetterOf_0 18 rfl
theorem dX12_isLetterOf_27 : decode cX12_isLetterOf 27 = .ok (.iadd, 1) := lw_dr lw_d_cX12_isLetterOf_0 19 rfl
theorem dX12_isLetterOf_28 : decode cX12_isLetterOf 28 = .ok (.iconst 1, 1) := lw_dr lw_d_cX12_isLetterOf_0 20 rfl
theorem dX12_isLetterOf_29 : decode cX12_isLetterOf 29 = .ok (.isub, 1) := lw_dr lw_d_cX12_isLetterOf_0 21 rfl
theorem dX12_isLetterOf_30 : decode cX12_isLetterOf 30 = .ok (.iconst 2, 1) := lw_dr lw_d_cX12_isLetterOf_0 22 rfl
theorem dX12_isLetterOf_31 : decode cX12_isLetterOf 31 = .ok (.irem, 1) := lw_dr lw_d_cX12_isLetterOf_0 23 rfl
theorem dX12_isLetterOf_32 : decode cX12_isLetterOf 32 = .ok (.ifCond .ne 7, 3) := lw_dr lw_d_cX12_isLetterOf_0 24 rfl
theorem dX12_isLetterOf_35 : decode cX12_isLetterOf 35 = .ok (.iconst 1, 1) := lw_dr lw_d_cX12_isLetterOf_0 25 rfl
theorem dX12_isLetterOf_36 : decode cX12_isLetterOf 36 = .ok (.goto 4, 3) := lw_dr lw_d_cX12_isLetterOf_0 26 rfl
theorem lw_d_cX12_sentTo_0 : lw_dl cX12_sentTo [(0, .iconst 0, 1), (1, .istore_n 2, 1), (2, .iconst 0, 1), (3, .istore_n 3, 1), (4, .iload_n 3, 1), (5, .aload_n 0, 1), (6, .getfield 237, 3), (9, .if_icmp .ge 29, 3), (38, .iload_n 2, 1), (39, .ireturn, 1), (12, .iload_n 2, 1), (13, .aload_n 0, 1), (14, .getfield 69, 3), (17, .iconst 5, 1), (18, .iload_n 1, 1), (19, .imul, 1), (20, .iload_n 3, 1), (21, .iadd, 1), (22, .iaload, 1), (23, .aload_n 0, 1), (24, .getfield 103, 3), (27, .iload_n 3, 1), (28, .iaload, 1), (29, .imul, 1), (30, .iadd, 1), (31, .istore_n 2, 1), (32, .iinc 3 1, 3), (35, .goto (-31), 3)] = true := by decide +kernel
theorem dX12_sentTo_0 : decode cX12_sentTo 0 = .ok (.iconst 0, 1) := lw_dr lw_d_cX12_sentTo_0 0 rfl
theorem dX12_sentTo_1 : decode cX12_sentTo 1 = .ok (.istore_n 2, 1) := lw_dr lw_d_cX12_sentTo_0 1 rfl
theorem dX12_sentTo_2 : decode cX12_sentTo 2 = .ok (.iconst 0, 1) := lw_dr lw_d_cX12_sentTo_0 2 rfl
theorem dX12_sentTo_3 : decode cX12_sentTo 3 = .ok (.istore_n 3, 1) := lw_dr lw_d_cX12_sentTo_0 3 rfl
theorem dX12_sentTo_4 : decode cX12_sentTo 4 = .ok (.iload_n 3, 1) := lw_dr lw_d_cX12_sentTo_0 4 rfl
theorem dX12_sentTo_5 : decode cX12_sentTo 5 = .ok (.aload_n 0, 1) := lw_dr lw_d_cX12_sentTo_0 5 rfl
theorem dX12_sentTo_6 : decode cX12_sentTo 6 = .ok (.getfield 237, 3) := lw_dr lw_d_cX12_sentTo_0 6 rfl
theorem dX12_sentTo_9 : decode cX12_sentTo 9 = .ok (.if_icmp .ge 29, 3) := lw_dr lw_d_cX12_sentTo_0 7 rfl
theorem dX12_sentTo_38 : decode cX12_sentTo 38 = .ok (.iload_n 2, 1) := lw_dr lw_d_cX12_sentTo_0 8 rfl
theorem dX12_sentTo_39 : decode cX12_sentTo 39 = .ok (.ireturn, 1) := lw_dr lw_d_cX12_sentTo_0 9 rfl
theorem dX12_sentTo_12 : decode cX12_sentTo 12 = .ok (.iload_n 2, 1) := lw_dr lw_d_cX12_sentTo_0 10 rfl
theorem dX12_sentTo_13 : decode cX12_sentTo 13 = .ok (.aload_n 0, 1) := lw_dr lw_d_cX12_sentTo_0 11 rfl
theorem dX12_sentTo_14 : decode cX12_sentTo 14 = .ok (.getfield 69, 3) := lw_dr lw_d_cX12_sentTo_0 12 rfl
theorem dX12_sentTo_17 : decode cX12_sentTo 17 = .ok (.iconst 5, 1) := lw_dr lw_d_cX12_sentTo_0 13 rfl
theorem dX12_sentTo_18 : decode cX12_sentTo 18 = .ok (.iload_n 1, 1) := lw_dr lw_d_cX12_sentTo_0 14 rfl
theorem dX12_sentTo_19 : decode cX12_sentTo 19 = .ok (.imul, 1) := lw_dr lw_d_cX12_sentTo_0 15 rfl
theorem dX12_sentTo_20 : decode cX12_sentTo 20 = .ok (.iload_n 3, 1) := lw_dr lw_d_cX12_sentTo_0 16 rfl
theorem dX12_sentTo_21 : decode cX12_sentTo 21 = .ok (.iadd, 1) := lw_dr lw_d_cX12_sentTo_0 17 rfl
theorem dX12_sentTo_22 : decode cX12_sentTo 22 = .ok (.iaload, 1) := lw_dr lw_d_cX12_sentTo_0 18 rfl
theorem dX12_sentTo_23 : decode cX12_sentTo 23 = .ok (.aload_n 0, 1) := lw_dr lw_d_cX12_sentTo_0 19 rfl
theorem dX12_sentTo_24 : decode cX12_sentTo 24 = .ok (.getfield 103, 3) := lw_dr lw_d_cX12_sentTo_0 20 rfl
theorem dX12_sentTo_27 : decode cX12_sentTo 27 = .ok (.iload_n 3, 1) := lw_dr lw_d_cX12_sentTo_0 21 rfl
theorem dX12_sentTo_28 : decode cX12_sentTo 28 = .ok (.iaload, 1) := lw_dr lw_d_cX12_sentTo_0 22 rfl
theorem dX12_sentTo_29 : decode cX12_sentTo 29 = .ok (.imul, 1) := lw_dr lw_d_cX12_sentTo_0 23 rfl
theorem dX12_sentTo_30 : decode cX12_sentTo 30 = .ok (.iadd, 1) := lw_dr lw_d_cX12_sentTo_0 24 rfl
theorem dX12_sentTo_31 : decode cX12_sentTo 31 = .ok (.istore_n 2, 1) := lw_dr lw_d_cX12_sentTo_0 25 rfl
theorem dX12_sentTo_32 : decode cX12_sentTo 32 = .ok (.iinc 3 1, 3) := lw_dr lw_d_cX12_sentTo_0 26 rfl
theorem dX12_sentTo_35 : decode cX12_sentTo 35 = .ok (.goto (-31), 3) := lw_dr lw_d_cX12_sentTo_0 27 rfl
theorem lw_d_cX12_distance_0 : lw_dl cX12_distance [(0, .aload_n 0, 1), (1, .invokevirtual 377, 3)] = true := by decide +kernel
theorem dX12_distance_0 : decode cX12_distance 0 = .ok (.aload_n 0, 1) := lw_dr lw_d_cX12_distance_0 0 rfl
theorem dX12_distance_1 : decode cX12_distance 1 = .ok (.invokevirtual 377, 3) := lw_dr lw_d_cX12_distance_0 1 rfl
theorem lw_d_cX12_distance_4 : lw_dl cX12_distance [(4, .ifCond .eq 11, 3), (15, .ldc2_w 384, 3), (18, .lreturn, 1), (7, .aload_n 0, 1), (8, .iconst 1, 1), (9, .invokevirtual 380, 3), (12, .goto 6, 3)] = true := by decide +kernel
theorem dX12_distance_4 : decode cX12_distance 4 = .ok (.ifCond .eq 11, 3) := lw_dr lw_d_cX12_distance_4 0 rfl
theorem dX12_distance_15 : decode cX12_distance 15 = .ok (.ldc2_w 384, 3) := lw_dr lw_d_cX12_distance_4 1 rfl
theorem dX12_distance_18 : decode cX12_distance 18 = .ok (.lreturn, 1) := lw_dr lw_d_cX12_distance_4 2 rfl
theorem dX12_distance_7 : decode cX12_distance 7 = .ok (.aload_n 0, 1) := lw_dr lw_d_cX12_distance_4 3 rfl
theorem dX12_distance_8 : decode cX12_distance 8 = .ok (.iconst 1, 1) := lw_dr lw_d_cX12_distance_4 4 rfl
theorem dX12_distance_9 : decode cX12_distance 9 = .ok (.invokevirtual 380, 3) := lw_dr lw_d_cX12_distance_4 5 rfl
theorem dX12_distance_12 : decode cX12_distance 12 = .ok (.goto 6, 3) := lw_dr lw_d_cX12_distance_4 6 rfl
theorem lw_d_cX12_squaresLess_0 : lw_dl cX12_squaresLess [(0, .lconst 0, 1), (1, .lstore_n 2, 1), (2, .iconst 0, 1), (3, .istore 4, 2), (5, .iload 4, 2), (7, .aload_n 0, 1), (8, .getfield 240, 3), (11, .if_icmp .ge 42, 3), (53, .lload_n 2, 1), (54, .lreturn, 1), (14, .iload_n 1, 1), (15, .ifCond .eq 13, 3), (28, .iconst 0, 1), (29, .aload_n 0, 1), (30, .iload 4, 2), (32, .invokevirtual 374, 3), (35, .isub, 1), (36, .i2l, 1), (37, .lstore 5, 2), (39, .lload_n 2, 1), (40, .lload 5, 2), (42, .lload 5, 2), (44, .lmul, 1), (45, .ladd, 1), (46, .lstore_n 2, 1), (47, .iinc 4 1, 3), (50, .goto (-45), 3), (18, .aload_n 0, 1), (19, .getfield 100, 3), (22, .iload 4, 2), (24, .iaload, 1), (25, .goto 4, 3)] = true := by decide +kernel
theorem dX12_squaresLess_0 : decode cX12_squaresLess 0 = .ok (.lconst 0, 1) := lw_dr lw_d_cX12_squaresLess_0 0 rfl
theorem dX12_squaresLess_1 : decode cX12_squaresLess 1 = .ok (.lstore_n 2, 1) := lw_dr lw_d_cX12_squaresLess_0 1 rfl
theorem dX12_squaresLess_2 : decode cX12_squaresLess 2 = .ok (.iconst 0, 1) := lw_dr lw_d_cX12_squaresLess_0 2 rfl
theorem dX12_squaresLess_3 : decode cX12_squaresLess 3 = .ok (.istore 4, 2) := lw_dr lw_d_cX12_squaresLess_0 3 rfl
theorem dX12_squaresLess_5 : decode cX12_squaresLess 5 = .ok (.iload 4, 2) := lw_dr lw_d_cX12_squaresLess_0 4 rfl
theorem dX12_squaresLess_7 : decode cX12_squaresLess 7 = .ok (.aload_n 0, 1) := lw_dr lw_d_cX12_squaresLess_0 5 rfl
theorem dX12_squaresLess_8 : decode cX12_squaresLess 8 = .ok (.getfield 240, 3) := lw_dr lw_d_cX12_squaresLess_0 6 rfl
theorem dX12_squaresLess_11 : decode cX12_squaresLess 11 = .ok (.if_icmp .ge 42, 3) := lw_dr lw_d_cX12_squaresLess_0 7 rfl
theorem dX12_squaresLess_53 : decode cX12_squaresLess 53 = .ok (.lload_n 2, 1) := lw_dr lw_d_cX12_squaresLess_0 8 rfl
theorem dX12_squaresLess_54 : decode cX12_squaresLess 54 = .ok (.lreturn, 1) := lw_dr lw_d_cX12_squaresLess_0 9 rfl
theorem dX12_squaresLess_14 : decode cX12_squaresLess 14 = .ok (.iload_n 1, 1) := lw_dr lw_d_cX12_squaresLess_0 10 rfl
theorem dX12_squaresLess_15 : decode cX12_squaresLess 15 = .ok (.ifCond .eq 13, 3) := lw_dr lw_d_cX12_squaresLess_0 11 rfl
theorem dX12_squaresLess_28 : decode cX12_squaresLess 28 = .ok (.iconst 0, 1) := lw_dr lw_d_cX12_squaresLess_0 12 rfl
theorem dX12_squaresLess_29 : decode cX12_squaresLess 29 = .ok (.aload_n 0, 1) := lw_dr lw_d_cX12_squaresLess_0 13 rfl
theorem dX12_squaresLess_30 : decode cX12_squaresLess 30 = .ok (.iload 4, 2) := lw_dr lw_d_cX12_squaresLess_0 14 rfl
theorem dX12_squaresLess_32 : decode cX12_squaresLess 32 = .ok (.invokevirtual 374, 3) := lw_dr lw_d_cX12_squaresLess_0 15 rfl
theorem dX12_squaresLess_35 : decode cX12_squaresLess 35 = .ok (.isub, 1) := lw_dr lw_d_cX12_squaresLess_0 16 rfl
theorem dX12_squaresLess_36 : decode cX12_squaresLess 36 = .ok (.i2l, 1) := lw_dr lw_d_cX12_squaresLess_0 17 rfl
theorem dX12_squaresLess_37 : decode cX12_squaresLess 37 = .ok (.lstore 5, 2) := lw_dr lw_d_cX12_squaresLess_0 18 rfl
theorem dX12_squaresLess_39 : decode cX12_squaresLess 39 = .ok (.lload_n 2, 1) := lw_dr lw_d_cX12_squaresLess_0 19 rfl
theorem dX12_squaresLess_40 : decode cX12_squaresLess 40 = .ok (.lload 5, 2) := lw_dr lw_d_cX12_squaresLess_0 20 rfl
theorem dX12_squaresLess_42 : decode cX12_squaresLess 42 = .ok (.lload 5, 2) := lw_dr lw_d_cX12_squaresLess_0 21 rfl
theorem dX12_squaresLess_44 : decode cX12_squaresLess 44 = .ok (.lmul, 1) := lw_dr lw_d_cX12_squaresLess_0 22 rfl
theorem dX12_squaresLess_45 : decode cX12_squaresLess 45 = .ok (.ladd, 1) := lw_dr lw_d_cX12_squaresLess_0 23 rfl
theorem dX12_squaresLess_46 : decode cX12_squaresLess 46 = .ok (.lstore_n 2, 1) := lw_dr lw_d_cX12_squaresLess_0 24 rfl
theorem dX12_squaresLess_47 : decode cX12_squaresLess 47 = .ok (.iinc 4 1, 3) := lw_dr lw_d_cX12_squaresLess_0 25 rfl
theorem dX12_squaresLess_50 : decode cX12_squaresLess 50 = .ok (.goto (-45), 3) := lw_dr lw_d_cX12_squaresLess_0 26 rfl
theorem dX12_squaresLess_18 : decode cX12_squaresLess 18 = .ok (.aload_n 0, 1) := lw_dr lw_d_cX12_squaresLess_0 27 rfl
theorem dX12_squaresLess_19 : decode cX12_squaresLess 19 = .ok (.getfield 100, 3) := lw_dr lw_d_cX12_squaresLess_0 28 rfl
theorem dX12_squaresLess_22 : decode cX12_squaresLess 22 = .ok (.iload 4, 2) := lw_dr lw_d_cX12_squaresLess_0 29 rfl
theorem dX12_squaresLess_24 : decode cX12_squaresLess 24 = .ok (.iaload, 1) := lw_dr lw_d_cX12_squaresLess_0 30 rfl
theorem dX12_squaresLess_25 : decode cX12_squaresLess 25 = .ok (.goto 4, 3) := lw_dr lw_d_cX12_squaresLess_0 31 rfl
theorem lw_d_cX12_slips_0 : lw_dl cX12_slips [(0, .iload_n 1, 1), (1, .i2l, 1), (2, .lconst 0, 1), (3, .ldc2_w 398, 3), (6, .invokestatic 191, 3), (9, .ifCond .eq 14, 3), (23, .iconst (-1), 1), (24, .ireturn, 1), (12, .iload_n 2, 1), (13, .ifCond .lt 10, 3), (16, .aload_n 0, 1), (17, .getfield 240, 3), (20, .ifCond .ne 5, 3), (25, .aload_n 0, 1), (26, .iload_n 2, 1), (27, .i2l, 1), (28, .putfield 388, 3), (31, .iconst 0, 1), (32, .istore_n 3, 1), (33, .iload_n 3, 1), (34, .aload_n 0, 1), (35, .getfield 240, 3), (38, .if_icmp .ge 65, 3), (41, .aload_n 0, 1), (42, .getfield 100, 3), (45, .iload_n 3, 1), (46, .iaload, 1), (47, .aload_n 0, 1), (48, .iconst 2, 1), (49, .iload_n 1, 1), (50, .imul, 1), (51, .iconst 1, 1), (52, .iadd, 1), (53, .invokevirtual 400, 3), (56, .iadd, 1), (57, .iload_n 1, 1), (58, .isub, 1), (59, .istore 4, 2), (61, .aload_n 0, 1), (62, .getfield 100, 3)] = true := by decide +kernel
theorem dX12_slips_0 : decode cX12_slips 0 = .ok (.iload_n 1, 1) := lw_dr lw_d_cX12_slips_0 0 rfl
theorem dX12_slips_1 : decode cX12_slips 1 = .ok (.i2l, 1) := lw_dr lw_d_cX12_slips_0 1 rfl
theorem dX12_slips_2 : decode cX12_slips 2 = .ok (.lconst 0, 1) := lw_dr lw_d_cX12_slips_0 2 rfl
theorem dX12_slips_3 : decode cX12_slips 3 = .ok (.ldc2_w 398, 3) := lw_dr lw_d_cX12_slips_0 3 rfl
theorem dX12_slips_6 : decode cX12_slips 6 = .ok (.invokestatic 191, 3) := lw_dr lw_d_cX12_slips_0 4 rfl
theorem dX12_slips_9 : decode cX12_slips 9 = .ok (.ifCond .eq 14, 3) := lw_dr lw_d_cX12_slips_0 5 rfl
theorem dX12_slips_23 : decode cX12_slips 23 = .ok (.iconst (-1), 1) := lw_dr lw_d_cX12_slips_0 6 rfl
theorem dX12_slips_24 : decode cX12_slips 24 = .ok (.ireturn, 1) := lw_dr lw_d_cX12_slips_0 7 rfl
theorem dX12_slips_12 : decode cX12_slips 12 = .ok (.iload_n 2, 1) := lw_dr lw_d_cX12_slips_0 8 rfl
theorem dX12_slips_13 : decode cX12_slips 13 = .ok (.ifCond .lt 10, 3) := lw_dr lw_d_cX12_slips_0 9 rfl
theorem dX12_slips_16 : decode cX12_slips 16 = .ok (.aload_n 0, 1) := lw_dr lw_d_cX12_slips_0 10 rfl
theorem dX12_slips_17 : decode cX12_slips 17 = .ok (.getfield 240, 3) := lw_dr lw_d_cX12_slips_0 11 rfl
theorem dX12_slips_20 : decode cX12_slips 20 = .ok (.ifCond .ne 5, 3) := lw_dr lw_d_cX12_slips_0 12 rfl
theorem dX12_slips_25 : decode cX12_slips 25 = .ok (.aload_n 0, 1) := lw_dr lw_d_cX12_slips_0 13 rfl
theorem dX12_slips_26 : decode cX12_slips 26 = .ok (.iload_n 2, 1) := lw_dr lw_d_cX12_slips_0 14 rfl
theorem dX12_slips_27 : decode cX12_slips 27 = .ok (.i2l, 1) := lw_dr lw_d_cX12_slips_0 15 rfl
theorem dX12_slips_28 : decode cX12_slips 28 = .ok (.putfield 388, 3) := lw_dr lw_d_cX12_slips_0 16 rfl
theorem dX12_slips_31 : decode cX12_slips 31 = .ok (.iconst 0, 1) := lw_dr lw_d_cX12_slips_0 17 rfl
theorem dX12_slips_32 : decode cX12_slips 32 = .ok (.istore_n 3, 1) := lw_dr lw_d_cX12_slips_0 18 rfl
theorem dX12_slips_33 : decode cX12_slips 33 = .ok (.iload_n 3, 1) := lw_dr lw_d_cX12_slips_0 19 rfl
theorem dX12_slips_34 : decode cX12_slips 34 = .ok (.aload_n 0, 1) := lw_dr lw_d_cX12_slips_0 20 rfl
theorem dX12_slips_35 : decode cX12_slips 35 = .ok (.getfield 240, 3) := lw_dr lw_d_cX12_slips_0 21 rfl
theorem dX12_slips_38 : decode cX12_slips 38 = .ok (.if_icmp .ge 65, 3) := lw_dr lw_d_cX12_slips_0 22 rfl
theorem dX12_slips_41 : decode cX12_slips 41 = .ok (.aload_n 0, 1) := lw_dr lw_d_cX12_slips_0 23 rfl
theorem dX12_slips_42 : decode cX12_slips 42 = .ok (.getfield 100, 3) := lw_dr lw_d_cX12_slips_0 24 rfl
theorem dX12_slips_45 : decode cX12_slips 45 = .ok (.iload_n 3, 1) := lw_dr lw_d_cX12_slips_0 25 rfl
theorem dX12_slips_46 : decode cX12_slips 46 = .ok (.iaload, 1) := lw_dr lw_d_cX12_slips_0 26 rfl
theorem dX12_slips_47 : decode cX12_slips 47 = .ok (.aload_n 0, 1) := lw_dr lw_d_cX12_slips_0 27 rfl
theorem dX12_slips_48 : decode cX12_slips 48 = .ok (.iconst 2, 1) := lw_dr lw_d_cX12_slips_0 28 rfl
theorem dX12_slips_49 : decode cX12_slips 49 = .ok (.iload_n 1, 1) := lw_dr lw_d_cX12_slips_0 29 rfl
theorem dX12_slips_50 : decode cX12_slips 50 = .ok (.imul, 1) := lw_dr lw_d_cX12_slips_0 30 rfl
theorem dX12_slips_51 : decode cX12_slips 51 = .ok (.iconst 1, 1) := lw_dr lw_d_cX12_slips_0 31 rfl
theorem dX12_slips_52 : decode cX12_slips 52 = .ok (.iadd, 1) := lw_dr lw_d_cX12_slips_0 32 rfl
theorem dX12_slips_53 : decode cX12_slips 53 = .ok (.invokevirtual 400, 3) := lw_dr lw_d_cX12_slips_0 33 rfl
theorem dX12_slips_56 : decode cX12_slips 56 = .ok (.iadd, 1) := lw_dr lw_d_cX12_slips_0 34 rfl
theorem dX12_slips_57 : decode cX12_slips 57 = .ok (.iload_n 1, 1) := lw_dr lw_d_cX12_slips_0 35 rfl
theorem dX12_slips_58 : decode cX12_slips 58 = .ok (.isub, 1) := lw_dr lw_d_cX12_slips_0 36 rfl
theorem dX12_slips_59 : decode cX12_slips 59 = .ok (.istore 4, 2) := lw_dr lw_d_cX12_slips_0 37 rfl
theorem dX12_slips_61 : decode cX12_slips 61 = .ok (.aload_n 0, 1) := lw_dr lw_d_cX12_slips_0 38 rfl
theorem dX12_slips_62 : decode cX12_slips 62 = .ok (.getfield 100, 3) := lw_dr lw_d_cX12_slips_0 39 rfl
theorem lw_d_cX12_slips_65 : lw_dl cX12_slips [(65, .iload_n 3, 1), (66, .iload 4, 2), (68, .sipush 32767, 3), (71, .if_icmp .le 9, 3), (80, .iload 4, 2), (82, .sipush (-32768), 3), (85, .if_icmp .ge 9, 3), (94, .iload 4, 2), (96, .iastore, 1), (97, .iinc 3 1, 3), (100, .goto (-67), 3), (88, .sipush (-32768), 3), (91, .goto 5, 3), (74, .sipush 32767, 3), (77, .goto 19, 3), (103, .aload_n 0, 1), (104, .getfield 240, 3), (107, .ireturn, 1)] = true := by decide +kernel
theorem dX12_slips_65 : decode cX12_slips 65 = .ok (.iload_n 3, 1) := lw_dr lw_d_cX12_slips_65 0 rfl
theorem dX12_slips_66 : decode cX12_slips 66 = .ok (.iload 4, 2) := lw_dr lw_d_cX12_slips_65 1 rfl
theorem dX12_slips_68 : decode cX12_slips 68 = .ok (.sipush 32767, 3) := lw_dr lw_d_cX12_slips_65 2 rfl
theorem dX12_slips_71 : decode cX12_slips 71 = .ok (.if_icmp .le 9, 3) := lw_dr lw_d_cX12_slips_65 3 rfl
theorem dX12_slips_80 : decode cX12_slips 80 = .ok (.iload 4, 2) := lw_dr lw_d_cX12_slips_65 4 rfl
theorem dX12_slips_82 : decode cX12_slips 82 = .ok (.sipush (-32768), 3) := lw_dr lw_d_cX12_slips_65 5 rfl
theorem dX12_slips_85 : decode cX12_slips 85 = .ok (.if_icmp .ge 9, 3) := lw_dr lw_d_cX12_slips_65 6 rfl
theorem dX12_slips_94 : decode cX12_slips 94 = .ok (.iload 4, 2) := lw_dr lw_d_cX12_slips_65 7 rfl
theorem dX12_slips_96 : decode cX12_slips 96 = .ok (.iastore, 1) := lw_dr lw_d_cX12_slips_65 8 rfl
theorem dX12_slips_97 : decode cX12_slips 97 = .ok (.iinc 3 1, 3) := lw_dr lw_d_cX12_slips_65 9 rfl
theorem dX12_slips_100 : decode cX12_slips 100 = .ok (.goto (-67), 3) := lw_dr lw_d_cX12_slips_65 10 rfl
theorem dX12_slips_88 : decode cX12_slips 88 = .ok (.sipush (-32768), 3) := lw_dr lw_d_cX12_slips_65 11 rfl
theorem dX12_slips_91 : decode cX12_slips 91 = .ok (.goto 5, 3) := lw_dr lw_d_cX12_slips_65 12 rfl
theorem dX12_slips_74 : decode cX12_slips 74 = .ok (.sipush 32767, 3) := lw_dr lw_d_cX12_slips_65 13 rfl
theorem dX12_slips_77 : decode cX12_slips 77 = .ok (.goto 19, 3) := lw_dr lw_d_cX12_slips_65 14 rfl
theorem dX12_slips_103 : decode cX12_slips 103 = .ok (.aload_n 0, 1) := lw_dr lw_d_cX12_slips_65 15 rfl
theorem dX12_slips_104 : decode cX12_slips 104 = .ok (.getfield 240, 3) := lw_dr lw_d_cX12_slips_65 16 rfl
theorem dX12_slips_107 : decode cX12_slips 107 = .ok (.ireturn, 1) := lw_dr lw_d_cX12_slips_65 17 rfl
theorem lw_d_cX12_drawOf_0 : lw_dl cX12_drawOf [(0, .aload_n 0, 1), (1, .ldc2_w 386, 3), (4, .aload_n 0, 1), (5, .getfield 388, 3), (8, .lmul, 1), (9, .ldc2_w 392, 3), (12, .ladd, 1), (13, .ldc2_w 394, 3), (16, .lrem, 1), (17, .putfield 388, 3), (20, .aload_n 0, 1), (21, .getfield 388, 3), (24, .ldc2_w 396, 3), (27, .ldiv, 1), (28, .iload_n 1, 1), (29, .i2l, 1), (30, .lrem, 1), (31, .l2i, 1), (32, .ireturn, 1)] = true := by decide +kernel
theorem dX12_drawOf_0 : decode cX12_drawOf 0 = .ok (.aload_n 0, 1) := lw_dr lw_d_cX12_drawOf_0 0 rfl
theorem dX12_drawOf_1 : decode cX12_drawOf 1 = .ok (.ldc2_w 386, 3) := lw_dr lw_d_cX12_drawOf_0 1 rfl
theorem dX12_drawOf_4 : decode cX12_drawOf 4 = .ok (.aload_n 0, 1) := lw_dr lw_d_cX12_drawOf_0 2 rfl
theorem dX12_drawOf_5 : decode cX12_drawOf 5 = .ok (.getfield 388, 3) := lw_dr lw_d_cX12_drawOf_0 3 rfl
theorem dX12_drawOf_8 : decode cX12_drawOf 8 = .ok (.lmul, 1) := lw_dr lw_d_cX12_drawOf_0 4 rfl
theorem dX12_drawOf_9 : decode cX12_drawOf 9 = .ok (.ldc2_w 392, 3) := lw_dr lw_d_cX12_drawOf_0 5 rfl
theorem dX12_drawOf_12 : decode cX12_drawOf 12 = .ok (.ladd, 1) := lw_dr lw_d_cX12_drawOf_0 6 rfl
theorem dX12_drawOf_13 : decode cX12_drawOf 13 = .ok (.ldc2_w 394, 3) := lw_dr lw_d_cX12_drawOf_0 7 rfl
theorem dX12_drawOf_16 : decode cX12_drawOf 16 = .ok (.lrem, 1) := lw_dr lw_d_cX12_drawOf_0 8 rfl
theorem dX12_drawOf_17 : decode cX12_drawOf 17 = .ok (.putfield 388, 3) := lw_dr lw_d_cX12_drawOf_0 9 rfl
theorem dX12_drawOf_20 : decode cX12_drawOf 20 = .ok (.aload_n 0, 1) := lw_dr lw_d_cX12_drawOf_0 10 rfl
theorem dX12_drawOf_21 : decode cX12_drawOf 21 = .ok (.getfield 388, 3) := lw_dr lw_d_cX12_drawOf_0 11 rfl
theorem dX12_drawOf_24 : decode cX12_drawOf 24 = .ok (.ldc2_w 396, 3) := lw_dr lw_d_cX12_drawOf_0 12 rfl
theorem dX12_drawOf_27 : decode cX12_drawOf 27 = .ok (.ldiv, 1) := lw_dr lw_d_cX12_drawOf_0 13 rfl
theorem dX12_drawOf_28 : decode cX12_drawOf 28 = .ok (.iload_n 1, 1) := lw_dr lw_d_cX12_drawOf_0 14 rfl
theorem dX12_drawOf_29 : decode cX12_drawOf 29 = .ok (.i2l, 1) := lw_dr lw_d_cX12_drawOf_0 15 rfl
theorem dX12_drawOf_30 : decode cX12_drawOf 30 = .ok (.lrem, 1) := lw_dr lw_d_cX12_drawOf_0 16 rfl
theorem dX12_drawOf_31 : decode cX12_drawOf 31 = .ok (.l2i, 1) := lw_dr lw_d_cX12_drawOf_0 17 rfl
theorem dX12_drawOf_32 : decode cX12_drawOf 32 = .ok (.ireturn, 1) := lw_dr lw_d_cX12_drawOf_0 18 rfl
theorem lw_d_cX12_nearest_0 : lw_dl cX12_nearest [(0, .aload_n 0, 1), (1, .iload_n 2, 1), (2, .invokevirtual 361, 3), (5, .ifCond .eq 11, 3), (16, .ldc_w 364, 3), (19, .ireturn, 1), (8, .aload_n 0, 1), (9, .iload_n 1, 1), (10, .invokevirtual 416, 3), (13, .ifCond .ne 7, 3), (20, .aload_n 0, 1), (21, .aload_n 0, 1), (22, .getfield 109, 3), (25, .iload_n 1, 1), (26, .iaload, 1), (27, .invokevirtual 403, 3), (30, .aload_n 0, 1), (31, .getfield 103, 3), (34, .iload_n 2, 1), (35, .iaload, 1), (36, .ireturn, 1)] = true := by decide +kernel
theorem dX12_nearest_0 : decode cX12_nearest 0 = .ok (.aload_n 0, 1) := lw_dr lw_d_cX12_nearest_0 0 rfl
theorem dX12_nearest_1 : decode cX12_nearest 1 = .ok (.iload_n 2, 1) := lw_dr lw_d_cX12_nearest_0 1 rfl
theorem dX12_nearest_2 : decode cX12_nearest 2 = .ok (.invokevirtual 361, 3) := lw_dr lw_d_cX12_nearest_0 2 rfl
theorem dX12_nearest_5 : decode cX12_nearest 5 = .ok (.ifCond .eq 11, 3) := lw_dr lw_d_cX12_nearest_0 3 rfl
theorem dX12_nearest_16 : decode cX12_nearest 16 = .ok (.ldc_w 364, 3) := lw_dr lw_d_cX12_nearest_0 4 rfl
theorem dX12_nearest_19 : decode cX12_nearest 19 = .ok (.ireturn, 1) := lw_dr lw_d_cX12_nearest_0 5 rfl
theorem dX12_nearest_8 : decode cX12_nearest 8 = .ok (.aload_n 0, 1) := lw_dr lw_d_cX12_nearest_0 6 rfl
theorem dX12_nearest_9 : decode cX12_nearest 9 = .ok (.iload_n 1, 1) := lw_dr lw_d_cX12_nearest_0 7 rfl
theorem dX12_nearest_10 : decode cX12_nearest 10 = .ok (.invokevirtual 416, 3) := lw_dr lw_d_cX12_nearest_0 8 rfl
theorem dX12_nearest_13 : decode cX12_nearest 13 = .ok (.ifCond .ne 7, 3) := lw_dr lw_d_cX12_nearest_0 9 rfl
theorem dX12_nearest_20 : decode cX12_nearest 20 = .ok (.aload_n 0, 1) := lw_dr lw_d_cX12_nearest_0 10 rfl
theorem dX12_nearest_21 : decode cX12_nearest 21 = .ok (.aload_n 0, 1) := lw_dr lw_d_cX12_nearest_0 11 rfl
theorem dX12_nearest_22 : decode cX12_nearest 22 = .ok (.getfield 109, 3) := lw_dr lw_d_cX12_nearest_0 12 rfl
theorem dX12_nearest_25 : decode cX12_nearest 25 = .ok (.iload_n 1, 1) := lw_dr lw_d_cX12_nearest_0 13 rfl
theorem dX12_nearest_26 : decode cX12_nearest 26 = .ok (.iaload, 1) := lw_dr lw_d_cX12_nearest_0 14 rfl
theorem dX12_nearest_27 : decode cX12_nearest 27 = .ok (.invokevirtual 403, 3) := lw_dr lw_d_cX12_nearest_0 15 rfl
theorem dX12_nearest_30 : decode cX12_nearest 30 = .ok (.aload_n 0, 1) := lw_dr lw_d_cX12_nearest_0 16 rfl
theorem dX12_nearest_31 : decode cX12_nearest 31 = .ok (.getfield 103, 3) := lw_dr lw_d_cX12_nearest_0 17 rfl
theorem dX12_nearest_34 : decode cX12_nearest 34 = .ok (.iload_n 2, 1) := lw_dr lw_d_cX12_nearest_0 18 rfl
theorem dX12_nearest_35 : decode cX12_nearest 35 = .ok (.iaload, 1) := lw_dr lw_d_cX12_nearest_0 19 rfl
theorem dX12_nearest_36 : decode cX12_nearest 36 = .ok (.ireturn, 1) := lw_dr lw_d_cX12_nearest_0 20 rfl
theorem lw_d_cX12_isNear_0 : lw_dl cX12_isNear [(0, .iload_n 1, 1), (1, .i2l, 1), (2, .lconst 0, 1), (3, .ldc2_w 332, 3), (6, .invokestatic 191, 3), (9, .ifCond .eq 20, 3), (29, .iconst 0, 1), (30, .ireturn, 1), (12, .aload_n 0, 1), (13, .iload_n 1, 1), (14, .iconst 1, 1), (15, .iadd, 1), (16, .invokevirtual 413, 3), (19, .iload_n 1, 1), (20, .iconst 1, 1), (21, .iadd, 1), (22, .if_icmp .ne 7, 3), (25, .iconst 1, 1), (26, .goto 4, 3)] = true := by decide +kernel
theorem dX12_isNear_0 : decode cX12_isNear 0 = .ok (.iload_n 1, 1) := lw_dr lw_d_cX12_isNear_0 0 rfl
theorem dX12_isNear_1 : decode cX12_isNear 1 = .ok (.i2l, 1) := lw_dr lw_d_cX12_isNear_0 1 rfl
theorem dX12_isNear_2 : decode cX12_isNear 2 = .ok (.lconst 0, 1) := lw_dr lw_d_cX12_isNear_0 2 rfl
theorem dX12_isNear_3 : decode cX12_isNear 3 = .ok (.ldc2_w 332, 3) := lw_dr lw_d_cX12_isNear_0 3 rfl
theorem dX12_isNear_6 : decode cX12_isNear 6 = .ok (.invokestatic 191, 3) := lw_dr lw_d_cX12_isNear_0 4 rfl
theorem dX12_isNear_9 : decode cX12_isNear 9 = .ok (.ifCond .eq 20, 3) := lw_dr lw_d_cX12_isNear_0 5 rfl
theorem dX12_isNear_29 : decode cX12_isNear 29 = .ok (.iconst 0, 1) := lw_dr lw_d_cX12_isNear_0 6 rfl
theorem dX12_isNear_30 : decode cX12_isNear 30 = .ok (.ireturn, 1) := lw_dr lw_d_cX12_isNear_0 7 rfl
theorem dX12_isNear_12 : decode cX12_isNear 12 = .ok (.aload_n 0, 1) := lw_dr lw_d_cX12_isNear_0 8 rfl
theorem dX12_isNear_13 : decode cX12_isNear 13 = .ok (.iload_n 1, 1) := lw_dr lw_d_cX12_isNear_0 9 rfl
theorem dX12_isNear_14 : decode cX12_isNear 14 = .ok (.iconst 1, 1) := lw_dr lw_d_cX12_isNear_0 10 rfl
theorem dX12_isNear_15 : decode cX12_isNear 15 = .ok (.iadd, 1) := lw_dr lw_d_cX12_isNear_0 11 rfl
theorem dX12_isNear_16 : decode cX12_isNear 16 = .ok (.invokevirtual 413, 3) := lw_dr lw_d_cX12_isNear_0 12 rfl
theorem dX12_isNear_19 : decode cX12_isNear 19 = .ok (.iload_n 1, 1) := lw_dr lw_d_cX12_isNear_0 13 rfl
theorem dX12_isNear_20 : decode cX12_isNear 20 = .ok (.iconst 1, 1) := lw_dr lw_d_cX12_isNear_0 14 rfl
theorem dX12_isNear_21 : decode cX12_isNear 21 = .ok (.iadd, 1) := lw_dr lw_d_cX12_isNear_0 15 rfl
theorem dX12_isNear_22 : decode cX12_isNear 22 = .ok (.if_icmp .ne 7, 3) := lw_dr lw_d_cX12_isNear_0 16 rfl
theorem dX12_isNear_25 : decode cX12_isNear 25 = .ok (.iconst 1, 1) := lw_dr lw_d_cX12_isNear_0 17 rfl
theorem dX12_isNear_26 : decode cX12_isNear 26 = .ok (.goto 4, 3) := lw_dr lw_d_cX12_isNear_0 18 rfl
theorem lw_d_cX12_nears_0 : lw_dl cX12_nears [(0, .iconst 0, 1), (1, .istore_n 2, 1), (2, .iconst 0, 1), (3, .istore_n 3, 1), (4, .iload_n 3, 1), (5, .aload_n 0, 1), (6, .invokevirtual 406, 3), (9, .if_icmp .ge 126, 3), (135, .iload_n 2, 1), (136, .ireturn, 1), (12, .aload_n 0, 1), (13, .iload_n 3, 1), (14, .invokevirtual 409, 3), (17, .lstore 4, 2), (19, .iload_n 2, 1), (20, .iload_n 1, 1), (21, .if_icmp .ne 20, 3), (41, .iload_n 2, 1), (42, .iload_n 1, 1), (43, .if_icmp .ge 6, 3), (46, .iinc 2 1, 3), (49, .iload_n 2, 1), (50, .iconst 1, 1), (51, .isub, 1), (52, .istore 6, 2), (54, .iload 6, 2), (56, .ifCond .le 56, 3), (112, .aload_n 0, 1), (113, .getfield 106, 3), (116, .iload 6, 2), (118, .lload 4, 2), (120, .lastore, 1), (121, .aload_n 0, 1), (122, .getfield 109, 3), (125, .iload 6, 2), (127, .iload_n 3, 1), (128, .iastore, 1), (129, .iinc 3 1, 3), (132, .goto (-128), 3), (59, .aload_n 0, 1)] = true := by decide +kernel
theorem dX12_nears_0 : decode cX12_nears 0 = .ok (.iconst 0, 1) := lw_dr lw_d_cX12_nears_0 0 rfl
theorem dX12_nears_1 : decode cX12_nears 1 = .ok (.istore_n 2, 1) := lw_dr lw_d_cX12_nears_0 1 rfl
theorem dX12_nears_2 : decode cX12_nears 2 = .ok (.iconst 0, 1) := lw_dr lw_d_cX12_nears_0 2 rfl
theorem dX12_nears_3 : decode cX12_nears 3 = .ok (.istore_n 3, 1) := lw_dr lw_d_cX12_nears_0 3 rfl
theorem dX12_nears_4 : decode cX12_nears 4 = .ok (.iload_n 3, 1) := lw_dr lw_d_cX12_nears_0 4 rfl
theorem dX12_nears_5 : decode cX12_nears 5 = .ok (.aload_n 0, 1) := lw_dr lw_d_cX12_nears_0 5 rfl
theorem dX12_nears_6 : decode cX12_nears 6 = .ok (.invokevirtual 406, 3) := lw_dr lw_d_cX12_nears_0 6 rfl
theorem dX12_nears_9 : decode cX12_nears 9 = .ok (.if_icmp .ge 126, 3) := lw_dr lw_d_cX12_nears_0 7 rfl
theorem dX12_nears_135 : decode cX12_nears 135 = .ok (.iload_n 2, 1) := lw_dr lw_d_cX12_nears_0 8 rfl
theorem dX12_nears_136 : decode cX12_nears 136 = .ok (.ireturn, 1) := lw_dr lw_d_cX12_nears_0 9 rfl
theorem dX12_nears_12 : decode cX12_nears 12 = .ok (.aload_n 0, 1) := lw_dr lw_d_cX12_nears_0 10 rfl
theorem dX12_nears_13 : decode cX12_nears 13 = .ok (.iload_n 3, 1) := lw_dr lw_d_cX12_nears_0 11 rfl
theorem dX12_nears_14 : decode cX12_nears 14 = .ok (.invokevirtual 409, 3) := lw_dr lw_d_cX12_nears_0 12 rfl
theorem dX12_nears_17 : decode cX12_nears 17 = .ok (.lstore 4, 2) := lw_dr lw_d_cX12_nears_0 13 rfl
theorem dX12_nears_19 : decode cX12_nears 19 = .ok (.iload_n 2, 1) := lw_dr lw_d_cX12_nears_0 14 rfl
theorem dX12_nears_20 : decode cX12_nears 20 = .ok (.iload_n 1, 1) := lw_dr lw_d_cX12_nears_0 15 rfl
theorem dX12_nears_21 : decode cX12_nears 21 = .ok (.if_icmp .ne 20, 3) := lw_dr lw_d_cX12_nears_0 16 rfl
theorem dX12_nears_41 : decode cX12_nears 41 = .ok (.iload_n 2, 1) := lw_dr lw_d_cX12_nears_0 17 rfl
theorem dX12_nears_42 : decode cX12_nears 42 = .ok (.iload_n 1, 1) := lw_dr lw_d_cX12_nears_0 18 rfl
theorem dX12_nears_43 : decode cX12_nears 43 = .ok (.if_icmp .ge 6, 3) := lw_dr lw_d_cX12_nears_0 19 rfl
theorem dX12_nears_46 : decode cX12_nears 46 = .ok (.iinc 2 1, 3) := lw_dr lw_d_cX12_nears_0 20 rfl
theorem dX12_nears_49 : decode cX12_nears 49 = .ok (.iload_n 2, 1) := lw_dr lw_d_cX12_nears_0 21 rfl
theorem dX12_nears_50 : decode cX12_nears 50 = .ok (.iconst 1, 1) := lw_dr lw_d_cX12_nears_0 22 rfl
theorem dX12_nears_51 : decode cX12_nears 51 = .ok (.isub, 1) := lw_dr lw_d_cX12_nears_0 23 rfl
theorem dX12_nears_52 : decode cX12_nears 52 = .ok (.istore 6, 2) := lw_dr lw_d_cX12_nears_0 24 rfl
theorem dX12_nears_54 : decode cX12_nears 54 = .ok (.iload 6, 2) := lw_dr lw_d_cX12_nears_0 25 rfl
theorem dX12_nears_56 : decode cX12_nears 56 = .ok (.ifCond .le 56, 3) := lw_dr lw_d_cX12_nears_0 26 rfl
theorem dX12_nears_112 : decode cX12_nears 112 = .ok (.aload_n 0, 1) := lw_dr lw_d_cX12_nears_0 27 rfl
theorem dX12_nears_113 : decode cX12_nears 113 = .ok (.getfield 106, 3) := lw_dr lw_d_cX12_nears_0 28 rfl
theorem dX12_nears_116 : decode cX12_nears 116 = .ok (.iload 6, 2) := lw_dr lw_d_cX12_nears_0 29 rfl
theorem dX12_nears_118 : decode cX12_nears 118 = .ok (.lload 4, 2) := lw_dr lw_d_cX12_nears_0 30 rfl
theorem dX12_nears_120 : decode cX12_nears 120 = .ok (.lastore, 1) := lw_dr lw_d_cX12_nears_0 31 rfl
theorem dX12_nears_121 : decode cX12_nears 121 = .ok (.aload_n 0, 1) := lw_dr lw_d_cX12_nears_0 32 rfl
theorem dX12_nears_122 : decode cX12_nears 122 = .ok (.getfield 109, 3) := lw_dr lw_d_cX12_nears_0 33 rfl
theorem dX12_nears_125 : decode cX12_nears 125 = .ok (.iload 6, 2) := lw_dr lw_d_cX12_nears_0 34 rfl
theorem dX12_nears_127 : decode cX12_nears 127 = .ok (.iload_n 3, 1) := lw_dr lw_d_cX12_nears_0 35 rfl
theorem dX12_nears_128 : decode cX12_nears 128 = .ok (.iastore, 1) := lw_dr lw_d_cX12_nears_0 36 rfl
theorem dX12_nears_129 : decode cX12_nears 129 = .ok (.iinc 3 1, 3) := lw_dr lw_d_cX12_nears_0 37 rfl
theorem dX12_nears_132 : decode cX12_nears 132 = .ok (.goto (-128), 3) := lw_dr lw_d_cX12_nears_0 38 rfl
theorem dX12_nears_59 : decode cX12_nears 59 = .ok (.aload_n 0, 1) := lw_dr lw_d_cX12_nears_0 39 rfl
theorem lw_d_cX12_nears_60 : lw_dl cX12_nears [(60, .getfield 106, 3), (63, .iload 6, 2), (65, .iconst 1, 1), (66, .isub, 1), (67, .laload, 1), (68, .lload 4, 2), (70, .lcmp, 1), (71, .ifCond .le 41, 3), (74, .aload_n 0, 1), (75, .getfield 106, 3), (78, .iload 6, 2), (80, .aload_n 0, 1), (81, .getfield 106, 3), (84, .iload 6, 2), (86, .iconst 1, 1), (87, .isub, 1), (88, .laload, 1), (89, .lastore, 1), (90, .aload_n 0, 1), (91, .getfield 109, 3), (94, .iload 6, 2), (96, .aload_n 0, 1), (97, .getfield 109, 3), (100, .iload 6, 2), (102, .iconst 1, 1), (103, .isub, 1), (104, .iaload, 1), (105, .iastore, 1), (106, .iinc 6 (-1), 3), (109, .goto (-55), 3), (24, .lload 4, 2), (26, .aload_n 0, 1), (27, .getfield 106, 3), (30, .iload_n 2, 1), (31, .iconst 1, 1), (32, .isub, 1), (33, .laload, 1), (34, .lcmp, 1), (35, .ifCond .lt 6, 3), (38, .goto 91, 3)] = true := by decide +kernel
theorem dX12_nears_60 : decode cX12_nears 60 = .ok (.getfield 106, 3) := lw_dr lw_d_cX12_nears_60 0 rfl
theorem dX12_nears_63 : decode cX12_nears 63 = .ok (.iload 6, 2) := lw_dr lw_d_cX12_nears_60 1 rfl
theorem dX12_nears_65 : decode cX12_nears 65 = .ok (.iconst 1, 1) := lw_dr lw_d_cX12_nears_60 2 rfl
theorem dX12_nears_66 : decode cX12_nears 66 = .ok (.isub, 1) := lw_dr lw_d_cX12_nears_60 3 rfl
theorem dX12_nears_67 : decode cX12_nears 67 = .ok (.laload, 1) := lw_dr lw_d_cX12_nears_60 4 rfl
theorem dX12_nears_68 : decode cX12_nears 68 = .ok (.lload 4, 2) := lw_dr lw_d_cX12_nears_60 5 rfl
theorem dX12_nears_70 : decode cX12_nears 70 = .ok (.lcmp, 1) := lw_dr lw_d_cX12_nears_60 6 rfl
theorem dX12_nears_71 : decode cX12_nears 71 = .ok (.ifCond .le 41, 3) := lw_dr lw_d_cX12_nears_60 7 rfl
theorem dX12_nears_74 : decode cX12_nears 74 = .ok (.aload_n 0, 1) := lw_dr lw_d_cX12_nears_60 8 rfl
theorem dX12_nears_75 : decode cX12_nears 75 = .ok (.getfield 106, 3) := lw_dr lw_d_cX12_nears_60 9 rfl
theorem dX12_nears_78 : decode cX12_nears 78 = .ok (.iload 6, 2) := lw_dr lw_d_cX12_nears_60 10 rfl
theorem dX12_nears_80 : decode cX12_nears 80 = .ok (.aload_n 0, 1) := lw_dr lw_d_cX12_nears_60 11 rfl
theorem dX12_nears_81 : decode cX12_nears 81 = .ok (.getfield 106, 3) := lw_dr lw_d_cX12_nears_60 12 rfl
theorem dX12_nears_84 : decode cX12_nears 84 = .ok (.iload 6, 2) := lw_dr lw_d_cX12_nears_60 13 rfl
theorem dX12_nears_86 : decode cX12_nears 86 = .ok (.iconst 1, 1) := lw_dr lw_d_cX12_nears_60 14 rfl
theorem dX12_nears_87 : decode cX12_nears 87 = .ok (.isub, 1) := lw_dr lw_d_cX12_nears_60 15 rfl
theorem dX12_nears_88 : decode cX12_nears 88 = .ok (.laload, 1) := lw_dr lw_d_cX12_nears_60 16 rfl
theorem dX12_nears_89 : decode cX12_nears 89 = .ok (.lastore, 1) := lw_dr lw_d_cX12_nears_60 17 rfl
theorem dX12_nears_90 : decode cX12_nears 90 = .ok (.aload_n 0, 1) := lw_dr lw_d_cX12_nears_60 18 rfl
theorem dX12_nears_91 : decode cX12_nears 91 = .ok (.getfield 109, 3) := lw_dr lw_d_cX12_nears_60 19 rfl
theorem dX12_nears_94 : decode cX12_nears 94 = .ok (.iload 6, 2) := lw_dr lw_d_cX12_nears_60 20 rfl
theorem dX12_nears_96 : decode cX12_nears 96 = .ok (.aload_n 0, 1) := lw_dr lw_d_cX12_nears_60 21 rfl
theorem dX12_nears_97 : decode cX12_nears 97 = .ok (.getfield 109, 3) := lw_dr lw_d_cX12_nears_60 22 rfl
theorem dX12_nears_100 : decode cX12_nears 100 = .ok (.iload 6, 2) := lw_dr lw_d_cX12_nears_60 23 rfl
theorem dX12_nears_102 : decode cX12_nears 102 = .ok (.iconst 1, 1) := lw_dr lw_d_cX12_nears_60 24 rfl
theorem dX12_nears_103 : decode cX12_nears 103 = .ok (.isub, 1) := lw_dr lw_d_cX12_nears_60 25 rfl
theorem dX12_nears_104 : decode cX12_nears 104 = .ok (.iaload, 1) := lw_dr lw_d_cX12_nears_60 26 rfl
theorem dX12_nears_105 : decode cX12_nears 105 = .ok (.iastore, 1) := lw_dr lw_d_cX12_nears_60 27 rfl
theorem dX12_nears_106 : decode cX12_nears 106 = .ok (.iinc 6 (-1), 3) := lw_dr lw_d_cX12_nears_60 28 rfl
theorem dX12_nears_109 : decode cX12_nears 109 = .ok (.goto (-55), 3) := lw_dr lw_d_cX12_nears_60 29 rfl
theorem dX12_nears_24 : decode cX12_nears 24 = .ok (.lload 4, 2) := lw_dr lw_d_cX12_nears_60 30 rfl
theorem dX12_nears_26 : decode cX12_nears 26 = .ok (.aload_n 0, 1) := lw_dr lw_d_cX12_nears_60 31 rfl
theorem dX12_nears_27 : decode cX12_nears 27 = .ok (.getfield 106, 3) := lw_dr lw_d_cX12_nears_60 32 rfl
theorem dX12_nears_30 : decode cX12_nears 30 = .ok (.iload_n 2, 1) := lw_dr lw_d_cX12_nears_60 33 rfl
theorem dX12_nears_31 : decode cX12_nears 31 = .ok (.iconst 1, 1) := lw_dr lw_d_cX12_nears_60 34 rfl
theorem dX12_nears_32 : decode cX12_nears 32 = .ok (.isub, 1) := lw_dr lw_d_cX12_nears_60 35 rfl
theorem dX12_nears_33 : decode cX12_nears 33 = .ok (.laload, 1) := lw_dr lw_d_cX12_nears_60 36 rfl
theorem dX12_nears_34 : decode cX12_nears 34 = .ok (.lcmp, 1) := lw_dr lw_d_cX12_nears_60 37 rfl
theorem dX12_nears_35 : decode cX12_nears 35 = .ok (.ifCond .lt 6, 3) := lw_dr lw_d_cX12_nears_60 38 rfl
theorem dX12_nears_38 : decode cX12_nears 38 = .ok (.goto 91, 3) := lw_dr lw_d_cX12_nears_60 39 rfl
theorem lw_d_cX12_rowMany_0 : lw_dl cX12_rowMany [(0, .aload_n 0, 1), (1, .getfield 237, 3), (4, .ifCond .ne 5, 3), (9, .iconst 1, 1), (10, .istore_n 1, 1), (11, .iconst 0, 1), (12, .istore_n 2, 1), (13, .iload_n 2, 1), (14, .aload_n 0, 1), (15, .getfield 237, 3), (18, .if_icmp .ge 16, 3), (21, .iload_n 1, 1), (22, .aload_n 0, 1), (23, .getfield 234, 3), (26, .imul, 1), (27, .istore_n 1, 1), (28, .iinc 2 1, 3), (31, .goto (-18), 3), (34, .iload_n 1, 1), (35, .ireturn, 1), (7, .iconst 0, 1), (8, .ireturn, 1)] = true := by decide +kernel
theorem dX12_rowMany_0 : decode cX12_rowMany 0 = .ok (.aload_n 0, 1) := lw_dr lw_d_cX12_rowMany_0 0 rfl
theorem dX12_rowMany_1 : decode cX12_rowMany 1 = .ok (.getfield 237, 3) := lw_dr lw_d_cX12_rowMany_0 1 rfl
theorem dX12_rowMany_4 : decode cX12_rowMany 4 = .ok (.ifCond .ne 5, 3) := lw_dr lw_d_cX12_rowMany_0 2 rfl
theorem dX12_rowMany_9 : decode cX12_rowMany 9 = .ok (.iconst 1, 1) := lw_dr lw_d_cX12_rowMany_0 3 rfl
theorem dX12_rowMany_10 : decode cX12_rowMany 10 = .ok (.istore_n 1, 1) := lw_dr lw_d_cX12_rowMany_0 4 rfl
theorem dX12_rowMany_11 : decode cX12_rowMany 11 = .ok (.iconst 0, 1) := lw_dr lw_d_cX12_rowMany_0 5 rfl
theorem dX12_rowMany_12 : decode cX12_rowMany 12 = .ok (.istore_n 2, 1) := lw_dr lw_d_cX12_rowMany_0 6 rfl
theorem dX12_rowMany_13 : decode cX12_rowMany 13 = .ok (.iload_n 2, 1) := lw_dr lw_d_cX12_rowMany_0 7 rfl
theorem dX12_rowMany_14 : decode cX12_rowMany 14 = .ok (.aload_n 0, 1) := lw_dr lw_d_cX12_rowMany_0 8 rfl
theorem dX12_rowMany_15 : decode cX12_rowMany 15 = .ok (.getfield 237, 3) := lw_dr lw_d_cX12_rowMany_0 9 rfl
theorem dX12_rowMany_18 : decode cX12_rowMany 18 = .ok (.if_icmp .ge 16, 3) := lw_dr lw_d_cX12_rowMany_0 10 rfl
theorem dX12_rowMany_21 : decode cX12_rowMany 21 = .ok (.iload_n 1, 1) := lw_dr lw_d_cX12_rowMany_0 11 rfl
theorem dX12_rowMany_22 : decode cX12_rowMany 22 = .ok (.aload_n 0, 1) := lw_dr lw_d_cX12_rowMany_0 12 rfl
theorem dX12_rowMany_23 : decode cX12_rowMany 23 = .ok (.getfield 234, 3) := lw_dr lw_d_cX12_rowMany_0 13 rfl
theorem dX12_rowMany_26 : decode cX12_rowMany 26 = .ok (.imul, 1) := lw_dr lw_d_cX12_rowMany_0 14 rfl
theorem dX12_rowMany_27 : decode cX12_rowMany 27 = .ok (.istore_n 1, 1) := lw_dr lw_d_cX12_rowMany_0 15 rfl
theorem dX12_rowMany_28 : decode cX12_rowMany 28 = .ok (.iinc 2 1, 3) := lw_dr lw_d_cX12_rowMany_0 16 rfl
theorem dX12_rowMany_31 : decode cX12_rowMany 31 = .ok (.goto (-18), 3) := lw_dr lw_d_cX12_rowMany_0 17 rfl
theorem dX12_rowMany_34 : decode cX12_rowMany 34 = .ok (.iload_n 1, 1) := lw_dr lw_d_cX12_rowMany_0 18 rfl
theorem dX12_rowMany_35 : decode cX12_rowMany 35 = .ok (.ireturn, 1) := lw_dr lw_d_cX12_rowMany_0 19 rfl
theorem dX12_rowMany_7 : decode cX12_rowMany 7 = .ok (.iconst 0, 1) := lw_dr lw_d_cX12_rowMany_0 20 rfl
theorem dX12_rowMany_8 : decode cX12_rowMany 8 = .ok (.ireturn, 1) := lw_dr lw_d_cX12_rowMany_0 21 rfl
theorem lw_d_cX12_distanceOf_0 : lw_dl cX12_distanceOf [(0, .aload_n 0, 1), (1, .iload_n 1, 1), (2, .invokevirtual 403, 3), (5, .aload_n 0, 1), (6, .iconst 1, 1), (7, .invokevirtual 380, 3), (10, .lreturn, 1)] = true := by decide +kernel
theorem dX12_distanceOf_0 : decode cX12_distanceOf 0 = .ok (.aload_n 0, 1) := lw_dr lw_d_cX12_distanceOf_0 0 rfl
theorem dX12_distanceOf_1 : decode cX12_distanceOf 1 = .ok (.iload_n 1, 1) := lw_dr lw_d_cX12_distanceOf_0 1 rfl
theorem dX12_distanceOf_2 : decode cX12_distanceOf 2 = .ok (.invokevirtual 403, 3) := lw_dr lw_d_cX12_distanceOf_0 2 rfl
theorem dX12_distanceOf_5 : decode cX12_distanceOf 5 = .ok (.aload_n 0, 1) := lw_dr lw_d_cX12_distanceOf_0 3 rfl
theorem dX12_distanceOf_6 : decode cX12_distanceOf 6 = .ok (.iconst 1, 1) := lw_dr lw_d_cX12_distanceOf_0 4 rfl
theorem dX12_distanceOf_7 : decode cX12_distanceOf 7 = .ok (.invokevirtual 380, 3) := lw_dr lw_d_cX12_distanceOf_0 5 rfl
theorem dX12_distanceOf_10 : decode cX12_distanceOf 10 = .ok (.lreturn, 1) := lw_dr lw_d_cX12_distanceOf_0 6 rfl
theorem lw_d_cX12_rowIs_0 : lw_dl cX12_rowIs [(0, .iload_n 1, 1), (1, .istore_n 2, 1), (2, .aload_n 0, 1), (3, .getfield 237, 3), (6, .iconst 1, 1), (7, .isub, 1), (8, .istore_n 3, 1), (9, .iload_n 3, 1), (10, .ifCond .lt 37, 3), (47, .return_, 1), (13, .aload_n 0, 1), (14, .getfield 103, 3), (17, .iload_n 3, 1), (18, .iconst 2, 1), (19, .iload_n 2, 1), (20, .aload_n 0, 1), (21, .getfield 234, 3), (24, .irem, 1), (25, .imul, 1), (26, .aload_n 0, 1), (27, .getfield 234, 3), (30, .isub, 1), (31, .iconst 1, 1), (32, .iadd, 1), (33, .iastore, 1), (34, .iload_n 2, 1), (35, .aload_n 0, 1), (36, .getfield 234, 3), (39, .idiv, 1), (40, .istore_n 2, 1), (41, .iinc 3 (-1), 3), (44, .goto (-35), 3)] = true := by decide +kernel
theorem dX12_rowIs_0 : decode cX12_rowIs 0 = .ok (.iload_n 1, 1) := lw_dr lw_d_cX12_rowIs_0 0 rfl
theorem dX12_rowIs_1 : decode cX12_rowIs 1 = .ok (.istore_n 2, 1) := lw_dr lw_d_cX12_rowIs_0 1 rfl
theorem dX12_rowIs_2 : decode cX12_rowIs 2 = .ok (.aload_n 0, 1) := lw_dr lw_d_cX12_rowIs_0 2 rfl
theorem dX12_rowIs_3 : decode cX12_rowIs 3 = .ok (.getfield 237, 3) := lw_dr lw_d_cX12_rowIs_0 3 rfl
theorem dX12_rowIs_6 : decode cX12_rowIs 6 = .ok (.iconst 1, 1) := lw_dr lw_d_cX12_rowIs_0 4 rfl
theorem dX12_rowIs_7 : decode cX12_rowIs 7 = .ok (.isub, 1) := lw_dr lw_d_cX12_rowIs_0 5 rfl
theorem dX12_rowIs_8 : decode cX12_rowIs 8 = .ok (.istore_n 3, 1) := lw_dr lw_d_cX12_rowIs_0 6 rfl
theorem dX12_rowIs_9 : decode cX12_rowIs 9 = .ok (.iload_n 3, 1) := lw_dr lw_d_cX12_rowIs_0 7 rfl
theorem dX12_rowIs_10 : decode cX12_rowIs 10 = .ok (.ifCond .lt 37, 3) := lw_dr lw_d_cX12_rowIs_0 8 rfl
theorem dX12_rowIs_47 : decode cX12_rowIs 47 = .ok (.return_, 1) := lw_dr lw_d_cX12_rowIs_0 9 rfl
theorem dX12_rowIs_13 : decode cX12_rowIs 13 = .ok (.aload_n 0, 1) := lw_dr lw_d_cX12_rowIs_0 10 rfl
theorem dX12_rowIs_14 : decode cX12_rowIs 14 = .ok (.getfield 103, 3) := lw_dr lw_d_cX12_rowIs_0 11 rfl
theorem dX12_rowIs_17 : decode cX12_rowIs 17 = .ok (.iload_n 3, 1) := lw_dr lw_d_cX12_rowIs_0 12 rfl
theorem dX12_rowIs_18 : decode cX12_rowIs 18 = .ok (.iconst 2, 1) := lw_dr lw_d_cX12_rowIs_0 13 rfl
theorem dX12_rowIs_19 : decode cX12_rowIs 19 = .ok (.iload_n 2, 1) := lw_dr lw_d_cX12_rowIs_0 14 rfl
theorem dX12_rowIs_20 : decode cX12_rowIs 20 = .ok (.aload_n 0, 1) := lw_dr lw_d_cX12_rowIs_0 15 rfl
theorem dX12_rowIs_21 : decode cX12_rowIs 21 = .ok (.getfield 234, 3) := lw_dr lw_d_cX12_rowIs_0 16 rfl
theorem dX12_rowIs_24 : decode cX12_rowIs 24 = .ok (.irem, 1) := lw_dr lw_d_cX12_rowIs_0 17 rfl
theorem dX12_rowIs_25 : decode cX12_rowIs 25 = .ok (.imul, 1) := lw_dr lw_d_cX12_rowIs_0 18 rfl
theorem dX12_rowIs_26 : decode cX12_rowIs 26 = .ok (.aload_n 0, 1) := lw_dr lw_d_cX12_rowIs_0 19 rfl
theorem dX12_rowIs_27 : decode cX12_rowIs 27 = .ok (.getfield 234, 3) := lw_dr lw_d_cX12_rowIs_0 20 rfl
theorem dX12_rowIs_30 : decode cX12_rowIs 30 = .ok (.isub, 1) := lw_dr lw_d_cX12_rowIs_0 21 rfl
theorem dX12_rowIs_31 : decode cX12_rowIs 31 = .ok (.iconst 1, 1) := lw_dr lw_d_cX12_rowIs_0 22 rfl
theorem dX12_rowIs_32 : decode cX12_rowIs 32 = .ok (.iadd, 1) := lw_dr lw_d_cX12_rowIs_0 23 rfl
theorem dX12_rowIs_33 : decode cX12_rowIs 33 = .ok (.iastore, 1) := lw_dr lw_d_cX12_rowIs_0 24 rfl
theorem dX12_rowIs_34 : decode cX12_rowIs 34 = .ok (.iload_n 2, 1) := lw_dr lw_d_cX12_rowIs_0 25 rfl
theorem dX12_rowIs_35 : decode cX12_rowIs 35 = .ok (.aload_n 0, 1) := lw_dr lw_d_cX12_rowIs_0 26 rfl
theorem dX12_rowIs_36 : decode cX12_rowIs 36 = .ok (.getfield 234, 3) := lw_dr lw_d_cX12_rowIs_0 27 rfl
theorem dX12_rowIs_39 : decode cX12_rowIs 39 = .ok (.idiv, 1) := lw_dr lw_d_cX12_rowIs_0 28 rfl
theorem dX12_rowIs_40 : decode cX12_rowIs 40 = .ok (.istore_n 2, 1) := lw_dr lw_d_cX12_rowIs_0 29 rfl
theorem dX12_rowIs_41 : decode cX12_rowIs 41 = .ok (.iinc 3 (-1), 3) := lw_dr lw_d_cX12_rowIs_0 30 rfl
theorem dX12_rowIs_44 : decode cX12_rowIs 44 = .ok (.goto (-35), 3) := lw_dr lw_d_cX12_rowIs_0 31 rfl
theorem lw_d_cX12_near_0 : lw_dl cX12_near [(0, .aload_n 0, 1), (1, .iload_n 1, 1), (2, .invokevirtual 416, 3), (5, .ifCond .eq 12, 3), (17, .ldc2_w 384, 3), (20, .lreturn, 1), (8, .aload_n 0, 1), (9, .getfield 106, 3), (12, .iload_n 1, 1), (13, .laload, 1), (14, .goto 6, 3)] = true := by decide +kernel
theorem dX12_near_0 : decode cX12_near 0 = .ok (.aload_n 0, 1) := lw_dr lw_d_cX12_near_0 0 rfl
theorem dX12_near_1 : decode cX12_near 1 = .ok (.iload_n 1, 1) := lw_dr lw_d_cX12_near_0 1 rfl
theorem dX12_near_2 : decode cX12_near 2 = .ok (.invokevirtual 416, 3) := lw_dr lw_d_cX12_near_0 2 rfl
theorem dX12_near_5 : decode cX12_near 5 = .ok (.ifCond .eq 12, 3) := lw_dr lw_d_cX12_near_0 3 rfl
theorem dX12_near_17 : decode cX12_near 17 = .ok (.ldc2_w 384, 3) := lw_dr lw_d_cX12_near_0 4 rfl
theorem dX12_near_20 : decode cX12_near 20 = .ok (.lreturn, 1) := lw_dr lw_d_cX12_near_0 5 rfl
theorem dX12_near_8 : decode cX12_near 8 = .ok (.aload_n 0, 1) := lw_dr lw_d_cX12_near_0 6 rfl
theorem dX12_near_9 : decode cX12_near 9 = .ok (.getfield 106, 3) := lw_dr lw_d_cX12_near_0 7 rfl
theorem dX12_near_12 : decode cX12_near 12 = .ok (.iload_n 1, 1) := lw_dr lw_d_cX12_near_0 8 rfl
theorem dX12_near_13 : decode cX12_near 13 = .ok (.laload, 1) := lw_dr lw_d_cX12_near_0 9 rfl
theorem dX12_near_14 : decode cX12_near 14 = .ok (.goto 6, 3) := lw_dr lw_d_cX12_near_0 10 rfl
theorem lw_d_cX12_within_0 : lw_dl cX12_within [(0, .lload_n 1, 1), (1, .lconst 0, 1), (2, .lcmp, 1), (3, .ifCond .ge 5, 3), (8, .iconst 0, 1), (9, .istore_n 3, 1), (10, .iconst 0, 1), (11, .istore 4, 2), (13, .iload 4, 2), (15, .aload_n 0, 1), (16, .invokevirtual 406, 3), (19, .if_icmp .ge 23, 3), (42, .iload_n 3, 1), (43, .ireturn, 1), (22, .aload_n 0, 1), (23, .iload 4, 2), (25, .invokevirtual 409, 3), (28, .lload_n 1, 1), (29, .lcmp, 1), (30, .ifCond .gt 6, 3), (36, .iinc 4 1, 3), (39, .goto (-26), 3), (33, .iinc 3 1, 3), (6, .iconst (-1), 1), (7, .ireturn, 1)] = true := by decide +kernel
theorem dX12_within_0 : decode cX12_within 0 = .ok (.lload_n 1, 1) := lw_dr lw_d_cX12_within_0 0 rfl
theorem dX12_within_1 : decode cX12_within 1 = .ok (.lconst 0, 1) := lw_dr lw_d_cX12_within_0 1 rfl
theorem dX12_within_2 : decode cX12_within 2 = .ok (.lcmp, 1) := lw_dr lw_d_cX12_within_0 2 rfl
theorem dX12_within_3 : decode cX12_within 3 = .ok (.ifCond .ge 5, 3) := lw_dr lw_d_cX12_within_0 3 rfl
theorem dX12_within_8 : decode cX12_within 8 = .ok (.iconst 0, 1) := lw_dr lw_d_cX12_within_0 4 rfl
theorem dX12_within_9 : decode cX12_within 9 = .ok (.istore_n 3, 1) := lw_dr lw_d_cX12_within_0 5 rfl
theorem dX12_within_10 : decode cX12_within 10 = .ok (.iconst 0, 1) := lw_dr lw_d_cX12_within_0 6 rfl
theorem dX12_within_11 : decode cX12_within 11 = .ok (.istore 4, 2) := lw_dr lw_d_cX12_within_0 7 rfl
theorem dX12_within_13 : decode cX12_within 13 = .ok (.iload 4, 2) := lw_dr lw_d_cX12_within_0 8 rfl
theorem dX12_within_15 : decode cX12_within 15 = .ok (.aload_n 0, 1) := lw_dr lw_d_cX12_within_0 9 rfl
theorem dX12_within_16 : decode cX12_within 16 = .ok (.invokevirtual 406, 3) := lw_dr lw_d_cX12_within_0 10 rfl
theorem dX12_within_19 : decode cX12_within 19 = .ok (.if_icmp .ge 23, 3) := lw_dr lw_d_cX12_within_0 11 rfl
theorem dX12_within_42 : decode cX12_within 42 = .ok (.iload_n 3, 1) := lw_dr lw_d_cX12_within_0 12 rfl
theorem dX12_within_43 : decode cX12_within 43 = .ok (.ireturn, 1) := lw_dr lw_d_cX12_within_0 13 rfl
theorem dX12_within_22 : decode cX12_within 22 = .ok (.aload_n 0, 1) := lw_dr lw_d_cX12_within_0 14 rfl
theorem dX12_within_23 : decode cX12_within 23 = .ok (.iload 4, 2) := lw_dr lw_d_cX12_within_0 15 rfl
theorem dX12_within_25 : decode cX12_within 25 = .ok (.invokevirtual 409, 3) := lw_dr lw_d_cX12_within_0 16 rfl
theorem dX12_within_28 : decode cX12_within 28 = .ok (.lload_n 1, 1) := lw_dr lw_d_cX12_within_0 17 rfl
theorem dX12_within_29 : decode cX12_within 29 = .ok (.lcmp, 1) := lw_dr lw_d_cX12_within_0 18 rfl
theorem dX12_within_30 : decode cX12_within 30 = .ok (.ifCond .gt 6, 3) := lw_dr lw_d_cX12_within_0 19 rfl
theorem dX12_within_36 : decode cX12_within 36 = .ok (.iinc 4 1, 3) := lw_dr lw_d_cX12_within_0 20 rfl
theorem dX12_within_39 : decode cX12_within 39 = .ok (.goto (-26), 3) := lw_dr lw_d_cX12_within_0 21 rfl
theorem dX12_within_33 : decode cX12_within 33 = .ok (.iinc 3 1, 3) := lw_dr lw_d_cX12_within_0 22 rfl
theorem dX12_within_6 : decode cX12_within 6 = .ok (.iconst (-1), 1) := lw_dr lw_d_cX12_within_0 23 rfl
theorem dX12_within_7 : decode cX12_within 7 = .ok (.ireturn, 1) := lw_dr lw_d_cX12_within_0 24 rfl
theorem lw_d_cX12_cancel_0 : lw_dl cX12_cancel [(0, .aload_n 0, 1), (1, .iload_n 1, 1), (2, .invokevirtual 361, 3), (5, .ifCond .ne 7, 3), (12, .aload_n 0, 1), (13, .invokevirtual 426, 3)] = true := by decide +kernel
theorem dX12_cancel_0 : decode cX12_cancel 0 = .ok (.aload_n 0, 1) := lw_dr lw_d_cX12_cancel_0 0 rfl
theorem dX12_cancel_1 : decode cX12_cancel 1 = .ok (.iload_n 1, 1) := lw_dr lw_d_cX12_cancel_0 1 rfl
theorem dX12_cancel_2 : decode cX12_cancel 2 = .ok (.invokevirtual 361, 3) := lw_dr lw_d_cX12_cancel_0 2 rfl
theorem dX12_cancel_5 : decode cX12_cancel 5 = .ok (.ifCond .ne 7, 3) := lw_dr lw_d_cX12_cancel_0 3 rfl
theorem dX12_cancel_12 : decode cX12_cancel 12 = .ok (.aload_n 0, 1) := lw_dr lw_d_cX12_cancel_0 4 rfl
theorem dX12_cancel_13 : decode cX12_cancel 13 = .ok (.invokevirtual 426, 3) := lw_dr lw_d_cX12_cancel_0 5 rfl
theorem lw_d_cX12_cancels_0 : lw_dl cX12_cancels [(0, .aload_n 0, 1), (1, .invokevirtual 419, 3), (4, .iconst 0, 1), (5, .istore_n 1, 1), (6, .iload_n 1, 1), (7, .aload_n 0, 1), (8, .getfield 240, 3), (11, .if_icmp .ge 22, 3), (33, .iconst 0, 1), (34, .istore_n 1, 1), (35, .iload_n 1, 1), (36, .aload_n 0, 1), (37, .getfield 237, 3)] = true := by decide +kernel
theorem dX12_cancels_0 : decode cX12_cancels 0 = .ok (.aload_n 0, 1) := lw_dr lw_d_cX12_cancels_0 0 rfl
theorem dX12_cancels_1 : decode cX12_cancels 1 = .ok (.invokevirtual 419, 3) := lw_dr lw_d_cX12_cancels_0 1 rfl
theorem dX12_cancels_4 : decode cX12_cancels 4 = .ok (.iconst 0, 1) := lw_dr lw_d_cX12_cancels_0 2 rfl
theorem dX12_cancels_5 : decode cX12_cancels 5 = .ok (.istore_n 1, 1) := lw_dr lw_d_cX12_cancels_0 3 rfl
theorem dX12_cancels_6 : decode cX12_cancels 6 = .ok (.iload_n 1, 1) := lw_dr lw_d_cX12_cancels_0 4 rfl
theorem dX12_cancels_7 : decode cX12_cancels 7 = .ok (.aload_n 0, 1) := lw_dr lw_d_cX12_cancels_0 5 rfl
theorem dX12_cancels_8 : decode cX12_cancels 8 = .ok (.getfield 240, 3) := lw_dr lw_d_cX12_cancels_0 6 rfl
theorem dX12_cancels_11 : decode cX12_cancels 11 = .ok (.if_icmp .ge 22, 3) := lw_dr lw_d_cX12_cancels_0 7 rfl
theorem dX12_cancels_33 : decode cX12_cancels 33 = .ok (.iconst 0, 1) := lw_dr lw_d_cX12_cancels_0 8 rfl
theorem dX12_cancels_34 : decode cX12_cancels 34 = .ok (.istore_n 1, 1) := lw_dr lw_d_cX12_cancels_0 9 rfl
theorem dX12_cancels_35 : decode cX12_cancels 35 = .ok (.iload_n 1, 1) := lw_dr lw_d_cX12_cancels_0 10 rfl
theorem dX12_cancels_36 : decode cX12_cancels 36 = .ok (.aload_n 0, 1) := lw_dr lw_d_cX12_cancels_0 11 rfl
theorem dX12_cancels_37 : decode cX12_cancels 37 = .ok (.getfield 237, 3) := lw_dr lw_d_cX12_cancels_0 12 rfl
theorem lw_d_cX12_orders_0 : lw_dl cX12_orders [(0, .iconst 0, 1), (1, .istore_n 1, 1), (2, .iload_n 1, 1), (3, .aload_n 0, 1), (4, .getfield 237, 3), (7, .if_icmp .ge 80, 3), (87, .return_, 1), (10, .iconst 0, 1), (11, .istore_n 2, 1), (12, .iconst 0, 1), (13, .istore_n 3, 1), (14, .iload_n 3, 1), (15, .aload_n 0, 1), (16, .getfield 237, 3), (19, .if_icmp .ge 55, 3), (22, .aload_n 0, 1), (23, .iload_n 3, 1), (24, .iload_n 3, 1), (25, .aload_n 0, 1), (26, .getfield 69, 3), (29, .invokevirtual 334, 3), (32, .istore 4, 2), (34, .aload_n 0, 1), (35, .iload_n 1, 1), (36, .iload_n 1, 1), (37, .aload_n 0, 1), (38, .getfield 69, 3), (41, .invokevirtual 334, 3), (44, .istore 5, 2), (46, .iload 4, 2), (48, .iload 5, 2), (50, .if_icmp .gt 15, 3), (65, .iinc 2 1, 3), (68, .iinc 3 1, 3), (71, .goto (-57), 3), (53, .iload 4, 2), (55, .iload 5, 2), (57, .if_icmp .ne 11, 3), (60, .iload_n 3, 1), (61, .iload_n 1, 1)] = true := by decide +kernel
theorem dX12_orders_0 : decode cX12_orders 0 = .ok (.iconst 0, 1) := lw_dr lw_d_cX12_orders_0 0 rfl
theorem dX12_orders_1 : decode cX12_orders 1 = .ok (.istore_n 1, 1) := lw_dr lw_d_cX12_orders_0 1 rfl
theorem dX12_orders_2 : decode cX12_orders 2 = .ok (.iload_n 1, 1) := lw_dr lw_d_cX12_orders_0 2 rfl
theorem dX12_orders_3 : decode cX12_orders 3 = .ok (.aload_n 0, 1) := lw_dr lw_d_cX12_orders_0 3 rfl
theorem dX12_orders_4 : decode cX12_orders 4 = .ok (.getfield 237, 3) := lw_dr lw_d_cX12_orders_0 4 rfl
theorem dX12_orders_7 : decode cX12_orders 7 = .ok (.if_icmp .ge 80, 3) := lw_dr lw_d_cX12_orders_0 5 rfl
theorem dX12_orders_87 : decode cX12_orders 87 = .ok (.return_, 1) := lw_dr lw_d_cX12_orders_0 6 rfl
theorem dX12_orders_10 : decode cX12_orders 10 = .ok (.iconst 0, 1) := lw_dr lw_d_cX12_orders_0 7 rfl
theorem dX12_orders_11 : decode cX12_orders 11 = .ok (.istore_n 2, 1) := lw_dr lw_d_cX12_orders_0 8 rfl
theorem dX12_orders_12 : decode cX12_orders 12 = .ok (.iconst 0, 1) := lw_dr lw_d_cX12_orders_0 9 rfl
theorem dX12_orders_13 : decode cX12_orders 13 = .ok (.istore_n 3, 1) := lw_dr lw_d_cX12_orders_0 10 rfl
theorem dX12_orders_14 : decode cX12_orders 14 = .ok (.iload_n 3, 1) := lw_dr lw_d_cX12_orders_0 11 rfl
theorem dX12_orders_15 : decode cX12_orders 15 = .ok (.aload_n 0, 1) := lw_dr lw_d_cX12_orders_0 12 rfl
theorem dX12_orders_16 : decode cX12_orders 16 = .ok (.getfield 237, 3) := lw_dr lw_d_cX12_orders_0 13 rfl
theorem dX12_orders_19 : decode cX12_orders 19 = .ok (.if_icmp .ge 55, 3) := lw_dr lw_d_cX12_orders_0 14 rfl
theorem dX12_orders_22 : decode cX12_orders 22 = .ok (.aload_n 0, 1) := lw_dr lw_d_cX12_orders_0 15 rfl
theorem dX12_orders_23 : decode cX12_orders 23 = .ok (.iload_n 3, 1) := lw_dr lw_d_cX12_orders_0 16 rfl
theorem dX12_orders_24 : decode cX12_orders 24 = .ok (.iload_n 3, 1) := lw_dr lw_d_cX12_orders_0 17 rfl
theorem dX12_orders_25 : decode cX12_orders 25 = .ok (.aload_n 0, 1) := lw_dr lw_d_cX12_orders_0 18 rfl
theorem dX12_orders_26 : decode cX12_orders 26 = .ok (.getfield 69, 3) := lw_dr lw_d_cX12_orders_0 19 rfl
theorem dX12_orders_29 : decode cX12_orders 29 = .ok (.invokevirtual 334, 3) := lw_dr lw_d_cX12_orders_0 20 rfl
theorem dX12_orders_32 : decode cX12_orders 32 = .ok (.istore 4, 2) := lw_dr lw_d_cX12_orders_0 21 rfl
theorem dX12_orders_34 : decode cX12_orders 34 = .ok (.aload_n 0, 1) := lw_dr lw_d_cX12_orders_0 22 rfl
theorem dX12_orders_35 : decode cX12_orders 35 = .ok (.iload_n 1, 1) := lw_dr lw_d_cX12_orders_0 23 rfl
theorem dX12_orders_36 : decode cX12_orders 36 = .ok (.iload_n 1, 1) := lw_dr lw_d_cX12_orders_0 24 rfl
theorem dX12_orders_37 : decode cX12_orders 37 = .ok (.aload_n 0, 1) := lw_dr lw_d_cX12_orders_0 25 rfl
theorem dX12_orders_38 : decode cX12_orders 38 = .ok (.getfield 69, 3) := lw_dr lw_d_cX12_orders_0 26 rfl
theorem dX12_orders_41 : decode cX12_orders 41 = .ok (.invokevirtual 334, 3) := lw_dr lw_d_cX12_orders_0 27 rfl
theorem dX12_orders_44 : decode cX12_orders 44 = .ok (.istore 5, 2) := lw_dr lw_d_cX12_orders_0 28 rfl
theorem dX12_orders_46 : decode cX12_orders 46 = .ok (.iload 4, 2) := lw_dr lw_d_cX12_orders_0 29 rfl
theorem dX12_orders_48 : decode cX12_orders 48 = .ok (.iload 5, 2) := lw_dr lw_d_cX12_orders_0 30 rfl
theorem dX12_orders_50 : decode cX12_orders 50 = .ok (.if_icmp .gt 15, 3) := lw_dr lw_d_cX12_orders_0 31 rfl
theorem dX12_orders_65 : decode cX12_orders 65 = .ok (.iinc 2 1, 3) := lw_dr lw_d_cX12_orders_0 32 rfl
theorem dX12_orders_68 : decode cX12_orders 68 = .ok (.iinc 3 1, 3) := lw_dr lw_d_cX12_orders_0 33 rfl
theorem dX12_orders_71 : decode cX12_orders 71 = .ok (.goto (-57), 3) := lw_dr lw_d_cX12_orders_0 34 rfl
theorem dX12_orders_53 : decode cX12_orders 53 = .ok (.iload 4, 2) := lw_dr lw_d_cX12_orders_0 35 rfl
theorem dX12_orders_55 : decode cX12_orders 55 = .ok (.iload 5, 2) := lw_dr lw_d_cX12_orders_0 36 rfl
theorem dX12_orders_57 : decode cX12_orders 57 = .ok (.if_icmp .ne 11, 3) := lw_dr lw_d_cX12_orders_0 37 rfl
theorem dX12_orders_60 : decode cX12_orders 60 = .ok (.iload_n 3, 1) := lw_dr lw_d_cX12_orders_0 38 rfl
theorem dX12_orders_61 : decode cX12_orders 61 = .ok (.iload_n 1, 1) := lw_dr lw_d_cX12_orders_0 39 rfl
theorem lw_d_cX12_orders_62 : lw_dl cX12_orders [(62, .if_icmp .ge 6, 3), (74, .aload_n 0, 1), (75, .getfield 112, 3), (78, .iload_n 2, 1), (79, .iload_n 1, 1), (80, .iastore, 1), (81, .iinc 1 1, 3), (84, .goto (-82), 3)] = true := by decide +kernel
theorem dX12_orders_62 : decode cX12_orders 62 = .ok (.if_icmp .ge 6, 3) := lw_dr lw_d_cX12_orders_62 0 rfl
theorem dX12_orders_74 : decode cX12_orders 74 = .ok (.aload_n 0, 1) := lw_dr lw_d_cX12_orders_62 1 rfl
theorem dX12_orders_75 : decode cX12_orders 75 = .ok (.getfield 112, 3) := lw_dr lw_d_cX12_orders_62 2 rfl
theorem dX12_orders_78 : decode cX12_orders 78 = .ok (.iload_n 2, 1) := lw_dr lw_d_cX12_orders_62 3 rfl
theorem dX12_orders_79 : decode cX12_orders 79 = .ok (.iload_n 1, 1) := lw_dr lw_d_cX12_orders_62 4 rfl
theorem dX12_orders_80 : decode cX12_orders 80 = .ok (.iastore, 1) := lw_dr lw_d_cX12_orders_62 5 rfl
theorem dX12_orders_81 : decode cX12_orders 81 = .ok (.iinc 1 1, 3) := lw_dr lw_d_cX12_orders_62 6 rfl
theorem dX12_orders_84 : decode cX12_orders 84 = .ok (.goto (-82), 3) := lw_dr lw_d_cX12_orders_62 7 rfl
