theorem lw_d_cX12_share_47 : lw_dl cX12_share [(47, .lstore 8, 2), (49, .lload 5, 2), (51, .lload 8, 2), (53, .ladd, 1), (54, .lstore 5, 2), (56, .aload_n 0, 1), (57, .getfield 103, 3), (60, .iload_n 1, 1), (61, .iaload, 1), (62, .iload_n 2, 1), (63, .if_icmp .ne 8, 3), (71, .iinc 7 1, 3), (74, .goto (-48), 3), (66, .lload_n 3, 1), (67, .lload 8, 2), (69, .ladd, 1), (70, .lstore_n 3, 1), (88, .ldc2_w 365, 3), (91, .lload_n 3, 1), (92, .lmul, 1), (93, .lload 5, 2), (95, .ldiv, 1), (96, .l2i, 1)] = true := by decide +kernel
theorem dX12_share_47 : decode cX12_share 47 = .ok (.lstore 8, 2) := lw_dr lw_d_cX12_share_47 0 rfl
theorem dX12_share_49 : decode cX12_share 49 = .ok (.lload 5, 2) := lw_dr lw_d_cX12_share_47 1 rfl
theorem dX12_share_51 : decode cX12_share 51 = .ok (.lload 8, 2) := lw_dr lw_d_cX12_share_47 2 rfl
theorem dX12_share_53 : decode cX12_share 53 = .ok (.ladd, 1) := lw_dr lw_d_cX12_share_47 3 rfl
theorem dX12_share_54 : decode cX12_share 54 = .ok (.lstore 5, 2) := lw_dr lw_d_cX12_share_47 4 rfl
theorem dX12_share_56 : decode cX12_share 56 = .ok (.aload_n 0, 1) := lw_dr lw_d_cX12_share_47 5 rfl
theorem dX12_share_57 : decode cX12_share 57 = .ok (.getfield 103, 3) := lw_dr lw_d_cX12_share_47 6 rfl
theorem dX12_share_60 : decode cX12_share 60 = .ok (.iload_n 1, 1) := lw_dr lw_d_cX12_share_47 7 rfl
theorem dX12_share_61 : decode cX12_share 61 = .ok (.iaload, 1) := lw_dr lw_d_cX12_share_47 8 rfl
theorem dX12_share_62 : decode cX12_share 62 = .ok (.iload_n 2, 1) := lw_dr lw_d_cX12_share_47 9 rfl
theorem dX12_share_63 : decode cX12_share 63 = .ok (.if_icmp .ne 8, 3) := lw_dr lw_d_cX12_share_47 10 rfl
theorem dX12_share_71 : decode cX12_share 71 = .ok (.iinc 7 1, 3) := lw_dr lw_d_cX12_share_47 11 rfl
theorem dX12_share_74 : decode cX12_share 74 = .ok (.goto (-48), 3) := lw_dr lw_d_cX12_share_47 12 rfl
theorem dX12_share_66 : decode cX12_share 66 = .ok (.lload_n 3, 1) := lw_dr lw_d_cX12_share_47 13 rfl
theorem dX12_share_67 : decode cX12_share 67 = .ok (.lload 8, 2) := lw_dr lw_d_cX12_share_47 14 rfl
theorem dX12_share_69 : decode cX12_share 69 = .ok (.ladd, 1) := lw_dr lw_d_cX12_share_47 15 rfl
theorem dX12_share_70 : decode cX12_share 70 = .ok (.lstore_n 3, 1) := lw_dr lw_d_cX12_share_47 16 rfl
theorem dX12_share_88 : decode cX12_share 88 = .ok (.ldc2_w 365, 3) := lw_dr lw_d_cX12_share_47 17 rfl
theorem dX12_share_91 : decode cX12_share 91 = .ok (.lload_n 3, 1) := lw_dr lw_d_cX12_share_47 18 rfl
theorem dX12_share_92 : decode cX12_share 92 = .ok (.lmul, 1) := lw_dr lw_d_cX12_share_47 19 rfl
theorem dX12_share_93 : decode cX12_share 93 = .ok (.lload 5, 2) := lw_dr lw_d_cX12_share_47 20 rfl
theorem dX12_share_95 : decode cX12_share 95 = .ok (.ldiv, 1) := lw_dr lw_d_cX12_share_47 21 rfl
theorem dX12_share_96 : decode cX12_share 96 = .ok (.l2i, 1) := lw_dr lw_d_cX12_share_47 22 rfl
theorem lw_d_cX12_isLeast_19 : lw_dl cX12_isLeast [(19, .aload_n 0, 1), (20, .getfield 103, 3), (23, .iload 4, 2), (25, .iload_n 1, 1), (26, .iload 4, 2), (28, .ishr, 1), (29, .iconst 1, 1), (30, .iand, 1), (31, .iconst 1, 1), (32, .if_icmp .ne 8, 3), (40, .iconst 0, 1), (41, .iastore, 1), (42, .iinc 4 1, 3), (45, .goto (-35), 3), (35, .iload_n 2, 1), (36, .ineg, 1), (37, .goto 4, 3), (71, .iload 5, 2), (73, .ifCond .eq 17, 3), (76, .aload_n 0, 1), (77, .getfield 103, 3), (80, .iload 6, 2), (82, .iaload, 1), (83, .ifCond .ne 7, 3), (90, .iconst 0, 1), (91, .istore 5, 2), (93, .iinc 6 1, 3), (96, .goto (-34), 3), (86, .iconst 1, 1), (87, .goto 4, 3), (108, .aload_n 0, 1), (109, .iconst 0, 1), (110, .invokevirtual 380, 3), (120, .aload_n 0, 1), (121, .getfield 447, 3), (124, .lconst 0, 1), (125, .lcmp, 1), (126, .ifCond .lt 13, 3), (139, .aload_n 0, 1), (140, .lload 6, 2)] = true := by decide +kernel
theorem dX12_isLeast_19 : decode cX12_isLeast 19 = .ok (.aload_n 0, 1) := lw_dr lw_d_cX12_isLeast_19 0 rfl
theorem dX12_isLeast_20 : decode cX12_isLeast 20 = .ok (.getfield 103, 3) := lw_dr lw_d_cX12_isLeast_19 1 rfl
theorem dX12_isLeast_23 : decode cX12_isLeast 23 = .ok (.iload 4, 2) := lw_dr lw_d_cX12_isLeast_19 2 rfl
theorem dX12_isLeast_25 : decode cX12_isLeast 25 = .ok (.iload_n 1, 1) := lw_dr lw_d_cX12_isLeast_19 3 rfl
theorem dX12_isLeast_26 : decode cX12_isLeast 26 = .ok (.iload 4, 2) := lw_dr lw_d_cX12_isLeast_19 4 rfl
theorem dX12_isLeast_28 : decode cX12_isLeast 28 = .ok (.ishr, 1) := lw_dr lw_d_cX12_isLeast_19 5 rfl
theorem dX12_isLeast_29 : decode cX12_isLeast 29 = .ok (.iconst 1, 1) := lw_dr lw_d_cX12_isLeast_19 6 rfl
theorem dX12_isLeast_30 : decode cX12_isLeast 30 = .ok (.iand, 1) := lw_dr lw_d_cX12_isLeast_19 7 rfl
theorem dX12_isLeast_31 : decode cX12_isLeast 31 = .ok (.iconst 1, 1) := lw_dr lw_d_cX12_isLeast_19 8 rfl
theorem dX12_isLeast_32 : decode cX12_isLeast 32 = .ok (.if_icmp .ne 8, 3) := lw_dr lw_d_cX12_isLeast_19 9 rfl
theorem dX12_isLeast_40 : decode cX12_isLeast 40 = .ok (.iconst 0, 1) := lw_dr lw_d_cX12_isLeast_19 10 rfl
theorem dX12_isLeast_41 : decode cX12_isLeast 41 = .ok (.iastore, 1) := lw_dr lw_d_cX12_isLeast_19 11 rfl
theorem dX12_isLeast_42 : decode cX12_isLeast 42 = .ok (.iinc 4 1, 3) := lw_dr lw_d_cX12_isLeast_19 12 rfl
theorem dX12_isLeast_45 : decode cX12_isLeast 45 = .ok (.goto (-35), 3) := lw_dr lw_d_cX12_isLeast_19 13 rfl
theorem dX12_isLeast_35 : decode cX12_isLeast 35 = .ok (.iload_n 2, 1) := lw_dr lw_d_cX12_isLeast_19 14 rfl
theorem dX12_isLeast_36 : decode cX12_isLeast 36 = .ok (.ineg, 1) := lw_dr lw_d_cX12_isLeast_19 15 rfl
theorem dX12_isLeast_37 : decode cX12_isLeast 37 = .ok (.goto 4, 3) := lw_dr lw_d_cX12_isLeast_19 16 rfl
theorem dX12_isLeast_71 : decode cX12_isLeast 71 = .ok (.iload 5, 2) := lw_dr lw_d_cX12_isLeast_19 17 rfl
theorem dX12_isLeast_73 : decode cX12_isLeast 73 = .ok (.ifCond .eq 17, 3) := lw_dr lw_d_cX12_isLeast_19 18 rfl
theorem dX12_isLeast_76 : decode cX12_isLeast 76 = .ok (.aload_n 0, 1) := lw_dr lw_d_cX12_isLeast_19 19 rfl
theorem dX12_isLeast_77 : decode cX12_isLeast 77 = .ok (.getfield 103, 3) := lw_dr lw_d_cX12_isLeast_19 20 rfl
theorem dX12_isLeast_80 : decode cX12_isLeast 80 = .ok (.iload 6, 2) := lw_dr lw_d_cX12_isLeast_19 21 rfl
theorem dX12_isLeast_82 : decode cX12_isLeast 82 = .ok (.iaload, 1) := lw_dr lw_d_cX12_isLeast_19 22 rfl
theorem dX12_isLeast_83 : decode cX12_isLeast 83 = .ok (.ifCond .ne 7, 3) := lw_dr lw_d_cX12_isLeast_19 23 rfl
theorem dX12_isLeast_90 : decode cX12_isLeast 90 = .ok (.iconst 0, 1) := lw_dr lw_d_cX12_isLeast_19 24 rfl
theorem dX12_isLeast_91 : decode cX12_isLeast 91 = .ok (.istore 5, 2) := lw_dr lw_d_cX12_isLeast_19 25 rfl
theorem dX12_isLeast_93 : decode cX12_isLeast 93 = .ok (.iinc 6 1, 3) := lw_dr lw_d_cX12_isLeast_19 26 rfl
theorem dX12_isLeast_96 : decode cX12_isLeast 96 = .ok (.goto (-34), 3) := lw_dr lw_d_cX12_isLeast_19 27 rfl
theorem dX12_isLeast_86 : decode cX12_isLeast 86 = .ok (.iconst 1, 1) := lw_dr lw_d_cX12_isLeast_19 28 rfl
theorem dX12_isLeast_87 : decode cX12_isLeast 87 = .ok (.goto 4, 3) := lw_dr lw_d_cX12_isLeast_19 29 rfl
theorem dX12_isLeast_108 : decode cX12_isLeast 108 = .ok (.aload_n 0, 1) := lw_dr lw_d_cX12_isLeast_19 30 rfl
theorem dX12_isLeast_109 : decode cX12_isLeast 109 = .ok (.iconst 0, 1) := lw_dr lw_d_cX12_isLeast_19 31 rfl
theorem dX12_isLeast_110 : decode cX12_isLeast 110 = .ok (.invokevirtual 380, 3) := lw_dr lw_d_cX12_isLeast_19 32 rfl
theorem dX12_isLeast_120 : decode cX12_isLeast 120 = .ok (.aload_n 0, 1) := lw_dr lw_d_cX12_isLeast_19 33 rfl
theorem dX12_isLeast_121 : decode cX12_isLeast 121 = .ok (.getfield 447, 3) := lw_dr lw_d_cX12_isLeast_19 34 rfl
theorem dX12_isLeast_124 : decode cX12_isLeast 124 = .ok (.lconst 0, 1) := lw_dr lw_d_cX12_isLeast_19 35 rfl
theorem dX12_isLeast_125 : decode cX12_isLeast 125 = .ok (.lcmp, 1) := lw_dr lw_d_cX12_isLeast_19 36 rfl
theorem dX12_isLeast_126 : decode cX12_isLeast 126 = .ok (.ifCond .lt 13, 3) := lw_dr lw_d_cX12_isLeast_19 37 rfl
theorem dX12_isLeast_139 : decode cX12_isLeast 139 = .ok (.aload_n 0, 1) := lw_dr lw_d_cX12_isLeast_19 38 rfl
theorem dX12_isLeast_140 : decode cX12_isLeast 140 = .ok (.lload 6, 2) := lw_dr lw_d_cX12_isLeast_19 39 rfl
theorem lw_d_cX12_isLeast_142 : lw_dl cX12_isLeast [(142, .putfield 447, 3), (145, .iconst 0, 1), (146, .istore 8, 2), (148, .iload 8, 2), (150, .aload_n 0, 1), (151, .getfield 237, 3), (154, .if_icmp .ge 23, 3), (157, .aload_n 0, 1), (158, .getfield 133, 3), (161, .iload 8, 2), (163, .aload_n 0, 1), (164, .getfield 103, 3), (167, .iload 8, 2), (169, .iaload, 1), (170, .iastore, 1), (171, .iinc 8 1, 3), (174, .goto (-26), 3), (198, .iconst 1, 1), (199, .goto 4, 3), (129, .lload 6, 2), (131, .aload_n 0, 1), (132, .getfield 447, 3), (135, .lcmp, 1), (136, .ifCond .ge 41, 3)] = true := by decide +kernel
theorem dX12_isLeast_142 : decode cX12_isLeast 142 = .ok (.putfield 447, 3) := lw_dr lw_d_cX12_isLeast_142 0 rfl
theorem dX12_isLeast_145 : decode cX12_isLeast 145 = .ok (.iconst 0, 1) := lw_dr lw_d_cX12_isLeast_142 1 rfl
theorem dX12_isLeast_146 : decode cX12_isLeast 146 = .ok (.istore 8, 2) := lw_dr lw_d_cX12_isLeast_142 2 rfl
theorem dX12_isLeast_148 : decode cX12_isLeast 148 = .ok (.iload 8, 2) := lw_dr lw_d_cX12_isLeast_142 3 rfl
theorem dX12_isLeast_150 : decode cX12_isLeast 150 = .ok (.aload_n 0, 1) := lw_dr lw_d_cX12_isLeast_142 4 rfl
theorem dX12_isLeast_151 : decode cX12_isLeast 151 = .ok (.getfield 237, 3) := lw_dr lw_d_cX12_isLeast_142 5 rfl
theorem dX12_isLeast_154 : decode cX12_isLeast 154 = .ok (.if_icmp .ge 23, 3) := lw_dr lw_d_cX12_isLeast_142 6 rfl
theorem dX12_isLeast_157 : decode cX12_isLeast 157 = .ok (.aload_n 0, 1) := lw_dr lw_d_cX12_isLeast_142 7 rfl
theorem dX12_isLeast_158 : decode cX12_isLeast 158 = .ok (.getfield 133, 3) := lw_dr lw_d_cX12_isLeast_142 8 rfl
theorem dX12_isLeast_161 : decode cX12_isLeast 161 = .ok (.iload 8, 2) := lw_dr lw_d_cX12_isLeast_142 9 rfl
theorem dX12_isLeast_163 : decode cX12_isLeast 163 = .ok (.aload_n 0, 1) := lw_dr lw_d_cX12_isLeast_142 10 rfl
theorem dX12_isLeast_164 : decode cX12_isLeast 164 = .ok (.getfield 103, 3) := lw_dr lw_d_cX12_isLeast_142 11 rfl
theorem dX12_isLeast_167 : decode cX12_isLeast 167 = .ok (.iload 8, 2) := lw_dr lw_d_cX12_isLeast_142 12 rfl
theorem dX12_isLeast_169 : decode cX12_isLeast 169 = .ok (.iaload, 1) := lw_dr lw_d_cX12_isLeast_142 13 rfl
theorem dX12_isLeast_170 : decode cX12_isLeast 170 = .ok (.iastore, 1) := lw_dr lw_d_cX12_isLeast_142 14 rfl
theorem dX12_isLeast_171 : decode cX12_isLeast 171 = .ok (.iinc 8 1, 3) := lw_dr lw_d_cX12_isLeast_142 15 rfl
theorem dX12_isLeast_174 : decode cX12_isLeast 174 = .ok (.goto (-26), 3) := lw_dr lw_d_cX12_isLeast_142 16 rfl
theorem dX12_isLeast_198 : decode cX12_isLeast 198 = .ok (.iconst 1, 1) := lw_dr lw_d_cX12_isLeast_142 17 rfl
theorem dX12_isLeast_199 : decode cX12_isLeast 199 = .ok (.goto 4, 3) := lw_dr lw_d_cX12_isLeast_142 18 rfl
theorem dX12_isLeast_129 : decode cX12_isLeast 129 = .ok (.lload 6, 2) := lw_dr lw_d_cX12_isLeast_142 19 rfl
theorem dX12_isLeast_131 : decode cX12_isLeast 131 = .ok (.aload_n 0, 1) := lw_dr lw_d_cX12_isLeast_142 20 rfl
theorem dX12_isLeast_132 : decode cX12_isLeast 132 = .ok (.getfield 447, 3) := lw_dr lw_d_cX12_isLeast_142 21 rfl
theorem dX12_isLeast_135 : decode cX12_isLeast 135 = .ok (.lcmp, 1) := lw_dr lw_d_cX12_isLeast_142 22 rfl
theorem dX12_isLeast_136 : decode cX12_isLeast 136 = .ok (.ifCond .ge 41, 3) := lw_dr lw_d_cX12_isLeast_142 23 rfl
theorem lw_d_cX12_sums_40 : lw_dl cX12_sums [(40, .ifCond .ne 7, 3), (47, .iload_n 3, 1), (48, .iconst (-1), 1), (49, .if_icmp .ne 10, 3), (52, .aload_n 0, 1), (53, .getfield 447, 3), (56, .goto 10, 3), (66, .lreturn, 1), (25, .aload_n 0, 1), (26, .iload_n 3, 1), (27, .invokevirtual 361, 3), (30, .ifCond .eq 13, 3), (59, .aload_n 0, 1), (60, .getfield 133, 3), (63, .iload_n 3, 1), (64, .iaload, 1), (65, .i2l, 1)] = true := by decide +kernel
theorem dX12_sums_40 : decode cX12_sums 40 = .ok (.ifCond .ne 7, 3) := lw_dr lw_d_cX12_sums_40 0 rfl
theorem dX12_sums_47 : decode cX12_sums 47 = .ok (.iload_n 3, 1) := lw_dr lw_d_cX12_sums_40 1 rfl
theorem dX12_sums_48 : decode cX12_sums 48 = .ok (.iconst (-1), 1) := lw_dr lw_d_cX12_sums_40 2 rfl
theorem dX12_sums_49 : decode cX12_sums 49 = .ok (.if_icmp .ne 10, 3) := lw_dr lw_d_cX12_sums_40 3 rfl
theorem dX12_sums_52 : decode cX12_sums 52 = .ok (.aload_n 0, 1) := lw_dr lw_d_cX12_sums_40 4 rfl
theorem dX12_sums_53 : decode cX12_sums 53 = .ok (.getfield 447, 3) := lw_dr lw_d_cX12_sums_40 5 rfl
theorem dX12_sums_56 : decode cX12_sums 56 = .ok (.goto 10, 3) := lw_dr lw_d_cX12_sums_40 6 rfl
theorem dX12_sums_66 : decode cX12_sums 66 = .ok (.lreturn, 1) := lw_dr lw_d_cX12_sums_40 7 rfl
theorem dX12_sums_25 : decode cX12_sums 25 = .ok (.aload_n 0, 1) := lw_dr lw_d_cX12_sums_40 8 rfl
theorem dX12_sums_26 : decode cX12_sums 26 = .ok (.iload_n 3, 1) := lw_dr lw_d_cX12_sums_40 9 rfl
theorem dX12_sums_27 : decode cX12_sums 27 = .ok (.invokevirtual 361, 3) := lw_dr lw_d_cX12_sums_40 10 rfl
theorem dX12_sums_30 : decode cX12_sums 30 = .ok (.ifCond .eq 13, 3) := lw_dr lw_d_cX12_sums_40 11 rfl
theorem dX12_sums_59 : decode cX12_sums 59 = .ok (.aload_n 0, 1) := lw_dr lw_d_cX12_sums_40 12 rfl
theorem dX12_sums_60 : decode cX12_sums 60 = .ok (.getfield 133, 3) := lw_dr lw_d_cX12_sums_40 13 rfl
theorem dX12_sums_63 : decode cX12_sums 63 = .ok (.iload_n 3, 1) := lw_dr lw_d_cX12_sums_40 14 rfl
theorem dX12_sums_64 : decode cX12_sums 64 = .ok (.iaload, 1) := lw_dr lw_d_cX12_sums_40 15 rfl
theorem dX12_sums_65 : decode cX12_sums 65 = .ok (.i2l, 1) := lw_dr lw_d_cX12_sums_40 16 rfl
theorem lw_d_cX12_apart_22 : lw_dl cX12_apart [(22, .ifCond .eq 10, 3), (25, .aload_n 0, 1), (26, .getfield 447, 3), (29, .goto 6, 3)] = true := by decide +kernel
theorem dX12_apart_22 : decode cX12_apart 22 = .ok (.ifCond .eq 10, 3) := lw_dr lw_d_cX12_apart_22 0 rfl
theorem dX12_apart_25 : decode cX12_apart 25 = .ok (.aload_n 0, 1) := lw_dr lw_d_cX12_apart_22 1 rfl
theorem dX12_apart_26 : decode cX12_apart 26 = .ok (.getfield 447, 3) := lw_dr lw_d_cX12_apart_22 2 rfl
theorem dX12_apart_29 : decode cX12_apart 29 = .ok (.goto 6, 3) := lw_dr lw_d_cX12_apart_22 3 rfl
theorem lw_d_cX12_chosen_64 : lw_dl cX12_chosen [(64, .ifCond .eq 84, 3), (67, .aload_n 0, 1), (68, .getfield 447, 3), (71, .lload_n 2, 1), (72, .lcmp, 1), (73, .ifCond .ge 6, 3), (79, .lconst 0, 1), (80, .lstore 8, 2), (82, .iconst 0, 1), (83, .istore 10, 2), (85, .iload 10, 2), (87, .aload_n 0, 1), (88, .getfield 237, 3), (91, .if_icmp .ge 32, 3), (123, .iload 4, 2), (125, .iconst (-1), 1), (126, .if_icmp .eq 14, 3), (140, .iload 7, 2), (142, .istore 4, 2), (144, .lload 8, 2), (146, .lstore 5, 2), (94, .iload 7, 2), (96, .iload 10, 2), (98, .ishr, 1), (99, .iconst 1, 1), (100, .iand, 1), (101, .iconst 1, 1), (102, .if_icmp .ne 15, 3), (117, .iinc 10 1, 3), (120, .goto (-35), 3), (105, .lload 8, 2), (107, .aload_n 0, 1), (108, .iload 10, 2), (110, .invokevirtual 481, 3), (113, .i2l, 1), (114, .ladd, 1), (115, .lstore 8, 2), (76, .goto 72, 3), (129, .lload 8, 2), (131, .lload 5, 2)] = true := by decide +kernel
theorem dX12_chosen_64 : decode cX12_chosen 64 = .ok (.ifCond .eq 84, 3) := lw_dr lw_d_cX12_chosen_64 0 rfl
theorem dX12_chosen_67 : decode cX12_chosen 67 = .ok (.aload_n 0, 1) := lw_dr lw_d_cX12_chosen_64 1 rfl
theorem dX12_chosen_68 : decode cX12_chosen 68 = .ok (.getfield 447, 3) := lw_dr lw_d_cX12_chosen_64 2 rfl
theorem dX12_chosen_71 : decode cX12_chosen 71 = .ok (.lload_n 2, 1) := lw_dr lw_d_cX12_chosen_64 3 rfl
theorem dX12_chosen_72 : decode cX12_chosen 72 = .ok (.lcmp, 1) := lw_dr lw_d_cX12_chosen_64 4 rfl
theorem dX12_chosen_73 : decode cX12_chosen 73 = .ok (.ifCond .ge 6, 3) := lw_dr lw_d_cX12_chosen_64 5 rfl
theorem dX12_chosen_79 : decode cX12_chosen 79 = .ok (.lconst 0, 1) := lw_dr lw_d_cX12_chosen_64 6 rfl
theorem dX12_chosen_80 : decode cX12_chosen 80 = .ok (.lstore 8, 2) := lw_dr lw_d_cX12_chosen_64 7 rfl
theorem dX12_chosen_82 : decode cX12_chosen 82 = .ok (.iconst 0, 1) := lw_dr lw_d_cX12_chosen_64 8 rfl
theorem dX12_chosen_83 : decode cX12_chosen 83 = .ok (.istore 10, 2) := lw_dr lw_d_cX12_chosen_64 9 rfl
theorem dX12_chosen_85 : decode cX12_chosen 85 = .ok (.iload 10, 2) := lw_dr lw_d_cX12_chosen_64 10 rfl
theorem dX12_chosen_87 : decode cX12_chosen 87 = .ok (.aload_n 0, 1) := lw_dr lw_d_cX12_chosen_64 11 rfl
theorem dX12_chosen_88 : decode cX12_chosen 88 = .ok (.getfield 237, 3) := lw_dr lw_d_cX12_chosen_64 12 rfl
theorem dX12_chosen_91 : decode cX12_chosen 91 = .ok (.if_icmp .ge 32, 3) := lw_dr lw_d_cX12_chosen_64 13 rfl
theorem dX12_chosen_123 : decode cX12_chosen 123 = .ok (.iload 4, 2) := lw_dr lw_d_cX12_chosen_64 14 rfl
theorem dX12_chosen_125 : decode cX12_chosen 125 = .ok (.iconst (-1), 1) := lw_dr lw_d_cX12_chosen_64 15 rfl
theorem dX12_chosen_126 : decode cX12_chosen 126 = .ok (.if_icmp .eq 14, 3) := lw_dr lw_d_cX12_chosen_64 16 rfl
theorem dX12_chosen_140 : decode cX12_chosen 140 = .ok (.iload 7, 2) := lw_dr lw_d_cX12_chosen_64 17 rfl
theorem dX12_chosen_142 : decode cX12_chosen 142 = .ok (.istore 4, 2) := lw_dr lw_d_cX12_chosen_64 18 rfl
theorem dX12_chosen_144 : decode cX12_chosen 144 = .ok (.lload 8, 2) := lw_dr lw_d_cX12_chosen_64 19 rfl
theorem dX12_chosen_146 : decode cX12_chosen 146 = .ok (.lstore 5, 2) := lw_dr lw_d_cX12_chosen_64 20 rfl
theorem dX12_chosen_94 : decode cX12_chosen 94 = .ok (.iload 7, 2) := lw_dr lw_d_cX12_chosen_64 21 rfl
theorem dX12_chosen_96 : decode cX12_chosen 96 = .ok (.iload 10, 2) := lw_dr lw_d_cX12_chosen_64 22 rfl
theorem dX12_chosen_98 : decode cX12_chosen 98 = .ok (.ishr, 1) := lw_dr lw_d_cX12_chosen_64 23 rfl
theorem dX12_chosen_99 : decode cX12_chosen 99 = .ok (.iconst 1, 1) := lw_dr lw_d_cX12_chosen_64 24 rfl
theorem dX12_chosen_100 : decode cX12_chosen 100 = .ok (.iand, 1) := lw_dr lw_d_cX12_chosen_64 25 rfl
theorem dX12_chosen_101 : decode cX12_chosen 101 = .ok (.iconst 1, 1) := lw_dr lw_d_cX12_chosen_64 26 rfl
theorem dX12_chosen_102 : decode cX12_chosen 102 = .ok (.if_icmp .ne 15, 3) := lw_dr lw_d_cX12_chosen_64 27 rfl
theorem dX12_chosen_117 : decode cX12_chosen 117 = .ok (.iinc 10 1, 3) := lw_dr lw_d_cX12_chosen_64 28 rfl
theorem dX12_chosen_120 : decode cX12_chosen 120 = .ok (.goto (-35), 3) := lw_dr lw_d_cX12_chosen_64 29 rfl
theorem dX12_chosen_105 : decode cX12_chosen 105 = .ok (.lload 8, 2) := lw_dr lw_d_cX12_chosen_64 30 rfl
theorem dX12_chosen_107 : decode cX12_chosen 107 = .ok (.aload_n 0, 1) := lw_dr lw_d_cX12_chosen_64 31 rfl
theorem dX12_chosen_108 : decode cX12_chosen 108 = .ok (.iload 10, 2) := lw_dr lw_d_cX12_chosen_64 32 rfl
theorem dX12_chosen_110 : decode cX12_chosen 110 = .ok (.invokevirtual 481, 3) := lw_dr lw_d_cX12_chosen_64 33 rfl
theorem dX12_chosen_113 : decode cX12_chosen 113 = .ok (.i2l, 1) := lw_dr lw_d_cX12_chosen_64 34 rfl
theorem dX12_chosen_114 : decode cX12_chosen 114 = .ok (.ladd, 1) := lw_dr lw_d_cX12_chosen_64 35 rfl
theorem dX12_chosen_115 : decode cX12_chosen 115 = .ok (.lstore 8, 2) := lw_dr lw_d_cX12_chosen_64 36 rfl
theorem dX12_chosen_76 : decode cX12_chosen 76 = .ok (.goto 72, 3) := lw_dr lw_d_cX12_chosen_64 37 rfl
theorem dX12_chosen_129 : decode cX12_chosen 129 = .ok (.lload 8, 2) := lw_dr lw_d_cX12_chosen_64 38 rfl
theorem dX12_chosen_131 : decode cX12_chosen 131 = .ok (.lload 5, 2) := lw_dr lw_d_cX12_chosen_64 39 rfl
theorem lw_d_cX12_chosen_133 : lw_dl cX12_chosen [(133, .lcmp, 1), (134, .ifCond .gt 6, 3), (137, .goto 11, 3)] = true := by decide +kernel
theorem dX12_chosen_133 : decode cX12_chosen 133 = .ok (.lcmp, 1) := lw_dr lw_d_cX12_chosen_133 0 rfl
theorem dX12_chosen_134 : decode cX12_chosen 134 = .ok (.ifCond .gt 6, 3) := lw_dr lw_d_cX12_chosen_133 1 rfl
theorem dX12_chosen_137 : decode cX12_chosen 137 = .ok (.goto 11, 3) := lw_dr lw_d_cX12_chosen_133 2 rfl
theorem lw_d_cX11_lead_0 : lw_dl cX11_lead [(0, .iload_n 1, 1), (1, .iconst 1, 1), (2, .if_icmp .lt 9, 3), (11, .iconst (-1), 1), (12, .goto 11, 3), (23, .ireturn, 1), (5, .iload_n 1, 1), (6, .bipush 100, 2), (8, .if_icmp .le 7, 3), (15, .aload_n 0, 1), (16, .getfield 76, 3), (19, .iload_n 1, 1), (20, .invokevirtual 296, 3)] = true := by decide +kernel
theorem dX11_lead_0 : decode cX11_lead 0 = .ok (.iload_n 1, 1) := lw_dr lw_d_cX11_lead_0 0 rfl
theorem dX11_lead_1 : decode cX11_lead 1 = .ok (.iconst 1, 1) := lw_dr lw_d_cX11_lead_0 1 rfl
theorem dX11_lead_2 : decode cX11_lead 2 = .ok (.if_icmp .lt 9, 3) := lw_dr lw_d_cX11_lead_0 2 rfl
theorem dX11_lead_11 : decode cX11_lead 11 = .ok (.iconst (-1), 1) := lw_dr lw_d_cX11_lead_0 3 rfl
theorem dX11_lead_12 : decode cX11_lead 12 = .ok (.goto 11, 3) := lw_dr lw_d_cX11_lead_0 4 rfl
theorem dX11_lead_23 : decode cX11_lead 23 = .ok (.ireturn, 1) := lw_dr lw_d_cX11_lead_0 5 rfl
theorem dX11_lead_5 : decode cX11_lead 5 = .ok (.iload_n 1, 1) := lw_dr lw_d_cX11_lead_0 6 rfl
theorem dX11_lead_6 : decode cX11_lead 6 = .ok (.bipush 100, 2) := lw_dr lw_d_cX11_lead_0 7 rfl
theorem dX11_lead_8 : decode cX11_lead 8 = .ok (.if_icmp .le 7, 3) := lw_dr lw_d_cX11_lead_0 8 rfl
theorem dX11_lead_15 : decode cX11_lead 15 = .ok (.aload_n 0, 1) := lw_dr lw_d_cX11_lead_0 9 rfl
theorem dX11_lead_16 : decode cX11_lead 16 = .ok (.getfield 76, 3) := lw_dr lw_d_cX11_lead_0 10 rfl
theorem dX11_lead_19 : decode cX11_lead 19 = .ok (.iload_n 1, 1) := lw_dr lw_d_cX11_lead_0 11 rfl
theorem dX11_lead_20 : decode cX11_lead 20 = .ok (.invokevirtual 296, 3) := lw_dr lw_d_cX11_lead_0 12 rfl
theorem lw_d_cX2_makeSteps_0 : lw_dl cX2_makeSteps [(0, .iconst 0, 1), (1, .istore_n 2, 1), (2, .iload_n 2, 1), (3, .iload_n 1, 1), (4, .if_icmp .ge 16, 3), (20, .iload_n 2, 1), (21, .ireturn, 1), (7, .aload_n 0, 1), (8, .invokevirtual 60, 3), (11, .ifCond .eq 9, 3), (14, .iinc 2 1, 3), (17, .goto (-15), 3)] = true := by decide +kernel
theorem dX2_makeSteps_0 : decode cX2_makeSteps 0 = .ok (.iconst 0, 1) := lw_dr lw_d_cX2_makeSteps_0 0 rfl
theorem dX2_makeSteps_1 : decode cX2_makeSteps 1 = .ok (.istore_n 2, 1) := lw_dr lw_d_cX2_makeSteps_0 1 rfl
theorem dX2_makeSteps_2 : decode cX2_makeSteps 2 = .ok (.iload_n 2, 1) := lw_dr lw_d_cX2_makeSteps_0 2 rfl
theorem dX2_makeSteps_3 : decode cX2_makeSteps 3 = .ok (.iload_n 1, 1) := lw_dr lw_d_cX2_makeSteps_0 3 rfl
theorem dX2_makeSteps_4 : decode cX2_makeSteps 4 = .ok (.if_icmp .ge 16, 3) := lw_dr lw_d_cX2_makeSteps_0 4 rfl
theorem dX2_makeSteps_20 : decode cX2_makeSteps 20 = .ok (.iload_n 2, 1) := lw_dr lw_d_cX2_makeSteps_0 5 rfl
theorem dX2_makeSteps_21 : decode cX2_makeSteps 21 = .ok (.ireturn, 1) := lw_dr lw_d_cX2_makeSteps_0 6 rfl
theorem dX2_makeSteps_7 : decode cX2_makeSteps 7 = .ok (.aload_n 0, 1) := lw_dr lw_d_cX2_makeSteps_0 7 rfl
theorem dX2_makeSteps_8 : decode cX2_makeSteps 8 = .ok (.invokevirtual 60, 3) := lw_dr lw_d_cX2_makeSteps_0 8 rfl
theorem dX2_makeSteps_11 : decode cX2_makeSteps 11 = .ok (.ifCond .eq 9, 3) := lw_dr lw_d_cX2_makeSteps_0 9 rfl
theorem dX2_makeSteps_14 : decode cX2_makeSteps 14 = .ok (.iinc 2 1, 3) := lw_dr lw_d_cX2_makeSteps_0 10 rfl
theorem dX2_makeSteps_17 : decode cX2_makeSteps 17 = .ok (.goto (-15), 3) := lw_dr lw_d_cX2_makeSteps_0 11 rfl
theorem lw_d_cX2_makeStep_0 : lw_dl cX2_makeStep [(0, .aload_n 0, 1), (1, .getfield 39, 3), (4, .sipush 200, 3), (7, .if_icmp .lt 5, 3), (12, .iconst 0, 1), (13, .istore_n 1, 1), (14, .iload_n 1, 1), (15, .aload_n 0, 1), (16, .getfield 26, 3), (19, .if_icmp .ge 71, 3), (90, .iconst 0, 1), (91, .ireturn, 1), (22, .iconst 0, 1), (23, .istore_n 2, 1), (24, .iload_n 2, 1), (25, .aload_n 0, 1), (26, .getfield 26, 3), (29, .if_icmp .ge 55, 3), (32, .iload_n 1, 1), (33, .iload_n 2, 1), (34, .if_icmp .ne 7, 3), (37, .iconst 0, 1), (38, .goto 9, 3), (47, .istore_n 3, 1), (48, .iload_n 3, 1), (49, .ifCond .eq 29, 3), (78, .iinc 2 1, 3), (81, .goto (-57), 3), (84, .iinc 1 1, 3), (87, .goto (-73), 3), (41, .aload_n 0, 1), (42, .iload_n 1, 1), (43, .iload_n 2, 1), (44, .invokevirtual 64, 3), (52, .aload_n 0, 1), (53, .iload_n 1, 1), (54, .iload_n 2, 1), (55, .iload_n 3, 1), (56, .invokevirtual 68, 3), (59, .aload_n 0, 1)] = true := by decide +kernel
theorem dX2_makeStep_0 : decode cX2_makeStep 0 = .ok (.aload_n 0, 1) := lw_dr lw_d_cX2_makeStep_0 0 rfl
theorem dX2_makeStep_1 : decode cX2_makeStep 1 = .ok (.getfield 39, 3) := lw_dr lw_d_cX2_makeStep_0 1 rfl
theorem dX2_makeStep_4 : decode cX2_makeStep 4 = .ok (.sipush 200, 3) := lw_dr lw_d_cX2_makeStep_0 2 rfl
theorem dX2_makeStep_7 : decode cX2_makeStep 7 = .ok (.if_icmp .lt 5, 3) := lw_dr lw_d_cX2_makeStep_0 3 rfl
theorem dX2_makeStep_12 : decode cX2_makeStep 12 = .ok (.iconst 0, 1) := lw_dr lw_d_cX2_makeStep_0 4 rfl
theorem dX2_makeStep_13 : decode cX2_makeStep 13 = .ok (.istore_n 1, 1) := lw_dr lw_d_cX2_makeStep_0 5 rfl
theorem dX2_makeStep_14 : decode cX2_makeStep 14 = .ok (.iload_n 1, 1) := lw_dr lw_d_cX2_makeStep_0 6 rfl
theorem dX2_makeStep_15 : decode cX2_makeStep 15 = .ok (.aload_n 0, 1) := lw_dr lw_d_cX2_makeStep_0 7 rfl
theorem dX2_makeStep_16 : decode cX2_makeStep 16 = .ok (.getfield 26, 3) := lw_dr lw_d_cX2_makeStep_0 8 rfl
theorem dX2_makeStep_19 : decode cX2_makeStep 19 = .ok (.if_icmp .ge 71, 3) := lw_dr lw_d_cX2_makeStep_0 9 rfl
theorem dX2_makeStep_90 : decode cX2_makeStep 90 = .ok (.iconst 0, 1) := lw_dr lw_d_cX2_makeStep_0 10 rfl
theorem dX2_makeStep_91 : decode cX2_makeStep 91 = .ok (.ireturn, 1) := lw_dr lw_d_cX2_makeStep_0 11 rfl
theorem dX2_makeStep_22 : decode cX2_makeStep 22 = .ok (.iconst 0, 1) := lw_dr lw_d_cX2_makeStep_0 12 rfl
theorem dX2_makeStep_23 : decode cX2_makeStep 23 = .ok (.istore_n 2, 1) := lw_dr lw_d_cX2_makeStep_0 13 rfl
theorem dX2_makeStep_24 : decode cX2_makeStep 24 = .ok (.iload_n 2, 1) := lw_dr lw_d_cX2_makeStep_0 14 rfl
theorem dX2_makeStep_25 : decode cX2_makeStep 25 = .ok (.aload_n 0, 1) := lw_dr lw_d_cX2_makeStep_0 15 rfl
theorem dX2_makeStep_26 : decode cX2_makeStep 26 = .ok (.getfield 26, 3) := lw_dr lw_d_cX2_makeStep_0 16 rfl
theorem dX2_makeStep_29 : decode cX2_makeStep 29 = .ok (.if_icmp .ge 55, 3) := lw_dr lw_d_cX2_makeStep_0 17 rfl
theorem dX2_makeStep_32 : decode cX2_makeStep 32 = .ok (.iload_n 1, 1) := lw_dr lw_d_cX2_makeStep_0 18 rfl
theorem dX2_makeStep_33 : decode cX2_makeStep 33 = .ok (.iload_n 2, 1) := lw_dr lw_d_cX2_makeStep_0 19 rfl
theorem dX2_makeStep_34 : decode cX2_makeStep 34 = .ok (.if_icmp .ne 7, 3) := lw_dr lw_d_cX2_makeStep_0 20 rfl
theorem dX2_makeStep_37 : decode cX2_makeStep 37 = .ok (.iconst 0, 1) := lw_dr lw_d_cX2_makeStep_0 21 rfl
theorem dX2_makeStep_38 : decode cX2_makeStep 38 = .ok (.goto 9, 3) := lw_dr lw_d_cX2_makeStep_0 22 rfl
theorem dX2_makeStep_47 : decode cX2_makeStep 47 = .ok (.istore_n 3, 1) := lw_dr lw_d_cX2_makeStep_0 23 rfl
theorem dX2_makeStep_48 : decode cX2_makeStep 48 = .ok (.iload_n 3, 1) := lw_dr lw_d_cX2_makeStep_0 24 rfl
theorem dX2_makeStep_49 : decode cX2_makeStep 49 = .ok (.ifCond .eq 29, 3) := lw_dr lw_d_cX2_makeStep_0 25 rfl
theorem dX2_makeStep_78 : decode cX2_makeStep 78 = .ok (.iinc 2 1, 3) := lw_dr lw_d_cX2_makeStep_0 26 rfl
theorem dX2_makeStep_81 : decode cX2_makeStep 81 = .ok (.goto (-57), 3) := lw_dr lw_d_cX2_makeStep_0 27 rfl
theorem dX2_makeStep_84 : decode cX2_makeStep 84 = .ok (.iinc 1 1, 3) := lw_dr lw_d_cX2_makeStep_0 28 rfl
theorem dX2_makeStep_87 : decode cX2_makeStep 87 = .ok (.goto (-73), 3) := lw_dr lw_d_cX2_makeStep_0 29 rfl
theorem dX2_makeStep_41 : decode cX2_makeStep 41 = .ok (.aload_n 0, 1) := lw_dr lw_d_cX2_makeStep_0 30 rfl
theorem dX2_makeStep_42 : decode cX2_makeStep 42 = .ok (.iload_n 1, 1) := lw_dr lw_d_cX2_makeStep_0 31 rfl
theorem dX2_makeStep_43 : decode cX2_makeStep 43 = .ok (.iload_n 2, 1) := lw_dr lw_d_cX2_makeStep_0 32 rfl
theorem dX2_makeStep_44 : decode cX2_makeStep 44 = .ok (.invokevirtual 64, 3) := lw_dr lw_d_cX2_makeStep_0 33 rfl
theorem dX2_makeStep_52 : decode cX2_makeStep 52 = .ok (.aload_n 0, 1) := lw_dr lw_d_cX2_makeStep_0 34 rfl
theorem dX2_makeStep_53 : decode cX2_makeStep 53 = .ok (.iload_n 1, 1) := lw_dr lw_d_cX2_makeStep_0 35 rfl
theorem dX2_makeStep_54 : decode cX2_makeStep 54 = .ok (.iload_n 2, 1) := lw_dr lw_d_cX2_makeStep_0 36 rfl
theorem dX2_makeStep_55 : decode cX2_makeStep 55 = .ok (.iload_n 3, 1) := lw_dr lw_d_cX2_makeStep_0 37 rfl
theorem dX2_makeStep_56 : decode cX2_makeStep 56 = .ok (.invokevirtual 68, 3) := lw_dr lw_d_cX2_makeStep_0 38 rfl
theorem dX2_makeStep_59 : decode cX2_makeStep 59 = .ok (.aload_n 0, 1) := lw_dr lw_d_cX2_makeStep_0 39 rfl
theorem lw_d_cX2_makeStep_60 : lw_dl cX2_makeStep [(60, .iload_n 1, 1), (61, .iload_n 2, 1), (62, .iload_n 3, 1), (63, .invokevirtual 72, 3), (66, .aload_n 0, 1), (67, .dup, 1), (68, .getfield 39, 3), (71, .iconst 1, 1), (72, .iadd, 1), (73, .putfield 39, 3), (76, .iconst 1, 1), (77, .ireturn, 1), (10, .iconst 0, 1), (11, .ireturn, 1)] = true := by decide +kernel
theorem dX2_makeStep_60 : decode cX2_makeStep 60 = .ok (.iload_n 1, 1) := lw_dr lw_d_cX2_makeStep_60 0 rfl
theorem dX2_makeStep_61 : decode cX2_makeStep 61 = .ok (.iload_n 2, 1) := lw_dr lw_d_cX2_makeStep_60 1 rfl
theorem dX2_makeStep_62 : decode cX2_makeStep 62 = .ok (.iload_n 3, 1) := lw_dr lw_d_cX2_makeStep_60 2 rfl
theorem dX2_makeStep_63 : decode cX2_makeStep 63 = .ok (.invokevirtual 72, 3) := lw_dr lw_d_cX2_makeStep_60 3 rfl
theorem dX2_makeStep_66 : decode cX2_makeStep 66 = .ok (.aload_n 0, 1) := lw_dr lw_d_cX2_makeStep_60 4 rfl
theorem dX2_makeStep_67 : decode cX2_makeStep 67 = .ok (.dup, 1) := lw_dr lw_d_cX2_makeStep_60 5 rfl
theorem dX2_makeStep_68 : decode cX2_makeStep 68 = .ok (.getfield 39, 3) := lw_dr lw_d_cX2_makeStep_60 6 rfl
theorem dX2_makeStep_71 : decode cX2_makeStep 71 = .ok (.iconst 1, 1) := lw_dr lw_d_cX2_makeStep_60 7 rfl
theorem dX2_makeStep_72 : decode cX2_makeStep 72 = .ok (.iadd, 1) := lw_dr lw_d_cX2_makeStep_60 8 rfl
theorem dX2_makeStep_73 : decode cX2_makeStep 73 = .ok (.putfield 39, 3) := lw_dr lw_d_cX2_makeStep_60 9 rfl
theorem dX2_makeStep_76 : decode cX2_makeStep 76 = .ok (.iconst 1, 1) := lw_dr lw_d_cX2_makeStep_60 10 rfl
theorem dX2_makeStep_77 : decode cX2_makeStep 77 = .ok (.ireturn, 1) := lw_dr lw_d_cX2_makeStep_60 11 rfl
theorem dX2_makeStep_10 : decode cX2_makeStep 10 = .ok (.iconst 0, 1) := lw_dr lw_d_cX2_makeStep_60 12 rfl
theorem dX2_makeStep_11 : decode cX2_makeStep 11 = .ok (.ireturn, 1) := lw_dr lw_d_cX2_makeStep_60 13 rfl
theorem lw_d_cX2_timesIn_0 : lw_dl cX2_timesIn [(0, .aload_n 0, 1), (1, .getfield 12, 3), (4, .iload_n 2, 1), (5, .iload_n 2, 1), (6, .invokevirtual 75, 3), (9, .istore_n 3, 1), (10, .iload_n 3, 1), (11, .ifCond .ne 5, 3), (16, .aload_n 0, 1), (17, .getfield 12, 3), (20, .iload_n 1, 1), (21, .iload_n 2, 1), (22, .invokevirtual 75, 3), (25, .istore 4, 2), (27, .iconst 2, 1), (28, .iload 4, 2), (30, .invokestatic 78, 3), (33, .imul, 1), (34, .iload_n 3, 1), (35, .iadd, 1), (36, .iconst 1, 1), (37, .isub, 1), (38, .iconst 2, 1), (39, .iload_n 3, 1), (40, .imul, 1), (41, .idiv, 1), (42, .istore 5, 2), (44, .iload 4, 2), (46, .ifCond .ge 9, 3), (55, .iload 5, 2), (57, .ireturn, 1), (49, .iload 5, 2), (51, .ineg, 1), (52, .goto 5, 3), (14, .iconst 0, 1), (15, .ireturn, 1)] = true := by decide +kernel
theorem dX2_timesIn_0 : decode cX2_timesIn 0 = .ok (.aload_n 0, 1) := lw_dr lw_d_cX2_timesIn_0 0 rfl
theorem dX2_timesIn_1 : decode cX2_timesIn 1 = .ok (.getfield 12, 3) := lw_dr lw_d_cX2_timesIn_0 1 rfl
theorem dX2_timesIn_4 : decode cX2_timesIn 4 = .ok (.iload_n 2, 1) := lw_dr lw_d_cX2_timesIn_0 2 rfl
theorem dX2_timesIn_5 : decode cX2_timesIn 5 = .ok (.iload_n 2, 1) := lw_dr lw_d_cX2_timesIn_0 3 rfl
theorem dX2_timesIn_6 : decode cX2_timesIn 6 = .ok (.invokevirtual 75, 3) := lw_dr lw_d_cX2_timesIn_0 4 rfl
theorem dX2_timesIn_9 : decode cX2_timesIn 9 = .ok (.istore_n 3, 1) := lw_dr lw_d_cX2_timesIn_0 5 rfl
theorem dX2_timesIn_10 : decode cX2_timesIn 10 = .ok (.iload_n 3, 1) := lw_dr lw_d_cX2_timesIn_0 6 rfl
theorem dX2_timesIn_11 : decode cX2_timesIn 11 = .ok (.ifCond .ne 5, 3) := lw_dr lw_d_cX2_timesIn_0 7 rfl
theorem dX2_timesIn_16 : decode cX2_timesIn 16 = .ok (.aload_n 0, 1) := lw_dr lw_d_cX2_timesIn_0 8 rfl
theorem dX2_timesIn_17 : decode cX2_timesIn 17 = .ok (.getfield 12, 3) := lw_dr lw_d_cX2_timesIn_0 9 rfl
theorem dX2_timesIn_20 : decode cX2_timesIn 20 = .ok (.iload_n 1, 1) := lw_dr lw_d_cX2_timesIn_0 10 rfl
theorem dX2_timesIn_21 : decode cX2_timesIn 21 = .ok (.iload_n 2, 1) := lw_dr lw_d_cX2_timesIn_0 11 rfl
theorem dX2_timesIn_22 : decode cX2_timesIn 22 = .ok (.invokevirtual 75, 3) := lw_dr lw_d_cX2_timesIn_0 12 rfl
theorem dX2_timesIn_25 : decode cX2_timesIn 25 = .ok (.istore 4, 2) := lw_dr lw_d_cX2_timesIn_0 13 rfl
theorem dX2_timesIn_27 : decode cX2_timesIn 27 = .ok (.iconst 2, 1) := lw_dr lw_d_cX2_timesIn_0 14 rfl
theorem dX2_timesIn_28 : decode cX2_timesIn 28 = .ok (.iload 4, 2) := lw_dr lw_d_cX2_timesIn_0 15 rfl
theorem dX2_timesIn_30 : decode cX2_timesIn 30 = .ok (.invokestatic 78, 3) := lw_dr lw_d_cX2_timesIn_0 16 rfl
theorem dX2_timesIn_33 : decode cX2_timesIn 33 = .ok (.imul, 1) := lw_dr lw_d_cX2_timesIn_0 17 rfl
theorem dX2_timesIn_34 : decode cX2_timesIn 34 = .ok (.iload_n 3, 1) := lw_dr lw_d_cX2_timesIn_0 18 rfl
theorem dX2_timesIn_35 : decode cX2_timesIn 35 = .ok (.iadd, 1) := lw_dr lw_d_cX2_timesIn_0 19 rfl
theorem dX2_timesIn_36 : decode cX2_timesIn 36 = .ok (.iconst 1, 1) := lw_dr lw_d_cX2_timesIn_0 20 rfl
theorem dX2_timesIn_37 : decode cX2_timesIn 37 = .ok (.isub, 1) := lw_dr lw_d_cX2_timesIn_0 21 rfl
theorem dX2_timesIn_38 : decode cX2_timesIn 38 = .ok (.iconst 2, 1) := lw_dr lw_d_cX2_timesIn_0 22 rfl
theorem dX2_timesIn_39 : decode cX2_timesIn 39 = .ok (.iload_n 3, 1) := lw_dr lw_d_cX2_timesIn_0 23 rfl
theorem dX2_timesIn_40 : decode cX2_timesIn 40 = .ok (.imul, 1) := lw_dr lw_d_cX2_timesIn_0 24 rfl
theorem dX2_timesIn_41 : decode cX2_timesIn 41 = .ok (.idiv, 1) := lw_dr lw_d_cX2_timesIn_0 25 rfl
theorem dX2_timesIn_42 : decode cX2_timesIn 42 = .ok (.istore 5, 2) := lw_dr lw_d_cX2_timesIn_0 26 rfl
theorem dX2_timesIn_44 : decode cX2_timesIn 44 = .ok (.iload 4, 2) := lw_dr lw_d_cX2_timesIn_0 27 rfl
theorem dX2_timesIn_46 : decode cX2_timesIn 46 = .ok (.ifCond .ge 9, 3) := lw_dr lw_d_cX2_timesIn_0 28 rfl
theorem dX2_timesIn_55 : decode cX2_timesIn 55 = .ok (.iload 5, 2) := lw_dr lw_d_cX2_timesIn_0 29 rfl
theorem dX2_timesIn_57 : decode cX2_timesIn 57 = .ok (.ireturn, 1) := lw_dr lw_d_cX2_timesIn_0 30 rfl
theorem dX2_timesIn_49 : decode cX2_timesIn 49 = .ok (.iload 5, 2) := lw_dr lw_d_cX2_timesIn_0 31 rfl
theorem dX2_timesIn_51 : decode cX2_timesIn 51 = .ok (.ineg, 1) := lw_dr lw_d_cX2_timesIn_0 32 rfl
theorem dX2_timesIn_52 : decode cX2_timesIn 52 = .ok (.goto 5, 3) := lw_dr lw_d_cX2_timesIn_0 33 rfl
theorem dX2_timesIn_14 : decode cX2_timesIn 14 = .ok (.iconst 0, 1) := lw_dr lw_d_cX2_timesIn_0 34 rfl
theorem dX2_timesIn_15 : decode cX2_timesIn 15 = .ok (.ireturn, 1) := lw_dr lw_d_cX2_timesIn_0 35 rfl
theorem lw_d_cX2_remember_0 : lw_dl cX2_remember [(0, .aload_n 0, 1), (1, .iconst 0, 1), (2, .putfield 36, 3), (5, .aload_n 0, 1), (6, .getfield 33, 3), (9, .bipush 40, 2), (11, .if_icmp .ne 26, 3), (37, .aload_n 0, 1), (38, .aload_n 0, 1), (39, .getfield 33, 3), (42, .invokevirtual 56, 3), (45, .istore 4, 2), (47, .aload_n 0, 1), (48, .getfield 22, 3), (51, .iload 4, 2), (53, .iload_n 1, 1), (54, .iastore, 1), (55, .aload_n 0, 1), (56, .getfield 22, 3), (59, .iload 4, 2), (61, .iconst 1, 1), (62, .iadd, 1), (63, .iload_n 2, 1), (64, .iastore, 1), (65, .aload_n 0, 1), (66, .getfield 22, 3), (69, .iload 4, 2), (71, .iconst 2, 1), (72, .iadd, 1), (73, .iload_n 3, 1), (74, .iastore, 1), (75, .aload_n 0, 1), (76, .dup, 1), (77, .getfield 33, 3), (80, .iconst 1, 1), (81, .iadd, 1), (82, .putfield 33, 3), (85, .return_, 1), (14, .aload_n 0, 1), (15, .aload_n 0, 1)] = true := by decide +kernel
theorem dX2_remember_0 : decode cX2_remember 0 = .ok (.aload_n 0, 1) := lw_dr lw_d_cX2_remember_0 0 rfl
theorem dX2_remember_1 : decode cX2_remember 1 = .ok (.iconst 0, 1) := lw_dr lw_d_cX2_remember_0 1 rfl
theorem dX2_remember_2 : decode cX2_remember 2 = .ok (.putfield 36, 3) := lw_dr lw_d_cX2_remember_0 2 rfl
theorem dX2_remember_5 : decode cX2_remember 5 = .ok (.aload_n 0, 1) := lw_dr lw_d_cX2_remember_0 3 rfl
theorem dX2_remember_6 : decode cX2_remember 6 = .ok (.getfield 33, 3) := lw_dr lw_d_cX2_remember_0 4 rfl
theorem dX2_remember_9 : decode cX2_remember 9 = .ok (.bipush 40, 2) := lw_dr lw_d_cX2_remember_0 5 rfl
theorem dX2_remember_11 : decode cX2_remember 11 = .ok (.if_icmp .ne 26, 3) := lw_dr lw_d_cX2_remember_0 6 rfl
theorem dX2_remember_37 : decode cX2_remember 37 = .ok (.aload_n 0, 1) := lw_dr lw_d_cX2_remember_0 7 rfl
theorem dX2_remember_38 : decode cX2_remember 38 = .ok (.aload_n 0, 1) := lw_dr lw_d_cX2_remember_0 8 rfl
theorem dX2_remember_39 : decode cX2_remember 39 = .ok (.getfield 33, 3) := lw_dr lw_d_cX2_remember_0 9 rfl
theorem dX2_remember_42 : decode cX2_remember 42 = .ok (.invokevirtual 56, 3) := lw_dr lw_d_cX2_remember_0 10 rfl
theorem dX2_remember_45 : decode cX2_remember 45 = .ok (.istore 4, 2) := lw_dr lw_d_cX2_remember_0 11 rfl
theorem dX2_remember_47 : decode cX2_remember 47 = .ok (.aload_n 0, 1) := lw_dr lw_d_cX2_remember_0 12 rfl
theorem dX2_remember_48 : decode cX2_remember 48 = .ok (.getfield 22, 3) := lw_dr lw_d_cX2_remember_0 13 rfl
theorem dX2_remember_51 : decode cX2_remember 51 = .ok (.iload 4, 2) := lw_dr lw_d_cX2_remember_0 14 rfl
theorem dX2_remember_53 : decode cX2_remember 53 = .ok (.iload_n 1, 1) := lw_dr lw_d_cX2_remember_0 15 rfl
theorem dX2_remember_54 : decode cX2_remember 54 = .ok (.iastore, 1) := lw_dr lw_d_cX2_remember_0 16 rfl
theorem dX2_remember_55 : decode cX2_remember 55 = .ok (.aload_n 0, 1) := lw_dr lw_d_cX2_remember_0 17 rfl
theorem dX2_remember_56 : decode cX2_remember 56 = .ok (.getfield 22, 3) := lw_dr lw_d_cX2_remember_0 18 rfl
theorem dX2_remember_59 : decode cX2_remember 59 = .ok (.iload 4, 2) := lw_dr lw_d_cX2_remember_0 19 rfl
theorem dX2_remember_61 : decode cX2_remember 61 = .ok (.iconst 1, 1) := lw_dr lw_d_cX2_remember_0 20 rfl
theorem dX2_remember_62 : decode cX2_remember 62 = .ok (.iadd, 1) := lw_dr lw_d_cX2_remember_0 21 rfl
theorem dX2_remember_63 : decode cX2_remember 63 = .ok (.iload_n 2, 1) := lw_dr lw_d_cX2_remember_0 22 rfl
theorem dX2_remember_64 : decode cX2_remember 64 = .ok (.iastore, 1) := lw_dr lw_d_cX2_remember_0 23 rfl
theorem dX2_remember_65 : decode cX2_remember 65 = .ok (.aload_n 0, 1) := lw_dr lw_d_cX2_remember_0 24 rfl
theorem dX2_remember_66 : decode cX2_remember 66 = .ok (.getfield 22, 3) := lw_dr lw_d_cX2_remember_0 25 rfl
theorem dX2_remember_69 : decode cX2_remember 69 = .ok (.iload 4, 2) := lw_dr lw_d_cX2_remember_0 26 rfl
theorem dX2_remember_71 : decode cX2_remember 71 = .ok (.iconst 2, 1) := lw_dr lw_d_cX2_remember_0 27 rfl
theorem dX2_remember_72 : decode cX2_remember 72 = .ok (.iadd, 1) := lw_dr lw_d_cX2_remember_0 28 rfl
theorem dX2_remember_73 : decode cX2_remember 73 = .ok (.iload_n 3, 1) := lw_dr lw_d_cX2_remember_0 29 rfl
theorem dX2_remember_74 : decode cX2_remember 74 = .ok (.iastore, 1) := lw_dr lw_d_cX2_remember_0 30 rfl
theorem dX2_remember_75 : decode cX2_remember 75 = .ok (.aload_n 0, 1) := lw_dr lw_d_cX2_remember_0 31 rfl
theorem dX2_remember_76 : decode cX2_remember 76 = .ok (.dup, 1) := lw_dr lw_d_cX2_remember_0 32 rfl
theorem dX2_remember_77 : decode cX2_remember 77 = .ok (.getfield 33, 3) := lw_dr lw_d_cX2_remember_0 33 rfl
theorem dX2_remember_80 : decode cX2_remember 80 = .ok (.iconst 1, 1) := lw_dr lw_d_cX2_remember_0 34 rfl
theorem dX2_remember_81 : decode cX2_remember 81 = .ok (.iadd, 1) := lw_dr lw_d_cX2_remember_0 35 rfl
theorem dX2_remember_82 : decode cX2_remember 82 = .ok (.putfield 33, 3) := lw_dr lw_d_cX2_remember_0 36 rfl
theorem dX2_remember_85 : decode cX2_remember 85 = .ok (.return_, 1) := lw_dr lw_d_cX2_remember_0 37 rfl
theorem dX2_remember_14 : decode cX2_remember 14 = .ok (.aload_n 0, 1) := lw_dr lw_d_cX2_remember_0 38 rfl
theorem dX2_remember_15 : decode cX2_remember 15 = .ok (.aload_n 0, 1) := lw_dr lw_d_cX2_remember_0 39 rfl
theorem lw_d_cX2_remember_16 : lw_dl cX2_remember [(16, .getfield 30, 3), (19, .iconst 1, 1), (20, .iadd, 1), (21, .bipush 40, 2), (23, .irem, 1), (24, .putfield 30, 3), (27, .aload_n 0, 1), (28, .dup, 1), (29, .getfield 33, 3), (32, .iconst 1, 1), (33, .isub, 1), (34, .putfield 33, 3)] = true := by decide +kernel
theorem dX2_remember_16 : decode cX2_remember 16 = .ok (.getfield 30, 3) := lw_dr lw_d_cX2_remember_16 0 rfl
theorem dX2_remember_19 : decode cX2_remember 19 = .ok (.iconst 1, 1) := lw_dr lw_d_cX2_remember_16 1 rfl
theorem dX2_remember_20 : decode cX2_remember 20 = .ok (.iadd, 1) := lw_dr lw_d_cX2_remember_16 2 rfl
theorem dX2_remember_21 : decode cX2_remember 21 = .ok (.bipush 40, 2) := lw_dr lw_d_cX2_remember_16 3 rfl
theorem dX2_remember_23 : decode cX2_remember 23 = .ok (.irem, 1) := lw_dr lw_d_cX2_remember_16 4 rfl
theorem dX2_remember_24 : decode cX2_remember 24 = .ok (.putfield 30, 3) := lw_dr lw_d_cX2_remember_16 5 rfl
theorem dX2_remember_27 : decode cX2_remember 27 = .ok (.aload_n 0, 1) := lw_dr lw_d_cX2_remember_16 6 rfl
theorem dX2_remember_28 : decode cX2_remember 28 = .ok (.dup, 1) := lw_dr lw_d_cX2_remember_16 7 rfl
theorem dX2_remember_29 : decode cX2_remember 29 = .ok (.getfield 33, 3) := lw_dr lw_d_cX2_remember_16 8 rfl
theorem dX2_remember_32 : decode cX2_remember 32 = .ok (.iconst 1, 1) := lw_dr lw_d_cX2_remember_16 9 rfl
theorem dX2_remember_33 : decode cX2_remember 33 = .ok (.isub, 1) := lw_dr lw_d_cX2_remember_16 10 rfl
theorem dX2_remember_34 : decode cX2_remember 34 = .ok (.putfield 33, 3) := lw_dr lw_d_cX2_remember_16 11 rfl
theorem lw_d_cX2_takeAway_0 : lw_dl cX2_takeAway [(0, .aload_n 0, 1), (1, .getfield 12, 3), (4, .iload_n 1, 1), (5, .iload_n 2, 1), (6, .iload_n 3, 1), (7, .invokevirtual 83, 3), (10, .iconst 0, 1), (11, .istore 4, 2), (13, .iload 4, 2), (15, .iconst 5, 1), (16, .if_icmp .ge 37, 3), (19, .aload_n 0, 1), (20, .getfield 18, 3), (23, .iload_n 1, 1), (24, .iconst 5, 1), (25, .imul, 1), (26, .iload 4, 2), (28, .iadd, 1), (29, .dup2, 1), (30, .laload, 1), (31, .iload_n 3, 1), (32, .i2l, 1), (33, .aload_n 0, 1), (34, .getfield 18, 3), (37, .iload_n 2, 1), (38, .iconst 5, 1), (39, .imul, 1), (40, .iload 4, 2), (42, .iadd, 1), (43, .laload, 1), (44, .lmul, 1), (45, .lsub, 1), (46, .lastore, 1), (47, .iinc 4 1, 3), (50, .goto (-37), 3), (53, .return_, 1)] = true := by decide +kernel
theorem dX2_takeAway_0 : decode cX2_takeAway 0 = .ok (.aload_n 0, 1) := lw_dr lw_d_cX2_takeAway_0 0 rfl
theorem dX2_takeAway_1 : decode cX2_takeAway 1 = .ok (.getfield 12, 3) := lw_dr lw_d_cX2_takeAway_0 1 rfl
theorem dX2_takeAway_4 : decode cX2_takeAway 4 = .ok (.iload_n 1, 1) := lw_dr lw_d_cX2_takeAway_0 2 rfl
theorem dX2_takeAway_5 : decode cX2_takeAway 5 = .ok (.iload_n 2, 1) := lw_dr lw_d_cX2_takeAway_0 3 rfl
theorem dX2_takeAway_6 : decode cX2_takeAway 6 = .ok (.iload_n 3, 1) := lw_dr lw_d_cX2_takeAway_0 4 rfl
theorem dX2_takeAway_7 : decode cX2_takeAway 7 = .ok (.invokevirtual 83, 3) := lw_dr lw_d_cX2_takeAway_0 5 rfl
theorem dX2_takeAway_10 : decode cX2_takeAway 10 = .ok (.iconst 0, 1) := lw_dr lw_d_cX2_takeAway_0 6 rfl
theorem dX2_takeAway_11 : decode cX2_takeAway 11 = .ok (.istore 4, 2) := lw_dr lw_d_cX2_takeAway_0 7 rfl
theorem dX2_takeAway_13 : decode cX2_takeAway 13 = .ok (.iload 4, 2) := lw_dr lw_d_cX2_takeAway_0 8 rfl
theorem dX2_takeAway_15 : decode cX2_takeAway 15 = .ok (.iconst 5, 1) := lw_dr lw_d_cX2_takeAway_0 9 rfl
theorem dX2_takeAway_16 : decode cX2_takeAway 16 = .ok (.if_icmp .ge 37, 3) := lw_dr lw_d_cX2_takeAway_0 10 rfl
theorem dX2_takeAway_19 : decode cX2_takeAway 19 = .ok (.aload_n 0, 1) := lw_dr lw_d_cX2_takeAway_0 11 rfl
theorem dX2_takeAway_20 : decode cX2_takeAway 20 = .ok (.getfield 18, 3) := lw_dr lw_d_cX2_takeAway_0 12 rfl
theorem dX2_takeAway_23 : decode cX2_takeAway 23 = .ok (.iload_n 1, 1) := lw_dr lw_d_cX2_takeAway_0 13 rfl
theorem dX2_takeAway_24 : decode cX2_takeAway 24 = .ok (.iconst 5, 1) := lw_dr lw_d_cX2_takeAway_0 14 rfl
theorem dX2_takeAway_25 : decode cX2_takeAway 25 = .ok (.imul, 1) := lw_dr lw_d_cX2_takeAway_0 15 rfl
theorem dX2_takeAway_26 : decode cX2_takeAway 26 = .ok (.iload 4, 2) := lw_dr lw_d_cX2_takeAway_0 16 rfl
theorem dX2_takeAway_28 : decode cX2_takeAway 28 = .ok (.iadd, 1) := lw_dr lw_d_cX2_takeAway_0 17 rfl
theorem dX2_takeAway_29 : decode cX2_takeAway 29 = .ok (.dup2, 1) := lw_dr lw_d_cX2_takeAway_0 18 rfl
theorem dX2_takeAway_30 : decode cX2_takeAway 30 = .ok (.laload, 1) := lw_dr lw_d_cX2_takeAway_0 19 rfl
theorem dX2_takeAway_31 : decode cX2_takeAway 31 = .ok (.iload_n 3, 1) := lw_dr lw_d_cX2_takeAway_0 20 rfl
theorem dX2_takeAway_32 : decode cX2_takeAway 32 = .ok (.i2l, 1) := lw_dr lw_d_cX2_takeAway_0 21 rfl
theorem dX2_takeAway_33 : decode cX2_takeAway 33 = .ok (.aload_n 0, 1) := lw_dr lw_d_cX2_takeAway_0 22 rfl
theorem dX2_takeAway_34 : decode cX2_takeAway 34 = .ok (.getfield 18, 3) := lw_dr lw_d_cX2_takeAway_0 23 rfl
theorem dX2_takeAway_37 : decode cX2_takeAway 37 = .ok (.iload_n 2, 1) := lw_dr lw_d_cX2_takeAway_0 24 rfl
theorem dX2_takeAway_38 : decode cX2_takeAway 38 = .ok (.iconst 5, 1) := lw_dr lw_d_cX2_takeAway_0 25 rfl
theorem dX2_takeAway_39 : decode cX2_takeAway 39 = .ok (.imul, 1) := lw_dr lw_d_cX2_takeAway_0 26 rfl
theorem dX2_takeAway_40 : decode cX2_takeAway 40 = .ok (.iload 4, 2) := lw_dr lw_d_cX2_takeAway_0 27 rfl
theorem dX2_takeAway_42 : decode cX2_takeAway 42 = .ok (.iadd, 1) := lw_dr lw_d_cX2_takeAway_0 28 rfl
theorem dX2_takeAway_43 : decode cX2_takeAway 43 = .ok (.laload, 1) := lw_dr lw_d_cX2_takeAway_0 29 rfl
theorem dX2_takeAway_44 : decode cX2_takeAway 44 = .ok (.lmul, 1) := lw_dr lw_d_cX2_takeAway_0 30 rfl
theorem dX2_takeAway_45 : decode cX2_takeAway 45 = .ok (.lsub, 1) := lw_dr lw_d_cX2_takeAway_0 31 rfl
theorem dX2_takeAway_46 : decode cX2_takeAway 46 = .ok (.lastore, 1) := lw_dr lw_d_cX2_takeAway_0 32 rfl
theorem dX2_takeAway_47 : decode cX2_takeAway 47 = .ok (.iinc 4 1, 3) := lw_dr lw_d_cX2_takeAway_0 33 rfl
theorem dX2_takeAway_50 : decode cX2_takeAway 50 = .ok (.goto (-37), 3) := lw_dr lw_d_cX2_takeAway_0 34 rfl
theorem dX2_takeAway_53 : decode cX2_takeAway 53 = .ok (.return_, 1) := lw_dr lw_d_cX2_takeAway_0 35 rfl
theorem lw_d_cX11_undo_0 : lw_dl cX11_undo [(0, .aload_n 0, 1), (1, .getfield 76, 3), (4, .invokevirtual 299, 3)] = true := by decide +kernel
theorem dX11_undo_0 : decode cX11_undo 0 = .ok (.aload_n 0, 1) := lw_dr lw_d_cX11_undo_0 0 rfl
theorem dX11_undo_1 : decode cX11_undo 1 = .ok (.getfield 76, 3) := lw_dr lw_d_cX11_undo_0 1 rfl
theorem dX11_undo_4 : decode cX11_undo 4 = .ok (.invokevirtual 299, 3) := lw_dr lw_d_cX11_undo_0 2 rfl
theorem lw_d_cX2_undoStep_0 : lw_dl cX2_undoStep [(0, .aload_n 0, 1), (1, .getfield 33, 3), (4, .ifCond .ne 5, 3), (9, .aload_n 0, 1), (10, .dup, 1), (11, .getfield 33, 3), (14, .iconst 1, 1), (15, .isub, 1), (16, .putfield 33, 3), (19, .aload_n 0, 1), (20, .dup, 1), (21, .getfield 36, 3), (24, .iconst 1, 1), (25, .iadd, 1), (26, .putfield 36, 3), (29, .aload_n 0, 1), (30, .dup, 1), (31, .getfield 39, 3), (34, .iconst 1, 1), (35, .isub, 1), (36, .putfield 39, 3), (39, .aload_n 0, 1), (40, .aload_n 0, 1), (41, .getfield 33, 3), (44, .invokevirtual 56, 3), (47, .istore_n 1, 1), (48, .aload_n 0, 1), (49, .aload_n 0, 1), (50, .getfield 22, 3), (53, .iload_n 1, 1), (54, .iaload, 1), (55, .aload_n 0, 1), (56, .getfield 22, 3), (59, .iload_n 1, 1), (60, .iconst 1, 1), (61, .iadd, 1), (62, .iaload, 1), (63, .aload_n 0, 1), (64, .getfield 22, 3), (67, .iload_n 1, 1)] = true := by decide +kernel
theorem dX2_undoStep_0 : decode cX2_undoStep 0 = .ok (.aload_n 0, 1) := lw_dr lw_d_cX2_undoStep_0 0 rfl
theorem dX2_undoStep_1 : decode cX2_undoStep 1 = .ok (.getfield 33, 3) := lw_dr lw_d_cX2_undoStep_0 1 rfl
theorem dX2_undoStep_4 : decode cX2_undoStep 4 = .ok (.ifCond .ne 5, 3) := lw_dr lw_d_cX2_undoStep_0 2 rfl
theorem dX2_undoStep_9 : decode cX2_undoStep 9 = .ok (.aload_n 0, 1) := lw_dr lw_d_cX2_undoStep_0 3 rfl
theorem dX2_undoStep_10 : decode cX2_undoStep 10 = .ok (.dup, 1) := lw_dr lw_d_cX2_undoStep_0 4 rfl
theorem dX2_undoStep_11 : decode cX2_undoStep 11 = .ok (.getfield 33, 3) := lw_dr lw_d_cX2_undoStep_0 5 rfl
theorem dX2_undoStep_14 : decode cX2_undoStep 14 = .ok (.iconst 1, 1) := lw_dr lw_d_cX2_undoStep_0 6 rfl
theorem dX2_undoStep_15 : decode cX2_undoStep 15 = .ok (.isub, 1) := lw_dr lw_d_cX2_undoStep_0 7 rfl
theorem dX2_undoStep_16 : decode cX2_undoStep 16 = .ok (.putfield 33, 3) := lw_dr lw_d_cX2_undoStep_0 8 rfl
theorem dX2_undoStep_19 : decode cX2_undoStep 19 = .ok (.aload_n 0, 1) := lw_dr lw_d_cX2_undoStep_0 9 rfl
theorem dX2_undoStep_20 : decode cX2_undoStep 20 = .ok (.dup, 1) := lw_dr lw_d_cX2_undoStep_0 10 rfl
theorem dX2_undoStep_21 : decode cX2_undoStep 21 = .ok (.getfield 36, 3) := lw_dr lw_d_cX2_undoStep_0 11 rfl
theorem dX2_undoStep_24 : decode cX2_undoStep 24 = .ok (.iconst 1, 1) := lw_dr lw_d_cX2_undoStep_0 12 rfl
theorem dX2_undoStep_25 : decode cX2_undoStep 25 = .ok (.iadd, 1) := lw_dr lw_d_cX2_undoStep_0 13 rfl
theorem dX2_undoStep_26 : decode cX2_undoStep 26 = .ok (.putfield 36, 3) := lw_dr lw_d_cX2_undoStep_0 14 rfl
theorem dX2_undoStep_29 : decode cX2_undoStep 29 = .ok (.aload_n 0, 1) := lw_dr lw_d_cX2_undoStep_0 15 rfl
theorem dX2_undoStep_30 : decode cX2_undoStep 30 = .ok (.dup, 1) := lw_dr lw_d_cX2_undoStep_0 16 rfl
theorem dX2_undoStep_31 : decode cX2_undoStep 31 = .ok (.getfield 39, 3) := lw_dr lw_d_cX2_undoStep_0 17 rfl
theorem dX2_undoStep_34 : decode cX2_undoStep 34 = .ok (.iconst 1, 1) := lw_dr lw_d_cX2_undoStep_0 18 rfl
theorem dX2_undoStep_35 : decode cX2_undoStep 35 = .ok (.isub, 1) := lw_dr lw_d_cX2_undoStep_0 19 rfl
theorem dX2_undoStep_36 : decode cX2_undoStep 36 = .ok (.putfield 39, 3) := lw_dr lw_d_cX2_undoStep_0 20 rfl
theorem dX2_undoStep_39 : decode cX2_undoStep 39 = .ok (.aload_n 0, 1) := lw_dr lw_d_cX2_undoStep_0 21 rfl
theorem dX2_undoStep_40 : decode cX2_undoStep 40 = .ok (.aload_n 0, 1) := lw_dr lw_d_cX2_undoStep_0 22 rfl
theorem dX2_undoStep_41 : decode cX2_undoStep 41 = .ok (.getfield 33, 3) := lw_dr lw_d_cX2_undoStep_0 23 rfl
theorem dX2_undoStep_44 : decode cX2_undoStep 44 = .ok (.invokevirtual 56, 3) := lw_dr lw_d_cX2_undoStep_0 24 rfl
theorem dX2_undoStep_47 : decode cX2_undoStep 47 = .ok (.istore_n 1, 1) := lw_dr lw_d_cX2_undoStep_0 25 rfl
theorem dX2_undoStep_48 : decode cX2_undoStep 48 = .ok (.aload_n 0, 1) := lw_dr lw_d_cX2_undoStep_0 26 rfl
theorem dX2_undoStep_49 : decode cX2_undoStep 49 = .ok (.aload_n 0, 1) := lw_dr lw_d_cX2_undoStep_0 27 rfl
theorem dX2_undoStep_50 : decode cX2_undoStep 50 = .ok (.getfield 22, 3) := lw_dr lw_d_cX2_undoStep_0 28 rfl
theorem dX2_undoStep_53 : decode cX2_undoStep 53 = .ok (.iload_n 1, 1) := lw_dr lw_d_cX2_undoStep_0 29 rfl
theorem dX2_undoStep_54 : decode cX2_undoStep 54 = .ok (.iaload, 1) := lw_dr lw_d_cX2_undoStep_0 30 rfl
theorem dX2_undoStep_55 : decode cX2_undoStep 55 = .ok (.aload_n 0, 1) := lw_dr lw_d_cX2_undoStep_0 31 rfl
theorem dX2_undoStep_56 : decode cX2_undoStep 56 = .ok (.getfield 22, 3) := lw_dr lw_d_cX2_undoStep_0 32 rfl
theorem dX2_undoStep_59 : decode cX2_undoStep 59 = .ok (.iload_n 1, 1) := lw_dr lw_d_cX2_undoStep_0 33 rfl
theorem dX2_undoStep_60 : decode cX2_undoStep 60 = .ok (.iconst 1, 1) := lw_dr lw_d_cX2_undoStep_0 34 rfl
theorem dX2_undoStep_61 : decode cX2_undoStep 61 = .ok (.iadd, 1) := lw_dr lw_d_cX2_undoStep_0 35 rfl
theorem dX2_undoStep_62 : decode cX2_undoStep 62 = .ok (.iaload, 1) := lw_dr lw_d_cX2_undoStep_0 36 rfl
theorem dX2_undoStep_63 : decode cX2_undoStep 63 = .ok (.aload_n 0, 1) := lw_dr lw_d_cX2_undoStep_0 37 rfl
theorem dX2_undoStep_64 : decode cX2_undoStep 64 = .ok (.getfield 22, 3) := lw_dr lw_d_cX2_undoStep_0 38 rfl
theorem dX2_undoStep_67 : decode cX2_undoStep 67 = .ok (.iload_n 1, 1) := lw_dr lw_d_cX2_undoStep_0 39 rfl
theorem lw_d_cX2_undoStep_68 : lw_dl cX2_undoStep [(68, .iconst 2, 1), (69, .iadd, 1), (70, .iaload, 1)] = true := by decide +kernel
theorem dX2_undoStep_68 : decode cX2_undoStep 68 = .ok (.iconst 2, 1) := lw_dr lw_d_cX2_undoStep_68 0 rfl
theorem dX2_undoStep_69 : decode cX2_undoStep 69 = .ok (.iadd, 1) := lw_dr lw_d_cX2_undoStep_68 1 rfl
theorem dX2_undoStep_70 : decode cX2_undoStep 70 = .ok (.iaload, 1) := lw_dr lw_d_cX2_undoStep_68 2 rfl
theorem lw_d_cX2_undoStep_71 : lw_dl cX2_undoStep [(71, .ineg, 1), (72, .invokevirtual 72, 3), (75, .iconst 1, 1), (76, .ireturn, 1), (7, .iconst 0, 1), (8, .ireturn, 1)] = true := by decide +kernel
theorem dX2_undoStep_71 : decode cX2_undoStep 71 = .ok (.ineg, 1) := lw_dr lw_d_cX2_undoStep_71 0 rfl
theorem dX2_undoStep_72 : decode cX2_undoStep 72 = .ok (.invokevirtual 72, 3) := lw_dr lw_d_cX2_undoStep_71 1 rfl
theorem dX2_undoStep_75 : decode cX2_undoStep 75 = .ok (.iconst 1, 1) := lw_dr lw_d_cX2_undoStep_71 2 rfl
theorem dX2_undoStep_76 : decode cX2_undoStep 76 = .ok (.ireturn, 1) := lw_dr lw_d_cX2_undoStep_71 3 rfl
theorem dX2_undoStep_7 : decode cX2_undoStep 7 = .ok (.iconst 0, 1) := lw_dr lw_d_cX2_undoStep_71 4 rfl
theorem dX2_undoStep_8 : decode cX2_undoStep 8 = .ok (.ireturn, 1) := lw_dr lw_d_cX2_undoStep_71 5 rfl
theorem lw_d_cX11_undo_7 : lw_dl cX11_undo [(7, .ireturn, 1)] = true := by decide +kernel
theorem dX11_undo_7 : decode cX11_undo 7 = .ok (.ireturn, 1) := lw_dr lw_d_cX11_undo_7 0 rfl
theorem lw_d_cX11_redo_0 : lw_dl cX11_redo [(0, .aload_n 0, 1), (1, .getfield 76, 3), (4, .invokevirtual 302, 3), (7, .ireturn, 1)] = true := by decide +kernel
theorem dX11_redo_0 : decode cX11_redo 0 = .ok (.aload_n 0, 1) := lw_dr lw_d_cX11_redo_0 0 rfl
theorem dX11_redo_1 : decode cX11_redo 1 = .ok (.getfield 76, 3) := lw_dr lw_d_cX11_redo_0 1 rfl
theorem dX11_redo_4 : decode cX11_redo 4 = .ok (.invokevirtual 302, 3) := lw_dr lw_d_cX11_redo_0 2 rfl
theorem dX11_redo_7 : decode cX11_redo 7 = .ok (.ireturn, 1) := lw_dr lw_d_cX11_redo_0 3 rfl
theorem lw_d_cX2_redoStep_0 : lw_dl cX2_redoStep [(0, .aload_n 0, 1), (1, .getfield 36, 3), (4, .ifCond .ne 5, 3), (9, .aload_n 0, 1), (10, .aload_n 0, 1), (11, .getfield 33, 3), (14, .invokevirtual 56, 3), (17, .istore_n 1, 1), (18, .aload_n 0, 1), (19, .aload_n 0, 1), (20, .getfield 22, 3), (23, .iload_n 1, 1), (24, .iaload, 1), (25, .aload_n 0, 1), (26, .getfield 22, 3), (29, .iload_n 1, 1), (30, .iconst 1, 1), (31, .iadd, 1), (32, .iaload, 1), (33, .aload_n 0, 1), (34, .getfield 22, 3), (37, .iload_n 1, 1), (38, .iconst 2, 1), (39, .iadd, 1), (40, .iaload, 1), (41, .invokevirtual 72, 3), (44, .aload_n 0, 1), (45, .dup, 1), (46, .getfield 33, 3), (49, .iconst 1, 1), (50, .iadd, 1), (51, .putfield 33, 3), (54, .aload_n 0, 1), (55, .dup, 1), (56, .getfield 36, 3), (59, .iconst 1, 1), (60, .isub, 1), (61, .putfield 36, 3), (64, .aload_n 0, 1), (65, .dup, 1)] = true := by decide +kernel
theorem dX2_redoStep_0 : decode cX2_redoStep 0 = .ok (.aload_n 0, 1) := lw_dr lw_d_cX2_redoStep_0 0 rfl
theorem dX2_redoStep_1 : decode cX2_redoStep 1 = .ok (.getfield 36, 3) := lw_dr lw_d_cX2_redoStep_0 1 rfl
theorem dX2_redoStep_4 : decode cX2_redoStep 4 = .ok (.ifCond .ne 5, 3) := lw_dr lw_d_cX2_redoStep_0 2 rfl
theorem dX2_redoStep_9 : decode cX2_redoStep 9 = .ok (.aload_n 0, 1) := lw_dr lw_d_cX2_redoStep_0 3 rfl
theorem dX2_redoStep_10 : decode cX2_redoStep 10 = .ok (.aload_n 0, 1) := lw_dr lw_d_cX2_redoStep_0 4 rfl
theorem dX2_redoStep_11 : decode cX2_redoStep 11 = .ok (.getfield 33, 3) := lw_dr lw_d_cX2_redoStep_0 5 rfl
theorem dX2_redoStep_14 : decode cX2_redoStep 14 = .ok (.invokevirtual 56, 3) := lw_dr lw_d_cX2_redoStep_0 6 rfl
theorem dX2_redoStep_17 : decode cX2_redoStep 17 = .ok (.istore_n 1, 1) := lw_dr lw_d_cX2_redoStep_0 7 rfl
theorem dX2_redoStep_18 : decode cX2_redoStep 18 = .ok (.aload_n 0, 1) := lw_dr lw_d_cX2_redoStep_0 8 rfl
theorem dX2_redoStep_19 : decode cX2_redoStep 19 = .ok (.aload_n 0, 1) := lw_dr lw_d_cX2_redoStep_0 9 rfl
theorem dX2_redoStep_20 : decode cX2_redoStep 20 = .ok (.getfield 22, 3) := lw_dr lw_d_cX2_redoStep_0 10 rfl
theorem dX2_redoStep_23 : decode cX2_redoStep 23 = .ok (.iload_n 1, 1) := lw_dr lw_d_cX2_redoStep_0 11 rfl
theorem dX2_redoStep_24 : decode cX2_redoStep 24 = .ok (.iaload, 1) := lw_dr lw_d_cX2_redoStep_0 12 rfl
theorem dX2_redoStep_25 : decode cX2_redoStep 25 = .ok (.aload_n 0, 1) := lw_dr lw_d_cX2_redoStep_0 13 rfl
theorem dX2_redoStep_26 : decode cX2_redoStep 26 = .ok (.getfield 22, 3) := lw_dr lw_d_cX2_redoStep_0 14 rfl
theorem dX2_redoStep_29 : decode cX2_redoStep 29 = .ok (.iload_n 1, 1) := lw_dr lw_d_cX2_redoStep_0 15 rfl
theorem dX2_redoStep_30 : decode cX2_redoStep 30 = .ok (.iconst 1, 1) := lw_dr lw_d_cX2_redoStep_0 16 rfl
theorem dX2_redoStep_31 : decode cX2_redoStep 31 = .ok (.iadd, 1) := lw_dr lw_d_cX2_redoStep_0 17 rfl
theorem dX2_redoStep_32 : decode cX2_redoStep 32 = .ok (.iaload, 1) := lw_dr lw_d_cX2_redoStep_0 18 rfl
theorem dX2_redoStep_33 : decode cX2_redoStep 33 = .ok (.aload_n 0, 1) := lw_dr lw_d_cX2_redoStep_0 19 rfl
theorem dX2_redoStep_34 : decode cX2_redoStep 34 = .ok (.getfield 22, 3) := lw_dr lw_d_cX2_redoStep_0 20 rfl
theorem dX2_redoStep_37 : decode cX2_redoStep 37 = .ok (.iload_n 1, 1) := lw_dr lw_d_cX2_redoStep_0 21 rfl
theorem dX2_redoStep_38 : decode cX2_redoStep 38 = .ok (.iconst 2, 1) := lw_dr lw_d_cX2_redoStep_0 22 rfl
theorem dX2_redoStep_39 : decode cX2_redoStep 39 = .ok (.iadd, 1) := lw_dr lw_d_cX2_redoStep_0 23 rfl
theorem dX2_redoStep_40 : decode cX2_redoStep 40 = .ok (.iaload, 1) := lw_dr lw_d_cX2_redoStep_0 24 rfl
theorem dX2_redoStep_41 : decode cX2_redoStep 41 = .ok (.invokevirtual 72, 3) := lw_dr lw_d_cX2_redoStep_0 25 rfl
theorem dX2_redoStep_44 : decode cX2_redoStep 44 = .ok (.aload_n 0, 1) := lw_dr lw_d_cX2_redoStep_0 26 rfl
theorem dX2_redoStep_45 : decode cX2_redoStep 45 = .ok (.dup, 1) := lw_dr lw_d_cX2_redoStep_0 27 rfl
theorem dX2_redoStep_46 : decode cX2_redoStep 46 = .ok (.getfield 33, 3) := lw_dr lw_d_cX2_redoStep_0 28 rfl
theorem dX2_redoStep_49 : decode cX2_redoStep 49 = .ok (.iconst 1, 1) := lw_dr lw_d_cX2_redoStep_0 29 rfl
theorem dX2_redoStep_50 : decode cX2_redoStep 50 = .ok (.iadd, 1) := lw_dr lw_d_cX2_redoStep_0 30 rfl
theorem dX2_redoStep_51 : decode cX2_redoStep 51 = .ok (.putfield 33, 3) := lw_dr lw_d_cX2_redoStep_0 31 rfl
theorem dX2_redoStep_54 : decode cX2_redoStep 54 = .ok (.aload_n 0, 1) := lw_dr lw_d_cX2_redoStep_0 32 rfl
theorem dX2_redoStep_55 : decode cX2_redoStep 55 = .ok (.dup, 1) := lw_dr lw_d_cX2_redoStep_0 33 rfl
theorem dX2_redoStep_56 : decode cX2_redoStep 56 = .ok (.getfield 36, 3) := lw_dr lw_d_cX2_redoStep_0 34 rfl
theorem dX2_redoStep_59 : decode cX2_redoStep 59 = .ok (.iconst 1, 1) := lw_dr lw_d_cX2_redoStep_0 35 rfl
theorem dX2_redoStep_60 : decode cX2_redoStep 60 = .ok (.isub, 1) := lw_dr lw_d_cX2_redoStep_0 36 rfl
theorem dX2_redoStep_61 : decode cX2_redoStep 61 = .ok (.putfield 36, 3) := lw_dr lw_d_cX2_redoStep_0 37 rfl
theorem dX2_redoStep_64 : decode cX2_redoStep 64 = .ok (.aload_n 0, 1) := lw_dr lw_d_cX2_redoStep_0 38 rfl
theorem dX2_redoStep_65 : decode cX2_redoStep 65 = .ok (.dup, 1) := lw_dr lw_d_cX2_redoStep_0 39 rfl
theorem lw_d_cX2_redoStep_66 : lw_dl cX2_redoStep [(66, .getfield 39, 3), (69, .iconst 1, 1), (70, .iadd, 1), (71, .putfield 39, 3), (74, .iconst 1, 1), (75, .ireturn, 1), (7, .iconst 0, 1), (8, .ireturn, 1)] = true := by decide +kernel
theorem dX2_redoStep_66 : decode cX2_redoStep 66 = .ok (.getfield 39, 3) := lw_dr lw_d_cX2_redoStep_66 0 rfl
theorem dX2_redoStep_69 : decode cX2_redoStep 69 = .ok (.iconst 1, 1) := lw_dr lw_d_cX2_redoStep_66 1 rfl
theorem dX2_redoStep_70 : decode cX2_redoStep 70 = .ok (.iadd, 1) := lw_dr lw_d_cX2_redoStep_66 2 rfl
theorem dX2_redoStep_71 : decode cX2_redoStep 71 = .ok (.putfield 39, 3) := lw_dr lw_d_cX2_redoStep_66 3 rfl
theorem dX2_redoStep_74 : decode cX2_redoStep 74 = .ok (.iconst 1, 1) := lw_dr lw_d_cX2_redoStep_66 4 rfl
theorem dX2_redoStep_75 : decode cX2_redoStep 75 = .ok (.ireturn, 1) := lw_dr lw_d_cX2_redoStep_66 5 rfl
theorem dX2_redoStep_7 : decode cX2_redoStep 7 = .ok (.iconst 0, 1) := lw_dr lw_d_cX2_redoStep_66 6 rfl
theorem dX2_redoStep_8 : decode cX2_redoStep 8 = .ok (.ireturn, 1) := lw_dr lw_d_cX2_redoStep_66 7 rfl
theorem lw_d_cX11_on_0 : lw_dl cX11_on [(0, .aload_n 0, 1), (1, .invokevirtual 407, 3), (4, .istore_n 1, 1), (5, .iload_n 1, 1), (6, .ifCond .eq 49, 3), (55, .iload_n 1, 1), (56, .ifCond .eq 25, 3), (81, .aload_n 0, 1), (82, .getfield 20, 3), (85, .iconst 0, 1), (86, .invokevirtual 97, 3), (89, .iload_n 1, 1), (90, .ireturn, 1), (9, .aload_n 0, 1), (10, .getfield 20, 3), (13, .aload_n 0, 1), (14, .getfield 20, 3), (17, .invokevirtual 93, 3), (20, .iconst 2, 1), (21, .isub, 1), (22, .invokevirtual 410, 3), (25, .istore_n 2, 1), (26, .aload_n 0, 1), (27, .getfield 80, 3), (30, .aload_n 0, 1), (31, .getfield 69, 3), (34, .invokevirtual 114, 3), (37, .aload_n 0, 1), (38, .getfield 80, 3), (41, .iload_n 2, 1), (42, .invokevirtual 296, 3), (45, .iload_n 2, 1), (46, .if_icmp .ne 7, 3), (53, .iconst 0, 1), (54, .istore_n 1, 1), (49, .iconst 1, 1), (50, .goto 4, 3), (59, .aload_n 0, 1), (60, .invokevirtual 194, 3), (63, .aload_n 0, 1)] = true := by decide +kernel
theorem dX11_on_0 : decode cX11_on 0 = .ok (.aload_n 0, 1) := lw_dr lw_d_cX11_on_0 0 rfl
theorem dX11_on_1 : decode cX11_on 1 = .ok (.invokevirtual 407, 3) := lw_dr lw_d_cX11_on_0 1 rfl
theorem dX11_on_4 : decode cX11_on 4 = .ok (.istore_n 1, 1) := lw_dr lw_d_cX11_on_0 2 rfl
theorem dX11_on_5 : decode cX11_on 5 = .ok (.iload_n 1, 1) := lw_dr lw_d_cX11_on_0 3 rfl
theorem dX11_on_6 : decode cX11_on 6 = .ok (.ifCond .eq 49, 3) := lw_dr lw_d_cX11_on_0 4 rfl
theorem dX11_on_55 : decode cX11_on 55 = .ok (.iload_n 1, 1) := lw_dr lw_d_cX11_on_0 5 rfl
theorem dX11_on_56 : decode cX11_on 56 = .ok (.ifCond .eq 25, 3) := lw_dr lw_d_cX11_on_0 6 rfl
theorem dX11_on_81 : decode cX11_on 81 = .ok (.aload_n 0, 1) := lw_dr lw_d_cX11_on_0 7 rfl
theorem dX11_on_82 : decode cX11_on 82 = .ok (.getfield 20, 3) := lw_dr lw_d_cX11_on_0 8 rfl
theorem dX11_on_85 : decode cX11_on 85 = .ok (.iconst 0, 1) := lw_dr lw_d_cX11_on_0 9 rfl
theorem dX11_on_86 : decode cX11_on 86 = .ok (.invokevirtual 97, 3) := lw_dr lw_d_cX11_on_0 10 rfl
theorem dX11_on_89 : decode cX11_on 89 = .ok (.iload_n 1, 1) := lw_dr lw_d_cX11_on_0 11 rfl
theorem dX11_on_90 : decode cX11_on 90 = .ok (.ireturn, 1) := lw_dr lw_d_cX11_on_0 12 rfl
theorem dX11_on_9 : decode cX11_on 9 = .ok (.aload_n 0, 1) := lw_dr lw_d_cX11_on_0 13 rfl
theorem dX11_on_10 : decode cX11_on 10 = .ok (.getfield 20, 3) := lw_dr lw_d_cX11_on_0 14 rfl
theorem dX11_on_13 : decode cX11_on 13 = .ok (.aload_n 0, 1) := lw_dr lw_d_cX11_on_0 15 rfl
theorem dX11_on_14 : decode cX11_on 14 = .ok (.getfield 20, 3) := lw_dr lw_d_cX11_on_0 16 rfl
theorem dX11_on_17 : decode cX11_on 17 = .ok (.invokevirtual 93, 3) := lw_dr lw_d_cX11_on_0 17 rfl
theorem dX11_on_20 : decode cX11_on 20 = .ok (.iconst 2, 1) := lw_dr lw_d_cX11_on_0 18 rfl
theorem dX11_on_21 : decode cX11_on 21 = .ok (.isub, 1) := lw_dr lw_d_cX11_on_0 19 rfl
theorem dX11_on_22 : decode cX11_on 22 = .ok (.invokevirtual 410, 3) := lw_dr lw_d_cX11_on_0 20 rfl
theorem dX11_on_25 : decode cX11_on 25 = .ok (.istore_n 2, 1) := lw_dr lw_d_cX11_on_0 21 rfl
theorem dX11_on_26 : decode cX11_on 26 = .ok (.aload_n 0, 1) := lw_dr lw_d_cX11_on_0 22 rfl
theorem dX11_on_27 : decode cX11_on 27 = .ok (.getfield 80, 3) := lw_dr lw_d_cX11_on_0 23 rfl
theorem dX11_on_30 : decode cX11_on 30 = .ok (.aload_n 0, 1) := lw_dr lw_d_cX11_on_0 24 rfl
theorem dX11_on_31 : decode cX11_on 31 = .ok (.getfield 69, 3) := lw_dr lw_d_cX11_on_0 25 rfl
theorem dX11_on_34 : decode cX11_on 34 = .ok (.invokevirtual 114, 3) := lw_dr lw_d_cX11_on_0 26 rfl
theorem dX11_on_37 : decode cX11_on 37 = .ok (.aload_n 0, 1) := lw_dr lw_d_cX11_on_0 27 rfl
theorem dX11_on_38 : decode cX11_on 38 = .ok (.getfield 80, 3) := lw_dr lw_d_cX11_on_0 28 rfl
theorem dX11_on_41 : decode cX11_on 41 = .ok (.iload_n 2, 1) := lw_dr lw_d_cX11_on_0 29 rfl
theorem dX11_on_42 : decode cX11_on 42 = .ok (.invokevirtual 296, 3) := lw_dr lw_d_cX11_on_0 30 rfl
theorem dX11_on_45 : decode cX11_on 45 = .ok (.iload_n 2, 1) := lw_dr lw_d_cX11_on_0 31 rfl
theorem dX11_on_46 : decode cX11_on 46 = .ok (.if_icmp .ne 7, 3) := lw_dr lw_d_cX11_on_0 32 rfl
theorem dX11_on_53 : decode cX11_on 53 = .ok (.iconst 0, 1) := lw_dr lw_d_cX11_on_0 33 rfl
theorem dX11_on_54 : decode cX11_on 54 = .ok (.istore_n 1, 1) := lw_dr lw_d_cX11_on_0 34 rfl
theorem dX11_on_49 : decode cX11_on 49 = .ok (.iconst 1, 1) := lw_dr lw_d_cX11_on_0 35 rfl
theorem dX11_on_50 : decode cX11_on 50 = .ok (.goto 4, 3) := lw_dr lw_d_cX11_on_0 36 rfl
theorem dX11_on_59 : decode cX11_on 59 = .ok (.aload_n 0, 1) := lw_dr lw_d_cX11_on_0 37 rfl
theorem dX11_on_60 : decode cX11_on 60 = .ok (.invokevirtual 194, 3) := lw_dr lw_d_cX11_on_0 38 rfl
theorem dX11_on_63 : decode cX11_on 63 = .ok (.aload_n 0, 1) := lw_dr lw_d_cX11_on_0 39 rfl
theorem lw_d_cX11_on_64 : lw_dl cX11_on [(64, .getfield 76, 3), (67, .astore_n 2, 1), (68, .aload_n 0, 1), (69, .aload_n 0, 1), (70, .getfield 80, 3), (73, .putfield 76, 3), (76, .aload_n 0, 1), (77, .aload_n 2, 1), (78, .putfield 80, 3)] = true := by decide +kernel
theorem dX11_on_64 : decode cX11_on 64 = .ok (.getfield 76, 3) := lw_dr lw_d_cX11_on_64 0 rfl
theorem dX11_on_67 : decode cX11_on 67 = .ok (.astore_n 2, 1) := lw_dr lw_d_cX11_on_64 1 rfl
theorem dX11_on_68 : decode cX11_on 68 = .ok (.aload_n 0, 1) := lw_dr lw_d_cX11_on_64 2 rfl
theorem dX11_on_69 : decode cX11_on 69 = .ok (.aload_n 0, 1) := lw_dr lw_d_cX11_on_64 3 rfl
theorem dX11_on_70 : decode cX11_on 70 = .ok (.getfield 80, 3) := lw_dr lw_d_cX11_on_64 4 rfl
theorem dX11_on_73 : decode cX11_on 73 = .ok (.putfield 76, 3) := lw_dr lw_d_cX11_on_64 5 rfl
theorem dX11_on_76 : decode cX11_on 76 = .ok (.aload_n 0, 1) := lw_dr lw_d_cX11_on_64 6 rfl
theorem dX11_on_77 : decode cX11_on 77 = .ok (.aload_n 2, 1) := lw_dr lw_d_cX11_on_64 7 rfl
theorem dX11_on_78 : decode cX11_on 78 = .ok (.putfield 80, 3) := lw_dr lw_d_cX11_on_64 8 rfl
