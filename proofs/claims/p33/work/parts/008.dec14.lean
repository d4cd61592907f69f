theorem lw_d_cX12_isSender_13 : lw_dl cX12_isSender [(13, .ireturn, 1)] = true := by decide +kernel
theorem dX12_isSender_13 : decode cX12_isSender 13 = .ok (.ireturn, 1) := lw_dr lw_d_cX12_isSender_13 0 rfl
theorem lw_d_cX12_table_13 : lw_dl cX12_table [(13, .ifCond .ne 7, 3), (20, .iload_n 3, 1), (21, .ifCond .eq 16, 3), (37, .aload_n 0, 1), (38, .getfield 69, 3), (41, .iconst 5, 1), (42, .iload_n 1, 1), (43, .imul, 1), (44, .iload_n 2, 1), (45, .iadd, 1), (46, .iaload, 1), (47, .ireturn, 1), (24, .aload_n 0, 1), (25, .getfield 97, 3), (28, .iconst 5, 1), (29, .iload_n 1, 1), (30, .imul, 1), (31, .iload_n 2, 1), (32, .iadd, 1), (33, .iaload, 1), (34, .goto 13, 3)] = true := by decide +kernel
theorem dX12_table_13 : decode cX12_table 13 = .ok (.ifCond .ne 7, 3) := lw_dr lw_d_cX12_table_13 0 rfl
theorem dX12_table_20 : decode cX12_table 20 = .ok (.iload_n 3, 1) := lw_dr lw_d_cX12_table_13 1 rfl
theorem dX12_table_21 : decode cX12_table 21 = .ok (.ifCond .eq 16, 3) := lw_dr lw_d_cX12_table_13 2 rfl
theorem dX12_table_37 : decode cX12_table 37 = .ok (.aload_n 0, 1) := lw_dr lw_d_cX12_table_13 3 rfl
theorem dX12_table_38 : decode cX12_table 38 = .ok (.getfield 69, 3) := lw_dr lw_d_cX12_table_13 4 rfl
theorem dX12_table_41 : decode cX12_table 41 = .ok (.iconst 5, 1) := lw_dr lw_d_cX12_table_13 5 rfl
theorem dX12_table_42 : decode cX12_table 42 = .ok (.iload_n 1, 1) := lw_dr lw_d_cX12_table_13 6 rfl
theorem dX12_table_43 : decode cX12_table 43 = .ok (.imul, 1) := lw_dr lw_d_cX12_table_13 7 rfl
theorem dX12_table_44 : decode cX12_table 44 = .ok (.iload_n 2, 1) := lw_dr lw_d_cX12_table_13 8 rfl
theorem dX12_table_45 : decode cX12_table 45 = .ok (.iadd, 1) := lw_dr lw_d_cX12_table_13 9 rfl
theorem dX12_table_46 : decode cX12_table 46 = .ok (.iaload, 1) := lw_dr lw_d_cX12_table_13 10 rfl
theorem dX12_table_47 : decode cX12_table 47 = .ok (.ireturn, 1) := lw_dr lw_d_cX12_table_13 11 rfl
theorem dX12_table_24 : decode cX12_table 24 = .ok (.aload_n 0, 1) := lw_dr lw_d_cX12_table_13 12 rfl
theorem dX12_table_25 : decode cX12_table 25 = .ok (.getfield 97, 3) := lw_dr lw_d_cX12_table_13 13 rfl
theorem dX12_table_28 : decode cX12_table 28 = .ok (.iconst 5, 1) := lw_dr lw_d_cX12_table_13 14 rfl
theorem dX12_table_29 : decode cX12_table 29 = .ok (.iload_n 1, 1) := lw_dr lw_d_cX12_table_13 15 rfl
theorem dX12_table_30 : decode cX12_table 30 = .ok (.imul, 1) := lw_dr lw_d_cX12_table_13 16 rfl
theorem dX12_table_31 : decode cX12_table 31 = .ok (.iload_n 2, 1) := lw_dr lw_d_cX12_table_13 17 rfl
theorem dX12_table_32 : decode cX12_table 32 = .ok (.iadd, 1) := lw_dr lw_d_cX12_table_13 18 rfl
theorem dX12_table_33 : decode cX12_table 33 = .ok (.iaload, 1) := lw_dr lw_d_cX12_table_13 19 rfl
theorem dX12_table_34 : decode cX12_table 34 = .ok (.goto 13, 3) := lw_dr lw_d_cX12_table_13 20 rfl
theorem lw_d_cX12_product_0 : lw_dl cX12_product [(0, .aload_n 0, 1), (1, .iload_n 1, 1), (2, .invokevirtual 361, 3), (5, .ifCond .eq 11, 3), (16, .ldc_w 364, 3), (19, .ireturn, 1), (8, .aload_n 0, 1), (9, .iload_n 2, 1), (10, .invokevirtual 361, 3), (13, .ifCond .ne 7, 3), (20, .iload_n 3, 1), (21, .ifCond .eq 16, 3), (37, .aload_n 0, 1), (38, .iload_n 1, 1), (39, .iload_n 2, 1), (40, .aload_n 0, 1), (41, .getfield 69, 3), (44, .invokevirtual 334, 3), (47, .ireturn, 1), (24, .aload_n 0, 1), (25, .iload_n 1, 1), (26, .iload_n 2, 1), (27, .aload_n 0, 1), (28, .getfield 97, 3), (31, .invokevirtual 334, 3), (34, .goto 13, 3)] = true := by decide +kernel
theorem dX12_product_0 : decode cX12_product 0 = .ok (.aload_n 0, 1) := lw_dr lw_d_cX12_product_0 0 rfl
theorem dX12_product_1 : decode cX12_product 1 = .ok (.iload_n 1, 1) := lw_dr lw_d_cX12_product_0 1 rfl
theorem dX12_product_2 : decode cX12_product 2 = .ok (.invokevirtual 361, 3) := lw_dr lw_d_cX12_product_0 2 rfl
theorem dX12_product_5 : decode cX12_product 5 = .ok (.ifCond .eq 11, 3) := lw_dr lw_d_cX12_product_0 3 rfl
theorem dX12_product_16 : decode cX12_product 16 = .ok (.ldc_w 364, 3) := lw_dr lw_d_cX12_product_0 4 rfl
theorem dX12_product_19 : decode cX12_product 19 = .ok (.ireturn, 1) := lw_dr lw_d_cX12_product_0 5 rfl
theorem dX12_product_8 : decode cX12_product 8 = .ok (.aload_n 0, 1) := lw_dr lw_d_cX12_product_0 6 rfl
theorem dX12_product_9 : decode cX12_product 9 = .ok (.iload_n 2, 1) := lw_dr lw_d_cX12_product_0 7 rfl
theorem dX12_product_10 : decode cX12_product 10 = .ok (.invokevirtual 361, 3) := lw_dr lw_d_cX12_product_0 8 rfl
theorem dX12_product_13 : decode cX12_product 13 = .ok (.ifCond .ne 7, 3) := lw_dr lw_d_cX12_product_0 9 rfl
theorem dX12_product_20 : decode cX12_product 20 = .ok (.iload_n 3, 1) := lw_dr lw_d_cX12_product_0 10 rfl
theorem dX12_product_21 : decode cX12_product 21 = .ok (.ifCond .eq 16, 3) := lw_dr lw_d_cX12_product_0 11 rfl
theorem dX12_product_37 : decode cX12_product 37 = .ok (.aload_n 0, 1) := lw_dr lw_d_cX12_product_0 12 rfl
theorem dX12_product_38 : decode cX12_product 38 = .ok (.iload_n 1, 1) := lw_dr lw_d_cX12_product_0 13 rfl
theorem dX12_product_39 : decode cX12_product 39 = .ok (.iload_n 2, 1) := lw_dr lw_d_cX12_product_0 14 rfl
theorem dX12_product_40 : decode cX12_product 40 = .ok (.aload_n 0, 1) := lw_dr lw_d_cX12_product_0 15 rfl
theorem dX12_product_41 : decode cX12_product 41 = .ok (.getfield 69, 3) := lw_dr lw_d_cX12_product_0 16 rfl
theorem dX12_product_44 : decode cX12_product 44 = .ok (.invokevirtual 334, 3) := lw_dr lw_d_cX12_product_0 17 rfl
theorem dX12_product_47 : decode cX12_product 47 = .ok (.ireturn, 1) := lw_dr lw_d_cX12_product_0 18 rfl
theorem dX12_product_24 : decode cX12_product 24 = .ok (.aload_n 0, 1) := lw_dr lw_d_cX12_product_0 19 rfl
theorem dX12_product_25 : decode cX12_product 25 = .ok (.iload_n 1, 1) := lw_dr lw_d_cX12_product_0 20 rfl
theorem dX12_product_26 : decode cX12_product 26 = .ok (.iload_n 2, 1) := lw_dr lw_d_cX12_product_0 21 rfl
theorem dX12_product_27 : decode cX12_product 27 = .ok (.aload_n 0, 1) := lw_dr lw_d_cX12_product_0 22 rfl
theorem dX12_product_28 : decode cX12_product 28 = .ok (.getfield 97, 3) := lw_dr lw_d_cX12_product_0 23 rfl
theorem dX12_product_31 : decode cX12_product 31 = .ok (.invokevirtual 334, 3) := lw_dr lw_d_cX12_product_0 24 rfl
theorem dX12_product_34 : decode cX12_product 34 = .ok (.goto 13, 3) := lw_dr lw_d_cX12_product_0 25 rfl
theorem lw_d_cX12_productOf_0 : lw_dl cX12_productOf [(0, .iconst 0, 1), (1, .istore 4, 2), (3, .iconst 0, 1), (4, .istore 5, 2), (6, .iload 5, 2), (8, .aload_n 0, 1), (9, .getfield 240, 3), (12, .if_icmp .ge 31, 3), (43, .iload 4, 2), (45, .ireturn, 1), (15, .iload 4, 2), (17, .aload_n 3, 1), (18, .iconst 5, 1), (19, .iload 5, 2), (21, .imul, 1), (22, .iload_n 1, 1), (23, .iadd, 1), (24, .iaload, 1), (25, .aload_n 3, 1), (26, .iconst 5, 1), (27, .iload 5, 2), (29, .imul, 1), (30, .iload_n 2, 1), (31, .iadd, 1), (32, .iaload, 1), (33, .imul, 1), (34, .iadd, 1), (35, .istore 4, 2), (37, .iinc 5 1, 3), (40, .goto (-34), 3)] = true := by decide +kernel
theorem dX12_productOf_0 : decode cX12_productOf 0 = .ok (.iconst 0, 1) := lw_dr lw_d_cX12_productOf_0 0 rfl
theorem dX12_productOf_1 : decode cX12_productOf 1 = .ok (.istore 4, 2) := lw_dr lw_d_cX12_productOf_0 1 rfl
theorem dX12_productOf_3 : decode cX12_productOf 3 = .ok (.iconst 0, 1) := lw_dr lw_d_cX12_productOf_0 2 rfl
theorem dX12_productOf_4 : decode cX12_productOf 4 = .ok (.istore 5, 2) := lw_dr lw_d_cX12_productOf_0 3 rfl
theorem dX12_productOf_6 : decode cX12_productOf 6 = .ok (.iload 5, 2) := lw_dr lw_d_cX12_productOf_0 4 rfl
theorem dX12_productOf_8 : decode cX12_productOf 8 = .ok (.aload_n 0, 1) := lw_dr lw_d_cX12_productOf_0 5 rfl
theorem dX12_productOf_9 : decode cX12_productOf 9 = .ok (.getfield 240, 3) := lw_dr lw_d_cX12_productOf_0 6 rfl
theorem dX12_productOf_12 : decode cX12_productOf 12 = .ok (.if_icmp .ge 31, 3) := lw_dr lw_d_cX12_productOf_0 7 rfl
theorem dX12_productOf_43 : decode cX12_productOf 43 = .ok (.iload 4, 2) := lw_dr lw_d_cX12_productOf_0 8 rfl
theorem dX12_productOf_45 : decode cX12_productOf 45 = .ok (.ireturn, 1) := lw_dr lw_d_cX12_productOf_0 9 rfl
theorem dX12_productOf_15 : decode cX12_productOf 15 = .ok (.iload 4, 2) := lw_dr lw_d_cX12_productOf_0 10 rfl
theorem dX12_productOf_17 : decode cX12_productOf 17 = .ok (.aload_n 3, 1) := lw_dr lw_d_cX12_productOf_0 11 rfl
theorem dX12_productOf_18 : decode cX12_productOf 18 = .ok (.iconst 5, 1) := lw_dr lw_d_cX12_productOf_0 12 rfl
theorem dX12_productOf_19 : decode cX12_productOf 19 = .ok (.iload 5, 2) := lw_dr lw_d_cX12_productOf_0 13 rfl
theorem dX12_productOf_21 : decode cX12_productOf 21 = .ok (.imul, 1) := lw_dr lw_d_cX12_productOf_0 14 rfl
theorem dX12_productOf_22 : decode cX12_productOf 22 = .ok (.iload_n 1, 1) := lw_dr lw_d_cX12_productOf_0 15 rfl
theorem dX12_productOf_23 : decode cX12_productOf 23 = .ok (.iadd, 1) := lw_dr lw_d_cX12_productOf_0 16 rfl
theorem dX12_productOf_24 : decode cX12_productOf 24 = .ok (.iaload, 1) := lw_dr lw_d_cX12_productOf_0 17 rfl
theorem dX12_productOf_25 : decode cX12_productOf 25 = .ok (.aload_n 3, 1) := lw_dr lw_d_cX12_productOf_0 18 rfl
theorem dX12_productOf_26 : decode cX12_productOf 26 = .ok (.iconst 5, 1) := lw_dr lw_d_cX12_productOf_0 19 rfl
theorem dX12_productOf_27 : decode cX12_productOf 27 = .ok (.iload 5, 2) := lw_dr lw_d_cX12_productOf_0 20 rfl
theorem dX12_productOf_29 : decode cX12_productOf 29 = .ok (.imul, 1) := lw_dr lw_d_cX12_productOf_0 21 rfl
theorem dX12_productOf_30 : decode cX12_productOf 30 = .ok (.iload_n 2, 1) := lw_dr lw_d_cX12_productOf_0 22 rfl
theorem dX12_productOf_31 : decode cX12_productOf 31 = .ok (.iadd, 1) := lw_dr lw_d_cX12_productOf_0 23 rfl
theorem dX12_productOf_32 : decode cX12_productOf 32 = .ok (.iaload, 1) := lw_dr lw_d_cX12_productOf_0 24 rfl
theorem dX12_productOf_33 : decode cX12_productOf 33 = .ok (.imul, 1) := lw_dr lw_d_cX12_productOf_0 25 rfl
theorem dX12_productOf_34 : decode cX12_productOf 34 = .ok (.iadd, 1) := lw_dr lw_d_cX12_productOf_0 26 rfl
theorem dX12_productOf_35 : decode cX12_productOf 35 = .ok (.istore 4, 2) := lw_dr lw_d_cX12_productOf_0 27 rfl
theorem dX12_productOf_37 : decode cX12_productOf 37 = .ok (.iinc 5 1, 3) := lw_dr lw_d_cX12_productOf_0 28 rfl
theorem dX12_productOf_40 : decode cX12_productOf 40 = .ok (.goto (-34), 3) := lw_dr lw_d_cX12_productOf_0 29 rfl
theorem lw_d_cX12_clash_0 : lw_dl cX12_clash [(0, .aload_n 0, 1), (1, .iload_n 1, 1), (2, .invokevirtual 361, 3), (5, .ifCond .eq 16, 3), (21, .iconst (-1), 1), (22, .ireturn, 1), (8, .aload_n 0, 1), (9, .iload_n 2, 1), (10, .invokevirtual 361, 3), (13, .ifCond .eq 8, 3), (16, .iload_n 1, 1), (17, .iload_n 2, 1), (18, .if_icmp .ne 5, 3), (23, .iload_n 3, 1), (24, .ifCond .eq 16, 3), (40, .aload_n 0, 1), (41, .iload_n 1, 1), (42, .iload_n 2, 1), (43, .aload_n 0, 1), (44, .getfield 69, 3), (47, .invokevirtual 367, 3), (50, .ireturn, 1), (27, .aload_n 0, 1), (28, .iload_n 1, 1), (29, .iload_n 2, 1), (30, .aload_n 0, 1), (31, .getfield 97, 3), (34, .invokevirtual 367, 3), (37, .goto 13, 3)] = true := by decide +kernel
theorem dX12_clash_0 : decode cX12_clash 0 = .ok (.aload_n 0, 1) := lw_dr lw_d_cX12_clash_0 0 rfl
theorem dX12_clash_1 : decode cX12_clash 1 = .ok (.iload_n 1, 1) := lw_dr lw_d_cX12_clash_0 1 rfl
theorem dX12_clash_2 : decode cX12_clash 2 = .ok (.invokevirtual 361, 3) := lw_dr lw_d_cX12_clash_0 2 rfl
theorem dX12_clash_5 : decode cX12_clash 5 = .ok (.ifCond .eq 16, 3) := lw_dr lw_d_cX12_clash_0 3 rfl
theorem dX12_clash_21 : decode cX12_clash 21 = .ok (.iconst (-1), 1) := lw_dr lw_d_cX12_clash_0 4 rfl
theorem dX12_clash_22 : decode cX12_clash 22 = .ok (.ireturn, 1) := lw_dr lw_d_cX12_clash_0 5 rfl
theorem dX12_clash_8 : decode cX12_clash 8 = .ok (.aload_n 0, 1) := lw_dr lw_d_cX12_clash_0 6 rfl
theorem dX12_clash_9 : decode cX12_clash 9 = .ok (.iload_n 2, 1) := lw_dr lw_d_cX12_clash_0 7 rfl
theorem dX12_clash_10 : decode cX12_clash 10 = .ok (.invokevirtual 361, 3) := lw_dr lw_d_cX12_clash_0 8 rfl
theorem dX12_clash_13 : decode cX12_clash 13 = .ok (.ifCond .eq 8, 3) := lw_dr lw_d_cX12_clash_0 9 rfl
theorem dX12_clash_16 : decode cX12_clash 16 = .ok (.iload_n 1, 1) := lw_dr lw_d_cX12_clash_0 10 rfl
theorem dX12_clash_17 : decode cX12_clash 17 = .ok (.iload_n 2, 1) := lw_dr lw_d_cX12_clash_0 11 rfl
theorem dX12_clash_18 : decode cX12_clash 18 = .ok (.if_icmp .ne 5, 3) := lw_dr lw_d_cX12_clash_0 12 rfl
theorem dX12_clash_23 : decode cX12_clash 23 = .ok (.iload_n 3, 1) := lw_dr lw_d_cX12_clash_0 13 rfl
theorem dX12_clash_24 : decode cX12_clash 24 = .ok (.ifCond .eq 16, 3) := lw_dr lw_d_cX12_clash_0 14 rfl
theorem dX12_clash_40 : decode cX12_clash 40 = .ok (.aload_n 0, 1) := lw_dr lw_d_cX12_clash_0 15 rfl
theorem dX12_clash_41 : decode cX12_clash 41 = .ok (.iload_n 1, 1) := lw_dr lw_d_cX12_clash_0 16 rfl
theorem dX12_clash_42 : decode cX12_clash 42 = .ok (.iload_n 2, 1) := lw_dr lw_d_cX12_clash_0 17 rfl
theorem dX12_clash_43 : decode cX12_clash 43 = .ok (.aload_n 0, 1) := lw_dr lw_d_cX12_clash_0 18 rfl
theorem dX12_clash_44 : decode cX12_clash 44 = .ok (.getfield 69, 3) := lw_dr lw_d_cX12_clash_0 19 rfl
theorem dX12_clash_47 : decode cX12_clash 47 = .ok (.invokevirtual 367, 3) := lw_dr lw_d_cX12_clash_0 20 rfl
theorem dX12_clash_50 : decode cX12_clash 50 = .ok (.ireturn, 1) := lw_dr lw_d_cX12_clash_0 21 rfl
theorem dX12_clash_27 : decode cX12_clash 27 = .ok (.aload_n 0, 1) := lw_dr lw_d_cX12_clash_0 22 rfl
theorem dX12_clash_28 : decode cX12_clash 28 = .ok (.iload_n 1, 1) := lw_dr lw_d_cX12_clash_0 23 rfl
theorem dX12_clash_29 : decode cX12_clash 29 = .ok (.iload_n 2, 1) := lw_dr lw_d_cX12_clash_0 24 rfl
theorem dX12_clash_30 : decode cX12_clash 30 = .ok (.aload_n 0, 1) := lw_dr lw_d_cX12_clash_0 25 rfl
theorem dX12_clash_31 : decode cX12_clash 31 = .ok (.getfield 97, 3) := lw_dr lw_d_cX12_clash_0 26 rfl
theorem dX12_clash_34 : decode cX12_clash 34 = .ok (.invokevirtual 367, 3) := lw_dr lw_d_cX12_clash_0 27 rfl
theorem dX12_clash_37 : decode cX12_clash 37 = .ok (.goto 13, 3) := lw_dr lw_d_cX12_clash_0 28 rfl
theorem lw_d_cX12_clashOf_0 : lw_dl cX12_clashOf [(0, .aload_n 0, 1), (1, .iload_n 1, 1), (2, .iload_n 1, 1), (3, .aload_n 3, 1), (4, .invokevirtual 334, 3), (7, .i2l, 1), (8, .lstore 4, 2), (10, .aload_n 0, 1), (11, .iload_n 2, 1), (12, .iload_n 2, 1), (13, .aload_n 3, 1), (14, .invokevirtual 334, 3), (17, .i2l, 1), (18, .lstore 6, 2), (20, .aload_n 0, 1), (21, .iload_n 1, 1), (22, .iload_n 2, 1), (23, .aload_n 3, 1), (24, .invokevirtual 334, 3), (27, .i2l, 1), (28, .lstore 8, 2), (30, .lload 4, 2), (32, .lconst 0, 1), (33, .lcmp, 1), (34, .ifCond .eq 10, 3), (44, .iconst 0, 1), (45, .goto 19, 3), (64, .ireturn, 1), (37, .lload 6, 2), (39, .lconst 0, 1), (40, .lcmp, 1), (41, .ifCond .ne 7, 3), (48, .ldc2_w 365, 3), (51, .lload 8, 2), (53, .lmul, 1), (54, .lload 8, 2), (56, .lmul, 1), (57, .lload 4, 2), (59, .lload 6, 2), (61, .lmul, 1)] = true := by decide +kernel
theorem dX12_clashOf_0 : decode cX12_clashOf 0 = .ok (.aload_n 0, 1) := lw_dr lw_d_cX12_clashOf_0 0 rfl
theorem dX12_clashOf_1 : decode cX12_clashOf 1 = .ok (.iload_n 1, 1) := lw_dr lw_d_cX12_clashOf_0 1 rfl
theorem dX12_clashOf_2 : decode cX12_clashOf 2 = .ok (.iload_n 1, 1) := lw_dr lw_d_cX12_clashOf_0 2 rfl
theorem dX12_clashOf_3 : decode cX12_clashOf 3 = .ok (.aload_n 3, 1) := lw_dr lw_d_cX12_clashOf_0 3 rfl
theorem dX12_clashOf_4 : decode cX12_clashOf 4 = .ok (.invokevirtual 334, 3) := lw_dr lw_d_cX12_clashOf_0 4 rfl
theorem dX12_clashOf_7 : decode cX12_clashOf 7 = .ok (.i2l, 1) := lw_dr lw_d_cX12_clashOf_0 5 rfl
theorem dX12_clashOf_8 : decode cX12_clashOf 8 = .ok (.lstore 4, 2) := lw_dr lw_d_cX12_clashOf_0 6 rfl
theorem dX12_clashOf_10 : decode cX12_clashOf 10 = .ok (.aload_n 0, 1) := lw_dr lw_d_cX12_clashOf_0 7 rfl
theorem dX12_clashOf_11 : decode cX12_clashOf 11 = .ok (.iload_n 2, 1) := lw_dr lw_d_cX12_clashOf_0 8 rfl
theorem dX12_clashOf_12 : decode cX12_clashOf 12 = .ok (.iload_n 2, 1) := lw_dr lw_d_cX12_clashOf_0 9 rfl
theorem dX12_clashOf_13 : decode cX12_clashOf 13 = .ok (.aload_n 3, 1) := lw_dr lw_d_cX12_clashOf_0 10 rfl
theorem dX12_clashOf_14 : decode cX12_clashOf 14 = .ok (.invokevirtual 334, 3) := lw_dr lw_d_cX12_clashOf_0 11 rfl
theorem dX12_clashOf_17 : decode cX12_clashOf 17 = .ok (.i2l, 1) := lw_dr lw_d_cX12_clashOf_0 12 rfl
theorem dX12_clashOf_18 : decode cX12_clashOf 18 = .ok (.lstore 6, 2) := lw_dr lw_d_cX12_clashOf_0 13 rfl
theorem dX12_clashOf_20 : decode cX12_clashOf 20 = .ok (.aload_n 0, 1) := lw_dr lw_d_cX12_clashOf_0 14 rfl
theorem dX12_clashOf_21 : decode cX12_clashOf 21 = .ok (.iload_n 1, 1) := lw_dr lw_d_cX12_clashOf_0 15 rfl
theorem dX12_clashOf_22 : decode cX12_clashOf 22 = .ok (.iload_n 2, 1) := lw_dr lw_d_cX12_clashOf_0 16 rfl
theorem dX12_clashOf_23 : decode cX12_clashOf 23 = .ok (.aload_n 3, 1) := lw_dr lw_d_cX12_clashOf_0 17 rfl
theorem dX12_clashOf_24 : decode cX12_clashOf 24 = .ok (.invokevirtual 334, 3) := lw_dr lw_d_cX12_clashOf_0 18 rfl
theorem dX12_clashOf_27 : decode cX12_clashOf 27 = .ok (.i2l, 1) := lw_dr lw_d_cX12_clashOf_0 19 rfl
theorem dX12_clashOf_28 : decode cX12_clashOf 28 = .ok (.lstore 8, 2) := lw_dr lw_d_cX12_clashOf_0 20 rfl
theorem dX12_clashOf_30 : decode cX12_clashOf 30 = .ok (.lload 4, 2) := lw_dr lw_d_cX12_clashOf_0 21 rfl
theorem dX12_clashOf_32 : decode cX12_clashOf 32 = .ok (.lconst 0, 1) := lw_dr lw_d_cX12_clashOf_0 22 rfl
theorem dX12_clashOf_33 : decode cX12_clashOf 33 = .ok (.lcmp, 1) := lw_dr lw_d_cX12_clashOf_0 23 rfl
theorem dX12_clashOf_34 : decode cX12_clashOf 34 = .ok (.ifCond .eq 10, 3) := lw_dr lw_d_cX12_clashOf_0 24 rfl
theorem dX12_clashOf_44 : decode cX12_clashOf 44 = .ok (.iconst 0, 1) := lw_dr lw_d_cX12_clashOf_0 25 rfl
theorem dX12_clashOf_45 : decode cX12_clashOf 45 = .ok (.goto 19, 3) := lw_dr lw_d_cX12_clashOf_0 26 rfl
theorem dX12_clashOf_64 : decode cX12_clashOf 64 = .ok (.ireturn, 1) := lw_dr lw_d_cX12_clashOf_0 27 rfl
theorem dX12_clashOf_37 : decode cX12_clashOf 37 = .ok (.lload 6, 2) := lw_dr lw_d_cX12_clashOf_0 28 rfl
theorem dX12_clashOf_39 : decode cX12_clashOf 39 = .ok (.lconst 0, 1) := lw_dr lw_d_cX12_clashOf_0 29 rfl
theorem dX12_clashOf_40 : decode cX12_clashOf 40 = .ok (.lcmp, 1) := lw_dr lw_d_cX12_clashOf_0 30 rfl
theorem dX12_clashOf_41 : decode cX12_clashOf 41 = .ok (.ifCond .ne 7, 3) := lw_dr lw_d_cX12_clashOf_0 31 rfl
theorem dX12_clashOf_48 : decode cX12_clashOf 48 = .ok (.ldc2_w 365, 3) := lw_dr lw_d_cX12_clashOf_0 32 rfl
theorem dX12_clashOf_51 : decode cX12_clashOf 51 = .ok (.lload 8, 2) := lw_dr lw_d_cX12_clashOf_0 33 rfl
theorem dX12_clashOf_53 : decode cX12_clashOf 53 = .ok (.lmul, 1) := lw_dr lw_d_cX12_clashOf_0 34 rfl
theorem dX12_clashOf_54 : decode cX12_clashOf 54 = .ok (.lload 8, 2) := lw_dr lw_d_cX12_clashOf_0 35 rfl
theorem dX12_clashOf_56 : decode cX12_clashOf 56 = .ok (.lmul, 1) := lw_dr lw_d_cX12_clashOf_0 36 rfl
theorem dX12_clashOf_57 : decode cX12_clashOf 57 = .ok (.lload 4, 2) := lw_dr lw_d_cX12_clashOf_0 37 rfl
theorem dX12_clashOf_59 : decode cX12_clashOf 59 = .ok (.lload 6, 2) := lw_dr lw_d_cX12_clashOf_0 38 rfl
theorem dX12_clashOf_61 : decode cX12_clashOf 61 = .ok (.lmul, 1) := lw_dr lw_d_cX12_clashOf_0 39 rfl
theorem lw_d_cX12_clashOf_62 : lw_dl cX12_clashOf [(62, .ldiv, 1), (63, .l2i, 1)] = true := by decide +kernel
theorem dX12_clashOf_62 : decode cX12_clashOf 62 = .ok (.ldiv, 1) := lw_dr lw_d_cX12_clashOf_62 0 rfl
theorem dX12_clashOf_63 : decode cX12_clashOf 63 = .ok (.l2i, 1) := lw_dr lw_d_cX12_clashOf_62 1 rfl
theorem lw_d_cX12_worst_0 : lw_dl cX12_worst [(0, .iconst (-1), 1), (1, .istore_n 2, 1), (2, .iconst (-1), 1), (3, .istore_n 3, 1), (4, .iconst 0, 1), (5, .istore 4, 2), (7, .iload 4, 2), (9, .aload_n 0, 1), (10, .getfield 237, 3), (13, .if_icmp .ge 84, 3), (97, .iload_n 2, 1), (98, .ireturn, 1), (16, .iload 4, 2), (18, .iconst 1, 1), (19, .iadd, 1), (20, .istore 5, 2), (22, .iload 5, 2), (24, .aload_n 0, 1), (25, .getfield 237, 3), (28, .if_icmp .ge 63, 3), (91, .iinc 4 1, 3), (94, .goto (-87), 3), (31, .iload_n 1, 1), (32, .ifCond .eq 18, 3), (50, .aload_n 0, 1), (51, .iload 4, 2), (53, .iload 5, 2), (55, .aload_n 0, 1), (56, .getfield 69, 3), (59, .invokevirtual 367, 3), (62, .istore 6, 2), (64, .iload 6, 2), (66, .iload_n 3, 1), (67, .if_icmp .gt 6, 3), (73, .bipush 100, 2), (75, .iload 4, 2), (77, .imul, 1), (78, .iload 5, 2), (80, .iadd, 1), (81, .istore_n 2, 1)] = true := by decide +kernel
theorem dX12_worst_0 : decode cX12_worst 0 = .ok (.iconst (-1), 1) := lw_dr lw_d_cX12_worst_0 0 rfl
theorem dX12_worst_1 : decode cX12_worst 1 = .ok (.istore_n 2, 1) := lw_dr lw_d_cX12_worst_0 1 rfl
theorem dX12_worst_2 : decode cX12_worst 2 = .ok (.iconst (-1), 1) := lw_dr lw_d_cX12_worst_0 2 rfl
theorem dX12_worst_3 : decode cX12_worst 3 = .ok (.istore_n 3, 1) := lw_dr lw_d_cX12_worst_0 3 rfl
theorem dX12_worst_4 : decode cX12_worst 4 = .ok (.iconst 0, 1) := lw_dr lw_d_cX12_worst_0 4 rfl
theorem dX12_worst_5 : decode cX12_worst 5 = .ok (.istore 4, 2) := lw_dr lw_d_cX12_worst_0 5 rfl
theorem dX12_worst_7 : decode cX12_worst 7 = .ok (.iload 4, 2) := lw_dr lw_d_cX12_worst_0 6 rfl
theorem dX12_worst_9 : decode cX12_worst 9 = .ok (.aload_n 0, 1) := lw_dr lw_d_cX12_worst_0 7 rfl
theorem dX12_worst_10 : decode cX12_worst 10 = .ok (.getfield 237, 3) := lw_dr lw_d_cX12_worst_0 8 rfl
theorem dX12_worst_13 : decode cX12_worst 13 = .ok (.if_icmp .ge 84, 3) := lw_dr lw_d_cX12_worst_0 9 rfl
theorem dX12_worst_97 : decode cX12_worst 97 = .ok (.iload_n 2, 1) := lw_dr lw_d_cX12_worst_0 10 rfl
theorem dX12_worst_98 : decode cX12_worst 98 = .ok (.ireturn, 1) := lw_dr lw_d_cX12_worst_0 11 rfl
theorem dX12_worst_16 : decode cX12_worst 16 = .ok (.iload 4, 2) := lw_dr lw_d_cX12_worst_0 12 rfl
theorem dX12_worst_18 : decode cX12_worst 18 = .ok (.iconst 1, 1) := lw_dr lw_d_cX12_worst_0 13 rfl
theorem dX12_worst_19 : decode cX12_worst 19 = .ok (.iadd, 1) := lw_dr lw_d_cX12_worst_0 14 rfl
theorem dX12_worst_20 : decode cX12_worst 20 = .ok (.istore 5, 2) := lw_dr lw_d_cX12_worst_0 15 rfl
theorem dX12_worst_22 : decode cX12_worst 22 = .ok (.iload 5, 2) := lw_dr lw_d_cX12_worst_0 16 rfl
theorem dX12_worst_24 : decode cX12_worst 24 = .ok (.aload_n 0, 1) := lw_dr lw_d_cX12_worst_0 17 rfl
theorem dX12_worst_25 : decode cX12_worst 25 = .ok (.getfield 237, 3) := lw_dr lw_d_cX12_worst_0 18 rfl
theorem dX12_worst_28 : decode cX12_worst 28 = .ok (.if_icmp .ge 63, 3) := lw_dr lw_d_cX12_worst_0 19 rfl
theorem dX12_worst_91 : decode cX12_worst 91 = .ok (.iinc 4 1, 3) := lw_dr lw_d_cX12_worst_0 20 rfl
theorem dX12_worst_94 : decode cX12_worst 94 = .ok (.goto (-87), 3) := lw_dr lw_d_cX12_worst_0 21 rfl
theorem dX12_worst_31 : decode cX12_worst 31 = .ok (.iload_n 1, 1) := lw_dr lw_d_cX12_worst_0 22 rfl
theorem dX12_worst_32 : decode cX12_worst 32 = .ok (.ifCond .eq 18, 3) := lw_dr lw_d_cX12_worst_0 23 rfl
theorem dX12_worst_50 : decode cX12_worst 50 = .ok (.aload_n 0, 1) := lw_dr lw_d_cX12_worst_0 24 rfl
theorem dX12_worst_51 : decode cX12_worst 51 = .ok (.iload 4, 2) := lw_dr lw_d_cX12_worst_0 25 rfl
theorem dX12_worst_53 : decode cX12_worst 53 = .ok (.iload 5, 2) := lw_dr lw_d_cX12_worst_0 26 rfl
theorem dX12_worst_55 : decode cX12_worst 55 = .ok (.aload_n 0, 1) := lw_dr lw_d_cX12_worst_0 27 rfl
theorem dX12_worst_56 : decode cX12_worst 56 = .ok (.getfield 69, 3) := lw_dr lw_d_cX12_worst_0 28 rfl
theorem dX12_worst_59 : decode cX12_worst 59 = .ok (.invokevirtual 367, 3) := lw_dr lw_d_cX12_worst_0 29 rfl
theorem dX12_worst_62 : decode cX12_worst 62 = .ok (.istore 6, 2) := lw_dr lw_d_cX12_worst_0 30 rfl
theorem dX12_worst_64 : decode cX12_worst 64 = .ok (.iload 6, 2) := lw_dr lw_d_cX12_worst_0 31 rfl
theorem dX12_worst_66 : decode cX12_worst 66 = .ok (.iload_n 3, 1) := lw_dr lw_d_cX12_worst_0 32 rfl
theorem dX12_worst_67 : decode cX12_worst 67 = .ok (.if_icmp .gt 6, 3) := lw_dr lw_d_cX12_worst_0 33 rfl
theorem dX12_worst_73 : decode cX12_worst 73 = .ok (.bipush 100, 2) := lw_dr lw_d_cX12_worst_0 34 rfl
theorem dX12_worst_75 : decode cX12_worst 75 = .ok (.iload 4, 2) := lw_dr lw_d_cX12_worst_0 35 rfl
theorem dX12_worst_77 : decode cX12_worst 77 = .ok (.imul, 1) := lw_dr lw_d_cX12_worst_0 36 rfl
theorem dX12_worst_78 : decode cX12_worst 78 = .ok (.iload 5, 2) := lw_dr lw_d_cX12_worst_0 37 rfl
theorem dX12_worst_80 : decode cX12_worst 80 = .ok (.iadd, 1) := lw_dr lw_d_cX12_worst_0 38 rfl
theorem dX12_worst_81 : decode cX12_worst 81 = .ok (.istore_n 2, 1) := lw_dr lw_d_cX12_worst_0 39 rfl
theorem lw_d_cX12_worst_82 : lw_dl cX12_worst [(82, .iload 6, 2), (84, .istore_n 3, 1), (85, .iinc 5 1, 3), (88, .goto (-66), 3), (70, .goto 15, 3), (35, .aload_n 0, 1), (36, .iload 4, 2), (38, .iload 5, 2), (40, .aload_n 0, 1), (41, .getfield 97, 3), (44, .invokevirtual 367, 3), (47, .goto 15, 3)] = true := by decide +kernel
theorem dX12_worst_82 : decode cX12_worst 82 = .ok (.iload 6, 2) := lw_dr lw_d_cX12_worst_82 0 rfl
theorem dX12_worst_84 : decode cX12_worst 84 = .ok (.istore_n 3, 1) := lw_dr lw_d_cX12_worst_82 1 rfl
theorem dX12_worst_85 : decode cX12_worst 85 = .ok (.iinc 5 1, 3) := lw_dr lw_d_cX12_worst_82 2 rfl
theorem dX12_worst_88 : decode cX12_worst 88 = .ok (.goto (-66), 3) := lw_dr lw_d_cX12_worst_82 3 rfl
theorem dX12_worst_70 : decode cX12_worst 70 = .ok (.goto 15, 3) := lw_dr lw_d_cX12_worst_82 4 rfl
theorem dX12_worst_35 : decode cX12_worst 35 = .ok (.aload_n 0, 1) := lw_dr lw_d_cX12_worst_82 5 rfl
theorem dX12_worst_36 : decode cX12_worst 36 = .ok (.iload 4, 2) := lw_dr lw_d_cX12_worst_82 6 rfl
theorem dX12_worst_38 : decode cX12_worst 38 = .ok (.iload 5, 2) := lw_dr lw_d_cX12_worst_82 7 rfl
theorem dX12_worst_40 : decode cX12_worst 40 = .ok (.aload_n 0, 1) := lw_dr lw_d_cX12_worst_82 8 rfl
theorem dX12_worst_41 : decode cX12_worst 41 = .ok (.getfield 97, 3) := lw_dr lw_d_cX12_worst_82 9 rfl
theorem dX12_worst_44 : decode cX12_worst 44 = .ok (.invokevirtual 367, 3) := lw_dr lw_d_cX12_worst_82 10 rfl
theorem dX12_worst_47 : decode cX12_worst 47 = .ok (.goto 15, 3) := lw_dr lw_d_cX12_worst_82 11 rfl
theorem lw_d_cX12_hear_0 : lw_dl cX12_hear [(0, .aload_n 0, 1), (1, .getfield 148, 3), (4, .istore_n 1, 1), (5, .aload_n 0, 1), (6, .iconst 0, 1), (7, .putfield 148, 3), (10, .iload_n 1, 1), (11, .iconst 2, 1), (12, .aload_n 0, 1), (13, .getfield 240, 3), (16, .imul, 1), (17, .if_icmp .eq 5, 3), (22, .iconst 0, 1), (23, .istore_n 2, 1), (24, .iload_n 2, 1), (25, .aload_n 0, 1), (26, .getfield 240, 3), (29, .if_icmp .ge 55, 3), (84, .iconst 1, 1), (85, .ireturn, 1), (32, .sipush 256, 3), (35, .aload_n 0, 1), (36, .getfield 7, 3), (39, .iconst 2, 1), (40, .iload_n 2, 1), (41, .imul, 1), (42, .iaload, 1), (43, .imul, 1), (44, .aload_n 0, 1), (45, .getfield 7, 3), (48, .iconst 2, 1), (49, .iload_n 2, 1), (50, .imul, 1), (51, .iconst 1, 1), (52, .iadd, 1), (53, .iaload, 1), (54, .iadd, 1), (55, .istore_n 3, 1), (56, .aload_n 0, 1), (57, .getfield 100, 3)] = true := by decide +kernel
theorem dX12_hear_0 : decode cX12_hear 0 = .ok (.aload_n 0, 1) := lw_dr lw_d_cX12_hear_0 0 rfl
theorem dX12_hear_1 : decode cX12_hear 1 = .ok (.getfield 148, 3) := lw_dr lw_d_cX12_hear_0 1 rfl
theorem dX12_hear_4 : decode cX12_hear 4 = .ok (.istore_n 1, 1) := lw_dr lw_d_cX12_hear_0 2 rfl
theorem dX12_hear_5 : decode cX12_hear 5 = .ok (.aload_n 0, 1) := lw_dr lw_d_cX12_hear_0 3 rfl
theorem dX12_hear_6 : decode cX12_hear 6 = .ok (.iconst 0, 1) := lw_dr lw_d_cX12_hear_0 4 rfl
theorem dX12_hear_7 : decode cX12_hear 7 = .ok (.putfield 148, 3) := lw_dr lw_d_cX12_hear_0 5 rfl
theorem dX12_hear_10 : decode cX12_hear 10 = .ok (.iload_n 1, 1) := lw_dr lw_d_cX12_hear_0 6 rfl
theorem dX12_hear_11 : decode cX12_hear 11 = .ok (.iconst 2, 1) := lw_dr lw_d_cX12_hear_0 7 rfl
theorem dX12_hear_12 : decode cX12_hear 12 = .ok (.aload_n 0, 1) := lw_dr lw_d_cX12_hear_0 8 rfl
theorem dX12_hear_13 : decode cX12_hear 13 = .ok (.getfield 240, 3) := lw_dr lw_d_cX12_hear_0 9 rfl
theorem dX12_hear_16 : decode cX12_hear 16 = .ok (.imul, 1) := lw_dr lw_d_cX12_hear_0 10 rfl
theorem dX12_hear_17 : decode cX12_hear 17 = .ok (.if_icmp .eq 5, 3) := lw_dr lw_d_cX12_hear_0 11 rfl
theorem dX12_hear_22 : decode cX12_hear 22 = .ok (.iconst 0, 1) := lw_dr lw_d_cX12_hear_0 12 rfl
theorem dX12_hear_23 : decode cX12_hear 23 = .ok (.istore_n 2, 1) := lw_dr lw_d_cX12_hear_0 13 rfl
theorem dX12_hear_24 : decode cX12_hear 24 = .ok (.iload_n 2, 1) := lw_dr lw_d_cX12_hear_0 14 rfl
theorem dX12_hear_25 : decode cX12_hear 25 = .ok (.aload_n 0, 1) := lw_dr lw_d_cX12_hear_0 15 rfl
theorem dX12_hear_26 : decode cX12_hear 26 = .ok (.getfield 240, 3) := lw_dr lw_d_cX12_hear_0 16 rfl
theorem dX12_hear_29 : decode cX12_hear 29 = .ok (.if_icmp .ge 55, 3) := lw_dr lw_d_cX12_hear_0 17 rfl
theorem dX12_hear_84 : decode cX12_hear 84 = .ok (.iconst 1, 1) := lw_dr lw_d_cX12_hear_0 18 rfl
theorem dX12_hear_85 : decode cX12_hear 85 = .ok (.ireturn, 1) := lw_dr lw_d_cX12_hear_0 19 rfl
theorem dX12_hear_32 : decode cX12_hear 32 = .ok (.sipush 256, 3) := lw_dr lw_d_cX12_hear_0 20 rfl
theorem dX12_hear_35 : decode cX12_hear 35 = .ok (.aload_n 0, 1) := lw_dr lw_d_cX12_hear_0 21 rfl
theorem dX12_hear_36 : decode cX12_hear 36 = .ok (.getfield 7, 3) := lw_dr lw_d_cX12_hear_0 22 rfl
theorem dX12_hear_39 : decode cX12_hear 39 = .ok (.iconst 2, 1) := lw_dr lw_d_cX12_hear_0 23 rfl
theorem dX12_hear_40 : decode cX12_hear 40 = .ok (.iload_n 2, 1) := lw_dr lw_d_cX12_hear_0 24 rfl
theorem dX12_hear_41 : decode cX12_hear 41 = .ok (.imul, 1) := lw_dr lw_d_cX12_hear_0 25 rfl
theorem dX12_hear_42 : decode cX12_hear 42 = .ok (.iaload, 1) := lw_dr lw_d_cX12_hear_0 26 rfl
theorem dX12_hear_43 : decode cX12_hear 43 = .ok (.imul, 1) := lw_dr lw_d_cX12_hear_0 27 rfl
theorem dX12_hear_44 : decode cX12_hear 44 = .ok (.aload_n 0, 1) := lw_dr lw_d_cX12_hear_0 28 rfl
theorem dX12_hear_45 : decode cX12_hear 45 = .ok (.getfield 7, 3) := lw_dr lw_d_cX12_hear_0 29 rfl
theorem dX12_hear_48 : decode cX12_hear 48 = .ok (.iconst 2, 1) := lw_dr lw_d_cX12_hear_0 30 rfl
theorem dX12_hear_49 : decode cX12_hear 49 = .ok (.iload_n 2, 1) := lw_dr lw_d_cX12_hear_0 31 rfl
theorem dX12_hear_50 : decode cX12_hear 50 = .ok (.imul, 1) := lw_dr lw_d_cX12_hear_0 32 rfl
theorem dX12_hear_51 : decode cX12_hear 51 = .ok (.iconst 1, 1) := lw_dr lw_d_cX12_hear_0 33 rfl
theorem dX12_hear_52 : decode cX12_hear 52 = .ok (.iadd, 1) := lw_dr lw_d_cX12_hear_0 34 rfl
theorem dX12_hear_53 : decode cX12_hear 53 = .ok (.iaload, 1) := lw_dr lw_d_cX12_hear_0 35 rfl
theorem dX12_hear_54 : decode cX12_hear 54 = .ok (.iadd, 1) := lw_dr lw_d_cX12_hear_0 36 rfl
theorem dX12_hear_55 : decode cX12_hear 55 = .ok (.istore_n 3, 1) := lw_dr lw_d_cX12_hear_0 37 rfl
theorem dX12_hear_56 : decode cX12_hear 56 = .ok (.aload_n 0, 1) := lw_dr lw_d_cX12_hear_0 38 rfl
theorem dX12_hear_57 : decode cX12_hear 57 = .ok (.getfield 100, 3) := lw_dr lw_d_cX12_hear_0 39 rfl
theorem lw_d_cX12_hear_60 : lw_dl cX12_hear [(60, .iload_n 2, 1), (61, .iload_n 3, 1), (62, .sipush 32767, 3), (65, .if_icmp .le 11, 3), (76, .iload_n 3, 1), (77, .iastore, 1), (78, .iinc 2 1, 3), (81, .goto (-57), 3), (68, .iload_n 3, 1), (69, .ldc_w 370, 3), (72, .isub, 1), (73, .goto 4, 3), (20, .iconst 0, 1), (21, .ireturn, 1)] = true := by decide +kernel
theorem dX12_hear_60 : decode cX12_hear 60 = .ok (.iload_n 2, 1) := lw_dr lw_d_cX12_hear_60 0 rfl
theorem dX12_hear_61 : decode cX12_hear 61 = .ok (.iload_n 3, 1) := lw_dr lw_d_cX12_hear_60 1 rfl
theorem dX12_hear_62 : decode cX12_hear 62 = .ok (.sipush 32767, 3) := lw_dr lw_d_cX12_hear_60 2 rfl
theorem dX12_hear_65 : decode cX12_hear 65 = .ok (.if_icmp .le 11, 3) := lw_dr lw_d_cX12_hear_60 3 rfl
theorem dX12_hear_76 : decode cX12_hear 76 = .ok (.iload_n 3, 1) := lw_dr lw_d_cX12_hear_60 4 rfl
theorem dX12_hear_77 : decode cX12_hear 77 = .ok (.iastore, 1) := lw_dr lw_d_cX12_hear_60 5 rfl
theorem dX12_hear_78 : decode cX12_hear 78 = .ok (.iinc 2 1, 3) := lw_dr lw_d_cX12_hear_60 6 rfl
theorem dX12_hear_81 : decode cX12_hear 81 = .ok (.goto (-57), 3) := lw_dr lw_d_cX12_hear_60 7 rfl
theorem dX12_hear_68 : decode cX12_hear 68 = .ok (.iload_n 3, 1) := lw_dr lw_d_cX12_hear_60 8 rfl
theorem dX12_hear_69 : decode cX12_hear 69 = .ok (.ldc_w 370, 3) := lw_dr lw_d_cX12_hear_60 9 rfl
theorem dX12_hear_72 : decode cX12_hear 72 = .ok (.isub, 1) := lw_dr lw_d_cX12_hear_60 10 rfl
theorem dX12_hear_73 : decode cX12_hear 73 = .ok (.goto 4, 3) := lw_dr lw_d_cX12_hear_60 11 rfl
theorem dX12_hear_20 : decode cX12_hear 20 = .ok (.iconst 0, 1) := lw_dr lw_d_cX12_hear_60 12 rfl
theorem dX12_hear_21 : decode cX12_hear 21 = .ok (.ireturn, 1) := lw_dr lw_d_cX12_hear_60 13 rfl
theorem lw_d_cX12_heard_0 : lw_dl cX12_heard [(0, .aload_n 0, 1), (1, .iload_n 1, 1), (2, .invokevirtual 358, 3), (5, .ifCond .eq 12, 3), (17, .ldc_w 364, 3), (20, .ireturn, 1), (8, .aload_n 0, 1), (9, .getfield 100, 3), (12, .iload_n 1, 1), (13, .iaload, 1), (14, .goto 6, 3)] = true := by decide +kernel
theorem dX12_heard_0 : decode cX12_heard 0 = .ok (.aload_n 0, 1) := lw_dr lw_d_cX12_heard_0 0 rfl
theorem dX12_heard_1 : decode cX12_heard 1 = .ok (.iload_n 1, 1) := lw_dr lw_d_cX12_heard_0 1 rfl
theorem dX12_heard_2 : decode cX12_heard 2 = .ok (.invokevirtual 358, 3) := lw_dr lw_d_cX12_heard_0 2 rfl
theorem dX12_heard_5 : decode cX12_heard 5 = .ok (.ifCond .eq 12, 3) := lw_dr lw_d_cX12_heard_0 3 rfl
theorem dX12_heard_17 : decode cX12_heard 17 = .ok (.ldc_w 364, 3) := lw_dr lw_d_cX12_heard_0 4 rfl
theorem dX12_heard_20 : decode cX12_heard 20 = .ok (.ireturn, 1) := lw_dr lw_d_cX12_heard_0 5 rfl
theorem dX12_heard_8 : decode cX12_heard 8 = .ok (.aload_n 0, 1) := lw_dr lw_d_cX12_heard_0 6 rfl
theorem dX12_heard_9 : decode cX12_heard 9 = .ok (.getfield 100, 3) := lw_dr lw_d_cX12_heard_0 7 rfl
theorem dX12_heard_12 : decode cX12_heard 12 = .ok (.iload_n 1, 1) := lw_dr lw_d_cX12_heard_0 8 rfl
theorem dX12_heard_13 : decode cX12_heard 13 = .ok (.iaload, 1) := lw_dr lw_d_cX12_heard_0 9 rfl
theorem dX12_heard_14 : decode cX12_heard 14 = .ok (.goto 6, 3) := lw_dr lw_d_cX12_heard_0 10 rfl
theorem lw_d_cX12_send_0 : lw_dl cX12_send [(0, .aload_n 0, 1), (1, .invokevirtual 377, 3), (4, .ifCond .ne 5, 3), (9, .iconst 0, 1), (10, .istore_n 1, 1), (11, .iload_n 1, 1), (12, .aload_n 0, 1), (13, .getfield 240, 3), (16, .if_icmp .ge 20, 3), (36, .iconst 1, 1), (37, .ireturn, 1), (19, .aload_n 0, 1), (20, .getfield 100, 3), (23, .iload_n 1, 1), (24, .aload_n 0, 1), (25, .iload_n 1, 1), (26, .invokevirtual 374, 3), (29, .iastore, 1), (30, .iinc 1 1, 3), (33, .goto (-22), 3), (7, .iconst 0, 1), (8, .ireturn, 1)] = true := by decide +kernel
theorem dX12_send_0 : decode cX12_send 0 = .ok (.aload_n 0, 1) := lw_dr lw_d_cX12_send_0 0 rfl
theorem dX12_send_1 : decode cX12_send 1 = .ok (.invokevirtual 377, 3) := lw_dr lw_d_cX12_send_0 1 rfl
theorem dX12_send_4 : decode cX12_send 4 = .ok (.ifCond .ne 5, 3) := lw_dr lw_d_cX12_send_0 2 rfl
theorem dX12_send_9 : decode cX12_send 9 = .ok (.iconst 0, 1) := lw_dr lw_d_cX12_send_0 3 rfl
theorem dX12_send_10 : decode cX12_send 10 = .ok (.istore_n 1, 1) := lw_dr lw_d_cX12_send_0 4 rfl
theorem dX12_send_11 : decode cX12_send 11 = .ok (.iload_n 1, 1) := lw_dr lw_d_cX12_send_0 5 rfl
theorem dX12_send_12 : decode cX12_send 12 = .ok (.aload_n 0, 1) := lw_dr lw_d_cX12_send_0 6 rfl
theorem dX12_send_13 : decode cX12_send 13 = .ok (.getfield 240, 3) := lw_dr lw_d_cX12_send_0 7 rfl
theorem dX12_send_16 : decode cX12_send 16 = .ok (.if_icmp .ge 20, 3) := lw_dr lw_d_cX12_send_0 8 rfl
theorem dX12_send_36 : decode cX12_send 36 = .ok (.iconst 1, 1) := lw_dr lw_d_cX12_send_0 9 rfl
theorem dX12_send_37 : decode cX12_send 37 = .ok (.ireturn, 1) := lw_dr lw_d_cX12_send_0 10 rfl
theorem dX12_send_19 : decode cX12_send 19 = .ok (.aload_n 0, 1) := lw_dr lw_d_cX12_send_0 11 rfl
theorem dX12_send_20 : decode cX12_send 20 = .ok (.getfield 100, 3) := lw_dr lw_d_cX12_send_0 12 rfl
theorem dX12_send_23 : decode cX12_send 23 = .ok (.iload_n 1, 1) := lw_dr lw_d_cX12_send_0 13 rfl
theorem dX12_send_24 : decode cX12_send 24 = .ok (.aload_n 0, 1) := lw_dr lw_d_cX12_send_0 14 rfl
theorem dX12_send_25 : decode cX12_send 25 = .ok (.iload_n 1, 1) := lw_dr lw_d_cX12_send_0 15 rfl
theorem dX12_send_26 : decode cX12_send 26 = .ok (.invokevirtual 374, 3) := lw_dr lw_d_cX12_send_0 16 rfl
theorem dX12_send_29 : decode cX12_send 29 = .ok (.iastore, 1) := lw_dr lw_d_cX12_send_0 17 rfl
theorem dX12_send_30 : decode cX12_send 30 = .ok (.iinc 1 1, 3) := lw_dr lw_d_cX12_send_0 18 rfl
theorem dX12_send_33 : decode cX12_send 33 = .ok (.goto (-22), 3) := lw_dr lw_d_cX12_send_0 19 rfl
theorem dX12_send_7 : decode cX12_send 7 = .ok (.iconst 0, 1) := lw_dr lw_d_cX12_send_0 20 rfl
theorem dX12_send_8 : decode cX12_send 8 = .ok (.ireturn, 1) := lw_dr lw_d_cX12_send_0 21 rfl
theorem lw_d_cX12_isRowTold_0 : lw_dl cX12_isRowTold [(0, .aload_n 0, 1), (1, .getfield 148, 3), (4, .istore_n 1, 1), (5, .aload_n 0, 1), (6, .iconst 0, 1), (7, .putfield 148, 3), (10, .aload_n 0, 1), (11, .getfield 237, 3), (14, .ifCond .eq 11, 3), (25, .iconst 0, 1), (26, .ireturn, 1), (17, .iload_n 1, 1), (18, .aload_n 0, 1), (19, .getfield 237, 3), (22, .if_icmp .eq 5, 3), (27, .iconst 0, 1), (28, .istore_n 2, 1), (29, .iload_n 2, 1), (30, .aload_n 0, 1), (31, .getfield 237, 3), (34, .if_icmp .ge 60, 3), (37, .aload_n 0, 1), (38, .getfield 103, 3), (41, .iload_n 2, 1), (42, .aload_n 0, 1), (43, .getfield 7, 3), (46, .iload_n 2, 1), (47, .iaload, 1), (48, .bipush 127, 2), (50, .if_icmp .le 16, 3), (66, .aload_n 0, 1), (67, .getfield 7, 3), (70, .iload_n 2, 1), (71, .iaload, 1), (72, .iastore, 1), (73, .aload_n 0, 1), (74, .aload_n 0, 1), (75, .getfield 103, 3), (78, .iload_n 2, 1), (79, .iaload, 1)] = true := by decide +kernel
theorem dX12_isRowTold_0 : decode cX12_isRowTold 0 = .ok (.aload_n 0, 1) := lw_dr lw_d_cX12_isRowTold_0 0 rfl
theorem dX12_isRowTold_1 : decode cX12_isRowTold 1 = .ok (.getfield 148, 3) := lw_dr lw_d_cX12_isRowTold_0 1 rfl
theorem dX12_isRowTold_4 : decode cX12_isRowTold 4 = .ok (.istore_n 1, 1) := lw_dr lw_d_cX12_isRowTold_0 2 rfl
theorem dX12_isRowTold_5 : decode cX12_isRowTold 5 = .ok (.aload_n 0, 1) := lw_dr lw_d_cX12_isRowTold_0 3 rfl
theorem dX12_isRowTold_6 : decode cX12_isRowTold 6 = .ok (.iconst 0, 1) := lw_dr lw_d_cX12_isRowTold_0 4 rfl
theorem dX12_isRowTold_7 : decode cX12_isRowTold 7 = .ok (.putfield 148, 3) := lw_dr lw_d_cX12_isRowTold_0 5 rfl
theorem dX12_isRowTold_10 : decode cX12_isRowTold 10 = .ok (.aload_n 0, 1) := lw_dr lw_d_cX12_isRowTold_0 6 rfl
theorem dX12_isRowTold_11 : decode cX12_isRowTold 11 = .ok (.getfield 237, 3) := lw_dr lw_d_cX12_isRowTold_0 7 rfl
theorem dX12_isRowTold_14 : decode cX12_isRowTold 14 = .ok (.ifCond .eq 11, 3) := lw_dr lw_d_cX12_isRowTold_0 8 rfl
theorem dX12_isRowTold_25 : decode cX12_isRowTold 25 = .ok (.iconst 0, 1) := lw_dr lw_d_cX12_isRowTold_0 9 rfl
theorem dX12_isRowTold_26 : decode cX12_isRowTold 26 = .ok (.ireturn, 1) := lw_dr lw_d_cX12_isRowTold_0 10 rfl
theorem dX12_isRowTold_17 : decode cX12_isRowTold 17 = .ok (.iload_n 1, 1) := lw_dr lw_d_cX12_isRowTold_0 11 rfl
theorem dX12_isRowTold_18 : decode cX12_isRowTold 18 = .ok (.aload_n 0, 1) := lw_dr lw_d_cX12_isRowTold_0 12 rfl
theorem dX12_isRowTold_19 : decode cX12_isRowTold 19 = .ok (.getfield 237, 3) := lw_dr lw_d_cX12_isRowTold_0 13 rfl
theorem dX12_isRowTold_22 : decode cX12_isRowTold 22 = .ok (.if_icmp .eq 5, 3) := lw_dr lw_d_cX12_isRowTold_0 14 rfl
theorem dX12_isRowTold_27 : decode cX12_isRowTold 27 = .ok (.iconst 0, 1) := lw_dr lw_d_cX12_isRowTold_0 15 rfl
theorem dX12_isRowTold_28 : decode cX12_isRowTold 28 = .ok (.istore_n 2, 1) := lw_dr lw_d_cX12_isRowTold_0 16 rfl
theorem dX12_isRowTold_29 : decode cX12_isRowTold 29 = .ok (.iload_n 2, 1) := lw_dr lw_d_cX12_isRowTold_0 17 rfl
theorem dX12_isRowTold_30 : decode cX12_isRowTold 30 = .ok (.aload_n 0, 1) := lw_dr lw_d_cX12_isRowTold_0 18 rfl
theorem dX12_isRowTold_31 : decode cX12_isRowTold 31 = .ok (.getfield 237, 3) := lw_dr lw_d_cX12_isRowTold_0 19 rfl
theorem dX12_isRowTold_34 : decode cX12_isRowTold 34 = .ok (.if_icmp .ge 60, 3) := lw_dr lw_d_cX12_isRowTold_0 20 rfl
theorem dX12_isRowTold_37 : decode cX12_isRowTold 37 = .ok (.aload_n 0, 1) := lw_dr lw_d_cX12_isRowTold_0 21 rfl
theorem dX12_isRowTold_38 : decode cX12_isRowTold 38 = .ok (.getfield 103, 3) := lw_dr lw_d_cX12_isRowTold_0 22 rfl
theorem dX12_isRowTold_41 : decode cX12_isRowTold 41 = .ok (.iload_n 2, 1) := lw_dr lw_d_cX12_isRowTold_0 23 rfl
theorem dX12_isRowTold_42 : decode cX12_isRowTold 42 = .ok (.aload_n 0, 1) := lw_dr lw_d_cX12_isRowTold_0 24 rfl
theorem dX12_isRowTold_43 : decode cX12_isRowTold 43 = .ok (.getfield 7, 3) := lw_dr lw_d_cX12_isRowTold_0 25 rfl
theorem dX12_isRowTold_46 : decode cX12_isRowTold 46 = .ok (.iload_n 2, 1) := lw_dr lw_d_cX12_isRowTold_0 26 rfl
theorem dX12_isRowTold_47 : decode cX12_isRowTold 47 = .ok (.iaload, 1) := lw_dr lw_d_cX12_isRowTold_0 27 rfl
theorem dX12_isRowTold_48 : decode cX12_isRowTold 48 = .ok (.bipush 127, 2) := lw_dr lw_d_cX12_isRowTold_0 28 rfl
theorem dX12_isRowTold_50 : decode cX12_isRowTold 50 = .ok (.if_icmp .le 16, 3) := lw_dr lw_d_cX12_isRowTold_0 29 rfl
theorem dX12_isRowTold_66 : decode cX12_isRowTold 66 = .ok (.aload_n 0, 1) := lw_dr lw_d_cX12_isRowTold_0 30 rfl
theorem dX12_isRowTold_67 : decode cX12_isRowTold 67 = .ok (.getfield 7, 3) := lw_dr lw_d_cX12_isRowTold_0 31 rfl
theorem dX12_isRowTold_70 : decode cX12_isRowTold 70 = .ok (.iload_n 2, 1) := lw_dr lw_d_cX12_isRowTold_0 32 rfl
theorem dX12_isRowTold_71 : decode cX12_isRowTold 71 = .ok (.iaload, 1) := lw_dr lw_d_cX12_isRowTold_0 33 rfl
theorem dX12_isRowTold_72 : decode cX12_isRowTold 72 = .ok (.iastore, 1) := lw_dr lw_d_cX12_isRowTold_0 34 rfl
theorem dX12_isRowTold_73 : decode cX12_isRowTold 73 = .ok (.aload_n 0, 1) := lw_dr lw_d_cX12_isRowTold_0 35 rfl
theorem dX12_isRowTold_74 : decode cX12_isRowTold 74 = .ok (.aload_n 0, 1) := lw_dr lw_d_cX12_isRowTold_0 36 rfl
theorem dX12_isRowTold_75 : decode cX12_isRowTold 75 = .ok (.getfield 103, 3) := lw_dr lw_d_cX12_isRowTold_0 37 rfl
theorem dX12_isRowTold_78 : decode cX12_isRowTold 78 = .ok (.iload_n 2, 1) := lw_dr lw_d_cX12_isRowTold_0 38 rfl
theorem dX12_isRowTold_79 : decode cX12_isRowTold 79 = .ok (.iaload, 1) := lw_dr lw_d_cX12_isRowTold_0 39 rfl
theorem lw_d_cX12_isRowTold_80 : lw_dl cX12_isRowTold [(80, .invokevirtual 371, 3), (83, .ifCond .ne 5, 3), (88, .iinc 2 1, 3), (91, .goto (-62), 3), (86, .iconst 0, 1), (87, .ireturn, 1), (53, .aload_n 0, 1), (54, .getfield 7, 3), (57, .iload_n 2, 1), (58, .iaload, 1), (59, .sipush 256, 3), (62, .isub, 1), (63, .goto 9, 3), (94, .iconst 1, 1), (95, .ireturn, 1)] = true := by decide +kernel
theorem dX12_isRowTold_80 : decode cX12_isRowTold 80 = .ok (.invokevirtual 371, 3) := lw_dr lw_d_cX12_isRowTold_80 0 rfl
theorem dX12_isRowTold_83 : decode cX12_isRowTold 83 = .ok (.ifCond .ne 5, 3) := lw_dr lw_d_cX12_isRowTold_80 1 rfl
theorem dX12_isRowTold_88 : decode cX12_isRowTold 88 = .ok (.iinc 2 1, 3) := lw_dr lw_d_cX12_isRowTold_80 2 rfl
theorem dX12_isRowTold_91 : decode cX12_isRowTold 91 = .ok (.goto (-62), 3) := lw_dr lw_d_cX12_isRowTold_80 3 rfl
theorem dX12_isRowTold_86 : decode cX12_isRowTold 86 = .ok (.iconst 0, 1) := lw_dr lw_d_cX12_isRowTold_80 4 rfl
theorem dX12_isRowTold_87 : decode cX12_isRowTold 87 = .ok (.ireturn, 1) := lw_dr lw_d_cX12_isRowTold_80 5 rfl
theorem dX12_isRowTold_53 : decode cX12_isRowTold 53 = .ok (.aload_n 0, 1) := lw_dr lw_d_cX12_isRowTold_80 6 rfl
theorem dX12_isRowTold_54 : decode cX12_isRowTold 54 = .ok (.getfield 7, 3) := lw_dr lw_d_cX12_isRowTold_80 7 rfl
theorem dX12_isRowTold_57 : decode cX12_isRowTold 57 = .ok (.iload_n 2, 1) := lw_dr lw_d_cX12_isRowTold_80 8 rfl
theorem dX12_isRowTold_58 : decode cX12_isRowTold 58 = .ok (.iaload, 1) := lw_dr lw_d_cX12_isRowTold_80 9 rfl
theorem dX12_isRowTold_59 : decode cX12_isRowTold 59 = .ok (.sipush 256, 3) := lw_dr lw_d_cX12_isRowTold_80 10 rfl
theorem dX12_isRowTold_62 : decode cX12_isRowTold 62 = .ok (.isub, 1) := lw_dr lw_d_cX12_isRowTold_80 11 rfl
theorem dX12_isRowTold_63 : decode cX12_isRowTold 63 = .ok (.goto 9, 3) := lw_dr lw_d_cX12_isRowTold_80 12 rfl
theorem dX12_isRowTold_94 : decode cX12_isRowTold 94 = .ok (.iconst 1, 1) := lw_dr lw_d_cX12_isRowTold_80 13 rfl
theorem dX12_isRowTold_95 : decode cX12_isRowTold 95 = .ok (.ireturn, 1) := lw_dr lw_d_cX12_isRowTold_80 14 rfl
theorem lw_d_cX12_isLetterOf_0 : lw_dl cX12_isLetterOf [(0, .iload_n 1, 1), (1, .i2l, 1), (2, .iconst 1, 1), (3, .aload_n 0, 1), (4, .getfield 234, 3), (7, .isub, 1), (8, .i2l, 1), (9, .aload_n 0, 1), (10, .getfield 234, 3), (13, .iconst 1, 1), (14, .isub, 1), (15, .i2l, 1), (16, .invokestatic 191, 3), (19, .ifCond .eq 20, 3), (39, .iconst 0, 1), (40, .ireturn, 1), (22, .iload_n 1, 1), (23, .aload_n 0, 1), (24, .getfield 234, 3), (27, .iadd, 1), (28, .iconst 1, 1), (29, .isub, 1), (30, .iconst 2, 1), (31, .irem, 1), (32, .ifCond .ne 7, 3), (35, .iconst 1, 1), (36, .goto 4, 3)] = true := by decide +kernel
theorem dX12_isLetterOf_0 : decode cX12_isLetterOf 0 = .ok (.iload_n 1, 1) := lw_dr lw_d_cX12_isLetterOf_0 0 rfl
theorem dX12_isLetterOf_1 : decode cX12_isLetterOf 1 = .ok (.i2l, 1) := lw_dr lw_d_cX12_isLetterOf_0 1 rfl
theorem dX12_isLetterOf_2 : decode cX12_isLetterOf 2 = .ok (.iconst 1, 1) := lw_dr lw_d_cX12_isLetterOf_0 2 rfl
theorem dX12_isLetterOf_3 : decode cX12_isLetterOf 3 = .ok (.aload_n 0, 1) := lw_dr lw_d_cX12_isLetterOf_0 3 rfl
theorem dX12_isLetterOf_4 : decode cX12_isLetterOf 4 = .ok (.getfield 234, 3) := lw_dr lw_d_cX12_isLetterOf_0 4 rfl
theorem dX12_isLetterOf_7 : decode cX12_isLetterOf 7 = .ok (.isub, 1) := lw_dr lw_d_cX12_isLetterOf_0 5 rfl
theorem dX12_isLetterOf_8 : decode cX12_isLetterOf 8 = .ok (.i2l, 1) := lw_dr lw_d_cX12_isLetterOf_0 6 rfl
theorem dX12_isLetterOf_9 : decode cX12_isLetterOf 9 = .ok (.aload_n 0, 1) := lw_dr lw_d_cX12_isLetterOf_0 7 rfl
theorem dX12_isLetterOf_10 : decode cX12_isLetterOf 10 = .ok (.getfield 234, 3) := lw_dr lw_d_cX12_isLetterOf_0 8 rfl
theorem dX12_isLetterOf_13 : decode cX12_isLetterOf 13 = .ok (.iconst 1, 1) := lw_dr lw_d_cX12_isLetterOf_0 9 rfl
theorem dX12_isLetterOf_14 : decode cX12_isLetterOf 14 = .ok (.isub, 1) := lw_dr lw_d_cX12_isLetterOf_0 10 rfl
theorem dX12_isLetterOf_15 : decode cX12_isLetterOf 15 = .ok (.i2l, 1) := lw_dr lw_d_cX12_isLetterOf_0 11 rfl
theorem dX12_isLetterOf_16 : decode cX12_isLetterOf 16 = .ok (.invokestatic 191, 3) := lw_dr lw_d_cX12_isLetterOf_0 12 rfl
theorem dX12_isLetterOf_19 : decode cX12_isLetterOf 19 = .ok (.ifCond .eq 20, 3) := lw_dr lw_d_cX12_isLetterOf_0 13 rfl
theorem dX12_isLetterOf_39 : decode cX12_isLetterOf 39 = .ok (.iconst 0, 1) := lw_dr lw_d_cX12_isLetterOf_0 14 rfl
theorem dX12_isLetterOf_40 : decode cX12_isLetterOf 40 = .ok (.ireturn, 1) := lw_dr lw_d_cX12_isLetterOf_0 15 rfl
theorem dX12_isLetterOf_22 : decode cX12_isLetterOf 22 = .ok (.iload_n 1, 1) := lw_dr lw_d_cX12_isLetterOf_0 16 rfl
theorem dX12_isLetterOf_23 : decode cX12_isLetterOf 23 = .ok (.aload_n 0, 1) := lw_dr lw_d_cX12_isLetterOf_0 17 rfl
theorem dX12_isLetterOf_24 : decode cX12_isLetterOf 24 = .ok (.getfield 234, 3) := lw_dr lw_d_cX12_isLetterOf_0 18 rfl
theorem dX12_isLetterOf_27 : decode cX12_isLetterOf 27 = .ok (.iadd, 1) := lw_dr lw_d_cX12_isLetterOf_0 19 rfl
theorem dX12_isLetterOf_28 : decode cX12_isLetterOf 28 = .ok (.iconst 1, 1) := lw_dr lw_d_cX12_isLetterOf_0 20 rfl
theorem dX12_isLetterOf_29 : decode cX12_isLetterOf 29 = .ok (.isub, 1) := lw_dr lw_d_cX12_isLetterOf_0 21 rfl
theorem dX12_isLetterOf_30 : decode cX12_isLetterOf 30 = .ok (.iconst 2, 1) := lw_dr lw_d_cX12_isLetterOf_0 22 rfl
theorem dX12_isLetterOf_31 : decode cX12_isLetterOf 31 = .ok (.irem, 1) := lw_dr lw_d_cX12_isLetterOf_0 23 rfl
theorem dX12_isLetterOf_32 : decode cX12_isLetterOf 32 = .ok (.ifCond .ne 7, 3) := lw_dr lw_d_cX12_isLetterOf_0 24 rfl
theorem dX12_isLetterOf_35 : decode cX12_isLetterOf 35 = .ok (.iconst 1, 1) := lw_dr lw_d_cX12_isLetterOf_0 25 rfl
theorem dX12_isLetterOf_36 : decode cX12_isLetterOf 36 = .ok (.goto 4, 3) := lw_dr lw_d_cX12_isLetterOf_0 26 rfl
theorem lw_d_cX12_sentTo_0 : lw_dl cX12_sentTo [(0, .iconst 0, 1), (1, .istore_n 2, 1), (2, .iconst 0, 1), (3, .istore_n 3, 1), (4, .iload_n 3, 1), (5, .aload_n 0, 1), (6, .getfield 237, 3), (9, .if_icmp .ge 29, 3), (38, .iload_n 2, 1), (39, .ireturn, 1), (12, .iload_n 2, 1), (13, .aload_n 0, 1), (14, .getfield 69, 3), (17, .iconst 5, 1), (18, .iload_n 1, 1), (19, .imul, 1), (20, .iload_n 3, 1), (21, .iadd, 1), (22, .iaload, 1), (23, .aload_n 0, 1), (24, .getfield 103, 3), (27, .iload_n 3, 1), (28, .iaload, 1), (29, .imul, 1), (30, .iadd, 1), (31, .istore_n 2, 1), (32, .iinc 3 1, 3), (35, .goto (-31), 3)] = true := by decide +kernel
theorem dX12_sentTo_0 : decode cX12_sentTo 0 = .ok (.iconst 0, 1) := lw_dr lw_d_cX12_sentTo_0 0 rfl
theorem dX12_sentTo_1 : decode cX12_sentTo 1 = .ok (.istore_n 2, 1) := lw_dr lw_d_cX12_sentTo_0 1 rfl
theorem dX12_sentTo_2 : decode cX12_sentTo 2 = .ok (.iconst 0, 1) := lw_dr lw_d_cX12_sentTo_0 2 rfl
theorem dX12_sentTo_3 : decode cX12_sentTo 3 = .ok (.istore_n 3, 1) := lw_dr lw_d_cX12_sentTo_0 3 rfl
theorem dX12_sentTo_4 : decode cX12_sentTo 4 = .ok (.iload_n 3, 1) := lw_dr lw_d_cX12_sentTo_0 4 rfl
theorem dX12_sentTo_5 : decode cX12_sentTo 5 = .ok (.aload_n 0, 1) := lw_dr lw_d_cX12_sentTo_0 5 rfl
theorem dX12_sentTo_6 : decode cX12_sentTo 6 = .ok (.getfield 237, 3) := lw_dr lw_d_cX12_sentTo_0 6 rfl
theorem dX12_sentTo_9 : decode cX12_sentTo 9 = .ok (.if_icmp .ge 29, 3) := lw_dr lw_d_cX12_sentTo_0 7 rfl
theorem dX12_sentTo_38 : decode cX12_sentTo 38 = .ok (.iload_n 2, 1) := lw_dr lw_d_cX12_sentTo_0 8 rfl
theorem dX12_sentTo_39 : decode cX12_sentTo 39 = .ok (.ireturn, 1) := lw_dr lw_d_cX12_sentTo_0 9 rfl
theorem dX12_sentTo_12 : decode cX12_sentTo 12 = .ok (.iload_n 2, 1) := lw_dr lw_d_cX12_sentTo_0 10 rfl
theorem dX12_sentTo_13 : decode cX12_sentTo 13 = .ok (.aload_n 0, 1) := lw_dr lw_d_cX12_sentTo_0 11 rfl
theorem dX12_sentTo_14 : decode cX12_sentTo 14 = .ok (.getfield 69, 3) := lw_dr lw_d_cX12_sentTo_0 12 rfl
theorem dX12_sentTo_17 : decode cX12_sentTo 17 = .ok (.iconst 5, 1) := lw_dr lw_d_cX12_sentTo_0 13 rfl
theorem dX12_sentTo_18 : decode cX12_sentTo 18 = .ok (.iload_n 1, 1) := lw_dr lw_d_cX12_sentTo_0 14 rfl
theorem dX12_sentTo_19 : decode cX12_sentTo 19 = .ok (.imul, 1) := lw_dr lw_d_cX12_sentTo_0 15 rfl
theorem dX12_sentTo_20 : decode cX12_sentTo 20 = .ok (.iload_n 3, 1) := lw_dr lw_d_cX12_sentTo_0 16 rfl
theorem dX12_sentTo_21 : decode cX12_sentTo 21 = .ok (.iadd, 1) := lw_dr lw_d_cX12_sentTo_0 17 rfl
theorem dX12_sentTo_22 : decode cX12_sentTo 22 = .ok (.iaload, 1) := lw_dr lw_d_cX12_sentTo_0 18 rfl
theorem dX12_sentTo_23 : decode cX12_sentTo 23 = .ok (.aload_n 0, 1) := lw_dr lw_d_cX12_sentTo_0 19 rfl
theorem dX12_sentTo_24 : decode cX12_sentTo 24 = .ok (.getfield 103, 3) := lw_dr lw_d_cX12_sentTo_0 20 rfl
theorem dX12_sentTo_27 : decode cX12_sentTo 27 = .ok (.iload_n 3, 1) := lw_dr lw_d_cX12_sentTo_0 21 rfl
theorem dX12_sentTo_28 : decode cX12_sentTo 28 = .ok (.iaload, 1) := lw_dr lw_d_cX12_sentTo_0 22 rfl
theorem dX12_sentTo_29 : decode cX12_sentTo 29 = .ok (.imul, 1) := lw_dr lw_d_cX12_sentTo_0 23 rfl
theorem dX12_sentTo_30 : decode cX12_sentTo 30 = .ok (.iadd, 1) := lw_dr lw_d_cX12_sentTo_0 24 rfl
theorem dX12_sentTo_31 : decode cX12_sentTo 31 = .ok (.istore_n 2, 1) := lw_dr lw_d_cX12_sentTo_0 25 rfl
theorem dX12_sentTo_32 : decode cX12_sentTo 32 = .ok (.iinc 3 1, 3) := lw_dr lw_d_cX12_sentTo_0 26 rfl
theorem dX12_sentTo_35 : decode cX12_sentTo 35 = .ok (.goto (-31), 3) := lw_dr lw_d_cX12_sentTo_0 27 rfl
theorem lw_d_cX12_distance_0 : lw_dl cX12_distance [(0, .aload_n 0, 1), (1, .invokevirtual 377, 3)] = true := by decide +kernel
theorem dX12_distance_0 : decode cX12_distance 0 = .ok (.aload_n 0, 1) := lw_dr lw_d_cX12_distance_0 0 rfl
theorem dX12_distance_1 : decode cX12_distance 1 = .ok (.invokevirtual 377, 3) := lw_dr lw_d_cX12_distance_0 1 rfl
theorem lw_d_cX12_distance_4 : lw_dl cX12_distance [(4, .ifCond .eq 11, 3), (15, .ldc2_w 384, 3), (18, .lreturn, 1), (7, .aload_n 0, 1), (8, .iconst 1, 1), (9, .invokevirtual 380, 3), (12, .goto 6, 3)] = true := by decide +kernel
theorem dX12_distance_4 : decode cX12_distance 4 = .ok (.ifCond .eq 11, 3) := lw_dr lw_d_cX12_distance_4 0 rfl
theorem dX12_distance_15 : decode cX12_distance 15 = .ok (.ldc2_w 384, 3) := lw_dr lw_d_cX12_distance_4 1 rfl
theorem dX12_distance_18 : decode cX12_distance 18 = .ok (.lreturn, 1) := lw_dr lw_d_cX12_distance_4 2 rfl
theorem dX12_distance_7 : decode cX12_distance 7 = .ok (.aload_n 0, 1) := lw_dr lw_d_cX12_distance_4 3 rfl
theorem dX12_distance_8 : decode cX12_distance 8 = .ok (.iconst 1, 1) := lw_dr lw_d_cX12_distance_4 4 rfl
theorem dX12_distance_9 : decode cX12_distance 9 = .ok (.invokevirtual 380, 3) := lw_dr lw_d_cX12_distance_4 5 rfl
theorem dX12_distance_12 : decode cX12_distance 12 = .ok (.goto 6, 3) := lw_dr lw_d_cX12_distance_4 6 rfl
theorem lw_d_cX12_squaresLess_0 : lw_dl cX12_squaresLess [(0, .lconst 0, 1), (1, .lstore_n 2, 1), (2, .iconst 0, 1), (3, .istore 4, 2), (5, .iload 4, 2), (7, .aload_n 0, 1), (8, .getfield 240, 3), (11, .if_icmp .ge 42, 3), (53, .lload_n 2, 1), (54, .lreturn, 1), (14, .iload_n 1, 1), (15, .ifCond .eq 13, 3), (28, .iconst 0, 1), (29, .aload_n 0, 1), (30, .iload 4, 2), (32, .invokevirtual 374, 3), (35, .isub, 1), (36, .i2l, 1), (37, .lstore 5, 2), (39, .lload_n 2, 1), (40, .lload 5, 2), (42, .lload 5, 2), (44, .lmul, 1), (45, .ladd, 1), (46, .lstore_n 2, 1), (47, .iinc 4 1, 3), (50, .goto (-45), 3), (18, .aload_n 0, 1), (19, .getfield 100, 3), (22, .iload 4, 2), (24, .iaload, 1), (25, .goto 4, 3)] = true := by decide +kernel
theorem dX12_squaresLess_0 : decode cX12_squaresLess 0 = .ok (.lconst 0, 1) := lw_dr lw_d_cX12_squaresLess_0 0 rfl
theorem dX12_squaresLess_1 : decode cX12_squaresLess 1 = .ok (.lstore_n 2, 1) := lw_dr lw_d_cX12_squaresLess_0 1 rfl
theorem dX12_squaresLess_2 : decode cX12_squaresLess 2 = .ok (.iconst 0, 1) := lw_dr lw_d_cX12_squaresLess_0 2 rfl
theorem dX12_squaresLess_3 : decode cX12_squaresLess 3 = .ok (.istore 4, 2) := lw_dr lw_d_cX12_squaresLess_0 3 rfl
theorem dX12_squaresLess_5 : decode cX12_squaresLess 5 = .ok (.iload 4, 2) := lw_dr lw_d_cX12_squaresLess_0 4 rfl
theorem dX12_squaresLess_7 : decode cX12_squaresLess 7 = .ok (.aload_n 0, 1) := lw_dr lw_d_cX12_squaresLess_0 5 rfl
theorem dX12_squaresLess_8 : decode cX12_squaresLess 8 = .ok (.getfield 240, 3) := lw_dr lw_d_cX12_squaresLess_0 6 rfl
theorem dX12_squaresLess_11 : decode cX12_squaresLess 11 = .ok (.if_icmp .ge 42, 3) := lw_dr lw_d_cX12_squaresLess_0 7 rfl
theorem dX12_squaresLess_53 : decode cX12_squaresLess 53 = .ok (.lload_n 2, 1) := lw_dr lw_d_cX12_squaresLess_0 8 rfl
theorem dX12_squaresLess_54 : decode cX12_squaresLess 54 = .ok (.lreturn, 1) := lw_dr lw_d_cX12_squaresLess_0 9 rfl
theorem dX12_squaresLess_14 : decode cX12_squaresLess 14 = .ok (.iload_n 1, 1) := lw_dr lw_d_cX12_squaresLess_0 10 rfl
theorem dX12_squaresLess_15 : decode cX12_squaresLess 15 = .ok (.ifCond .eq 13, 3) := lw_dr lw_d_cX12_squaresLess_0 11 rfl
theorem dX12_squaresLess_28 : decode cX12_squaresLess 28 = .ok (.iconst 0, 1) := lw_dr lw_d_cX12_squaresLess_0 12 rfl
theorem dX12_squaresLess_29 : decode cX12_squaresLess 29 = .ok (.aload_n 0, 1) := lw_dr lw_d_cX12_squaresLess_0 13 rfl
theorem dX12_squaresLess_30 : decode cX12_squaresLess 30 = .ok (.iload 4, 2) := lw_dr lw_d_cX12_squaresLess_0 14 rfl
theorem dX12_squaresLess_32 : decode cX12_squaresLess 32 = .ok (.invokevirtual 374, 3) := lw_dr lw_d_cX12_squaresLess_0 15 rfl
theorem dX12_squaresLess_35 : decode cX12_squaresLess 35 = .ok (.isub, 1) := lw_dr lw_d_cX12_squaresLess_0 16 rfl
theorem dX12_squaresLess_36 : decode cX12_squaresLess 36 = .ok (.i2l, 1) := lw_dr lw_d_cX12_squaresLess_0 17 rfl
theorem dX12_squaresLess_37 : decode cX12_squaresLess 37 = .ok (.lstore 5, 2) := lw_dr lw_d_cX12_squaresLess_0 18 rfl
theorem dX12_squaresLess_39 : decode cX12_squaresLess 39 = .ok (.lload_n 2, 1) := lw_dr lw_d_cX12_squaresLess_0 19 rfl
theorem dX12_squaresLess_40 : decode cX12_squaresLess 40 = .ok (.lload 5, 2) := lw_dr lw_d_cX12_squaresLess_0 20 rfl
theorem dX12_squaresLess_42 : decode cX12_squaresLess 42 = .ok (.lload 5, 2) := lw_dr lw_d_cX12_squaresLess_0 21 rfl
theorem dX12_squaresLess_44 : decode cX12_squaresLess 44 = .ok (.lmul, 1) := lw_dr lw_d_cX12_squaresLess_0 22 rfl
theorem dX12_squaresLess_45 : decode cX12_squaresLess 45 = .ok (.ladd, 1) := lw_dr lw_d_cX12_squaresLess_0 23 rfl
theorem dX12_squaresLess_46 : decode cX12_squaresLess 46 = .ok (.lstore_n 2, 1) := lw_dr lw_d_cX12_squaresLess_0 24 rfl
theorem dX12_squaresLess_47 : decode cX12_squaresLess 47 = .ok (.iinc 4 1, 3) := lw_dr lw_d_cX12_squaresLess_0 25 rfl
theorem dX12_squaresLess_50 : decode cX12_squaresLess 50 = .ok (.goto (-45), 3) := lw_dr lw_d_cX12_squaresLess_0 26 rfl
theorem dX12_squaresLess_18 : decode cX12_squaresLess 18 = .ok (.aload_n 0, 1) := lw_dr lw_d_cX12_squaresLess_0 27 rfl
theorem dX12_squaresLess_19 : decode cX12_squaresLess 19 = .ok (.getfield 100, 3) := lw_dr lw_d_cX12_squaresLess_0 28 rfl
theorem dX12_squaresLess_22 : decode cX12_squaresLess 22 = .ok (.iload 4, 2) := lw_dr lw_d_cX12_squaresLess_0 29 rfl
theorem dX12_squaresLess_24 : decode cX12_squaresLess 24 = .ok (.iaload, 1) := lw_dr lw_d_cX12_squaresLess_0 30 rfl
theorem dX12_squaresLess_25 : decode cX12_squaresLess 25 = .ok (.goto 4, 3) := lw_dr lw_d_cX12_squaresLess_0 31 rfl
theorem lw_d_cX12_slips_0 : lw_dl cX12_slips [(0, .iload_n 1, 1), (1, .i2l, 1), (2, .lconst 0, 1), (3, .ldc2_w 398, 3), (6, .invokestatic 191, 3), (9, .ifCond .eq 14, 3), (23, .iconst (-1), 1), (24, .ireturn, 1), (12, .iload_n 2, 1), (13, .ifCond .lt 10, 3), (16, .aload_n 0, 1), (17, .getfield 240, 3), (20, .ifCond .ne 5, 3), (25, .aload_n 0, 1), (26, .iload_n 2, 1), (27, .i2l, 1), (28, .putfield 388, 3), (31, .iconst 0, 1), (32, .istore_n 3, 1), (33, .iload_n 3, 1), (34, .aload_n 0, 1), (35, .getfield 240, 3), (38, .if_icmp .ge 65, 3), (41, .aload_n 0, 1), (42, .getfield 100, 3), (45, .iload_n 3, 1), (46, .iaload, 1), (47, .aload_n 0, 1), (48, .iconst 2, 1), (49, .iload_n 1, 1), (50, .imul, 1), (51, .iconst 1, 1), (52, .iadd, 1), (53, .invokevirtual 400, 3), (56, .iadd, 1), (57, .iload_n 1, 1), (58, .isub, 1), (59, .istore 4, 2), (61, .aload_n 0, 1), (62, .getfield 100, 3)] = true := by decide +kernel
theorem dX12_slips_0 : decode cX12_slips 0 = .ok (.iload_n 1, 1) := lw_dr lw_d_cX12_slips_0 0 rfl
theorem dX12_slips_1 : decode cX12_slips 1 = .ok (.i2l, 1) := lw_dr lw_d_cX12_slips_0 1 rfl
theorem dX12_slips_2 : decode cX12_slips 2 = .ok (.lconst 0, 1) := lw_dr lw_d_cX12_slips_0 2 rfl
theorem dX12_slips_3 : decode cX12_slips 3 = .ok (.ldc2_w 398, 3) := lw_dr lw_d_cX12_slips_0 3 rfl
theorem dX12_slips_6 : decode cX12_slips 6 = .ok (.invokestatic 191, 3) := lw_dr lw_d_cX12_slips_0 4 rfl
theorem dX12_slips_9 : decode cX12_slips 9 = .ok (.ifCond .eq 14, 3) := lw_dr lw_d_cX12_slips_0 5 rfl
theorem dX12_slips_23 : decode cX12_slips 23 = .ok (.iconst (-1), 1) := lw_dr lw_d_cX12_slips_0 6 rfl
theorem dX12_slips_24 : decode cX12_slips 24 = .ok (.ireturn, 1) := lw_dr lw_d_cX12_slips_0 7 rfl
theorem dX12_slips_12 : decode cX12_slips 12 = .ok (.iload_n 2, 1) := lw_dr lw_d_cX12_slips_0 8 rfl
theorem dX12_slips_13 : decode cX12_slips 13 = .ok (.ifCond .lt 10, 3) := lw_dr lw_d_cX12_slips_0 9 rfl
theorem dX12_slips_16 : decode cX12_slips 16 = .ok (.aload_n 0, 1) := lw_dr lw_d_cX12_slips_0 10 rfl
theorem dX12_slips_17 : decode cX12_slips 17 = .ok (.getfield 240, 3) := lw_dr lw_d_cX12_slips_0 11 rfl
theorem dX12_slips_20 : decode cX12_slips 20 = .ok (.ifCond .ne 5, 3) := lw_dr lw_d_cX12_slips_0 12 rfl
theorem dX12_slips_25 : decode cX12_slips 25 = .ok (.aload_n 0, 1) := lw_dr lw_d_cX12_slips_0 13 rfl
theorem dX12_slips_26 : decode cX12_slips 26 = .ok (.iload_n 2, 1) := lw_dr lw_d_cX12_slips_0 14 rfl
theorem dX12_slips_27 : decode cX12_slips 27 = .ok (.i2l, 1) := lw_dr lw_d_cX12_slips_0 15 rfl
theorem dX12_slips_28 : decode cX12_slips 28 = .ok (.putfield 388, 3) := lw_dr lw_d_cX12_slips_0 16 rfl
theorem dX12_slips_31 : decode cX12_slips 31 = .ok (.iconst 0, 1) := lw_dr lw_d_cX12_slips_0 17 rfl
theorem dX12_slips_32 : decode cX12_slips 32 = .ok (.istore_n 3, 1) := lw_dr lw_d_cX12_slips_0 18 rfl
theorem dX12_slips_33 : decode cX12_slips 33 = .ok (.iload_n 3, 1) := lw_dr lw_d_cX12_slips_0 19 rfl
theorem dX12_slips_34 : decode cX12_slips 34 = .ok (.aload_n 0, 1) := lw_dr lw_d_cX12_slips_0 20 rfl
theorem dX12_slips_35 : decode cX12_slips 35 = .ok (.getfield 240, 3) := lw_dr lw_d_cX12_slips_0 21 rfl
theorem dX12_slips_38 : decode cX12_slips 38 = .ok (.if_icmp .ge 65, 3) := lw_dr lw_d_cX12_slips_0 22 rfl
theorem dX12_slips_41 : decode cX12_slips 41 = .ok (.aload_n 0, 1) := lw_dr lw_d_cX12_slips_0 23 rfl
theorem dX12_slips_42 : decode cX12_slips 42 = .ok (.getfield 100, 3) := lw_dr lw_d_cX12_slips_0 24 rfl
theorem dX12_slips_45 : decode cX12_slips 45 = .ok (.iload_n 3, 1) := lw_dr lw_d_cX12_slips_0 25 rfl
theorem dX12_slips_46 : decode cX12_slips 46 = .ok (.iaload, 1) := lw_dr lw_d_cX12_slips_0 26 rfl
theorem dX12_slips_47 : decode cX12_slips 47 = .ok (.aload_n 0, 1) := lw_dr lw_d_cX12_slips_0 27 rfl
theorem dX12_slips_48 : decode cX12_slips 48 = .ok (.iconst 2, 1) := lw_dr lw_d_cX12_slips_0 28 rfl
theorem dX12_slips_49 : decode cX12_slips 49 = .ok (.iload_n 1, 1) := lw_dr lw_d_cX12_slips_0 29 rfl
theorem dX12_slips_50 : decode cX12_slips 50 = .ok (.imul, 1) := lw_dr lw_d_cX12_slips_0 30 rfl
theorem dX12_slips_51 : decode cX12_slips 51 = .ok (.iconst 1, 1) := lw_dr lw_d_cX12_slips_0 31 rfl
theorem dX12_slips_52 : decode cX12_slips 52 = .ok (.iadd, 1) := lw_dr lw_d_cX12_slips_0 32 rfl
theorem dX12_slips_53 : decode cX12_slips 53 = .ok (.invokevirtual 400, 3) := lw_dr lw_d_cX12_slips_0 33 rfl
theorem dX12_slips_56 : decode cX12_slips 56 = .ok (.iadd, 1) := lw_dr lw_d_cX12_slips_0 34 rfl
theorem dX12_slips_57 : decode cX12_slips 57 = .ok (.iload_n 1, 1) := lw_dr lw_d_cX12_slips_0 35 rfl
theorem dX12_slips_58 : decode cX12_slips 58 = .ok (.isub, 1) := lw_dr lw_d_cX12_slips_0 36 rfl
theorem dX12_slips_59 : decode cX12_slips 59 = .ok (.istore 4, 2) := lw_dr lw_d_cX12_slips_0 37 rfl
theorem dX12_slips_61 : decode cX12_slips 61 = .ok (.aload_n 0, 1) := lw_dr lw_d_cX12_slips_0 38 rfl
theorem dX12_slips_62 : decode cX12_slips 62 = .ok (.getfield 100, 3) := lw_dr lw_d_cX12_slips_0 39 rfl
theorem lw_d_cX12_slips_65 : lw_dl cX12_slips [(65, .iload_n 3, 1), (66, .iload 4, 2), (68, .sipush 32767, 3), (71, .if_icmp .le 9, 3), (80, .iload 4, 2), (82, .sipush (-32768), 3), (85, .if_icmp .ge 9, 3), (94, .iload 4, 2), (96, .iastore, 1), (97, .iinc 3 1, 3), (100, .goto (-67), 3), (88, .sipush (-32768), 3), (91, .goto 5, 3), (74, .sipush 32767, 3), (77, .goto 19, 3), (103, .aload_n 0, 1), (104, .getfield 240, 3), (107, .ireturn, 1)] = true := by decide +kernel
theorem dX12_slips_65 : decode cX12_slips 65 = .ok (.iload_n 3, 1) := lw_dr lw_d_cX12_slips_65 0 rfl
theorem dX12_slips_66 : decode cX12_slips 66 = .ok (.iload 4, 2) := lw_dr lw_d_cX12_slips_65 1 rfl
theorem dX12_slips_68 : decode cX12_slips 68 = .ok (.sipush 32767, 3) := lw_dr lw_d_cX12_slips_65 2 rfl
theorem dX12_slips_71 : decode cX12_slips 71 = .ok (.if_icmp .le 9, 3) := lw_dr lw_d_cX12_slips_65 3 rfl
theorem dX12_slips_80 : decode cX12_slips 80 = .ok (.iload 4, 2) := lw_dr lw_d_cX12_slips_65 4 rfl
theorem dX12_slips_82 : decode cX12_slips 82 = .ok (.sipush (-32768), 3) := lw_dr lw_d_cX12_slips_65 5 rfl
theorem dX12_slips_85 : decode cX12_slips 85 = .ok (.if_icmp .ge 9, 3) := lw_dr lw_d_cX12_slips_65 6 rfl
theorem dX12_slips_94 : decode cX12_slips 94 = .ok (.iload 4, 2) := lw_dr lw_d_cX12_slips_65 7 rfl
theorem dX12_slips_96 : decode cX12_slips 96 = .ok (.iastore, 1) := lw_dr lw_d_cX12_slips_65 8 rfl
theorem dX12_slips_97 : decode cX12_slips 97 = .ok (.iinc 3 1, 3) := lw_dr lw_d_cX12_slips_65 9 rfl
theorem dX12_slips_100 : decode cX12_slips 100 = .ok (.goto (-67), 3) := lw_dr lw_d_cX12_slips_65 10 rfl
theorem dX12_slips_88 : decode cX12_slips 88 = .ok (.sipush (-32768), 3) := lw_dr lw_d_cX12_slips_65 11 rfl
theorem dX12_slips_91 : decode cX12_slips 91 = .ok (.goto 5, 3) := lw_dr lw_d_cX12_slips_65 12 rfl
theorem dX12_slips_74 : decode cX12_slips 74 = .ok (.sipush 32767, 3) := lw_dr lw_d_cX12_slips_65 13 rfl
theorem dX12_slips_77 : decode cX12_slips 77 = .ok (.goto 19, 3) := lw_dr lw_d_cX12_slips_65 14 rfl
theorem dX12_slips_103 : decode cX12_slips 103 = .ok (.aload_n 0, 1) := lw_dr lw_d_cX12_slips_65 15 rfl
theorem dX12_slips_104 : decode cX12_slips 104 = .ok (.getfield 240, 3) := lw_dr lw_d_cX12_slips_65 16 rfl
theorem dX12_slips_107 : decode cX12_slips 107 = .ok (.ireturn, 1) := lw_dr lw_d_cX12_slips_65 17 rfl
theorem lw_d_cX12_drawOf_0 : lw_dl cX12_drawOf [(0, .aload_n 0, 1), (1, .ldc2_w 386, 3), (4, .aload_n 0, 1), (5, .getfield 388, 3), (8, .lmul, 1), (9, .ldc2_w 392, 3), (12, .ladd, 1), (13, .ldc2_w 394, 3), (16, .lrem, 1), (17, .putfield 388, 3), (20, .aload_n 0, 1), (21, .getfield 388, 3), (24, .ldc2_w 396, 3), (27, .ldiv, 1), (28, .iload_n 1, 1), (29, .i2l, 1), (30, .lrem, 1), (31, .l2i, 1), (32, .ireturn, 1)] = true := by decide +kernel
theorem dX12_drawOf_0 : decode cX12_drawOf 0 = .ok (.aload_n 0, 1) := lw_dr lw_d_cX12_drawOf_0 0 rfl
theorem dX12_drawOf_1 : decode cX12_drawOf 1 = .ok (.ldc2_w 386, 3) := lw_dr lw_d_cX12_drawOf_0 1 rfl
theorem dX12_drawOf_4 : decode cX12_drawOf 4 = .ok (.aload_n 0, 1) := lw_dr lw_d_cX12_drawOf_0 2 rfl
theorem dX12_drawOf_5 : decode cX12_drawOf 5 = .ok (.getfield 388, 3) := lw_dr lw_d_cX12_drawOf_0 3 rfl
theorem dX12_drawOf_8 : decode cX12_drawOf 8 = .ok (.lmul, 1) := lw_dr lw_d_cX12_drawOf_0 4 rfl
theorem dX12_drawOf_9 : decode cX12_drawOf 9 = .ok (.ldc2_w 392, 3) := lw_dr lw_d_cX12_drawOf_0 5 rfl
theorem dX12_drawOf_12 : decode cX12_drawOf 12 = .ok (.ladd, 1) := lw_dr lw_d_cX12_drawOf_0 6 rfl
theorem dX12_drawOf_13 : decode cX12_drawOf 13 = .ok (.ldc2_w 394, 3) := lw_dr lw_d_cX12_drawOf_0 7 rfl
theorem dX12_drawOf_16 : decode cX12_drawOf 16 = .ok (.lrem, 1) := lw_dr lw_d_cX12_drawOf_0 8 rfl
theorem dX12_drawOf_17 : decode cX12_drawOf 17 = .ok (.putfield 388, 3) := lw_dr lw_d_cX12_drawOf_0 9 rfl
theorem dX12_drawOf_20 : decode cX12_drawOf 20 = .ok (.aload_n 0, 1) := lw_dr lw_d_cX12_drawOf_0 10 rfl
theorem dX12_drawOf_21 : decode cX12_drawOf 21 = .ok (.getfield 388, 3) := lw_dr lw_d_cX12_drawOf_0 11 rfl
theorem dX12_drawOf_24 : decode cX12_drawOf 24 = .ok (.ldc2_w 396, 3) := lw_dr lw_d_cX12_drawOf_0 12 rfl
theorem dX12_drawOf_27 : decode cX12_drawOf 27 = .ok (.ldiv, 1) := lw_dr lw_d_cX12_drawOf_0 13 rfl
theorem dX12_drawOf_28 : decode cX12_drawOf 28 = .ok (.iload_n 1, 1) := lw_dr lw_d_cX12_drawOf_0 14 rfl
theorem dX12_drawOf_29 : decode cX12_drawOf 29 = .ok (.i2l, 1) := lw_dr lw_d_cX12_drawOf_0 15 rfl
theorem dX12_drawOf_30 : decode cX12_drawOf 30 = .ok (.lrem, 1) := lw_dr lw_d_cX12_drawOf_0 16 rfl
theorem dX12_drawOf_31 : decode cX12_drawOf 31 = .ok (.l2i, 1) := lw_dr lw_d_cX12_drawOf_0 17 rfl
theorem dX12_drawOf_32 : decode cX12_drawOf 32 = .ok (.ireturn, 1) := lw_dr lw_d_cX12_drawOf_0 18 rfl
theorem lw_d_cX12_nearest_0 : lw_dl cX12_nearest [(0, .aload_n 0, 1), (1, .iload_n 2, 1), (2, .invokevirtual 361, 3), (5, .ifCond .eq 11, 3), (16, .ldc_w 364, 3), (19, .ireturn, 1), (8, .aload_n 0, 1), (9, .iload_n 1, 1), (10, .invokevirtual 416, 3), (13, .ifCond .ne 7, 3), (20, .aload_n 0, 1), (21, .aload_n 0, 1), (22, .getfield 109, 3), (25, .iload_n 1, 1), (26, .iaload, 1), (27, .invokevirtual 403, 3), (30, .aload_n 0, 1), (31, .getfield 103, 3), (34, .iload_n 2, 1), (35, .iaload, 1), (36, .ireturn, 1)] = true := by decide +kernel
theorem dX12_nearest_0 : decode cX12_nearest 0 = .ok (.aload_n 0, 1) := lw_dr lw_d_cX12_nearest_0 0 rfl
theorem dX12_nearest_1 : decode cX12_nearest 1 = .ok (.iload_n 2, 1) := lw_dr lw_d_cX12_nearest_0 1 rfl
theorem dX12_nearest_2 : decode cX12_nearest 2 = .ok (.invokevirtual 361, 3) := lw_dr lw_d_cX12_nearest_0 2 rfl
theorem dX12_nearest_5 : decode cX12_nearest 5 = .ok (.ifCond .eq 11, 3) := lw_dr lw_d_cX12_nearest_0 3 rfl
theorem dX12_nearest_16 : decode cX12_nearest 16 = .ok (.ldc_w 364, 3) := lw_dr lw_d_cX12_nearest_0 4 rfl
theorem dX12_nearest_19 : decode cX12_nearest 19 = .ok (.ireturn, 1) := lw_dr lw_d_cX12_nearest_0 5 rfl
theorem dX12_nearest_8 : decode cX12_nearest 8 = .ok (.aload_n 0, 1) := lw_dr lw_d_cX12_nearest_0 6 rfl
theorem dX12_nearest_9 : decode cX12_nearest 9 = .ok (.iload_n 1, 1) := lw_dr lw_d_cX12_nearest_0 7 rfl
theorem dX12_nearest_10 : decode cX12_nearest 10 = .ok (.invokevirtual 416, 3) := lw_dr lw_d_cX12_nearest_0 8 rfl
theorem dX12_nearest_13 : decode cX12_nearest 13 = .ok (.ifCond .ne 7, 3) := lw_dr lw_d_cX12_nearest_0 9 rfl
theorem dX12_nearest_20 : decode cX12_nearest 20 = .ok (.aload_n 0, 1) := lw_dr lw_d_cX12_nearest_0 10 rfl
theorem dX12_nearest_21 : decode cX12_nearest 21 = .ok (.aload_n 0, 1) := lw_dr lw_d_cX12_nearest_0 11 rfl
theorem dX12_nearest_22 : decode cX12_nearest 22 = .ok (.getfield 109, 3) := lw_dr lw_d_cX12_nearest_0 12 rfl
theorem dX12_nearest_25 : decode cX12_nearest 25 = .ok (.iload_n 1, 1) := lw_dr lw_d_cX12_nearest_0 13 rfl
theorem dX12_nearest_26 : decode cX12_nearest 26 = .ok (.iaload, 1) := lw_dr lw_d_cX12_nearest_0 14 rfl
theorem dX12_nearest_27 : decode cX12_nearest 27 = .ok (.invokevirtual 403, 3) := lw_dr lw_d_cX12_nearest_0 15 rfl
theorem dX12_nearest_30 : decode cX12_nearest 30 = .ok (.aload_n 0, 1) := lw_dr lw_d_cX12_nearest_0 16 rfl
theorem dX12_nearest_31 : decode cX12_nearest 31 = .ok (.getfield 103, 3) := lw_dr lw_d_cX12_nearest_0 17 rfl
theorem dX12_nearest_34 : decode cX12_nearest 34 = .ok (.iload_n 2, 1) := lw_dr lw_d_cX12_nearest_0 18 rfl
theorem dX12_nearest_35 : decode cX12_nearest 35 = .ok (.iaload, 1) := lw_dr lw_d_cX12_nearest_0 19 rfl
theorem dX12_nearest_36 : decode cX12_nearest 36 = .ok (.ireturn, 1) := lw_dr lw_d_cX12_nearest_0 20 rfl
theorem lw_d_cX12_isNear_0 : lw_dl cX12_isNear [(0, .iload_n 1, 1), (1, .i2l, 1), (2, .lconst 0, 1), (3, .ldc2_w 332, 3), (6, .invokestatic 191, 3), (9, .ifCond .eq 20, 3), (29, .iconst 0, 1), (30, .ireturn, 1), (12, .aload_n 0, 1), (13, .iload_n 1, 1), (14, .iconst 1, 1), (15, .iadd, 1), (16, .invokevirtual 413, 3), (19, .iload_n 1, 1), (20, .iconst 1, 1), (21, .iadd, 1), (22, .if_icmp .ne 7, 3), (25, .iconst 1, 1), (26, .goto 4, 3)] = true := by decide +kernel
theorem dX12_isNear_0 : decode cX12_isNear 0 = .ok (.iload_n 1, 1) := lw_dr lw_d_cX12_isNear_0 0 rfl
theorem dX12_isNear_1 : decode cX12_isNear 1 = .ok (.i2l, 1) := lw_dr lw_d_cX12_isNear_0 1 rfl
theorem dX12_isNear_2 : decode cX12_isNear 2 = .ok (.lconst 0, 1) := lw_dr lw_d_cX12_isNear_0 2 rfl
theorem dX12_isNear_3 : decode cX12_isNear 3 = .ok (.ldc2_w 332, 3) := lw_dr lw_d_cX12_isNear_0 3 rfl
theorem dX12_isNear_6 : decode cX12_isNear 6 = .ok (.invokestatic 191, 3) := lw_dr lw_d_cX12_isNear_0 4 rfl
theorem dX12_isNear_9 : decode cX12_isNear 9 = .ok (.ifCond .eq 20, 3) := lw_dr lw_d_cX12_isNear_0 5 rfl
theorem dX12_isNear_29 : decode cX12_isNear 29 = .ok (.iconst 0, 1) := lw_dr lw_d_cX12_isNear_0 6 rfl
theorem dX12_isNear_30 : decode cX12_isNear 30 = .ok (.ireturn, 1) := lw_dr lw_d_cX12_isNear_0 7 rfl
theorem dX12_isNear_12 : decode cX12_isNear 12 = .ok (.aload_n 0, 1) := lw_dr lw_d_cX12_isNear_0 8 rfl
theorem dX12_isNear_13 : decode cX12_isNear 13 = .ok (.iload_n 1, 1) := lw_dr lw_d_cX12_isNear_0 9 rfl
theorem dX12_isNear_14 : decode cX12_isNear 14 = .ok (.iconst 1, 1) := lw_dr lw_d_cX12_isNear_0 10 rfl
theorem dX12_isNear_15 : decode cX12_isNear 15 = .ok (.iadd, 1) := lw_dr lw_d_cX12_isNear_0 11 rfl
theorem dX12_isNear_16 : decode cX12_isNear 16 = .ok (.invokevirtual 413, 3) := lw_dr lw_d_cX12_isNear_0 12 rfl
theorem dX12_isNear_19 : decode cX12_isNear 19 = .ok (.iload_n 1, 1) := lw_dr lw_d_cX12_isNear_0 13 rfl
theorem dX12_isNear_20 : decode cX12_isNear 20 = .ok (.iconst 1, 1) := lw_dr lw_d_cX12_isNear_0 14 rfl
theorem dX12_isNear_21 : decode cX12_isNear 21 = .ok (.iadd, 1) := lw_dr lw_d_cX12_isNear_0 15 rfl
theorem dX12_isNear_22 : decode cX12_isNear 22 = .ok (.if_icmp .ne 7, 3) := lw_dr lw_d_cX12_isNear_0 16 rfl
theorem dX12_isNear_25 : decode cX12_isNear 25 = .ok (.iconst 1, 1) := lw_dr lw_d_cX12_isNear_0 17 rfl
theorem dX12_isNear_26 : decode cX12_isNear 26 = .ok (.goto 4, 3) := lw_dr lw_d_cX12_isNear_0 18 rfl
theorem lw_d_cX12_nears_0 : lw_dl cX12_nears [(0, .iconst 0, 1), (1, .istore_n 2, 1), (2, .iconst 0, 1), (3, .istore_n 3, 1), (4, .iload_n 3, 1), (5, .aload_n 0, 1), (6, .invokevirtual 406, 3), (9, .if_icmp .ge 126, 3), (135, .iload_n 2, 1), (136, .ireturn, 1), (12, .aload_n 0, 1), (13, .iload_n 3, 1), (14, .invokevirtual 409, 3), (17, .lstore 4, 2), (19, .iload_n 2, 1), (20, .iload_n 1, 1), (21, .if_icmp .ne 20, 3), (41, .iload_n 2, 1), (42, .iload_n 1, 1), (43, .if_icmp .ge 6, 3), (46, .iinc 2 1, 3), (49, .iload_n 2, 1), (50, .iconst 1, 1), (51, .isub, 1), (52, .istore 6, 2), (54, .iload 6, 2), (56, .ifCond .le 56, 3), (112, .aload_n 0, 1), (113, .getfield 106, 3), (116, .iload 6, 2), (118, .lload 4, 2), (120, .lastore, 1), (121, .aload_n 0, 1), (122, .getfield 109, 3), (125, .iload 6, 2), (127, .iload_n 3, 1), (128, .iastore, 1), (129, .iinc 3 1, 3), (132, .goto (-128), 3), (59, .aload_n 0, 1)] = true := by decide +kernel
theorem dX12_nears_0 : decode cX12_nears 0 = .ok (.iconst 0, 1) := lw_dr lw_d_cX12_nears_0 0 rfl
theorem dX12_nears_1 : decode cX12_nears 1 = .ok (.istore_n 2, 1) := lw_dr lw_d_cX12_nears_0 1 rfl
theorem dX12_nears_2 : decode cX12_nears 2 = .ok (.iconst 0, 1) := lw_dr lw_d_cX12_nears_0 2 rfl
theorem dX12_nears_3 : decode cX12_nears 3 = .ok (.istore_n 3, 1) := lw_dr lw_d_cX12_nears_0 3 rfl
theorem dX12_nears_4 : decode cX12_nears 4 = .ok (.iload_n 3, 1) := lw_dr lw_d_cX12_nears_0 4 rfl
theorem dX12_nears_5 : decode cX12_nears 5 = .ok (.aload_n 0, 1) := lw_dr lw_d_cX12_nears_0 5 rfl
theorem dX12_nears_6 : decode cX12_nears 6 = .ok (.invokevirtual 406, 3) := lw_dr lw_d_cX12_nears_0 6 rfl
theorem dX12_nears_9 : decode cX12_nears 9 = .ok (.if_icmp .ge 126, 3) := lw_dr lw_d_cX12_nears_0 7 rfl
theorem dX12_nears_135 : decode cX12_nears 135 = .ok (.iload_n 2, 1) := lw_dr lw_d_cX12_nears_0 8 rfl
theorem dX12_nears_136 : decode cX12_nears 136 = .ok (.ireturn, 1) := lw_dr lw_d_cX12_nears_0 9 rfl
theorem dX12_nears_12 : decode cX12_nears 12 = .ok (.aload_n 0, 1) := lw_dr lw_d_cX12_nears_0 10 rfl
theorem dX12_nears_13 : decode cX12_nears 13 = .ok (.iload_n 3, 1) := lw_dr lw_d_cX12_nears_0 11 rfl
theorem dX12_nears_14 : decode cX12_nears 14 = .ok (.invokevirtual 409, 3) := lw_dr lw_d_cX12_nears_0 12 rfl
theorem dX12_nears_17 : decode cX12_nears 17 = .ok (.lstore 4, 2) := lw_dr lw_d_cX12_nears_0 13 rfl
theorem dX12_nears_19 : decode cX12_nears 19 = .ok (.iload_n 2, 1) := lw_dr lw_d_cX12_nears_0 14 rfl
theorem dX12_nears_20 : decode cX12_nears 20 = .ok (.iload_n 1, 1) := lw_dr lw_d_cX12_nears_0 15 rfl
theorem dX12_nears_21 : decode cX12_nears 21 = .ok (.if_icmp .ne 20, 3) := lw_dr lw_d_cX12_nears_0 16 rfl
theorem dX12_nears_41 : decode cX12_nears 41 = .ok (.iload_n 2, 1) := lw_dr lw_d_cX12_nears_0 17 rfl
theorem dX12_nears_42 : decode cX12_nears 42 = .ok (.iload_n 1, 1) := lw_dr lw_d_cX12_nears_0 18 rfl
theorem dX12_nears_43 : decode cX12_nears 43 = .ok (.if_icmp .ge 6, 3) := lw_dr lw_d_cX12_nears_0 19 rfl
theorem dX12_nears_46 : decode cX12_nears 46 = .ok (.iinc 2 1, 3) := lw_dr lw_d_cX12_nears_0 20 rfl
theorem dX12_nears_49 : decode cX12_nears 49 = .ok (.iload_n 2, 1) := lw_dr lw_d_cX12_nears_0 21 rfl
theorem dX12_nears_50 : decode cX12_nears 50 = .ok (.iconst 1, 1) := lw_dr lw_d_cX12_nears_0 22 rfl
theorem dX12_nears_51 : decode cX12_nears 51 = .ok (.isub, 1) := lw_dr lw_d_cX12_nears_0 23 rfl
theorem dX12_nears_52 : decode cX12_nears 52 = .ok (.istore 6, 2) := lw_dr lw_d_cX12_nears_0 24 rfl
theorem dX12_nears_54 : decode cX12_nears 54 = .ok (.iload 6, 2) := lw_dr lw_d_cX12_nears_0 25 rfl
theorem dX12_nears_56 : decode cX12_nears 56 = .ok (.ifCond .le 56, 3) := lw_dr lw_d_cX12_nears_0 26 rfl
theorem dX12_nears_112 : decode cX12_nears 112 = .ok (.aload_n 0, 1) := lw_dr lw_d_cX12_nears_0 27 rfl
theorem dX12_nears_113 : decode cX12_nears 113 = .ok (.getfield 106, 3) := lw_dr lw_d_cX12_nears_0 28 rfl
theorem dX12_nears_116 : decode cX12_nears 116 = .ok (.iload 6, 2) := lw_dr lw_d_cX12_nears_0 29 rfl
theorem dX12_nears_118 : decode cX12_nears 118 = .ok (.lload 4, 2) := lw_dr lw_d_cX12_nears_0 30 rfl
theorem dX12_nears_120 : decode cX12_nears 120 = .ok (.lastore, 1) := lw_dr lw_d_cX12_nears_0 31 rfl
theorem dX12_nears_121 : decode cX12_nears 121 = .ok (.aload_n 0, 1) := lw_dr lw_d_cX12_nears_0 32 rfl
theorem dX12_nears_122 : decode cX12_nears 122 = .ok (.getfield 109, 3) := lw_dr lw_d_cX12_nears_0 33 rfl
theorem dX12_nears_125 : decode cX12_nears 125 = .ok (.iload 6, 2) := lw_dr lw_d_cX12_nears_0 34 rfl
theorem dX12_nears_127 : decode cX12_nears 127 = .ok (.iload_n 3, 1) := lw_dr lw_d_cX12_nears_0 35 rfl
theorem dX12_nears_128 : decode cX12_nears 128 = .ok (.iastore, 1) := lw_dr lw_d_cX12_nears_0 36 rfl
theorem dX12_nears_129 : decode cX12_nears 129 = .ok (.iinc 3 1, 3) := lw_dr lw_d_cX12_nears_0 37 rfl
theorem dX12_nears_132 : decode cX12_nears 132 = .ok (.goto (-128), 3) := lw_dr lw_d_cX12_nears_0 38 rfl
theorem dX12_nears_59 : decode cX12_nears 59 = .ok (.aload_n 0, 1) := lw_dr lw_d_cX12_nears_0 39 rfl
theorem lw_d_cX12_nears_60 : lw_dl cX12_nears [(60, .getfield 106, 3), (63, .iload 6, 2), (65, .iconst 1, 1), (66, .isub, 1), (67, .laload, 1), (68, .lload 4, 2), (70, .lcmp, 1), (71, .ifCond .le 41, 3), (74, .aload_n 0, 1), (75, .getfield 106, 3), (78, .iload 6, 2), (80, .aload_n 0, 1), (81, .getfield 106, 3), (84, .iload 6, 2), (86, .iconst 1, 1), (87, .isub, 1), (88, .laload, 1), (89, .lastore, 1), (90, .aload_n 0, 1), (91, .getfield 109, 3), (94, .iload 6, 2), (96, .aload_n 0, 1), (97, .getfield 109, 3), (100, .iload 6, 2), (102, .iconst 1, 1), (103, .isub, 1), (104, .iaload, 1), (105, .iastore, 1), (106, .iinc 6 (-1), 3), (109, .goto (-55), 3), (24, .lload 4, 2), (26, .aload_n 0, 1), (27, .getfield 106, 3), (30, .iload_n 2, 1), (31, .iconst 1, 1), (32, .isub, 1), (33, .laload, 1), (34, .lcmp, 1), (35, .ifCond .lt 6, 3), (38, .goto 91, 3)] = true := by decide +kernel
theorem dX12_nears_60 : decode cX12_nears 60 = .ok (.getfield 106, 3) := lw_dr lw_d_cX12_nears_60 0 rfl
theorem dX12_nears_63 : decode cX12_nears 63 = .ok (.iload 6, 2) := lw_dr lw_d_cX12_nears_60 1 rfl
theorem dX12_nears_65 : decode cX12_nears 65 = .ok (.iconst 1, 1) := lw_dr lw_d_cX12_nears_60 2 rfl
theorem dX12_nears_66 : decode cX12_nears 66 = .ok (.isub, 1) := lw_dr lw_d_cX12_nears_60 3 rfl
theorem dX12_nears_67 : decode cX12_nears 67 = .ok (.laload, 1) := lw_dr lw_d_cX12_nears_60 4 rfl
theorem dX12_nears_68 : decode cX12_nears 68 = .ok (.lload 4, 2) := lw_dr lw_d_cX12_nears_60 5 rfl
theorem dX12_nears_70 : decode cX12_nears 70 = .ok (.lcmp, 1) := lw_dr lw_d_cX12_nears_60 6 rfl
theorem dX12_nears_71 : decode cX12_nears 71 = .ok (.ifCond .le 41, 3) := lw_dr lw_d_cX12_nears_60 7 rfl
theorem dX12_nears_74 : decode cX12_nears 74 = .ok (.aload_n 0, 1) := lw_dr lw_d_cX12_nears_60 8 rfl
theorem dX12_nears_75 : decode cX12_nears 75 = .ok (.getfield 106, 3) := lw_dr lw_d_cX12_nears_60 9 rfl
theorem dX12_nears_78 : decode cX12_nears 78 = .ok (.iload 6, 2) := lw_dr lw_d_cX12_nears_60 10 rfl
theorem dX12_nears_80 : decode cX12_nears 80 = .ok (.aload_n 0, 1) := lw_dr lw_d_cX12_nears_60 11 rfl
theorem dX12_nears_81 : decode cX12_nears 81 = .ok (.getfield 106, 3) := lw_dr lw_d_cX12_nears_60 12 rfl
theorem dX12_nears_84 : decode cX12_nears 84 = .ok (.iload 6, 2) := lw_dr lw_d_cX12_nears_60 13 rfl
theorem dX12_nears_86 : decode cX12_nears 86 = .ok (.iconst 1, 1) := lw_dr lw_d_cX12_nears_60 14 rfl
theorem dX12_nears_87 : decode cX12_nears 87 = .ok (.isub, 1) := lw_dr lw_d_cX12_nears_60 15 rfl
theorem dX12_nears_88 : decode cX12_nears 88 = .ok (.laload, 1) := lw_dr lw_d_cX12_nears_60 16 rfl
theorem dX12_nears_89 : decode cX12_nears 89 = .ok (.lastore, 1) := lw_dr lw_d_cX12_nears_60 17 rfl
theorem dX12_nears_90 : decode cX12_nears 90 = .ok (.aload_n 0, 1) := lw_dr lw_d_cX12_nears_60 18 rfl
theorem dX12_nears_91 : decode cX12_nears 91 = .ok (.getfield 109, 3) := lw_dr lw_d_cX12_nears_60 19 rfl
theorem dX12_nears_94 : decode cX12_nears 94 = .ok (.iload 6, 2) := lw_dr lw_d_cX12_nears_60 20 rfl
theorem dX12_nears_96 : decode cX12_nears 96 = .ok (.aload_n 0, 1) := lw_dr lw_d_cX12_nears_60 21 rfl
theorem dX12_nears_97 : decode cX12_nears 97 = .ok (.getfield 109, 3) := lw_dr lw_d_cX12_nears_60 22 rfl
theorem dX12_nears_100 : decode cX12_nears 100 = .ok (.iload 6, 2) := lw_dr lw_d_cX12_nears_60 23 rfl
theorem dX12_nears_102 : decode cX12_nears 102 = .ok (.iconst 1, 1) := lw_dr lw_d_cX12_nears_60 24 rfl
theorem dX12_nears_103 : decode cX12_nears 103 = .ok (.isub, 1) := lw_dr lw_d_cX12_nears_60 25 rfl
theorem dX12_nears_104 : decode cX12_nears 104 = .ok (.iaload, 1) := lw_dr lw_d_cX12_nears_60 26 rfl
theorem dX12_nears_105 : decode cX12_nears 105 = .ok (.iastore, 1) := lw_dr lw_d_cX12_nears_60 27 rfl
theorem dX12_nears_106 : decode cX12_nears 106 = .ok (.iinc 6 (-1), 3) := lw_dr lw_d_cX12_nears_60 28 rfl
theorem dX12_nears_109 : decode cX12_nears 109 = .ok (.goto (-55), 3) := lw_dr lw_d_cX12_nears_60 29 rfl
theorem dX12_nears_24 : decode cX12_nears 24 = .ok (.lload 4, 2) := lw_dr lw_d_cX12_nears_60 30 rfl
theorem dX12_nears_26 : decode cX12_nears 26 = .ok (.aload_n 0, 1) := lw_dr lw_d_cX12_nears_60 31 rfl
theorem dX12_nears_27 : decode cX12_nears 27 = .ok (.getfield 106, 3) := lw_dr lw_d_cX12_nears_60 32 rfl
theorem dX12_nears_30 : decode cX12_nears 30 = .ok (.iload_n 2, 1) := lw_dr lw_d_cX12_nears_60 33 rfl
theorem dX12_nears_31 : decode cX12_nears 31 = .ok (.iconst 1, 1) := lw_dr lw_d_cX12_nears_60 34 rfl
theorem dX12_nears_32 : decode cX12_nears 32 = .ok (.isub, 1) := lw_dr lw_d_cX12_nears_60 35 rfl
theorem dX12_nears_33 : decode cX12_nears 33 = .ok (.laload, 1) := lw_dr lw_d_cX12_nears_60 36 rfl
theorem dX12_nears_34 : decode cX12_nears 34 = .ok (.lcmp, 1) := lw_dr lw_d_cX12_nears_60 37 rfl
theorem dX12_nears_35 : decode cX12_nears 35 = .ok (.ifCond .lt 6, 3) := lw_dr lw_d_cX12_nears_60 38 rfl
theorem dX12_nears_38 : decode cX12_nears 38 = .ok (.goto 91, 3) := lw_dr lw_d_cX12_nears_60 39 rfl
theorem lw_d_cX12_rowMany_0 : lw_dl cX12_rowMany [(0, .aload_n 0, 1), (1, .getfield 237, 3), (4, .ifCond .ne 5, 3), (9, .iconst 1, 1), (10, .istore_n 1, 1), (11, .iconst 0, 1), (12, .istore_n 2, 1), (13, .iload_n 2, 1), (14, .aload_n 0, 1), (15, .getfield 237, 3), (18, .if_icmp .ge 16, 3), (21, .iload_n 1, 1), (22, .aload_n 0, 1), (23, .getfield 234, 3), (26, .imul, 1), (27, .istore_n 1, 1), (28, .iinc 2 1, 3), (31, .goto (-18), 3), (34, .iload_n 1, 1), (35, .ireturn, 1), (7, .iconst 0, 1), (8, .ireturn, 1)] = true := by decide +kernel
theorem dX12_rowMany_0 : decode cX12_rowMany 0 = .ok (.aload_n 0, 1) := lw_dr lw_d_cX12_rowMany_0 0 rfl
theorem dX12_rowMany_1 : decode cX12_rowMany 1 = .ok (.getfield 237, 3) := lw_dr lw_d_cX12_rowMany_0 1 rfl
theorem dX12_rowMany_4 : decode cX12_rowMany 4 = .ok (.ifCond .ne 5, 3) := lw_dr lw_d_cX12_rowMany_0 2 rfl
theorem dX12_rowMany_9 : decode cX12_rowMany 9 = .ok (.iconst 1, 1) := lw_dr lw_d_cX12_rowMany_0 3 rfl
theorem dX12_rowMany_10 : decode cX12_rowMany 10 = .ok (.istore_n 1, 1) := lw_dr lw_d_cX12_rowMany_0 4 rfl
theorem dX12_rowMany_11 : decode cX12_rowMany 11 = .ok (.iconst 0, 1) := lw_dr lw_d_cX12_rowMany_0 5 rfl
theorem dX12_rowMany_12 : decode cX12_rowMany 12 = .ok (.istore_n 2, 1) := lw_dr lw_d_cX12_rowMany_0 6 rfl
theorem dX12_rowMany_13 : decode cX12_rowMany 13 = .ok (.iload_n 2, 1) := lw_dr lw_d_cX12_rowMany_0 7 rfl
theorem dX12_rowMany_14 : decode cX12_rowMany 14 = .ok (.aload_n 0, 1) := lw_dr lw_d_cX12_rowMany_0 8 rfl
theorem dX12_rowMany_15 : decode cX12_rowMany 15 = .ok (.getfield 237, 3) := lw_dr lw_d_cX12_rowMany_0 9 rfl
theorem dX12_rowMany_18 : decode cX12_rowMany 18 = .ok (.if_icmp .ge 16, 3) := lw_dr lw_d_cX12_rowMany_0 10 rfl
theorem dX12_rowMany_21 : decode cX12_rowMany 21 = .ok (.iload_n 1, 1) := lw_dr lw_d_cX12_rowMany_0 11 rfl
theorem dX12_rowMany_22 : decode cX12_rowMany 22 = .ok (.aload_n 0, 1) := lw_dr lw_d_cX12_rowMany_0 12 rfl
theorem dX12_rowMany_23 : decode cX12_rowMany 23 = .ok (.getfield 234, 3) := lw_dr lw_d_cX12_rowMany_0 13 rfl
theorem dX12_rowMany_26 : decode cX12_rowMany 26 = .ok (.imul, 1) := lw_dr lw_d_cX12_rowMany_0 14 rfl
theorem dX12_rowMany_27 : decode cX12_rowMany 27 = .ok (.istore_n 1, 1) := lw_dr lw_d_cX12_rowMany_0 15 rfl
theorem dX12_rowMany_28 : decode cX12_rowMany 28 = .ok (.iinc 2 1, 3) := lw_dr lw_d_cX12_rowMany_0 16 rfl
theorem dX12_rowMany_31 : decode cX12_rowMany 31 = .ok (.goto (-18), 3) := lw_dr lw_d_cX12_rowMany_0 17 rfl
theorem dX12_rowMany_34 : decode cX12_rowMany 34 = .ok (.iload_n 1, 1) := lw_dr lw_d_cX12_rowMany_0 18 rfl
theorem dX12_rowMany_35 : decode cX12_rowMany 35 = .ok (.ireturn, 1) := lw_dr lw_d_cX12_rowMany_0 19 rfl
theorem dX12_rowMany_7 : decode cX12_rowMany 7 = .ok (.iconst 0, 1) := lw_dr lw_d_cX12_rowMany_0 20 rfl
theorem dX12_rowMany_8 : decode cX12_rowMany 8 = .ok (.ireturn, 1) := lw_dr lw_d_cX12_rowMany_0 21 rfl
theorem lw_d_cX12_distanceOf_0 : lw_dl cX12_distanceOf [(0, .aload_n 0, 1), (1, .iload_n 1, 1), (2, .invokevirtual 403, 3), (5, .aload_n 0, 1), (6, .iconst 1, 1), (7, .invokevirtual 380, 3), (10, .lreturn, 1)] = true := by decide +kernel
theorem dX12_distanceOf_0 : decode cX12_distanceOf 0 = .ok (.aload_n 0, 1) := lw_dr lw_d_cX12_distanceOf_0 0 rfl
theorem dX12_distanceOf_1 : decode cX12_distanceOf 1 = .ok (.iload_n 1, 1) := lw_dr lw_d_cX12_distanceOf_0 1 rfl
theorem dX12_distanceOf_2 : decode cX12_distanceOf 2 = .ok (.invokevirtual 403, 3) := lw_dr lw_d_cX12_distanceOf_0 2 rfl
theorem dX12_distanceOf_5 : decode cX12_distanceOf 5 = .ok (.aload_n 0, 1) := lw_dr lw_d_cX12_distanceOf_0 3 rfl
theorem dX12_distanceOf_6 : decode cX12_distanceOf 6 = .ok (.iconst 1, 1) := lw_dr lw_d_cX12_distanceOf_0 4 rfl
theorem dX12_distanceOf_7 : decode cX12_distanceOf 7 = .ok (.invokevirtual 380, 3) := lw_dr lw_d_cX12_distanceOf_0 5 rfl
theorem dX12_distanceOf_10 : decode cX12_distanceOf 10 = .ok (.lreturn, 1) := lw_dr lw_d_cX12_distanceOf_0 6 rfl
theorem lw_d_cX12_rowIs_0 : lw_dl cX12_rowIs [(0, .iload_n 1, 1), (1, .istore_n 2, 1), (2, .aload_n 0, 1), (3, .getfield 237, 3), (6, .iconst 1, 1), (7, .isub, 1), (8, .istore_n 3, 1), (9, .iload_n 3, 1), (10, .ifCond .lt 37, 3), (47, .return_, 1), (13, .aload_n 0, 1), (14, .getfield 103, 3), (17, .iload_n 3, 1), (18, .iconst 2, 1), (19, .iload_n 2, 1), (20, .aload_n 0, 1), (21, .getfield 234, 3), (24, .irem, 1), (25, .imul, 1), (26, .aload_n 0, 1), (27, .getfield 234, 3), (30, .isub, 1), (31, .iconst 1, 1), (32, .iadd, 1), (33, .iastore, 1), (34, .iload_n 2, 1), (35, .aload_n 0, 1), (36, .getfield 234, 3), (39, .idiv, 1), (40, .istore_n 2, 1), (41, .iinc 3 (-1), 3), (44, .goto (-35), 3)] = true := by decide +kernel
theorem dX12_rowIs_0 : decode cX12_rowIs 0 = .ok (.iload_n 1, 1) := lw_dr lw_d_cX12_rowIs_0 0 rfl
theorem dX12_rowIs_1 : decode cX12_rowIs 1 = .ok (.istore_n 2, 1) := lw_dr lw_d_cX12_rowIs_0 1 rfl
theorem dX12_rowIs_2 : decode cX12_rowIs 2 = .ok (.aload_n 0, 1) := lw_dr lw_d_cX12_rowIs_0 2 rfl
theorem dX12_rowIs_3 : decode cX12_rowIs 3 = .ok (.getfield 237, 3) := lw_dr lw_d_cX12_rowIs_0 3 rfl
theorem dX12_rowIs_6 : decode cX12_rowIs 6 = .ok (.iconst 1, 1) := lw_dr lw_d_cX12_rowIs_0 4 rfl
theorem dX12_rowIs_7 : decode cX12_rowIs 7 = .ok (.isub, 1) := lw_dr lw_d_cX12_rowIs_0 5 rfl
theorem dX12_rowIs_8 : decode cX12_rowIs 8 = .ok (.istore_n 3, 1) := lw_dr lw_d_cX12_rowIs_0 6 rfl
theorem dX12_rowIs_9 : decode cX12_rowIs 9 = .ok (.iload_n 3, 1) := lw_dr lw_d_cX12_rowIs_0 7 rfl
theorem dX12_rowIs_10 : decode cX12_rowIs 10 = .ok (.ifCond .lt 37, 3) := lw_dr lw_d_cX12_rowIs_0 8 rfl
theorem dX12_rowIs_47 : decode cX12_rowIs 47 = .ok (.return_, 1) := lw_dr lw_d_cX12_rowIs_0 9 rfl
theorem dX12_rowIs_13 : decode cX12_rowIs 13 = .ok (.aload_n 0, 1) := lw_dr lw_d_cX12_rowIs_0 10 rfl
theorem dX12_rowIs_14 : decode cX12_rowIs 14 = .ok (.getfield 103, 3) := lw_dr lw_d_cX12_rowIs_0 11 rfl
theorem dX12_rowIs_17 : decode cX12_rowIs 17 = .ok (.iload_n 3, 1) := lw_dr lw_d_cX12_rowIs_0 12 rfl
theorem dX12_rowIs_18 : decode cX12_rowIs 18 = .ok (.iconst 2, 1) := lw_dr lw_d_cX12_rowIs_0 13 rfl
theorem dX12_rowIs_19 : decode cX12_rowIs 19 = .ok (.iload_n 2, 1) := lw_dr lw_d_cX12_rowIs_0 14 rfl
theorem dX12_rowIs_20 : decode cX12_rowIs 20 = .ok (.aload_n 0, 1) := lw_dr lw_d_cX12_rowIs_0 15 rfl
theorem dX12_rowIs_21 : decode cX12_rowIs 21 = .ok (.getfield 234, 3) := lw_dr lw_d_cX12_rowIs_0 16 rfl
theorem dX12_rowIs_24 : decode cX12_rowIs 24 = .ok (.irem, 1) := lw_dr lw_d_cX12_rowIs_0 17 rfl
theorem dX12_rowIs_25 : decode cX12_rowIs 25 = .ok (.imul, 1) := lw_dr lw_d_cX12_rowIs_0 18 rfl
theorem dX12_rowIs_26 : decode cX12_rowIs 26 = .ok (.aload_n 0, 1) := lw_dr lw_d_cX12_rowIs_0 19 rfl
theorem dX12_rowIs_27 : decode cX12_rowIs 27 = .ok (.getfield 234, 3) := lw_dr lw_d_cX12_rowIs_0 20 rfl
theorem dX12_rowIs_30 : decode cX12_rowIs 30 = .ok (.isub, 1) := lw_dr lw_d_cX12_rowIs_0 21 rfl
theorem dX12_rowIs_31 : decode cX12_rowIs 31 = .ok (.iconst 1, 1) := lw_dr lw_d_cX12_rowIs_0 22 rfl
theorem dX12_rowIs_32 : decode cX12_rowIs 32 = .ok (.iadd, 1) := lw_dr lw_d_cX12_rowIs_0 23 rfl
theorem dX12_rowIs_33 : decode cX12_rowIs 33 = .ok (.iastore, 1) := lw_dr lw_d_cX12_rowIs_0 24 rfl
theorem dX12_rowIs_34 : decode cX12_rowIs 34 = .ok (.iload_n 2, 1) := lw_dr lw_d_cX12_rowIs_0 25 rfl
theorem dX12_rowIs_35 : decode cX12_rowIs 35 = .ok (.aload_n 0, 1) := lw_dr lw_d_cX12_rowIs_0 26 rfl
theorem dX12_rowIs_36 : decode cX12_rowIs 36 = .ok (.getfield 234, 3) := lw_dr lw_d_cX12_rowIs_0 27 rfl
theorem dX12_rowIs_39 : decode cX12_rowIs 39 = .ok (.idiv, 1) := lw_dr lw_d_cX12_rowIs_0 28 rfl
theorem dX12_rowIs_40 : decode cX12_rowIs 40 = .ok (.istore_n 2, 1) := lw_dr lw_d_cX12_rowIs_0 29 rfl
theorem dX12_rowIs_41 : decode cX12_rowIs 41 = .ok (.iinc 3 (-1), 3) := lw_dr lw_d_cX12_rowIs_0 30 rfl
theorem dX12_rowIs_44 : decode cX12_rowIs 44 = .ok (.goto (-35), 3) := lw_dr lw_d_cX12_rowIs_0 31 rfl
theorem lw_d_cX12_near_0 : lw_dl cX12_near [(0, .aload_n 0, 1), (1, .iload_n 1, 1), (2, .invokevirtual 416, 3), (5, .ifCond .eq 12, 3), (17, .ldc2_w 384, 3), (20, .lreturn, 1), (8, .aload_n 0, 1), (9, .getfield 106, 3), (12, .iload_n 1, 1), (13, .laload, 1), (14, .goto 6, 3)] = true := by decide +kernel
theorem dX12_near_0 : decode cX12_near 0 = .ok (.aload_n 0, 1) := lw_dr lw_d_cX12_near_0 0 rfl
theorem dX12_near_1 : decode cX12_near 1 = .ok (.iload_n 1, 1) := lw_dr lw_d_cX12_near_0 1 rfl
theorem dX12_near_2 : decode cX12_near 2 = .ok (.invokevirtual 416, 3) := lw_dr lw_d_cX12_near_0 2 rfl
theorem dX12_near_5 : decode cX12_near 5 = .ok (.ifCond .eq 12, 3) := lw_dr lw_d_cX12_near_0 3 rfl
theorem dX12_near_17 : decode cX12_near 17 = .ok (.ldc2_w 384, 3) := lw_dr lw_d_cX12_near_0 4 rfl
theorem dX12_near_20 : decode cX12_near 20 = .ok (.lreturn, 1) := lw_dr lw_d_cX12_near_0 5 rfl
theorem dX12_near_8 : decode cX12_near 8 = .ok (.aload_n 0, 1) := lw_dr lw_d_cX12_near_0 6 rfl
theorem dX12_near_9 : decode cX12_near 9 = .ok (.getfield 106, 3) := lw_dr lw_d_cX12_near_0 7 rfl
theorem dX12_near_12 : decode cX12_near 12 = .ok (.iload_n 1, 1) := lw_dr lw_d_cX12_near_0 8 rfl
theorem dX12_near_13 : decode cX12_near 13 = .ok (.laload, 1) := lw_dr lw_d_cX12_near_0 9 rfl
theorem dX12_near_14 : decode cX12_near 14 = .ok (.goto 6, 3) := lw_dr lw_d_cX12_near_0 10 rfl
theorem lw_d_cX12_within_0 : lw_dl cX12_within [(0, .lload_n 1, 1), (1, .lconst 0, 1), (2, .lcmp, 1), (3, .ifCond .ge 5, 3), (8, .iconst 0, 1), (9, .istore_n 3, 1), (10, .iconst 0, 1), (11, .istore 4, 2), (13, .iload 4, 2), (15, .aload_n 0, 1), (16, .invokevirtual 406, 3), (19, .if_icmp .ge 23, 3), (42, .iload_n 3, 1), (43, .ireturn, 1), (22, .aload_n 0, 1), (23, .iload 4, 2), (25, .invokevirtual 409, 3), (28, .lload_n 1, 1), (29, .lcmp, 1), (30, .ifCond .gt 6, 3), (36, .iinc 4 1, 3), (39, .goto (-26), 3), (33, .iinc 3 1, 3), (6, .iconst (-1), 1), (7, .ireturn, 1)] = true := by decide +kernel
theorem dX12_within_0 : decode cX12_within 0 = .ok (.lload_n 1, 1) := lw_dr lw_d_cX12_within_0 0 rfl
theorem dX12_within_1 : decode cX12_within 1 = .ok (.lconst 0, 1) := lw_dr lw_d_cX12_within_0 1 rfl
theorem dX12_within_2 : decode cX12_within 2 = .ok (.lcmp, 1) := lw_dr lw_d_cX12_within_0 2 rfl
theorem dX12_within_3 : decode cX12_within 3 = .ok (.ifCond .ge 5, 3) := lw_dr lw_d_cX12_within_0 3 rfl
theorem dX12_within_8 : decode cX12_within 8 = .ok (.iconst 0, 1) := lw_dr lw_d_cX12_within_0 4 rfl
theorem dX12_within_9 : decode cX12_within 9 = .ok (.istore_n 3, 1) := lw_dr lw_d_cX12_within_0 5 rfl
theorem dX12_within_10 : decode cX12_within 10 = .ok (.iconst 0, 1) := lw_dr lw_d_cX12_within_0 6 rfl
theorem dX12_within_11 : decode cX12_within 11 = .ok (.istore 4, 2) := lw_dr lw_d_cX12_within_0 7 rfl
theorem dX12_within_13 : decode cX12_within 13 = .ok (.iload 4, 2) := lw_dr lw_d_cX12_within_0 8 rfl
theorem dX12_within_15 : decode cX12_within 15 = .ok (.aload_n 0, 1) := lw_dr lw_d_cX12_within_0 9 rfl
theorem dX12_within_16 : decode cX12_within 16 = .ok (.invokevirtual 406, 3) := lw_dr lw_d_cX12_within_0 10 rfl
theorem dX12_within_19 : decode cX12_within 19 = .ok (.if_icmp .ge 23, 3) := lw_dr lw_d_cX12_within_0 11 rfl
theorem dX12_within_42 : decode cX12_within 42 = .ok (.iload_n 3, 1) := lw_dr lw_d_cX12_within_0 12 rfl
theorem dX12_within_43 : decode cX12_within 43 = .ok (.ireturn, 1) := lw_dr lw_d_cX12_within_0 13 rfl
theorem dX12_within_22 : decode cX12_within 22 = .ok (.aload_n 0, 1) := lw_dr lw_d_cX12_within_0 14 rfl
theorem dX12_within_23 : decode cX12_within 23 = .ok (.iload 4, 2) := lw_dr lw_d_cX12_within_0 15 rfl
theorem dX12_within_25 : decode cX12_within 25 = .ok (.invokevirtual 409, 3) := lw_dr lw_d_cX12_within_0 16 rfl
theorem dX12_within_28 : decode cX12_within 28 = .ok (.lload_n 1, 1) := lw_dr lw_d_cX12_within_0 17 rfl
theorem dX12_within_29 : decode cX12_within 29 = .ok (.lcmp, 1) := lw_dr lw_d_cX12_within_0 18 rfl
theorem dX12_within_30 : decode cX12_within 30 = .ok (.ifCond .gt 6, 3) := lw_dr lw_d_cX12_within_0 19 rfl
theorem dX12_within_36 : decode cX12_within 36 = .ok (.iinc 4 1, 3) := lw_dr lw_d_cX12_within_0 20 rfl
theorem dX12_within_39 : decode cX12_within 39 = .ok (.goto (-26), 3) := lw_dr lw_d_cX12_within_0 21 rfl
theorem dX12_within_33 : decode cX12_within 33 = .ok (.iinc 3 1, 3) := lw_dr lw_d_cX12_within_0 22 rfl
theorem dX12_within_6 : decode cX12_within 6 = .ok (.iconst (-1), 1) := lw_dr lw_d_cX12_within_0 23 rfl
theorem dX12_within_7 : decode cX12_within 7 = .ok (.ireturn, 1) := lw_dr lw_d_cX12_within_0 24 rfl
theorem lw_d_cX12_cancel_0 : lw_dl cX12_cancel [(0, .aload_n 0, 1), (1, .iload_n 1, 1), (2, .invokevirtual 361, 3), (5, .ifCond .ne 7, 3), (12, .aload_n 0, 1), (13, .invokevirtual 426, 3)] = true := by decide +kernel
theorem dX12_cancel_0 : decode cX12_cancel 0 = .ok (.aload_n 0, 1) := lw_dr lw_d_cX12_cancel_0 0 rfl
theorem dX12_cancel_1 : decode cX12_cancel 1 = .ok (.iload_n 1, 1) := lw_dr lw_d_cX12_cancel_0 1 rfl
theorem dX12_cancel_2 : decode cX12_cancel 2 = .ok (.invokevirtual 361, 3) := lw_dr lw_d_cX12_cancel_0 2 rfl
theorem dX12_cancel_5 : decode cX12_cancel 5 = .ok (.ifCond .ne 7, 3) := lw_dr lw_d_cX12_cancel_0 3 rfl
theorem dX12_cancel_12 : decode cX12_cancel 12 = .ok (.aload_n 0, 1) := lw_dr lw_d_cX12_cancel_0 4 rfl
theorem dX12_cancel_13 : decode cX12_cancel 13 = .ok (.invokevirtual 426, 3) := lw_dr lw_d_cX12_cancel_0 5 rfl
theorem lw_d_cX12_cancels_0 : lw_dl cX12_cancels [(0, .aload_n 0, 1), (1, .invokevirtual 419, 3), (4, .iconst 0, 1), (5, .istore_n 1, 1), (6, .iload_n 1, 1), (7, .aload_n 0, 1), (8, .getfield 240, 3), (11, .if_icmp .ge 22, 3), (33, .iconst 0, 1), (34, .istore_n 1, 1), (35, .iload_n 1, 1), (36, .aload_n 0, 1), (37, .getfield 237, 3)] = true := by decide +kernel
theorem dX12_cancels_0 : decode cX12_cancels 0 = .ok (.aload_n 0, 1) := lw_dr lw_d_cX12_cancels_0 0 rfl
theorem dX12_cancels_1 : decode cX12_cancels 1 = .ok (.invokevirtual 419, 3) := lw_dr lw_d_cX12_cancels_0 1 rfl
theorem dX12_cancels_4 : decode cX12_cancels 4 = .ok (.iconst 0, 1) := lw_dr lw_d_cX12_cancels_0 2 rfl
theorem dX12_cancels_5 : decode cX12_cancels 5 = .ok (.istore_n 1, 1) := lw_dr lw_d_cX12_cancels_0 3 rfl
theorem dX12_cancels_6 : decode cX12_cancels 6 = .ok (.iload_n 1, 1) := lw_dr lw_d_cX12_cancels_0 4 rfl
theorem dX12_cancels_7 : decode cX12_cancels 7 = .ok (.aload_n 0, 1) := lw_dr lw_d_cX12_cancels_0 5 rfl
theorem dX12_cancels_8 : decode cX12_cancels 8 = .ok (.getfield 240, 3) := lw_dr lw_d_cX12_cancels_0 6 rfl
theorem dX12_cancels_11 : decode cX12_cancels 11 = .ok (.if_icmp .ge 22, 3) := lw_dr lw_d_cX12_cancels_0 7 rfl
theorem dX12_cancels_33 : decode cX12_cancels 33 = .ok (.iconst 0, 1) := lw_dr lw_d_cX12_cancels_0 8 rfl
theorem dX12_cancels_34 : decode cX12_cancels 34 = .ok (.istore_n 1, 1) := lw_dr lw_d_cX12_cancels_0 9 rfl
theorem dX12_cancels_35 : decode cX12_cancels 35 = .ok (.iload_n 1, 1) := lw_dr lw_d_cX12_cancels_0 10 rfl
theorem dX12_cancels_36 : decode cX12_cancels 36 = .ok (.aload_n 0, 1) := lw_dr lw_d_cX12_cancels_0 11 rfl
theorem dX12_cancels_37 : decode cX12_cancels 37 = .ok (.getfield 237, 3) := lw_dr lw_d_cX12_cancels_0 12 rfl
theorem lw_d_cX12_orders_0 : lw_dl cX12_orders [(0, .iconst 0, 1), (1, .istore_n 1, 1), (2, .iload_n 1, 1), (3, .aload_n 0, 1), (4, .getfield 237, 3), (7, .if_icmp .ge 80, 3), (87, .return_, 1), (10, .iconst 0, 1), (11, .istore_n 2, 1), (12, .iconst 0, 1), (13, .istore_n 3, 1), (14, .iload_n 3, 1), (15, .aload_n 0, 1), (16, .getfield 237, 3), (19, .if_icmp .ge 55, 3), (22, .aload_n 0, 1), (23, .iload_n 3, 1), (24, .iload_n 3, 1), (25, .aload_n 0, 1), (26, .getfield 69, 3), (29, .invokevirtual 334, 3), (32, .istore 4, 2), (34, .aload_n 0, 1), (35, .iload_n 1, 1), (36, .iload_n 1, 1), (37, .aload_n 0, 1), (38, .getfield 69, 3), (41, .invokevirtual 334, 3), (44, .istore 5, 2), (46, .iload 4, 2), (48, .iload 5, 2), (50, .if_icmp .gt 15, 3), (65, .iinc 2 1, 3), (68, .iinc 3 1, 3), (71, .goto (-57), 3), (53, .iload 4, 2), (55, .iload 5, 2), (57, .if_icmp .ne 11, 3), (60, .iload_n 3, 1), (61, .iload_n 1, 1)] = true := by decide +kernel
theorem dX12_orders_0 : decode cX12_orders 0 = .ok (.iconst 0, 1) := lw_dr lw_d_cX12_orders_0 0 rfl
theorem dX12_orders_1 : decode cX12_orders 1 = .ok (.istore_n 1, 1) := lw_dr lw_d_cX12_orders_0 1 rfl
theorem dX12_orders_2 : decode cX12_orders 2 = .ok (.iload_n 1, 1) := lw_dr lw_d_cX12_orders_0 2 rfl
theorem dX12_orders_3 : decode cX12_orders 3 = .ok (.aload_n 0, 1) := lw_dr lw_d_cX12_orders_0 3 rfl
theorem dX12_orders_4 : decode cX12_orders 4 = .ok (.getfield 237, 3) := lw_dr lw_d_cX12_orders_0 4 rfl
theorem dX12_orders_7 : decode cX12_orders 7 = .ok (.if_icmp .ge 80, 3) := lw_dr lw_d_cX12_orders_0 5 rfl
theorem dX12_orders_87 : decode cX12_orders 87 = .ok (.return_, 1) := lw_dr lw_d_cX12_orders_0 6 rfl
theorem dX12_orders_10 : decode cX12_orders 10 = .ok (.iconst 0, 1) := lw_dr lw_d_cX12_orders_0 7 rfl
theorem dX12_orders_11 : decode cX12_orders 11 = .ok (.istore_n 2, 1) := lw_dr lw_d_cX12_orders_0 8 rfl
theorem dX12_orders_12 : decode cX12_orders 12 = .ok (.iconst 0, 1) := lw_dr lw_d_cX12_orders_0 9 rfl
theorem dX12_orders_13 : decode cX12_orders 13 = .ok (.istore_n 3, 1) := lw_dr lw_d_cX12_orders_0 10 rfl
theorem dX12_orders_14 : decode cX12_orders 14 = .ok (.iload_n 3, 1) := lw_dr lw_d_cX12_orders_0 11 rfl
theorem dX12_orders_15 : decode cX12_orders 15 = .ok (.aload_n 0, 1) := lw_dr lw_d_cX12_orders_0 12 rfl
theorem dX12_orders_16 : decode cX12_orders 16 = .ok (.getfield 237, 3) := lw_dr lw_d_cX12_orders_0 13 rfl
theorem dX12_orders_19 : decode cX12_orders 19 = .ok (.if_icmp .ge 55, 3) := lw_dr lw_d_cX12_orders_0 14 rfl
theorem dX12_orders_22 : decode cX12_orders 22 = .ok (.aload_n 0, 1) := lw_dr lw_d_cX12_orders_0 15 rfl
theorem dX12_orders_23 : decode cX12_orders 23 = .ok (.iload_n 3, 1) := lw_dr lw_d_cX12_orders_0 16 rfl
theorem dX12_orders_24 : decode cX12_orders 24 = .ok (.iload_n 3, 1) := lw_dr lw_d_cX12_orders_0 17 rfl
theorem dX12_orders_25 : decode cX12_orders 25 = .ok (.aload_n 0, 1) := lw_dr lw_d_cX12_orders_0 18 rfl
theorem dX12_orders_26 : decode cX12_orders 26 = .ok (.getfield 69, 3) := lw_dr lw_d_cX12_orders_0 19 rfl
theorem dX12_orders_29 : decode cX12_orders 29 = .ok (.invokevirtual 334, 3) := lw_dr lw_d_cX12_orders_0 20 rfl
theorem dX12_orders_32 : decode cX12_orders 32 = .ok (.istore 4, 2) := lw_dr lw_d_cX12_orders_0 21 rfl
theorem dX12_orders_34 : decode cX12_orders 34 = .ok (.aload_n 0, 1) := lw_dr lw_d_cX12_orders_0 22 rfl
theorem dX12_orders_35 : decode cX12_orders 35 = .ok (.iload_n 1, 1) := lw_dr lw_d_cX12_orders_0 23 rfl
theorem dX12_orders_36 : decode cX12_orders 36 = .ok (.iload_n 1, 1) := lw_dr lw_d_cX12_orders_0 24 rfl
theorem dX12_orders_37 : decode cX12_orders 37 = .ok (.aload_n 0, 1) := lw_dr lw_d_cX12_orders_0 25 rfl
theorem dX12_orders_38 : decode cX12_orders 38 = .ok (.getfield 69, 3) := lw_dr lw_d_cX12_orders_0 26 rfl
theorem dX12_orders_41 : decode cX12_orders 41 = .ok (.invokevirtual 334, 3) := lw_dr lw_d_cX12_orders_0 27 rfl
theorem dX12_orders_44 : decode cX12_orders 44 = .ok (.istore 5, 2) := lw_dr lw_d_cX12_orders_0 28 rfl
theorem dX12_orders_46 : decode cX12_orders 46 = .ok (.iload 4, 2) := lw_dr lw_d_cX12_orders_0 29 rfl
theorem dX12_orders_48 : decode cX12_orders 48 = .ok (.iload 5, 2) := lw_dr lw_d_cX12_orders_0 30 rfl
theorem dX12_orders_50 : decode cX12_orders 50 = .ok (.if_icmp .gt 15, 3) := lw_dr lw_d_cX12_orders_0 31 rfl
theorem dX12_orders_65 : decode cX12_orders 65 = .ok (.iinc 2 1, 3) := lw_dr lw_d_cX12_orders_0 32 rfl
theorem dX12_orders_68 : decode cX12_orders 68 = .ok (.iinc 3 1, 3) := lw_dr lw_d_cX12_orders_0 33 rfl
theorem dX12_orders_71 : decode cX12_orders 71 = .ok (.goto (-57), 3) := lw_dr lw_d_cX12_orders_0 34 rfl
theorem dX12_orders_53 : decode cX12_orders 53 = .ok (.iload 4, 2) := lw_dr lw_d_cX12_orders_0 35 rfl
theorem dX12_orders_55 : decode cX12_orders 55 = .ok (.iload 5, 2) := lw_dr lw_d_cX12_orders_0 36 rfl
theorem dX12_orders_57 : decode cX12_orders 57 = .ok (.if_icmp .ne 11, 3) := lw_dr lw_d_cX12_orders_0 37 rfl
theorem dX12_orders_60 : decode cX12_orders 60 = .ok (.iload_n 3, 1) := lw_dr lw_d_cX12_orders_0 38 rfl
theorem dX12_orders_61 : decode cX12_orders 61 = .ok (.iload_n 1, 1) := lw_dr lw_d_cX12_orders_0 39 rfl
theorem lw_d_cX12_orders_62 : lw_dl cX12_orders [(62, .if_icmp .ge 6, 3), (74, .aload_n 0, 1), (75, .getfield 112, 3), (78, .iload_n 2, 1), (79, .iload_n 1, 1), (80, .iastore, 1), (81, .iinc 1 1, 3), (84, .goto (-82), 3)] = true := by decide +kernel
theorem dX12_orders_62 : decode cX12_orders 62 = .ok (.if_icmp .ge 6, 3) := lw_dr lw_d_cX12_orders_62 0 rfl
theorem dX12_orders_74 : decode cX12_orders 74 = .ok (.aload_n 0, 1) := lw_dr lw_d_cX12_orders_62 1 rfl
theorem dX12_orders_75 : decode cX12_orders 75 = .ok (.getfield 112, 3) := lw_dr lw_d_cX12_orders_62 2 rfl
theorem dX12_orders_78 : decode cX12_orders 78 = .ok (.iload_n 2, 1) := lw_dr lw_d_cX12_orders_62 3 rfl
theorem dX12_orders_79 : decode cX12_orders 79 = .ok (.iload_n 1, 1) := lw_dr lw_d_cX12_orders_62 4 rfl
theorem dX12_orders_80 : decode cX12_orders 80 = .ok (.iastore, 1) := lw_dr lw_d_cX12_orders_62 5 rfl
theorem dX12_orders_81 : decode cX12_orders 81 = .ok (.iinc 1 1, 3) := lw_dr lw_d_cX12_orders_62 6 rfl
theorem dX12_orders_84 : decode cX12_orders 84 = .ok (.goto (-82), 3) := lw_dr lw_d_cX12_orders_62 7 rfl
theorem lw_d_cX12_cancels_40 : lw_dl cX12_cancels [(40, .if_icmp .ge 115, 3), (155, .return_, 1), (43, .aload_n 0, 1), (44, .getfield 112, 3), (47, .iload_n 1, 1), (48, .iaload, 1), (49, .istore_n 2, 1), (50, .iconst 1, 1), (51, .aload_n 0, 1), (52, .getfield 234, 3), (55, .isub, 1), (56, .istore_n 3, 1), (57, .iconst 3, 1), (58, .aload_n 0, 1), (59, .getfield 234, 3), (62, .isub, 1), (63, .istore 4, 2), (65, .iload 4, 2), (67, .aload_n 0, 1), (68, .getfield 234, 3), (71, .if_icmp .ge 29, 3), (100, .aload_n 0, 1), (101, .getfield 115, 3), (104, .iload_n 2, 1), (105, .iload_n 3, 1), (106, .iastore, 1), (107, .iconst 0, 1), (108, .istore 4, 2), (110, .iload 4, 2), (112, .aload_n 0, 1), (113, .getfield 240, 3), (116, .if_icmp .ge 33, 3), (149, .iinc 1 1, 3), (152, .goto (-117), 3), (74, .aload_n 0, 1), (75, .iload_n 2, 1), (76, .iload 4, 2), (78, .invokevirtual 422, 3), (81, .aload_n 0, 1), (82, .iload_n 2, 1)] = true := by decide +kernel
theorem dX12_cancels_40 : decode cX12_cancels 40 = .ok (.if_icmp .ge 115, 3) := lw_dr lw_d_cX12_cancels_40 0 rfl
theorem dX12_cancels_155 : decode cX12_cancels 155 = .ok (.return_, 1) := lw_dr lw_d_cX12_cancels_40 1 rfl
theorem dX12_cancels_43 : decode cX12_cancels 43 = .ok (.aload_n 0, 1) := lw_dr lw_d_cX12_cancels_40 2 rfl
theorem dX12_cancels_44 : decode cX12_cancels 44 = .ok (.getfield 112, 3) := lw_dr lw_d_cX12_cancels_40 3 rfl
theorem dX12_cancels_47 : decode cX12_cancels 47 = .ok (.iload_n 1, 1) := lw_dr lw_d_cX12_cancels_40 4 rfl
theorem dX12_cancels_48 : decode cX12_cancels 48 = .ok (.iaload, 1) := lw_dr lw_d_cX12_cancels_40 5 rfl
theorem dX12_cancels_49 : decode cX12_cancels 49 = .ok (.istore_n 2, 1) := lw_dr lw_d_cX12_cancels_40 6 rfl
theorem dX12_cancels_50 : decode cX12_cancels 50 = .ok (.iconst 1, 1) := lw_dr lw_d_cX12_cancels_40 7 rfl
theorem dX12_cancels_51 : decode cX12_cancels 51 = .ok (.aload_n 0, 1) := lw_dr lw_d_cX12_cancels_40 8 rfl
theorem dX12_cancels_52 : decode cX12_cancels 52 = .ok (.getfield 234, 3) := lw_dr lw_d_cX12_cancels_40 9 rfl
theorem dX12_cancels_55 : decode cX12_cancels 55 = .ok (.isub, 1) := lw_dr lw_d_cX12_cancels_40 10 rfl
theorem dX12_cancels_56 : decode cX12_cancels 56 = .ok (.istore_n 3, 1) := lw_dr lw_d_cX12_cancels_40 11 rfl
theorem dX12_cancels_57 : decode cX12_cancels 57 = .ok (.iconst 3, 1) := lw_dr lw_d_cX12_cancels_40 12 rfl
theorem dX12_cancels_58 : decode cX12_cancels 58 = .ok (.aload_n 0, 1) := lw_dr lw_d_cX12_cancels_40 13 rfl
theorem dX12_cancels_59 : decode cX12_cancels 59 = .ok (.getfield 234, 3) := lw_dr lw_d_cX12_cancels_40 14 rfl
theorem dX12_cancels_62 : decode cX12_cancels 62 = .ok (.isub, 1) := lw_dr lw_d_cX12_cancels_40 15 rfl
theorem dX12_cancels_63 : decode cX12_cancels 63 = .ok (.istore 4, 2) := lw_dr lw_d_cX12_cancels_40 16 rfl
theorem dX12_cancels_65 : decode cX12_cancels 65 = .ok (.iload 4, 2) := lw_dr lw_d_cX12_cancels_40 17 rfl
theorem dX12_cancels_67 : decode cX12_cancels 67 = .ok (.aload_n 0, 1) := lw_dr lw_d_cX12_cancels_40 18 rfl
theorem dX12_cancels_68 : decode cX12_cancels 68 = .ok (.getfield 234, 3) := lw_dr lw_d_cX12_cancels_40 19 rfl
theorem dX12_cancels_71 : decode cX12_cancels 71 = .ok (.if_icmp .ge 29, 3) := lw_dr lw_d_cX12_cancels_40 20 rfl
theorem dX12_cancels_100 : decode cX12_cancels 100 = .ok (.aload_n 0, 1) := lw_dr lw_d_cX12_cancels_40 21 rfl
theorem dX12_cancels_101 : decode cX12_cancels 101 = .ok (.getfield 115, 3) := lw_dr lw_d_cX12_cancels_40 22 rfl
theorem dX12_cancels_104 : decode cX12_cancels 104 = .ok (.iload_n 2, 1) := lw_dr lw_d_cX12_cancels_40 23 rfl
theorem dX12_cancels_105 : decode cX12_cancels 105 = .ok (.iload_n 3, 1) := lw_dr lw_d_cX12_cancels_40 24 rfl
theorem dX12_cancels_106 : decode cX12_cancels 106 = .ok (.iastore, 1) := lw_dr lw_d_cX12_cancels_40 25 rfl
theorem dX12_cancels_107 : decode cX12_cancels 107 = .ok (.iconst 0, 1) := lw_dr lw_d_cX12_cancels_40 26 rfl
theorem dX12_cancels_108 : decode cX12_cancels 108 = .ok (.istore 4, 2) := lw_dr lw_d_cX12_cancels_40 27 rfl
theorem dX12_cancels_110 : decode cX12_cancels 110 = .ok (.iload 4, 2) := lw_dr lw_d_cX12_cancels_40 28 rfl
theorem dX12_cancels_112 : decode cX12_cancels 112 = .ok (.aload_n 0, 1) := lw_dr lw_d_cX12_cancels_40 29 rfl
theorem dX12_cancels_113 : decode cX12_cancels 113 = .ok (.getfield 240, 3) := lw_dr lw_d_cX12_cancels_40 30 rfl
theorem dX12_cancels_116 : decode cX12_cancels 116 = .ok (.if_icmp .ge 33, 3) := lw_dr lw_d_cX12_cancels_40 31 rfl
theorem dX12_cancels_149 : decode cX12_cancels 149 = .ok (.iinc 1 1, 3) := lw_dr lw_d_cX12_cancels_40 32 rfl
theorem dX12_cancels_152 : decode cX12_cancels 152 = .ok (.goto (-117), 3) := lw_dr lw_d_cX12_cancels_40 33 rfl
theorem dX12_cancels_74 : decode cX12_cancels 74 = .ok (.aload_n 0, 1) := lw_dr lw_d_cX12_cancels_40 34 rfl
theorem dX12_cancels_75 : decode cX12_cancels 75 = .ok (.iload_n 2, 1) := lw_dr lw_d_cX12_cancels_40 35 rfl
theorem dX12_cancels_76 : decode cX12_cancels 76 = .ok (.iload 4, 2) := lw_dr lw_d_cX12_cancels_40 36 rfl
theorem dX12_cancels_78 : decode cX12_cancels 78 = .ok (.invokevirtual 422, 3) := lw_dr lw_d_cX12_cancels_40 37 rfl
theorem dX12_cancels_81 : decode cX12_cancels 81 = .ok (.aload_n 0, 1) := lw_dr lw_d_cX12_cancels_40 38 rfl
theorem dX12_cancels_82 : decode cX12_cancels 82 = .ok (.iload_n 2, 1) := lw_dr lw_d_cX12_cancels_40 39 rfl
theorem lw_d_cX12_cancels_83 : lw_dl cX12_cancels [(83, .iload_n 3, 1), (84, .invokevirtual 422, 3), (87, .lcmp, 1), (88, .ifCond .ge 6, 3), (94, .iinc 4 2, 3), (97, .goto (-32), 3), (91, .iload 4, 2), (93, .istore_n 3, 1), (14, .aload_n 0, 1), (15, .getfield 118, 3), (18, .iload_n 1, 1), (19, .aload_n 0, 1), (20, .getfield 100, 3), (23, .iload_n 1, 1), (24, .iaload, 1), (25, .i2l, 1), (26, .lastore, 1), (27, .iinc 1 1, 3), (30, .goto (-24), 3), (119, .aload_n 0, 1), (120, .getfield 118, 3), (123, .iload 4, 2), (125, .dup2, 1), (126, .laload, 1), (127, .aload_n 0, 1), (128, .getfield 69, 3), (131, .iconst 5, 1), (132, .iload 4, 2), (134, .imul, 1), (135, .iload_n 2, 1), (136, .iadd, 1), (137, .iaload, 1), (138, .iload_n 3, 1), (139, .imul, 1), (140, .i2l, 1), (141, .lsub, 1), (142, .lastore, 1), (143, .iinc 4 1, 3), (146, .goto (-36), 3)] = true := by decide +kernel
theorem dX12_cancels_83 : decode cX12_cancels 83 = .ok (.iload_n 3, 1) := lw_dr lw_d_cX12_cancels_83 0 rfl
theorem dX12_cancels_84 : decode cX12_cancels 84 = .ok (.invokevirtual 422, 3) := lw_dr lw_d_cX12_cancels_83 1 rfl
theorem dX12_cancels_87 : decode cX12_cancels 87 = .ok (.lcmp, 1) := lw_dr lw_d_cX12_cancels_83 2 rfl
theorem dX12_cancels_88 : decode cX12_cancels 88 = .ok (.ifCond .ge 6, 3) := lw_dr lw_d_cX12_cancels_83 3 rfl
theorem dX12_cancels_94 : decode cX12_cancels 94 = .ok (.iinc 4 2, 3) := lw_dr lw_d_cX12_cancels_83 4 rfl
theorem dX12_cancels_97 : decode cX12_cancels 97 = .ok (.goto (-32), 3) := lw_dr lw_d_cX12_cancels_83 5 rfl
theorem dX12_cancels_91 : decode cX12_cancels 91 = .ok (.iload 4, 2) := lw_dr lw_d_cX12_cancels_83 6 rfl
theorem dX12_cancels_93 : decode cX12_cancels 93 = .ok (.istore_n 3, 1) := lw_dr lw_d_cX12_cancels_83 7 rfl
theorem dX12_cancels_14 : decode cX12_cancels 14 = .ok (.aload_n 0, 1) := lw_dr lw_d_cX12_cancels_83 8 rfl
theorem dX12_cancels_15 : decode cX12_cancels 15 = .ok (.getfield 118, 3) := lw_dr lw_d_cX12_cancels_83 9 rfl
theorem dX12_cancels_18 : decode cX12_cancels 18 = .ok (.iload_n 1, 1) := lw_dr lw_d_cX12_cancels_83 10 rfl
theorem dX12_cancels_19 : decode cX12_cancels 19 = .ok (.aload_n 0, 1) := lw_dr lw_d_cX12_cancels_83 11 rfl
theorem dX12_cancels_20 : decode cX12_cancels 20 = .ok (.getfield 100, 3) := lw_dr lw_d_cX12_cancels_83 12 rfl
theorem dX12_cancels_23 : decode cX12_cancels 23 = .ok (.iload_n 1, 1) := lw_dr lw_d_cX12_cancels_83 13 rfl
theorem dX12_cancels_24 : decode cX12_cancels 24 = .ok (.iaload, 1) := lw_dr lw_d_cX12_cancels_83 14 rfl
theorem dX12_cancels_25 : decode cX12_cancels 25 = .ok (.i2l, 1) := lw_dr lw_d_cX12_cancels_83 15 rfl
theorem dX12_cancels_26 : decode cX12_cancels 26 = .ok (.lastore, 1) := lw_dr lw_d_cX12_cancels_83 16 rfl
theorem dX12_cancels_27 : decode cX12_cancels 27 = .ok (.iinc 1 1, 3) := lw_dr lw_d_cX12_cancels_83 17 rfl
theorem dX12_cancels_30 : decode cX12_cancels 30 = .ok (.goto (-24), 3) := lw_dr lw_d_cX12_cancels_83 18 rfl
theorem dX12_cancels_119 : decode cX12_cancels 119 = .ok (.aload_n 0, 1) := lw_dr lw_d_cX12_cancels_83 19 rfl
theorem dX12_cancels_120 : decode cX12_cancels 120 = .ok (.getfield 118, 3) := lw_dr lw_d_cX12_cancels_83 20 rfl
theorem dX12_cancels_123 : decode cX12_cancels 123 = .ok (.iload 4, 2) := lw_dr lw_d_cX12_cancels_83 21 rfl
theorem dX12_cancels_125 : decode cX12_cancels 125 = .ok (.dup2, 1) := lw_dr lw_d_cX12_cancels_83 22 rfl
theorem dX12_cancels_126 : decode cX12_cancels 126 = .ok (.laload, 1) := lw_dr lw_d_cX12_cancels_83 23 rfl
theorem dX12_cancels_127 : decode cX12_cancels 127 = .ok (.aload_n 0, 1) := lw_dr lw_d_cX12_cancels_83 24 rfl
theorem dX12_cancels_128 : decode cX12_cancels 128 = .ok (.getfield 69, 3) := lw_dr lw_d_cX12_cancels_83 25 rfl
theorem dX12_cancels_131 : decode cX12_cancels 131 = .ok (.iconst 5, 1) := lw_dr lw_d_cX12_cancels_83 26 rfl
theorem dX12_cancels_132 : decode cX12_cancels 132 = .ok (.iload 4, 2) := lw_dr lw_d_cX12_cancels_83 27 rfl
theorem dX12_cancels_134 : decode cX12_cancels 134 = .ok (.imul, 1) := lw_dr lw_d_cX12_cancels_83 28 rfl
theorem dX12_cancels_135 : decode cX12_cancels 135 = .ok (.iload_n 2, 1) := lw_dr lw_d_cX12_cancels_83 29 rfl
theorem dX12_cancels_136 : decode cX12_cancels 136 = .ok (.iadd, 1) := lw_dr lw_d_cX12_cancels_83 30 rfl
theorem dX12_cancels_137 : decode cX12_cancels 137 = .ok (.iaload, 1) := lw_dr lw_d_cX12_cancels_83 31 rfl
theorem dX12_cancels_138 : decode cX12_cancels 138 = .ok (.iload_n 3, 1) := lw_dr lw_d_cX12_cancels_83 32 rfl
theorem dX12_cancels_139 : decode cX12_cancels 139 = .ok (.imul, 1) := lw_dr lw_d_cX12_cancels_83 33 rfl
theorem dX12_cancels_140 : decode cX12_cancels 140 = .ok (.i2l, 1) := lw_dr lw_d_cX12_cancels_83 34 rfl
theorem dX12_cancels_141 : decode cX12_cancels 141 = .ok (.lsub, 1) := lw_dr lw_d_cX12_cancels_83 35 rfl
theorem dX12_cancels_142 : decode cX12_cancels 142 = .ok (.lastore, 1) := lw_dr lw_d_cX12_cancels_83 36 rfl
theorem dX12_cancels_143 : decode cX12_cancels 143 = .ok (.iinc 4 1, 3) := lw_dr lw_d_cX12_cancels_83 37 rfl
theorem dX12_cancels_146 : decode cX12_cancels 146 = .ok (.goto (-36), 3) := lw_dr lw_d_cX12_cancels_83 38 rfl
theorem lw_d_cX12_restBy_0 : lw_dl cX12_restBy [(0, .lconst 0, 1), (1, .lstore_n 3, 1), (2, .iconst 0, 1), (3, .istore 5, 2), (5, .iload 5, 2), (7, .aload_n 0, 1), (8, .getfield 240, 3), (11, .if_icmp .ge 41, 3), (52, .lload_n 3, 1), (53, .lreturn, 1), (14, .aload_n 0, 1), (15, .getfield 118, 3), (18, .iload 5, 2), (20, .laload, 1), (21, .aload_n 0, 1), (22, .getfield 69, 3), (25, .iconst 5, 1), (26, .iload 5, 2), (28, .imul, 1), (29, .iload_n 1, 1), (30, .iadd, 1), (31, .iaload, 1), (32, .iload_n 2, 1), (33, .imul, 1), (34, .i2l, 1), (35, .lsub, 1), (36, .lstore 6, 2), (38, .lload_n 3, 1), (39, .lload 6, 2), (41, .lload 6, 2), (43, .lmul, 1), (44, .ladd, 1), (45, .lstore_n 3, 1), (46, .iinc 5 1, 3), (49, .goto (-44), 3)] = true := by decide +kernel
theorem dX12_restBy_0 : decode cX12_restBy 0 = .ok (.lconst 0, 1) := lw_dr lw_d_cX12_restBy_0 0 rfl
theorem dX12_restBy_1 : decode cX12_restBy 1 = .ok (.lstore_n 3, 1) := lw_dr lw_d_cX12_restBy_0 1 rfl
theorem dX12_restBy_2 : decode cX12_restBy 2 = .ok (.iconst 0, 1) := lw_dr lw_d_cX12_restBy_0 2 rfl
theorem dX12_restBy_3 : decode cX12_restBy 3 = .ok (.istore 5, 2) := lw_dr lw_d_cX12_restBy_0 3 rfl
theorem dX12_restBy_5 : decode cX12_restBy 5 = .ok (.iload 5, 2) := lw_dr lw_d_cX12_restBy_0 4 rfl
theorem dX12_restBy_7 : decode cX12_restBy 7 = .ok (.aload_n 0, 1) := lw_dr lw_d_cX12_restBy_0 5 rfl
theorem dX12_restBy_8 : decode cX12_restBy 8 = .ok (.getfield 240, 3) := lw_dr lw_d_cX12_restBy_0 6 rfl
theorem dX12_restBy_11 : decode cX12_restBy 11 = .ok (.if_icmp .ge 41, 3) := lw_dr lw_d_cX12_restBy_0 7 rfl
theorem dX12_restBy_52 : decode cX12_restBy 52 = .ok (.lload_n 3, 1) := lw_dr lw_d_cX12_restBy_0 8 rfl
theorem dX12_restBy_53 : decode cX12_restBy 53 = .ok (.lreturn, 1) := lw_dr lw_d_cX12_restBy_0 9 rfl
theorem dX12_restBy_14 : decode cX12_restBy 14 = .ok (.aload_n 0, 1) := lw_dr lw_d_cX12_restBy_0 10 rfl
theorem dX12_restBy_15 : decode cX12_restBy 15 = .ok (.getfield 118, 3) := lw_dr lw_d_cX12_restBy_0 11 rfl
theorem dX12_restBy_18 : decode cX12_restBy 18 = .ok (.iload 5, 2) := lw_dr lw_d_cX12_restBy_0 12 rfl
theorem dX12_restBy_20 : decode cX12_restBy 20 = .ok (.laload, 1) := lw_dr lw_d_cX12_restBy_0 13 rfl
theorem dX12_restBy_21 : decode cX12_restBy 21 = .ok (.aload_n 0, 1) := lw_dr lw_d_cX12_restBy_0 14 rfl
theorem dX12_restBy_22 : decode cX12_restBy 22 = .ok (.getfield 69, 3) := lw_dr lw_d_cX12_restBy_0 15 rfl
theorem dX12_restBy_25 : decode cX12_restBy 25 = .ok (.iconst 5, 1) := lw_dr lw_d_cX12_restBy_0 16 rfl
theorem dX12_restBy_26 : decode cX12_restBy 26 = .ok (.iload 5, 2) := lw_dr lw_d_cX12_restBy_0 17 rfl
theorem dX12_restBy_28 : decode cX12_restBy 28 = .ok (.imul, 1) := lw_dr lw_d_cX12_restBy_0 18 rfl
theorem dX12_restBy_29 : decode cX12_restBy 29 = .ok (.iload_n 1, 1) := lw_dr lw_d_cX12_restBy_0 19 rfl
theorem dX12_restBy_30 : decode cX12_restBy 30 = .ok (.iadd, 1) := lw_dr lw_d_cX12_restBy_0 20 rfl
theorem dX12_restBy_31 : decode cX12_restBy 31 = .ok (.iaload, 1) := lw_dr lw_d_cX12_restBy_0 21 rfl
theorem dX12_restBy_32 : decode cX12_restBy 32 = .ok (.iload_n 2, 1) := lw_dr lw_d_cX12_restBy_0 22 rfl
theorem dX12_restBy_33 : decode cX12_restBy 33 = .ok (.imul, 1) := lw_dr lw_d_cX12_restBy_0 23 rfl
theorem dX12_restBy_34 : decode cX12_restBy 34 = .ok (.i2l, 1) := lw_dr lw_d_cX12_restBy_0 24 rfl
theorem dX12_restBy_35 : decode cX12_restBy 35 = .ok (.lsub, 1) := lw_dr lw_d_cX12_restBy_0 25 rfl
theorem dX12_restBy_36 : decode cX12_restBy 36 = .ok (.lstore 6, 2) := lw_dr lw_d_cX12_restBy_0 26 rfl
theorem dX12_restBy_38 : decode cX12_restBy 38 = .ok (.lload_n 3, 1) := lw_dr lw_d_cX12_restBy_0 27 rfl
theorem dX12_restBy_39 : decode cX12_restBy 39 = .ok (.lload 6, 2) := lw_dr lw_d_cX12_restBy_0 28 rfl
theorem dX12_restBy_41 : decode cX12_restBy 41 = .ok (.lload 6, 2) := lw_dr lw_d_cX12_restBy_0 29 rfl
theorem dX12_restBy_43 : decode cX12_restBy 43 = .ok (.lmul, 1) := lw_dr lw_d_cX12_restBy_0 30 rfl
theorem dX12_restBy_44 : decode cX12_restBy 44 = .ok (.ladd, 1) := lw_dr lw_d_cX12_restBy_0 31 rfl
theorem dX12_restBy_45 : decode cX12_restBy 45 = .ok (.lstore_n 3, 1) := lw_dr lw_d_cX12_restBy_0 32 rfl
theorem dX12_restBy_46 : decode cX12_restBy 46 = .ok (.iinc 5 1, 3) := lw_dr lw_d_cX12_restBy_0 33 rfl
theorem dX12_restBy_49 : decode cX12_restBy 49 = .ok (.goto (-44), 3) := lw_dr lw_d_cX12_restBy_0 34 rfl
theorem lw_d_cX12_cancel_16 : lw_dl cX12_cancel [(16, .aload_n 0, 1), (17, .getfield 115, 3), (20, .iload_n 1, 1), (21, .iaload, 1), (22, .ireturn, 1), (8, .ldc_w 364, 3), (11, .ireturn, 1)] = true := by decide +kernel
theorem dX12_cancel_16 : decode cX12_cancel 16 = .ok (.aload_n 0, 1) := lw_dr lw_d_cX12_cancel_16 0 rfl
theorem dX12_cancel_17 : decode cX12_cancel 17 = .ok (.getfield 115, 3) := lw_dr lw_d_cX12_cancel_16 1 rfl
theorem dX12_cancel_20 : decode cX12_cancel 20 = .ok (.iload_n 1, 1) := lw_dr lw_d_cX12_cancel_16 2 rfl
theorem dX12_cancel_21 : decode cX12_cancel 21 = .ok (.iaload, 1) := lw_dr lw_d_cX12_cancel_16 3 rfl
theorem dX12_cancel_22 : decode cX12_cancel 22 = .ok (.ireturn, 1) := lw_dr lw_d_cX12_cancel_16 4 rfl
theorem dX12_cancel_8 : decode cX12_cancel 8 = .ok (.ldc_w 364, 3) := lw_dr lw_d_cX12_cancel_16 5 rfl
theorem dX12_cancel_11 : decode cX12_cancel 11 = .ok (.ireturn, 1) := lw_dr lw_d_cX12_cancel_16 6 rfl
theorem lw_d_cX12_order_0 : lw_dl cX12_order [(0, .aload_n 0, 1), (1, .iload_n 1, 1), (2, .invokevirtual 361, 3), (5, .ifCond .ne 5, 3), (10, .aload_n 0, 1), (11, .invokevirtual 419, 3), (14, .aload_n 0, 1), (15, .getfield 112, 3), (18, .iload_n 1, 1), (19, .iaload, 1), (20, .ireturn, 1), (8, .iconst (-1), 1), (9, .ireturn, 1)] = true := by decide +kernel
theorem dX12_order_0 : decode cX12_order 0 = .ok (.aload_n 0, 1) := lw_dr lw_d_cX12_order_0 0 rfl
theorem dX12_order_1 : decode cX12_order 1 = .ok (.iload_n 1, 1) := lw_dr lw_d_cX12_order_0 1 rfl
theorem dX12_order_2 : decode cX12_order 2 = .ok (.invokevirtual 361, 3) := lw_dr lw_d_cX12_order_0 2 rfl
theorem dX12_order_5 : decode cX12_order 5 = .ok (.ifCond .ne 5, 3) := lw_dr lw_d_cX12_order_0 3 rfl
theorem dX12_order_10 : decode cX12_order 10 = .ok (.aload_n 0, 1) := lw_dr lw_d_cX12_order_0 4 rfl
theorem dX12_order_11 : decode cX12_order 11 = .ok (.invokevirtual 419, 3) := lw_dr lw_d_cX12_order_0 5 rfl
theorem dX12_order_14 : decode cX12_order 14 = .ok (.aload_n 0, 1) := lw_dr lw_d_cX12_order_0 6 rfl
theorem dX12_order_15 : decode cX12_order 15 = .ok (.getfield 112, 3) := lw_dr lw_d_cX12_order_0 7 rfl
theorem dX12_order_18 : decode cX12_order 18 = .ok (.iload_n 1, 1) := lw_dr lw_d_cX12_order_0 8 rfl
theorem dX12_order_19 : decode cX12_order 19 = .ok (.iaload, 1) := lw_dr lw_d_cX12_order_0 9 rfl
theorem dX12_order_20 : decode cX12_order 20 = .ok (.ireturn, 1) := lw_dr lw_d_cX12_order_0 10 rfl
theorem dX12_order_8 : decode cX12_order 8 = .ok (.iconst (-1), 1) := lw_dr lw_d_cX12_order_0 11 rfl
theorem dX12_order_9 : decode cX12_order 9 = .ok (.ireturn, 1) := lw_dr lw_d_cX12_order_0 12 rfl
theorem lw_d_cX12_left_0 : lw_dl cX12_left [(0, .aload_n 0, 1), (1, .getfield 237, 3), (4, .ifCond .ne 7, 3), (11, .aload_n 0, 1), (12, .invokevirtual 426, 3), (15, .lconst 0, 1), (16, .lstore_n 1, 1), (17, .iconst 0, 1), (18, .istore_n 3, 1), (19, .iload_n 3, 1), (20, .aload_n 0, 1), (21, .getfield 240, 3), (24, .if_icmp .ge 25, 3), (49, .lload_n 1, 1), (50, .lreturn, 1), (27, .lload_n 1, 1), (28, .aload_n 0, 1), (29, .getfield 118, 3), (32, .iload_n 3, 1), (33, .laload, 1), (34, .aload_n 0, 1), (35, .getfield 118, 3), (38, .iload_n 3, 1), (39, .laload, 1), (40, .lmul, 1), (41, .ladd, 1), (42, .lstore_n 1, 1), (43, .iinc 3 1, 3), (46, .goto (-27), 3), (7, .ldc2_w 384, 3), (10, .lreturn, 1)] = true := by decide +kernel
theorem dX12_left_0 : decode cX12_left 0 = .ok (.aload_n 0, 1) := lw_dr lw_d_cX12_left_0 0 rfl
theorem dX12_left_1 : decode cX12_left 1 = .ok (.getfield 237, 3) := lw_dr lw_d_cX12_left_0 1 rfl
theorem dX12_left_4 : decode cX12_left 4 = .ok (.ifCond .ne 7, 3) := lw_dr lw_d_cX12_left_0 2 rfl
theorem dX12_left_11 : decode cX12_left 11 = .ok (.aload_n 0, 1) := lw_dr lw_d_cX12_left_0 3 rfl
theorem dX12_left_12 : decode cX12_left 12 = .ok (.invokevirtual 426, 3) := lw_dr lw_d_cX12_left_0 4 rfl
theorem dX12_left_15 : decode cX12_left 15 = .ok (.lconst 0, 1) := lw_dr lw_d_cX12_left_0 5 rfl
theorem dX12_left_16 : decode cX12_left 16 = .ok (.lstore_n 1, 1) := lw_dr lw_d_cX12_left_0 6 rfl
theorem dX12_left_17 : decode cX12_left 17 = .ok (.iconst 0, 1) := lw_dr lw_d_cX12_left_0 7 rfl
theorem dX12_left_18 : decode cX12_left 18 = .ok (.istore_n 3, 1) := lw_dr lw_d_cX12_left_0 8 rfl
theorem dX12_left_19 : decode cX12_left 19 = .ok (.iload_n 3, 1) := lw_dr lw_d_cX12_left_0 9 rfl
theorem dX12_left_20 : decode cX12_left 20 = .ok (.aload_n 0, 1) := lw_dr lw_d_cX12_left_0 10 rfl
theorem dX12_left_21 : decode cX12_left 21 = .ok (.getfield 240, 3) := lw_dr lw_d_cX12_left_0 11 rfl
theorem dX12_left_24 : decode cX12_left 24 = .ok (.if_icmp .ge 25, 3) := lw_dr lw_d_cX12_left_0 12 rfl
theorem dX12_left_49 : decode cX12_left 49 = .ok (.lload_n 1, 1) := lw_dr lw_d_cX12_left_0 13 rfl
theorem dX12_left_50 : decode cX12_left 50 = .ok (.lreturn, 1) := lw_dr lw_d_cX12_left_0 14 rfl
theorem dX12_left_27 : decode cX12_left 27 = .ok (.lload_n 1, 1) := lw_dr lw_d_cX12_left_0 15 rfl
theorem dX12_left_28 : decode cX12_left 28 = .ok (.aload_n 0, 1) := lw_dr lw_d_cX12_left_0 16 rfl
theorem dX12_left_29 : decode cX12_left 29 = .ok (.getfield 118, 3) := lw_dr lw_d_cX12_left_0 17 rfl
theorem dX12_left_32 : decode cX12_left 32 = .ok (.iload_n 3, 1) := lw_dr lw_d_cX12_left_0 18 rfl
theorem dX12_left_33 : decode cX12_left 33 = .ok (.laload, 1) := lw_dr lw_d_cX12_left_0 19 rfl
theorem dX12_left_34 : decode cX12_left 34 = .ok (.aload_n 0, 1) := lw_dr lw_d_cX12_left_0 20 rfl
theorem dX12_left_35 : decode cX12_left 35 = .ok (.getfield 118, 3) := lw_dr lw_d_cX12_left_0 21 rfl
theorem dX12_left_38 : decode cX12_left 38 = .ok (.iload_n 3, 1) := lw_dr lw_d_cX12_left_0 22 rfl
theorem dX12_left_39 : decode cX12_left 39 = .ok (.laload, 1) := lw_dr lw_d_cX12_left_0 23 rfl
theorem dX12_left_40 : decode cX12_left 40 = .ok (.lmul, 1) := lw_dr lw_d_cX12_left_0 24 rfl
theorem dX12_left_41 : decode cX12_left 41 = .ok (.ladd, 1) := lw_dr lw_d_cX12_left_0 25 rfl
theorem dX12_left_42 : decode cX12_left 42 = .ok (.lstore_n 1, 1) := lw_dr lw_d_cX12_left_0 26 rfl
theorem dX12_left_43 : decode cX12_left 43 = .ok (.iinc 3 1, 3) := lw_dr lw_d_cX12_left_0 27 rfl
theorem dX12_left_46 : decode cX12_left 46 = .ok (.goto (-27), 3) := lw_dr lw_d_cX12_left_0 28 rfl
theorem dX12_left_7 : decode cX12_left 7 = .ok (.ldc2_w 384, 3) := lw_dr lw_d_cX12_left_0 29 rfl
theorem dX12_left_10 : decode cX12_left 10 = .ok (.lreturn, 1) := lw_dr lw_d_cX12_left_0 30 rfl
theorem lw_d_cX12_least_0 : lw_dl cX12_least [(0, .aload_n 0, 1), (1, .iload_n 1, 1), (2, .invokevirtual 361, 3), (5, .ifCond .eq 11, 3), (16, .ldc2_w 384, 3), (19, .lreturn, 1), (8, .aload_n 0, 1), (9, .iload_n 2, 1), (10, .invokevirtual 371, 3), (13, .ifCond .ne 7, 3), (20, .ldc2_w 384, 3), (23, .lstore_n 3, 1), (24, .iconst 0, 1), (25, .istore 5, 2), (27, .iload 5, 2), (29, .aload_n 0, 1), (30, .invokevirtual 406, 3), (33, .if_icmp .ge 43, 3), (76, .lload_n 3, 1), (77, .lreturn, 1), (36, .aload_n 0, 1), (37, .iload 5, 2), (39, .invokevirtual 409, 3), (42, .lstore 6, 2), (44, .aload_n 0, 1), (45, .getfield 103, 3), (48, .iload_n 1, 1), (49, .iaload, 1), (50, .iload_n 2, 1), (51, .if_icmp .ne 19, 3), (70, .iinc 5 1, 3), (73, .goto (-46), 3), (54, .lload_n 3, 1), (55, .lconst 0, 1), (56, .lcmp, 1), (57, .ifCond .lt 10, 3), (67, .lload 6, 2), (69, .lstore_n 3, 1), (60, .lload 6, 2), (62, .lload_n 3, 1)] = true := by decide +kernel
theorem dX12_least_0 : decode cX12_least 0 = .ok (.aload_n 0, 1) := lw_dr lw_d_cX12_least_0 0 rfl
theorem dX12_least_1 : decode cX12_least 1 = .ok (.iload_n 1, 1) := lw_dr lw_d_cX12_least_0 1 rfl
theorem dX12_least_2 : decode cX12_least 2 = .ok (.invokevirtual 361, 3) := lw_dr lw_d_cX12_least_0 2 rfl
theorem dX12_least_5 : decode cX12_least 5 = .ok (.ifCond .eq 11, 3) := lw_dr lw_d_cX12_least_0 3 rfl
theorem dX12_least_16 : decode cX12_least 16 = .ok (.ldc2_w 384, 3) := lw_dr lw_d_cX12_least_0 4 rfl
theorem dX12_least_19 : decode cX12_least 19 = .ok (.lreturn, 1) := lw_dr lw_d_cX12_least_0 5 rfl
theorem dX12_least_8 : decode cX12_least 8 = .ok (.aload_n 0, 1) := lw_dr lw_d_cX12_least_0 6 rfl
theorem dX12_least_9 : decode cX12_least 9 = .ok (.iload_n 2, 1) := lw_dr lw_d_cX12_least_0 7 rfl
theorem dX12_least_10 : decode cX12_least 10 = .ok (.invokevirtual 371, 3) := lw_dr lw_d_cX12_least_0 8 rfl
theorem dX12_least_13 : decode cX12_least 13 = .ok (.ifCond .ne 7, 3) := lw_dr lw_d_cX12_least_0 9 rfl
theorem dX12_least_20 : decode cX12_least 20 = .ok (.ldc2_w 384, 3) := lw_dr lw_d_cX12_least_0 10 rfl
theorem dX12_least_23 : decode cX12_least 23 = .ok (.lstore_n 3, 1) := lw_dr lw_d_cX12_least_0 11 rfl
theorem dX12_least_24 : decode cX12_least 24 = .ok (.iconst 0, 1) := lw_dr lw_d_cX12_least_0 12 rfl
theorem dX12_least_25 : decode cX12_least 25 = .ok (.istore 5, 2) := lw_dr lw_d_cX12_least_0 13 rfl
theorem dX12_least_27 : decode cX12_least 27 = .ok (.iload 5, 2) := lw_dr lw_d_cX12_least_0 14 rfl
theorem dX12_least_29 : decode cX12_least 29 = .ok (.aload_n 0, 1) := lw_dr lw_d_cX12_least_0 15 rfl
theorem dX12_least_30 : decode cX12_least 30 = .ok (.invokevirtual 406, 3) := lw_dr lw_d_cX12_least_0 16 rfl
theorem dX12_least_33 : decode cX12_least 33 = .ok (.if_icmp .ge 43, 3) := lw_dr lw_d_cX12_least_0 17 rfl
theorem dX12_least_76 : decode cX12_least 76 = .ok (.lload_n 3, 1) := lw_dr lw_d_cX12_least_0 18 rfl
theorem dX12_least_77 : decode cX12_least 77 = .ok (.lreturn, 1) := lw_dr lw_d_cX12_least_0 19 rfl
theorem dX12_least_36 : decode cX12_least 36 = .ok (.aload_n 0, 1) := lw_dr lw_d_cX12_least_0 20 rfl
theorem dX12_least_37 : decode cX12_least 37 = .ok (.iload 5, 2) := lw_dr lw_d_cX12_least_0 21 rfl
theorem dX12_least_39 : decode cX12_least 39 = .ok (.invokevirtual 409, 3) := lw_dr lw_d_cX12_least_0 22 rfl
theorem dX12_least_42 : decode cX12_least 42 = .ok (.lstore 6, 2) := lw_dr lw_d_cX12_least_0 23 rfl
theorem dX12_least_44 : decode cX12_least 44 = .ok (.aload_n 0, 1) := lw_dr lw_d_cX12_least_0 24 rfl
theorem dX12_least_45 : decode cX12_least 45 = .ok (.getfield 103, 3) := lw_dr lw_d_cX12_least_0 25 rfl
theorem dX12_least_48 : decode cX12_least 48 = .ok (.iload_n 1, 1) := lw_dr lw_d_cX12_least_0 26 rfl
theorem dX12_least_49 : decode cX12_least 49 = .ok (.iaload, 1) := lw_dr lw_d_cX12_least_0 27 rfl
theorem dX12_least_50 : decode cX12_least 50 = .ok (.iload_n 2, 1) := lw_dr lw_d_cX12_least_0 28 rfl
theorem dX12_least_51 : decode cX12_least 51 = .ok (.if_icmp .ne 19, 3) := lw_dr lw_d_cX12_least_0 29 rfl
theorem dX12_least_70 : decode cX12_least 70 = .ok (.iinc 5 1, 3) := lw_dr lw_d_cX12_least_0 30 rfl
theorem dX12_least_73 : decode cX12_least 73 = .ok (.goto (-46), 3) := lw_dr lw_d_cX12_least_0 31 rfl
theorem dX12_least_54 : decode cX12_least 54 = .ok (.lload_n 3, 1) := lw_dr lw_d_cX12_least_0 32 rfl
theorem dX12_least_55 : decode cX12_least 55 = .ok (.lconst 0, 1) := lw_dr lw_d_cX12_least_0 33 rfl
theorem dX12_least_56 : decode cX12_least 56 = .ok (.lcmp, 1) := lw_dr lw_d_cX12_least_0 34 rfl
theorem dX12_least_57 : decode cX12_least 57 = .ok (.ifCond .lt 10, 3) := lw_dr lw_d_cX12_least_0 35 rfl
theorem dX12_least_67 : decode cX12_least 67 = .ok (.lload 6, 2) := lw_dr lw_d_cX12_least_0 36 rfl
theorem dX12_least_69 : decode cX12_least 69 = .ok (.lstore_n 3, 1) := lw_dr lw_d_cX12_least_0 37 rfl
theorem dX12_least_60 : decode cX12_least 60 = .ok (.lload 6, 2) := lw_dr lw_d_cX12_least_0 38 rfl
theorem dX12_least_62 : decode cX12_least 62 = .ok (.lload_n 3, 1) := lw_dr lw_d_cX12_least_0 39 rfl
theorem lw_d_cX12_least_63 : lw_dl cX12_least [(63, .lcmp, 1), (64, .ifCond .ge 6, 3)] = true := by decide +kernel
theorem dX12_least_63 : decode cX12_least 63 = .ok (.lcmp, 1) := lw_dr lw_d_cX12_least_63 0 rfl
theorem dX12_least_64 : decode cX12_least 64 = .ok (.ifCond .ge 6, 3) := lw_dr lw_d_cX12_least_63 1 rfl
theorem lw_d_cX12_share_0 : lw_dl cX12_share [(0, .aload_n 0, 1), (1, .iload_n 1, 1), (2, .invokevirtual 361, 3), (5, .ifCond .eq 11, 3), (16, .iconst (-1), 1), (17, .ireturn, 1), (8, .aload_n 0, 1), (9, .iload_n 2, 1), (10, .invokevirtual 371, 3), (13, .ifCond .ne 5, 3), (18, .lconst 0, 1), (19, .lstore_n 3, 1), (20, .lconst 0, 1), (21, .lstore 5, 2), (23, .iconst 0, 1), (24, .istore 7, 2), (26, .iload 7, 2), (28, .aload_n 0, 1), (29, .invokevirtual 406, 3), (32, .if_icmp .ge 45, 3), (77, .lload 5, 2), (79, .lconst 0, 1), (80, .lcmp, 1), (81, .ifCond .ne 7, 3), (84, .iconst 0, 1), (85, .goto 12, 3), (97, .ireturn, 1), (35, .ldc2_w 429, 3), (38, .lconst 1, 1), (39, .aload_n 0, 1), (40, .iload 7, 2), (42, .invokevirtual 409, 3), (45, .ladd, 1), (46, .ldiv, 1)] = true := by decide +kernel
theorem dX12_share_0 : decode cX12_share 0 = .ok (.aload_n 0, 1) := lw_dr lw_d_cX12_share_0 0 rfl
theorem dX12_share_1 : decode cX12_share 1 = .ok (.iload_n 1, 1) := lw_dr lw_d_cX12_share_0 1 rfl
theorem dX12_share_2 : decode cX12_share 2 = .ok (.invokevirtual 361, 3) := lw_dr lw_d_cX12_share_0 2 rfl
theorem dX12_share_5 : decode cX12_share 5 = .ok (.ifCond .eq 11, 3) := lw_dr lw_d_cX12_share_0 3 rfl
theorem dX12_share_16 : decode cX12_share 16 = .ok (.iconst (-1), 1) := lw_dr lw_d_cX12_share_0 4 rfl
theorem dX12_share_17 : decode cX12_share 17 = .ok (.ireturn, 1) := lw_dr lw_d_cX12_share_0 5 rfl
theorem dX12_share_8 : decode cX12_share 8 = .ok (.aload_n 0, 1) := lw_dr lw_d_cX12_share_0 6 rfl
theorem dX12_share_9 : decode cX12_share 9 = .ok (.iload_n 2, 1) := lw_dr lw_d_cX12_share_0 7 rfl
theorem dX12_share_10 : decode cX12_share 10 = .ok (.invokevirtual 371, 3) := lw_dr lw_d_cX12_share_0 8 rfl
theorem dX12_share_13 : decode cX12_share 13 = .ok (.ifCond .ne 5, 3) := lw_dr lw_d_cX12_share_0 9 rfl
theorem dX12_share_18 : decode cX12_share 18 = .ok (.lconst 0, 1) := lw_dr lw_d_cX12_share_0 10 rfl
theorem dX12_share_19 : decode cX12_share 19 = .ok (.lstore_n 3, 1) := lw_dr lw_d_cX12_share_0 11 rfl
theorem dX12_share_20 : decode cX12_share 20 = .ok (.lconst 0, 1) := lw_dr lw_d_cX12_share_0 12 rfl
theorem dX12_share_21 : decode cX12_share 21 = .ok (.lstore 5, 2) := lw_dr lw_d_cX12_share_0 13 rfl
theorem dX12_share_23 : decode cX12_share 23 = .ok (.iconst 0, 1) := lw_dr lw_d_cX12_share_0 14 rfl
theorem dX12_share_24 : decode cX12_share 24 = .ok (.istore 7, 2) := lw_dr lw_d_cX12_share_0 15 rfl
theorem dX12_share_26 : decode cX12_share 26 = .ok (.iload 7, 2) := lw_dr lw_d_cX12_share_0 16 rfl
theorem dX12_share_28 : decode cX12_share 28 = .ok (.aload_n 0, 1) := lw_dr lw_d_cX12_share_0 17 rfl
theorem dX12_share_29 : decode cX12_share 29 = .ok (.invokevirtual 406, 3) := lw_dr lw_d_cX12_share_0 18 rfl
theorem dX12_share_32 : decode cX12_share 32 = .ok (.if_icmp .ge 45, 3) := lw_dr lw_d_cX12_share_0 19 rfl
theorem dX12_share_77 : decode cX12_share 77 = .ok (.lload 5, 2) := lw_dr lw_d_cX12_share_0 20 rfl
theorem dX12_share_79 : decode cX12_share 79 = .ok (.lconst 0, 1) := lw_dr lw_d_cX12_share_0 21 rfl
theorem dX12_share_80 : decode cX12_share 80 = .ok (.lcmp, 1) := lw_dr lw_d_cX12_share_0 22 rfl
theorem dX12_share_81 : decode cX12_share 81 = .ok (.ifCond .ne 7, 3) := lw_dr lw_d_cX12_share_0 23 rfl
theorem dX12_share_84 : decode cX12_share 84 = .ok (.iconst 0, 1) := lw_dr lw_d_cX12_share_0 24 rfl
theorem dX12_share_85 : decode cX12_share 85 = .ok (.goto 12, 3) := lw_dr lw_d_cX12_share_0 25 rfl
theorem dX12_share_97 : decode cX12_share 97 = .ok (.ireturn, 1) := lw_dr lw_d_cX12_share_0 26 rfl
theorem dX12_share_35 : decode cX12_share 35 = .ok (.ldc2_w 429, 3) := lw_dr lw_d_cX12_share_0 27 rfl
theorem dX12_share_38 : decode cX12_share 38 = .ok (.lconst 1, 1) := lw_dr lw_d_cX12_share_0 28 rfl
theorem dX12_share_39 : decode cX12_share 39 = .ok (.aload_n 0, 1) := lw_dr lw_d_cX12_share_0 29 rfl
theorem dX12_share_40 : decode cX12_share 40 = .ok (.iload 7, 2) := lw_dr lw_d_cX12_share_0 30 rfl
theorem dX12_share_42 : decode cX12_share 42 = .ok (.invokevirtual 409, 3) := lw_dr lw_d_cX12_share_0 31 rfl
theorem dX12_share_45 : decode cX12_share 45 = .ok (.ladd, 1) := lw_dr lw_d_cX12_share_0 32 rfl
theorem dX12_share_46 : decode cX12_share 46 = .ok (.ldiv, 1) := lw_dr lw_d_cX12_share_0 33 rfl
theorem lw_d_cX12_sure_0 : lw_dl cX12_sure [(0, .aload_n 0, 1), (1, .iload_n 1, 1), (2, .invokevirtual 361, 3), (5, .ifCond .ne 7, 3), (12, .aload_n 0, 1), (13, .iconst 1, 1), (14, .invokevirtual 413, 3), (17, .istore_n 2, 1), (18, .aload_n 0, 1), (19, .getfield 106, 3), (22, .iconst 0, 1), (23, .laload, 1), (24, .lstore_n 3, 1), (25, .aload_n 0, 1), (26, .aload_n 0, 1), (27, .getfield 109, 3), (30, .iconst 0, 1), (31, .iaload, 1), (32, .invokevirtual 403, 3), (35, .aload_n 0, 1), (36, .getfield 103, 3), (39, .iload_n 1, 1), (40, .iaload, 1), (41, .istore 5, 2), (43, .ldc2_w 384, 3), (46, .lstore 6, 2), (48, .iconst 0, 1), (49, .istore 8, 2), (51, .iload 8, 2), (53, .aload_n 0, 1), (54, .invokevirtual 406, 3), (57, .if_icmp .ge 47, 3), (104, .lload 6, 2), (106, .lload_n 3, 1), (107, .lsub, 1), (108, .lreturn, 1), (60, .aload_n 0, 1), (61, .iload 8, 2), (63, .invokevirtual 409, 3), (66, .lstore 9, 2)] = true := by decide +kernel
theorem dX12_sure_0 : decode cX12_sure 0 = .ok (.aload_n 0, 1) := lw_dr lw_d_cX12_sure_0 0 rfl
theorem dX12_sure_1 : decode cX12_sure 1 = .ok (.iload_n 1, 1) := lw_dr lw_d_cX12_sure_0 1 rfl
theorem dX12_sure_2 : decode cX12_sure 2 = .ok (.invokevirtual 361, 3) := lw_dr lw_d_cX12_sure_0 2 rfl
theorem dX12_sure_5 : decode cX12_sure 5 = .ok (.ifCond .ne 7, 3) := lw_dr lw_d_cX12_sure_0 3 rfl
theorem dX12_sure_12 : decode cX12_sure 12 = .ok (.aload_n 0, 1) := lw_dr lw_d_cX12_sure_0 4 rfl
theorem dX12_sure_13 : decode cX12_sure 13 = .ok (.iconst 1, 1) := lw_dr lw_d_cX12_sure_0 5 rfl
theorem dX12_sure_14 : decode cX12_sure 14 = .ok (.invokevirtual 413, 3) := lw_dr lw_d_cX12_sure_0 6 rfl
theorem dX12_sure_17 : decode cX12_sure 17 = .ok (.istore_n 2, 1) := lw_dr lw_d_cX12_sure_0 7 rfl
theorem dX12_sure_18 : decode cX12_sure 18 = .ok (.aload_n 0, 1) := lw_dr lw_d_cX12_sure_0 8 rfl
theorem dX12_sure_19 : decode cX12_sure 19 = .ok (.getfield 106, 3) := lw_dr lw_d_cX12_sure_0 9 rfl
theorem dX12_sure_22 : decode cX12_sure 22 = .ok (.iconst 0, 1) := lw_dr lw_d_cX12_sure_0 10 rfl
theorem dX12_sure_23 : decode cX12_sure 23 = .ok (.laload, 1) := lw_dr lw_d_cX12_sure_0 11 rfl
theorem dX12_sure_24 : decode cX12_sure 24 = .ok (.lstore_n 3, 1) := lw_dr lw_d_cX12_sure_0 12 rfl
theorem dX12_sure_25 : decode cX12_sure 25 = .ok (.aload_n 0, 1) := lw_dr lw_d_cX12_sure_0 13 rfl
theorem dX12_sure_26 : decode cX12_sure 26 = .ok (.aload_n 0, 1) := lw_dr lw_d_cX12_sure_0 14 rfl
theorem dX12_sure_27 : decode cX12_sure 27 = .ok (.getfield 109, 3) := lw_dr lw_d_cX12_sure_0 15 rfl
theorem dX12_sure_30 : decode cX12_sure 30 = .ok (.iconst 0, 1) := lw_dr lw_d_cX12_sure_0 16 rfl
theorem dX12_sure_31 : decode cX12_sure 31 = .ok (.iaload, 1) := lw_dr lw_d_cX12_sure_0 17 rfl
theorem dX12_sure_32 : decode cX12_sure 32 = .ok (.invokevirtual 403, 3) := lw_dr lw_d_cX12_sure_0 18 rfl
theorem dX12_sure_35 : decode cX12_sure 35 = .ok (.aload_n 0, 1) := lw_dr lw_d_cX12_sure_0 19 rfl
theorem dX12_sure_36 : decode cX12_sure 36 = .ok (.getfield 103, 3) := lw_dr lw_d_cX12_sure_0 20 rfl
theorem dX12_sure_39 : decode cX12_sure 39 = .ok (.iload_n 1, 1) := lw_dr lw_d_cX12_sure_0 21 rfl
theorem dX12_sure_40 : decode cX12_sure 40 = .ok (.iaload, 1) := lw_dr lw_d_cX12_sure_0 22 rfl
theorem dX12_sure_41 : decode cX12_sure 41 = .ok (.istore 5, 2) := lw_dr lw_d_cX12_sure_0 23 rfl
theorem dX12_sure_43 : decode cX12_sure 43 = .ok (.ldc2_w 384, 3) := lw_dr lw_d_cX12_sure_0 24 rfl
theorem dX12_sure_46 : decode cX12_sure 46 = .ok (.lstore 6, 2) := lw_dr lw_d_cX12_sure_0 25 rfl
theorem dX12_sure_48 : decode cX12_sure 48 = .ok (.iconst 0, 1) := lw_dr lw_d_cX12_sure_0 26 rfl
theorem dX12_sure_49 : decode cX12_sure 49 = .ok (.istore 8, 2) := lw_dr lw_d_cX12_sure_0 27 rfl
theorem dX12_sure_51 : decode cX12_sure 51 = .ok (.iload 8, 2) := lw_dr lw_d_cX12_sure_0 28 rfl
theorem dX12_sure_53 : decode cX12_sure 53 = .ok (.aload_n 0, 1) := lw_dr lw_d_cX12_sure_0 29 rfl
theorem dX12_sure_54 : decode cX12_sure 54 = .ok (.invokevirtual 406, 3) := lw_dr lw_d_cX12_sure_0 30 rfl
theorem dX12_sure_57 : decode cX12_sure 57 = .ok (.if_icmp .ge 47, 3) := lw_dr lw_d_cX12_sure_0 31 rfl
theorem dX12_sure_104 : decode cX12_sure 104 = .ok (.lload 6, 2) := lw_dr lw_d_cX12_sure_0 32 rfl
theorem dX12_sure_106 : decode cX12_sure 106 = .ok (.lload_n 3, 1) := lw_dr lw_d_cX12_sure_0 33 rfl
theorem dX12_sure_107 : decode cX12_sure 107 = .ok (.lsub, 1) := lw_dr lw_d_cX12_sure_0 34 rfl
theorem dX12_sure_108 : decode cX12_sure 108 = .ok (.lreturn, 1) := lw_dr lw_d_cX12_sure_0 35 rfl
theorem dX12_sure_60 : decode cX12_sure 60 = .ok (.aload_n 0, 1) := lw_dr lw_d_cX12_sure_0 36 rfl
theorem dX12_sure_61 : decode cX12_sure 61 = .ok (.iload 8, 2) := lw_dr lw_d_cX12_sure_0 37 rfl
theorem dX12_sure_63 : decode cX12_sure 63 = .ok (.invokevirtual 409, 3) := lw_dr lw_d_cX12_sure_0 38 rfl
theorem dX12_sure_66 : decode cX12_sure 66 = .ok (.lstore 9, 2) := lw_dr lw_d_cX12_sure_0 39 rfl
theorem lw_d_cX12_sure_68 : lw_dl cX12_sure [(68, .aload_n 0, 1), (69, .getfield 103, 3), (72, .iload_n 1, 1), (73, .iaload, 1), (74, .iload 5, 2), (76, .if_icmp .eq 22, 3), (98, .iinc 8 1, 3), (101, .goto (-50), 3), (79, .lload 6, 2), (81, .lconst 0, 1), (82, .lcmp, 1), (83, .ifCond .lt 11, 3), (94, .lload 9, 2), (96, .lstore 6, 2), (86, .lload 9, 2), (88, .lload 6, 2), (90, .lcmp, 1), (91, .ifCond .ge 7, 3), (8, .ldc2_w 384, 3), (11, .lreturn, 1)] = true := by decide +kernel
theorem dX12_sure_68 : decode cX12_sure 68 = .ok (.aload_n 0, 1) := lw_dr lw_d_cX12_sure_68 0 rfl
theorem dX12_sure_69 : decode cX12_sure 69 = .ok (.getfield 103, 3) := lw_dr lw_d_cX12_sure_68 1 rfl
theorem dX12_sure_72 : decode cX12_sure 72 = .ok (.iload_n 1, 1) := lw_dr lw_d_cX12_sure_68 2 rfl
theorem dX12_sure_73 : decode cX12_sure 73 = .ok (.iaload, 1) := lw_dr lw_d_cX12_sure_68 3 rfl
theorem dX12_sure_74 : decode cX12_sure 74 = .ok (.iload 5, 2) := lw_dr lw_d_cX12_sure_68 4 rfl
theorem dX12_sure_76 : decode cX12_sure 76 = .ok (.if_icmp .eq 22, 3) := lw_dr lw_d_cX12_sure_68 5 rfl
theorem dX12_sure_98 : decode cX12_sure 98 = .ok (.iinc 8 1, 3) := lw_dr lw_d_cX12_sure_68 6 rfl
theorem dX12_sure_101 : decode cX12_sure 101 = .ok (.goto (-50), 3) := lw_dr lw_d_cX12_sure_68 7 rfl
theorem dX12_sure_79 : decode cX12_sure 79 = .ok (.lload 6, 2) := lw_dr lw_d_cX12_sure_68 8 rfl
theorem dX12_sure_81 : decode cX12_sure 81 = .ok (.lconst 0, 1) := lw_dr lw_d_cX12_sure_68 9 rfl
theorem dX12_sure_82 : decode cX12_sure 82 = .ok (.lcmp, 1) := lw_dr lw_d_cX12_sure_68 10 rfl
theorem dX12_sure_83 : decode cX12_sure 83 = .ok (.ifCond .lt 11, 3) := lw_dr lw_d_cX12_sure_68 11 rfl
theorem dX12_sure_94 : decode cX12_sure 94 = .ok (.lload 9, 2) := lw_dr lw_d_cX12_sure_68 12 rfl
theorem dX12_sure_96 : decode cX12_sure 96 = .ok (.lstore 6, 2) := lw_dr lw_d_cX12_sure_68 13 rfl
theorem dX12_sure_86 : decode cX12_sure 86 = .ok (.lload 9, 2) := lw_dr lw_d_cX12_sure_68 14 rfl
theorem dX12_sure_88 : decode cX12_sure 88 = .ok (.lload 6, 2) := lw_dr lw_d_cX12_sure_68 15 rfl
theorem dX12_sure_90 : decode cX12_sure 90 = .ok (.lcmp, 1) := lw_dr lw_d_cX12_sure_68 16 rfl
theorem dX12_sure_91 : decode cX12_sure 91 = .ok (.ifCond .ge 7, 3) := lw_dr lw_d_cX12_sure_68 17 rfl
theorem dX12_sure_8 : decode cX12_sure 8 = .ok (.ldc2_w 384, 3) := lw_dr lw_d_cX12_sure_68 18 rfl
theorem dX12_sure_11 : decode cX12_sure 11 = .ok (.lreturn, 1) := lw_dr lw_d_cX12_sure_68 19 rfl
theorem lw_d_cX12_lead_0 : lw_dl cX12_lead [(0, .iload_n 1, 1), (1, .i2l, 1), (2, .lconst 1, 1), (3, .ldc2_w 440, 3), (6, .invokestatic 191, 3), (9, .ifCond .ne 5, 3), (14, .iconst 0, 1), (15, .istore_n 2, 1), (16, .iload_n 2, 1), (17, .iload_n 1, 1), (18, .if_icmp .ge 40, 3), (58, .iload_n 2, 1), (59, .ireturn, 1), (21, .aload_n 0, 1), (22, .invokevirtual 442, 3)] = true := by decide +kernel
theorem dX12_lead_0 : decode cX12_lead 0 = .ok (.iload_n 1, 1) := lw_dr lw_d_cX12_lead_0 0 rfl
theorem dX12_lead_1 : decode cX12_lead 1 = .ok (.i2l, 1) := lw_dr lw_d_cX12_lead_0 1 rfl
theorem dX12_lead_2 : decode cX12_lead 2 = .ok (.lconst 1, 1) := lw_dr lw_d_cX12_lead_0 2 rfl
theorem dX12_lead_3 : decode cX12_lead 3 = .ok (.ldc2_w 440, 3) := lw_dr lw_d_cX12_lead_0 3 rfl
theorem dX12_lead_6 : decode cX12_lead 6 = .ok (.invokestatic 191, 3) := lw_dr lw_d_cX12_lead_0 4 rfl
theorem dX12_lead_9 : decode cX12_lead 9 = .ok (.ifCond .ne 5, 3) := lw_dr lw_d_cX12_lead_0 5 rfl
theorem dX12_lead_14 : decode cX12_lead 14 = .ok (.iconst 0, 1) := lw_dr lw_d_cX12_lead_0 6 rfl
theorem dX12_lead_15 : decode cX12_lead 15 = .ok (.istore_n 2, 1) := lw_dr lw_d_cX12_lead_0 7 rfl
theorem dX12_lead_16 : decode cX12_lead 16 = .ok (.iload_n 2, 1) := lw_dr lw_d_cX12_lead_0 8 rfl
theorem dX12_lead_17 : decode cX12_lead 17 = .ok (.iload_n 1, 1) := lw_dr lw_d_cX12_lead_0 9 rfl
theorem dX12_lead_18 : decode cX12_lead 18 = .ok (.if_icmp .ge 40, 3) := lw_dr lw_d_cX12_lead_0 10 rfl
theorem dX12_lead_58 : decode cX12_lead 58 = .ok (.iload_n 2, 1) := lw_dr lw_d_cX12_lead_0 11 rfl
theorem dX12_lead_59 : decode cX12_lead 59 = .ok (.ireturn, 1) := lw_dr lw_d_cX12_lead_0 12 rfl
theorem dX12_lead_21 : decode cX12_lead 21 = .ok (.aload_n 0, 1) := lw_dr lw_d_cX12_lead_0 13 rfl
theorem dX12_lead_22 : decode cX12_lead 22 = .ok (.invokevirtual 442, 3) := lw_dr lw_d_cX12_lead_0 14 rfl
theorem lw_d_cX12_isStep_0 : lw_dl cX12_isStep [(0, .aload_n 0, 1), (1, .getfield 349, 3), (4, .sipush 200, 3), (7, .if_icmp .ne 5, 3), (12, .iconst 0, 1), (13, .istore_n 1, 1), (14, .iload_n 1, 1), (15, .aload_n 0, 1), (16, .getfield 237, 3), (19, .if_icmp .ge 123, 3), (142, .iconst 0, 1), (143, .ireturn, 1), (22, .iconst 0, 1), (23, .istore_n 2, 1), (24, .iload_n 2, 1), (25, .aload_n 0, 1), (26, .getfield 237, 3), (29, .if_icmp .ge 107, 3), (32, .aload_n 0, 1), (33, .iload_n 2, 1), (34, .iload_n 2, 1), (35, .aload_n 0, 1), (36, .getfield 97, 3), (39, .invokevirtual 334, 3), (42, .istore_n 3, 1), (43, .iload_n 1, 1), (44, .iload_n 2, 1), (45, .if_icmp .eq 85, 3), (130, .iinc 2 1, 3), (133, .goto (-109), 3), (136, .iinc 1 1, 3), (139, .goto (-125), 3), (48, .iload_n 3, 1), (49, .ifCond .ne 6, 3), (55, .aload_n 0, 1), (56, .iload_n 1, 1), (57, .iload_n 2, 1), (58, .aload_n 0, 1), (59, .getfield 97, 3), (62, .invokevirtual 334, 3)] = true := by decide +kernel
theorem dX12_isStep_0 : decode cX12_isStep 0 = .ok (.aload_n 0, 1) := lw_dr lw_d_cX12_isStep_0 0 rfl
theorem dX12_isStep_1 : decode cX12_isStep 1 = .ok (.getfield 349, 3) := lw_dr lw_d_cX12_isStep_0 1 rfl
theorem dX12_isStep_4 : decode cX12_isStep 4 = .ok (.sipush 200, 3) := lw_dr lw_d_cX12_isStep_0 2 rfl
theorem dX12_isStep_7 : decode cX12_isStep 7 = .ok (.if_icmp .ne 5, 3) := lw_dr lw_d_cX12_isStep_0 3 rfl
theorem dX12_isStep_12 : decode cX12_isStep 12 = .ok (.iconst 0, 1) := lw_dr lw_d_cX12_isStep_0 4 rfl
theorem dX12_isStep_13 : decode cX12_isStep 13 = .ok (.istore_n 1, 1) := lw_dr lw_d_cX12_isStep_0 5 rfl
theorem dX12_isStep_14 : decode cX12_isStep 14 = .ok (.iload_n 1, 1) := lw_dr lw_d_cX12_isStep_0 6 rfl
theorem dX12_isStep_15 : decode cX12_isStep 15 = .ok (.aload_n 0, 1) := lw_dr lw_d_cX12_isStep_0 7 rfl
theorem dX12_isStep_16 : decode cX12_isStep 16 = .ok (.getfield 237, 3) := lw_dr lw_d_cX12_isStep_0 8 rfl
theorem dX12_isStep_19 : decode cX12_isStep 19 = .ok (.if_icmp .ge 123, 3) := lw_dr lw_d_cX12_isStep_0 9 rfl
theorem dX12_isStep_142 : decode cX12_isStep 142 = .ok (.iconst 0, 1) := lw_dr lw_d_cX12_isStep_0 10 rfl
theorem dX12_isStep_143 : decode cX12_isStep 143 = .ok (.ireturn, 1) := lw_dr lw_d_cX12_isStep_0 11 rfl
theorem dX12_isStep_22 : decode cX12_isStep 22 = .ok (.iconst 0, 1) := lw_dr lw_d_cX12_isStep_0 12 rfl
theorem dX12_isStep_23 : decode cX12_isStep 23 = .ok (.istore_n 2, 1) := lw_dr lw_d_cX12_isStep_0 13 rfl
theorem dX12_isStep_24 : decode cX12_isStep 24 = .ok (.iload_n 2, 1) := lw_dr lw_d_cX12_isStep_0 14 rfl
theorem dX12_isStep_25 : decode cX12_isStep 25 = .ok (.aload_n 0, 1) := lw_dr lw_d_cX12_isStep_0 15 rfl
theorem dX12_isStep_26 : decode cX12_isStep 26 = .ok (.getfield 237, 3) := lw_dr lw_d_cX12_isStep_0 16 rfl
theorem dX12_isStep_29 : decode cX12_isStep 29 = .ok (.if_icmp .ge 107, 3) := lw_dr lw_d_cX12_isStep_0 17 rfl
theorem dX12_isStep_32 : decode cX12_isStep 32 = .ok (.aload_n 0, 1) := lw_dr lw_d_cX12_isStep_0 18 rfl
theorem dX12_isStep_33 : decode cX12_isStep 33 = .ok (.iload_n 2, 1) := lw_dr lw_d_cX12_isStep_0 19 rfl
theorem dX12_isStep_34 : decode cX12_isStep 34 = .ok (.iload_n 2, 1) := lw_dr lw_d_cX12_isStep_0 20 rfl
theorem dX12_isStep_35 : decode cX12_isStep 35 = .ok (.aload_n 0, 1) := lw_dr lw_d_cX12_isStep_0 21 rfl
theorem dX12_isStep_36 : decode cX12_isStep 36 = .ok (.getfield 97, 3) := lw_dr lw_d_cX12_isStep_0 22 rfl
theorem dX12_isStep_39 : decode cX12_isStep 39 = .ok (.invokevirtual 334, 3) := lw_dr lw_d_cX12_isStep_0 23 rfl
theorem dX12_isStep_42 : decode cX12_isStep 42 = .ok (.istore_n 3, 1) := lw_dr lw_d_cX12_isStep_0 24 rfl
theorem dX12_isStep_43 : decode cX12_isStep 43 = .ok (.iload_n 1, 1) := lw_dr lw_d_cX12_isStep_0 25 rfl
theorem dX12_isStep_44 : decode cX12_isStep 44 = .ok (.iload_n 2, 1) := lw_dr lw_d_cX12_isStep_0 26 rfl
theorem dX12_isStep_45 : decode cX12_isStep 45 = .ok (.if_icmp .eq 85, 3) := lw_dr lw_d_cX12_isStep_0 27 rfl
theorem dX12_isStep_130 : decode cX12_isStep 130 = .ok (.iinc 2 1, 3) := lw_dr lw_d_cX12_isStep_0 28 rfl
theorem dX12_isStep_133 : decode cX12_isStep 133 = .ok (.goto (-109), 3) := lw_dr lw_d_cX12_isStep_0 29 rfl
theorem dX12_isStep_136 : decode cX12_isStep 136 = .ok (.iinc 1 1, 3) := lw_dr lw_d_cX12_isStep_0 30 rfl
theorem dX12_isStep_139 : decode cX12_isStep 139 = .ok (.goto (-125), 3) := lw_dr lw_d_cX12_isStep_0 31 rfl
theorem dX12_isStep_48 : decode cX12_isStep 48 = .ok (.iload_n 3, 1) := lw_dr lw_d_cX12_isStep_0 32 rfl
theorem dX12_isStep_49 : decode cX12_isStep 49 = .ok (.ifCond .ne 6, 3) := lw_dr lw_d_cX12_isStep_0 33 rfl
theorem dX12_isStep_55 : decode cX12_isStep 55 = .ok (.aload_n 0, 1) := lw_dr lw_d_cX12_isStep_0 34 rfl
theorem dX12_isStep_56 : decode cX12_isStep 56 = .ok (.iload_n 1, 1) := lw_dr lw_d_cX12_isStep_0 35 rfl
theorem dX12_isStep_57 : decode cX12_isStep 57 = .ok (.iload_n 2, 1) := lw_dr lw_d_cX12_isStep_0 36 rfl
theorem dX12_isStep_58 : decode cX12_isStep 58 = .ok (.aload_n 0, 1) := lw_dr lw_d_cX12_isStep_0 37 rfl
theorem dX12_isStep_59 : decode cX12_isStep 59 = .ok (.getfield 97, 3) := lw_dr lw_d_cX12_isStep_0 38 rfl
theorem dX12_isStep_62 : decode cX12_isStep 62 = .ok (.invokevirtual 334, 3) := lw_dr lw_d_cX12_isStep_0 39 rfl
theorem lw_d_cX12_isStep_65 : lw_dl cX12_isStep [(65, .iload_n 3, 1), (66, .invokestatic 433, 3), (69, .istore 4, 2), (71, .iload 4, 2), (73, .ifCond .ne 6, 3), (79, .aload_n 0, 1), (80, .iload_n 1, 1), (81, .iload_n 2, 1), (82, .iload 4, 2), (84, .invokevirtual 436, 3)] = true := by decide +kernel
theorem dX12_isStep_65 : decode cX12_isStep 65 = .ok (.iload_n 3, 1) := lw_dr lw_d_cX12_isStep_65 0 rfl
theorem dX12_isStep_66 : decode cX12_isStep 66 = .ok (.invokestatic 433, 3) := lw_dr lw_d_cX12_isStep_65 1 rfl
theorem dX12_isStep_69 : decode cX12_isStep 69 = .ok (.istore 4, 2) := lw_dr lw_d_cX12_isStep_65 2 rfl
theorem dX12_isStep_71 : decode cX12_isStep 71 = .ok (.iload 4, 2) := lw_dr lw_d_cX12_isStep_65 3 rfl
theorem dX12_isStep_73 : decode cX12_isStep 73 = .ok (.ifCond .ne 6, 3) := lw_dr lw_d_cX12_isStep_65 4 rfl
theorem dX12_isStep_79 : decode cX12_isStep 79 = .ok (.aload_n 0, 1) := lw_dr lw_d_cX12_isStep_65 5 rfl
theorem dX12_isStep_80 : decode cX12_isStep 80 = .ok (.iload_n 1, 1) := lw_dr lw_d_cX12_isStep_65 6 rfl
theorem dX12_isStep_81 : decode cX12_isStep 81 = .ok (.iload_n 2, 1) := lw_dr lw_d_cX12_isStep_65 7 rfl
theorem dX12_isStep_82 : decode cX12_isStep 82 = .ok (.iload 4, 2) := lw_dr lw_d_cX12_isStep_65 8 rfl
theorem dX12_isStep_84 : decode cX12_isStep 84 = .ok (.invokevirtual 436, 3) := lw_dr lw_d_cX12_isStep_65 9 rfl
theorem lw_d_cX12_nearestTo_0 : lw_dl cX12_nearestTo [(0, .iload_n 0, 1), (1, .ifCond .ge 8, 3), (9, .iload_n 0, 1), (10, .istore_n 2, 1), (11, .iload_n 2, 1), (12, .iload_n 1, 1), (13, .idiv, 1), (14, .istore_n 3, 1), (15, .ldc2_w 431, 3), (18, .iload_n 2, 1), (19, .iload_n 1, 1), (20, .irem, 1), (21, .i2l, 1), (22, .lmul, 1), (23, .iload_n 1, 1), (24, .i2l, 1), (25, .lcmp, 1), (26, .ifCond .le 6, 3), (32, .iload_n 0, 1), (33, .ifCond .ge 8, 3), (41, .iload_n 3, 1), (42, .ireturn, 1), (29, .iinc 3 1, 3), (4, .iload_n 0, 1), (5, .ineg, 1), (6, .goto 4, 3), (36, .iload_n 3, 1), (37, .ineg, 1), (38, .goto 4, 3)] = true := by decide +kernel
theorem dX12_nearestTo_0 : decode cX12_nearestTo 0 = .ok (.iload_n 0, 1) := lw_dr lw_d_cX12_nearestTo_0 0 rfl
theorem dX12_nearestTo_1 : decode cX12_nearestTo 1 = .ok (.ifCond .ge 8, 3) := lw_dr lw_d_cX12_nearestTo_0 1 rfl
theorem dX12_nearestTo_9 : decode cX12_nearestTo 9 = .ok (.iload_n 0, 1) := lw_dr lw_d_cX12_nearestTo_0 2 rfl
theorem dX12_nearestTo_10 : decode cX12_nearestTo 10 = .ok (.istore_n 2, 1) := lw_dr lw_d_cX12_nearestTo_0 3 rfl
theorem dX12_nearestTo_11 : decode cX12_nearestTo 11 = .ok (.iload_n 2, 1) := lw_dr lw_d_cX12_nearestTo_0 4 rfl
theorem dX12_nearestTo_12 : decode cX12_nearestTo 12 = .ok (.iload_n 1, 1) := lw_dr lw_d_cX12_nearestTo_0 5 rfl
theorem dX12_nearestTo_13 : decode cX12_nearestTo 13 = .ok (.idiv, 1) := lw_dr lw_d_cX12_nearestTo_0 6 rfl
theorem dX12_nearestTo_14 : decode cX12_nearestTo 14 = .ok (.istore_n 3, 1) := lw_dr lw_d_cX12_nearestTo_0 7 rfl
theorem dX12_nearestTo_15 : decode cX12_nearestTo 15 = .ok (.ldc2_w 431, 3) := lw_dr lw_d_cX12_nearestTo_0 8 rfl
theorem dX12_nearestTo_18 : decode cX12_nearestTo 18 = .ok (.iload_n 2, 1) := lw_dr lw_d_cX12_nearestTo_0 9 rfl
theorem dX12_nearestTo_19 : decode cX12_nearestTo 19 = .ok (.iload_n 1, 1) := lw_dr lw_d_cX12_nearestTo_0 10 rfl
theorem dX12_nearestTo_20 : decode cX12_nearestTo 20 = .ok (.irem, 1) := lw_dr lw_d_cX12_nearestTo_0 11 rfl
theorem dX12_nearestTo_21 : decode cX12_nearestTo 21 = .ok (.i2l, 1) := lw_dr lw_d_cX12_nearestTo_0 12 rfl
theorem dX12_nearestTo_22 : decode cX12_nearestTo 22 = .ok (.lmul, 1) := lw_dr lw_d_cX12_nearestTo_0 13 rfl
theorem dX12_nearestTo_23 : decode cX12_nearestTo 23 = .ok (.iload_n 1, 1) := lw_dr lw_d_cX12_nearestTo_0 14 rfl
theorem dX12_nearestTo_24 : decode cX12_nearestTo 24 = .ok (.i2l, 1) := lw_dr lw_d_cX12_nearestTo_0 15 rfl
theorem dX12_nearestTo_25 : decode cX12_nearestTo 25 = .ok (.lcmp, 1) := lw_dr lw_d_cX12_nearestTo_0 16 rfl
theorem dX12_nearestTo_26 : decode cX12_nearestTo 26 = .ok (.ifCond .le 6, 3) := lw_dr lw_d_cX12_nearestTo_0 17 rfl
theorem dX12_nearestTo_32 : decode cX12_nearestTo 32 = .ok (.iload_n 0, 1) := lw_dr lw_d_cX12_nearestTo_0 18 rfl
theorem dX12_nearestTo_33 : decode cX12_nearestTo 33 = .ok (.ifCond .ge 8, 3) := lw_dr lw_d_cX12_nearestTo_0 19 rfl
theorem dX12_nearestTo_41 : decode cX12_nearestTo 41 = .ok (.iload_n 3, 1) := lw_dr lw_d_cX12_nearestTo_0 20 rfl
theorem dX12_nearestTo_42 : decode cX12_nearestTo 42 = .ok (.ireturn, 1) := lw_dr lw_d_cX12_nearestTo_0 21 rfl
theorem dX12_nearestTo_29 : decode cX12_nearestTo 29 = .ok (.iinc 3 1, 3) := lw_dr lw_d_cX12_nearestTo_0 22 rfl
theorem dX12_nearestTo_4 : decode cX12_nearestTo 4 = .ok (.iload_n 0, 1) := lw_dr lw_d_cX12_nearestTo_0 23 rfl
theorem dX12_nearestTo_5 : decode cX12_nearestTo 5 = .ok (.ineg, 1) := lw_dr lw_d_cX12_nearestTo_0 24 rfl
theorem dX12_nearestTo_6 : decode cX12_nearestTo 6 = .ok (.goto 4, 3) := lw_dr lw_d_cX12_nearestTo_0 25 rfl
theorem dX12_nearestTo_36 : decode cX12_nearestTo 36 = .ok (.iload_n 3, 1) := lw_dr lw_d_cX12_nearestTo_0 26 rfl
theorem dX12_nearestTo_37 : decode cX12_nearestTo 37 = .ok (.ineg, 1) := lw_dr lw_d_cX12_nearestTo_0 27 rfl
theorem dX12_nearestTo_38 : decode cX12_nearestTo 38 = .ok (.goto 4, 3) := lw_dr lw_d_cX12_nearestTo_0 28 rfl
theorem lw_d_cX12_goes_0 : lw_dl cX12_goes [(0, .iconst 0, 1), (1, .istore 4, 2), (3, .iload 4, 2), (5, .aload_n 0, 1), (6, .getfield 240, 3)] = true := by decide +kernel
theorem dX12_goes_0 : decode cX12_goes 0 = .ok (.iconst 0, 1) := lw_dr lw_d_cX12_goes_0 0 rfl
theorem dX12_goes_1 : decode cX12_goes 1 = .ok (.istore 4, 2) := lw_dr lw_d_cX12_goes_0 1 rfl
theorem dX12_goes_3 : decode cX12_goes 3 = .ok (.iload 4, 2) := lw_dr lw_d_cX12_goes_0 2 rfl
theorem dX12_goes_5 : decode cX12_goes 5 = .ok (.aload_n 0, 1) := lw_dr lw_d_cX12_goes_0 3 rfl
theorem dX12_goes_6 : decode cX12_goes 6 = .ok (.getfield 240, 3) := lw_dr lw_d_cX12_goes_0 4 rfl
theorem lw_d_cX12_goes_9 : lw_dl cX12_goes [(9, .if_icmp .ge 36, 3), (45, .iconst 0, 1), (46, .istore 4, 2), (48, .iload 4, 2), (50, .aload_n 0, 1), (51, .getfield 237, 3), (54, .if_icmp .ge 37, 3), (91, .return_, 1), (57, .aload_n 0, 1), (58, .getfield 121, 3), (61, .iconst 5, 1), (62, .iload 4, 2), (64, .imul, 1), (65, .iload_n 1, 1), (66, .iadd, 1), (67, .dup2, 1), (68, .laload, 1), (69, .iload_n 3, 1), (70, .i2l, 1), (71, .aload_n 0, 1), (72, .getfield 121, 3), (75, .iconst 5, 1), (76, .iload 4, 2), (78, .imul, 1), (79, .iload_n 2, 1), (80, .iadd, 1), (81, .laload, 1), (82, .lmul, 1), (83, .lsub, 1), (84, .lastore, 1), (85, .iinc 4 1, 3), (88, .goto (-40), 3), (12, .aload_n 0, 1), (13, .getfield 97, 3), (16, .iconst 5, 1), (17, .iload 4, 2), (19, .imul, 1), (20, .iload_n 1, 1), (21, .iadd, 1), (22, .dup2, 1)] = true := by decide +kernel
theorem dX12_goes_9 : decode cX12_goes 9 = .ok (.if_icmp .ge 36, 3) := lw_dr lw_d_cX12_goes_9 0 rfl
theorem dX12_goes_45 : decode cX12_goes 45 = .ok (.iconst 0, 1) := lw_dr lw_d_cX12_goes_9 1 rfl
theorem dX12_goes_46 : decode cX12_goes 46 = .ok (.istore 4, 2) := lw_dr lw_d_cX12_goes_9 2 rfl
theorem dX12_goes_48 : decode cX12_goes 48 = .ok (.iload 4, 2) := lw_dr lw_d_cX12_goes_9 3 rfl
theorem dX12_goes_50 : decode cX12_goes 50 = .ok (.aload_n 0, 1) := lw_dr lw_d_cX12_goes_9 4 rfl
theorem dX12_goes_51 : decode cX12_goes 51 = .ok (.getfield 237, 3) := lw_dr lw_d_cX12_goes_9 5 rfl
theorem dX12_goes_54 : decode cX12_goes 54 = .ok (.if_icmp .ge 37, 3) := lw_dr lw_d_cX12_goes_9 6 rfl
theorem dX12_goes_91 : decode cX12_goes 91 = .ok (.return_, 1) := lw_dr lw_d_cX12_goes_9 7 rfl
theorem dX12_goes_57 : decode cX12_goes 57 = .ok (.aload_n 0, 1) := lw_dr lw_d_cX12_goes_9 8 rfl
theorem dX12_goes_58 : decode cX12_goes 58 = .ok (.getfield 121, 3) := lw_dr lw_d_cX12_goes_9 9 rfl
theorem dX12_goes_61 : decode cX12_goes 61 = .ok (.iconst 5, 1) := lw_dr lw_d_cX12_goes_9 10 rfl
theorem dX12_goes_62 : decode cX12_goes 62 = .ok (.iload 4, 2) := lw_dr lw_d_cX12_goes_9 11 rfl
theorem dX12_goes_64 : decode cX12_goes 64 = .ok (.imul, 1) := lw_dr lw_d_cX12_goes_9 12 rfl
theorem dX12_goes_65 : decode cX12_goes 65 = .ok (.iload_n 1, 1) := lw_dr lw_d_cX12_goes_9 13 rfl
theorem dX12_goes_66 : decode cX12_goes 66 = .ok (.iadd, 1) := lw_dr lw_d_cX12_goes_9 14 rfl
theorem dX12_goes_67 : decode cX12_goes 67 = .ok (.dup2, 1) := lw_dr lw_d_cX12_goes_9 15 rfl
theorem dX12_goes_68 : decode cX12_goes 68 = .ok (.laload, 1) := lw_dr lw_d_cX12_goes_9 16 rfl
theorem dX12_goes_69 : decode cX12_goes 69 = .ok (.iload_n 3, 1) := lw_dr lw_d_cX12_goes_9 17 rfl
theorem dX12_goes_70 : decode cX12_goes 70 = .ok (.i2l, 1) := lw_dr lw_d_cX12_goes_9 18 rfl
theorem dX12_goes_71 : decode cX12_goes 71 = .ok (.aload_n 0, 1) := lw_dr lw_d_cX12_goes_9 19 rfl
theorem dX12_goes_72 : decode cX12_goes 72 = .ok (.getfield 121, 3) := lw_dr lw_d_cX12_goes_9 20 rfl
theorem dX12_goes_75 : decode cX12_goes 75 = .ok (.iconst 5, 1) := lw_dr lw_d_cX12_goes_9 21 rfl
theorem dX12_goes_76 : decode cX12_goes 76 = .ok (.iload 4, 2) := lw_dr lw_d_cX12_goes_9 22 rfl
theorem dX12_goes_78 : decode cX12_goes 78 = .ok (.imul, 1) := lw_dr lw_d_cX12_goes_9 23 rfl
theorem dX12_goes_79 : decode cX12_goes 79 = .ok (.iload_n 2, 1) := lw_dr lw_d_cX12_goes_9 24 rfl
theorem dX12_goes_80 : decode cX12_goes 80 = .ok (.iadd, 1) := lw_dr lw_d_cX12_goes_9 25 rfl
theorem dX12_goes_81 : decode cX12_goes 81 = .ok (.laload, 1) := lw_dr lw_d_cX12_goes_9 26 rfl
theorem dX12_goes_82 : decode cX12_goes 82 = .ok (.lmul, 1) := lw_dr lw_d_cX12_goes_9 27 rfl
theorem dX12_goes_83 : decode cX12_goes 83 = .ok (.lsub, 1) := lw_dr lw_d_cX12_goes_9 28 rfl
theorem dX12_goes_84 : decode cX12_goes 84 = .ok (.lastore, 1) := lw_dr lw_d_cX12_goes_9 29 rfl
theorem dX12_goes_85 : decode cX12_goes 85 = .ok (.iinc 4 1, 3) := lw_dr lw_d_cX12_goes_9 30 rfl
theorem dX12_goes_88 : decode cX12_goes 88 = .ok (.goto (-40), 3) := lw_dr lw_d_cX12_goes_9 31 rfl
theorem dX12_goes_12 : decode cX12_goes 12 = .ok (.aload_n 0, 1) := lw_dr lw_d_cX12_goes_9 32 rfl
theorem dX12_goes_13 : decode cX12_goes 13 = .ok (.getfield 97, 3) := lw_dr lw_d_cX12_goes_9 33 rfl
theorem dX12_goes_16 : decode cX12_goes 16 = .ok (.iconst 5, 1) := lw_dr lw_d_cX12_goes_9 34 rfl
theorem dX12_goes_17 : decode cX12_goes 17 = .ok (.iload 4, 2) := lw_dr lw_d_cX12_goes_9 35 rfl
theorem dX12_goes_19 : decode cX12_goes 19 = .ok (.imul, 1) := lw_dr lw_d_cX12_goes_9 36 rfl
theorem dX12_goes_20 : decode cX12_goes 20 = .ok (.iload_n 1, 1) := lw_dr lw_d_cX12_goes_9 37 rfl
theorem dX12_goes_21 : decode cX12_goes 21 = .ok (.iadd, 1) := lw_dr lw_d_cX12_goes_9 38 rfl
theorem dX12_goes_22 : decode cX12_goes 22 = .ok (.dup2, 1) := lw_dr lw_d_cX12_goes_9 39 rfl
theorem lw_d_cX12_goes_23 : lw_dl cX12_goes [(23, .iaload, 1), (24, .iload_n 3, 1), (25, .aload_n 0, 1), (26, .getfield 97, 3), (29, .iconst 5, 1), (30, .iload 4, 2), (32, .imul, 1), (33, .iload_n 2, 1), (34, .iadd, 1), (35, .iaload, 1), (36, .imul, 1), (37, .isub, 1), (38, .iastore, 1), (39, .iinc 4 1, 3), (42, .goto (-39), 3)] = true := by decide +kernel
theorem dX12_goes_23 : decode cX12_goes 23 = .ok (.iaload, 1) := lw_dr lw_d_cX12_goes_23 0 rfl
theorem dX12_goes_24 : decode cX12_goes 24 = .ok (.iload_n 3, 1) := lw_dr lw_d_cX12_goes_23 1 rfl
theorem dX12_goes_25 : decode cX12_goes 25 = .ok (.aload_n 0, 1) := lw_dr lw_d_cX12_goes_23 2 rfl
theorem dX12_goes_26 : decode cX12_goes 26 = .ok (.getfield 97, 3) := lw_dr lw_d_cX12_goes_23 3 rfl
theorem dX12_goes_29 : decode cX12_goes 29 = .ok (.iconst 5, 1) := lw_dr lw_d_cX12_goes_23 4 rfl
theorem dX12_goes_30 : decode cX12_goes 30 = .ok (.iload 4, 2) := lw_dr lw_d_cX12_goes_23 5 rfl
theorem dX12_goes_32 : decode cX12_goes 32 = .ok (.imul, 1) := lw_dr lw_d_cX12_goes_23 6 rfl
theorem dX12_goes_33 : decode cX12_goes 33 = .ok (.iload_n 2, 1) := lw_dr lw_d_cX12_goes_23 7 rfl
theorem dX12_goes_34 : decode cX12_goes 34 = .ok (.iadd, 1) := lw_dr lw_d_cX12_goes_23 8 rfl
theorem dX12_goes_35 : decode cX12_goes 35 = .ok (.iaload, 1) := lw_dr lw_d_cX12_goes_23 9 rfl
theorem dX12_goes_36 : decode cX12_goes 36 = .ok (.imul, 1) := lw_dr lw_d_cX12_goes_23 10 rfl
theorem dX12_goes_37 : decode cX12_goes 37 = .ok (.isub, 1) := lw_dr lw_d_cX12_goes_23 11 rfl
theorem dX12_goes_38 : decode cX12_goes 38 = .ok (.iastore, 1) := lw_dr lw_d_cX12_goes_23 12 rfl
theorem dX12_goes_39 : decode cX12_goes 39 = .ok (.iinc 4 1, 3) := lw_dr lw_d_cX12_goes_23 13 rfl
theorem dX12_goes_42 : decode cX12_goes 42 = .ok (.goto (-39), 3) := lw_dr lw_d_cX12_goes_23 14 rfl
theorem lw_d_cX12_isStep_87 : lw_dl cX12_isStep [(87, .aload_n 0, 1), (88, .getfield 124, 3), (91, .aload_n 0, 1), (92, .getfield 349, 3), (95, .iload_n 1, 1), (96, .iastore, 1), (97, .aload_n 0, 1), (98, .getfield 127, 3), (101, .aload_n 0, 1), (102, .getfield 349, 3), (105, .iload_n 2, 1), (106, .iastore, 1), (107, .aload_n 0, 1), (108, .getfield 130, 3), (111, .aload_n 0, 1), (112, .getfield 349, 3), (115, .iload 4, 2), (117, .iastore, 1), (118, .aload_n 0, 1), (119, .dup, 1), (120, .getfield 349, 3), (123, .iconst 1, 1), (124, .iadd, 1), (125, .putfield 349, 3), (128, .iconst 1, 1), (129, .ireturn, 1), (76, .goto 54, 3), (52, .goto 78, 3), (10, .iconst 0, 1), (11, .ireturn, 1)] = true := by decide +kernel
theorem dX12_isStep_87 : decode cX12_isStep 87 = .ok (.aload_n 0, 1) := lw_dr lw_d_cX12_isStep_87 0 rfl
theorem dX12_isStep_88 : decode cX12_isStep 88 = .ok (.getfield 124, 3) := lw_dr lw_d_cX12_isStep_87 1 rfl
theorem dX12_isStep_91 : decode cX12_isStep 91 = .ok (.aload_n 0, 1) := lw_dr lw_d_cX12_isStep_87 2 rfl
theorem dX12_isStep_92 : decode cX12_isStep 92 = .ok (.getfield 349, 3) := lw_dr lw_d_cX12_isStep_87 3 rfl
theorem dX12_isStep_95 : decode cX12_isStep 95 = .ok (.iload_n 1, 1) := lw_dr lw_d_cX12_isStep_87 4 rfl
theorem dX12_isStep_96 : decode cX12_isStep 96 = .ok (.iastore, 1) := lw_dr lw_d_cX12_isStep_87 5 rfl
theorem dX12_isStep_97 : decode cX12_isStep 97 = .ok (.aload_n 0, 1) := lw_dr lw_d_cX12_isStep_87 6 rfl
theorem dX12_isStep_98 : decode cX12_isStep 98 = .ok (.getfield 127, 3) := lw_dr lw_d_cX12_isStep_87 7 rfl
theorem dX12_isStep_101 : decode cX12_isStep 101 = .ok (.aload_n 0, 1) := lw_dr lw_d_cX12_isStep_87 8 rfl
theorem dX12_isStep_102 : decode cX12_isStep 102 = .ok (.getfield 349, 3) := lw_dr lw_d_cX12_isStep_87 9 rfl
theorem dX12_isStep_105 : decode cX12_isStep 105 = .ok (.iload_n 2, 1) := lw_dr lw_d_cX12_isStep_87 10 rfl
theorem dX12_isStep_106 : decode cX12_isStep 106 = .ok (.iastore, 1) := lw_dr lw_d_cX12_isStep_87 11 rfl
theorem dX12_isStep_107 : decode cX12_isStep 107 = .ok (.aload_n 0, 1) := lw_dr lw_d_cX12_isStep_87 12 rfl
theorem dX12_isStep_108 : decode cX12_isStep 108 = .ok (.getfield 130, 3) := lw_dr lw_d_cX12_isStep_87 13 rfl
theorem dX12_isStep_111 : decode cX12_isStep 111 = .ok (.aload_n 0, 1) := lw_dr lw_d_cX12_isStep_87 14 rfl
theorem dX12_isStep_112 : decode cX12_isStep 112 = .ok (.getfield 349, 3) := lw_dr lw_d_cX12_isStep_87 15 rfl
theorem dX12_isStep_115 : decode cX12_isStep 115 = .ok (.iload 4, 2) := lw_dr lw_d_cX12_isStep_87 16 rfl
theorem dX12_isStep_117 : decode cX12_isStep 117 = .ok (.iastore, 1) := lw_dr lw_d_cX12_isStep_87 17 rfl
theorem dX12_isStep_118 : decode cX12_isStep 118 = .ok (.aload_n 0, 1) := lw_dr lw_d_cX12_isStep_87 18 rfl
theorem dX12_isStep_119 : decode cX12_isStep 119 = .ok (.dup, 1) := lw_dr lw_d_cX12_isStep_87 19 rfl
theorem dX12_isStep_120 : decode cX12_isStep 120 = .ok (.getfield 349, 3) := lw_dr lw_d_cX12_isStep_87 20 rfl
theorem dX12_isStep_123 : decode cX12_isStep 123 = .ok (.iconst 1, 1) := lw_dr lw_d_cX12_isStep_87 21 rfl
theorem dX12_isStep_124 : decode cX12_isStep 124 = .ok (.iadd, 1) := lw_dr lw_d_cX12_isStep_87 22 rfl
theorem dX12_isStep_125 : decode cX12_isStep 125 = .ok (.putfield 349, 3) := lw_dr lw_d_cX12_isStep_87 23 rfl
theorem dX12_isStep_128 : decode cX12_isStep 128 = .ok (.iconst 1, 1) := lw_dr lw_d_cX12_isStep_87 24 rfl
theorem dX12_isStep_129 : decode cX12_isStep 129 = .ok (.ireturn, 1) := lw_dr lw_d_cX12_isStep_87 25 rfl
theorem dX12_isStep_76 : decode cX12_isStep 76 = .ok (.goto 54, 3) := lw_dr lw_d_cX12_isStep_87 26 rfl
theorem dX12_isStep_52 : decode cX12_isStep 52 = .ok (.goto 78, 3) := lw_dr lw_d_cX12_isStep_87 27 rfl
theorem dX12_isStep_10 : decode cX12_isStep 10 = .ok (.iconst 0, 1) := lw_dr lw_d_cX12_isStep_87 28 rfl
theorem dX12_isStep_11 : decode cX12_isStep 11 = .ok (.ireturn, 1) := lw_dr lw_d_cX12_isStep_87 29 rfl
theorem lw_d_cX12_lead_25 : lw_dl cX12_lead [(25, .ifCond .eq 33, 3), (28, .iinc 2 1, 3), (31, .aload_n 0, 1), (32, .getfield 352, 3), (35, .bipush 40, 2), (37, .if_icmp .ge 13, 3), (50, .aload_n 0, 1), (51, .iconst 0, 1), (52, .putfield 355, 3), (55, .goto (-39), 3), (40, .aload_n 0, 1), (41, .dup, 1), (42, .getfield 352, 3), (45, .iconst 1, 1), (46, .iadd, 1), (47, .putfield 352, 3), (12, .iconst (-1), 1), (13, .ireturn, 1)] = true := by decide +kernel
theorem dX12_lead_25 : decode cX12_lead 25 = .ok (.ifCond .eq 33, 3) := lw_dr lw_d_cX12_lead_25 0 rfl
theorem dX12_lead_28 : decode cX12_lead 28 = .ok (.iinc 2 1, 3) := lw_dr lw_d_cX12_lead_25 1 rfl
theorem dX12_lead_31 : decode cX12_lead 31 = .ok (.aload_n 0, 1) := lw_dr lw_d_cX12_lead_25 2 rfl
theorem dX12_lead_32 : decode cX12_lead 32 = .ok (.getfield 352, 3) := lw_dr lw_d_cX12_lead_25 3 rfl
theorem dX12_lead_35 : decode cX12_lead 35 = .ok (.bipush 40, 2) := lw_dr lw_d_cX12_lead_25 4 rfl
theorem dX12_lead_37 : decode cX12_lead 37 = .ok (.if_icmp .ge 13, 3) := lw_dr lw_d_cX12_lead_25 5 rfl
theorem dX12_lead_50 : decode cX12_lead 50 = .ok (.aload_n 0, 1) := lw_dr lw_d_cX12_lead_25 6 rfl
theorem dX12_lead_51 : decode cX12_lead 51 = .ok (.iconst 0, 1) := lw_dr lw_d_cX12_lead_25 7 rfl
theorem dX12_lead_52 : decode cX12_lead 52 = .ok (.putfield 355, 3) := lw_dr lw_d_cX12_lead_25 8 rfl
theorem dX12_lead_55 : decode cX12_lead 55 = .ok (.goto (-39), 3) := lw_dr lw_d_cX12_lead_25 9 rfl
theorem dX12_lead_40 : decode cX12_lead 40 = .ok (.aload_n 0, 1) := lw_dr lw_d_cX12_lead_25 10 rfl
theorem dX12_lead_41 : decode cX12_lead 41 = .ok (.dup, 1) := lw_dr lw_d_cX12_lead_25 11 rfl
theorem dX12_lead_42 : decode cX12_lead 42 = .ok (.getfield 352, 3) := lw_dr lw_d_cX12_lead_25 12 rfl
theorem dX12_lead_45 : decode cX12_lead 45 = .ok (.iconst 1, 1) := lw_dr lw_d_cX12_lead_25 13 rfl
theorem dX12_lead_46 : decode cX12_lead 46 = .ok (.iadd, 1) := lw_dr lw_d_cX12_lead_25 14 rfl
theorem dX12_lead_47 : decode cX12_lead 47 = .ok (.putfield 352, 3) := lw_dr lw_d_cX12_lead_25 15 rfl
theorem dX12_lead_12 : decode cX12_lead 12 = .ok (.iconst (-1), 1) := lw_dr lw_d_cX12_lead_25 16 rfl
theorem dX12_lead_13 : decode cX12_lead 13 = .ok (.ireturn, 1) := lw_dr lw_d_cX12_lead_25 17 rfl
theorem lw_d_cX12_undo_0 : lw_dl cX12_undo [(0, .aload_n 0, 1), (1, .getfield 352, 3), (4, .ifCond .ne 5, 3), (9, .aload_n 0, 1), (10, .dup, 1), (11, .getfield 349, 3), (14, .iconst 1, 1), (15, .isub, 1), (16, .putfield 349, 3), (19, .aload_n 0, 1), (20, .aload_n 0, 1), (21, .getfield 124, 3), (24, .aload_n 0, 1), (25, .getfield 349, 3), (28, .iaload, 1), (29, .aload_n 0, 1), (30, .getfield 127, 3), (33, .aload_n 0, 1), (34, .getfield 349, 3), (37, .iaload, 1), (38, .aload_n 0, 1), (39, .getfield 130, 3), (42, .aload_n 0, 1), (43, .getfield 349, 3), (46, .iaload, 1), (47, .ineg, 1), (48, .invokevirtual 436, 3), (51, .aload_n 0, 1), (52, .dup, 1), (53, .getfield 352, 3), (56, .iconst 1, 1), (57, .isub, 1), (58, .putfield 352, 3), (61, .aload_n 0, 1), (62, .dup, 1), (63, .getfield 355, 3), (66, .iconst 1, 1), (67, .iadd, 1), (68, .putfield 355, 3), (71, .iconst 1, 1)] = true := by decide +kernel
theorem dX12_undo_0 : decode cX12_undo 0 = .ok (.aload_n 0, 1) := lw_dr lw_d_cX12_undo_0 0 rfl
theorem dX12_undo_1 : decode cX12_undo 1 = .ok (.getfield 352, 3) := lw_dr lw_d_cX12_undo_0 1 rfl
theorem dX12_undo_4 : decode cX12_undo 4 = .ok (.ifCond .ne 5, 3) := lw_dr lw_d_cX12_undo_0 2 rfl
theorem dX12_undo_9 : decode cX12_undo 9 = .ok (.aload_n 0, 1) := lw_dr lw_d_cX12_undo_0 3 rfl
theorem dX12_undo_10 : decode cX12_undo 10 = .ok (.dup, 1) := lw_dr lw_d_cX12_undo_0 4 rfl
theorem dX12_undo_11 : decode cX12_undo 11 = .ok (.getfield 349, 3) := lw_dr lw_d_cX12_undo_0 5 rfl
theorem dX12_undo_14 : decode cX12_undo 14 = .ok (.iconst 1, 1) := lw_dr lw_d_cX12_undo_0 6 rfl
theorem dX12_undo_15 : decode cX12_undo 15 = .ok (.isub, 1) := lw_dr lw_d_cX12_undo_0 7 rfl
theorem dX12_undo_16 : decode cX12_undo 16 = .ok (.putfield 349, 3) := lw_dr lw_d_cX12_undo_0 8 rfl
theorem dX12_undo_19 : decode cX12_undo 19 = .ok (.aload_n 0, 1) := lw_dr lw_d_cX12_undo_0 9 rfl
theorem dX12_undo_20 : decode cX12_undo 20 = .ok (.aload_n 0, 1) := lw_dr lw_d_cX12_undo_0 10 rfl
theorem dX12_undo_21 : decode cX12_undo 21 = .ok (.getfield 124, 3) := lw_dr lw_d_cX12_undo_0 11 rfl
theorem dX12_undo_24 : decode cX12_undo 24 = .ok (.aload_n 0, 1) := lw_dr lw_d_cX12_undo_0 12 rfl
theorem dX12_undo_25 : decode cX12_undo 25 = .ok (.getfield 349, 3) := lw_dr lw_d_cX12_undo_0 13 rfl
theorem dX12_undo_28 : decode cX12_undo 28 = .ok (.iaload, 1) := lw_dr lw_d_cX12_undo_0 14 rfl
theorem dX12_undo_29 : decode cX12_undo 29 = .ok (.aload_n 0, 1) := lw_dr lw_d_cX12_undo_0 15 rfl
theorem dX12_undo_30 : decode cX12_undo 30 = .ok (.getfield 127, 3) := lw_dr lw_d_cX12_undo_0 16 rfl
theorem dX12_undo_33 : decode cX12_undo 33 = .ok (.aload_n 0, 1) := lw_dr lw_d_cX12_undo_0 17 rfl
theorem dX12_undo_34 : decode cX12_undo 34 = .ok (.getfield 349, 3) := lw_dr lw_d_cX12_undo_0 18 rfl
theorem dX12_undo_37 : decode cX12_undo 37 = .ok (.iaload, 1) := lw_dr lw_d_cX12_undo_0 19 rfl
theorem dX12_undo_38 : decode cX12_undo 38 = .ok (.aload_n 0, 1) := lw_dr lw_d_cX12_undo_0 20 rfl
theorem dX12_undo_39 : decode cX12_undo 39 = .ok (.getfield 130, 3) := lw_dr lw_d_cX12_undo_0 21 rfl
theorem dX12_undo_42 : decode cX12_undo 42 = .ok (.aload_n 0, 1) := lw_dr lw_d_cX12_undo_0 22 rfl
theorem dX12_undo_43 : decode cX12_undo 43 = .ok (.getfield 349, 3) := lw_dr lw_d_cX12_undo_0 23 rfl
theorem dX12_undo_46 : decode cX12_undo 46 = .ok (.iaload, 1) := lw_dr lw_d_cX12_undo_0 24 rfl
theorem dX12_undo_47 : decode cX12_undo 47 = .ok (.ineg, 1) := lw_dr lw_d_cX12_undo_0 25 rfl
theorem dX12_undo_48 : decode cX12_undo 48 = .ok (.invokevirtual 436, 3) := lw_dr lw_d_cX12_undo_0 26 rfl
theorem dX12_undo_51 : decode cX12_undo 51 = .ok (.aload_n 0, 1) := lw_dr lw_d_cX12_undo_0 27 rfl
theorem dX12_undo_52 : decode cX12_undo 52 = .ok (.dup, 1) := lw_dr lw_d_cX12_undo_0 28 rfl
theorem dX12_undo_53 : decode cX12_undo 53 = .ok (.getfield 352, 3) := lw_dr lw_d_cX12_undo_0 29 rfl
theorem dX12_undo_56 : decode cX12_undo 56 = .ok (.iconst 1, 1) := lw_dr lw_d_cX12_undo_0 30 rfl
theorem dX12_undo_57 : decode cX12_undo 57 = .ok (.isub, 1) := lw_dr lw_d_cX12_undo_0 31 rfl
theorem dX12_undo_58 : decode cX12_undo 58 = .ok (.putfield 352, 3) := lw_dr lw_d_cX12_undo_0 32 rfl
theorem dX12_undo_61 : decode cX12_undo 61 = .ok (.aload_n 0, 1) := lw_dr lw_d_cX12_undo_0 33 rfl
theorem dX12_undo_62 : decode cX12_undo 62 = .ok (.dup, 1) := lw_dr lw_d_cX12_undo_0 34 rfl
theorem dX12_undo_63 : decode cX12_undo 63 = .ok (.getfield 355, 3) := lw_dr lw_d_cX12_undo_0 35 rfl
theorem dX12_undo_66 : decode cX12_undo 66 = .ok (.iconst 1, 1) := lw_dr lw_d_cX12_undo_0 36 rfl
theorem dX12_undo_67 : decode cX12_undo 67 = .ok (.iadd, 1) := lw_dr lw_d_cX12_undo_0 37 rfl
theorem dX12_undo_68 : decode cX12_undo 68 = .ok (.putfield 355, 3) := lw_dr lw_d_cX12_undo_0 38 rfl
theorem dX12_undo_71 : decode cX12_undo 71 = .ok (.iconst 1, 1) := lw_dr lw_d_cX12_undo_0 39 rfl
theorem lw_d_cX12_undo_72 : lw_dl cX12_undo [(72, .ireturn, 1), (7, .iconst 0, 1), (8, .ireturn, 1)] = true := by decide +kernel
theorem dX12_undo_72 : decode cX12_undo 72 = .ok (.ireturn, 1) := lw_dr lw_d_cX12_undo_72 0 rfl
theorem dX12_undo_7 : decode cX12_undo 7 = .ok (.iconst 0, 1) := lw_dr lw_d_cX12_undo_72 1 rfl
theorem dX12_undo_8 : decode cX12_undo 8 = .ok (.ireturn, 1) := lw_dr lw_d_cX12_undo_72 2 rfl
theorem lw_d_cX12_redo_0 : lw_dl cX12_redo [(0, .aload_n 0, 1), (1, .getfield 355, 3), (4, .ifCond .ne 5, 3), (9, .aload_n 0, 1), (10, .aload_n 0, 1), (11, .getfield 124, 3), (14, .aload_n 0, 1), (15, .getfield 349, 3), (18, .iaload, 1), (19, .aload_n 0, 1), (20, .getfield 127, 3), (23, .aload_n 0, 1), (24, .getfield 349, 3), (27, .iaload, 1), (28, .aload_n 0, 1), (29, .getfield 130, 3), (32, .aload_n 0, 1), (33, .getfield 349, 3), (36, .iaload, 1), (37, .invokevirtual 436, 3), (40, .aload_n 0, 1), (41, .dup, 1), (42, .getfield 349, 3), (45, .iconst 1, 1), (46, .iadd, 1), (47, .putfield 349, 3), (50, .aload_n 0, 1), (51, .dup, 1), (52, .getfield 352, 3), (55, .iconst 1, 1), (56, .iadd, 1), (57, .putfield 352, 3), (60, .aload_n 0, 1), (61, .dup, 1), (62, .getfield 355, 3), (65, .iconst 1, 1), (66, .isub, 1), (67, .putfield 355, 3), (70, .iconst 1, 1), (71, .ireturn, 1)] = true := by decide +kernel
theorem dX12_redo_0 : decode cX12_redo 0 = .ok (.aload_n 0, 1) := lw_dr lw_d_cX12_redo_0 0 rfl
theorem dX12_redo_1 : decode cX12_redo 1 = .ok (.getfield 355, 3) := lw_dr lw_d_cX12_redo_0 1 rfl
theorem dX12_redo_4 : decode cX12_redo 4 = .ok (.ifCond .ne 5, 3) := lw_dr lw_d_cX12_redo_0 2 rfl
theorem dX12_redo_9 : decode cX12_redo 9 = .ok (.aload_n 0, 1) := lw_dr lw_d_cX12_redo_0 3 rfl
theorem dX12_redo_10 : decode cX12_redo 10 = .ok (.aload_n 0, 1) := lw_dr lw_d_cX12_redo_0 4 rfl
theorem dX12_redo_11 : decode cX12_redo 11 = .ok (.getfield 124, 3) := lw_dr lw_d_cX12_redo_0 5 rfl
theorem dX12_redo_14 : decode cX12_redo 14 = .ok (.aload_n 0, 1) := lw_dr lw_d_cX12_redo_0 6 rfl
theorem dX12_redo_15 : decode cX12_redo 15 = .ok (.getfield 349, 3) := lw_dr lw_d_cX12_redo_0 7 rfl
theorem dX12_redo_18 : decode cX12_redo 18 = .ok (.iaload, 1) := lw_dr lw_d_cX12_redo_0 8 rfl
theorem dX12_redo_19 : decode cX12_redo 19 = .ok (.aload_n 0, 1) := lw_dr lw_d_cX12_redo_0 9 rfl
theorem dX12_redo_20 : decode cX12_redo 20 = .ok (.getfield 127, 3) := lw_dr lw_d_cX12_redo_0 10 rfl
theorem dX12_redo_23 : decode cX12_redo 23 = .ok (.aload_n 0, 1) := lw_dr lw_d_cX12_redo_0 11 rfl
theorem dX12_redo_24 : decode cX12_redo 24 = .ok (.getfield 349, 3) := lw_dr lw_d_cX12_redo_0 12 rfl
theorem dX12_redo_27 : decode cX12_redo 27 = .ok (.iaload, 1) := lw_dr lw_d_cX12_redo_0 13 rfl
theorem dX12_redo_28 : decode cX12_redo 28 = .ok (.aload_n 0, 1) := lw_dr lw_d_cX12_redo_0 14 rfl
theorem dX12_redo_29 : decode cX12_redo 29 = .ok (.getfield 130, 3) := lw_dr lw_d_cX12_redo_0 15 rfl
theorem dX12_redo_32 : decode cX12_redo 32 = .ok (.aload_n 0, 1) := lw_dr lw_d_cX12_redo_0 16 rfl
theorem dX12_redo_33 : decode cX12_redo 33 = .ok (.getfield 349, 3) := lw_dr lw_d_cX12_redo_0 17 rfl
theorem dX12_redo_36 : decode cX12_redo 36 = .ok (.iaload, 1) := lw_dr lw_d_cX12_redo_0 18 rfl
theorem dX12_redo_37 : decode cX12_redo 37 = .ok (.invokevirtual 436, 3) := lw_dr lw_d_cX12_redo_0 19 rfl
theorem dX12_redo_40 : decode cX12_redo 40 = .ok (.aload_n 0, 1) := lw_dr lw_d_cX12_redo_0 20 rfl
theorem dX12_redo_41 : decode cX12_redo 41 = .ok (.dup, 1) := lw_dr lw_d_cX12_redo_0 21 rfl
theorem dX12_redo_42 : decode cX12_redo 42 = .ok (.getfield 349, 3) := lw_dr lw_d_cX12_redo_0 22 rfl
theorem dX12_redo_45 : decode cX12_redo 45 = .ok (.iconst 1, 1) := lw_dr lw_d_cX12_redo_0 23 rfl
theorem dX12_redo_46 : decode cX12_redo 46 = .ok (.iadd, 1) := lw_dr lw_d_cX12_redo_0 24 rfl
theorem dX12_redo_47 : decode cX12_redo 47 = .ok (.putfield 349, 3) := lw_dr lw_d_cX12_redo_0 25 rfl
theorem dX12_redo_50 : decode cX12_redo 50 = .ok (.aload_n 0, 1) := lw_dr lw_d_cX12_redo_0 26 rfl
theorem dX12_redo_51 : decode cX12_redo 51 = .ok (.dup, 1) := lw_dr lw_d_cX12_redo_0 27 rfl
theorem dX12_redo_52 : decode cX12_redo 52 = .ok (.getfield 352, 3) := lw_dr lw_d_cX12_redo_0 28 rfl
theorem dX12_redo_55 : decode cX12_redo 55 = .ok (.iconst 1, 1) := lw_dr lw_d_cX12_redo_0 29 rfl
theorem dX12_redo_56 : decode cX12_redo 56 = .ok (.iadd, 1) := lw_dr lw_d_cX12_redo_0 30 rfl
theorem dX12_redo_57 : decode cX12_redo 57 = .ok (.putfield 352, 3) := lw_dr lw_d_cX12_redo_0 31 rfl
theorem dX12_redo_60 : decode cX12_redo 60 = .ok (.aload_n 0, 1) := lw_dr lw_d_cX12_redo_0 32 rfl
theorem dX12_redo_61 : decode cX12_redo 61 = .ok (.dup, 1) := lw_dr lw_d_cX12_redo_0 33 rfl
theorem dX12_redo_62 : decode cX12_redo 62 = .ok (.getfield 355, 3) := lw_dr lw_d_cX12_redo_0 34 rfl
theorem dX12_redo_65 : decode cX12_redo 65 = .ok (.iconst 1, 1) := lw_dr lw_d_cX12_redo_0 35 rfl
theorem dX12_redo_66 : decode cX12_redo 66 = .ok (.isub, 1) := lw_dr lw_d_cX12_redo_0 36 rfl
theorem dX12_redo_67 : decode cX12_redo 67 = .ok (.putfield 355, 3) := lw_dr lw_d_cX12_redo_0 37 rfl
theorem dX12_redo_70 : decode cX12_redo 70 = .ok (.iconst 1, 1) := lw_dr lw_d_cX12_redo_0 38 rfl
theorem dX12_redo_71 : decode cX12_redo 71 = .ok (.ireturn, 1) := lw_dr lw_d_cX12_redo_0 39 rfl
theorem lw_d_cX12_redo_7 : lw_dl cX12_redo [(7, .iconst 0, 1), (8, .ireturn, 1)] = true := by decide +kernel
theorem dX12_redo_7 : decode cX12_redo 7 = .ok (.iconst 0, 1) := lw_dr lw_d_cX12_redo_7 0 rfl
theorem dX12_redo_8 : decode cX12_redo 8 = .ok (.ireturn, 1) := lw_dr lw_d_cX12_redo_7 1 rfl
theorem lw_d_cX12_step_0 : lw_dl cX12_step [(0, .iload_n 1, 1), (1, .i2l, 1), (2, .lconst 0, 1), (3, .aload_n 0, 1), (4, .getfield 352, 3), (7, .iconst 1, 1), (8, .isub, 1), (9, .i2l, 1), (10, .invokestatic 191, 3), (13, .ifCond .eq 15, 3), (28, .ldc_w 364, 3), (31, .ireturn, 1), (16, .iload_n 2, 1), (17, .i2l, 1), (18, .lconst 0, 1), (19, .ldc2_w 431, 3), (22, .invokestatic 191, 3), (25, .ifCond .ne 7, 3), (32, .aload_n 0, 1), (33, .getfield 349, 3), (36, .aload_n 0, 1), (37, .getfield 352, 3), (40, .isub, 1), (41, .iload_n 1, 1), (42, .iadd, 1), (43, .istore_n 3, 1), (44, .iload_n 2, 1), (45, .ifCond .ne 12, 3), (57, .iload_n 2, 1), (58, .iconst 1, 1), (59, .if_icmp .ne 12, 3), (71, .aload_n 0, 1), (72, .getfield 130, 3), (75, .iload_n 3, 1), (76, .iaload, 1), (77, .ireturn, 1), (62, .aload_n 0, 1), (63, .getfield 127, 3), (66, .iload_n 3, 1), (67, .iaload, 1)] = true := by decide +kernel
theorem dX12_step_0 : decode cX12_step 0 = .ok (.iload_n 1, 1) := lw_dr lw_d_cX12_step_0 0 rfl
theorem dX12_step_1 : decode cX12_step 1 = .ok (.i2l, 1) := lw_dr lw_d_cX12_step_0 1 rfl
theorem dX12_step_2 : decode cX12_step 2 = .ok (.lconst 0, 1) := lw_dr lw_d_cX12_step_0 2 rfl
theorem dX12_step_3 : decode cX12_step 3 = .ok (.aload_n 0, 1) := lw_dr lw_d_cX12_step_0 3 rfl
theorem dX12_step_4 : decode cX12_step 4 = .ok (.getfield 352, 3) := lw_dr lw_d_cX12_step_0 4 rfl
theorem dX12_step_7 : decode cX12_step 7 = .ok (.iconst 1, 1) := lw_dr lw_d_cX12_step_0 5 rfl
theorem dX12_step_8 : decode cX12_step 8 = .ok (.isub, 1) := lw_dr lw_d_cX12_step_0 6 rfl
theorem dX12_step_9 : decode cX12_step 9 = .ok (.i2l, 1) := lw_dr lw_d_cX12_step_0 7 rfl
theorem dX12_step_10 : decode cX12_step 10 = .ok (.invokestatic 191, 3) := lw_dr lw_d_cX12_step_0 8 rfl
theorem dX12_step_13 : decode cX12_step 13 = .ok (.ifCond .eq 15, 3) := lw_dr lw_d_cX12_step_0 9 rfl
theorem dX12_step_28 : decode cX12_step 28 = .ok (.ldc_w 364, 3) := lw_dr lw_d_cX12_step_0 10 rfl
theorem dX12_step_31 : decode cX12_step 31 = .ok (.ireturn, 1) := lw_dr lw_d_cX12_step_0 11 rfl
theorem dX12_step_16 : decode cX12_step 16 = .ok (.iload_n 2, 1) := lw_dr lw_d_cX12_step_0 12 rfl
theorem dX12_step_17 : decode cX12_step 17 = .ok (.i2l, 1) := lw_dr lw_d_cX12_step_0 13 rfl
theorem dX12_step_18 : decode cX12_step 18 = .ok (.lconst 0, 1) := lw_dr lw_d_cX12_step_0 14 rfl
theorem dX12_step_19 : decode cX12_step 19 = .ok (.ldc2_w 431, 3) := lw_dr lw_d_cX12_step_0 15 rfl
theorem dX12_step_22 : decode cX12_step 22 = .ok (.invokestatic 191, 3) := lw_dr lw_d_cX12_step_0 16 rfl
theorem dX12_step_25 : decode cX12_step 25 = .ok (.ifCond .ne 7, 3) := lw_dr lw_d_cX12_step_0 17 rfl
theorem dX12_step_32 : decode cX12_step 32 = .ok (.aload_n 0, 1) := lw_dr lw_d_cX12_step_0 18 rfl
theorem dX12_step_33 : decode cX12_step 33 = .ok (.getfield 349, 3) := lw_dr lw_d_cX12_step_0 19 rfl
theorem dX12_step_36 : decode cX12_step 36 = .ok (.aload_n 0, 1) := lw_dr lw_d_cX12_step_0 20 rfl
theorem dX12_step_37 : decode cX12_step 37 = .ok (.getfield 352, 3) := lw_dr lw_d_cX12_step_0 21 rfl
theorem dX12_step_40 : decode cX12_step 40 = .ok (.isub, 1) := lw_dr lw_d_cX12_step_0 22 rfl
theorem dX12_step_41 : decode cX12_step 41 = .ok (.iload_n 1, 1) := lw_dr lw_d_cX12_step_0 23 rfl
theorem dX12_step_42 : decode cX12_step 42 = .ok (.iadd, 1) := lw_dr lw_d_cX12_step_0 24 rfl
theorem dX12_step_43 : decode cX12_step 43 = .ok (.istore_n 3, 1) := lw_dr lw_d_cX12_step_0 25 rfl
theorem dX12_step_44 : decode cX12_step 44 = .ok (.iload_n 2, 1) := lw_dr lw_d_cX12_step_0 26 rfl
theorem dX12_step_45 : decode cX12_step 45 = .ok (.ifCond .ne 12, 3) := lw_dr lw_d_cX12_step_0 27 rfl
theorem dX12_step_57 : decode cX12_step 57 = .ok (.iload_n 2, 1) := lw_dr lw_d_cX12_step_0 28 rfl
theorem dX12_step_58 : decode cX12_step 58 = .ok (.iconst 1, 1) := lw_dr lw_d_cX12_step_0 29 rfl
theorem dX12_step_59 : decode cX12_step 59 = .ok (.if_icmp .ne 12, 3) := lw_dr lw_d_cX12_step_0 30 rfl
theorem dX12_step_71 : decode cX12_step 71 = .ok (.aload_n 0, 1) := lw_dr lw_d_cX12_step_0 31 rfl
theorem dX12_step_72 : decode cX12_step 72 = .ok (.getfield 130, 3) := lw_dr lw_d_cX12_step_0 32 rfl
theorem dX12_step_75 : decode cX12_step 75 = .ok (.iload_n 3, 1) := lw_dr lw_d_cX12_step_0 33 rfl
theorem dX12_step_76 : decode cX12_step 76 = .ok (.iaload, 1) := lw_dr lw_d_cX12_step_0 34 rfl
theorem dX12_step_77 : decode cX12_step 77 = .ok (.ireturn, 1) := lw_dr lw_d_cX12_step_0 35 rfl
theorem dX12_step_62 : decode cX12_step 62 = .ok (.aload_n 0, 1) := lw_dr lw_d_cX12_step_0 36 rfl
theorem dX12_step_63 : decode cX12_step 63 = .ok (.getfield 127, 3) := lw_dr lw_d_cX12_step_0 37 rfl
theorem dX12_step_66 : decode cX12_step 66 = .ok (.iload_n 3, 1) := lw_dr lw_d_cX12_step_0 38 rfl
theorem dX12_step_67 : decode cX12_step 67 = .ok (.iaload, 1) := lw_dr lw_d_cX12_step_0 39 rfl
theorem lw_d_cX12_step_68 : lw_dl cX12_step [(68, .goto 9, 3), (48, .aload_n 0, 1), (49, .getfield 124, 3), (52, .iload_n 3, 1), (53, .iaload, 1), (54, .goto 23, 3)] = true := by decide +kernel
theorem dX12_step_68 : decode cX12_step 68 = .ok (.goto 9, 3) := lw_dr lw_d_cX12_step_68 0 rfl
theorem dX12_step_48 : decode cX12_step 48 = .ok (.aload_n 0, 1) := lw_dr lw_d_cX12_step_68 1 rfl
theorem dX12_step_49 : decode cX12_step 49 = .ok (.getfield 124, 3) := lw_dr lw_d_cX12_step_68 2 rfl
theorem dX12_step_52 : decode cX12_step 52 = .ok (.iload_n 3, 1) := lw_dr lw_d_cX12_step_68 3 rfl
theorem dX12_step_53 : decode cX12_step 53 = .ok (.iaload, 1) := lw_dr lw_d_cX12_step_68 4 rfl
theorem dX12_step_54 : decode cX12_step 54 = .ok (.goto 23, 3) := lw_dr lw_d_cX12_step_68 5 rfl
theorem lw_d_cX12_leader_0 : lw_dl cX12_leader [(0, .aload_n 0, 1), (1, .iload_n 1, 1), (2, .invokevirtual 361, 3), (5, .ifCond .eq 24, 3), (29, .ldc2_w 445, 3), (32, .lreturn, 1), (8, .aload_n 0, 1), (9, .iload_n 2, 1), (10, .invokevirtual 361, 3), (13, .ifCond .eq 16, 3), (16, .aload_n 0, 1), (17, .getfield 121, 3), (20, .iconst 5, 1), (21, .iload_n 1, 1), (22, .imul, 1), (23, .iload_n 2, 1), (24, .iadd, 1), (25, .laload, 1), (26, .goto 6, 3)] = true := by decide +kernel
theorem dX12_leader_0 : decode cX12_leader 0 = .ok (.aload_n 0, 1) := lw_dr lw_d_cX12_leader_0 0 rfl
theorem dX12_leader_1 : decode cX12_leader 1 = .ok (.iload_n 1, 1) := lw_dr lw_d_cX12_leader_0 1 rfl
theorem dX12_leader_2 : decode cX12_leader 2 = .ok (.invokevirtual 361, 3) := lw_dr lw_d_cX12_leader_0 2 rfl
theorem dX12_leader_5 : decode cX12_leader 5 = .ok (.ifCond .eq 24, 3) := lw_dr lw_d_cX12_leader_0 3 rfl
theorem dX12_leader_29 : decode cX12_leader 29 = .ok (.ldc2_w 445, 3) := lw_dr lw_d_cX12_leader_0 4 rfl
theorem dX12_leader_32 : decode cX12_leader 32 = .ok (.lreturn, 1) := lw_dr lw_d_cX12_leader_0 5 rfl
theorem dX12_leader_8 : decode cX12_leader 8 = .ok (.aload_n 0, 1) := lw_dr lw_d_cX12_leader_0 6 rfl
theorem dX12_leader_9 : decode cX12_leader 9 = .ok (.iload_n 2, 1) := lw_dr lw_d_cX12_leader_0 7 rfl
theorem dX12_leader_10 : decode cX12_leader 10 = .ok (.invokevirtual 361, 3) := lw_dr lw_d_cX12_leader_0 8 rfl
theorem dX12_leader_13 : decode cX12_leader 13 = .ok (.ifCond .eq 16, 3) := lw_dr lw_d_cX12_leader_0 9 rfl
theorem dX12_leader_16 : decode cX12_leader 16 = .ok (.aload_n 0, 1) := lw_dr lw_d_cX12_leader_0 10 rfl
theorem dX12_leader_17 : decode cX12_leader 17 = .ok (.getfield 121, 3) := lw_dr lw_d_cX12_leader_0 11 rfl
theorem dX12_leader_20 : decode cX12_leader 20 = .ok (.iconst 5, 1) := lw_dr lw_d_cX12_leader_0 12 rfl
theorem dX12_leader_21 : decode cX12_leader 21 = .ok (.iload_n 1, 1) := lw_dr lw_d_cX12_leader_0 13 rfl
theorem dX12_leader_22 : decode cX12_leader 22 = .ok (.imul, 1) := lw_dr lw_d_cX12_leader_0 14 rfl
theorem dX12_leader_23 : decode cX12_leader 23 = .ok (.iload_n 2, 1) := lw_dr lw_d_cX12_leader_0 15 rfl
theorem dX12_leader_24 : decode cX12_leader 24 = .ok (.iadd, 1) := lw_dr lw_d_cX12_leader_0 16 rfl
theorem dX12_leader_25 : decode cX12_leader 25 = .ok (.laload, 1) := lw_dr lw_d_cX12_leader_0 17 rfl
theorem dX12_leader_26 : decode cX12_leader 26 = .ok (.goto 6, 3) := lw_dr lw_d_cX12_leader_0 18 rfl
theorem lw_d_cX12_squares_0 : lw_dl cX12_squares [(0, .lconst 0, 1), (1, .lstore_n 2, 1), (2, .iconst 0, 1), (3, .istore 4, 2), (5, .iload 4, 2), (7, .aload_n 0, 1), (8, .getfield 237, 3), (11, .if_icmp .ge 45, 3), (56, .lload_n 2, 1), (57, .lreturn, 1), (14, .lload_n 2, 1), (15, .iload_n 1, 1), (16, .ifCond .eq 19, 3), (35, .aload_n 0, 1), (36, .iload 4, 2), (38, .iload 4, 2), (40, .aload_n 0, 1), (41, .getfield 69, 3), (44, .invokevirtual 334, 3), (47, .i2l, 1), (48, .ladd, 1), (49, .lstore_n 2, 1), (50, .iinc 4 1, 3), (53, .goto (-48), 3), (19, .aload_n 0, 1), (20, .iload 4, 2), (22, .iload 4, 2), (24, .aload_n 0, 1), (25, .getfield 97, 3), (28, .invokevirtual 334, 3), (31, .i2l, 1), (32, .goto 16, 3)] = true := by decide +kernel
theorem dX12_squares_0 : decode cX12_squares 0 = .ok (.lconst 0, 1) := lw_dr lw_d_cX12_squares_0 0 rfl
theorem dX12_squares_1 : decode cX12_squares 1 = .ok (.lstore_n 2, 1) := lw_dr lw_d_cX12_squares_0 1 rfl
theorem dX12_squares_2 : decode cX12_squares 2 = .ok (.iconst 0, 1) := lw_dr lw_d_cX12_squares_0 2 rfl
theorem dX12_squares_3 : decode cX12_squares 3 = .ok (.istore 4, 2) := lw_dr lw_d_cX12_squares_0 3 rfl
theorem dX12_squares_5 : decode cX12_squares 5 = .ok (.iload 4, 2) := lw_dr lw_d_cX12_squares_0 4 rfl
theorem dX12_squares_7 : decode cX12_squares 7 = .ok (.aload_n 0, 1) := lw_dr lw_d_cX12_squares_0 5 rfl
theorem dX12_squares_8 : decode cX12_squares 8 = .ok (.getfield 237, 3) := lw_dr lw_d_cX12_squares_0 6 rfl
theorem dX12_squares_11 : decode cX12_squares 11 = .ok (.if_icmp .ge 45, 3) := lw_dr lw_d_cX12_squares_0 7 rfl
theorem dX12_squares_56 : decode cX12_squares 56 = .ok (.lload_n 2, 1) := lw_dr lw_d_cX12_squares_0 8 rfl
theorem dX12_squares_57 : decode cX12_squares 57 = .ok (.lreturn, 1) := lw_dr lw_d_cX12_squares_0 9 rfl
theorem dX12_squares_14 : decode cX12_squares 14 = .ok (.lload_n 2, 1) := lw_dr lw_d_cX12_squares_0 10 rfl
theorem dX12_squares_15 : decode cX12_squares 15 = .ok (.iload_n 1, 1) := lw_dr lw_d_cX12_squares_0 11 rfl
theorem dX12_squares_16 : decode cX12_squares 16 = .ok (.ifCond .eq 19, 3) := lw_dr lw_d_cX12_squares_0 12 rfl
theorem dX12_squares_35 : decode cX12_squares 35 = .ok (.aload_n 0, 1) := lw_dr lw_d_cX12_squares_0 13 rfl
theorem dX12_squares_36 : decode cX12_squares 36 = .ok (.iload 4, 2) := lw_dr lw_d_cX12_squares_0 14 rfl
theorem dX12_squares_38 : decode cX12_squares 38 = .ok (.iload 4, 2) := lw_dr lw_d_cX12_squares_0 15 rfl
theorem dX12_squares_40 : decode cX12_squares 40 = .ok (.aload_n 0, 1) := lw_dr lw_d_cX12_squares_0 16 rfl
theorem dX12_squares_41 : decode cX12_squares 41 = .ok (.getfield 69, 3) := lw_dr lw_d_cX12_squares_0 17 rfl
theorem dX12_squares_44 : decode cX12_squares 44 = .ok (.invokevirtual 334, 3) := lw_dr lw_d_cX12_squares_0 18 rfl
theorem dX12_squares_47 : decode cX12_squares 47 = .ok (.i2l, 1) := lw_dr lw_d_cX12_squares_0 19 rfl
theorem dX12_squares_48 : decode cX12_squares 48 = .ok (.ladd, 1) := lw_dr lw_d_cX12_squares_0 20 rfl
theorem dX12_squares_49 : decode cX12_squares 49 = .ok (.lstore_n 2, 1) := lw_dr lw_d_cX12_squares_0 21 rfl
theorem dX12_squares_50 : decode cX12_squares 50 = .ok (.iinc 4 1, 3) := lw_dr lw_d_cX12_squares_0 22 rfl
theorem dX12_squares_53 : decode cX12_squares 53 = .ok (.goto (-48), 3) := lw_dr lw_d_cX12_squares_0 23 rfl
theorem dX12_squares_19 : decode cX12_squares 19 = .ok (.aload_n 0, 1) := lw_dr lw_d_cX12_squares_0 24 rfl
theorem dX12_squares_20 : decode cX12_squares 20 = .ok (.iload 4, 2) := lw_dr lw_d_cX12_squares_0 25 rfl
theorem dX12_squares_22 : decode cX12_squares 22 = .ok (.iload 4, 2) := lw_dr lw_d_cX12_squares_0 26 rfl
theorem dX12_squares_24 : decode cX12_squares 24 = .ok (.aload_n 0, 1) := lw_dr lw_d_cX12_squares_0 27 rfl
theorem dX12_squares_25 : decode cX12_squares 25 = .ok (.getfield 97, 3) := lw_dr lw_d_cX12_squares_0 28 rfl
theorem dX12_squares_28 : decode cX12_squares 28 = .ok (.invokevirtual 334, 3) := lw_dr lw_d_cX12_squares_0 29 rfl
theorem dX12_squares_31 : decode cX12_squares 31 = .ok (.i2l, 1) := lw_dr lw_d_cX12_squares_0 30 rfl
theorem dX12_squares_32 : decode cX12_squares 32 = .ok (.goto 16, 3) := lw_dr lw_d_cX12_squares_0 31 rfl
theorem lw_d_cX12_sums_0 : lw_dl cX12_sums [(0, .aload_n 0, 1), (1, .iload_n 1, 1), (2, .invokevirtual 454, 3), (5, .ifCond .eq 38, 3), (43, .ldc2_w 445, 3), (46, .lreturn, 1), (8, .iload_n 2, 1), (9, .i2l, 1), (10, .lconst 1, 1), (11, .ldc2_w 431, 3), (14, .invokestatic 191, 3), (17, .ifCond .eq 26, 3), (20, .iload_n 3, 1), (21, .iconst (-1), 1), (22, .if_icmp .eq 11, 3), (33, .aload_n 0, 1), (34, .iload_n 1, 1), (35, .iload_n 2, 1), (36, .iconst 1, 1), (37, .invokevirtual 457, 3)] = true := by decide +kernel
theorem dX12_sums_0 : decode cX12_sums 0 = .ok (.aload_n 0, 1) := lw_dr lw_d_cX12_sums_0 0 rfl
theorem dX12_sums_1 : decode cX12_sums 1 = .ok (.iload_n 1, 1) := lw_dr lw_d_cX12_sums_0 1 rfl
theorem dX12_sums_2 : decode cX12_sums 2 = .ok (.invokevirtual 454, 3) := lw_dr lw_d_cX12_sums_0 2 rfl
theorem dX12_sums_5 : decode cX12_sums 5 = .ok (.ifCond .eq 38, 3) := lw_dr lw_d_cX12_sums_0 3 rfl
theorem dX12_sums_43 : decode cX12_sums 43 = .ok (.ldc2_w 445, 3) := lw_dr lw_d_cX12_sums_0 4 rfl
theorem dX12_sums_46 : decode cX12_sums 46 = .ok (.lreturn, 1) := lw_dr lw_d_cX12_sums_0 5 rfl
theorem dX12_sums_8 : decode cX12_sums 8 = .ok (.iload_n 2, 1) := lw_dr lw_d_cX12_sums_0 6 rfl
theorem dX12_sums_9 : decode cX12_sums 9 = .ok (.i2l, 1) := lw_dr lw_d_cX12_sums_0 7 rfl
theorem dX12_sums_10 : decode cX12_sums 10 = .ok (.lconst 1, 1) := lw_dr lw_d_cX12_sums_0 8 rfl
theorem dX12_sums_11 : decode cX12_sums 11 = .ok (.ldc2_w 431, 3) := lw_dr lw_d_cX12_sums_0 9 rfl
theorem dX12_sums_14 : decode cX12_sums 14 = .ok (.invokestatic 191, 3) := lw_dr lw_d_cX12_sums_0 10 rfl
theorem dX12_sums_17 : decode cX12_sums 17 = .ok (.ifCond .eq 26, 3) := lw_dr lw_d_cX12_sums_0 11 rfl
theorem dX12_sums_20 : decode cX12_sums 20 = .ok (.iload_n 3, 1) := lw_dr lw_d_cX12_sums_0 12 rfl
theorem dX12_sums_21 : decode cX12_sums 21 = .ok (.iconst (-1), 1) := lw_dr lw_d_cX12_sums_0 13 rfl
theorem dX12_sums_22 : decode cX12_sums 22 = .ok (.if_icmp .eq 11, 3) := lw_dr lw_d_cX12_sums_0 14 rfl
theorem dX12_sums_33 : decode cX12_sums 33 = .ok (.aload_n 0, 1) := lw_dr lw_d_cX12_sums_0 15 rfl
theorem dX12_sums_34 : decode cX12_sums 34 = .ok (.iload_n 1, 1) := lw_dr lw_d_cX12_sums_0 16 rfl
theorem dX12_sums_35 : decode cX12_sums 35 = .ok (.iload_n 2, 1) := lw_dr lw_d_cX12_sums_0 17 rfl
theorem dX12_sums_36 : decode cX12_sums 36 = .ok (.iconst 1, 1) := lw_dr lw_d_cX12_sums_0 18 rfl
theorem dX12_sums_37 : decode cX12_sums 37 = .ok (.invokevirtual 457, 3) := lw_dr lw_d_cX12_sums_0 19 rfl
theorem lw_d_cX12_areSenders_0 : lw_dl cX12_areSenders [(0, .iload_n 1, 1), (1, .i2l, 1), (2, .lconst 0, 1), (3, .iconst 1, 1), (4, .aload_n 0, 1), (5, .getfield 237, 3), (8, .ishl, 1), (9, .iconst 1, 1), (10, .isub, 1), (11, .i2l, 1), (12, .invokestatic 191, 3), (15, .ireturn, 1)] = true := by decide +kernel
theorem dX12_areSenders_0 : decode cX12_areSenders 0 = .ok (.iload_n 1, 1) := lw_dr lw_d_cX12_areSenders_0 0 rfl
theorem dX12_areSenders_1 : decode cX12_areSenders 1 = .ok (.i2l, 1) := lw_dr lw_d_cX12_areSenders_0 1 rfl
theorem dX12_areSenders_2 : decode cX12_areSenders 2 = .ok (.lconst 0, 1) := lw_dr lw_d_cX12_areSenders_0 2 rfl
theorem dX12_areSenders_3 : decode cX12_areSenders 3 = .ok (.iconst 1, 1) := lw_dr lw_d_cX12_areSenders_0 3 rfl
theorem dX12_areSenders_4 : decode cX12_areSenders 4 = .ok (.aload_n 0, 1) := lw_dr lw_d_cX12_areSenders_0 4 rfl
theorem dX12_areSenders_5 : decode cX12_areSenders 5 = .ok (.getfield 237, 3) := lw_dr lw_d_cX12_areSenders_0 5 rfl
theorem dX12_areSenders_8 : decode cX12_areSenders 8 = .ok (.ishl, 1) := lw_dr lw_d_cX12_areSenders_0 6 rfl
theorem dX12_areSenders_9 : decode cX12_areSenders 9 = .ok (.iconst 1, 1) := lw_dr lw_d_cX12_areSenders_0 7 rfl
theorem dX12_areSenders_10 : decode cX12_areSenders 10 = .ok (.isub, 1) := lw_dr lw_d_cX12_areSenders_0 8 rfl
theorem dX12_areSenders_11 : decode cX12_areSenders 11 = .ok (.i2l, 1) := lw_dr lw_d_cX12_areSenders_0 9 rfl
theorem dX12_areSenders_12 : decode cX12_areSenders 12 = .ok (.invokestatic 191, 3) := lw_dr lw_d_cX12_areSenders_0 10 rfl
theorem dX12_areSenders_15 : decode cX12_areSenders 15 = .ok (.ireturn, 1) := lw_dr lw_d_cX12_areSenders_0 11 rfl
theorem lw_d_cX12_isLeast_0 : lw_dl cX12_isLeast [(0, .aload_n 0, 1), (1, .ldc2_w 384, 3), (4, .putfield 447, 3), (7, .iconst 0, 1), (8, .istore 4, 2), (10, .iload 4, 2), (12, .aload_n 0, 1), (13, .getfield 237, 3), (16, .if_icmp .ge 32, 3), (48, .iconst 1, 1), (49, .istore 4, 2), (51, .iload 4, 2), (53, .ifCond .eq 136, 3), (56, .iconst 1, 1), (57, .istore 5, 2), (59, .iconst 0, 1), (60, .istore 6, 2), (62, .iload 6, 2), (64, .aload_n 0, 1), (65, .getfield 237, 3), (68, .if_icmp .ge 31, 3), (99, .iload 5, 2), (101, .ifCond .eq 7, 3), (104, .lconst 0, 1), (105, .goto 8, 3), (113, .lstore 6, 2), (115, .iload 5, 2), (117, .ifCond .ne 60, 3), (177, .aload_n 0, 1), (178, .iload_n 1, 1), (179, .iload_n 2, 1), (180, .iload_n 3, 1), (181, .invokevirtual 450, 3), (184, .istore 4, 2), (186, .goto (-135), 3), (189, .aload_n 0, 1), (190, .getfield 447, 3), (193, .lconst 0, 1), (194, .lcmp, 1), (195, .ifCond .lt 7, 3)] = true := by decide +kernel
theorem dX12_isLeast_0 : decode cX12_isLeast 0 = .ok (.aload_n 0, 1) := lw_dr lw_d_cX12_isLeast_0 0 rfl
theorem dX12_isLeast_1 : decode cX12_isLeast 1 = .ok (.ldc2_w 384, 3) := lw_dr lw_d_cX12_isLeast_0 1 rfl
theorem dX12_isLeast_4 : decode cX12_isLeast 4 = .ok (.putfield 447, 3) := lw_dr lw_d_cX12_isLeast_0 2 rfl
theorem dX12_isLeast_7 : decode cX12_isLeast 7 = .ok (.iconst 0, 1) := lw_dr lw_d_cX12_isLeast_0 3 rfl
theorem dX12_isLeast_8 : decode cX12_isLeast 8 = .ok (.istore 4, 2) := lw_dr lw_d_cX12_isLeast_0 4 rfl
theorem dX12_isLeast_10 : decode cX12_isLeast 10 = .ok (.iload 4, 2) := lw_dr lw_d_cX12_isLeast_0 5 rfl
theorem dX12_isLeast_12 : decode cX12_isLeast 12 = .ok (.aload_n 0, 1) := lw_dr lw_d_cX12_isLeast_0 6 rfl
theorem dX12_isLeast_13 : decode cX12_isLeast 13 = .ok (.getfield 237, 3) := lw_dr lw_d_cX12_isLeast_0 7 rfl
theorem dX12_isLeast_16 : decode cX12_isLeast 16 = .ok (.if_icmp .ge 32, 3) := lw_dr lw_d_cX12_isLeast_0 8 rfl
theorem dX12_isLeast_48 : decode cX12_isLeast 48 = .ok (.iconst 1, 1) := lw_dr lw_d_cX12_isLeast_0 9 rfl
theorem dX12_isLeast_49 : decode cX12_isLeast 49 = .ok (.istore 4, 2) := lw_dr lw_d_cX12_isLeast_0 10 rfl
theorem dX12_isLeast_51 : decode cX12_isLeast 51 = .ok (.iload 4, 2) := lw_dr lw_d_cX12_isLeast_0 11 rfl
theorem dX12_isLeast_53 : decode cX12_isLeast 53 = .ok (.ifCond .eq 136, 3) := lw_dr lw_d_cX12_isLeast_0 12 rfl
theorem dX12_isLeast_56 : decode cX12_isLeast 56 = .ok (.iconst 1, 1) := lw_dr lw_d_cX12_isLeast_0 13 rfl
theorem dX12_isLeast_57 : decode cX12_isLeast 57 = .ok (.istore 5, 2) := lw_dr lw_d_cX12_isLeast_0 14 rfl
theorem dX12_isLeast_59 : decode cX12_isLeast 59 = .ok (.iconst 0, 1) := lw_dr lw_d_cX12_isLeast_0 15 rfl
theorem dX12_isLeast_60 : decode cX12_isLeast 60 = .ok (.istore 6, 2) := lw_dr lw_d_cX12_isLeast_0 16 rfl
theorem dX12_isLeast_62 : decode cX12_isLeast 62 = .ok (.iload 6, 2) := lw_dr lw_d_cX12_isLeast_0 17 rfl
theorem dX12_isLeast_64 : decode cX12_isLeast 64 = .ok (.aload_n 0, 1) := lw_dr lw_d_cX12_isLeast_0 18 rfl
theorem dX12_isLeast_65 : decode cX12_isLeast 65 = .ok (.getfield 237, 3) := lw_dr lw_d_cX12_isLeast_0 19 rfl
theorem dX12_isLeast_68 : decode cX12_isLeast 68 = .ok (.if_icmp .ge 31, 3) := lw_dr lw_d_cX12_isLeast_0 20 rfl
theorem dX12_isLeast_99 : decode cX12_isLeast 99 = .ok (.iload 5, 2) := lw_dr lw_d_cX12_isLeast_0 21 rfl
theorem dX12_isLeast_101 : decode cX12_isLeast 101 = .ok (.ifCond .eq 7, 3) := lw_dr lw_d_cX12_isLeast_0 22 rfl
theorem dX12_isLeast_104 : decode cX12_isLeast 104 = .ok (.lconst 0, 1) := lw_dr lw_d_cX12_isLeast_0 23 rfl
theorem dX12_isLeast_105 : decode cX12_isLeast 105 = .ok (.goto 8, 3) := lw_dr lw_d_cX12_isLeast_0 24 rfl
theorem dX12_isLeast_113 : decode cX12_isLeast 113 = .ok (.lstore 6, 2) := lw_dr lw_d_cX12_isLeast_0 25 rfl
theorem dX12_isLeast_115 : decode cX12_isLeast 115 = .ok (.iload 5, 2) := lw_dr lw_d_cX12_isLeast_0 26 rfl
theorem dX12_isLeast_117 : decode cX12_isLeast 117 = .ok (.ifCond .ne 60, 3) := lw_dr lw_d_cX12_isLeast_0 27 rfl
theorem dX12_isLeast_177 : decode cX12_isLeast 177 = .ok (.aload_n 0, 1) := lw_dr lw_d_cX12_isLeast_0 28 rfl
theorem dX12_isLeast_178 : decode cX12_isLeast 178 = .ok (.iload_n 1, 1) := lw_dr lw_d_cX12_isLeast_0 29 rfl
theorem dX12_isLeast_179 : decode cX12_isLeast 179 = .ok (.iload_n 2, 1) := lw_dr lw_d_cX12_isLeast_0 30 rfl
theorem dX12_isLeast_180 : decode cX12_isLeast 180 = .ok (.iload_n 3, 1) := lw_dr lw_d_cX12_isLeast_0 31 rfl
theorem dX12_isLeast_181 : decode cX12_isLeast 181 = .ok (.invokevirtual 450, 3) := lw_dr lw_d_cX12_isLeast_0 32 rfl
theorem dX12_isLeast_184 : decode cX12_isLeast 184 = .ok (.istore 4, 2) := lw_dr lw_d_cX12_isLeast_0 33 rfl
theorem dX12_isLeast_186 : decode cX12_isLeast 186 = .ok (.goto (-135), 3) := lw_dr lw_d_cX12_isLeast_0 34 rfl
theorem dX12_isLeast_189 : decode cX12_isLeast 189 = .ok (.aload_n 0, 1) := lw_dr lw_d_cX12_isLeast_0 35 rfl
theorem dX12_isLeast_190 : decode cX12_isLeast 190 = .ok (.getfield 447, 3) := lw_dr lw_d_cX12_isLeast_0 36 rfl
theorem dX12_isLeast_193 : decode cX12_isLeast 193 = .ok (.lconst 0, 1) := lw_dr lw_d_cX12_isLeast_0 37 rfl
theorem dX12_isLeast_194 : decode cX12_isLeast 194 = .ok (.lcmp, 1) := lw_dr lw_d_cX12_isLeast_0 38 rfl
theorem dX12_isLeast_195 : decode cX12_isLeast 195 = .ok (.ifCond .lt 7, 3) := lw_dr lw_d_cX12_isLeast_0 39 rfl
theorem lw_d_cX12_isLeast_202 : lw_dl cX12_isLeast [(202, .iconst 0, 1), (203, .ireturn, 1)] = true := by decide +kernel
theorem dX12_isLeast_202 : decode cX12_isLeast 202 = .ok (.iconst 0, 1) := lw_dr lw_d_cX12_isLeast_202 0 rfl
theorem dX12_isLeast_203 : decode cX12_isLeast 203 = .ok (.ireturn, 1) := lw_dr lw_d_cX12_isLeast_202 1 rfl
theorem lw_d_cX12_isNext_0 : lw_dl cX12_isNext [(0, .aload_n 0, 1), (1, .getfield 237, 3), (4, .iconst 1, 1), (5, .isub, 1), (6, .istore 4, 2), (8, .iload 4, 2), (10, .ifCond .lt 54, 3), (64, .iconst 0, 1), (65, .ireturn, 1), (13, .iload_n 1, 1), (14, .iload 4, 2), (16, .ishr, 1), (17, .iconst 1, 1), (18, .iand, 1), (19, .ifCond .ne 6, 3), (25, .aload_n 0, 1), (26, .getfield 103, 3), (29, .iload 4, 2), (31, .dup2, 1), (32, .iaload, 1), (33, .iload_n 3, 1), (34, .iadd, 1), (35, .iastore, 1), (36, .aload_n 0, 1), (37, .getfield 103, 3), (40, .iload 4, 2), (42, .iaload, 1), (43, .iload_n 2, 1), (44, .if_icmp .gt 5, 3), (49, .aload_n 0, 1), (50, .getfield 103, 3), (53, .iload 4, 2), (55, .iload_n 2, 1), (56, .ineg, 1), (57, .iastore, 1), (58, .iinc 4 (-1), 3), (61, .goto (-53), 3), (47, .iconst 1, 1), (48, .ireturn, 1), (22, .goto 36, 3)] = true := by decide +kernel
theorem dX12_isNext_0 : decode cX12_isNext 0 = .ok (.aload_n 0, 1) := lw_dr lw_d_cX12_isNext_0 0 rfl
theorem dX12_isNext_1 : decode cX12_isNext 1 = .ok (.getfield 237, 3) := lw_dr lw_d_cX12_isNext_0 1 rfl
theorem dX12_isNext_4 : decode cX12_isNext 4 = .ok (.iconst 1, 1) := lw_dr lw_d_cX12_isNext_0 2 rfl
theorem dX12_isNext_5 : decode cX12_isNext 5 = .ok (.isub, 1) := lw_dr lw_d_cX12_isNext_0 3 rfl
theorem dX12_isNext_6 : decode cX12_isNext 6 = .ok (.istore 4, 2) := lw_dr lw_d_cX12_isNext_0 4 rfl
theorem dX12_isNext_8 : decode cX12_isNext 8 = .ok (.iload 4, 2) := lw_dr lw_d_cX12_isNext_0 5 rfl
theorem dX12_isNext_10 : decode cX12_isNext 10 = .ok (.ifCond .lt 54, 3) := lw_dr lw_d_cX12_isNext_0 6 rfl
theorem dX12_isNext_64 : decode cX12_isNext 64 = .ok (.iconst 0, 1) := lw_dr lw_d_cX12_isNext_0 7 rfl
theorem dX12_isNext_65 : decode cX12_isNext 65 = .ok (.ireturn, 1) := lw_dr lw_d_cX12_isNext_0 8 rfl
theorem dX12_isNext_13 : decode cX12_isNext 13 = .ok (.iload_n 1, 1) := lw_dr lw_d_cX12_isNext_0 9 rfl
theorem dX12_isNext_14 : decode cX12_isNext 14 = .ok (.iload 4, 2) := lw_dr lw_d_cX12_isNext_0 10 rfl
theorem dX12_isNext_16 : decode cX12_isNext 16 = .ok (.ishr, 1) := lw_dr lw_d_cX12_isNext_0 11 rfl
theorem dX12_isNext_17 : decode cX12_isNext 17 = .ok (.iconst 1, 1) := lw_dr lw_d_cX12_isNext_0 12 rfl
theorem dX12_isNext_18 : decode cX12_isNext 18 = .ok (.iand, 1) := lw_dr lw_d_cX12_isNext_0 13 rfl
theorem dX12_isNext_19 : decode cX12_isNext 19 = .ok (.ifCond .ne 6, 3) := lw_dr lw_d_cX12_isNext_0 14 rfl
theorem dX12_isNext_25 : decode cX12_isNext 25 = .ok (.aload_n 0, 1) := lw_dr lw_d_cX12_isNext_0 15 rfl
theorem dX12_isNext_26 : decode cX12_isNext 26 = .ok (.getfield 103, 3) := lw_dr lw_d_cX12_isNext_0 16 rfl
theorem dX12_isNext_29 : decode cX12_isNext 29 = .ok (.iload 4, 2) := lw_dr lw_d_cX12_isNext_0 17 rfl
theorem dX12_isNext_31 : decode cX12_isNext 31 = .ok (.dup2, 1) := lw_dr lw_d_cX12_isNext_0 18 rfl
theorem dX12_isNext_32 : decode cX12_isNext 32 = .ok (.iaload, 1) := lw_dr lw_d_cX12_isNext_0 19 rfl
theorem dX12_isNext_33 : decode cX12_isNext 33 = .ok (.iload_n 3, 1) := lw_dr lw_d_cX12_isNext_0 20 rfl
theorem dX12_isNext_34 : decode cX12_isNext 34 = .ok (.iadd, 1) := lw_dr lw_d_cX12_isNext_0 21 rfl
theorem dX12_isNext_35 : decode cX12_isNext 35 = .ok (.iastore, 1) := lw_dr lw_d_cX12_isNext_0 22 rfl
theorem dX12_isNext_36 : decode cX12_isNext 36 = .ok (.aload_n 0, 1) := lw_dr lw_d_cX12_isNext_0 23 rfl
theorem dX12_isNext_37 : decode cX12_isNext 37 = .ok (.getfield 103, 3) := lw_dr lw_d_cX12_isNext_0 24 rfl
theorem dX12_isNext_40 : decode cX12_isNext 40 = .ok (.iload 4, 2) := lw_dr lw_d_cX12_isNext_0 25 rfl
theorem dX12_isNext_42 : decode cX12_isNext 42 = .ok (.iaload, 1) := lw_dr lw_d_cX12_isNext_0 26 rfl
theorem dX12_isNext_43 : decode cX12_isNext 43 = .ok (.iload_n 2, 1) := lw_dr lw_d_cX12_isNext_0 27 rfl
theorem dX12_isNext_44 : decode cX12_isNext 44 = .ok (.if_icmp .gt 5, 3) := lw_dr lw_d_cX12_isNext_0 28 rfl
theorem dX12_isNext_49 : decode cX12_isNext 49 = .ok (.aload_n 0, 1) := lw_dr lw_d_cX12_isNext_0 29 rfl
theorem dX12_isNext_50 : decode cX12_isNext 50 = .ok (.getfield 103, 3) := lw_dr lw_d_cX12_isNext_0 30 rfl
theorem dX12_isNext_53 : decode cX12_isNext 53 = .ok (.iload 4, 2) := lw_dr lw_d_cX12_isNext_0 31 rfl
theorem dX12_isNext_55 : decode cX12_isNext 55 = .ok (.iload_n 2, 1) := lw_dr lw_d_cX12_isNext_0 32 rfl
theorem dX12_isNext_56 : decode cX12_isNext 56 = .ok (.ineg, 1) := lw_dr lw_d_cX12_isNext_0 33 rfl
theorem dX12_isNext_57 : decode cX12_isNext 57 = .ok (.iastore, 1) := lw_dr lw_d_cX12_isNext_0 34 rfl
theorem dX12_isNext_58 : decode cX12_isNext 58 = .ok (.iinc 4 (-1), 3) := lw_dr lw_d_cX12_isNext_0 35 rfl
theorem dX12_isNext_61 : decode cX12_isNext 61 = .ok (.goto (-53), 3) := lw_dr lw_d_cX12_isNext_0 36 rfl
theorem dX12_isNext_47 : decode cX12_isNext 47 = .ok (.iconst 1, 1) := lw_dr lw_d_cX12_isNext_0 37 rfl
theorem dX12_isNext_48 : decode cX12_isNext 48 = .ok (.ireturn, 1) := lw_dr lw_d_cX12_isNext_0 38 rfl
theorem dX12_isNext_22 : decode cX12_isNext 22 = .ok (.goto 36, 3) := lw_dr lw_d_cX12_isNext_0 39 rfl
theorem lw_d_cX12_apart_0 : lw_dl cX12_apart [(0, .aload_n 0, 1)] = true := by decide +kernel
theorem dX12_apart_0 : decode cX12_apart 0 = .ok (.aload_n 0, 1) := lw_dr lw_d_cX12_apart_0 0 rfl
theorem lw_d_cX12_apart_1 : lw_dl cX12_apart [(1, .iload_n 1, 1), (2, .invokevirtual 454, 3), (5, .ifCond .eq 27, 3), (32, .ldc2_w 384, 3), (35, .lreturn, 1), (8, .aload_n 0, 1), (9, .iload_n 1, 1), (10, .iconst 2, 1), (11, .aload_n 0, 1), (12, .getfield 234, 3), (15, .imul, 1), (16, .iconst 2, 1), (17, .isub, 1), (18, .iconst 2, 1), (19, .invokevirtual 457, 3)] = true := by decide +kernel
theorem dX12_apart_1 : decode cX12_apart 1 = .ok (.iload_n 1, 1) := lw_dr lw_d_cX12_apart_1 0 rfl
theorem dX12_apart_2 : decode cX12_apart 2 = .ok (.invokevirtual 454, 3) := lw_dr lw_d_cX12_apart_1 1 rfl
theorem dX12_apart_5 : decode cX12_apart 5 = .ok (.ifCond .eq 27, 3) := lw_dr lw_d_cX12_apart_1 2 rfl
theorem dX12_apart_32 : decode cX12_apart 32 = .ok (.ldc2_w 384, 3) := lw_dr lw_d_cX12_apart_1 3 rfl
theorem dX12_apart_35 : decode cX12_apart 35 = .ok (.lreturn, 1) := lw_dr lw_d_cX12_apart_1 4 rfl
theorem dX12_apart_8 : decode cX12_apart 8 = .ok (.aload_n 0, 1) := lw_dr lw_d_cX12_apart_1 5 rfl
theorem dX12_apart_9 : decode cX12_apart 9 = .ok (.iload_n 1, 1) := lw_dr lw_d_cX12_apart_1 6 rfl
theorem dX12_apart_10 : decode cX12_apart 10 = .ok (.iconst 2, 1) := lw_dr lw_d_cX12_apart_1 7 rfl
theorem dX12_apart_11 : decode cX12_apart 11 = .ok (.aload_n 0, 1) := lw_dr lw_d_cX12_apart_1 8 rfl
theorem dX12_apart_12 : decode cX12_apart 12 = .ok (.getfield 234, 3) := lw_dr lw_d_cX12_apart_1 9 rfl
theorem dX12_apart_15 : decode cX12_apart 15 = .ok (.imul, 1) := lw_dr lw_d_cX12_apart_1 10 rfl
theorem dX12_apart_16 : decode cX12_apart 16 = .ok (.iconst 2, 1) := lw_dr lw_d_cX12_apart_1 11 rfl
theorem dX12_apart_17 : decode cX12_apart 17 = .ok (.isub, 1) := lw_dr lw_d_cX12_apart_1 12 rfl
theorem dX12_apart_18 : decode cX12_apart 18 = .ok (.iconst 2, 1) := lw_dr lw_d_cX12_apart_1 13 rfl
theorem dX12_apart_19 : decode cX12_apart 19 = .ok (.invokevirtual 457, 3) := lw_dr lw_d_cX12_apart_1 14 rfl
theorem lw_d_cX12_word_0 : lw_dl cX12_word [(0, .iload_n 1, 1), (1, .i2l, 1), (2, .lconst 0, 1), (3, .aload_n 0, 1), (4, .getfield 246, 3), (7, .iconst 1, 1), (8, .isub, 1), (9, .i2l, 1), (10, .invokestatic 191, 3), (13, .ifCond .eq 24, 3), (37, .ldc_w 364, 3), (40, .ireturn, 1), (16, .aload_n 0, 1), (17, .iload_n 2, 1), (18, .invokevirtual 361, 3), (21, .ifCond .eq 16, 3), (24, .aload_n 0, 1), (25, .getfield 72, 3), (28, .iconst 5, 1), (29, .iload_n 1, 1), (30, .imul, 1), (31, .iload_n 2, 1), (32, .iadd, 1), (33, .iaload, 1), (34, .goto 6, 3)] = true := by decide +kernel
theorem dX12_word_0 : decode cX12_word 0 = .ok (.iload_n 1, 1) := lw_dr lw_d_cX12_word_0 0 rfl
theorem dX12_word_1 : decode cX12_word 1 = .ok (.i2l, 1) := lw_dr lw_d_cX12_word_0 1 rfl
theorem dX12_word_2 : decode cX12_word 2 = .ok (.lconst 0, 1) := lw_dr lw_d_cX12_word_0 2 rfl
theorem dX12_word_3 : decode cX12_word 3 = .ok (.aload_n 0, 1) := lw_dr lw_d_cX12_word_0 3 rfl
theorem dX12_word_4 : decode cX12_word 4 = .ok (.getfield 246, 3) := lw_dr lw_d_cX12_word_0 4 rfl
theorem dX12_word_7 : decode cX12_word 7 = .ok (.iconst 1, 1) := lw_dr lw_d_cX12_word_0 5 rfl
theorem dX12_word_8 : decode cX12_word 8 = .ok (.isub, 1) := lw_dr lw_d_cX12_word_0 6 rfl
theorem dX12_word_9 : decode cX12_word 9 = .ok (.i2l, 1) := lw_dr lw_d_cX12_word_0 7 rfl
theorem dX12_word_10 : decode cX12_word 10 = .ok (.invokestatic 191, 3) := lw_dr lw_d_cX12_word_0 8 rfl
theorem dX12_word_13 : decode cX12_word 13 = .ok (.ifCond .eq 24, 3) := lw_dr lw_d_cX12_word_0 9 rfl
theorem dX12_word_37 : decode cX12_word 37 = .ok (.ldc_w 364, 3) := lw_dr lw_d_cX12_word_0 10 rfl
theorem dX12_word_40 : decode cX12_word 40 = .ok (.ireturn, 1) := lw_dr lw_d_cX12_word_0 11 rfl
theorem dX12_word_16 : decode cX12_word 16 = .ok (.aload_n 0, 1) := lw_dr lw_d_cX12_word_0 12 rfl
theorem dX12_word_17 : decode cX12_word 17 = .ok (.iload_n 2, 1) := lw_dr lw_d_cX12_word_0 13 rfl
theorem dX12_word_18 : decode cX12_word 18 = .ok (.invokevirtual 361, 3) := lw_dr lw_d_cX12_word_0 14 rfl
theorem dX12_word_21 : decode cX12_word 21 = .ok (.ifCond .eq 16, 3) := lw_dr lw_d_cX12_word_0 15 rfl
theorem dX12_word_24 : decode cX12_word 24 = .ok (.aload_n 0, 1) := lw_dr lw_d_cX12_word_0 16 rfl
theorem dX12_word_25 : decode cX12_word 25 = .ok (.getfield 72, 3) := lw_dr lw_d_cX12_word_0 17 rfl
theorem dX12_word_28 : decode cX12_word 28 = .ok (.iconst 5, 1) := lw_dr lw_d_cX12_word_0 18 rfl
theorem dX12_word_29 : decode cX12_word 29 = .ok (.iload_n 1, 1) := lw_dr lw_d_cX12_word_0 19 rfl
theorem dX12_word_30 : decode cX12_word 30 = .ok (.imul, 1) := lw_dr lw_d_cX12_word_0 20 rfl
theorem dX12_word_31 : decode cX12_word 31 = .ok (.iload_n 2, 1) := lw_dr lw_d_cX12_word_0 21 rfl
theorem dX12_word_32 : decode cX12_word 32 = .ok (.iadd, 1) := lw_dr lw_d_cX12_word_0 22 rfl
theorem dX12_word_33 : decode cX12_word 33 = .ok (.iaload, 1) := lw_dr lw_d_cX12_word_0 23 rfl
theorem dX12_word_34 : decode cX12_word 34 = .ok (.goto 6, 3) := lw_dr lw_d_cX12_word_0 24 rfl
theorem lw_d_cX12_code_0 : lw_dl cX12_code [(0, .iload_n 1, 1), (1, .i2l, 1), (2, .lconst 0, 1), (3, .ldc2_w 460, 3), (6, .invokestatic 191, 3), (9, .ifCond .eq 20, 3), (29, .ldc2_w 384, 3), (32, .lreturn, 1), (12, .aload_n 0, 1), (13, .getfield 246, 3), (16, .iload_n 1, 1), (17, .iconst 3, 1), (18, .if_icmp .ne 7, 3), (25, .iconst 2, 1), (26, .if_icmp .ge 7, 3), (33, .lconst 0, 1), (34, .lstore_n 2, 1), (35, .iconst 0, 1), (36, .istore 4, 2), (38, .iload 4, 2), (40, .aload_n 0, 1), (41, .getfield 246, 3), (44, .if_icmp .ge 29, 3), (47, .aload_n 0, 1), (48, .iload 4, 2), (50, .invokevirtual 462, 3), (53, .i2l, 1), (54, .lload_n 2, 1), (55, .lcmp, 1), (56, .ifCond .le 11, 3), (67, .iinc 4 1, 3), (70, .goto (-32), 3), (59, .aload_n 0, 1), (60, .iload 4, 2), (62, .invokevirtual 462, 3), (65, .i2l, 1), (66, .lstore_n 2, 1), (73, .iload_n 1, 1), (74, .iconst 3, 1), (75, .if_icmp .ne 5, 3)] = true := by decide +kernel
theorem dX12_code_0 : decode cX12_code 0 = .ok (.iload_n 1, 1) := lw_dr lw_d_cX12_code_0 0 rfl
theorem dX12_code_1 : decode cX12_code 1 = .ok (.i2l, 1) := lw_dr lw_d_cX12_code_0 1 rfl
theorem dX12_code_2 : decode cX12_code 2 = .ok (.lconst 0, 1) := lw_dr lw_d_cX12_code_0 2 rfl
theorem dX12_code_3 : decode cX12_code 3 = .ok (.ldc2_w 460, 3) := lw_dr lw_d_cX12_code_0 3 rfl
theorem dX12_code_6 : decode cX12_code 6 = .ok (.invokestatic 191, 3) := lw_dr lw_d_cX12_code_0 4 rfl
theorem dX12_code_9 : decode cX12_code 9 = .ok (.ifCond .eq 20, 3) := lw_dr lw_d_cX12_code_0 5 rfl
theorem dX12_code_29 : decode cX12_code 29 = .ok (.ldc2_w 384, 3) := lw_dr lw_d_cX12_code_0 6 rfl
theorem dX12_code_32 : decode cX12_code 32 = .ok (.lreturn, 1) := lw_dr lw_d_cX12_code_0 7 rfl
theorem dX12_code_12 : decode cX12_code 12 = .ok (.aload_n 0, 1) := lw_dr lw_d_cX12_code_0 8 rfl
theorem dX12_code_13 : decode cX12_code 13 = .ok (.getfield 246, 3) := lw_dr lw_d_cX12_code_0 9 rfl
theorem dX12_code_16 : decode cX12_code 16 = .ok (.iload_n 1, 1) := lw_dr lw_d_cX12_code_0 10 rfl
theorem dX12_code_17 : decode cX12_code 17 = .ok (.iconst 3, 1) := lw_dr lw_d_cX12_code_0 11 rfl
theorem dX12_code_18 : decode cX12_code 18 = .ok (.if_icmp .ne 7, 3) := lw_dr lw_d_cX12_code_0 12 rfl
theorem dX12_code_25 : decode cX12_code 25 = .ok (.iconst 2, 1) := lw_dr lw_d_cX12_code_0 13 rfl
theorem dX12_code_26 : decode cX12_code 26 = .ok (.if_icmp .ge 7, 3) := lw_dr lw_d_cX12_code_0 14 rfl
theorem dX12_code_33 : decode cX12_code 33 = .ok (.lconst 0, 1) := lw_dr lw_d_cX12_code_0 15 rfl
theorem dX12_code_34 : decode cX12_code 34 = .ok (.lstore_n 2, 1) := lw_dr lw_d_cX12_code_0 16 rfl
theorem dX12_code_35 : decode cX12_code 35 = .ok (.iconst 0, 1) := lw_dr lw_d_cX12_code_0 17 rfl
theorem dX12_code_36 : decode cX12_code 36 = .ok (.istore 4, 2) := lw_dr lw_d_cX12_code_0 18 rfl
theorem dX12_code_38 : decode cX12_code 38 = .ok (.iload 4, 2) := lw_dr lw_d_cX12_code_0 19 rfl
theorem dX12_code_40 : decode cX12_code 40 = .ok (.aload_n 0, 1) := lw_dr lw_d_cX12_code_0 20 rfl
theorem dX12_code_41 : decode cX12_code 41 = .ok (.getfield 246, 3) := lw_dr lw_d_cX12_code_0 21 rfl
theorem dX12_code_44 : decode cX12_code 44 = .ok (.if_icmp .ge 29, 3) := lw_dr lw_d_cX12_code_0 22 rfl
theorem dX12_code_47 : decode cX12_code 47 = .ok (.aload_n 0, 1) := lw_dr lw_d_cX12_code_0 23 rfl
theorem dX12_code_48 : decode cX12_code 48 = .ok (.iload 4, 2) := lw_dr lw_d_cX12_code_0 24 rfl
theorem dX12_code_50 : decode cX12_code 50 = .ok (.invokevirtual 462, 3) := lw_dr lw_d_cX12_code_0 25 rfl
theorem dX12_code_53 : decode cX12_code 53 = .ok (.i2l, 1) := lw_dr lw_d_cX12_code_0 26 rfl
theorem dX12_code_54 : decode cX12_code 54 = .ok (.lload_n 2, 1) := lw_dr lw_d_cX12_code_0 27 rfl
theorem dX12_code_55 : decode cX12_code 55 = .ok (.lcmp, 1) := lw_dr lw_d_cX12_code_0 28 rfl
theorem dX12_code_56 : decode cX12_code 56 = .ok (.ifCond .le 11, 3) := lw_dr lw_d_cX12_code_0 29 rfl
theorem dX12_code_67 : decode cX12_code 67 = .ok (.iinc 4 1, 3) := lw_dr lw_d_cX12_code_0 30 rfl
theorem dX12_code_70 : decode cX12_code 70 = .ok (.goto (-32), 3) := lw_dr lw_d_cX12_code_0 31 rfl
theorem dX12_code_59 : decode cX12_code 59 = .ok (.aload_n 0, 1) := lw_dr lw_d_cX12_code_0 32 rfl
theorem dX12_code_60 : decode cX12_code 60 = .ok (.iload 4, 2) := lw_dr lw_d_cX12_code_0 33 rfl
theorem dX12_code_62 : decode cX12_code 62 = .ok (.invokevirtual 462, 3) := lw_dr lw_d_cX12_code_0 34 rfl
theorem dX12_code_65 : decode cX12_code 65 = .ok (.i2l, 1) := lw_dr lw_d_cX12_code_0 35 rfl
theorem dX12_code_66 : decode cX12_code 66 = .ok (.lstore_n 2, 1) := lw_dr lw_d_cX12_code_0 36 rfl
theorem dX12_code_73 : decode cX12_code 73 = .ok (.iload_n 1, 1) := lw_dr lw_d_cX12_code_0 37 rfl
theorem dX12_code_74 : decode cX12_code 74 = .ok (.iconst 3, 1) := lw_dr lw_d_cX12_code_0 38 rfl
theorem dX12_code_75 : decode cX12_code 75 = .ok (.if_icmp .ne 5, 3) := lw_dr lw_d_cX12_code_0 39 rfl
theorem lw_d_cX12_code_80 : lw_dl cX12_code [(80, .ldc2_w 384, 3), (83, .lstore 4, 2), (85, .iconst 0, 1), (86, .istore 6, 2), (88, .iconst 0, 1), (89, .istore 7, 2), (91, .iconst 0, 1), (92, .istore 8, 2), (94, .iload 8, 2), (96, .aload_n 0, 1), (97, .getfield 246, 3), (100, .if_icmp .ge 83, 3), (103, .iload 8, 2), (105, .iconst 1, 1), (106, .iadd, 1), (107, .istore 9, 2), (109, .iload 9, 2), (111, .aload_n 0, 1), (112, .getfield 246, 3), (115, .if_icmp .ge 62, 3), (118, .aload_n 0, 1), (119, .iload 8, 2), (121, .iload 9, 2), (123, .invokevirtual 465, 3), (126, .lstore 10, 2), (128, .lload 4, 2), (130, .lconst 0, 1), (131, .lcmp, 1), (132, .ifCond .lt 11, 3), (143, .lload 10, 2), (145, .lstore 4, 2), (147, .iconst 0, 1), (148, .istore 6, 2), (150, .bipush 100, 2), (152, .iload 8, 2), (154, .imul, 1), (155, .iload 9, 2), (157, .iadd, 1), (158, .istore 7, 2), (160, .lload 10, 2)] = true := by decide +kernel
theorem dX12_code_80 : decode cX12_code 80 = .ok (.ldc2_w 384, 3) := lw_dr lw_d_cX12_code_80 0 rfl
theorem dX12_code_83 : decode cX12_code 83 = .ok (.lstore 4, 2) := lw_dr lw_d_cX12_code_80 1 rfl
theorem dX12_code_85 : decode cX12_code 85 = .ok (.iconst 0, 1) := lw_dr lw_d_cX12_code_80 2 rfl
theorem dX12_code_86 : decode cX12_code 86 = .ok (.istore 6, 2) := lw_dr lw_d_cX12_code_80 3 rfl
theorem dX12_code_88 : decode cX12_code 88 = .ok (.iconst 0, 1) := lw_dr lw_d_cX12_code_80 4 rfl
theorem dX12_code_89 : decode cX12_code 89 = .ok (.istore 7, 2) := lw_dr lw_d_cX12_code_80 5 rfl
theorem dX12_code_91 : decode cX12_code 91 = .ok (.iconst 0, 1) := lw_dr lw_d_cX12_code_80 6 rfl
theorem dX12_code_92 : decode cX12_code 92 = .ok (.istore 8, 2) := lw_dr lw_d_cX12_code_80 7 rfl
theorem dX12_code_94 : decode cX12_code 94 = .ok (.iload 8, 2) := lw_dr lw_d_cX12_code_80 8 rfl
theorem dX12_code_96 : decode cX12_code 96 = .ok (.aload_n 0, 1) := lw_dr lw_d_cX12_code_80 9 rfl
theorem dX12_code_97 : decode cX12_code 97 = .ok (.getfield 246, 3) := lw_dr lw_d_cX12_code_80 10 rfl
theorem dX12_code_100 : decode cX12_code 100 = .ok (.if_icmp .ge 83, 3) := lw_dr lw_d_cX12_code_80 11 rfl
theorem dX12_code_103 : decode cX12_code 103 = .ok (.iload 8, 2) := lw_dr lw_d_cX12_code_80 12 rfl
theorem dX12_code_105 : decode cX12_code 105 = .ok (.iconst 1, 1) := lw_dr lw_d_cX12_code_80 13 rfl
theorem dX12_code_106 : decode cX12_code 106 = .ok (.iadd, 1) := lw_dr lw_d_cX12_code_80 14 rfl
theorem dX12_code_107 : decode cX12_code 107 = .ok (.istore 9, 2) := lw_dr lw_d_cX12_code_80 15 rfl
theorem dX12_code_109 : decode cX12_code 109 = .ok (.iload 9, 2) := lw_dr lw_d_cX12_code_80 16 rfl
theorem dX12_code_111 : decode cX12_code 111 = .ok (.aload_n 0, 1) := lw_dr lw_d_cX12_code_80 17 rfl
theorem dX12_code_112 : decode cX12_code 112 = .ok (.getfield 246, 3) := lw_dr lw_d_cX12_code_80 18 rfl
theorem dX12_code_115 : decode cX12_code 115 = .ok (.if_icmp .ge 62, 3) := lw_dr lw_d_cX12_code_80 19 rfl
theorem dX12_code_118 : decode cX12_code 118 = .ok (.aload_n 0, 1) := lw_dr lw_d_cX12_code_80 20 rfl
theorem dX12_code_119 : decode cX12_code 119 = .ok (.iload 8, 2) := lw_dr lw_d_cX12_code_80 21 rfl
theorem dX12_code_121 : decode cX12_code 121 = .ok (.iload 9, 2) := lw_dr lw_d_cX12_code_80 22 rfl
theorem dX12_code_123 : decode cX12_code 123 = .ok (.invokevirtual 465, 3) := lw_dr lw_d_cX12_code_80 23 rfl
theorem dX12_code_126 : decode cX12_code 126 = .ok (.lstore 10, 2) := lw_dr lw_d_cX12_code_80 24 rfl
theorem dX12_code_128 : decode cX12_code 128 = .ok (.lload 4, 2) := lw_dr lw_d_cX12_code_80 25 rfl
theorem dX12_code_130 : decode cX12_code 130 = .ok (.lconst 0, 1) := lw_dr lw_d_cX12_code_80 26 rfl
theorem dX12_code_131 : decode cX12_code 131 = .ok (.lcmp, 1) := lw_dr lw_d_cX12_code_80 27 rfl
theorem dX12_code_132 : decode cX12_code 132 = .ok (.ifCond .lt 11, 3) := lw_dr lw_d_cX12_code_80 28 rfl
theorem dX12_code_143 : decode cX12_code 143 = .ok (.lload 10, 2) := lw_dr lw_d_cX12_code_80 29 rfl
theorem dX12_code_145 : decode cX12_code 145 = .ok (.lstore 4, 2) := lw_dr lw_d_cX12_code_80 30 rfl
theorem dX12_code_147 : decode cX12_code 147 = .ok (.iconst 0, 1) := lw_dr lw_d_cX12_code_80 31 rfl
theorem dX12_code_148 : decode cX12_code 148 = .ok (.istore 6, 2) := lw_dr lw_d_cX12_code_80 32 rfl
theorem dX12_code_150 : decode cX12_code 150 = .ok (.bipush 100, 2) := lw_dr lw_d_cX12_code_80 33 rfl
theorem dX12_code_152 : decode cX12_code 152 = .ok (.iload 8, 2) := lw_dr lw_d_cX12_code_80 34 rfl
theorem dX12_code_154 : decode cX12_code 154 = .ok (.imul, 1) := lw_dr lw_d_cX12_code_80 35 rfl
theorem dX12_code_155 : decode cX12_code 155 = .ok (.iload 9, 2) := lw_dr lw_d_cX12_code_80 36 rfl
theorem dX12_code_157 : decode cX12_code 157 = .ok (.iadd, 1) := lw_dr lw_d_cX12_code_80 37 rfl
theorem dX12_code_158 : decode cX12_code 158 = .ok (.istore 7, 2) := lw_dr lw_d_cX12_code_80 38 rfl
theorem dX12_code_160 : decode cX12_code 160 = .ok (.lload 10, 2) := lw_dr lw_d_cX12_code_80 39 rfl
theorem lw_d_cX12_code_162 : lw_dl cX12_code [(162, .lload 4, 2), (164, .lcmp, 1), (165, .ifCond .ne 6, 3), (168, .iinc 6 1, 3), (171, .iinc 9 1, 3), (174, .goto (-65), 3), (177, .iinc 8 1, 3), (180, .goto (-86), 3), (135, .lload 10, 2), (137, .lload 4, 2), (139, .lcmp, 1), (140, .ifCond .ge 20, 3), (183, .iload_n 1, 1), (184, .ifCond .ne 8, 3), (192, .iload_n 1, 1), (193, .iconst 1, 1), (194, .if_icmp .ne 9, 3), (203, .iload 7, 2), (205, .i2l, 1), (206, .lreturn, 1), (197, .iload 6, 2), (199, .i2l, 1), (200, .goto 6, 3), (187, .lload 4, 2), (189, .goto 17, 3), (78, .lload_n 2, 1), (79, .lreturn, 1), (21, .iconst 1, 1), (22, .goto 4, 3)] = true := by decide +kernel
theorem dX12_code_162 : decode cX12_code 162 = .ok (.lload 4, 2) := lw_dr lw_d_cX12_code_162 0 rfl
theorem dX12_code_164 : decode cX12_code 164 = .ok (.lcmp, 1) := lw_dr lw_d_cX12_code_162 1 rfl
theorem dX12_code_165 : decode cX12_code 165 = .ok (.ifCond .ne 6, 3) := lw_dr lw_d_cX12_code_162 2 rfl
theorem dX12_code_168 : decode cX12_code 168 = .ok (.iinc 6 1, 3) := lw_dr lw_d_cX12_code_162 3 rfl
theorem dX12_code_171 : decode cX12_code 171 = .ok (.iinc 9 1, 3) := lw_dr lw_d_cX12_code_162 4 rfl
theorem dX12_code_174 : decode cX12_code 174 = .ok (.goto (-65), 3) := lw_dr lw_d_cX12_code_162 5 rfl
theorem dX12_code_177 : decode cX12_code 177 = .ok (.iinc 8 1, 3) := lw_dr lw_d_cX12_code_162 6 rfl
theorem dX12_code_180 : decode cX12_code 180 = .ok (.goto (-86), 3) := lw_dr lw_d_cX12_code_162 7 rfl
theorem dX12_code_135 : decode cX12_code 135 = .ok (.lload 10, 2) := lw_dr lw_d_cX12_code_162 8 rfl
theorem dX12_code_137 : decode cX12_code 137 = .ok (.lload 4, 2) := lw_dr lw_d_cX12_code_162 9 rfl
theorem dX12_code_139 : decode cX12_code 139 = .ok (.lcmp, 1) := lw_dr lw_d_cX12_code_162 10 rfl
theorem dX12_code_140 : decode cX12_code 140 = .ok (.ifCond .ge 20, 3) := lw_dr lw_d_cX12_code_162 11 rfl
theorem dX12_code_183 : decode cX12_code 183 = .ok (.iload_n 1, 1) := lw_dr lw_d_cX12_code_162 12 rfl
theorem dX12_code_184 : decode cX12_code 184 = .ok (.ifCond .ne 8, 3) := lw_dr lw_d_cX12_code_162 13 rfl
theorem dX12_code_192 : decode cX12_code 192 = .ok (.iload_n 1, 1) := lw_dr lw_d_cX12_code_162 14 rfl
theorem dX12_code_193 : decode cX12_code 193 = .ok (.iconst 1, 1) := lw_dr lw_d_cX12_code_162 15 rfl
theorem dX12_code_194 : decode cX12_code 194 = .ok (.if_icmp .ne 9, 3) := lw_dr lw_d_cX12_code_162 16 rfl
theorem dX12_code_203 : decode cX12_code 203 = .ok (.iload 7, 2) := lw_dr lw_d_cX12_code_162 17 rfl
theorem dX12_code_205 : decode cX12_code 205 = .ok (.i2l, 1) := lw_dr lw_d_cX12_code_162 18 rfl
theorem dX12_code_206 : decode cX12_code 206 = .ok (.lreturn, 1) := lw_dr lw_d_cX12_code_162 19 rfl
theorem dX12_code_197 : decode cX12_code 197 = .ok (.iload 6, 2) := lw_dr lw_d_cX12_code_162 20 rfl
theorem dX12_code_199 : decode cX12_code 199 = .ok (.i2l, 1) := lw_dr lw_d_cX12_code_162 21 rfl
theorem dX12_code_200 : decode cX12_code 200 = .ok (.goto 6, 3) := lw_dr lw_d_cX12_code_162 22 rfl
theorem dX12_code_187 : decode cX12_code 187 = .ok (.lload 4, 2) := lw_dr lw_d_cX12_code_162 23 rfl
theorem dX12_code_189 : decode cX12_code 189 = .ok (.goto 17, 3) := lw_dr lw_d_cX12_code_162 24 rfl
theorem dX12_code_78 : decode cX12_code 78 = .ok (.lload_n 2, 1) := lw_dr lw_d_cX12_code_162 25 rfl
theorem dX12_code_79 : decode cX12_code 79 = .ok (.lreturn, 1) := lw_dr lw_d_cX12_code_162 26 rfl
theorem dX12_code_21 : decode cX12_code 21 = .ok (.iconst 1, 1) := lw_dr lw_d_cX12_code_162 27 rfl
theorem dX12_code_22 : decode cX12_code 22 = .ok (.goto 4, 3) := lw_dr lw_d_cX12_code_162 28 rfl
theorem lw_d_cX12_power_0 : lw_dl cX12_power [(0, .iconst 0, 1), (1, .istore_n 2, 1), (2, .iconst 0, 1), (3, .istore_n 3, 1), (4, .iload_n 3, 1), (5, .aload_n 0, 1), (6, .getfield 237, 3), (9, .if_icmp .ge 33, 3), (42, .iload_n 2, 1), (43, .ireturn, 1), (12, .iload_n 2, 1), (13, .aload_n 0, 1), (14, .getfield 72, 3), (17, .iconst 5, 1), (18, .iload_n 1, 1), (19, .imul, 1), (20, .iload_n 3, 1), (21, .iadd, 1), (22, .iaload, 1), (23, .aload_n 0, 1), (24, .getfield 72, 3), (27, .iconst 5, 1), (28, .iload_n 1, 1), (29, .imul, 1), (30, .iload_n 3, 1), (31, .iadd, 1), (32, .iaload, 1), (33, .imul, 1), (34, .iadd, 1), (35, .istore_n 2, 1), (36, .iinc 3 1, 3), (39, .goto (-35), 3)] = true := by decide +kernel
theorem dX12_power_0 : decode cX12_power 0 = .ok (.iconst 0, 1) := lw_dr lw_d_cX12_power_0 0 rfl
theorem dX12_power_1 : decode cX12_power 1 = .ok (.istore_n 2, 1) := lw_dr lw_d_cX12_power_0 1 rfl
theorem dX12_power_2 : decode cX12_power 2 = .ok (.iconst 0, 1) := lw_dr lw_d_cX12_power_0 2 rfl
theorem dX12_power_3 : decode cX12_power 3 = .ok (.istore_n 3, 1) := lw_dr lw_d_cX12_power_0 3 rfl
theorem dX12_power_4 : decode cX12_power 4 = .ok (.iload_n 3, 1) := lw_dr lw_d_cX12_power_0 4 rfl
theorem dX12_power_5 : decode cX12_power 5 = .ok (.aload_n 0, 1) := lw_dr lw_d_cX12_power_0 5 rfl
theorem dX12_power_6 : decode cX12_power 6 = .ok (.getfield 237, 3) := lw_dr lw_d_cX12_power_0 6 rfl
theorem dX12_power_9 : decode cX12_power 9 = .ok (.if_icmp .ge 33, 3) := lw_dr lw_d_cX12_power_0 7 rfl
theorem dX12_power_42 : decode cX12_power 42 = .ok (.iload_n 2, 1) := lw_dr lw_d_cX12_power_0 8 rfl
theorem dX12_power_43 : decode cX12_power 43 = .ok (.ireturn, 1) := lw_dr lw_d_cX12_power_0 9 rfl
theorem dX12_power_12 : decode cX12_power 12 = .ok (.iload_n 2, 1) := lw_dr lw_d_cX12_power_0 10 rfl
theorem dX12_power_13 : decode cX12_power 13 = .ok (.aload_n 0, 1) := lw_dr lw_d_cX12_power_0 11 rfl
theorem dX12_power_14 : decode cX12_power 14 = .ok (.getfield 72, 3) := lw_dr lw_d_cX12_power_0 12 rfl
theorem dX12_power_17 : decode cX12_power 17 = .ok (.iconst 5, 1) := lw_dr lw_d_cX12_power_0 13 rfl
theorem dX12_power_18 : decode cX12_power 18 = .ok (.iload_n 1, 1) := lw_dr lw_d_cX12_power_0 14 rfl
theorem dX12_power_19 : decode cX12_power 19 = .ok (.imul, 1) := lw_dr lw_d_cX12_power_0 15 rfl
theorem dX12_power_20 : decode cX12_power 20 = .ok (.iload_n 3, 1) := lw_dr lw_d_cX12_power_0 16 rfl
theorem dX12_power_21 : decode cX12_power 21 = .ok (.iadd, 1) := lw_dr lw_d_cX12_power_0 17 rfl
theorem dX12_power_22 : decode cX12_power 22 = .ok (.iaload, 1) := lw_dr lw_d_cX12_power_0 18 rfl
theorem dX12_power_23 : decode cX12_power 23 = .ok (.aload_n 0, 1) := lw_dr lw_d_cX12_power_0 19 rfl
theorem dX12_power_24 : decode cX12_power 24 = .ok (.getfield 72, 3) := lw_dr lw_d_cX12_power_0 20 rfl
theorem dX12_power_27 : decode cX12_power 27 = .ok (.iconst 5, 1) := lw_dr lw_d_cX12_power_0 21 rfl
theorem dX12_power_28 : decode cX12_power 28 = .ok (.iload_n 1, 1) := lw_dr lw_d_cX12_power_0 22 rfl
theorem dX12_power_29 : decode cX12_power 29 = .ok (.imul, 1) := lw_dr lw_d_cX12_power_0 23 rfl
theorem dX12_power_30 : decode cX12_power 30 = .ok (.iload_n 3, 1) := lw_dr lw_d_cX12_power_0 24 rfl
theorem dX12_power_31 : decode cX12_power 31 = .ok (.iadd, 1) := lw_dr lw_d_cX12_power_0 25 rfl
theorem dX12_power_32 : decode cX12_power 32 = .ok (.iaload, 1) := lw_dr lw_d_cX12_power_0 26 rfl
theorem dX12_power_33 : decode cX12_power 33 = .ok (.imul, 1) := lw_dr lw_d_cX12_power_0 27 rfl
theorem dX12_power_34 : decode cX12_power 34 = .ok (.iadd, 1) := lw_dr lw_d_cX12_power_0 28 rfl
theorem dX12_power_35 : decode cX12_power 35 = .ok (.istore_n 2, 1) := lw_dr lw_d_cX12_power_0 29 rfl
theorem dX12_power_36 : decode cX12_power 36 = .ok (.iinc 3 1, 3) := lw_dr lw_d_cX12_power_0 30 rfl
theorem dX12_power_39 : decode cX12_power 39 = .ok (.goto (-35), 3) := lw_dr lw_d_cX12_power_0 31 rfl
theorem lw_d_cX12_apartOf_0 : lw_dl cX12_apartOf [(0, .iconst 0, 1), (1, .istore_n 3, 1), (2, .iload_n 3, 1), (3, .aload_n 0, 1), (4, .getfield 237, 3), (7, .if_icmp .ge 36, 3), (43, .aload_n 0, 1), (44, .iconst 0, 1), (45, .invokevirtual 380, 3), (48, .lreturn, 1), (10, .aload_n 0, 1), (11, .getfield 103, 3), (14, .iload_n 3, 1), (15, .aload_n 0, 1), (16, .getfield 72, 3), (19, .iconst 5, 1), (20, .iload_n 1, 1), (21, .imul, 1), (22, .iload_n 3, 1), (23, .iadd, 1), (24, .iaload, 1), (25, .aload_n 0, 1), (26, .getfield 72, 3), (29, .iconst 5, 1), (30, .iload_n 2, 1), (31, .imul, 1), (32, .iload_n 3, 1), (33, .iadd, 1), (34, .iaload, 1), (35, .isub, 1), (36, .iastore, 1), (37, .iinc 3 1, 3), (40, .goto (-38), 3)] = true := by decide +kernel
theorem dX12_apartOf_0 : decode cX12_apartOf 0 = .ok (.iconst 0, 1) := lw_dr lw_d_cX12_apartOf_0 0 rfl
theorem dX12_apartOf_1 : decode cX12_apartOf 1 = .ok (.istore_n 3, 1) := lw_dr lw_d_cX12_apartOf_0 1 rfl
theorem dX12_apartOf_2 : decode cX12_apartOf 2 = .ok (.iload_n 3, 1) := lw_dr lw_d_cX12_apartOf_0 2 rfl
theorem dX12_apartOf_3 : decode cX12_apartOf 3 = .ok (.aload_n 0, 1) := lw_dr lw_d_cX12_apartOf_0 3 rfl
theorem dX12_apartOf_4 : decode cX12_apartOf 4 = .ok (.getfield 237, 3) := lw_dr lw_d_cX12_apartOf_0 4 rfl
theorem dX12_apartOf_7 : decode cX12_apartOf 7 = .ok (.if_icmp .ge 36, 3) := lw_dr lw_d_cX12_apartOf_0 5 rfl
theorem dX12_apartOf_43 : decode cX12_apartOf 43 = .ok (.aload_n 0, 1) := lw_dr lw_d_cX12_apartOf_0 6 rfl
theorem dX12_apartOf_44 : decode cX12_apartOf 44 = .ok (.iconst 0, 1) := lw_dr lw_d_cX12_apartOf_0 7 rfl
theorem dX12_apartOf_45 : decode cX12_apartOf 45 = .ok (.invokevirtual 380, 3) := lw_dr lw_d_cX12_apartOf_0 8 rfl
theorem dX12_apartOf_48 : decode cX12_apartOf 48 = .ok (.lreturn, 1) := lw_dr lw_d_cX12_apartOf_0 9 rfl
theorem dX12_apartOf_10 : decode cX12_apartOf 10 = .ok (.aload_n 0, 1) := lw_dr lw_d_cX12_apartOf_0 10 rfl
theorem dX12_apartOf_11 : decode cX12_apartOf 11 = .ok (.getfield 103, 3) := lw_dr lw_d_cX12_apartOf_0 11 rfl
theorem dX12_apartOf_14 : decode cX12_apartOf 14 = .ok (.iload_n 3, 1) := lw_dr lw_d_cX12_apartOf_0 12 rfl
theorem dX12_apartOf_15 : decode cX12_apartOf 15 = .ok (.aload_n 0, 1) := lw_dr lw_d_cX12_apartOf_0 13 rfl
theorem dX12_apartOf_16 : decode cX12_apartOf 16 = .ok (.getfield 72, 3) := lw_dr lw_d_cX12_apartOf_0 14 rfl
theorem dX12_apartOf_19 : decode cX12_apartOf 19 = .ok (.iconst 5, 1) := lw_dr lw_d_cX12_apartOf_0 15 rfl
theorem dX12_apartOf_20 : decode cX12_apartOf 20 = .ok (.iload_n 1, 1) := lw_dr lw_d_cX12_apartOf_0 16 rfl
theorem dX12_apartOf_21 : decode cX12_apartOf 21 = .ok (.imul, 1) := lw_dr lw_d_cX12_apartOf_0 17 rfl
theorem dX12_apartOf_22 : decode cX12_apartOf 22 = .ok (.iload_n 3, 1) := lw_dr lw_d_cX12_apartOf_0 18 rfl
theorem dX12_apartOf_23 : decode cX12_apartOf 23 = .ok (.iadd, 1) := lw_dr lw_d_cX12_apartOf_0 19 rfl
theorem dX12_apartOf_24 : decode cX12_apartOf 24 = .ok (.iaload, 1) := lw_dr lw_d_cX12_apartOf_0 20 rfl
theorem dX12_apartOf_25 : decode cX12_apartOf 25 = .ok (.aload_n 0, 1) := lw_dr lw_d_cX12_apartOf_0 21 rfl
theorem dX12_apartOf_26 : decode cX12_apartOf 26 = .ok (.getfield 72, 3) := lw_dr lw_d_cX12_apartOf_0 22 rfl
theorem dX12_apartOf_29 : decode cX12_apartOf 29 = .ok (.iconst 5, 1) := lw_dr lw_d_cX12_apartOf_0 23 rfl
theorem dX12_apartOf_30 : decode cX12_apartOf 30 = .ok (.iload_n 2, 1) := lw_dr lw_d_cX12_apartOf_0 24 rfl
theorem dX12_apartOf_31 : decode cX12_apartOf 31 = .ok (.imul, 1) := lw_dr lw_d_cX12_apartOf_0 25 rfl
theorem dX12_apartOf_32 : decode cX12_apartOf 32 = .ok (.iload_n 3, 1) := lw_dr lw_d_cX12_apartOf_0 26 rfl
theorem dX12_apartOf_33 : decode cX12_apartOf 33 = .ok (.iadd, 1) := lw_dr lw_d_cX12_apartOf_0 27 rfl
theorem dX12_apartOf_34 : decode cX12_apartOf 34 = .ok (.iaload, 1) := lw_dr lw_d_cX12_apartOf_0 28 rfl
theorem dX12_apartOf_35 : decode cX12_apartOf 35 = .ok (.isub, 1) := lw_dr lw_d_cX12_apartOf_0 29 rfl
theorem dX12_apartOf_36 : decode cX12_apartOf 36 = .ok (.iastore, 1) := lw_dr lw_d_cX12_apartOf_0 30 rfl
theorem dX12_apartOf_37 : decode cX12_apartOf 37 = .ok (.iinc 3 1, 3) := lw_dr lw_d_cX12_apartOf_0 31 rfl
theorem dX12_apartOf_40 : decode cX12_apartOf 40 = .ok (.goto (-38), 3) := lw_dr lw_d_cX12_apartOf_0 32 rfl
theorem lw_d_cX12_leave_0 : lw_dl cX12_leave [(0, .iload_n 1, 1), (1, .i2l, 1), (2, .lconst 0, 1), (3, .lconst 1, 1), (4, .invokestatic 191, 3), (7, .ifCond .eq 11, 3), (18, .ldc2_w 384, 3), (21, .lreturn, 1), (10, .aload_n 0, 1), (11, .getfield 246, 3), (14, .iconst 3, 1), (15, .if_icmp .ge 7, 3), (22, .iconst 0, 1), (23, .istore_n 2, 1), (24, .iconst 1, 1), (25, .istore_n 3, 1), (26, .iload_n 3, 1), (27, .aload_n 0, 1), (28, .getfield 246, 3), (31, .if_icmp .ge 25, 3), (34, .aload_n 0, 1), (35, .iload_n 3, 1), (36, .invokevirtual 468, 3), (39, .aload_n 0, 1), (40, .iload_n 2, 1), (41, .invokevirtual 468, 3), (44, .lcmp, 1), (45, .ifCond .le 5, 3), (50, .iinc 3 1, 3), (53, .goto (-27), 3), (48, .iload_n 3, 1), (49, .istore_n 2, 1), (56, .iload_n 1, 1), (57, .ifCond .ne 8, 3), (65, .aload_n 0, 1), (66, .iload_n 2, 1), (67, .invokevirtual 468, 3), (70, .lreturn, 1), (60, .iload_n 2, 1), (61, .i2l, 1)] = true := by decide +kernel
theorem dX12_leave_0 : decode cX12_leave 0 = .ok (.iload_n 1, 1) := lw_dr lw_d_cX12_leave_0 0 rfl
theorem dX12_leave_1 : decode cX12_leave 1 = .ok (.i2l, 1) := lw_dr lw_d_cX12_leave_0 1 rfl
theorem dX12_leave_2 : decode cX12_leave 2 = .ok (.lconst 0, 1) := lw_dr lw_d_cX12_leave_0 2 rfl
theorem dX12_leave_3 : decode cX12_leave 3 = .ok (.lconst 1, 1) := lw_dr lw_d_cX12_leave_0 3 rfl
theorem dX12_leave_4 : decode cX12_leave 4 = .ok (.invokestatic 191, 3) := lw_dr lw_d_cX12_leave_0 4 rfl
theorem dX12_leave_7 : decode cX12_leave 7 = .ok (.ifCond .eq 11, 3) := lw_dr lw_d_cX12_leave_0 5 rfl
theorem dX12_leave_18 : decode cX12_leave 18 = .ok (.ldc2_w 384, 3) := lw_dr lw_d_cX12_leave_0 6 rfl
theorem dX12_leave_21 : decode cX12_leave 21 = .ok (.lreturn, 1) := lw_dr lw_d_cX12_leave_0 7 rfl
theorem dX12_leave_10 : decode cX12_leave 10 = .ok (.aload_n 0, 1) := lw_dr lw_d_cX12_leave_0 8 rfl
theorem dX12_leave_11 : decode cX12_leave 11 = .ok (.getfield 246, 3) := lw_dr lw_d_cX12_leave_0 9 rfl
theorem dX12_leave_14 : decode cX12_leave 14 = .ok (.iconst 3, 1) := lw_dr lw_d_cX12_leave_0 10 rfl
theorem dX12_leave_15 : decode cX12_leave 15 = .ok (.if_icmp .ge 7, 3) := lw_dr lw_d_cX12_leave_0 11 rfl
theorem dX12_leave_22 : decode cX12_leave 22 = .ok (.iconst 0, 1) := lw_dr lw_d_cX12_leave_0 12 rfl
theorem dX12_leave_23 : decode cX12_leave 23 = .ok (.istore_n 2, 1) := lw_dr lw_d_cX12_leave_0 13 rfl
theorem dX12_leave_24 : decode cX12_leave 24 = .ok (.iconst 1, 1) := lw_dr lw_d_cX12_leave_0 14 rfl
theorem dX12_leave_25 : decode cX12_leave 25 = .ok (.istore_n 3, 1) := lw_dr lw_d_cX12_leave_0 15 rfl
theorem dX12_leave_26 : decode cX12_leave 26 = .ok (.iload_n 3, 1) := lw_dr lw_d_cX12_leave_0 16 rfl
theorem dX12_leave_27 : decode cX12_leave 27 = .ok (.aload_n 0, 1) := lw_dr lw_d_cX12_leave_0 17 rfl
theorem dX12_leave_28 : decode cX12_leave 28 = .ok (.getfield 246, 3) := lw_dr lw_d_cX12_leave_0 18 rfl
theorem dX12_leave_31 : decode cX12_leave 31 = .ok (.if_icmp .ge 25, 3) := lw_dr lw_d_cX12_leave_0 19 rfl
theorem dX12_leave_34 : decode cX12_leave 34 = .ok (.aload_n 0, 1) := lw_dr lw_d_cX12_leave_0 20 rfl
theorem dX12_leave_35 : decode cX12_leave 35 = .ok (.iload_n 3, 1) := lw_dr lw_d_cX12_leave_0 21 rfl
theorem dX12_leave_36 : decode cX12_leave 36 = .ok (.invokevirtual 468, 3) := lw_dr lw_d_cX12_leave_0 22 rfl
theorem dX12_leave_39 : decode cX12_leave 39 = .ok (.aload_n 0, 1) := lw_dr lw_d_cX12_leave_0 23 rfl
theorem dX12_leave_40 : decode cX12_leave 40 = .ok (.iload_n 2, 1) := lw_dr lw_d_cX12_leave_0 24 rfl
theorem dX12_leave_41 : decode cX12_leave 41 = .ok (.invokevirtual 468, 3) := lw_dr lw_d_cX12_leave_0 25 rfl
theorem dX12_leave_44 : decode cX12_leave 44 = .ok (.lcmp, 1) := lw_dr lw_d_cX12_leave_0 26 rfl
theorem dX12_leave_45 : decode cX12_leave 45 = .ok (.ifCond .le 5, 3) := lw_dr lw_d_cX12_leave_0 27 rfl
theorem dX12_leave_50 : decode cX12_leave 50 = .ok (.iinc 3 1, 3) := lw_dr lw_d_cX12_leave_0 28 rfl
theorem dX12_leave_53 : decode cX12_leave 53 = .ok (.goto (-27), 3) := lw_dr lw_d_cX12_leave_0 29 rfl
theorem dX12_leave_48 : decode cX12_leave 48 = .ok (.iload_n 3, 1) := lw_dr lw_d_cX12_leave_0 30 rfl
theorem dX12_leave_49 : decode cX12_leave 49 = .ok (.istore_n 2, 1) := lw_dr lw_d_cX12_leave_0 31 rfl
theorem dX12_leave_56 : decode cX12_leave 56 = .ok (.iload_n 1, 1) := lw_dr lw_d_cX12_leave_0 32 rfl
theorem dX12_leave_57 : decode cX12_leave 57 = .ok (.ifCond .ne 8, 3) := lw_dr lw_d_cX12_leave_0 33 rfl
theorem dX12_leave_65 : decode cX12_leave 65 = .ok (.aload_n 0, 1) := lw_dr lw_d_cX12_leave_0 34 rfl
theorem dX12_leave_66 : decode cX12_leave 66 = .ok (.iload_n 2, 1) := lw_dr lw_d_cX12_leave_0 35 rfl
theorem dX12_leave_67 : decode cX12_leave 67 = .ok (.invokevirtual 468, 3) := lw_dr lw_d_cX12_leave_0 36 rfl
theorem dX12_leave_70 : decode cX12_leave 70 = .ok (.lreturn, 1) := lw_dr lw_d_cX12_leave_0 37 rfl
theorem dX12_leave_60 : decode cX12_leave 60 = .ok (.iload_n 2, 1) := lw_dr lw_d_cX12_leave_0 38 rfl
theorem dX12_leave_61 : decode cX12_leave 61 = .ok (.i2l, 1) := lw_dr lw_d_cX12_leave_0 39 rfl
theorem lw_d_cX12_leave_62 : lw_dl cX12_leave [(62, .goto 8, 3)] = true := by decide +kernel
theorem dX12_leave_62 : decode cX12_leave 62 = .ok (.goto 8, 3) := lw_dr lw_d_cX12_leave_62 0 rfl
theorem lw_d_cX12_leastWithout_0 : lw_dl cX12_leastWithout [(0, .ldc2_w 384, 3), (3, .lstore_n 2, 1), (4, .iconst 0, 1), (5, .istore 4, 2), (7, .iload 4, 2), (9, .aload_n 0, 1), (10, .getfield 246, 3), (13, .if_icmp .ge 71, 3), (84, .lload_n 2, 1), (85, .lreturn, 1), (16, .iload 4, 2), (18, .iconst 1, 1), (19, .iadd, 1), (20, .istore 5, 2), (22, .iload 5, 2), (24, .aload_n 0, 1), (25, .getfield 246, 3), (28, .if_icmp .ge 50, 3), (78, .iinc 4 1, 3), (81, .goto (-74), 3), (31, .iload 4, 2), (33, .iload_n 1, 1), (34, .if_icmp .eq 38, 3), (72, .iinc 5 1, 3), (75, .goto (-53), 3), (37, .iload 5, 2), (39, .iload_n 1, 1), (40, .if_icmp .ne 6, 3), (46, .aload_n 0, 1), (47, .iload 4, 2), (49, .iload 5, 2), (51, .invokevirtual 465, 3), (54, .lstore 6, 2), (56, .lload_n 2, 1), (57, .lconst 0, 1), (58, .lcmp, 1), (59, .ifCond .lt 10, 3), (69, .lload 6, 2), (71, .lstore_n 2, 1), (43, .goto 29, 3)] = true := by decide +kernel
theorem dX12_leastWithout_0 : decode cX12_leastWithout 0 = .ok (.ldc2_w 384, 3) := lw_dr lw_d_cX12_leastWithout_0 0 rfl
theorem dX12_leastWithout_3 : decode cX12_leastWithout 3 = .ok (.lstore_n 2, 1) := lw_dr lw_d_cX12_leastWithout_0 1 rfl
theorem dX12_leastWithout_4 : decode cX12_leastWithout 4 = .ok (.iconst 0, 1) := lw_dr lw_d_cX12_leastWithout_0 2 rfl
theorem dX12_leastWithout_5 : decode cX12_leastWithout 5 = .ok (.istore 4, 2) := lw_dr lw_d_cX12_leastWithout_0 3 rfl
theorem dX12_leastWithout_7 : decode cX12_leastWithout 7 = .ok (.iload 4, 2) := lw_dr lw_d_cX12_leastWithout_0 4 rfl
theorem dX12_leastWithout_9 : decode cX12_leastWithout 9 = .ok (.aload_n 0, 1) := lw_dr lw_d_cX12_leastWithout_0 5 rfl
theorem dX12_leastWithout_10 : decode cX12_leastWithout 10 = .ok (.getfield 246, 3) := lw_dr lw_d_cX12_leastWithout_0 6 rfl
theorem dX12_leastWithout_13 : decode cX12_leastWithout 13 = .ok (.if_icmp .ge 71, 3) := lw_dr lw_d_cX12_leastWithout_0 7 rfl
theorem dX12_leastWithout_84 : decode cX12_leastWithout 84 = .ok (.lload_n 2, 1) := lw_dr lw_d_cX12_leastWithout_0 8 rfl
theorem dX12_leastWithout_85 : decode cX12_leastWithout 85 = .ok (.lreturn, 1) := lw_dr lw_d_cX12_leastWithout_0 9 rfl
theorem dX12_leastWithout_16 : decode cX12_leastWithout 16 = .ok (.iload 4, 2) := lw_dr lw_d_cX12_leastWithout_0 10 rfl
theorem dX12_leastWithout_18 : decode cX12_leastWithout 18 = .ok (.iconst 1, 1) := lw_dr lw_d_cX12_leastWithout_0 11 rfl
theorem dX12_leastWithout_19 : decode cX12_leastWithout 19 = .ok (.iadd, 1) := lw_dr lw_d_cX12_leastWithout_0 12 rfl
theorem dX12_leastWithout_20 : decode cX12_leastWithout 20 = .ok (.istore 5, 2) := lw_dr lw_d_cX12_leastWithout_0 13 rfl
theorem dX12_leastWithout_22 : decode cX12_leastWithout 22 = .ok (.iload 5, 2) := lw_dr lw_d_cX12_leastWithout_0 14 rfl
theorem dX12_leastWithout_24 : decode cX12_leastWithout 24 = .ok (.aload_n 0, 1) := lw_dr lw_d_cX12_leastWithout_0 15 rfl
theorem dX12_leastWithout_25 : decode cX12_leastWithout 25 = .ok (.getfield 246, 3) := lw_dr lw_d_cX12_leastWithout_0 16 rfl
theorem dX12_leastWithout_28 : decode cX12_leastWithout 28 = .ok (.if_icmp .ge 50, 3) := lw_dr lw_d_cX12_leastWithout_0 17 rfl
theorem dX12_leastWithout_78 : decode cX12_leastWithout 78 = .ok (.iinc 4 1, 3) := lw_dr lw_d_cX12_leastWithout_0 18 rfl
theorem dX12_leastWithout_81 : decode cX12_leastWithout 81 = .ok (.goto (-74), 3) := lw_dr lw_d_cX12_leastWithout_0 19 rfl
theorem dX12_leastWithout_31 : decode cX12_leastWithout 31 = .ok (.iload 4, 2) := lw_dr lw_d_cX12_leastWithout_0 20 rfl
theorem dX12_leastWithout_33 : decode cX12_leastWithout 33 = .ok (.iload_n 1, 1) := lw_dr lw_d_cX12_leastWithout_0 21 rfl
theorem dX12_leastWithout_34 : decode cX12_leastWithout 34 = .ok (.if_icmp .eq 38, 3) := lw_dr lw_d_cX12_leastWithout_0 22 rfl
theorem dX12_leastWithout_72 : decode cX12_leastWithout 72 = .ok (.iinc 5 1, 3) := lw_dr lw_d_cX12_leastWithout_0 23 rfl
theorem dX12_leastWithout_75 : decode cX12_leastWithout 75 = .ok (.goto (-53), 3) := lw_dr lw_d_cX12_leastWithout_0 24 rfl
theorem dX12_leastWithout_37 : decode cX12_leastWithout 37 = .ok (.iload 5, 2) := lw_dr lw_d_cX12_leastWithout_0 25 rfl
theorem dX12_leastWithout_39 : decode cX12_leastWithout 39 = .ok (.iload_n 1, 1) := lw_dr lw_d_cX12_leastWithout_0 26 rfl
theorem dX12_leastWithout_40 : decode cX12_leastWithout 40 = .ok (.if_icmp .ne 6, 3) := lw_dr lw_d_cX12_leastWithout_0 27 rfl
theorem dX12_leastWithout_46 : decode cX12_leastWithout 46 = .ok (.aload_n 0, 1) := lw_dr lw_d_cX12_leastWithout_0 28 rfl
theorem dX12_leastWithout_47 : decode cX12_leastWithout 47 = .ok (.iload 4, 2) := lw_dr lw_d_cX12_leastWithout_0 29 rfl
theorem dX12_leastWithout_49 : decode cX12_leastWithout 49 = .ok (.iload 5, 2) := lw_dr lw_d_cX12_leastWithout_0 30 rfl
theorem dX12_leastWithout_51 : decode cX12_leastWithout 51 = .ok (.invokevirtual 465, 3) := lw_dr lw_d_cX12_leastWithout_0 31 rfl
theorem dX12_leastWithout_54 : decode cX12_leastWithout 54 = .ok (.lstore 6, 2) := lw_dr lw_d_cX12_leastWithout_0 32 rfl
theorem dX12_leastWithout_56 : decode cX12_leastWithout 56 = .ok (.lload_n 2, 1) := lw_dr lw_d_cX12_leastWithout_0 33 rfl
theorem dX12_leastWithout_57 : decode cX12_leastWithout 57 = .ok (.lconst 0, 1) := lw_dr lw_d_cX12_leastWithout_0 34 rfl
theorem dX12_leastWithout_58 : decode cX12_leastWithout 58 = .ok (.lcmp, 1) := lw_dr lw_d_cX12_leastWithout_0 35 rfl
theorem dX12_leastWithout_59 : decode cX12_leastWithout 59 = .ok (.ifCond .lt 10, 3) := lw_dr lw_d_cX12_leastWithout_0 36 rfl
theorem dX12_leastWithout_69 : decode cX12_leastWithout 69 = .ok (.lload 6, 2) := lw_dr lw_d_cX12_leastWithout_0 37 rfl
theorem dX12_leastWithout_71 : decode cX12_leastWithout 71 = .ok (.lstore_n 2, 1) := lw_dr lw_d_cX12_leastWithout_0 38 rfl
theorem dX12_leastWithout_43 : decode cX12_leastWithout 43 = .ok (.goto 29, 3) := lw_dr lw_d_cX12_leastWithout_0 39 rfl
theorem lw_d_cX12_leastWithout_62 : lw_dl cX12_leastWithout [(62, .lload 6, 2), (64, .lload_n 2, 1), (65, .lcmp, 1), (66, .ifCond .ge 6, 3)] = true := by decide +kernel
theorem dX12_leastWithout_62 : decode cX12_leastWithout 62 = .ok (.lload 6, 2) := lw_dr lw_d_cX12_leastWithout_62 0 rfl
theorem dX12_leastWithout_64 : decode cX12_leastWithout 64 = .ok (.lload_n 2, 1) := lw_dr lw_d_cX12_leastWithout_62 1 rfl
theorem dX12_leastWithout_65 : decode cX12_leastWithout 65 = .ok (.lcmp, 1) := lw_dr lw_d_cX12_leastWithout_62 2 rfl
theorem dX12_leastWithout_66 : decode cX12_leastWithout 66 = .ok (.ifCond .ge 6, 3) := lw_dr lw_d_cX12_leastWithout_62 3 rfl
theorem lw_d_cX12_behind_0 : lw_dl cX12_behind [(0, .aload_n 0, 1), (1, .iload_n 1, 1), (2, .invokevirtual 471, 3), (5, .ifCond .ne 5, 3), (10, .aload_n 0, 1), (11, .iload_n 1, 1), (12, .invokevirtual 474, 3), (15, .istore_n 2, 1), (16, .aload_n 0, 1), (17, .iload_n 2, 1), (18, .invokevirtual 409, 3), (21, .lstore_n 3, 1), (22, .iconst 0, 1), (23, .istore 5, 2), (25, .iconst 0, 1), (26, .istore 6, 2), (28, .iload 6, 2), (30, .aload_n 0, 1), (31, .invokevirtual 406, 3), (34, .if_icmp .ge 40, 3), (74, .iload 5, 2), (76, .ireturn, 1), (37, .aload_n 0, 1), (38, .iload 6, 2), (40, .invokevirtual 409, 3), (43, .lstore 7, 2), (45, .lload 7, 2), (47, .lload_n 3, 1), (48, .lcmp, 1), (49, .ifCond .lt 16, 3), (65, .iinc 5 1, 3), (68, .iinc 6 1, 3), (71, .goto (-43), 3), (52, .lload 7, 2), (54, .lload_n 3, 1), (55, .lcmp, 1), (56, .ifCond .ne 12, 3), (59, .iload 6, 2), (61, .iload_n 2, 1), (62, .if_icmp .ge 6, 3)] = true := by decide +kernel
theorem dX12_behind_0 : decode cX12_behind 0 = .ok (.aload_n 0, 1) := lw_dr lw_d_cX12_behind_0 0 rfl
theorem dX12_behind_1 : decode cX12_behind 1 = .ok (.iload_n 1, 1) := lw_dr lw_d_cX12_behind_0 1 rfl
theorem dX12_behind_2 : decode cX12_behind 2 = .ok (.invokevirtual 471, 3) := lw_dr lw_d_cX12_behind_0 2 rfl
theorem dX12_behind_5 : decode cX12_behind 5 = .ok (.ifCond .ne 5, 3) := lw_dr lw_d_cX12_behind_0 3 rfl
theorem dX12_behind_10 : decode cX12_behind 10 = .ok (.aload_n 0, 1) := lw_dr lw_d_cX12_behind_0 4 rfl
theorem dX12_behind_11 : decode cX12_behind 11 = .ok (.iload_n 1, 1) := lw_dr lw_d_cX12_behind_0 5 rfl
theorem dX12_behind_12 : decode cX12_behind 12 = .ok (.invokevirtual 474, 3) := lw_dr lw_d_cX12_behind_0 6 rfl
theorem dX12_behind_15 : decode cX12_behind 15 = .ok (.istore_n 2, 1) := lw_dr lw_d_cX12_behind_0 7 rfl
theorem dX12_behind_16 : decode cX12_behind 16 = .ok (.aload_n 0, 1) := lw_dr lw_d_cX12_behind_0 8 rfl
theorem dX12_behind_17 : decode cX12_behind 17 = .ok (.iload_n 2, 1) := lw_dr lw_d_cX12_behind_0 9 rfl
theorem dX12_behind_18 : decode cX12_behind 18 = .ok (.invokevirtual 409, 3) := lw_dr lw_d_cX12_behind_0 10 rfl
theorem dX12_behind_21 : decode cX12_behind 21 = .ok (.lstore_n 3, 1) := lw_dr lw_d_cX12_behind_0 11 rfl
theorem dX12_behind_22 : decode cX12_behind 22 = .ok (.iconst 0, 1) := lw_dr lw_d_cX12_behind_0 12 rfl
theorem dX12_behind_23 : decode cX12_behind 23 = .ok (.istore 5, 2) := lw_dr lw_d_cX12_behind_0 13 rfl
theorem dX12_behind_25 : decode cX12_behind 25 = .ok (.iconst 0, 1) := lw_dr lw_d_cX12_behind_0 14 rfl
theorem dX12_behind_26 : decode cX12_behind 26 = .ok (.istore 6, 2) := lw_dr lw_d_cX12_behind_0 15 rfl
theorem dX12_behind_28 : decode cX12_behind 28 = .ok (.iload 6, 2) := lw_dr lw_d_cX12_behind_0 16 rfl
theorem dX12_behind_30 : decode cX12_behind 30 = .ok (.aload_n 0, 1) := lw_dr lw_d_cX12_behind_0 17 rfl
theorem dX12_behind_31 : decode cX12_behind 31 = .ok (.invokevirtual 406, 3) := lw_dr lw_d_cX12_behind_0 18 rfl
theorem dX12_behind_34 : decode cX12_behind 34 = .ok (.if_icmp .ge 40, 3) := lw_dr lw_d_cX12_behind_0 19 rfl
theorem dX12_behind_74 : decode cX12_behind 74 = .ok (.iload 5, 2) := lw_dr lw_d_cX12_behind_0 20 rfl
theorem dX12_behind_76 : decode cX12_behind 76 = .ok (.ireturn, 1) := lw_dr lw_d_cX12_behind_0 21 rfl
theorem dX12_behind_37 : decode cX12_behind 37 = .ok (.aload_n 0, 1) := lw_dr lw_d_cX12_behind_0 22 rfl
theorem dX12_behind_38 : decode cX12_behind 38 = .ok (.iload 6, 2) := lw_dr lw_d_cX12_behind_0 23 rfl
theorem dX12_behind_40 : decode cX12_behind 40 = .ok (.invokevirtual 409, 3) := lw_dr lw_d_cX12_behind_0 24 rfl
theorem dX12_behind_43 : decode cX12_behind 43 = .ok (.lstore 7, 2) := lw_dr lw_d_cX12_behind_0 25 rfl
theorem dX12_behind_45 : decode cX12_behind 45 = .ok (.lload 7, 2) := lw_dr lw_d_cX12_behind_0 26 rfl
theorem dX12_behind_47 : decode cX12_behind 47 = .ok (.lload_n 3, 1) := lw_dr lw_d_cX12_behind_0 27 rfl
theorem dX12_behind_48 : decode cX12_behind 48 = .ok (.lcmp, 1) := lw_dr lw_d_cX12_behind_0 28 rfl
theorem dX12_behind_49 : decode cX12_behind 49 = .ok (.ifCond .lt 16, 3) := lw_dr lw_d_cX12_behind_0 29 rfl
theorem dX12_behind_65 : decode cX12_behind 65 = .ok (.iinc 5 1, 3) := lw_dr lw_d_cX12_behind_0 30 rfl
theorem dX12_behind_68 : decode cX12_behind 68 = .ok (.iinc 6 1, 3) := lw_dr lw_d_cX12_behind_0 31 rfl
theorem dX12_behind_71 : decode cX12_behind 71 = .ok (.goto (-43), 3) := lw_dr lw_d_cX12_behind_0 32 rfl
theorem dX12_behind_52 : decode cX12_behind 52 = .ok (.lload 7, 2) := lw_dr lw_d_cX12_behind_0 33 rfl
theorem dX12_behind_54 : decode cX12_behind 54 = .ok (.lload_n 3, 1) := lw_dr lw_d_cX12_behind_0 34 rfl
theorem dX12_behind_55 : decode cX12_behind 55 = .ok (.lcmp, 1) := lw_dr lw_d_cX12_behind_0 35 rfl
theorem dX12_behind_56 : decode cX12_behind 56 = .ok (.ifCond .ne 12, 3) := lw_dr lw_d_cX12_behind_0 36 rfl
theorem dX12_behind_59 : decode cX12_behind 59 = .ok (.iload 6, 2) := lw_dr lw_d_cX12_behind_0 37 rfl
theorem dX12_behind_61 : decode cX12_behind 61 = .ok (.iload_n 2, 1) := lw_dr lw_d_cX12_behind_0 38 rfl
theorem dX12_behind_62 : decode cX12_behind 62 = .ok (.if_icmp .ge 6, 3) := lw_dr lw_d_cX12_behind_0 39 rfl
theorem lw_d_cX12_behind_8 : lw_dl cX12_behind [(8, .iconst (-1), 1), (9, .ireturn, 1)] = true := by decide +kernel
theorem dX12_behind_8 : decode cX12_behind 8 = .ok (.iconst (-1), 1) := lw_dr lw_d_cX12_behind_8 0 rfl
theorem dX12_behind_9 : decode cX12_behind 9 = .ok (.ireturn, 1) := lw_dr lw_d_cX12_behind_8 1 rfl
theorem lw_d_cX12_isWord_0 : lw_dl cX12_isWord [(0, .iload_n 1, 1), (1, .i2l, 1), (2, .lconst 0, 1), (3, .aload_n 0, 1), (4, .getfield 246, 3), (7, .iconst 1, 1), (8, .isub, 1), (9, .i2l, 1), (10, .invokestatic 191, 3), (13, .ireturn, 1)] = true := by decide +kernel
theorem dX12_isWord_0 : decode cX12_isWord 0 = .ok (.iload_n 1, 1) := lw_dr lw_d_cX12_isWord_0 0 rfl
theorem dX12_isWord_1 : decode cX12_isWord 1 = .ok (.i2l, 1) := lw_dr lw_d_cX12_isWord_0 1 rfl
theorem dX12_isWord_2 : decode cX12_isWord 2 = .ok (.lconst 0, 1) := lw_dr lw_d_cX12_isWord_0 2 rfl
theorem dX12_isWord_3 : decode cX12_isWord 3 = .ok (.aload_n 0, 1) := lw_dr lw_d_cX12_isWord_0 3 rfl
theorem dX12_isWord_4 : decode cX12_isWord 4 = .ok (.getfield 246, 3) := lw_dr lw_d_cX12_isWord_0 4 rfl
theorem dX12_isWord_7 : decode cX12_isWord 7 = .ok (.iconst 1, 1) := lw_dr lw_d_cX12_isWord_0 5 rfl
theorem dX12_isWord_8 : decode cX12_isWord 8 = .ok (.isub, 1) := lw_dr lw_d_cX12_isWord_0 6 rfl
theorem dX12_isWord_9 : decode cX12_isWord 9 = .ok (.i2l, 1) := lw_dr lw_d_cX12_isWord_0 7 rfl
theorem dX12_isWord_10 : decode cX12_isWord 10 = .ok (.invokestatic 191, 3) := lw_dr lw_d_cX12_isWord_0 8 rfl
theorem dX12_isWord_13 : decode cX12_isWord 13 = .ok (.ireturn, 1) := lw_dr lw_d_cX12_isWord_0 9 rfl
theorem lw_d_cX12_numberOf_0 : lw_dl cX12_numberOf [(0, .iconst 0, 1), (1, .istore_n 2, 1), (2, .iconst 0, 1), (3, .istore_n 3, 1), (4, .iload_n 3, 1), (5, .aload_n 0, 1), (6, .getfield 237, 3), (9, .if_icmp .ge 36, 3), (45, .iload_n 2, 1), (46, .ireturn, 1), (12, .iload_n 2, 1), (13, .aload_n 0, 1), (14, .getfield 234, 3), (17, .imul, 1), (18, .aload_n 0, 1), (19, .getfield 72, 3), (22, .iconst 5, 1), (23, .iload_n 1, 1), (24, .imul, 1), (25, .iload_n 3, 1), (26, .iadd, 1), (27, .iaload, 1), (28, .aload_n 0, 1), (29, .getfield 234, 3), (32, .iadd, 1), (33, .iconst 1, 1), (34, .isub, 1), (35, .iconst 2, 1), (36, .idiv, 1), (37, .iadd, 1), (38, .istore_n 2, 1), (39, .iinc 3 1, 3), (42, .goto (-38), 3)] = true := by decide +kernel
theorem dX12_numberOf_0 : decode cX12_numberOf 0 = .ok (.iconst 0, 1) := lw_dr lw_d_cX12_numberOf_0 0 rfl
theorem dX12_numberOf_1 : decode cX12_numberOf 1 = .ok (.istore_n 2, 1) := lw_dr lw_d_cX12_numberOf_0 1 rfl
theorem dX12_numberOf_2 : decode cX12_numberOf 2 = .ok (.iconst 0, 1) := lw_dr lw_d_cX12_numberOf_0 2 rfl
theorem dX12_numberOf_3 : decode cX12_numberOf 3 = .ok (.istore_n 3, 1) := lw_dr lw_d_cX12_numberOf_0 3 rfl
theorem dX12_numberOf_4 : decode cX12_numberOf 4 = .ok (.iload_n 3, 1) := lw_dr lw_d_cX12_numberOf_0 4 rfl
theorem dX12_numberOf_5 : decode cX12_numberOf 5 = .ok (.aload_n 0, 1) := lw_dr lw_d_cX12_numberOf_0 5 rfl
theorem dX12_numberOf_6 : decode cX12_numberOf 6 = .ok (.getfield 237, 3) := lw_dr lw_d_cX12_numberOf_0 6 rfl
theorem dX12_numberOf_9 : decode cX12_numberOf 9 = .ok (.if_icmp .ge 36, 3) := lw_dr lw_d_cX12_numberOf_0 7 rfl
theorem dX12_numberOf_45 : decode cX12_numberOf 45 = .ok (.iload_n 2, 1) := lw_dr lw_d_cX12_numberOf_0 8 rfl
theorem dX12_numberOf_46 : decode cX12_numberOf 46 = .ok (.ireturn, 1) := lw_dr lw_d_cX12_numberOf_0 9 rfl
theorem dX12_numberOf_12 : decode cX12_numberOf 12 = .ok (.iload_n 2, 1) := lw_dr lw_d_cX12_numberOf_0 10 rfl
theorem dX12_numberOf_13 : decode cX12_numberOf 13 = .ok (.aload_n 0, 1) := lw_dr lw_d_cX12_numberOf_0 11 rfl
theorem dX12_numberOf_14 : decode cX12_numberOf 14 = .ok (.getfield 234, 3) := lw_dr lw_d_cX12_numberOf_0 12 rfl
theorem dX12_numberOf_17 : decode cX12_numberOf 17 = .ok (.imul, 1) := lw_dr lw_d_cX12_numberOf_0 13 rfl
theorem dX12_numberOf_18 : decode cX12_numberOf 18 = .ok (.aload_n 0, 1) := lw_dr lw_d_cX12_numberOf_0 14 rfl
theorem dX12_numberOf_19 : decode cX12_numberOf 19 = .ok (.getfield 72, 3) := lw_dr lw_d_cX12_numberOf_0 15 rfl
theorem dX12_numberOf_22 : decode cX12_numberOf 22 = .ok (.iconst 5, 1) := lw_dr lw_d_cX12_numberOf_0 16 rfl
theorem dX12_numberOf_23 : decode cX12_numberOf 23 = .ok (.iload_n 1, 1) := lw_dr lw_d_cX12_numberOf_0 17 rfl
theorem dX12_numberOf_24 : decode cX12_numberOf 24 = .ok (.imul, 1) := lw_dr lw_d_cX12_numberOf_0 18 rfl
theorem dX12_numberOf_25 : decode cX12_numberOf 25 = .ok (.iload_n 3, 1) := lw_dr lw_d_cX12_numberOf_0 19 rfl
theorem dX12_numberOf_26 : decode cX12_numberOf 26 = .ok (.iadd, 1) := lw_dr lw_d_cX12_numberOf_0 20 rfl
theorem dX12_numberOf_27 : decode cX12_numberOf 27 = .ok (.iaload, 1) := lw_dr lw_d_cX12_numberOf_0 21 rfl
theorem dX12_numberOf_28 : decode cX12_numberOf 28 = .ok (.aload_n 0, 1) := lw_dr lw_d_cX12_numberOf_0 22 rfl
theorem dX12_numberOf_29 : decode cX12_numberOf 29 = .ok (.getfield 234, 3) := lw_dr lw_d_cX12_numberOf_0 23 rfl
theorem dX12_numberOf_32 : decode cX12_numberOf 32 = .ok (.iadd, 1) := lw_dr lw_d_cX12_numberOf_0 24 rfl
theorem dX12_numberOf_33 : decode cX12_numberOf 33 = .ok (.iconst 1, 1) := lw_dr lw_d_cX12_numberOf_0 25 rfl
theorem dX12_numberOf_34 : decode cX12_numberOf 34 = .ok (.isub, 1) := lw_dr lw_d_cX12_numberOf_0 26 rfl
theorem dX12_numberOf_35 : decode cX12_numberOf 35 = .ok (.iconst 2, 1) := lw_dr lw_d_cX12_numberOf_0 27 rfl
theorem dX12_numberOf_36 : decode cX12_numberOf 36 = .ok (.idiv, 1) := lw_dr lw_d_cX12_numberOf_0 28 rfl
theorem dX12_numberOf_37 : decode cX12_numberOf 37 = .ok (.iadd, 1) := lw_dr lw_d_cX12_numberOf_0 29 rfl
theorem dX12_numberOf_38 : decode cX12_numberOf 38 = .ok (.istore_n 2, 1) := lw_dr lw_d_cX12_numberOf_0 30 rfl
theorem dX12_numberOf_39 : decode cX12_numberOf 39 = .ok (.iinc 3 1, 3) := lw_dr lw_d_cX12_numberOf_0 31 rfl
theorem dX12_numberOf_42 : decode cX12_numberOf 42 = .ok (.goto (-38), 3) := lw_dr lw_d_cX12_numberOf_0 32 rfl
theorem lw_d_cX12_unlike_0 : lw_dl cX12_unlike [(0, .aload_n 0, 1), (1, .iload_n 1, 1), (2, .invokevirtual 471, 3), (5, .ifCond .eq 11, 3), (16, .iconst (-1), 1), (17, .ireturn, 1), (8, .aload_n 0, 1), (9, .iload_n 2, 1), (10, .invokevirtual 471, 3), (13, .ifCond .ne 5, 3), (18, .iconst 0, 1), (19, .istore_n 3, 1), (20, .iconst 0, 1), (21, .istore 4, 2), (23, .iload 4, 2), (25, .aload_n 0, 1)] = true := by decide +kernel
theorem dX12_unlike_0 : decode cX12_unlike 0 = .ok (.aload_n 0, 1) := lw_dr lw_d_cX12_unlike_0 0 rfl
theorem dX12_unlike_1 : decode cX12_unlike 1 = .ok (.iload_n 1, 1) := lw_dr lw_d_cX12_unlike_0 1 rfl
theorem dX12_unlike_2 : decode cX12_unlike 2 = .ok (.invokevirtual 471, 3) := lw_dr lw_d_cX12_unlike_0 2 rfl
theorem dX12_unlike_5 : decode cX12_unlike 5 = .ok (.ifCond .eq 11, 3) := lw_dr lw_d_cX12_unlike_0 3 rfl
theorem dX12_unlike_16 : decode cX12_unlike 16 = .ok (.iconst (-1), 1) := lw_dr lw_d_cX12_unlike_0 4 rfl
theorem dX12_unlike_17 : decode cX12_unlike 17 = .ok (.ireturn, 1) := lw_dr lw_d_cX12_unlike_0 5 rfl
theorem dX12_unlike_8 : decode cX12_unlike 8 = .ok (.aload_n 0, 1) := lw_dr lw_d_cX12_unlike_0 6 rfl
theorem dX12_unlike_9 : decode cX12_unlike 9 = .ok (.iload_n 2, 1) := lw_dr lw_d_cX12_unlike_0 7 rfl
theorem dX12_unlike_10 : decode cX12_unlike 10 = .ok (.invokevirtual 471, 3) := lw_dr lw_d_cX12_unlike_0 8 rfl
theorem dX12_unlike_13 : decode cX12_unlike 13 = .ok (.ifCond .ne 5, 3) := lw_dr lw_d_cX12_unlike_0 9 rfl
theorem dX12_unlike_18 : decode cX12_unlike 18 = .ok (.iconst 0, 1) := lw_dr lw_d_cX12_unlike_0 10 rfl
theorem dX12_unlike_19 : decode cX12_unlike 19 = .ok (.istore_n 3, 1) := lw_dr lw_d_cX12_unlike_0 11 rfl
theorem dX12_unlike_20 : decode cX12_unlike 20 = .ok (.iconst 0, 1) := lw_dr lw_d_cX12_unlike_0 12 rfl
theorem dX12_unlike_21 : decode cX12_unlike 21 = .ok (.istore 4, 2) := lw_dr lw_d_cX12_unlike_0 13 rfl
theorem dX12_unlike_23 : decode cX12_unlike 23 = .ok (.iload 4, 2) := lw_dr lw_d_cX12_unlike_0 14 rfl
theorem dX12_unlike_25 : decode cX12_unlike 25 = .ok (.aload_n 0, 1) := lw_dr lw_d_cX12_unlike_0 15 rfl
theorem lw_d_cX12_unlike_26 : lw_dl cX12_unlike [(26, .getfield 237, 3), (29, .if_icmp .ge 37, 3), (66, .iload_n 3, 1), (67, .ireturn, 1), (32, .aload_n 0, 1), (33, .getfield 72, 3), (36, .iconst 5, 1), (37, .iload_n 1, 1), (38, .imul, 1), (39, .iload 4, 2), (41, .iadd, 1), (42, .iaload, 1), (43, .aload_n 0, 1), (44, .getfield 72, 3), (47, .iconst 5, 1), (48, .iload_n 2, 1), (49, .imul, 1), (50, .iload 4, 2), (52, .iadd, 1), (53, .iaload, 1), (54, .if_icmp .eq 6, 3), (60, .iinc 4 1, 3), (63, .goto (-40), 3), (57, .iinc 3 1, 3)] = true := by decide +kernel
theorem dX12_unlike_26 : decode cX12_unlike 26 = .ok (.getfield 237, 3) := lw_dr lw_d_cX12_unlike_26 0 rfl
theorem dX12_unlike_29 : decode cX12_unlike 29 = .ok (.if_icmp .ge 37, 3) := lw_dr lw_d_cX12_unlike_26 1 rfl
theorem dX12_unlike_66 : decode cX12_unlike 66 = .ok (.iload_n 3, 1) := lw_dr lw_d_cX12_unlike_26 2 rfl
theorem dX12_unlike_67 : decode cX12_unlike 67 = .ok (.ireturn, 1) := lw_dr lw_d_cX12_unlike_26 3 rfl
theorem dX12_unlike_32 : decode cX12_unlike 32 = .ok (.aload_n 0, 1) := lw_dr lw_d_cX12_unlike_26 4 rfl
theorem dX12_unlike_33 : decode cX12_unlike 33 = .ok (.getfield 72, 3) := lw_dr lw_d_cX12_unlike_26 5 rfl
theorem dX12_unlike_36 : decode cX12_unlike 36 = .ok (.iconst 5, 1) := lw_dr lw_d_cX12_unlike_26 6 rfl
theorem dX12_unlike_37 : decode cX12_unlike 37 = .ok (.iload_n 1, 1) := lw_dr lw_d_cX12_unlike_26 7 rfl
theorem dX12_unlike_38 : decode cX12_unlike 38 = .ok (.imul, 1) := lw_dr lw_d_cX12_unlike_26 8 rfl
theorem dX12_unlike_39 : decode cX12_unlike 39 = .ok (.iload 4, 2) := lw_dr lw_d_cX12_unlike_26 9 rfl
theorem dX12_unlike_41 : decode cX12_unlike 41 = .ok (.iadd, 1) := lw_dr lw_d_cX12_unlike_26 10 rfl
theorem dX12_unlike_42 : decode cX12_unlike 42 = .ok (.iaload, 1) := lw_dr lw_d_cX12_unlike_26 11 rfl
theorem dX12_unlike_43 : decode cX12_unlike 43 = .ok (.aload_n 0, 1) := lw_dr lw_d_cX12_unlike_26 12 rfl
theorem dX12_unlike_44 : decode cX12_unlike 44 = .ok (.getfield 72, 3) := lw_dr lw_d_cX12_unlike_26 13 rfl
theorem dX12_unlike_47 : decode cX12_unlike 47 = .ok (.iconst 5, 1) := lw_dr lw_d_cX12_unlike_26 14 rfl
theorem dX12_unlike_48 : decode cX12_unlike 48 = .ok (.iload_n 2, 1) := lw_dr lw_d_cX12_unlike_26 15 rfl
theorem dX12_unlike_49 : decode cX12_unlike 49 = .ok (.imul, 1) := lw_dr lw_d_cX12_unlike_26 16 rfl
theorem dX12_unlike_50 : decode cX12_unlike 50 = .ok (.iload 4, 2) := lw_dr lw_d_cX12_unlike_26 17 rfl
theorem dX12_unlike_52 : decode cX12_unlike 52 = .ok (.iadd, 1) := lw_dr lw_d_cX12_unlike_26 18 rfl
theorem dX12_unlike_53 : decode cX12_unlike 53 = .ok (.iaload, 1) := lw_dr lw_d_cX12_unlike_26 19 rfl
theorem dX12_unlike_54 : decode cX12_unlike 54 = .ok (.if_icmp .eq 6, 3) := lw_dr lw_d_cX12_unlike_26 20 rfl
theorem dX12_unlike_60 : decode cX12_unlike 60 = .ok (.iinc 4 1, 3) := lw_dr lw_d_cX12_unlike_26 21 rfl
theorem dX12_unlike_63 : decode cX12_unlike 63 = .ok (.goto (-40), 3) := lw_dr lw_d_cX12_unlike_26 22 rfl
theorem dX12_unlike_57 : decode cX12_unlike 57 = .ok (.iinc 3 1, 3) := lw_dr lw_d_cX12_unlike_26 23 rfl
theorem lw_d_cX12_decode_0 : lw_dl cX12_decode [(0, .iconst (-1), 1), (1, .istore_n 1, 1), (2, .lconst 0, 1), (3, .lstore_n 2, 1), (4, .iconst 0, 1), (5, .istore 4, 2), (7, .iload 4, 2), (9, .aload_n 0, 1), (10, .getfield 246, 3), (13, .if_icmp .ge 74, 3), (87, .iload_n 1, 1), (88, .ireturn, 1), (16, .iconst 0, 1), (17, .istore 5, 2), (19, .iload 5, 2), (21, .aload_n 0, 1), (22, .getfield 237, 3), (25, .if_icmp .ge 28, 3), (53, .aload_n 0, 1), (54, .iconst 1, 1), (55, .invokevirtual 380, 3), (58, .lstore 5, 2), (60, .iload_n 1, 1), (61, .iconst (-1), 1), (62, .if_icmp .eq 13, 3), (75, .iload 4, 2), (77, .istore_n 1, 1), (78, .lload 5, 2), (80, .lstore_n 2, 1), (81, .iinc 4 1, 3), (84, .goto (-77), 3), (28, .aload_n 0, 1), (29, .getfield 103, 3), (32, .iload 5, 2), (34, .aload_n 0, 1), (35, .getfield 72, 3), (38, .iconst 5, 1), (39, .iload 4, 2), (41, .imul, 1), (42, .iload 5, 2)] = true := by decide +kernel
theorem dX12_decode_0 : decode cX12_decode 0 = .ok (.iconst (-1), 1) := lw_dr lw_d_cX12_decode_0 0 rfl
theorem dX12_decode_1 : decode cX12_decode 1 = .ok (.istore_n 1, 1) := lw_dr lw_d_cX12_decode_0 1 rfl
theorem dX12_decode_2 : decode cX12_decode 2 = .ok (.lconst 0, 1) := lw_dr lw_d_cX12_decode_0 2 rfl
theorem dX12_decode_3 : decode cX12_decode 3 = .ok (.lstore_n 2, 1) := lw_dr lw_d_cX12_decode_0 3 rfl
theorem dX12_decode_4 : decode cX12_decode 4 = .ok (.iconst 0, 1) := lw_dr lw_d_cX12_decode_0 4 rfl
theorem dX12_decode_5 : decode cX12_decode 5 = .ok (.istore 4, 2) := lw_dr lw_d_cX12_decode_0 5 rfl
theorem dX12_decode_7 : decode cX12_decode 7 = .ok (.iload 4, 2) := lw_dr lw_d_cX12_decode_0 6 rfl
theorem dX12_decode_9 : decode cX12_decode 9 = .ok (.aload_n 0, 1) := lw_dr lw_d_cX12_decode_0 7 rfl
theorem dX12_decode_10 : decode cX12_decode 10 = .ok (.getfield 246, 3) := lw_dr lw_d_cX12_decode_0 8 rfl
theorem dX12_decode_13 : decode cX12_decode 13 = .ok (.if_icmp .ge 74, 3) := lw_dr lw_d_cX12_decode_0 9 rfl
theorem dX12_decode_87 : decode cX12_decode 87 = .ok (.iload_n 1, 1) := lw_dr lw_d_cX12_decode_0 10 rfl
theorem dX12_decode_88 : decode cX12_decode 88 = .ok (.ireturn, 1) := lw_dr lw_d_cX12_decode_0 11 rfl
theorem dX12_decode_16 : decode cX12_decode 16 = .ok (.iconst 0, 1) := lw_dr lw_d_cX12_decode_0 12 rfl
theorem dX12_decode_17 : decode cX12_decode 17 = .ok (.istore 5, 2) := lw_dr lw_d_cX12_decode_0 13 rfl
theorem dX12_decode_19 : decode cX12_decode 19 = .ok (.iload 5, 2) := lw_dr lw_d_cX12_decode_0 14 rfl
theorem dX12_decode_21 : decode cX12_decode 21 = .ok (.aload_n 0, 1) := lw_dr lw_d_cX12_decode_0 15 rfl
theorem dX12_decode_22 : decode cX12_decode 22 = .ok (.getfield 237, 3) := lw_dr lw_d_cX12_decode_0 16 rfl
theorem dX12_decode_25 : decode cX12_decode 25 = .ok (.if_icmp .ge 28, 3) := lw_dr lw_d_cX12_decode_0 17 rfl
theorem dX12_decode_53 : decode cX12_decode 53 = .ok (.aload_n 0, 1) := lw_dr lw_d_cX12_decode_0 18 rfl
theorem dX12_decode_54 : decode cX12_decode 54 = .ok (.iconst 1, 1) := lw_dr lw_d_cX12_decode_0 19 rfl
theorem dX12_decode_55 : decode cX12_decode 55 = .ok (.invokevirtual 380, 3) := lw_dr lw_d_cX12_decode_0 20 rfl
theorem dX12_decode_58 : decode cX12_decode 58 = .ok (.lstore 5, 2) := lw_dr lw_d_cX12_decode_0 21 rfl
theorem dX12_decode_60 : decode cX12_decode 60 = .ok (.iload_n 1, 1) := lw_dr lw_d_cX12_decode_0 22 rfl
theorem dX12_decode_61 : decode cX12_decode 61 = .ok (.iconst (-1), 1) := lw_dr lw_d_cX12_decode_0 23 rfl
theorem dX12_decode_62 : decode cX12_decode 62 = .ok (.if_icmp .eq 13, 3) := lw_dr lw_d_cX12_decode_0 24 rfl
theorem dX12_decode_75 : decode cX12_decode 75 = .ok (.iload 4, 2) := lw_dr lw_d_cX12_decode_0 25 rfl
theorem dX12_decode_77 : decode cX12_decode 77 = .ok (.istore_n 1, 1) := lw_dr lw_d_cX12_decode_0 26 rfl
theorem dX12_decode_78 : decode cX12_decode 78 = .ok (.lload 5, 2) := lw_dr lw_d_cX12_decode_0 27 rfl
theorem dX12_decode_80 : decode cX12_decode 80 = .ok (.lstore_n 2, 1) := lw_dr lw_d_cX12_decode_0 28 rfl
theorem dX12_decode_81 : decode cX12_decode 81 = .ok (.iinc 4 1, 3) := lw_dr lw_d_cX12_decode_0 29 rfl
theorem dX12_decode_84 : decode cX12_decode 84 = .ok (.goto (-77), 3) := lw_dr lw_d_cX12_decode_0 30 rfl
theorem dX12_decode_28 : decode cX12_decode 28 = .ok (.aload_n 0, 1) := lw_dr lw_d_cX12_decode_0 31 rfl
theorem dX12_decode_29 : decode cX12_decode 29 = .ok (.getfield 103, 3) := lw_dr lw_d_cX12_decode_0 32 rfl
theorem dX12_decode_32 : decode cX12_decode 32 = .ok (.iload 5, 2) := lw_dr lw_d_cX12_decode_0 33 rfl
theorem dX12_decode_34 : decode cX12_decode 34 = .ok (.aload_n 0, 1) := lw_dr lw_d_cX12_decode_0 34 rfl
theorem dX12_decode_35 : decode cX12_decode 35 = .ok (.getfield 72, 3) := lw_dr lw_d_cX12_decode_0 35 rfl
theorem dX12_decode_38 : decode cX12_decode 38 = .ok (.iconst 5, 1) := lw_dr lw_d_cX12_decode_0 36 rfl
theorem dX12_decode_39 : decode cX12_decode 39 = .ok (.iload 4, 2) := lw_dr lw_d_cX12_decode_0 37 rfl
theorem dX12_decode_41 : decode cX12_decode 41 = .ok (.imul, 1) := lw_dr lw_d_cX12_decode_0 38 rfl
theorem dX12_decode_42 : decode cX12_decode 42 = .ok (.iload 5, 2) := lw_dr lw_d_cX12_decode_0 39 rfl
theorem lw_d_cX12_decode_44 : lw_dl cX12_decode [(44, .iadd, 1), (45, .iaload, 1), (46, .iastore, 1), (47, .iinc 5 1, 3), (50, .goto (-31), 3), (65, .lload 5, 2), (67, .lload_n 2, 1), (68, .lcmp, 1), (69, .ifCond .lt 6, 3), (72, .goto 9, 3)] = true := by decide +kernel
theorem dX12_decode_44 : decode cX12_decode 44 = .ok (.iadd, 1) := lw_dr lw_d_cX12_decode_44 0 rfl
theorem dX12_decode_45 : decode cX12_decode 45 = .ok (.iaload, 1) := lw_dr lw_d_cX12_decode_44 1 rfl
theorem dX12_decode_46 : decode cX12_decode 46 = .ok (.iastore, 1) := lw_dr lw_d_cX12_decode_44 2 rfl
theorem dX12_decode_47 : decode cX12_decode 47 = .ok (.iinc 5 1, 3) := lw_dr lw_d_cX12_decode_44 3 rfl
theorem dX12_decode_50 : decode cX12_decode 50 = .ok (.goto (-31), 3) := lw_dr lw_d_cX12_decode_44 4 rfl
theorem dX12_decode_65 : decode cX12_decode 65 = .ok (.lload 5, 2) := lw_dr lw_d_cX12_decode_44 5 rfl
theorem dX12_decode_67 : decode cX12_decode 67 = .ok (.lload_n 2, 1) := lw_dr lw_d_cX12_decode_44 6 rfl
theorem dX12_decode_68 : decode cX12_decode 68 = .ok (.lcmp, 1) := lw_dr lw_d_cX12_decode_44 7 rfl
theorem dX12_decode_69 : decode cX12_decode 69 = .ok (.ifCond .lt 6, 3) := lw_dr lw_d_cX12_decode_44 8 rfl
theorem dX12_decode_72 : decode cX12_decode 72 = .ok (.goto 9, 3) := lw_dr lw_d_cX12_decode_44 9 rfl
theorem lw_d_cX12_ahead_0 : lw_dl cX12_ahead [(0, .aload_n 0, 1), (1, .iconst 0, 1), (2, .putfield 252, 3), (5, .aload_n 0, 1), (6, .invokevirtual 377, 3), (9, .ifCond .ne 7, 3), (16, .aload_n 0, 1), (17, .invokevirtual 477, 3), (20, .lstore_n 1, 1), (21, .lload_n 1, 1), (22, .ldc2_w 365, 3), (25, .aload_n 0, 1), (26, .getfield 63, 3), (29, .i2l, 1), (30, .lmul, 1), (31, .lcmp, 1), (32, .ifCond .le 7, 3), (39, .aload_n 0, 1), (40, .iconst 1, 1), (41, .putfield 252, 3), (44, .lload_n 1, 1), (45, .lreturn, 1), (35, .ldc2_w 384, 3), (38, .lreturn, 1), (12, .ldc2_w 384, 3), (15, .lreturn, 1)] = true := by decide +kernel
theorem dX12_ahead_0 : decode cX12_ahead 0 = .ok (.aload_n 0, 1) := lw_dr lw_d_cX12_ahead_0 0 rfl
theorem dX12_ahead_1 : decode cX12_ahead 1 = .ok (.iconst 0, 1) := lw_dr lw_d_cX12_ahead_0 1 rfl
theorem dX12_ahead_2 : decode cX12_ahead 2 = .ok (.putfield 252, 3) := lw_dr lw_d_cX12_ahead_0 2 rfl
theorem dX12_ahead_5 : decode cX12_ahead 5 = .ok (.aload_n 0, 1) := lw_dr lw_d_cX12_ahead_0 3 rfl
theorem dX12_ahead_6 : decode cX12_ahead 6 = .ok (.invokevirtual 377, 3) := lw_dr lw_d_cX12_ahead_0 4 rfl
theorem dX12_ahead_9 : decode cX12_ahead 9 = .ok (.ifCond .ne 7, 3) := lw_dr lw_d_cX12_ahead_0 5 rfl
theorem dX12_ahead_16 : decode cX12_ahead 16 = .ok (.aload_n 0, 1) := lw_dr lw_d_cX12_ahead_0 6 rfl
theorem dX12_ahead_17 : decode cX12_ahead 17 = .ok (.invokevirtual 477, 3) := lw_dr lw_d_cX12_ahead_0 7 rfl
theorem dX12_ahead_20 : decode cX12_ahead 20 = .ok (.lstore_n 1, 1) := lw_dr lw_d_cX12_ahead_0 8 rfl
theorem dX12_ahead_21 : decode cX12_ahead 21 = .ok (.lload_n 1, 1) := lw_dr lw_d_cX12_ahead_0 9 rfl
theorem dX12_ahead_22 : decode cX12_ahead 22 = .ok (.ldc2_w 365, 3) := lw_dr lw_d_cX12_ahead_0 10 rfl
theorem dX12_ahead_25 : decode cX12_ahead 25 = .ok (.aload_n 0, 1) := lw_dr lw_d_cX12_ahead_0 11 rfl
theorem dX12_ahead_26 : decode cX12_ahead 26 = .ok (.getfield 63, 3) := lw_dr lw_d_cX12_ahead_0 12 rfl
theorem dX12_ahead_29 : decode cX12_ahead 29 = .ok (.i2l, 1) := lw_dr lw_d_cX12_ahead_0 13 rfl
theorem dX12_ahead_30 : decode cX12_ahead 30 = .ok (.lmul, 1) := lw_dr lw_d_cX12_ahead_0 14 rfl
theorem dX12_ahead_31 : decode cX12_ahead 31 = .ok (.lcmp, 1) := lw_dr lw_d_cX12_ahead_0 15 rfl
theorem dX12_ahead_32 : decode cX12_ahead 32 = .ok (.ifCond .le 7, 3) := lw_dr lw_d_cX12_ahead_0 16 rfl
theorem dX12_ahead_39 : decode cX12_ahead 39 = .ok (.aload_n 0, 1) := lw_dr lw_d_cX12_ahead_0 17 rfl
theorem dX12_ahead_40 : decode cX12_ahead 40 = .ok (.iconst 1, 1) := lw_dr lw_d_cX12_ahead_0 18 rfl
theorem dX12_ahead_41 : decode cX12_ahead 41 = .ok (.putfield 252, 3) := lw_dr lw_d_cX12_ahead_0 19 rfl
theorem dX12_ahead_44 : decode cX12_ahead 44 = .ok (.lload_n 1, 1) := lw_dr lw_d_cX12_ahead_0 20 rfl
theorem dX12_ahead_45 : decode cX12_ahead 45 = .ok (.lreturn, 1) := lw_dr lw_d_cX12_ahead_0 21 rfl
theorem dX12_ahead_35 : decode cX12_ahead 35 = .ok (.ldc2_w 384, 3) := lw_dr lw_d_cX12_ahead_0 22 rfl
theorem dX12_ahead_38 : decode cX12_ahead 38 = .ok (.lreturn, 1) := lw_dr lw_d_cX12_ahead_0 23 rfl
theorem dX12_ahead_12 : decode cX12_ahead 12 = .ok (.ldc2_w 384, 3) := lw_dr lw_d_cX12_ahead_0 24 rfl
theorem dX12_ahead_15 : decode cX12_ahead 15 = .ok (.lreturn, 1) := lw_dr lw_d_cX12_ahead_0 25 rfl
theorem lw_d_cX12_aheadOf_0 : lw_dl cX12_aheadOf [(0, .iconst 0, 1), (1, .istore_n 1, 1), (2, .iload_n 1, 1), (3, .aload_n 0, 1), (4, .getfield 237, 3), (7, .if_icmp .ge 21, 3), (28, .iconst 1, 1), (29, .istore_n 1, 1), (30, .iconst 0, 1), (31, .istore_n 2, 1), (32, .iload_n 2, 1), (33, .aload_n 0, 1), (34, .getfield 237, 3), (37, .if_icmp .ge 13, 3), (50, .ldc2_w 384, 3), (53, .lstore_n 2, 1), (54, .iconst 0, 1), (55, .istore 4, 2), (57, .iload 4, 2), (59, .iload_n 1, 1), (60, .if_icmp .ge 139, 3), (63, .iload 4, 2), (65, .istore 5, 2), (67, .aload_n 0, 1), (68, .getfield 237, 3), (71, .iconst 1, 1), (72, .isub, 1), (73, .istore 6, 2), (75, .iload 6, 2), (77, .ifCond .lt 43, 3), (120, .aload_n 0, 1), (121, .iconst 0, 1), (122, .invokevirtual 380, 3), (125, .lstore 6, 2), (127, .lload_n 2, 1), (128, .lconst 0, 1), (129, .lcmp, 1), (130, .ifCond .lt 13, 3), (143, .lload 6, 2), (145, .lstore_n 2, 1)] = true := by decide +kernel
theorem dX12_aheadOf_0 : decode cX12_aheadOf 0 = .ok (.iconst 0, 1) := lw_dr lw_d_cX12_aheadOf_0 0 rfl
theorem dX12_aheadOf_1 : decode cX12_aheadOf 1 = .ok (.istore_n 1, 1) := lw_dr lw_d_cX12_aheadOf_0 1 rfl
theorem dX12_aheadOf_2 : decode cX12_aheadOf 2 = .ok (.iload_n 1, 1) := lw_dr lw_d_cX12_aheadOf_0 2 rfl
theorem dX12_aheadOf_3 : decode cX12_aheadOf 3 = .ok (.aload_n 0, 1) := lw_dr lw_d_cX12_aheadOf_0 3 rfl
theorem dX12_aheadOf_4 : decode cX12_aheadOf 4 = .ok (.getfield 237, 3) := lw_dr lw_d_cX12_aheadOf_0 4 rfl
theorem dX12_aheadOf_7 : decode cX12_aheadOf 7 = .ok (.if_icmp .ge 21, 3) := lw_dr lw_d_cX12_aheadOf_0 5 rfl
theorem dX12_aheadOf_28 : decode cX12_aheadOf 28 = .ok (.iconst 1, 1) := lw_dr lw_d_cX12_aheadOf_0 6 rfl
theorem dX12_aheadOf_29 : decode cX12_aheadOf 29 = .ok (.istore_n 1, 1) := lw_dr lw_d_cX12_aheadOf_0 7 rfl
theorem dX12_aheadOf_30 : decode cX12_aheadOf 30 = .ok (.iconst 0, 1) := lw_dr lw_d_cX12_aheadOf_0 8 rfl
theorem dX12_aheadOf_31 : decode cX12_aheadOf 31 = .ok (.istore_n 2, 1) := lw_dr lw_d_cX12_aheadOf_0 9 rfl
theorem dX12_aheadOf_32 : decode cX12_aheadOf 32 = .ok (.iload_n 2, 1) := lw_dr lw_d_cX12_aheadOf_0 10 rfl
theorem dX12_aheadOf_33 : decode cX12_aheadOf 33 = .ok (.aload_n 0, 1) := lw_dr lw_d_cX12_aheadOf_0 11 rfl
theorem dX12_aheadOf_34 : decode cX12_aheadOf 34 = .ok (.getfield 237, 3) := lw_dr lw_d_cX12_aheadOf_0 12 rfl
theorem dX12_aheadOf_37 : decode cX12_aheadOf 37 = .ok (.if_icmp .ge 13, 3) := lw_dr lw_d_cX12_aheadOf_0 13 rfl
theorem dX12_aheadOf_50 : decode cX12_aheadOf 50 = .ok (.ldc2_w 384, 3) := lw_dr lw_d_cX12_aheadOf_0 14 rfl
theorem dX12_aheadOf_53 : decode cX12_aheadOf 53 = .ok (.lstore_n 2, 1) := lw_dr lw_d_cX12_aheadOf_0 15 rfl
theorem dX12_aheadOf_54 : decode cX12_aheadOf 54 = .ok (.iconst 0, 1) := lw_dr lw_d_cX12_aheadOf_0 16 rfl
theorem dX12_aheadOf_55 : decode cX12_aheadOf 55 = .ok (.istore 4, 2) := lw_dr lw_d_cX12_aheadOf_0 17 rfl
theorem dX12_aheadOf_57 : decode cX12_aheadOf 57 = .ok (.iload 4, 2) := lw_dr lw_d_cX12_aheadOf_0 18 rfl
theorem dX12_aheadOf_59 : decode cX12_aheadOf 59 = .ok (.iload_n 1, 1) := lw_dr lw_d_cX12_aheadOf_0 19 rfl
theorem dX12_aheadOf_60 : decode cX12_aheadOf 60 = .ok (.if_icmp .ge 139, 3) := lw_dr lw_d_cX12_aheadOf_0 20 rfl
theorem dX12_aheadOf_63 : decode cX12_aheadOf 63 = .ok (.iload 4, 2) := lw_dr lw_d_cX12_aheadOf_0 21 rfl
theorem dX12_aheadOf_65 : decode cX12_aheadOf 65 = .ok (.istore 5, 2) := lw_dr lw_d_cX12_aheadOf_0 22 rfl
theorem dX12_aheadOf_67 : decode cX12_aheadOf 67 = .ok (.aload_n 0, 1) := lw_dr lw_d_cX12_aheadOf_0 23 rfl
theorem dX12_aheadOf_68 : decode cX12_aheadOf 68 = .ok (.getfield 237, 3) := lw_dr lw_d_cX12_aheadOf_0 24 rfl
theorem dX12_aheadOf_71 : decode cX12_aheadOf 71 = .ok (.iconst 1, 1) := lw_dr lw_d_cX12_aheadOf_0 25 rfl
theorem dX12_aheadOf_72 : decode cX12_aheadOf 72 = .ok (.isub, 1) := lw_dr lw_d_cX12_aheadOf_0 26 rfl
theorem dX12_aheadOf_73 : decode cX12_aheadOf 73 = .ok (.istore 6, 2) := lw_dr lw_d_cX12_aheadOf_0 27 rfl
theorem dX12_aheadOf_75 : decode cX12_aheadOf 75 = .ok (.iload 6, 2) := lw_dr lw_d_cX12_aheadOf_0 28 rfl
theorem dX12_aheadOf_77 : decode cX12_aheadOf 77 = .ok (.ifCond .lt 43, 3) := lw_dr lw_d_cX12_aheadOf_0 29 rfl
theorem dX12_aheadOf_120 : decode cX12_aheadOf 120 = .ok (.aload_n 0, 1) := lw_dr lw_d_cX12_aheadOf_0 30 rfl
theorem dX12_aheadOf_121 : decode cX12_aheadOf 121 = .ok (.iconst 0, 1) := lw_dr lw_d_cX12_aheadOf_0 31 rfl
theorem dX12_aheadOf_122 : decode cX12_aheadOf 122 = .ok (.invokevirtual 380, 3) := lw_dr lw_d_cX12_aheadOf_0 32 rfl
theorem dX12_aheadOf_125 : decode cX12_aheadOf 125 = .ok (.lstore 6, 2) := lw_dr lw_d_cX12_aheadOf_0 33 rfl
theorem dX12_aheadOf_127 : decode cX12_aheadOf 127 = .ok (.lload_n 2, 1) := lw_dr lw_d_cX12_aheadOf_0 34 rfl
theorem dX12_aheadOf_128 : decode cX12_aheadOf 128 = .ok (.lconst 0, 1) := lw_dr lw_d_cX12_aheadOf_0 35 rfl
theorem dX12_aheadOf_129 : decode cX12_aheadOf 129 = .ok (.lcmp, 1) := lw_dr lw_d_cX12_aheadOf_0 36 rfl
theorem dX12_aheadOf_130 : decode cX12_aheadOf 130 = .ok (.ifCond .lt 13, 3) := lw_dr lw_d_cX12_aheadOf_0 37 rfl
theorem dX12_aheadOf_143 : decode cX12_aheadOf 143 = .ok (.lload 6, 2) := lw_dr lw_d_cX12_aheadOf_0 38 rfl
theorem dX12_aheadOf_145 : decode cX12_aheadOf 145 = .ok (.lstore_n 2, 1) := lw_dr lw_d_cX12_aheadOf_0 39 rfl
theorem lw_d_cX12_aheadOf_146 : lw_dl cX12_aheadOf [(146, .iconst 0, 1), (147, .istore 8, 2), (149, .iload 8, 2), (151, .aload_n 0, 1), (152, .getfield 237, 3), (155, .if_icmp .ge 38, 3), (193, .iinc 4 1, 3), (196, .goto (-139), 3), (199, .lload_n 2, 1), (200, .lreturn, 1), (133, .lload 6, 2), (135, .lload_n 2, 1), (136, .lcmp, 1), (137, .ifCond .lt 6, 3), (140, .goto 53, 3), (10, .aload_n 0, 1), (11, .getfield 139, 3), (14, .iload_n 1, 1), (15, .aload_n 0, 1), (16, .getfield 103, 3), (19, .iload_n 1, 1), (20, .iaload, 1), (21, .iastore, 1), (22, .iinc 1 1, 3), (25, .goto (-23), 3), (40, .iload_n 1, 1), (41, .iconst 3, 1), (42, .imul, 1), (43, .istore_n 1, 1), (44, .iinc 2 1, 3), (47, .goto (-15), 3), (158, .aload_n 0, 1), (159, .getfield 136, 3), (162, .iload 8, 2), (164, .aload_n 0, 1), (165, .getfield 103, 3), (168, .iload 8, 2), (170, .iaload, 1), (171, .aload_n 0, 1), (172, .getfield 139, 3)] = true := by decide +kernel
theorem dX12_aheadOf_146 : decode cX12_aheadOf 146 = .ok (.iconst 0, 1) := lw_dr lw_d_cX12_aheadOf_146 0 rfl
theorem dX12_aheadOf_147 : decode cX12_aheadOf 147 = .ok (.istore 8, 2) := lw_dr lw_d_cX12_aheadOf_146 1 rfl
theorem dX12_aheadOf_149 : decode cX12_aheadOf 149 = .ok (.iload 8, 2) := lw_dr lw_d_cX12_aheadOf_146 2 rfl
theorem dX12_aheadOf_151 : decode cX12_aheadOf 151 = .ok (.aload_n 0, 1) := lw_dr lw_d_cX12_aheadOf_146 3 rfl
theorem dX12_aheadOf_152 : decode cX12_aheadOf 152 = .ok (.getfield 237, 3) := lw_dr lw_d_cX12_aheadOf_146 4 rfl
theorem dX12_aheadOf_155 : decode cX12_aheadOf 155 = .ok (.if_icmp .ge 38, 3) := lw_dr lw_d_cX12_aheadOf_146 5 rfl
theorem dX12_aheadOf_193 : decode cX12_aheadOf 193 = .ok (.iinc 4 1, 3) := lw_dr lw_d_cX12_aheadOf_146 6 rfl
theorem dX12_aheadOf_196 : decode cX12_aheadOf 196 = .ok (.goto (-139), 3) := lw_dr lw_d_cX12_aheadOf_146 7 rfl
theorem dX12_aheadOf_199 : decode cX12_aheadOf 199 = .ok (.lload_n 2, 1) := lw_dr lw_d_cX12_aheadOf_146 8 rfl
theorem dX12_aheadOf_200 : decode cX12_aheadOf 200 = .ok (.lreturn, 1) := lw_dr lw_d_cX12_aheadOf_146 9 rfl
theorem dX12_aheadOf_133 : decode cX12_aheadOf 133 = .ok (.lload 6, 2) := lw_dr lw_d_cX12_aheadOf_146 10 rfl
theorem dX12_aheadOf_135 : decode cX12_aheadOf 135 = .ok (.lload_n 2, 1) := lw_dr lw_d_cX12_aheadOf_146 11 rfl
theorem dX12_aheadOf_136 : decode cX12_aheadOf 136 = .ok (.lcmp, 1) := lw_dr lw_d_cX12_aheadOf_146 12 rfl
theorem dX12_aheadOf_137 : decode cX12_aheadOf 137 = .ok (.ifCond .lt 6, 3) := lw_dr lw_d_cX12_aheadOf_146 13 rfl
theorem dX12_aheadOf_140 : decode cX12_aheadOf 140 = .ok (.goto 53, 3) := lw_dr lw_d_cX12_aheadOf_146 14 rfl
theorem dX12_aheadOf_10 : decode cX12_aheadOf 10 = .ok (.aload_n 0, 1) := lw_dr lw_d_cX12_aheadOf_146 15 rfl
theorem dX12_aheadOf_11 : decode cX12_aheadOf 11 = .ok (.getfield 139, 3) := lw_dr lw_d_cX12_aheadOf_146 16 rfl
theorem dX12_aheadOf_14 : decode cX12_aheadOf 14 = .ok (.iload_n 1, 1) := lw_dr lw_d_cX12_aheadOf_146 17 rfl
theorem dX12_aheadOf_15 : decode cX12_aheadOf 15 = .ok (.aload_n 0, 1) := lw_dr lw_d_cX12_aheadOf_146 18 rfl
theorem dX12_aheadOf_16 : decode cX12_aheadOf 16 = .ok (.getfield 103, 3) := lw_dr lw_d_cX12_aheadOf_146 19 rfl
theorem dX12_aheadOf_19 : decode cX12_aheadOf 19 = .ok (.iload_n 1, 1) := lw_dr lw_d_cX12_aheadOf_146 20 rfl
theorem dX12_aheadOf_20 : decode cX12_aheadOf 20 = .ok (.iaload, 1) := lw_dr lw_d_cX12_aheadOf_146 21 rfl
theorem dX12_aheadOf_21 : decode cX12_aheadOf 21 = .ok (.iastore, 1) := lw_dr lw_d_cX12_aheadOf_146 22 rfl
theorem dX12_aheadOf_22 : decode cX12_aheadOf 22 = .ok (.iinc 1 1, 3) := lw_dr lw_d_cX12_aheadOf_146 23 rfl
theorem dX12_aheadOf_25 : decode cX12_aheadOf 25 = .ok (.goto (-23), 3) := lw_dr lw_d_cX12_aheadOf_146 24 rfl
theorem dX12_aheadOf_40 : decode cX12_aheadOf 40 = .ok (.iload_n 1, 1) := lw_dr lw_d_cX12_aheadOf_146 25 rfl
theorem dX12_aheadOf_41 : decode cX12_aheadOf 41 = .ok (.iconst 3, 1) := lw_dr lw_d_cX12_aheadOf_146 26 rfl
theorem dX12_aheadOf_42 : decode cX12_aheadOf 42 = .ok (.imul, 1) := lw_dr lw_d_cX12_aheadOf_146 27 rfl
theorem dX12_aheadOf_43 : decode cX12_aheadOf 43 = .ok (.istore_n 1, 1) := lw_dr lw_d_cX12_aheadOf_146 28 rfl
theorem dX12_aheadOf_44 : decode cX12_aheadOf 44 = .ok (.iinc 2 1, 3) := lw_dr lw_d_cX12_aheadOf_146 29 rfl
theorem dX12_aheadOf_47 : decode cX12_aheadOf 47 = .ok (.goto (-15), 3) := lw_dr lw_d_cX12_aheadOf_146 30 rfl
theorem dX12_aheadOf_158 : decode cX12_aheadOf 158 = .ok (.aload_n 0, 1) := lw_dr lw_d_cX12_aheadOf_146 31 rfl
theorem dX12_aheadOf_159 : decode cX12_aheadOf 159 = .ok (.getfield 136, 3) := lw_dr lw_d_cX12_aheadOf_146 32 rfl
theorem dX12_aheadOf_162 : decode cX12_aheadOf 162 = .ok (.iload 8, 2) := lw_dr lw_d_cX12_aheadOf_146 33 rfl
theorem dX12_aheadOf_164 : decode cX12_aheadOf 164 = .ok (.aload_n 0, 1) := lw_dr lw_d_cX12_aheadOf_146 34 rfl
theorem dX12_aheadOf_165 : decode cX12_aheadOf 165 = .ok (.getfield 103, 3) := lw_dr lw_d_cX12_aheadOf_146 35 rfl
theorem dX12_aheadOf_168 : decode cX12_aheadOf 168 = .ok (.iload 8, 2) := lw_dr lw_d_cX12_aheadOf_146 36 rfl
theorem dX12_aheadOf_170 : decode cX12_aheadOf 170 = .ok (.iaload, 1) := lw_dr lw_d_cX12_aheadOf_146 37 rfl
theorem dX12_aheadOf_171 : decode cX12_aheadOf 171 = .ok (.aload_n 0, 1) := lw_dr lw_d_cX12_aheadOf_146 38 rfl
theorem dX12_aheadOf_172 : decode cX12_aheadOf 172 = .ok (.getfield 139, 3) := lw_dr lw_d_cX12_aheadOf_146 39 rfl
theorem lw_d_cX12_aheadOf_175 : lw_dl cX12_aheadOf [(175, .iload 8, 2), (177, .iaload, 1), (178, .isub, 1), (179, .iconst 2, 1), (180, .aload_n 0, 1), (181, .getfield 234, 3), (184, .imul, 1), (185, .idiv, 1), (186, .iastore, 1), (187, .iinc 8 1, 3), (190, .goto (-41), 3), (80, .aload_n 0, 1), (81, .getfield 103, 3), (84, .iload 6, 2), (86, .aload_n 0, 1), (87, .getfield 139, 3), (90, .iload 6, 2), (92, .iaload, 1), (93, .iconst 2, 1), (94, .aload_n 0, 1), (95, .getfield 234, 3), (98, .imul, 1), (99, .iload 5, 2), (101, .iconst 3, 1), (102, .irem, 1), (103, .iconst 1, 1), (104, .isub, 1), (105, .imul, 1), (106, .iadd, 1), (107, .iastore, 1), (108, .iload 5, 2), (110, .iconst 3, 1), (111, .idiv, 1), (112, .istore 5, 2), (114, .iinc 6 (-1), 3), (117, .goto (-42), 3)] = true := by decide +kernel
theorem dX12_aheadOf_175 : decode cX12_aheadOf 175 = .ok (.iload 8, 2) := lw_dr lw_d_cX12_aheadOf_175 0 rfl
theorem dX12_aheadOf_177 : decode cX12_aheadOf 177 = .ok (.iaload, 1) := lw_dr lw_d_cX12_aheadOf_175 1 rfl
theorem dX12_aheadOf_178 : decode cX12_aheadOf 178 = .ok (.isub, 1) := lw_dr lw_d_cX12_aheadOf_175 2 rfl
theorem dX12_aheadOf_179 : decode cX12_aheadOf 179 = .ok (.iconst 2, 1) := lw_dr lw_d_cX12_aheadOf_175 3 rfl
theorem dX12_aheadOf_180 : decode cX12_aheadOf 180 = .ok (.aload_n 0, 1) := lw_dr lw_d_cX12_aheadOf_175 4 rfl
theorem dX12_aheadOf_181 : decode cX12_aheadOf 181 = .ok (.getfield 234, 3) := lw_dr lw_d_cX12_aheadOf_175 5 rfl
theorem dX12_aheadOf_184 : decode cX12_aheadOf 184 = .ok (.imul, 1) := lw_dr lw_d_cX12_aheadOf_175 6 rfl
theorem dX12_aheadOf_185 : decode cX12_aheadOf 185 = .ok (.idiv, 1) := lw_dr lw_d_cX12_aheadOf_175 7 rfl
theorem dX12_aheadOf_186 : decode cX12_aheadOf 186 = .ok (.iastore, 1) := lw_dr lw_d_cX12_aheadOf_175 8 rfl
theorem dX12_aheadOf_187 : decode cX12_aheadOf 187 = .ok (.iinc 8 1, 3) := lw_dr lw_d_cX12_aheadOf_175 9 rfl
theorem dX12_aheadOf_190 : decode cX12_aheadOf 190 = .ok (.goto (-41), 3) := lw_dr lw_d_cX12_aheadOf_175 10 rfl
theorem dX12_aheadOf_80 : decode cX12_aheadOf 80 = .ok (.aload_n 0, 1) := lw_dr lw_d_cX12_aheadOf_175 11 rfl
theorem dX12_aheadOf_81 : decode cX12_aheadOf 81 = .ok (.getfield 103, 3) := lw_dr lw_d_cX12_aheadOf_175 12 rfl
theorem dX12_aheadOf_84 : decode cX12_aheadOf 84 = .ok (.iload 6, 2) := lw_dr lw_d_cX12_aheadOf_175 13 rfl
theorem dX12_aheadOf_86 : decode cX12_aheadOf 86 = .ok (.aload_n 0, 1) := lw_dr lw_d_cX12_aheadOf_175 14 rfl
theorem dX12_aheadOf_87 : decode cX12_aheadOf 87 = .ok (.getfield 139, 3) := lw_dr lw_d_cX12_aheadOf_175 15 rfl
theorem dX12_aheadOf_90 : decode cX12_aheadOf 90 = .ok (.iload 6, 2) := lw_dr lw_d_cX12_aheadOf_175 16 rfl
theorem dX12_aheadOf_92 : decode cX12_aheadOf 92 = .ok (.iaload, 1) := lw_dr lw_d_cX12_aheadOf_175 17 rfl
theorem dX12_aheadOf_93 : decode cX12_aheadOf 93 = .ok (.iconst 2, 1) := lw_dr lw_d_cX12_aheadOf_175 18 rfl
theorem dX12_aheadOf_94 : decode cX12_aheadOf 94 = .ok (.aload_n 0, 1) := lw_dr lw_d_cX12_aheadOf_175 19 rfl
theorem dX12_aheadOf_95 : decode cX12_aheadOf 95 = .ok (.getfield 234, 3) := lw_dr lw_d_cX12_aheadOf_175 20 rfl
theorem dX12_aheadOf_98 : decode cX12_aheadOf 98 = .ok (.imul, 1) := lw_dr lw_d_cX12_aheadOf_175 21 rfl
theorem dX12_aheadOf_99 : decode cX12_aheadOf 99 = .ok (.iload 5, 2) := lw_dr lw_d_cX12_aheadOf_175 22 rfl
theorem dX12_aheadOf_101 : decode cX12_aheadOf 101 = .ok (.iconst 3, 1) := lw_dr lw_d_cX12_aheadOf_175 23 rfl
theorem dX12_aheadOf_102 : decode cX12_aheadOf 102 = .ok (.irem, 1) := lw_dr lw_d_cX12_aheadOf_175 24 rfl
theorem dX12_aheadOf_103 : decode cX12_aheadOf 103 = .ok (.iconst 1, 1) := lw_dr lw_d_cX12_aheadOf_175 25 rfl
theorem dX12_aheadOf_104 : decode cX12_aheadOf 104 = .ok (.isub, 1) := lw_dr lw_d_cX12_aheadOf_175 26 rfl
theorem dX12_aheadOf_105 : decode cX12_aheadOf 105 = .ok (.imul, 1) := lw_dr lw_d_cX12_aheadOf_175 27 rfl
theorem dX12_aheadOf_106 : decode cX12_aheadOf 106 = .ok (.iadd, 1) := lw_dr lw_d_cX12_aheadOf_175 28 rfl
theorem dX12_aheadOf_107 : decode cX12_aheadOf 107 = .ok (.iastore, 1) := lw_dr lw_d_cX12_aheadOf_175 29 rfl
theorem dX12_aheadOf_108 : decode cX12_aheadOf 108 = .ok (.iload 5, 2) := lw_dr lw_d_cX12_aheadOf_175 30 rfl
theorem dX12_aheadOf_110 : decode cX12_aheadOf 110 = .ok (.iconst 3, 1) := lw_dr lw_d_cX12_aheadOf_175 31 rfl
theorem dX12_aheadOf_111 : decode cX12_aheadOf 111 = .ok (.idiv, 1) := lw_dr lw_d_cX12_aheadOf_175 32 rfl
theorem dX12_aheadOf_112 : decode cX12_aheadOf 112 = .ok (.istore 5, 2) := lw_dr lw_d_cX12_aheadOf_175 33 rfl
theorem dX12_aheadOf_114 : decode cX12_aheadOf 114 = .ok (.iinc 6 (-1), 3) := lw_dr lw_d_cX12_aheadOf_175 34 rfl
theorem dX12_aheadOf_117 : decode cX12_aheadOf 117 = .ok (.goto (-42), 3) := lw_dr lw_d_cX12_aheadOf_175 35 rfl
theorem lw_d_cX12_span_0 : lw_dl cX12_span [(0, .iconst 0, 1), (1, .istore_n 2, 1), (2, .iload_n 2, 1), (3, .iconst 5, 1), (4, .if_icmp .ge 21, 3), (7, .aload_n 0, 1), (8, .getfield 142, 3), (11, .iload_n 2, 1), (12, .aload_n 0, 1), (13, .getfield 136, 3), (16, .iload_n 2, 1), (17, .iaload, 1), (18, .iastore, 1), (19, .iinc 2 1, 3), (22, .goto (-20), 3), (25, .ldc2_w 384, 3), (28, .lstore_n 2, 1), (29, .iconst 0, 1), (30, .istore 4, 2), (32, .iload 4, 2), (34, .aload_n 0, 1), (35, .invokevirtual 406, 3), (38, .if_icmp .ge 51, 3), (89, .iconst 0, 1), (90, .istore 4, 2), (92, .iload 4, 2), (94, .iconst 5, 1), (95, .if_icmp .ge 23, 3), (98, .aload_n 0, 1), (99, .getfield 136, 3), (102, .iload 4, 2), (104, .aload_n 0, 1), (105, .getfield 142, 3), (108, .iload 4, 2), (110, .iaload, 1), (111, .iastore, 1), (112, .iinc 4 1, 3), (115, .goto (-23), 3), (118, .lload_n 2, 1), (119, .lreturn, 1)] = true := by decide +kernel
theorem dX12_span_0 : decode cX12_span 0 = .ok (.iconst 0, 1) := lw_dr lw_d_cX12_span_0 0 rfl
theorem dX12_span_1 : decode cX12_span 1 = .ok (.istore_n 2, 1) := lw_dr lw_d_cX12_span_0 1 rfl
theorem dX12_span_2 : decode cX12_span 2 = .ok (.iload_n 2, 1) := lw_dr lw_d_cX12_span_0 2 rfl
theorem dX12_span_3 : decode cX12_span 3 = .ok (.iconst 5, 1) := lw_dr lw_d_cX12_span_0 3 rfl
theorem dX12_span_4 : decode cX12_span 4 = .ok (.if_icmp .ge 21, 3) := lw_dr lw_d_cX12_span_0 4 rfl
theorem dX12_span_7 : decode cX12_span 7 = .ok (.aload_n 0, 1) := lw_dr lw_d_cX12_span_0 5 rfl
theorem dX12_span_8 : decode cX12_span 8 = .ok (.getfield 142, 3) := lw_dr lw_d_cX12_span_0 6 rfl
theorem dX12_span_11 : decode cX12_span 11 = .ok (.iload_n 2, 1) := lw_dr lw_d_cX12_span_0 7 rfl
theorem dX12_span_12 : decode cX12_span 12 = .ok (.aload_n 0, 1) := lw_dr lw_d_cX12_span_0 8 rfl
theorem dX12_span_13 : decode cX12_span 13 = .ok (.getfield 136, 3) := lw_dr lw_d_cX12_span_0 9 rfl
theorem dX12_span_16 : decode cX12_span 16 = .ok (.iload_n 2, 1) := lw_dr lw_d_cX12_span_0 10 rfl
theorem dX12_span_17 : decode cX12_span 17 = .ok (.iaload, 1) := lw_dr lw_d_cX12_span_0 11 rfl
theorem dX12_span_18 : decode cX12_span 18 = .ok (.iastore, 1) := lw_dr lw_d_cX12_span_0 12 rfl
theorem dX12_span_19 : decode cX12_span 19 = .ok (.iinc 2 1, 3) := lw_dr lw_d_cX12_span_0 13 rfl
theorem dX12_span_22 : decode cX12_span 22 = .ok (.goto (-20), 3) := lw_dr lw_d_cX12_span_0 14 rfl
theorem dX12_span_25 : decode cX12_span 25 = .ok (.ldc2_w 384, 3) := lw_dr lw_d_cX12_span_0 15 rfl
theorem dX12_span_28 : decode cX12_span 28 = .ok (.lstore_n 2, 1) := lw_dr lw_d_cX12_span_0 16 rfl
theorem dX12_span_29 : decode cX12_span 29 = .ok (.iconst 0, 1) := lw_dr lw_d_cX12_span_0 17 rfl
theorem dX12_span_30 : decode cX12_span 30 = .ok (.istore 4, 2) := lw_dr lw_d_cX12_span_0 18 rfl
theorem dX12_span_32 : decode cX12_span 32 = .ok (.iload 4, 2) := lw_dr lw_d_cX12_span_0 19 rfl
theorem dX12_span_34 : decode cX12_span 34 = .ok (.aload_n 0, 1) := lw_dr lw_d_cX12_span_0 20 rfl
theorem dX12_span_35 : decode cX12_span 35 = .ok (.invokevirtual 406, 3) := lw_dr lw_d_cX12_span_0 21 rfl
theorem dX12_span_38 : decode cX12_span 38 = .ok (.if_icmp .ge 51, 3) := lw_dr lw_d_cX12_span_0 22 rfl
theorem dX12_span_89 : decode cX12_span 89 = .ok (.iconst 0, 1) := lw_dr lw_d_cX12_span_0 23 rfl
theorem dX12_span_90 : decode cX12_span 90 = .ok (.istore 4, 2) := lw_dr lw_d_cX12_span_0 24 rfl
theorem dX12_span_92 : decode cX12_span 92 = .ok (.iload 4, 2) := lw_dr lw_d_cX12_span_0 25 rfl
theorem dX12_span_94 : decode cX12_span 94 = .ok (.iconst 5, 1) := lw_dr lw_d_cX12_span_0 26 rfl
theorem dX12_span_95 : decode cX12_span 95 = .ok (.if_icmp .ge 23, 3) := lw_dr lw_d_cX12_span_0 27 rfl
theorem dX12_span_98 : decode cX12_span 98 = .ok (.aload_n 0, 1) := lw_dr lw_d_cX12_span_0 28 rfl
theorem dX12_span_99 : decode cX12_span 99 = .ok (.getfield 136, 3) := lw_dr lw_d_cX12_span_0 29 rfl
theorem dX12_span_102 : decode cX12_span 102 = .ok (.iload 4, 2) := lw_dr lw_d_cX12_span_0 30 rfl
theorem dX12_span_104 : decode cX12_span 104 = .ok (.aload_n 0, 1) := lw_dr lw_d_cX12_span_0 31 rfl
theorem dX12_span_105 : decode cX12_span 105 = .ok (.getfield 142, 3) := lw_dr lw_d_cX12_span_0 32 rfl
theorem dX12_span_108 : decode cX12_span 108 = .ok (.iload 4, 2) := lw_dr lw_d_cX12_span_0 33 rfl
theorem dX12_span_110 : decode cX12_span 110 = .ok (.iaload, 1) := lw_dr lw_d_cX12_span_0 34 rfl
theorem dX12_span_111 : decode cX12_span 111 = .ok (.iastore, 1) := lw_dr lw_d_cX12_span_0 35 rfl
theorem dX12_span_112 : decode cX12_span 112 = .ok (.iinc 4 1, 3) := lw_dr lw_d_cX12_span_0 36 rfl
theorem dX12_span_115 : decode cX12_span 115 = .ok (.goto (-23), 3) := lw_dr lw_d_cX12_span_0 37 rfl
theorem dX12_span_118 : decode cX12_span 118 = .ok (.lload_n 2, 1) := lw_dr lw_d_cX12_span_0 38 rfl
theorem dX12_span_119 : decode cX12_span 119 = .ok (.lreturn, 1) := lw_dr lw_d_cX12_span_0 39 rfl
theorem lw_d_cX12_span_41 : lw_dl cX12_span [(41, .aload_n 0, 1), (42, .iload 4, 2), (44, .invokevirtual 403, 3), (47, .aload_n 0, 1), (48, .invokevirtual 477, 3), (51, .lstore 5, 2), (53, .lload_n 2, 1), (54, .lconst 0, 1), (55, .lcmp, 1), (56, .ifCond .lt 24, 3), (80, .lload 5, 2), (82, .lstore_n 2, 1), (83, .iinc 4 1, 3), (86, .goto (-54), 3), (59, .iload_n 1, 1), (60, .ifCond .eq 13, 3), (73, .lload 5, 2), (75, .lload_n 2, 1), (76, .lcmp, 1), (77, .ifCond .ge 6, 3), (63, .lload 5, 2), (65, .lload_n 2, 1), (66, .lcmp, 1), (67, .ifCond .le 16, 3), (70, .goto 10, 3)] = true := by decide +kernel
theorem dX12_span_41 : decode cX12_span 41 = .ok (.aload_n 0, 1) := lw_dr lw_d_cX12_span_41 0 rfl
theorem dX12_span_42 : decode cX12_span 42 = .ok (.iload 4, 2) := lw_dr lw_d_cX12_span_41 1 rfl
theorem dX12_span_44 : decode cX12_span 44 = .ok (.invokevirtual 403, 3) := lw_dr lw_d_cX12_span_41 2 rfl
theorem dX12_span_47 : decode cX12_span 47 = .ok (.aload_n 0, 1) := lw_dr lw_d_cX12_span_41 3 rfl
theorem dX12_span_48 : decode cX12_span 48 = .ok (.invokevirtual 477, 3) := lw_dr lw_d_cX12_span_41 4 rfl
theorem dX12_span_51 : decode cX12_span 51 = .ok (.lstore 5, 2) := lw_dr lw_d_cX12_span_41 5 rfl
theorem dX12_span_53 : decode cX12_span 53 = .ok (.lload_n 2, 1) := lw_dr lw_d_cX12_span_41 6 rfl
theorem dX12_span_54 : decode cX12_span 54 = .ok (.lconst 0, 1) := lw_dr lw_d_cX12_span_41 7 rfl
theorem dX12_span_55 : decode cX12_span 55 = .ok (.lcmp, 1) := lw_dr lw_d_cX12_span_41 8 rfl
theorem dX12_span_56 : decode cX12_span 56 = .ok (.ifCond .lt 24, 3) := lw_dr lw_d_cX12_span_41 9 rfl
theorem dX12_span_80 : decode cX12_span 80 = .ok (.lload 5, 2) := lw_dr lw_d_cX12_span_41 10 rfl
theorem dX12_span_82 : decode cX12_span 82 = .ok (.lstore_n 2, 1) := lw_dr lw_d_cX12_span_41 11 rfl
theorem dX12_span_83 : decode cX12_span 83 = .ok (.iinc 4 1, 3) := lw_dr lw_d_cX12_span_41 12 rfl
theorem dX12_span_86 : decode cX12_span 86 = .ok (.goto (-54), 3) := lw_dr lw_d_cX12_span_41 13 rfl
theorem dX12_span_59 : decode cX12_span 59 = .ok (.iload_n 1, 1) := lw_dr lw_d_cX12_span_41 14 rfl
theorem dX12_span_60 : decode cX12_span 60 = .ok (.ifCond .eq 13, 3) := lw_dr lw_d_cX12_span_41 15 rfl
theorem dX12_span_73 : decode cX12_span 73 = .ok (.lload 5, 2) := lw_dr lw_d_cX12_span_41 16 rfl
theorem dX12_span_75 : decode cX12_span 75 = .ok (.lload_n 2, 1) := lw_dr lw_d_cX12_span_41 17 rfl
theorem dX12_span_76 : decode cX12_span 76 = .ok (.lcmp, 1) := lw_dr lw_d_cX12_span_41 18 rfl
theorem dX12_span_77 : decode cX12_span 77 = .ok (.ifCond .ge 6, 3) := lw_dr lw_d_cX12_span_41 19 rfl
theorem dX12_span_63 : decode cX12_span 63 = .ok (.lload 5, 2) := lw_dr lw_d_cX12_span_41 20 rfl
theorem dX12_span_65 : decode cX12_span 65 = .ok (.lload_n 2, 1) := lw_dr lw_d_cX12_span_41 21 rfl
theorem dX12_span_66 : decode cX12_span 66 = .ok (.lcmp, 1) := lw_dr lw_d_cX12_span_41 22 rfl
theorem dX12_span_67 : decode cX12_span 67 = .ok (.ifCond .le 16, 3) := lw_dr lw_d_cX12_span_41 23 rfl
theorem dX12_span_70 : decode cX12_span 70 = .ok (.goto 10, 3) := lw_dr lw_d_cX12_span_41 24 rfl
theorem lw_d_cX12_put_0 : lw_dl cX12_put [(0, .aload_n 0, 1), (1, .iload_n 1, 1), (2, .invokevirtual 361, 3), (5, .ifCond .eq 19, 3), (24, .ldc_w 364, 3), (27, .ireturn, 1), (8, .aload_n 0, 1), (9, .getfield 252, 3), (12, .ifCond .eq 12, 3), (15, .aload_n 0, 1), (16, .getfield 136, 3), (19, .iload_n 1, 1), (20, .iaload, 1), (21, .goto 6, 3)] = true := by decide +kernel
theorem dX12_put_0 : decode cX12_put 0 = .ok (.aload_n 0, 1) := lw_dr lw_d_cX12_put_0 0 rfl
theorem dX12_put_1 : decode cX12_put 1 = .ok (.iload_n 1, 1) := lw_dr lw_d_cX12_put_0 1 rfl
theorem dX12_put_2 : decode cX12_put 2 = .ok (.invokevirtual 361, 3) := lw_dr lw_d_cX12_put_0 2 rfl
theorem dX12_put_5 : decode cX12_put 5 = .ok (.ifCond .eq 19, 3) := lw_dr lw_d_cX12_put_0 3 rfl
theorem dX12_put_24 : decode cX12_put 24 = .ok (.ldc_w 364, 3) := lw_dr lw_d_cX12_put_0 4 rfl
theorem dX12_put_27 : decode cX12_put 27 = .ok (.ireturn, 1) := lw_dr lw_d_cX12_put_0 5 rfl
theorem dX12_put_8 : decode cX12_put 8 = .ok (.aload_n 0, 1) := lw_dr lw_d_cX12_put_0 6 rfl
theorem dX12_put_9 : decode cX12_put 9 = .ok (.getfield 252, 3) := lw_dr lw_d_cX12_put_0 7 rfl
theorem dX12_put_12 : decode cX12_put 12 = .ok (.ifCond .eq 12, 3) := lw_dr lw_d_cX12_put_0 8 rfl
theorem dX12_put_15 : decode cX12_put 15 = .ok (.aload_n 0, 1) := lw_dr lw_d_cX12_put_0 9 rfl
theorem dX12_put_16 : decode cX12_put 16 = .ok (.getfield 136, 3) := lw_dr lw_d_cX12_put_0 10 rfl
theorem dX12_put_19 : decode cX12_put 19 = .ok (.iload_n 1, 1) := lw_dr lw_d_cX12_put_0 11 rfl
theorem dX12_put_20 : decode cX12_put 20 = .ok (.iaload, 1) := lw_dr lw_d_cX12_put_0 12 rfl
theorem dX12_put_21 : decode cX12_put 21 = .ok (.goto 6, 3) := lw_dr lw_d_cX12_put_0 13 rfl
theorem lw_d_cX12_worth_0 : lw_dl cX12_worth [(0, .aload_n 0, 1), (1, .iload_n 1, 1), (2, .invokevirtual 361, 3), (5, .ifCond .eq 11, 3), (16, .ldc_w 364, 3), (19, .ireturn, 1), (8, .aload_n 0, 1), (9, .iload_n 1, 1), (10, .invokevirtual 481, 3)] = true := by decide +kernel
theorem dX12_worth_0 : decode cX12_worth 0 = .ok (.aload_n 0, 1) := lw_dr lw_d_cX12_worth_0 0 rfl
theorem dX12_worth_1 : decode cX12_worth 1 = .ok (.iload_n 1, 1) := lw_dr lw_d_cX12_worth_0 1 rfl
theorem dX12_worth_2 : decode cX12_worth 2 = .ok (.invokevirtual 361, 3) := lw_dr lw_d_cX12_worth_0 2 rfl
theorem dX12_worth_5 : decode cX12_worth 5 = .ok (.ifCond .eq 11, 3) := lw_dr lw_d_cX12_worth_0 3 rfl
theorem dX12_worth_16 : decode cX12_worth 16 = .ok (.ldc_w 364, 3) := lw_dr lw_d_cX12_worth_0 4 rfl
theorem dX12_worth_19 : decode cX12_worth 19 = .ok (.ireturn, 1) := lw_dr lw_d_cX12_worth_0 5 rfl
theorem dX12_worth_8 : decode cX12_worth 8 = .ok (.aload_n 0, 1) := lw_dr lw_d_cX12_worth_0 6 rfl
theorem dX12_worth_9 : decode cX12_worth 9 = .ok (.iload_n 1, 1) := lw_dr lw_d_cX12_worth_0 7 rfl
theorem dX12_worth_10 : decode cX12_worth 10 = .ok (.invokevirtual 481, 3) := lw_dr lw_d_cX12_worth_0 8 rfl
theorem lw_d_cX12_worthOf_0 : lw_dl cX12_worthOf [(0, .iconst 0, 1), (1, .istore_n 2, 1), (2, .iload_n 2, 1), (3, .aload_n 0, 1), (4, .getfield 81, 3), (7, .iconst 0, 1), (8, .iaload, 1), (9, .if_icmp .ge 50, 3), (59, .iconst 0, 1), (60, .ireturn, 1), (12, .aload_n 0, 1), (13, .aload_n 0, 1), (14, .getfield 87, 3), (17, .iload_n 2, 1), (18, .iaload, 1), (19, .aload_n 0, 1), (20, .getfield 90, 3), (23, .iload_n 2, 1), (24, .iaload, 1), (25, .iload_n 1, 1), (26, .invokevirtual 345, 3)] = true := by decide +kernel
theorem dX12_worthOf_0 : decode cX12_worthOf 0 = .ok (.iconst 0, 1) := lw_dr lw_d_cX12_worthOf_0 0 rfl
theorem dX12_worthOf_1 : decode cX12_worthOf 1 = .ok (.istore_n 2, 1) := lw_dr lw_d_cX12_worthOf_0 1 rfl
theorem dX12_worthOf_2 : decode cX12_worthOf 2 = .ok (.iload_n 2, 1) := lw_dr lw_d_cX12_worthOf_0 2 rfl
theorem dX12_worthOf_3 : decode cX12_worthOf 3 = .ok (.aload_n 0, 1) := lw_dr lw_d_cX12_worthOf_0 3 rfl
theorem dX12_worthOf_4 : decode cX12_worthOf 4 = .ok (.getfield 81, 3) := lw_dr lw_d_cX12_worthOf_0 4 rfl
theorem dX12_worthOf_7 : decode cX12_worthOf 7 = .ok (.iconst 0, 1) := lw_dr lw_d_cX12_worthOf_0 5 rfl
theorem dX12_worthOf_8 : decode cX12_worthOf 8 = .ok (.iaload, 1) := lw_dr lw_d_cX12_worthOf_0 6 rfl
theorem dX12_worthOf_9 : decode cX12_worthOf 9 = .ok (.if_icmp .ge 50, 3) := lw_dr lw_d_cX12_worthOf_0 7 rfl
theorem dX12_worthOf_59 : decode cX12_worthOf 59 = .ok (.iconst 0, 1) := lw_dr lw_d_cX12_worthOf_0 8 rfl
theorem dX12_worthOf_60 : decode cX12_worthOf 60 = .ok (.ireturn, 1) := lw_dr lw_d_cX12_worthOf_0 9 rfl
theorem dX12_worthOf_12 : decode cX12_worthOf 12 = .ok (.aload_n 0, 1) := lw_dr lw_d_cX12_worthOf_0 10 rfl
theorem dX12_worthOf_13 : decode cX12_worthOf 13 = .ok (.aload_n 0, 1) := lw_dr lw_d_cX12_worthOf_0 11 rfl
theorem dX12_worthOf_14 : decode cX12_worthOf 14 = .ok (.getfield 87, 3) := lw_dr lw_d_cX12_worthOf_0 12 rfl
theorem dX12_worthOf_17 : decode cX12_worthOf 17 = .ok (.iload_n 2, 1) := lw_dr lw_d_cX12_worthOf_0 13 rfl
theorem dX12_worthOf_18 : decode cX12_worthOf 18 = .ok (.iaload, 1) := lw_dr lw_d_cX12_worthOf_0 14 rfl
theorem dX12_worthOf_19 : decode cX12_worthOf 19 = .ok (.aload_n 0, 1) := lw_dr lw_d_cX12_worthOf_0 15 rfl
theorem dX12_worthOf_20 : decode cX12_worthOf 20 = .ok (.getfield 90, 3) := lw_dr lw_d_cX12_worthOf_0 16 rfl
theorem dX12_worthOf_23 : decode cX12_worthOf 23 = .ok (.iload_n 2, 1) := lw_dr lw_d_cX12_worthOf_0 17 rfl
theorem dX12_worthOf_24 : decode cX12_worthOf 24 = .ok (.iaload, 1) := lw_dr lw_d_cX12_worthOf_0 18 rfl
theorem dX12_worthOf_25 : decode cX12_worthOf 25 = .ok (.iload_n 1, 1) := lw_dr lw_d_cX12_worthOf_0 19 rfl
theorem dX12_worthOf_26 : decode cX12_worthOf 26 = .ok (.invokevirtual 345, 3) := lw_dr lw_d_cX12_worthOf_0 20 rfl
theorem lw_d_cX12_told_0 : lw_dl cX12_told [(0, .aload_n 0, 1), (1, .iconst 0, 1), (2, .putfield 315, 3), (5, .iload_n 1, 1), (6, .istore 4, 2), (8, .iload 4, 2), (10, .iload_n 2, 1), (11, .if_icmp .ge 156, 3), (167, .aload_n 0, 1), (168, .getfield 93, 3), (171, .iconst 0, 1), (172, .laload, 1), (173, .lreturn, 1), (14, .aload_n 0, 1), (15, .getfield 75, 3), (18, .iload 4, 2), (20, .iaload, 1), (21, .istore 5, 2), (23, .iload 5, 2), (25, .sipush 1000, 3), (28, .if_icmp .lt 17, 3), (45, .iload 5, 2), (47, .bipush 17, 2), (49, .if_icmp .ne 11, 3), (60, .iload 5, 2), (62, .bipush 16, 2), (64, .if_icmp .ne 30, 3), (94, .iload 5, 2), (96, .i2l, 1), (97, .ldc2_w 330, 3), (100, .ldc2_w 332, 3), (103, .invokestatic 191, 3), (106, .ifCond .eq 49, 3), (155, .aload_n 0, 1), (156, .iload 5, 2), (158, .invokevirtual 342, 3)] = true := by decide +kernel
theorem dX12_told_0 : decode cX12_told 0 = .ok (.aload_n 0, 1) := lw_dr lw_d_cX12_told_0 0 rfl
theorem dX12_told_1 : decode cX12_told 1 = .ok (.iconst 0, 1) := lw_dr lw_d_cX12_told_0 1 rfl
theorem dX12_told_2 : decode cX12_told 2 = .ok (.putfield 315, 3) := lw_dr lw_d_cX12_told_0 2 rfl
theorem dX12_told_5 : decode cX12_told 5 = .ok (.iload_n 1, 1) := lw_dr lw_d_cX12_told_0 3 rfl
theorem dX12_told_6 : decode cX12_told 6 = .ok (.istore 4, 2) := lw_dr lw_d_cX12_told_0 4 rfl
theorem dX12_told_8 : decode cX12_told 8 = .ok (.iload 4, 2) := lw_dr lw_d_cX12_told_0 5 rfl
theorem dX12_told_10 : decode cX12_told 10 = .ok (.iload_n 2, 1) := lw_dr lw_d_cX12_told_0 6 rfl
theorem dX12_told_11 : decode cX12_told 11 = .ok (.if_icmp .ge 156, 3) := lw_dr lw_d_cX12_told_0 7 rfl
theorem dX12_told_167 : decode cX12_told 167 = .ok (.aload_n 0, 1) := lw_dr lw_d_cX12_told_0 8 rfl
theorem dX12_told_168 : decode cX12_told 168 = .ok (.getfield 93, 3) := lw_dr lw_d_cX12_told_0 9 rfl
theorem dX12_told_171 : decode cX12_told 171 = .ok (.iconst 0, 1) := lw_dr lw_d_cX12_told_0 10 rfl
theorem dX12_told_172 : decode cX12_told 172 = .ok (.laload, 1) := lw_dr lw_d_cX12_told_0 11 rfl
theorem dX12_told_173 : decode cX12_told 173 = .ok (.lreturn, 1) := lw_dr lw_d_cX12_told_0 12 rfl
theorem dX12_told_14 : decode cX12_told 14 = .ok (.aload_n 0, 1) := lw_dr lw_d_cX12_told_0 13 rfl
theorem dX12_told_15 : decode cX12_told 15 = .ok (.getfield 75, 3) := lw_dr lw_d_cX12_told_0 14 rfl
theorem dX12_told_18 : decode cX12_told 18 = .ok (.iload 4, 2) := lw_dr lw_d_cX12_told_0 15 rfl
theorem dX12_told_20 : decode cX12_told 20 = .ok (.iaload, 1) := lw_dr lw_d_cX12_told_0 16 rfl
theorem dX12_told_21 : decode cX12_told 21 = .ok (.istore 5, 2) := lw_dr lw_d_cX12_told_0 17 rfl
theorem dX12_told_23 : decode cX12_told 23 = .ok (.iload 5, 2) := lw_dr lw_d_cX12_told_0 18 rfl
theorem dX12_told_25 : decode cX12_told 25 = .ok (.sipush 1000, 3) := lw_dr lw_d_cX12_told_0 19 rfl
theorem dX12_told_28 : decode cX12_told 28 = .ok (.if_icmp .lt 17, 3) := lw_dr lw_d_cX12_told_0 20 rfl
theorem dX12_told_45 : decode cX12_told 45 = .ok (.iload 5, 2) := lw_dr lw_d_cX12_told_0 21 rfl
theorem dX12_told_47 : decode cX12_told 47 = .ok (.bipush 17, 2) := lw_dr lw_d_cX12_told_0 22 rfl
theorem dX12_told_49 : decode cX12_told 49 = .ok (.if_icmp .ne 11, 3) := lw_dr lw_d_cX12_told_0 23 rfl
theorem dX12_told_60 : decode cX12_told 60 = .ok (.iload 5, 2) := lw_dr lw_d_cX12_told_0 24 rfl
theorem dX12_told_62 : decode cX12_told 62 = .ok (.bipush 16, 2) := lw_dr lw_d_cX12_told_0 25 rfl
theorem dX12_told_64 : decode cX12_told 64 = .ok (.if_icmp .ne 30, 3) := lw_dr lw_d_cX12_told_0 26 rfl
theorem dX12_told_94 : decode cX12_told 94 = .ok (.iload 5, 2) := lw_dr lw_d_cX12_told_0 27 rfl
theorem dX12_told_96 : decode cX12_told 96 = .ok (.i2l, 1) := lw_dr lw_d_cX12_told_0 28 rfl
theorem dX12_told_97 : decode cX12_told 97 = .ok (.ldc2_w 330, 3) := lw_dr lw_d_cX12_told_0 29 rfl
theorem dX12_told_100 : decode cX12_told 100 = .ok (.ldc2_w 332, 3) := lw_dr lw_d_cX12_told_0 30 rfl
theorem dX12_told_103 : decode cX12_told 103 = .ok (.invokestatic 191, 3) := lw_dr lw_d_cX12_told_0 31 rfl
theorem dX12_told_106 : decode cX12_told 106 = .ok (.ifCond .eq 49, 3) := lw_dr lw_d_cX12_told_0 32 rfl
theorem dX12_told_155 : decode cX12_told 155 = .ok (.aload_n 0, 1) := lw_dr lw_d_cX12_told_0 33 rfl
theorem dX12_told_156 : decode cX12_told 156 = .ok (.iload 5, 2) := lw_dr lw_d_cX12_told_0 34 rfl
theorem dX12_told_158 : decode cX12_told 158 = .ok (.invokevirtual 342, 3) := lw_dr lw_d_cX12_told_0 35 rfl
theorem lw_d_cX12_joins_0 : lw_dl cX12_joins [(0, .aload_n 0, 1), (1, .getfield 93, 3), (4, .aload_n 0, 1), (5, .getfield 315, 3), (8, .iconst 1, 1), (9, .isub, 1), (10, .laload, 1), (11, .lstore_n 2, 1), (12, .aload_n 0, 1), (13, .getfield 93, 3), (16, .aload_n 0, 1), (17, .getfield 315, 3), (20, .iconst 2, 1), (21, .isub, 1), (22, .laload, 1), (23, .lstore 4, 2), (25, .aload_n 0, 1), (26, .dup, 1), (27, .getfield 315, 3), (30, .iconst 2, 1), (31, .isub, 1), (32, .putfield 315, 3), (35, .iload_n 1, 1), (36, .tableswitch 235 1 14 #[72, 86, 100, 114, 127, 147, 235, 235, 235, 235, 167, 186, 205, 224], 72), (108, .aload_n 0, 1), (109, .lload 4, 2), (111, .lload_n 2, 1), (112, .ladd, 1), (113, .invokestatic 318, 3)] = true := by decide +kernel
theorem dX12_joins_0 : decode cX12_joins 0 = .ok (.aload_n 0, 1) := lw_dr lw_d_cX12_joins_0 0 rfl
theorem dX12_joins_1 : decode cX12_joins 1 = .ok (.getfield 93, 3) := lw_dr lw_d_cX12_joins_0 1 rfl
theorem dX12_joins_4 : decode cX12_joins 4 = .ok (.aload_n 0, 1) := lw_dr lw_d_cX12_joins_0 2 rfl
theorem dX12_joins_5 : decode cX12_joins 5 = .ok (.getfield 315, 3) := lw_dr lw_d_cX12_joins_0 3 rfl
theorem dX12_joins_8 : decode cX12_joins 8 = .ok (.iconst 1, 1) := lw_dr lw_d_cX12_joins_0 4 rfl
theorem dX12_joins_9 : decode cX12_joins 9 = .ok (.isub, 1) := lw_dr lw_d_cX12_joins_0 5 rfl
theorem dX12_joins_10 : decode cX12_joins 10 = .ok (.laload, 1) := lw_dr lw_d_cX12_joins_0 6 rfl
theorem dX12_joins_11 : decode cX12_joins 11 = .ok (.lstore_n 2, 1) := lw_dr lw_d_cX12_joins_0 7 rfl
theorem dX12_joins_12 : decode cX12_joins 12 = .ok (.aload_n 0, 1) := lw_dr lw_d_cX12_joins_0 8 rfl
theorem dX12_joins_13 : decode cX12_joins 13 = .ok (.getfield 93, 3) := lw_dr lw_d_cX12_joins_0 9 rfl
theorem dX12_joins_16 : decode cX12_joins 16 = .ok (.aload_n 0, 1) := lw_dr lw_d_cX12_joins_0 10 rfl
theorem dX12_joins_17 : decode cX12_joins 17 = .ok (.getfield 315, 3) := lw_dr lw_d_cX12_joins_0 11 rfl
theorem dX12_joins_20 : decode cX12_joins 20 = .ok (.iconst 2, 1) := lw_dr lw_d_cX12_joins_0 12 rfl
theorem dX12_joins_21 : decode cX12_joins 21 = .ok (.isub, 1) := lw_dr lw_d_cX12_joins_0 13 rfl
theorem dX12_joins_22 : decode cX12_joins 22 = .ok (.laload, 1) := lw_dr lw_d_cX12_joins_0 14 rfl
theorem dX12_joins_23 : decode cX12_joins 23 = .ok (.lstore 4, 2) := lw_dr lw_d_cX12_joins_0 15 rfl
theorem dX12_joins_25 : decode cX12_joins 25 = .ok (.aload_n 0, 1) := lw_dr lw_d_cX12_joins_0 16 rfl
theorem dX12_joins_26 : decode cX12_joins 26 = .ok (.dup, 1) := lw_dr lw_d_cX12_joins_0 17 rfl
theorem dX12_joins_27 : decode cX12_joins 27 = .ok (.getfield 315, 3) := lw_dr lw_d_cX12_joins_0 18 rfl
theorem dX12_joins_30 : decode cX12_joins 30 = .ok (.iconst 2, 1) := lw_dr lw_d_cX12_joins_0 19 rfl
theorem dX12_joins_31 : decode cX12_joins 31 = .ok (.isub, 1) := lw_dr lw_d_cX12_joins_0 20 rfl
theorem dX12_joins_32 : decode cX12_joins 32 = .ok (.putfield 315, 3) := lw_dr lw_d_cX12_joins_0 21 rfl
theorem dX12_joins_35 : decode cX12_joins 35 = .ok (.iload_n 1, 1) := lw_dr lw_d_cX12_joins_0 22 rfl
theorem dX12_joins_36 : decode cX12_joins 36 = .ok (.tableswitch 235 1 14 #[72, 86, 100, 114, 127, 147, 235, 235, 235, 235, 167, 186, 205, 224], 72) := lw_dr lw_d_cX12_joins_0 23 rfl
theorem dX12_joins_108 : decode cX12_joins 108 = .ok (.aload_n 0, 1) := lw_dr lw_d_cX12_joins_0 24 rfl
theorem dX12_joins_109 : decode cX12_joins 109 = .ok (.lload 4, 2) := lw_dr lw_d_cX12_joins_0 25 rfl
theorem dX12_joins_111 : decode cX12_joins 111 = .ok (.lload_n 2, 1) := lw_dr lw_d_cX12_joins_0 26 rfl
theorem dX12_joins_112 : decode cX12_joins 112 = .ok (.ladd, 1) := lw_dr lw_d_cX12_joins_0 27 rfl
theorem dX12_joins_113 : decode cX12_joins 113 = .ok (.invokestatic 318, 3) := lw_dr lw_d_cX12_joins_0 28 rfl
theorem lw_d_cX12_clip_0 : lw_dl cX12_clip [(0, .lload_n 0, 1), (1, .ldc2_w 311, 3), (4, .lcmp, 1), (5, .ifCond .le 9, 3), (14, .lload_n 0, 1), (15, .ldc2_w 313, 3), (18, .lcmp, 1), (19, .ifCond .ge 9, 3), (28, .lload_n 0, 1), (29, .lreturn, 1)] = true := by decide +kernel
theorem dX12_clip_0 : decode cX12_clip 0 = .ok (.lload_n 0, 1) := lw_dr lw_d_cX12_clip_0 0 rfl
theorem dX12_clip_1 : decode cX12_clip 1 = .ok (.ldc2_w 311, 3) := lw_dr lw_d_cX12_clip_0 1 rfl
theorem dX12_clip_4 : decode cX12_clip 4 = .ok (.lcmp, 1) := lw_dr lw_d_cX12_clip_0 2 rfl
theorem dX12_clip_5 : decode cX12_clip 5 = .ok (.ifCond .le 9, 3) := lw_dr lw_d_cX12_clip_0 3 rfl
theorem dX12_clip_14 : decode cX12_clip 14 = .ok (.lload_n 0, 1) := lw_dr lw_d_cX12_clip_0 4 rfl
theorem dX12_clip_15 : decode cX12_clip 15 = .ok (.ldc2_w 313, 3) := lw_dr lw_d_cX12_clip_0 5 rfl
theorem dX12_clip_18 : decode cX12_clip 18 = .ok (.lcmp, 1) := lw_dr lw_d_cX12_clip_0 6 rfl
theorem dX12_clip_19 : decode cX12_clip 19 = .ok (.ifCond .ge 9, 3) := lw_dr lw_d_cX12_clip_0 7 rfl
theorem dX12_clip_28 : decode cX12_clip 28 = .ok (.lload_n 0, 1) := lw_dr lw_d_cX12_clip_0 8 rfl
theorem dX12_clip_29 : decode cX12_clip 29 = .ok (.lreturn, 1) := lw_dr lw_d_cX12_clip_0 9 rfl
theorem lw_d_cX12_clip_22 : lw_dl cX12_clip [(22, .ldc2_w 313, 3), (25, .goto 4, 3), (8, .ldc2_w 311, 3), (11, .goto 18, 3)] = true := by decide +kernel
theorem dX12_clip_22 : decode cX12_clip 22 = .ok (.ldc2_w 313, 3) := lw_dr lw_d_cX12_clip_22 0 rfl
theorem dX12_clip_25 : decode cX12_clip 25 = .ok (.goto 4, 3) := lw_dr lw_d_cX12_clip_22 1 rfl
theorem dX12_clip_8 : decode cX12_clip 8 = .ok (.ldc2_w 311, 3) := lw_dr lw_d_cX12_clip_22 2 rfl
theorem dX12_clip_11 : decode cX12_clip 11 = .ok (.goto 18, 3) := lw_dr lw_d_cX12_clip_22 3 rfl
theorem lw_d_cX12_joins_116 : lw_dl cX12_joins [(116, .invokevirtual 322, 3), (119, .goto 170, 3), (289, .return_, 1), (122, .aload_n 0, 1), (123, .lload 4, 2), (125, .lload_n 2, 1), (126, .lsub, 1), (127, .invokestatic 318, 3), (130, .invokevirtual 322, 3), (133, .goto 156, 3), (136, .aload_n 0, 1), (137, .lload 4, 2), (139, .lload_n 2, 1), (140, .lmul, 1), (141, .invokestatic 318, 3), (144, .invokevirtual 322, 3), (147, .goto 142, 3), (150, .aload_n 0, 1), (151, .lload 4, 2), (153, .lload_n 2, 1), (154, .invokestatic 326, 3), (157, .invokevirtual 322, 3), (160, .goto 129, 3), (163, .aload_n 0, 1), (164, .lload 4, 2), (166, .lload_n 2, 1), (167, .lcmp, 1), (168, .ifCond .ge 8, 3), (176, .lload_n 2, 1), (177, .invokevirtual 322, 3), (180, .goto 109, 3), (171, .lload 4, 2), (173, .goto 4, 3), (183, .aload_n 0, 1), (184, .lload 4, 2), (186, .lload_n 2, 1), (187, .lcmp, 1), (188, .ifCond .le 8, 3), (196, .lload_n 2, 1), (197, .invokevirtual 322, 3)] = true := by decide +kernel
theorem dX12_joins_116 : decode cX12_joins 116 = .ok (.invokevirtual 322, 3) := lw_dr lw_d_cX12_joins_116 0 rfl
theorem dX12_joins_119 : decode cX12_joins 119 = .ok (.goto 170, 3) := lw_dr lw_d_cX12_joins_116 1 rfl
theorem dX12_joins_289 : decode cX12_joins 289 = .ok (.return_, 1) := lw_dr lw_d_cX12_joins_116 2 rfl
theorem dX12_joins_122 : decode cX12_joins 122 = .ok (.aload_n 0, 1) := lw_dr lw_d_cX12_joins_116 3 rfl
theorem dX12_joins_123 : decode cX12_joins 123 = .ok (.lload 4, 2) := lw_dr lw_d_cX12_joins_116 4 rfl
theorem dX12_joins_125 : decode cX12_joins 125 = .ok (.lload_n 2, 1) := lw_dr lw_d_cX12_joins_116 5 rfl
theorem dX12_joins_126 : decode cX12_joins 126 = .ok (.lsub, 1) := lw_dr lw_d_cX12_joins_116 6 rfl
theorem dX12_joins_127 : decode cX12_joins 127 = .ok (.invokestatic 318, 3) := lw_dr lw_d_cX12_joins_116 7 rfl
theorem dX12_joins_130 : decode cX12_joins 130 = .ok (.invokevirtual 322, 3) := lw_dr lw_d_cX12_joins_116 8 rfl
theorem dX12_joins_133 : decode cX12_joins 133 = .ok (.goto 156, 3) := lw_dr lw_d_cX12_joins_116 9 rfl
theorem dX12_joins_136 : decode cX12_joins 136 = .ok (.aload_n 0, 1) := lw_dr lw_d_cX12_joins_116 10 rfl
theorem dX12_joins_137 : decode cX12_joins 137 = .ok (.lload 4, 2) := lw_dr lw_d_cX12_joins_116 11 rfl
theorem dX12_joins_139 : decode cX12_joins 139 = .ok (.lload_n 2, 1) := lw_dr lw_d_cX12_joins_116 12 rfl
theorem dX12_joins_140 : decode cX12_joins 140 = .ok (.lmul, 1) := lw_dr lw_d_cX12_joins_116 13 rfl
theorem dX12_joins_141 : decode cX12_joins 141 = .ok (.invokestatic 318, 3) := lw_dr lw_d_cX12_joins_116 14 rfl
theorem dX12_joins_144 : decode cX12_joins 144 = .ok (.invokevirtual 322, 3) := lw_dr lw_d_cX12_joins_116 15 rfl
theorem dX12_joins_147 : decode cX12_joins 147 = .ok (.goto 142, 3) := lw_dr lw_d_cX12_joins_116 16 rfl
theorem dX12_joins_150 : decode cX12_joins 150 = .ok (.aload_n 0, 1) := lw_dr lw_d_cX12_joins_116 17 rfl
theorem dX12_joins_151 : decode cX12_joins 151 = .ok (.lload 4, 2) := lw_dr lw_d_cX12_joins_116 18 rfl
theorem dX12_joins_153 : decode cX12_joins 153 = .ok (.lload_n 2, 1) := lw_dr lw_d_cX12_joins_116 19 rfl
theorem dX12_joins_154 : decode cX12_joins 154 = .ok (.invokestatic 326, 3) := lw_dr lw_d_cX12_joins_116 20 rfl
theorem dX12_joins_157 : decode cX12_joins 157 = .ok (.invokevirtual 322, 3) := lw_dr lw_d_cX12_joins_116 21 rfl
theorem dX12_joins_160 : decode cX12_joins 160 = .ok (.goto 129, 3) := lw_dr lw_d_cX12_joins_116 22 rfl
theorem dX12_joins_163 : decode cX12_joins 163 = .ok (.aload_n 0, 1) := lw_dr lw_d_cX12_joins_116 23 rfl
theorem dX12_joins_164 : decode cX12_joins 164 = .ok (.lload 4, 2) := lw_dr lw_d_cX12_joins_116 24 rfl
theorem dX12_joins_166 : decode cX12_joins 166 = .ok (.lload_n 2, 1) := lw_dr lw_d_cX12_joins_116 25 rfl
theorem dX12_joins_167 : decode cX12_joins 167 = .ok (.lcmp, 1) := lw_dr lw_d_cX12_joins_116 26 rfl
theorem dX12_joins_168 : decode cX12_joins 168 = .ok (.ifCond .ge 8, 3) := lw_dr lw_d_cX12_joins_116 27 rfl
theorem dX12_joins_176 : decode cX12_joins 176 = .ok (.lload_n 2, 1) := lw_dr lw_d_cX12_joins_116 28 rfl
theorem dX12_joins_177 : decode cX12_joins 177 = .ok (.invokevirtual 322, 3) := lw_dr lw_d_cX12_joins_116 29 rfl
theorem dX12_joins_180 : decode cX12_joins 180 = .ok (.goto 109, 3) := lw_dr lw_d_cX12_joins_116 30 rfl
theorem dX12_joins_171 : decode cX12_joins 171 = .ok (.lload 4, 2) := lw_dr lw_d_cX12_joins_116 31 rfl
theorem dX12_joins_173 : decode cX12_joins 173 = .ok (.goto 4, 3) := lw_dr lw_d_cX12_joins_116 32 rfl
theorem dX12_joins_183 : decode cX12_joins 183 = .ok (.aload_n 0, 1) := lw_dr lw_d_cX12_joins_116 33 rfl
theorem dX12_joins_184 : decode cX12_joins 184 = .ok (.lload 4, 2) := lw_dr lw_d_cX12_joins_116 34 rfl
theorem dX12_joins_186 : decode cX12_joins 186 = .ok (.lload_n 2, 1) := lw_dr lw_d_cX12_joins_116 35 rfl
theorem dX12_joins_187 : decode cX12_joins 187 = .ok (.lcmp, 1) := lw_dr lw_d_cX12_joins_116 36 rfl
theorem dX12_joins_188 : decode cX12_joins 188 = .ok (.ifCond .le 8, 3) := lw_dr lw_d_cX12_joins_116 37 rfl
theorem dX12_joins_196 : decode cX12_joins 196 = .ok (.lload_n 2, 1) := lw_dr lw_d_cX12_joins_116 38 rfl
theorem dX12_joins_197 : decode cX12_joins 197 = .ok (.invokevirtual 322, 3) := lw_dr lw_d_cX12_joins_116 39 rfl
theorem lw_d_cX12_joins_200 : lw_dl cX12_joins [(200, .goto 89, 3), (191, .lload 4, 2), (193, .goto 4, 3), (271, .aload_n 0, 1), (272, .lload 4, 2), (274, .lload_n 2, 1), (275, .ladd, 1), (276, .lconst 0, 1), (277, .lcmp, 1), (278, .ifCond .le 7, 3), (285, .lconst 0, 1), (286, .invokevirtual 322, 3), (281, .lconst 1, 1), (282, .goto 4, 3), (203, .aload_n 0, 1), (204, .lload 4, 2), (206, .lload_n 2, 1), (207, .lcmp, 1), (208, .ifCond .ge 7, 3), (215, .lconst 0, 1), (216, .invokevirtual 322, 3), (219, .goto 70, 3), (211, .lconst 1, 1), (212, .goto 4, 3), (222, .aload_n 0, 1), (223, .lload 4, 2), (225, .lload_n 2, 1), (226, .lcmp, 1), (227, .ifCond .le 7, 3), (234, .lconst 0, 1), (235, .invokevirtual 322, 3), (238, .goto 51, 3), (230, .lconst 1, 1), (231, .goto 4, 3), (241, .aload_n 0, 1), (242, .lload 4, 2), (244, .lload_n 2, 1), (245, .lcmp, 1), (246, .ifCond .ne 7, 3), (253, .lconst 0, 1)] = true := by decide +kernel
theorem dX12_joins_200 : decode cX12_joins 200 = .ok (.goto 89, 3) := lw_dr lw_d_cX12_joins_200 0 rfl
theorem dX12_joins_191 : decode cX12_joins 191 = .ok (.lload 4, 2) := lw_dr lw_d_cX12_joins_200 1 rfl
theorem dX12_joins_193 : decode cX12_joins 193 = .ok (.goto 4, 3) := lw_dr lw_d_cX12_joins_200 2 rfl
theorem dX12_joins_271 : decode cX12_joins 271 = .ok (.aload_n 0, 1) := lw_dr lw_d_cX12_joins_200 3 rfl
theorem dX12_joins_272 : decode cX12_joins 272 = .ok (.lload 4, 2) := lw_dr lw_d_cX12_joins_200 4 rfl
theorem dX12_joins_274 : decode cX12_joins 274 = .ok (.lload_n 2, 1) := lw_dr lw_d_cX12_joins_200 5 rfl
theorem dX12_joins_275 : decode cX12_joins 275 = .ok (.ladd, 1) := lw_dr lw_d_cX12_joins_200 6 rfl
theorem dX12_joins_276 : decode cX12_joins 276 = .ok (.lconst 0, 1) := lw_dr lw_d_cX12_joins_200 7 rfl
theorem dX12_joins_277 : decode cX12_joins 277 = .ok (.lcmp, 1) := lw_dr lw_d_cX12_joins_200 8 rfl
theorem dX12_joins_278 : decode cX12_joins 278 = .ok (.ifCond .le 7, 3) := lw_dr lw_d_cX12_joins_200 9 rfl
theorem dX12_joins_285 : decode cX12_joins 285 = .ok (.lconst 0, 1) := lw_dr lw_d_cX12_joins_200 10 rfl
theorem dX12_joins_286 : decode cX12_joins 286 = .ok (.invokevirtual 322, 3) := lw_dr lw_d_cX12_joins_200 11 rfl
theorem dX12_joins_281 : decode cX12_joins 281 = .ok (.lconst 1, 1) := lw_dr lw_d_cX12_joins_200 12 rfl
theorem dX12_joins_282 : decode cX12_joins 282 = .ok (.goto 4, 3) := lw_dr lw_d_cX12_joins_200 13 rfl
theorem dX12_joins_203 : decode cX12_joins 203 = .ok (.aload_n 0, 1) := lw_dr lw_d_cX12_joins_200 14 rfl
theorem dX12_joins_204 : decode cX12_joins 204 = .ok (.lload 4, 2) := lw_dr lw_d_cX12_joins_200 15 rfl
theorem dX12_joins_206 : decode cX12_joins 206 = .ok (.lload_n 2, 1) := lw_dr lw_d_cX12_joins_200 16 rfl
theorem dX12_joins_207 : decode cX12_joins 207 = .ok (.lcmp, 1) := lw_dr lw_d_cX12_joins_200 17 rfl
theorem dX12_joins_208 : decode cX12_joins 208 = .ok (.ifCond .ge 7, 3) := lw_dr lw_d_cX12_joins_200 18 rfl
theorem dX12_joins_215 : decode cX12_joins 215 = .ok (.lconst 0, 1) := lw_dr lw_d_cX12_joins_200 19 rfl
theorem dX12_joins_216 : decode cX12_joins 216 = .ok (.invokevirtual 322, 3) := lw_dr lw_d_cX12_joins_200 20 rfl
theorem dX12_joins_219 : decode cX12_joins 219 = .ok (.goto 70, 3) := lw_dr lw_d_cX12_joins_200 21 rfl
theorem dX12_joins_211 : decode cX12_joins 211 = .ok (.lconst 1, 1) := lw_dr lw_d_cX12_joins_200 22 rfl
theorem dX12_joins_212 : decode cX12_joins 212 = .ok (.goto 4, 3) := lw_dr lw_d_cX12_joins_200 23 rfl
theorem dX12_joins_222 : decode cX12_joins 222 = .ok (.aload_n 0, 1) := lw_dr lw_d_cX12_joins_200 24 rfl
theorem dX12_joins_223 : decode cX12_joins 223 = .ok (.lload 4, 2) := lw_dr lw_d_cX12_joins_200 25 rfl
theorem dX12_joins_225 : decode cX12_joins 225 = .ok (.lload_n 2, 1) := lw_dr lw_d_cX12_joins_200 26 rfl
theorem dX12_joins_226 : decode cX12_joins 226 = .ok (.lcmp, 1) := lw_dr lw_d_cX12_joins_200 27 rfl
theorem dX12_joins_227 : decode cX12_joins 227 = .ok (.ifCond .le 7, 3) := lw_dr lw_d_cX12_joins_200 28 rfl
theorem dX12_joins_234 : decode cX12_joins 234 = .ok (.lconst 0, 1) := lw_dr lw_d_cX12_joins_200 29 rfl
theorem dX12_joins_235 : decode cX12_joins 235 = .ok (.invokevirtual 322, 3) := lw_dr lw_d_cX12_joins_200 30 rfl
theorem dX12_joins_238 : decode cX12_joins 238 = .ok (.goto 51, 3) := lw_dr lw_d_cX12_joins_200 31 rfl
theorem dX12_joins_230 : decode cX12_joins 230 = .ok (.lconst 1, 1) := lw_dr lw_d_cX12_joins_200 32 rfl
theorem dX12_joins_231 : decode cX12_joins 231 = .ok (.goto 4, 3) := lw_dr lw_d_cX12_joins_200 33 rfl
theorem dX12_joins_241 : decode cX12_joins 241 = .ok (.aload_n 0, 1) := lw_dr lw_d_cX12_joins_200 34 rfl
theorem dX12_joins_242 : decode cX12_joins 242 = .ok (.lload 4, 2) := lw_dr lw_d_cX12_joins_200 35 rfl
theorem dX12_joins_244 : decode cX12_joins 244 = .ok (.lload_n 2, 1) := lw_dr lw_d_cX12_joins_200 36 rfl
theorem dX12_joins_245 : decode cX12_joins 245 = .ok (.lcmp, 1) := lw_dr lw_d_cX12_joins_200 37 rfl
theorem dX12_joins_246 : decode cX12_joins 246 = .ok (.ifCond .ne 7, 3) := lw_dr lw_d_cX12_joins_200 38 rfl
theorem dX12_joins_253 : decode cX12_joins 253 = .ok (.lconst 0, 1) := lw_dr lw_d_cX12_joins_200 39 rfl
theorem lw_d_cX12_joins_254 : lw_dl cX12_joins [(254, .invokevirtual 322, 3), (257, .goto 32, 3), (249, .lconst 1, 1), (250, .goto 4, 3), (260, .aload_n 0, 1), (261, .lload 4, 2), (263, .lload_n 2, 1), (264, .lmul, 1), (265, .invokevirtual 322, 3), (268, .goto 21, 3)] = true := by decide +kernel
theorem dX12_joins_254 : decode cX12_joins 254 = .ok (.invokevirtual 322, 3) := lw_dr lw_d_cX12_joins_254 0 rfl
theorem dX12_joins_257 : decode cX12_joins 257 = .ok (.goto 32, 3) := lw_dr lw_d_cX12_joins_254 1 rfl
theorem dX12_joins_249 : decode cX12_joins 249 = .ok (.lconst 1, 1) := lw_dr lw_d_cX12_joins_254 2 rfl
theorem dX12_joins_250 : decode cX12_joins 250 = .ok (.goto 4, 3) := lw_dr lw_d_cX12_joins_254 3 rfl
theorem dX12_joins_260 : decode cX12_joins 260 = .ok (.aload_n 0, 1) := lw_dr lw_d_cX12_joins_254 4 rfl
theorem dX12_joins_261 : decode cX12_joins 261 = .ok (.lload 4, 2) := lw_dr lw_d_cX12_joins_254 5 rfl
theorem dX12_joins_263 : decode cX12_joins 263 = .ok (.lload_n 2, 1) := lw_dr lw_d_cX12_joins_254 6 rfl
theorem dX12_joins_264 : decode cX12_joins 264 = .ok (.lmul, 1) := lw_dr lw_d_cX12_joins_254 7 rfl
theorem dX12_joins_265 : decode cX12_joins 265 = .ok (.invokevirtual 322, 3) := lw_dr lw_d_cX12_joins_254 8 rfl
theorem dX12_joins_268 : decode cX12_joins 268 = .ok (.goto 21, 3) := lw_dr lw_d_cX12_joins_254 9 rfl
theorem lw_d_cX12_puts_0 : lw_dl cX12_puts [(0, .aload_n 0, 1), (1, .getfield 93, 3), (4, .aload_n 0, 1), (5, .getfield 315, 3), (8, .lload_n 1, 1), (9, .lastore, 1), (10, .aload_n 0, 1), (11, .dup, 1), (12, .getfield 315, 3), (15, .iconst 1, 1), (16, .iadd, 1), (17, .putfield 315, 3), (20, .return_, 1)] = true := by decide +kernel
theorem dX12_puts_0 : decode cX12_puts 0 = .ok (.aload_n 0, 1) := lw_dr lw_d_cX12_puts_0 0 rfl
theorem dX12_puts_1 : decode cX12_puts 1 = .ok (.getfield 93, 3) := lw_dr lw_d_cX12_puts_0 1 rfl
theorem dX12_puts_4 : decode cX12_puts 4 = .ok (.aload_n 0, 1) := lw_dr lw_d_cX12_puts_0 2 rfl
theorem dX12_puts_5 : decode cX12_puts 5 = .ok (.getfield 315, 3) := lw_dr lw_d_cX12_puts_0 3 rfl
theorem dX12_puts_8 : decode cX12_puts 8 = .ok (.lload_n 1, 1) := lw_dr lw_d_cX12_puts_0 4 rfl
theorem dX12_puts_9 : decode cX12_puts 9 = .ok (.lastore, 1) := lw_dr lw_d_cX12_puts_0 5 rfl
theorem dX12_puts_10 : decode cX12_puts 10 = .ok (.aload_n 0, 1) := lw_dr lw_d_cX12_puts_0 6 rfl
theorem dX12_puts_11 : decode cX12_puts 11 = .ok (.dup, 1) := lw_dr lw_d_cX12_puts_0 7 rfl
theorem dX12_puts_12 : decode cX12_puts 12 = .ok (.getfield 315, 3) := lw_dr lw_d_cX12_puts_0 8 rfl
theorem dX12_puts_15 : decode cX12_puts 15 = .ok (.iconst 1, 1) := lw_dr lw_d_cX12_puts_0 9 rfl
theorem dX12_puts_16 : decode cX12_puts 16 = .ok (.iadd, 1) := lw_dr lw_d_cX12_puts_0 10 rfl
theorem dX12_puts_17 : decode cX12_puts 17 = .ok (.putfield 315, 3) := lw_dr lw_d_cX12_puts_0 11 rfl
theorem dX12_puts_20 : decode cX12_puts 20 = .ok (.return_, 1) := lw_dr lw_d_cX12_puts_0 12 rfl
theorem lw_d_cX12_floor_0 : lw_dl cX12_floor [(0, .lload_n 2, 1), (1, .lconst 0, 1), (2, .lcmp, 1), (3, .ifCond .ne 5, 3), (8, .lload_n 0, 1), (9, .lload_n 2, 1), (10, .ldiv, 1), (11, .lstore 4, 2), (13, .lload_n 0, 1), (14, .lload_n 2, 1), (15, .lrem, 1), (16, .lconst 0, 1), (17, .lcmp, 1), (18, .ifCond .eq 35, 3), (53, .lload 4, 2), (55, .lreturn, 1), (21, .lload_n 0, 1), (22, .lconst 0, 1), (23, .lcmp, 1), (24, .ifCond .ge 7, 3), (31, .iconst 0, 1), (32, .lload_n 2, 1), (33, .lconst 0, 1), (34, .lcmp, 1), (35, .ifCond .ge 7, 3), (42, .iconst 0, 1), (43, .if_icmp .eq 10, 3), (38, .iconst 1, 1), (39, .goto 4, 3), (46, .lload 4, 2), (48, .lconst 1, 1), (49, .lsub, 1), (50, .goto 5, 3), (27, .iconst 1, 1), (28, .goto 4, 3), (6, .lconst 0, 1), (7, .lreturn, 1)] = true := by decide +kernel
theorem dX12_floor_0 : decode cX12_floor 0 = .ok (.lload_n 2, 1) := lw_dr lw_d_cX12_floor_0 0 rfl
theorem dX12_floor_1 : decode cX12_floor 1 = .ok (.lconst 0, 1) := lw_dr lw_d_cX12_floor_0 1 rfl
theorem dX12_floor_2 : decode cX12_floor 2 = .ok (.lcmp, 1) := lw_dr lw_d_cX12_floor_0 2 rfl
theorem dX12_floor_3 : decode cX12_floor 3 = .ok (.ifCond .ne 5, 3) := lw_dr lw_d_cX12_floor_0 3 rfl
theorem dX12_floor_8 : decode cX12_floor 8 = .ok (.lload_n 0, 1) := lw_dr lw_d_cX12_floor_0 4 rfl
theorem dX12_floor_9 : decode cX12_floor 9 = .ok (.lload_n 2, 1) := lw_dr lw_d_cX12_floor_0 5 rfl
theorem dX12_floor_10 : decode cX12_floor 10 = .ok (.ldiv, 1) := lw_dr lw_d_cX12_floor_0 6 rfl
theorem dX12_floor_11 : decode cX12_floor 11 = .ok (.lstore 4, 2) := lw_dr lw_d_cX12_floor_0 7 rfl
theorem dX12_floor_13 : decode cX12_floor 13 = .ok (.lload_n 0, 1) := lw_dr lw_d_cX12_floor_0 8 rfl
theorem dX12_floor_14 : decode cX12_floor 14 = .ok (.lload_n 2, 1) := lw_dr lw_d_cX12_floor_0 9 rfl
theorem dX12_floor_15 : decode cX12_floor 15 = .ok (.lrem, 1) := lw_dr lw_d_cX12_floor_0 10 rfl
theorem dX12_floor_16 : decode cX12_floor 16 = .ok (.lconst 0, 1) := lw_dr lw_d_cX12_floor_0 11 rfl
theorem dX12_floor_17 : decode cX12_floor 17 = .ok (.lcmp, 1) := lw_dr lw_d_cX12_floor_0 12 rfl
theorem dX12_floor_18 : decode cX12_floor 18 = .ok (.ifCond .eq 35, 3) := lw_dr lw_d_cX12_floor_0 13 rfl
theorem dX12_floor_53 : decode cX12_floor 53 = .ok (.lload 4, 2) := lw_dr lw_d_cX12_floor_0 14 rfl
theorem dX12_floor_55 : decode cX12_floor 55 = .ok (.lreturn, 1) := lw_dr lw_d_cX12_floor_0 15 rfl
theorem dX12_floor_21 : decode cX12_floor 21 = .ok (.lload_n 0, 1) := lw_dr lw_d_cX12_floor_0 16 rfl
theorem dX12_floor_22 : decode cX12_floor 22 = .ok (.lconst 0, 1) := lw_dr lw_d_cX12_floor_0 17 rfl
theorem dX12_floor_23 : decode cX12_floor 23 = .ok (.lcmp, 1) := lw_dr lw_d_cX12_floor_0 18 rfl
theorem dX12_floor_24 : decode cX12_floor 24 = .ok (.ifCond .ge 7, 3) := lw_dr lw_d_cX12_floor_0 19 rfl
theorem dX12_floor_31 : decode cX12_floor 31 = .ok (.iconst 0, 1) := lw_dr lw_d_cX12_floor_0 20 rfl
theorem dX12_floor_32 : decode cX12_floor 32 = .ok (.lload_n 2, 1) := lw_dr lw_d_cX12_floor_0 21 rfl
theorem dX12_floor_33 : decode cX12_floor 33 = .ok (.lconst 0, 1) := lw_dr lw_d_cX12_floor_0 22 rfl
theorem dX12_floor_34 : decode cX12_floor 34 = .ok (.lcmp, 1) := lw_dr lw_d_cX12_floor_0 23 rfl
theorem dX12_floor_35 : decode cX12_floor 35 = .ok (.ifCond .ge 7, 3) := lw_dr lw_d_cX12_floor_0 24 rfl
theorem dX12_floor_42 : decode cX12_floor 42 = .ok (.iconst 0, 1) := lw_dr lw_d_cX12_floor_0 25 rfl
theorem dX12_floor_43 : decode cX12_floor 43 = .ok (.if_icmp .eq 10, 3) := lw_dr lw_d_cX12_floor_0 26 rfl
theorem dX12_floor_38 : decode cX12_floor 38 = .ok (.iconst 1, 1) := lw_dr lw_d_cX12_floor_0 27 rfl
theorem dX12_floor_39 : decode cX12_floor 39 = .ok (.goto 4, 3) := lw_dr lw_d_cX12_floor_0 28 rfl
theorem dX12_floor_46 : decode cX12_floor 46 = .ok (.lload 4, 2) := lw_dr lw_d_cX12_floor_0 29 rfl
theorem dX12_floor_48 : decode cX12_floor 48 = .ok (.lconst 1, 1) := lw_dr lw_d_cX12_floor_0 30 rfl
theorem dX12_floor_49 : decode cX12_floor 49 = .ok (.lsub, 1) := lw_dr lw_d_cX12_floor_0 31 rfl
theorem dX12_floor_50 : decode cX12_floor 50 = .ok (.goto 5, 3) := lw_dr lw_d_cX12_floor_0 32 rfl
theorem dX12_floor_27 : decode cX12_floor 27 = .ok (.iconst 1, 1) := lw_dr lw_d_cX12_floor_0 33 rfl
theorem dX12_floor_28 : decode cX12_floor 28 = .ok (.goto 4, 3) := lw_dr lw_d_cX12_floor_0 34 rfl
theorem dX12_floor_6 : decode cX12_floor 6 = .ok (.lconst 0, 1) := lw_dr lw_d_cX12_floor_0 35 rfl
theorem dX12_floor_7 : decode cX12_floor 7 = .ok (.lreturn, 1) := lw_dr lw_d_cX12_floor_0 36 rfl
theorem lw_d_cX12_told_161 : lw_dl cX12_told [(161, .iinc 4 1, 3), (164, .goto (-156), 3), (109, .aload_n 0, 1), (110, .iload 5, 2), (112, .bipush 7, 2), (114, .if_icmp .ne 8, 3), (122, .iload 5, 2), (124, .bipush 8, 2), (126, .if_icmp .ne 17, 3), (143, .aload_n 0, 1), (144, .iload_n 3, 1), (145, .invokevirtual 338, 3), (148, .i2l, 1), (149, .invokevirtual 322, 3), (152, .goto 9, 3), (129, .aload_n 0, 1), (130, .iload_n 3, 1), (131, .iload_n 3, 1), (132, .aload_n 0, 1), (133, .getfield 69, 3), (136, .invokevirtual 334, 3), (139, .i2l, 1), (140, .goto 9, 3), (117, .iload_n 3, 1), (118, .i2l, 1), (119, .goto 30, 3), (67, .aload_n 0, 1), (68, .getfield 93, 3), (71, .aload_n 0, 1), (72, .getfield 315, 3), (75, .iconst 1, 1), (76, .isub, 1), (77, .lconst 1, 1), (78, .aload_n 0, 1), (79, .getfield 93, 3), (82, .aload_n 0, 1), (83, .getfield 315, 3), (86, .iconst 1, 1), (87, .isub, 1), (88, .laload, 1)] = true := by decide +kernel
theorem dX12_told_161 : decode cX12_told 161 = .ok (.iinc 4 1, 3) := lw_dr lw_d_cX12_told_161 0 rfl
theorem dX12_told_164 : decode cX12_told 164 = .ok (.goto (-156), 3) := lw_dr lw_d_cX12_told_161 1 rfl
theorem dX12_told_109 : decode cX12_told 109 = .ok (.aload_n 0, 1) := lw_dr lw_d_cX12_told_161 2 rfl
theorem dX12_told_110 : decode cX12_told 110 = .ok (.iload 5, 2) := lw_dr lw_d_cX12_told_161 3 rfl
theorem dX12_told_112 : decode cX12_told 112 = .ok (.bipush 7, 2) := lw_dr lw_d_cX12_told_161 4 rfl
theorem dX12_told_114 : decode cX12_told 114 = .ok (.if_icmp .ne 8, 3) := lw_dr lw_d_cX12_told_161 5 rfl
theorem dX12_told_122 : decode cX12_told 122 = .ok (.iload 5, 2) := lw_dr lw_d_cX12_told_161 6 rfl
theorem dX12_told_124 : decode cX12_told 124 = .ok (.bipush 8, 2) := lw_dr lw_d_cX12_told_161 7 rfl
theorem dX12_told_126 : decode cX12_told 126 = .ok (.if_icmp .ne 17, 3) := lw_dr lw_d_cX12_told_161 8 rfl
theorem dX12_told_143 : decode cX12_told 143 = .ok (.aload_n 0, 1) := lw_dr lw_d_cX12_told_161 9 rfl
theorem dX12_told_144 : decode cX12_told 144 = .ok (.iload_n 3, 1) := lw_dr lw_d_cX12_told_161 10 rfl
theorem dX12_told_145 : decode cX12_told 145 = .ok (.invokevirtual 338, 3) := lw_dr lw_d_cX12_told_161 11 rfl
theorem dX12_told_148 : decode cX12_told 148 = .ok (.i2l, 1) := lw_dr lw_d_cX12_told_161 12 rfl
theorem dX12_told_149 : decode cX12_told 149 = .ok (.invokevirtual 322, 3) := lw_dr lw_d_cX12_told_161 13 rfl
theorem dX12_told_152 : decode cX12_told 152 = .ok (.goto 9, 3) := lw_dr lw_d_cX12_told_161 14 rfl
theorem dX12_told_129 : decode cX12_told 129 = .ok (.aload_n 0, 1) := lw_dr lw_d_cX12_told_161 15 rfl
theorem dX12_told_130 : decode cX12_told 130 = .ok (.iload_n 3, 1) := lw_dr lw_d_cX12_told_161 16 rfl
theorem dX12_told_131 : decode cX12_told 131 = .ok (.iload_n 3, 1) := lw_dr lw_d_cX12_told_161 17 rfl
theorem dX12_told_132 : decode cX12_told 132 = .ok (.aload_n 0, 1) := lw_dr lw_d_cX12_told_161 18 rfl
theorem dX12_told_133 : decode cX12_told 133 = .ok (.getfield 69, 3) := lw_dr lw_d_cX12_told_161 19 rfl
theorem dX12_told_136 : decode cX12_told 136 = .ok (.invokevirtual 334, 3) := lw_dr lw_d_cX12_told_161 20 rfl
theorem dX12_told_139 : decode cX12_told 139 = .ok (.i2l, 1) := lw_dr lw_d_cX12_told_161 21 rfl
theorem dX12_told_140 : decode cX12_told 140 = .ok (.goto 9, 3) := lw_dr lw_d_cX12_told_161 22 rfl
theorem dX12_told_117 : decode cX12_told 117 = .ok (.iload_n 3, 1) := lw_dr lw_d_cX12_told_161 23 rfl
theorem dX12_told_118 : decode cX12_told 118 = .ok (.i2l, 1) := lw_dr lw_d_cX12_told_161 24 rfl
theorem dX12_told_119 : decode cX12_told 119 = .ok (.goto 30, 3) := lw_dr lw_d_cX12_told_161 25 rfl
theorem dX12_told_67 : decode cX12_told 67 = .ok (.aload_n 0, 1) := lw_dr lw_d_cX12_told_161 26 rfl
theorem dX12_told_68 : decode cX12_told 68 = .ok (.getfield 93, 3) := lw_dr lw_d_cX12_told_161 27 rfl
theorem dX12_told_71 : decode cX12_told 71 = .ok (.aload_n 0, 1) := lw_dr lw_d_cX12_told_161 28 rfl
theorem dX12_told_72 : decode cX12_told 72 = .ok (.getfield 315, 3) := lw_dr lw_d_cX12_told_161 29 rfl
theorem dX12_told_75 : decode cX12_told 75 = .ok (.iconst 1, 1) := lw_dr lw_d_cX12_told_161 30 rfl
theorem dX12_told_76 : decode cX12_told 76 = .ok (.isub, 1) := lw_dr lw_d_cX12_told_161 31 rfl
theorem dX12_told_77 : decode cX12_told 77 = .ok (.lconst 1, 1) := lw_dr lw_d_cX12_told_161 32 rfl
theorem dX12_told_78 : decode cX12_told 78 = .ok (.aload_n 0, 1) := lw_dr lw_d_cX12_told_161 33 rfl
theorem dX12_told_79 : decode cX12_told 79 = .ok (.getfield 93, 3) := lw_dr lw_d_cX12_told_161 34 rfl
theorem dX12_told_82 : decode cX12_told 82 = .ok (.aload_n 0, 1) := lw_dr lw_d_cX12_told_161 35 rfl
theorem dX12_told_83 : decode cX12_told 83 = .ok (.getfield 315, 3) := lw_dr lw_d_cX12_told_161 36 rfl
theorem dX12_told_86 : decode cX12_told 86 = .ok (.iconst 1, 1) := lw_dr lw_d_cX12_told_161 37 rfl
theorem dX12_told_87 : decode cX12_told 87 = .ok (.isub, 1) := lw_dr lw_d_cX12_told_161 38 rfl
theorem dX12_told_88 : decode cX12_told 88 = .ok (.laload, 1) := lw_dr lw_d_cX12_told_161 39 rfl
theorem lw_d_cX12_told_89 : lw_dl cX12_told [(89, .lsub, 1), (90, .lastore, 1), (91, .goto 70, 3), (52, .aload_n 0, 1), (53, .lconst 1, 1), (54, .invokevirtual 322, 3), (57, .goto 104, 3), (31, .aload_n 0, 1), (32, .iload 5, 2), (34, .sipush 1000, 3), (37, .isub, 1), (38, .i2l, 1), (39, .invokevirtual 322, 3), (42, .goto 119, 3)] = true := by decide +kernel
theorem dX12_told_89 : decode cX12_told 89 = .ok (.lsub, 1) := lw_dr lw_d_cX12_told_89 0 rfl
theorem dX12_told_90 : decode cX12_told 90 = .ok (.lastore, 1) := lw_dr lw_d_cX12_told_89 1 rfl
theorem dX12_told_91 : decode cX12_told 91 = .ok (.goto 70, 3) := lw_dr lw_d_cX12_told_89 2 rfl
theorem dX12_told_52 : decode cX12_told 52 = .ok (.aload_n 0, 1) := lw_dr lw_d_cX12_told_89 3 rfl
theorem dX12_told_53 : decode cX12_told 53 = .ok (.lconst 1, 1) := lw_dr lw_d_cX12_told_89 4 rfl
theorem dX12_told_54 : decode cX12_told 54 = .ok (.invokevirtual 322, 3) := lw_dr lw_d_cX12_told_89 5 rfl
theorem dX12_told_57 : decode cX12_told 57 = .ok (.goto 104, 3) := lw_dr lw_d_cX12_told_89 6 rfl
theorem dX12_told_31 : decode cX12_told 31 = .ok (.aload_n 0, 1) := lw_dr lw_d_cX12_told_89 7 rfl
theorem dX12_told_32 : decode cX12_told 32 = .ok (.iload 5, 2) := lw_dr lw_d_cX12_told_89 8 rfl
theorem dX12_told_34 : decode cX12_told 34 = .ok (.sipush 1000, 3) := lw_dr lw_d_cX12_told_89 9 rfl
theorem dX12_told_37 : decode cX12_told 37 = .ok (.isub, 1) := lw_dr lw_d_cX12_told_89 10 rfl
theorem dX12_told_38 : decode cX12_told 38 = .ok (.i2l, 1) := lw_dr lw_d_cX12_told_89 11 rfl
theorem dX12_told_39 : decode cX12_told 39 = .ok (.invokevirtual 322, 3) := lw_dr lw_d_cX12_told_89 12 rfl
theorem dX12_told_42 : decode cX12_told 42 = .ok (.goto 119, 3) := lw_dr lw_d_cX12_told_89 13 rfl
theorem lw_d_cX12_peak_0 : lw_dl cX12_peak [(0, .iconst 0, 1), (1, .istore_n 2, 1), (2, .iconst 0, 1), (3, .istore_n 3, 1), (4, .iload_n 3, 1), (5, .aload_n 0, 1), (6, .getfield 240, 3), (9, .if_icmp .ge 49, 3), (58, .iload_n 2, 1), (59, .ireturn, 1), (12, .aload_n 0, 1), (13, .getfield 69, 3), (16, .iconst 5, 1), (17, .iload_n 3, 1), (18, .imul, 1), (19, .iload_n 1, 1), (20, .iadd, 1), (21, .iaload, 1), (22, .istore 4, 2), (24, .iload 4, 2), (26, .ifCond .ge 9, 3), (35, .iload 4, 2), (37, .istore 4, 2), (39, .iload 4, 2), (41, .iload_n 2, 1), (42, .if_icmp .le 8, 3), (50, .iload_n 2, 1), (51, .istore_n 2, 1), (52, .iinc 3 1, 3), (55, .goto (-51), 3), (45, .iload 4, 2), (47, .goto 4, 3), (29, .iload 4, 2), (31, .ineg, 1), (32, .goto 5, 3)] = true := by decide +kernel
theorem dX12_peak_0 : decode cX12_peak 0 = .ok (.iconst 0, 1) := lw_dr lw_d_cX12_peak_0 0 rfl
theorem dX12_peak_1 : decode cX12_peak 1 = .ok (.istore_n 2, 1) := lw_dr lw_d_cX12_peak_0 1 rfl
theorem dX12_peak_2 : decode cX12_peak 2 = .ok (.iconst 0, 1) := lw_dr lw_d_cX12_peak_0 2 rfl
theorem dX12_peak_3 : decode cX12_peak 3 = .ok (.istore_n 3, 1) := lw_dr lw_d_cX12_peak_0 3 rfl
theorem dX12_peak_4 : decode cX12_peak 4 = .ok (.iload_n 3, 1) := lw_dr lw_d_cX12_peak_0 4 rfl
theorem dX12_peak_5 : decode cX12_peak 5 = .ok (.aload_n 0, 1) := lw_dr lw_d_cX12_peak_0 5 rfl
theorem dX12_peak_6 : decode cX12_peak 6 = .ok (.getfield 240, 3) := lw_dr lw_d_cX12_peak_0 6 rfl
theorem dX12_peak_9 : decode cX12_peak 9 = .ok (.if_icmp .ge 49, 3) := lw_dr lw_d_cX12_peak_0 7 rfl
theorem dX12_peak_58 : decode cX12_peak 58 = .ok (.iload_n 2, 1) := lw_dr lw_d_cX12_peak_0 8 rfl
theorem dX12_peak_59 : decode cX12_peak 59 = .ok (.ireturn, 1) := lw_dr lw_d_cX12_peak_0 9 rfl
theorem dX12_peak_12 : decode cX12_peak 12 = .ok (.aload_n 0, 1) := lw_dr lw_d_cX12_peak_0 10 rfl
theorem dX12_peak_13 : decode cX12_peak 13 = .ok (.getfield 69, 3) := lw_dr lw_d_cX12_peak_0 11 rfl
theorem dX12_peak_16 : decode cX12_peak 16 = .ok (.iconst 5, 1) := lw_dr lw_d_cX12_peak_0 12 rfl
theorem dX12_peak_17 : decode cX12_peak 17 = .ok (.iload_n 3, 1) := lw_dr lw_d_cX12_peak_0 13 rfl
theorem dX12_peak_18 : decode cX12_peak 18 = .ok (.imul, 1) := lw_dr lw_d_cX12_peak_0 14 rfl
theorem dX12_peak_19 : decode cX12_peak 19 = .ok (.iload_n 1, 1) := lw_dr lw_d_cX12_peak_0 15 rfl
theorem dX12_peak_20 : decode cX12_peak 20 = .ok (.iadd, 1) := lw_dr lw_d_cX12_peak_0 16 rfl
theorem dX12_peak_21 : decode cX12_peak 21 = .ok (.iaload, 1) := lw_dr lw_d_cX12_peak_0 17 rfl
theorem dX12_peak_22 : decode cX12_peak 22 = .ok (.istore 4, 2) := lw_dr lw_d_cX12_peak_0 18 rfl
theorem dX12_peak_24 : decode cX12_peak 24 = .ok (.iload 4, 2) := lw_dr lw_d_cX12_peak_0 19 rfl
theorem dX12_peak_26 : decode cX12_peak 26 = .ok (.ifCond .ge 9, 3) := lw_dr lw_d_cX12_peak_0 20 rfl
theorem dX12_peak_35 : decode cX12_peak 35 = .ok (.iload 4, 2) := lw_dr lw_d_cX12_peak_0 21 rfl
theorem dX12_peak_37 : decode cX12_peak 37 = .ok (.istore 4, 2) := lw_dr lw_d_cX12_peak_0 22 rfl
theorem dX12_peak_39 : decode cX12_peak 39 = .ok (.iload 4, 2) := lw_dr lw_d_cX12_peak_0 23 rfl
theorem dX12_peak_41 : decode cX12_peak 41 = .ok (.iload_n 2, 1) := lw_dr lw_d_cX12_peak_0 24 rfl
theorem dX12_peak_42 : decode cX12_peak 42 = .ok (.if_icmp .le 8, 3) := lw_dr lw_d_cX12_peak_0 25 rfl
theorem dX12_peak_50 : decode cX12_peak 50 = .ok (.iload_n 2, 1) := lw_dr lw_d_cX12_peak_0 26 rfl
theorem dX12_peak_51 : decode cX12_peak 51 = .ok (.istore_n 2, 1) := lw_dr lw_d_cX12_peak_0 27 rfl
theorem dX12_peak_52 : decode cX12_peak 52 = .ok (.iinc 3 1, 3) := lw_dr lw_d_cX12_peak_0 28 rfl
theorem dX12_peak_55 : decode cX12_peak 55 = .ok (.goto (-51), 3) := lw_dr lw_d_cX12_peak_0 29 rfl
theorem dX12_peak_45 : decode cX12_peak 45 = .ok (.iload 4, 2) := lw_dr lw_d_cX12_peak_0 30 rfl
theorem dX12_peak_47 : decode cX12_peak 47 = .ok (.goto 4, 3) := lw_dr lw_d_cX12_peak_0 31 rfl
theorem dX12_peak_29 : decode cX12_peak 29 = .ok (.iload 4, 2) := lw_dr lw_d_cX12_peak_0 32 rfl
theorem dX12_peak_31 : decode cX12_peak 31 = .ok (.ineg, 1) := lw_dr lw_d_cX12_peak_0 33 rfl
theorem dX12_peak_32 : decode cX12_peak 32 = .ok (.goto 5, 3) := lw_dr lw_d_cX12_peak_0 34 rfl
theorem lw_d_cX12_worthOf_29 : lw_dl cX12_worthOf [(29, .lconst 1, 1), (30, .lcmp, 1), (31, .ifCond .ne 22, 3), (53, .iinc 2 1, 3), (56, .goto (-54), 3), (34, .aload_n 0, 1), (35, .aload_n 0, 1), (36, .getfield 84, 3), (39, .iload_n 2, 1), (40, .iaload, 1), (41, .aload_n 0, 1), (42, .getfield 87, 3), (45, .iload_n 2, 1), (46, .iaload, 1), (47, .iload_n 1, 1), (48, .invokevirtual 345, 3), (51, .l2i, 1), (52, .ireturn, 1)] = true := by decide +kernel
theorem dX12_worthOf_29 : decode cX12_worthOf 29 = .ok (.lconst 1, 1) := lw_dr lw_d_cX12_worthOf_29 0 rfl
theorem dX12_worthOf_30 : decode cX12_worthOf 30 = .ok (.lcmp, 1) := lw_dr lw_d_cX12_worthOf_29 1 rfl
theorem dX12_worthOf_31 : decode cX12_worthOf 31 = .ok (.ifCond .ne 22, 3) := lw_dr lw_d_cX12_worthOf_29 2 rfl
theorem dX12_worthOf_53 : decode cX12_worthOf 53 = .ok (.iinc 2 1, 3) := lw_dr lw_d_cX12_worthOf_29 3 rfl
theorem dX12_worthOf_56 : decode cX12_worthOf 56 = .ok (.goto (-54), 3) := lw_dr lw_d_cX12_worthOf_29 4 rfl
theorem dX12_worthOf_34 : decode cX12_worthOf 34 = .ok (.aload_n 0, 1) := lw_dr lw_d_cX12_worthOf_29 5 rfl
theorem dX12_worthOf_35 : decode cX12_worthOf 35 = .ok (.aload_n 0, 1) := lw_dr lw_d_cX12_worthOf_29 6 rfl
theorem dX12_worthOf_36 : decode cX12_worthOf 36 = .ok (.getfield 84, 3) := lw_dr lw_d_cX12_worthOf_29 7 rfl
theorem dX12_worthOf_39 : decode cX12_worthOf 39 = .ok (.iload_n 2, 1) := lw_dr lw_d_cX12_worthOf_29 8 rfl
theorem dX12_worthOf_40 : decode cX12_worthOf 40 = .ok (.iaload, 1) := lw_dr lw_d_cX12_worthOf_29 9 rfl
theorem dX12_worthOf_41 : decode cX12_worthOf 41 = .ok (.aload_n 0, 1) := lw_dr lw_d_cX12_worthOf_29 10 rfl
theorem dX12_worthOf_42 : decode cX12_worthOf 42 = .ok (.getfield 87, 3) := lw_dr lw_d_cX12_worthOf_29 11 rfl
theorem dX12_worthOf_45 : decode cX12_worthOf 45 = .ok (.iload_n 2, 1) := lw_dr lw_d_cX12_worthOf_29 12 rfl
theorem dX12_worthOf_46 : decode cX12_worthOf 46 = .ok (.iaload, 1) := lw_dr lw_d_cX12_worthOf_29 13 rfl
theorem dX12_worthOf_47 : decode cX12_worthOf 47 = .ok (.iload_n 1, 1) := lw_dr lw_d_cX12_worthOf_29 14 rfl
theorem dX12_worthOf_48 : decode cX12_worthOf 48 = .ok (.invokevirtual 345, 3) := lw_dr lw_d_cX12_worthOf_29 15 rfl
theorem dX12_worthOf_51 : decode cX12_worthOf 51 = .ok (.l2i, 1) := lw_dr lw_d_cX12_worthOf_29 16 rfl
theorem dX12_worthOf_52 : decode cX12_worthOf 52 = .ok (.ireturn, 1) := lw_dr lw_d_cX12_worthOf_29 17 rfl
theorem lw_d_cX12_worth_13 : lw_dl cX12_worth [(13, .goto 6, 3)] = true := by decide +kernel
theorem dX12_worth_13 : decode cX12_worth 13 = .ok (.goto 6, 3) := lw_dr lw_d_cX12_worth_13 0 rfl
theorem lw_d_cX12_chosen_0 : lw_dl cX12_chosen [(0, .iload_n 1, 1), (1, .i2l, 1), (2, .lconst 1, 1), (3, .ldc2_w 484, 3), (6, .invokestatic 191, 3), (9, .ifCond .eq 9, 3), (18, .iconst (-1), 1), (19, .ireturn, 1), (12, .lload_n 2, 1), (13, .lconst 0, 1), (14, .lcmp, 1), (15, .ifCond .ge 5, 3), (20, .iconst (-1), 1), (21, .istore 4, 2), (23, .lconst 0, 1), (24, .lstore 5, 2), (26, .iconst 1, 1), (27, .istore 7, 2), (29, .iload 7, 2), (31, .iconst 1, 1), (32, .aload_n 0, 1), (33, .getfield 237, 3), (36, .ishl, 1), (37, .if_icmp .ge 117, 3), (154, .iload 4, 2), (156, .ireturn, 1), (40, .iload 7, 2), (42, .invokestatic 486, 3), (45, .iload_n 1, 1), (46, .if_icmp .ne 102, 3), (148, .iinc 7 1, 3), (151, .goto (-122), 3), (49, .aload_n 0, 1), (50, .iload 7, 2), (52, .iconst 2, 1), (53, .aload_n 0, 1), (54, .getfield 234, 3), (57, .imul, 1), (58, .iconst 2, 1), (59, .isub, 1)] = true := by decide +kernel
theorem dX12_chosen_0 : decode cX12_chosen 0 = .ok (.iload_n 1, 1) := lw_dr lw_d_cX12_chosen_0 0 rfl
theorem dX12_chosen_1 : decode cX12_chosen 1 = .ok (.i2l, 1) := lw_dr lw_d_cX12_chosen_0 1 rfl
theorem dX12_chosen_2 : decode cX12_chosen 2 = .ok (.lconst 1, 1) := lw_dr lw_d_cX12_chosen_0 2 rfl
theorem dX12_chosen_3 : decode cX12_chosen 3 = .ok (.ldc2_w 484, 3) := lw_dr lw_d_cX12_chosen_0 3 rfl
theorem dX12_chosen_6 : decode cX12_chosen 6 = .ok (.invokestatic 191, 3) := lw_dr lw_d_cX12_chosen_0 4 rfl
theorem dX12_chosen_9 : decode cX12_chosen 9 = .ok (.ifCond .eq 9, 3) := lw_dr lw_d_cX12_chosen_0 5 rfl
theorem dX12_chosen_18 : decode cX12_chosen 18 = .ok (.iconst (-1), 1) := lw_dr lw_d_cX12_chosen_0 6 rfl
theorem dX12_chosen_19 : decode cX12_chosen 19 = .ok (.ireturn, 1) := lw_dr lw_d_cX12_chosen_0 7 rfl
theorem dX12_chosen_12 : decode cX12_chosen 12 = .ok (.lload_n 2, 1) := lw_dr lw_d_cX12_chosen_0 8 rfl
theorem dX12_chosen_13 : decode cX12_chosen 13 = .ok (.lconst 0, 1) := lw_dr lw_d_cX12_chosen_0 9 rfl
theorem dX12_chosen_14 : decode cX12_chosen 14 = .ok (.lcmp, 1) := lw_dr lw_d_cX12_chosen_0 10 rfl
theorem dX12_chosen_15 : decode cX12_chosen 15 = .ok (.ifCond .ge 5, 3) := lw_dr lw_d_cX12_chosen_0 11 rfl
theorem dX12_chosen_20 : decode cX12_chosen 20 = .ok (.iconst (-1), 1) := lw_dr lw_d_cX12_chosen_0 12 rfl
theorem dX12_chosen_21 : decode cX12_chosen 21 = .ok (.istore 4, 2) := lw_dr lw_d_cX12_chosen_0 13 rfl
theorem dX12_chosen_23 : decode cX12_chosen 23 = .ok (.lconst 0, 1) := lw_dr lw_d_cX12_chosen_0 14 rfl
theorem dX12_chosen_24 : decode cX12_chosen 24 = .ok (.lstore 5, 2) := lw_dr lw_d_cX12_chosen_0 15 rfl
theorem dX12_chosen_26 : decode cX12_chosen 26 = .ok (.iconst 1, 1) := lw_dr lw_d_cX12_chosen_0 16 rfl
theorem dX12_chosen_27 : decode cX12_chosen 27 = .ok (.istore 7, 2) := lw_dr lw_d_cX12_chosen_0 17 rfl
theorem dX12_chosen_29 : decode cX12_chosen 29 = .ok (.iload 7, 2) := lw_dr lw_d_cX12_chosen_0 18 rfl
theorem dX12_chosen_31 : decode cX12_chosen 31 = .ok (.iconst 1, 1) := lw_dr lw_d_cX12_chosen_0 19 rfl
theorem dX12_chosen_32 : decode cX12_chosen 32 = .ok (.aload_n 0, 1) := lw_dr lw_d_cX12_chosen_0 20 rfl
theorem dX12_chosen_33 : decode cX12_chosen 33 = .ok (.getfield 237, 3) := lw_dr lw_d_cX12_chosen_0 21 rfl
theorem dX12_chosen_36 : decode cX12_chosen 36 = .ok (.ishl, 1) := lw_dr lw_d_cX12_chosen_0 22 rfl
theorem dX12_chosen_37 : decode cX12_chosen 37 = .ok (.if_icmp .ge 117, 3) := lw_dr lw_d_cX12_chosen_0 23 rfl
theorem dX12_chosen_154 : decode cX12_chosen 154 = .ok (.iload 4, 2) := lw_dr lw_d_cX12_chosen_0 24 rfl
theorem dX12_chosen_156 : decode cX12_chosen 156 = .ok (.ireturn, 1) := lw_dr lw_d_cX12_chosen_0 25 rfl
theorem dX12_chosen_40 : decode cX12_chosen 40 = .ok (.iload 7, 2) := lw_dr lw_d_cX12_chosen_0 26 rfl
theorem dX12_chosen_42 : decode cX12_chosen 42 = .ok (.invokestatic 486, 3) := lw_dr lw_d_cX12_chosen_0 27 rfl
theorem dX12_chosen_45 : decode cX12_chosen 45 = .ok (.iload_n 1, 1) := lw_dr lw_d_cX12_chosen_0 28 rfl
theorem dX12_chosen_46 : decode cX12_chosen 46 = .ok (.if_icmp .ne 102, 3) := lw_dr lw_d_cX12_chosen_0 29 rfl
theorem dX12_chosen_148 : decode cX12_chosen 148 = .ok (.iinc 7 1, 3) := lw_dr lw_d_cX12_chosen_0 30 rfl
theorem dX12_chosen_151 : decode cX12_chosen 151 = .ok (.goto (-122), 3) := lw_dr lw_d_cX12_chosen_0 31 rfl
theorem dX12_chosen_49 : decode cX12_chosen 49 = .ok (.aload_n 0, 1) := lw_dr lw_d_cX12_chosen_0 32 rfl
theorem dX12_chosen_50 : decode cX12_chosen 50 = .ok (.iload 7, 2) := lw_dr lw_d_cX12_chosen_0 33 rfl
theorem dX12_chosen_52 : decode cX12_chosen 52 = .ok (.iconst 2, 1) := lw_dr lw_d_cX12_chosen_0 34 rfl
theorem dX12_chosen_53 : decode cX12_chosen 53 = .ok (.aload_n 0, 1) := lw_dr lw_d_cX12_chosen_0 35 rfl
theorem dX12_chosen_54 : decode cX12_chosen 54 = .ok (.getfield 234, 3) := lw_dr lw_d_cX12_chosen_0 36 rfl
theorem dX12_chosen_57 : decode cX12_chosen 57 = .ok (.imul, 1) := lw_dr lw_d_cX12_chosen_0 37 rfl
theorem dX12_chosen_58 : decode cX12_chosen 58 = .ok (.iconst 2, 1) := lw_dr lw_d_cX12_chosen_0 38 rfl
theorem dX12_chosen_59 : decode cX12_chosen 59 = .ok (.isub, 1) := lw_dr lw_d_cX12_chosen_0 39 rfl
theorem lw_d_cX12_chosen_60 : lw_dl cX12_chosen [(60, .iconst 2, 1), (61, .invokevirtual 457, 3)] = true := by decide +kernel
theorem dX12_chosen_60 : decode cX12_chosen 60 = .ok (.iconst 2, 1) := lw_dr lw_d_cX12_chosen_60 0 rfl
theorem dX12_chosen_61 : decode cX12_chosen 61 = .ok (.invokevirtual 457, 3) := lw_dr lw_d_cX12_chosen_60 1 rfl
theorem lw_d_cX12_bits_0 : lw_dl cX12_bits [(0, .iconst 0, 1), (1, .istore_n 1, 1), (2, .iload_n 0, 1), (3, .istore_n 2, 1), (4, .iload_n 2, 1), (5, .ifCond .eq 15, 3), (20, .iload_n 1, 1), (21, .ireturn, 1), (8, .iinc 1 1, 3), (11, .iload_n 2, 1), (12, .iload_n 2, 1), (13, .iconst 1, 1), (14, .isub, 1), (15, .iand, 1), (16, .istore_n 2, 1), (17, .goto (-13), 3)] = true := by decide +kernel
theorem dX12_bits_0 : decode cX12_bits 0 = .ok (.iconst 0, 1) := lw_dr lw_d_cX12_bits_0 0 rfl
theorem dX12_bits_1 : decode cX12_bits 1 = .ok (.istore_n 1, 1) := lw_dr lw_d_cX12_bits_0 1 rfl
theorem dX12_bits_2 : decode cX12_bits 2 = .ok (.iload_n 0, 1) := lw_dr lw_d_cX12_bits_0 2 rfl
theorem dX12_bits_3 : decode cX12_bits 3 = .ok (.istore_n 2, 1) := lw_dr lw_d_cX12_bits_0 3 rfl
theorem dX12_bits_4 : decode cX12_bits 4 = .ok (.iload_n 2, 1) := lw_dr lw_d_cX12_bits_0 4 rfl
theorem dX12_bits_5 : decode cX12_bits 5 = .ok (.ifCond .eq 15, 3) := lw_dr lw_d_cX12_bits_0 5 rfl
theorem dX12_bits_20 : decode cX12_bits 20 = .ok (.iload_n 1, 1) := lw_dr lw_d_cX12_bits_0 6 rfl
theorem dX12_bits_21 : decode cX12_bits 21 = .ok (.ireturn, 1) := lw_dr lw_d_cX12_bits_0 7 rfl
theorem dX12_bits_8 : decode cX12_bits 8 = .ok (.iinc 1 1, 3) := lw_dr lw_d_cX12_bits_0 8 rfl
theorem dX12_bits_11 : decode cX12_bits 11 = .ok (.iload_n 2, 1) := lw_dr lw_d_cX12_bits_0 9 rfl
theorem dX12_bits_12 : decode cX12_bits 12 = .ok (.iload_n 2, 1) := lw_dr lw_d_cX12_bits_0 10 rfl
theorem dX12_bits_13 : decode cX12_bits 13 = .ok (.iconst 1, 1) := lw_dr lw_d_cX12_bits_0 11 rfl
theorem dX12_bits_14 : decode cX12_bits 14 = .ok (.isub, 1) := lw_dr lw_d_cX12_bits_0 12 rfl
theorem dX12_bits_15 : decode cX12_bits 15 = .ok (.iand, 1) := lw_dr lw_d_cX12_bits_0 13 rfl
theorem dX12_bits_16 : decode cX12_bits 16 = .ok (.istore_n 2, 1) := lw_dr lw_d_cX12_bits_0 14 rfl
theorem dX12_bits_17 : decode cX12_bits 17 = .ok (.goto (-13), 3) := lw_dr lw_d_cX12_bits_0 15 rfl
theorem lw_d_cX12_image_0 : lw_dl cX12_image [(0, .aload_n 0, 1), (1, .iconst 0, 1), (2, .putfield 489, 3), (5, .iconst 0, 1), (6, .istore_n 1, 1), (7, .iload_n 1, 1), (8, .aload_n 0, 1), (9, .getfield 240, 3), (12, .if_icmp .ge 40, 3), (52, .aload_n 0, 1), (53, .aload_n 0, 1), (54, .getfield 349, 3), (57, .invokevirtual 492, 3), (60, .aload_n 0, 1), (61, .aload_n 0, 1), (62, .getfield 145, 3), (65, .aload_n 0, 1), (66, .getfield 489, 3), (69, .invokestatic 495, 3), (72, .invokevirtual 492, 3), (75, .aload_n 0, 1), (76, .getfield 489, 3), (79, .ireturn, 1), (15, .aload_n 0, 1), (16, .aload_n 0, 1), (17, .getfield 100, 3), (20, .iload_n 1, 1), (21, .iaload, 1), (22, .bipush 8, 2), (24, .ishr, 1), (25, .sipush 255, 3), (28, .iand, 1), (29, .invokevirtual 492, 3), (32, .aload_n 0, 1), (33, .aload_n 0, 1), (34, .getfield 100, 3), (37, .iload_n 1, 1), (38, .iaload, 1), (39, .sipush 255, 3), (42, .iand, 1)] = true := by decide +kernel
theorem dX12_image_0 : decode cX12_image 0 = .ok (.aload_n 0, 1) := lw_dr lw_d_cX12_image_0 0 rfl
theorem dX12_image_1 : decode cX12_image 1 = .ok (.iconst 0, 1) := lw_dr lw_d_cX12_image_0 1 rfl
theorem dX12_image_2 : decode cX12_image 2 = .ok (.putfield 489, 3) := lw_dr lw_d_cX12_image_0 2 rfl
theorem dX12_image_5 : decode cX12_image 5 = .ok (.iconst 0, 1) := lw_dr lw_d_cX12_image_0 3 rfl
theorem dX12_image_6 : decode cX12_image 6 = .ok (.istore_n 1, 1) := lw_dr lw_d_cX12_image_0 4 rfl
theorem dX12_image_7 : decode cX12_image 7 = .ok (.iload_n 1, 1) := lw_dr lw_d_cX12_image_0 5 rfl
theorem dX12_image_8 : decode cX12_image 8 = .ok (.aload_n 0, 1) := lw_dr lw_d_cX12_image_0 6 rfl
theorem dX12_image_9 : decode cX12_image 9 = .ok (.getfield 240, 3) := lw_dr lw_d_cX12_image_0 7 rfl
theorem dX12_image_12 : decode cX12_image 12 = .ok (.if_icmp .ge 40, 3) := lw_dr lw_d_cX12_image_0 8 rfl
theorem dX12_image_52 : decode cX12_image 52 = .ok (.aload_n 0, 1) := lw_dr lw_d_cX12_image_0 9 rfl
theorem dX12_image_53 : decode cX12_image 53 = .ok (.aload_n 0, 1) := lw_dr lw_d_cX12_image_0 10 rfl
theorem dX12_image_54 : decode cX12_image 54 = .ok (.getfield 349, 3) := lw_dr lw_d_cX12_image_0 11 rfl
theorem dX12_image_57 : decode cX12_image 57 = .ok (.invokevirtual 492, 3) := lw_dr lw_d_cX12_image_0 12 rfl
theorem dX12_image_60 : decode cX12_image 60 = .ok (.aload_n 0, 1) := lw_dr lw_d_cX12_image_0 13 rfl
theorem dX12_image_61 : decode cX12_image 61 = .ok (.aload_n 0, 1) := lw_dr lw_d_cX12_image_0 14 rfl
theorem dX12_image_62 : decode cX12_image 62 = .ok (.getfield 145, 3) := lw_dr lw_d_cX12_image_0 15 rfl
theorem dX12_image_65 : decode cX12_image 65 = .ok (.aload_n 0, 1) := lw_dr lw_d_cX12_image_0 16 rfl
theorem dX12_image_66 : decode cX12_image 66 = .ok (.getfield 489, 3) := lw_dr lw_d_cX12_image_0 17 rfl
theorem dX12_image_69 : decode cX12_image 69 = .ok (.invokestatic 495, 3) := lw_dr lw_d_cX12_image_0 18 rfl
theorem dX12_image_72 : decode cX12_image 72 = .ok (.invokevirtual 492, 3) := lw_dr lw_d_cX12_image_0 19 rfl
theorem dX12_image_75 : decode cX12_image 75 = .ok (.aload_n 0, 1) := lw_dr lw_d_cX12_image_0 20 rfl
theorem dX12_image_76 : decode cX12_image 76 = .ok (.getfield 489, 3) := lw_dr lw_d_cX12_image_0 21 rfl
theorem dX12_image_79 : decode cX12_image 79 = .ok (.ireturn, 1) := lw_dr lw_d_cX12_image_0 22 rfl
theorem dX12_image_15 : decode cX12_image 15 = .ok (.aload_n 0, 1) := lw_dr lw_d_cX12_image_0 23 rfl
theorem dX12_image_16 : decode cX12_image 16 = .ok (.aload_n 0, 1) := lw_dr lw_d_cX12_image_0 24 rfl
theorem dX12_image_17 : decode cX12_image 17 = .ok (.getfield 100, 3) := lw_dr lw_d_cX12_image_0 25 rfl
theorem dX12_image_20 : decode cX12_image 20 = .ok (.iload_n 1, 1) := lw_dr lw_d_cX12_image_0 26 rfl
theorem dX12_image_21 : decode cX12_image 21 = .ok (.iaload, 1) := lw_dr lw_d_cX12_image_0 27 rfl
theorem dX12_image_22 : decode cX12_image 22 = .ok (.bipush 8, 2) := lw_dr lw_d_cX12_image_0 28 rfl
theorem dX12_image_24 : decode cX12_image 24 = .ok (.ishr, 1) := lw_dr lw_d_cX12_image_0 29 rfl
theorem dX12_image_25 : decode cX12_image 25 = .ok (.sipush 255, 3) := lw_dr lw_d_cX12_image_0 30 rfl
theorem dX12_image_28 : decode cX12_image 28 = .ok (.iand, 1) := lw_dr lw_d_cX12_image_0 31 rfl
theorem dX12_image_29 : decode cX12_image 29 = .ok (.invokevirtual 492, 3) := lw_dr lw_d_cX12_image_0 32 rfl
theorem dX12_image_32 : decode cX12_image 32 = .ok (.aload_n 0, 1) := lw_dr lw_d_cX12_image_0 33 rfl
theorem dX12_image_33 : decode cX12_image 33 = .ok (.aload_n 0, 1) := lw_dr lw_d_cX12_image_0 34 rfl
theorem dX12_image_34 : decode cX12_image 34 = .ok (.getfield 100, 3) := lw_dr lw_d_cX12_image_0 35 rfl
theorem dX12_image_37 : decode cX12_image 37 = .ok (.iload_n 1, 1) := lw_dr lw_d_cX12_image_0 36 rfl
theorem dX12_image_38 : decode cX12_image 38 = .ok (.iaload, 1) := lw_dr lw_d_cX12_image_0 37 rfl
theorem dX12_image_39 : decode cX12_image 39 = .ok (.sipush 255, 3) := lw_dr lw_d_cX12_image_0 38 rfl
theorem dX12_image_42 : decode cX12_image 42 = .ok (.iand, 1) := lw_dr lw_d_cX12_image_0 39 rfl
theorem lw_d_cX12_image_43 : lw_dl cX12_image [(43, .invokevirtual 492, 3), (46, .iinc 1 1, 3), (49, .goto (-42), 3)] = true := by decide +kernel
theorem dX12_image_43 : decode cX12_image 43 = .ok (.invokevirtual 492, 3) := lw_dr lw_d_cX12_image_43 0 rfl
theorem dX12_image_46 : decode cX12_image 46 = .ok (.iinc 1 1, 3) := lw_dr lw_d_cX12_image_43 1 rfl
theorem dX12_image_49 : decode cX12_image 49 = .ok (.goto (-42), 3) := lw_dr lw_d_cX12_image_43 2 rfl
theorem lw_d_cX12_writes_0 : lw_dl cX12_writes [(0, .aload_n 0, 1), (1, .getfield 145, 3), (4, .aload_n 0, 1), (5, .getfield 489, 3), (8, .iload_n 1, 1), (9, .iastore, 1), (10, .aload_n 0, 1), (11, .dup, 1), (12, .getfield 489, 3), (15, .iconst 1, 1), (16, .iadd, 1), (17, .putfield 489, 3), (20, .return_, 1)] = true := by decide +kernel
theorem dX12_writes_0 : decode cX12_writes 0 = .ok (.aload_n 0, 1) := lw_dr lw_d_cX12_writes_0 0 rfl
theorem dX12_writes_1 : decode cX12_writes 1 = .ok (.getfield 145, 3) := lw_dr lw_d_cX12_writes_0 1 rfl
theorem dX12_writes_4 : decode cX12_writes 4 = .ok (.aload_n 0, 1) := lw_dr lw_d_cX12_writes_0 2 rfl
theorem dX12_writes_5 : decode cX12_writes 5 = .ok (.getfield 489, 3) := lw_dr lw_d_cX12_writes_0 3 rfl
theorem dX12_writes_8 : decode cX12_writes 8 = .ok (.iload_n 1, 1) := lw_dr lw_d_cX12_writes_0 4 rfl
theorem dX12_writes_9 : decode cX12_writes 9 = .ok (.iastore, 1) := lw_dr lw_d_cX12_writes_0 5 rfl
theorem dX12_writes_10 : decode cX12_writes 10 = .ok (.aload_n 0, 1) := lw_dr lw_d_cX12_writes_0 6 rfl
theorem dX12_writes_11 : decode cX12_writes 11 = .ok (.dup, 1) := lw_dr lw_d_cX12_writes_0 7 rfl
theorem dX12_writes_12 : decode cX12_writes 12 = .ok (.getfield 489, 3) := lw_dr lw_d_cX12_writes_0 8 rfl
theorem dX12_writes_15 : decode cX12_writes 15 = .ok (.iconst 1, 1) := lw_dr lw_d_cX12_writes_0 9 rfl
theorem dX12_writes_16 : decode cX12_writes 16 = .ok (.iadd, 1) := lw_dr lw_d_cX12_writes_0 10 rfl
theorem dX12_writes_17 : decode cX12_writes 17 = .ok (.putfield 489, 3) := lw_dr lw_d_cX12_writes_0 11 rfl
theorem dX12_writes_20 : decode cX12_writes 20 = .ok (.return_, 1) := lw_dr lw_d_cX12_writes_0 12 rfl
theorem lw_d_cX12_checked_0 : lw_dl cX12_checked [(0, .bipush 51, 2), (2, .istore_n 2, 1), (3, .iconst 0, 1), (4, .istore_n 3, 1), (5, .iload_n 3, 1), (6, .iload_n 1, 1), (7, .if_icmp .ge 22, 3), (29, .iload_n 2, 1), (30, .ireturn, 1), (10, .bipush 7, 2), (12, .iload_n 2, 1), (13, .imul, 1), (14, .aload_n 0, 1), (15, .iload_n 3, 1), (16, .iaload, 1), (17, .iadd, 1), (18, .sipush 253, 3), (21, .irem, 1), (22, .istore_n 2, 1), (23, .iinc 3 1, 3), (26, .goto (-21), 3)] = true := by decide +kernel
theorem dX12_checked_0 : decode cX12_checked 0 = .ok (.bipush 51, 2) := lw_dr lw_d_cX12_checked_0 0 rfl
theorem dX12_checked_2 : decode cX12_checked 2 = .ok (.istore_n 2, 1) := lw_dr lw_d_cX12_checked_0 1 rfl
theorem dX12_checked_3 : decode cX12_checked 3 = .ok (.iconst 0, 1) := lw_dr lw_d_cX12_checked_0 2 rfl
theorem dX12_checked_4 : decode cX12_checked 4 = .ok (.istore_n 3, 1) := lw_dr lw_d_cX12_checked_0 3 rfl
theorem dX12_checked_5 : decode cX12_checked 5 = .ok (.iload_n 3, 1) := lw_dr lw_d_cX12_checked_0 4 rfl
theorem dX12_checked_6 : decode cX12_checked 6 = .ok (.iload_n 1, 1) := lw_dr lw_d_cX12_checked_0 5 rfl
theorem dX12_checked_7 : decode cX12_checked 7 = .ok (.if_icmp .ge 22, 3) := lw_dr lw_d_cX12_checked_0 6 rfl
theorem dX12_checked_29 : decode cX12_checked 29 = .ok (.iload_n 2, 1) := lw_dr lw_d_cX12_checked_0 7 rfl
theorem dX12_checked_30 : decode cX12_checked 30 = .ok (.ireturn, 1) := lw_dr lw_d_cX12_checked_0 8 rfl
theorem dX12_checked_10 : decode cX12_checked 10 = .ok (.bipush 7, 2) := lw_dr lw_d_cX12_checked_0 9 rfl
theorem dX12_checked_12 : decode cX12_checked 12 = .ok (.iload_n 2, 1) := lw_dr lw_d_cX12_checked_0 10 rfl
theorem dX12_checked_13 : decode cX12_checked 13 = .ok (.imul, 1) := lw_dr lw_d_cX12_checked_0 11 rfl
theorem dX12_checked_14 : decode cX12_checked 14 = .ok (.aload_n 0, 1) := lw_dr lw_d_cX12_checked_0 12 rfl
theorem dX12_checked_15 : decode cX12_checked 15 = .ok (.iload_n 3, 1) := lw_dr lw_d_cX12_checked_0 13 rfl
theorem dX12_checked_16 : decode cX12_checked 16 = .ok (.iaload, 1) := lw_dr lw_d_cX12_checked_0 14 rfl
theorem dX12_checked_17 : decode cX12_checked 17 = .ok (.iadd, 1) := lw_dr lw_d_cX12_checked_0 15 rfl
theorem dX12_checked_18 : decode cX12_checked 18 = .ok (.sipush 253, 3) := lw_dr lw_d_cX12_checked_0 16 rfl
theorem dX12_checked_21 : decode cX12_checked 21 = .ok (.irem, 1) := lw_dr lw_d_cX12_checked_0 17 rfl
theorem dX12_checked_22 : decode cX12_checked 22 = .ok (.istore_n 2, 1) := lw_dr lw_d_cX12_checked_0 18 rfl
theorem dX12_checked_23 : decode cX12_checked 23 = .ok (.iinc 3 1, 3) := lw_dr lw_d_cX12_checked_0 19 rfl
theorem dX12_checked_26 : decode cX12_checked 26 = .ok (.goto (-21), 3) := lw_dr lw_d_cX12_checked_0 20 rfl
theorem lw_d_cX12_octet_0 : lw_dl cX12_octet [(0, .iload_n 1, 1), (1, .ifCond .lt 20, 3), (21, .iconst (-1), 1), (22, .ireturn, 1), (4, .iload_n 1, 1), (5, .aload_n 0, 1), (6, .getfield 489, 3), (9, .if_icmp .ge 12, 3), (12, .aload_n 0, 1), (13, .getfield 145, 3), (16, .iload_n 1, 1), (17, .iaload, 1), (18, .goto 4, 3)] = true := by decide +kernel
theorem dX12_octet_0 : decode cX12_octet 0 = .ok (.iload_n 1, 1) := lw_dr lw_d_cX12_octet_0 0 rfl
theorem dX12_octet_1 : decode cX12_octet 1 = .ok (.ifCond .lt 20, 3) := lw_dr lw_d_cX12_octet_0 1 rfl
theorem dX12_octet_21 : decode cX12_octet 21 = .ok (.iconst (-1), 1) := lw_dr lw_d_cX12_octet_0 2 rfl
theorem dX12_octet_22 : decode cX12_octet 22 = .ok (.ireturn, 1) := lw_dr lw_d_cX12_octet_0 3 rfl
theorem dX12_octet_4 : decode cX12_octet 4 = .ok (.iload_n 1, 1) := lw_dr lw_d_cX12_octet_0 4 rfl
theorem dX12_octet_5 : decode cX12_octet 5 = .ok (.aload_n 0, 1) := lw_dr lw_d_cX12_octet_0 5 rfl
theorem dX12_octet_6 : decode cX12_octet 6 = .ok (.getfield 489, 3) := lw_dr lw_d_cX12_octet_0 6 rfl
theorem dX12_octet_9 : decode cX12_octet 9 = .ok (.if_icmp .ge 12, 3) := lw_dr lw_d_cX12_octet_0 7 rfl
theorem dX12_octet_12 : decode cX12_octet 12 = .ok (.aload_n 0, 1) := lw_dr lw_d_cX12_octet_0 8 rfl
theorem dX12_octet_13 : decode cX12_octet 13 = .ok (.getfield 145, 3) := lw_dr lw_d_cX12_octet_0 9 rfl
theorem dX12_octet_16 : decode cX12_octet 16 = .ok (.iload_n 1, 1) := lw_dr lw_d_cX12_octet_0 10 rfl
theorem dX12_octet_17 : decode cX12_octet 17 = .ok (.iaload, 1) := lw_dr lw_d_cX12_octet_0 11 rfl
theorem dX12_octet_18 : decode cX12_octet 18 = .ok (.goto 4, 3) := lw_dr lw_d_cX12_octet_0 12 rfl
theorem lw_d_cX12_on_0 : lw_dl cX12_on [(0, .aload_n 0, 1), (1, .getfield 148, 3), (4, .istore_n 1, 1), (5, .aload_n 0, 1), (6, .iconst 0, 1), (7, .putfield 148, 3), (10, .iload_n 1, 1), (11, .iconst 2, 1), (12, .aload_n 0, 1), (13, .getfield 240, 3), (16, .imul, 1), (17, .iconst 2, 1), (18, .iadd, 1), (19, .if_icmp .ne 24, 3), (43, .iconst 0, 1), (44, .ireturn, 1), (22, .aload_n 0, 1), (23, .getfield 7, 3), (26, .iload_n 1, 1), (27, .iconst 1, 1), (28, .isub, 1), (29, .iaload, 1), (30, .aload_n 0, 1), (31, .getfield 7, 3), (34, .iload_n 1, 1), (35, .iconst 1, 1), (36, .isub, 1), (37, .invokestatic 495, 3), (40, .if_icmp .eq 5, 3), (45, .aload_n 0, 1), (46, .aload_n 0, 1), (47, .getfield 349, 3), (50, .putfield 499, 3), (53, .aload_n 0, 1), (54, .aload_n 0, 1), (55, .getfield 352, 3), (58, .putfield 502, 3), (61, .aload_n 0, 1), (62, .aload_n 0, 1), (63, .getfield 355, 3)] = true := by decide +kernel
theorem dX12_on_0 : decode cX12_on 0 = .ok (.aload_n 0, 1) := lw_dr lw_d_cX12_on_0 0 rfl
theorem dX12_on_1 : decode cX12_on 1 = .ok (.getfield 148, 3) := lw_dr lw_d_cX12_on_0 1 rfl
theorem dX12_on_4 : decode cX12_on 4 = .ok (.istore_n 1, 1) := lw_dr lw_d_cX12_on_0 2 rfl
theorem dX12_on_5 : decode cX12_on 5 = .ok (.aload_n 0, 1) := lw_dr lw_d_cX12_on_0 3 rfl
theorem dX12_on_6 : decode cX12_on 6 = .ok (.iconst 0, 1) := lw_dr lw_d_cX12_on_0 4 rfl
theorem dX12_on_7 : decode cX12_on 7 = .ok (.putfield 148, 3) := lw_dr lw_d_cX12_on_0 5 rfl
theorem dX12_on_10 : decode cX12_on 10 = .ok (.iload_n 1, 1) := lw_dr lw_d_cX12_on_0 6 rfl
theorem dX12_on_11 : decode cX12_on 11 = .ok (.iconst 2, 1) := lw_dr lw_d_cX12_on_0 7 rfl
theorem dX12_on_12 : decode cX12_on 12 = .ok (.aload_n 0, 1) := lw_dr lw_d_cX12_on_0 8 rfl
theorem dX12_on_13 : decode cX12_on 13 = .ok (.getfield 240, 3) := lw_dr lw_d_cX12_on_0 9 rfl
theorem dX12_on_16 : decode cX12_on 16 = .ok (.imul, 1) := lw_dr lw_d_cX12_on_0 10 rfl
theorem dX12_on_17 : decode cX12_on 17 = .ok (.iconst 2, 1) := lw_dr lw_d_cX12_on_0 11 rfl
theorem dX12_on_18 : decode cX12_on 18 = .ok (.iadd, 1) := lw_dr lw_d_cX12_on_0 12 rfl
theorem dX12_on_19 : decode cX12_on 19 = .ok (.if_icmp .ne 24, 3) := lw_dr lw_d_cX12_on_0 13 rfl
theorem dX12_on_43 : decode cX12_on 43 = .ok (.iconst 0, 1) := lw_dr lw_d_cX12_on_0 14 rfl
theorem dX12_on_44 : decode cX12_on 44 = .ok (.ireturn, 1) := lw_dr lw_d_cX12_on_0 15 rfl
theorem dX12_on_22 : decode cX12_on 22 = .ok (.aload_n 0, 1) := lw_dr lw_d_cX12_on_0 16 rfl
theorem dX12_on_23 : decode cX12_on 23 = .ok (.getfield 7, 3) := lw_dr lw_d_cX12_on_0 17 rfl
theorem dX12_on_26 : decode cX12_on 26 = .ok (.iload_n 1, 1) := lw_dr lw_d_cX12_on_0 18 rfl
theorem dX12_on_27 : decode cX12_on 27 = .ok (.iconst 1, 1) := lw_dr lw_d_cX12_on_0 19 rfl
theorem dX12_on_28 : decode cX12_on 28 = .ok (.isub, 1) := lw_dr lw_d_cX12_on_0 20 rfl
theorem dX12_on_29 : decode cX12_on 29 = .ok (.iaload, 1) := lw_dr lw_d_cX12_on_0 21 rfl
theorem dX12_on_30 : decode cX12_on 30 = .ok (.aload_n 0, 1) := lw_dr lw_d_cX12_on_0 22 rfl
theorem dX12_on_31 : decode cX12_on 31 = .ok (.getfield 7, 3) := lw_dr lw_d_cX12_on_0 23 rfl
theorem dX12_on_34 : decode cX12_on 34 = .ok (.iload_n 1, 1) := lw_dr lw_d_cX12_on_0 24 rfl
theorem dX12_on_35 : decode cX12_on 35 = .ok (.iconst 1, 1) := lw_dr lw_d_cX12_on_0 25 rfl
theorem dX12_on_36 : decode cX12_on 36 = .ok (.isub, 1) := lw_dr lw_d_cX12_on_0 26 rfl
theorem dX12_on_37 : decode cX12_on 37 = .ok (.invokestatic 495, 3) := lw_dr lw_d_cX12_on_0 27 rfl
theorem dX12_on_40 : decode cX12_on 40 = .ok (.if_icmp .eq 5, 3) := lw_dr lw_d_cX12_on_0 28 rfl
theorem dX12_on_45 : decode cX12_on 45 = .ok (.aload_n 0, 1) := lw_dr lw_d_cX12_on_0 29 rfl
theorem dX12_on_46 : decode cX12_on 46 = .ok (.aload_n 0, 1) := lw_dr lw_d_cX12_on_0 30 rfl
theorem dX12_on_47 : decode cX12_on 47 = .ok (.getfield 349, 3) := lw_dr lw_d_cX12_on_0 31 rfl
theorem dX12_on_50 : decode cX12_on 50 = .ok (.putfield 499, 3) := lw_dr lw_d_cX12_on_0 32 rfl
theorem dX12_on_53 : decode cX12_on 53 = .ok (.aload_n 0, 1) := lw_dr lw_d_cX12_on_0 33 rfl
theorem dX12_on_54 : decode cX12_on 54 = .ok (.aload_n 0, 1) := lw_dr lw_d_cX12_on_0 34 rfl
theorem dX12_on_55 : decode cX12_on 55 = .ok (.getfield 352, 3) := lw_dr lw_d_cX12_on_0 35 rfl
theorem dX12_on_58 : decode cX12_on 58 = .ok (.putfield 502, 3) := lw_dr lw_d_cX12_on_0 36 rfl
theorem dX12_on_61 : decode cX12_on 61 = .ok (.aload_n 0, 1) := lw_dr lw_d_cX12_on_0 37 rfl
theorem dX12_on_62 : decode cX12_on 62 = .ok (.aload_n 0, 1) := lw_dr lw_d_cX12_on_0 38 rfl
theorem dX12_on_63 : decode cX12_on 63 = .ok (.getfield 355, 3) := lw_dr lw_d_cX12_on_0 39 rfl
theorem lw_d_cX12_on_66 : lw_dl cX12_on [(66, .putfield 505, 3), (69, .aload_n 0, 1), (70, .aload_n 0, 1), (71, .getfield 7, 3), (74, .iload_n 1, 1), (75, .iconst 2, 1), (76, .isub, 1), (77, .iaload, 1), (78, .invokevirtual 508, 3), (81, .ifCond .ne 9, 3), (90, .iconst 0, 1), (91, .istore_n 2, 1), (92, .iload_n 2, 1), (93, .aload_n 0, 1), (94, .getfield 240, 3), (97, .if_icmp .ge 55, 3), (152, .iconst 1, 1), (153, .ireturn, 1), (100, .sipush 256, 3), (103, .aload_n 0, 1), (104, .getfield 7, 3), (107, .iconst 2, 1), (108, .iload_n 2, 1), (109, .imul, 1), (110, .iaload, 1), (111, .imul, 1), (112, .aload_n 0, 1), (113, .getfield 7, 3), (116, .iconst 2, 1), (117, .iload_n 2, 1), (118, .imul, 1), (119, .iconst 1, 1), (120, .iadd, 1), (121, .iaload, 1), (122, .iadd, 1), (123, .istore_n 3, 1), (124, .aload_n 0, 1), (125, .getfield 100, 3), (128, .iload_n 2, 1), (129, .iload_n 3, 1)] = true := by decide +kernel
theorem dX12_on_66 : decode cX12_on 66 = .ok (.putfield 505, 3) := lw_dr lw_d_cX12_on_66 0 rfl
theorem dX12_on_69 : decode cX12_on 69 = .ok (.aload_n 0, 1) := lw_dr lw_d_cX12_on_66 1 rfl
theorem dX12_on_70 : decode cX12_on 70 = .ok (.aload_n 0, 1) := lw_dr lw_d_cX12_on_66 2 rfl
theorem dX12_on_71 : decode cX12_on 71 = .ok (.getfield 7, 3) := lw_dr lw_d_cX12_on_66 3 rfl
theorem dX12_on_74 : decode cX12_on 74 = .ok (.iload_n 1, 1) := lw_dr lw_d_cX12_on_66 4 rfl
theorem dX12_on_75 : decode cX12_on 75 = .ok (.iconst 2, 1) := lw_dr lw_d_cX12_on_66 5 rfl
theorem dX12_on_76 : decode cX12_on 76 = .ok (.isub, 1) := lw_dr lw_d_cX12_on_66 6 rfl
theorem dX12_on_77 : decode cX12_on 77 = .ok (.iaload, 1) := lw_dr lw_d_cX12_on_66 7 rfl
theorem dX12_on_78 : decode cX12_on 78 = .ok (.invokevirtual 508, 3) := lw_dr lw_d_cX12_on_66 8 rfl
theorem dX12_on_81 : decode cX12_on 81 = .ok (.ifCond .ne 9, 3) := lw_dr lw_d_cX12_on_66 9 rfl
theorem dX12_on_90 : decode cX12_on 90 = .ok (.iconst 0, 1) := lw_dr lw_d_cX12_on_66 10 rfl
theorem dX12_on_91 : decode cX12_on 91 = .ok (.istore_n 2, 1) := lw_dr lw_d_cX12_on_66 11 rfl
theorem dX12_on_92 : decode cX12_on 92 = .ok (.iload_n 2, 1) := lw_dr lw_d_cX12_on_66 12 rfl
theorem dX12_on_93 : decode cX12_on 93 = .ok (.aload_n 0, 1) := lw_dr lw_d_cX12_on_66 13 rfl
theorem dX12_on_94 : decode cX12_on 94 = .ok (.getfield 240, 3) := lw_dr lw_d_cX12_on_66 14 rfl
theorem dX12_on_97 : decode cX12_on 97 = .ok (.if_icmp .ge 55, 3) := lw_dr lw_d_cX12_on_66 15 rfl
theorem dX12_on_152 : decode cX12_on 152 = .ok (.iconst 1, 1) := lw_dr lw_d_cX12_on_66 16 rfl
theorem dX12_on_153 : decode cX12_on 153 = .ok (.ireturn, 1) := lw_dr lw_d_cX12_on_66 17 rfl
theorem dX12_on_100 : decode cX12_on 100 = .ok (.sipush 256, 3) := lw_dr lw_d_cX12_on_66 18 rfl
theorem dX12_on_103 : decode cX12_on 103 = .ok (.aload_n 0, 1) := lw_dr lw_d_cX12_on_66 19 rfl
theorem dX12_on_104 : decode cX12_on 104 = .ok (.getfield 7, 3) := lw_dr lw_d_cX12_on_66 20 rfl
theorem dX12_on_107 : decode cX12_on 107 = .ok (.iconst 2, 1) := lw_dr lw_d_cX12_on_66 21 rfl
theorem dX12_on_108 : decode cX12_on 108 = .ok (.iload_n 2, 1) := lw_dr lw_d_cX12_on_66 22 rfl
theorem dX12_on_109 : decode cX12_on 109 = .ok (.imul, 1) := lw_dr lw_d_cX12_on_66 23 rfl
theorem dX12_on_110 : decode cX12_on 110 = .ok (.iaload, 1) := lw_dr lw_d_cX12_on_66 24 rfl
theorem dX12_on_111 : decode cX12_on 111 = .ok (.imul, 1) := lw_dr lw_d_cX12_on_66 25 rfl
theorem dX12_on_112 : decode cX12_on 112 = .ok (.aload_n 0, 1) := lw_dr lw_d_cX12_on_66 26 rfl
theorem dX12_on_113 : decode cX12_on 113 = .ok (.getfield 7, 3) := lw_dr lw_d_cX12_on_66 27 rfl
theorem dX12_on_116 : decode cX12_on 116 = .ok (.iconst 2, 1) := lw_dr lw_d_cX12_on_66 28 rfl
theorem dX12_on_117 : decode cX12_on 117 = .ok (.iload_n 2, 1) := lw_dr lw_d_cX12_on_66 29 rfl
theorem dX12_on_118 : decode cX12_on 118 = .ok (.imul, 1) := lw_dr lw_d_cX12_on_66 30 rfl
theorem dX12_on_119 : decode cX12_on 119 = .ok (.iconst 1, 1) := lw_dr lw_d_cX12_on_66 31 rfl
theorem dX12_on_120 : decode cX12_on 120 = .ok (.iadd, 1) := lw_dr lw_d_cX12_on_66 32 rfl
theorem dX12_on_121 : decode cX12_on 121 = .ok (.iaload, 1) := lw_dr lw_d_cX12_on_66 33 rfl
theorem dX12_on_122 : decode cX12_on 122 = .ok (.iadd, 1) := lw_dr lw_d_cX12_on_66 34 rfl
theorem dX12_on_123 : decode cX12_on 123 = .ok (.istore_n 3, 1) := lw_dr lw_d_cX12_on_66 35 rfl
theorem dX12_on_124 : decode cX12_on 124 = .ok (.aload_n 0, 1) := lw_dr lw_d_cX12_on_66 36 rfl
theorem dX12_on_125 : decode cX12_on 125 = .ok (.getfield 100, 3) := lw_dr lw_d_cX12_on_66 37 rfl
theorem dX12_on_128 : decode cX12_on 128 = .ok (.iload_n 2, 1) := lw_dr lw_d_cX12_on_66 38 rfl
theorem dX12_on_129 : decode cX12_on 129 = .ok (.iload_n 3, 1) := lw_dr lw_d_cX12_on_66 39 rfl
theorem lw_d_cX12_on_130 : lw_dl cX12_on [(130, .sipush 32767, 3), (133, .if_icmp .le 11, 3), (144, .iload_n 3, 1), (145, .iastore, 1), (146, .iinc 2 1, 3), (149, .goto (-57), 3), (136, .iload_n 3, 1), (137, .ldc_w 370, 3), (140, .isub, 1), (141, .goto 4, 3), (84, .aload_n 0, 1), (85, .invokevirtual 511, 3), (88, .iconst 0, 1), (89, .ireturn, 1)] = true := by decide +kernel
theorem dX12_on_130 : decode cX12_on 130 = .ok (.sipush 32767, 3) := lw_dr lw_d_cX12_on_130 0 rfl
theorem dX12_on_133 : decode cX12_on 133 = .ok (.if_icmp .le 11, 3) := lw_dr lw_d_cX12_on_130 1 rfl
theorem dX12_on_144 : decode cX12_on 144 = .ok (.iload_n 3, 1) := lw_dr lw_d_cX12_on_130 2 rfl
theorem dX12_on_145 : decode cX12_on 145 = .ok (.iastore, 1) := lw_dr lw_d_cX12_on_130 3 rfl
theorem dX12_on_146 : decode cX12_on 146 = .ok (.iinc 2 1, 3) := lw_dr lw_d_cX12_on_130 4 rfl
theorem dX12_on_149 : decode cX12_on 149 = .ok (.goto (-57), 3) := lw_dr lw_d_cX12_on_130 5 rfl
theorem dX12_on_136 : decode cX12_on 136 = .ok (.iload_n 3, 1) := lw_dr lw_d_cX12_on_130 6 rfl
theorem dX12_on_137 : decode cX12_on 137 = .ok (.ldc_w 370, 3) := lw_dr lw_d_cX12_on_130 7 rfl
theorem dX12_on_140 : decode cX12_on 140 = .ok (.isub, 1) := lw_dr lw_d_cX12_on_130 8 rfl
theorem dX12_on_141 : decode cX12_on 141 = .ok (.goto 4, 3) := lw_dr lw_d_cX12_on_130 9 rfl
theorem dX12_on_84 : decode cX12_on 84 = .ok (.aload_n 0, 1) := lw_dr lw_d_cX12_on_130 10 rfl
theorem dX12_on_85 : decode cX12_on 85 = .ok (.invokevirtual 511, 3) := lw_dr lw_d_cX12_on_130 11 rfl
theorem dX12_on_88 : decode cX12_on 88 = .ok (.iconst 0, 1) := lw_dr lw_d_cX12_on_130 12 rfl
theorem dX12_on_89 : decode cX12_on 89 = .ok (.ireturn, 1) := lw_dr lw_d_cX12_on_130 13 rfl
theorem lw_d_cX12_canLead_0 : lw_dl cX12_canLead [(0, .aload_n 0, 1), (1, .invokevirtual 249, 3), (4, .aload_n 0, 1), (5, .getfield 349, 3), (8, .iload_n 1, 1), (9, .if_icmp .ge 35, 3), (44, .aload_n 0, 1), (45, .getfield 349, 3), (48, .iload_n 1, 1), (49, .if_icmp .ne 7, 3), (56, .iconst 0, 1), (57, .ireturn, 1), (52, .iconst 1, 1), (53, .goto 4, 3), (12, .aload_n 0, 1), (13, .invokevirtual 442, 3), (16, .ifCond .eq 28, 3), (19, .aload_n 0, 1), (20, .aload_n 0, 1), (21, .getfield 349, 3), (24, .bipush 40, 2), (26, .if_icmp .ge 10, 3), (36, .bipush 40, 2), (38, .putfield 352, 3), (41, .goto (-37), 3), (29, .aload_n 0, 1), (30, .getfield 349, 3), (33, .goto 5, 3)] = true := by decide +kernel
theorem dX12_canLead_0 : decode cX12_canLead 0 = .ok (.aload_n 0, 1) := lw_dr lw_d_cX12_canLead_0 0 rfl
theorem dX12_canLead_1 : decode cX12_canLead 1 = .ok (.invokevirtual 249, 3) := lw_dr lw_d_cX12_canLead_0 1 rfl
theorem dX12_canLead_4 : decode cX12_canLead 4 = .ok (.aload_n 0, 1) := lw_dr lw_d_cX12_canLead_0 2 rfl
theorem dX12_canLead_5 : decode cX12_canLead 5 = .ok (.getfield 349, 3) := lw_dr lw_d_cX12_canLead_0 3 rfl
theorem dX12_canLead_8 : decode cX12_canLead 8 = .ok (.iload_n 1, 1) := lw_dr lw_d_cX12_canLead_0 4 rfl
theorem dX12_canLead_9 : decode cX12_canLead 9 = .ok (.if_icmp .ge 35, 3) := lw_dr lw_d_cX12_canLead_0 5 rfl
theorem dX12_canLead_44 : decode cX12_canLead 44 = .ok (.aload_n 0, 1) := lw_dr lw_d_cX12_canLead_0 6 rfl
theorem dX12_canLead_45 : decode cX12_canLead 45 = .ok (.getfield 349, 3) := lw_dr lw_d_cX12_canLead_0 7 rfl
theorem dX12_canLead_48 : decode cX12_canLead 48 = .ok (.iload_n 1, 1) := lw_dr lw_d_cX12_canLead_0 8 rfl
theorem dX12_canLead_49 : decode cX12_canLead 49 = .ok (.if_icmp .ne 7, 3) := lw_dr lw_d_cX12_canLead_0 9 rfl
theorem dX12_canLead_56 : decode cX12_canLead 56 = .ok (.iconst 0, 1) := lw_dr lw_d_cX12_canLead_0 10 rfl
theorem dX12_canLead_57 : decode cX12_canLead 57 = .ok (.ireturn, 1) := lw_dr lw_d_cX12_canLead_0 11 rfl
theorem dX12_canLead_52 : decode cX12_canLead 52 = .ok (.iconst 1, 1) := lw_dr lw_d_cX12_canLead_0 12 rfl
theorem dX12_canLead_53 : decode cX12_canLead 53 = .ok (.goto 4, 3) := lw_dr lw_d_cX12_canLead_0 13 rfl
theorem dX12_canLead_12 : decode cX12_canLead 12 = .ok (.aload_n 0, 1) := lw_dr lw_d_cX12_canLead_0 14 rfl
theorem dX12_canLead_13 : decode cX12_canLead 13 = .ok (.invokevirtual 442, 3) := lw_dr lw_d_cX12_canLead_0 15 rfl
theorem dX12_canLead_16 : decode cX12_canLead 16 = .ok (.ifCond .eq 28, 3) := lw_dr lw_d_cX12_canLead_0 16 rfl
theorem dX12_canLead_19 : decode cX12_canLead 19 = .ok (.aload_n 0, 1) := lw_dr lw_d_cX12_canLead_0 17 rfl
theorem dX12_canLead_20 : decode cX12_canLead 20 = .ok (.aload_n 0, 1) := lw_dr lw_d_cX12_canLead_0 18 rfl
theorem dX12_canLead_21 : decode cX12_canLead 21 = .ok (.getfield 349, 3) := lw_dr lw_d_cX12_canLead_0 19 rfl
theorem dX12_canLead_24 : decode cX12_canLead 24 = .ok (.bipush 40, 2) := lw_dr lw_d_cX12_canLead_0 20 rfl
theorem dX12_canLead_26 : decode cX12_canLead 26 = .ok (.if_icmp .ge 10, 3) := lw_dr lw_d_cX12_canLead_0 21 rfl
theorem dX12_canLead_36 : decode cX12_canLead 36 = .ok (.bipush 40, 2) := lw_dr lw_d_cX12_canLead_0 22 rfl
theorem dX12_canLead_38 : decode cX12_canLead 38 = .ok (.putfield 352, 3) := lw_dr lw_d_cX12_canLead_0 23 rfl
theorem dX12_canLead_41 : decode cX12_canLead 41 = .ok (.goto (-37), 3) := lw_dr lw_d_cX12_canLead_0 24 rfl
theorem dX12_canLead_29 : decode cX12_canLead 29 = .ok (.aload_n 0, 1) := lw_dr lw_d_cX12_canLead_0 25 rfl
theorem dX12_canLead_30 : decode cX12_canLead 30 = .ok (.getfield 349, 3) := lw_dr lw_d_cX12_canLead_0 26 rfl
theorem dX12_canLead_33 : decode cX12_canLead 33 = .ok (.goto 5, 3) := lw_dr lw_d_cX12_canLead_0 27 rfl
theorem lw_d_cX12_takesBack_0 : lw_dl cX12_takesBack [(0, .aload_n 0, 1), (1, .getfield 499, 3), (4, .aload_n 0, 1), (5, .getfield 505, 3), (8, .iadd, 1), (9, .istore_n 1, 1), (10, .aload_n 0, 1), (11, .iload_n 1, 1), (12, .invokevirtual 508, 3), (15, .istore_n 2, 1), (16, .aload_n 0, 1), (17, .getfield 349, 3), (20, .aload_n 0, 1), (21, .getfield 499, 3), (24, .if_icmp .le 48, 3), (72, .aload_n 0, 1), (73, .aload_n 0, 1), (74, .getfield 502, 3), (77, .putfield 352, 3), (80, .aload_n 0, 1), (81, .aload_n 0, 1), (82, .getfield 505, 3), (85, .putfield 355, 3), (88, .return_, 1), (27, .aload_n 0, 1), (28, .dup, 1), (29, .getfield 349, 3), (32, .iconst 1, 1), (33, .isub, 1), (34, .putfield 349, 3), (37, .aload_n 0, 1), (38, .aload_n 0, 1), (39, .getfield 124, 3), (42, .aload_n 0, 1), (43, .getfield 349, 3), (46, .iaload, 1), (47, .aload_n 0, 1), (48, .getfield 127, 3), (51, .aload_n 0, 1), (52, .getfield 349, 3)] = true := by decide +kernel
theorem dX12_takesBack_0 : decode cX12_takesBack 0 = .ok (.aload_n 0, 1) := lw_dr lw_d_cX12_takesBack_0 0 rfl
theorem dX12_takesBack_1 : decode cX12_takesBack 1 = .ok (.getfield 499, 3) := lw_dr lw_d_cX12_takesBack_0 1 rfl
theorem dX12_takesBack_4 : decode cX12_takesBack 4 = .ok (.aload_n 0, 1) := lw_dr lw_d_cX12_takesBack_0 2 rfl
theorem dX12_takesBack_5 : decode cX12_takesBack 5 = .ok (.getfield 505, 3) := lw_dr lw_d_cX12_takesBack_0 3 rfl
theorem dX12_takesBack_8 : decode cX12_takesBack 8 = .ok (.iadd, 1) := lw_dr lw_d_cX12_takesBack_0 4 rfl
theorem dX12_takesBack_9 : decode cX12_takesBack 9 = .ok (.istore_n 1, 1) := lw_dr lw_d_cX12_takesBack_0 5 rfl
theorem dX12_takesBack_10 : decode cX12_takesBack 10 = .ok (.aload_n 0, 1) := lw_dr lw_d_cX12_takesBack_0 6 rfl
theorem dX12_takesBack_11 : decode cX12_takesBack 11 = .ok (.iload_n 1, 1) := lw_dr lw_d_cX12_takesBack_0 7 rfl
theorem dX12_takesBack_12 : decode cX12_takesBack 12 = .ok (.invokevirtual 508, 3) := lw_dr lw_d_cX12_takesBack_0 8 rfl
theorem dX12_takesBack_15 : decode cX12_takesBack 15 = .ok (.istore_n 2, 1) := lw_dr lw_d_cX12_takesBack_0 9 rfl
theorem dX12_takesBack_16 : decode cX12_takesBack 16 = .ok (.aload_n 0, 1) := lw_dr lw_d_cX12_takesBack_0 10 rfl
theorem dX12_takesBack_17 : decode cX12_takesBack 17 = .ok (.getfield 349, 3) := lw_dr lw_d_cX12_takesBack_0 11 rfl
theorem dX12_takesBack_20 : decode cX12_takesBack 20 = .ok (.aload_n 0, 1) := lw_dr lw_d_cX12_takesBack_0 12 rfl
theorem dX12_takesBack_21 : decode cX12_takesBack 21 = .ok (.getfield 499, 3) := lw_dr lw_d_cX12_takesBack_0 13 rfl
theorem dX12_takesBack_24 : decode cX12_takesBack 24 = .ok (.if_icmp .le 48, 3) := lw_dr lw_d_cX12_takesBack_0 14 rfl
theorem dX12_takesBack_72 : decode cX12_takesBack 72 = .ok (.aload_n 0, 1) := lw_dr lw_d_cX12_takesBack_0 15 rfl
theorem dX12_takesBack_73 : decode cX12_takesBack 73 = .ok (.aload_n 0, 1) := lw_dr lw_d_cX12_takesBack_0 16 rfl
theorem dX12_takesBack_74 : decode cX12_takesBack 74 = .ok (.getfield 502, 3) := lw_dr lw_d_cX12_takesBack_0 17 rfl
theorem dX12_takesBack_77 : decode cX12_takesBack 77 = .ok (.putfield 352, 3) := lw_dr lw_d_cX12_takesBack_0 18 rfl
theorem dX12_takesBack_80 : decode cX12_takesBack 80 = .ok (.aload_n 0, 1) := lw_dr lw_d_cX12_takesBack_0 19 rfl
theorem dX12_takesBack_81 : decode cX12_takesBack 81 = .ok (.aload_n 0, 1) := lw_dr lw_d_cX12_takesBack_0 20 rfl
theorem dX12_takesBack_82 : decode cX12_takesBack 82 = .ok (.getfield 505, 3) := lw_dr lw_d_cX12_takesBack_0 21 rfl
theorem dX12_takesBack_85 : decode cX12_takesBack 85 = .ok (.putfield 355, 3) := lw_dr lw_d_cX12_takesBack_0 22 rfl
theorem dX12_takesBack_88 : decode cX12_takesBack 88 = .ok (.return_, 1) := lw_dr lw_d_cX12_takesBack_0 23 rfl
theorem dX12_takesBack_27 : decode cX12_takesBack 27 = .ok (.aload_n 0, 1) := lw_dr lw_d_cX12_takesBack_0 24 rfl
theorem dX12_takesBack_28 : decode cX12_takesBack 28 = .ok (.dup, 1) := lw_dr lw_d_cX12_takesBack_0 25 rfl
theorem dX12_takesBack_29 : decode cX12_takesBack 29 = .ok (.getfield 349, 3) := lw_dr lw_d_cX12_takesBack_0 26 rfl
theorem dX12_takesBack_32 : decode cX12_takesBack 32 = .ok (.iconst 1, 1) := lw_dr lw_d_cX12_takesBack_0 27 rfl
theorem dX12_takesBack_33 : decode cX12_takesBack 33 = .ok (.isub, 1) := lw_dr lw_d_cX12_takesBack_0 28 rfl
theorem dX12_takesBack_34 : decode cX12_takesBack 34 = .ok (.putfield 349, 3) := lw_dr lw_d_cX12_takesBack_0 29 rfl
theorem dX12_takesBack_37 : decode cX12_takesBack 37 = .ok (.aload_n 0, 1) := lw_dr lw_d_cX12_takesBack_0 30 rfl
theorem dX12_takesBack_38 : decode cX12_takesBack 38 = .ok (.aload_n 0, 1) := lw_dr lw_d_cX12_takesBack_0 31 rfl
theorem dX12_takesBack_39 : decode cX12_takesBack 39 = .ok (.getfield 124, 3) := lw_dr lw_d_cX12_takesBack_0 32 rfl
theorem dX12_takesBack_42 : decode cX12_takesBack 42 = .ok (.aload_n 0, 1) := lw_dr lw_d_cX12_takesBack_0 33 rfl
theorem dX12_takesBack_43 : decode cX12_takesBack 43 = .ok (.getfield 349, 3) := lw_dr lw_d_cX12_takesBack_0 34 rfl
theorem dX12_takesBack_46 : decode cX12_takesBack 46 = .ok (.iaload, 1) := lw_dr lw_d_cX12_takesBack_0 35 rfl
theorem dX12_takesBack_47 : decode cX12_takesBack 47 = .ok (.aload_n 0, 1) := lw_dr lw_d_cX12_takesBack_0 36 rfl
theorem dX12_takesBack_48 : decode cX12_takesBack 48 = .ok (.getfield 127, 3) := lw_dr lw_d_cX12_takesBack_0 37 rfl
theorem dX12_takesBack_51 : decode cX12_takesBack 51 = .ok (.aload_n 0, 1) := lw_dr lw_d_cX12_takesBack_0 38 rfl
theorem dX12_takesBack_52 : decode cX12_takesBack 52 = .ok (.getfield 349, 3) := lw_dr lw_d_cX12_takesBack_0 39 rfl
theorem lw_d_cX12_takesBack_55 : lw_dl cX12_takesBack [(55, .iaload, 1), (56, .aload_n 0, 1), (57, .getfield 130, 3), (60, .aload_n 0, 1), (61, .getfield 349, 3), (64, .iaload, 1), (65, .ineg, 1), (66, .invokevirtual 436, 3), (69, .goto (-53), 3)] = true := by decide +kernel
theorem dX12_takesBack_55 : decode cX12_takesBack 55 = .ok (.iaload, 1) := lw_dr lw_d_cX12_takesBack_55 0 rfl
theorem dX12_takesBack_56 : decode cX12_takesBack 56 = .ok (.aload_n 0, 1) := lw_dr lw_d_cX12_takesBack_55 1 rfl
theorem dX12_takesBack_57 : decode cX12_takesBack 57 = .ok (.getfield 130, 3) := lw_dr lw_d_cX12_takesBack_55 2 rfl
theorem dX12_takesBack_60 : decode cX12_takesBack 60 = .ok (.aload_n 0, 1) := lw_dr lw_d_cX12_takesBack_55 3 rfl
theorem dX12_takesBack_61 : decode cX12_takesBack 61 = .ok (.getfield 349, 3) := lw_dr lw_d_cX12_takesBack_55 4 rfl
theorem dX12_takesBack_64 : decode cX12_takesBack 64 = .ok (.iaload, 1) := lw_dr lw_d_cX12_takesBack_55 5 rfl
theorem dX12_takesBack_65 : decode cX12_takesBack 65 = .ok (.ineg, 1) := lw_dr lw_d_cX12_takesBack_55 6 rfl
theorem dX12_takesBack_66 : decode cX12_takesBack 66 = .ok (.invokevirtual 436, 3) := lw_dr lw_d_cX12_takesBack_55 7 rfl
theorem dX12_takesBack_69 : decode cX12_takesBack 69 = .ok (.goto (-53), 3) := lw_dr lw_d_cX12_takesBack_55 8 rfl
