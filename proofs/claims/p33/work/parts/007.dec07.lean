theorem lw_d_cX3_putAhead_29 : lw_dl cX3_putAhead [(29, .ifCond .le 8, 3), (37, .aload_n 0, 1), (38, .getfield 22, 3), (41, .iconst 0, 1), (42, .aload_n 0, 1), (43, .getfield 18, 3), (46, .iconst 0, 1), (47, .iconst 5, 1), (48, .invokestatic 71, 3), (51, .aload_n 0, 1), (52, .iconst 1, 1), (53, .putfield 39, 3), (56, .lload_n 3, 1), (57, .lreturn, 1), (32, .aload_n 0, 1), (33, .invokevirtual 67, 3), (36, .lreturn, 1)] = true := by decide +kernel
theorem dX3_putAhead_29 : decode cX3_putAhead 29 = .ok (.ifCond .le 8, 3) := lw_dr lw_d_cX3_putAhead_29 0 rfl
theorem dX3_putAhead_37 : decode cX3_putAhead 37 = .ok (.aload_n 0, 1) := lw_dr lw_d_cX3_putAhead_29 1 rfl
theorem dX3_putAhead_38 : decode cX3_putAhead 38 = .ok (.getfield 22, 3) := lw_dr lw_d_cX3_putAhead_29 2 rfl
theorem dX3_putAhead_41 : decode cX3_putAhead 41 = .ok (.iconst 0, 1) := lw_dr lw_d_cX3_putAhead_29 3 rfl
theorem dX3_putAhead_42 : decode cX3_putAhead 42 = .ok (.aload_n 0, 1) := lw_dr lw_d_cX3_putAhead_29 4 rfl
theorem dX3_putAhead_43 : decode cX3_putAhead 43 = .ok (.getfield 18, 3) := lw_dr lw_d_cX3_putAhead_29 5 rfl
theorem dX3_putAhead_46 : decode cX3_putAhead 46 = .ok (.iconst 0, 1) := lw_dr lw_d_cX3_putAhead_29 6 rfl
theorem dX3_putAhead_47 : decode cX3_putAhead 47 = .ok (.iconst 5, 1) := lw_dr lw_d_cX3_putAhead_29 7 rfl
theorem dX3_putAhead_48 : decode cX3_putAhead 48 = .ok (.invokestatic 71, 3) := lw_dr lw_d_cX3_putAhead_29 8 rfl
theorem dX3_putAhead_51 : decode cX3_putAhead 51 = .ok (.aload_n 0, 1) := lw_dr lw_d_cX3_putAhead_29 9 rfl
theorem dX3_putAhead_52 : decode cX3_putAhead 52 = .ok (.iconst 1, 1) := lw_dr lw_d_cX3_putAhead_29 10 rfl
theorem dX3_putAhead_53 : decode cX3_putAhead 53 = .ok (.putfield 39, 3) := lw_dr lw_d_cX3_putAhead_29 11 rfl
theorem dX3_putAhead_56 : decode cX3_putAhead 56 = .ok (.lload_n 3, 1) := lw_dr lw_d_cX3_putAhead_29 12 rfl
theorem dX3_putAhead_57 : decode cX3_putAhead 57 = .ok (.lreturn, 1) := lw_dr lw_d_cX3_putAhead_29 13 rfl
theorem dX3_putAhead_32 : decode cX3_putAhead 32 = .ok (.aload_n 0, 1) := lw_dr lw_d_cX3_putAhead_29 14 rfl
theorem dX3_putAhead_33 : decode cX3_putAhead 33 = .ok (.invokevirtual 67, 3) := lw_dr lw_d_cX3_putAhead_29 15 rfl
theorem dX3_putAhead_36 : decode cX3_putAhead 36 = .ok (.lreturn, 1) := lw_dr lw_d_cX3_putAhead_29 16 rfl
theorem lw_d_cX3_refuse_0 : lw_dl cX3_refuse [(0, .aload_n 0, 1), (1, .iconst 0, 1), (2, .putfield 39, 3), (5, .ldc2_w 43, 3), (8, .lreturn, 1)] = true := by decide +kernel
theorem dX3_refuse_0 : decode cX3_refuse 0 = .ok (.aload_n 0, 1) := lw_dr lw_d_cX3_refuse_0 0 rfl
theorem dX3_refuse_1 : decode cX3_refuse 1 = .ok (.iconst 0, 1) := lw_dr lw_d_cX3_refuse_0 1 rfl
theorem dX3_refuse_2 : decode cX3_refuse 2 = .ok (.putfield 39, 3) := lw_dr lw_d_cX3_refuse_0 2 rfl
theorem dX3_refuse_5 : decode cX3_refuse 5 = .ok (.ldc2_w 43, 3) := lw_dr lw_d_cX3_refuse_0 3 rfl
theorem dX3_refuse_8 : decode cX3_refuse 8 = .ok (.lreturn, 1) := lw_dr lw_d_cX3_refuse_0 4 rfl
theorem lw_d_cX11_feed_0 : lw_dl cX11_feed [(0, .aload_n 0, 1), (1, .getfield 20, 3), (4, .bipush 20, 2), (6, .invokevirtual 83, 3), (9, .ifCond .ne 5, 3), (14, .aload_n 0, 1), (15, .getfield 20, 3), (18, .iload_n 1, 1), (19, .invokevirtual 89, 3), (22, .aload_n 0, 1), (23, .getfield 20, 3), (26, .iload_n 2, 1), (27, .invokevirtual 89, 3), (30, .aload_n 0, 1), (31, .getfield 20, 3), (34, .iload_n 3, 1), (35, .invokevirtual 89, 3), (38, .aload_n 0, 1), (39, .getfield 20, 3), (42, .iload 4, 2), (44, .invokevirtual 89, 3), (47, .aload_n 0, 1), (48, .getfield 20, 3), (51, .iload 5, 2), (53, .invokevirtual 89, 3), (56, .aload_n 0, 1), (57, .getfield 20, 3), (60, .invokevirtual 93, 3), (63, .ireturn, 1), (12, .iconst (-1), 1), (13, .ireturn, 1)] = true := by decide +kernel
theorem dX11_feed_0 : decode cX11_feed 0 = .ok (.aload_n 0, 1) := lw_dr lw_d_cX11_feed_0 0 rfl
theorem dX11_feed_1 : decode cX11_feed 1 = .ok (.getfield 20, 3) := lw_dr lw_d_cX11_feed_0 1 rfl
theorem dX11_feed_4 : decode cX11_feed 4 = .ok (.bipush 20, 2) := lw_dr lw_d_cX11_feed_0 2 rfl
theorem dX11_feed_6 : decode cX11_feed 6 = .ok (.invokevirtual 83, 3) := lw_dr lw_d_cX11_feed_0 3 rfl
theorem dX11_feed_9 : decode cX11_feed 9 = .ok (.ifCond .ne 5, 3) := lw_dr lw_d_cX11_feed_0 4 rfl
theorem dX11_feed_14 : decode cX11_feed 14 = .ok (.aload_n 0, 1) := lw_dr lw_d_cX11_feed_0 5 rfl
theorem dX11_feed_15 : decode cX11_feed 15 = .ok (.getfield 20, 3) := lw_dr lw_d_cX11_feed_0 6 rfl
theorem dX11_feed_18 : decode cX11_feed 18 = .ok (.iload_n 1, 1) := lw_dr lw_d_cX11_feed_0 7 rfl
theorem dX11_feed_19 : decode cX11_feed 19 = .ok (.invokevirtual 89, 3) := lw_dr lw_d_cX11_feed_0 8 rfl
theorem dX11_feed_22 : decode cX11_feed 22 = .ok (.aload_n 0, 1) := lw_dr lw_d_cX11_feed_0 9 rfl
theorem dX11_feed_23 : decode cX11_feed 23 = .ok (.getfield 20, 3) := lw_dr lw_d_cX11_feed_0 10 rfl
theorem dX11_feed_26 : decode cX11_feed 26 = .ok (.iload_n 2, 1) := lw_dr lw_d_cX11_feed_0 11 rfl
theorem dX11_feed_27 : decode cX11_feed 27 = .ok (.invokevirtual 89, 3) := lw_dr lw_d_cX11_feed_0 12 rfl
theorem dX11_feed_30 : decode cX11_feed 30 = .ok (.aload_n 0, 1) := lw_dr lw_d_cX11_feed_0 13 rfl
theorem dX11_feed_31 : decode cX11_feed 31 = .ok (.getfield 20, 3) := lw_dr lw_d_cX11_feed_0 14 rfl
theorem dX11_feed_34 : decode cX11_feed 34 = .ok (.iload_n 3, 1) := lw_dr lw_d_cX11_feed_0 15 rfl
theorem dX11_feed_35 : decode cX11_feed 35 = .ok (.invokevirtual 89, 3) := lw_dr lw_d_cX11_feed_0 16 rfl
theorem dX11_feed_38 : decode cX11_feed 38 = .ok (.aload_n 0, 1) := lw_dr lw_d_cX11_feed_0 17 rfl
theorem dX11_feed_39 : decode cX11_feed 39 = .ok (.getfield 20, 3) := lw_dr lw_d_cX11_feed_0 18 rfl
theorem dX11_feed_42 : decode cX11_feed 42 = .ok (.iload 4, 2) := lw_dr lw_d_cX11_feed_0 19 rfl
theorem dX11_feed_44 : decode cX11_feed 44 = .ok (.invokevirtual 89, 3) := lw_dr lw_d_cX11_feed_0 20 rfl
theorem dX11_feed_47 : decode cX11_feed 47 = .ok (.aload_n 0, 1) := lw_dr lw_d_cX11_feed_0 21 rfl
theorem dX11_feed_48 : decode cX11_feed 48 = .ok (.getfield 20, 3) := lw_dr lw_d_cX11_feed_0 22 rfl
theorem dX11_feed_51 : decode cX11_feed 51 = .ok (.iload 5, 2) := lw_dr lw_d_cX11_feed_0 23 rfl
theorem dX11_feed_53 : decode cX11_feed 53 = .ok (.invokevirtual 89, 3) := lw_dr lw_d_cX11_feed_0 24 rfl
theorem dX11_feed_56 : decode cX11_feed 56 = .ok (.aload_n 0, 1) := lw_dr lw_d_cX11_feed_0 25 rfl
theorem dX11_feed_57 : decode cX11_feed 57 = .ok (.getfield 20, 3) := lw_dr lw_d_cX11_feed_0 26 rfl
theorem dX11_feed_60 : decode cX11_feed 60 = .ok (.invokevirtual 93, 3) := lw_dr lw_d_cX11_feed_0 27 rfl
theorem dX11_feed_63 : decode cX11_feed 63 = .ok (.ireturn, 1) := lw_dr lw_d_cX11_feed_0 28 rfl
theorem dX11_feed_12 : decode cX11_feed 12 = .ok (.iconst (-1), 1) := lw_dr lw_d_cX11_feed_0 29 rfl
theorem dX11_feed_13 : decode cX11_feed 13 = .ok (.ireturn, 1) := lw_dr lw_d_cX11_feed_0 30 rfl
theorem lw_d_cX11_end_0 : lw_dl cX11_end [(0, .iload_n 1, 1), (1, .ifCond .lt 14, 3), (15, .iconst 0, 1), (16, .ireturn, 1), (4, .iload_n 1, 1), (5, .aload_n 0, 1), (6, .getfield 20, 3), (9, .invokevirtual 93, 3), (12, .if_icmp .le 5, 3), (17, .aload_n 0, 1), (18, .getfield 20, 3), (21, .iload_n 1, 1), (22, .invokevirtual 97, 3), (25, .iconst 1, 1), (26, .ireturn, 1)] = true := by decide +kernel
theorem dX11_end_0 : decode cX11_end 0 = .ok (.iload_n 1, 1) := lw_dr lw_d_cX11_end_0 0 rfl
theorem dX11_end_1 : decode cX11_end 1 = .ok (.ifCond .lt 14, 3) := lw_dr lw_d_cX11_end_0 1 rfl
theorem dX11_end_15 : decode cX11_end 15 = .ok (.iconst 0, 1) := lw_dr lw_d_cX11_end_0 2 rfl
theorem dX11_end_16 : decode cX11_end 16 = .ok (.ireturn, 1) := lw_dr lw_d_cX11_end_0 3 rfl
theorem dX11_end_4 : decode cX11_end 4 = .ok (.iload_n 1, 1) := lw_dr lw_d_cX11_end_0 4 rfl
theorem dX11_end_5 : decode cX11_end 5 = .ok (.aload_n 0, 1) := lw_dr lw_d_cX11_end_0 5 rfl
theorem dX11_end_6 : decode cX11_end 6 = .ok (.getfield 20, 3) := lw_dr lw_d_cX11_end_0 6 rfl
theorem dX11_end_9 : decode cX11_end 9 = .ok (.invokevirtual 93, 3) := lw_dr lw_d_cX11_end_0 7 rfl
theorem dX11_end_12 : decode cX11_end 12 = .ok (.if_icmp .le 5, 3) := lw_dr lw_d_cX11_end_0 8 rfl
theorem dX11_end_17 : decode cX11_end 17 = .ok (.aload_n 0, 1) := lw_dr lw_d_cX11_end_0 9 rfl
theorem dX11_end_18 : decode cX11_end 18 = .ok (.getfield 20, 3) := lw_dr lw_d_cX11_end_0 10 rfl
theorem dX11_end_21 : decode cX11_end 21 = .ok (.iload_n 1, 1) := lw_dr lw_d_cX11_end_0 11 rfl
theorem dX11_end_22 : decode cX11_end 22 = .ok (.invokevirtual 97, 3) := lw_dr lw_d_cX11_end_0 12 rfl
theorem dX11_end_25 : decode cX11_end 25 = .ok (.iconst 1, 1) := lw_dr lw_d_cX11_end_0 13 rfl
theorem dX11_end_26 : decode cX11_end 26 = .ok (.ireturn, 1) := lw_dr lw_d_cX11_end_0 14 rfl
theorem lw_d_cX11_fault_0 : lw_dl cX11_fault [(0, .iload_n 1, 1), (1, .ifCond .ne 11, 3), (12, .iload_n 1, 1), (13, .iconst 1, 1), (14, .if_icmp .ne 13, 3), (27, .iconst (-1), 1), (28, .ireturn, 1), (17, .aload_n 0, 1), (18, .getfield 10, 3), (21, .getfield 130, 3), (24, .goto 4, 3), (4, .aload_n 0, 1), (5, .getfield 10, 3), (8, .getfield 127, 3), (11, .ireturn, 1)] = true := by decide +kernel
theorem dX11_fault_0 : decode cX11_fault 0 = .ok (.iload_n 1, 1) := lw_dr lw_d_cX11_fault_0 0 rfl
theorem dX11_fault_1 : decode cX11_fault 1 = .ok (.ifCond .ne 11, 3) := lw_dr lw_d_cX11_fault_0 1 rfl
theorem dX11_fault_12 : decode cX11_fault 12 = .ok (.iload_n 1, 1) := lw_dr lw_d_cX11_fault_0 2 rfl
theorem dX11_fault_13 : decode cX11_fault 13 = .ok (.iconst 1, 1) := lw_dr lw_d_cX11_fault_0 3 rfl
theorem dX11_fault_14 : decode cX11_fault 14 = .ok (.if_icmp .ne 13, 3) := lw_dr lw_d_cX11_fault_0 4 rfl
theorem dX11_fault_27 : decode cX11_fault 27 = .ok (.iconst (-1), 1) := lw_dr lw_d_cX11_fault_0 5 rfl
theorem dX11_fault_28 : decode cX11_fault 28 = .ok (.ireturn, 1) := lw_dr lw_d_cX11_fault_0 6 rfl
theorem dX11_fault_17 : decode cX11_fault 17 = .ok (.aload_n 0, 1) := lw_dr lw_d_cX11_fault_0 7 rfl
theorem dX11_fault_18 : decode cX11_fault 18 = .ok (.getfield 10, 3) := lw_dr lw_d_cX11_fault_0 8 rfl
theorem dX11_fault_21 : decode cX11_fault 21 = .ok (.getfield 130, 3) := lw_dr lw_d_cX11_fault_0 9 rfl
theorem dX11_fault_24 : decode cX11_fault 24 = .ok (.goto 4, 3) := lw_dr lw_d_cX11_fault_0 10 rfl
theorem dX11_fault_4 : decode cX11_fault 4 = .ok (.aload_n 0, 1) := lw_dr lw_d_cX11_fault_0 11 rfl
theorem dX11_fault_5 : decode cX11_fault 5 = .ok (.getfield 10, 3) := lw_dr lw_d_cX11_fault_0 12 rfl
theorem dX11_fault_8 : decode cX11_fault 8 = .ok (.getfield 127, 3) := lw_dr lw_d_cX11_fault_0 13 rfl
theorem dX11_fault_11 : decode cX11_fault 11 = .ok (.ireturn, 1) := lw_dr lw_d_cX11_fault_0 14 rfl
theorem lw_d_cX11_has_0 : lw_dl cX11_has [(0, .iload_n 1, 1), (1, .tableswitch 138 0 9 #[55, 63, 71, 79, 87, 95, 106, 114, 122, 130], 55), (56, .aload_n 0, 1), (57, .getfield 69, 3), (60, .getfield 133, 3), (63, .ireturn, 1), (64, .aload_n 0, 1), (65, .getfield 69, 3), (68, .getfield 136, 3), (71, .ireturn, 1), (72, .aload_n 0, 1), (73, .getfield 69, 3), (76, .getfield 139, 3), (79, .ireturn, 1), (80, .aload_n 0, 1), (81, .getfield 69, 3), (84, .getfield 142, 3), (87, .ireturn, 1), (88, .aload_n 0, 1), (89, .getfield 69, 3), (92, .getfield 145, 3), (95, .ireturn, 1), (96, .aload_n 0, 1), (97, .getfield 69, 3), (100, .getfield 148, 3), (103, .getfield 152, 3), (106, .ireturn, 1), (107, .aload_n 0, 1), (108, .getfield 69, 3), (111, .getfield 157, 3), (114, .ireturn, 1), (115, .aload_n 0, 1), (116, .getfield 76, 3), (119, .getfield 160, 3), (122, .ireturn, 1), (123, .aload_n 0, 1), (124, .getfield 76, 3), (127, .getfield 163, 3), (130, .ireturn, 1), (131, .aload_n 0, 1)] = true := by decide +kernel
theorem dX11_has_0 : decode cX11_has 0 = .ok (.iload_n 1, 1) := lw_dr lw_d_cX11_has_0 0 rfl
theorem dX11_has_1 : decode cX11_has 1 = .ok (.tableswitch 138 0 9 #[55, 63, 71, 79, 87, 95, 106, 114, 122, 130], 55) := lw_dr lw_d_cX11_has_0 1 rfl
theorem dX11_has_56 : decode cX11_has 56 = .ok (.aload_n 0, 1) := lw_dr lw_d_cX11_has_0 2 rfl
theorem dX11_has_57 : decode cX11_has 57 = .ok (.getfield 69, 3) := lw_dr lw_d_cX11_has_0 3 rfl
theorem dX11_has_60 : decode cX11_has 60 = .ok (.getfield 133, 3) := lw_dr lw_d_cX11_has_0 4 rfl
theorem dX11_has_63 : decode cX11_has 63 = .ok (.ireturn, 1) := lw_dr lw_d_cX11_has_0 5 rfl
theorem dX11_has_64 : decode cX11_has 64 = .ok (.aload_n 0, 1) := lw_dr lw_d_cX11_has_0 6 rfl
theorem dX11_has_65 : decode cX11_has 65 = .ok (.getfield 69, 3) := lw_dr lw_d_cX11_has_0 7 rfl
theorem dX11_has_68 : decode cX11_has 68 = .ok (.getfield 136, 3) := lw_dr lw_d_cX11_has_0 8 rfl
theorem dX11_has_71 : decode cX11_has 71 = .ok (.ireturn, 1) := lw_dr lw_d_cX11_has_0 9 rfl
theorem dX11_has_72 : decode cX11_has 72 = .ok (.aload_n 0, 1) := lw_dr lw_d_cX11_has_0 10 rfl
theorem dX11_has_73 : decode cX11_has 73 = .ok (.getfield 69, 3) := lw_dr lw_d_cX11_has_0 11 rfl
theorem dX11_has_76 : decode cX11_has 76 = .ok (.getfield 139, 3) := lw_dr lw_d_cX11_has_0 12 rfl
theorem dX11_has_79 : decode cX11_has 79 = .ok (.ireturn, 1) := lw_dr lw_d_cX11_has_0 13 rfl
theorem dX11_has_80 : decode cX11_has 80 = .ok (.aload_n 0, 1) := lw_dr lw_d_cX11_has_0 14 rfl
theorem dX11_has_81 : decode cX11_has 81 = .ok (.getfield 69, 3) := lw_dr lw_d_cX11_has_0 15 rfl
theorem dX11_has_84 : decode cX11_has 84 = .ok (.getfield 142, 3) := lw_dr lw_d_cX11_has_0 16 rfl
theorem dX11_has_87 : decode cX11_has 87 = .ok (.ireturn, 1) := lw_dr lw_d_cX11_has_0 17 rfl
theorem dX11_has_88 : decode cX11_has 88 = .ok (.aload_n 0, 1) := lw_dr lw_d_cX11_has_0 18 rfl
theorem dX11_has_89 : decode cX11_has 89 = .ok (.getfield 69, 3) := lw_dr lw_d_cX11_has_0 19 rfl
theorem dX11_has_92 : decode cX11_has 92 = .ok (.getfield 145, 3) := lw_dr lw_d_cX11_has_0 20 rfl
theorem dX11_has_95 : decode cX11_has 95 = .ok (.ireturn, 1) := lw_dr lw_d_cX11_has_0 21 rfl
theorem dX11_has_96 : decode cX11_has 96 = .ok (.aload_n 0, 1) := lw_dr lw_d_cX11_has_0 22 rfl
theorem dX11_has_97 : decode cX11_has 97 = .ok (.getfield 69, 3) := lw_dr lw_d_cX11_has_0 23 rfl
theorem dX11_has_100 : decode cX11_has 100 = .ok (.getfield 148, 3) := lw_dr lw_d_cX11_has_0 24 rfl
theorem dX11_has_103 : decode cX11_has 103 = .ok (.getfield 152, 3) := lw_dr lw_d_cX11_has_0 25 rfl
theorem dX11_has_106 : decode cX11_has 106 = .ok (.ireturn, 1) := lw_dr lw_d_cX11_has_0 26 rfl
theorem dX11_has_107 : decode cX11_has 107 = .ok (.aload_n 0, 1) := lw_dr lw_d_cX11_has_0 27 rfl
theorem dX11_has_108 : decode cX11_has 108 = .ok (.getfield 69, 3) := lw_dr lw_d_cX11_has_0 28 rfl
theorem dX11_has_111 : decode cX11_has 111 = .ok (.getfield 157, 3) := lw_dr lw_d_cX11_has_0 29 rfl
theorem dX11_has_114 : decode cX11_has 114 = .ok (.ireturn, 1) := lw_dr lw_d_cX11_has_0 30 rfl
theorem dX11_has_115 : decode cX11_has 115 = .ok (.aload_n 0, 1) := lw_dr lw_d_cX11_has_0 31 rfl
theorem dX11_has_116 : decode cX11_has 116 = .ok (.getfield 76, 3) := lw_dr lw_d_cX11_has_0 32 rfl
theorem dX11_has_119 : decode cX11_has 119 = .ok (.getfield 160, 3) := lw_dr lw_d_cX11_has_0 33 rfl
theorem dX11_has_122 : decode cX11_has 122 = .ok (.ireturn, 1) := lw_dr lw_d_cX11_has_0 34 rfl
theorem dX11_has_123 : decode cX11_has 123 = .ok (.aload_n 0, 1) := lw_dr lw_d_cX11_has_0 35 rfl
theorem dX11_has_124 : decode cX11_has 124 = .ok (.getfield 76, 3) := lw_dr lw_d_cX11_has_0 36 rfl
theorem dX11_has_127 : decode cX11_has 127 = .ok (.getfield 163, 3) := lw_dr lw_d_cX11_has_0 37 rfl
theorem dX11_has_130 : decode cX11_has 130 = .ok (.ireturn, 1) := lw_dr lw_d_cX11_has_0 38 rfl
theorem dX11_has_131 : decode cX11_has 131 = .ok (.aload_n 0, 1) := lw_dr lw_d_cX11_has_0 39 rfl
theorem lw_d_cX11_has_132 : lw_dl cX11_has [(132, .getfield 76, 3), (135, .getfield 166, 3), (138, .ireturn, 1), (139, .iconst (-1), 1), (140, .ireturn, 1)] = true := by decide +kernel
theorem dX11_has_132 : decode cX11_has 132 = .ok (.getfield 76, 3) := lw_dr lw_d_cX11_has_132 0 rfl
theorem dX11_has_135 : decode cX11_has 135 = .ok (.getfield 166, 3) := lw_dr lw_d_cX11_has_132 1 rfl
theorem dX11_has_138 : decode cX11_has 138 = .ok (.ireturn, 1) := lw_dr lw_d_cX11_has_132 2 rfl
theorem dX11_has_139 : decode cX11_has 139 = .ok (.iconst (-1), 1) := lw_dr lw_d_cX11_has_132 3 rfl
theorem dX11_has_140 : decode cX11_has 140 = .ok (.ireturn, 1) := lw_dr lw_d_cX11_has_132 4 rfl
theorem lw_d_cX11_table_0 : lw_dl cX11_table [(0, .aload_n 0, 1), (1, .getfield 69, 3), (4, .iload_n 1, 1), (5, .invokevirtual 169, 3), (8, .ifCond .eq 14, 3), (22, .ldc 175, 2), (24, .ireturn, 1), (11, .aload_n 0, 1), (12, .getfield 69, 3), (15, .iload_n 2, 1), (16, .invokevirtual 172, 3), (19, .ifCond .ne 6, 3), (25, .aload_n 0, 1), (26, .iload_n 3, 1), (27, .invokevirtual 176, 3), (30, .iload_n 1, 1), (31, .iload_n 2, 1), (32, .invokevirtual 180, 3), (35, .ireturn, 1)] = true := by decide +kernel
theorem dX11_table_0 : decode cX11_table 0 = .ok (.aload_n 0, 1) := lw_dr lw_d_cX11_table_0 0 rfl
theorem dX11_table_1 : decode cX11_table 1 = .ok (.getfield 69, 3) := lw_dr lw_d_cX11_table_0 1 rfl
theorem dX11_table_4 : decode cX11_table 4 = .ok (.iload_n 1, 1) := lw_dr lw_d_cX11_table_0 2 rfl
theorem dX11_table_5 : decode cX11_table 5 = .ok (.invokevirtual 169, 3) := lw_dr lw_d_cX11_table_0 3 rfl
theorem dX11_table_8 : decode cX11_table 8 = .ok (.ifCond .eq 14, 3) := lw_dr lw_d_cX11_table_0 4 rfl
theorem dX11_table_22 : decode cX11_table 22 = .ok (.ldc 175, 2) := lw_dr lw_d_cX11_table_0 5 rfl
theorem dX11_table_24 : decode cX11_table 24 = .ok (.ireturn, 1) := lw_dr lw_d_cX11_table_0 6 rfl
theorem dX11_table_11 : decode cX11_table 11 = .ok (.aload_n 0, 1) := lw_dr lw_d_cX11_table_0 7 rfl
theorem dX11_table_12 : decode cX11_table 12 = .ok (.getfield 69, 3) := lw_dr lw_d_cX11_table_0 8 rfl
theorem dX11_table_15 : decode cX11_table 15 = .ok (.iload_n 2, 1) := lw_dr lw_d_cX11_table_0 9 rfl
theorem dX11_table_16 : decode cX11_table 16 = .ok (.invokevirtual 172, 3) := lw_dr lw_d_cX11_table_0 10 rfl
theorem dX11_table_19 : decode cX11_table 19 = .ok (.ifCond .ne 6, 3) := lw_dr lw_d_cX11_table_0 11 rfl
theorem dX11_table_25 : decode cX11_table 25 = .ok (.aload_n 0, 1) := lw_dr lw_d_cX11_table_0 12 rfl
theorem dX11_table_26 : decode cX11_table 26 = .ok (.iload_n 3, 1) := lw_dr lw_d_cX11_table_0 13 rfl
theorem dX11_table_27 : decode cX11_table 27 = .ok (.invokevirtual 176, 3) := lw_dr lw_d_cX11_table_0 14 rfl
theorem dX11_table_30 : decode cX11_table 30 = .ok (.iload_n 1, 1) := lw_dr lw_d_cX11_table_0 15 rfl
theorem dX11_table_31 : decode cX11_table 31 = .ok (.iload_n 2, 1) := lw_dr lw_d_cX11_table_0 16 rfl
theorem dX11_table_32 : decode cX11_table 32 = .ok (.invokevirtual 180, 3) := lw_dr lw_d_cX11_table_0 17 rfl
theorem dX11_table_35 : decode cX11_table 35 = .ok (.ireturn, 1) := lw_dr lw_d_cX11_table_0 18 rfl
theorem lw_d_cX11_tableBy_0 : lw_dl cX11_tableBy [(0, .iload_n 1, 1), (1, .ifCond .eq 13, 3), (14, .aload_n 0, 1), (15, .getfield 69, 3), (18, .getfield 193, 3), (21, .areturn, 1), (4, .aload_n 0, 1), (5, .getfield 76, 3), (8, .getfield 189, 3), (11, .goto 10, 3)] = true := by decide +kernel
theorem dX11_tableBy_0 : decode cX11_tableBy 0 = .ok (.iload_n 1, 1) := lw_dr lw_d_cX11_tableBy_0 0 rfl
theorem dX11_tableBy_1 : decode cX11_tableBy 1 = .ok (.ifCond .eq 13, 3) := lw_dr lw_d_cX11_tableBy_0 1 rfl
theorem dX11_tableBy_14 : decode cX11_tableBy 14 = .ok (.aload_n 0, 1) := lw_dr lw_d_cX11_tableBy_0 2 rfl
theorem dX11_tableBy_15 : decode cX11_tableBy 15 = .ok (.getfield 69, 3) := lw_dr lw_d_cX11_tableBy_0 3 rfl
theorem dX11_tableBy_18 : decode cX11_tableBy 18 = .ok (.getfield 193, 3) := lw_dr lw_d_cX11_tableBy_0 4 rfl
theorem dX11_tableBy_21 : decode cX11_tableBy 21 = .ok (.areturn, 1) := lw_dr lw_d_cX11_tableBy_0 5 rfl
theorem dX11_tableBy_4 : decode cX11_tableBy 4 = .ok (.aload_n 0, 1) := lw_dr lw_d_cX11_tableBy_0 6 rfl
theorem dX11_tableBy_5 : decode cX11_tableBy 5 = .ok (.getfield 76, 3) := lw_dr lw_d_cX11_tableBy_0 7 rfl
theorem dX11_tableBy_8 : decode cX11_tableBy 8 = .ok (.getfield 189, 3) := lw_dr lw_d_cX11_tableBy_0 8 rfl
theorem dX11_tableBy_11 : decode cX11_tableBy 11 = .ok (.goto 10, 3) := lw_dr lw_d_cX11_tableBy_0 9 rfl
theorem lw_d_cX11_product_0 : lw_dl cX11_product [(0, .aload_n 0, 1), (1, .getfield 69, 3), (4, .iload_n 1, 1), (5, .invokevirtual 172, 3), (8, .ifCond .eq 14, 3), (22, .ldc 175, 2), (24, .ireturn, 1), (11, .aload_n 0, 1), (12, .getfield 69, 3), (15, .iload_n 2, 1), (16, .invokevirtual 172, 3), (19, .ifCond .ne 6, 3), (25, .aload_n 0, 1), (26, .iload_n 3, 1), (27, .invokevirtual 176, 3), (30, .iload_n 1, 1), (31, .iload_n 2, 1), (32, .invokevirtual 186, 3), (35, .ireturn, 1)] = true := by decide +kernel
theorem dX11_product_0 : decode cX11_product 0 = .ok (.aload_n 0, 1) := lw_dr lw_d_cX11_product_0 0 rfl
theorem dX11_product_1 : decode cX11_product 1 = .ok (.getfield 69, 3) := lw_dr lw_d_cX11_product_0 1 rfl
theorem dX11_product_4 : decode cX11_product 4 = .ok (.iload_n 1, 1) := lw_dr lw_d_cX11_product_0 2 rfl
theorem dX11_product_5 : decode cX11_product 5 = .ok (.invokevirtual 172, 3) := lw_dr lw_d_cX11_product_0 3 rfl
theorem dX11_product_8 : decode cX11_product 8 = .ok (.ifCond .eq 14, 3) := lw_dr lw_d_cX11_product_0 4 rfl
theorem dX11_product_22 : decode cX11_product 22 = .ok (.ldc 175, 2) := lw_dr lw_d_cX11_product_0 5 rfl
theorem dX11_product_24 : decode cX11_product 24 = .ok (.ireturn, 1) := lw_dr lw_d_cX11_product_0 6 rfl
theorem dX11_product_11 : decode cX11_product 11 = .ok (.aload_n 0, 1) := lw_dr lw_d_cX11_product_0 7 rfl
theorem dX11_product_12 : decode cX11_product 12 = .ok (.getfield 69, 3) := lw_dr lw_d_cX11_product_0 8 rfl
theorem dX11_product_15 : decode cX11_product 15 = .ok (.iload_n 2, 1) := lw_dr lw_d_cX11_product_0 9 rfl
theorem dX11_product_16 : decode cX11_product 16 = .ok (.invokevirtual 172, 3) := lw_dr lw_d_cX11_product_0 10 rfl
theorem dX11_product_19 : decode cX11_product 19 = .ok (.ifCond .ne 6, 3) := lw_dr lw_d_cX11_product_0 11 rfl
theorem dX11_product_25 : decode cX11_product 25 = .ok (.aload_n 0, 1) := lw_dr lw_d_cX11_product_0 12 rfl
theorem dX11_product_26 : decode cX11_product 26 = .ok (.iload_n 3, 1) := lw_dr lw_d_cX11_product_0 13 rfl
theorem dX11_product_27 : decode cX11_product 27 = .ok (.invokevirtual 176, 3) := lw_dr lw_d_cX11_product_0 14 rfl
theorem dX11_product_30 : decode cX11_product 30 = .ok (.iload_n 1, 1) := lw_dr lw_d_cX11_product_0 15 rfl
theorem dX11_product_31 : decode cX11_product 31 = .ok (.iload_n 2, 1) := lw_dr lw_d_cX11_product_0 16 rfl
theorem dX11_product_32 : decode cX11_product 32 = .ok (.invokevirtual 186, 3) := lw_dr lw_d_cX11_product_0 17 rfl
theorem dX11_product_35 : decode cX11_product 35 = .ok (.ireturn, 1) := lw_dr lw_d_cX11_product_0 18 rfl
theorem lw_d_cX11_hear_0 : lw_dl cX11_hear [(0, .aload_n 0, 1), (1, .getfield 20, 3), (4, .invokevirtual 93, 3), (7, .iconst 2, 1), (8, .aload_n 0, 1), (9, .getfield 69, 3), (12, .getfield 139, 3), (15, .imul, 1), (16, .if_icmp .ne 7, 3), (23, .iconst 0, 1), (24, .istore_n 1, 1), (25, .iload_n 1, 1), (26, .ifCond .eq 7, 3), (33, .aload_n 0, 1), (34, .getfield 20, 3), (37, .iconst 0, 1), (38, .invokevirtual 97, 3), (41, .iload_n 1, 1), (42, .ireturn, 1), (19, .iconst 1, 1), (20, .goto 4, 3), (29, .aload_n 0, 1), (30, .invokevirtual 194, 3)] = true := by decide +kernel
theorem dX11_hear_0 : decode cX11_hear 0 = .ok (.aload_n 0, 1) := lw_dr lw_d_cX11_hear_0 0 rfl
theorem dX11_hear_1 : decode cX11_hear 1 = .ok (.getfield 20, 3) := lw_dr lw_d_cX11_hear_0 1 rfl
theorem dX11_hear_4 : decode cX11_hear 4 = .ok (.invokevirtual 93, 3) := lw_dr lw_d_cX11_hear_0 2 rfl
theorem dX11_hear_7 : decode cX11_hear 7 = .ok (.iconst 2, 1) := lw_dr lw_d_cX11_hear_0 3 rfl
theorem dX11_hear_8 : decode cX11_hear 8 = .ok (.aload_n 0, 1) := lw_dr lw_d_cX11_hear_0 4 rfl
theorem dX11_hear_9 : decode cX11_hear 9 = .ok (.getfield 69, 3) := lw_dr lw_d_cX11_hear_0 5 rfl
theorem dX11_hear_12 : decode cX11_hear 12 = .ok (.getfield 139, 3) := lw_dr lw_d_cX11_hear_0 6 rfl
theorem dX11_hear_15 : decode cX11_hear 15 = .ok (.imul, 1) := lw_dr lw_d_cX11_hear_0 7 rfl
theorem dX11_hear_16 : decode cX11_hear 16 = .ok (.if_icmp .ne 7, 3) := lw_dr lw_d_cX11_hear_0 8 rfl
theorem dX11_hear_23 : decode cX11_hear 23 = .ok (.iconst 0, 1) := lw_dr lw_d_cX11_hear_0 9 rfl
theorem dX11_hear_24 : decode cX11_hear 24 = .ok (.istore_n 1, 1) := lw_dr lw_d_cX11_hear_0 10 rfl
theorem dX11_hear_25 : decode cX11_hear 25 = .ok (.iload_n 1, 1) := lw_dr lw_d_cX11_hear_0 11 rfl
theorem dX11_hear_26 : decode cX11_hear 26 = .ok (.ifCond .eq 7, 3) := lw_dr lw_d_cX11_hear_0 12 rfl
theorem dX11_hear_33 : decode cX11_hear 33 = .ok (.aload_n 0, 1) := lw_dr lw_d_cX11_hear_0 13 rfl
theorem dX11_hear_34 : decode cX11_hear 34 = .ok (.getfield 20, 3) := lw_dr lw_d_cX11_hear_0 14 rfl
theorem dX11_hear_37 : decode cX11_hear 37 = .ok (.iconst 0, 1) := lw_dr lw_d_cX11_hear_0 15 rfl
theorem dX11_hear_38 : decode cX11_hear 38 = .ok (.invokevirtual 97, 3) := lw_dr lw_d_cX11_hear_0 16 rfl
theorem dX11_hear_41 : decode cX11_hear 41 = .ok (.iload_n 1, 1) := lw_dr lw_d_cX11_hear_0 17 rfl
theorem dX11_hear_42 : decode cX11_hear 42 = .ok (.ireturn, 1) := lw_dr lw_d_cX11_hear_0 18 rfl
theorem dX11_hear_19 : decode cX11_hear 19 = .ok (.iconst 1, 1) := lw_dr lw_d_cX11_hear_0 19 rfl
theorem dX11_hear_20 : decode cX11_hear 20 = .ok (.goto 4, 3) := lw_dr lw_d_cX11_hear_0 20 rfl
theorem dX11_hear_29 : decode cX11_hear 29 = .ok (.aload_n 0, 1) := lw_dr lw_d_cX11_hear_0 21 rfl
theorem dX11_hear_30 : decode cX11_hear 30 = .ok (.invokevirtual 194, 3) := lw_dr lw_d_cX11_hear_0 22 rfl
theorem lw_d_cX11_takeHeard_0 : lw_dl cX11_takeHeard [(0, .iconst 0, 1), (1, .istore_n 1, 1), (2, .iload_n 1, 1), (3, .aload_n 0, 1), (4, .getfield 69, 3), (7, .getfield 139, 3), (10, .if_icmp .ge 25, 3), (35, .aload_n 0, 1), (36, .getfield 24, 3), (39, .invokevirtual 118, 3), (42, .return_, 1), (13, .aload_n 0, 1), (14, .getfield 49, 3), (17, .iload_n 1, 1), (18, .aload_n 0, 1), (19, .getfield 20, 3), (22, .iconst 2, 1), (23, .iload_n 1, 1), (24, .imul, 1), (25, .invokevirtual 197, 3), (28, .iastore, 1), (29, .iinc 1 1, 3), (32, .goto (-30), 3)] = true := by decide +kernel
theorem dX11_takeHeard_0 : decode cX11_takeHeard 0 = .ok (.iconst 0, 1) := lw_dr lw_d_cX11_takeHeard_0 0 rfl
theorem dX11_takeHeard_1 : decode cX11_takeHeard 1 = .ok (.istore_n 1, 1) := lw_dr lw_d_cX11_takeHeard_0 1 rfl
theorem dX11_takeHeard_2 : decode cX11_takeHeard 2 = .ok (.iload_n 1, 1) := lw_dr lw_d_cX11_takeHeard_0 2 rfl
theorem dX11_takeHeard_3 : decode cX11_takeHeard 3 = .ok (.aload_n 0, 1) := lw_dr lw_d_cX11_takeHeard_0 3 rfl
theorem dX11_takeHeard_4 : decode cX11_takeHeard 4 = .ok (.getfield 69, 3) := lw_dr lw_d_cX11_takeHeard_0 4 rfl
theorem dX11_takeHeard_7 : decode cX11_takeHeard 7 = .ok (.getfield 139, 3) := lw_dr lw_d_cX11_takeHeard_0 5 rfl
theorem dX11_takeHeard_10 : decode cX11_takeHeard 10 = .ok (.if_icmp .ge 25, 3) := lw_dr lw_d_cX11_takeHeard_0 6 rfl
theorem dX11_takeHeard_35 : decode cX11_takeHeard 35 = .ok (.aload_n 0, 1) := lw_dr lw_d_cX11_takeHeard_0 7 rfl
theorem dX11_takeHeard_36 : decode cX11_takeHeard 36 = .ok (.getfield 24, 3) := lw_dr lw_d_cX11_takeHeard_0 8 rfl
theorem dX11_takeHeard_39 : decode cX11_takeHeard 39 = .ok (.invokevirtual 118, 3) := lw_dr lw_d_cX11_takeHeard_0 9 rfl
theorem dX11_takeHeard_42 : decode cX11_takeHeard 42 = .ok (.return_, 1) := lw_dr lw_d_cX11_takeHeard_0 10 rfl
theorem dX11_takeHeard_13 : decode cX11_takeHeard 13 = .ok (.aload_n 0, 1) := lw_dr lw_d_cX11_takeHeard_0 11 rfl
theorem dX11_takeHeard_14 : decode cX11_takeHeard 14 = .ok (.getfield 49, 3) := lw_dr lw_d_cX11_takeHeard_0 12 rfl
theorem dX11_takeHeard_17 : decode cX11_takeHeard 17 = .ok (.iload_n 1, 1) := lw_dr lw_d_cX11_takeHeard_0 13 rfl
theorem dX11_takeHeard_18 : decode cX11_takeHeard 18 = .ok (.aload_n 0, 1) := lw_dr lw_d_cX11_takeHeard_0 14 rfl
theorem dX11_takeHeard_19 : decode cX11_takeHeard 19 = .ok (.getfield 20, 3) := lw_dr lw_d_cX11_takeHeard_0 15 rfl
theorem dX11_takeHeard_22 : decode cX11_takeHeard 22 = .ok (.iconst 2, 1) := lw_dr lw_d_cX11_takeHeard_0 16 rfl
theorem dX11_takeHeard_23 : decode cX11_takeHeard 23 = .ok (.iload_n 1, 1) := lw_dr lw_d_cX11_takeHeard_0 17 rfl
theorem dX11_takeHeard_24 : decode cX11_takeHeard 24 = .ok (.imul, 1) := lw_dr lw_d_cX11_takeHeard_0 18 rfl
theorem dX11_takeHeard_25 : decode cX11_takeHeard 25 = .ok (.invokevirtual 197, 3) := lw_dr lw_d_cX11_takeHeard_0 19 rfl
theorem dX11_takeHeard_28 : decode cX11_takeHeard 28 = .ok (.iastore, 1) := lw_dr lw_d_cX11_takeHeard_0 20 rfl
theorem dX11_takeHeard_29 : decode cX11_takeHeard 29 = .ok (.iinc 1 1, 3) := lw_dr lw_d_cX11_takeHeard_0 21 rfl
theorem dX11_takeHeard_32 : decode cX11_takeHeard 32 = .ok (.goto (-30), 3) := lw_dr lw_d_cX11_takeHeard_0 22 rfl
theorem lw_d_cX11_heard_0 : lw_dl cX11_heard [(0, .aload_n 0, 1), (1, .getfield 69, 3), (4, .iload_n 1, 1), (5, .invokevirtual 169, 3), (8, .ifCond .eq 12, 3), (20, .ldc 175, 2), (22, .ireturn, 1), (11, .aload_n 0, 1), (12, .getfield 49, 3), (15, .iload_n 1, 1), (16, .iaload, 1), (17, .goto 5, 3)] = true := by decide +kernel
theorem dX11_heard_0 : decode cX11_heard 0 = .ok (.aload_n 0, 1) := lw_dr lw_d_cX11_heard_0 0 rfl
theorem dX11_heard_1 : decode cX11_heard 1 = .ok (.getfield 69, 3) := lw_dr lw_d_cX11_heard_0 1 rfl
theorem dX11_heard_4 : decode cX11_heard 4 = .ok (.iload_n 1, 1) := lw_dr lw_d_cX11_heard_0 2 rfl
theorem dX11_heard_5 : decode cX11_heard 5 = .ok (.invokevirtual 169, 3) := lw_dr lw_d_cX11_heard_0 3 rfl
theorem dX11_heard_8 : decode cX11_heard 8 = .ok (.ifCond .eq 12, 3) := lw_dr lw_d_cX11_heard_0 4 rfl
theorem dX11_heard_20 : decode cX11_heard 20 = .ok (.ldc 175, 2) := lw_dr lw_d_cX11_heard_0 5 rfl
theorem dX11_heard_22 : decode cX11_heard 22 = .ok (.ireturn, 1) := lw_dr lw_d_cX11_heard_0 6 rfl
theorem dX11_heard_11 : decode cX11_heard 11 = .ok (.aload_n 0, 1) := lw_dr lw_d_cX11_heard_0 7 rfl
theorem dX11_heard_12 : decode cX11_heard 12 = .ok (.getfield 49, 3) := lw_dr lw_d_cX11_heard_0 8 rfl
theorem dX11_heard_15 : decode cX11_heard 15 = .ok (.iload_n 1, 1) := lw_dr lw_d_cX11_heard_0 9 rfl
theorem dX11_heard_16 : decode cX11_heard 16 = .ok (.iaload, 1) := lw_dr lw_d_cX11_heard_0 10 rfl
theorem dX11_heard_17 : decode cX11_heard 17 = .ok (.goto 5, 3) := lw_dr lw_d_cX11_heard_0 11 rfl
theorem lw_d_cX11_send_0 : lw_dl cX11_send [(0, .aload_n 0, 1), (1, .invokevirtual 201, 3), (4, .ifCond .ne 5, 3), (9, .iconst 0, 1), (10, .istore_n 1, 1), (11, .iload_n 1, 1), (12, .aload_n 0, 1), (13, .getfield 69, 3), (16, .getfield 139, 3), (19, .if_icmp .ge 37, 3), (56, .aload_n 0, 1), (57, .getfield 24, 3), (60, .invokevirtual 118, 3), (63, .iconst 1, 1), (64, .ireturn, 1), (22, .aload_n 0, 1), (23, .getfield 49, 3), (26, .iload_n 1, 1), (27, .aload_n 0, 1), (28, .getfield 69, 3), (31, .getfield 193, 3), (34, .iload_n 1, 1), (35, .aload_n 0, 1), (36, .getfield 53, 3), (39, .aload_n 0, 1), (40, .getfield 69, 3), (43, .getfield 136, 3), (46, .invokevirtual 204, 3), (49, .iastore, 1), (50, .iinc 1 1, 3), (53, .goto (-42), 3), (7, .iconst 0, 1), (8, .ireturn, 1)] = true := by decide +kernel
theorem dX11_send_0 : decode cX11_send 0 = .ok (.aload_n 0, 1) := lw_dr lw_d_cX11_send_0 0 rfl
theorem dX11_send_1 : decode cX11_send 1 = .ok (.invokevirtual 201, 3) := lw_dr lw_d_cX11_send_0 1 rfl
theorem dX11_send_4 : decode cX11_send 4 = .ok (.ifCond .ne 5, 3) := lw_dr lw_d_cX11_send_0 2 rfl
theorem dX11_send_9 : decode cX11_send 9 = .ok (.iconst 0, 1) := lw_dr lw_d_cX11_send_0 3 rfl
theorem dX11_send_10 : decode cX11_send 10 = .ok (.istore_n 1, 1) := lw_dr lw_d_cX11_send_0 4 rfl
theorem dX11_send_11 : decode cX11_send 11 = .ok (.iload_n 1, 1) := lw_dr lw_d_cX11_send_0 5 rfl
theorem dX11_send_12 : decode cX11_send 12 = .ok (.aload_n 0, 1) := lw_dr lw_d_cX11_send_0 6 rfl
theorem dX11_send_13 : decode cX11_send 13 = .ok (.getfield 69, 3) := lw_dr lw_d_cX11_send_0 7 rfl
theorem dX11_send_16 : decode cX11_send 16 = .ok (.getfield 139, 3) := lw_dr lw_d_cX11_send_0 8 rfl
theorem dX11_send_19 : decode cX11_send 19 = .ok (.if_icmp .ge 37, 3) := lw_dr lw_d_cX11_send_0 9 rfl
theorem dX11_send_56 : decode cX11_send 56 = .ok (.aload_n 0, 1) := lw_dr lw_d_cX11_send_0 10 rfl
theorem dX11_send_57 : decode cX11_send 57 = .ok (.getfield 24, 3) := lw_dr lw_d_cX11_send_0 11 rfl
theorem dX11_send_60 : decode cX11_send 60 = .ok (.invokevirtual 118, 3) := lw_dr lw_d_cX11_send_0 12 rfl
theorem dX11_send_63 : decode cX11_send 63 = .ok (.iconst 1, 1) := lw_dr lw_d_cX11_send_0 13 rfl
theorem dX11_send_64 : decode cX11_send 64 = .ok (.ireturn, 1) := lw_dr lw_d_cX11_send_0 14 rfl
theorem dX11_send_22 : decode cX11_send 22 = .ok (.aload_n 0, 1) := lw_dr lw_d_cX11_send_0 15 rfl
theorem dX11_send_23 : decode cX11_send 23 = .ok (.getfield 49, 3) := lw_dr lw_d_cX11_send_0 16 rfl
theorem dX11_send_26 : decode cX11_send 26 = .ok (.iload_n 1, 1) := lw_dr lw_d_cX11_send_0 17 rfl
theorem dX11_send_27 : decode cX11_send 27 = .ok (.aload_n 0, 1) := lw_dr lw_d_cX11_send_0 18 rfl
theorem dX11_send_28 : decode cX11_send 28 = .ok (.getfield 69, 3) := lw_dr lw_d_cX11_send_0 19 rfl
theorem dX11_send_31 : decode cX11_send 31 = .ok (.getfield 193, 3) := lw_dr lw_d_cX11_send_0 20 rfl
theorem dX11_send_34 : decode cX11_send 34 = .ok (.iload_n 1, 1) := lw_dr lw_d_cX11_send_0 21 rfl
theorem dX11_send_35 : decode cX11_send 35 = .ok (.aload_n 0, 1) := lw_dr lw_d_cX11_send_0 22 rfl
theorem dX11_send_36 : decode cX11_send 36 = .ok (.getfield 53, 3) := lw_dr lw_d_cX11_send_0 23 rfl
theorem dX11_send_39 : decode cX11_send 39 = .ok (.aload_n 0, 1) := lw_dr lw_d_cX11_send_0 24 rfl
theorem dX11_send_40 : decode cX11_send 40 = .ok (.getfield 69, 3) := lw_dr lw_d_cX11_send_0 25 rfl
theorem dX11_send_43 : decode cX11_send 43 = .ok (.getfield 136, 3) := lw_dr lw_d_cX11_send_0 26 rfl
theorem dX11_send_46 : decode cX11_send 46 = .ok (.invokevirtual 204, 3) := lw_dr lw_d_cX11_send_0 27 rfl
theorem dX11_send_49 : decode cX11_send 49 = .ok (.iastore, 1) := lw_dr lw_d_cX11_send_0 28 rfl
theorem dX11_send_50 : decode cX11_send 50 = .ok (.iinc 1 1, 3) := lw_dr lw_d_cX11_send_0 29 rfl
theorem dX11_send_53 : decode cX11_send 53 = .ok (.goto (-42), 3) := lw_dr lw_d_cX11_send_0 30 rfl
theorem dX11_send_7 : decode cX11_send 7 = .ok (.iconst 0, 1) := lw_dr lw_d_cX11_send_0 31 rfl
theorem dX11_send_8 : decode cX11_send 8 = .ok (.ireturn, 1) := lw_dr lw_d_cX11_send_0 32 rfl
theorem lw_d_cX11_takeRow_0 : lw_dl cX11_takeRow [(0, .aload_n 0, 1), (1, .getfield 69, 3), (4, .getfield 136, 3), (7, .ifCond .le 24, 3), (31, .iconst 0, 1), (32, .istore_n 1, 1), (33, .iconst 0, 1), (34, .istore_n 2, 1), (35, .iload_n 1, 1), (36, .ifCond .eq 48, 3), (84, .aload_n 0, 1), (85, .getfield 20, 3), (88, .iconst 0, 1), (89, .invokevirtual 97, 3), (92, .iload_n 1, 1), (93, .ireturn, 1), (10, .aload_n 0, 1), (11, .getfield 20, 3), (14, .invokevirtual 93, 3), (17, .aload_n 0, 1), (18, .getfield 69, 3), (21, .getfield 136, 3), (24, .if_icmp .ne 7, 3), (27, .iconst 1, 1), (28, .goto 4, 3), (39, .iload_n 2, 1), (40, .aload_n 0, 1), (41, .getfield 69, 3), (44, .getfield 136, 3), (47, .if_icmp .ge 37, 3), (50, .aload_n 0, 1), (51, .getfield 53, 3), (54, .iload_n 2, 1), (55, .aload_n 0, 1), (56, .getfield 20, 3), (59, .iload_n 2, 1), (60, .invokevirtual 214, 3), (63, .iastore, 1), (64, .aload_n 0, 1), (65, .getfield 69, 3)] = true := by decide +kernel
theorem dX11_takeRow_0 : decode cX11_takeRow 0 = .ok (.aload_n 0, 1) := lw_dr lw_d_cX11_takeRow_0 0 rfl
theorem dX11_takeRow_1 : decode cX11_takeRow 1 = .ok (.getfield 69, 3) := lw_dr lw_d_cX11_takeRow_0 1 rfl
theorem dX11_takeRow_4 : decode cX11_takeRow 4 = .ok (.getfield 136, 3) := lw_dr lw_d_cX11_takeRow_0 2 rfl
theorem dX11_takeRow_7 : decode cX11_takeRow 7 = .ok (.ifCond .le 24, 3) := lw_dr lw_d_cX11_takeRow_0 3 rfl
theorem dX11_takeRow_31 : decode cX11_takeRow 31 = .ok (.iconst 0, 1) := lw_dr lw_d_cX11_takeRow_0 4 rfl
theorem dX11_takeRow_32 : decode cX11_takeRow 32 = .ok (.istore_n 1, 1) := lw_dr lw_d_cX11_takeRow_0 5 rfl
theorem dX11_takeRow_33 : decode cX11_takeRow 33 = .ok (.iconst 0, 1) := lw_dr lw_d_cX11_takeRow_0 6 rfl
theorem dX11_takeRow_34 : decode cX11_takeRow 34 = .ok (.istore_n 2, 1) := lw_dr lw_d_cX11_takeRow_0 7 rfl
theorem dX11_takeRow_35 : decode cX11_takeRow 35 = .ok (.iload_n 1, 1) := lw_dr lw_d_cX11_takeRow_0 8 rfl
theorem dX11_takeRow_36 : decode cX11_takeRow 36 = .ok (.ifCond .eq 48, 3) := lw_dr lw_d_cX11_takeRow_0 9 rfl
theorem dX11_takeRow_84 : decode cX11_takeRow 84 = .ok (.aload_n 0, 1) := lw_dr lw_d_cX11_takeRow_0 10 rfl
theorem dX11_takeRow_85 : decode cX11_takeRow 85 = .ok (.getfield 20, 3) := lw_dr lw_d_cX11_takeRow_0 11 rfl
theorem dX11_takeRow_88 : decode cX11_takeRow 88 = .ok (.iconst 0, 1) := lw_dr lw_d_cX11_takeRow_0 12 rfl
theorem dX11_takeRow_89 : decode cX11_takeRow 89 = .ok (.invokevirtual 97, 3) := lw_dr lw_d_cX11_takeRow_0 13 rfl
theorem dX11_takeRow_92 : decode cX11_takeRow 92 = .ok (.iload_n 1, 1) := lw_dr lw_d_cX11_takeRow_0 14 rfl
theorem dX11_takeRow_93 : decode cX11_takeRow 93 = .ok (.ireturn, 1) := lw_dr lw_d_cX11_takeRow_0 15 rfl
theorem dX11_takeRow_10 : decode cX11_takeRow 10 = .ok (.aload_n 0, 1) := lw_dr lw_d_cX11_takeRow_0 16 rfl
theorem dX11_takeRow_11 : decode cX11_takeRow 11 = .ok (.getfield 20, 3) := lw_dr lw_d_cX11_takeRow_0 17 rfl
theorem dX11_takeRow_14 : decode cX11_takeRow 14 = .ok (.invokevirtual 93, 3) := lw_dr lw_d_cX11_takeRow_0 18 rfl
theorem dX11_takeRow_17 : decode cX11_takeRow 17 = .ok (.aload_n 0, 1) := lw_dr lw_d_cX11_takeRow_0 19 rfl
theorem dX11_takeRow_18 : decode cX11_takeRow 18 = .ok (.getfield 69, 3) := lw_dr lw_d_cX11_takeRow_0 20 rfl
theorem dX11_takeRow_21 : decode cX11_takeRow 21 = .ok (.getfield 136, 3) := lw_dr lw_d_cX11_takeRow_0 21 rfl
theorem dX11_takeRow_24 : decode cX11_takeRow 24 = .ok (.if_icmp .ne 7, 3) := lw_dr lw_d_cX11_takeRow_0 22 rfl
theorem dX11_takeRow_27 : decode cX11_takeRow 27 = .ok (.iconst 1, 1) := lw_dr lw_d_cX11_takeRow_0 23 rfl
theorem dX11_takeRow_28 : decode cX11_takeRow 28 = .ok (.goto 4, 3) := lw_dr lw_d_cX11_takeRow_0 24 rfl
theorem dX11_takeRow_39 : decode cX11_takeRow 39 = .ok (.iload_n 2, 1) := lw_dr lw_d_cX11_takeRow_0 25 rfl
theorem dX11_takeRow_40 : decode cX11_takeRow 40 = .ok (.aload_n 0, 1) := lw_dr lw_d_cX11_takeRow_0 26 rfl
theorem dX11_takeRow_41 : decode cX11_takeRow 41 = .ok (.getfield 69, 3) := lw_dr lw_d_cX11_takeRow_0 27 rfl
theorem dX11_takeRow_44 : decode cX11_takeRow 44 = .ok (.getfield 136, 3) := lw_dr lw_d_cX11_takeRow_0 28 rfl
theorem dX11_takeRow_47 : decode cX11_takeRow 47 = .ok (.if_icmp .ge 37, 3) := lw_dr lw_d_cX11_takeRow_0 29 rfl
theorem dX11_takeRow_50 : decode cX11_takeRow 50 = .ok (.aload_n 0, 1) := lw_dr lw_d_cX11_takeRow_0 30 rfl
theorem dX11_takeRow_51 : decode cX11_takeRow 51 = .ok (.getfield 53, 3) := lw_dr lw_d_cX11_takeRow_0 31 rfl
theorem dX11_takeRow_54 : decode cX11_takeRow 54 = .ok (.iload_n 2, 1) := lw_dr lw_d_cX11_takeRow_0 32 rfl
theorem dX11_takeRow_55 : decode cX11_takeRow 55 = .ok (.aload_n 0, 1) := lw_dr lw_d_cX11_takeRow_0 33 rfl
theorem dX11_takeRow_56 : decode cX11_takeRow 56 = .ok (.getfield 20, 3) := lw_dr lw_d_cX11_takeRow_0 34 rfl
theorem dX11_takeRow_59 : decode cX11_takeRow 59 = .ok (.iload_n 2, 1) := lw_dr lw_d_cX11_takeRow_0 35 rfl
theorem dX11_takeRow_60 : decode cX11_takeRow 60 = .ok (.invokevirtual 214, 3) := lw_dr lw_d_cX11_takeRow_0 36 rfl
theorem dX11_takeRow_63 : decode cX11_takeRow 63 = .ok (.iastore, 1) := lw_dr lw_d_cX11_takeRow_0 37 rfl
theorem dX11_takeRow_64 : decode cX11_takeRow 64 = .ok (.aload_n 0, 1) := lw_dr lw_d_cX11_takeRow_0 38 rfl
theorem dX11_takeRow_65 : decode cX11_takeRow 65 = .ok (.getfield 69, 3) := lw_dr lw_d_cX11_takeRow_0 39 rfl
theorem lw_d_cX11_takeRow_68 : lw_dl cX11_takeRow [(68, .aload_n 0, 1), (69, .getfield 53, 3), (72, .iload_n 2, 1), (73, .iaload, 1), (74, .invokevirtual 217, 3), (77, .istore_n 1, 1), (78, .iinc 2 1, 3), (81, .goto (-46), 3)] = true := by decide +kernel
theorem dX11_takeRow_68 : decode cX11_takeRow 68 = .ok (.aload_n 0, 1) := lw_dr lw_d_cX11_takeRow_68 0 rfl
theorem dX11_takeRow_69 : decode cX11_takeRow 69 = .ok (.getfield 53, 3) := lw_dr lw_d_cX11_takeRow_68 1 rfl
theorem dX11_takeRow_72 : decode cX11_takeRow 72 = .ok (.iload_n 2, 1) := lw_dr lw_d_cX11_takeRow_68 2 rfl
theorem dX11_takeRow_73 : decode cX11_takeRow 73 = .ok (.iaload, 1) := lw_dr lw_d_cX11_takeRow_68 3 rfl
theorem dX11_takeRow_74 : decode cX11_takeRow 74 = .ok (.invokevirtual 217, 3) := lw_dr lw_d_cX11_takeRow_68 4 rfl
theorem dX11_takeRow_77 : decode cX11_takeRow 77 = .ok (.istore_n 1, 1) := lw_dr lw_d_cX11_takeRow_68 5 rfl
theorem dX11_takeRow_78 : decode cX11_takeRow 78 = .ok (.iinc 2 1, 3) := lw_dr lw_d_cX11_takeRow_68 6 rfl
theorem dX11_takeRow_81 : decode cX11_takeRow 81 = .ok (.goto (-46), 3) := lw_dr lw_d_cX11_takeRow_68 7 rfl
theorem lw_d_cX11_distance_0 : lw_dl cX11_distance [(0, .aload_n 0, 1), (1, .invokevirtual 201, 3), (4, .ifCond .eq 21, 3), (25, .ldc2_w 212, 3), (28, .lreturn, 1), (7, .aload_n 0, 1), (8, .getfield 69, 3), (11, .aload_n 0, 1), (12, .getfield 53, 3), (15, .aload_n 0, 1), (16, .getfield 49, 3), (19, .invokevirtual 208, 3), (22, .goto 6, 3)] = true := by decide +kernel
theorem dX11_distance_0 : decode cX11_distance 0 = .ok (.aload_n 0, 1) := lw_dr lw_d_cX11_distance_0 0 rfl
theorem dX11_distance_1 : decode cX11_distance 1 = .ok (.invokevirtual 201, 3) := lw_dr lw_d_cX11_distance_0 1 rfl
theorem dX11_distance_4 : decode cX11_distance 4 = .ok (.ifCond .eq 21, 3) := lw_dr lw_d_cX11_distance_0 2 rfl
theorem dX11_distance_25 : decode cX11_distance 25 = .ok (.ldc2_w 212, 3) := lw_dr lw_d_cX11_distance_0 3 rfl
theorem dX11_distance_28 : decode cX11_distance 28 = .ok (.lreturn, 1) := lw_dr lw_d_cX11_distance_0 4 rfl
theorem dX11_distance_7 : decode cX11_distance 7 = .ok (.aload_n 0, 1) := lw_dr lw_d_cX11_distance_0 5 rfl
theorem dX11_distance_8 : decode cX11_distance 8 = .ok (.getfield 69, 3) := lw_dr lw_d_cX11_distance_0 6 rfl
theorem dX11_distance_11 : decode cX11_distance 11 = .ok (.aload_n 0, 1) := lw_dr lw_d_cX11_distance_0 7 rfl
theorem dX11_distance_12 : decode cX11_distance 12 = .ok (.getfield 53, 3) := lw_dr lw_d_cX11_distance_0 8 rfl
theorem dX11_distance_15 : decode cX11_distance 15 = .ok (.aload_n 0, 1) := lw_dr lw_d_cX11_distance_0 9 rfl
theorem dX11_distance_16 : decode cX11_distance 16 = .ok (.getfield 49, 3) := lw_dr lw_d_cX11_distance_0 10 rfl
theorem dX11_distance_19 : decode cX11_distance 19 = .ok (.invokevirtual 208, 3) := lw_dr lw_d_cX11_distance_0 11 rfl
theorem dX11_distance_22 : decode cX11_distance 22 = .ok (.goto 6, 3) := lw_dr lw_d_cX11_distance_0 12 rfl
theorem lw_d_cX11_slips_0 : lw_dl cX11_slips [(0, .iload_n 1, 1), (1, .ifCond .lt 20, 3), (21, .iconst (-1), 1), (22, .ireturn, 1), (4, .iload_n 1, 1), (5, .sipush 9999, 3), (8, .if_icmp .gt 13, 3), (11, .aload_n 0, 1), (12, .getfield 69, 3), (15, .getfield 139, 3), (18, .ifCond .ne 5, 3), (23, .iload_n 2, 1), (24, .i2l, 1), (25, .lstore_n 3, 1), (26, .iconst 0, 1), (27, .istore 5, 2), (29, .iload 5, 2), (31, .aload_n 0, 1), (32, .getfield 69, 3), (35, .getfield 139, 3), (38, .if_icmp .ge 77, 3), (115, .aload_n 0, 1), (116, .getfield 24, 3), (119, .invokevirtual 118, 3), (122, .aload_n 0, 1), (123, .getfield 69, 3), (126, .getfield 139, 3), (129, .ireturn, 1), (41, .ldc2_w 220, 3), (44, .lload_n 3, 1), (45, .lmul, 1), (46, .ldc2_w 222, 3), (49, .ladd, 1), (50, .ldc2_w 224, 3), (53, .land, 1), (54, .lstore_n 3, 1), (55, .lload_n 3, 1), (56, .ldc2_w 226, 3), (59, .ldiv, 1), (60, .ldc2_w 228, 3)] = true := by decide +kernel
theorem dX11_slips_0 : decode cX11_slips 0 = .ok (.iload_n 1, 1) := lw_dr lw_d_cX11_slips_0 0 rfl
theorem dX11_slips_1 : decode cX11_slips 1 = .ok (.ifCond .lt 20, 3) := lw_dr lw_d_cX11_slips_0 1 rfl
theorem dX11_slips_21 : decode cX11_slips 21 = .ok (.iconst (-1), 1) := lw_dr lw_d_cX11_slips_0 2 rfl
theorem dX11_slips_22 : decode cX11_slips 22 = .ok (.ireturn, 1) := lw_dr lw_d_cX11_slips_0 3 rfl
theorem dX11_slips_4 : decode cX11_slips 4 = .ok (.iload_n 1, 1) := lw_dr lw_d_cX11_slips_0 4 rfl
theorem dX11_slips_5 : decode cX11_slips 5 = .ok (.sipush 9999, 3) := lw_dr lw_d_cX11_slips_0 5 rfl
theorem dX11_slips_8 : decode cX11_slips 8 = .ok (.if_icmp .gt 13, 3) := lw_dr lw_d_cX11_slips_0 6 rfl
theorem dX11_slips_11 : decode cX11_slips 11 = .ok (.aload_n 0, 1) := lw_dr lw_d_cX11_slips_0 7 rfl
theorem dX11_slips_12 : decode cX11_slips 12 = .ok (.getfield 69, 3) := lw_dr lw_d_cX11_slips_0 8 rfl
theorem dX11_slips_15 : decode cX11_slips 15 = .ok (.getfield 139, 3) := lw_dr lw_d_cX11_slips_0 9 rfl
theorem dX11_slips_18 : decode cX11_slips 18 = .ok (.ifCond .ne 5, 3) := lw_dr lw_d_cX11_slips_0 10 rfl
theorem dX11_slips_23 : decode cX11_slips 23 = .ok (.iload_n 2, 1) := lw_dr lw_d_cX11_slips_0 11 rfl
theorem dX11_slips_24 : decode cX11_slips 24 = .ok (.i2l, 1) := lw_dr lw_d_cX11_slips_0 12 rfl
theorem dX11_slips_25 : decode cX11_slips 25 = .ok (.lstore_n 3, 1) := lw_dr lw_d_cX11_slips_0 13 rfl
theorem dX11_slips_26 : decode cX11_slips 26 = .ok (.iconst 0, 1) := lw_dr lw_d_cX11_slips_0 14 rfl
theorem dX11_slips_27 : decode cX11_slips 27 = .ok (.istore 5, 2) := lw_dr lw_d_cX11_slips_0 15 rfl
theorem dX11_slips_29 : decode cX11_slips 29 = .ok (.iload 5, 2) := lw_dr lw_d_cX11_slips_0 16 rfl
theorem dX11_slips_31 : decode cX11_slips 31 = .ok (.aload_n 0, 1) := lw_dr lw_d_cX11_slips_0 17 rfl
theorem dX11_slips_32 : decode cX11_slips 32 = .ok (.getfield 69, 3) := lw_dr lw_d_cX11_slips_0 18 rfl
theorem dX11_slips_35 : decode cX11_slips 35 = .ok (.getfield 139, 3) := lw_dr lw_d_cX11_slips_0 19 rfl
theorem dX11_slips_38 : decode cX11_slips 38 = .ok (.if_icmp .ge 77, 3) := lw_dr lw_d_cX11_slips_0 20 rfl
theorem dX11_slips_115 : decode cX11_slips 115 = .ok (.aload_n 0, 1) := lw_dr lw_d_cX11_slips_0 21 rfl
theorem dX11_slips_116 : decode cX11_slips 116 = .ok (.getfield 24, 3) := lw_dr lw_d_cX11_slips_0 22 rfl
theorem dX11_slips_119 : decode cX11_slips 119 = .ok (.invokevirtual 118, 3) := lw_dr lw_d_cX11_slips_0 23 rfl
theorem dX11_slips_122 : decode cX11_slips 122 = .ok (.aload_n 0, 1) := lw_dr lw_d_cX11_slips_0 24 rfl
theorem dX11_slips_123 : decode cX11_slips 123 = .ok (.getfield 69, 3) := lw_dr lw_d_cX11_slips_0 25 rfl
theorem dX11_slips_126 : decode cX11_slips 126 = .ok (.getfield 139, 3) := lw_dr lw_d_cX11_slips_0 26 rfl
theorem dX11_slips_129 : decode cX11_slips 129 = .ok (.ireturn, 1) := lw_dr lw_d_cX11_slips_0 27 rfl
theorem dX11_slips_41 : decode cX11_slips 41 = .ok (.ldc2_w 220, 3) := lw_dr lw_d_cX11_slips_0 28 rfl
theorem dX11_slips_44 : decode cX11_slips 44 = .ok (.lload_n 3, 1) := lw_dr lw_d_cX11_slips_0 29 rfl
theorem dX11_slips_45 : decode cX11_slips 45 = .ok (.lmul, 1) := lw_dr lw_d_cX11_slips_0 30 rfl
theorem dX11_slips_46 : decode cX11_slips 46 = .ok (.ldc2_w 222, 3) := lw_dr lw_d_cX11_slips_0 31 rfl
theorem dX11_slips_49 : decode cX11_slips 49 = .ok (.ladd, 1) := lw_dr lw_d_cX11_slips_0 32 rfl
theorem dX11_slips_50 : decode cX11_slips 50 = .ok (.ldc2_w 224, 3) := lw_dr lw_d_cX11_slips_0 33 rfl
theorem dX11_slips_53 : decode cX11_slips 53 = .ok (.land, 1) := lw_dr lw_d_cX11_slips_0 34 rfl
theorem dX11_slips_54 : decode cX11_slips 54 = .ok (.lstore_n 3, 1) := lw_dr lw_d_cX11_slips_0 35 rfl
theorem dX11_slips_55 : decode cX11_slips 55 = .ok (.lload_n 3, 1) := lw_dr lw_d_cX11_slips_0 36 rfl
theorem dX11_slips_56 : decode cX11_slips 56 = .ok (.ldc2_w 226, 3) := lw_dr lw_d_cX11_slips_0 37 rfl
theorem dX11_slips_59 : decode cX11_slips 59 = .ok (.ldiv, 1) := lw_dr lw_d_cX11_slips_0 38 rfl
theorem dX11_slips_60 : decode cX11_slips 60 = .ok (.ldc2_w 228, 3) := lw_dr lw_d_cX11_slips_0 39 rfl
theorem lw_d_cX11_slips_63 : lw_dl cX11_slips [(63, .iload_n 1, 1), (64, .i2l, 1), (65, .lmul, 1), (66, .lconst 1, 1), (67, .ladd, 1), (68, .lrem, 1), (69, .iload_n 1, 1), (70, .i2l, 1), (71, .lsub, 1), (72, .lstore 6, 2), (74, .aload_n 0, 1), (75, .getfield 49, 3), (78, .iload 5, 2), (80, .iaload, 1), (81, .i2l, 1), (82, .lload 6, 2), (84, .ladd, 1), (85, .lstore 8, 2), (87, .aload_n 0, 1), (88, .getfield 49, 3), (91, .iload 5, 2), (93, .ldc2_w 230, 3), (96, .ldc2_w 232, 3), (99, .lload 8, 2), (101, .invokestatic 234, 3), (104, .invokestatic 240, 3), (107, .l2i, 1), (108, .iastore, 1), (109, .iinc 5 1, 3), (112, .goto (-83), 3)] = true := by decide +kernel
theorem dX11_slips_63 : decode cX11_slips 63 = .ok (.iload_n 1, 1) := lw_dr lw_d_cX11_slips_63 0 rfl
theorem dX11_slips_64 : decode cX11_slips 64 = .ok (.i2l, 1) := lw_dr lw_d_cX11_slips_63 1 rfl
theorem dX11_slips_65 : decode cX11_slips 65 = .ok (.lmul, 1) := lw_dr lw_d_cX11_slips_63 2 rfl
theorem dX11_slips_66 : decode cX11_slips 66 = .ok (.lconst 1, 1) := lw_dr lw_d_cX11_slips_63 3 rfl
theorem dX11_slips_67 : decode cX11_slips 67 = .ok (.ladd, 1) := lw_dr lw_d_cX11_slips_63 4 rfl
theorem dX11_slips_68 : decode cX11_slips 68 = .ok (.lrem, 1) := lw_dr lw_d_cX11_slips_63 5 rfl
theorem dX11_slips_69 : decode cX11_slips 69 = .ok (.iload_n 1, 1) := lw_dr lw_d_cX11_slips_63 6 rfl
theorem dX11_slips_70 : decode cX11_slips 70 = .ok (.i2l, 1) := lw_dr lw_d_cX11_slips_63 7 rfl
theorem dX11_slips_71 : decode cX11_slips 71 = .ok (.lsub, 1) := lw_dr lw_d_cX11_slips_63 8 rfl
theorem dX11_slips_72 : decode cX11_slips 72 = .ok (.lstore 6, 2) := lw_dr lw_d_cX11_slips_63 9 rfl
theorem dX11_slips_74 : decode cX11_slips 74 = .ok (.aload_n 0, 1) := lw_dr lw_d_cX11_slips_63 10 rfl
theorem dX11_slips_75 : decode cX11_slips 75 = .ok (.getfield 49, 3) := lw_dr lw_d_cX11_slips_63 11 rfl
theorem dX11_slips_78 : decode cX11_slips 78 = .ok (.iload 5, 2) := lw_dr lw_d_cX11_slips_63 12 rfl
theorem dX11_slips_80 : decode cX11_slips 80 = .ok (.iaload, 1) := lw_dr lw_d_cX11_slips_63 13 rfl
theorem dX11_slips_81 : decode cX11_slips 81 = .ok (.i2l, 1) := lw_dr lw_d_cX11_slips_63 14 rfl
theorem dX11_slips_82 : decode cX11_slips 82 = .ok (.lload 6, 2) := lw_dr lw_d_cX11_slips_63 15 rfl
theorem dX11_slips_84 : decode cX11_slips 84 = .ok (.ladd, 1) := lw_dr lw_d_cX11_slips_63 16 rfl
theorem dX11_slips_85 : decode cX11_slips 85 = .ok (.lstore 8, 2) := lw_dr lw_d_cX11_slips_63 17 rfl
theorem dX11_slips_87 : decode cX11_slips 87 = .ok (.aload_n 0, 1) := lw_dr lw_d_cX11_slips_63 18 rfl
theorem dX11_slips_88 : decode cX11_slips 88 = .ok (.getfield 49, 3) := lw_dr lw_d_cX11_slips_63 19 rfl
theorem dX11_slips_91 : decode cX11_slips 91 = .ok (.iload 5, 2) := lw_dr lw_d_cX11_slips_63 20 rfl
theorem dX11_slips_93 : decode cX11_slips 93 = .ok (.ldc2_w 230, 3) := lw_dr lw_d_cX11_slips_63 21 rfl
theorem dX11_slips_96 : decode cX11_slips 96 = .ok (.ldc2_w 232, 3) := lw_dr lw_d_cX11_slips_63 22 rfl
theorem dX11_slips_99 : decode cX11_slips 99 = .ok (.lload 8, 2) := lw_dr lw_d_cX11_slips_63 23 rfl
theorem dX11_slips_101 : decode cX11_slips 101 = .ok (.invokestatic 234, 3) := lw_dr lw_d_cX11_slips_63 24 rfl
theorem dX11_slips_104 : decode cX11_slips 104 = .ok (.invokestatic 240, 3) := lw_dr lw_d_cX11_slips_63 25 rfl
theorem dX11_slips_107 : decode cX11_slips 107 = .ok (.l2i, 1) := lw_dr lw_d_cX11_slips_63 26 rfl
theorem dX11_slips_108 : decode cX11_slips 108 = .ok (.iastore, 1) := lw_dr lw_d_cX11_slips_63 27 rfl
theorem dX11_slips_109 : decode cX11_slips 109 = .ok (.iinc 5 1, 3) := lw_dr lw_d_cX11_slips_63 28 rfl
theorem dX11_slips_112 : decode cX11_slips 112 = .ok (.goto (-83), 3) := lw_dr lw_d_cX11_slips_63 29 rfl
theorem lw_d_cX11_nearest_0 : lw_dl cX11_nearest [(0, .aload_n 0, 1), (1, .getfield 69, 3)] = true := by decide +kernel
theorem dX11_nearest_0 : decode cX11_nearest 0 = .ok (.aload_n 0, 1) := lw_dr lw_d_cX11_nearest_0 0 rfl
theorem dX11_nearest_1 : decode cX11_nearest 1 = .ok (.getfield 69, 3) := lw_dr lw_d_cX11_nearest_0 1 rfl
theorem lw_d_cX11_nearest_4 : lw_dl cX11_nearest [(4, .iload_n 2, 1), (5, .invokevirtual 172, 3), (8, .ifCond .eq 11, 3), (19, .ldc 175, 2), (21, .ireturn, 1), (11, .aload_n 0, 1), (12, .iload_n 1, 1), (13, .invokevirtual 243, 3), (16, .ifCond .ne 6, 3), (22, .aload_n 0, 1), (23, .getfield 69, 3), (26, .aload_n 0, 1), (27, .getfield 24, 3), (30, .getfield 246, 3), (33, .iload_n 1, 1), (34, .iaload, 1), (35, .iload_n 2, 1), (36, .invokevirtual 249, 3), (39, .ireturn, 1)] = true := by decide +kernel
theorem dX11_nearest_4 : decode cX11_nearest 4 = .ok (.iload_n 2, 1) := lw_dr lw_d_cX11_nearest_4 0 rfl
theorem dX11_nearest_5 : decode cX11_nearest 5 = .ok (.invokevirtual 172, 3) := lw_dr lw_d_cX11_nearest_4 1 rfl
theorem dX11_nearest_8 : decode cX11_nearest 8 = .ok (.ifCond .eq 11, 3) := lw_dr lw_d_cX11_nearest_4 2 rfl
theorem dX11_nearest_19 : decode cX11_nearest 19 = .ok (.ldc 175, 2) := lw_dr lw_d_cX11_nearest_4 3 rfl
theorem dX11_nearest_21 : decode cX11_nearest 21 = .ok (.ireturn, 1) := lw_dr lw_d_cX11_nearest_4 4 rfl
theorem dX11_nearest_11 : decode cX11_nearest 11 = .ok (.aload_n 0, 1) := lw_dr lw_d_cX11_nearest_4 5 rfl
theorem dX11_nearest_12 : decode cX11_nearest 12 = .ok (.iload_n 1, 1) := lw_dr lw_d_cX11_nearest_4 6 rfl
theorem dX11_nearest_13 : decode cX11_nearest 13 = .ok (.invokevirtual 243, 3) := lw_dr lw_d_cX11_nearest_4 7 rfl
theorem dX11_nearest_16 : decode cX11_nearest 16 = .ok (.ifCond .ne 6, 3) := lw_dr lw_d_cX11_nearest_4 8 rfl
theorem dX11_nearest_22 : decode cX11_nearest 22 = .ok (.aload_n 0, 1) := lw_dr lw_d_cX11_nearest_4 9 rfl
theorem dX11_nearest_23 : decode cX11_nearest 23 = .ok (.getfield 69, 3) := lw_dr lw_d_cX11_nearest_4 10 rfl
theorem dX11_nearest_26 : decode cX11_nearest 26 = .ok (.aload_n 0, 1) := lw_dr lw_d_cX11_nearest_4 11 rfl
theorem dX11_nearest_27 : decode cX11_nearest 27 = .ok (.getfield 24, 3) := lw_dr lw_d_cX11_nearest_4 12 rfl
theorem dX11_nearest_30 : decode cX11_nearest 30 = .ok (.getfield 246, 3) := lw_dr lw_d_cX11_nearest_4 13 rfl
theorem dX11_nearest_33 : decode cX11_nearest 33 = .ok (.iload_n 1, 1) := lw_dr lw_d_cX11_nearest_4 14 rfl
theorem dX11_nearest_34 : decode cX11_nearest 34 = .ok (.iaload, 1) := lw_dr lw_d_cX11_nearest_4 15 rfl
theorem dX11_nearest_35 : decode cX11_nearest 35 = .ok (.iload_n 2, 1) := lw_dr lw_d_cX11_nearest_4 16 rfl
theorem dX11_nearest_36 : decode cX11_nearest 36 = .ok (.invokevirtual 249, 3) := lw_dr lw_d_cX11_nearest_4 17 rfl
theorem dX11_nearest_39 : decode cX11_nearest 39 = .ok (.ireturn, 1) := lw_dr lw_d_cX11_nearest_4 18 rfl
theorem lw_d_cX11_isNear_0 : lw_dl cX11_isNear [(0, .aload_n 0, 1), (1, .getfield 24, 3), (4, .aload_n 0, 1), (5, .getfield 69, 3), (8, .aload_n 0, 1), (9, .getfield 49, 3), (12, .invokevirtual 256, 3), (15, .iload_n 1, 1), (16, .ifCond .lt 18, 3), (34, .iconst 0, 1), (35, .ireturn, 1), (19, .iload_n 1, 1), (20, .aload_n 0, 1), (21, .getfield 24, 3), (24, .getfield 260, 3), (27, .if_icmp .ge 7, 3), (30, .iconst 1, 1), (31, .goto 4, 3)] = true := by decide +kernel
theorem dX11_isNear_0 : decode cX11_isNear 0 = .ok (.aload_n 0, 1) := lw_dr lw_d_cX11_isNear_0 0 rfl
theorem dX11_isNear_1 : decode cX11_isNear 1 = .ok (.getfield 24, 3) := lw_dr lw_d_cX11_isNear_0 1 rfl
theorem dX11_isNear_4 : decode cX11_isNear 4 = .ok (.aload_n 0, 1) := lw_dr lw_d_cX11_isNear_0 2 rfl
theorem dX11_isNear_5 : decode cX11_isNear 5 = .ok (.getfield 69, 3) := lw_dr lw_d_cX11_isNear_0 3 rfl
theorem dX11_isNear_8 : decode cX11_isNear 8 = .ok (.aload_n 0, 1) := lw_dr lw_d_cX11_isNear_0 4 rfl
theorem dX11_isNear_9 : decode cX11_isNear 9 = .ok (.getfield 49, 3) := lw_dr lw_d_cX11_isNear_0 5 rfl
theorem dX11_isNear_12 : decode cX11_isNear 12 = .ok (.invokevirtual 256, 3) := lw_dr lw_d_cX11_isNear_0 6 rfl
theorem dX11_isNear_15 : decode cX11_isNear 15 = .ok (.iload_n 1, 1) := lw_dr lw_d_cX11_isNear_0 7 rfl
theorem dX11_isNear_16 : decode cX11_isNear 16 = .ok (.ifCond .lt 18, 3) := lw_dr lw_d_cX11_isNear_0 8 rfl
theorem dX11_isNear_34 : decode cX11_isNear 34 = .ok (.iconst 0, 1) := lw_dr lw_d_cX11_isNear_0 9 rfl
theorem dX11_isNear_35 : decode cX11_isNear 35 = .ok (.ireturn, 1) := lw_dr lw_d_cX11_isNear_0 10 rfl
theorem dX11_isNear_19 : decode cX11_isNear 19 = .ok (.iload_n 1, 1) := lw_dr lw_d_cX11_isNear_0 11 rfl
theorem dX11_isNear_20 : decode cX11_isNear 20 = .ok (.aload_n 0, 1) := lw_dr lw_d_cX11_isNear_0 12 rfl
theorem dX11_isNear_21 : decode cX11_isNear 21 = .ok (.getfield 24, 3) := lw_dr lw_d_cX11_isNear_0 13 rfl
theorem dX11_isNear_24 : decode cX11_isNear 24 = .ok (.getfield 260, 3) := lw_dr lw_d_cX11_isNear_0 14 rfl
theorem dX11_isNear_27 : decode cX11_isNear 27 = .ok (.if_icmp .ge 7, 3) := lw_dr lw_d_cX11_isNear_0 15 rfl
theorem dX11_isNear_30 : decode cX11_isNear 30 = .ok (.iconst 1, 1) := lw_dr lw_d_cX11_isNear_0 16 rfl
theorem dX11_isNear_31 : decode cX11_isNear 31 = .ok (.goto 4, 3) := lw_dr lw_d_cX11_isNear_0 17 rfl
theorem lw_d_cX11_near_0 : lw_dl cX11_near [(0, .aload_n 0, 1), (1, .iload_n 1, 1), (2, .invokevirtual 243, 3), (5, .ifCond .eq 15, 3), (20, .ldc2_w 212, 3), (23, .lreturn, 1), (8, .aload_n 0, 1), (9, .getfield 24, 3), (12, .getfield 252, 3), (15, .iload_n 1, 1), (16, .laload, 1), (17, .goto 6, 3)] = true := by decide +kernel
theorem dX11_near_0 : decode cX11_near 0 = .ok (.aload_n 0, 1) := lw_dr lw_d_cX11_near_0 0 rfl
theorem dX11_near_1 : decode cX11_near 1 = .ok (.iload_n 1, 1) := lw_dr lw_d_cX11_near_0 1 rfl
theorem dX11_near_2 : decode cX11_near 2 = .ok (.invokevirtual 243, 3) := lw_dr lw_d_cX11_near_0 2 rfl
theorem dX11_near_5 : decode cX11_near 5 = .ok (.ifCond .eq 15, 3) := lw_dr lw_d_cX11_near_0 3 rfl
theorem dX11_near_20 : decode cX11_near 20 = .ok (.ldc2_w 212, 3) := lw_dr lw_d_cX11_near_0 4 rfl
theorem dX11_near_23 : decode cX11_near 23 = .ok (.lreturn, 1) := lw_dr lw_d_cX11_near_0 5 rfl
theorem dX11_near_8 : decode cX11_near 8 = .ok (.aload_n 0, 1) := lw_dr lw_d_cX11_near_0 6 rfl
theorem dX11_near_9 : decode cX11_near 9 = .ok (.getfield 24, 3) := lw_dr lw_d_cX11_near_0 7 rfl
theorem dX11_near_12 : decode cX11_near 12 = .ok (.getfield 252, 3) := lw_dr lw_d_cX11_near_0 8 rfl
theorem dX11_near_15 : decode cX11_near 15 = .ok (.iload_n 1, 1) := lw_dr lw_d_cX11_near_0 9 rfl
theorem dX11_near_16 : decode cX11_near 16 = .ok (.laload, 1) := lw_dr lw_d_cX11_near_0 10 rfl
theorem dX11_near_17 : decode cX11_near 17 = .ok (.goto 6, 3) := lw_dr lw_d_cX11_near_0 11 rfl
theorem lw_d_cX11_within_0 : lw_dl cX11_within [(0, .lload_n 1, 1), (1, .lconst 0, 1), (2, .lcmp, 1), (3, .ifCond .ge 7, 3), (10, .aload_n 0, 1), (11, .getfield 24, 3), (14, .aload_n 0, 1), (15, .getfield 69, 3), (18, .aload_n 0, 1), (19, .getfield 49, 3), (22, .lload_n 1, 1), (23, .aload_n 0, 1), (24, .getfield 69, 3), (27, .invokevirtual 263, 3), (30, .invokevirtual 266, 3), (33, .ireturn, 1), (6, .iconst (-1), 1), (7, .goto 26, 3)] = true := by decide +kernel
theorem dX11_within_0 : decode cX11_within 0 = .ok (.lload_n 1, 1) := lw_dr lw_d_cX11_within_0 0 rfl
theorem dX11_within_1 : decode cX11_within 1 = .ok (.lconst 0, 1) := lw_dr lw_d_cX11_within_0 1 rfl
theorem dX11_within_2 : decode cX11_within 2 = .ok (.lcmp, 1) := lw_dr lw_d_cX11_within_0 2 rfl
theorem dX11_within_3 : decode cX11_within 3 = .ok (.ifCond .ge 7, 3) := lw_dr lw_d_cX11_within_0 3 rfl
theorem dX11_within_10 : decode cX11_within 10 = .ok (.aload_n 0, 1) := lw_dr lw_d_cX11_within_0 4 rfl
theorem dX11_within_11 : decode cX11_within 11 = .ok (.getfield 24, 3) := lw_dr lw_d_cX11_within_0 5 rfl
theorem dX11_within_14 : decode cX11_within 14 = .ok (.aload_n 0, 1) := lw_dr lw_d_cX11_within_0 6 rfl
theorem dX11_within_15 : decode cX11_within 15 = .ok (.getfield 69, 3) := lw_dr lw_d_cX11_within_0 7 rfl
theorem dX11_within_18 : decode cX11_within 18 = .ok (.aload_n 0, 1) := lw_dr lw_d_cX11_within_0 8 rfl
theorem dX11_within_19 : decode cX11_within 19 = .ok (.getfield 49, 3) := lw_dr lw_d_cX11_within_0 9 rfl
theorem dX11_within_22 : decode cX11_within 22 = .ok (.lload_n 1, 1) := lw_dr lw_d_cX11_within_0 10 rfl
theorem dX11_within_23 : decode cX11_within 23 = .ok (.aload_n 0, 1) := lw_dr lw_d_cX11_within_0 11 rfl
theorem dX11_within_24 : decode cX11_within 24 = .ok (.getfield 69, 3) := lw_dr lw_d_cX11_within_0 12 rfl
theorem dX11_within_27 : decode cX11_within 27 = .ok (.invokevirtual 263, 3) := lw_dr lw_d_cX11_within_0 13 rfl
theorem dX11_within_30 : decode cX11_within 30 = .ok (.invokevirtual 266, 3) := lw_dr lw_d_cX11_within_0 14 rfl
theorem dX11_within_33 : decode cX11_within 33 = .ok (.ireturn, 1) := lw_dr lw_d_cX11_within_0 15 rfl
theorem dX11_within_6 : decode cX11_within 6 = .ok (.iconst (-1), 1) := lw_dr lw_d_cX11_within_0 16 rfl
theorem dX11_within_7 : decode cX11_within 7 = .ok (.goto 26, 3) := lw_dr lw_d_cX11_within_0 17 rfl
theorem lw_d_cX11_cancel_0 : lw_dl cX11_cancel [(0, .aload_n 0, 1), (1, .getfield 69, 3), (4, .iload_n 1, 1), (5, .invokevirtual 172, 3), (8, .ifCond .ne 6, 3), (14, .aload_n 0, 1), (15, .getfield 24, 3), (18, .aload_n 0, 1), (19, .getfield 69, 3), (22, .aload_n 0, 1), (23, .getfield 49, 3), (26, .invokevirtual 270, 3), (29, .aload_n 0, 1), (30, .getfield 24, 3), (33, .getfield 273, 3), (36, .iload_n 1, 1), (37, .iaload, 1), (38, .ireturn, 1), (11, .ldc 175, 2), (13, .ireturn, 1)] = true := by decide +kernel
theorem dX11_cancel_0 : decode cX11_cancel 0 = .ok (.aload_n 0, 1) := lw_dr lw_d_cX11_cancel_0 0 rfl
theorem dX11_cancel_1 : decode cX11_cancel 1 = .ok (.getfield 69, 3) := lw_dr lw_d_cX11_cancel_0 1 rfl
theorem dX11_cancel_4 : decode cX11_cancel 4 = .ok (.iload_n 1, 1) := lw_dr lw_d_cX11_cancel_0 2 rfl
theorem dX11_cancel_5 : decode cX11_cancel 5 = .ok (.invokevirtual 172, 3) := lw_dr lw_d_cX11_cancel_0 3 rfl
theorem dX11_cancel_8 : decode cX11_cancel 8 = .ok (.ifCond .ne 6, 3) := lw_dr lw_d_cX11_cancel_0 4 rfl
theorem dX11_cancel_14 : decode cX11_cancel 14 = .ok (.aload_n 0, 1) := lw_dr lw_d_cX11_cancel_0 5 rfl
theorem dX11_cancel_15 : decode cX11_cancel 15 = .ok (.getfield 24, 3) := lw_dr lw_d_cX11_cancel_0 6 rfl
theorem dX11_cancel_18 : decode cX11_cancel 18 = .ok (.aload_n 0, 1) := lw_dr lw_d_cX11_cancel_0 7 rfl
theorem dX11_cancel_19 : decode cX11_cancel 19 = .ok (.getfield 69, 3) := lw_dr lw_d_cX11_cancel_0 8 rfl
theorem dX11_cancel_22 : decode cX11_cancel 22 = .ok (.aload_n 0, 1) := lw_dr lw_d_cX11_cancel_0 9 rfl
theorem dX11_cancel_23 : decode cX11_cancel 23 = .ok (.getfield 49, 3) := lw_dr lw_d_cX11_cancel_0 10 rfl
theorem dX11_cancel_26 : decode cX11_cancel 26 = .ok (.invokevirtual 270, 3) := lw_dr lw_d_cX11_cancel_0 11 rfl
theorem dX11_cancel_29 : decode cX11_cancel 29 = .ok (.aload_n 0, 1) := lw_dr lw_d_cX11_cancel_0 12 rfl
theorem dX11_cancel_30 : decode cX11_cancel 30 = .ok (.getfield 24, 3) := lw_dr lw_d_cX11_cancel_0 13 rfl
theorem dX11_cancel_33 : decode cX11_cancel 33 = .ok (.getfield 273, 3) := lw_dr lw_d_cX11_cancel_0 14 rfl
theorem dX11_cancel_36 : decode cX11_cancel 36 = .ok (.iload_n 1, 1) := lw_dr lw_d_cX11_cancel_0 15 rfl
theorem dX11_cancel_37 : decode cX11_cancel 37 = .ok (.iaload, 1) := lw_dr lw_d_cX11_cancel_0 16 rfl
theorem dX11_cancel_38 : decode cX11_cancel 38 = .ok (.ireturn, 1) := lw_dr lw_d_cX11_cancel_0 17 rfl
theorem dX11_cancel_11 : decode cX11_cancel 11 = .ok (.ldc 175, 2) := lw_dr lw_d_cX11_cancel_0 18 rfl
theorem dX11_cancel_13 : decode cX11_cancel 13 = .ok (.ireturn, 1) := lw_dr lw_d_cX11_cancel_0 19 rfl
theorem lw_d_cX11_order_0 : lw_dl cX11_order [(0, .aload_n 0, 1), (1, .getfield 69, 3), (4, .iload_n 1, 1), (5, .invokevirtual 172, 3), (8, .ifCond .ne 5, 3), (13, .aload_n 0, 1), (14, .getfield 24, 3), (17, .aload_n 0, 1), (18, .getfield 69, 3), (21, .aload_n 0, 1), (22, .getfield 49, 3), (25, .invokevirtual 270, 3), (28, .aload_n 0, 1), (29, .getfield 24, 3), (32, .getfield 276, 3), (35, .iload_n 1, 1), (36, .iaload, 1), (37, .ireturn, 1), (11, .iconst (-1), 1), (12, .ireturn, 1)] = true := by decide +kernel
theorem dX11_order_0 : decode cX11_order 0 = .ok (.aload_n 0, 1) := lw_dr lw_d_cX11_order_0 0 rfl
theorem dX11_order_1 : decode cX11_order 1 = .ok (.getfield 69, 3) := lw_dr lw_d_cX11_order_0 1 rfl
theorem dX11_order_4 : decode cX11_order 4 = .ok (.iload_n 1, 1) := lw_dr lw_d_cX11_order_0 2 rfl
theorem dX11_order_5 : decode cX11_order 5 = .ok (.invokevirtual 172, 3) := lw_dr lw_d_cX11_order_0 3 rfl
theorem dX11_order_8 : decode cX11_order 8 = .ok (.ifCond .ne 5, 3) := lw_dr lw_d_cX11_order_0 4 rfl
theorem dX11_order_13 : decode cX11_order 13 = .ok (.aload_n 0, 1) := lw_dr lw_d_cX11_order_0 5 rfl
theorem dX11_order_14 : decode cX11_order 14 = .ok (.getfield 24, 3) := lw_dr lw_d_cX11_order_0 6 rfl
theorem dX11_order_17 : decode cX11_order 17 = .ok (.aload_n 0, 1) := lw_dr lw_d_cX11_order_0 7 rfl
theorem dX11_order_18 : decode cX11_order 18 = .ok (.getfield 69, 3) := lw_dr lw_d_cX11_order_0 8 rfl
theorem dX11_order_21 : decode cX11_order 21 = .ok (.aload_n 0, 1) := lw_dr lw_d_cX11_order_0 9 rfl
theorem dX11_order_22 : decode cX11_order 22 = .ok (.getfield 49, 3) := lw_dr lw_d_cX11_order_0 10 rfl
theorem dX11_order_25 : decode cX11_order 25 = .ok (.invokevirtual 270, 3) := lw_dr lw_d_cX11_order_0 11 rfl
theorem dX11_order_28 : decode cX11_order 28 = .ok (.aload_n 0, 1) := lw_dr lw_d_cX11_order_0 12 rfl
theorem dX11_order_29 : decode cX11_order 29 = .ok (.getfield 24, 3) := lw_dr lw_d_cX11_order_0 13 rfl
theorem dX11_order_32 : decode cX11_order 32 = .ok (.getfield 276, 3) := lw_dr lw_d_cX11_order_0 14 rfl
theorem dX11_order_35 : decode cX11_order 35 = .ok (.iload_n 1, 1) := lw_dr lw_d_cX11_order_0 15 rfl
theorem dX11_order_36 : decode cX11_order 36 = .ok (.iaload, 1) := lw_dr lw_d_cX11_order_0 16 rfl
theorem dX11_order_37 : decode cX11_order 37 = .ok (.ireturn, 1) := lw_dr lw_d_cX11_order_0 17 rfl
theorem dX11_order_11 : decode cX11_order 11 = .ok (.iconst (-1), 1) := lw_dr lw_d_cX11_order_0 18 rfl
theorem dX11_order_12 : decode cX11_order 12 = .ok (.ireturn, 1) := lw_dr lw_d_cX11_order_0 19 rfl
theorem lw_d_cX11_left_0 : lw_dl cX11_left [(0, .aload_n 0, 1), (1, .getfield 69, 3), (4, .getfield 136, 3), (7, .ifCond .ne 7, 3), (14, .aload_n 0, 1), (15, .getfield 24, 3), (18, .aload_n 0, 1), (19, .getfield 69, 3), (22, .aload_n 0, 1), (23, .getfield 49, 3), (26, .invokevirtual 270, 3), (29, .aload_n 0, 1), (30, .getfield 69, 3), (33, .aload_n 0, 1), (34, .getfield 24, 3), (37, .getfield 273, 3), (40, .aload_n 0, 1), (41, .getfield 49, 3), (44, .invokevirtual 208, 3), (47, .lreturn, 1), (10, .ldc2_w 212, 3), (13, .lreturn, 1)] = true := by decide +kernel
theorem dX11_left_0 : decode cX11_left 0 = .ok (.aload_n 0, 1) := lw_dr lw_d_cX11_left_0 0 rfl
theorem dX11_left_1 : decode cX11_left 1 = .ok (.getfield 69, 3) := lw_dr lw_d_cX11_left_0 1 rfl
theorem dX11_left_4 : decode cX11_left 4 = .ok (.getfield 136, 3) := lw_dr lw_d_cX11_left_0 2 rfl
theorem dX11_left_7 : decode cX11_left 7 = .ok (.ifCond .ne 7, 3) := lw_dr lw_d_cX11_left_0 3 rfl
theorem dX11_left_14 : decode cX11_left 14 = .ok (.aload_n 0, 1) := lw_dr lw_d_cX11_left_0 4 rfl
theorem dX11_left_15 : decode cX11_left 15 = .ok (.getfield 24, 3) := lw_dr lw_d_cX11_left_0 5 rfl
theorem dX11_left_18 : decode cX11_left 18 = .ok (.aload_n 0, 1) := lw_dr lw_d_cX11_left_0 6 rfl
theorem dX11_left_19 : decode cX11_left 19 = .ok (.getfield 69, 3) := lw_dr lw_d_cX11_left_0 7 rfl
theorem dX11_left_22 : decode cX11_left 22 = .ok (.aload_n 0, 1) := lw_dr lw_d_cX11_left_0 8 rfl
theorem dX11_left_23 : decode cX11_left 23 = .ok (.getfield 49, 3) := lw_dr lw_d_cX11_left_0 9 rfl
theorem dX11_left_26 : decode cX11_left 26 = .ok (.invokevirtual 270, 3) := lw_dr lw_d_cX11_left_0 10 rfl
theorem dX11_left_29 : decode cX11_left 29 = .ok (.aload_n 0, 1) := lw_dr lw_d_cX11_left_0 11 rfl
theorem dX11_left_30 : decode cX11_left 30 = .ok (.getfield 69, 3) := lw_dr lw_d_cX11_left_0 12 rfl
theorem dX11_left_33 : decode cX11_left 33 = .ok (.aload_n 0, 1) := lw_dr lw_d_cX11_left_0 13 rfl
theorem dX11_left_34 : decode cX11_left 34 = .ok (.getfield 24, 3) := lw_dr lw_d_cX11_left_0 14 rfl
theorem dX11_left_37 : decode cX11_left 37 = .ok (.getfield 273, 3) := lw_dr lw_d_cX11_left_0 15 rfl
theorem dX11_left_40 : decode cX11_left 40 = .ok (.aload_n 0, 1) := lw_dr lw_d_cX11_left_0 16 rfl
theorem dX11_left_41 : decode cX11_left 41 = .ok (.getfield 49, 3) := lw_dr lw_d_cX11_left_0 17 rfl
theorem dX11_left_44 : decode cX11_left 44 = .ok (.invokevirtual 208, 3) := lw_dr lw_d_cX11_left_0 18 rfl
theorem dX11_left_47 : decode cX11_left 47 = .ok (.lreturn, 1) := lw_dr lw_d_cX11_left_0 19 rfl
theorem dX11_left_10 : decode cX11_left 10 = .ok (.ldc2_w 212, 3) := lw_dr lw_d_cX11_left_0 20 rfl
theorem dX11_left_13 : decode cX11_left 13 = .ok (.lreturn, 1) := lw_dr lw_d_cX11_left_0 21 rfl
theorem lw_d_cX11_least_0 : lw_dl cX11_least [(0, .aload_n 0, 1), (1, .getfield 69, 3), (4, .iload_n 1, 1), (5, .invokevirtual 172, 3), (8, .ifCond .eq 14, 3), (22, .ldc2_w 212, 3), (25, .lreturn, 1), (11, .aload_n 0, 1), (12, .getfield 69, 3), (15, .iload_n 2, 1), (16, .invokevirtual 217, 3), (19, .ifCond .ne 7, 3), (26, .aload_n 0, 1), (27, .getfield 24, 3), (30, .aload_n 0, 1), (31, .getfield 69, 3), (34, .aload_n 0, 1), (35, .getfield 49, 3), (38, .invokevirtual 256, 3), (41, .aload_n 0, 1), (42, .getfield 24, 3), (45, .iload_n 1, 1), (46, .aload_n 0, 1), (47, .getfield 69, 3), (50, .iload_n 2, 1), (51, .invokevirtual 279, 3), (54, .invokevirtual 282, 3), (57, .lreturn, 1)] = true := by decide +kernel
theorem dX11_least_0 : decode cX11_least 0 = .ok (.aload_n 0, 1) := lw_dr lw_d_cX11_least_0 0 rfl
theorem dX11_least_1 : decode cX11_least 1 = .ok (.getfield 69, 3) := lw_dr lw_d_cX11_least_0 1 rfl
theorem dX11_least_4 : decode cX11_least 4 = .ok (.iload_n 1, 1) := lw_dr lw_d_cX11_least_0 2 rfl
theorem dX11_least_5 : decode cX11_least 5 = .ok (.invokevirtual 172, 3) := lw_dr lw_d_cX11_least_0 3 rfl
theorem dX11_least_8 : decode cX11_least 8 = .ok (.ifCond .eq 14, 3) := lw_dr lw_d_cX11_least_0 4 rfl
theorem dX11_least_22 : decode cX11_least 22 = .ok (.ldc2_w 212, 3) := lw_dr lw_d_cX11_least_0 5 rfl
theorem dX11_least_25 : decode cX11_least 25 = .ok (.lreturn, 1) := lw_dr lw_d_cX11_least_0 6 rfl
theorem dX11_least_11 : decode cX11_least 11 = .ok (.aload_n 0, 1) := lw_dr lw_d_cX11_least_0 7 rfl
theorem dX11_least_12 : decode cX11_least 12 = .ok (.getfield 69, 3) := lw_dr lw_d_cX11_least_0 8 rfl
theorem dX11_least_15 : decode cX11_least 15 = .ok (.iload_n 2, 1) := lw_dr lw_d_cX11_least_0 9 rfl
theorem dX11_least_16 : decode cX11_least 16 = .ok (.invokevirtual 217, 3) := lw_dr lw_d_cX11_least_0 10 rfl
theorem dX11_least_19 : decode cX11_least 19 = .ok (.ifCond .ne 7, 3) := lw_dr lw_d_cX11_least_0 11 rfl
theorem dX11_least_26 : decode cX11_least 26 = .ok (.aload_n 0, 1) := lw_dr lw_d_cX11_least_0 12 rfl
theorem dX11_least_27 : decode cX11_least 27 = .ok (.getfield 24, 3) := lw_dr lw_d_cX11_least_0 13 rfl
theorem dX11_least_30 : decode cX11_least 30 = .ok (.aload_n 0, 1) := lw_dr lw_d_cX11_least_0 14 rfl
theorem dX11_least_31 : decode cX11_least 31 = .ok (.getfield 69, 3) := lw_dr lw_d_cX11_least_0 15 rfl
theorem dX11_least_34 : decode cX11_least 34 = .ok (.aload_n 0, 1) := lw_dr lw_d_cX11_least_0 16 rfl
theorem dX11_least_35 : decode cX11_least 35 = .ok (.getfield 49, 3) := lw_dr lw_d_cX11_least_0 17 rfl
theorem dX11_least_38 : decode cX11_least 38 = .ok (.invokevirtual 256, 3) := lw_dr lw_d_cX11_least_0 18 rfl
theorem dX11_least_41 : decode cX11_least 41 = .ok (.aload_n 0, 1) := lw_dr lw_d_cX11_least_0 19 rfl
theorem dX11_least_42 : decode cX11_least 42 = .ok (.getfield 24, 3) := lw_dr lw_d_cX11_least_0 20 rfl
theorem dX11_least_45 : decode cX11_least 45 = .ok (.iload_n 1, 1) := lw_dr lw_d_cX11_least_0 21 rfl
theorem dX11_least_46 : decode cX11_least 46 = .ok (.aload_n 0, 1) := lw_dr lw_d_cX11_least_0 22 rfl
theorem dX11_least_47 : decode cX11_least 47 = .ok (.getfield 69, 3) := lw_dr lw_d_cX11_least_0 23 rfl
theorem dX11_least_50 : decode cX11_least 50 = .ok (.iload_n 2, 1) := lw_dr lw_d_cX11_least_0 24 rfl
theorem dX11_least_51 : decode cX11_least 51 = .ok (.invokevirtual 279, 3) := lw_dr lw_d_cX11_least_0 25 rfl
theorem dX11_least_54 : decode cX11_least 54 = .ok (.invokevirtual 282, 3) := lw_dr lw_d_cX11_least_0 26 rfl
theorem dX11_least_57 : decode cX11_least 57 = .ok (.lreturn, 1) := lw_dr lw_d_cX11_least_0 27 rfl
theorem lw_d_cX11_share_0 : lw_dl cX11_share [(0, .aload_n 0, 1), (1, .getfield 69, 3), (4, .iload_n 1, 1), (5, .invokevirtual 172, 3), (8, .ifCond .eq 14, 3), (22, .iconst (-1), 1), (23, .ireturn, 1), (11, .aload_n 0, 1), (12, .getfield 69, 3), (15, .iload_n 2, 1), (16, .invokevirtual 217, 3), (19, .ifCond .ne 5, 3), (24, .aload_n 0, 1), (25, .getfield 24, 3), (28, .aload_n 0, 1), (29, .getfield 69, 3), (32, .aload_n 0, 1), (33, .getfield 49, 3), (36, .invokevirtual 256, 3), (39, .aload_n 0, 1), (40, .getfield 24, 3), (43, .iload_n 1, 1), (44, .aload_n 0, 1), (45, .getfield 69, 3), (48, .iload_n 2, 1), (49, .invokevirtual 279, 3), (52, .invokevirtual 286, 3), (55, .ireturn, 1)] = true := by decide +kernel
theorem dX11_share_0 : decode cX11_share 0 = .ok (.aload_n 0, 1) := lw_dr lw_d_cX11_share_0 0 rfl
theorem dX11_share_1 : decode cX11_share 1 = .ok (.getfield 69, 3) := lw_dr lw_d_cX11_share_0 1 rfl
theorem dX11_share_4 : decode cX11_share 4 = .ok (.iload_n 1, 1) := lw_dr lw_d_cX11_share_0 2 rfl
theorem dX11_share_5 : decode cX11_share 5 = .ok (.invokevirtual 172, 3) := lw_dr lw_d_cX11_share_0 3 rfl
theorem dX11_share_8 : decode cX11_share 8 = .ok (.ifCond .eq 14, 3) := lw_dr lw_d_cX11_share_0 4 rfl
theorem dX11_share_22 : decode cX11_share 22 = .ok (.iconst (-1), 1) := lw_dr lw_d_cX11_share_0 5 rfl
theorem dX11_share_23 : decode cX11_share 23 = .ok (.ireturn, 1) := lw_dr lw_d_cX11_share_0 6 rfl
theorem dX11_share_11 : decode cX11_share 11 = .ok (.aload_n 0, 1) := lw_dr lw_d_cX11_share_0 7 rfl
theorem dX11_share_12 : decode cX11_share 12 = .ok (.getfield 69, 3) := lw_dr lw_d_cX11_share_0 8 rfl
theorem dX11_share_15 : decode cX11_share 15 = .ok (.iload_n 2, 1) := lw_dr lw_d_cX11_share_0 9 rfl
theorem dX11_share_16 : decode cX11_share 16 = .ok (.invokevirtual 217, 3) := lw_dr lw_d_cX11_share_0 10 rfl
theorem dX11_share_19 : decode cX11_share 19 = .ok (.ifCond .ne 5, 3) := lw_dr lw_d_cX11_share_0 11 rfl
theorem dX11_share_24 : decode cX11_share 24 = .ok (.aload_n 0, 1) := lw_dr lw_d_cX11_share_0 12 rfl
theorem dX11_share_25 : decode cX11_share 25 = .ok (.getfield 24, 3) := lw_dr lw_d_cX11_share_0 13 rfl
theorem dX11_share_28 : decode cX11_share 28 = .ok (.aload_n 0, 1) := lw_dr lw_d_cX11_share_0 14 rfl
theorem dX11_share_29 : decode cX11_share 29 = .ok (.getfield 69, 3) := lw_dr lw_d_cX11_share_0 15 rfl
theorem dX11_share_32 : decode cX11_share 32 = .ok (.aload_n 0, 1) := lw_dr lw_d_cX11_share_0 16 rfl
theorem dX11_share_33 : decode cX11_share 33 = .ok (.getfield 49, 3) := lw_dr lw_d_cX11_share_0 17 rfl
theorem dX11_share_36 : decode cX11_share 36 = .ok (.invokevirtual 256, 3) := lw_dr lw_d_cX11_share_0 18 rfl
theorem dX11_share_39 : decode cX11_share 39 = .ok (.aload_n 0, 1) := lw_dr lw_d_cX11_share_0 19 rfl
theorem dX11_share_40 : decode cX11_share 40 = .ok (.getfield 24, 3) := lw_dr lw_d_cX11_share_0 20 rfl
theorem dX11_share_43 : decode cX11_share 43 = .ok (.iload_n 1, 1) := lw_dr lw_d_cX11_share_0 21 rfl
theorem dX11_share_44 : decode cX11_share 44 = .ok (.aload_n 0, 1) := lw_dr lw_d_cX11_share_0 22 rfl
theorem dX11_share_45 : decode cX11_share 45 = .ok (.getfield 69, 3) := lw_dr lw_d_cX11_share_0 23 rfl
theorem dX11_share_48 : decode cX11_share 48 = .ok (.iload_n 2, 1) := lw_dr lw_d_cX11_share_0 24 rfl
theorem dX11_share_49 : decode cX11_share 49 = .ok (.invokevirtual 279, 3) := lw_dr lw_d_cX11_share_0 25 rfl
theorem dX11_share_52 : decode cX11_share 52 = .ok (.invokevirtual 286, 3) := lw_dr lw_d_cX11_share_0 26 rfl
theorem dX11_share_55 : decode cX11_share 55 = .ok (.ireturn, 1) := lw_dr lw_d_cX11_share_0 27 rfl
theorem lw_d_cX11_sure_0 : lw_dl cX11_sure [(0, .aload_n 0, 1), (1, .getfield 69, 3), (4, .iload_n 1, 1), (5, .invokevirtual 172, 3), (8, .ifCond .eq 11, 3), (19, .ldc2_w 212, 3), (22, .lreturn, 1), (11, .aload_n 0, 1), (12, .iconst 0, 1), (13, .invokevirtual 243, 3), (16, .ifCond .ne 7, 3), (23, .aload_n 0, 1), (24, .getfield 69, 3), (27, .aload_n 0, 1), (28, .getfield 24, 3), (31, .getfield 246, 3), (34, .iconst 0, 1), (35, .iaload, 1), (36, .iload_n 1, 1), (37, .invokevirtual 289, 3), (40, .istore_n 2, 1), (41, .aload_n 0, 1), (42, .getfield 24, 3), (45, .iload_n 1, 1), (46, .iload_n 2, 1), (47, .aload_n 0, 1), (48, .getfield 69, 3), (51, .getfield 133, 3), (54, .invokevirtual 292, 3), (57, .aload_n 0, 1), (58, .getfield 24, 3), (61, .getfield 252, 3), (64, .iconst 0, 1), (65, .laload, 1), (66, .lsub, 1), (67, .lreturn, 1)] = true := by decide +kernel
theorem dX11_sure_0 : decode cX11_sure 0 = .ok (.aload_n 0, 1) := lw_dr lw_d_cX11_sure_0 0 rfl
theorem dX11_sure_1 : decode cX11_sure 1 = .ok (.getfield 69, 3) := lw_dr lw_d_cX11_sure_0 1 rfl
theorem dX11_sure_4 : decode cX11_sure 4 = .ok (.iload_n 1, 1) := lw_dr lw_d_cX11_sure_0 2 rfl
theorem dX11_sure_5 : decode cX11_sure 5 = .ok (.invokevirtual 172, 3) := lw_dr lw_d_cX11_sure_0 3 rfl
theorem dX11_sure_8 : decode cX11_sure 8 = .ok (.ifCond .eq 11, 3) := lw_dr lw_d_cX11_sure_0 4 rfl
theorem dX11_sure_19 : decode cX11_sure 19 = .ok (.ldc2_w 212, 3) := lw_dr lw_d_cX11_sure_0 5 rfl
theorem dX11_sure_22 : decode cX11_sure 22 = .ok (.lreturn, 1) := lw_dr lw_d_cX11_sure_0 6 rfl
theorem dX11_sure_11 : decode cX11_sure 11 = .ok (.aload_n 0, 1) := lw_dr lw_d_cX11_sure_0 7 rfl
theorem dX11_sure_12 : decode cX11_sure 12 = .ok (.iconst 0, 1) := lw_dr lw_d_cX11_sure_0 8 rfl
theorem dX11_sure_13 : decode cX11_sure 13 = .ok (.invokevirtual 243, 3) := lw_dr lw_d_cX11_sure_0 9 rfl
theorem dX11_sure_16 : decode cX11_sure 16 = .ok (.ifCond .ne 7, 3) := lw_dr lw_d_cX11_sure_0 10 rfl
theorem dX11_sure_23 : decode cX11_sure 23 = .ok (.aload_n 0, 1) := lw_dr lw_d_cX11_sure_0 11 rfl
theorem dX11_sure_24 : decode cX11_sure 24 = .ok (.getfield 69, 3) := lw_dr lw_d_cX11_sure_0 12 rfl
theorem dX11_sure_27 : decode cX11_sure 27 = .ok (.aload_n 0, 1) := lw_dr lw_d_cX11_sure_0 13 rfl
theorem dX11_sure_28 : decode cX11_sure 28 = .ok (.getfield 24, 3) := lw_dr lw_d_cX11_sure_0 14 rfl
theorem dX11_sure_31 : decode cX11_sure 31 = .ok (.getfield 246, 3) := lw_dr lw_d_cX11_sure_0 15 rfl
theorem dX11_sure_34 : decode cX11_sure 34 = .ok (.iconst 0, 1) := lw_dr lw_d_cX11_sure_0 16 rfl
theorem dX11_sure_35 : decode cX11_sure 35 = .ok (.iaload, 1) := lw_dr lw_d_cX11_sure_0 17 rfl
theorem dX11_sure_36 : decode cX11_sure 36 = .ok (.iload_n 1, 1) := lw_dr lw_d_cX11_sure_0 18 rfl
theorem dX11_sure_37 : decode cX11_sure 37 = .ok (.invokevirtual 289, 3) := lw_dr lw_d_cX11_sure_0 19 rfl
theorem dX11_sure_40 : decode cX11_sure 40 = .ok (.istore_n 2, 1) := lw_dr lw_d_cX11_sure_0 20 rfl
theorem dX11_sure_41 : decode cX11_sure 41 = .ok (.aload_n 0, 1) := lw_dr lw_d_cX11_sure_0 21 rfl
theorem dX11_sure_42 : decode cX11_sure 42 = .ok (.getfield 24, 3) := lw_dr lw_d_cX11_sure_0 22 rfl
theorem dX11_sure_45 : decode cX11_sure 45 = .ok (.iload_n 1, 1) := lw_dr lw_d_cX11_sure_0 23 rfl
theorem dX11_sure_46 : decode cX11_sure 46 = .ok (.iload_n 2, 1) := lw_dr lw_d_cX11_sure_0 24 rfl
theorem dX11_sure_47 : decode cX11_sure 47 = .ok (.aload_n 0, 1) := lw_dr lw_d_cX11_sure_0 25 rfl
theorem dX11_sure_48 : decode cX11_sure 48 = .ok (.getfield 69, 3) := lw_dr lw_d_cX11_sure_0 26 rfl
theorem dX11_sure_51 : decode cX11_sure 51 = .ok (.getfield 133, 3) := lw_dr lw_d_cX11_sure_0 27 rfl
theorem dX11_sure_54 : decode cX11_sure 54 = .ok (.invokevirtual 292, 3) := lw_dr lw_d_cX11_sure_0 28 rfl
theorem dX11_sure_57 : decode cX11_sure 57 = .ok (.aload_n 0, 1) := lw_dr lw_d_cX11_sure_0 29 rfl
theorem dX11_sure_58 : decode cX11_sure 58 = .ok (.getfield 24, 3) := lw_dr lw_d_cX11_sure_0 30 rfl
theorem dX11_sure_61 : decode cX11_sure 61 = .ok (.getfield 252, 3) := lw_dr lw_d_cX11_sure_0 31 rfl
theorem dX11_sure_64 : decode cX11_sure 64 = .ok (.iconst 0, 1) := lw_dr lw_d_cX11_sure_0 32 rfl
theorem dX11_sure_65 : decode cX11_sure 65 = .ok (.laload, 1) := lw_dr lw_d_cX11_sure_0 33 rfl
theorem dX11_sure_66 : decode cX11_sure 66 = .ok (.lsub, 1) := lw_dr lw_d_cX11_sure_0 34 rfl
theorem dX11_sure_67 : decode cX11_sure 67 = .ok (.lreturn, 1) := lw_dr lw_d_cX11_sure_0 35 rfl
theorem lw_d_cX11_leader_0 : lw_dl cX11_leader [(0, .aload_n 0, 1), (1, .getfield 69, 3), (4, .iload_n 1, 1), (5, .invokevirtual 172, 3), (8, .ifCond .eq 26, 3), (34, .ldc2_w 308, 3), (37, .lreturn, 1), (11, .aload_n 0, 1), (12, .getfield 69, 3), (15, .iload_n 2, 1), (16, .invokevirtual 172, 3), (19, .ifCond .eq 15, 3), (22, .aload_n 0, 1), (23, .getfield 76, 3), (26, .iload_n 1, 1), (27, .iload_n 2, 1), (28, .invokevirtual 305, 3), (31, .goto 6, 3)] = true := by decide +kernel
theorem dX11_leader_0 : decode cX11_leader 0 = .ok (.aload_n 0, 1) := lw_dr lw_d_cX11_leader_0 0 rfl
theorem dX11_leader_1 : decode cX11_leader 1 = .ok (.getfield 69, 3) := lw_dr lw_d_cX11_leader_0 1 rfl
theorem dX11_leader_4 : decode cX11_leader 4 = .ok (.iload_n 1, 1) := lw_dr lw_d_cX11_leader_0 2 rfl
theorem dX11_leader_5 : decode cX11_leader 5 = .ok (.invokevirtual 172, 3) := lw_dr lw_d_cX11_leader_0 3 rfl
theorem dX11_leader_8 : decode cX11_leader 8 = .ok (.ifCond .eq 26, 3) := lw_dr lw_d_cX11_leader_0 4 rfl
theorem dX11_leader_34 : decode cX11_leader 34 = .ok (.ldc2_w 308, 3) := lw_dr lw_d_cX11_leader_0 5 rfl
theorem dX11_leader_37 : decode cX11_leader 37 = .ok (.lreturn, 1) := lw_dr lw_d_cX11_leader_0 6 rfl
theorem dX11_leader_11 : decode cX11_leader 11 = .ok (.aload_n 0, 1) := lw_dr lw_d_cX11_leader_0 7 rfl
theorem dX11_leader_12 : decode cX11_leader 12 = .ok (.getfield 69, 3) := lw_dr lw_d_cX11_leader_0 8 rfl
theorem dX11_leader_15 : decode cX11_leader 15 = .ok (.iload_n 2, 1) := lw_dr lw_d_cX11_leader_0 9 rfl
theorem dX11_leader_16 : decode cX11_leader 16 = .ok (.invokevirtual 172, 3) := lw_dr lw_d_cX11_leader_0 10 rfl
theorem dX11_leader_19 : decode cX11_leader 19 = .ok (.ifCond .eq 15, 3) := lw_dr lw_d_cX11_leader_0 11 rfl
theorem dX11_leader_22 : decode cX11_leader 22 = .ok (.aload_n 0, 1) := lw_dr lw_d_cX11_leader_0 12 rfl
theorem dX11_leader_23 : decode cX11_leader 23 = .ok (.getfield 76, 3) := lw_dr lw_d_cX11_leader_0 13 rfl
theorem dX11_leader_26 : decode cX11_leader 26 = .ok (.iload_n 1, 1) := lw_dr lw_d_cX11_leader_0 14 rfl
theorem dX11_leader_27 : decode cX11_leader 27 = .ok (.iload_n 2, 1) := lw_dr lw_d_cX11_leader_0 15 rfl
theorem dX11_leader_28 : decode cX11_leader 28 = .ok (.invokevirtual 305, 3) := lw_dr lw_d_cX11_leader_0 16 rfl
theorem dX11_leader_31 : decode cX11_leader 31 = .ok (.goto 6, 3) := lw_dr lw_d_cX11_leader_0 17 rfl
theorem lw_d_cX2_leaderAt_0 : lw_dl cX2_leaderAt [(0, .aload_n 0, 1), (1, .getfield 18, 3), (4, .iload_n 2, 1), (5, .iconst 5, 1), (6, .imul, 1), (7, .iload_n 1, 1), (8, .iadd, 1), (9, .laload, 1), (10, .lreturn, 1)] = true := by decide +kernel
theorem dX2_leaderAt_0 : decode cX2_leaderAt 0 = .ok (.aload_n 0, 1) := lw_dr lw_d_cX2_leaderAt_0 0 rfl
theorem dX2_leaderAt_1 : decode cX2_leaderAt 1 = .ok (.getfield 18, 3) := lw_dr lw_d_cX2_leaderAt_0 1 rfl
theorem dX2_leaderAt_4 : decode cX2_leaderAt 4 = .ok (.iload_n 2, 1) := lw_dr lw_d_cX2_leaderAt_0 2 rfl
theorem dX2_leaderAt_5 : decode cX2_leaderAt 5 = .ok (.iconst 5, 1) := lw_dr lw_d_cX2_leaderAt_0 3 rfl
theorem dX2_leaderAt_6 : decode cX2_leaderAt 6 = .ok (.imul, 1) := lw_dr lw_d_cX2_leaderAt_0 4 rfl
theorem dX2_leaderAt_7 : decode cX2_leaderAt 7 = .ok (.iload_n 1, 1) := lw_dr lw_d_cX2_leaderAt_0 5 rfl
theorem dX2_leaderAt_8 : decode cX2_leaderAt 8 = .ok (.iadd, 1) := lw_dr lw_d_cX2_leaderAt_0 6 rfl
theorem dX2_leaderAt_9 : decode cX2_leaderAt 9 = .ok (.laload, 1) := lw_dr lw_d_cX2_leaderAt_0 7 rfl
theorem dX2_leaderAt_10 : decode cX2_leaderAt 10 = .ok (.lreturn, 1) := lw_dr lw_d_cX2_leaderAt_0 8 rfl
theorem lw_d_cX11_step_0 : lw_dl cX11_step [(0, .iload_n 1, 1), (1, .ifCond .lt 23, 3), (24, .ldc 175, 2), (26, .ireturn, 1), (4, .iload_n 1, 1), (5, .aload_n 0, 1), (6, .getfield 76, 3), (9, .getfield 163, 3), (12, .if_icmp .ge 12, 3), (15, .iload_n 2, 1), (16, .ifCond .lt 8, 3), (19, .iload_n 2, 1), (20, .iconst 2, 1), (21, .if_icmp .le 6, 3), (27, .aload_n 0, 1), (28, .getfield 76, 3), (31, .iload_n 1, 1), (32, .iload_n 2, 1), (33, .invokevirtual 310, 3), (36, .ireturn, 1)] = true := by decide +kernel
theorem dX11_step_0 : decode cX11_step 0 = .ok (.iload_n 1, 1) := lw_dr lw_d_cX11_step_0 0 rfl
theorem dX11_step_1 : decode cX11_step 1 = .ok (.ifCond .lt 23, 3) := lw_dr lw_d_cX11_step_0 1 rfl
theorem dX11_step_24 : decode cX11_step 24 = .ok (.ldc 175, 2) := lw_dr lw_d_cX11_step_0 2 rfl
theorem dX11_step_26 : decode cX11_step 26 = .ok (.ireturn, 1) := lw_dr lw_d_cX11_step_0 3 rfl
theorem dX11_step_4 : decode cX11_step 4 = .ok (.iload_n 1, 1) := lw_dr lw_d_cX11_step_0 4 rfl
theorem dX11_step_5 : decode cX11_step 5 = .ok (.aload_n 0, 1) := lw_dr lw_d_cX11_step_0 5 rfl
theorem dX11_step_6 : decode cX11_step 6 = .ok (.getfield 76, 3) := lw_dr lw_d_cX11_step_0 6 rfl
theorem dX11_step_9 : decode cX11_step 9 = .ok (.getfield 163, 3) := lw_dr lw_d_cX11_step_0 7 rfl
theorem dX11_step_12 : decode cX11_step 12 = .ok (.if_icmp .ge 12, 3) := lw_dr lw_d_cX11_step_0 8 rfl
theorem dX11_step_15 : decode cX11_step 15 = .ok (.iload_n 2, 1) := lw_dr lw_d_cX11_step_0 9 rfl
theorem dX11_step_16 : decode cX11_step 16 = .ok (.ifCond .lt 8, 3) := lw_dr lw_d_cX11_step_0 10 rfl
theorem dX11_step_19 : decode cX11_step 19 = .ok (.iload_n 2, 1) := lw_dr lw_d_cX11_step_0 11 rfl
theorem dX11_step_20 : decode cX11_step 20 = .ok (.iconst 2, 1) := lw_dr lw_d_cX11_step_0 12 rfl
theorem dX11_step_21 : decode cX11_step 21 = .ok (.if_icmp .le 6, 3) := lw_dr lw_d_cX11_step_0 13 rfl
theorem dX11_step_27 : decode cX11_step 27 = .ok (.aload_n 0, 1) := lw_dr lw_d_cX11_step_0 14 rfl
theorem dX11_step_28 : decode cX11_step 28 = .ok (.getfield 76, 3) := lw_dr lw_d_cX11_step_0 15 rfl
theorem dX11_step_31 : decode cX11_step 31 = .ok (.iload_n 1, 1) := lw_dr lw_d_cX11_step_0 16 rfl
theorem dX11_step_32 : decode cX11_step 32 = .ok (.iload_n 2, 1) := lw_dr lw_d_cX11_step_0 17 rfl
theorem dX11_step_33 : decode cX11_step 33 = .ok (.invokevirtual 310, 3) := lw_dr lw_d_cX11_step_0 18 rfl
theorem dX11_step_36 : decode cX11_step 36 = .ok (.ireturn, 1) := lw_dr lw_d_cX11_step_0 19 rfl
theorem lw_d_cX2_stepAt_0 : lw_dl cX2_stepAt [(0, .aload_n 0, 1), (1, .getfield 22, 3), (4, .aload_n 0, 1), (5, .iload_n 1, 1), (6, .invokevirtual 56, 3), (9, .iload_n 2, 1), (10, .iadd, 1), (11, .iaload, 1), (12, .ireturn, 1)] = true := by decide +kernel
theorem dX2_stepAt_0 : decode cX2_stepAt 0 = .ok (.aload_n 0, 1) := lw_dr lw_d_cX2_stepAt_0 0 rfl
theorem dX2_stepAt_1 : decode cX2_stepAt 1 = .ok (.getfield 22, 3) := lw_dr lw_d_cX2_stepAt_0 1 rfl
theorem dX2_stepAt_4 : decode cX2_stepAt 4 = .ok (.aload_n 0, 1) := lw_dr lw_d_cX2_stepAt_0 2 rfl
theorem dX2_stepAt_5 : decode cX2_stepAt 5 = .ok (.iload_n 1, 1) := lw_dr lw_d_cX2_stepAt_0 3 rfl
theorem dX2_stepAt_6 : decode cX2_stepAt 6 = .ok (.invokevirtual 56, 3) := lw_dr lw_d_cX2_stepAt_0 4 rfl
theorem dX2_stepAt_9 : decode cX2_stepAt 9 = .ok (.iload_n 2, 1) := lw_dr lw_d_cX2_stepAt_0 5 rfl
theorem dX2_stepAt_10 : decode cX2_stepAt 10 = .ok (.iadd, 1) := lw_dr lw_d_cX2_stepAt_0 6 rfl
theorem dX2_stepAt_11 : decode cX2_stepAt 11 = .ok (.iaload, 1) := lw_dr lw_d_cX2_stepAt_0 7 rfl
theorem dX2_stepAt_12 : decode cX2_stepAt 12 = .ok (.ireturn, 1) := lw_dr lw_d_cX2_stepAt_0 8 rfl
theorem lw_d_cX2_slot_0 : lw_dl cX2_slot [(0, .aload_n 0, 1), (1, .getfield 30, 3), (4, .iload_n 1, 1), (5, .iadd, 1), (6, .bipush 40, 2), (8, .irem, 1), (9, .iconst 3, 1), (10, .imul, 1), (11, .ireturn, 1)] = true := by decide +kernel
theorem dX2_slot_0 : decode cX2_slot 0 = .ok (.aload_n 0, 1) := lw_dr lw_d_cX2_slot_0 0 rfl
theorem dX2_slot_1 : decode cX2_slot 1 = .ok (.getfield 30, 3) := lw_dr lw_d_cX2_slot_0 1 rfl
theorem dX2_slot_4 : decode cX2_slot 4 = .ok (.iload_n 1, 1) := lw_dr lw_d_cX2_slot_0 2 rfl
theorem dX2_slot_5 : decode cX2_slot 5 = .ok (.iadd, 1) := lw_dr lw_d_cX2_slot_0 3 rfl
theorem dX2_slot_6 : decode cX2_slot 6 = .ok (.bipush 40, 2) := lw_dr lw_d_cX2_slot_0 4 rfl
theorem dX2_slot_8 : decode cX2_slot 8 = .ok (.irem, 1) := lw_dr lw_d_cX2_slot_0 5 rfl
theorem dX2_slot_9 : decode cX2_slot 9 = .ok (.iconst 3, 1) := lw_dr lw_d_cX2_slot_0 6 rfl
theorem dX2_slot_10 : decode cX2_slot 10 = .ok (.imul, 1) := lw_dr lw_d_cX2_slot_0 7 rfl
theorem dX2_slot_11 : decode cX2_slot 11 = .ok (.ireturn, 1) := lw_dr lw_d_cX2_slot_0 8 rfl
theorem lw_d_cX11_clash_0 : lw_dl cX11_clash [(0, .aload_n 0, 1), (1, .getfield 69, 3), (4, .iload_n 1, 1), (5, .invokevirtual 172, 3), (8, .ifCond .eq 19, 3), (27, .iconst (-1), 1), (28, .ireturn, 1), (11, .aload_n 0, 1), (12, .getfield 69, 3), (15, .iload_n 2, 1), (16, .invokevirtual 172, 3), (19, .ifCond .eq 8, 3), (22, .iload_n 1, 1), (23, .iload_n 2, 1), (24, .if_icmp .ne 5, 3), (29, .aload_n 0, 1), (30, .iload_n 3, 1), (31, .invokevirtual 176, 3), (34, .iload_n 1, 1), (35, .iload_n 2, 1), (36, .invokevirtual 313, 3), (39, .ireturn, 1)] = true := by decide +kernel
theorem dX11_clash_0 : decode cX11_clash 0 = .ok (.aload_n 0, 1) := lw_dr lw_d_cX11_clash_0 0 rfl
theorem dX11_clash_1 : decode cX11_clash 1 = .ok (.getfield 69, 3) := lw_dr lw_d_cX11_clash_0 1 rfl
theorem dX11_clash_4 : decode cX11_clash 4 = .ok (.iload_n 1, 1) := lw_dr lw_d_cX11_clash_0 2 rfl
theorem dX11_clash_5 : decode cX11_clash 5 = .ok (.invokevirtual 172, 3) := lw_dr lw_d_cX11_clash_0 3 rfl
theorem dX11_clash_8 : decode cX11_clash 8 = .ok (.ifCond .eq 19, 3) := lw_dr lw_d_cX11_clash_0 4 rfl
theorem dX11_clash_27 : decode cX11_clash 27 = .ok (.iconst (-1), 1) := lw_dr lw_d_cX11_clash_0 5 rfl
theorem dX11_clash_28 : decode cX11_clash 28 = .ok (.ireturn, 1) := lw_dr lw_d_cX11_clash_0 6 rfl
theorem dX11_clash_11 : decode cX11_clash 11 = .ok (.aload_n 0, 1) := lw_dr lw_d_cX11_clash_0 7 rfl
theorem dX11_clash_12 : decode cX11_clash 12 = .ok (.getfield 69, 3) := lw_dr lw_d_cX11_clash_0 8 rfl
theorem dX11_clash_15 : decode cX11_clash 15 = .ok (.iload_n 2, 1) := lw_dr lw_d_cX11_clash_0 9 rfl
theorem dX11_clash_16 : decode cX11_clash 16 = .ok (.invokevirtual 172, 3) := lw_dr lw_d_cX11_clash_0 10 rfl
theorem dX11_clash_19 : decode cX11_clash 19 = .ok (.ifCond .eq 8, 3) := lw_dr lw_d_cX11_clash_0 11 rfl
theorem dX11_clash_22 : decode cX11_clash 22 = .ok (.iload_n 1, 1) := lw_dr lw_d_cX11_clash_0 12 rfl
theorem dX11_clash_23 : decode cX11_clash 23 = .ok (.iload_n 2, 1) := lw_dr lw_d_cX11_clash_0 13 rfl
theorem dX11_clash_24 : decode cX11_clash 24 = .ok (.if_icmp .ne 5, 3) := lw_dr lw_d_cX11_clash_0 14 rfl
theorem dX11_clash_29 : decode cX11_clash 29 = .ok (.aload_n 0, 1) := lw_dr lw_d_cX11_clash_0 15 rfl
theorem dX11_clash_30 : decode cX11_clash 30 = .ok (.iload_n 3, 1) := lw_dr lw_d_cX11_clash_0 16 rfl
theorem dX11_clash_31 : decode cX11_clash 31 = .ok (.invokevirtual 176, 3) := lw_dr lw_d_cX11_clash_0 17 rfl
theorem dX11_clash_34 : decode cX11_clash 34 = .ok (.iload_n 1, 1) := lw_dr lw_d_cX11_clash_0 18 rfl
theorem dX11_clash_35 : decode cX11_clash 35 = .ok (.iload_n 2, 1) := lw_dr lw_d_cX11_clash_0 19 rfl
theorem dX11_clash_36 : decode cX11_clash 36 = .ok (.invokevirtual 313, 3) := lw_dr lw_d_cX11_clash_0 20 rfl
theorem dX11_clash_39 : decode cX11_clash 39 = .ok (.ireturn, 1) := lw_dr lw_d_cX11_clash_0 21 rfl
theorem lw_d_cX11_worst_0 : lw_dl cX11_worst [(0, .aload_n 0, 1), (1, .iload_n 1, 1), (2, .invokevirtual 176, 3), (5, .aload_n 0, 1), (6, .getfield 69, 3), (9, .getfield 136, 3), (12, .invokevirtual 316, 3), (15, .ireturn, 1)] = true := by decide +kernel
theorem dX11_worst_0 : decode cX11_worst 0 = .ok (.aload_n 0, 1) := lw_dr lw_d_cX11_worst_0 0 rfl
theorem dX11_worst_1 : decode cX11_worst 1 = .ok (.iload_n 1, 1) := lw_dr lw_d_cX11_worst_0 1 rfl
theorem dX11_worst_2 : decode cX11_worst 2 = .ok (.invokevirtual 176, 3) := lw_dr lw_d_cX11_worst_0 2 rfl
theorem dX11_worst_5 : decode cX11_worst 5 = .ok (.aload_n 0, 1) := lw_dr lw_d_cX11_worst_0 3 rfl
theorem dX11_worst_6 : decode cX11_worst 6 = .ok (.getfield 69, 3) := lw_dr lw_d_cX11_worst_0 4 rfl
theorem dX11_worst_9 : decode cX11_worst 9 = .ok (.getfield 136, 3) := lw_dr lw_d_cX11_worst_0 5 rfl
theorem dX11_worst_12 : decode cX11_worst 12 = .ok (.invokevirtual 316, 3) := lw_dr lw_d_cX11_worst_0 6 rfl
theorem dX11_worst_15 : decode cX11_worst 15 = .ok (.ireturn, 1) := lw_dr lw_d_cX11_worst_0 7 rfl
theorem lw_d_cX11_squares_0 : lw_dl cX11_squares [(0, .aload_n 0, 1), (1, .iload_n 1, 1), (2, .invokevirtual 176, 3), (5, .invokevirtual 319, 3), (8, .lreturn, 1)] = true := by decide +kernel
theorem dX11_squares_0 : decode cX11_squares 0 = .ok (.aload_n 0, 1) := lw_dr lw_d_cX11_squares_0 0 rfl
theorem dX11_squares_1 : decode cX11_squares 1 = .ok (.iload_n 1, 1) := lw_dr lw_d_cX11_squares_0 1 rfl
theorem dX11_squares_2 : decode cX11_squares 2 = .ok (.invokevirtual 176, 3) := lw_dr lw_d_cX11_squares_0 2 rfl
theorem dX11_squares_5 : decode cX11_squares 5 = .ok (.invokevirtual 319, 3) := lw_dr lw_d_cX11_squares_0 3 rfl
theorem dX11_squares_8 : decode cX11_squares 8 = .ok (.lreturn, 1) := lw_dr lw_d_cX11_squares_0 4 rfl
theorem lw_d_cX11_sums_0 : lw_dl cX11_sums [(0, .aload_n 0, 1), (1, .getfield 69, 3), (4, .iload_n 1, 1), (5, .invokevirtual 323, 3), (8, .ifCond .eq 29, 3), (37, .ldc2_w 308, 3), (40, .lreturn, 1), (11, .iload_n 2, 1), (12, .iconst 1, 1), (13, .if_icmp .lt 24, 3), (16, .iload_n 2, 1), (17, .iconst 2, 1), (18, .if_icmp .gt 19, 3), (21, .iload_n 3, 1), (22, .iconst (-1), 1), (23, .if_icmp .eq 18, 3), (41, .aload_n 0, 1), (42, .getfield 31, 3), (45, .aload_n 0, 1), (46, .getfield 69, 3), (49, .iload_n 1, 1), (50, .iload_n 2, 1), (51, .invokevirtual 326, 3), (54, .iload_n 3, 1), (55, .iconst (-1), 1), (56, .if_icmp .ne 13, 3), (59, .aload_n 0, 1), (60, .getfield 31, 3), (63, .getfield 330, 3), (66, .goto 13, 3), (79, .lreturn, 1), (26, .aload_n 0, 1), (27, .getfield 69, 3), (30, .iload_n 3, 1), (31, .invokevirtual 172, 3), (34, .ifCond .ne 7, 3), (69, .aload_n 0, 1), (70, .getfield 31, 3), (73, .getfield 334, 3), (76, .iload_n 3, 1)] = true := by decide +kernel
theorem dX11_sums_0 : decode cX11_sums 0 = .ok (.aload_n 0, 1) := lw_dr lw_d_cX11_sums_0 0 rfl
theorem dX11_sums_1 : decode cX11_sums 1 = .ok (.getfield 69, 3) := lw_dr lw_d_cX11_sums_0 1 rfl
theorem dX11_sums_4 : decode cX11_sums 4 = .ok (.iload_n 1, 1) := lw_dr lw_d_cX11_sums_0 2 rfl
theorem dX11_sums_5 : decode cX11_sums 5 = .ok (.invokevirtual 323, 3) := lw_dr lw_d_cX11_sums_0 3 rfl
theorem dX11_sums_8 : decode cX11_sums 8 = .ok (.ifCond .eq 29, 3) := lw_dr lw_d_cX11_sums_0 4 rfl
theorem dX11_sums_37 : decode cX11_sums 37 = .ok (.ldc2_w 308, 3) := lw_dr lw_d_cX11_sums_0 5 rfl
theorem dX11_sums_40 : decode cX11_sums 40 = .ok (.lreturn, 1) := lw_dr lw_d_cX11_sums_0 6 rfl
theorem dX11_sums_11 : decode cX11_sums 11 = .ok (.iload_n 2, 1) := lw_dr lw_d_cX11_sums_0 7 rfl
theorem dX11_sums_12 : decode cX11_sums 12 = .ok (.iconst 1, 1) := lw_dr lw_d_cX11_sums_0 8 rfl
theorem dX11_sums_13 : decode cX11_sums 13 = .ok (.if_icmp .lt 24, 3) := lw_dr lw_d_cX11_sums_0 9 rfl
theorem dX11_sums_16 : decode cX11_sums 16 = .ok (.iload_n 2, 1) := lw_dr lw_d_cX11_sums_0 10 rfl
theorem dX11_sums_17 : decode cX11_sums 17 = .ok (.iconst 2, 1) := lw_dr lw_d_cX11_sums_0 11 rfl
theorem dX11_sums_18 : decode cX11_sums 18 = .ok (.if_icmp .gt 19, 3) := lw_dr lw_d_cX11_sums_0 12 rfl
theorem dX11_sums_21 : decode cX11_sums 21 = .ok (.iload_n 3, 1) := lw_dr lw_d_cX11_sums_0 13 rfl
theorem dX11_sums_22 : decode cX11_sums 22 = .ok (.iconst (-1), 1) := lw_dr lw_d_cX11_sums_0 14 rfl
theorem dX11_sums_23 : decode cX11_sums 23 = .ok (.if_icmp .eq 18, 3) := lw_dr lw_d_cX11_sums_0 15 rfl
theorem dX11_sums_41 : decode cX11_sums 41 = .ok (.aload_n 0, 1) := lw_dr lw_d_cX11_sums_0 16 rfl
theorem dX11_sums_42 : decode cX11_sums 42 = .ok (.getfield 31, 3) := lw_dr lw_d_cX11_sums_0 17 rfl
theorem dX11_sums_45 : decode cX11_sums 45 = .ok (.aload_n 0, 1) := lw_dr lw_d_cX11_sums_0 18 rfl
theorem dX11_sums_46 : decode cX11_sums 46 = .ok (.getfield 69, 3) := lw_dr lw_d_cX11_sums_0 19 rfl
theorem dX11_sums_49 : decode cX11_sums 49 = .ok (.iload_n 1, 1) := lw_dr lw_d_cX11_sums_0 20 rfl
theorem dX11_sums_50 : decode cX11_sums 50 = .ok (.iload_n 2, 1) := lw_dr lw_d_cX11_sums_0 21 rfl
theorem dX11_sums_51 : decode cX11_sums 51 = .ok (.invokevirtual 326, 3) := lw_dr lw_d_cX11_sums_0 22 rfl
theorem dX11_sums_54 : decode cX11_sums 54 = .ok (.iload_n 3, 1) := lw_dr lw_d_cX11_sums_0 23 rfl
theorem dX11_sums_55 : decode cX11_sums 55 = .ok (.iconst (-1), 1) := lw_dr lw_d_cX11_sums_0 24 rfl
theorem dX11_sums_56 : decode cX11_sums 56 = .ok (.if_icmp .ne 13, 3) := lw_dr lw_d_cX11_sums_0 25 rfl
theorem dX11_sums_59 : decode cX11_sums 59 = .ok (.aload_n 0, 1) := lw_dr lw_d_cX11_sums_0 26 rfl
theorem dX11_sums_60 : decode cX11_sums 60 = .ok (.getfield 31, 3) := lw_dr lw_d_cX11_sums_0 27 rfl
theorem dX11_sums_63 : decode cX11_sums 63 = .ok (.getfield 330, 3) := lw_dr lw_d_cX11_sums_0 28 rfl
theorem dX11_sums_66 : decode cX11_sums 66 = .ok (.goto 13, 3) := lw_dr lw_d_cX11_sums_0 29 rfl
theorem dX11_sums_79 : decode cX11_sums 79 = .ok (.lreturn, 1) := lw_dr lw_d_cX11_sums_0 30 rfl
theorem dX11_sums_26 : decode cX11_sums 26 = .ok (.aload_n 0, 1) := lw_dr lw_d_cX11_sums_0 31 rfl
theorem dX11_sums_27 : decode cX11_sums 27 = .ok (.getfield 69, 3) := lw_dr lw_d_cX11_sums_0 32 rfl
theorem dX11_sums_30 : decode cX11_sums 30 = .ok (.iload_n 3, 1) := lw_dr lw_d_cX11_sums_0 33 rfl
theorem dX11_sums_31 : decode cX11_sums 31 = .ok (.invokevirtual 172, 3) := lw_dr lw_d_cX11_sums_0 34 rfl
theorem dX11_sums_34 : decode cX11_sums 34 = .ok (.ifCond .ne 7, 3) := lw_dr lw_d_cX11_sums_0 35 rfl
theorem dX11_sums_69 : decode cX11_sums 69 = .ok (.aload_n 0, 1) := lw_dr lw_d_cX11_sums_0 36 rfl
theorem dX11_sums_70 : decode cX11_sums 70 = .ok (.getfield 31, 3) := lw_dr lw_d_cX11_sums_0 37 rfl
theorem dX11_sums_73 : decode cX11_sums 73 = .ok (.getfield 334, 3) := lw_dr lw_d_cX11_sums_0 38 rfl
theorem dX11_sums_76 : decode cX11_sums 76 = .ok (.iload_n 3, 1) := lw_dr lw_d_cX11_sums_0 39 rfl
theorem lw_d_cX11_sums_77 : lw_dl cX11_sums [(77, .iaload, 1), (78, .i2l, 1)] = true := by decide +kernel
theorem dX11_sums_77 : decode cX11_sums 77 = .ok (.iaload, 1) := lw_dr lw_d_cX11_sums_77 0 rfl
theorem dX11_sums_78 : decode cX11_sums 78 = .ok (.i2l, 1) := lw_dr lw_d_cX11_sums_77 1 rfl
theorem lw_d_cX11_apart_0 : lw_dl cX11_apart [(0, .aload_n 0, 1), (1, .getfield 69, 3), (4, .iload_n 1, 1), (5, .invokevirtual 323, 3), (8, .ifCond .eq 18, 3), (26, .ldc2_w 212, 3), (29, .lreturn, 1), (11, .aload_n 0, 1), (12, .getfield 31, 3), (15, .aload_n 0, 1), (16, .getfield 69, 3), (19, .iload_n 1, 1), (20, .invokevirtual 337, 3), (23, .goto 6, 3)] = true := by decide +kernel
theorem dX11_apart_0 : decode cX11_apart 0 = .ok (.aload_n 0, 1) := lw_dr lw_d_cX11_apart_0 0 rfl
theorem dX11_apart_1 : decode cX11_apart 1 = .ok (.getfield 69, 3) := lw_dr lw_d_cX11_apart_0 1 rfl
theorem dX11_apart_4 : decode cX11_apart 4 = .ok (.iload_n 1, 1) := lw_dr lw_d_cX11_apart_0 2 rfl
theorem dX11_apart_5 : decode cX11_apart 5 = .ok (.invokevirtual 323, 3) := lw_dr lw_d_cX11_apart_0 3 rfl
theorem dX11_apart_8 : decode cX11_apart 8 = .ok (.ifCond .eq 18, 3) := lw_dr lw_d_cX11_apart_0 4 rfl
theorem dX11_apart_26 : decode cX11_apart 26 = .ok (.ldc2_w 212, 3) := lw_dr lw_d_cX11_apart_0 5 rfl
theorem dX11_apart_29 : decode cX11_apart 29 = .ok (.lreturn, 1) := lw_dr lw_d_cX11_apart_0 6 rfl
theorem dX11_apart_11 : decode cX11_apart 11 = .ok (.aload_n 0, 1) := lw_dr lw_d_cX11_apart_0 7 rfl
theorem dX11_apart_12 : decode cX11_apart 12 = .ok (.getfield 31, 3) := lw_dr lw_d_cX11_apart_0 8 rfl
theorem dX11_apart_15 : decode cX11_apart 15 = .ok (.aload_n 0, 1) := lw_dr lw_d_cX11_apart_0 9 rfl
theorem dX11_apart_16 : decode cX11_apart 16 = .ok (.getfield 69, 3) := lw_dr lw_d_cX11_apart_0 10 rfl
theorem dX11_apart_19 : decode cX11_apart 19 = .ok (.iload_n 1, 1) := lw_dr lw_d_cX11_apart_0 11 rfl
theorem dX11_apart_20 : decode cX11_apart 20 = .ok (.invokevirtual 337, 3) := lw_dr lw_d_cX11_apart_0 12 rfl
theorem dX11_apart_23 : decode cX11_apart 23 = .ok (.goto 6, 3) := lw_dr lw_d_cX11_apart_0 13 rfl
theorem lw_d_cX11_word_0 : lw_dl cX11_word [(0, .aload_n 0, 1), (1, .getfield 69, 3), (4, .iload_n 1, 1), (5, .invokevirtual 341, 3), (8, .ifCond .eq 26, 3), (34, .ldc 175, 2), (36, .ireturn, 1), (11, .aload_n 0, 1), (12, .getfield 69, 3), (15, .iload_n 2, 1), (16, .invokevirtual 172, 3), (19, .ifCond .eq 15, 3), (22, .aload_n 0, 1), (23, .getfield 69, 3), (26, .iload_n 1, 1), (27, .iload_n 2, 1), (28, .invokevirtual 344, 3), (31, .goto 5, 3)] = true := by decide +kernel
theorem dX11_word_0 : decode cX11_word 0 = .ok (.aload_n 0, 1) := lw_dr lw_d_cX11_word_0 0 rfl
theorem dX11_word_1 : decode cX11_word 1 = .ok (.getfield 69, 3) := lw_dr lw_d_cX11_word_0 1 rfl
theorem dX11_word_4 : decode cX11_word 4 = .ok (.iload_n 1, 1) := lw_dr lw_d_cX11_word_0 2 rfl
theorem dX11_word_5 : decode cX11_word 5 = .ok (.invokevirtual 341, 3) := lw_dr lw_d_cX11_word_0 3 rfl
theorem dX11_word_8 : decode cX11_word 8 = .ok (.ifCond .eq 26, 3) := lw_dr lw_d_cX11_word_0 4 rfl
theorem dX11_word_34 : decode cX11_word 34 = .ok (.ldc 175, 2) := lw_dr lw_d_cX11_word_0 5 rfl
theorem dX11_word_36 : decode cX11_word 36 = .ok (.ireturn, 1) := lw_dr lw_d_cX11_word_0 6 rfl
theorem dX11_word_11 : decode cX11_word 11 = .ok (.aload_n 0, 1) := lw_dr lw_d_cX11_word_0 7 rfl
theorem dX11_word_12 : decode cX11_word 12 = .ok (.getfield 69, 3) := lw_dr lw_d_cX11_word_0 8 rfl
theorem dX11_word_15 : decode cX11_word 15 = .ok (.iload_n 2, 1) := lw_dr lw_d_cX11_word_0 9 rfl
theorem dX11_word_16 : decode cX11_word 16 = .ok (.invokevirtual 172, 3) := lw_dr lw_d_cX11_word_0 10 rfl
theorem dX11_word_19 : decode cX11_word 19 = .ok (.ifCond .eq 15, 3) := lw_dr lw_d_cX11_word_0 11 rfl
theorem dX11_word_22 : decode cX11_word 22 = .ok (.aload_n 0, 1) := lw_dr lw_d_cX11_word_0 12 rfl
theorem dX11_word_23 : decode cX11_word 23 = .ok (.getfield 69, 3) := lw_dr lw_d_cX11_word_0 13 rfl
theorem dX11_word_26 : decode cX11_word 26 = .ok (.iload_n 1, 1) := lw_dr lw_d_cX11_word_0 14 rfl
theorem dX11_word_27 : decode cX11_word 27 = .ok (.iload_n 2, 1) := lw_dr lw_d_cX11_word_0 15 rfl
theorem dX11_word_28 : decode cX11_word 28 = .ok (.invokevirtual 344, 3) := lw_dr lw_d_cX11_word_0 16 rfl
theorem dX11_word_31 : decode cX11_word 31 = .ok (.goto 5, 3) := lw_dr lw_d_cX11_word_0 17 rfl
theorem lw_d_cX11_code_0 : lw_dl cX11_code [(0, .iload_n 1, 1), (1, .iconst 3, 1), (2, .if_icmp .ne 28, 3), (30, .iload_n 1, 1), (31, .ifCond .lt 19, 3)] = true := by decide +kernel
theorem dX11_code_0 : decode cX11_code 0 = .ok (.iload_n 1, 1) := lw_dr lw_d_cX11_code_0 0 rfl
theorem dX11_code_1 : decode cX11_code 1 = .ok (.iconst 3, 1) := lw_dr lw_d_cX11_code_0 1 rfl
theorem dX11_code_2 : decode cX11_code 2 = .ok (.if_icmp .ne 28, 3) := lw_dr lw_d_cX11_code_0 2 rfl
theorem dX11_code_30 : decode cX11_code 30 = .ok (.iload_n 1, 1) := lw_dr lw_d_cX11_code_0 3 rfl
theorem dX11_code_31 : decode cX11_code 31 = .ok (.ifCond .lt 19, 3) := lw_dr lw_d_cX11_code_0 4 rfl
theorem lw_d_cX11_code_50 : lw_dl cX11_code [(50, .ldc2_w 212, 3), (53, .lreturn, 1), (34, .iload_n 1, 1), (35, .iconst 2, 1), (36, .if_icmp .gt 14, 3), (39, .aload_n 0, 1), (40, .getfield 69, 3), (43, .getfield 145, 3), (46, .iconst 2, 1), (47, .if_icmp .ge 7, 3), (54, .aload_n 0, 1), (55, .getfield 38, 3), (58, .aload_n 0, 1), (59, .getfield 69, 3), (62, .invokevirtual 350, 3), (65, .aload_n 0, 1), (66, .getfield 38, 3), (69, .iconst (-1), 1), (70, .invokevirtual 352, 3), (73, .iload_n 1, 1), (74, .ifCond .ne 11, 3), (85, .iload_n 1, 1), (86, .iconst 1, 1), (87, .if_icmp .ne 14, 3), (101, .aload_n 0, 1), (102, .getfield 38, 3), (105, .getfield 361, 3), (108, .i2l, 1), (109, .lreturn, 1), (90, .aload_n 0, 1), (91, .getfield 38, 3), (94, .getfield 358, 3), (97, .i2l, 1), (98, .goto 11, 3), (77, .aload_n 0, 1), (78, .getfield 38, 3), (81, .getfield 355, 3), (84, .lreturn, 1), (5, .aload_n 0, 1), (6, .getfield 69, 3)] = true := by decide +kernel
theorem dX11_code_50 : decode cX11_code 50 = .ok (.ldc2_w 212, 3) := lw_dr lw_d_cX11_code_50 0 rfl
theorem dX11_code_53 : decode cX11_code 53 = .ok (.lreturn, 1) := lw_dr lw_d_cX11_code_50 1 rfl
theorem dX11_code_34 : decode cX11_code 34 = .ok (.iload_n 1, 1) := lw_dr lw_d_cX11_code_50 2 rfl
theorem dX11_code_35 : decode cX11_code 35 = .ok (.iconst 2, 1) := lw_dr lw_d_cX11_code_50 3 rfl
theorem dX11_code_36 : decode cX11_code 36 = .ok (.if_icmp .gt 14, 3) := lw_dr lw_d_cX11_code_50 4 rfl
theorem dX11_code_39 : decode cX11_code 39 = .ok (.aload_n 0, 1) := lw_dr lw_d_cX11_code_50 5 rfl
theorem dX11_code_40 : decode cX11_code 40 = .ok (.getfield 69, 3) := lw_dr lw_d_cX11_code_50 6 rfl
theorem dX11_code_43 : decode cX11_code 43 = .ok (.getfield 145, 3) := lw_dr lw_d_cX11_code_50 7 rfl
theorem dX11_code_46 : decode cX11_code 46 = .ok (.iconst 2, 1) := lw_dr lw_d_cX11_code_50 8 rfl
theorem dX11_code_47 : decode cX11_code 47 = .ok (.if_icmp .ge 7, 3) := lw_dr lw_d_cX11_code_50 9 rfl
theorem dX11_code_54 : decode cX11_code 54 = .ok (.aload_n 0, 1) := lw_dr lw_d_cX11_code_50 10 rfl
theorem dX11_code_55 : decode cX11_code 55 = .ok (.getfield 38, 3) := lw_dr lw_d_cX11_code_50 11 rfl
theorem dX11_code_58 : decode cX11_code 58 = .ok (.aload_n 0, 1) := lw_dr lw_d_cX11_code_50 12 rfl
theorem dX11_code_59 : decode cX11_code 59 = .ok (.getfield 69, 3) := lw_dr lw_d_cX11_code_50 13 rfl
theorem dX11_code_62 : decode cX11_code 62 = .ok (.invokevirtual 350, 3) := lw_dr lw_d_cX11_code_50 14 rfl
theorem dX11_code_65 : decode cX11_code 65 = .ok (.aload_n 0, 1) := lw_dr lw_d_cX11_code_50 15 rfl
theorem dX11_code_66 : decode cX11_code 66 = .ok (.getfield 38, 3) := lw_dr lw_d_cX11_code_50 16 rfl
theorem dX11_code_69 : decode cX11_code 69 = .ok (.iconst (-1), 1) := lw_dr lw_d_cX11_code_50 17 rfl
theorem dX11_code_70 : decode cX11_code 70 = .ok (.invokevirtual 352, 3) := lw_dr lw_d_cX11_code_50 18 rfl
theorem dX11_code_73 : decode cX11_code 73 = .ok (.iload_n 1, 1) := lw_dr lw_d_cX11_code_50 19 rfl
theorem dX11_code_74 : decode cX11_code 74 = .ok (.ifCond .ne 11, 3) := lw_dr lw_d_cX11_code_50 20 rfl
theorem dX11_code_85 : decode cX11_code 85 = .ok (.iload_n 1, 1) := lw_dr lw_d_cX11_code_50 21 rfl
theorem dX11_code_86 : decode cX11_code 86 = .ok (.iconst 1, 1) := lw_dr lw_d_cX11_code_50 22 rfl
theorem dX11_code_87 : decode cX11_code 87 = .ok (.if_icmp .ne 14, 3) := lw_dr lw_d_cX11_code_50 23 rfl
theorem dX11_code_101 : decode cX11_code 101 = .ok (.aload_n 0, 1) := lw_dr lw_d_cX11_code_50 24 rfl
theorem dX11_code_102 : decode cX11_code 102 = .ok (.getfield 38, 3) := lw_dr lw_d_cX11_code_50 25 rfl
theorem dX11_code_105 : decode cX11_code 105 = .ok (.getfield 361, 3) := lw_dr lw_d_cX11_code_50 26 rfl
theorem dX11_code_108 : decode cX11_code 108 = .ok (.i2l, 1) := lw_dr lw_d_cX11_code_50 27 rfl
theorem dX11_code_109 : decode cX11_code 109 = .ok (.lreturn, 1) := lw_dr lw_d_cX11_code_50 28 rfl
theorem dX11_code_90 : decode cX11_code 90 = .ok (.aload_n 0, 1) := lw_dr lw_d_cX11_code_50 29 rfl
theorem dX11_code_91 : decode cX11_code 91 = .ok (.getfield 38, 3) := lw_dr lw_d_cX11_code_50 30 rfl
theorem dX11_code_94 : decode cX11_code 94 = .ok (.getfield 358, 3) := lw_dr lw_d_cX11_code_50 31 rfl
theorem dX11_code_97 : decode cX11_code 97 = .ok (.i2l, 1) := lw_dr lw_d_cX11_code_50 32 rfl
theorem dX11_code_98 : decode cX11_code 98 = .ok (.goto 11, 3) := lw_dr lw_d_cX11_code_50 33 rfl
theorem dX11_code_77 : decode cX11_code 77 = .ok (.aload_n 0, 1) := lw_dr lw_d_cX11_code_50 34 rfl
theorem dX11_code_78 : decode cX11_code 78 = .ok (.getfield 38, 3) := lw_dr lw_d_cX11_code_50 35 rfl
theorem dX11_code_81 : decode cX11_code 81 = .ok (.getfield 355, 3) := lw_dr lw_d_cX11_code_50 36 rfl
theorem dX11_code_84 : decode cX11_code 84 = .ok (.lreturn, 1) := lw_dr lw_d_cX11_code_50 37 rfl
theorem dX11_code_5 : decode cX11_code 5 = .ok (.aload_n 0, 1) := lw_dr lw_d_cX11_code_50 38 rfl
theorem dX11_code_6 : decode cX11_code 6 = .ok (.getfield 69, 3) := lw_dr lw_d_cX11_code_50 39 rfl
theorem lw_d_cX11_code_9 : lw_dl cX11_code [(9, .getfield 145, 3), (12, .ifCond .ne 9, 3), (21, .aload_n 0, 1), (22, .getfield 69, 3), (25, .invokevirtual 347, 3), (28, .i2l, 1), (29, .lreturn, 1), (15, .ldc2_w 212, 3), (18, .goto 11, 3)] = true := by decide +kernel
theorem dX11_code_9 : decode cX11_code 9 = .ok (.getfield 145, 3) := lw_dr lw_d_cX11_code_9 0 rfl
theorem dX11_code_12 : decode cX11_code 12 = .ok (.ifCond .ne 9, 3) := lw_dr lw_d_cX11_code_9 1 rfl
theorem dX11_code_21 : decode cX11_code 21 = .ok (.aload_n 0, 1) := lw_dr lw_d_cX11_code_9 2 rfl
theorem dX11_code_22 : decode cX11_code 22 = .ok (.getfield 69, 3) := lw_dr lw_d_cX11_code_9 3 rfl
theorem dX11_code_25 : decode cX11_code 25 = .ok (.invokevirtual 347, 3) := lw_dr lw_d_cX11_code_9 4 rfl
theorem dX11_code_28 : decode cX11_code 28 = .ok (.i2l, 1) := lw_dr lw_d_cX11_code_9 5 rfl
theorem dX11_code_29 : decode cX11_code 29 = .ok (.lreturn, 1) := lw_dr lw_d_cX11_code_9 6 rfl
theorem dX11_code_15 : decode cX11_code 15 = .ok (.ldc2_w 212, 3) := lw_dr lw_d_cX11_code_9 7 rfl
theorem dX11_code_18 : decode cX11_code 18 = .ok (.goto 11, 3) := lw_dr lw_d_cX11_code_9 8 rfl
theorem lw_d_cX11_decode_0 : lw_dl cX11_decode [(0, .iconst (-1), 1), (1, .istore_n 1, 1), (2, .lconst 0, 1), (3, .lstore_n 2, 1), (4, .iconst 0, 1), (5, .istore 4, 2), (7, .iload 4, 2), (9, .aload_n 0, 1), (10, .getfield 69, 3), (13, .getfield 145, 3), (16, .if_icmp .ge 57, 3), (73, .iload_n 1, 1), (74, .ireturn, 1), (19, .aload_n 0, 1), (20, .getfield 69, 3), (23, .iload 4, 2), (25, .aload_n 0, 1), (26, .getfield 53, 3), (29, .invokevirtual 364, 3), (32, .aload_n 0, 1), (33, .getfield 69, 3), (36, .aload_n 0, 1), (37, .getfield 53, 3), (40, .aload_n 0, 1), (41, .getfield 49, 3), (44, .invokevirtual 208, 3), (47, .lstore 5, 2), (49, .iload_n 1, 1), (50, .iconst (-1), 1), (51, .if_icmp .eq 10, 3), (61, .iload 4, 2), (63, .istore_n 1, 1), (64, .lload 5, 2), (66, .lstore_n 2, 1), (67, .iinc 4 1, 3), (70, .goto (-63), 3), (54, .lload 5, 2), (56, .lload_n 2, 1), (57, .lcmp, 1), (58, .ifCond .ge 9, 3)] = true := by decide +kernel
theorem dX11_decode_0 : decode cX11_decode 0 = .ok (.iconst (-1), 1) := lw_dr lw_d_cX11_decode_0 0 rfl
theorem dX11_decode_1 : decode cX11_decode 1 = .ok (.istore_n 1, 1) := lw_dr lw_d_cX11_decode_0 1 rfl
theorem dX11_decode_2 : decode cX11_decode 2 = .ok (.lconst 0, 1) := lw_dr lw_d_cX11_decode_0 2 rfl
theorem dX11_decode_3 : decode cX11_decode 3 = .ok (.lstore_n 2, 1) := lw_dr lw_d_cX11_decode_0 3 rfl
theorem dX11_decode_4 : decode cX11_decode 4 = .ok (.iconst 0, 1) := lw_dr lw_d_cX11_decode_0 4 rfl
theorem dX11_decode_5 : decode cX11_decode 5 = .ok (.istore 4, 2) := lw_dr lw_d_cX11_decode_0 5 rfl
theorem dX11_decode_7 : decode cX11_decode 7 = .ok (.iload 4, 2) := lw_dr lw_d_cX11_decode_0 6 rfl
theorem dX11_decode_9 : decode cX11_decode 9 = .ok (.aload_n 0, 1) := lw_dr lw_d_cX11_decode_0 7 rfl
theorem dX11_decode_10 : decode cX11_decode 10 = .ok (.getfield 69, 3) := lw_dr lw_d_cX11_decode_0 8 rfl
theorem dX11_decode_13 : decode cX11_decode 13 = .ok (.getfield 145, 3) := lw_dr lw_d_cX11_decode_0 9 rfl
theorem dX11_decode_16 : decode cX11_decode 16 = .ok (.if_icmp .ge 57, 3) := lw_dr lw_d_cX11_decode_0 10 rfl
theorem dX11_decode_73 : decode cX11_decode 73 = .ok (.iload_n 1, 1) := lw_dr lw_d_cX11_decode_0 11 rfl
theorem dX11_decode_74 : decode cX11_decode 74 = .ok (.ireturn, 1) := lw_dr lw_d_cX11_decode_0 12 rfl
theorem dX11_decode_19 : decode cX11_decode 19 = .ok (.aload_n 0, 1) := lw_dr lw_d_cX11_decode_0 13 rfl
theorem dX11_decode_20 : decode cX11_decode 20 = .ok (.getfield 69, 3) := lw_dr lw_d_cX11_decode_0 14 rfl
theorem dX11_decode_23 : decode cX11_decode 23 = .ok (.iload 4, 2) := lw_dr lw_d_cX11_decode_0 15 rfl
theorem dX11_decode_25 : decode cX11_decode 25 = .ok (.aload_n 0, 1) := lw_dr lw_d_cX11_decode_0 16 rfl
theorem dX11_decode_26 : decode cX11_decode 26 = .ok (.getfield 53, 3) := lw_dr lw_d_cX11_decode_0 17 rfl
theorem dX11_decode_29 : decode cX11_decode 29 = .ok (.invokevirtual 364, 3) := lw_dr lw_d_cX11_decode_0 18 rfl
theorem dX11_decode_32 : decode cX11_decode 32 = .ok (.aload_n 0, 1) := lw_dr lw_d_cX11_decode_0 19 rfl
theorem dX11_decode_33 : decode cX11_decode 33 = .ok (.getfield 69, 3) := lw_dr lw_d_cX11_decode_0 20 rfl
theorem dX11_decode_36 : decode cX11_decode 36 = .ok (.aload_n 0, 1) := lw_dr lw_d_cX11_decode_0 21 rfl
theorem dX11_decode_37 : decode cX11_decode 37 = .ok (.getfield 53, 3) := lw_dr lw_d_cX11_decode_0 22 rfl
theorem dX11_decode_40 : decode cX11_decode 40 = .ok (.aload_n 0, 1) := lw_dr lw_d_cX11_decode_0 23 rfl
theorem dX11_decode_41 : decode cX11_decode 41 = .ok (.getfield 49, 3) := lw_dr lw_d_cX11_decode_0 24 rfl
theorem dX11_decode_44 : decode cX11_decode 44 = .ok (.invokevirtual 208, 3) := lw_dr lw_d_cX11_decode_0 25 rfl
theorem dX11_decode_47 : decode cX11_decode 47 = .ok (.lstore 5, 2) := lw_dr lw_d_cX11_decode_0 26 rfl
theorem dX11_decode_49 : decode cX11_decode 49 = .ok (.iload_n 1, 1) := lw_dr lw_d_cX11_decode_0 27 rfl
theorem dX11_decode_50 : decode cX11_decode 50 = .ok (.iconst (-1), 1) := lw_dr lw_d_cX11_decode_0 28 rfl
theorem dX11_decode_51 : decode cX11_decode 51 = .ok (.if_icmp .eq 10, 3) := lw_dr lw_d_cX11_decode_0 29 rfl
theorem dX11_decode_61 : decode cX11_decode 61 = .ok (.iload 4, 2) := lw_dr lw_d_cX11_decode_0 30 rfl
theorem dX11_decode_63 : decode cX11_decode 63 = .ok (.istore_n 1, 1) := lw_dr lw_d_cX11_decode_0 31 rfl
theorem dX11_decode_64 : decode cX11_decode 64 = .ok (.lload 5, 2) := lw_dr lw_d_cX11_decode_0 32 rfl
theorem dX11_decode_66 : decode cX11_decode 66 = .ok (.lstore_n 2, 1) := lw_dr lw_d_cX11_decode_0 33 rfl
theorem dX11_decode_67 : decode cX11_decode 67 = .ok (.iinc 4 1, 3) := lw_dr lw_d_cX11_decode_0 34 rfl
theorem dX11_decode_70 : decode cX11_decode 70 = .ok (.goto (-63), 3) := lw_dr lw_d_cX11_decode_0 35 rfl
theorem dX11_decode_54 : decode cX11_decode 54 = .ok (.lload 5, 2) := lw_dr lw_d_cX11_decode_0 36 rfl
theorem dX11_decode_56 : decode cX11_decode 56 = .ok (.lload_n 2, 1) := lw_dr lw_d_cX11_decode_0 37 rfl
theorem dX11_decode_57 : decode cX11_decode 57 = .ok (.lcmp, 1) := lw_dr lw_d_cX11_decode_0 38 rfl
theorem dX11_decode_58 : decode cX11_decode 58 = .ok (.ifCond .ge 9, 3) := lw_dr lw_d_cX11_decode_0 39 rfl
theorem lw_d_cX11_leave_0 : lw_dl cX11_leave [(0, .iload_n 1, 1), (1, .ifCond .lt 19, 3), (20, .ldc2_w 212, 3), (23, .lreturn, 1), (4, .iload_n 1, 1), (5, .iconst 1, 1), (6, .if_icmp .gt 14, 3), (9, .aload_n 0, 1), (10, .getfield 69, 3), (13, .getfield 145, 3), (16, .iconst 3, 1), (17, .if_icmp .ge 7, 3), (24, .aload_n 0, 1), (25, .getfield 38, 3), (28, .aload_n 0, 1), (29, .getfield 69, 3), (32, .invokevirtual 350, 3), (35, .iconst (-1), 1), (36, .istore_n 2, 1), (37, .lconst 0, 1), (38, .lstore_n 3, 1), (39, .iconst 0, 1), (40, .istore 5, 2), (42, .iload 5, 2), (44, .aload_n 0, 1), (45, .getfield 69, 3), (48, .getfield 145, 3), (51, .if_icmp .ge 46, 3), (54, .aload_n 0, 1), (55, .getfield 38, 3), (58, .iload 5, 2), (60, .invokevirtual 352, 3), (63, .iload_n 2, 1), (64, .iconst (-1), 1), (65, .if_icmp .eq 15, 3), (80, .iload 5, 2), (82, .istore_n 2, 1), (83, .aload_n 0, 1), (84, .getfield 38, 3), (87, .getfield 355, 3)] = true := by decide +kernel
theorem dX11_leave_0 : decode cX11_leave 0 = .ok (.iload_n 1, 1) := lw_dr lw_d_cX11_leave_0 0 rfl
theorem dX11_leave_1 : decode cX11_leave 1 = .ok (.ifCond .lt 19, 3) := lw_dr lw_d_cX11_leave_0 1 rfl
theorem dX11_leave_20 : decode cX11_leave 20 = .ok (.ldc2_w 212, 3) := lw_dr lw_d_cX11_leave_0 2 rfl
theorem dX11_leave_23 : decode cX11_leave 23 = .ok (.lreturn, 1) := lw_dr lw_d_cX11_leave_0 3 rfl
theorem dX11_leave_4 : decode cX11_leave 4 = .ok (.iload_n 1, 1) := lw_dr lw_d_cX11_leave_0 4 rfl
theorem dX11_leave_5 : decode cX11_leave 5 = .ok (.iconst 1, 1) := lw_dr lw_d_cX11_leave_0 5 rfl
theorem dX11_leave_6 : decode cX11_leave 6 = .ok (.if_icmp .gt 14, 3) := lw_dr lw_d_cX11_leave_0 6 rfl
theorem dX11_leave_9 : decode cX11_leave 9 = .ok (.aload_n 0, 1) := lw_dr lw_d_cX11_leave_0 7 rfl
theorem dX11_leave_10 : decode cX11_leave 10 = .ok (.getfield 69, 3) := lw_dr lw_d_cX11_leave_0 8 rfl
theorem dX11_leave_13 : decode cX11_leave 13 = .ok (.getfield 145, 3) := lw_dr lw_d_cX11_leave_0 9 rfl
theorem dX11_leave_16 : decode cX11_leave 16 = .ok (.iconst 3, 1) := lw_dr lw_d_cX11_leave_0 10 rfl
theorem dX11_leave_17 : decode cX11_leave 17 = .ok (.if_icmp .ge 7, 3) := lw_dr lw_d_cX11_leave_0 11 rfl
theorem dX11_leave_24 : decode cX11_leave 24 = .ok (.aload_n 0, 1) := lw_dr lw_d_cX11_leave_0 12 rfl
theorem dX11_leave_25 : decode cX11_leave 25 = .ok (.getfield 38, 3) := lw_dr lw_d_cX11_leave_0 13 rfl
theorem dX11_leave_28 : decode cX11_leave 28 = .ok (.aload_n 0, 1) := lw_dr lw_d_cX11_leave_0 14 rfl
theorem dX11_leave_29 : decode cX11_leave 29 = .ok (.getfield 69, 3) := lw_dr lw_d_cX11_leave_0 15 rfl
theorem dX11_leave_32 : decode cX11_leave 32 = .ok (.invokevirtual 350, 3) := lw_dr lw_d_cX11_leave_0 16 rfl
theorem dX11_leave_35 : decode cX11_leave 35 = .ok (.iconst (-1), 1) := lw_dr lw_d_cX11_leave_0 17 rfl
theorem dX11_leave_36 : decode cX11_leave 36 = .ok (.istore_n 2, 1) := lw_dr lw_d_cX11_leave_0 18 rfl
theorem dX11_leave_37 : decode cX11_leave 37 = .ok (.lconst 0, 1) := lw_dr lw_d_cX11_leave_0 19 rfl
theorem dX11_leave_38 : decode cX11_leave 38 = .ok (.lstore_n 3, 1) := lw_dr lw_d_cX11_leave_0 20 rfl
theorem dX11_leave_39 : decode cX11_leave 39 = .ok (.iconst 0, 1) := lw_dr lw_d_cX11_leave_0 21 rfl
theorem dX11_leave_40 : decode cX11_leave 40 = .ok (.istore 5, 2) := lw_dr lw_d_cX11_leave_0 22 rfl
theorem dX11_leave_42 : decode cX11_leave 42 = .ok (.iload 5, 2) := lw_dr lw_d_cX11_leave_0 23 rfl
theorem dX11_leave_44 : decode cX11_leave 44 = .ok (.aload_n 0, 1) := lw_dr lw_d_cX11_leave_0 24 rfl
theorem dX11_leave_45 : decode cX11_leave 45 = .ok (.getfield 69, 3) := lw_dr lw_d_cX11_leave_0 25 rfl
theorem dX11_leave_48 : decode cX11_leave 48 = .ok (.getfield 145, 3) := lw_dr lw_d_cX11_leave_0 26 rfl
theorem dX11_leave_51 : decode cX11_leave 51 = .ok (.if_icmp .ge 46, 3) := lw_dr lw_d_cX11_leave_0 27 rfl
theorem dX11_leave_54 : decode cX11_leave 54 = .ok (.aload_n 0, 1) := lw_dr lw_d_cX11_leave_0 28 rfl
theorem dX11_leave_55 : decode cX11_leave 55 = .ok (.getfield 38, 3) := lw_dr lw_d_cX11_leave_0 29 rfl
theorem dX11_leave_58 : decode cX11_leave 58 = .ok (.iload 5, 2) := lw_dr lw_d_cX11_leave_0 30 rfl
theorem dX11_leave_60 : decode cX11_leave 60 = .ok (.invokevirtual 352, 3) := lw_dr lw_d_cX11_leave_0 31 rfl
theorem dX11_leave_63 : decode cX11_leave 63 = .ok (.iload_n 2, 1) := lw_dr lw_d_cX11_leave_0 32 rfl
theorem dX11_leave_64 : decode cX11_leave 64 = .ok (.iconst (-1), 1) := lw_dr lw_d_cX11_leave_0 33 rfl
theorem dX11_leave_65 : decode cX11_leave 65 = .ok (.if_icmp .eq 15, 3) := lw_dr lw_d_cX11_leave_0 34 rfl
theorem dX11_leave_80 : decode cX11_leave 80 = .ok (.iload 5, 2) := lw_dr lw_d_cX11_leave_0 35 rfl
theorem dX11_leave_82 : decode cX11_leave 82 = .ok (.istore_n 2, 1) := lw_dr lw_d_cX11_leave_0 36 rfl
theorem dX11_leave_83 : decode cX11_leave 83 = .ok (.aload_n 0, 1) := lw_dr lw_d_cX11_leave_0 37 rfl
theorem dX11_leave_84 : decode cX11_leave 84 = .ok (.getfield 38, 3) := lw_dr lw_d_cX11_leave_0 38 rfl
theorem dX11_leave_87 : decode cX11_leave 87 = .ok (.getfield 355, 3) := lw_dr lw_d_cX11_leave_0 39 rfl
theorem lw_d_cX11_leave_90 : lw_dl cX11_leave [(90, .lstore_n 3, 1), (91, .iinc 5 1, 3), (94, .goto (-52), 3), (97, .iload_n 1, 1), (98, .ifCond .ne 8, 3), (106, .lload_n 3, 1), (107, .lreturn, 1), (101, .iload_n 2, 1), (102, .i2l, 1), (103, .goto 4, 3), (68, .aload_n 0, 1), (69, .getfield 38, 3), (72, .getfield 355, 3), (75, .lload_n 3, 1), (76, .lcmp, 1), (77, .ifCond .le 14, 3)] = true := by decide +kernel
theorem dX11_leave_90 : decode cX11_leave 90 = .ok (.lstore_n 3, 1) := lw_dr lw_d_cX11_leave_90 0 rfl
theorem dX11_leave_91 : decode cX11_leave 91 = .ok (.iinc 5 1, 3) := lw_dr lw_d_cX11_leave_90 1 rfl
theorem dX11_leave_94 : decode cX11_leave 94 = .ok (.goto (-52), 3) := lw_dr lw_d_cX11_leave_90 2 rfl
theorem dX11_leave_97 : decode cX11_leave 97 = .ok (.iload_n 1, 1) := lw_dr lw_d_cX11_leave_90 3 rfl
theorem dX11_leave_98 : decode cX11_leave 98 = .ok (.ifCond .ne 8, 3) := lw_dr lw_d_cX11_leave_90 4 rfl
theorem dX11_leave_106 : decode cX11_leave 106 = .ok (.lload_n 3, 1) := lw_dr lw_d_cX11_leave_90 5 rfl
theorem dX11_leave_107 : decode cX11_leave 107 = .ok (.lreturn, 1) := lw_dr lw_d_cX11_leave_90 6 rfl
theorem dX11_leave_101 : decode cX11_leave 101 = .ok (.iload_n 2, 1) := lw_dr lw_d_cX11_leave_90 7 rfl
theorem dX11_leave_102 : decode cX11_leave 102 = .ok (.i2l, 1) := lw_dr lw_d_cX11_leave_90 8 rfl
theorem dX11_leave_103 : decode cX11_leave 103 = .ok (.goto 4, 3) := lw_dr lw_d_cX11_leave_90 9 rfl
theorem dX11_leave_68 : decode cX11_leave 68 = .ok (.aload_n 0, 1) := lw_dr lw_d_cX11_leave_90 10 rfl
theorem dX11_leave_69 : decode cX11_leave 69 = .ok (.getfield 38, 3) := lw_dr lw_d_cX11_leave_90 11 rfl
theorem dX11_leave_72 : decode cX11_leave 72 = .ok (.getfield 355, 3) := lw_dr lw_d_cX11_leave_90 12 rfl
theorem dX11_leave_75 : decode cX11_leave 75 = .ok (.lload_n 3, 1) := lw_dr lw_d_cX11_leave_90 13 rfl
theorem dX11_leave_76 : decode cX11_leave 76 = .ok (.lcmp, 1) := lw_dr lw_d_cX11_leave_90 14 rfl
theorem dX11_leave_77 : decode cX11_leave 77 = .ok (.ifCond .le 14, 3) := lw_dr lw_d_cX11_leave_90 15 rfl
theorem lw_d_cX11_behind_0 : lw_dl cX11_behind [(0, .aload_n 0, 1), (1, .getfield 69, 3), (4, .iload_n 1, 1), (5, .invokevirtual 341, 3), (8, .ifCond .ne 5, 3), (13, .aload_n 0, 1), (14, .getfield 69, 3), (17, .iload_n 1, 1), (18, .aload_n 0, 1), (19, .getfield 53, 3), (22, .invokevirtual 364, 3), (25, .aload_n 0, 1), (26, .getfield 69, 3), (29, .aload_n 0, 1), (30, .getfield 53, 3), (33, .aload_n 0, 1), (34, .getfield 49, 3), (37, .invokevirtual 208, 3), (40, .lstore_n 2, 1), (41, .aload_n 0, 1), (42, .getfield 24, 3), (45, .aload_n 0, 1), (46, .getfield 69, 3), (49, .aload_n 0, 1), (50, .getfield 49, 3), (53, .lload_n 2, 1), (54, .aload_n 0, 1), (55, .getfield 69, 3), (58, .aload_n 0, 1), (59, .getfield 53, 3), (62, .invokevirtual 368, 3), (65, .invokevirtual 266, 3), (68, .ireturn, 1), (11, .iconst (-1), 1), (12, .ireturn, 1)] = true := by decide +kernel
theorem dX11_behind_0 : decode cX11_behind 0 = .ok (.aload_n 0, 1) := lw_dr lw_d_cX11_behind_0 0 rfl
theorem dX11_behind_1 : decode cX11_behind 1 = .ok (.getfield 69, 3) := lw_dr lw_d_cX11_behind_0 1 rfl
theorem dX11_behind_4 : decode cX11_behind 4 = .ok (.iload_n 1, 1) := lw_dr lw_d_cX11_behind_0 2 rfl
theorem dX11_behind_5 : decode cX11_behind 5 = .ok (.invokevirtual 341, 3) := lw_dr lw_d_cX11_behind_0 3 rfl
theorem dX11_behind_8 : decode cX11_behind 8 = .ok (.ifCond .ne 5, 3) := lw_dr lw_d_cX11_behind_0 4 rfl
theorem dX11_behind_13 : decode cX11_behind 13 = .ok (.aload_n 0, 1) := lw_dr lw_d_cX11_behind_0 5 rfl
theorem dX11_behind_14 : decode cX11_behind 14 = .ok (.getfield 69, 3) := lw_dr lw_d_cX11_behind_0 6 rfl
theorem dX11_behind_17 : decode cX11_behind 17 = .ok (.iload_n 1, 1) := lw_dr lw_d_cX11_behind_0 7 rfl
theorem dX11_behind_18 : decode cX11_behind 18 = .ok (.aload_n 0, 1) := lw_dr lw_d_cX11_behind_0 8 rfl
theorem dX11_behind_19 : decode cX11_behind 19 = .ok (.getfield 53, 3) := lw_dr lw_d_cX11_behind_0 9 rfl
theorem dX11_behind_22 : decode cX11_behind 22 = .ok (.invokevirtual 364, 3) := lw_dr lw_d_cX11_behind_0 10 rfl
theorem dX11_behind_25 : decode cX11_behind 25 = .ok (.aload_n 0, 1) := lw_dr lw_d_cX11_behind_0 11 rfl
theorem dX11_behind_26 : decode cX11_behind 26 = .ok (.getfield 69, 3) := lw_dr lw_d_cX11_behind_0 12 rfl
theorem dX11_behind_29 : decode cX11_behind 29 = .ok (.aload_n 0, 1) := lw_dr lw_d_cX11_behind_0 13 rfl
theorem dX11_behind_30 : decode cX11_behind 30 = .ok (.getfield 53, 3) := lw_dr lw_d_cX11_behind_0 14 rfl
theorem dX11_behind_33 : decode cX11_behind 33 = .ok (.aload_n 0, 1) := lw_dr lw_d_cX11_behind_0 15 rfl
theorem dX11_behind_34 : decode cX11_behind 34 = .ok (.getfield 49, 3) := lw_dr lw_d_cX11_behind_0 16 rfl
theorem dX11_behind_37 : decode cX11_behind 37 = .ok (.invokevirtual 208, 3) := lw_dr lw_d_cX11_behind_0 17 rfl
theorem dX11_behind_40 : decode cX11_behind 40 = .ok (.lstore_n 2, 1) := lw_dr lw_d_cX11_behind_0 18 rfl
theorem dX11_behind_41 : decode cX11_behind 41 = .ok (.aload_n 0, 1) := lw_dr lw_d_cX11_behind_0 19 rfl
theorem dX11_behind_42 : decode cX11_behind 42 = .ok (.getfield 24, 3) := lw_dr lw_d_cX11_behind_0 20 rfl
theorem dX11_behind_45 : decode cX11_behind 45 = .ok (.aload_n 0, 1) := lw_dr lw_d_cX11_behind_0 21 rfl
theorem dX11_behind_46 : decode cX11_behind 46 = .ok (.getfield 69, 3) := lw_dr lw_d_cX11_behind_0 22 rfl
theorem dX11_behind_49 : decode cX11_behind 49 = .ok (.aload_n 0, 1) := lw_dr lw_d_cX11_behind_0 23 rfl
theorem dX11_behind_50 : decode cX11_behind 50 = .ok (.getfield 49, 3) := lw_dr lw_d_cX11_behind_0 24 rfl
theorem dX11_behind_53 : decode cX11_behind 53 = .ok (.lload_n 2, 1) := lw_dr lw_d_cX11_behind_0 25 rfl
theorem dX11_behind_54 : decode cX11_behind 54 = .ok (.aload_n 0, 1) := lw_dr lw_d_cX11_behind_0 26 rfl
theorem dX11_behind_55 : decode cX11_behind 55 = .ok (.getfield 69, 3) := lw_dr lw_d_cX11_behind_0 27 rfl
theorem dX11_behind_58 : decode cX11_behind 58 = .ok (.aload_n 0, 1) := lw_dr lw_d_cX11_behind_0 28 rfl
theorem dX11_behind_59 : decode cX11_behind 59 = .ok (.getfield 53, 3) := lw_dr lw_d_cX11_behind_0 29 rfl
theorem dX11_behind_62 : decode cX11_behind 62 = .ok (.invokevirtual 368, 3) := lw_dr lw_d_cX11_behind_0 30 rfl
theorem dX11_behind_65 : decode cX11_behind 65 = .ok (.invokevirtual 266, 3) := lw_dr lw_d_cX11_behind_0 31 rfl
theorem dX11_behind_68 : decode cX11_behind 68 = .ok (.ireturn, 1) := lw_dr lw_d_cX11_behind_0 32 rfl
theorem dX11_behind_11 : decode cX11_behind 11 = .ok (.iconst (-1), 1) := lw_dr lw_d_cX11_behind_0 33 rfl
theorem dX11_behind_12 : decode cX11_behind 12 = .ok (.ireturn, 1) := lw_dr lw_d_cX11_behind_0 34 rfl
theorem lw_d_cX11_unlike_0 : lw_dl cX11_unlike [(0, .aload_n 0, 1), (1, .getfield 69, 3), (4, .iload_n 1, 1), (5, .invokevirtual 341, 3), (8, .ifCond .eq 14, 3), (22, .iconst (-1), 1), (23, .ireturn, 1), (11, .aload_n 0, 1), (12, .getfield 69, 3), (15, .iload_n 2, 1), (16, .invokevirtual 341, 3), (19, .ifCond .ne 5, 3), (24, .iconst 0, 1), (25, .istore_n 3, 1), (26, .iconst 0, 1), (27, .istore 4, 2), (29, .iload 4, 2), (31, .aload_n 0, 1), (32, .getfield 69, 3), (35, .getfield 136, 3), (38, .if_icmp .ge 35, 3), (73, .iload_n 3, 1), (74, .ireturn, 1), (41, .aload_n 0, 1), (42, .getfield 69, 3), (45, .iload_n 1, 1), (46, .iload 4, 2), (48, .invokevirtual 344, 3), (51, .aload_n 0, 1), (52, .getfield 69, 3), (55, .iload_n 2, 1), (56, .iload 4, 2), (58, .invokevirtual 344, 3), (61, .if_icmp .eq 6, 3), (67, .iinc 4 1, 3), (70, .goto (-41), 3), (64, .iinc 3 1, 3)] = true := by decide +kernel
theorem dX11_unlike_0 : decode cX11_unlike 0 = .ok (.aload_n 0, 1) := lw_dr lw_d_cX11_unlike_0 0 rfl
theorem dX11_unlike_1 : decode cX11_unlike 1 = .ok (.getfield 69, 3) := lw_dr lw_d_cX11_unlike_0 1 rfl
theorem dX11_unlike_4 : decode cX11_unlike 4 = .ok (.iload_n 1, 1) := lw_dr lw_d_cX11_unlike_0 2 rfl
theorem dX11_unlike_5 : decode cX11_unlike 5 = .ok (.invokevirtual 341, 3) := lw_dr lw_d_cX11_unlike_0 3 rfl
theorem dX11_unlike_8 : decode cX11_unlike 8 = .ok (.ifCond .eq 14, 3) := lw_dr lw_d_cX11_unlike_0 4 rfl
theorem dX11_unlike_22 : decode cX11_unlike 22 = .ok (.iconst (-1), 1) := lw_dr lw_d_cX11_unlike_0 5 rfl
theorem dX11_unlike_23 : decode cX11_unlike 23 = .ok (.ireturn, 1) := lw_dr lw_d_cX11_unlike_0 6 rfl
theorem dX11_unlike_11 : decode cX11_unlike 11 = .ok (.aload_n 0, 1) := lw_dr lw_d_cX11_unlike_0 7 rfl
theorem dX11_unlike_12 : decode cX11_unlike 12 = .ok (.getfield 69, 3) := lw_dr lw_d_cX11_unlike_0 8 rfl
theorem dX11_unlike_15 : decode cX11_unlike 15 = .ok (.iload_n 2, 1) := lw_dr lw_d_cX11_unlike_0 9 rfl
theorem dX11_unlike_16 : decode cX11_unlike 16 = .ok (.invokevirtual 341, 3) := lw_dr lw_d_cX11_unlike_0 10 rfl
theorem dX11_unlike_19 : decode cX11_unlike 19 = .ok (.ifCond .ne 5, 3) := lw_dr lw_d_cX11_unlike_0 11 rfl
theorem dX11_unlike_24 : decode cX11_unlike 24 = .ok (.iconst 0, 1) := lw_dr lw_d_cX11_unlike_0 12 rfl
theorem dX11_unlike_25 : decode cX11_unlike 25 = .ok (.istore_n 3, 1) := lw_dr lw_d_cX11_unlike_0 13 rfl
theorem dX11_unlike_26 : decode cX11_unlike 26 = .ok (.iconst 0, 1) := lw_dr lw_d_cX11_unlike_0 14 rfl
theorem dX11_unlike_27 : decode cX11_unlike 27 = .ok (.istore 4, 2) := lw_dr lw_d_cX11_unlike_0 15 rfl
theorem dX11_unlike_29 : decode cX11_unlike 29 = .ok (.iload 4, 2) := lw_dr lw_d_cX11_unlike_0 16 rfl
theorem dX11_unlike_31 : decode cX11_unlike 31 = .ok (.aload_n 0, 1) := lw_dr lw_d_cX11_unlike_0 17 rfl
theorem dX11_unlike_32 : decode cX11_unlike 32 = .ok (.getfield 69, 3) := lw_dr lw_d_cX11_unlike_0 18 rfl
theorem dX11_unlike_35 : decode cX11_unlike 35 = .ok (.getfield 136, 3) := lw_dr lw_d_cX11_unlike_0 19 rfl
theorem dX11_unlike_38 : decode cX11_unlike 38 = .ok (.if_icmp .ge 35, 3) := lw_dr lw_d_cX11_unlike_0 20 rfl
theorem dX11_unlike_73 : decode cX11_unlike 73 = .ok (.iload_n 3, 1) := lw_dr lw_d_cX11_unlike_0 21 rfl
theorem dX11_unlike_74 : decode cX11_unlike 74 = .ok (.ireturn, 1) := lw_dr lw_d_cX11_unlike_0 22 rfl
theorem dX11_unlike_41 : decode cX11_unlike 41 = .ok (.aload_n 0, 1) := lw_dr lw_d_cX11_unlike_0 23 rfl
theorem dX11_unlike_42 : decode cX11_unlike 42 = .ok (.getfield 69, 3) := lw_dr lw_d_cX11_unlike_0 24 rfl
theorem dX11_unlike_45 : decode cX11_unlike 45 = .ok (.iload_n 1, 1) := lw_dr lw_d_cX11_unlike_0 25 rfl
theorem dX11_unlike_46 : decode cX11_unlike 46 = .ok (.iload 4, 2) := lw_dr lw_d_cX11_unlike_0 26 rfl
theorem dX11_unlike_48 : decode cX11_unlike 48 = .ok (.invokevirtual 344, 3) := lw_dr lw_d_cX11_unlike_0 27 rfl
theorem dX11_unlike_51 : decode cX11_unlike 51 = .ok (.aload_n 0, 1) := lw_dr lw_d_cX11_unlike_0 28 rfl
theorem dX11_unlike_52 : decode cX11_unlike 52 = .ok (.getfield 69, 3) := lw_dr lw_d_cX11_unlike_0 29 rfl
theorem dX11_unlike_55 : decode cX11_unlike 55 = .ok (.iload_n 2, 1) := lw_dr lw_d_cX11_unlike_0 30 rfl
theorem dX11_unlike_56 : decode cX11_unlike 56 = .ok (.iload 4, 2) := lw_dr lw_d_cX11_unlike_0 31 rfl
theorem dX11_unlike_58 : decode cX11_unlike 58 = .ok (.invokevirtual 344, 3) := lw_dr lw_d_cX11_unlike_0 32 rfl
theorem dX11_unlike_61 : decode cX11_unlike 61 = .ok (.if_icmp .eq 6, 3) := lw_dr lw_d_cX11_unlike_0 33 rfl
theorem dX11_unlike_67 : decode cX11_unlike 67 = .ok (.iinc 4 1, 3) := lw_dr lw_d_cX11_unlike_0 34 rfl
theorem dX11_unlike_70 : decode cX11_unlike 70 = .ok (.goto (-41), 3) := lw_dr lw_d_cX11_unlike_0 35 rfl
theorem dX11_unlike_64 : decode cX11_unlike 64 = .ok (.iinc 3 1, 3) := lw_dr lw_d_cX11_unlike_0 36 rfl
theorem lw_d_cX11_span_0 : lw_dl cX11_span [(0, .aload_n 0, 1), (1, .getfield 69, 3), (4, .getfield 136, 3), (7, .ifCond .ne 7, 3), (14, .iload_n 1, 1), (15, .ifCond .eq 17, 3), (32, .aload_n 0, 1), (33, .getfield 45, 3), (36, .aload_n 0, 1), (37, .getfield 69, 3), (40, .invokevirtual 376, 3), (43, .lreturn, 1), (18, .aload_n 0, 1), (19, .getfield 45, 3), (22, .aload_n 0, 1), (23, .getfield 69, 3), (26, .invokevirtual 372, 3), (29, .goto 14, 3), (10, .ldc2_w 212, 3), (13, .lreturn, 1)] = true := by decide +kernel
theorem dX11_span_0 : decode cX11_span 0 = .ok (.aload_n 0, 1) := lw_dr lw_d_cX11_span_0 0 rfl
theorem dX11_span_1 : decode cX11_span 1 = .ok (.getfield 69, 3) := lw_dr lw_d_cX11_span_0 1 rfl
theorem dX11_span_4 : decode cX11_span 4 = .ok (.getfield 136, 3) := lw_dr lw_d_cX11_span_0 2 rfl
theorem dX11_span_7 : decode cX11_span 7 = .ok (.ifCond .ne 7, 3) := lw_dr lw_d_cX11_span_0 3 rfl
theorem dX11_span_14 : decode cX11_span 14 = .ok (.iload_n 1, 1) := lw_dr lw_d_cX11_span_0 4 rfl
theorem dX11_span_15 : decode cX11_span 15 = .ok (.ifCond .eq 17, 3) := lw_dr lw_d_cX11_span_0 5 rfl
theorem dX11_span_32 : decode cX11_span 32 = .ok (.aload_n 0, 1) := lw_dr lw_d_cX11_span_0 6 rfl
theorem dX11_span_33 : decode cX11_span 33 = .ok (.getfield 45, 3) := lw_dr lw_d_cX11_span_0 7 rfl
theorem dX11_span_36 : decode cX11_span 36 = .ok (.aload_n 0, 1) := lw_dr lw_d_cX11_span_0 8 rfl
theorem dX11_span_37 : decode cX11_span 37 = .ok (.getfield 69, 3) := lw_dr lw_d_cX11_span_0 9 rfl
theorem dX11_span_40 : decode cX11_span 40 = .ok (.invokevirtual 376, 3) := lw_dr lw_d_cX11_span_0 10 rfl
theorem dX11_span_43 : decode cX11_span 43 = .ok (.lreturn, 1) := lw_dr lw_d_cX11_span_0 11 rfl
theorem dX11_span_18 : decode cX11_span 18 = .ok (.aload_n 0, 1) := lw_dr lw_d_cX11_span_0 12 rfl
theorem dX11_span_19 : decode cX11_span 19 = .ok (.getfield 45, 3) := lw_dr lw_d_cX11_span_0 13 rfl
theorem dX11_span_22 : decode cX11_span 22 = .ok (.aload_n 0, 1) := lw_dr lw_d_cX11_span_0 14 rfl
theorem dX11_span_23 : decode cX11_span 23 = .ok (.getfield 69, 3) := lw_dr lw_d_cX11_span_0 15 rfl
theorem dX11_span_26 : decode cX11_span 26 = .ok (.invokevirtual 372, 3) := lw_dr lw_d_cX11_span_0 16 rfl
theorem dX11_span_29 : decode cX11_span 29 = .ok (.goto 14, 3) := lw_dr lw_d_cX11_span_0 17 rfl
theorem dX11_span_10 : decode cX11_span 10 = .ok (.ldc2_w 212, 3) := lw_dr lw_d_cX11_span_0 18 rfl
theorem dX11_span_13 : decode cX11_span 13 = .ok (.lreturn, 1) := lw_dr lw_d_cX11_span_0 19 rfl
theorem lw_d_cX11_ahead_0 : lw_dl cX11_ahead [(0, .aload_n 0, 1), (1, .invokevirtual 201, 3), (4, .ifCond .eq 21, 3), (25, .aload_n 0, 1), (26, .getfield 45, 3), (29, .invokevirtual 383, 3), (32, .lreturn, 1), (7, .aload_n 0, 1), (8, .getfield 45, 3), (11, .aload_n 0, 1), (12, .getfield 69, 3), (15, .aload_n 0, 1), (16, .getfield 53, 3), (19, .invokevirtual 379, 3), (22, .goto 10, 3)] = true := by decide +kernel
theorem dX11_ahead_0 : decode cX11_ahead 0 = .ok (.aload_n 0, 1) := lw_dr lw_d_cX11_ahead_0 0 rfl
theorem dX11_ahead_1 : decode cX11_ahead 1 = .ok (.invokevirtual 201, 3) := lw_dr lw_d_cX11_ahead_0 1 rfl
theorem dX11_ahead_4 : decode cX11_ahead 4 = .ok (.ifCond .eq 21, 3) := lw_dr lw_d_cX11_ahead_0 2 rfl
theorem dX11_ahead_25 : decode cX11_ahead 25 = .ok (.aload_n 0, 1) := lw_dr lw_d_cX11_ahead_0 3 rfl
theorem dX11_ahead_26 : decode cX11_ahead 26 = .ok (.getfield 45, 3) := lw_dr lw_d_cX11_ahead_0 4 rfl
theorem dX11_ahead_29 : decode cX11_ahead 29 = .ok (.invokevirtual 383, 3) := lw_dr lw_d_cX11_ahead_0 5 rfl
theorem dX11_ahead_32 : decode cX11_ahead 32 = .ok (.lreturn, 1) := lw_dr lw_d_cX11_ahead_0 6 rfl
theorem dX11_ahead_7 : decode cX11_ahead 7 = .ok (.aload_n 0, 1) := lw_dr lw_d_cX11_ahead_0 7 rfl
theorem dX11_ahead_8 : decode cX11_ahead 8 = .ok (.getfield 45, 3) := lw_dr lw_d_cX11_ahead_0 8 rfl
theorem dX11_ahead_11 : decode cX11_ahead 11 = .ok (.aload_n 0, 1) := lw_dr lw_d_cX11_ahead_0 9 rfl
theorem dX11_ahead_12 : decode cX11_ahead 12 = .ok (.getfield 69, 3) := lw_dr lw_d_cX11_ahead_0 10 rfl
theorem dX11_ahead_15 : decode cX11_ahead 15 = .ok (.aload_n 0, 1) := lw_dr lw_d_cX11_ahead_0 11 rfl
theorem dX11_ahead_16 : decode cX11_ahead 16 = .ok (.getfield 53, 3) := lw_dr lw_d_cX11_ahead_0 12 rfl
theorem dX11_ahead_19 : decode cX11_ahead 19 = .ok (.invokevirtual 379, 3) := lw_dr lw_d_cX11_ahead_0 13 rfl
theorem dX11_ahead_22 : decode cX11_ahead 22 = .ok (.goto 10, 3) := lw_dr lw_d_cX11_ahead_0 14 rfl
theorem lw_d_cX11_put_0 : lw_dl cX11_put [(0, .aload_n 0, 1), (1, .getfield 69, 3), (4, .iload_n 1, 1), (5, .invokevirtual 172, 3), (8, .ifCond .eq 25, 3), (33, .ldc 175, 2), (35, .ireturn, 1), (11, .aload_n 0, 1), (12, .getfield 45, 3), (15, .getfield 386, 3), (18, .ifCond .eq 15, 3), (21, .aload_n 0, 1), (22, .getfield 45, 3), (25, .getfield 390, 3), (28, .iload_n 1, 1), (29, .iaload, 1), (30, .goto 5, 3)] = true := by decide +kernel
theorem dX11_put_0 : decode cX11_put 0 = .ok (.aload_n 0, 1) := lw_dr lw_d_cX11_put_0 0 rfl
theorem dX11_put_1 : decode cX11_put 1 = .ok (.getfield 69, 3) := lw_dr lw_d_cX11_put_0 1 rfl
theorem dX11_put_4 : decode cX11_put 4 = .ok (.iload_n 1, 1) := lw_dr lw_d_cX11_put_0 2 rfl
theorem dX11_put_5 : decode cX11_put 5 = .ok (.invokevirtual 172, 3) := lw_dr lw_d_cX11_put_0 3 rfl
theorem dX11_put_8 : decode cX11_put 8 = .ok (.ifCond .eq 25, 3) := lw_dr lw_d_cX11_put_0 4 rfl
theorem dX11_put_33 : decode cX11_put 33 = .ok (.ldc 175, 2) := lw_dr lw_d_cX11_put_0 5 rfl
theorem dX11_put_35 : decode cX11_put 35 = .ok (.ireturn, 1) := lw_dr lw_d_cX11_put_0 6 rfl
theorem dX11_put_11 : decode cX11_put 11 = .ok (.aload_n 0, 1) := lw_dr lw_d_cX11_put_0 7 rfl
theorem dX11_put_12 : decode cX11_put 12 = .ok (.getfield 45, 3) := lw_dr lw_d_cX11_put_0 8 rfl
theorem dX11_put_15 : decode cX11_put 15 = .ok (.getfield 386, 3) := lw_dr lw_d_cX11_put_0 9 rfl
theorem dX11_put_18 : decode cX11_put 18 = .ok (.ifCond .eq 15, 3) := lw_dr lw_d_cX11_put_0 10 rfl
theorem dX11_put_21 : decode cX11_put 21 = .ok (.aload_n 0, 1) := lw_dr lw_d_cX11_put_0 11 rfl
theorem dX11_put_22 : decode cX11_put 22 = .ok (.getfield 45, 3) := lw_dr lw_d_cX11_put_0 12 rfl
theorem dX11_put_25 : decode cX11_put 25 = .ok (.getfield 390, 3) := lw_dr lw_d_cX11_put_0 13 rfl
theorem dX11_put_28 : decode cX11_put 28 = .ok (.iload_n 1, 1) := lw_dr lw_d_cX11_put_0 14 rfl
theorem dX11_put_29 : decode cX11_put 29 = .ok (.iaload, 1) := lw_dr lw_d_cX11_put_0 15 rfl
theorem dX11_put_30 : decode cX11_put 30 = .ok (.goto 5, 3) := lw_dr lw_d_cX11_put_0 16 rfl
theorem lw_d_cX11_worth_0 : lw_dl cX11_worth [(0, .aload_n 0, 1), (1, .getfield 69, 3), (4, .iload_n 1, 1), (5, .invokevirtual 172, 3), (8, .ifCond .eq 14, 3), (22, .ldc 175, 2), (24, .ireturn, 1), (11, .aload_n 0, 1), (12, .getfield 69, 3), (15, .iload_n 1, 1), (16, .invokevirtual 393, 3), (19, .goto 5, 3)] = true := by decide +kernel
theorem dX11_worth_0 : decode cX11_worth 0 = .ok (.aload_n 0, 1) := lw_dr lw_d_cX11_worth_0 0 rfl
theorem dX11_worth_1 : decode cX11_worth 1 = .ok (.getfield 69, 3) := lw_dr lw_d_cX11_worth_0 1 rfl
theorem dX11_worth_4 : decode cX11_worth 4 = .ok (.iload_n 1, 1) := lw_dr lw_d_cX11_worth_0 2 rfl
theorem dX11_worth_5 : decode cX11_worth 5 = .ok (.invokevirtual 172, 3) := lw_dr lw_d_cX11_worth_0 3 rfl
theorem dX11_worth_8 : decode cX11_worth 8 = .ok (.ifCond .eq 14, 3) := lw_dr lw_d_cX11_worth_0 4 rfl
theorem dX11_worth_22 : decode cX11_worth 22 = .ok (.ldc 175, 2) := lw_dr lw_d_cX11_worth_0 5 rfl
theorem dX11_worth_24 : decode cX11_worth 24 = .ok (.ireturn, 1) := lw_dr lw_d_cX11_worth_0 6 rfl
theorem dX11_worth_11 : decode cX11_worth 11 = .ok (.aload_n 0, 1) := lw_dr lw_d_cX11_worth_0 7 rfl
theorem dX11_worth_12 : decode cX11_worth 12 = .ok (.getfield 69, 3) := lw_dr lw_d_cX11_worth_0 8 rfl
theorem dX11_worth_15 : decode cX11_worth 15 = .ok (.iload_n 1, 1) := lw_dr lw_d_cX11_worth_0 9 rfl
theorem dX11_worth_16 : decode cX11_worth 16 = .ok (.invokevirtual 393, 3) := lw_dr lw_d_cX11_worth_0 10 rfl
theorem dX11_worth_19 : decode cX11_worth 19 = .ok (.goto 5, 3) := lw_dr lw_d_cX11_worth_0 11 rfl
theorem lw_d_cX11_chosen_0 : lw_dl cX11_chosen [(0, .iload_n 1, 1), (1, .iconst 1, 1), (2, .if_icmp .lt 20, 3), (22, .iconst (-1), 1), (23, .ireturn, 1), (5, .iload_n 1, 1), (6, .aload_n 0, 1), (7, .getfield 69, 3), (10, .getfield 136, 3), (13, .if_icmp .gt 9, 3), (16, .lload_n 2, 1), (17, .lconst 0, 1), (18, .lcmp, 1), (19, .ifCond .ge 5, 3), (24, .iconst 0, 1), (25, .istore 4, 2), (27, .iload 4, 2), (29, .aload_n 0, 1), (30, .getfield 69, 3), (33, .getfield 136, 3), (36, .if_icmp .ge 25, 3), (39, .aload_n 0, 1), (40, .getfield 56, 3), (43, .iload 4, 2), (45, .aload_n 0, 1), (46, .getfield 69, 3), (49, .iload 4, 2), (51, .invokevirtual 393, 3), (54, .iastore, 1), (55, .iinc 4 1, 3), (58, .goto (-31), 3), (61, .iconst (-1), 1), (62, .istore 4, 2), (64, .iconst 0, 1), (65, .istore 5, 2), (67, .iconst 1, 1), (68, .istore 6, 2), (70, .iload 6, 2), (72, .iconst 1, 1), (73, .aload_n 0, 1)] = true := by decide +kernel
theorem dX11_chosen_0 : decode cX11_chosen 0 = .ok (.iload_n 1, 1) := lw_dr lw_d_cX11_chosen_0 0 rfl
theorem dX11_chosen_1 : decode cX11_chosen 1 = .ok (.iconst 1, 1) := lw_dr lw_d_cX11_chosen_0 1 rfl
theorem dX11_chosen_2 : decode cX11_chosen 2 = .ok (.if_icmp .lt 20, 3) := lw_dr lw_d_cX11_chosen_0 2 rfl
theorem dX11_chosen_22 : decode cX11_chosen 22 = .ok (.iconst (-1), 1) := lw_dr lw_d_cX11_chosen_0 3 rfl
theorem dX11_chosen_23 : decode cX11_chosen 23 = .ok (.ireturn, 1) := lw_dr lw_d_cX11_chosen_0 4 rfl
theorem dX11_chosen_5 : decode cX11_chosen 5 = .ok (.iload_n 1, 1) := lw_dr lw_d_cX11_chosen_0 5 rfl
theorem dX11_chosen_6 : decode cX11_chosen 6 = .ok (.aload_n 0, 1) := lw_dr lw_d_cX11_chosen_0 6 rfl
theorem dX11_chosen_7 : decode cX11_chosen 7 = .ok (.getfield 69, 3) := lw_dr lw_d_cX11_chosen_0 7 rfl
theorem dX11_chosen_10 : decode cX11_chosen 10 = .ok (.getfield 136, 3) := lw_dr lw_d_cX11_chosen_0 8 rfl
theorem dX11_chosen_13 : decode cX11_chosen 13 = .ok (.if_icmp .gt 9, 3) := lw_dr lw_d_cX11_chosen_0 9 rfl
theorem dX11_chosen_16 : decode cX11_chosen 16 = .ok (.lload_n 2, 1) := lw_dr lw_d_cX11_chosen_0 10 rfl
theorem dX11_chosen_17 : decode cX11_chosen 17 = .ok (.lconst 0, 1) := lw_dr lw_d_cX11_chosen_0 11 rfl
theorem dX11_chosen_18 : decode cX11_chosen 18 = .ok (.lcmp, 1) := lw_dr lw_d_cX11_chosen_0 12 rfl
theorem dX11_chosen_19 : decode cX11_chosen 19 = .ok (.ifCond .ge 5, 3) := lw_dr lw_d_cX11_chosen_0 13 rfl
theorem dX11_chosen_24 : decode cX11_chosen 24 = .ok (.iconst 0, 1) := lw_dr lw_d_cX11_chosen_0 14 rfl
theorem dX11_chosen_25 : decode cX11_chosen 25 = .ok (.istore 4, 2) := lw_dr lw_d_cX11_chosen_0 15 rfl
theorem dX11_chosen_27 : decode cX11_chosen 27 = .ok (.iload 4, 2) := lw_dr lw_d_cX11_chosen_0 16 rfl
theorem dX11_chosen_29 : decode cX11_chosen 29 = .ok (.aload_n 0, 1) := lw_dr lw_d_cX11_chosen_0 17 rfl
theorem dX11_chosen_30 : decode cX11_chosen 30 = .ok (.getfield 69, 3) := lw_dr lw_d_cX11_chosen_0 18 rfl
theorem dX11_chosen_33 : decode cX11_chosen 33 = .ok (.getfield 136, 3) := lw_dr lw_d_cX11_chosen_0 19 rfl
theorem dX11_chosen_36 : decode cX11_chosen 36 = .ok (.if_icmp .ge 25, 3) := lw_dr lw_d_cX11_chosen_0 20 rfl
theorem dX11_chosen_39 : decode cX11_chosen 39 = .ok (.aload_n 0, 1) := lw_dr lw_d_cX11_chosen_0 21 rfl
theorem dX11_chosen_40 : decode cX11_chosen 40 = .ok (.getfield 56, 3) := lw_dr lw_d_cX11_chosen_0 22 rfl
theorem dX11_chosen_43 : decode cX11_chosen 43 = .ok (.iload 4, 2) := lw_dr lw_d_cX11_chosen_0 23 rfl
theorem dX11_chosen_45 : decode cX11_chosen 45 = .ok (.aload_n 0, 1) := lw_dr lw_d_cX11_chosen_0 24 rfl
theorem dX11_chosen_46 : decode cX11_chosen 46 = .ok (.getfield 69, 3) := lw_dr lw_d_cX11_chosen_0 25 rfl
theorem dX11_chosen_49 : decode cX11_chosen 49 = .ok (.iload 4, 2) := lw_dr lw_d_cX11_chosen_0 26 rfl
theorem dX11_chosen_51 : decode cX11_chosen 51 = .ok (.invokevirtual 393, 3) := lw_dr lw_d_cX11_chosen_0 27 rfl
theorem dX11_chosen_54 : decode cX11_chosen 54 = .ok (.iastore, 1) := lw_dr lw_d_cX11_chosen_0 28 rfl
theorem dX11_chosen_55 : decode cX11_chosen 55 = .ok (.iinc 4 1, 3) := lw_dr lw_d_cX11_chosen_0 29 rfl
theorem dX11_chosen_58 : decode cX11_chosen 58 = .ok (.goto (-31), 3) := lw_dr lw_d_cX11_chosen_0 30 rfl
theorem dX11_chosen_61 : decode cX11_chosen 61 = .ok (.iconst (-1), 1) := lw_dr lw_d_cX11_chosen_0 31 rfl
theorem dX11_chosen_62 : decode cX11_chosen 62 = .ok (.istore 4, 2) := lw_dr lw_d_cX11_chosen_0 32 rfl
theorem dX11_chosen_64 : decode cX11_chosen 64 = .ok (.iconst 0, 1) := lw_dr lw_d_cX11_chosen_0 33 rfl
theorem dX11_chosen_65 : decode cX11_chosen 65 = .ok (.istore 5, 2) := lw_dr lw_d_cX11_chosen_0 34 rfl
theorem dX11_chosen_67 : decode cX11_chosen 67 = .ok (.iconst 1, 1) := lw_dr lw_d_cX11_chosen_0 35 rfl
theorem dX11_chosen_68 : decode cX11_chosen 68 = .ok (.istore 6, 2) := lw_dr lw_d_cX11_chosen_0 36 rfl
theorem dX11_chosen_70 : decode cX11_chosen 70 = .ok (.iload 6, 2) := lw_dr lw_d_cX11_chosen_0 37 rfl
theorem dX11_chosen_72 : decode cX11_chosen 72 = .ok (.iconst 1, 1) := lw_dr lw_d_cX11_chosen_0 38 rfl
theorem dX11_chosen_73 : decode cX11_chosen 73 = .ok (.aload_n 0, 1) := lw_dr lw_d_cX11_chosen_0 39 rfl
theorem lw_d_cX11_chosen_74 : lw_dl cX11_chosen [(74, .getfield 69, 3), (77, .getfield 136, 3), (80, .ishl, 1), (81, .if_icmp .ge 77, 3), (158, .iload 4, 2), (160, .ireturn, 1), (84, .aload_n 0, 1), (85, .iload 6, 2), (87, .invokevirtual 396, 3), (90, .istore 7, 2), (92, .iload 6, 2), (94, .invokestatic 399, 3)] = true := by decide +kernel
theorem dX11_chosen_74 : decode cX11_chosen 74 = .ok (.getfield 69, 3) := lw_dr lw_d_cX11_chosen_74 0 rfl
theorem dX11_chosen_77 : decode cX11_chosen 77 = .ok (.getfield 136, 3) := lw_dr lw_d_cX11_chosen_74 1 rfl
theorem dX11_chosen_80 : decode cX11_chosen 80 = .ok (.ishl, 1) := lw_dr lw_d_cX11_chosen_74 2 rfl
theorem dX11_chosen_81 : decode cX11_chosen 81 = .ok (.if_icmp .ge 77, 3) := lw_dr lw_d_cX11_chosen_74 3 rfl
theorem dX11_chosen_158 : decode cX11_chosen 158 = .ok (.iload 4, 2) := lw_dr lw_d_cX11_chosen_74 4 rfl
theorem dX11_chosen_160 : decode cX11_chosen 160 = .ok (.ireturn, 1) := lw_dr lw_d_cX11_chosen_74 5 rfl
theorem dX11_chosen_84 : decode cX11_chosen 84 = .ok (.aload_n 0, 1) := lw_dr lw_d_cX11_chosen_74 6 rfl
theorem dX11_chosen_85 : decode cX11_chosen 85 = .ok (.iload 6, 2) := lw_dr lw_d_cX11_chosen_74 7 rfl
theorem dX11_chosen_87 : decode cX11_chosen 87 = .ok (.invokevirtual 396, 3) := lw_dr lw_d_cX11_chosen_74 8 rfl
theorem dX11_chosen_90 : decode cX11_chosen 90 = .ok (.istore 7, 2) := lw_dr lw_d_cX11_chosen_74 9 rfl
theorem dX11_chosen_92 : decode cX11_chosen 92 = .ok (.iload 6, 2) := lw_dr lw_d_cX11_chosen_74 10 rfl
theorem dX11_chosen_94 : decode cX11_chosen 94 = .ok (.invokestatic 399, 3) := lw_dr lw_d_cX11_chosen_74 11 rfl
theorem lw_d_cX11_worthTogether_0 : lw_dl cX11_worthTogether [(0, .iconst 0, 1), (1, .istore_n 2, 1), (2, .iconst 0, 1), (3, .istore_n 3, 1), (4, .iload_n 3, 1), (5, .aload_n 0, 1), (6, .getfield 69, 3), (9, .getfield 136, 3), (12, .if_icmp .ge 27, 3), (39, .iload_n 2, 1), (40, .ireturn, 1), (15, .iload_n 1, 1), (16, .iload_n 3, 1), (17, .ishr, 1), (18, .iconst 1, 1), (19, .iand, 1), (20, .iconst 1, 1), (21, .if_icmp .ne 12, 3), (33, .iinc 3 1, 3), (36, .goto (-32), 3), (24, .iload_n 2, 1), (25, .aload_n 0, 1), (26, .getfield 56, 3), (29, .iload_n 3, 1), (30, .iaload, 1), (31, .iadd, 1), (32, .istore_n 2, 1)] = true := by decide +kernel
theorem dX11_worthTogether_0 : decode cX11_worthTogether 0 = .ok (.iconst 0, 1) := lw_dr lw_d_cX11_worthTogether_0 0 rfl
theorem dX11_worthTogether_1 : decode cX11_worthTogether 1 = .ok (.istore_n 2, 1) := lw_dr lw_d_cX11_worthTogether_0 1 rfl
theorem dX11_worthTogether_2 : decode cX11_worthTogether 2 = .ok (.iconst 0, 1) := lw_dr lw_d_cX11_worthTogether_0 2 rfl
theorem dX11_worthTogether_3 : decode cX11_worthTogether 3 = .ok (.istore_n 3, 1) := lw_dr lw_d_cX11_worthTogether_0 3 rfl
theorem dX11_worthTogether_4 : decode cX11_worthTogether 4 = .ok (.iload_n 3, 1) := lw_dr lw_d_cX11_worthTogether_0 4 rfl
theorem dX11_worthTogether_5 : decode cX11_worthTogether 5 = .ok (.aload_n 0, 1) := lw_dr lw_d_cX11_worthTogether_0 5 rfl
theorem dX11_worthTogether_6 : decode cX11_worthTogether 6 = .ok (.getfield 69, 3) := lw_dr lw_d_cX11_worthTogether_0 6 rfl
theorem dX11_worthTogether_9 : decode cX11_worthTogether 9 = .ok (.getfield 136, 3) := lw_dr lw_d_cX11_worthTogether_0 7 rfl
theorem dX11_worthTogether_12 : decode cX11_worthTogether 12 = .ok (.if_icmp .ge 27, 3) := lw_dr lw_d_cX11_worthTogether_0 8 rfl
theorem dX11_worthTogether_39 : decode cX11_worthTogether 39 = .ok (.iload_n 2, 1) := lw_dr lw_d_cX11_worthTogether_0 9 rfl
theorem dX11_worthTogether_40 : decode cX11_worthTogether 40 = .ok (.ireturn, 1) := lw_dr lw_d_cX11_worthTogether_0 10 rfl
theorem dX11_worthTogether_15 : decode cX11_worthTogether 15 = .ok (.iload_n 1, 1) := lw_dr lw_d_cX11_worthTogether_0 11 rfl
theorem dX11_worthTogether_16 : decode cX11_worthTogether 16 = .ok (.iload_n 3, 1) := lw_dr lw_d_cX11_worthTogether_0 12 rfl
theorem dX11_worthTogether_17 : decode cX11_worthTogether 17 = .ok (.ishr, 1) := lw_dr lw_d_cX11_worthTogether_0 13 rfl
theorem dX11_worthTogether_18 : decode cX11_worthTogether 18 = .ok (.iconst 1, 1) := lw_dr lw_d_cX11_worthTogether_0 14 rfl
theorem dX11_worthTogether_19 : decode cX11_worthTogether 19 = .ok (.iand, 1) := lw_dr lw_d_cX11_worthTogether_0 15 rfl
theorem dX11_worthTogether_20 : decode cX11_worthTogether 20 = .ok (.iconst 1, 1) := lw_dr lw_d_cX11_worthTogether_0 16 rfl
theorem dX11_worthTogether_21 : decode cX11_worthTogether 21 = .ok (.if_icmp .ne 12, 3) := lw_dr lw_d_cX11_worthTogether_0 17 rfl
theorem dX11_worthTogether_33 : decode cX11_worthTogether 33 = .ok (.iinc 3 1, 3) := lw_dr lw_d_cX11_worthTogether_0 18 rfl
theorem dX11_worthTogether_36 : decode cX11_worthTogether 36 = .ok (.goto (-32), 3) := lw_dr lw_d_cX11_worthTogether_0 19 rfl
theorem dX11_worthTogether_24 : decode cX11_worthTogether 24 = .ok (.iload_n 2, 1) := lw_dr lw_d_cX11_worthTogether_0 20 rfl
theorem dX11_worthTogether_25 : decode cX11_worthTogether 25 = .ok (.aload_n 0, 1) := lw_dr lw_d_cX11_worthTogether_0 21 rfl
theorem dX11_worthTogether_26 : decode cX11_worthTogether 26 = .ok (.getfield 56, 3) := lw_dr lw_d_cX11_worthTogether_0 22 rfl
theorem dX11_worthTogether_29 : decode cX11_worthTogether 29 = .ok (.iload_n 3, 1) := lw_dr lw_d_cX11_worthTogether_0 23 rfl
theorem dX11_worthTogether_30 : decode cX11_worthTogether 30 = .ok (.iaload, 1) := lw_dr lw_d_cX11_worthTogether_0 24 rfl
theorem dX11_worthTogether_31 : decode cX11_worthTogether 31 = .ok (.iadd, 1) := lw_dr lw_d_cX11_worthTogether_0 25 rfl
theorem dX11_worthTogether_32 : decode cX11_worthTogether 32 = .ok (.istore_n 2, 1) := lw_dr lw_d_cX11_worthTogether_0 26 rfl
theorem lw_d_cJ6_bitCount_0f7a4_0 : lw_dl cJ6_bitCount_0f7a4 [(0, .iload_n 0, 1), (1, .iload_n 0, 1), (2, .iconst 1, 1), (3, .iushr, 1), (4, .ldc_w 265, 3), (7, .iand, 1), (8, .isub, 1), (9, .istore_n 0, 1), (10, .iload_n 0, 1), (11, .ldc_w 266, 3), (14, .iand, 1), (15, .iload_n 0, 1), (16, .iconst 2, 1), (17, .iushr, 1), (18, .ldc_w 266, 3), (21, .iand, 1), (22, .iadd, 1), (23, .istore_n 0, 1), (24, .iload_n 0, 1), (25, .iload_n 0, 1), (26, .iconst 4, 1), (27, .iushr, 1), (28, .iadd, 1), (29, .ldc_w 267, 3), (32, .iand, 1), (33, .istore_n 0, 1), (34, .iload_n 0, 1), (35, .iload_n 0, 1), (36, .bipush 8, 2), (38, .iushr, 1), (39, .iadd, 1), (40, .istore_n 0, 1), (41, .iload_n 0, 1), (42, .iload_n 0, 1), (43, .bipush 16, 2), (45, .iushr, 1), (46, .iadd, 1), (47, .istore_n 0, 1), (48, .iload_n 0, 1), (49, .bipush 63, 2)] = true := by decide +kernel
theorem dJ6_bitCount_0f7a4_0 : decode cJ6_bitCount_0f7a4 0 = .ok (.iload_n 0, 1) := lw_dr lw_d_cJ6_bitCount_0f7a4_0 0 rfl
theorem dJ6_bitCount_0f7a4_1 : decode cJ6_bitCount_0f7a4 1 = .ok (.iload_n 0, 1) := lw_dr lw_d_cJ6_bitCount_0f7a4_0 1 rfl
theorem dJ6_bitCount_0f7a4_2 : decode cJ6_bitCount_0f7a4 2 = .ok (.iconst 1, 1) := lw_dr lw_d_cJ6_bitCount_0f7a4_0 2 rfl
theorem dJ6_bitCount_0f7a4_3 : decode cJ6_bitCount_0f7a4 3 = .ok (.iushr, 1) := lw_dr lw_d_cJ6_bitCount_0f7a4_0 3 rfl
theorem dJ6_bitCount_0f7a4_4 : decode cJ6_bitCount_0f7a4 4 = .ok (.ldc_w 265, 3) := lw_dr lw_d_cJ6_bitCount_0f7a4_0 4 rfl
theorem dJ6_bitCount_0f7a4_7 : decode cJ6_bitCount_0f7a4 7 = .ok (.iand, 1) := lw_dr lw_d_cJ6_bitCount_0f7a4_0 5 rfl
theorem dJ6_bitCount_0f7a4_8 : decode cJ6_bitCount_0f7a4 8 = .ok (.isub, 1) := lw_dr lw_d_cJ6_bitCount_0f7a4_0 6 rfl
theorem dJ6_bitCount_0f7a4_9 : decode cJ6_bitCount_0f7a4 9 = .ok (.istore_n 0, 1) := lw_dr lw_d_cJ6_bitCount_0f7a4_0 7 rfl
theorem dJ6_bitCount_0f7a4_10 : decode cJ6_bitCount_0f7a4 10 = .ok (.iload_n 0, 1) := lw_dr lw_d_cJ6_bitCount_0f7a4_0 8 rfl
theorem dJ6_bitCount_0f7a4_11 : decode cJ6_bitCount_0f7a4 11 = .ok (.ldc_w 266, 3) := lw_dr lw_d_cJ6_bitCount_0f7a4_0 9 rfl
theorem dJ6_bitCount_0f7a4_14 : decode cJ6_bitCount_0f7a4 14 = .ok (.iand, 1) := lw_dr lw_d_cJ6_bitCount_0f7a4_0 10 rfl
theorem dJ6_bitCount_0f7a4_15 : decode cJ6_bitCount_0f7a4 15 = .ok (.iload_n 0, 1) := lw_dr lw_d_cJ6_bitCount_0f7a4_0 11 rfl
theorem dJ6_bitCount_0f7a4_16 : decode cJ6_bitCount_0f7a4 16 = .ok (.iconst 2, 1) := lw_dr lw_d_cJ6_bitCount_0f7a4_0 12 rfl
theorem dJ6_bitCount_0f7a4_17 : decode cJ6_bitCount_0f7a4 17 = .ok (.iushr, 1) := lw_dr lw_d_cJ6_bitCount_0f7a4_0 13 rfl
theorem dJ6_bitCount_0f7a4_18 : decode cJ6_bitCount_0f7a4 18 = .ok (.ldc_w 266, 3) := lw_dr lw_d_cJ6_bitCount_0f7a4_0 14 rfl
theorem dJ6_bitCount_0f7a4_21 : decode cJ6_bitCount_0f7a4 21 = .ok (.iand, 1) := lw_dr lw_d_cJ6_bitCount_0f7a4_0 15 rfl
theorem dJ6_bitCount_0f7a4_22 : decode cJ6_bitCount_0f7a4 22 = .ok (.iadd, 1) := lw_dr lw_d_cJ6_bitCount_0f7a4_0 16 rfl
theorem dJ6_bitCount_0f7a4_23 : decode cJ6_bitCount_0f7a4 23 = .ok (.istore_n 0, 1) := lw_dr lw_d_cJ6_bitCount_0f7a4_0 17 rfl
theorem dJ6_bitCount_0f7a4_24 : decode cJ6_bitCount_0f7a4 24 = .ok (.iload_n 0, 1) := lw_dr lw_d_cJ6_bitCount_0f7a4_0 18 rfl
theorem dJ6_bitCount_0f7a4_25 : decode cJ6_bitCount_0f7a4 25 = .ok (.iload_n 0, 1) := lw_dr lw_d_cJ6_bitCount_0f7a4_0 19 rfl
theorem dJ6_bitCount_0f7a4_26 : decode cJ6_bitCount_0f7a4 26 = .ok (.iconst 4, 1) := lw_dr lw_d_cJ6_bitCount_0f7a4_0 20 rfl
theorem dJ6_bitCount_0f7a4_27 : decode cJ6_bitCount_0f7a4 27 = .ok (.iushr, 1) := lw_dr lw_d_cJ6_bitCount_0f7a4_0 21 rfl
theorem dJ6_bitCount_0f7a4_28 : decode cJ6_bitCount_0f7a4 28 = .ok (.iadd, 1) := lw_dr lw_d_cJ6_bitCount_0f7a4_0 22 rfl
theorem dJ6_bitCount_0f7a4_29 : decode cJ6_bitCount_0f7a4 29 = .ok (.ldc_w 267, 3) := lw_dr lw_d_cJ6_bitCount_0f7a4_0 23 rfl
theorem dJ6_bitCount_0f7a4_32 : decode cJ6_bitCount_0f7a4 32 = .ok (.iand, 1) := lw_dr lw_d_cJ6_bitCount_0f7a4_0 24 rfl
theorem dJ6_bitCount_0f7a4_33 : decode cJ6_bitCount_0f7a4 33 = .ok (.istore_n 0, 1) := lw_dr lw_d_cJ6_bitCount_0f7a4_0 25 rfl
theorem dJ6_bitCount_0f7a4_34 : decode cJ6_bitCount_0f7a4 34 = .ok (.iload_n 0, 1) := lw_dr lw_d_cJ6_bitCount_0f7a4_0 26 rfl
theorem dJ6_bitCount_0f7a4_35 : decode cJ6_bitCount_0f7a4 35 = .ok (.iload_n 0, 1) := lw_dr lw_d_cJ6_bitCount_0f7a4_0 27 rfl
theorem dJ6_bitCount_0f7a4_36 : decode cJ6_bitCount_0f7a4 36 = .ok (.bipush 8, 2) := lw_dr lw_d_cJ6_bitCount_0f7a4_0 28 rfl
theorem dJ6_bitCount_0f7a4_38 : decode cJ6_bitCount_0f7a4 38 = .ok (.iushr, 1) := lw_dr lw_d_cJ6_bitCount_0f7a4_0 29 rfl
theorem dJ6_bitCount_0f7a4_39 : decode cJ6_bitCount_0f7a4 39 = .ok (.iadd, 1) := lw_dr lw_d_cJ6_bitCount_0f7a4_0 30 rfl
theorem dJ6_bitCount_0f7a4_40 : decode cJ6_bitCount_0f7a4 40 = .ok (.istore_n 0, 1) := lw_dr lw_d_cJ6_bitCount_0f7a4_0 31 rfl
theorem dJ6_bitCount_0f7a4_41 : decode cJ6_bitCount_0f7a4 41 = .ok (.iload_n 0, 1) := lw_dr lw_d_cJ6_bitCount_0f7a4_0 32 rfl
theorem dJ6_bitCount_0f7a4_42 : decode cJ6_bitCount_0f7a4 42 = .ok (.iload_n 0, 1) := lw_dr lw_d_cJ6_bitCount_0f7a4_0 33 rfl
theorem dJ6_bitCount_0f7a4_43 : decode cJ6_bitCount_0f7a4 43 = .ok (.bipush 16, 2) := lw_dr lw_d_cJ6_bitCount_0f7a4_0 34 rfl
theorem dJ6_bitCount_0f7a4_45 : decode cJ6_bitCount_0f7a4 45 = .ok (.iushr, 1) := lw_dr lw_d_cJ6_bitCount_0f7a4_0 35 rfl
theorem dJ6_bitCount_0f7a4_46 : decode cJ6_bitCount_0f7a4 46 = .ok (.iadd, 1) := lw_dr lw_d_cJ6_bitCount_0f7a4_0 36 rfl
theorem dJ6_bitCount_0f7a4_47 : decode cJ6_bitCount_0f7a4 47 = .ok (.istore_n 0, 1) := lw_dr lw_d_cJ6_bitCount_0f7a4_0 37 rfl
theorem dJ6_bitCount_0f7a4_48 : decode cJ6_bitCount_0f7a4 48 = .ok (.iload_n 0, 1) := lw_dr lw_d_cJ6_bitCount_0f7a4_0 38 rfl
theorem dJ6_bitCount_0f7a4_49 : decode cJ6_bitCount_0f7a4 49 = .ok (.bipush 63, 2) := lw_dr lw_d_cJ6_bitCount_0f7a4_0 39 rfl
theorem lw_d_cJ6_bitCount_0f7a4_51 : lw_dl cJ6_bitCount_0f7a4 [(51, .iand, 1), (52, .ireturn, 1)] = true := by decide +kernel
theorem dJ6_bitCount_0f7a4_51 : decode cJ6_bitCount_0f7a4 51 = .ok (.iand, 1) := lw_dr lw_d_cJ6_bitCount_0f7a4_51 0 rfl
theorem dJ6_bitCount_0f7a4_52 : decode cJ6_bitCount_0f7a4 52 = .ok (.ireturn, 1) := lw_dr lw_d_cJ6_bitCount_0f7a4_51 1 rfl
theorem lw_d_cX11_chosen_97 : lw_dl cX11_chosen [(97, .iload_n 1, 1), (98, .if_icmp .ne 20, 3), (118, .iconst 0, 1), (119, .istore 8, 2), (121, .iload 8, 2), (123, .ifCond .eq 29, 3), (152, .iinc 6 1, 3), (155, .goto (-85), 3), (101, .iload 4, 2), (103, .iconst (-1), 1), (104, .if_icmp .eq 10, 3), (114, .iconst 1, 1), (115, .goto 4, 3), (126, .aload_n 0, 1), (127, .getfield 31, 3), (130, .aload_n 0, 1), (131, .getfield 69, 3), (134, .iload 6, 2), (136, .invokevirtual 337, 3), (139, .lload_n 2, 1), (140, .lcmp, 1), (141, .ifCond .lt 11, 3), (144, .iload 6, 2), (146, .istore 4, 2), (148, .iload 7, 2), (150, .istore 5, 2), (107, .iload 7, 2), (109, .iload 5, 2), (111, .if_icmp .le 7, 3)] = true := by decide +kernel
theorem dX11_chosen_97 : decode cX11_chosen 97 = .ok (.iload_n 1, 1) := lw_dr lw_d_cX11_chosen_97 0 rfl
theorem dX11_chosen_98 : decode cX11_chosen 98 = .ok (.if_icmp .ne 20, 3) := lw_dr lw_d_cX11_chosen_97 1 rfl
theorem dX11_chosen_118 : decode cX11_chosen 118 = .ok (.iconst 0, 1) := lw_dr lw_d_cX11_chosen_97 2 rfl
theorem dX11_chosen_119 : decode cX11_chosen 119 = .ok (.istore 8, 2) := lw_dr lw_d_cX11_chosen_97 3 rfl
theorem dX11_chosen_121 : decode cX11_chosen 121 = .ok (.iload 8, 2) := lw_dr lw_d_cX11_chosen_97 4 rfl
theorem dX11_chosen_123 : decode cX11_chosen 123 = .ok (.ifCond .eq 29, 3) := lw_dr lw_d_cX11_chosen_97 5 rfl
theorem dX11_chosen_152 : decode cX11_chosen 152 = .ok (.iinc 6 1, 3) := lw_dr lw_d_cX11_chosen_97 6 rfl
theorem dX11_chosen_155 : decode cX11_chosen 155 = .ok (.goto (-85), 3) := lw_dr lw_d_cX11_chosen_97 7 rfl
theorem dX11_chosen_101 : decode cX11_chosen 101 = .ok (.iload 4, 2) := lw_dr lw_d_cX11_chosen_97 8 rfl
theorem dX11_chosen_103 : decode cX11_chosen 103 = .ok (.iconst (-1), 1) := lw_dr lw_d_cX11_chosen_97 9 rfl
theorem dX11_chosen_104 : decode cX11_chosen 104 = .ok (.if_icmp .eq 10, 3) := lw_dr lw_d_cX11_chosen_97 10 rfl
theorem dX11_chosen_114 : decode cX11_chosen 114 = .ok (.iconst 1, 1) := lw_dr lw_d_cX11_chosen_97 11 rfl
theorem dX11_chosen_115 : decode cX11_chosen 115 = .ok (.goto 4, 3) := lw_dr lw_d_cX11_chosen_97 12 rfl
theorem dX11_chosen_126 : decode cX11_chosen 126 = .ok (.aload_n 0, 1) := lw_dr lw_d_cX11_chosen_97 13 rfl
theorem dX11_chosen_127 : decode cX11_chosen 127 = .ok (.getfield 31, 3) := lw_dr lw_d_cX11_chosen_97 14 rfl
theorem dX11_chosen_130 : decode cX11_chosen 130 = .ok (.aload_n 0, 1) := lw_dr lw_d_cX11_chosen_97 15 rfl
theorem dX11_chosen_131 : decode cX11_chosen 131 = .ok (.getfield 69, 3) := lw_dr lw_d_cX11_chosen_97 16 rfl
theorem dX11_chosen_134 : decode cX11_chosen 134 = .ok (.iload 6, 2) := lw_dr lw_d_cX11_chosen_97 17 rfl
theorem dX11_chosen_136 : decode cX11_chosen 136 = .ok (.invokevirtual 337, 3) := lw_dr lw_d_cX11_chosen_97 18 rfl
theorem dX11_chosen_139 : decode cX11_chosen 139 = .ok (.lload_n 2, 1) := lw_dr lw_d_cX11_chosen_97 19 rfl
theorem dX11_chosen_140 : decode cX11_chosen 140 = .ok (.lcmp, 1) := lw_dr lw_d_cX11_chosen_97 20 rfl
theorem dX11_chosen_141 : decode cX11_chosen 141 = .ok (.ifCond .lt 11, 3) := lw_dr lw_d_cX11_chosen_97 21 rfl
theorem dX11_chosen_144 : decode cX11_chosen 144 = .ok (.iload 6, 2) := lw_dr lw_d_cX11_chosen_97 22 rfl
theorem dX11_chosen_146 : decode cX11_chosen 146 = .ok (.istore 4, 2) := lw_dr lw_d_cX11_chosen_97 23 rfl
theorem dX11_chosen_148 : decode cX11_chosen 148 = .ok (.iload 7, 2) := lw_dr lw_d_cX11_chosen_97 24 rfl
theorem dX11_chosen_150 : decode cX11_chosen 150 = .ok (.istore 5, 2) := lw_dr lw_d_cX11_chosen_97 25 rfl
theorem dX11_chosen_107 : decode cX11_chosen 107 = .ok (.iload 7, 2) := lw_dr lw_d_cX11_chosen_97 26 rfl
theorem dX11_chosen_109 : decode cX11_chosen 109 = .ok (.iload 5, 2) := lw_dr lw_d_cX11_chosen_97 27 rfl
theorem dX11_chosen_111 : decode cX11_chosen 111 = .ok (.if_icmp .le 7, 3) := lw_dr lw_d_cX11_chosen_97 28 rfl
theorem lw_d_cX11_image_0 : lw_dl cX11_image [(0, .iconst 0, 1), (1, .istore_n 1, 1), (2, .iconst 0, 1), (3, .istore_n 2, 1), (4, .iload_n 2, 1), (5, .aload_n 0, 1), (6, .getfield 69, 3), (9, .getfield 139, 3), (12, .if_icmp .ge 49, 3), (61, .aload_n 0, 1), (62, .getfield 59, 3), (65, .iload_n 1, 1), (66, .aload_n 0, 1), (67, .getfield 76, 3), (70, .getfield 160, 3), (73, .iastore, 1), (74, .iinc 1 1, 3), (77, .bipush 51, 2), (79, .istore_n 2, 1), (80, .iconst 0, 1), (81, .istore_n 3, 1), (82, .iload_n 3, 1), (83, .iload_n 1, 1), (84, .if_icmp .ge 20, 3), (87, .iload_n 2, 1), (88, .aload_n 0, 1), (89, .getfield 59, 3), (92, .iload_n 3, 1), (93, .iaload, 1), (94, .invokestatic 404, 3), (97, .istore_n 2, 1), (98, .iinc 3 1, 3), (101, .goto (-19), 3), (104, .aload_n 0, 1), (105, .getfield 59, 3), (108, .iload_n 1, 1), (109, .iload_n 2, 1), (110, .iastore, 1), (111, .aload_n 0, 1), (112, .iload_n 1, 1)] = true := by decide +kernel
theorem dX11_image_0 : decode cX11_image 0 = .ok (.iconst 0, 1) := lw_dr lw_d_cX11_image_0 0 rfl
theorem dX11_image_1 : decode cX11_image 1 = .ok (.istore_n 1, 1) := lw_dr lw_d_cX11_image_0 1 rfl
theorem dX11_image_2 : decode cX11_image 2 = .ok (.iconst 0, 1) := lw_dr lw_d_cX11_image_0 2 rfl
theorem dX11_image_3 : decode cX11_image 3 = .ok (.istore_n 2, 1) := lw_dr lw_d_cX11_image_0 3 rfl
theorem dX11_image_4 : decode cX11_image 4 = .ok (.iload_n 2, 1) := lw_dr lw_d_cX11_image_0 4 rfl
theorem dX11_image_5 : decode cX11_image 5 = .ok (.aload_n 0, 1) := lw_dr lw_d_cX11_image_0 5 rfl
theorem dX11_image_6 : decode cX11_image 6 = .ok (.getfield 69, 3) := lw_dr lw_d_cX11_image_0 6 rfl
theorem dX11_image_9 : decode cX11_image 9 = .ok (.getfield 139, 3) := lw_dr lw_d_cX11_image_0 7 rfl
theorem dX11_image_12 : decode cX11_image 12 = .ok (.if_icmp .ge 49, 3) := lw_dr lw_d_cX11_image_0 8 rfl
theorem dX11_image_61 : decode cX11_image 61 = .ok (.aload_n 0, 1) := lw_dr lw_d_cX11_image_0 9 rfl
theorem dX11_image_62 : decode cX11_image 62 = .ok (.getfield 59, 3) := lw_dr lw_d_cX11_image_0 10 rfl
theorem dX11_image_65 : decode cX11_image 65 = .ok (.iload_n 1, 1) := lw_dr lw_d_cX11_image_0 11 rfl
theorem dX11_image_66 : decode cX11_image 66 = .ok (.aload_n 0, 1) := lw_dr lw_d_cX11_image_0 12 rfl
theorem dX11_image_67 : decode cX11_image 67 = .ok (.getfield 76, 3) := lw_dr lw_d_cX11_image_0 13 rfl
theorem dX11_image_70 : decode cX11_image 70 = .ok (.getfield 160, 3) := lw_dr lw_d_cX11_image_0 14 rfl
theorem dX11_image_73 : decode cX11_image 73 = .ok (.iastore, 1) := lw_dr lw_d_cX11_image_0 15 rfl
theorem dX11_image_74 : decode cX11_image 74 = .ok (.iinc 1 1, 3) := lw_dr lw_d_cX11_image_0 16 rfl
theorem dX11_image_77 : decode cX11_image 77 = .ok (.bipush 51, 2) := lw_dr lw_d_cX11_image_0 17 rfl
theorem dX11_image_79 : decode cX11_image 79 = .ok (.istore_n 2, 1) := lw_dr lw_d_cX11_image_0 18 rfl
theorem dX11_image_80 : decode cX11_image 80 = .ok (.iconst 0, 1) := lw_dr lw_d_cX11_image_0 19 rfl
theorem dX11_image_81 : decode cX11_image 81 = .ok (.istore_n 3, 1) := lw_dr lw_d_cX11_image_0 20 rfl
theorem dX11_image_82 : decode cX11_image 82 = .ok (.iload_n 3, 1) := lw_dr lw_d_cX11_image_0 21 rfl
theorem dX11_image_83 : decode cX11_image 83 = .ok (.iload_n 1, 1) := lw_dr lw_d_cX11_image_0 22 rfl
theorem dX11_image_84 : decode cX11_image 84 = .ok (.if_icmp .ge 20, 3) := lw_dr lw_d_cX11_image_0 23 rfl
theorem dX11_image_87 : decode cX11_image 87 = .ok (.iload_n 2, 1) := lw_dr lw_d_cX11_image_0 24 rfl
theorem dX11_image_88 : decode cX11_image 88 = .ok (.aload_n 0, 1) := lw_dr lw_d_cX11_image_0 25 rfl
theorem dX11_image_89 : decode cX11_image 89 = .ok (.getfield 59, 3) := lw_dr lw_d_cX11_image_0 26 rfl
theorem dX11_image_92 : decode cX11_image 92 = .ok (.iload_n 3, 1) := lw_dr lw_d_cX11_image_0 27 rfl
theorem dX11_image_93 : decode cX11_image 93 = .ok (.iaload, 1) := lw_dr lw_d_cX11_image_0 28 rfl
theorem dX11_image_94 : decode cX11_image 94 = .ok (.invokestatic 404, 3) := lw_dr lw_d_cX11_image_0 29 rfl
theorem dX11_image_97 : decode cX11_image 97 = .ok (.istore_n 2, 1) := lw_dr lw_d_cX11_image_0 30 rfl
theorem dX11_image_98 : decode cX11_image 98 = .ok (.iinc 3 1, 3) := lw_dr lw_d_cX11_image_0 31 rfl
theorem dX11_image_101 : decode cX11_image 101 = .ok (.goto (-19), 3) := lw_dr lw_d_cX11_image_0 32 rfl
theorem dX11_image_104 : decode cX11_image 104 = .ok (.aload_n 0, 1) := lw_dr lw_d_cX11_image_0 33 rfl
theorem dX11_image_105 : decode cX11_image 105 = .ok (.getfield 59, 3) := lw_dr lw_d_cX11_image_0 34 rfl
theorem dX11_image_108 : decode cX11_image 108 = .ok (.iload_n 1, 1) := lw_dr lw_d_cX11_image_0 35 rfl
theorem dX11_image_109 : decode cX11_image 109 = .ok (.iload_n 2, 1) := lw_dr lw_d_cX11_image_0 36 rfl
theorem dX11_image_110 : decode cX11_image 110 = .ok (.iastore, 1) := lw_dr lw_d_cX11_image_0 37 rfl
theorem dX11_image_111 : decode cX11_image 111 = .ok (.aload_n 0, 1) := lw_dr lw_d_cX11_image_0 38 rfl
theorem dX11_image_112 : decode cX11_image 112 = .ok (.iload_n 1, 1) := lw_dr lw_d_cX11_image_0 39 rfl
theorem lw_d_cX11_image_113 : lw_dl cX11_image [(113, .iconst 1, 1), (114, .iadd, 1), (115, .putfield 62, 3), (118, .aload_n 0, 1), (119, .getfield 62, 3), (122, .ireturn, 1), (15, .aload_n 0, 1), (16, .getfield 59, 3), (19, .iload_n 1, 1), (20, .aload_n 0, 1), (21, .getfield 49, 3), (24, .iload_n 2, 1), (25, .iaload, 1), (26, .bipush 8, 2), (28, .ishr, 1), (29, .sipush 255, 3), (32, .iand, 1), (33, .iastore, 1), (34, .aload_n 0, 1), (35, .getfield 59, 3), (38, .iload_n 1, 1), (39, .iconst 1, 1), (40, .iadd, 1), (41, .aload_n 0, 1), (42, .getfield 49, 3), (45, .iload_n 2, 1), (46, .iaload, 1), (47, .sipush 255, 3), (50, .iand, 1), (51, .iastore, 1), (52, .iinc 1 2, 3), (55, .iinc 2 1, 3), (58, .goto (-54), 3)] = true := by decide +kernel
theorem dX11_image_113 : decode cX11_image 113 = .ok (.iconst 1, 1) := lw_dr lw_d_cX11_image_113 0 rfl
theorem dX11_image_114 : decode cX11_image 114 = .ok (.iadd, 1) := lw_dr lw_d_cX11_image_113 1 rfl
theorem dX11_image_115 : decode cX11_image 115 = .ok (.putfield 62, 3) := lw_dr lw_d_cX11_image_113 2 rfl
theorem dX11_image_118 : decode cX11_image 118 = .ok (.aload_n 0, 1) := lw_dr lw_d_cX11_image_113 3 rfl
theorem dX11_image_119 : decode cX11_image 119 = .ok (.getfield 62, 3) := lw_dr lw_d_cX11_image_113 4 rfl
theorem dX11_image_122 : decode cX11_image 122 = .ok (.ireturn, 1) := lw_dr lw_d_cX11_image_113 5 rfl
theorem dX11_image_15 : decode cX11_image 15 = .ok (.aload_n 0, 1) := lw_dr lw_d_cX11_image_113 6 rfl
theorem dX11_image_16 : decode cX11_image 16 = .ok (.getfield 59, 3) := lw_dr lw_d_cX11_image_113 7 rfl
theorem dX11_image_19 : decode cX11_image 19 = .ok (.iload_n 1, 1) := lw_dr lw_d_cX11_image_113 8 rfl
theorem dX11_image_20 : decode cX11_image 20 = .ok (.aload_n 0, 1) := lw_dr lw_d_cX11_image_113 9 rfl
theorem dX11_image_21 : decode cX11_image 21 = .ok (.getfield 49, 3) := lw_dr lw_d_cX11_image_113 10 rfl
theorem dX11_image_24 : decode cX11_image 24 = .ok (.iload_n 2, 1) := lw_dr lw_d_cX11_image_113 11 rfl
theorem dX11_image_25 : decode cX11_image 25 = .ok (.iaload, 1) := lw_dr lw_d_cX11_image_113 12 rfl
theorem dX11_image_26 : decode cX11_image 26 = .ok (.bipush 8, 2) := lw_dr lw_d_cX11_image_113 13 rfl
theorem dX11_image_28 : decode cX11_image 28 = .ok (.ishr, 1) := lw_dr lw_d_cX11_image_113 14 rfl
theorem dX11_image_29 : decode cX11_image 29 = .ok (.sipush 255, 3) := lw_dr lw_d_cX11_image_113 15 rfl
theorem dX11_image_32 : decode cX11_image 32 = .ok (.iand, 1) := lw_dr lw_d_cX11_image_113 16 rfl
theorem dX11_image_33 : decode cX11_image 33 = .ok (.iastore, 1) := lw_dr lw_d_cX11_image_113 17 rfl
theorem dX11_image_34 : decode cX11_image 34 = .ok (.aload_n 0, 1) := lw_dr lw_d_cX11_image_113 18 rfl
theorem dX11_image_35 : decode cX11_image 35 = .ok (.getfield 59, 3) := lw_dr lw_d_cX11_image_113 19 rfl
theorem dX11_image_38 : decode cX11_image 38 = .ok (.iload_n 1, 1) := lw_dr lw_d_cX11_image_113 20 rfl
theorem dX11_image_39 : decode cX11_image 39 = .ok (.iconst 1, 1) := lw_dr lw_d_cX11_image_113 21 rfl
theorem dX11_image_40 : decode cX11_image 40 = .ok (.iadd, 1) := lw_dr lw_d_cX11_image_113 22 rfl
theorem dX11_image_41 : decode cX11_image 41 = .ok (.aload_n 0, 1) := lw_dr lw_d_cX11_image_113 23 rfl
theorem dX11_image_42 : decode cX11_image 42 = .ok (.getfield 49, 3) := lw_dr lw_d_cX11_image_113 24 rfl
theorem dX11_image_45 : decode cX11_image 45 = .ok (.iload_n 2, 1) := lw_dr lw_d_cX11_image_113 25 rfl
theorem dX11_image_46 : decode cX11_image 46 = .ok (.iaload, 1) := lw_dr lw_d_cX11_image_113 26 rfl
theorem dX11_image_47 : decode cX11_image 47 = .ok (.sipush 255, 3) := lw_dr lw_d_cX11_image_113 27 rfl
theorem dX11_image_50 : decode cX11_image 50 = .ok (.iand, 1) := lw_dr lw_d_cX11_image_113 28 rfl
theorem dX11_image_51 : decode cX11_image 51 = .ok (.iastore, 1) := lw_dr lw_d_cX11_image_113 29 rfl
theorem dX11_image_52 : decode cX11_image 52 = .ok (.iinc 1 2, 3) := lw_dr lw_d_cX11_image_113 30 rfl
theorem dX11_image_55 : decode cX11_image 55 = .ok (.iinc 2 1, 3) := lw_dr lw_d_cX11_image_113 31 rfl
theorem dX11_image_58 : decode cX11_image 58 = .ok (.goto (-54), 3) := lw_dr lw_d_cX11_image_113 32 rfl
theorem lw_d_cX11_checkWith_0 : lw_dl cX11_checkWith [(0, .bipush 7, 2), (2, .iload_n 0, 1), (3, .imul, 1), (4, .iload_n 1, 1), (5, .iadd, 1), (6, .sipush 253, 3), (9, .irem, 1), (10, .ireturn, 1)] = true := by decide +kernel
theorem dX11_checkWith_0 : decode cX11_checkWith 0 = .ok (.bipush 7, 2) := lw_dr lw_d_cX11_checkWith_0 0 rfl
theorem dX11_checkWith_2 : decode cX11_checkWith 2 = .ok (.iload_n 0, 1) := lw_dr lw_d_cX11_checkWith_0 1 rfl
theorem dX11_checkWith_3 : decode cX11_checkWith 3 = .ok (.imul, 1) := lw_dr lw_d_cX11_checkWith_0 2 rfl
theorem dX11_checkWith_4 : decode cX11_checkWith 4 = .ok (.iload_n 1, 1) := lw_dr lw_d_cX11_checkWith_0 3 rfl
theorem dX11_checkWith_5 : decode cX11_checkWith 5 = .ok (.iadd, 1) := lw_dr lw_d_cX11_checkWith_0 4 rfl
theorem dX11_checkWith_6 : decode cX11_checkWith 6 = .ok (.sipush 253, 3) := lw_dr lw_d_cX11_checkWith_0 5 rfl
theorem dX11_checkWith_9 : decode cX11_checkWith 9 = .ok (.irem, 1) := lw_dr lw_d_cX11_checkWith_0 6 rfl
theorem dX11_checkWith_10 : decode cX11_checkWith 10 = .ok (.ireturn, 1) := lw_dr lw_d_cX11_checkWith_0 7 rfl
theorem lw_d_cX11_octet_0 : lw_dl cX11_octet [(0, .iload_n 1, 1), (1, .ifCond .lt 20, 3), (21, .iconst (-1), 1), (22, .ireturn, 1), (4, .iload_n 1, 1), (5, .aload_n 0, 1), (6, .getfield 62, 3), (9, .if_icmp .ge 12, 3), (12, .aload_n 0, 1), (13, .getfield 59, 3), (16, .iload_n 1, 1), (17, .iaload, 1), (18, .goto 4, 3)] = true := by decide +kernel
theorem dX11_octet_0 : decode cX11_octet 0 = .ok (.iload_n 1, 1) := lw_dr lw_d_cX11_octet_0 0 rfl
theorem dX11_octet_1 : decode cX11_octet 1 = .ok (.ifCond .lt 20, 3) := lw_dr lw_d_cX11_octet_0 1 rfl
theorem dX11_octet_21 : decode cX11_octet 21 = .ok (.iconst (-1), 1) := lw_dr lw_d_cX11_octet_0 2 rfl
theorem dX11_octet_22 : decode cX11_octet 22 = .ok (.ireturn, 1) := lw_dr lw_d_cX11_octet_0 3 rfl
theorem dX11_octet_4 : decode cX11_octet 4 = .ok (.iload_n 1, 1) := lw_dr lw_d_cX11_octet_0 4 rfl
theorem dX11_octet_5 : decode cX11_octet 5 = .ok (.aload_n 0, 1) := lw_dr lw_d_cX11_octet_0 5 rfl
theorem dX11_octet_6 : decode cX11_octet 6 = .ok (.getfield 62, 3) := lw_dr lw_d_cX11_octet_0 6 rfl
theorem dX11_octet_9 : decode cX11_octet 9 = .ok (.if_icmp .ge 12, 3) := lw_dr lw_d_cX11_octet_0 7 rfl
theorem dX11_octet_12 : decode cX11_octet 12 = .ok (.aload_n 0, 1) := lw_dr lw_d_cX11_octet_0 8 rfl
theorem dX11_octet_13 : decode cX11_octet 13 = .ok (.getfield 59, 3) := lw_dr lw_d_cX11_octet_0 9 rfl
theorem dX11_octet_16 : decode cX11_octet 16 = .ok (.iload_n 1, 1) := lw_dr lw_d_cX11_octet_0 10 rfl
theorem dX11_octet_17 : decode cX11_octet 17 = .ok (.iaload, 1) := lw_dr lw_d_cX11_octet_0 11 rfl
theorem dX11_octet_18 : decode cX11_octet 18 = .ok (.goto 4, 3) := lw_dr lw_d_cX11_octet_0 12 rfl
theorem lw_d_cX11_isImage_0 : lw_dl cX11_isImage [(0, .iconst 2, 1), (1, .aload_n 0, 1), (2, .getfield 69, 3), (5, .getfield 139, 3), (8, .imul, 1), (9, .iconst 1, 1), (10, .iadd, 1), (11, .istore_n 1, 1), (12, .aload_n 0, 1), (13, .getfield 20, 3), (16, .invokevirtual 93, 3), (19, .iload_n 1, 1), (20, .iconst 1, 1), (21, .iadd, 1), (22, .if_icmp .eq 5, 3), (27, .bipush 51, 2), (29, .istore_n 2, 1), (30, .iconst 0, 1), (31, .istore_n 3, 1), (32, .iload_n 3, 1), (33, .iload_n 1, 1), (34, .if_icmp .ge 22, 3), (56, .aload_n 0, 1), (57, .getfield 20, 3), (60, .iload_n 1, 1), (61, .invokevirtual 410, 3), (64, .iload_n 2, 1), (65, .if_icmp .ne 7, 3), (72, .iconst 0, 1), (73, .ireturn, 1), (68, .iconst 1, 1), (69, .goto 4, 3), (37, .iload_n 2, 1), (38, .aload_n 0, 1), (39, .getfield 20, 3), (42, .iload_n 3, 1), (43, .invokevirtual 410, 3), (46, .invokestatic 404, 3), (49, .istore_n 2, 1), (50, .iinc 3 1, 3)] = true := by decide +kernel
theorem dX11_isImage_0 : decode cX11_isImage 0 = .ok (.iconst 2, 1) := lw_dr lw_d_cX11_isImage_0 0 rfl
theorem dX11_isImage_1 : decode cX11_isImage 1 = .ok (.aload_n 0, 1) := lw_dr lw_d_cX11_isImage_0 1 rfl
theorem dX11_isImage_2 : decode cX11_isImage 2 = .ok (.getfield 69, 3) := lw_dr lw_d_cX11_isImage_0 2 rfl
theorem dX11_isImage_5 : decode cX11_isImage 5 = .ok (.getfield 139, 3) := lw_dr lw_d_cX11_isImage_0 3 rfl
theorem dX11_isImage_8 : decode cX11_isImage 8 = .ok (.imul, 1) := lw_dr lw_d_cX11_isImage_0 4 rfl
theorem dX11_isImage_9 : decode cX11_isImage 9 = .ok (.iconst 1, 1) := lw_dr lw_d_cX11_isImage_0 5 rfl
theorem dX11_isImage_10 : decode cX11_isImage 10 = .ok (.iadd, 1) := lw_dr lw_d_cX11_isImage_0 6 rfl
theorem dX11_isImage_11 : decode cX11_isImage 11 = .ok (.istore_n 1, 1) := lw_dr lw_d_cX11_isImage_0 7 rfl
theorem dX11_isImage_12 : decode cX11_isImage 12 = .ok (.aload_n 0, 1) := lw_dr lw_d_cX11_isImage_0 8 rfl
theorem dX11_isImage_13 : decode cX11_isImage 13 = .ok (.getfield 20, 3) := lw_dr lw_d_cX11_isImage_0 9 rfl
theorem dX11_isImage_16 : decode cX11_isImage 16 = .ok (.invokevirtual 93, 3) := lw_dr lw_d_cX11_isImage_0 10 rfl
theorem dX11_isImage_19 : decode cX11_isImage 19 = .ok (.iload_n 1, 1) := lw_dr lw_d_cX11_isImage_0 11 rfl
theorem dX11_isImage_20 : decode cX11_isImage 20 = .ok (.iconst 1, 1) := lw_dr lw_d_cX11_isImage_0 12 rfl
theorem dX11_isImage_21 : decode cX11_isImage 21 = .ok (.iadd, 1) := lw_dr lw_d_cX11_isImage_0 13 rfl
theorem dX11_isImage_22 : decode cX11_isImage 22 = .ok (.if_icmp .eq 5, 3) := lw_dr lw_d_cX11_isImage_0 14 rfl
theorem dX11_isImage_27 : decode cX11_isImage 27 = .ok (.bipush 51, 2) := lw_dr lw_d_cX11_isImage_0 15 rfl
theorem dX11_isImage_29 : decode cX11_isImage 29 = .ok (.istore_n 2, 1) := lw_dr lw_d_cX11_isImage_0 16 rfl
theorem dX11_isImage_30 : decode cX11_isImage 30 = .ok (.iconst 0, 1) := lw_dr lw_d_cX11_isImage_0 17 rfl
theorem dX11_isImage_31 : decode cX11_isImage 31 = .ok (.istore_n 3, 1) := lw_dr lw_d_cX11_isImage_0 18 rfl
theorem dX11_isImage_32 : decode cX11_isImage 32 = .ok (.iload_n 3, 1) := lw_dr lw_d_cX11_isImage_0 19 rfl
theorem dX11_isImage_33 : decode cX11_isImage 33 = .ok (.iload_n 1, 1) := lw_dr lw_d_cX11_isImage_0 20 rfl
theorem dX11_isImage_34 : decode cX11_isImage 34 = .ok (.if_icmp .ge 22, 3) := lw_dr lw_d_cX11_isImage_0 21 rfl
theorem dX11_isImage_56 : decode cX11_isImage 56 = .ok (.aload_n 0, 1) := lw_dr lw_d_cX11_isImage_0 22 rfl
theorem dX11_isImage_57 : decode cX11_isImage 57 = .ok (.getfield 20, 3) := lw_dr lw_d_cX11_isImage_0 23 rfl
theorem dX11_isImage_60 : decode cX11_isImage 60 = .ok (.iload_n 1, 1) := lw_dr lw_d_cX11_isImage_0 24 rfl
theorem dX11_isImage_61 : decode cX11_isImage 61 = .ok (.invokevirtual 410, 3) := lw_dr lw_d_cX11_isImage_0 25 rfl
theorem dX11_isImage_64 : decode cX11_isImage 64 = .ok (.iload_n 2, 1) := lw_dr lw_d_cX11_isImage_0 26 rfl
theorem dX11_isImage_65 : decode cX11_isImage 65 = .ok (.if_icmp .ne 7, 3) := lw_dr lw_d_cX11_isImage_0 27 rfl
theorem dX11_isImage_72 : decode cX11_isImage 72 = .ok (.iconst 0, 1) := lw_dr lw_d_cX11_isImage_0 28 rfl
theorem dX11_isImage_73 : decode cX11_isImage 73 = .ok (.ireturn, 1) := lw_dr lw_d_cX11_isImage_0 29 rfl
theorem dX11_isImage_68 : decode cX11_isImage 68 = .ok (.iconst 1, 1) := lw_dr lw_d_cX11_isImage_0 30 rfl
theorem dX11_isImage_69 : decode cX11_isImage 69 = .ok (.goto 4, 3) := lw_dr lw_d_cX11_isImage_0 31 rfl
theorem dX11_isImage_37 : decode cX11_isImage 37 = .ok (.iload_n 2, 1) := lw_dr lw_d_cX11_isImage_0 32 rfl
theorem dX11_isImage_38 : decode cX11_isImage 38 = .ok (.aload_n 0, 1) := lw_dr lw_d_cX11_isImage_0 33 rfl
theorem dX11_isImage_39 : decode cX11_isImage 39 = .ok (.getfield 20, 3) := lw_dr lw_d_cX11_isImage_0 34 rfl
theorem dX11_isImage_42 : decode cX11_isImage 42 = .ok (.iload_n 3, 1) := lw_dr lw_d_cX11_isImage_0 35 rfl
theorem dX11_isImage_43 : decode cX11_isImage 43 = .ok (.invokevirtual 410, 3) := lw_dr lw_d_cX11_isImage_0 36 rfl
theorem dX11_isImage_46 : decode cX11_isImage 46 = .ok (.invokestatic 404, 3) := lw_dr lw_d_cX11_isImage_0 37 rfl
theorem dX11_isImage_49 : decode cX11_isImage 49 = .ok (.istore_n 2, 1) := lw_dr lw_d_cX11_isImage_0 38 rfl
theorem dX11_isImage_50 : decode cX11_isImage 50 = .ok (.iinc 3 1, 3) := lw_dr lw_d_cX11_isImage_0 39 rfl
theorem lw_d_cX11_isImage_53 : lw_dl cX11_isImage [(53, .goto (-21), 3), (25, .iconst 0, 1), (26, .ireturn, 1)] = true := by decide +kernel
theorem dX11_isImage_53 : decode cX11_isImage 53 = .ok (.goto (-21), 3) := lw_dr lw_d_cX11_isImage_53 0 rfl
theorem dX11_isImage_25 : decode cX11_isImage 25 = .ok (.iconst 0, 1) := lw_dr lw_d_cX11_isImage_53 1 rfl
theorem dX11_isImage_26 : decode cX11_isImage 26 = .ok (.ireturn, 1) := lw_dr lw_d_cX11_isImage_53 2 rfl
theorem lw_d_cX12_feed_0 : lw_dl cX12_feed [(0, .aload_n 0, 1), (1, .getfield 148, 3), (4, .bipush 20, 2), (6, .iadd, 1), (7, .sipush 1600, 3), (10, .if_icmp .le 5, 3), (15, .iconst 0, 1), (16, .istore 6, 2), (18, .iload 6, 2), (20, .bipush 20, 2), (22, .if_icmp .ge 92, 3), (25, .iload 6, 2), (27, .iconst 4, 1), (28, .if_icmp .ge 7, 3), (31, .iload_n 1, 1), (32, .goto 39, 3), (71, .istore 7, 2), (73, .aload_n 0, 1), (74, .getfield 7, 3), (77, .aload_n 0, 1), (78, .getfield 148, 3), (81, .iload 7, 2), (83, .bipush 8, 2), (85, .iconst 3, 1), (86, .iload 6, 2), (88, .iconst 4, 1), (89, .irem, 1), (90, .isub, 1), (91, .imul, 1), (92, .ishr, 1), (93, .sipush 255, 3), (96, .iand, 1), (97, .iastore, 1), (98, .aload_n 0, 1), (99, .dup, 1), (100, .getfield 148, 3), (103, .iconst 1, 1), (104, .iadd, 1), (105, .putfield 148, 3), (108, .iinc 6 1, 3)] = true := by decide +kernel
theorem dX12_feed_0 : decode cX12_feed 0 = .ok (.aload_n 0, 1) := lw_dr lw_d_cX12_feed_0 0 rfl
theorem dX12_feed_1 : decode cX12_feed 1 = .ok (.getfield 148, 3) := lw_dr lw_d_cX12_feed_0 1 rfl
theorem dX12_feed_4 : decode cX12_feed 4 = .ok (.bipush 20, 2) := lw_dr lw_d_cX12_feed_0 2 rfl
theorem dX12_feed_6 : decode cX12_feed 6 = .ok (.iadd, 1) := lw_dr lw_d_cX12_feed_0 3 rfl
theorem dX12_feed_7 : decode cX12_feed 7 = .ok (.sipush 1600, 3) := lw_dr lw_d_cX12_feed_0 4 rfl
theorem dX12_feed_10 : decode cX12_feed 10 = .ok (.if_icmp .le 5, 3) := lw_dr lw_d_cX12_feed_0 5 rfl
theorem dX12_feed_15 : decode cX12_feed 15 = .ok (.iconst 0, 1) := lw_dr lw_d_cX12_feed_0 6 rfl
theorem dX12_feed_16 : decode cX12_feed 16 = .ok (.istore 6, 2) := lw_dr lw_d_cX12_feed_0 7 rfl
theorem dX12_feed_18 : decode cX12_feed 18 = .ok (.iload 6, 2) := lw_dr lw_d_cX12_feed_0 8 rfl
theorem dX12_feed_20 : decode cX12_feed 20 = .ok (.bipush 20, 2) := lw_dr lw_d_cX12_feed_0 9 rfl
theorem dX12_feed_22 : decode cX12_feed 22 = .ok (.if_icmp .ge 92, 3) := lw_dr lw_d_cX12_feed_0 10 rfl
theorem dX12_feed_25 : decode cX12_feed 25 = .ok (.iload 6, 2) := lw_dr lw_d_cX12_feed_0 11 rfl
theorem dX12_feed_27 : decode cX12_feed 27 = .ok (.iconst 4, 1) := lw_dr lw_d_cX12_feed_0 12 rfl
theorem dX12_feed_28 : decode cX12_feed 28 = .ok (.if_icmp .ge 7, 3) := lw_dr lw_d_cX12_feed_0 13 rfl
theorem dX12_feed_31 : decode cX12_feed 31 = .ok (.iload_n 1, 1) := lw_dr lw_d_cX12_feed_0 14 rfl
theorem dX12_feed_32 : decode cX12_feed 32 = .ok (.goto 39, 3) := lw_dr lw_d_cX12_feed_0 15 rfl
theorem dX12_feed_71 : decode cX12_feed 71 = .ok (.istore 7, 2) := lw_dr lw_d_cX12_feed_0 16 rfl
theorem dX12_feed_73 : decode cX12_feed 73 = .ok (.aload_n 0, 1) := lw_dr lw_d_cX12_feed_0 17 rfl
theorem dX12_feed_74 : decode cX12_feed 74 = .ok (.getfield 7, 3) := lw_dr lw_d_cX12_feed_0 18 rfl
theorem dX12_feed_77 : decode cX12_feed 77 = .ok (.aload_n 0, 1) := lw_dr lw_d_cX12_feed_0 19 rfl
theorem dX12_feed_78 : decode cX12_feed 78 = .ok (.getfield 148, 3) := lw_dr lw_d_cX12_feed_0 20 rfl
theorem dX12_feed_81 : decode cX12_feed 81 = .ok (.iload 7, 2) := lw_dr lw_d_cX12_feed_0 21 rfl
theorem dX12_feed_83 : decode cX12_feed 83 = .ok (.bipush 8, 2) := lw_dr lw_d_cX12_feed_0 22 rfl
theorem dX12_feed_85 : decode cX12_feed 85 = .ok (.iconst 3, 1) := lw_dr lw_d_cX12_feed_0 23 rfl
theorem dX12_feed_86 : decode cX12_feed 86 = .ok (.iload 6, 2) := lw_dr lw_d_cX12_feed_0 24 rfl
theorem dX12_feed_88 : decode cX12_feed 88 = .ok (.iconst 4, 1) := lw_dr lw_d_cX12_feed_0 25 rfl
theorem dX12_feed_89 : decode cX12_feed 89 = .ok (.irem, 1) := lw_dr lw_d_cX12_feed_0 26 rfl
theorem dX12_feed_90 : decode cX12_feed 90 = .ok (.isub, 1) := lw_dr lw_d_cX12_feed_0 27 rfl
theorem dX12_feed_91 : decode cX12_feed 91 = .ok (.imul, 1) := lw_dr lw_d_cX12_feed_0 28 rfl
theorem dX12_feed_92 : decode cX12_feed 92 = .ok (.ishr, 1) := lw_dr lw_d_cX12_feed_0 29 rfl
theorem dX12_feed_93 : decode cX12_feed 93 = .ok (.sipush 255, 3) := lw_dr lw_d_cX12_feed_0 30 rfl
theorem dX12_feed_96 : decode cX12_feed 96 = .ok (.iand, 1) := lw_dr lw_d_cX12_feed_0 31 rfl
theorem dX12_feed_97 : decode cX12_feed 97 = .ok (.iastore, 1) := lw_dr lw_d_cX12_feed_0 32 rfl
theorem dX12_feed_98 : decode cX12_feed 98 = .ok (.aload_n 0, 1) := lw_dr lw_d_cX12_feed_0 33 rfl
theorem dX12_feed_99 : decode cX12_feed 99 = .ok (.dup, 1) := lw_dr lw_d_cX12_feed_0 34 rfl
theorem dX12_feed_100 : decode cX12_feed 100 = .ok (.getfield 148, 3) := lw_dr lw_d_cX12_feed_0 35 rfl
theorem dX12_feed_103 : decode cX12_feed 103 = .ok (.iconst 1, 1) := lw_dr lw_d_cX12_feed_0 36 rfl
theorem dX12_feed_104 : decode cX12_feed 104 = .ok (.iadd, 1) := lw_dr lw_d_cX12_feed_0 37 rfl
theorem dX12_feed_105 : decode cX12_feed 105 = .ok (.putfield 148, 3) := lw_dr lw_d_cX12_feed_0 38 rfl
theorem dX12_feed_108 : decode cX12_feed 108 = .ok (.iinc 6 1, 3) := lw_dr lw_d_cX12_feed_0 39 rfl
theorem lw_d_cX12_feed_111 : lw_dl cX12_feed [(111, .goto (-93), 3), (114, .aload_n 0, 1), (115, .getfield 148, 3), (118, .ireturn, 1), (35, .iload 6, 2), (37, .bipush 8, 2), (39, .if_icmp .ge 7, 3), (46, .iload 6, 2), (48, .bipush 12, 2), (50, .if_icmp .ge 7, 3), (57, .iload 6, 2), (59, .bipush 16, 2), (61, .if_icmp .ge 8, 3), (69, .iload 5, 2), (64, .iload 4, 2), (66, .goto 5, 3), (53, .iload_n 3, 1), (54, .goto 17, 3), (42, .iload_n 2, 1), (43, .goto 28, 3), (13, .iconst (-1), 1), (14, .ireturn, 1)] = true := by decide +kernel
theorem dX12_feed_111 : decode cX12_feed 111 = .ok (.goto (-93), 3) := lw_dr lw_d_cX12_feed_111 0 rfl
theorem dX12_feed_114 : decode cX12_feed 114 = .ok (.aload_n 0, 1) := lw_dr lw_d_cX12_feed_111 1 rfl
theorem dX12_feed_115 : decode cX12_feed 115 = .ok (.getfield 148, 3) := lw_dr lw_d_cX12_feed_111 2 rfl
theorem dX12_feed_118 : decode cX12_feed 118 = .ok (.ireturn, 1) := lw_dr lw_d_cX12_feed_111 3 rfl
theorem dX12_feed_35 : decode cX12_feed 35 = .ok (.iload 6, 2) := lw_dr lw_d_cX12_feed_111 4 rfl
theorem dX12_feed_37 : decode cX12_feed 37 = .ok (.bipush 8, 2) := lw_dr lw_d_cX12_feed_111 5 rfl
theorem dX12_feed_39 : decode cX12_feed 39 = .ok (.if_icmp .ge 7, 3) := lw_dr lw_d_cX12_feed_111 6 rfl
theorem dX12_feed_46 : decode cX12_feed 46 = .ok (.iload 6, 2) := lw_dr lw_d_cX12_feed_111 7 rfl
theorem dX12_feed_48 : decode cX12_feed 48 = .ok (.bipush 12, 2) := lw_dr lw_d_cX12_feed_111 8 rfl
theorem dX12_feed_50 : decode cX12_feed 50 = .ok (.if_icmp .ge 7, 3) := lw_dr lw_d_cX12_feed_111 9 rfl
theorem dX12_feed_57 : decode cX12_feed 57 = .ok (.iload 6, 2) := lw_dr lw_d_cX12_feed_111 10 rfl
theorem dX12_feed_59 : decode cX12_feed 59 = .ok (.bipush 16, 2) := lw_dr lw_d_cX12_feed_111 11 rfl
theorem dX12_feed_61 : decode cX12_feed 61 = .ok (.if_icmp .ge 8, 3) := lw_dr lw_d_cX12_feed_111 12 rfl
theorem dX12_feed_69 : decode cX12_feed 69 = .ok (.iload 5, 2) := lw_dr lw_d_cX12_feed_111 13 rfl
theorem dX12_feed_64 : decode cX12_feed 64 = .ok (.iload 4, 2) := lw_dr lw_d_cX12_feed_111 14 rfl
theorem dX12_feed_66 : decode cX12_feed 66 = .ok (.goto 5, 3) := lw_dr lw_d_cX12_feed_111 15 rfl
theorem dX12_feed_53 : decode cX12_feed 53 = .ok (.iload_n 3, 1) := lw_dr lw_d_cX12_feed_111 16 rfl
theorem dX12_feed_54 : decode cX12_feed 54 = .ok (.goto 17, 3) := lw_dr lw_d_cX12_feed_111 17 rfl
theorem dX12_feed_42 : decode cX12_feed 42 = .ok (.iload_n 2, 1) := lw_dr lw_d_cX12_feed_111 18 rfl
theorem dX12_feed_43 : decode cX12_feed 43 = .ok (.goto 28, 3) := lw_dr lw_d_cX12_feed_111 19 rfl
theorem dX12_feed_13 : decode cX12_feed 13 = .ok (.iconst (-1), 1) := lw_dr lw_d_cX12_feed_111 20 rfl
theorem dX12_feed_14 : decode cX12_feed 14 = .ok (.ireturn, 1) := lw_dr lw_d_cX12_feed_111 21 rfl
theorem lw_d_cX12_end_0 : lw_dl cX12_end [(0, .iload_n 1, 1), (1, .ifCond .lt 11, 3), (12, .iconst 0, 1), (13, .ireturn, 1), (4, .iload_n 1, 1), (5, .aload_n 0, 1), (6, .getfield 148, 3), (9, .if_icmp .le 5, 3), (14, .aload_n 0, 1), (15, .iload_n 1, 1), (16, .putfield 148, 3), (19, .iconst 1, 1), (20, .ireturn, 1)] = true := by decide +kernel
theorem dX12_end_0 : decode cX12_end 0 = .ok (.iload_n 1, 1) := lw_dr lw_d_cX12_end_0 0 rfl
theorem dX12_end_1 : decode cX12_end 1 = .ok (.ifCond .lt 11, 3) := lw_dr lw_d_cX12_end_0 1 rfl
theorem dX12_end_12 : decode cX12_end 12 = .ok (.iconst 0, 1) := lw_dr lw_d_cX12_end_0 2 rfl
theorem dX12_end_13 : decode cX12_end 13 = .ok (.ireturn, 1) := lw_dr lw_d_cX12_end_0 3 rfl
theorem dX12_end_4 : decode cX12_end 4 = .ok (.iload_n 1, 1) := lw_dr lw_d_cX12_end_0 4 rfl
theorem dX12_end_5 : decode cX12_end 5 = .ok (.aload_n 0, 1) := lw_dr lw_d_cX12_end_0 5 rfl
theorem dX12_end_6 : decode cX12_end 6 = .ok (.getfield 148, 3) := lw_dr lw_d_cX12_end_0 6 rfl
theorem dX12_end_9 : decode cX12_end 9 = .ok (.if_icmp .le 5, 3) := lw_dr lw_d_cX12_end_0 7 rfl
theorem dX12_end_14 : decode cX12_end 14 = .ok (.aload_n 0, 1) := lw_dr lw_d_cX12_end_0 8 rfl
theorem dX12_end_15 : decode cX12_end 15 = .ok (.iload_n 1, 1) := lw_dr lw_d_cX12_end_0 9 rfl
theorem dX12_end_16 : decode cX12_end 16 = .ok (.putfield 148, 3) := lw_dr lw_d_cX12_end_0 10 rfl
theorem dX12_end_19 : decode cX12_end 19 = .ok (.iconst 1, 1) := lw_dr lw_d_cX12_end_0 11 rfl
theorem dX12_end_20 : decode cX12_end 20 = .ok (.ireturn, 1) := lw_dr lw_d_cX12_end_0 12 rfl
theorem lw_d_cX12_house_0 : lw_dl cX12_house [(0, .aload_n 0, 1), (1, .aload_n 0, 1), (2, .getfield 148, 3), (5, .putfield 160, 3), (8, .aload_n 0, 1), (9, .iconst 0, 1), (10, .putfield 148, 3), (13, .aload_n 0, 1), (14, .iconst 0, 1), (15, .putfield 157, 3), (18, .aload_n 0, 1), (19, .iconst (-1), 1), (20, .putfield 171, 3), (23, .aload_n 0, 1), (24, .iconst 0, 1), (25, .putfield 151, 3), (28, .aload_n 0, 1), (29, .iconst (-1), 1), (30, .putfield 154, 3), (33, .aload_n 0, 1), (34, .iconst 0, 1), (35, .putfield 222, 3), (38, .aload_n 0, 1), (39, .getfield 81, 3), (42, .iconst 1, 1), (43, .iconst 0, 1), (44, .iastore, 1), (45, .aload_n 0, 1), (46, .aload_n 0, 1), (47, .getfield 17, 3), (50, .invokevirtual 212, 3)] = true := by decide +kernel
theorem dX12_house_0 : decode cX12_house 0 = .ok (.aload_n 0, 1) := lw_dr lw_d_cX12_house_0 0 rfl
theorem dX12_house_1 : decode cX12_house 1 = .ok (.aload_n 0, 1) := lw_dr lw_d_cX12_house_0 1 rfl
theorem dX12_house_2 : decode cX12_house 2 = .ok (.getfield 148, 3) := lw_dr lw_d_cX12_house_0 2 rfl
theorem dX12_house_5 : decode cX12_house 5 = .ok (.putfield 160, 3) := lw_dr lw_d_cX12_house_0 3 rfl
theorem dX12_house_8 : decode cX12_house 8 = .ok (.aload_n 0, 1) := lw_dr lw_d_cX12_house_0 4 rfl
theorem dX12_house_9 : decode cX12_house 9 = .ok (.iconst 0, 1) := lw_dr lw_d_cX12_house_0 5 rfl
theorem dX12_house_10 : decode cX12_house 10 = .ok (.putfield 148, 3) := lw_dr lw_d_cX12_house_0 6 rfl
theorem dX12_house_13 : decode cX12_house 13 = .ok (.aload_n 0, 1) := lw_dr lw_d_cX12_house_0 7 rfl
theorem dX12_house_14 : decode cX12_house 14 = .ok (.iconst 0, 1) := lw_dr lw_d_cX12_house_0 8 rfl
theorem dX12_house_15 : decode cX12_house 15 = .ok (.putfield 157, 3) := lw_dr lw_d_cX12_house_0 9 rfl
theorem dX12_house_18 : decode cX12_house 18 = .ok (.aload_n 0, 1) := lw_dr lw_d_cX12_house_0 10 rfl
theorem dX12_house_19 : decode cX12_house 19 = .ok (.iconst (-1), 1) := lw_dr lw_d_cX12_house_0 11 rfl
theorem dX12_house_20 : decode cX12_house 20 = .ok (.putfield 171, 3) := lw_dr lw_d_cX12_house_0 12 rfl
theorem dX12_house_23 : decode cX12_house 23 = .ok (.aload_n 0, 1) := lw_dr lw_d_cX12_house_0 13 rfl
theorem dX12_house_24 : decode cX12_house 24 = .ok (.iconst 0, 1) := lw_dr lw_d_cX12_house_0 14 rfl
theorem dX12_house_25 : decode cX12_house 25 = .ok (.putfield 151, 3) := lw_dr lw_d_cX12_house_0 15 rfl
theorem dX12_house_28 : decode cX12_house 28 = .ok (.aload_n 0, 1) := lw_dr lw_d_cX12_house_0 16 rfl
theorem dX12_house_29 : decode cX12_house 29 = .ok (.iconst (-1), 1) := lw_dr lw_d_cX12_house_0 17 rfl
theorem dX12_house_30 : decode cX12_house 30 = .ok (.putfield 154, 3) := lw_dr lw_d_cX12_house_0 18 rfl
theorem dX12_house_33 : decode cX12_house 33 = .ok (.aload_n 0, 1) := lw_dr lw_d_cX12_house_0 19 rfl
theorem dX12_house_34 : decode cX12_house 34 = .ok (.iconst 0, 1) := lw_dr lw_d_cX12_house_0 20 rfl
theorem dX12_house_35 : decode cX12_house 35 = .ok (.putfield 222, 3) := lw_dr lw_d_cX12_house_0 21 rfl
theorem dX12_house_38 : decode cX12_house 38 = .ok (.aload_n 0, 1) := lw_dr lw_d_cX12_house_0 22 rfl
theorem dX12_house_39 : decode cX12_house 39 = .ok (.getfield 81, 3) := lw_dr lw_d_cX12_house_0 23 rfl
theorem dX12_house_42 : decode cX12_house 42 = .ok (.iconst 1, 1) := lw_dr lw_d_cX12_house_0 24 rfl
theorem dX12_house_43 : decode cX12_house 43 = .ok (.iconst 0, 1) := lw_dr lw_d_cX12_house_0 25 rfl
theorem dX12_house_44 : decode cX12_house 44 = .ok (.iastore, 1) := lw_dr lw_d_cX12_house_0 26 rfl
theorem dX12_house_45 : decode cX12_house 45 = .ok (.aload_n 0, 1) := lw_dr lw_d_cX12_house_0 27 rfl
theorem dX12_house_46 : decode cX12_house 46 = .ok (.aload_n 0, 1) := lw_dr lw_d_cX12_house_0 28 rfl
theorem dX12_house_47 : decode cX12_house 47 = .ok (.getfield 17, 3) := lw_dr lw_d_cX12_house_0 29 rfl
theorem dX12_house_50 : decode cX12_house 50 = .ok (.invokevirtual 212, 3) := lw_dr lw_d_cX12_house_0 30 rfl
theorem lw_d_cX12_asks_0 : lw_dl cX12_asks [(0, .aload_n 0, 1), (1, .getfield 151, 3), (4, .ifCond .ne 20, 3), (24, .return_, 1), (7, .aload_n 0, 1), (8, .aload_n 1, 1), (9, .invokevirtual 178, 3)] = true := by decide +kernel
theorem dX12_asks_0 : decode cX12_asks 0 = .ok (.aload_n 0, 1) := lw_dr lw_d_cX12_asks_0 0 rfl
theorem dX12_asks_1 : decode cX12_asks 1 = .ok (.getfield 151, 3) := lw_dr lw_d_cX12_asks_0 1 rfl
theorem dX12_asks_4 : decode cX12_asks 4 = .ok (.ifCond .ne 20, 3) := lw_dr lw_d_cX12_asks_0 2 rfl
theorem dX12_asks_24 : decode cX12_asks 24 = .ok (.return_, 1) := lw_dr lw_d_cX12_asks_0 3 rfl
theorem dX12_asks_7 : decode cX12_asks 7 = .ok (.aload_n 0, 1) := lw_dr lw_d_cX12_asks_0 4 rfl
theorem dX12_asks_8 : decode cX12_asks 8 = .ok (.aload_n 1, 1) := lw_dr lw_d_cX12_asks_0 5 rfl
theorem dX12_asks_9 : decode cX12_asks 9 = .ok (.invokevirtual 178, 3) := lw_dr lw_d_cX12_asks_0 6 rfl
theorem lw_d_cX12_takes_0 : lw_dl cX12_takes [(0, .aload_n 0, 1), (1, .aload_n 1, 1), (2, .invokevirtual 174, 3), (5, .ifCond .ne 5, 3), (10, .aload_n 0, 1), (11, .dup, 1), (12, .getfield 157, 3), (15, .aload_n 1, 1), (16, .arraylength, 1)] = true := by decide +kernel
theorem dX12_takes_0 : decode cX12_takes 0 = .ok (.aload_n 0, 1) := lw_dr lw_d_cX12_takes_0 0 rfl
theorem dX12_takes_1 : decode cX12_takes 1 = .ok (.aload_n 1, 1) := lw_dr lw_d_cX12_takes_0 1 rfl
theorem dX12_takes_2 : decode cX12_takes 2 = .ok (.invokevirtual 174, 3) := lw_dr lw_d_cX12_takes_0 2 rfl
theorem dX12_takes_5 : decode cX12_takes 5 = .ok (.ifCond .ne 5, 3) := lw_dr lw_d_cX12_takes_0 3 rfl
theorem dX12_takes_10 : decode cX12_takes 10 = .ok (.aload_n 0, 1) := lw_dr lw_d_cX12_takes_0 4 rfl
theorem dX12_takes_11 : decode cX12_takes 11 = .ok (.dup, 1) := lw_dr lw_d_cX12_takes_0 5 rfl
theorem dX12_takes_12 : decode cX12_takes 12 = .ok (.getfield 157, 3) := lw_dr lw_d_cX12_takes_0 6 rfl
theorem dX12_takes_15 : decode cX12_takes 15 = .ok (.aload_n 1, 1) := lw_dr lw_d_cX12_takes_0 7 rfl
theorem dX12_takes_16 : decode cX12_takes 16 = .ok (.arraylength, 1) := lw_dr lw_d_cX12_takes_0 8 rfl
theorem lw_d_cX12_isHere_0 : lw_dl cX12_isHere [(0, .aload_n 0, 1), (1, .getfield 151, 3), (4, .ifCond .ne 24, 3), (28, .iconst 0, 1), (29, .ireturn, 1), (7, .aload_n 0, 1), (8, .invokevirtual 163, 3), (11, .invokestatic 167, 3), (14, .ifCond .eq 14, 3), (17, .aload_n 0, 1), (18, .getfield 157, 3), (21, .aload_n 0, 1), (22, .getfield 171, 3), (25, .if_icmp .ne 5, 3), (30, .aload_n 0, 1), (31, .getfield 157, 3), (34, .istore_n 2, 1), (35, .iload_n 2, 1), (36, .aload_n 0, 1), (37, .getfield 160, 3), (40, .if_icmp .ge 21, 3), (61, .iload_n 2, 1), (62, .aload_n 0, 1), (63, .getfield 157, 3), (66, .isub, 1), (67, .aload_n 1, 1), (68, .arraylength, 1), (69, .if_icmp .eq 5, 3), (74, .iconst 0, 1), (75, .istore_n 3, 1), (76, .iload_n 3, 1), (77, .aload_n 1, 1), (78, .arraylength, 1), (79, .if_icmp .ge 28, 3), (82, .aload_n 0, 1), (83, .getfield 7, 3), (86, .aload_n 0, 1), (87, .getfield 157, 3), (90, .iload_n 3, 1), (91, .iadd, 1)] = true := by decide +kernel
theorem dX12_isHere_0 : decode cX12_isHere 0 = .ok (.aload_n 0, 1) := lw_dr lw_d_cX12_isHere_0 0 rfl
theorem dX12_isHere_1 : decode cX12_isHere 1 = .ok (.getfield 151, 3) := lw_dr lw_d_cX12_isHere_0 1 rfl
theorem dX12_isHere_4 : decode cX12_isHere 4 = .ok (.ifCond .ne 24, 3) := lw_dr lw_d_cX12_isHere_0 2 rfl
theorem dX12_isHere_28 : decode cX12_isHere 28 = .ok (.iconst 0, 1) := lw_dr lw_d_cX12_isHere_0 3 rfl
theorem dX12_isHere_29 : decode cX12_isHere 29 = .ok (.ireturn, 1) := lw_dr lw_d_cX12_isHere_0 4 rfl
theorem dX12_isHere_7 : decode cX12_isHere 7 = .ok (.aload_n 0, 1) := lw_dr lw_d_cX12_isHere_0 5 rfl
theorem dX12_isHere_8 : decode cX12_isHere 8 = .ok (.invokevirtual 163, 3) := lw_dr lw_d_cX12_isHere_0 6 rfl
theorem dX12_isHere_11 : decode cX12_isHere 11 = .ok (.invokestatic 167, 3) := lw_dr lw_d_cX12_isHere_0 7 rfl
theorem dX12_isHere_14 : decode cX12_isHere 14 = .ok (.ifCond .eq 14, 3) := lw_dr lw_d_cX12_isHere_0 8 rfl
theorem dX12_isHere_17 : decode cX12_isHere 17 = .ok (.aload_n 0, 1) := lw_dr lw_d_cX12_isHere_0 9 rfl
theorem dX12_isHere_18 : decode cX12_isHere 18 = .ok (.getfield 157, 3) := lw_dr lw_d_cX12_isHere_0 10 rfl
theorem dX12_isHere_21 : decode cX12_isHere 21 = .ok (.aload_n 0, 1) := lw_dr lw_d_cX12_isHere_0 11 rfl
theorem dX12_isHere_22 : decode cX12_isHere 22 = .ok (.getfield 171, 3) := lw_dr lw_d_cX12_isHere_0 12 rfl
theorem dX12_isHere_25 : decode cX12_isHere 25 = .ok (.if_icmp .ne 5, 3) := lw_dr lw_d_cX12_isHere_0 13 rfl
theorem dX12_isHere_30 : decode cX12_isHere 30 = .ok (.aload_n 0, 1) := lw_dr lw_d_cX12_isHere_0 14 rfl
theorem dX12_isHere_31 : decode cX12_isHere 31 = .ok (.getfield 157, 3) := lw_dr lw_d_cX12_isHere_0 15 rfl
theorem dX12_isHere_34 : decode cX12_isHere 34 = .ok (.istore_n 2, 1) := lw_dr lw_d_cX12_isHere_0 16 rfl
theorem dX12_isHere_35 : decode cX12_isHere 35 = .ok (.iload_n 2, 1) := lw_dr lw_d_cX12_isHere_0 17 rfl
theorem dX12_isHere_36 : decode cX12_isHere 36 = .ok (.aload_n 0, 1) := lw_dr lw_d_cX12_isHere_0 18 rfl
theorem dX12_isHere_37 : decode cX12_isHere 37 = .ok (.getfield 160, 3) := lw_dr lw_d_cX12_isHere_0 19 rfl
theorem dX12_isHere_40 : decode cX12_isHere 40 = .ok (.if_icmp .ge 21, 3) := lw_dr lw_d_cX12_isHere_0 20 rfl
theorem dX12_isHere_61 : decode cX12_isHere 61 = .ok (.iload_n 2, 1) := lw_dr lw_d_cX12_isHere_0 21 rfl
theorem dX12_isHere_62 : decode cX12_isHere 62 = .ok (.aload_n 0, 1) := lw_dr lw_d_cX12_isHere_0 22 rfl
theorem dX12_isHere_63 : decode cX12_isHere 63 = .ok (.getfield 157, 3) := lw_dr lw_d_cX12_isHere_0 23 rfl
theorem dX12_isHere_66 : decode cX12_isHere 66 = .ok (.isub, 1) := lw_dr lw_d_cX12_isHere_0 24 rfl
theorem dX12_isHere_67 : decode cX12_isHere 67 = .ok (.aload_n 1, 1) := lw_dr lw_d_cX12_isHere_0 25 rfl
theorem dX12_isHere_68 : decode cX12_isHere 68 = .ok (.arraylength, 1) := lw_dr lw_d_cX12_isHere_0 26 rfl
theorem dX12_isHere_69 : decode cX12_isHere 69 = .ok (.if_icmp .eq 5, 3) := lw_dr lw_d_cX12_isHere_0 27 rfl
theorem dX12_isHere_74 : decode cX12_isHere 74 = .ok (.iconst 0, 1) := lw_dr lw_d_cX12_isHere_0 28 rfl
theorem dX12_isHere_75 : decode cX12_isHere 75 = .ok (.istore_n 3, 1) := lw_dr lw_d_cX12_isHere_0 29 rfl
theorem dX12_isHere_76 : decode cX12_isHere 76 = .ok (.iload_n 3, 1) := lw_dr lw_d_cX12_isHere_0 30 rfl
theorem dX12_isHere_77 : decode cX12_isHere 77 = .ok (.aload_n 1, 1) := lw_dr lw_d_cX12_isHere_0 31 rfl
theorem dX12_isHere_78 : decode cX12_isHere 78 = .ok (.arraylength, 1) := lw_dr lw_d_cX12_isHere_0 32 rfl
theorem dX12_isHere_79 : decode cX12_isHere 79 = .ok (.if_icmp .ge 28, 3) := lw_dr lw_d_cX12_isHere_0 33 rfl
theorem dX12_isHere_82 : decode cX12_isHere 82 = .ok (.aload_n 0, 1) := lw_dr lw_d_cX12_isHere_0 34 rfl
theorem dX12_isHere_83 : decode cX12_isHere 83 = .ok (.getfield 7, 3) := lw_dr lw_d_cX12_isHere_0 35 rfl
theorem dX12_isHere_86 : decode cX12_isHere 86 = .ok (.aload_n 0, 1) := lw_dr lw_d_cX12_isHere_0 36 rfl
theorem dX12_isHere_87 : decode cX12_isHere 87 = .ok (.getfield 157, 3) := lw_dr lw_d_cX12_isHere_0 37 rfl
theorem dX12_isHere_90 : decode cX12_isHere 90 = .ok (.iload_n 3, 1) := lw_dr lw_d_cX12_isHere_0 38 rfl
theorem dX12_isHere_91 : decode cX12_isHere 91 = .ok (.iadd, 1) := lw_dr lw_d_cX12_isHere_0 39 rfl
theorem lw_d_cX12_isHere_92 : lw_dl cX12_isHere [(92, .iaload, 1), (93, .aload_n 1, 1), (94, .iload_n 3, 1), (95, .caload, 1), (96, .if_icmp .eq 5, 3), (101, .iinc 3 1, 3), (104, .goto (-28), 3), (99, .iconst 0, 1), (100, .ireturn, 1), (107, .iconst 1, 1), (108, .ireturn, 1), (72, .iconst 0, 1), (73, .ireturn, 1), (43, .aload_n 0, 1), (44, .getfield 7, 3), (47, .iload_n 2, 1), (48, .iaload, 1), (49, .invokestatic 167, 3), (52, .ifCond .eq 9, 3), (55, .iinc 2 1, 3), (58, .goto (-23), 3)] = true := by decide +kernel
theorem dX12_isHere_92 : decode cX12_isHere 92 = .ok (.iaload, 1) := lw_dr lw_d_cX12_isHere_92 0 rfl
theorem dX12_isHere_93 : decode cX12_isHere 93 = .ok (.aload_n 1, 1) := lw_dr lw_d_cX12_isHere_92 1 rfl
theorem dX12_isHere_94 : decode cX12_isHere 94 = .ok (.iload_n 3, 1) := lw_dr lw_d_cX12_isHere_92 2 rfl
theorem dX12_isHere_95 : decode cX12_isHere 95 = .ok (.caload, 1) := lw_dr lw_d_cX12_isHere_92 3 rfl
theorem dX12_isHere_96 : decode cX12_isHere 96 = .ok (.if_icmp .eq 5, 3) := lw_dr lw_d_cX12_isHere_92 4 rfl
theorem dX12_isHere_101 : decode cX12_isHere 101 = .ok (.iinc 3 1, 3) := lw_dr lw_d_cX12_isHere_92 5 rfl
theorem dX12_isHere_104 : decode cX12_isHere 104 = .ok (.goto (-28), 3) := lw_dr lw_d_cX12_isHere_92 6 rfl
theorem dX12_isHere_99 : decode cX12_isHere 99 = .ok (.iconst 0, 1) := lw_dr lw_d_cX12_isHere_92 7 rfl
theorem dX12_isHere_100 : decode cX12_isHere 100 = .ok (.ireturn, 1) := lw_dr lw_d_cX12_isHere_92 8 rfl
theorem dX12_isHere_107 : decode cX12_isHere 107 = .ok (.iconst 1, 1) := lw_dr lw_d_cX12_isHere_92 9 rfl
theorem dX12_isHere_108 : decode cX12_isHere 108 = .ok (.ireturn, 1) := lw_dr lw_d_cX12_isHere_92 10 rfl
theorem dX12_isHere_72 : decode cX12_isHere 72 = .ok (.iconst 0, 1) := lw_dr lw_d_cX12_isHere_92 11 rfl
theorem dX12_isHere_73 : decode cX12_isHere 73 = .ok (.ireturn, 1) := lw_dr lw_d_cX12_isHere_92 12 rfl
theorem dX12_isHere_43 : decode cX12_isHere 43 = .ok (.aload_n 0, 1) := lw_dr lw_d_cX12_isHere_92 13 rfl
theorem dX12_isHere_44 : decode cX12_isHere 44 = .ok (.getfield 7, 3) := lw_dr lw_d_cX12_isHere_92 14 rfl
theorem dX12_isHere_47 : decode cX12_isHere 47 = .ok (.iload_n 2, 1) := lw_dr lw_d_cX12_isHere_92 15 rfl
theorem dX12_isHere_48 : decode cX12_isHere 48 = .ok (.iaload, 1) := lw_dr lw_d_cX12_isHere_92 16 rfl
theorem dX12_isHere_49 : decode cX12_isHere 49 = .ok (.invokestatic 167, 3) := lw_dr lw_d_cX12_isHere_92 17 rfl
theorem dX12_isHere_52 : decode cX12_isHere 52 = .ok (.ifCond .eq 9, 3) := lw_dr lw_d_cX12_isHere_92 18 rfl
theorem dX12_isHere_55 : decode cX12_isHere 55 = .ok (.iinc 2 1, 3) := lw_dr lw_d_cX12_isHere_92 19 rfl
theorem dX12_isHere_58 : decode cX12_isHere 58 = .ok (.goto (-23), 3) := lw_dr lw_d_cX12_isHere_92 20 rfl
theorem lw_d_cX12_look_0 : lw_dl cX12_look [(0, .aload_n 0, 1), (1, .getfield 157, 3), (4, .aload_n 0, 1), (5, .getfield 160, 3), (8, .if_icmp .ge 44, 3), (52, .aload_n 0, 1), (53, .getfield 157, 3), (56, .aload_n 0, 1), (57, .getfield 160, 3), (60, .if_icmp .ge 15, 3), (75, .iconst (-1), 1), (76, .ireturn, 1), (63, .aload_n 0, 1), (64, .getfield 7, 3), (67, .aload_n 0, 1), (68, .getfield 157, 3), (71, .iaload, 1), (72, .goto 4, 3), (11, .aload_n 0, 1), (12, .getfield 7, 3), (15, .aload_n 0, 1), (16, .getfield 157, 3), (19, .iaload, 1), (20, .bipush 10, 2), (22, .if_icmp .eq 17, 3), (39, .aload_n 0, 1), (40, .dup, 1), (41, .getfield 157, 3), (44, .iconst 1, 1), (45, .iadd, 1), (46, .putfield 157, 3), (49, .goto (-49), 3), (25, .aload_n 0, 1), (26, .getfield 7, 3), (29, .aload_n 0, 1), (30, .getfield 157, 3), (33, .iaload, 1), (34, .bipush 32, 2), (36, .if_icmp .ne 16, 3)] = true := by decide +kernel
theorem dX12_look_0 : decode cX12_look 0 = .ok (.aload_n 0, 1) := lw_dr lw_d_cX12_look_0 0 rfl
theorem dX12_look_1 : decode cX12_look 1 = .ok (.getfield 157, 3) := lw_dr lw_d_cX12_look_0 1 rfl
theorem dX12_look_4 : decode cX12_look 4 = .ok (.aload_n 0, 1) := lw_dr lw_d_cX12_look_0 2 rfl
theorem dX12_look_5 : decode cX12_look 5 = .ok (.getfield 160, 3) := lw_dr lw_d_cX12_look_0 3 rfl
theorem dX12_look_8 : decode cX12_look 8 = .ok (.if_icmp .ge 44, 3) := lw_dr lw_d_cX12_look_0 4 rfl
theorem dX12_look_52 : decode cX12_look 52 = .ok (.aload_n 0, 1) := lw_dr lw_d_cX12_look_0 5 rfl
theorem dX12_look_53 : decode cX12_look 53 = .ok (.getfield 157, 3) := lw_dr lw_d_cX12_look_0 6 rfl
theorem dX12_look_56 : decode cX12_look 56 = .ok (.aload_n 0, 1) := lw_dr lw_d_cX12_look_0 7 rfl
theorem dX12_look_57 : decode cX12_look 57 = .ok (.getfield 160, 3) := lw_dr lw_d_cX12_look_0 8 rfl
theorem dX12_look_60 : decode cX12_look 60 = .ok (.if_icmp .ge 15, 3) := lw_dr lw_d_cX12_look_0 9 rfl
theorem dX12_look_75 : decode cX12_look 75 = .ok (.iconst (-1), 1) := lw_dr lw_d_cX12_look_0 10 rfl
theorem dX12_look_76 : decode cX12_look 76 = .ok (.ireturn, 1) := lw_dr lw_d_cX12_look_0 11 rfl
theorem dX12_look_63 : decode cX12_look 63 = .ok (.aload_n 0, 1) := lw_dr lw_d_cX12_look_0 12 rfl
theorem dX12_look_64 : decode cX12_look 64 = .ok (.getfield 7, 3) := lw_dr lw_d_cX12_look_0 13 rfl
theorem dX12_look_67 : decode cX12_look 67 = .ok (.aload_n 0, 1) := lw_dr lw_d_cX12_look_0 14 rfl
theorem dX12_look_68 : decode cX12_look 68 = .ok (.getfield 157, 3) := lw_dr lw_d_cX12_look_0 15 rfl
theorem dX12_look_71 : decode cX12_look 71 = .ok (.iaload, 1) := lw_dr lw_d_cX12_look_0 16 rfl
theorem dX12_look_72 : decode cX12_look 72 = .ok (.goto 4, 3) := lw_dr lw_d_cX12_look_0 17 rfl
theorem dX12_look_11 : decode cX12_look 11 = .ok (.aload_n 0, 1) := lw_dr lw_d_cX12_look_0 18 rfl
theorem dX12_look_12 : decode cX12_look 12 = .ok (.getfield 7, 3) := lw_dr lw_d_cX12_look_0 19 rfl
theorem dX12_look_15 : decode cX12_look 15 = .ok (.aload_n 0, 1) := lw_dr lw_d_cX12_look_0 20 rfl
theorem dX12_look_16 : decode cX12_look 16 = .ok (.getfield 157, 3) := lw_dr lw_d_cX12_look_0 21 rfl
theorem dX12_look_19 : decode cX12_look 19 = .ok (.iaload, 1) := lw_dr lw_d_cX12_look_0 22 rfl
theorem dX12_look_20 : decode cX12_look 20 = .ok (.bipush 10, 2) := lw_dr lw_d_cX12_look_0 23 rfl
theorem dX12_look_22 : decode cX12_look 22 = .ok (.if_icmp .eq 17, 3) := lw_dr lw_d_cX12_look_0 24 rfl
theorem dX12_look_39 : decode cX12_look 39 = .ok (.aload_n 0, 1) := lw_dr lw_d_cX12_look_0 25 rfl
theorem dX12_look_40 : decode cX12_look 40 = .ok (.dup, 1) := lw_dr lw_d_cX12_look_0 26 rfl
theorem dX12_look_41 : decode cX12_look 41 = .ok (.getfield 157, 3) := lw_dr lw_d_cX12_look_0 27 rfl
theorem dX12_look_44 : decode cX12_look 44 = .ok (.iconst 1, 1) := lw_dr lw_d_cX12_look_0 28 rfl
theorem dX12_look_45 : decode cX12_look 45 = .ok (.iadd, 1) := lw_dr lw_d_cX12_look_0 29 rfl
theorem dX12_look_46 : decode cX12_look 46 = .ok (.putfield 157, 3) := lw_dr lw_d_cX12_look_0 30 rfl
theorem dX12_look_49 : decode cX12_look 49 = .ok (.goto (-49), 3) := lw_dr lw_d_cX12_look_0 31 rfl
theorem dX12_look_25 : decode cX12_look 25 = .ok (.aload_n 0, 1) := lw_dr lw_d_cX12_look_0 32 rfl
theorem dX12_look_26 : decode cX12_look 26 = .ok (.getfield 7, 3) := lw_dr lw_d_cX12_look_0 33 rfl
theorem dX12_look_29 : decode cX12_look 29 = .ok (.aload_n 0, 1) := lw_dr lw_d_cX12_look_0 34 rfl
theorem dX12_look_30 : decode cX12_look 30 = .ok (.getfield 157, 3) := lw_dr lw_d_cX12_look_0 35 rfl
theorem dX12_look_33 : decode cX12_look 33 = .ok (.iaload, 1) := lw_dr lw_d_cX12_look_0 36 rfl
theorem dX12_look_34 : decode cX12_look 34 = .ok (.bipush 32, 2) := lw_dr lw_d_cX12_look_0 37 rfl
theorem dX12_look_36 : decode cX12_look 36 = .ok (.if_icmp .ne 16, 3) := lw_dr lw_d_cX12_look_0 38 rfl
theorem lw_d_cX12_isLetter_0 : lw_dl cX12_isLetter [(0, .iload_n 0, 1), (1, .bipush 97, 2), (3, .if_icmp .lt 13, 3), (16, .iconst 0, 1), (17, .ireturn, 1), (6, .iload_n 0, 1), (7, .bipush 122, 2), (9, .if_icmp .gt 7, 3), (12, .iconst 1, 1), (13, .goto 4, 3)] = true := by decide +kernel
theorem dX12_isLetter_0 : decode cX12_isLetter 0 = .ok (.iload_n 0, 1) := lw_dr lw_d_cX12_isLetter_0 0 rfl
theorem dX12_isLetter_1 : decode cX12_isLetter 1 = .ok (.bipush 97, 2) := lw_dr lw_d_cX12_isLetter_0 1 rfl
theorem dX12_isLetter_3 : decode cX12_isLetter 3 = .ok (.if_icmp .lt 13, 3) := lw_dr lw_d_cX12_isLetter_0 2 rfl
theorem dX12_isLetter_16 : decode cX12_isLetter 16 = .ok (.iconst 0, 1) := lw_dr lw_d_cX12_isLetter_0 3 rfl
theorem dX12_isLetter_17 : decode cX12_isLetter 17 = .ok (.ireturn, 1) := lw_dr lw_d_cX12_isLetter_0 4 rfl
theorem dX12_isLetter_6 : decode cX12_isLetter 6 = .ok (.iload_n 0, 1) := lw_dr lw_d_cX12_isLetter_0 5 rfl
theorem dX12_isLetter_7 : decode cX12_isLetter 7 = .ok (.bipush 122, 2) := lw_dr lw_d_cX12_isLetter_0 6 rfl
theorem dX12_isLetter_9 : decode cX12_isLetter 9 = .ok (.if_icmp .gt 7, 3) := lw_dr lw_d_cX12_isLetter_0 7 rfl
theorem dX12_isLetter_12 : decode cX12_isLetter 12 = .ok (.iconst 1, 1) := lw_dr lw_d_cX12_isLetter_0 8 rfl
theorem dX12_isLetter_13 : decode cX12_isLetter 13 = .ok (.goto 4, 3) := lw_dr lw_d_cX12_isLetter_0 9 rfl
theorem lw_d_cX12_takes_17 : lw_dl cX12_takes [(17, .iadd, 1), (18, .putfield 157, 3), (21, .aload_n 0, 1), (22, .aload_n 0, 1), (23, .getfield 157, 3), (26, .putfield 171, 3), (29, .iconst 1, 1), (30, .ireturn, 1), (8, .iconst 0, 1), (9, .ireturn, 1)] = true := by decide +kernel
theorem dX12_takes_17 : decode cX12_takes 17 = .ok (.iadd, 1) := lw_dr lw_d_cX12_takes_17 0 rfl
theorem dX12_takes_18 : decode cX12_takes 18 = .ok (.putfield 157, 3) := lw_dr lw_d_cX12_takes_17 1 rfl
theorem dX12_takes_21 : decode cX12_takes 21 = .ok (.aload_n 0, 1) := lw_dr lw_d_cX12_takes_17 2 rfl
theorem dX12_takes_22 : decode cX12_takes 22 = .ok (.aload_n 0, 1) := lw_dr lw_d_cX12_takes_17 3 rfl
theorem dX12_takes_23 : decode cX12_takes 23 = .ok (.getfield 157, 3) := lw_dr lw_d_cX12_takes_17 4 rfl
theorem dX12_takes_26 : decode cX12_takes 26 = .ok (.putfield 171, 3) := lw_dr lw_d_cX12_takes_17 5 rfl
theorem dX12_takes_29 : decode cX12_takes 29 = .ok (.iconst 1, 1) := lw_dr lw_d_cX12_takes_17 6 rfl
theorem dX12_takes_30 : decode cX12_takes 30 = .ok (.ireturn, 1) := lw_dr lw_d_cX12_takes_17 7 rfl
theorem dX12_takes_8 : decode cX12_takes 8 = .ok (.iconst 0, 1) := lw_dr lw_d_cX12_takes_17 8 rfl
theorem dX12_takes_9 : decode cX12_takes 9 = .ok (.ireturn, 1) := lw_dr lw_d_cX12_takes_17 9 rfl
theorem lw_d_cX12_asks_12 : lw_dl cX12_asks [(12, .ifCond .ne 12, 3), (15, .aload_n 0, 1), (16, .iconst 1, 1), (17, .aload_n 0, 1), (18, .getfield 157, 3), (21, .invokevirtual 181, 3)] = true := by decide +kernel
theorem dX12_asks_12 : decode cX12_asks 12 = .ok (.ifCond .ne 12, 3) := lw_dr lw_d_cX12_asks_12 0 rfl
theorem dX12_asks_15 : decode cX12_asks 15 = .ok (.aload_n 0, 1) := lw_dr lw_d_cX12_asks_12 1 rfl
theorem dX12_asks_16 : decode cX12_asks 16 = .ok (.iconst 1, 1) := lw_dr lw_d_cX12_asks_12 2 rfl
theorem dX12_asks_17 : decode cX12_asks 17 = .ok (.aload_n 0, 1) := lw_dr lw_d_cX12_asks_12 3 rfl
theorem dX12_asks_18 : decode cX12_asks 18 = .ok (.getfield 157, 3) := lw_dr lw_d_cX12_asks_12 4 rfl
theorem dX12_asks_21 : decode cX12_asks 21 = .ok (.invokevirtual 181, 3) := lw_dr lw_d_cX12_asks_12 5 rfl
theorem lw_d_cX12_fail_0 : lw_dl cX12_fail [(0, .aload_n 0, 1), (1, .getfield 151, 3), (4, .ifCond .eq 4, 3), (8, .aload_n 0, 1), (9, .iload_n 1, 1), (10, .putfield 151, 3), (13, .aload_n 0, 1), (14, .iload_n 2, 1), (15, .putfield 154, 3), (18, .return_, 1), (7, .return_, 1)] = true := by decide +kernel
theorem dX12_fail_0 : decode cX12_fail 0 = .ok (.aload_n 0, 1) := lw_dr lw_d_cX12_fail_0 0 rfl
theorem dX12_fail_1 : decode cX12_fail 1 = .ok (.getfield 151, 3) := lw_dr lw_d_cX12_fail_0 1 rfl
theorem dX12_fail_4 : decode cX12_fail 4 = .ok (.ifCond .eq 4, 3) := lw_dr lw_d_cX12_fail_0 2 rfl
theorem dX12_fail_8 : decode cX12_fail 8 = .ok (.aload_n 0, 1) := lw_dr lw_d_cX12_fail_0 3 rfl
theorem dX12_fail_9 : decode cX12_fail 9 = .ok (.iload_n 1, 1) := lw_dr lw_d_cX12_fail_0 4 rfl
theorem dX12_fail_10 : decode cX12_fail 10 = .ok (.putfield 151, 3) := lw_dr lw_d_cX12_fail_0 5 rfl
theorem dX12_fail_13 : decode cX12_fail 13 = .ok (.aload_n 0, 1) := lw_dr lw_d_cX12_fail_0 6 rfl
theorem dX12_fail_14 : decode cX12_fail 14 = .ok (.iload_n 2, 1) := lw_dr lw_d_cX12_fail_0 7 rfl
theorem dX12_fail_15 : decode cX12_fail 15 = .ok (.putfield 154, 3) := lw_dr lw_d_cX12_fail_0 8 rfl
theorem dX12_fail_18 : decode cX12_fail 18 = .ok (.return_, 1) := lw_dr lw_d_cX12_fail_0 9 rfl
theorem dX12_fail_7 : decode cX12_fail 7 = .ok (.return_, 1) := lw_dr lw_d_cX12_fail_0 10 rfl
theorem lw_d_cX12_house_53 : lw_dl cX12_house [(53, .aload_n 0, 1), (54, .getfield 66, 3), (57, .iconst 0, 1), (58, .aload_n 0, 1), (59, .iconst 2, 1), (60, .bipush 8, 2), (62, .invokevirtual 195, 3), (65, .iastore, 1), (66, .aload_n 0, 1), (67, .getfield 66, 3), (70, .iconst 1, 1), (71, .aload_n 0, 1), (72, .iconst 1, 1), (73, .iconst 5, 1), (74, .invokevirtual 195, 3), (77, .iastore, 1), (78, .aload_n 0, 1), (79, .getfield 66, 3), (82, .iconst 2, 1), (83, .aload_n 0, 1), (84, .iconst 1, 1), (85, .bipush 6, 2), (87, .invokevirtual 195, 3), (90, .iastore, 1), (91, .aload_n 0, 1), (92, .getfield 66, 3), (95, .iconst 3, 1), (96, .iconst 0, 1), (97, .iastore, 1), (98, .aload_n 0, 1), (99, .getfield 66, 3), (102, .iconst 4, 1), (103, .iconst 0, 1), (104, .iastore, 1), (105, .aload_n 0, 1), (106, .getfield 66, 3), (109, .iconst 5, 1), (110, .sipush 9999, 3), (113, .iastore, 1), (114, .iconst 0, 1)] = true := by decide +kernel
theorem dX12_house_53 : decode cX12_house 53 = .ok (.aload_n 0, 1) := lw_dr lw_d_cX12_house_53 0 rfl
theorem dX12_house_54 : decode cX12_house 54 = .ok (.getfield 66, 3) := lw_dr lw_d_cX12_house_53 1 rfl
theorem dX12_house_57 : decode cX12_house 57 = .ok (.iconst 0, 1) := lw_dr lw_d_cX12_house_53 2 rfl
theorem dX12_house_58 : decode cX12_house 58 = .ok (.aload_n 0, 1) := lw_dr lw_d_cX12_house_53 3 rfl
theorem dX12_house_59 : decode cX12_house 59 = .ok (.iconst 2, 1) := lw_dr lw_d_cX12_house_53 4 rfl
theorem dX12_house_60 : decode cX12_house 60 = .ok (.bipush 8, 2) := lw_dr lw_d_cX12_house_53 5 rfl
theorem dX12_house_62 : decode cX12_house 62 = .ok (.invokevirtual 195, 3) := lw_dr lw_d_cX12_house_53 6 rfl
theorem dX12_house_65 : decode cX12_house 65 = .ok (.iastore, 1) := lw_dr lw_d_cX12_house_53 7 rfl
theorem dX12_house_66 : decode cX12_house 66 = .ok (.aload_n 0, 1) := lw_dr lw_d_cX12_house_53 8 rfl
theorem dX12_house_67 : decode cX12_house 67 = .ok (.getfield 66, 3) := lw_dr lw_d_cX12_house_53 9 rfl
theorem dX12_house_70 : decode cX12_house 70 = .ok (.iconst 1, 1) := lw_dr lw_d_cX12_house_53 10 rfl
theorem dX12_house_71 : decode cX12_house 71 = .ok (.aload_n 0, 1) := lw_dr lw_d_cX12_house_53 11 rfl
theorem dX12_house_72 : decode cX12_house 72 = .ok (.iconst 1, 1) := lw_dr lw_d_cX12_house_53 12 rfl
theorem dX12_house_73 : decode cX12_house 73 = .ok (.iconst 5, 1) := lw_dr lw_d_cX12_house_53 13 rfl
theorem dX12_house_74 : decode cX12_house 74 = .ok (.invokevirtual 195, 3) := lw_dr lw_d_cX12_house_53 14 rfl
theorem dX12_house_77 : decode cX12_house 77 = .ok (.iastore, 1) := lw_dr lw_d_cX12_house_53 15 rfl
theorem dX12_house_78 : decode cX12_house 78 = .ok (.aload_n 0, 1) := lw_dr lw_d_cX12_house_53 16 rfl
theorem dX12_house_79 : decode cX12_house 79 = .ok (.getfield 66, 3) := lw_dr lw_d_cX12_house_53 17 rfl
theorem dX12_house_82 : decode cX12_house 82 = .ok (.iconst 2, 1) := lw_dr lw_d_cX12_house_53 18 rfl
theorem dX12_house_83 : decode cX12_house 83 = .ok (.aload_n 0, 1) := lw_dr lw_d_cX12_house_53 19 rfl
theorem dX12_house_84 : decode cX12_house 84 = .ok (.iconst 1, 1) := lw_dr lw_d_cX12_house_53 20 rfl
theorem dX12_house_85 : decode cX12_house 85 = .ok (.bipush 6, 2) := lw_dr lw_d_cX12_house_53 21 rfl
theorem dX12_house_87 : decode cX12_house 87 = .ok (.invokevirtual 195, 3) := lw_dr lw_d_cX12_house_53 22 rfl
theorem dX12_house_90 : decode cX12_house 90 = .ok (.iastore, 1) := lw_dr lw_d_cX12_house_53 23 rfl
theorem dX12_house_91 : decode cX12_house 91 = .ok (.aload_n 0, 1) := lw_dr lw_d_cX12_house_53 24 rfl
theorem dX12_house_92 : decode cX12_house 92 = .ok (.getfield 66, 3) := lw_dr lw_d_cX12_house_53 25 rfl
theorem dX12_house_95 : decode cX12_house 95 = .ok (.iconst 3, 1) := lw_dr lw_d_cX12_house_53 26 rfl
theorem dX12_house_96 : decode cX12_house 96 = .ok (.iconst 0, 1) := lw_dr lw_d_cX12_house_53 27 rfl
theorem dX12_house_97 : decode cX12_house 97 = .ok (.iastore, 1) := lw_dr lw_d_cX12_house_53 28 rfl
theorem dX12_house_98 : decode cX12_house 98 = .ok (.aload_n 0, 1) := lw_dr lw_d_cX12_house_53 29 rfl
theorem dX12_house_99 : decode cX12_house 99 = .ok (.getfield 66, 3) := lw_dr lw_d_cX12_house_53 30 rfl
theorem dX12_house_102 : decode cX12_house 102 = .ok (.iconst 4, 1) := lw_dr lw_d_cX12_house_53 31 rfl
theorem dX12_house_103 : decode cX12_house 103 = .ok (.iconst 0, 1) := lw_dr lw_d_cX12_house_53 32 rfl
theorem dX12_house_104 : decode cX12_house 104 = .ok (.iastore, 1) := lw_dr lw_d_cX12_house_53 33 rfl
theorem dX12_house_105 : decode cX12_house 105 = .ok (.aload_n 0, 1) := lw_dr lw_d_cX12_house_53 34 rfl
theorem dX12_house_106 : decode cX12_house 106 = .ok (.getfield 66, 3) := lw_dr lw_d_cX12_house_53 35 rfl
theorem dX12_house_109 : decode cX12_house 109 = .ok (.iconst 5, 1) := lw_dr lw_d_cX12_house_53 36 rfl
theorem dX12_house_110 : decode cX12_house 110 = .ok (.sipush 9999, 3) := lw_dr lw_d_cX12_house_53 37 rfl
theorem dX12_house_113 : decode cX12_house 113 = .ok (.iastore, 1) := lw_dr lw_d_cX12_house_53 38 rfl
theorem dX12_house_114 : decode cX12_house 114 = .ok (.iconst 0, 1) := lw_dr lw_d_cX12_house_53 39 rfl
theorem lw_d_cX12_house_115 : lw_dl cX12_house [(115, .istore_n 1, 1), (116, .iload_n 1, 1), (117, .bipush 30, 2), (119, .if_icmp .ge 19, 3), (122, .aload_n 0, 1), (123, .getfield 69, 3), (126, .bipush 30, 2), (128, .iload_n 1, 1), (129, .iadd, 1), (130, .iconst 0, 1), (131, .iastore, 1), (132, .iinc 1 1, 3), (135, .goto (-19), 3), (138, .aload_n 0, 1), (139, .bipush 59, 2), (141, .invokevirtual 219, 3), (144, .aload_n 0, 1), (145, .iconst 1, 1), (146, .putfield 202, 3), (149, .aload_n 0, 1), (150, .getfield 151, 3), (153, .ifCond .ne 18, 3), (171, .aload_n 0, 1), (172, .aload_n 0, 1), (173, .getfield 151, 3), (176, .putfield 228, 3), (179, .aload_n 0, 1), (180, .aload_n 0, 1), (181, .getfield 154, 3), (184, .putfield 13, 3), (187, .aload_n 0, 1), (188, .getfield 151, 3), (191, .ifCond .eq 5, 3), (196, .aload_n 0, 1), (197, .invokevirtual 231, 3)] = true := by decide +kernel
theorem dX12_house_115 : decode cX12_house 115 = .ok (.istore_n 1, 1) := lw_dr lw_d_cX12_house_115 0 rfl
theorem dX12_house_116 : decode cX12_house 116 = .ok (.iload_n 1, 1) := lw_dr lw_d_cX12_house_115 1 rfl
theorem dX12_house_117 : decode cX12_house 117 = .ok (.bipush 30, 2) := lw_dr lw_d_cX12_house_115 2 rfl
theorem dX12_house_119 : decode cX12_house 119 = .ok (.if_icmp .ge 19, 3) := lw_dr lw_d_cX12_house_115 3 rfl
theorem dX12_house_122 : decode cX12_house 122 = .ok (.aload_n 0, 1) := lw_dr lw_d_cX12_house_115 4 rfl
theorem dX12_house_123 : decode cX12_house 123 = .ok (.getfield 69, 3) := lw_dr lw_d_cX12_house_115 5 rfl
theorem dX12_house_126 : decode cX12_house 126 = .ok (.bipush 30, 2) := lw_dr lw_d_cX12_house_115 6 rfl
theorem dX12_house_128 : decode cX12_house 128 = .ok (.iload_n 1, 1) := lw_dr lw_d_cX12_house_115 7 rfl
theorem dX12_house_129 : decode cX12_house 129 = .ok (.iadd, 1) := lw_dr lw_d_cX12_house_115 8 rfl
theorem dX12_house_130 : decode cX12_house 130 = .ok (.iconst 0, 1) := lw_dr lw_d_cX12_house_115 9 rfl
theorem dX12_house_131 : decode cX12_house 131 = .ok (.iastore, 1) := lw_dr lw_d_cX12_house_115 10 rfl
theorem dX12_house_132 : decode cX12_house 132 = .ok (.iinc 1 1, 3) := lw_dr lw_d_cX12_house_115 11 rfl
theorem dX12_house_135 : decode cX12_house 135 = .ok (.goto (-19), 3) := lw_dr lw_d_cX12_house_115 12 rfl
theorem dX12_house_138 : decode cX12_house 138 = .ok (.aload_n 0, 1) := lw_dr lw_d_cX12_house_115 13 rfl
theorem dX12_house_139 : decode cX12_house 139 = .ok (.bipush 59, 2) := lw_dr lw_d_cX12_house_115 14 rfl
theorem dX12_house_141 : decode cX12_house 141 = .ok (.invokevirtual 219, 3) := lw_dr lw_d_cX12_house_115 15 rfl
theorem dX12_house_144 : decode cX12_house 144 = .ok (.aload_n 0, 1) := lw_dr lw_d_cX12_house_115 16 rfl
theorem dX12_house_145 : decode cX12_house 145 = .ok (.iconst 1, 1) := lw_dr lw_d_cX12_house_115 17 rfl
theorem dX12_house_146 : decode cX12_house 146 = .ok (.putfield 202, 3) := lw_dr lw_d_cX12_house_115 18 rfl
theorem dX12_house_149 : decode cX12_house 149 = .ok (.aload_n 0, 1) := lw_dr lw_d_cX12_house_115 19 rfl
theorem dX12_house_150 : decode cX12_house 150 = .ok (.getfield 151, 3) := lw_dr lw_d_cX12_house_115 20 rfl
theorem dX12_house_153 : decode cX12_house 153 = .ok (.ifCond .ne 18, 3) := lw_dr lw_d_cX12_house_115 21 rfl
theorem dX12_house_171 : decode cX12_house 171 = .ok (.aload_n 0, 1) := lw_dr lw_d_cX12_house_115 22 rfl
theorem dX12_house_172 : decode cX12_house 172 = .ok (.aload_n 0, 1) := lw_dr lw_d_cX12_house_115 23 rfl
theorem dX12_house_173 : decode cX12_house 173 = .ok (.getfield 151, 3) := lw_dr lw_d_cX12_house_115 24 rfl
theorem dX12_house_176 : decode cX12_house 176 = .ok (.putfield 228, 3) := lw_dr lw_d_cX12_house_115 25 rfl
theorem dX12_house_179 : decode cX12_house 179 = .ok (.aload_n 0, 1) := lw_dr lw_d_cX12_house_115 26 rfl
theorem dX12_house_180 : decode cX12_house 180 = .ok (.aload_n 0, 1) := lw_dr lw_d_cX12_house_115 27 rfl
theorem dX12_house_181 : decode cX12_house 181 = .ok (.getfield 154, 3) := lw_dr lw_d_cX12_house_115 28 rfl
theorem dX12_house_184 : decode cX12_house 184 = .ok (.putfield 13, 3) := lw_dr lw_d_cX12_house_115 29 rfl
theorem dX12_house_187 : decode cX12_house 187 = .ok (.aload_n 0, 1) := lw_dr lw_d_cX12_house_115 30 rfl
theorem dX12_house_188 : decode cX12_house 188 = .ok (.getfield 151, 3) := lw_dr lw_d_cX12_house_115 31 rfl
theorem dX12_house_191 : decode cX12_house 191 = .ok (.ifCond .eq 5, 3) := lw_dr lw_d_cX12_house_115 32 rfl
theorem dX12_house_196 : decode cX12_house 196 = .ok (.aload_n 0, 1) := lw_dr lw_d_cX12_house_115 33 rfl
theorem dX12_house_197 : decode cX12_house 197 = .ok (.invokevirtual 231, 3) := lw_dr lw_d_cX12_house_115 34 rfl
theorem lw_d_cX12_number_0 : lw_dl cX12_number [(0, .aload_n 0, 1), (1, .getfield 151, 3), (4, .ifCond .eq 5, 3), (9, .aload_n 0, 1), (10, .invokevirtual 163, 3), (13, .invokestatic 188, 3), (16, .ifCond .eq 14, 3), (30, .aload_n 0, 1), (31, .iconst 1, 1), (32, .aload_n 0, 1), (33, .getfield 157, 3), (36, .invokevirtual 181, 3), (39, .iconst 0, 1), (40, .ireturn, 1), (19, .aload_n 0, 1), (20, .getfield 157, 3), (23, .aload_n 0, 1), (24, .getfield 171, 3), (27, .if_icmp .ne 14, 3), (41, .aload_n 0, 1), (42, .getfield 157, 3), (45, .istore_n 3, 1), (46, .iconst 0, 1), (47, .istore 4, 2), (49, .aload_n 0, 1), (50, .getfield 157, 3), (53, .aload_n 0, 1), (54, .getfield 160, 3), (57, .if_icmp .ge 72, 3), (129, .aload_n 0, 1), (130, .aload_n 0, 1), (131, .getfield 157, 3), (134, .putfield 171, 3), (137, .iload 4, 2), (139, .i2l, 1), (140, .iload_n 1, 1), (141, .i2l, 1), (142, .iload_n 2, 1), (143, .i2l, 1), (144, .invokestatic 191, 3)] = true := by decide +kernel
theorem dX12_number_0 : decode cX12_number 0 = .ok (.aload_n 0, 1) := lw_dr lw_d_cX12_number_0 0 rfl
theorem dX12_number_1 : decode cX12_number 1 = .ok (.getfield 151, 3) := lw_dr lw_d_cX12_number_0 1 rfl
theorem dX12_number_4 : decode cX12_number 4 = .ok (.ifCond .eq 5, 3) := lw_dr lw_d_cX12_number_0 2 rfl
theorem dX12_number_9 : decode cX12_number 9 = .ok (.aload_n 0, 1) := lw_dr lw_d_cX12_number_0 3 rfl
theorem dX12_number_10 : decode cX12_number 10 = .ok (.invokevirtual 163, 3) := lw_dr lw_d_cX12_number_0 4 rfl
theorem dX12_number_13 : decode cX12_number 13 = .ok (.invokestatic 188, 3) := lw_dr lw_d_cX12_number_0 5 rfl
theorem dX12_number_16 : decode cX12_number 16 = .ok (.ifCond .eq 14, 3) := lw_dr lw_d_cX12_number_0 6 rfl
theorem dX12_number_30 : decode cX12_number 30 = .ok (.aload_n 0, 1) := lw_dr lw_d_cX12_number_0 7 rfl
theorem dX12_number_31 : decode cX12_number 31 = .ok (.iconst 1, 1) := lw_dr lw_d_cX12_number_0 8 rfl
theorem dX12_number_32 : decode cX12_number 32 = .ok (.aload_n 0, 1) := lw_dr lw_d_cX12_number_0 9 rfl
theorem dX12_number_33 : decode cX12_number 33 = .ok (.getfield 157, 3) := lw_dr lw_d_cX12_number_0 10 rfl
theorem dX12_number_36 : decode cX12_number 36 = .ok (.invokevirtual 181, 3) := lw_dr lw_d_cX12_number_0 11 rfl
theorem dX12_number_39 : decode cX12_number 39 = .ok (.iconst 0, 1) := lw_dr lw_d_cX12_number_0 12 rfl
theorem dX12_number_40 : decode cX12_number 40 = .ok (.ireturn, 1) := lw_dr lw_d_cX12_number_0 13 rfl
theorem dX12_number_19 : decode cX12_number 19 = .ok (.aload_n 0, 1) := lw_dr lw_d_cX12_number_0 14 rfl
theorem dX12_number_20 : decode cX12_number 20 = .ok (.getfield 157, 3) := lw_dr lw_d_cX12_number_0 15 rfl
theorem dX12_number_23 : decode cX12_number 23 = .ok (.aload_n 0, 1) := lw_dr lw_d_cX12_number_0 16 rfl
theorem dX12_number_24 : decode cX12_number 24 = .ok (.getfield 171, 3) := lw_dr lw_d_cX12_number_0 17 rfl
theorem dX12_number_27 : decode cX12_number 27 = .ok (.if_icmp .ne 14, 3) := lw_dr lw_d_cX12_number_0 18 rfl
theorem dX12_number_41 : decode cX12_number 41 = .ok (.aload_n 0, 1) := lw_dr lw_d_cX12_number_0 19 rfl
theorem dX12_number_42 : decode cX12_number 42 = .ok (.getfield 157, 3) := lw_dr lw_d_cX12_number_0 20 rfl
theorem dX12_number_45 : decode cX12_number 45 = .ok (.istore_n 3, 1) := lw_dr lw_d_cX12_number_0 21 rfl
theorem dX12_number_46 : decode cX12_number 46 = .ok (.iconst 0, 1) := lw_dr lw_d_cX12_number_0 22 rfl
theorem dX12_number_47 : decode cX12_number 47 = .ok (.istore 4, 2) := lw_dr lw_d_cX12_number_0 23 rfl
theorem dX12_number_49 : decode cX12_number 49 = .ok (.aload_n 0, 1) := lw_dr lw_d_cX12_number_0 24 rfl
theorem dX12_number_50 : decode cX12_number 50 = .ok (.getfield 157, 3) := lw_dr lw_d_cX12_number_0 25 rfl
theorem dX12_number_53 : decode cX12_number 53 = .ok (.aload_n 0, 1) := lw_dr lw_d_cX12_number_0 26 rfl
theorem dX12_number_54 : decode cX12_number 54 = .ok (.getfield 160, 3) := lw_dr lw_d_cX12_number_0 27 rfl
theorem dX12_number_57 : decode cX12_number 57 = .ok (.if_icmp .ge 72, 3) := lw_dr lw_d_cX12_number_0 28 rfl
theorem dX12_number_129 : decode cX12_number 129 = .ok (.aload_n 0, 1) := lw_dr lw_d_cX12_number_0 29 rfl
theorem dX12_number_130 : decode cX12_number 130 = .ok (.aload_n 0, 1) := lw_dr lw_d_cX12_number_0 30 rfl
theorem dX12_number_131 : decode cX12_number 131 = .ok (.getfield 157, 3) := lw_dr lw_d_cX12_number_0 31 rfl
theorem dX12_number_134 : decode cX12_number 134 = .ok (.putfield 171, 3) := lw_dr lw_d_cX12_number_0 32 rfl
theorem dX12_number_137 : decode cX12_number 137 = .ok (.iload 4, 2) := lw_dr lw_d_cX12_number_0 33 rfl
theorem dX12_number_139 : decode cX12_number 139 = .ok (.i2l, 1) := lw_dr lw_d_cX12_number_0 34 rfl
theorem dX12_number_140 : decode cX12_number 140 = .ok (.iload_n 1, 1) := lw_dr lw_d_cX12_number_0 35 rfl
theorem dX12_number_141 : decode cX12_number 141 = .ok (.i2l, 1) := lw_dr lw_d_cX12_number_0 36 rfl
theorem dX12_number_142 : decode cX12_number 142 = .ok (.iload_n 2, 1) := lw_dr lw_d_cX12_number_0 37 rfl
theorem dX12_number_143 : decode cX12_number 143 = .ok (.i2l, 1) := lw_dr lw_d_cX12_number_0 38 rfl
theorem dX12_number_144 : decode cX12_number 144 = .ok (.invokestatic 191, 3) := lw_dr lw_d_cX12_number_0 39 rfl
theorem lw_d_cX12_number_147 : lw_dl cX12_number [(147, .ifCond .ne 9, 3), (156, .iload 4, 2), (158, .ireturn, 1), (150, .aload_n 0, 1), (151, .iconst 2, 1), (152, .iload_n 3, 1), (153, .invokevirtual 181, 3), (60, .aload_n 0, 1), (61, .getfield 7, 3), (64, .aload_n 0, 1), (65, .getfield 157, 3), (68, .iaload, 1), (69, .invokestatic 188, 3), (72, .ifCond .eq 57, 3), (75, .aload_n 0, 1), (76, .getfield 157, 3), (79, .iload_n 3, 1), (80, .isub, 1), (81, .iconst 4, 1), (82, .if_icmp .ne 14, 3), (96, .bipush 10, 2), (98, .iload 4, 2), (100, .imul, 1), (101, .aload_n 0, 1), (102, .getfield 7, 3), (105, .aload_n 0, 1), (106, .getfield 157, 3), (109, .iaload, 1), (110, .iadd, 1), (111, .bipush 48, 2), (113, .isub, 1), (114, .istore 4, 2), (116, .aload_n 0, 1), (117, .dup, 1), (118, .getfield 157, 3), (121, .iconst 1, 1), (122, .iadd, 1), (123, .putfield 157, 3), (126, .goto (-77), 3), (85, .aload_n 0, 1)] = true := by decide +kernel
theorem dX12_number_147 : decode cX12_number 147 = .ok (.ifCond .ne 9, 3) := lw_dr lw_d_cX12_number_147 0 rfl
theorem dX12_number_156 : decode cX12_number 156 = .ok (.iload 4, 2) := lw_dr lw_d_cX12_number_147 1 rfl
theorem dX12_number_158 : decode cX12_number 158 = .ok (.ireturn, 1) := lw_dr lw_d_cX12_number_147 2 rfl
theorem dX12_number_150 : decode cX12_number 150 = .ok (.aload_n 0, 1) := lw_dr lw_d_cX12_number_147 3 rfl
theorem dX12_number_151 : decode cX12_number 151 = .ok (.iconst 2, 1) := lw_dr lw_d_cX12_number_147 4 rfl
theorem dX12_number_152 : decode cX12_number 152 = .ok (.iload_n 3, 1) := lw_dr lw_d_cX12_number_147 5 rfl
theorem dX12_number_153 : decode cX12_number 153 = .ok (.invokevirtual 181, 3) := lw_dr lw_d_cX12_number_147 6 rfl
theorem dX12_number_60 : decode cX12_number 60 = .ok (.aload_n 0, 1) := lw_dr lw_d_cX12_number_147 7 rfl
theorem dX12_number_61 : decode cX12_number 61 = .ok (.getfield 7, 3) := lw_dr lw_d_cX12_number_147 8 rfl
theorem dX12_number_64 : decode cX12_number 64 = .ok (.aload_n 0, 1) := lw_dr lw_d_cX12_number_147 9 rfl
theorem dX12_number_65 : decode cX12_number 65 = .ok (.getfield 157, 3) := lw_dr lw_d_cX12_number_147 10 rfl
theorem dX12_number_68 : decode cX12_number 68 = .ok (.iaload, 1) := lw_dr lw_d_cX12_number_147 11 rfl
theorem dX12_number_69 : decode cX12_number 69 = .ok (.invokestatic 188, 3) := lw_dr lw_d_cX12_number_147 12 rfl
theorem dX12_number_72 : decode cX12_number 72 = .ok (.ifCond .eq 57, 3) := lw_dr lw_d_cX12_number_147 13 rfl
theorem dX12_number_75 : decode cX12_number 75 = .ok (.aload_n 0, 1) := lw_dr lw_d_cX12_number_147 14 rfl
theorem dX12_number_76 : decode cX12_number 76 = .ok (.getfield 157, 3) := lw_dr lw_d_cX12_number_147 15 rfl
theorem dX12_number_79 : decode cX12_number 79 = .ok (.iload_n 3, 1) := lw_dr lw_d_cX12_number_147 16 rfl
theorem dX12_number_80 : decode cX12_number 80 = .ok (.isub, 1) := lw_dr lw_d_cX12_number_147 17 rfl
theorem dX12_number_81 : decode cX12_number 81 = .ok (.iconst 4, 1) := lw_dr lw_d_cX12_number_147 18 rfl
theorem dX12_number_82 : decode cX12_number 82 = .ok (.if_icmp .ne 14, 3) := lw_dr lw_d_cX12_number_147 19 rfl
theorem dX12_number_96 : decode cX12_number 96 = .ok (.bipush 10, 2) := lw_dr lw_d_cX12_number_147 20 rfl
theorem dX12_number_98 : decode cX12_number 98 = .ok (.iload 4, 2) := lw_dr lw_d_cX12_number_147 21 rfl
theorem dX12_number_100 : decode cX12_number 100 = .ok (.imul, 1) := lw_dr lw_d_cX12_number_147 22 rfl
theorem dX12_number_101 : decode cX12_number 101 = .ok (.aload_n 0, 1) := lw_dr lw_d_cX12_number_147 23 rfl
theorem dX12_number_102 : decode cX12_number 102 = .ok (.getfield 7, 3) := lw_dr lw_d_cX12_number_147 24 rfl
theorem dX12_number_105 : decode cX12_number 105 = .ok (.aload_n 0, 1) := lw_dr lw_d_cX12_number_147 25 rfl
theorem dX12_number_106 : decode cX12_number 106 = .ok (.getfield 157, 3) := lw_dr lw_d_cX12_number_147 26 rfl
theorem dX12_number_109 : decode cX12_number 109 = .ok (.iaload, 1) := lw_dr lw_d_cX12_number_147 27 rfl
theorem dX12_number_110 : decode cX12_number 110 = .ok (.iadd, 1) := lw_dr lw_d_cX12_number_147 28 rfl
theorem dX12_number_111 : decode cX12_number 111 = .ok (.bipush 48, 2) := lw_dr lw_d_cX12_number_147 29 rfl
theorem dX12_number_113 : decode cX12_number 113 = .ok (.isub, 1) := lw_dr lw_d_cX12_number_147 30 rfl
theorem dX12_number_114 : decode cX12_number 114 = .ok (.istore 4, 2) := lw_dr lw_d_cX12_number_147 31 rfl
theorem dX12_number_116 : decode cX12_number 116 = .ok (.aload_n 0, 1) := lw_dr lw_d_cX12_number_147 32 rfl
theorem dX12_number_117 : decode cX12_number 117 = .ok (.dup, 1) := lw_dr lw_d_cX12_number_147 33 rfl
theorem dX12_number_118 : decode cX12_number 118 = .ok (.getfield 157, 3) := lw_dr lw_d_cX12_number_147 34 rfl
theorem dX12_number_121 : decode cX12_number 121 = .ok (.iconst 1, 1) := lw_dr lw_d_cX12_number_147 35 rfl
theorem dX12_number_122 : decode cX12_number 122 = .ok (.iadd, 1) := lw_dr lw_d_cX12_number_147 36 rfl
theorem dX12_number_123 : decode cX12_number 123 = .ok (.putfield 157, 3) := lw_dr lw_d_cX12_number_147 37 rfl
theorem dX12_number_126 : decode cX12_number 126 = .ok (.goto (-77), 3) := lw_dr lw_d_cX12_number_147 38 rfl
theorem dX12_number_85 : decode cX12_number 85 = .ok (.aload_n 0, 1) := lw_dr lw_d_cX12_number_147 39 rfl
theorem lw_d_cX12_number_86 : lw_dl cX12_number [(86, .iconst 1, 1), (87, .aload_n 0, 1), (88, .getfield 157, 3), (91, .invokevirtual 181, 3), (94, .iconst 0, 1), (95, .ireturn, 1), (7, .iconst 0, 1), (8, .ireturn, 1)] = true := by decide +kernel
theorem dX12_number_86 : decode cX12_number 86 = .ok (.iconst 1, 1) := lw_dr lw_d_cX12_number_86 0 rfl
theorem dX12_number_87 : decode cX12_number 87 = .ok (.aload_n 0, 1) := lw_dr lw_d_cX12_number_86 1 rfl
theorem dX12_number_88 : decode cX12_number 88 = .ok (.getfield 157, 3) := lw_dr lw_d_cX12_number_86 2 rfl
theorem dX12_number_91 : decode cX12_number 91 = .ok (.invokevirtual 181, 3) := lw_dr lw_d_cX12_number_86 3 rfl
theorem dX12_number_94 : decode cX12_number 94 = .ok (.iconst 0, 1) := lw_dr lw_d_cX12_number_86 4 rfl
theorem dX12_number_95 : decode cX12_number 95 = .ok (.ireturn, 1) := lw_dr lw_d_cX12_number_86 5 rfl
theorem dX12_number_7 : decode cX12_number 7 = .ok (.iconst 0, 1) := lw_dr lw_d_cX12_number_86 6 rfl
theorem dX12_number_8 : decode cX12_number 8 = .ok (.ireturn, 1) := lw_dr lw_d_cX12_number_86 7 rfl
theorem lw_d_cX12_isDigit_0 : lw_dl cX12_isDigit [(0, .iload_n 0, 1), (1, .bipush 48, 2), (3, .if_icmp .lt 13, 3), (16, .iconst 0, 1), (17, .ireturn, 1), (6, .iload_n 0, 1), (7, .bipush 57, 2), (9, .if_icmp .gt 7, 3), (12, .iconst 1, 1), (13, .goto 4, 3)] = true := by decide +kernel
theorem dX12_isDigit_0 : decode cX12_isDigit 0 = .ok (.iload_n 0, 1) := lw_dr lw_d_cX12_isDigit_0 0 rfl
theorem dX12_isDigit_1 : decode cX12_isDigit 1 = .ok (.bipush 48, 2) := lw_dr lw_d_cX12_isDigit_0 1 rfl
theorem dX12_isDigit_3 : decode cX12_isDigit 3 = .ok (.if_icmp .lt 13, 3) := lw_dr lw_d_cX12_isDigit_0 2 rfl
theorem dX12_isDigit_16 : decode cX12_isDigit 16 = .ok (.iconst 0, 1) := lw_dr lw_d_cX12_isDigit_0 3 rfl
theorem dX12_isDigit_17 : decode cX12_isDigit 17 = .ok (.ireturn, 1) := lw_dr lw_d_cX12_isDigit_0 4 rfl
theorem dX12_isDigit_6 : decode cX12_isDigit 6 = .ok (.iload_n 0, 1) := lw_dr lw_d_cX12_isDigit_0 5 rfl
theorem dX12_isDigit_7 : decode cX12_isDigit 7 = .ok (.bipush 57, 2) := lw_dr lw_d_cX12_isDigit_0 6 rfl
theorem dX12_isDigit_9 : decode cX12_isDigit 9 = .ok (.if_icmp .gt 7, 3) := lw_dr lw_d_cX12_isDigit_0 7 rfl
theorem dX12_isDigit_12 : decode cX12_isDigit 12 = .ok (.iconst 1, 1) := lw_dr lw_d_cX12_isDigit_0 8 rfl
theorem dX12_isDigit_13 : decode cX12_isDigit 13 = .ok (.goto 4, 3) := lw_dr lw_d_cX12_isDigit_0 9 rfl
theorem lw_d_cX12_isIn_0 : lw_dl cX12_isIn [(0, .lload_n 0, 1), (1, .lload_n 2, 1), (2, .lcmp, 1), (3, .ifCond .lt 14, 3), (17, .iconst 0, 1), (18, .ireturn, 1), (6, .lload_n 0, 1), (7, .lload 4, 2), (9, .lcmp, 1), (10, .ifCond .gt 7, 3), (13, .iconst 1, 1), (14, .goto 4, 3)] = true := by decide +kernel
theorem dX12_isIn_0 : decode cX12_isIn 0 = .ok (.lload_n 0, 1) := lw_dr lw_d_cX12_isIn_0 0 rfl
theorem dX12_isIn_1 : decode cX12_isIn 1 = .ok (.lload_n 2, 1) := lw_dr lw_d_cX12_isIn_0 1 rfl
theorem dX12_isIn_2 : decode cX12_isIn 2 = .ok (.lcmp, 1) := lw_dr lw_d_cX12_isIn_0 2 rfl
theorem dX12_isIn_3 : decode cX12_isIn 3 = .ok (.ifCond .lt 14, 3) := lw_dr lw_d_cX12_isIn_0 3 rfl
theorem dX12_isIn_17 : decode cX12_isIn 17 = .ok (.iconst 0, 1) := lw_dr lw_d_cX12_isIn_0 4 rfl
theorem dX12_isIn_18 : decode cX12_isIn 18 = .ok (.ireturn, 1) := lw_dr lw_d_cX12_isIn_0 5 rfl
theorem dX12_isIn_6 : decode cX12_isIn 6 = .ok (.lload_n 0, 1) := lw_dr lw_d_cX12_isIn_0 6 rfl
theorem dX12_isIn_7 : decode cX12_isIn 7 = .ok (.lload 4, 2) := lw_dr lw_d_cX12_isIn_0 7 rfl
theorem dX12_isIn_9 : decode cX12_isIn 9 = .ok (.lcmp, 1) := lw_dr lw_d_cX12_isIn_0 8 rfl
theorem dX12_isIn_10 : decode cX12_isIn 10 = .ok (.ifCond .gt 7, 3) := lw_dr lw_d_cX12_isIn_0 9 rfl
theorem dX12_isIn_13 : decode cX12_isIn 13 = .ok (.iconst 1, 1) := lw_dr lw_d_cX12_isIn_0 10 rfl
theorem dX12_isIn_14 : decode cX12_isIn 14 = .ok (.goto 4, 3) := lw_dr lw_d_cX12_isIn_0 11 rfl
theorem lw_d_cX12_asksSign_0 : lw_dl cX12_asksSign [(0, .aload_n 0, 1), (1, .getfield 151, 3), (4, .ifCond .ne 20, 3), (24, .return_, 1), (7, .aload_n 0, 1), (8, .iload_n 1, 1), (9, .invokevirtual 185, 3), (12, .ifCond .ne 12, 3), (15, .aload_n 0, 1), (16, .iconst 1, 1), (17, .aload_n 0, 1), (18, .getfield 157, 3), (21, .invokevirtual 181, 3)] = true := by decide +kernel
theorem dX12_asksSign_0 : decode cX12_asksSign 0 = .ok (.aload_n 0, 1) := lw_dr lw_d_cX12_asksSign_0 0 rfl
theorem dX12_asksSign_1 : decode cX12_asksSign 1 = .ok (.getfield 151, 3) := lw_dr lw_d_cX12_asksSign_0 1 rfl
theorem dX12_asksSign_4 : decode cX12_asksSign 4 = .ok (.ifCond .ne 20, 3) := lw_dr lw_d_cX12_asksSign_0 2 rfl
theorem dX12_asksSign_24 : decode cX12_asksSign 24 = .ok (.return_, 1) := lw_dr lw_d_cX12_asksSign_0 3 rfl
theorem dX12_asksSign_7 : decode cX12_asksSign 7 = .ok (.aload_n 0, 1) := lw_dr lw_d_cX12_asksSign_0 4 rfl
theorem dX12_asksSign_8 : decode cX12_asksSign 8 = .ok (.iload_n 1, 1) := lw_dr lw_d_cX12_asksSign_0 5 rfl
theorem dX12_asksSign_9 : decode cX12_asksSign 9 = .ok (.invokevirtual 185, 3) := lw_dr lw_d_cX12_asksSign_0 6 rfl
theorem dX12_asksSign_12 : decode cX12_asksSign 12 = .ok (.ifCond .ne 12, 3) := lw_dr lw_d_cX12_asksSign_0 7 rfl
theorem dX12_asksSign_15 : decode cX12_asksSign 15 = .ok (.aload_n 0, 1) := lw_dr lw_d_cX12_asksSign_0 8 rfl
theorem dX12_asksSign_16 : decode cX12_asksSign 16 = .ok (.iconst 1, 1) := lw_dr lw_d_cX12_asksSign_0 9 rfl
theorem dX12_asksSign_17 : decode cX12_asksSign 17 = .ok (.aload_n 0, 1) := lw_dr lw_d_cX12_asksSign_0 10 rfl
theorem dX12_asksSign_18 : decode cX12_asksSign 18 = .ok (.getfield 157, 3) := lw_dr lw_d_cX12_asksSign_0 11 rfl
theorem dX12_asksSign_21 : decode cX12_asksSign 21 = .ok (.invokevirtual 181, 3) := lw_dr lw_d_cX12_asksSign_0 12 rfl
theorem lw_d_cX12_takesSign_0 : lw_dl cX12_takesSign [(0, .aload_n 0, 1), (1, .getfield 151, 3), (4, .ifCond .ne 11, 3), (15, .iconst 0, 1), (16, .ireturn, 1), (7, .aload_n 0, 1), (8, .invokevirtual 163, 3), (11, .iload_n 1, 1), (12, .if_icmp .eq 5, 3), (17, .aload_n 0, 1), (18, .dup, 1), (19, .getfield 157, 3), (22, .iconst 1, 1), (23, .iadd, 1), (24, .putfield 157, 3), (27, .iconst 1, 1), (28, .ireturn, 1)] = true := by decide +kernel
theorem dX12_takesSign_0 : decode cX12_takesSign 0 = .ok (.aload_n 0, 1) := lw_dr lw_d_cX12_takesSign_0 0 rfl
theorem dX12_takesSign_1 : decode cX12_takesSign 1 = .ok (.getfield 151, 3) := lw_dr lw_d_cX12_takesSign_0 1 rfl
theorem dX12_takesSign_4 : decode cX12_takesSign 4 = .ok (.ifCond .ne 11, 3) := lw_dr lw_d_cX12_takesSign_0 2 rfl
theorem dX12_takesSign_15 : decode cX12_takesSign 15 = .ok (.iconst 0, 1) := lw_dr lw_d_cX12_takesSign_0 3 rfl
theorem dX12_takesSign_16 : decode cX12_takesSign 16 = .ok (.ireturn, 1) := lw_dr lw_d_cX12_takesSign_0 4 rfl
theorem dX12_takesSign_7 : decode cX12_takesSign 7 = .ok (.aload_n 0, 1) := lw_dr lw_d_cX12_takesSign_0 5 rfl
theorem dX12_takesSign_8 : decode cX12_takesSign 8 = .ok (.invokevirtual 163, 3) := lw_dr lw_d_cX12_takesSign_0 6 rfl
theorem dX12_takesSign_11 : decode cX12_takesSign 11 = .ok (.iload_n 1, 1) := lw_dr lw_d_cX12_takesSign_0 7 rfl
theorem dX12_takesSign_12 : decode cX12_takesSign 12 = .ok (.if_icmp .eq 5, 3) := lw_dr lw_d_cX12_takesSign_0 8 rfl
theorem dX12_takesSign_17 : decode cX12_takesSign 17 = .ok (.aload_n 0, 1) := lw_dr lw_d_cX12_takesSign_0 9 rfl
theorem dX12_takesSign_18 : decode cX12_takesSign 18 = .ok (.dup, 1) := lw_dr lw_d_cX12_takesSign_0 10 rfl
theorem dX12_takesSign_19 : decode cX12_takesSign 19 = .ok (.getfield 157, 3) := lw_dr lw_d_cX12_takesSign_0 11 rfl
theorem dX12_takesSign_22 : decode cX12_takesSign 22 = .ok (.iconst 1, 1) := lw_dr lw_d_cX12_takesSign_0 12 rfl
theorem dX12_takesSign_23 : decode cX12_takesSign 23 = .ok (.iadd, 1) := lw_dr lw_d_cX12_takesSign_0 13 rfl
theorem dX12_takesSign_24 : decode cX12_takesSign 24 = .ok (.putfield 157, 3) := lw_dr lw_d_cX12_takesSign_0 14 rfl
theorem dX12_takesSign_27 : decode cX12_takesSign 27 = .ok (.iconst 1, 1) := lw_dr lw_d_cX12_takesSign_0 15 rfl
theorem dX12_takesSign_28 : decode cX12_takesSign 28 = .ok (.ireturn, 1) := lw_dr lw_d_cX12_takesSign_0 16 rfl
theorem lw_d_cX12_stands_0 : lw_dl cX12_stands [(0, .aload_n 0, 1), (1, .aload_n 0, 1), (2, .getfield 66, 3), (5, .iconst 0, 1), (6, .iaload, 1), (7, .putfield 234, 3), (10, .aload_n 0, 1), (11, .aload_n 0, 1), (12, .getfield 66, 3), (15, .iconst 1, 1), (16, .iaload, 1), (17, .putfield 237, 3), (20, .aload_n 0, 1), (21, .aload_n 0, 1), (22, .getfield 66, 3), (25, .iconst 2, 1), (26, .iaload, 1), (27, .putfield 240, 3), (30, .aload_n 0, 1), (31, .aload_n 0, 1), (32, .getfield 66, 3), (35, .iconst 3, 1), (36, .iaload, 1), (37, .putfield 243, 3), (40, .aload_n 0, 1), (41, .aload_n 0, 1), (42, .getfield 66, 3), (45, .iconst 4, 1), (46, .iaload, 1), (47, .putfield 246, 3), (50, .aload_n 0, 1), (51, .aload_n 0, 1), (52, .getfield 66, 3), (55, .iconst 5, 1), (56, .iaload, 1), (57, .putfield 63, 3), (60, .iconst 0, 1), (61, .istore_n 1, 1), (62, .iload_n 1, 1), (63, .bipush 30, 2)] = true := by decide +kernel
theorem dX12_stands_0 : decode cX12_stands 0 = .ok (.aload_n 0, 1) := lw_dr lw_d_cX12_stands_0 0 rfl
theorem dX12_stands_1 : decode cX12_stands 1 = .ok (.aload_n 0, 1) := lw_dr lw_d_cX12_stands_0 1 rfl
theorem dX12_stands_2 : decode cX12_stands 2 = .ok (.getfield 66, 3) := lw_dr lw_d_cX12_stands_0 2 rfl
theorem dX12_stands_5 : decode cX12_stands 5 = .ok (.iconst 0, 1) := lw_dr lw_d_cX12_stands_0 3 rfl
theorem dX12_stands_6 : decode cX12_stands 6 = .ok (.iaload, 1) := lw_dr lw_d_cX12_stands_0 4 rfl
theorem dX12_stands_7 : decode cX12_stands 7 = .ok (.putfield 234, 3) := lw_dr lw_d_cX12_stands_0 5 rfl
theorem dX12_stands_10 : decode cX12_stands 10 = .ok (.aload_n 0, 1) := lw_dr lw_d_cX12_stands_0 6 rfl
theorem dX12_stands_11 : decode cX12_stands 11 = .ok (.aload_n 0, 1) := lw_dr lw_d_cX12_stands_0 7 rfl
theorem dX12_stands_12 : decode cX12_stands 12 = .ok (.getfield 66, 3) := lw_dr lw_d_cX12_stands_0 8 rfl
theorem dX12_stands_15 : decode cX12_stands 15 = .ok (.iconst 1, 1) := lw_dr lw_d_cX12_stands_0 9 rfl
theorem dX12_stands_16 : decode cX12_stands 16 = .ok (.iaload, 1) := lw_dr lw_d_cX12_stands_0 10 rfl
theorem dX12_stands_17 : decode cX12_stands 17 = .ok (.putfield 237, 3) := lw_dr lw_d_cX12_stands_0 11 rfl
theorem dX12_stands_20 : decode cX12_stands 20 = .ok (.aload_n 0, 1) := lw_dr lw_d_cX12_stands_0 12 rfl
theorem dX12_stands_21 : decode cX12_stands 21 = .ok (.aload_n 0, 1) := lw_dr lw_d_cX12_stands_0 13 rfl
theorem dX12_stands_22 : decode cX12_stands 22 = .ok (.getfield 66, 3) := lw_dr lw_d_cX12_stands_0 14 rfl
theorem dX12_stands_25 : decode cX12_stands 25 = .ok (.iconst 2, 1) := lw_dr lw_d_cX12_stands_0 15 rfl
theorem dX12_stands_26 : decode cX12_stands 26 = .ok (.iaload, 1) := lw_dr lw_d_cX12_stands_0 16 rfl
theorem dX12_stands_27 : decode cX12_stands 27 = .ok (.putfield 240, 3) := lw_dr lw_d_cX12_stands_0 17 rfl
theorem dX12_stands_30 : decode cX12_stands 30 = .ok (.aload_n 0, 1) := lw_dr lw_d_cX12_stands_0 18 rfl
theorem dX12_stands_31 : decode cX12_stands 31 = .ok (.aload_n 0, 1) := lw_dr lw_d_cX12_stands_0 19 rfl
theorem dX12_stands_32 : decode cX12_stands 32 = .ok (.getfield 66, 3) := lw_dr lw_d_cX12_stands_0 20 rfl
theorem dX12_stands_35 : decode cX12_stands 35 = .ok (.iconst 3, 1) := lw_dr lw_d_cX12_stands_0 21 rfl
theorem dX12_stands_36 : decode cX12_stands 36 = .ok (.iaload, 1) := lw_dr lw_d_cX12_stands_0 22 rfl
theorem dX12_stands_37 : decode cX12_stands 37 = .ok (.putfield 243, 3) := lw_dr lw_d_cX12_stands_0 23 rfl
theorem dX12_stands_40 : decode cX12_stands 40 = .ok (.aload_n 0, 1) := lw_dr lw_d_cX12_stands_0 24 rfl
theorem dX12_stands_41 : decode cX12_stands 41 = .ok (.aload_n 0, 1) := lw_dr lw_d_cX12_stands_0 25 rfl
theorem dX12_stands_42 : decode cX12_stands 42 = .ok (.getfield 66, 3) := lw_dr lw_d_cX12_stands_0 26 rfl
theorem dX12_stands_45 : decode cX12_stands 45 = .ok (.iconst 4, 1) := lw_dr lw_d_cX12_stands_0 27 rfl
theorem dX12_stands_46 : decode cX12_stands 46 = .ok (.iaload, 1) := lw_dr lw_d_cX12_stands_0 28 rfl
theorem dX12_stands_47 : decode cX12_stands 47 = .ok (.putfield 246, 3) := lw_dr lw_d_cX12_stands_0 29 rfl
theorem dX12_stands_50 : decode cX12_stands 50 = .ok (.aload_n 0, 1) := lw_dr lw_d_cX12_stands_0 30 rfl
theorem dX12_stands_51 : decode cX12_stands 51 = .ok (.aload_n 0, 1) := lw_dr lw_d_cX12_stands_0 31 rfl
theorem dX12_stands_52 : decode cX12_stands 52 = .ok (.getfield 66, 3) := lw_dr lw_d_cX12_stands_0 32 rfl
theorem dX12_stands_55 : decode cX12_stands 55 = .ok (.iconst 5, 1) := lw_dr lw_d_cX12_stands_0 33 rfl
theorem dX12_stands_56 : decode cX12_stands 56 = .ok (.iaload, 1) := lw_dr lw_d_cX12_stands_0 34 rfl
theorem dX12_stands_57 : decode cX12_stands 57 = .ok (.putfield 63, 3) := lw_dr lw_d_cX12_stands_0 35 rfl
theorem dX12_stands_60 : decode cX12_stands 60 = .ok (.iconst 0, 1) := lw_dr lw_d_cX12_stands_0 36 rfl
theorem dX12_stands_61 : decode cX12_stands 61 = .ok (.istore_n 1, 1) := lw_dr lw_d_cX12_stands_0 37 rfl
theorem dX12_stands_62 : decode cX12_stands 62 = .ok (.iload_n 1, 1) := lw_dr lw_d_cX12_stands_0 38 rfl
theorem dX12_stands_63 : decode cX12_stands 63 = .ok (.bipush 30, 2) := lw_dr lw_d_cX12_stands_0 39 rfl
theorem lw_d_cX12_stands_65 : lw_dl cX12_stands [(65, .if_icmp .ge 24, 3), (68, .aload_n 0, 1), (69, .getfield 69, 3), (72, .iload_n 1, 1), (73, .aload_n 0, 1), (74, .getfield 69, 3), (77, .bipush 30, 2), (79, .iload_n 1, 1), (80, .iadd, 1), (81, .iaload, 1), (82, .iastore, 1), (83, .iinc 1 1, 3), (86, .goto (-24), 3), (89, .iconst 0, 1), (90, .istore_n 1, 1), (91, .iload_n 1, 1), (92, .bipush 80, 2), (94, .if_icmp .ge 24, 3), (97, .aload_n 0, 1), (98, .getfield 72, 3), (101, .iload_n 1, 1), (102, .aload_n 0, 1), (103, .getfield 72, 3), (106, .bipush 80, 2), (108, .iload_n 1, 1), (109, .iadd, 1), (110, .iaload, 1), (111, .iastore, 1), (112, .iinc 1 1, 3), (115, .goto (-24), 3), (118, .aload_n 0, 1), (119, .getfield 81, 3), (122, .iconst 0, 1), (123, .aload_n 0, 1), (124, .getfield 81, 3), (127, .iconst 1, 1), (128, .iaload, 1), (129, .iastore, 1), (130, .iconst 0, 1), (131, .istore_n 1, 1)] = true := by decide +kernel
theorem dX12_stands_65 : decode cX12_stands 65 = .ok (.if_icmp .ge 24, 3) := lw_dr lw_d_cX12_stands_65 0 rfl
theorem dX12_stands_68 : decode cX12_stands 68 = .ok (.aload_n 0, 1) := lw_dr lw_d_cX12_stands_65 1 rfl
theorem dX12_stands_69 : decode cX12_stands 69 = .ok (.getfield 69, 3) := lw_dr lw_d_cX12_stands_65 2 rfl
theorem dX12_stands_72 : decode cX12_stands 72 = .ok (.iload_n 1, 1) := lw_dr lw_d_cX12_stands_65 3 rfl
theorem dX12_stands_73 : decode cX12_stands 73 = .ok (.aload_n 0, 1) := lw_dr lw_d_cX12_stands_65 4 rfl
theorem dX12_stands_74 : decode cX12_stands 74 = .ok (.getfield 69, 3) := lw_dr lw_d_cX12_stands_65 5 rfl
theorem dX12_stands_77 : decode cX12_stands 77 = .ok (.bipush 30, 2) := lw_dr lw_d_cX12_stands_65 6 rfl
theorem dX12_stands_79 : decode cX12_stands 79 = .ok (.iload_n 1, 1) := lw_dr lw_d_cX12_stands_65 7 rfl
theorem dX12_stands_80 : decode cX12_stands 80 = .ok (.iadd, 1) := lw_dr lw_d_cX12_stands_65 8 rfl
theorem dX12_stands_81 : decode cX12_stands 81 = .ok (.iaload, 1) := lw_dr lw_d_cX12_stands_65 9 rfl
theorem dX12_stands_82 : decode cX12_stands 82 = .ok (.iastore, 1) := lw_dr lw_d_cX12_stands_65 10 rfl
theorem dX12_stands_83 : decode cX12_stands 83 = .ok (.iinc 1 1, 3) := lw_dr lw_d_cX12_stands_65 11 rfl
theorem dX12_stands_86 : decode cX12_stands 86 = .ok (.goto (-24), 3) := lw_dr lw_d_cX12_stands_65 12 rfl
theorem dX12_stands_89 : decode cX12_stands 89 = .ok (.iconst 0, 1) := lw_dr lw_d_cX12_stands_65 13 rfl
theorem dX12_stands_90 : decode cX12_stands 90 = .ok (.istore_n 1, 1) := lw_dr lw_d_cX12_stands_65 14 rfl
theorem dX12_stands_91 : decode cX12_stands 91 = .ok (.iload_n 1, 1) := lw_dr lw_d_cX12_stands_65 15 rfl
theorem dX12_stands_92 : decode cX12_stands 92 = .ok (.bipush 80, 2) := lw_dr lw_d_cX12_stands_65 16 rfl
theorem dX12_stands_94 : decode cX12_stands 94 = .ok (.if_icmp .ge 24, 3) := lw_dr lw_d_cX12_stands_65 17 rfl
theorem dX12_stands_97 : decode cX12_stands 97 = .ok (.aload_n 0, 1) := lw_dr lw_d_cX12_stands_65 18 rfl
theorem dX12_stands_98 : decode cX12_stands 98 = .ok (.getfield 72, 3) := lw_dr lw_d_cX12_stands_65 19 rfl
theorem dX12_stands_101 : decode cX12_stands 101 = .ok (.iload_n 1, 1) := lw_dr lw_d_cX12_stands_65 20 rfl
theorem dX12_stands_102 : decode cX12_stands 102 = .ok (.aload_n 0, 1) := lw_dr lw_d_cX12_stands_65 21 rfl
theorem dX12_stands_103 : decode cX12_stands 103 = .ok (.getfield 72, 3) := lw_dr lw_d_cX12_stands_65 22 rfl
theorem dX12_stands_106 : decode cX12_stands 106 = .ok (.bipush 80, 2) := lw_dr lw_d_cX12_stands_65 23 rfl
theorem dX12_stands_108 : decode cX12_stands 108 = .ok (.iload_n 1, 1) := lw_dr lw_d_cX12_stands_65 24 rfl
theorem dX12_stands_109 : decode cX12_stands 109 = .ok (.iadd, 1) := lw_dr lw_d_cX12_stands_65 25 rfl
theorem dX12_stands_110 : decode cX12_stands 110 = .ok (.iaload, 1) := lw_dr lw_d_cX12_stands_65 26 rfl
theorem dX12_stands_111 : decode cX12_stands 111 = .ok (.iastore, 1) := lw_dr lw_d_cX12_stands_65 27 rfl
theorem dX12_stands_112 : decode cX12_stands 112 = .ok (.iinc 1 1, 3) := lw_dr lw_d_cX12_stands_65 28 rfl
theorem dX12_stands_115 : decode cX12_stands 115 = .ok (.goto (-24), 3) := lw_dr lw_d_cX12_stands_65 29 rfl
theorem dX12_stands_118 : decode cX12_stands 118 = .ok (.aload_n 0, 1) := lw_dr lw_d_cX12_stands_65 30 rfl
theorem dX12_stands_119 : decode cX12_stands 119 = .ok (.getfield 81, 3) := lw_dr lw_d_cX12_stands_65 31 rfl
theorem dX12_stands_122 : decode cX12_stands 122 = .ok (.iconst 0, 1) := lw_dr lw_d_cX12_stands_65 32 rfl
theorem dX12_stands_123 : decode cX12_stands 123 = .ok (.aload_n 0, 1) := lw_dr lw_d_cX12_stands_65 33 rfl
theorem dX12_stands_124 : decode cX12_stands 124 = .ok (.getfield 81, 3) := lw_dr lw_d_cX12_stands_65 34 rfl
theorem dX12_stands_127 : decode cX12_stands 127 = .ok (.iconst 1, 1) := lw_dr lw_d_cX12_stands_65 35 rfl
theorem dX12_stands_128 : decode cX12_stands 128 = .ok (.iaload, 1) := lw_dr lw_d_cX12_stands_65 36 rfl
theorem dX12_stands_129 : decode cX12_stands 129 = .ok (.iastore, 1) := lw_dr lw_d_cX12_stands_65 37 rfl
theorem dX12_stands_130 : decode cX12_stands 130 = .ok (.iconst 0, 1) := lw_dr lw_d_cX12_stands_65 38 rfl
theorem dX12_stands_131 : decode cX12_stands 131 = .ok (.istore_n 1, 1) := lw_dr lw_d_cX12_stands_65 39 rfl
theorem lw_d_cX12_stands_132 : lw_dl cX12_stands [(132, .iload_n 1, 1), (133, .bipush 8, 2), (135, .if_icmp .ge 54, 3), (138, .aload_n 0, 1), (139, .getfield 84, 3), (142, .iload_n 1, 1), (143, .aload_n 0, 1), (144, .getfield 84, 3), (147, .bipush 8, 2), (149, .iload_n 1, 1), (150, .iadd, 1), (151, .iaload, 1), (152, .iastore, 1), (153, .aload_n 0, 1), (154, .getfield 87, 3), (157, .iload_n 1, 1), (158, .aload_n 0, 1), (159, .getfield 87, 3), (162, .bipush 8, 2), (164, .iload_n 1, 1), (165, .iadd, 1), (166, .iaload, 1), (167, .iastore, 1), (168, .aload_n 0, 1), (169, .getfield 90, 3), (172, .iload_n 1, 1), (173, .aload_n 0, 1), (174, .getfield 90, 3), (177, .bipush 8, 2), (179, .iload_n 1, 1), (180, .iadd, 1), (181, .iaload, 1), (182, .iastore, 1), (183, .iinc 1 1, 3), (186, .goto (-54), 3), (189, .iconst 0, 1), (190, .istore_n 1, 1), (191, .iload_n 1, 1), (192, .aload_n 0, 1), (193, .getfield 222, 3)] = true := by decide +kernel
theorem dX12_stands_132 : decode cX12_stands 132 = .ok (.iload_n 1, 1) := lw_dr lw_d_cX12_stands_132 0 rfl
theorem dX12_stands_133 : decode cX12_stands 133 = .ok (.bipush 8, 2) := lw_dr lw_d_cX12_stands_132 1 rfl
theorem dX12_stands_135 : decode cX12_stands 135 = .ok (.if_icmp .ge 54, 3) := lw_dr lw_d_cX12_stands_132 2 rfl
theorem dX12_stands_138 : decode cX12_stands 138 = .ok (.aload_n 0, 1) := lw_dr lw_d_cX12_stands_132 3 rfl
theorem dX12_stands_139 : decode cX12_stands 139 = .ok (.getfield 84, 3) := lw_dr lw_d_cX12_stands_132 4 rfl
theorem dX12_stands_142 : decode cX12_stands 142 = .ok (.iload_n 1, 1) := lw_dr lw_d_cX12_stands_132 5 rfl
theorem dX12_stands_143 : decode cX12_stands 143 = .ok (.aload_n 0, 1) := lw_dr lw_d_cX12_stands_132 6 rfl
theorem dX12_stands_144 : decode cX12_stands 144 = .ok (.getfield 84, 3) := lw_dr lw_d_cX12_stands_132 7 rfl
theorem dX12_stands_147 : decode cX12_stands 147 = .ok (.bipush 8, 2) := lw_dr lw_d_cX12_stands_132 8 rfl
theorem dX12_stands_149 : decode cX12_stands 149 = .ok (.iload_n 1, 1) := lw_dr lw_d_cX12_stands_132 9 rfl
theorem dX12_stands_150 : decode cX12_stands 150 = .ok (.iadd, 1) := lw_dr lw_d_cX12_stands_132 10 rfl
theorem dX12_stands_151 : decode cX12_stands 151 = .ok (.iaload, 1) := lw_dr lw_d_cX12_stands_132 11 rfl
theorem dX12_stands_152 : decode cX12_stands 152 = .ok (.iastore, 1) := lw_dr lw_d_cX12_stands_132 12 rfl
theorem dX12_stands_153 : decode cX12_stands 153 = .ok (.aload_n 0, 1) := lw_dr lw_d_cX12_stands_132 13 rfl
theorem dX12_stands_154 : decode cX12_stands 154 = .ok (.getfield 87, 3) := lw_dr lw_d_cX12_stands_132 14 rfl
theorem dX12_stands_157 : decode cX12_stands 157 = .ok (.iload_n 1, 1) := lw_dr lw_d_cX12_stands_132 15 rfl
theorem dX12_stands_158 : decode cX12_stands 158 = .ok (.aload_n 0, 1) := lw_dr lw_d_cX12_stands_132 16 rfl
theorem dX12_stands_159 : decode cX12_stands 159 = .ok (.getfield 87, 3) := lw_dr lw_d_cX12_stands_132 17 rfl
theorem dX12_stands_162 : decode cX12_stands 162 = .ok (.bipush 8, 2) := lw_dr lw_d_cX12_stands_132 18 rfl
theorem dX12_stands_164 : decode cX12_stands 164 = .ok (.iload_n 1, 1) := lw_dr lw_d_cX12_stands_132 19 rfl
theorem dX12_stands_165 : decode cX12_stands 165 = .ok (.iadd, 1) := lw_dr lw_d_cX12_stands_132 20 rfl
theorem dX12_stands_166 : decode cX12_stands 166 = .ok (.iaload, 1) := lw_dr lw_d_cX12_stands_132 21 rfl
theorem dX12_stands_167 : decode cX12_stands 167 = .ok (.iastore, 1) := lw_dr lw_d_cX12_stands_132 22 rfl
theorem dX12_stands_168 : decode cX12_stands 168 = .ok (.aload_n 0, 1) := lw_dr lw_d_cX12_stands_132 23 rfl
theorem dX12_stands_169 : decode cX12_stands 169 = .ok (.getfield 90, 3) := lw_dr lw_d_cX12_stands_132 24 rfl
theorem dX12_stands_172 : decode cX12_stands 172 = .ok (.iload_n 1, 1) := lw_dr lw_d_cX12_stands_132 25 rfl
theorem dX12_stands_173 : decode cX12_stands 173 = .ok (.aload_n 0, 1) := lw_dr lw_d_cX12_stands_132 26 rfl
theorem dX12_stands_174 : decode cX12_stands 174 = .ok (.getfield 90, 3) := lw_dr lw_d_cX12_stands_132 27 rfl
theorem dX12_stands_177 : decode cX12_stands 177 = .ok (.bipush 8, 2) := lw_dr lw_d_cX12_stands_132 28 rfl
theorem dX12_stands_179 : decode cX12_stands 179 = .ok (.iload_n 1, 1) := lw_dr lw_d_cX12_stands_132 29 rfl
theorem dX12_stands_180 : decode cX12_stands 180 = .ok (.iadd, 1) := lw_dr lw_d_cX12_stands_132 30 rfl
theorem dX12_stands_181 : decode cX12_stands 181 = .ok (.iaload, 1) := lw_dr lw_d_cX12_stands_132 31 rfl
theorem dX12_stands_182 : decode cX12_stands 182 = .ok (.iastore, 1) := lw_dr lw_d_cX12_stands_132 32 rfl
theorem dX12_stands_183 : decode cX12_stands 183 = .ok (.iinc 1 1, 3) := lw_dr lw_d_cX12_stands_132 33 rfl
theorem dX12_stands_186 : decode cX12_stands 186 = .ok (.goto (-54), 3) := lw_dr lw_d_cX12_stands_132 34 rfl
theorem dX12_stands_189 : decode cX12_stands 189 = .ok (.iconst 0, 1) := lw_dr lw_d_cX12_stands_132 35 rfl
theorem dX12_stands_190 : decode cX12_stands 190 = .ok (.istore_n 1, 1) := lw_dr lw_d_cX12_stands_132 36 rfl
theorem dX12_stands_191 : decode cX12_stands 191 = .ok (.iload_n 1, 1) := lw_dr lw_d_cX12_stands_132 37 rfl
theorem dX12_stands_192 : decode cX12_stands 192 = .ok (.aload_n 0, 1) := lw_dr lw_d_cX12_stands_132 38 rfl
theorem dX12_stands_193 : decode cX12_stands 193 = .ok (.getfield 222, 3) := lw_dr lw_d_cX12_stands_132 39 rfl
theorem lw_d_cX12_stands_196 : lw_dl cX12_stands [(196, .if_icmp .ge 25, 3), (221, .iconst 0, 1), (222, .istore_n 1, 1), (223, .iload_n 1, 1), (224, .bipush 6, 2), (226, .if_icmp .ge 16, 3), (229, .aload_n 0, 1), (230, .getfield 100, 3), (233, .iload_n 1, 1), (234, .iconst 0, 1), (235, .iastore, 1), (236, .iinc 1 1, 3), (239, .goto (-16), 3), (242, .aload_n 0, 1), (243, .invokevirtual 249, 3)] = true := by decide +kernel
theorem dX12_stands_196 : decode cX12_stands 196 = .ok (.if_icmp .ge 25, 3) := lw_dr lw_d_cX12_stands_196 0 rfl
theorem dX12_stands_221 : decode cX12_stands 221 = .ok (.iconst 0, 1) := lw_dr lw_d_cX12_stands_196 1 rfl
theorem dX12_stands_222 : decode cX12_stands 222 = .ok (.istore_n 1, 1) := lw_dr lw_d_cX12_stands_196 2 rfl
theorem dX12_stands_223 : decode cX12_stands 223 = .ok (.iload_n 1, 1) := lw_dr lw_d_cX12_stands_196 3 rfl
theorem dX12_stands_224 : decode cX12_stands 224 = .ok (.bipush 6, 2) := lw_dr lw_d_cX12_stands_196 4 rfl
theorem dX12_stands_226 : decode cX12_stands 226 = .ok (.if_icmp .ge 16, 3) := lw_dr lw_d_cX12_stands_196 5 rfl
theorem dX12_stands_229 : decode cX12_stands 229 = .ok (.aload_n 0, 1) := lw_dr lw_d_cX12_stands_196 6 rfl
theorem dX12_stands_230 : decode cX12_stands 230 = .ok (.getfield 100, 3) := lw_dr lw_d_cX12_stands_196 7 rfl
theorem dX12_stands_233 : decode cX12_stands 233 = .ok (.iload_n 1, 1) := lw_dr lw_d_cX12_stands_196 8 rfl
theorem dX12_stands_234 : decode cX12_stands 234 = .ok (.iconst 0, 1) := lw_dr lw_d_cX12_stands_196 9 rfl
theorem dX12_stands_235 : decode cX12_stands 235 = .ok (.iastore, 1) := lw_dr lw_d_cX12_stands_196 10 rfl
theorem dX12_stands_236 : decode cX12_stands 236 = .ok (.iinc 1 1, 3) := lw_dr lw_d_cX12_stands_196 11 rfl
theorem dX12_stands_239 : decode cX12_stands 239 = .ok (.goto (-16), 3) := lw_dr lw_d_cX12_stands_196 12 rfl
theorem dX12_stands_242 : decode cX12_stands 242 = .ok (.aload_n 0, 1) := lw_dr lw_d_cX12_stands_196 13 rfl
theorem dX12_stands_243 : decode cX12_stands 243 = .ok (.invokevirtual 249, 3) := lw_dr lw_d_cX12_stands_196 14 rfl
theorem lw_d_cX12_leadsAnew_0 : lw_dl cX12_leadsAnew [(0, .iconst 0, 1), (1, .istore_n 1, 1), (2, .iload_n 1, 1), (3, .bipush 30, 2), (5, .if_icmp .ge 21, 3), (8, .aload_n 0, 1), (9, .getfield 97, 3), (12, .iload_n 1, 1), (13, .aload_n 0, 1), (14, .getfield 69, 3), (17, .iload_n 1, 1), (18, .iaload, 1), (19, .iastore, 1), (20, .iinc 1 1, 3), (23, .goto (-21), 3), (26, .iconst 0, 1), (27, .istore_n 1, 1), (28, .iload_n 1, 1), (29, .bipush 25, 2), (31, .if_icmp .ge 29, 3), (34, .aload_n 0, 1), (35, .getfield 121, 3), (38, .iload_n 1, 1)] = true := by decide +kernel
theorem dX12_leadsAnew_0 : decode cX12_leadsAnew 0 = .ok (.iconst 0, 1) := lw_dr lw_d_cX12_leadsAnew_0 0 rfl
theorem dX12_leadsAnew_1 : decode cX12_leadsAnew 1 = .ok (.istore_n 1, 1) := lw_dr lw_d_cX12_leadsAnew_0 1 rfl
theorem dX12_leadsAnew_2 : decode cX12_leadsAnew 2 = .ok (.iload_n 1, 1) := lw_dr lw_d_cX12_leadsAnew_0 2 rfl
theorem dX12_leadsAnew_3 : decode cX12_leadsAnew 3 = .ok (.bipush 30, 2) := lw_dr lw_d_cX12_leadsAnew_0 3 rfl
theorem dX12_leadsAnew_5 : decode cX12_leadsAnew 5 = .ok (.if_icmp .ge 21, 3) := lw_dr lw_d_cX12_leadsAnew_0 4 rfl
theorem dX12_leadsAnew_8 : decode cX12_leadsAnew 8 = .ok (.aload_n 0, 1) := lw_dr lw_d_cX12_leadsAnew_0 5 rfl
theorem dX12_leadsAnew_9 : decode cX12_leadsAnew 9 = .ok (.getfield 97, 3) := lw_dr lw_d_cX12_leadsAnew_0 6 rfl
theorem dX12_leadsAnew_12 : decode cX12_leadsAnew 12 = .ok (.iload_n 1, 1) := lw_dr lw_d_cX12_leadsAnew_0 7 rfl
theorem dX12_leadsAnew_13 : decode cX12_leadsAnew 13 = .ok (.aload_n 0, 1) := lw_dr lw_d_cX12_leadsAnew_0 8 rfl
theorem dX12_leadsAnew_14 : decode cX12_leadsAnew 14 = .ok (.getfield 69, 3) := lw_dr lw_d_cX12_leadsAnew_0 9 rfl
theorem dX12_leadsAnew_17 : decode cX12_leadsAnew 17 = .ok (.iload_n 1, 1) := lw_dr lw_d_cX12_leadsAnew_0 10 rfl
theorem dX12_leadsAnew_18 : decode cX12_leadsAnew 18 = .ok (.iaload, 1) := lw_dr lw_d_cX12_leadsAnew_0 11 rfl
theorem dX12_leadsAnew_19 : decode cX12_leadsAnew 19 = .ok (.iastore, 1) := lw_dr lw_d_cX12_leadsAnew_0 12 rfl
theorem dX12_leadsAnew_20 : decode cX12_leadsAnew 20 = .ok (.iinc 1 1, 3) := lw_dr lw_d_cX12_leadsAnew_0 13 rfl
theorem dX12_leadsAnew_23 : decode cX12_leadsAnew 23 = .ok (.goto (-21), 3) := lw_dr lw_d_cX12_leadsAnew_0 14 rfl
theorem dX12_leadsAnew_26 : decode cX12_leadsAnew 26 = .ok (.iconst 0, 1) := lw_dr lw_d_cX12_leadsAnew_0 15 rfl
theorem dX12_leadsAnew_27 : decode cX12_leadsAnew 27 = .ok (.istore_n 1, 1) := lw_dr lw_d_cX12_leadsAnew_0 16 rfl
theorem dX12_leadsAnew_28 : decode cX12_leadsAnew 28 = .ok (.iload_n 1, 1) := lw_dr lw_d_cX12_leadsAnew_0 17 rfl
theorem dX12_leadsAnew_29 : decode cX12_leadsAnew 29 = .ok (.bipush 25, 2) := lw_dr lw_d_cX12_leadsAnew_0 18 rfl
theorem dX12_leadsAnew_31 : decode cX12_leadsAnew 31 = .ok (.if_icmp .ge 29, 3) := lw_dr lw_d_cX12_leadsAnew_0 19 rfl
theorem dX12_leadsAnew_34 : decode cX12_leadsAnew 34 = .ok (.aload_n 0, 1) := lw_dr lw_d_cX12_leadsAnew_0 20 rfl
theorem dX12_leadsAnew_35 : decode cX12_leadsAnew 35 = .ok (.getfield 121, 3) := lw_dr lw_d_cX12_leadsAnew_0 21 rfl
theorem dX12_leadsAnew_38 : decode cX12_leadsAnew 38 = .ok (.iload_n 1, 1) := lw_dr lw_d_cX12_leadsAnew_0 22 rfl
theorem lw_d_cX12_leadsAnew_39 : lw_dl cX12_leadsAnew [(39, .iload_n 1, 1), (40, .iconst 5, 1), (41, .irem, 1), (42, .iload_n 1, 1), (43, .iconst 5, 1), (44, .idiv, 1), (45, .if_icmp .ne 7, 3), (48, .lconst 1, 1), (49, .goto 4, 3), (53, .lastore, 1), (54, .iinc 1 1, 3), (57, .goto (-29), 3), (60, .aload_n 0, 1), (61, .iconst 0, 1), (62, .putfield 349, 3), (65, .aload_n 0, 1), (66, .iconst 0, 1), (67, .putfield 352, 3), (70, .aload_n 0, 1), (71, .iconst 0, 1), (72, .putfield 355, 3), (75, .return_, 1), (52, .lconst 0, 1)] = true := by decide +kernel
theorem dX12_leadsAnew_39 : decode cX12_leadsAnew 39 = .ok (.iload_n 1, 1) := lw_dr lw_d_cX12_leadsAnew_39 0 rfl
theorem dX12_leadsAnew_40 : decode cX12_leadsAnew 40 = .ok (.iconst 5, 1) := lw_dr lw_d_cX12_leadsAnew_39 1 rfl
theorem dX12_leadsAnew_41 : decode cX12_leadsAnew 41 = .ok (.irem, 1) := lw_dr lw_d_cX12_leadsAnew_39 2 rfl
theorem dX12_leadsAnew_42 : decode cX12_leadsAnew 42 = .ok (.iload_n 1, 1) := lw_dr lw_d_cX12_leadsAnew_39 3 rfl
theorem dX12_leadsAnew_43 : decode cX12_leadsAnew 43 = .ok (.iconst 5, 1) := lw_dr lw_d_cX12_leadsAnew_39 4 rfl
theorem dX12_leadsAnew_44 : decode cX12_leadsAnew 44 = .ok (.idiv, 1) := lw_dr lw_d_cX12_leadsAnew_39 5 rfl
theorem dX12_leadsAnew_45 : decode cX12_leadsAnew 45 = .ok (.if_icmp .ne 7, 3) := lw_dr lw_d_cX12_leadsAnew_39 6 rfl
theorem dX12_leadsAnew_48 : decode cX12_leadsAnew 48 = .ok (.lconst 1, 1) := lw_dr lw_d_cX12_leadsAnew_39 7 rfl
theorem dX12_leadsAnew_49 : decode cX12_leadsAnew 49 = .ok (.goto 4, 3) := lw_dr lw_d_cX12_leadsAnew_39 8 rfl
theorem dX12_leadsAnew_53 : decode cX12_leadsAnew 53 = .ok (.lastore, 1) := lw_dr lw_d_cX12_leadsAnew_39 9 rfl
theorem dX12_leadsAnew_54 : decode cX12_leadsAnew 54 = .ok (.iinc 1 1, 3) := lw_dr lw_d_cX12_leadsAnew_39 10 rfl
theorem dX12_leadsAnew_57 : decode cX12_leadsAnew 57 = .ok (.goto (-29), 3) := lw_dr lw_d_cX12_leadsAnew_39 11 rfl
theorem dX12_leadsAnew_60 : decode cX12_leadsAnew 60 = .ok (.aload_n 0, 1) := lw_dr lw_d_cX12_leadsAnew_39 12 rfl
theorem dX12_leadsAnew_61 : decode cX12_leadsAnew 61 = .ok (.iconst 0, 1) := lw_dr lw_d_cX12_leadsAnew_39 13 rfl
theorem dX12_leadsAnew_62 : decode cX12_leadsAnew 62 = .ok (.putfield 349, 3) := lw_dr lw_d_cX12_leadsAnew_39 14 rfl
theorem dX12_leadsAnew_65 : decode cX12_leadsAnew 65 = .ok (.aload_n 0, 1) := lw_dr lw_d_cX12_leadsAnew_39 15 rfl
theorem dX12_leadsAnew_66 : decode cX12_leadsAnew 66 = .ok (.iconst 0, 1) := lw_dr lw_d_cX12_leadsAnew_39 16 rfl
theorem dX12_leadsAnew_67 : decode cX12_leadsAnew 67 = .ok (.putfield 352, 3) := lw_dr lw_d_cX12_leadsAnew_39 17 rfl
theorem dX12_leadsAnew_70 : decode cX12_leadsAnew 70 = .ok (.aload_n 0, 1) := lw_dr lw_d_cX12_leadsAnew_39 18 rfl
theorem dX12_leadsAnew_71 : decode cX12_leadsAnew 71 = .ok (.iconst 0, 1) := lw_dr lw_d_cX12_leadsAnew_39 19 rfl
theorem dX12_leadsAnew_72 : decode cX12_leadsAnew 72 = .ok (.putfield 355, 3) := lw_dr lw_d_cX12_leadsAnew_39 20 rfl
theorem dX12_leadsAnew_75 : decode cX12_leadsAnew 75 = .ok (.return_, 1) := lw_dr lw_d_cX12_leadsAnew_39 21 rfl
theorem dX12_leadsAnew_52 : decode cX12_leadsAnew 52 = .ok (.lconst 0, 1) := lw_dr lw_d_cX12_leadsAnew_39 22 rfl
theorem lw_d_cX12_stands_246 : lw_dl cX12_stands [(246, .aload_n 0, 1), (247, .iconst 0, 1), (248, .putfield 252, 3), (251, .return_, 1), (199, .aload_n 0, 1), (200, .getfield 75, 3), (203, .iload_n 1, 1), (204, .aload_n 0, 1), (205, .getfield 75, 3), (208, .sipush 1600, 3), (211, .iload_n 1, 1), (212, .iadd, 1), (213, .iaload, 1), (214, .iastore, 1), (215, .iinc 1 1, 3), (218, .goto (-27), 3)] = true := by decide +kernel
theorem dX12_stands_246 : decode cX12_stands 246 = .ok (.aload_n 0, 1) := lw_dr lw_d_cX12_stands_246 0 rfl
theorem dX12_stands_247 : decode cX12_stands 247 = .ok (.iconst 0, 1) := lw_dr lw_d_cX12_stands_246 1 rfl
theorem dX12_stands_248 : decode cX12_stands 248 = .ok (.putfield 252, 3) := lw_dr lw_d_cX12_stands_246 2 rfl
theorem dX12_stands_251 : decode cX12_stands 251 = .ok (.return_, 1) := lw_dr lw_d_cX12_stands_246 3 rfl
theorem dX12_stands_199 : decode cX12_stands 199 = .ok (.aload_n 0, 1) := lw_dr lw_d_cX12_stands_246 4 rfl
theorem dX12_stands_200 : decode cX12_stands 200 = .ok (.getfield 75, 3) := lw_dr lw_d_cX12_stands_246 5 rfl
theorem dX12_stands_203 : decode cX12_stands 203 = .ok (.iload_n 1, 1) := lw_dr lw_d_cX12_stands_246 6 rfl
theorem dX12_stands_204 : decode cX12_stands 204 = .ok (.aload_n 0, 1) := lw_dr lw_d_cX12_stands_246 7 rfl
theorem dX12_stands_205 : decode cX12_stands 205 = .ok (.getfield 75, 3) := lw_dr lw_d_cX12_stands_246 8 rfl
theorem dX12_stands_208 : decode cX12_stands 208 = .ok (.sipush 1600, 3) := lw_dr lw_d_cX12_stands_246 9 rfl
theorem dX12_stands_211 : decode cX12_stands 211 = .ok (.iload_n 1, 1) := lw_dr lw_d_cX12_stands_246 10 rfl
theorem dX12_stands_212 : decode cX12_stands 212 = .ok (.iadd, 1) := lw_dr lw_d_cX12_stands_246 11 rfl
theorem dX12_stands_213 : decode cX12_stands 213 = .ok (.iaload, 1) := lw_dr lw_d_cX12_stands_246 12 rfl
theorem dX12_stands_214 : decode cX12_stands 214 = .ok (.iastore, 1) := lw_dr lw_d_cX12_stands_246 13 rfl
theorem dX12_stands_215 : decode cX12_stands 215 = .ok (.iinc 1 1, 3) := lw_dr lw_d_cX12_stands_246 14 rfl
theorem dX12_stands_218 : decode cX12_stands 218 = .ok (.goto (-27), 3) := lw_dr lw_d_cX12_stands_246 15 rfl
theorem lw_d_cX12_house_200 : lw_dl cX12_house [(200, .aload_n 0, 1), (201, .getfield 202, 3), (204, .ireturn, 1), (194, .iconst (-1), 1), (195, .ireturn, 1), (156, .aload_n 0, 1), (157, .invokevirtual 163, 3), (160, .iconst (-1), 1), (161, .if_icmp .eq 10, 3), (164, .aload_n 0, 1), (165, .invokevirtual 225, 3)] = true := by decide +kernel
theorem dX12_house_200 : decode cX12_house 200 = .ok (.aload_n 0, 1) := lw_dr lw_d_cX12_house_200 0 rfl
theorem dX12_house_201 : decode cX12_house 201 = .ok (.getfield 202, 3) := lw_dr lw_d_cX12_house_200 1 rfl
theorem dX12_house_204 : decode cX12_house 204 = .ok (.ireturn, 1) := lw_dr lw_d_cX12_house_200 2 rfl
theorem dX12_house_194 : decode cX12_house 194 = .ok (.iconst (-1), 1) := lw_dr lw_d_cX12_house_200 3 rfl
theorem dX12_house_195 : decode cX12_house 195 = .ok (.ireturn, 1) := lw_dr lw_d_cX12_house_200 4 rfl
theorem dX12_house_156 : decode cX12_house 156 = .ok (.aload_n 0, 1) := lw_dr lw_d_cX12_house_200 5 rfl
theorem dX12_house_157 : decode cX12_house 157 = .ok (.invokevirtual 163, 3) := lw_dr lw_d_cX12_house_200 6 rfl
theorem dX12_house_160 : decode cX12_house 160 = .ok (.iconst (-1), 1) := lw_dr lw_d_cX12_house_200 7 rfl
theorem dX12_house_161 : decode cX12_house 161 = .ok (.if_icmp .eq 10, 3) := lw_dr lw_d_cX12_house_200 8 rfl
theorem dX12_house_164 : decode cX12_house 164 = .ok (.aload_n 0, 1) := lw_dr lw_d_cX12_house_200 9 rfl
theorem dX12_house_165 : decode cX12_house 165 = .ok (.invokevirtual 225, 3) := lw_dr lw_d_cX12_house_200 10 rfl
theorem lw_d_cX12_houseTold_0 : lw_dl cX12_houseTold [(0, .aload_n 0, 1), (1, .getfield 157, 3), (4, .istore_n 1, 1), (5, .aload_n 0, 1), (6, .getfield 202, 3), (9, .bipush 60, 2), (11, .if_icmp .ne 10, 3), (21, .aload_n 0, 1), (22, .aload_n 0, 1), (23, .getfield 21, 3), (26, .invokevirtual 178, 3), (29, .ifCond .eq 11, 3), (40, .aload_n 0, 1), (41, .aload_n 0, 1), (42, .getfield 24, 3), (45, .invokevirtual 178, 3), (48, .ifCond .eq 11, 3), (59, .aload_n 0, 1), (60, .aload_n 0, 1), (61, .getfield 30, 3), (64, .invokevirtual 178, 3), (67, .ifCond .eq 20, 3), (87, .aload_n 0, 1), (88, .aload_n 0, 1), (89, .getfield 27, 3), (92, .invokevirtual 212, 3), (95, .aload_n 0, 1), (96, .getfield 151, 3), (99, .ifCond .ne 8, 3), (107, .aload_n 0, 1), (108, .bipush 59, 2), (110, .invokevirtual 219, 3), (113, .aload_n 0, 1), (114, .dup, 1), (115, .getfield 202, 3), (118, .iconst 1, 1), (119, .iadd, 1), (120, .putfield 202, 3), (123, .return_, 1), (102, .aload_n 0, 1)] = true := by decide +kernel
theorem dX12_houseTold_0 : decode cX12_houseTold 0 = .ok (.aload_n 0, 1) := lw_dr lw_d_cX12_houseTold_0 0 rfl
theorem dX12_houseTold_1 : decode cX12_houseTold 1 = .ok (.getfield 157, 3) := lw_dr lw_d_cX12_houseTold_0 1 rfl
theorem dX12_houseTold_4 : decode cX12_houseTold 4 = .ok (.istore_n 1, 1) := lw_dr lw_d_cX12_houseTold_0 2 rfl
theorem dX12_houseTold_5 : decode cX12_houseTold 5 = .ok (.aload_n 0, 1) := lw_dr lw_d_cX12_houseTold_0 3 rfl
theorem dX12_houseTold_6 : decode cX12_houseTold 6 = .ok (.getfield 202, 3) := lw_dr lw_d_cX12_houseTold_0 4 rfl
theorem dX12_houseTold_9 : decode cX12_houseTold 9 = .ok (.bipush 60, 2) := lw_dr lw_d_cX12_houseTold_0 5 rfl
theorem dX12_houseTold_11 : decode cX12_houseTold 11 = .ok (.if_icmp .ne 10, 3) := lw_dr lw_d_cX12_houseTold_0 6 rfl
theorem dX12_houseTold_21 : decode cX12_houseTold 21 = .ok (.aload_n 0, 1) := lw_dr lw_d_cX12_houseTold_0 7 rfl
theorem dX12_houseTold_22 : decode cX12_houseTold 22 = .ok (.aload_n 0, 1) := lw_dr lw_d_cX12_houseTold_0 8 rfl
theorem dX12_houseTold_23 : decode cX12_houseTold 23 = .ok (.getfield 21, 3) := lw_dr lw_d_cX12_houseTold_0 9 rfl
theorem dX12_houseTold_26 : decode cX12_houseTold 26 = .ok (.invokevirtual 178, 3) := lw_dr lw_d_cX12_houseTold_0 10 rfl
theorem dX12_houseTold_29 : decode cX12_houseTold 29 = .ok (.ifCond .eq 11, 3) := lw_dr lw_d_cX12_houseTold_0 11 rfl
theorem dX12_houseTold_40 : decode cX12_houseTold 40 = .ok (.aload_n 0, 1) := lw_dr lw_d_cX12_houseTold_0 12 rfl
theorem dX12_houseTold_41 : decode cX12_houseTold 41 = .ok (.aload_n 0, 1) := lw_dr lw_d_cX12_houseTold_0 13 rfl
theorem dX12_houseTold_42 : decode cX12_houseTold 42 = .ok (.getfield 24, 3) := lw_dr lw_d_cX12_houseTold_0 14 rfl
theorem dX12_houseTold_45 : decode cX12_houseTold 45 = .ok (.invokevirtual 178, 3) := lw_dr lw_d_cX12_houseTold_0 15 rfl
theorem dX12_houseTold_48 : decode cX12_houseTold 48 = .ok (.ifCond .eq 11, 3) := lw_dr lw_d_cX12_houseTold_0 16 rfl
theorem dX12_houseTold_59 : decode cX12_houseTold 59 = .ok (.aload_n 0, 1) := lw_dr lw_d_cX12_houseTold_0 17 rfl
theorem dX12_houseTold_60 : decode cX12_houseTold 60 = .ok (.aload_n 0, 1) := lw_dr lw_d_cX12_houseTold_0 18 rfl
theorem dX12_houseTold_61 : decode cX12_houseTold 61 = .ok (.getfield 30, 3) := lw_dr lw_d_cX12_houseTold_0 19 rfl
theorem dX12_houseTold_64 : decode cX12_houseTold 64 = .ok (.invokevirtual 178, 3) := lw_dr lw_d_cX12_houseTold_0 20 rfl
theorem dX12_houseTold_67 : decode cX12_houseTold 67 = .ok (.ifCond .eq 20, 3) := lw_dr lw_d_cX12_houseTold_0 21 rfl
theorem dX12_houseTold_87 : decode cX12_houseTold 87 = .ok (.aload_n 0, 1) := lw_dr lw_d_cX12_houseTold_0 22 rfl
theorem dX12_houseTold_88 : decode cX12_houseTold 88 = .ok (.aload_n 0, 1) := lw_dr lw_d_cX12_houseTold_0 23 rfl
theorem dX12_houseTold_89 : decode cX12_houseTold 89 = .ok (.getfield 27, 3) := lw_dr lw_d_cX12_houseTold_0 24 rfl
theorem dX12_houseTold_92 : decode cX12_houseTold 92 = .ok (.invokevirtual 212, 3) := lw_dr lw_d_cX12_houseTold_0 25 rfl
theorem dX12_houseTold_95 : decode cX12_houseTold 95 = .ok (.aload_n 0, 1) := lw_dr lw_d_cX12_houseTold_0 26 rfl
theorem dX12_houseTold_96 : decode cX12_houseTold 96 = .ok (.getfield 151, 3) := lw_dr lw_d_cX12_houseTold_0 27 rfl
theorem dX12_houseTold_99 : decode cX12_houseTold 99 = .ok (.ifCond .ne 8, 3) := lw_dr lw_d_cX12_houseTold_0 28 rfl
theorem dX12_houseTold_107 : decode cX12_houseTold 107 = .ok (.aload_n 0, 1) := lw_dr lw_d_cX12_houseTold_0 29 rfl
theorem dX12_houseTold_108 : decode cX12_houseTold 108 = .ok (.bipush 59, 2) := lw_dr lw_d_cX12_houseTold_0 30 rfl
theorem dX12_houseTold_110 : decode cX12_houseTold 110 = .ok (.invokevirtual 219, 3) := lw_dr lw_d_cX12_houseTold_0 31 rfl
theorem dX12_houseTold_113 : decode cX12_houseTold 113 = .ok (.aload_n 0, 1) := lw_dr lw_d_cX12_houseTold_0 32 rfl
theorem dX12_houseTold_114 : decode cX12_houseTold 114 = .ok (.dup, 1) := lw_dr lw_d_cX12_houseTold_0 33 rfl
theorem dX12_houseTold_115 : decode cX12_houseTold 115 = .ok (.getfield 202, 3) := lw_dr lw_d_cX12_houseTold_0 34 rfl
theorem dX12_houseTold_118 : decode cX12_houseTold 118 = .ok (.iconst 1, 1) := lw_dr lw_d_cX12_houseTold_0 35 rfl
theorem dX12_houseTold_119 : decode cX12_houseTold 119 = .ok (.iadd, 1) := lw_dr lw_d_cX12_houseTold_0 36 rfl
theorem dX12_houseTold_120 : decode cX12_houseTold 120 = .ok (.putfield 202, 3) := lw_dr lw_d_cX12_houseTold_0 37 rfl
theorem dX12_houseTold_123 : decode cX12_houseTold 123 = .ok (.return_, 1) := lw_dr lw_d_cX12_houseTold_0 38 rfl
theorem dX12_houseTold_102 : decode cX12_houseTold 102 = .ok (.aload_n 0, 1) := lw_dr lw_d_cX12_houseTold_0 39 rfl
theorem lw_d_cX12_houseTold_103 : lw_dl cX12_houseTold [(103, .iload_n 1, 1), (104, .invokevirtual 216, 3)] = true := by decide +kernel
theorem dX12_houseTold_103 : decode cX12_houseTold 103 = .ok (.iload_n 1, 1) := lw_dr lw_d_cX12_houseTold_103 0 rfl
theorem dX12_houseTold_104 : decode cX12_houseTold 104 = .ok (.invokevirtual 216, 3) := lw_dr lw_d_cX12_houseTold_103 1 rfl
theorem lw_d_cX12_worthTold_0 : lw_dl cX12_worthTold [(0, .aload_n 0, 1), (1, .getfield 151, 3), (4, .ifCond .ne 20, 3), (24, .aload_n 0, 1), (25, .getfield 151, 3), (28, .ifCond .eq 4, 3), (32, .bipush 8, 2), (34, .aload_n 0, 1), (35, .getfield 81, 3), (38, .iconst 1, 1), (39, .iaload, 1), (40, .iadd, 1), (41, .istore_n 2, 1), (42, .aload_n 0, 1), (43, .getfield 84, 3), (46, .iload_n 2, 1), (47, .aload_n 0, 1), (48, .getfield 222, 3), (51, .iastore, 1), (52, .aload_n 0, 1), (53, .iconst 0, 1), (54, .putfield 259, 3), (57, .aload_n 0, 1), (58, .iconst 0, 1), (59, .putfield 256, 3), (62, .aload_n 0, 1), (63, .iconst 0, 1), (64, .putfield 265, 3), (67, .aload_n 0, 1), (68, .invokevirtual 293, 3)] = true := by decide +kernel
theorem dX12_worthTold_0 : decode cX12_worthTold 0 = .ok (.aload_n 0, 1) := lw_dr lw_d_cX12_worthTold_0 0 rfl
theorem dX12_worthTold_1 : decode cX12_worthTold 1 = .ok (.getfield 151, 3) := lw_dr lw_d_cX12_worthTold_0 1 rfl
theorem dX12_worthTold_4 : decode cX12_worthTold 4 = .ok (.ifCond .ne 20, 3) := lw_dr lw_d_cX12_worthTold_0 2 rfl
theorem dX12_worthTold_24 : decode cX12_worthTold 24 = .ok (.aload_n 0, 1) := lw_dr lw_d_cX12_worthTold_0 3 rfl
theorem dX12_worthTold_25 : decode cX12_worthTold 25 = .ok (.getfield 151, 3) := lw_dr lw_d_cX12_worthTold_0 4 rfl
theorem dX12_worthTold_28 : decode cX12_worthTold 28 = .ok (.ifCond .eq 4, 3) := lw_dr lw_d_cX12_worthTold_0 5 rfl
theorem dX12_worthTold_32 : decode cX12_worthTold 32 = .ok (.bipush 8, 2) := lw_dr lw_d_cX12_worthTold_0 6 rfl
theorem dX12_worthTold_34 : decode cX12_worthTold 34 = .ok (.aload_n 0, 1) := lw_dr lw_d_cX12_worthTold_0 7 rfl
theorem dX12_worthTold_35 : decode cX12_worthTold 35 = .ok (.getfield 81, 3) := lw_dr lw_d_cX12_worthTold_0 8 rfl
theorem dX12_worthTold_38 : decode cX12_worthTold 38 = .ok (.iconst 1, 1) := lw_dr lw_d_cX12_worthTold_0 9 rfl
theorem dX12_worthTold_39 : decode cX12_worthTold 39 = .ok (.iaload, 1) := lw_dr lw_d_cX12_worthTold_0 10 rfl
theorem dX12_worthTold_40 : decode cX12_worthTold 40 = .ok (.iadd, 1) := lw_dr lw_d_cX12_worthTold_0 11 rfl
theorem dX12_worthTold_41 : decode cX12_worthTold 41 = .ok (.istore_n 2, 1) := lw_dr lw_d_cX12_worthTold_0 12 rfl
theorem dX12_worthTold_42 : decode cX12_worthTold 42 = .ok (.aload_n 0, 1) := lw_dr lw_d_cX12_worthTold_0 13 rfl
theorem dX12_worthTold_43 : decode cX12_worthTold 43 = .ok (.getfield 84, 3) := lw_dr lw_d_cX12_worthTold_0 14 rfl
theorem dX12_worthTold_46 : decode cX12_worthTold 46 = .ok (.iload_n 2, 1) := lw_dr lw_d_cX12_worthTold_0 15 rfl
theorem dX12_worthTold_47 : decode cX12_worthTold 47 = .ok (.aload_n 0, 1) := lw_dr lw_d_cX12_worthTold_0 16 rfl
theorem dX12_worthTold_48 : decode cX12_worthTold 48 = .ok (.getfield 222, 3) := lw_dr lw_d_cX12_worthTold_0 17 rfl
theorem dX12_worthTold_51 : decode cX12_worthTold 51 = .ok (.iastore, 1) := lw_dr lw_d_cX12_worthTold_0 18 rfl
theorem dX12_worthTold_52 : decode cX12_worthTold 52 = .ok (.aload_n 0, 1) := lw_dr lw_d_cX12_worthTold_0 19 rfl
theorem dX12_worthTold_53 : decode cX12_worthTold 53 = .ok (.iconst 0, 1) := lw_dr lw_d_cX12_worthTold_0 20 rfl
theorem dX12_worthTold_54 : decode cX12_worthTold 54 = .ok (.putfield 259, 3) := lw_dr lw_d_cX12_worthTold_0 21 rfl
theorem dX12_worthTold_57 : decode cX12_worthTold 57 = .ok (.aload_n 0, 1) := lw_dr lw_d_cX12_worthTold_0 22 rfl
theorem dX12_worthTold_58 : decode cX12_worthTold 58 = .ok (.iconst 0, 1) := lw_dr lw_d_cX12_worthTold_0 23 rfl
theorem dX12_worthTold_59 : decode cX12_worthTold 59 = .ok (.putfield 256, 3) := lw_dr lw_d_cX12_worthTold_0 24 rfl
theorem dX12_worthTold_62 : decode cX12_worthTold 62 = .ok (.aload_n 0, 1) := lw_dr lw_d_cX12_worthTold_0 25 rfl
theorem dX12_worthTold_63 : decode cX12_worthTold 63 = .ok (.iconst 0, 1) := lw_dr lw_d_cX12_worthTold_0 26 rfl
theorem dX12_worthTold_64 : decode cX12_worthTold 64 = .ok (.putfield 265, 3) := lw_dr lw_d_cX12_worthTold_0 27 rfl
theorem dX12_worthTold_67 : decode cX12_worthTold 67 = .ok (.aload_n 0, 1) := lw_dr lw_d_cX12_worthTold_0 28 rfl
theorem dX12_worthTold_68 : decode cX12_worthTold 68 = .ok (.invokevirtual 293, 3) := lw_dr lw_d_cX12_worthTold_0 29 rfl
theorem lw_d_cX12_sumsTold_0 : lw_dl cX12_sumsTold [(0, .aload_n 0, 1), (1, .getfield 265, 3), (4, .istore_n 1, 1), (5, .aload_n 0, 1), (6, .aload_n 0, 1), (7, .getfield 259, 3), (10, .putfield 265, 3), (13, .iconst 1, 1), (14, .istore_n 2, 1), (15, .iload_n 2, 1), (16, .ifCond .eq 37, 3), (19, .aload_n 0, 1), (20, .getfield 151, 3), (23, .ifCond .ne 30, 3), (53, .aload_n 0, 1), (54, .getfield 151, 3), (57, .ifCond .ne 21, 3), (78, .aload_n 0, 1), (79, .iload_n 1, 1), (80, .putfield 265, 3), (83, .return_, 1), (60, .aload_n 0, 1), (61, .getfield 259, 3), (64, .aload_n 0, 1), (65, .getfield 265, 3), (68, .if_icmp .le 10, 3), (26, .aload_n 0, 1), (27, .invokevirtual 286, 3)] = true := by decide +kernel
theorem dX12_sumsTold_0 : decode cX12_sumsTold 0 = .ok (.aload_n 0, 1) := lw_dr lw_d_cX12_sumsTold_0 0 rfl
theorem dX12_sumsTold_1 : decode cX12_sumsTold 1 = .ok (.getfield 265, 3) := lw_dr lw_d_cX12_sumsTold_0 1 rfl
theorem dX12_sumsTold_4 : decode cX12_sumsTold 4 = .ok (.istore_n 1, 1) := lw_dr lw_d_cX12_sumsTold_0 2 rfl
theorem dX12_sumsTold_5 : decode cX12_sumsTold 5 = .ok (.aload_n 0, 1) := lw_dr lw_d_cX12_sumsTold_0 3 rfl
theorem dX12_sumsTold_6 : decode cX12_sumsTold 6 = .ok (.aload_n 0, 1) := lw_dr lw_d_cX12_sumsTold_0 4 rfl
theorem dX12_sumsTold_7 : decode cX12_sumsTold 7 = .ok (.getfield 259, 3) := lw_dr lw_d_cX12_sumsTold_0 5 rfl
theorem dX12_sumsTold_10 : decode cX12_sumsTold 10 = .ok (.putfield 265, 3) := lw_dr lw_d_cX12_sumsTold_0 6 rfl
theorem dX12_sumsTold_13 : decode cX12_sumsTold 13 = .ok (.iconst 1, 1) := lw_dr lw_d_cX12_sumsTold_0 7 rfl
theorem dX12_sumsTold_14 : decode cX12_sumsTold 14 = .ok (.istore_n 2, 1) := lw_dr lw_d_cX12_sumsTold_0 8 rfl
theorem dX12_sumsTold_15 : decode cX12_sumsTold 15 = .ok (.iload_n 2, 1) := lw_dr lw_d_cX12_sumsTold_0 9 rfl
theorem dX12_sumsTold_16 : decode cX12_sumsTold 16 = .ok (.ifCond .eq 37, 3) := lw_dr lw_d_cX12_sumsTold_0 10 rfl
theorem dX12_sumsTold_19 : decode cX12_sumsTold 19 = .ok (.aload_n 0, 1) := lw_dr lw_d_cX12_sumsTold_0 11 rfl
theorem dX12_sumsTold_20 : decode cX12_sumsTold 20 = .ok (.getfield 151, 3) := lw_dr lw_d_cX12_sumsTold_0 12 rfl
theorem dX12_sumsTold_23 : decode cX12_sumsTold 23 = .ok (.ifCond .ne 30, 3) := lw_dr lw_d_cX12_sumsTold_0 13 rfl
theorem dX12_sumsTold_53 : decode cX12_sumsTold 53 = .ok (.aload_n 0, 1) := lw_dr lw_d_cX12_sumsTold_0 14 rfl
theorem dX12_sumsTold_54 : decode cX12_sumsTold 54 = .ok (.getfield 151, 3) := lw_dr lw_d_cX12_sumsTold_0 15 rfl
theorem dX12_sumsTold_57 : decode cX12_sumsTold 57 = .ok (.ifCond .ne 21, 3) := lw_dr lw_d_cX12_sumsTold_0 16 rfl
theorem dX12_sumsTold_78 : decode cX12_sumsTold 78 = .ok (.aload_n 0, 1) := lw_dr lw_d_cX12_sumsTold_0 17 rfl
theorem dX12_sumsTold_79 : decode cX12_sumsTold 79 = .ok (.iload_n 1, 1) := lw_dr lw_d_cX12_sumsTold_0 18 rfl
theorem dX12_sumsTold_80 : decode cX12_sumsTold 80 = .ok (.putfield 265, 3) := lw_dr lw_d_cX12_sumsTold_0 19 rfl
theorem dX12_sumsTold_83 : decode cX12_sumsTold 83 = .ok (.return_, 1) := lw_dr lw_d_cX12_sumsTold_0 20 rfl
theorem dX12_sumsTold_60 : decode cX12_sumsTold 60 = .ok (.aload_n 0, 1) := lw_dr lw_d_cX12_sumsTold_0 21 rfl
theorem dX12_sumsTold_61 : decode cX12_sumsTold 61 = .ok (.getfield 259, 3) := lw_dr lw_d_cX12_sumsTold_0 22 rfl
theorem dX12_sumsTold_64 : decode cX12_sumsTold 64 = .ok (.aload_n 0, 1) := lw_dr lw_d_cX12_sumsTold_0 23 rfl
theorem dX12_sumsTold_65 : decode cX12_sumsTold 65 = .ok (.getfield 265, 3) := lw_dr lw_d_cX12_sumsTold_0 24 rfl
theorem dX12_sumsTold_68 : decode cX12_sumsTold 68 = .ok (.if_icmp .le 10, 3) := lw_dr lw_d_cX12_sumsTold_0 25 rfl
theorem dX12_sumsTold_26 : decode cX12_sumsTold 26 = .ok (.aload_n 0, 1) := lw_dr lw_d_cX12_sumsTold_0 26 rfl
theorem dX12_sumsTold_27 : decode cX12_sumsTold 27 = .ok (.invokevirtual 286, 3) := lw_dr lw_d_cX12_sumsTold_0 27 rfl
theorem lw_d_cX12_onePart_0 : lw_dl cX12_onePart [(0, .iconst 1, 1), (1, .istore_n 1, 1), (2, .iload_n 1, 1), (3, .ifCond .eq 143, 3), (6, .aload_n 0, 1), (7, .getfield 151, 3), (10, .ifCond .ne 136, 3), (146, .aload_n 0, 1), (147, .getfield 151, 3), (150, .ifCond .eq 4, 3), (154, .aload_n 0, 1), (155, .aload_n 0, 1), (156, .getfield 48, 3), (159, .invokevirtual 178, 3), (162, .ifCond .eq 8, 3), (170, .aload_n 0, 1), (171, .aload_n 0, 1), (172, .getfield 51, 3), (175, .invokevirtual 178, 3), (178, .ifCond .eq 8, 3), (186, .aload_n 0, 1), (187, .aload_n 0, 1), (188, .getfield 54, 3), (191, .invokevirtual 178, 3), (194, .ifCond .eq 8, 3), (202, .iconst (-1), 1), (203, .istore_n 2, 1), (204, .aload_n 0, 1), (205, .iload_n 2, 1), (206, .iconst (-1), 1), (207, .if_icmp .eq 7, 3), (214, .sipush 1000, 3), (217, .aload_n 0, 1), (218, .iconst 0, 1), (219, .sipush 9999, 3), (222, .invokevirtual 195, 3), (225, .iadd, 1), (226, .invokevirtual 262, 3), (229, .return_, 1), (197, .bipush 9, 2)] = true := by decide +kernel
theorem dX12_onePart_0 : decode cX12_onePart 0 = .ok (.iconst 1, 1) := lw_dr lw_d_cX12_onePart_0 0 rfl
theorem dX12_onePart_1 : decode cX12_onePart 1 = .ok (.istore_n 1, 1) := lw_dr lw_d_cX12_onePart_0 1 rfl
theorem dX12_onePart_2 : decode cX12_onePart 2 = .ok (.iload_n 1, 1) := lw_dr lw_d_cX12_onePart_0 2 rfl
theorem dX12_onePart_3 : decode cX12_onePart 3 = .ok (.ifCond .eq 143, 3) := lw_dr lw_d_cX12_onePart_0 3 rfl
theorem dX12_onePart_6 : decode cX12_onePart 6 = .ok (.aload_n 0, 1) := lw_dr lw_d_cX12_onePart_0 4 rfl
theorem dX12_onePart_7 : decode cX12_onePart 7 = .ok (.getfield 151, 3) := lw_dr lw_d_cX12_onePart_0 5 rfl
theorem dX12_onePart_10 : decode cX12_onePart 10 = .ok (.ifCond .ne 136, 3) := lw_dr lw_d_cX12_onePart_0 6 rfl
theorem dX12_onePart_146 : decode cX12_onePart 146 = .ok (.aload_n 0, 1) := lw_dr lw_d_cX12_onePart_0 7 rfl
theorem dX12_onePart_147 : decode cX12_onePart 147 = .ok (.getfield 151, 3) := lw_dr lw_d_cX12_onePart_0 8 rfl
theorem dX12_onePart_150 : decode cX12_onePart 150 = .ok (.ifCond .eq 4, 3) := lw_dr lw_d_cX12_onePart_0 9 rfl
theorem dX12_onePart_154 : decode cX12_onePart 154 = .ok (.aload_n 0, 1) := lw_dr lw_d_cX12_onePart_0 10 rfl
theorem dX12_onePart_155 : decode cX12_onePart 155 = .ok (.aload_n 0, 1) := lw_dr lw_d_cX12_onePart_0 11 rfl
theorem dX12_onePart_156 : decode cX12_onePart 156 = .ok (.getfield 48, 3) := lw_dr lw_d_cX12_onePart_0 12 rfl
theorem dX12_onePart_159 : decode cX12_onePart 159 = .ok (.invokevirtual 178, 3) := lw_dr lw_d_cX12_onePart_0 13 rfl
theorem dX12_onePart_162 : decode cX12_onePart 162 = .ok (.ifCond .eq 8, 3) := lw_dr lw_d_cX12_onePart_0 14 rfl
theorem dX12_onePart_170 : decode cX12_onePart 170 = .ok (.aload_n 0, 1) := lw_dr lw_d_cX12_onePart_0 15 rfl
theorem dX12_onePart_171 : decode cX12_onePart 171 = .ok (.aload_n 0, 1) := lw_dr lw_d_cX12_onePart_0 16 rfl
theorem dX12_onePart_172 : decode cX12_onePart 172 = .ok (.getfield 51, 3) := lw_dr lw_d_cX12_onePart_0 17 rfl
theorem dX12_onePart_175 : decode cX12_onePart 175 = .ok (.invokevirtual 178, 3) := lw_dr lw_d_cX12_onePart_0 18 rfl
theorem dX12_onePart_178 : decode cX12_onePart 178 = .ok (.ifCond .eq 8, 3) := lw_dr lw_d_cX12_onePart_0 19 rfl
theorem dX12_onePart_186 : decode cX12_onePart 186 = .ok (.aload_n 0, 1) := lw_dr lw_d_cX12_onePart_0 20 rfl
theorem dX12_onePart_187 : decode cX12_onePart 187 = .ok (.aload_n 0, 1) := lw_dr lw_d_cX12_onePart_0 21 rfl
theorem dX12_onePart_188 : decode cX12_onePart 188 = .ok (.getfield 54, 3) := lw_dr lw_d_cX12_onePart_0 22 rfl
theorem dX12_onePart_191 : decode cX12_onePart 191 = .ok (.invokevirtual 178, 3) := lw_dr lw_d_cX12_onePart_0 23 rfl
theorem dX12_onePart_194 : decode cX12_onePart 194 = .ok (.ifCond .eq 8, 3) := lw_dr lw_d_cX12_onePart_0 24 rfl
theorem dX12_onePart_202 : decode cX12_onePart 202 = .ok (.iconst (-1), 1) := lw_dr lw_d_cX12_onePart_0 25 rfl
theorem dX12_onePart_203 : decode cX12_onePart 203 = .ok (.istore_n 2, 1) := lw_dr lw_d_cX12_onePart_0 26 rfl
theorem dX12_onePart_204 : decode cX12_onePart 204 = .ok (.aload_n 0, 1) := lw_dr lw_d_cX12_onePart_0 27 rfl
theorem dX12_onePart_205 : decode cX12_onePart 205 = .ok (.iload_n 2, 1) := lw_dr lw_d_cX12_onePart_0 28 rfl
theorem dX12_onePart_206 : decode cX12_onePart 206 = .ok (.iconst (-1), 1) := lw_dr lw_d_cX12_onePart_0 29 rfl
theorem dX12_onePart_207 : decode cX12_onePart 207 = .ok (.if_icmp .eq 7, 3) := lw_dr lw_d_cX12_onePart_0 30 rfl
theorem dX12_onePart_214 : decode cX12_onePart 214 = .ok (.sipush 1000, 3) := lw_dr lw_d_cX12_onePart_0 31 rfl
theorem dX12_onePart_217 : decode cX12_onePart 217 = .ok (.aload_n 0, 1) := lw_dr lw_d_cX12_onePart_0 32 rfl
theorem dX12_onePart_218 : decode cX12_onePart 218 = .ok (.iconst 0, 1) := lw_dr lw_d_cX12_onePart_0 33 rfl
theorem dX12_onePart_219 : decode cX12_onePart 219 = .ok (.sipush 9999, 3) := lw_dr lw_d_cX12_onePart_0 34 rfl
theorem dX12_onePart_222 : decode cX12_onePart 222 = .ok (.invokevirtual 195, 3) := lw_dr lw_d_cX12_onePart_0 35 rfl
theorem dX12_onePart_225 : decode cX12_onePart 225 = .ok (.iadd, 1) := lw_dr lw_d_cX12_onePart_0 36 rfl
theorem dX12_onePart_226 : decode cX12_onePart 226 = .ok (.invokevirtual 262, 3) := lw_dr lw_d_cX12_onePart_0 37 rfl
theorem dX12_onePart_229 : decode cX12_onePart 229 = .ok (.return_, 1) := lw_dr lw_d_cX12_onePart_0 38 rfl
theorem dX12_onePart_197 : decode cX12_onePart 197 = .ok (.bipush 9, 2) := lw_dr lw_d_cX12_onePart_0 39 rfl
theorem lw_d_cX12_onePart_199 : lw_dl cX12_onePart [(199, .goto 4, 3), (210, .iload_n 2, 1), (211, .goto 15, 3), (181, .bipush 8, 2), (183, .goto 20, 3), (165, .bipush 7, 2), (167, .goto 36, 3), (153, .return_, 1), (13, .aload_n 0, 1), (14, .invokevirtual 163, 3), (17, .istore_n 2, 1), (18, .iload_n 2, 1), (19, .bipush 40, 2), (21, .if_icmp .ne 26, 3), (47, .aload_n 0, 1), (48, .aload_n 0, 1), (49, .getfield 57, 3), (52, .invokevirtual 174, 3), (55, .ifCond .ne 14, 3), (69, .aload_n 0, 1), (70, .aload_n 0, 1), (71, .getfield 57, 3), (74, .invokevirtual 178, 3), (77, .istore_n 3, 1), (78, .iload_n 3, 1), (79, .ifCond .ne 11, 3), (90, .aload_n 0, 1), (91, .invokevirtual 163, 3), (94, .bipush 40, 2), (96, .if_icmp .ne 10, 3), (106, .iconst (-1), 1), (107, .istore 4, 2), (109, .iload 4, 2), (111, .iconst (-1), 1), (112, .if_icmp .eq 20, 3), (132, .aload_n 0, 1), (133, .bipush 40, 2), (135, .invokevirtual 219, 3), (138, .goto 5, 3), (143, .goto (-141), 3)] = true := by decide +kernel
theorem dX12_onePart_199 : decode cX12_onePart 199 = .ok (.goto 4, 3) := lw_dr lw_d_cX12_onePart_199 0 rfl
theorem dX12_onePart_210 : decode cX12_onePart 210 = .ok (.iload_n 2, 1) := lw_dr lw_d_cX12_onePart_199 1 rfl
theorem dX12_onePart_211 : decode cX12_onePart 211 = .ok (.goto 15, 3) := lw_dr lw_d_cX12_onePart_199 2 rfl
theorem dX12_onePart_181 : decode cX12_onePart 181 = .ok (.bipush 8, 2) := lw_dr lw_d_cX12_onePart_199 3 rfl
theorem dX12_onePart_183 : decode cX12_onePart 183 = .ok (.goto 20, 3) := lw_dr lw_d_cX12_onePart_199 4 rfl
theorem dX12_onePart_165 : decode cX12_onePart 165 = .ok (.bipush 7, 2) := lw_dr lw_d_cX12_onePart_199 5 rfl
theorem dX12_onePart_167 : decode cX12_onePart 167 = .ok (.goto 36, 3) := lw_dr lw_d_cX12_onePart_199 6 rfl
theorem dX12_onePart_153 : decode cX12_onePart 153 = .ok (.return_, 1) := lw_dr lw_d_cX12_onePart_199 7 rfl
theorem dX12_onePart_13 : decode cX12_onePart 13 = .ok (.aload_n 0, 1) := lw_dr lw_d_cX12_onePart_199 8 rfl
theorem dX12_onePart_14 : decode cX12_onePart 14 = .ok (.invokevirtual 163, 3) := lw_dr lw_d_cX12_onePart_199 9 rfl
theorem dX12_onePart_17 : decode cX12_onePart 17 = .ok (.istore_n 2, 1) := lw_dr lw_d_cX12_onePart_199 10 rfl
theorem dX12_onePart_18 : decode cX12_onePart 18 = .ok (.iload_n 2, 1) := lw_dr lw_d_cX12_onePart_199 11 rfl
theorem dX12_onePart_19 : decode cX12_onePart 19 = .ok (.bipush 40, 2) := lw_dr lw_d_cX12_onePart_199 12 rfl
theorem dX12_onePart_21 : decode cX12_onePart 21 = .ok (.if_icmp .ne 26, 3) := lw_dr lw_d_cX12_onePart_199 13 rfl
theorem dX12_onePart_47 : decode cX12_onePart 47 = .ok (.aload_n 0, 1) := lw_dr lw_d_cX12_onePart_199 14 rfl
theorem dX12_onePart_48 : decode cX12_onePart 48 = .ok (.aload_n 0, 1) := lw_dr lw_d_cX12_onePart_199 15 rfl
theorem dX12_onePart_49 : decode cX12_onePart 49 = .ok (.getfield 57, 3) := lw_dr lw_d_cX12_onePart_199 16 rfl
theorem dX12_onePart_52 : decode cX12_onePart 52 = .ok (.invokevirtual 174, 3) := lw_dr lw_d_cX12_onePart_199 17 rfl
theorem dX12_onePart_55 : decode cX12_onePart 55 = .ok (.ifCond .ne 14, 3) := lw_dr lw_d_cX12_onePart_199 18 rfl
theorem dX12_onePart_69 : decode cX12_onePart 69 = .ok (.aload_n 0, 1) := lw_dr lw_d_cX12_onePart_199 19 rfl
theorem dX12_onePart_70 : decode cX12_onePart 70 = .ok (.aload_n 0, 1) := lw_dr lw_d_cX12_onePart_199 20 rfl
theorem dX12_onePart_71 : decode cX12_onePart 71 = .ok (.getfield 57, 3) := lw_dr lw_d_cX12_onePart_199 21 rfl
theorem dX12_onePart_74 : decode cX12_onePart 74 = .ok (.invokevirtual 178, 3) := lw_dr lw_d_cX12_onePart_199 22 rfl
theorem dX12_onePart_77 : decode cX12_onePart 77 = .ok (.istore_n 3, 1) := lw_dr lw_d_cX12_onePart_199 23 rfl
theorem dX12_onePart_78 : decode cX12_onePart 78 = .ok (.iload_n 3, 1) := lw_dr lw_d_cX12_onePart_199 24 rfl
theorem dX12_onePart_79 : decode cX12_onePart 79 = .ok (.ifCond .ne 11, 3) := lw_dr lw_d_cX12_onePart_199 25 rfl
theorem dX12_onePart_90 : decode cX12_onePart 90 = .ok (.aload_n 0, 1) := lw_dr lw_d_cX12_onePart_199 26 rfl
theorem dX12_onePart_91 : decode cX12_onePart 91 = .ok (.invokevirtual 163, 3) := lw_dr lw_d_cX12_onePart_199 27 rfl
theorem dX12_onePart_94 : decode cX12_onePart 94 = .ok (.bipush 40, 2) := lw_dr lw_d_cX12_onePart_199 28 rfl
theorem dX12_onePart_96 : decode cX12_onePart 96 = .ok (.if_icmp .ne 10, 3) := lw_dr lw_d_cX12_onePart_199 29 rfl
theorem dX12_onePart_106 : decode cX12_onePart 106 = .ok (.iconst (-1), 1) := lw_dr lw_d_cX12_onePart_199 30 rfl
theorem dX12_onePart_107 : decode cX12_onePart 107 = .ok (.istore 4, 2) := lw_dr lw_d_cX12_onePart_199 31 rfl
theorem dX12_onePart_109 : decode cX12_onePart 109 = .ok (.iload 4, 2) := lw_dr lw_d_cX12_onePart_199 32 rfl
theorem dX12_onePart_111 : decode cX12_onePart 111 = .ok (.iconst (-1), 1) := lw_dr lw_d_cX12_onePart_199 33 rfl
theorem dX12_onePart_112 : decode cX12_onePart 112 = .ok (.if_icmp .eq 20, 3) := lw_dr lw_d_cX12_onePart_199 34 rfl
theorem dX12_onePart_132 : decode cX12_onePart 132 = .ok (.aload_n 0, 1) := lw_dr lw_d_cX12_onePart_199 35 rfl
theorem dX12_onePart_133 : decode cX12_onePart 133 = .ok (.bipush 40, 2) := lw_dr lw_d_cX12_onePart_199 36 rfl
theorem dX12_onePart_135 : decode cX12_onePart 135 = .ok (.invokevirtual 219, 3) := lw_dr lw_d_cX12_onePart_199 37 rfl
theorem dX12_onePart_138 : decode cX12_onePart 138 = .ok (.goto 5, 3) := lw_dr lw_d_cX12_onePart_199 38 rfl
theorem dX12_onePart_143 : decode cX12_onePart 143 = .ok (.goto (-141), 3) := lw_dr lw_d_cX12_onePart_199 39 rfl
theorem lw_d_cX12_onePart_99 : lw_dl cX12_onePart [(99, .aload_n 0, 1), (100, .getfield 157, 3), (103, .goto 4, 3), (115, .aload_n 0, 1), (116, .iload_n 3, 1), (117, .ifCond .eq 8, 3), (120, .bipush 21, 2), (122, .goto 5, 3), (127, .iload 4, 2), (129, .invokevirtual 274, 3), (82, .aload_n 0, 1), (83, .aload_n 0, 1), (84, .getfield 60, 3), (87, .invokevirtual 212, 3), (125, .bipush 22, 2), (58, .aload_n 0, 1), (59, .aload_n 0, 1), (60, .getfield 60, 3), (63, .invokevirtual 174, 3), (66, .ifCond .eq 75, 3), (141, .iconst 0, 1), (142, .istore_n 1, 1), (24, .aload_n 0, 1), (25, .bipush 20, 2), (27, .aload_n 0, 1), (28, .getfield 157, 3), (31, .invokevirtual 274, 3), (34, .aload_n 0, 1), (35, .dup, 1), (36, .getfield 157, 3), (39, .iconst 1, 1), (40, .iadd, 1), (41, .putfield 157, 3), (44, .goto 99, 3)] = true := by decide +kernel
theorem dX12_onePart_99 : decode cX12_onePart 99 = .ok (.aload_n 0, 1) := lw_dr lw_d_cX12_onePart_99 0 rfl
theorem dX12_onePart_100 : decode cX12_onePart 100 = .ok (.getfield 157, 3) := lw_dr lw_d_cX12_onePart_99 1 rfl
theorem dX12_onePart_103 : decode cX12_onePart 103 = .ok (.goto 4, 3) := lw_dr lw_d_cX12_onePart_99 2 rfl
theorem dX12_onePart_115 : decode cX12_onePart 115 = .ok (.aload_n 0, 1) := lw_dr lw_d_cX12_onePart_99 3 rfl
theorem dX12_onePart_116 : decode cX12_onePart 116 = .ok (.iload_n 3, 1) := lw_dr lw_d_cX12_onePart_99 4 rfl
theorem dX12_onePart_117 : decode cX12_onePart 117 = .ok (.ifCond .eq 8, 3) := lw_dr lw_d_cX12_onePart_99 5 rfl
theorem dX12_onePart_120 : decode cX12_onePart 120 = .ok (.bipush 21, 2) := lw_dr lw_d_cX12_onePart_99 6 rfl
theorem dX12_onePart_122 : decode cX12_onePart 122 = .ok (.goto 5, 3) := lw_dr lw_d_cX12_onePart_99 7 rfl
theorem dX12_onePart_127 : decode cX12_onePart 127 = .ok (.iload 4, 2) := lw_dr lw_d_cX12_onePart_99 8 rfl
theorem dX12_onePart_129 : decode cX12_onePart 129 = .ok (.invokevirtual 274, 3) := lw_dr lw_d_cX12_onePart_99 9 rfl
theorem dX12_onePart_82 : decode cX12_onePart 82 = .ok (.aload_n 0, 1) := lw_dr lw_d_cX12_onePart_99 10 rfl
theorem dX12_onePart_83 : decode cX12_onePart 83 = .ok (.aload_n 0, 1) := lw_dr lw_d_cX12_onePart_99 11 rfl
theorem dX12_onePart_84 : decode cX12_onePart 84 = .ok (.getfield 60, 3) := lw_dr lw_d_cX12_onePart_99 12 rfl
theorem dX12_onePart_87 : decode cX12_onePart 87 = .ok (.invokevirtual 212, 3) := lw_dr lw_d_cX12_onePart_99 13 rfl
theorem dX12_onePart_125 : decode cX12_onePart 125 = .ok (.bipush 22, 2) := lw_dr lw_d_cX12_onePart_99 14 rfl
theorem dX12_onePart_58 : decode cX12_onePart 58 = .ok (.aload_n 0, 1) := lw_dr lw_d_cX12_onePart_99 15 rfl
theorem dX12_onePart_59 : decode cX12_onePart 59 = .ok (.aload_n 0, 1) := lw_dr lw_d_cX12_onePart_99 16 rfl
theorem dX12_onePart_60 : decode cX12_onePart 60 = .ok (.getfield 60, 3) := lw_dr lw_d_cX12_onePart_99 17 rfl
theorem dX12_onePart_63 : decode cX12_onePart 63 = .ok (.invokevirtual 174, 3) := lw_dr lw_d_cX12_onePart_99 18 rfl
theorem dX12_onePart_66 : decode cX12_onePart 66 = .ok (.ifCond .eq 75, 3) := lw_dr lw_d_cX12_onePart_99 19 rfl
theorem dX12_onePart_141 : decode cX12_onePart 141 = .ok (.iconst 0, 1) := lw_dr lw_d_cX12_onePart_99 20 rfl
theorem dX12_onePart_142 : decode cX12_onePart 142 = .ok (.istore_n 1, 1) := lw_dr lw_d_cX12_onePart_99 21 rfl
theorem dX12_onePart_24 : decode cX12_onePart 24 = .ok (.aload_n 0, 1) := lw_dr lw_d_cX12_onePart_99 22 rfl
theorem dX12_onePart_25 : decode cX12_onePart 25 = .ok (.bipush 20, 2) := lw_dr lw_d_cX12_onePart_99 23 rfl
theorem dX12_onePart_27 : decode cX12_onePart 27 = .ok (.aload_n 0, 1) := lw_dr lw_d_cX12_onePart_99 24 rfl
theorem dX12_onePart_28 : decode cX12_onePart 28 = .ok (.getfield 157, 3) := lw_dr lw_d_cX12_onePart_99 25 rfl
theorem dX12_onePart_31 : decode cX12_onePart 31 = .ok (.invokevirtual 274, 3) := lw_dr lw_d_cX12_onePart_99 26 rfl
theorem dX12_onePart_34 : decode cX12_onePart 34 = .ok (.aload_n 0, 1) := lw_dr lw_d_cX12_onePart_99 27 rfl
theorem dX12_onePart_35 : decode cX12_onePart 35 = .ok (.dup, 1) := lw_dr lw_d_cX12_onePart_99 28 rfl
theorem dX12_onePart_36 : decode cX12_onePart 36 = .ok (.getfield 157, 3) := lw_dr lw_d_cX12_onePart_99 29 rfl
theorem dX12_onePart_39 : decode cX12_onePart 39 = .ok (.iconst 1, 1) := lw_dr lw_d_cX12_onePart_99 30 rfl
theorem dX12_onePart_40 : decode cX12_onePart 40 = .ok (.iadd, 1) := lw_dr lw_d_cX12_onePart_99 31 rfl
theorem dX12_onePart_41 : decode cX12_onePart 41 = .ok (.putfield 157, 3) := lw_dr lw_d_cX12_onePart_99 32 rfl
theorem dX12_onePart_44 : decode cX12_onePart 44 = .ok (.goto 99, 3) := lw_dr lw_d_cX12_onePart_99 33 rfl
theorem lw_d_cX12_lay_0 : lw_dl cX12_lay [(0, .aload_n 0, 1), (1, .getfield 75, 3), (4, .sipush 1600, 3), (7, .aload_n 0, 1), (8, .getfield 222, 3), (11, .iadd, 1), (12, .iload_n 1, 1), (13, .iastore, 1), (14, .aload_n 0, 1), (15, .dup, 1), (16, .getfield 222, 3), (19, .iconst 1, 1), (20, .iadd, 1), (21, .putfield 222, 3), (24, .return_, 1)] = true := by decide +kernel
theorem dX12_lay_0 : decode cX12_lay 0 = .ok (.aload_n 0, 1) := lw_dr lw_d_cX12_lay_0 0 rfl
theorem dX12_lay_1 : decode cX12_lay 1 = .ok (.getfield 75, 3) := lw_dr lw_d_cX12_lay_0 1 rfl
theorem dX12_lay_4 : decode cX12_lay 4 = .ok (.sipush 1600, 3) := lw_dr lw_d_cX12_lay_0 2 rfl
theorem dX12_lay_7 : decode cX12_lay 7 = .ok (.aload_n 0, 1) := lw_dr lw_d_cX12_lay_0 3 rfl
theorem dX12_lay_8 : decode cX12_lay 8 = .ok (.getfield 222, 3) := lw_dr lw_d_cX12_lay_0 4 rfl
theorem dX12_lay_11 : decode cX12_lay 11 = .ok (.iadd, 1) := lw_dr lw_d_cX12_lay_0 5 rfl
theorem dX12_lay_12 : decode cX12_lay 12 = .ok (.iload_n 1, 1) := lw_dr lw_d_cX12_lay_0 6 rfl
theorem dX12_lay_13 : decode cX12_lay 13 = .ok (.iastore, 1) := lw_dr lw_d_cX12_lay_0 7 rfl
theorem dX12_lay_14 : decode cX12_lay 14 = .ok (.aload_n 0, 1) := lw_dr lw_d_cX12_lay_0 8 rfl
theorem dX12_lay_15 : decode cX12_lay 15 = .ok (.dup, 1) := lw_dr lw_d_cX12_lay_0 9 rfl
theorem dX12_lay_16 : decode cX12_lay 16 = .ok (.getfield 222, 3) := lw_dr lw_d_cX12_lay_0 10 rfl
theorem dX12_lay_19 : decode cX12_lay 19 = .ok (.iconst 1, 1) := lw_dr lw_d_cX12_lay_0 11 rfl
theorem dX12_lay_20 : decode cX12_lay 20 = .ok (.iadd, 1) := lw_dr lw_d_cX12_lay_0 12 rfl
theorem dX12_lay_21 : decode cX12_lay 21 = .ok (.putfield 222, 3) := lw_dr lw_d_cX12_lay_0 13 rfl
theorem dX12_lay_24 : decode cX12_lay 24 = .ok (.return_, 1) := lw_dr lw_d_cX12_lay_0 14 rfl
theorem lw_d_cX12_opens_0 : lw_dl cX12_opens [(0, .aload_n 0, 1), (1, .getfield 256, 3), (4, .bipush 6, 2), (6, .if_icmp .ne 10, 3), (16, .aload_n 0, 1), (17, .dup, 1), (18, .getfield 256, 3), (21, .iconst 1, 1), (22, .iadd, 1), (23, .putfield 256, 3), (26, .aload_n 0, 1), (27, .getfield 78, 3), (30, .aload_n 0, 1), (31, .getfield 259, 3), (34, .iload_n 1, 1), (35, .iastore, 1), (36, .aload_n 0, 1), (37, .dup, 1), (38, .getfield 259, 3), (41, .iconst 1, 1), (42, .iadd, 1), (43, .putfield 259, 3), (46, .return_, 1), (9, .aload_n 0, 1), (10, .iconst 3, 1), (11, .iload_n 2, 1), (12, .invokevirtual 181, 3), (15, .return_, 1)] = true := by decide +kernel
theorem dX12_opens_0 : decode cX12_opens 0 = .ok (.aload_n 0, 1) := lw_dr lw_d_cX12_opens_0 0 rfl
theorem dX12_opens_1 : decode cX12_opens 1 = .ok (.getfield 256, 3) := lw_dr lw_d_cX12_opens_0 1 rfl
theorem dX12_opens_4 : decode cX12_opens 4 = .ok (.bipush 6, 2) := lw_dr lw_d_cX12_opens_0 2 rfl
theorem dX12_opens_6 : decode cX12_opens 6 = .ok (.if_icmp .ne 10, 3) := lw_dr lw_d_cX12_opens_0 3 rfl
theorem dX12_opens_16 : decode cX12_opens 16 = .ok (.aload_n 0, 1) := lw_dr lw_d_cX12_opens_0 4 rfl
theorem dX12_opens_17 : decode cX12_opens 17 = .ok (.dup, 1) := lw_dr lw_d_cX12_opens_0 5 rfl
theorem dX12_opens_18 : decode cX12_opens 18 = .ok (.getfield 256, 3) := lw_dr lw_d_cX12_opens_0 6 rfl
theorem dX12_opens_21 : decode cX12_opens 21 = .ok (.iconst 1, 1) := lw_dr lw_d_cX12_opens_0 7 rfl
theorem dX12_opens_22 : decode cX12_opens 22 = .ok (.iadd, 1) := lw_dr lw_d_cX12_opens_0 8 rfl
theorem dX12_opens_23 : decode cX12_opens 23 = .ok (.putfield 256, 3) := lw_dr lw_d_cX12_opens_0 9 rfl
theorem dX12_opens_26 : decode cX12_opens 26 = .ok (.aload_n 0, 1) := lw_dr lw_d_cX12_opens_0 10 rfl
theorem dX12_opens_27 : decode cX12_opens 27 = .ok (.getfield 78, 3) := lw_dr lw_d_cX12_opens_0 11 rfl
theorem dX12_opens_30 : decode cX12_opens 30 = .ok (.aload_n 0, 1) := lw_dr lw_d_cX12_opens_0 12 rfl
theorem dX12_opens_31 : decode cX12_opens 31 = .ok (.getfield 259, 3) := lw_dr lw_d_cX12_opens_0 13 rfl
theorem dX12_opens_34 : decode cX12_opens 34 = .ok (.iload_n 1, 1) := lw_dr lw_d_cX12_opens_0 14 rfl
theorem dX12_opens_35 : decode cX12_opens 35 = .ok (.iastore, 1) := lw_dr lw_d_cX12_opens_0 15 rfl
theorem dX12_opens_36 : decode cX12_opens 36 = .ok (.aload_n 0, 1) := lw_dr lw_d_cX12_opens_0 16 rfl
theorem dX12_opens_37 : decode cX12_opens 37 = .ok (.dup, 1) := lw_dr lw_d_cX12_opens_0 17 rfl
theorem dX12_opens_38 : decode cX12_opens 38 = .ok (.getfield 259, 3) := lw_dr lw_d_cX12_opens_0 18 rfl
theorem dX12_opens_41 : decode cX12_opens 41 = .ok (.iconst 1, 1) := lw_dr lw_d_cX12_opens_0 19 rfl
theorem dX12_opens_42 : decode cX12_opens 42 = .ok (.iadd, 1) := lw_dr lw_d_cX12_opens_0 20 rfl
theorem dX12_opens_43 : decode cX12_opens 43 = .ok (.putfield 259, 3) := lw_dr lw_d_cX12_opens_0 21 rfl
theorem dX12_opens_46 : decode cX12_opens 46 = .ok (.return_, 1) := lw_dr lw_d_cX12_opens_0 22 rfl
theorem dX12_opens_9 : decode cX12_opens 9 = .ok (.aload_n 0, 1) := lw_dr lw_d_cX12_opens_0 23 rfl
theorem dX12_opens_10 : decode cX12_opens 10 = .ok (.iconst 3, 1) := lw_dr lw_d_cX12_opens_0 24 rfl
theorem dX12_opens_11 : decode cX12_opens 11 = .ok (.iload_n 2, 1) := lw_dr lw_d_cX12_opens_0 25 rfl
theorem dX12_opens_12 : decode cX12_opens 12 = .ok (.invokevirtual 181, 3) := lw_dr lw_d_cX12_opens_0 26 rfl
theorem dX12_opens_15 : decode cX12_opens 15 = .ok (.return_, 1) := lw_dr lw_d_cX12_opens_0 27 rfl
theorem lw_d_cX12_rowTold_0 : lw_dl cX12_rowTold [(0, .aload_n 0, 1), (1, .getfield 151, 3), (4, .ifCond .ne 24, 3), (28, .aload_n 0, 1), (29, .getfield 151, 3), (32, .ifCond .eq 4, 3), (36, .iconst 0, 1), (37, .istore_n 2, 1), (38, .iload_n 2, 1), (39, .aload_n 0, 1), (40, .getfield 66, 3), (43, .iconst 1, 1), (44, .iaload, 1), (45, .if_icmp .ge 34, 3), (79, .aload_n 0, 1), (80, .getfield 66, 3), (83, .iconst 3, 1), (84, .dup2, 1), (85, .iaload, 1), (86, .iconst 1, 1), (87, .iadd, 1), (88, .iastore, 1), (89, .return_, 1), (48, .aload_n 0, 1), (49, .getfield 69, 3), (52, .bipush 30, 2), (54, .iconst 5, 1), (55, .aload_n 0, 1), (56, .getfield 66, 3), (59, .iconst 3, 1), (60, .iaload, 1), (61, .imul, 1), (62, .iadd, 1), (63, .iload_n 2, 1), (64, .iadd, 1), (65, .aload_n 0, 1), (66, .bipush 99, 2), (68, .iconst 1, 1), (69, .invokevirtual 199, 3)] = true := by decide +kernel
theorem dX12_rowTold_0 : decode cX12_rowTold 0 = .ok (.aload_n 0, 1) := lw_dr lw_d_cX12_rowTold_0 0 rfl
theorem dX12_rowTold_1 : decode cX12_rowTold 1 = .ok (.getfield 151, 3) := lw_dr lw_d_cX12_rowTold_0 1 rfl
theorem dX12_rowTold_4 : decode cX12_rowTold 4 = .ok (.ifCond .ne 24, 3) := lw_dr lw_d_cX12_rowTold_0 2 rfl
theorem dX12_rowTold_28 : decode cX12_rowTold 28 = .ok (.aload_n 0, 1) := lw_dr lw_d_cX12_rowTold_0 3 rfl
theorem dX12_rowTold_29 : decode cX12_rowTold 29 = .ok (.getfield 151, 3) := lw_dr lw_d_cX12_rowTold_0 4 rfl
theorem dX12_rowTold_32 : decode cX12_rowTold 32 = .ok (.ifCond .eq 4, 3) := lw_dr lw_d_cX12_rowTold_0 5 rfl
theorem dX12_rowTold_36 : decode cX12_rowTold 36 = .ok (.iconst 0, 1) := lw_dr lw_d_cX12_rowTold_0 6 rfl
theorem dX12_rowTold_37 : decode cX12_rowTold 37 = .ok (.istore_n 2, 1) := lw_dr lw_d_cX12_rowTold_0 7 rfl
theorem dX12_rowTold_38 : decode cX12_rowTold 38 = .ok (.iload_n 2, 1) := lw_dr lw_d_cX12_rowTold_0 8 rfl
theorem dX12_rowTold_39 : decode cX12_rowTold 39 = .ok (.aload_n 0, 1) := lw_dr lw_d_cX12_rowTold_0 9 rfl
theorem dX12_rowTold_40 : decode cX12_rowTold 40 = .ok (.getfield 66, 3) := lw_dr lw_d_cX12_rowTold_0 10 rfl
theorem dX12_rowTold_43 : decode cX12_rowTold 43 = .ok (.iconst 1, 1) := lw_dr lw_d_cX12_rowTold_0 11 rfl
theorem dX12_rowTold_44 : decode cX12_rowTold 44 = .ok (.iaload, 1) := lw_dr lw_d_cX12_rowTold_0 12 rfl
theorem dX12_rowTold_45 : decode cX12_rowTold 45 = .ok (.if_icmp .ge 34, 3) := lw_dr lw_d_cX12_rowTold_0 13 rfl
theorem dX12_rowTold_79 : decode cX12_rowTold 79 = .ok (.aload_n 0, 1) := lw_dr lw_d_cX12_rowTold_0 14 rfl
theorem dX12_rowTold_80 : decode cX12_rowTold 80 = .ok (.getfield 66, 3) := lw_dr lw_d_cX12_rowTold_0 15 rfl
theorem dX12_rowTold_83 : decode cX12_rowTold 83 = .ok (.iconst 3, 1) := lw_dr lw_d_cX12_rowTold_0 16 rfl
theorem dX12_rowTold_84 : decode cX12_rowTold 84 = .ok (.dup2, 1) := lw_dr lw_d_cX12_rowTold_0 17 rfl
theorem dX12_rowTold_85 : decode cX12_rowTold 85 = .ok (.iaload, 1) := lw_dr lw_d_cX12_rowTold_0 18 rfl
theorem dX12_rowTold_86 : decode cX12_rowTold 86 = .ok (.iconst 1, 1) := lw_dr lw_d_cX12_rowTold_0 19 rfl
theorem dX12_rowTold_87 : decode cX12_rowTold 87 = .ok (.iadd, 1) := lw_dr lw_d_cX12_rowTold_0 20 rfl
theorem dX12_rowTold_88 : decode cX12_rowTold 88 = .ok (.iastore, 1) := lw_dr lw_d_cX12_rowTold_0 21 rfl
theorem dX12_rowTold_89 : decode cX12_rowTold 89 = .ok (.return_, 1) := lw_dr lw_d_cX12_rowTold_0 22 rfl
theorem dX12_rowTold_48 : decode cX12_rowTold 48 = .ok (.aload_n 0, 1) := lw_dr lw_d_cX12_rowTold_0 23 rfl
theorem dX12_rowTold_49 : decode cX12_rowTold 49 = .ok (.getfield 69, 3) := lw_dr lw_d_cX12_rowTold_0 24 rfl
theorem dX12_rowTold_52 : decode cX12_rowTold 52 = .ok (.bipush 30, 2) := lw_dr lw_d_cX12_rowTold_0 25 rfl
theorem dX12_rowTold_54 : decode cX12_rowTold 54 = .ok (.iconst 5, 1) := lw_dr lw_d_cX12_rowTold_0 26 rfl
theorem dX12_rowTold_55 : decode cX12_rowTold 55 = .ok (.aload_n 0, 1) := lw_dr lw_d_cX12_rowTold_0 27 rfl
theorem dX12_rowTold_56 : decode cX12_rowTold 56 = .ok (.getfield 66, 3) := lw_dr lw_d_cX12_rowTold_0 28 rfl
theorem dX12_rowTold_59 : decode cX12_rowTold 59 = .ok (.iconst 3, 1) := lw_dr lw_d_cX12_rowTold_0 29 rfl
theorem dX12_rowTold_60 : decode cX12_rowTold 60 = .ok (.iaload, 1) := lw_dr lw_d_cX12_rowTold_0 30 rfl
theorem dX12_rowTold_61 : decode cX12_rowTold 61 = .ok (.imul, 1) := lw_dr lw_d_cX12_rowTold_0 31 rfl
theorem dX12_rowTold_62 : decode cX12_rowTold 62 = .ok (.iadd, 1) := lw_dr lw_d_cX12_rowTold_0 32 rfl
theorem dX12_rowTold_63 : decode cX12_rowTold 63 = .ok (.iload_n 2, 1) := lw_dr lw_d_cX12_rowTold_0 33 rfl
theorem dX12_rowTold_64 : decode cX12_rowTold 64 = .ok (.iadd, 1) := lw_dr lw_d_cX12_rowTold_0 34 rfl
theorem dX12_rowTold_65 : decode cX12_rowTold 65 = .ok (.aload_n 0, 1) := lw_dr lw_d_cX12_rowTold_0 35 rfl
theorem dX12_rowTold_66 : decode cX12_rowTold 66 = .ok (.bipush 99, 2) := lw_dr lw_d_cX12_rowTold_0 36 rfl
theorem dX12_rowTold_68 : decode cX12_rowTold 68 = .ok (.iconst 1, 1) := lw_dr lw_d_cX12_rowTold_0 37 rfl
theorem dX12_rowTold_69 : decode cX12_rowTold 69 = .ok (.invokevirtual 199, 3) := lw_dr lw_d_cX12_rowTold_0 38 rfl
theorem lw_d_cX12_signed_0 : lw_dl cX12_signed [(0, .aload_n 0, 1), (1, .getfield 151, 3), (4, .ifCond .eq 5, 3), (9, .aload_n 0, 1), (10, .invokevirtual 163, 3), (13, .bipush 45, 2), (15, .if_icmp .ne 7, 3), (22, .iconst 0, 1), (23, .istore_n 3, 1), (24, .aload_n 0, 1), (25, .getfield 157, 3), (28, .istore 4, 2), (30, .iload_n 3, 1), (31, .ifCond .eq 13, 3), (44, .aload_n 0, 1), (45, .iconst 0, 1), (46, .sipush 9999, 3), (49, .invokevirtual 195, 3), (52, .istore 5, 2), (54, .iload_n 3, 1), (55, .ifCond .eq 8, 3), (63, .aload_n 0, 1), (64, .getfield 151, 3), (67, .ifCond .ne 38, 3), (105, .iload 5, 2), (107, .ireturn, 1), (70, .iload 5, 2), (72, .i2l, 1), (73, .iload_n 1, 1), (74, .ineg, 1), (75, .i2l, 1), (76, .iload_n 1, 1), (77, .i2l, 1), (78, .invokestatic 191, 3), (81, .ifCond .eq 17, 3), (98, .aload_n 0, 1), (99, .iconst 2, 1), (100, .iload 4, 2), (102, .invokevirtual 181, 3), (84, .iload_n 2, 1)] = true := by decide +kernel
theorem dX12_signed_0 : decode cX12_signed 0 = .ok (.aload_n 0, 1) := lw_dr lw_d_cX12_signed_0 0 rfl
theorem dX12_signed_1 : decode cX12_signed 1 = .ok (.getfield 151, 3) := lw_dr lw_d_cX12_signed_0 1 rfl
theorem dX12_signed_4 : decode cX12_signed 4 = .ok (.ifCond .eq 5, 3) := lw_dr lw_d_cX12_signed_0 2 rfl
theorem dX12_signed_9 : decode cX12_signed 9 = .ok (.aload_n 0, 1) := lw_dr lw_d_cX12_signed_0 3 rfl
theorem dX12_signed_10 : decode cX12_signed 10 = .ok (.invokevirtual 163, 3) := lw_dr lw_d_cX12_signed_0 4 rfl
theorem dX12_signed_13 : decode cX12_signed 13 = .ok (.bipush 45, 2) := lw_dr lw_d_cX12_signed_0 5 rfl
theorem dX12_signed_15 : decode cX12_signed 15 = .ok (.if_icmp .ne 7, 3) := lw_dr lw_d_cX12_signed_0 6 rfl
theorem dX12_signed_22 : decode cX12_signed 22 = .ok (.iconst 0, 1) := lw_dr lw_d_cX12_signed_0 7 rfl
theorem dX12_signed_23 : decode cX12_signed 23 = .ok (.istore_n 3, 1) := lw_dr lw_d_cX12_signed_0 8 rfl
theorem dX12_signed_24 : decode cX12_signed 24 = .ok (.aload_n 0, 1) := lw_dr lw_d_cX12_signed_0 9 rfl
theorem dX12_signed_25 : decode cX12_signed 25 = .ok (.getfield 157, 3) := lw_dr lw_d_cX12_signed_0 10 rfl
theorem dX12_signed_28 : decode cX12_signed 28 = .ok (.istore 4, 2) := lw_dr lw_d_cX12_signed_0 11 rfl
theorem dX12_signed_30 : decode cX12_signed 30 = .ok (.iload_n 3, 1) := lw_dr lw_d_cX12_signed_0 12 rfl
theorem dX12_signed_31 : decode cX12_signed 31 = .ok (.ifCond .eq 13, 3) := lw_dr lw_d_cX12_signed_0 13 rfl
theorem dX12_signed_44 : decode cX12_signed 44 = .ok (.aload_n 0, 1) := lw_dr lw_d_cX12_signed_0 14 rfl
theorem dX12_signed_45 : decode cX12_signed 45 = .ok (.iconst 0, 1) := lw_dr lw_d_cX12_signed_0 15 rfl
theorem dX12_signed_46 : decode cX12_signed 46 = .ok (.sipush 9999, 3) := lw_dr lw_d_cX12_signed_0 16 rfl
theorem dX12_signed_49 : decode cX12_signed 49 = .ok (.invokevirtual 195, 3) := lw_dr lw_d_cX12_signed_0 17 rfl
theorem dX12_signed_52 : decode cX12_signed 52 = .ok (.istore 5, 2) := lw_dr lw_d_cX12_signed_0 18 rfl
theorem dX12_signed_54 : decode cX12_signed 54 = .ok (.iload_n 3, 1) := lw_dr lw_d_cX12_signed_0 19 rfl
theorem dX12_signed_55 : decode cX12_signed 55 = .ok (.ifCond .eq 8, 3) := lw_dr lw_d_cX12_signed_0 20 rfl
theorem dX12_signed_63 : decode cX12_signed 63 = .ok (.aload_n 0, 1) := lw_dr lw_d_cX12_signed_0 21 rfl
theorem dX12_signed_64 : decode cX12_signed 64 = .ok (.getfield 151, 3) := lw_dr lw_d_cX12_signed_0 22 rfl
theorem dX12_signed_67 : decode cX12_signed 67 = .ok (.ifCond .ne 38, 3) := lw_dr lw_d_cX12_signed_0 23 rfl
theorem dX12_signed_105 : decode cX12_signed 105 = .ok (.iload 5, 2) := lw_dr lw_d_cX12_signed_0 24 rfl
theorem dX12_signed_107 : decode cX12_signed 107 = .ok (.ireturn, 1) := lw_dr lw_d_cX12_signed_0 25 rfl
theorem dX12_signed_70 : decode cX12_signed 70 = .ok (.iload 5, 2) := lw_dr lw_d_cX12_signed_0 26 rfl
theorem dX12_signed_72 : decode cX12_signed 72 = .ok (.i2l, 1) := lw_dr lw_d_cX12_signed_0 27 rfl
theorem dX12_signed_73 : decode cX12_signed 73 = .ok (.iload_n 1, 1) := lw_dr lw_d_cX12_signed_0 28 rfl
theorem dX12_signed_74 : decode cX12_signed 74 = .ok (.ineg, 1) := lw_dr lw_d_cX12_signed_0 29 rfl
theorem dX12_signed_75 : decode cX12_signed 75 = .ok (.i2l, 1) := lw_dr lw_d_cX12_signed_0 30 rfl
theorem dX12_signed_76 : decode cX12_signed 76 = .ok (.iload_n 1, 1) := lw_dr lw_d_cX12_signed_0 31 rfl
theorem dX12_signed_77 : decode cX12_signed 77 = .ok (.i2l, 1) := lw_dr lw_d_cX12_signed_0 32 rfl
theorem dX12_signed_78 : decode cX12_signed 78 = .ok (.invokestatic 191, 3) := lw_dr lw_d_cX12_signed_0 33 rfl
theorem dX12_signed_81 : decode cX12_signed 81 = .ok (.ifCond .eq 17, 3) := lw_dr lw_d_cX12_signed_0 34 rfl
theorem dX12_signed_98 : decode cX12_signed 98 = .ok (.aload_n 0, 1) := lw_dr lw_d_cX12_signed_0 35 rfl
theorem dX12_signed_99 : decode cX12_signed 99 = .ok (.iconst 2, 1) := lw_dr lw_d_cX12_signed_0 36 rfl
theorem dX12_signed_100 : decode cX12_signed 100 = .ok (.iload 4, 2) := lw_dr lw_d_cX12_signed_0 37 rfl
theorem dX12_signed_102 : decode cX12_signed 102 = .ok (.invokevirtual 181, 3) := lw_dr lw_d_cX12_signed_0 38 rfl
theorem dX12_signed_84 : decode cX12_signed 84 = .ok (.iload_n 2, 1) := lw_dr lw_d_cX12_signed_0 39 rfl
theorem lw_d_cX12_signed_85 : lw_dl cX12_signed [(85, .iconst 2, 1), (86, .if_icmp .ne 19, 3), (89, .iload 5, 2), (91, .iload_n 1, 1), (92, .iadd, 1), (93, .iconst 2, 1), (94, .irem, 1), (95, .ifCond .eq 10, 3), (18, .iconst 1, 1), (19, .goto 4, 3), (34, .aload_n 0, 1), (35, .dup, 1), (36, .getfield 157, 3), (39, .iconst 1, 1)] = true := by decide +kernel
theorem dX12_signed_85 : decode cX12_signed 85 = .ok (.iconst 2, 1) := lw_dr lw_d_cX12_signed_85 0 rfl
theorem dX12_signed_86 : decode cX12_signed 86 = .ok (.if_icmp .ne 19, 3) := lw_dr lw_d_cX12_signed_85 1 rfl
theorem dX12_signed_89 : decode cX12_signed 89 = .ok (.iload 5, 2) := lw_dr lw_d_cX12_signed_85 2 rfl
theorem dX12_signed_91 : decode cX12_signed 91 = .ok (.iload_n 1, 1) := lw_dr lw_d_cX12_signed_85 3 rfl
theorem dX12_signed_92 : decode cX12_signed 92 = .ok (.iadd, 1) := lw_dr lw_d_cX12_signed_85 4 rfl
theorem dX12_signed_93 : decode cX12_signed 93 = .ok (.iconst 2, 1) := lw_dr lw_d_cX12_signed_85 5 rfl
theorem dX12_signed_94 : decode cX12_signed 94 = .ok (.irem, 1) := lw_dr lw_d_cX12_signed_85 6 rfl
theorem dX12_signed_95 : decode cX12_signed 95 = .ok (.ifCond .eq 10, 3) := lw_dr lw_d_cX12_signed_85 7 rfl
theorem dX12_signed_18 : decode cX12_signed 18 = .ok (.iconst 1, 1) := lw_dr lw_d_cX12_signed_85 8 rfl
theorem dX12_signed_19 : decode cX12_signed 19 = .ok (.goto 4, 3) := lw_dr lw_d_cX12_signed_85 9 rfl
theorem dX12_signed_34 : decode cX12_signed 34 = .ok (.aload_n 0, 1) := lw_dr lw_d_cX12_signed_85 10 rfl
theorem dX12_signed_35 : decode cX12_signed 35 = .ok (.dup, 1) := lw_dr lw_d_cX12_signed_85 11 rfl
theorem dX12_signed_36 : decode cX12_signed 36 = .ok (.getfield 157, 3) := lw_dr lw_d_cX12_signed_85 12 rfl
theorem dX12_signed_39 : decode cX12_signed 39 = .ok (.iconst 1, 1) := lw_dr lw_d_cX12_signed_85 13 rfl
theorem lw_d_cX12_signed_40 : lw_dl cX12_signed [(40, .iadd, 1), (41, .putfield 157, 3), (58, .iload 5, 2), (60, .ineg, 1), (61, .istore 5, 2), (7, .iconst 0, 1), (8, .ireturn, 1)] = true := by decide +kernel
theorem dX12_signed_40 : decode cX12_signed 40 = .ok (.iadd, 1) := lw_dr lw_d_cX12_signed_40 0 rfl
theorem dX12_signed_41 : decode cX12_signed 41 = .ok (.putfield 157, 3) := lw_dr lw_d_cX12_signed_40 1 rfl
theorem dX12_signed_58 : decode cX12_signed 58 = .ok (.iload 5, 2) := lw_dr lw_d_cX12_signed_40 2 rfl
theorem dX12_signed_60 : decode cX12_signed 60 = .ok (.ineg, 1) := lw_dr lw_d_cX12_signed_40 3 rfl
theorem dX12_signed_61 : decode cX12_signed 61 = .ok (.istore 5, 2) := lw_dr lw_d_cX12_signed_40 4 rfl
theorem dX12_signed_7 : decode cX12_signed 7 = .ok (.iconst 0, 1) := lw_dr lw_d_cX12_signed_40 5 rfl
theorem dX12_signed_8 : decode cX12_signed 8 = .ok (.ireturn, 1) := lw_dr lw_d_cX12_signed_40 6 rfl
theorem lw_d_cX12_rowTold_72 : lw_dl cX12_rowTold [(72, .iastore, 1), (73, .iinc 2 1, 3), (76, .goto (-38), 3), (35, .return_, 1), (7, .aload_n 0, 1), (8, .getfield 66, 3), (11, .iconst 3, 1), (12, .iaload, 1), (13, .aload_n 0, 1), (14, .getfield 66, 3), (17, .iconst 2, 1), (18, .iaload, 1), (19, .if_icmp .ne 9, 3), (22, .aload_n 0, 1), (23, .iconst 4, 1), (24, .iload_n 1, 1), (25, .invokevirtual 181, 3)] = true := by decide +kernel
theorem dX12_rowTold_72 : decode cX12_rowTold 72 = .ok (.iastore, 1) := lw_dr lw_d_cX12_rowTold_72 0 rfl
theorem dX12_rowTold_73 : decode cX12_rowTold 73 = .ok (.iinc 2 1, 3) := lw_dr lw_d_cX12_rowTold_72 1 rfl
theorem dX12_rowTold_76 : decode cX12_rowTold 76 = .ok (.goto (-38), 3) := lw_dr lw_d_cX12_rowTold_72 2 rfl
theorem dX12_rowTold_35 : decode cX12_rowTold 35 = .ok (.return_, 1) := lw_dr lw_d_cX12_rowTold_72 3 rfl
theorem dX12_rowTold_7 : decode cX12_rowTold 7 = .ok (.aload_n 0, 1) := lw_dr lw_d_cX12_rowTold_72 4 rfl
theorem dX12_rowTold_8 : decode cX12_rowTold 8 = .ok (.getfield 66, 3) := lw_dr lw_d_cX12_rowTold_72 5 rfl
theorem dX12_rowTold_11 : decode cX12_rowTold 11 = .ok (.iconst 3, 1) := lw_dr lw_d_cX12_rowTold_72 6 rfl
theorem dX12_rowTold_12 : decode cX12_rowTold 12 = .ok (.iaload, 1) := lw_dr lw_d_cX12_rowTold_72 7 rfl
theorem dX12_rowTold_13 : decode cX12_rowTold 13 = .ok (.aload_n 0, 1) := lw_dr lw_d_cX12_rowTold_72 8 rfl
theorem dX12_rowTold_14 : decode cX12_rowTold 14 = .ok (.getfield 66, 3) := lw_dr lw_d_cX12_rowTold_72 9 rfl
theorem dX12_rowTold_17 : decode cX12_rowTold 17 = .ok (.iconst 2, 1) := lw_dr lw_d_cX12_rowTold_72 10 rfl
theorem dX12_rowTold_18 : decode cX12_rowTold 18 = .ok (.iaload, 1) := lw_dr lw_d_cX12_rowTold_72 11 rfl
theorem dX12_rowTold_19 : decode cX12_rowTold 19 = .ok (.if_icmp .ne 9, 3) := lw_dr lw_d_cX12_rowTold_72 12 rfl
theorem dX12_rowTold_22 : decode cX12_rowTold 22 = .ok (.aload_n 0, 1) := lw_dr lw_d_cX12_rowTold_72 13 rfl
theorem dX12_rowTold_23 : decode cX12_rowTold 23 = .ok (.iconst 4, 1) := lw_dr lw_d_cX12_rowTold_72 14 rfl
theorem dX12_rowTold_24 : decode cX12_rowTold 24 = .ok (.iload_n 1, 1) := lw_dr lw_d_cX12_rowTold_72 15 rfl
theorem dX12_rowTold_25 : decode cX12_rowTold 25 = .ok (.invokevirtual 181, 3) := lw_dr lw_d_cX12_rowTold_72 16 rfl
theorem lw_d_cX12_wordTold_0 : lw_dl cX12_wordTold [(0, .aload_n 0, 1), (1, .getfield 151, 3), (4, .ifCond .ne 20, 3), (24, .aload_n 0, 1), (25, .getfield 151, 3), (28, .ifCond .eq 4, 3), (32, .iconst 0, 1), (33, .istore_n 2, 1), (34, .iload_n 2, 1), (35, .aload_n 0, 1), (36, .getfield 66, 3), (39, .iconst 1, 1), (40, .iaload, 1), (41, .if_icmp .ge 40, 3), (81, .aload_n 0, 1), (82, .getfield 66, 3), (85, .iconst 4, 1), (86, .dup2, 1), (87, .iaload, 1), (88, .iconst 1, 1), (89, .iadd, 1), (90, .iastore, 1), (91, .return_, 1), (44, .aload_n 0, 1), (45, .getfield 72, 3), (48, .bipush 80, 2), (50, .iconst 5, 1), (51, .aload_n 0, 1), (52, .getfield 66, 3), (55, .iconst 4, 1), (56, .iaload, 1), (57, .imul, 1), (58, .iadd, 1), (59, .iload_n 2, 1), (60, .iadd, 1), (61, .aload_n 0, 1), (62, .aload_n 0, 1), (63, .getfield 66, 3), (66, .iconst 0, 1), (67, .iaload, 1)] = true := by decide +kernel
theorem dX12_wordTold_0 : decode cX12_wordTold 0 = .ok (.aload_n 0, 1) := lw_dr lw_d_cX12_wordTold_0 0 rfl
theorem dX12_wordTold_1 : decode cX12_wordTold 1 = .ok (.getfield 151, 3) := lw_dr lw_d_cX12_wordTold_0 1 rfl
theorem dX12_wordTold_4 : decode cX12_wordTold 4 = .ok (.ifCond .ne 20, 3) := lw_dr lw_d_cX12_wordTold_0 2 rfl
theorem dX12_wordTold_24 : decode cX12_wordTold 24 = .ok (.aload_n 0, 1) := lw_dr lw_d_cX12_wordTold_0 3 rfl
theorem dX12_wordTold_25 : decode cX12_wordTold 25 = .ok (.getfield 151, 3) := lw_dr lw_d_cX12_wordTold_0 4 rfl
theorem dX12_wordTold_28 : decode cX12_wordTold 28 = .ok (.ifCond .eq 4, 3) := lw_dr lw_d_cX12_wordTold_0 5 rfl
theorem dX12_wordTold_32 : decode cX12_wordTold 32 = .ok (.iconst 0, 1) := lw_dr lw_d_cX12_wordTold_0 6 rfl
theorem dX12_wordTold_33 : decode cX12_wordTold 33 = .ok (.istore_n 2, 1) := lw_dr lw_d_cX12_wordTold_0 7 rfl
theorem dX12_wordTold_34 : decode cX12_wordTold 34 = .ok (.iload_n 2, 1) := lw_dr lw_d_cX12_wordTold_0 8 rfl
theorem dX12_wordTold_35 : decode cX12_wordTold 35 = .ok (.aload_n 0, 1) := lw_dr lw_d_cX12_wordTold_0 9 rfl
theorem dX12_wordTold_36 : decode cX12_wordTold 36 = .ok (.getfield 66, 3) := lw_dr lw_d_cX12_wordTold_0 10 rfl
theorem dX12_wordTold_39 : decode cX12_wordTold 39 = .ok (.iconst 1, 1) := lw_dr lw_d_cX12_wordTold_0 11 rfl
theorem dX12_wordTold_40 : decode cX12_wordTold 40 = .ok (.iaload, 1) := lw_dr lw_d_cX12_wordTold_0 12 rfl
theorem dX12_wordTold_41 : decode cX12_wordTold 41 = .ok (.if_icmp .ge 40, 3) := lw_dr lw_d_cX12_wordTold_0 13 rfl
theorem dX12_wordTold_81 : decode cX12_wordTold 81 = .ok (.aload_n 0, 1) := lw_dr lw_d_cX12_wordTold_0 14 rfl
theorem dX12_wordTold_82 : decode cX12_wordTold 82 = .ok (.getfield 66, 3) := lw_dr lw_d_cX12_wordTold_0 15 rfl
theorem dX12_wordTold_85 : decode cX12_wordTold 85 = .ok (.iconst 4, 1) := lw_dr lw_d_cX12_wordTold_0 16 rfl
theorem dX12_wordTold_86 : decode cX12_wordTold 86 = .ok (.dup2, 1) := lw_dr lw_d_cX12_wordTold_0 17 rfl
theorem dX12_wordTold_87 : decode cX12_wordTold 87 = .ok (.iaload, 1) := lw_dr lw_d_cX12_wordTold_0 18 rfl
theorem dX12_wordTold_88 : decode cX12_wordTold 88 = .ok (.iconst 1, 1) := lw_dr lw_d_cX12_wordTold_0 19 rfl
theorem dX12_wordTold_89 : decode cX12_wordTold 89 = .ok (.iadd, 1) := lw_dr lw_d_cX12_wordTold_0 20 rfl
theorem dX12_wordTold_90 : decode cX12_wordTold 90 = .ok (.iastore, 1) := lw_dr lw_d_cX12_wordTold_0 21 rfl
theorem dX12_wordTold_91 : decode cX12_wordTold 91 = .ok (.return_, 1) := lw_dr lw_d_cX12_wordTold_0 22 rfl
theorem dX12_wordTold_44 : decode cX12_wordTold 44 = .ok (.aload_n 0, 1) := lw_dr lw_d_cX12_wordTold_0 23 rfl
theorem dX12_wordTold_45 : decode cX12_wordTold 45 = .ok (.getfield 72, 3) := lw_dr lw_d_cX12_wordTold_0 24 rfl
theorem dX12_wordTold_48 : decode cX12_wordTold 48 = .ok (.bipush 80, 2) := lw_dr lw_d_cX12_wordTold_0 25 rfl
theorem dX12_wordTold_50 : decode cX12_wordTold 50 = .ok (.iconst 5, 1) := lw_dr lw_d_cX12_wordTold_0 26 rfl
theorem dX12_wordTold_51 : decode cX12_wordTold 51 = .ok (.aload_n 0, 1) := lw_dr lw_d_cX12_wordTold_0 27 rfl
theorem dX12_wordTold_52 : decode cX12_wordTold 52 = .ok (.getfield 66, 3) := lw_dr lw_d_cX12_wordTold_0 28 rfl
theorem dX12_wordTold_55 : decode cX12_wordTold 55 = .ok (.iconst 4, 1) := lw_dr lw_d_cX12_wordTold_0 29 rfl
theorem dX12_wordTold_56 : decode cX12_wordTold 56 = .ok (.iaload, 1) := lw_dr lw_d_cX12_wordTold_0 30 rfl
theorem dX12_wordTold_57 : decode cX12_wordTold 57 = .ok (.imul, 1) := lw_dr lw_d_cX12_wordTold_0 31 rfl
theorem dX12_wordTold_58 : decode cX12_wordTold 58 = .ok (.iadd, 1) := lw_dr lw_d_cX12_wordTold_0 32 rfl
theorem dX12_wordTold_59 : decode cX12_wordTold 59 = .ok (.iload_n 2, 1) := lw_dr lw_d_cX12_wordTold_0 33 rfl
theorem dX12_wordTold_60 : decode cX12_wordTold 60 = .ok (.iadd, 1) := lw_dr lw_d_cX12_wordTold_0 34 rfl
theorem dX12_wordTold_61 : decode cX12_wordTold 61 = .ok (.aload_n 0, 1) := lw_dr lw_d_cX12_wordTold_0 35 rfl
theorem dX12_wordTold_62 : decode cX12_wordTold 62 = .ok (.aload_n 0, 1) := lw_dr lw_d_cX12_wordTold_0 36 rfl
theorem dX12_wordTold_63 : decode cX12_wordTold 63 = .ok (.getfield 66, 3) := lw_dr lw_d_cX12_wordTold_0 37 rfl
theorem dX12_wordTold_66 : decode cX12_wordTold 66 = .ok (.iconst 0, 1) := lw_dr lw_d_cX12_wordTold_0 38 rfl
theorem dX12_wordTold_67 : decode cX12_wordTold 67 = .ok (.iaload, 1) := lw_dr lw_d_cX12_wordTold_0 39 rfl
theorem lw_d_cX12_wordTold_68 : lw_dl cX12_wordTold [(68, .iconst 1, 1), (69, .isub, 1), (70, .iconst 2, 1), (71, .invokevirtual 199, 3), (74, .iastore, 1), (75, .iinc 2 1, 3), (78, .goto (-44), 3), (31, .return_, 1), (7, .aload_n 0, 1), (8, .getfield 66, 3), (11, .iconst 4, 1), (12, .iaload, 1), (13, .bipush 16, 2), (15, .if_icmp .ne 9, 3), (18, .aload_n 0, 1), (19, .iconst 4, 1), (20, .iload_n 1, 1), (21, .invokevirtual 181, 3)] = true := by decide +kernel
theorem dX12_wordTold_68 : decode cX12_wordTold 68 = .ok (.iconst 1, 1) := lw_dr lw_d_cX12_wordTold_68 0 rfl
theorem dX12_wordTold_69 : decode cX12_wordTold 69 = .ok (.isub, 1) := lw_dr lw_d_cX12_wordTold_68 1 rfl
theorem dX12_wordTold_70 : decode cX12_wordTold 70 = .ok (.iconst 2, 1) := lw_dr lw_d_cX12_wordTold_68 2 rfl
theorem dX12_wordTold_71 : decode cX12_wordTold 71 = .ok (.invokevirtual 199, 3) := lw_dr lw_d_cX12_wordTold_68 3 rfl
theorem dX12_wordTold_74 : decode cX12_wordTold 74 = .ok (.iastore, 1) := lw_dr lw_d_cX12_wordTold_68 4 rfl
theorem dX12_wordTold_75 : decode cX12_wordTold 75 = .ok (.iinc 2 1, 3) := lw_dr lw_d_cX12_wordTold_68 5 rfl
theorem dX12_wordTold_78 : decode cX12_wordTold 78 = .ok (.goto (-44), 3) := lw_dr lw_d_cX12_wordTold_68 6 rfl
theorem dX12_wordTold_31 : decode cX12_wordTold 31 = .ok (.return_, 1) := lw_dr lw_d_cX12_wordTold_68 7 rfl
theorem dX12_wordTold_7 : decode cX12_wordTold 7 = .ok (.aload_n 0, 1) := lw_dr lw_d_cX12_wordTold_68 8 rfl
theorem dX12_wordTold_8 : decode cX12_wordTold 8 = .ok (.getfield 66, 3) := lw_dr lw_d_cX12_wordTold_68 9 rfl
theorem dX12_wordTold_11 : decode cX12_wordTold 11 = .ok (.iconst 4, 1) := lw_dr lw_d_cX12_wordTold_68 10 rfl
theorem dX12_wordTold_12 : decode cX12_wordTold 12 = .ok (.iaload, 1) := lw_dr lw_d_cX12_wordTold_68 11 rfl
theorem dX12_wordTold_13 : decode cX12_wordTold 13 = .ok (.bipush 16, 2) := lw_dr lw_d_cX12_wordTold_68 12 rfl
theorem dX12_wordTold_15 : decode cX12_wordTold 15 = .ok (.if_icmp .ne 9, 3) := lw_dr lw_d_cX12_wordTold_68 13 rfl
theorem dX12_wordTold_18 : decode cX12_wordTold 18 = .ok (.aload_n 0, 1) := lw_dr lw_d_cX12_wordTold_68 14 rfl
theorem dX12_wordTold_19 : decode cX12_wordTold 19 = .ok (.iconst 4, 1) := lw_dr lw_d_cX12_wordTold_68 15 rfl
theorem dX12_wordTold_20 : decode cX12_wordTold 20 = .ok (.iload_n 1, 1) := lw_dr lw_d_cX12_wordTold_68 16 rfl
theorem dX12_wordTold_21 : decode cX12_wordTold 21 = .ok (.invokevirtual 181, 3) := lw_dr lw_d_cX12_wordTold_68 17 rfl
theorem lw_d_cX12_goesOn_0 : lw_dl cX12_goesOn [(0, .aload_n 0, 1), (1, .getfield 151, 3), (4, .ifCond .ne 114, 3), (118, .aload_n 0, 1), (119, .bipush 42, 2), (121, .invokevirtual 185, 3), (124, .ifCond .ne 12, 3), (136, .aload_n 0, 1), (137, .getfield 7, 3), (140, .aload_n 0, 1), (141, .getfield 157, 3), (144, .iconst 1, 1), (145, .isub, 1), (146, .iaload, 1), (147, .bipush 42, 2), (149, .if_icmp .ne 7, 3), (156, .iconst 4, 1), (157, .istore_n 1, 1), (158, .aload_n 0, 1), (159, .iconst 3, 1), (160, .invokevirtual 283, 3), (163, .ifCond .ne 11, 3), (174, .aload_n 0, 1), (175, .invokevirtual 271, 3), (178, .goto (-20), 3), (166, .aload_n 0, 1), (167, .iconst 4, 1), (168, .invokevirtual 283, 3), (171, .ifCond .eq 10, 3), (181, .aload_n 0, 1), (182, .getfield 78, 3), (185, .aload_n 0, 1), (186, .getfield 259, 3), (189, .iload_n 1, 1), (190, .iastore, 1), (191, .aload_n 0, 1), (192, .dup, 1), (193, .getfield 259, 3), (196, .iconst 1, 1), (197, .iadd, 1)] = true := by decide +kernel
theorem dX12_goesOn_0 : decode cX12_goesOn 0 = .ok (.aload_n 0, 1) := lw_dr lw_d_cX12_goesOn_0 0 rfl
theorem dX12_goesOn_1 : decode cX12_goesOn 1 = .ok (.getfield 151, 3) := lw_dr lw_d_cX12_goesOn_0 1 rfl
theorem dX12_goesOn_4 : decode cX12_goesOn 4 = .ok (.ifCond .ne 114, 3) := lw_dr lw_d_cX12_goesOn_0 2 rfl
theorem dX12_goesOn_118 : decode cX12_goesOn 118 = .ok (.aload_n 0, 1) := lw_dr lw_d_cX12_goesOn_0 3 rfl
theorem dX12_goesOn_119 : decode cX12_goesOn 119 = .ok (.bipush 42, 2) := lw_dr lw_d_cX12_goesOn_0 4 rfl
theorem dX12_goesOn_121 : decode cX12_goesOn 121 = .ok (.invokevirtual 185, 3) := lw_dr lw_d_cX12_goesOn_0 5 rfl
theorem dX12_goesOn_124 : decode cX12_goesOn 124 = .ok (.ifCond .ne 12, 3) := lw_dr lw_d_cX12_goesOn_0 6 rfl
theorem dX12_goesOn_136 : decode cX12_goesOn 136 = .ok (.aload_n 0, 1) := lw_dr lw_d_cX12_goesOn_0 7 rfl
theorem dX12_goesOn_137 : decode cX12_goesOn 137 = .ok (.getfield 7, 3) := lw_dr lw_d_cX12_goesOn_0 8 rfl
theorem dX12_goesOn_140 : decode cX12_goesOn 140 = .ok (.aload_n 0, 1) := lw_dr lw_d_cX12_goesOn_0 9 rfl
theorem dX12_goesOn_141 : decode cX12_goesOn 141 = .ok (.getfield 157, 3) := lw_dr lw_d_cX12_goesOn_0 10 rfl
theorem dX12_goesOn_144 : decode cX12_goesOn 144 = .ok (.iconst 1, 1) := lw_dr lw_d_cX12_goesOn_0 11 rfl
theorem dX12_goesOn_145 : decode cX12_goesOn 145 = .ok (.isub, 1) := lw_dr lw_d_cX12_goesOn_0 12 rfl
theorem dX12_goesOn_146 : decode cX12_goesOn 146 = .ok (.iaload, 1) := lw_dr lw_d_cX12_goesOn_0 13 rfl
theorem dX12_goesOn_147 : decode cX12_goesOn 147 = .ok (.bipush 42, 2) := lw_dr lw_d_cX12_goesOn_0 14 rfl
theorem dX12_goesOn_149 : decode cX12_goesOn 149 = .ok (.if_icmp .ne 7, 3) := lw_dr lw_d_cX12_goesOn_0 15 rfl
theorem dX12_goesOn_156 : decode cX12_goesOn 156 = .ok (.iconst 4, 1) := lw_dr lw_d_cX12_goesOn_0 16 rfl
theorem dX12_goesOn_157 : decode cX12_goesOn 157 = .ok (.istore_n 1, 1) := lw_dr lw_d_cX12_goesOn_0 17 rfl
theorem dX12_goesOn_158 : decode cX12_goesOn 158 = .ok (.aload_n 0, 1) := lw_dr lw_d_cX12_goesOn_0 18 rfl
theorem dX12_goesOn_159 : decode cX12_goesOn 159 = .ok (.iconst 3, 1) := lw_dr lw_d_cX12_goesOn_0 19 rfl
theorem dX12_goesOn_160 : decode cX12_goesOn 160 = .ok (.invokevirtual 283, 3) := lw_dr lw_d_cX12_goesOn_0 20 rfl
theorem dX12_goesOn_163 : decode cX12_goesOn 163 = .ok (.ifCond .ne 11, 3) := lw_dr lw_d_cX12_goesOn_0 21 rfl
theorem dX12_goesOn_174 : decode cX12_goesOn 174 = .ok (.aload_n 0, 1) := lw_dr lw_d_cX12_goesOn_0 22 rfl
theorem dX12_goesOn_175 : decode cX12_goesOn 175 = .ok (.invokevirtual 271, 3) := lw_dr lw_d_cX12_goesOn_0 23 rfl
theorem dX12_goesOn_178 : decode cX12_goesOn 178 = .ok (.goto (-20), 3) := lw_dr lw_d_cX12_goesOn_0 24 rfl
theorem dX12_goesOn_166 : decode cX12_goesOn 166 = .ok (.aload_n 0, 1) := lw_dr lw_d_cX12_goesOn_0 25 rfl
theorem dX12_goesOn_167 : decode cX12_goesOn 167 = .ok (.iconst 4, 1) := lw_dr lw_d_cX12_goesOn_0 26 rfl
theorem dX12_goesOn_168 : decode cX12_goesOn 168 = .ok (.invokevirtual 283, 3) := lw_dr lw_d_cX12_goesOn_0 27 rfl
theorem dX12_goesOn_171 : decode cX12_goesOn 171 = .ok (.ifCond .eq 10, 3) := lw_dr lw_d_cX12_goesOn_0 28 rfl
theorem dX12_goesOn_181 : decode cX12_goesOn 181 = .ok (.aload_n 0, 1) := lw_dr lw_d_cX12_goesOn_0 29 rfl
theorem dX12_goesOn_182 : decode cX12_goesOn 182 = .ok (.getfield 78, 3) := lw_dr lw_d_cX12_goesOn_0 30 rfl
theorem dX12_goesOn_185 : decode cX12_goesOn 185 = .ok (.aload_n 0, 1) := lw_dr lw_d_cX12_goesOn_0 31 rfl
theorem dX12_goesOn_186 : decode cX12_goesOn 186 = .ok (.getfield 259, 3) := lw_dr lw_d_cX12_goesOn_0 32 rfl
theorem dX12_goesOn_189 : decode cX12_goesOn 189 = .ok (.iload_n 1, 1) := lw_dr lw_d_cX12_goesOn_0 33 rfl
theorem dX12_goesOn_190 : decode cX12_goesOn 190 = .ok (.iastore, 1) := lw_dr lw_d_cX12_goesOn_0 34 rfl
theorem dX12_goesOn_191 : decode cX12_goesOn 191 = .ok (.aload_n 0, 1) := lw_dr lw_d_cX12_goesOn_0 35 rfl
theorem dX12_goesOn_192 : decode cX12_goesOn 192 = .ok (.dup, 1) := lw_dr lw_d_cX12_goesOn_0 36 rfl
theorem dX12_goesOn_193 : decode cX12_goesOn 193 = .ok (.getfield 259, 3) := lw_dr lw_d_cX12_goesOn_0 37 rfl
theorem dX12_goesOn_196 : decode cX12_goesOn 196 = .ok (.iconst 1, 1) := lw_dr lw_d_cX12_goesOn_0 38 rfl
theorem dX12_goesOn_197 : decode cX12_goesOn 197 = .ok (.iadd, 1) := lw_dr lw_d_cX12_goesOn_0 39 rfl
theorem lw_d_cX12_goesOn_198 : lw_dl cX12_goesOn [(198, .putfield 259, 3), (201, .iconst 1, 1), (202, .ireturn, 1)] = true := by decide +kernel
theorem dX12_goesOn_198 : decode cX12_goesOn 198 = .ok (.putfield 259, 3) := lw_dr lw_d_cX12_goesOn_198 0 rfl
theorem dX12_goesOn_201 : decode cX12_goesOn 201 = .ok (.iconst 1, 1) := lw_dr lw_d_cX12_goesOn_198 1 rfl
theorem dX12_goesOn_202 : decode cX12_goesOn 202 = .ok (.ireturn, 1) := lw_dr lw_d_cX12_goesOn_198 2 rfl
theorem lw_d_cX12_isOn_0 : lw_dl cX12_isOn [(0, .aload_n 0, 1), (1, .getfield 259, 3), (4, .ifCond .le 22, 3), (26, .iconst 0, 1), (27, .ireturn, 1), (7, .aload_n 0, 1), (8, .getfield 78, 3), (11, .aload_n 0, 1), (12, .getfield 259, 3), (15, .iconst 1, 1), (16, .isub, 1), (17, .iaload, 1), (18, .iload_n 1, 1), (19, .if_icmp .ne 7, 3), (22, .iconst 1, 1), (23, .goto 4, 3)] = true := by decide +kernel
theorem dX12_isOn_0 : decode cX12_isOn 0 = .ok (.aload_n 0, 1) := lw_dr lw_d_cX12_isOn_0 0 rfl
theorem dX12_isOn_1 : decode cX12_isOn 1 = .ok (.getfield 259, 3) := lw_dr lw_d_cX12_isOn_0 1 rfl
theorem dX12_isOn_4 : decode cX12_isOn 4 = .ok (.ifCond .le 22, 3) := lw_dr lw_d_cX12_isOn_0 2 rfl
theorem dX12_isOn_26 : decode cX12_isOn 26 = .ok (.iconst 0, 1) := lw_dr lw_d_cX12_isOn_0 3 rfl
theorem dX12_isOn_27 : decode cX12_isOn 27 = .ok (.ireturn, 1) := lw_dr lw_d_cX12_isOn_0 4 rfl
theorem dX12_isOn_7 : decode cX12_isOn 7 = .ok (.aload_n 0, 1) := lw_dr lw_d_cX12_isOn_0 5 rfl
theorem dX12_isOn_8 : decode cX12_isOn 8 = .ok (.getfield 78, 3) := lw_dr lw_d_cX12_isOn_0 6 rfl
theorem dX12_isOn_11 : decode cX12_isOn 11 = .ok (.aload_n 0, 1) := lw_dr lw_d_cX12_isOn_0 7 rfl
theorem dX12_isOn_12 : decode cX12_isOn 12 = .ok (.getfield 259, 3) := lw_dr lw_d_cX12_isOn_0 8 rfl
theorem dX12_isOn_15 : decode cX12_isOn 15 = .ok (.iconst 1, 1) := lw_dr lw_d_cX12_isOn_0 9 rfl
theorem dX12_isOn_16 : decode cX12_isOn 16 = .ok (.isub, 1) := lw_dr lw_d_cX12_isOn_0 10 rfl
theorem dX12_isOn_17 : decode cX12_isOn 17 = .ok (.iaload, 1) := lw_dr lw_d_cX12_isOn_0 11 rfl
theorem dX12_isOn_18 : decode cX12_isOn 18 = .ok (.iload_n 1, 1) := lw_dr lw_d_cX12_isOn_0 12 rfl
theorem dX12_isOn_19 : decode cX12_isOn 19 = .ok (.if_icmp .ne 7, 3) := lw_dr lw_d_cX12_isOn_0 13 rfl
theorem dX12_isOn_22 : decode cX12_isOn 22 = .ok (.iconst 1, 1) := lw_dr lw_d_cX12_isOn_0 14 rfl
theorem dX12_isOn_23 : decode cX12_isOn 23 = .ok (.goto 4, 3) := lw_dr lw_d_cX12_isOn_0 15 rfl
theorem lw_d_cX12_drops_0 : lw_dl cX12_drops [(0, .aload_n 0, 1), (1, .dup, 1), (2, .getfield 259, 3), (5, .iconst 1, 1), (6, .isub, 1), (7, .putfield 259, 3), (10, .aload_n 0, 1), (11, .aload_n 0, 1), (12, .getfield 78, 3), (15, .aload_n 0, 1), (16, .getfield 259, 3), (19, .iaload, 1), (20, .invokevirtual 262, 3), (23, .return_, 1)] = true := by decide +kernel
theorem dX12_drops_0 : decode cX12_drops 0 = .ok (.aload_n 0, 1) := lw_dr lw_d_cX12_drops_0 0 rfl
theorem dX12_drops_1 : decode cX12_drops 1 = .ok (.dup, 1) := lw_dr lw_d_cX12_drops_0 1 rfl
theorem dX12_drops_2 : decode cX12_drops 2 = .ok (.getfield 259, 3) := lw_dr lw_d_cX12_drops_0 2 rfl
theorem dX12_drops_5 : decode cX12_drops 5 = .ok (.iconst 1, 1) := lw_dr lw_d_cX12_drops_0 3 rfl
theorem dX12_drops_6 : decode cX12_drops 6 = .ok (.isub, 1) := lw_dr lw_d_cX12_drops_0 4 rfl
theorem dX12_drops_7 : decode cX12_drops 7 = .ok (.putfield 259, 3) := lw_dr lw_d_cX12_drops_0 5 rfl
theorem dX12_drops_10 : decode cX12_drops 10 = .ok (.aload_n 0, 1) := lw_dr lw_d_cX12_drops_0 6 rfl
theorem dX12_drops_11 : decode cX12_drops 11 = .ok (.aload_n 0, 1) := lw_dr lw_d_cX12_drops_0 7 rfl
theorem dX12_drops_12 : decode cX12_drops 12 = .ok (.getfield 78, 3) := lw_dr lw_d_cX12_drops_0 8 rfl
theorem dX12_drops_15 : decode cX12_drops 15 = .ok (.aload_n 0, 1) := lw_dr lw_d_cX12_drops_0 9 rfl
theorem dX12_drops_16 : decode cX12_drops 16 = .ok (.getfield 259, 3) := lw_dr lw_d_cX12_drops_0 10 rfl
theorem dX12_drops_19 : decode cX12_drops 19 = .ok (.iaload, 1) := lw_dr lw_d_cX12_drops_0 11 rfl
theorem dX12_drops_20 : decode cX12_drops 20 = .ok (.invokevirtual 262, 3) := lw_dr lw_d_cX12_drops_0 12 rfl
theorem dX12_drops_23 : decode cX12_drops 23 = .ok (.return_, 1) := lw_dr lw_d_cX12_drops_0 13 rfl
theorem lw_d_cX12_mark_0 : lw_dl cX12_mark [(0, .aload_n 0, 1), (1, .getfield 259, 3), (4, .iconst 1, 1), (5, .isub, 1), (6, .istore_n 1, 1), (7, .iload_n 1, 1), (8, .aload_n 0, 1), (9, .getfield 265, 3), (12, .if_icmp .lt 22, 3), (34, .iload_n 1, 1), (35, .aload_n 0, 1), (36, .getfield 265, 3), (39, .if_icmp .lt 12, 3), (51, .iconst (-1), 1), (52, .ireturn, 1), (42, .aload_n 0, 1), (43, .getfield 78, 3), (46, .iload_n 1, 1), (47, .iaload, 1), (48, .goto 4, 3), (15, .aload_n 0, 1), (16, .aload_n 0, 1), (17, .getfield 78, 3), (20, .iload_n 1, 1), (21, .iaload, 1), (22, .invokevirtual 268, 3), (25, .ifCond .ne 9, 3), (28, .iinc 1 (-1), 3), (31, .goto (-24), 3)] = true := by decide +kernel
theorem dX12_mark_0 : decode cX12_mark 0 = .ok (.aload_n 0, 1) := lw_dr lw_d_cX12_mark_0 0 rfl
theorem dX12_mark_1 : decode cX12_mark 1 = .ok (.getfield 259, 3) := lw_dr lw_d_cX12_mark_0 1 rfl
theorem dX12_mark_4 : decode cX12_mark 4 = .ok (.iconst 1, 1) := lw_dr lw_d_cX12_mark_0 2 rfl
theorem dX12_mark_5 : decode cX12_mark 5 = .ok (.isub, 1) := lw_dr lw_d_cX12_mark_0 3 rfl
theorem dX12_mark_6 : decode cX12_mark 6 = .ok (.istore_n 1, 1) := lw_dr lw_d_cX12_mark_0 4 rfl
theorem dX12_mark_7 : decode cX12_mark 7 = .ok (.iload_n 1, 1) := lw_dr lw_d_cX12_mark_0 5 rfl
theorem dX12_mark_8 : decode cX12_mark 8 = .ok (.aload_n 0, 1) := lw_dr lw_d_cX12_mark_0 6 rfl
theorem dX12_mark_9 : decode cX12_mark 9 = .ok (.getfield 265, 3) := lw_dr lw_d_cX12_mark_0 7 rfl
theorem dX12_mark_12 : decode cX12_mark 12 = .ok (.if_icmp .lt 22, 3) := lw_dr lw_d_cX12_mark_0 8 rfl
theorem dX12_mark_34 : decode cX12_mark 34 = .ok (.iload_n 1, 1) := lw_dr lw_d_cX12_mark_0 9 rfl
theorem dX12_mark_35 : decode cX12_mark 35 = .ok (.aload_n 0, 1) := lw_dr lw_d_cX12_mark_0 10 rfl
theorem dX12_mark_36 : decode cX12_mark 36 = .ok (.getfield 265, 3) := lw_dr lw_d_cX12_mark_0 11 rfl
theorem dX12_mark_39 : decode cX12_mark 39 = .ok (.if_icmp .lt 12, 3) := lw_dr lw_d_cX12_mark_0 12 rfl
theorem dX12_mark_51 : decode cX12_mark 51 = .ok (.iconst (-1), 1) := lw_dr lw_d_cX12_mark_0 13 rfl
theorem dX12_mark_52 : decode cX12_mark 52 = .ok (.ireturn, 1) := lw_dr lw_d_cX12_mark_0 14 rfl
theorem dX12_mark_42 : decode cX12_mark 42 = .ok (.aload_n 0, 1) := lw_dr lw_d_cX12_mark_0 15 rfl
theorem dX12_mark_43 : decode cX12_mark 43 = .ok (.getfield 78, 3) := lw_dr lw_d_cX12_mark_0 16 rfl
theorem dX12_mark_46 : decode cX12_mark 46 = .ok (.iload_n 1, 1) := lw_dr lw_d_cX12_mark_0 17 rfl
theorem dX12_mark_47 : decode cX12_mark 47 = .ok (.iaload, 1) := lw_dr lw_d_cX12_mark_0 18 rfl
theorem dX12_mark_48 : decode cX12_mark 48 = .ok (.goto 4, 3) := lw_dr lw_d_cX12_mark_0 19 rfl
theorem dX12_mark_15 : decode cX12_mark 15 = .ok (.aload_n 0, 1) := lw_dr lw_d_cX12_mark_0 20 rfl
theorem dX12_mark_16 : decode cX12_mark 16 = .ok (.aload_n 0, 1) := lw_dr lw_d_cX12_mark_0 21 rfl
theorem dX12_mark_17 : decode cX12_mark 17 = .ok (.getfield 78, 3) := lw_dr lw_d_cX12_mark_0 22 rfl
theorem dX12_mark_20 : decode cX12_mark 20 = .ok (.iload_n 1, 1) := lw_dr lw_d_cX12_mark_0 23 rfl
theorem dX12_mark_21 : decode cX12_mark 21 = .ok (.iaload, 1) := lw_dr lw_d_cX12_mark_0 24 rfl
theorem dX12_mark_22 : decode cX12_mark 22 = .ok (.invokevirtual 268, 3) := lw_dr lw_d_cX12_mark_0 25 rfl
theorem dX12_mark_25 : decode cX12_mark 25 = .ok (.ifCond .ne 9, 3) := lw_dr lw_d_cX12_mark_0 26 rfl
theorem dX12_mark_28 : decode cX12_mark 28 = .ok (.iinc 1 (-1), 3) := lw_dr lw_d_cX12_mark_0 27 rfl
theorem dX12_mark_31 : decode cX12_mark 31 = .ok (.goto (-24), 3) := lw_dr lw_d_cX12_mark_0 28 rfl
theorem lw_d_cX12_isMark_0 : lw_dl cX12_isMark [(0, .iload_n 1, 1), (1, .bipush 20, 2), (3, .if_icmp .lt 13, 3), (16, .iconst 0, 1), (17, .ireturn, 1), (6, .iload_n 1, 1), (7, .bipush 24, 2), (9, .if_icmp .gt 7, 3), (12, .iconst 1, 1), (13, .goto 4, 3)] = true := by decide +kernel
theorem dX12_isMark_0 : decode cX12_isMark 0 = .ok (.iload_n 1, 1) := lw_dr lw_d_cX12_isMark_0 0 rfl
theorem dX12_isMark_1 : decode cX12_isMark 1 = .ok (.bipush 20, 2) := lw_dr lw_d_cX12_isMark_0 1 rfl
theorem dX12_isMark_3 : decode cX12_isMark 3 = .ok (.if_icmp .lt 13, 3) := lw_dr lw_d_cX12_isMark_0 2 rfl
theorem dX12_isMark_16 : decode cX12_isMark 16 = .ok (.iconst 0, 1) := lw_dr lw_d_cX12_isMark_0 3 rfl
theorem dX12_isMark_17 : decode cX12_isMark 17 = .ok (.ireturn, 1) := lw_dr lw_d_cX12_isMark_0 4 rfl
theorem dX12_isMark_6 : decode cX12_isMark 6 = .ok (.iload_n 1, 1) := lw_dr lw_d_cX12_isMark_0 5 rfl
theorem dX12_isMark_7 : decode cX12_isMark 7 = .ok (.bipush 24, 2) := lw_dr lw_d_cX12_isMark_0 6 rfl
theorem dX12_isMark_9 : decode cX12_isMark 9 = .ok (.if_icmp .gt 7, 3) := lw_dr lw_d_cX12_isMark_0 7 rfl
theorem dX12_isMark_12 : decode cX12_isMark 12 = .ok (.iconst 1, 1) := lw_dr lw_d_cX12_isMark_0 8 rfl
theorem dX12_isMark_13 : decode cX12_isMark 13 = .ok (.goto 4, 3) := lw_dr lw_d_cX12_isMark_0 9 rfl
theorem lw_d_cX12_dropsToMark_0 : lw_dl cX12_dropsToMark [(0, .aload_n 0, 1), (1, .getfield 259, 3), (4, .aload_n 0, 1), (5, .getfield 265, 3), (8, .if_icmp .le 28, 3), (36, .return_, 1), (11, .aload_n 0, 1), (12, .aload_n 0, 1), (13, .getfield 78, 3), (16, .aload_n 0, 1), (17, .getfield 259, 3), (20, .iconst 1, 1), (21, .isub, 1), (22, .iaload, 1), (23, .invokevirtual 268, 3), (26, .ifCond .ne 10, 3), (29, .aload_n 0, 1), (30, .invokevirtual 271, 3), (33, .goto (-33), 3)] = true := by decide +kernel
theorem dX12_dropsToMark_0 : decode cX12_dropsToMark 0 = .ok (.aload_n 0, 1) := lw_dr lw_d_cX12_dropsToMark_0 0 rfl
theorem dX12_dropsToMark_1 : decode cX12_dropsToMark 1 = .ok (.getfield 259, 3) := lw_dr lw_d_cX12_dropsToMark_0 1 rfl
theorem dX12_dropsToMark_4 : decode cX12_dropsToMark 4 = .ok (.aload_n 0, 1) := lw_dr lw_d_cX12_dropsToMark_0 2 rfl
theorem dX12_dropsToMark_5 : decode cX12_dropsToMark 5 = .ok (.getfield 265, 3) := lw_dr lw_d_cX12_dropsToMark_0 3 rfl
theorem dX12_dropsToMark_8 : decode cX12_dropsToMark 8 = .ok (.if_icmp .le 28, 3) := lw_dr lw_d_cX12_dropsToMark_0 4 rfl
theorem dX12_dropsToMark_36 : decode cX12_dropsToMark 36 = .ok (.return_, 1) := lw_dr lw_d_cX12_dropsToMark_0 5 rfl
theorem dX12_dropsToMark_11 : decode cX12_dropsToMark 11 = .ok (.aload_n 0, 1) := lw_dr lw_d_cX12_dropsToMark_0 6 rfl
theorem dX12_dropsToMark_12 : decode cX12_dropsToMark 12 = .ok (.aload_n 0, 1) := lw_dr lw_d_cX12_dropsToMark_0 7 rfl
theorem dX12_dropsToMark_13 : decode cX12_dropsToMark 13 = .ok (.getfield 78, 3) := lw_dr lw_d_cX12_dropsToMark_0 8 rfl
theorem dX12_dropsToMark_16 : decode cX12_dropsToMark 16 = .ok (.aload_n 0, 1) := lw_dr lw_d_cX12_dropsToMark_0 9 rfl
theorem dX12_dropsToMark_17 : decode cX12_dropsToMark 17 = .ok (.getfield 259, 3) := lw_dr lw_d_cX12_dropsToMark_0 10 rfl
theorem dX12_dropsToMark_20 : decode cX12_dropsToMark 20 = .ok (.iconst 1, 1) := lw_dr lw_d_cX12_dropsToMark_0 11 rfl
theorem dX12_dropsToMark_21 : decode cX12_dropsToMark 21 = .ok (.isub, 1) := lw_dr lw_d_cX12_dropsToMark_0 12 rfl
theorem dX12_dropsToMark_22 : decode cX12_dropsToMark 22 = .ok (.iaload, 1) := lw_dr lw_d_cX12_dropsToMark_0 13 rfl
theorem dX12_dropsToMark_23 : decode cX12_dropsToMark 23 = .ok (.invokevirtual 268, 3) := lw_dr lw_d_cX12_dropsToMark_0 14 rfl
theorem dX12_dropsToMark_26 : decode cX12_dropsToMark 26 = .ok (.ifCond .ne 10, 3) := lw_dr lw_d_cX12_dropsToMark_0 15 rfl
theorem dX12_dropsToMark_29 : decode cX12_dropsToMark 29 = .ok (.aload_n 0, 1) := lw_dr lw_d_cX12_dropsToMark_0 16 rfl
theorem dX12_dropsToMark_30 : decode cX12_dropsToMark 30 = .ok (.invokevirtual 271, 3) := lw_dr lw_d_cX12_dropsToMark_0 17 rfl
theorem dX12_dropsToMark_33 : decode cX12_dropsToMark 33 = .ok (.goto (-33), 3) := lw_dr lw_d_cX12_dropsToMark_0 18 rfl
theorem lw_d_cX12_test_0 : lw_dl cX12_test [(0, .iconst 1, 1), (1, .istore_n 1, 1), (2, .iload_n 1, 1), (3, .ifCond .eq 107, 3), (6, .aload_n 0, 1), (7, .getfield 151, 3), (10, .ifCond .ne 100, 3), (110, .aload_n 0, 1), (111, .getfield 151, 3), (114, .ifCond .ne 17, 3), (131, .return_, 1), (117, .aload_n 0, 1), (118, .getfield 259, 3), (121, .ifCond .le 10, 3), (124, .aload_n 0, 1), (125, .invokevirtual 271, 3), (128, .goto (-18), 3)] = true := by decide +kernel
theorem dX12_test_0 : decode cX12_test 0 = .ok (.iconst 1, 1) := lw_dr lw_d_cX12_test_0 0 rfl
theorem dX12_test_1 : decode cX12_test 1 = .ok (.istore_n 1, 1) := lw_dr lw_d_cX12_test_0 1 rfl
theorem dX12_test_2 : decode cX12_test 2 = .ok (.iload_n 1, 1) := lw_dr lw_d_cX12_test_0 2 rfl
theorem dX12_test_3 : decode cX12_test 3 = .ok (.ifCond .eq 107, 3) := lw_dr lw_d_cX12_test_0 3 rfl
theorem dX12_test_6 : decode cX12_test 6 = .ok (.aload_n 0, 1) := lw_dr lw_d_cX12_test_0 4 rfl
theorem dX12_test_7 : decode cX12_test 7 = .ok (.getfield 151, 3) := lw_dr lw_d_cX12_test_0 5 rfl
theorem dX12_test_10 : decode cX12_test 10 = .ok (.ifCond .ne 100, 3) := lw_dr lw_d_cX12_test_0 6 rfl
theorem dX12_test_110 : decode cX12_test 110 = .ok (.aload_n 0, 1) := lw_dr lw_d_cX12_test_0 7 rfl
theorem dX12_test_111 : decode cX12_test 111 = .ok (.getfield 151, 3) := lw_dr lw_d_cX12_test_0 8 rfl
theorem dX12_test_114 : decode cX12_test 114 = .ok (.ifCond .ne 17, 3) := lw_dr lw_d_cX12_test_0 9 rfl
theorem dX12_test_131 : decode cX12_test 131 = .ok (.return_, 1) := lw_dr lw_d_cX12_test_0 10 rfl
theorem dX12_test_117 : decode cX12_test 117 = .ok (.aload_n 0, 1) := lw_dr lw_d_cX12_test_0 11 rfl
theorem dX12_test_118 : decode cX12_test 118 = .ok (.getfield 259, 3) := lw_dr lw_d_cX12_test_0 12 rfl
theorem dX12_test_121 : decode cX12_test 121 = .ok (.ifCond .le 10, 3) := lw_dr lw_d_cX12_test_0 13 rfl
theorem dX12_test_124 : decode cX12_test 124 = .ok (.aload_n 0, 1) := lw_dr lw_d_cX12_test_0 14 rfl
theorem dX12_test_125 : decode cX12_test 125 = .ok (.invokevirtual 271, 3) := lw_dr lw_d_cX12_test_0 15 rfl
theorem dX12_test_128 : decode cX12_test 128 = .ok (.goto (-18), 3) := lw_dr lw_d_cX12_test_0 16 rfl
theorem lw_d_cX12_fact_0 : lw_dl cX12_fact [(0, .aload_n 0, 1), (1, .aload_n 0, 1), (2, .getfield 45, 3), (5, .invokevirtual 178, 3), (8, .ifCond .eq 10, 3), (18, .aload_n 0, 1), (19, .invokevirtual 293, 3)] = true := by decide +kernel
theorem dX12_fact_0 : decode cX12_fact 0 = .ok (.aload_n 0, 1) := lw_dr lw_d_cX12_fact_0 0 rfl
theorem dX12_fact_1 : decode cX12_fact 1 = .ok (.aload_n 0, 1) := lw_dr lw_d_cX12_fact_0 1 rfl
theorem dX12_fact_2 : decode cX12_fact 2 = .ok (.getfield 45, 3) := lw_dr lw_d_cX12_fact_0 2 rfl
theorem dX12_fact_5 : decode cX12_fact 5 = .ok (.invokevirtual 178, 3) := lw_dr lw_d_cX12_fact_0 3 rfl
theorem dX12_fact_8 : decode cX12_fact 8 = .ok (.ifCond .eq 10, 3) := lw_dr lw_d_cX12_fact_0 4 rfl
theorem dX12_fact_18 : decode cX12_fact 18 = .ok (.aload_n 0, 1) := lw_dr lw_d_cX12_fact_0 5 rfl
theorem dX12_fact_19 : decode cX12_fact 19 = .ok (.invokevirtual 293, 3) := lw_dr lw_d_cX12_fact_0 6 rfl
theorem lw_d_cX12_dropsNots_0 : lw_dl cX12_dropsNots [(0, .aload_n 0, 1), (1, .getfield 151, 3), (4, .ifCond .ne 29, 3), (33, .return_, 1), (7, .aload_n 0, 1), (8, .bipush 16, 2), (10, .invokevirtual 283, 3), (13, .ifCond .eq 20, 3), (16, .aload_n 0, 1), (17, .dup, 1), (18, .getfield 256, 3), (21, .iconst 1, 1), (22, .isub, 1), (23, .putfield 256, 3), (26, .aload_n 0, 1), (27, .invokevirtual 271, 3), (30, .goto (-30), 3)] = true := by decide +kernel
theorem dX12_dropsNots_0 : decode cX12_dropsNots 0 = .ok (.aload_n 0, 1) := lw_dr lw_d_cX12_dropsNots_0 0 rfl
theorem dX12_dropsNots_1 : decode cX12_dropsNots 1 = .ok (.getfield 151, 3) := lw_dr lw_d_cX12_dropsNots_0 1 rfl
theorem dX12_dropsNots_4 : decode cX12_dropsNots 4 = .ok (.ifCond .ne 29, 3) := lw_dr lw_d_cX12_dropsNots_0 2 rfl
theorem dX12_dropsNots_33 : decode cX12_dropsNots 33 = .ok (.return_, 1) := lw_dr lw_d_cX12_dropsNots_0 3 rfl
theorem dX12_dropsNots_7 : decode cX12_dropsNots 7 = .ok (.aload_n 0, 1) := lw_dr lw_d_cX12_dropsNots_0 4 rfl
theorem dX12_dropsNots_8 : decode cX12_dropsNots 8 = .ok (.bipush 16, 2) := lw_dr lw_d_cX12_dropsNots_0 5 rfl
theorem dX12_dropsNots_10 : decode cX12_dropsNots 10 = .ok (.invokevirtual 283, 3) := lw_dr lw_d_cX12_dropsNots_0 6 rfl
theorem dX12_dropsNots_13 : decode cX12_dropsNots 13 = .ok (.ifCond .eq 20, 3) := lw_dr lw_d_cX12_dropsNots_0 7 rfl
theorem dX12_dropsNots_16 : decode cX12_dropsNots 16 = .ok (.aload_n 0, 1) := lw_dr lw_d_cX12_dropsNots_0 8 rfl
theorem dX12_dropsNots_17 : decode cX12_dropsNots 17 = .ok (.dup, 1) := lw_dr lw_d_cX12_dropsNots_0 9 rfl
theorem dX12_dropsNots_18 : decode cX12_dropsNots 18 = .ok (.getfield 256, 3) := lw_dr lw_d_cX12_dropsNots_0 10 rfl
theorem dX12_dropsNots_21 : decode cX12_dropsNots 21 = .ok (.iconst 1, 1) := lw_dr lw_d_cX12_dropsNots_0 11 rfl
theorem dX12_dropsNots_22 : decode cX12_dropsNots 22 = .ok (.isub, 1) := lw_dr lw_d_cX12_dropsNots_0 12 rfl
theorem dX12_dropsNots_23 : decode cX12_dropsNots 23 = .ok (.putfield 256, 3) := lw_dr lw_d_cX12_dropsNots_0 13 rfl
theorem dX12_dropsNots_26 : decode cX12_dropsNots 26 = .ok (.aload_n 0, 1) := lw_dr lw_d_cX12_dropsNots_0 14 rfl
theorem dX12_dropsNots_27 : decode cX12_dropsNots 27 = .ok (.invokevirtual 271, 3) := lw_dr lw_d_cX12_dropsNots_0 15 rfl
theorem dX12_dropsNots_30 : decode cX12_dropsNots 30 = .ok (.goto (-30), 3) := lw_dr lw_d_cX12_dropsNots_0 16 rfl
theorem lw_d_cX12_goesOnTest_0 : lw_dl cX12_goesOnTest [(0, .aload_n 0, 1), (1, .getfield 151, 3), (4, .ifCond .ne 72, 3), (76, .aload_n 0, 1), (77, .aload_n 0, 1), (78, .getfield 39, 3), (81, .invokevirtual 178, 3), (84, .ifCond .eq 42, 3), (126, .aload_n 0, 1), (127, .aload_n 0, 1), (128, .getfield 36, 3), (131, .invokevirtual 178, 3), (134, .ifCond .eq 51, 3), (185, .aload_n 0, 1), (186, .getfield 151, 3), (189, .ifCond .ne 19, 3), (208, .iconst 0, 1), (209, .ireturn, 1), (192, .aload_n 0, 1), (193, .invokevirtual 305, 3), (196, .ifCond .eq 12, 3), (199, .aload_n 0, 1), (200, .iconst 1, 1), (201, .aload_n 0, 1), (202, .getfield 157, 3), (205, .invokevirtual 181, 3), (137, .aload_n 0, 1), (138, .bipush 14, 2), (140, .invokevirtual 283, 3), (143, .ifCond .ne 12, 3), (155, .aload_n 0, 1), (156, .invokevirtual 271, 3), (159, .goto (-22), 3), (146, .aload_n 0, 1), (147, .bipush 15, 2), (149, .invokevirtual 283, 3), (152, .ifCond .eq 10, 3), (162, .aload_n 0, 1), (163, .getfield 78, 3), (166, .aload_n 0, 1)] = true := by decide +kernel
theorem dX12_goesOnTest_0 : decode cX12_goesOnTest 0 = .ok (.aload_n 0, 1) := lw_dr lw_d_cX12_goesOnTest_0 0 rfl
theorem dX12_goesOnTest_1 : decode cX12_goesOnTest 1 = .ok (.getfield 151, 3) := lw_dr lw_d_cX12_goesOnTest_0 1 rfl
theorem dX12_goesOnTest_4 : decode cX12_goesOnTest 4 = .ok (.ifCond .ne 72, 3) := lw_dr lw_d_cX12_goesOnTest_0 2 rfl
theorem dX12_goesOnTest_76 : decode cX12_goesOnTest 76 = .ok (.aload_n 0, 1) := lw_dr lw_d_cX12_goesOnTest_0 3 rfl
theorem dX12_goesOnTest_77 : decode cX12_goesOnTest 77 = .ok (.aload_n 0, 1) := lw_dr lw_d_cX12_goesOnTest_0 4 rfl
theorem dX12_goesOnTest_78 : decode cX12_goesOnTest 78 = .ok (.getfield 39, 3) := lw_dr lw_d_cX12_goesOnTest_0 5 rfl
theorem dX12_goesOnTest_81 : decode cX12_goesOnTest 81 = .ok (.invokevirtual 178, 3) := lw_dr lw_d_cX12_goesOnTest_0 6 rfl
theorem dX12_goesOnTest_84 : decode cX12_goesOnTest 84 = .ok (.ifCond .eq 42, 3) := lw_dr lw_d_cX12_goesOnTest_0 7 rfl
theorem dX12_goesOnTest_126 : decode cX12_goesOnTest 126 = .ok (.aload_n 0, 1) := lw_dr lw_d_cX12_goesOnTest_0 8 rfl
theorem dX12_goesOnTest_127 : decode cX12_goesOnTest 127 = .ok (.aload_n 0, 1) := lw_dr lw_d_cX12_goesOnTest_0 9 rfl
theorem dX12_goesOnTest_128 : decode cX12_goesOnTest 128 = .ok (.getfield 36, 3) := lw_dr lw_d_cX12_goesOnTest_0 10 rfl
theorem dX12_goesOnTest_131 : decode cX12_goesOnTest 131 = .ok (.invokevirtual 178, 3) := lw_dr lw_d_cX12_goesOnTest_0 11 rfl
theorem dX12_goesOnTest_134 : decode cX12_goesOnTest 134 = .ok (.ifCond .eq 51, 3) := lw_dr lw_d_cX12_goesOnTest_0 12 rfl
theorem dX12_goesOnTest_185 : decode cX12_goesOnTest 185 = .ok (.aload_n 0, 1) := lw_dr lw_d_cX12_goesOnTest_0 13 rfl
theorem dX12_goesOnTest_186 : decode cX12_goesOnTest 186 = .ok (.getfield 151, 3) := lw_dr lw_d_cX12_goesOnTest_0 14 rfl
theorem dX12_goesOnTest_189 : decode cX12_goesOnTest 189 = .ok (.ifCond .ne 19, 3) := lw_dr lw_d_cX12_goesOnTest_0 15 rfl
theorem dX12_goesOnTest_208 : decode cX12_goesOnTest 208 = .ok (.iconst 0, 1) := lw_dr lw_d_cX12_goesOnTest_0 16 rfl
theorem dX12_goesOnTest_209 : decode cX12_goesOnTest 209 = .ok (.ireturn, 1) := lw_dr lw_d_cX12_goesOnTest_0 17 rfl
theorem dX12_goesOnTest_192 : decode cX12_goesOnTest 192 = .ok (.aload_n 0, 1) := lw_dr lw_d_cX12_goesOnTest_0 18 rfl
theorem dX12_goesOnTest_193 : decode cX12_goesOnTest 193 = .ok (.invokevirtual 305, 3) := lw_dr lw_d_cX12_goesOnTest_0 19 rfl
theorem dX12_goesOnTest_196 : decode cX12_goesOnTest 196 = .ok (.ifCond .eq 12, 3) := lw_dr lw_d_cX12_goesOnTest_0 20 rfl
theorem dX12_goesOnTest_199 : decode cX12_goesOnTest 199 = .ok (.aload_n 0, 1) := lw_dr lw_d_cX12_goesOnTest_0 21 rfl
theorem dX12_goesOnTest_200 : decode cX12_goesOnTest 200 = .ok (.iconst 1, 1) := lw_dr lw_d_cX12_goesOnTest_0 22 rfl
theorem dX12_goesOnTest_201 : decode cX12_goesOnTest 201 = .ok (.aload_n 0, 1) := lw_dr lw_d_cX12_goesOnTest_0 23 rfl
theorem dX12_goesOnTest_202 : decode cX12_goesOnTest 202 = .ok (.getfield 157, 3) := lw_dr lw_d_cX12_goesOnTest_0 24 rfl
theorem dX12_goesOnTest_205 : decode cX12_goesOnTest 205 = .ok (.invokevirtual 181, 3) := lw_dr lw_d_cX12_goesOnTest_0 25 rfl
theorem dX12_goesOnTest_137 : decode cX12_goesOnTest 137 = .ok (.aload_n 0, 1) := lw_dr lw_d_cX12_goesOnTest_0 26 rfl
theorem dX12_goesOnTest_138 : decode cX12_goesOnTest 138 = .ok (.bipush 14, 2) := lw_dr lw_d_cX12_goesOnTest_0 27 rfl
theorem dX12_goesOnTest_140 : decode cX12_goesOnTest 140 = .ok (.invokevirtual 283, 3) := lw_dr lw_d_cX12_goesOnTest_0 28 rfl
theorem dX12_goesOnTest_143 : decode cX12_goesOnTest 143 = .ok (.ifCond .ne 12, 3) := lw_dr lw_d_cX12_goesOnTest_0 29 rfl
theorem dX12_goesOnTest_155 : decode cX12_goesOnTest 155 = .ok (.aload_n 0, 1) := lw_dr lw_d_cX12_goesOnTest_0 30 rfl
theorem dX12_goesOnTest_156 : decode cX12_goesOnTest 156 = .ok (.invokevirtual 271, 3) := lw_dr lw_d_cX12_goesOnTest_0 31 rfl
theorem dX12_goesOnTest_159 : decode cX12_goesOnTest 159 = .ok (.goto (-22), 3) := lw_dr lw_d_cX12_goesOnTest_0 32 rfl
theorem dX12_goesOnTest_146 : decode cX12_goesOnTest 146 = .ok (.aload_n 0, 1) := lw_dr lw_d_cX12_goesOnTest_0 33 rfl
theorem dX12_goesOnTest_147 : decode cX12_goesOnTest 147 = .ok (.bipush 15, 2) := lw_dr lw_d_cX12_goesOnTest_0 34 rfl
theorem dX12_goesOnTest_149 : decode cX12_goesOnTest 149 = .ok (.invokevirtual 283, 3) := lw_dr lw_d_cX12_goesOnTest_0 35 rfl
theorem dX12_goesOnTest_152 : decode cX12_goesOnTest 152 = .ok (.ifCond .eq 10, 3) := lw_dr lw_d_cX12_goesOnTest_0 36 rfl
theorem dX12_goesOnTest_162 : decode cX12_goesOnTest 162 = .ok (.aload_n 0, 1) := lw_dr lw_d_cX12_goesOnTest_0 37 rfl
theorem dX12_goesOnTest_163 : decode cX12_goesOnTest 163 = .ok (.getfield 78, 3) := lw_dr lw_d_cX12_goesOnTest_0 38 rfl
theorem dX12_goesOnTest_166 : decode cX12_goesOnTest 166 = .ok (.aload_n 0, 1) := lw_dr lw_d_cX12_goesOnTest_0 39 rfl
theorem lw_d_cX12_goesOnTest_167 : lw_dl cX12_goesOnTest [(167, .getfield 259, 3), (170, .bipush 15, 2), (172, .iastore, 1), (173, .aload_n 0, 1), (174, .dup, 1), (175, .getfield 259, 3), (178, .iconst 1, 1), (179, .iadd, 1), (180, .putfield 259, 3), (183, .iconst 1, 1), (184, .ireturn, 1)] = true := by decide +kernel
theorem dX12_goesOnTest_167 : decode cX12_goesOnTest 167 = .ok (.getfield 259, 3) := lw_dr lw_d_cX12_goesOnTest_167 0 rfl
theorem dX12_goesOnTest_170 : decode cX12_goesOnTest 170 = .ok (.bipush 15, 2) := lw_dr lw_d_cX12_goesOnTest_167 1 rfl
theorem dX12_goesOnTest_172 : decode cX12_goesOnTest 172 = .ok (.iastore, 1) := lw_dr lw_d_cX12_goesOnTest_167 2 rfl
theorem dX12_goesOnTest_173 : decode cX12_goesOnTest 173 = .ok (.aload_n 0, 1) := lw_dr lw_d_cX12_goesOnTest_167 3 rfl
theorem dX12_goesOnTest_174 : decode cX12_goesOnTest 174 = .ok (.dup, 1) := lw_dr lw_d_cX12_goesOnTest_167 4 rfl
theorem dX12_goesOnTest_175 : decode cX12_goesOnTest 175 = .ok (.getfield 259, 3) := lw_dr lw_d_cX12_goesOnTest_167 5 rfl
theorem dX12_goesOnTest_178 : decode cX12_goesOnTest 178 = .ok (.iconst 1, 1) := lw_dr lw_d_cX12_goesOnTest_167 6 rfl
theorem dX12_goesOnTest_179 : decode cX12_goesOnTest 179 = .ok (.iadd, 1) := lw_dr lw_d_cX12_goesOnTest_167 7 rfl
theorem dX12_goesOnTest_180 : decode cX12_goesOnTest 180 = .ok (.putfield 259, 3) := lw_dr lw_d_cX12_goesOnTest_167 8 rfl
theorem dX12_goesOnTest_183 : decode cX12_goesOnTest 183 = .ok (.iconst 1, 1) := lw_dr lw_d_cX12_goesOnTest_167 9 rfl
theorem dX12_goesOnTest_184 : decode cX12_goesOnTest 184 = .ok (.ireturn, 1) := lw_dr lw_d_cX12_goesOnTest_167 10 rfl
theorem lw_d_cX12_hasSquare_0 : lw_dl cX12_hasSquare [(0, .iconst 0, 1), (1, .istore_n 1, 1), (2, .iload_n 1, 1), (3, .aload_n 0, 1), (4, .getfield 259, 3), (7, .if_icmp .ge 22, 3), (29, .iconst 0, 1), (30, .ireturn, 1), (10, .aload_n 0, 1), (11, .getfield 78, 3), (14, .iload_n 1, 1), (15, .iaload, 1), (16, .bipush 25, 2), (18, .if_icmp .ne 5, 3), (23, .iinc 1 1, 3), (26, .goto (-24), 3), (21, .iconst 1, 1), (22, .ireturn, 1)] = true := by decide +kernel
theorem dX12_hasSquare_0 : decode cX12_hasSquare 0 = .ok (.iconst 0, 1) := lw_dr lw_d_cX12_hasSquare_0 0 rfl
theorem dX12_hasSquare_1 : decode cX12_hasSquare 1 = .ok (.istore_n 1, 1) := lw_dr lw_d_cX12_hasSquare_0 1 rfl
theorem dX12_hasSquare_2 : decode cX12_hasSquare 2 = .ok (.iload_n 1, 1) := lw_dr lw_d_cX12_hasSquare_0 2 rfl
theorem dX12_hasSquare_3 : decode cX12_hasSquare 3 = .ok (.aload_n 0, 1) := lw_dr lw_d_cX12_hasSquare_0 3 rfl
theorem dX12_hasSquare_4 : decode cX12_hasSquare 4 = .ok (.getfield 259, 3) := lw_dr lw_d_cX12_hasSquare_0 4 rfl
theorem dX12_hasSquare_7 : decode cX12_hasSquare 7 = .ok (.if_icmp .ge 22, 3) := lw_dr lw_d_cX12_hasSquare_0 5 rfl
theorem dX12_hasSquare_29 : decode cX12_hasSquare 29 = .ok (.iconst 0, 1) := lw_dr lw_d_cX12_hasSquare_0 6 rfl
theorem dX12_hasSquare_30 : decode cX12_hasSquare 30 = .ok (.ireturn, 1) := lw_dr lw_d_cX12_hasSquare_0 7 rfl
theorem dX12_hasSquare_10 : decode cX12_hasSquare 10 = .ok (.aload_n 0, 1) := lw_dr lw_d_cX12_hasSquare_0 8 rfl
theorem dX12_hasSquare_11 : decode cX12_hasSquare 11 = .ok (.getfield 78, 3) := lw_dr lw_d_cX12_hasSquare_0 9 rfl
theorem dX12_hasSquare_14 : decode cX12_hasSquare 14 = .ok (.iload_n 1, 1) := lw_dr lw_d_cX12_hasSquare_0 10 rfl
theorem dX12_hasSquare_15 : decode cX12_hasSquare 15 = .ok (.iaload, 1) := lw_dr lw_d_cX12_hasSquare_0 11 rfl
theorem dX12_hasSquare_16 : decode cX12_hasSquare 16 = .ok (.bipush 25, 2) := lw_dr lw_d_cX12_hasSquare_0 12 rfl
theorem dX12_hasSquare_18 : decode cX12_hasSquare 18 = .ok (.if_icmp .ne 5, 3) := lw_dr lw_d_cX12_hasSquare_0 13 rfl
theorem dX12_hasSquare_23 : decode cX12_hasSquare 23 = .ok (.iinc 1 1, 3) := lw_dr lw_d_cX12_hasSquare_0 14 rfl
theorem dX12_hasSquare_26 : decode cX12_hasSquare 26 = .ok (.goto (-24), 3) := lw_dr lw_d_cX12_hasSquare_0 15 rfl
theorem dX12_hasSquare_21 : decode cX12_hasSquare 21 = .ok (.iconst 1, 1) := lw_dr lw_d_cX12_hasSquare_0 16 rfl
theorem dX12_hasSquare_22 : decode cX12_hasSquare 22 = .ok (.ireturn, 1) := lw_dr lw_d_cX12_hasSquare_0 17 rfl
theorem lw_d_cX12_fault_0 : lw_dl cX12_fault [(0, .iload_n 1, 1), (1, .ifCond .ne 10, 3), (11, .iload_n 1, 1), (12, .iconst 1, 1), (13, .if_icmp .ne 10, 3), (23, .iconst (-1), 1), (24, .ireturn, 1), (16, .aload_n 0, 1), (17, .getfield 13, 3), (20, .goto 4, 3), (4, .aload_n 0, 1), (5, .getfield 228, 3), (8, .goto 16, 3)] = true := by decide +kernel
theorem dX12_fault_0 : decode cX12_fault 0 = .ok (.iload_n 1, 1) := lw_dr lw_d_cX12_fault_0 0 rfl
theorem dX12_fault_1 : decode cX12_fault 1 = .ok (.ifCond .ne 10, 3) := lw_dr lw_d_cX12_fault_0 1 rfl
theorem dX12_fault_11 : decode cX12_fault 11 = .ok (.iload_n 1, 1) := lw_dr lw_d_cX12_fault_0 2 rfl
theorem dX12_fault_12 : decode cX12_fault 12 = .ok (.iconst 1, 1) := lw_dr lw_d_cX12_fault_0 3 rfl
theorem dX12_fault_13 : decode cX12_fault 13 = .ok (.if_icmp .ne 10, 3) := lw_dr lw_d_cX12_fault_0 4 rfl
theorem dX12_fault_23 : decode cX12_fault 23 = .ok (.iconst (-1), 1) := lw_dr lw_d_cX12_fault_0 5 rfl
theorem dX12_fault_24 : decode cX12_fault 24 = .ok (.ireturn, 1) := lw_dr lw_d_cX12_fault_0 6 rfl
theorem dX12_fault_16 : decode cX12_fault 16 = .ok (.aload_n 0, 1) := lw_dr lw_d_cX12_fault_0 7 rfl
theorem dX12_fault_17 : decode cX12_fault 17 = .ok (.getfield 13, 3) := lw_dr lw_d_cX12_fault_0 8 rfl
theorem dX12_fault_20 : decode cX12_fault 20 = .ok (.goto 4, 3) := lw_dr lw_d_cX12_fault_0 9 rfl
theorem dX12_fault_4 : decode cX12_fault 4 = .ok (.aload_n 0, 1) := lw_dr lw_d_cX12_fault_0 10 rfl
theorem dX12_fault_5 : decode cX12_fault 5 = .ok (.getfield 228, 3) := lw_dr lw_d_cX12_fault_0 11 rfl
theorem dX12_fault_8 : decode cX12_fault 8 = .ok (.goto 16, 3) := lw_dr lw_d_cX12_fault_0 12 rfl
theorem lw_d_cX12_has_0 : lw_dl cX12_has [(0, .iload_n 1, 1), (1, .tableswitch 107 0 9 #[55, 60, 65, 70, 75, 80, 87, 92, 97, 102], 55), (56, .aload_n 0, 1), (57, .getfield 234, 3), (60, .ireturn, 1), (61, .aload_n 0, 1), (62, .getfield 237, 3), (65, .ireturn, 1), (66, .aload_n 0, 1), (67, .getfield 240, 3), (70, .ireturn, 1), (71, .aload_n 0, 1), (72, .getfield 243, 3), (75, .ireturn, 1), (76, .aload_n 0, 1), (77, .getfield 246, 3), (80, .ireturn, 1), (81, .aload_n 0, 1), (82, .getfield 81, 3), (85, .iconst 0, 1), (86, .iaload, 1), (87, .ireturn, 1), (88, .aload_n 0, 1), (89, .getfield 63, 3), (92, .ireturn, 1), (93, .aload_n 0, 1), (94, .getfield 349, 3), (97, .ireturn, 1), (98, .aload_n 0, 1), (99, .getfield 352, 3), (102, .ireturn, 1), (103, .aload_n 0, 1), (104, .getfield 355, 3), (107, .ireturn, 1), (108, .iconst (-1), 1), (109, .ireturn, 1)] = true := by decide +kernel
theorem dX12_has_0 : decode cX12_has 0 = .ok (.iload_n 1, 1) := lw_dr lw_d_cX12_has_0 0 rfl
theorem dX12_has_1 : decode cX12_has 1 = .ok (.tableswitch 107 0 9 #[55, 60, 65, 70, 75, 80, 87, 92, 97, 102], 55) := lw_dr lw_d_cX12_has_0 1 rfl
theorem dX12_has_56 : decode cX12_has 56 = .ok (.aload_n 0, 1) := lw_dr lw_d_cX12_has_0 2 rfl
theorem dX12_has_57 : decode cX12_has 57 = .ok (.getfield 234, 3) := lw_dr lw_d_cX12_has_0 3 rfl
theorem dX12_has_60 : decode cX12_has 60 = .ok (.ireturn, 1) := lw_dr lw_d_cX12_has_0 4 rfl
theorem dX12_has_61 : decode cX12_has 61 = .ok (.aload_n 0, 1) := lw_dr lw_d_cX12_has_0 5 rfl
theorem dX12_has_62 : decode cX12_has 62 = .ok (.getfield 237, 3) := lw_dr lw_d_cX12_has_0 6 rfl
theorem dX12_has_65 : decode cX12_has 65 = .ok (.ireturn, 1) := lw_dr lw_d_cX12_has_0 7 rfl
theorem dX12_has_66 : decode cX12_has 66 = .ok (.aload_n 0, 1) := lw_dr lw_d_cX12_has_0 8 rfl
theorem dX12_has_67 : decode cX12_has 67 = .ok (.getfield 240, 3) := lw_dr lw_d_cX12_has_0 9 rfl
theorem dX12_has_70 : decode cX12_has 70 = .ok (.ireturn, 1) := lw_dr lw_d_cX12_has_0 10 rfl
theorem dX12_has_71 : decode cX12_has 71 = .ok (.aload_n 0, 1) := lw_dr lw_d_cX12_has_0 11 rfl
theorem dX12_has_72 : decode cX12_has 72 = .ok (.getfield 243, 3) := lw_dr lw_d_cX12_has_0 12 rfl
theorem dX12_has_75 : decode cX12_has 75 = .ok (.ireturn, 1) := lw_dr lw_d_cX12_has_0 13 rfl
theorem dX12_has_76 : decode cX12_has 76 = .ok (.aload_n 0, 1) := lw_dr lw_d_cX12_has_0 14 rfl
theorem dX12_has_77 : decode cX12_has 77 = .ok (.getfield 246, 3) := lw_dr lw_d_cX12_has_0 15 rfl
theorem dX12_has_80 : decode cX12_has 80 = .ok (.ireturn, 1) := lw_dr lw_d_cX12_has_0 16 rfl
theorem dX12_has_81 : decode cX12_has 81 = .ok (.aload_n 0, 1) := lw_dr lw_d_cX12_has_0 17 rfl
theorem dX12_has_82 : decode cX12_has 82 = .ok (.getfield 81, 3) := lw_dr lw_d_cX12_has_0 18 rfl
theorem dX12_has_85 : decode cX12_has 85 = .ok (.iconst 0, 1) := lw_dr lw_d_cX12_has_0 19 rfl
theorem dX12_has_86 : decode cX12_has 86 = .ok (.iaload, 1) := lw_dr lw_d_cX12_has_0 20 rfl
theorem dX12_has_87 : decode cX12_has 87 = .ok (.ireturn, 1) := lw_dr lw_d_cX12_has_0 21 rfl
theorem dX12_has_88 : decode cX12_has 88 = .ok (.aload_n 0, 1) := lw_dr lw_d_cX12_has_0 22 rfl
theorem dX12_has_89 : decode cX12_has 89 = .ok (.getfield 63, 3) := lw_dr lw_d_cX12_has_0 23 rfl
theorem dX12_has_92 : decode cX12_has 92 = .ok (.ireturn, 1) := lw_dr lw_d_cX12_has_0 24 rfl
theorem dX12_has_93 : decode cX12_has 93 = .ok (.aload_n 0, 1) := lw_dr lw_d_cX12_has_0 25 rfl
theorem dX12_has_94 : decode cX12_has 94 = .ok (.getfield 349, 3) := lw_dr lw_d_cX12_has_0 26 rfl
theorem dX12_has_97 : decode cX12_has 97 = .ok (.ireturn, 1) := lw_dr lw_d_cX12_has_0 27 rfl
theorem dX12_has_98 : decode cX12_has 98 = .ok (.aload_n 0, 1) := lw_dr lw_d_cX12_has_0 28 rfl
theorem dX12_has_99 : decode cX12_has 99 = .ok (.getfield 352, 3) := lw_dr lw_d_cX12_has_0 29 rfl
theorem dX12_has_102 : decode cX12_has 102 = .ok (.ireturn, 1) := lw_dr lw_d_cX12_has_0 30 rfl
theorem dX12_has_103 : decode cX12_has 103 = .ok (.aload_n 0, 1) := lw_dr lw_d_cX12_has_0 31 rfl
theorem dX12_has_104 : decode cX12_has 104 = .ok (.getfield 355, 3) := lw_dr lw_d_cX12_has_0 32 rfl
theorem dX12_has_107 : decode cX12_has 107 = .ok (.ireturn, 1) := lw_dr lw_d_cX12_has_0 33 rfl
theorem dX12_has_108 : decode cX12_has 108 = .ok (.iconst (-1), 1) := lw_dr lw_d_cX12_has_0 34 rfl
theorem dX12_has_109 : decode cX12_has 109 = .ok (.ireturn, 1) := lw_dr lw_d_cX12_has_0 35 rfl
theorem lw_d_cX12_table_0 : lw_dl cX12_table [(0, .aload_n 0, 1), (1, .iload_n 1, 1), (2, .invokevirtual 358, 3), (5, .ifCond .eq 11, 3), (16, .ldc_w 364, 3), (19, .ireturn, 1), (8, .aload_n 0, 1), (9, .iload_n 2, 1), (10, .invokevirtual 361, 3)] = true := by decide +kernel
theorem dX12_table_0 : decode cX12_table 0 = .ok (.aload_n 0, 1) := lw_dr lw_d_cX12_table_0 0 rfl
theorem dX12_table_1 : decode cX12_table 1 = .ok (.iload_n 1, 1) := lw_dr lw_d_cX12_table_0 1 rfl
theorem dX12_table_2 : decode cX12_table 2 = .ok (.invokevirtual 358, 3) := lw_dr lw_d_cX12_table_0 2 rfl
theorem dX12_table_5 : decode cX12_table 5 = .ok (.ifCond .eq 11, 3) := lw_dr lw_d_cX12_table_0 3 rfl
theorem dX12_table_16 : decode cX12_table 16 = .ok (.ldc_w 364, 3) := lw_dr lw_d_cX12_table_0 4 rfl
theorem dX12_table_19 : decode cX12_table 19 = .ok (.ireturn, 1) := lw_dr lw_d_cX12_table_0 5 rfl
theorem dX12_table_8 : decode cX12_table 8 = .ok (.aload_n 0, 1) := lw_dr lw_d_cX12_table_0 6 rfl
theorem dX12_table_9 : decode cX12_table 9 = .ok (.iload_n 2, 1) := lw_dr lw_d_cX12_table_0 7 rfl
theorem dX12_table_10 : decode cX12_table 10 = .ok (.invokevirtual 361, 3) := lw_dr lw_d_cX12_table_0 8 rfl
theorem lw_d_cX12_isReceiver_0 : lw_dl cX12_isReceiver [(0, .iload_n 1, 1), (1, .i2l, 1), (2, .lconst 0, 1), (3, .aload_n 0, 1), (4, .getfield 240, 3), (7, .iconst 1, 1), (8, .isub, 1), (9, .i2l, 1), (10, .invokestatic 191, 3), (13, .ireturn, 1)] = true := by decide +kernel
theorem dX12_isReceiver_0 : decode cX12_isReceiver 0 = .ok (.iload_n 1, 1) := lw_dr lw_d_cX12_isReceiver_0 0 rfl
theorem dX12_isReceiver_1 : decode cX12_isReceiver 1 = .ok (.i2l, 1) := lw_dr lw_d_cX12_isReceiver_0 1 rfl
theorem dX12_isReceiver_2 : decode cX12_isReceiver 2 = .ok (.lconst 0, 1) := lw_dr lw_d_cX12_isReceiver_0 2 rfl
theorem dX12_isReceiver_3 : decode cX12_isReceiver 3 = .ok (.aload_n 0, 1) := lw_dr lw_d_cX12_isReceiver_0 3 rfl
theorem dX12_isReceiver_4 : decode cX12_isReceiver 4 = .ok (.getfield 240, 3) := lw_dr lw_d_cX12_isReceiver_0 4 rfl
theorem dX12_isReceiver_7 : decode cX12_isReceiver 7 = .ok (.iconst 1, 1) := lw_dr lw_d_cX12_isReceiver_0 5 rfl
theorem dX12_isReceiver_8 : decode cX12_isReceiver 8 = .ok (.isub, 1) := lw_dr lw_d_cX12_isReceiver_0 6 rfl
theorem dX12_isReceiver_9 : decode cX12_isReceiver 9 = .ok (.i2l, 1) := lw_dr lw_d_cX12_isReceiver_0 7 rfl
theorem dX12_isReceiver_10 : decode cX12_isReceiver 10 = .ok (.invokestatic 191, 3) := lw_dr lw_d_cX12_isReceiver_0 8 rfl
theorem dX12_isReceiver_13 : decode cX12_isReceiver 13 = .ok (.ireturn, 1) := lw_dr lw_d_cX12_isReceiver_0 9 rfl
theorem lw_d_cX12_isSender_0 : lw_dl cX12_isSender [(0, .iload_n 1, 1), (1, .i2l, 1), (2, .lconst 0, 1), (3, .aload_n 0, 1), (4, .getfield 237, 3), (7, .iconst 1, 1), (8, .isub, 1), (9, .i2l, 1), (10, .invokestatic 191, 3)] = true := by decide +kernel
theorem dX12_isSender_0 : decode cX12_isSender 0 = .ok (.iload_n 1, 1) := lw_dr lw_d_cX12_isSender_0 0 rfl
theorem dX12_isSender_1 : decode cX12_isSender 1 = .ok (.i2l, 1) := lw_dr lw_d_cX12_isSender_0 1 rfl
theorem dX12_isSender_2 : decode cX12_isSender 2 = .ok (.lconst 0, 1) := lw_dr lw_d_cX12_isSender_0 2 rfl
theorem dX12_isSender_3 : decode cX12_isSender 3 = .ok (.aload_n 0, 1) := lw_dr lw_d_cX12_isSender_0 3 rfl
theorem dX12_isSender_4 : decode cX12_isSender 4 = .ok (.getfield 237, 3) := lw_dr lw_d_cX12_isSender_0 4 rfl
theorem dX12_isSender_7 : decode cX12_isSender 7 = .ok (.iconst 1, 1) := lw_dr lw_d_cX12_isSender_0 5 rfl
theorem dX12_isSender_8 : decode cX12_isSender 8 = .ok (.isub, 1) := lw_dr lw_d_cX12_isSender_0 6 rfl
theorem dX12_isSender_9 : decode cX12_isSender 9 = .ok (.i2l, 1) := lw_dr lw_d_cX12_isSender_0 7 rfl
theorem dX12_isSender_10 : decode cX12_isSender 10 = .ok (.invokestatic 191, 3) := lw_dr lw_d_cX12_isSender_0 8 rfl
