theorem dX3_putAhead_29 : decode cX3_putAhead 29 = .ok (.ifCond .le 8, 3) := by decide +kernel
theorem dX3_putAhead_37 : decode cX3_putAhead 37 = .ok (.aload_n 0, 1) := by decide +kernel
theorem dX3_putAhead_38 : decode cX3_putAhead 38 = .ok (.getfield 22, 3) := by decide +kernel
theorem dX3_putAhead_41 : decode cX3_putAhead 41 = .ok (.iconst 0, 1) := by decide +kernel
theorem dX3_putAhead_42 : decode cX3_putAhead 42 = .ok (.aload_n 0, 1) := by decide +kernel
theorem dX3_putAhead_43 : decode cX3_putAhead 43 = .ok (.getfield 18, 3) := by decide +kernel
theorem dX3_putAhead_46 : decode cX3_putAhead 46 = .ok (.iconst 0, 1) := by decide +kernel
theorem dX3_putAhead_47 : decode cX3_putAhead 47 = .ok (.iconst 5, 1) := by decide +kernel
theorem dX3_putAhead_48 : decode cX3_putAhead 48 = .ok (.invokestatic 71, 3) := by decide +kernel
theorem dX3_putAhead_51 : decode cX3_putAhead 51 = .ok (.aload_n 0, 1) := by decide +kernel
theorem dX3_putAhead_52 : decode cX3_putAhead 52 = .ok (.iconst 1, 1) := by decide +kernel
theorem dX3_putAhead_53 : decode cX3_putAhead 53 = .ok (.putfield 39, 3) := by decide +kernel
theorem dX3_putAhead_56 : decode cX3_putAhead 56 = .ok (.lload_n 3, 1) := by decide +kernel
theorem dX3_putAhead_57 : decode cX3_putAhead 57 = .ok (.lreturn, 1) := by decide +kernel
theorem dX3_putAhead_32 : decode cX3_putAhead 32 = .ok (.aload_n 0, 1) := by decide +kernel
theorem dX3_putAhead_33 : decode cX3_putAhead 33 = .ok (.invokevirtual 67, 3) := by decide +kernel
theorem dX3_refuse_0 : decode cX3_refuse 0 = .ok (.aload_n 0, 1) := by decide +kernel
theorem dX3_refuse_1 : decode cX3_refuse 1 = .ok (.iconst 0, 1) := by decide +kernel
theorem dX3_refuse_2 : decode cX3_refuse 2 = .ok (.putfield 39, 3) := by decide +kernel
theorem dX3_refuse_5 : decode cX3_refuse 5 = .ok (.ldc2_w 43, 3) := by decide +kernel
theorem dX3_refuse_8 : decode cX3_refuse 8 = .ok (.lreturn, 1) := by decide +kernel
theorem dX3_putAhead_36 : decode cX3_putAhead 36 = .ok (.lreturn, 1) := by decide +kernel
theorem dX11_feed_0 : decode cX11_feed 0 = .ok (.aload_n 0, 1) := by decide +kernel
theorem dX11_feed_1 : decode cX11_feed 1 = .ok (.getfield 20, 3) := by decide +kernel
theorem dX11_feed_4 : decode cX11_feed 4 = .ok (.bipush 20, 2) := by decide +kernel
theorem dX11_feed_6 : decode cX11_feed 6 = .ok (.invokevirtual 83, 3) := by decide +kernel
theorem dX11_feed_9 : decode cX11_feed 9 = .ok (.ifCond .ne 5, 3) := by decide +kernel
theorem dX11_feed_14 : decode cX11_feed 14 = .ok (.aload_n 0, 1) := by decide +kernel
theorem dX11_feed_15 : decode cX11_feed 15 = .ok (.getfield 20, 3) := by decide +kernel
theorem dX11_feed_18 : decode cX11_feed 18 = .ok (.iload_n 1, 1) := by decide +kernel
theorem dX11_feed_19 : decode cX11_feed 19 = .ok (.invokevirtual 89, 3) := by decide +kernel
theorem dX11_feed_22 : decode cX11_feed 22 = .ok (.aload_n 0, 1) := by decide +kernel
theorem dX11_feed_23 : decode cX11_feed 23 = .ok (.getfield 20, 3) := by decide +kernel
theorem dX11_feed_26 : decode cX11_feed 26 = .ok (.iload_n 2, 1) := by decide +kernel
theorem dX11_feed_27 : decode cX11_feed 27 = .ok (.invokevirtual 89, 3) := by decide +kernel
theorem dX11_feed_30 : decode cX11_feed 30 = .ok (.aload_n 0, 1) := by decide +kernel
theorem dX11_feed_31 : decode cX11_feed 31 = .ok (.getfield 20, 3) := by decide +kernel
theorem dX11_feed_34 : decode cX11_feed 34 = .ok (.iload_n 3, 1) := by decide +kernel
theorem dX11_feed_35 : decode cX11_feed 35 = .ok (.invokevirtual 89, 3) := by decide +kernel
theorem dX11_feed_38 : decode cX11_feed 38 = .ok (.aload_n 0, 1) := by decide +kernel
theorem dX11_feed_39 : decode cX11_feed 39 = .ok (.getfield 20, 3) := by decide +kernel
theorem dX11_feed_42 : decode cX11_feed 42 = .ok (.iload 4, 2) := by decide +kernel
theorem dX11_feed_44 : decode cX11_feed 44 = .ok (.invokevirtual 89, 3) := by decide +kernel
theorem dX11_feed_47 : decode cX11_feed 47 = .ok (.aload_n 0, 1) := by decide +kernel
theorem dX11_feed_48 : decode cX11_feed 48 = .ok (.getfield 20, 3) := by decide +kernel
theorem dX11_feed_51 : decode cX11_feed 51 = .ok (.iload 5, 2) := by decide +kernel
theorem dX11_feed_53 : decode cX11_feed 53 = .ok (.invokevirtual 89, 3) := by decide +kernel
theorem dX11_feed_56 : decode cX11_feed 56 = .ok (.aload_n 0, 1) := by decide +kernel
theorem dX11_feed_57 : decode cX11_feed 57 = .ok (.getfield 20, 3) := by decide +kernel
theorem dX11_feed_60 : decode cX11_feed 60 = .ok (.invokevirtual 93, 3) := by decide +kernel
theorem dX11_feed_63 : decode cX11_feed 63 = .ok (.ireturn, 1) := by decide +kernel
theorem dX11_feed_12 : decode cX11_feed 12 = .ok (.iconst (-1), 1) := by decide +kernel
theorem dX11_feed_13 : decode cX11_feed 13 = .ok (.ireturn, 1) := by decide +kernel
theorem dX11_end_0 : decode cX11_end 0 = .ok (.iload_n 1, 1) := by decide +kernel
theorem dX11_end_1 : decode cX11_end 1 = .ok (.ifCond .lt 14, 3) := by decide +kernel
theorem dX11_end_15 : decode cX11_end 15 = .ok (.iconst 0, 1) := by decide +kernel
theorem dX11_end_16 : decode cX11_end 16 = .ok (.ireturn, 1) := by decide +kernel
theorem dX11_end_4 : decode cX11_end 4 = .ok (.iload_n 1, 1) := by decide +kernel
theorem dX11_end_5 : decode cX11_end 5 = .ok (.aload_n 0, 1) := by decide +kernel
theorem dX11_end_6 : decode cX11_end 6 = .ok (.getfield 20, 3) := by decide +kernel
theorem dX11_end_9 : decode cX11_end 9 = .ok (.invokevirtual 93, 3) := by decide +kernel
theorem dX11_end_12 : decode cX11_end 12 = .ok (.if_icmp .le 5, 3) := by decide +kernel
theorem dX11_end_17 : decode cX11_end 17 = .ok (.aload_n 0, 1) := by decide +kernel
theorem dX11_end_18 : decode cX11_end 18 = .ok (.getfield 20, 3) := by decide +kernel
theorem dX11_end_21 : decode cX11_end 21 = .ok (.iload_n 1, 1) := by decide +kernel
theorem dX11_end_22 : decode cX11_end 22 = .ok (.invokevirtual 97, 3) := by decide +kernel
theorem dX11_end_25 : decode cX11_end 25 = .ok (.iconst 1, 1) := by decide +kernel
theorem dX11_end_26 : decode cX11_end 26 = .ok (.ireturn, 1) := by decide +kernel
theorem dX11_fault_0 : decode cX11_fault 0 = .ok (.iload_n 1, 1) := by decide +kernel
theorem dX11_fault_1 : decode cX11_fault 1 = .ok (.ifCond .ne 11, 3) := by decide +kernel
theorem dX11_fault_12 : decode cX11_fault 12 = .ok (.iload_n 1, 1) := by decide +kernel
theorem dX11_fault_13 : decode cX11_fault 13 = .ok (.iconst 1, 1) := by decide +kernel
theorem dX11_fault_14 : decode cX11_fault 14 = .ok (.if_icmp .ne 13, 3) := by decide +kernel
theorem dX11_fault_27 : decode cX11_fault 27 = .ok (.iconst (-1), 1) := by decide +kernel
theorem dX11_fault_28 : decode cX11_fault 28 = .ok (.ireturn, 1) := by decide +kernel
theorem dX11_fault_17 : decode cX11_fault 17 = .ok (.aload_n 0, 1) := by decide +kernel
theorem dX11_fault_18 : decode cX11_fault 18 = .ok (.getfield 10, 3) := by decide +kernel
theorem dX11_fault_21 : decode cX11_fault 21 = .ok (.getfield 130, 3) := by decide +kernel
theorem dX11_fault_24 : decode cX11_fault 24 = .ok (.goto 4, 3) := by decide +kernel
theorem dX11_fault_4 : decode cX11_fault 4 = .ok (.aload_n 0, 1) := by decide +kernel
theorem dX11_fault_5 : decode cX11_fault 5 = .ok (.getfield 10, 3) := by decide +kernel
theorem dX11_fault_8 : decode cX11_fault 8 = .ok (.getfield 127, 3) := by decide +kernel
theorem dX11_fault_11 : decode cX11_fault 11 = .ok (.ireturn, 1) := by decide +kernel
theorem dX11_has_0 : decode cX11_has 0 = .ok (.iload_n 1, 1) := by decide +kernel
theorem dX11_has_1 : decode cX11_has 1 = .ok (.tableswitch 138 0 9 #[55, 63, 71, 79, 87, 95, 106, 114, 122, 130], 55) := by decide +kernel
theorem dX11_has_56 : decode cX11_has 56 = .ok (.aload_n 0, 1) := by decide +kernel
theorem dX11_has_57 : decode cX11_has 57 = .ok (.getfield 69, 3) := by decide +kernel
theorem dX11_has_60 : decode cX11_has 60 = .ok (.getfield 133, 3) := by decide +kernel
theorem dX11_has_63 : decode cX11_has 63 = .ok (.ireturn, 1) := by decide +kernel
theorem dX11_has_64 : decode cX11_has 64 = .ok (.aload_n 0, 1) := by decide +kernel
theorem dX11_has_65 : decode cX11_has 65 = .ok (.getfield 69, 3) := by decide +kernel
theorem dX11_has_68 : decode cX11_has 68 = .ok (.getfield 136, 3) := by decide +kernel
theorem dX11_has_71 : decode cX11_has 71 = .ok (.ireturn, 1) := by decide +kernel
theorem dX11_has_72 : decode cX11_has 72 = .ok (.aload_n 0, 1) := by decide +kernel
theorem dX11_has_73 : decode cX11_has 73 = .ok (.getfield 69, 3) := by decide +kernel
theorem dX11_has_76 : decode cX11_has 76 = .ok (.getfield 139, 3) := by decide +kernel
theorem dX11_has_79 : decode cX11_has 79 = .ok (.ireturn, 1) := by decide +kernel
theorem dX11_has_80 : decode cX11_has 80 = .ok (.aload_n 0, 1) := by decide +kernel
theorem dX11_has_81 : decode cX11_has 81 = .ok (.getfield 69, 3) := by decide +kernel
theorem dX11_has_84 : decode cX11_has 84 = .ok (.getfield 142, 3) := by decide +kernel
theorem dX11_has_87 : decode cX11_has 87 = .ok (.ireturn, 1) := by decide +kernel
theorem dX11_has_88 : decode cX11_has 88 = .ok (.aload_n 0, 1) := by decide +kernel
theorem dX11_has_89 : decode cX11_has 89 = .ok (.getfield 69, 3) := by decide +kernel
theorem dX11_has_92 : decode cX11_has 92 = .ok (.getfield 145, 3) := by decide +kernel
theorem dX11_has_95 : decode cX11_has 95 = .ok (.ireturn, 1) := by decide +kernel
theorem dX11_has_96 : decode cX11_has 96 = .ok (.aload_n 0, 1) := by decide +kernel
theorem dX11_has_97 : decode cX11_has 97 = .ok (.getfield 69, 3) := by decide +kernel
theorem dX11_has_100 : decode cX11_has 100 = .ok (.getfield 148, 3) := by decide +kernel
theorem dX11_has_103 : decode cX11_has 103 = .ok (.getfield 152, 3) := by decide +kernel
theorem dX11_has_106 : decode cX11_has 106 = .ok (.ireturn, 1) := by decide +kernel
theorem dX11_has_107 : decode cX11_has 107 = .ok (.aload_n 0, 1) := by decide +kernel
theorem dX11_has_108 : decode cX11_has 108 = .ok (.getfield 69, 3) := by decide +kernel
theorem dX11_has_111 : decode cX11_has 111 = .ok (.getfield 157, 3) := by decide +kernel
theorem dX11_has_114 : decode cX11_has 114 = .ok (.ireturn, 1) := by decide +kernel
theorem dX11_has_115 : decode cX11_has 115 = .ok (.aload_n 0, 1) := by decide +kernel
theorem dX11_has_116 : decode cX11_has 116 = .ok (.getfield 76, 3) := by decide +kernel
theorem dX11_has_119 : decode cX11_has 119 = .ok (.getfield 160, 3) := by decide +kernel
theorem dX11_has_122 : decode cX11_has 122 = .ok (.ireturn, 1) := by decide +kernel
theorem dX11_has_123 : decode cX11_has 123 = .ok (.aload_n 0, 1) := by decide +kernel
theorem dX11_has_124 : decode cX11_has 124 = .ok (.getfield 76, 3) := by decide +kernel
theorem dX11_has_127 : decode cX11_has 127 = .ok (.getfield 163, 3) := by decide +kernel
theorem dX11_has_130 : decode cX11_has 130 = .ok (.ireturn, 1) := by decide +kernel
theorem dX11_has_131 : decode cX11_has 131 = .ok (.aload_n 0, 1) := by decide +kernel
theorem dX11_has_132 : decode cX11_has 132 = .ok (.getfield 76, 3) := by decide +kernel
theorem dX11_has_135 : decode cX11_has 135 = .ok (.getfield 166, 3) := by decide +kernel
theorem dX11_has_138 : decode cX11_has 138 = .ok (.ireturn, 1) := by decide +kernel
theorem dX11_has_139 : decode cX11_has 139 = .ok (.iconst (-1), 1) := by decide +kernel
theorem dX11_has_140 : decode cX11_has 140 = .ok (.ireturn, 1) := by decide +kernel
theorem dX11_table_0 : decode cX11_table 0 = .ok (.aload_n 0, 1) := by decide +kernel
theorem dX11_table_1 : decode cX11_table 1 = .ok (.getfield 69, 3) := by decide +kernel
theorem dX11_table_4 : decode cX11_table 4 = .ok (.iload_n 1, 1) := by decide +kernel
theorem dX11_table_5 : decode cX11_table 5 = .ok (.invokevirtual 169, 3) := by decide +kernel
theorem dX11_table_8 : decode cX11_table 8 = .ok (.ifCond .eq 14, 3) := by decide +kernel
theorem dX11_table_22 : decode cX11_table 22 = .ok (.ldc 175, 2) := by decide +kernel
theorem dX11_table_24 : decode cX11_table 24 = .ok (.ireturn, 1) := by decide +kernel
theorem dX11_table_11 : decode cX11_table 11 = .ok (.aload_n 0, 1) := by decide +kernel
theorem dX11_table_12 : decode cX11_table 12 = .ok (.getfield 69, 3) := by decide +kernel
theorem dX11_table_15 : decode cX11_table 15 = .ok (.iload_n 2, 1) := by decide +kernel
theorem dX11_table_16 : decode cX11_table 16 = .ok (.invokevirtual 172, 3) := by decide +kernel
theorem dX11_table_19 : decode cX11_table 19 = .ok (.ifCond .ne 6, 3) := by decide +kernel
theorem dX11_table_25 : decode cX11_table 25 = .ok (.aload_n 0, 1) := by decide +kernel
theorem dX11_table_26 : decode cX11_table 26 = .ok (.iload_n 3, 1) := by decide +kernel
theorem dX11_table_27 : decode cX11_table 27 = .ok (.invokevirtual 176, 3) := by decide +kernel
theorem dX11_tableBy_0 : decode cX11_tableBy 0 = .ok (.iload_n 1, 1) := by decide +kernel
theorem dX11_tableBy_1 : decode cX11_tableBy 1 = .ok (.ifCond .eq 13, 3) := by decide +kernel
theorem dX11_tableBy_14 : decode cX11_tableBy 14 = .ok (.aload_n 0, 1) := by decide +kernel
theorem dX11_tableBy_15 : decode cX11_tableBy 15 = .ok (.getfield 69, 3) := by decide +kernel
theorem dX11_tableBy_18 : decode cX11_tableBy 18 = .ok (.getfield 193, 3) := by decide +kernel
theorem dX11_tableBy_21 : decode cX11_tableBy 21 = .ok (.areturn, 1) := by decide +kernel
theorem dX11_table_30 : decode cX11_table 30 = .ok (.iload_n 1, 1) := by decide +kernel
theorem dX11_table_31 : decode cX11_table 31 = .ok (.iload_n 2, 1) := by decide +kernel
theorem dX11_table_32 : decode cX11_table 32 = .ok (.invokevirtual 180, 3) := by decide +kernel
theorem dX11_table_35 : decode cX11_table 35 = .ok (.ireturn, 1) := by decide +kernel
theorem dX11_tableBy_4 : decode cX11_tableBy 4 = .ok (.aload_n 0, 1) := by decide +kernel
theorem dX11_tableBy_5 : decode cX11_tableBy 5 = .ok (.getfield 76, 3) := by decide +kernel
theorem dX11_tableBy_8 : decode cX11_tableBy 8 = .ok (.getfield 189, 3) := by decide +kernel
theorem dX11_tableBy_11 : decode cX11_tableBy 11 = .ok (.goto 10, 3) := by decide +kernel
theorem dX11_product_0 : decode cX11_product 0 = .ok (.aload_n 0, 1) := by decide +kernel
theorem dX11_product_1 : decode cX11_product 1 = .ok (.getfield 69, 3) := by decide +kernel
theorem dX11_product_4 : decode cX11_product 4 = .ok (.iload_n 1, 1) := by decide +kernel
theorem dX11_product_5 : decode cX11_product 5 = .ok (.invokevirtual 172, 3) := by decide +kernel
theorem dX11_product_8 : decode cX11_product 8 = .ok (.ifCond .eq 14, 3) := by decide +kernel
theorem dX11_product_22 : decode cX11_product 22 = .ok (.ldc 175, 2) := by decide +kernel
theorem dX11_product_24 : decode cX11_product 24 = .ok (.ireturn, 1) := by decide +kernel
theorem dX11_product_11 : decode cX11_product 11 = .ok (.aload_n 0, 1) := by decide +kernel
theorem dX11_product_12 : decode cX11_product 12 = .ok (.getfield 69, 3) := by decide +kernel
theorem dX11_product_15 : decode cX11_product 15 = .ok (.iload_n 2, 1) := by decide +kernel
theorem dX11_product_16 : decode cX11_product 16 = .ok (.invokevirtual 172, 3) := by decide +kernel
theorem dX11_product_19 : decode cX11_product 19 = .ok (.ifCond .ne 6, 3) := by decide +kernel
theorem dX11_product_25 : decode cX11_product 25 = .ok (.aload_n 0, 1) := by decide +kernel
theorem dX11_product_26 : decode cX11_product 26 = .ok (.iload_n 3, 1) := by decide +kernel
theorem dX11_product_27 : decode cX11_product 27 = .ok (.invokevirtual 176, 3) := by decide +kernel
theorem dX11_product_30 : decode cX11_product 30 = .ok (.iload_n 1, 1) := by decide +kernel
theorem dX11_product_31 : decode cX11_product 31 = .ok (.iload_n 2, 1) := by decide +kernel
theorem dX11_product_32 : decode cX11_product 32 = .ok (.invokevirtual 186, 3) := by decide +kernel
theorem dX11_product_35 : decode cX11_product 35 = .ok (.ireturn, 1) := by decide +kernel
theorem dX11_hear_0 : decode cX11_hear 0 = .ok (.aload_n 0, 1) := by decide +kernel
theorem dX11_hear_1 : decode cX11_hear 1 = .ok (.getfield 20, 3) := by decide +kernel
theorem dX11_hear_4 : decode cX11_hear 4 = .ok (.invokevirtual 93, 3) := by decide +kernel
theorem dX11_hear_7 : decode cX11_hear 7 = .ok (.iconst 2, 1) := by decide +kernel
theorem dX11_hear_8 : decode cX11_hear 8 = .ok (.aload_n 0, 1) := by decide +kernel
theorem dX11_hear_9 : decode cX11_hear 9 = .ok (.getfield 69, 3) := by decide +kernel
theorem dX11_hear_12 : decode cX11_hear 12 = .ok (.getfield 139, 3) := by decide +kernel
theorem dX11_hear_15 : decode cX11_hear 15 = .ok (.imul, 1) := by decide +kernel
theorem dX11_hear_16 : decode cX11_hear 16 = .ok (.if_icmp .ne 7, 3) := by decide +kernel
theorem dX11_hear_23 : decode cX11_hear 23 = .ok (.iconst 0, 1) := by decide +kernel
theorem dX11_hear_24 : decode cX11_hear 24 = .ok (.istore_n 1, 1) := by decide +kernel
theorem dX11_hear_25 : decode cX11_hear 25 = .ok (.iload_n 1, 1) := by decide +kernel
theorem dX11_hear_26 : decode cX11_hear 26 = .ok (.ifCond .eq 7, 3) := by decide +kernel
theorem dX11_hear_33 : decode cX11_hear 33 = .ok (.aload_n 0, 1) := by decide +kernel
theorem dX11_hear_34 : decode cX11_hear 34 = .ok (.getfield 20, 3) := by decide +kernel
theorem dX11_hear_37 : decode cX11_hear 37 = .ok (.iconst 0, 1) := by decide +kernel
theorem dX11_hear_38 : decode cX11_hear 38 = .ok (.invokevirtual 97, 3) := by decide +kernel
theorem dX11_hear_41 : decode cX11_hear 41 = .ok (.iload_n 1, 1) := by decide +kernel
theorem dX11_hear_42 : decode cX11_hear 42 = .ok (.ireturn, 1) := by decide +kernel
theorem dX11_hear_19 : decode cX11_hear 19 = .ok (.iconst 1, 1) := by decide +kernel
theorem dX11_hear_20 : decode cX11_hear 20 = .ok (.goto 4, 3) := by decide +kernel
theorem dX11_hear_29 : decode cX11_hear 29 = .ok (.aload_n 0, 1) := by decide +kernel
theorem dX11_hear_30 : decode cX11_hear 30 = .ok (.invokevirtual 194, 3) := by decide +kernel
theorem dX11_takeHeard_0 : decode cX11_takeHeard 0 = .ok (.iconst 0, 1) := by decide +kernel
theorem dX11_takeHeard_1 : decode cX11_takeHeard 1 = .ok (.istore_n 1, 1) := by decide +kernel
theorem dX11_takeHeard_2 : decode cX11_takeHeard 2 = .ok (.iload_n 1, 1) := by decide +kernel
theorem dX11_takeHeard_3 : decode cX11_takeHeard 3 = .ok (.aload_n 0, 1) := by decide +kernel
theorem dX11_takeHeard_4 : decode cX11_takeHeard 4 = .ok (.getfield 69, 3) := by decide +kernel
theorem dX11_takeHeard_7 : decode cX11_takeHeard 7 = .ok (.getfield 139, 3) := by decide +kernel
theorem dX11_takeHeard_10 : decode cX11_takeHeard 10 = .ok (.if_icmp .ge 25, 3) := by decide +kernel
theorem dX11_takeHeard_35 : decode cX11_takeHeard 35 = .ok (.aload_n 0, 1) := by decide +kernel
theorem dX11_takeHeard_36 : decode cX11_takeHeard 36 = .ok (.getfield 24, 3) := by decide +kernel
theorem dX11_takeHeard_39 : decode cX11_takeHeard 39 = .ok (.invokevirtual 118, 3) := by decide +kernel
theorem dX11_takeHeard_42 : decode cX11_takeHeard 42 = .ok (.return_, 1) := by decide +kernel
theorem dX11_takeHeard_13 : decode cX11_takeHeard 13 = .ok (.aload_n 0, 1) := by decide +kernel
theorem dX11_takeHeard_14 : decode cX11_takeHeard 14 = .ok (.getfield 49, 3) := by decide +kernel
theorem dX11_takeHeard_17 : decode cX11_takeHeard 17 = .ok (.iload_n 1, 1) := by decide +kernel
theorem dX11_takeHeard_18 : decode cX11_takeHeard 18 = .ok (.aload_n 0, 1) := by decide +kernel
theorem dX11_takeHeard_19 : decode cX11_takeHeard 19 = .ok (.getfield 20, 3) := by decide +kernel
theorem dX11_takeHeard_22 : decode cX11_takeHeard 22 = .ok (.iconst 2, 1) := by decide +kernel
theorem dX11_takeHeard_23 : decode cX11_takeHeard 23 = .ok (.iload_n 1, 1) := by decide +kernel
theorem dX11_takeHeard_24 : decode cX11_takeHeard 24 = .ok (.imul, 1) := by decide +kernel
theorem dX11_takeHeard_25 : decode cX11_takeHeard 25 = .ok (.invokevirtual 197, 3) := by decide +kernel
theorem dX11_takeHeard_28 : decode cX11_takeHeard 28 = .ok (.iastore, 1) := by decide +kernel
theorem dX11_takeHeard_29 : decode cX11_takeHeard 29 = .ok (.iinc 1 1, 3) := by decide +kernel
theorem dX11_takeHeard_32 : decode cX11_takeHeard 32 = .ok (.goto (-30), 3) := by decide +kernel
theorem dX11_heard_0 : decode cX11_heard 0 = .ok (.aload_n 0, 1) := by decide +kernel
theorem dX11_heard_1 : decode cX11_heard 1 = .ok (.getfield 69, 3) := by decide +kernel
theorem dX11_heard_4 : decode cX11_heard 4 = .ok (.iload_n 1, 1) := by decide +kernel
theorem dX11_heard_5 : decode cX11_heard 5 = .ok (.invokevirtual 169, 3) := by decide +kernel
theorem dX11_heard_8 : decode cX11_heard 8 = .ok (.ifCond .eq 12, 3) := by decide +kernel
theorem dX11_heard_20 : decode cX11_heard 20 = .ok (.ldc 175, 2) := by decide +kernel
theorem dX11_heard_22 : decode cX11_heard 22 = .ok (.ireturn, 1) := by decide +kernel
theorem dX11_heard_11 : decode cX11_heard 11 = .ok (.aload_n 0, 1) := by decide +kernel
theorem dX11_heard_12 : decode cX11_heard 12 = .ok (.getfield 49, 3) := by decide +kernel
theorem dX11_heard_15 : decode cX11_heard 15 = .ok (.iload_n 1, 1) := by decide +kernel
theorem dX11_heard_16 : decode cX11_heard 16 = .ok (.iaload, 1) := by decide +kernel
theorem dX11_heard_17 : decode cX11_heard 17 = .ok (.goto 5, 3) := by decide +kernel
theorem dX11_send_0 : decode cX11_send 0 = .ok (.aload_n 0, 1) := by decide +kernel
theorem dX11_send_1 : decode cX11_send 1 = .ok (.invokevirtual 201, 3) := by decide +kernel
theorem dX11_takeRow_0 : decode cX11_takeRow 0 = .ok (.aload_n 0, 1) := by decide +kernel
theorem dX11_takeRow_1 : decode cX11_takeRow 1 = .ok (.getfield 69, 3) := by decide +kernel
theorem dX11_takeRow_4 : decode cX11_takeRow 4 = .ok (.getfield 136, 3) := by decide +kernel
theorem dX11_takeRow_7 : decode cX11_takeRow 7 = .ok (.ifCond .le 24, 3) := by decide +kernel
theorem dX11_takeRow_31 : decode cX11_takeRow 31 = .ok (.iconst 0, 1) := by decide +kernel
theorem dX11_takeRow_32 : decode cX11_takeRow 32 = .ok (.istore_n 1, 1) := by decide +kernel
theorem dX11_takeRow_33 : decode cX11_takeRow 33 = .ok (.iconst 0, 1) := by decide +kernel
theorem dX11_takeRow_34 : decode cX11_takeRow 34 = .ok (.istore_n 2, 1) := by decide +kernel
theorem dX11_takeRow_35 : decode cX11_takeRow 35 = .ok (.iload_n 1, 1) := by decide +kernel
theorem dX11_takeRow_36 : decode cX11_takeRow 36 = .ok (.ifCond .eq 48, 3) := by decide +kernel
theorem dX11_takeRow_84 : decode cX11_takeRow 84 = .ok (.aload_n 0, 1) := by decide +kernel
theorem dX11_takeRow_85 : decode cX11_takeRow 85 = .ok (.getfield 20, 3) := by decide +kernel
theorem dX11_takeRow_88 : decode cX11_takeRow 88 = .ok (.iconst 0, 1) := by decide +kernel
theorem dX11_takeRow_89 : decode cX11_takeRow 89 = .ok (.invokevirtual 97, 3) := by decide +kernel
theorem dX11_takeRow_92 : decode cX11_takeRow 92 = .ok (.iload_n 1, 1) := by decide +kernel
theorem dX11_takeRow_93 : decode cX11_takeRow 93 = .ok (.ireturn, 1) := by decide +kernel
theorem dX11_takeRow_10 : decode cX11_takeRow 10 = .ok (.aload_n 0, 1) := by decide +kernel
theorem dX11_takeRow_11 : decode cX11_takeRow 11 = .ok (.getfield 20, 3) := by decide +kernel
theorem dX11_takeRow_14 : decode cX11_takeRow 14 = .ok (.invokevirtual 93, 3) := by decide +kernel
theorem dX11_takeRow_17 : decode cX11_takeRow 17 = .ok (.aload_n 0, 1) := by decide +kernel
theorem dX11_takeRow_18 : decode cX11_takeRow 18 = .ok (.getfield 69, 3) := by decide +kernel
theorem dX11_takeRow_21 : decode cX11_takeRow 21 = .ok (.getfield 136, 3) := by decide +kernel
theorem dX11_takeRow_24 : decode cX11_takeRow 24 = .ok (.if_icmp .ne 7, 3) := by decide +kernel
theorem dX11_takeRow_27 : decode cX11_takeRow 27 = .ok (.iconst 1, 1) := by decide +kernel
theorem dX11_takeRow_28 : decode cX11_takeRow 28 = .ok (.goto 4, 3) := by decide +kernel
theorem dX11_takeRow_39 : decode cX11_takeRow 39 = .ok (.iload_n 2, 1) := by decide +kernel
theorem dX11_takeRow_40 : decode cX11_takeRow 40 = .ok (.aload_n 0, 1) := by decide +kernel
theorem dX11_takeRow_41 : decode cX11_takeRow 41 = .ok (.getfield 69, 3) := by decide +kernel
theorem dX11_takeRow_44 : decode cX11_takeRow 44 = .ok (.getfield 136, 3) := by decide +kernel
theorem dX11_takeRow_47 : decode cX11_takeRow 47 = .ok (.if_icmp .ge 37, 3) := by decide +kernel
theorem dX11_takeRow_50 : decode cX11_takeRow 50 = .ok (.aload_n 0, 1) := by decide +kernel
theorem dX11_takeRow_51 : decode cX11_takeRow 51 = .ok (.getfield 53, 3) := by decide +kernel
theorem dX11_takeRow_54 : decode cX11_takeRow 54 = .ok (.iload_n 2, 1) := by decide +kernel
theorem dX11_takeRow_55 : decode cX11_takeRow 55 = .ok (.aload_n 0, 1) := by decide +kernel
theorem dX11_takeRow_56 : decode cX11_takeRow 56 = .ok (.getfield 20, 3) := by decide +kernel
theorem dX11_takeRow_59 : decode cX11_takeRow 59 = .ok (.iload_n 2, 1) := by decide +kernel
theorem dX11_takeRow_60 : decode cX11_takeRow 60 = .ok (.invokevirtual 214, 3) := by decide +kernel
theorem dX11_takeRow_63 : decode cX11_takeRow 63 = .ok (.iastore, 1) := by decide +kernel
theorem dX11_takeRow_64 : decode cX11_takeRow 64 = .ok (.aload_n 0, 1) := by decide +kernel
theorem dX11_takeRow_65 : decode cX11_takeRow 65 = .ok (.getfield 69, 3) := by decide +kernel
theorem dX11_takeRow_68 : decode cX11_takeRow 68 = .ok (.aload_n 0, 1) := by decide +kernel
theorem dX11_takeRow_69 : decode cX11_takeRow 69 = .ok (.getfield 53, 3) := by decide +kernel
theorem dX11_takeRow_72 : decode cX11_takeRow 72 = .ok (.iload_n 2, 1) := by decide +kernel
theorem dX11_takeRow_73 : decode cX11_takeRow 73 = .ok (.iaload, 1) := by decide +kernel
theorem dX11_takeRow_74 : decode cX11_takeRow 74 = .ok (.invokevirtual 217, 3) := by decide +kernel
theorem dX11_takeRow_77 : decode cX11_takeRow 77 = .ok (.istore_n 1, 1) := by decide +kernel
theorem dX11_takeRow_78 : decode cX11_takeRow 78 = .ok (.iinc 2 1, 3) := by decide +kernel
theorem dX11_takeRow_81 : decode cX11_takeRow 81 = .ok (.goto (-46), 3) := by decide +kernel
theorem dX11_send_4 : decode cX11_send 4 = .ok (.ifCond .ne 5, 3) := by decide +kernel
theorem dX11_send_9 : decode cX11_send 9 = .ok (.iconst 0, 1) := by decide +kernel
theorem dX11_send_10 : decode cX11_send 10 = .ok (.istore_n 1, 1) := by decide +kernel
theorem dX11_send_11 : decode cX11_send 11 = .ok (.iload_n 1, 1) := by decide +kernel
theorem dX11_send_12 : decode cX11_send 12 = .ok (.aload_n 0, 1) := by decide +kernel
theorem dX11_send_13 : decode cX11_send 13 = .ok (.getfield 69, 3) := by decide +kernel
theorem dX11_send_16 : decode cX11_send 16 = .ok (.getfield 139, 3) := by decide +kernel
theorem dX11_send_19 : decode cX11_send 19 = .ok (.if_icmp .ge 37, 3) := by decide +kernel
theorem dX11_send_56 : decode cX11_send 56 = .ok (.aload_n 0, 1) := by decide +kernel
theorem dX11_send_57 : decode cX11_send 57 = .ok (.getfield 24, 3) := by decide +kernel
theorem dX11_send_60 : decode cX11_send 60 = .ok (.invokevirtual 118, 3) := by decide +kernel
theorem dX11_send_63 : decode cX11_send 63 = .ok (.iconst 1, 1) := by decide +kernel
theorem dX11_send_64 : decode cX11_send 64 = .ok (.ireturn, 1) := by decide +kernel
theorem dX11_send_22 : decode cX11_send 22 = .ok (.aload_n 0, 1) := by decide +kernel
theorem dX11_send_23 : decode cX11_send 23 = .ok (.getfield 49, 3) := by decide +kernel
theorem dX11_send_26 : decode cX11_send 26 = .ok (.iload_n 1, 1) := by decide +kernel
theorem dX11_send_27 : decode cX11_send 27 = .ok (.aload_n 0, 1) := by decide +kernel
theorem dX11_send_28 : decode cX11_send 28 = .ok (.getfield 69, 3) := by decide +kernel
theorem dX11_send_31 : decode cX11_send 31 = .ok (.getfield 193, 3) := by decide +kernel
theorem dX11_send_34 : decode cX11_send 34 = .ok (.iload_n 1, 1) := by decide +kernel
theorem dX11_send_35 : decode cX11_send 35 = .ok (.aload_n 0, 1) := by decide +kernel
theorem dX11_send_36 : decode cX11_send 36 = .ok (.getfield 53, 3) := by decide +kernel
theorem dX11_send_39 : decode cX11_send 39 = .ok (.aload_n 0, 1) := by decide +kernel
theorem dX11_send_40 : decode cX11_send 40 = .ok (.getfield 69, 3) := by decide +kernel
theorem dX11_send_43 : decode cX11_send 43 = .ok (.getfield 136, 3) := by decide +kernel
theorem dX11_send_46 : decode cX11_send 46 = .ok (.invokevirtual 204, 3) := by decide +kernel
theorem dX11_send_49 : decode cX11_send 49 = .ok (.iastore, 1) := by decide +kernel
theorem dX11_send_50 : decode cX11_send 50 = .ok (.iinc 1 1, 3) := by decide +kernel
theorem dX11_send_53 : decode cX11_send 53 = .ok (.goto (-42), 3) := by decide +kernel
theorem dX11_send_7 : decode cX11_send 7 = .ok (.iconst 0, 1) := by decide +kernel
theorem dX11_send_8 : decode cX11_send 8 = .ok (.ireturn, 1) := by decide +kernel
theorem dX11_distance_0 : decode cX11_distance 0 = .ok (.aload_n 0, 1) := by decide +kernel
theorem dX11_distance_1 : decode cX11_distance 1 = .ok (.invokevirtual 201, 3) := by decide +kernel
theorem dX11_distance_4 : decode cX11_distance 4 = .ok (.ifCond .eq 21, 3) := by decide +kernel
theorem dX11_distance_25 : decode cX11_distance 25 = .ok (.ldc2_w 212, 3) := by decide +kernel
theorem dX11_distance_28 : decode cX11_distance 28 = .ok (.lreturn, 1) := by decide +kernel
theorem dX11_distance_7 : decode cX11_distance 7 = .ok (.aload_n 0, 1) := by decide +kernel
theorem dX11_distance_8 : decode cX11_distance 8 = .ok (.getfield 69, 3) := by decide +kernel
theorem dX11_distance_11 : decode cX11_distance 11 = .ok (.aload_n 0, 1) := by decide +kernel
theorem dX11_distance_12 : decode cX11_distance 12 = .ok (.getfield 53, 3) := by decide +kernel
theorem dX11_distance_15 : decode cX11_distance 15 = .ok (.aload_n 0, 1) := by decide +kernel
theorem dX11_distance_16 : decode cX11_distance 16 = .ok (.getfield 49, 3) := by decide +kernel
theorem dX11_distance_19 : decode cX11_distance 19 = .ok (.invokevirtual 208, 3) := by decide +kernel
theorem dX11_distance_22 : decode cX11_distance 22 = .ok (.goto 6, 3) := by decide +kernel
theorem dX11_slips_0 : decode cX11_slips 0 = .ok (.iload_n 1, 1) := by decide +kernel
theorem dX11_slips_1 : decode cX11_slips 1 = .ok (.ifCond .lt 20, 3) := by decide +kernel
theorem dX11_slips_21 : decode cX11_slips 21 = .ok (.iconst (-1), 1) := by decide +kernel
theorem dX11_slips_22 : decode cX11_slips 22 = .ok (.ireturn, 1) := by decide +kernel
theorem dX11_slips_4 : decode cX11_slips 4 = .ok (.iload_n 1, 1) := by decide +kernel
theorem dX11_slips_5 : decode cX11_slips 5 = .ok (.sipush 9999, 3) := by decide +kernel
theorem dX11_slips_8 : decode cX11_slips 8 = .ok (.if_icmp .gt 13, 3) := by decide +kernel
theorem dX11_slips_11 : decode cX11_slips 11 = .ok (.aload_n 0, 1) := by decide +kernel
theorem dX11_slips_12 : decode cX11_slips 12 = .ok (.getfield 69, 3) := by decide +kernel
theorem dX11_slips_15 : decode cX11_slips 15 = .ok (.getfield 139, 3) := by decide +kernel
theorem dX11_slips_18 : decode cX11_slips 18 = .ok (.ifCond .ne 5, 3) := by decide +kernel
theorem dX11_slips_23 : decode cX11_slips 23 = .ok (.iload_n 2, 1) := by decide +kernel
theorem dX11_slips_24 : decode cX11_slips 24 = .ok (.i2l, 1) := by decide +kernel
theorem dX11_slips_25 : decode cX11_slips 25 = .ok (.lstore_n 3, 1) := by decide +kernel
theorem dX11_slips_26 : decode cX11_slips 26 = .ok (.iconst 0, 1) := by decide +kernel
theorem dX11_slips_27 : decode cX11_slips 27 = .ok (.istore 5, 2) := by decide +kernel
theorem dX11_slips_29 : decode cX11_slips 29 = .ok (.iload 5, 2) := by decide +kernel
theorem dX11_slips_31 : decode cX11_slips 31 = .ok (.aload_n 0, 1) := by decide +kernel
theorem dX11_slips_32 : decode cX11_slips 32 = .ok (.getfield 69, 3) := by decide +kernel
theorem dX11_slips_35 : decode cX11_slips 35 = .ok (.getfield 139, 3) := by decide +kernel
theorem dX11_slips_38 : decode cX11_slips 38 = .ok (.if_icmp .ge 77, 3) := by decide +kernel
theorem dX11_slips_115 : decode cX11_slips 115 = .ok (.aload_n 0, 1) := by decide +kernel
theorem dX11_slips_116 : decode cX11_slips 116 = .ok (.getfield 24, 3) := by decide +kernel
theorem dX11_slips_119 : decode cX11_slips 119 = .ok (.invokevirtual 118, 3) := by decide +kernel
theorem dX11_slips_122 : decode cX11_slips 122 = .ok (.aload_n 0, 1) := by decide +kernel
theorem dX11_slips_123 : decode cX11_slips 123 = .ok (.getfield 69, 3) := by decide +kernel
theorem dX11_slips_126 : decode cX11_slips 126 = .ok (.getfield 139, 3) := by decide +kernel
theorem dX11_slips_129 : decode cX11_slips 129 = .ok (.ireturn, 1) := by decide +kernel
theorem dX11_slips_41 : decode cX11_slips 41 = .ok (.ldc2_w 220, 3) := by decide +kernel
theorem dX11_slips_44 : decode cX11_slips 44 = .ok (.lload_n 3, 1) := by decide +kernel
theorem dX11_slips_45 : decode cX11_slips 45 = .ok (.lmul, 1) := by decide +kernel
theorem dX11_slips_46 : decode cX11_slips 46 = .ok (.ldc2_w 222, 3) := by decide +kernel
theorem dX11_slips_49 : decode cX11_slips 49 = .ok (.ladd, 1) := by decide +kernel
theorem dX11_slips_50 : decode cX11_slips 50 = .ok (.ldc2_w 224, 3) := by decide +kernel
theorem dX11_slips_53 : decode cX11_slips 53 = .ok (.land, 1) := by decide +kernel
theorem dX11_slips_54 : decode cX11_slips 54 = .ok (.lstore_n 3, 1) := by decide +kernel
theorem dX11_slips_55 : decode cX11_slips 55 = .ok (.lload_n 3, 1) := by decide +kernel
theorem dX11_slips_56 : decode cX11_slips 56 = .ok (.ldc2_w 226, 3) := by decide +kernel
theorem dX11_slips_59 : decode cX11_slips 59 = .ok (.ldiv, 1) := by decide +kernel
theorem dX11_slips_60 : decode cX11_slips 60 = .ok (.ldc2_w 228, 3) := by decide +kernel
theorem dX11_slips_63 : decode cX11_slips 63 = .ok (.iload_n 1, 1) := by decide +kernel
theorem dX11_slips_64 : decode cX11_slips 64 = .ok (.i2l, 1) := by decide +kernel
theorem dX11_slips_65 : decode cX11_slips 65 = .ok (.lmul, 1) := by decide +kernel
theorem dX11_slips_66 : decode cX11_slips 66 = .ok (.lconst 1, 1) := by decide +kernel
theorem dX11_slips_67 : decode cX11_slips 67 = .ok (.ladd, 1) := by decide +kernel
theorem dX11_slips_68 : decode cX11_slips 68 = .ok (.lrem, 1) := by decide +kernel
theorem dX11_slips_69 : decode cX11_slips 69 = .ok (.iload_n 1, 1) := by decide +kernel
theorem dX11_slips_70 : decode cX11_slips 70 = .ok (.i2l, 1) := by decide +kernel
theorem dX11_slips_71 : decode cX11_slips 71 = .ok (.lsub, 1) := by decide +kernel
theorem dX11_slips_72 : decode cX11_slips 72 = .ok (.lstore 6, 2) := by decide +kernel
theorem dX11_slips_74 : decode cX11_slips 74 = .ok (.aload_n 0, 1) := by decide +kernel
theorem dX11_slips_75 : decode cX11_slips 75 = .ok (.getfield 49, 3) := by decide +kernel
theorem dX11_slips_78 : decode cX11_slips 78 = .ok (.iload 5, 2) := by decide +kernel
theorem dX11_slips_80 : decode cX11_slips 80 = .ok (.iaload, 1) := by decide +kernel
theorem dX11_slips_81 : decode cX11_slips 81 = .ok (.i2l, 1) := by decide +kernel
theorem dX11_slips_82 : decode cX11_slips 82 = .ok (.lload 6, 2) := by decide +kernel
theorem dX11_slips_84 : decode cX11_slips 84 = .ok (.ladd, 1) := by decide +kernel
theorem dX11_slips_85 : decode cX11_slips 85 = .ok (.lstore 8, 2) := by decide +kernel
theorem dX11_slips_87 : decode cX11_slips 87 = .ok (.aload_n 0, 1) := by decide +kernel
theorem dX11_slips_88 : decode cX11_slips 88 = .ok (.getfield 49, 3) := by decide +kernel
theorem dX11_slips_91 : decode cX11_slips 91 = .ok (.iload 5, 2) := by decide +kernel
theorem dX11_slips_93 : decode cX11_slips 93 = .ok (.ldc2_w 230, 3) := by decide +kernel
theorem dX11_slips_96 : decode cX11_slips 96 = .ok (.ldc2_w 232, 3) := by decide +kernel
theorem dX11_slips_99 : decode cX11_slips 99 = .ok (.lload 8, 2) := by decide +kernel
theorem dX11_slips_101 : decode cX11_slips 101 = .ok (.invokestatic 234, 3) := by decide +kernel
theorem dX11_slips_104 : decode cX11_slips 104 = .ok (.invokestatic 240, 3) := by decide +kernel
theorem dX11_slips_107 : decode cX11_slips 107 = .ok (.l2i, 1) := by decide +kernel
theorem dX11_slips_108 : decode cX11_slips 108 = .ok (.iastore, 1) := by decide +kernel
theorem dX11_slips_109 : decode cX11_slips 109 = .ok (.iinc 5 1, 3) := by decide +kernel
theorem dX11_slips_112 : decode cX11_slips 112 = .ok (.goto (-83), 3) := by decide +kernel
theorem dX11_nearest_0 : decode cX11_nearest 0 = .ok (.aload_n 0, 1) := by decide +kernel
theorem dX11_nearest_1 : decode cX11_nearest 1 = .ok (.getfield 69, 3) := by decide +kernel
