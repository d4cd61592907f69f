theorem dX12_isSender_13 : decode cX12_isSender 13 = .ok (.ireturn, 1) := by decide +kernel
theorem dX12_table_13 : decode cX12_table 13 = .ok (.ifCond .ne 7, 3) := by decide +kernel
theorem dX12_table_20 : decode cX12_table 20 = .ok (.iload_n 3, 1) := by decide +kernel
theorem dX12_table_21 : decode cX12_table 21 = .ok (.ifCond .eq 16, 3) := by decide +kernel
theorem dX12_table_37 : decode cX12_table 37 = .ok (.aload_n 0, 1) := by decide +kernel
theorem dX12_table_38 : decode cX12_table 38 = .ok (.getfield 69, 3) := by decide +kernel
theorem dX12_table_41 : decode cX12_table 41 = .ok (.iconst 5, 1) := by decide +kernel
theorem dX12_table_42 : decode cX12_table 42 = .ok (.iload_n 1, 1) := by decide +kernel
theorem dX12_table_43 : decode cX12_table 43 = .ok (.imul, 1) := by decide +kernel
theorem dX12_table_44 : decode cX12_table 44 = .ok (.iload_n 2, 1) := by decide +kernel
theorem dX12_table_45 : decode cX12_table 45 = .ok (.iadd, 1) := by decide +kernel
theorem dX12_table_46 : decode cX12_table 46 = .ok (.iaload, 1) := by decide +kernel
theorem dX12_table_47 : decode cX12_table 47 = .ok (.ireturn, 1) := by decide +kernel
theorem dX12_table_24 : decode cX12_table 24 = .ok (.aload_n 0, 1) := by decide +kernel
theorem dX12_table_25 : decode cX12_table 25 = .ok (.getfield 97, 3) := by decide +kernel
theorem dX12_table_28 : decode cX12_table 28 = .ok (.iconst 5, 1) := by decide +kernel
theorem dX12_table_29 : decode cX12_table 29 = .ok (.iload_n 1, 1) := by decide +kernel
theorem dX12_table_30 : decode cX12_table 30 = .ok (.imul, 1) := by decide +kernel
theorem dX12_table_31 : decode cX12_table 31 = .ok (.iload_n 2, 1) := by decide +kernel
theorem dX12_table_32 : decode cX12_table 32 = .ok (.iadd, 1) := by decide +kernel
theorem dX12_table_33 : decode cX12_table 33 = .ok (.iaload, 1) := by decide +kernel
theorem dX12_table_34 : decode cX12_table 34 = .ok (.goto 13, 3) := by decide +kernel
theorem dX12_product_0 : decode cX12_product 0 = .ok (.aload_n 0, 1) := by decide +kernel
theorem dX12_product_1 : decode cX12_product 1 = .ok (.iload_n 1, 1) := by decide +kernel
theorem dX12_product_2 : decode cX12_product 2 = .ok (.invokevirtual 361, 3) := by decide +kernel
theorem dX12_product_5 : decode cX12_product 5 = .ok (.ifCond .eq 11, 3) := by decide +kernel
theorem dX12_product_16 : decode cX12_product 16 = .ok (.ldc_w 364, 3) := by decide +kernel
theorem dX12_product_19 : decode cX12_product 19 = .ok (.ireturn, 1) := by decide +kernel
theorem dX12_product_8 : decode cX12_product 8 = .ok (.aload_n 0, 1) := by decide +kernel
theorem dX12_product_9 : decode cX12_product 9 = .ok (.iload_n 2, 1) := by decide +kernel
theorem dX12_product_10 : decode cX12_product 10 = .ok (.invokevirtual 361, 3) := by decide +kernel
theorem dX12_product_13 : decode cX12_product 13 = .ok (.ifCond .ne 7, 3) := by decide +kernel
theorem dX12_product_20 : decode cX12_product 20 = .ok (.iload_n 3, 1) := by decide +kernel
theorem dX12_product_21 : decode cX12_product 21 = .ok (.ifCond .eq 16, 3) := by decide +kernel
theorem dX12_product_37 : decode cX12_product 37 = .ok (.aload_n 0, 1) := by decide +kernel
theorem dX12_product_38 : decode cX12_product 38 = .ok (.iload_n 1, 1) := by decide +kernel
theorem dX12_product_39 : decode cX12_product 39 = .ok (.iload_n 2, 1) := by decide +kernel
theorem dX12_product_40 : decode cX12_product 40 = .ok (.aload_n 0, 1) := by decide +kernel
theorem dX12_product_41 : decode cX12_product 41 = .ok (.getfield 69, 3) := by decide +kernel
theorem dX12_product_44 : decode cX12_product 44 = .ok (.invokevirtual 334, 3) := by decide +kernel
theorem dX12_productOf_0 : decode cX12_productOf 0 = .ok (.iconst 0, 1) := by decide +kernel
theorem dX12_productOf_1 : decode cX12_productOf 1 = .ok (.istore 4, 2) := by decide +kernel
theorem dX12_productOf_3 : decode cX12_productOf 3 = .ok (.iconst 0, 1) := by decide +kernel
theorem dX12_productOf_4 : decode cX12_productOf 4 = .ok (.istore 5, 2) := by decide +kernel
theorem dX12_productOf_6 : decode cX12_productOf 6 = .ok (.iload 5, 2) := by decide +kernel
theorem dX12_productOf_8 : decode cX12_productOf 8 = .ok (.aload_n 0, 1) := by decide +kernel
theorem dX12_productOf_9 : decode cX12_productOf 9 = .ok (.getfield 240, 3) := by decide +kernel
theorem dX12_productOf_12 : decode cX12_productOf 12 = .ok (.if_icmp .ge 31, 3) := by decide +kernel
theorem dX12_productOf_43 : decode cX12_productOf 43 = .ok (.iload 4, 2) := by decide +kernel
theorem dX12_productOf_45 : decode cX12_productOf 45 = .ok (.ireturn, 1) := by decide +kernel
theorem dX12_productOf_15 : decode cX12_productOf 15 = .ok (.iload 4, 2) := by decide +kernel
theorem dX12_productOf_17 : decode cX12_productOf 17 = .ok (.aload_n 3, 1) := by decide +kernel
theorem dX12_productOf_18 : decode cX12_productOf 18 = .ok (.iconst 5, 1) := by decide +kernel
theorem dX12_productOf_19 : decode cX12_productOf 19 = .ok (.iload 5, 2) := by decide +kernel
theorem dX12_productOf_21 : decode cX12_productOf 21 = .ok (.imul, 1) := by decide +kernel
theorem dX12_productOf_22 : decode cX12_productOf 22 = .ok (.iload_n 1, 1) := by decide +kernel
theorem dX12_productOf_23 : decode cX12_productOf 23 = .ok (.iadd, 1) := by decide +kernel
theorem dX12_productOf_24 : decode cX12_productOf 24 = .ok (.iaload, 1) := by decide +kernel
theorem dX12_productOf_25 : decode cX12_productOf 25 = .ok (.aload_n 3, 1) := by decide +kernel
theorem dX12_productOf_26 : decode cX12_productOf 26 = .ok (.iconst 5, 1) := by decide +kernel
theorem dX12_productOf_27 : decode cX12_productOf 27 = .ok (.iload 5, 2) := by decide +kernel
theorem dX12_productOf_29 : decode cX12_productOf 29 = .ok (.imul, 1) := by decide +kernel
theorem dX12_productOf_30 : decode cX12_productOf 30 = .ok (.iload_n 2, 1) := by decide +kernel
theorem dX12_productOf_31 : decode cX12_productOf 31 = .ok (.iadd, 1) := by decide +kernel
theorem dX12_productOf_32 : decode cX12_productOf 32 = .ok (.iaload, 1) := by decide +kernel
theorem dX12_productOf_33 : decode cX12_productOf 33 = .ok (.imul, 1) := by decide +kernel
theorem dX12_productOf_34 : decode cX12_productOf 34 = .ok (.iadd, 1) := by decide +kernel
theorem dX12_productOf_35 : decode cX12_productOf 35 = .ok (.istore 4, 2) := by decide +kernel
theorem dX12_productOf_37 : decode cX12_productOf 37 = .ok (.iinc 5 1, 3) := by decide +kernel
theorem dX12_productOf_40 : decode cX12_productOf 40 = .ok (.goto (-34), 3) := by decide +kernel
theorem dX12_product_47 : decode cX12_product 47 = .ok (.ireturn, 1) := by decide +kernel
theorem dX12_product_24 : decode cX12_product 24 = .ok (.aload_n 0, 1) := by decide +kernel
theorem dX12_product_25 : decode cX12_product 25 = .ok (.iload_n 1, 1) := by decide +kernel
theorem dX12_product_26 : decode cX12_product 26 = .ok (.iload_n 2, 1) := by decide +kernel
theorem dX12_product_27 : decode cX12_product 27 = .ok (.aload_n 0, 1) := by decide +kernel
theorem dX12_product_28 : decode cX12_product 28 = .ok (.getfield 97, 3) := by decide +kernel
theorem dX12_product_31 : decode cX12_product 31 = .ok (.invokevirtual 334, 3) := by decide +kernel
theorem dX12_product_34 : decode cX12_product 34 = .ok (.goto 13, 3) := by decide +kernel
theorem dX12_clash_0 : decode cX12_clash 0 = .ok (.aload_n 0, 1) := by decide +kernel
theorem dX12_clash_1 : decode cX12_clash 1 = .ok (.iload_n 1, 1) := by decide +kernel
theorem dX12_clash_2 : decode cX12_clash 2 = .ok (.invokevirtual 361, 3) := by decide +kernel
theorem dX12_clash_5 : decode cX12_clash 5 = .ok (.ifCond .eq 16, 3) := by decide +kernel
theorem dX12_clash_21 : decode cX12_clash 21 = .ok (.iconst (-1), 1) := by decide +kernel
theorem dX12_clash_22 : decode cX12_clash 22 = .ok (.ireturn, 1) := by decide +kernel
theorem dX12_clash_8 : decode cX12_clash 8 = .ok (.aload_n 0, 1) := by decide +kernel
theorem dX12_clash_9 : decode cX12_clash 9 = .ok (.iload_n 2, 1) := by decide +kernel
theorem dX12_clash_10 : decode cX12_clash 10 = .ok (.invokevirtual 361, 3) := by decide +kernel
theorem dX12_clash_13 : decode cX12_clash 13 = .ok (.ifCond .eq 8, 3) := by decide +kernel
theorem dX12_clash_16 : decode cX12_clash 16 = .ok (.iload_n 1, 1) := by decide +kernel
theorem dX12_clash_17 : decode cX12_clash 17 = .ok (.iload_n 2, 1) := by decide +kernel
theorem dX12_clash_18 : decode cX12_clash 18 = .ok (.if_icmp .ne 5, 3) := by decide +kernel
theorem dX12_clash_23 : decode cX12_clash 23 = .ok (.iload_n 3, 1) := by decide +kernel
theorem dX12_clash_24 : decode cX12_clash 24 = .ok (.ifCond .eq 16, 3) := by decide +kernel
theorem dX12_clash_40 : decode cX12_clash 40 = .ok (.aload_n 0, 1) := by decide +kernel
theorem dX12_clash_41 : decode cX12_clash 41 = .ok (.iload_n 1, 1) := by decide +kernel
theorem dX12_clash_42 : decode cX12_clash 42 = .ok (.iload_n 2, 1) := by decide +kernel
theorem dX12_clash_43 : decode cX12_clash 43 = .ok (.aload_n 0, 1) := by decide +kernel
theorem dX12_clash_44 : decode cX12_clash 44 = .ok (.getfield 69, 3) := by decide +kernel
theorem dX12_clash_47 : decode cX12_clash 47 = .ok (.invokevirtual 367, 3) := by decide +kernel
theorem dX12_clashOf_0 : decode cX12_clashOf 0 = .ok (.aload_n 0, 1) := by decide +kernel
theorem dX12_clashOf_1 : decode cX12_clashOf 1 = .ok (.iload_n 1, 1) := by decide +kernel
theorem dX12_clashOf_2 : decode cX12_clashOf 2 = .ok (.iload_n 1, 1) := by decide +kernel
theorem dX12_clashOf_3 : decode cX12_clashOf 3 = .ok (.aload_n 3, 1) := by decide +kernel
theorem dX12_clashOf_4 : decode cX12_clashOf 4 = .ok (.invokevirtual 334, 3) := by decide +kernel
theorem dX12_clashOf_7 : decode cX12_clashOf 7 = .ok (.i2l, 1) := by decide +kernel
theorem dX12_clashOf_8 : decode cX12_clashOf 8 = .ok (.lstore 4, 2) := by decide +kernel
theorem dX12_clashOf_10 : decode cX12_clashOf 10 = .ok (.aload_n 0, 1) := by decide +kernel
theorem dX12_clashOf_11 : decode cX12_clashOf 11 = .ok (.iload_n 2, 1) := by decide +kernel
theorem dX12_clashOf_12 : decode cX12_clashOf 12 = .ok (.iload_n 2, 1) := by decide +kernel
theorem dX12_clashOf_13 : decode cX12_clashOf 13 = .ok (.aload_n 3, 1) := by decide +kernel
theorem dX12_clashOf_14 : decode cX12_clashOf 14 = .ok (.invokevirtual 334, 3) := by decide +kernel
theorem dX12_clashOf_17 : decode cX12_clashOf 17 = .ok (.i2l, 1) := by decide +kernel
theorem dX12_clashOf_18 : decode cX12_clashOf 18 = .ok (.lstore 6, 2) := by decide +kernel
theorem dX12_clashOf_20 : decode cX12_clashOf 20 = .ok (.aload_n 0, 1) := by decide +kernel
theorem dX12_clashOf_21 : decode cX12_clashOf 21 = .ok (.iload_n 1, 1) := by decide +kernel
theorem dX12_clashOf_22 : decode cX12_clashOf 22 = .ok (.iload_n 2, 1) := by decide +kernel
theorem dX12_clashOf_23 : decode cX12_clashOf 23 = .ok (.aload_n 3, 1) := by decide +kernel
theorem dX12_clashOf_24 : decode cX12_clashOf 24 = .ok (.invokevirtual 334, 3) := by decide +kernel
theorem dX12_clashOf_27 : decode cX12_clashOf 27 = .ok (.i2l, 1) := by decide +kernel
theorem dX12_clashOf_28 : decode cX12_clashOf 28 = .ok (.lstore 8, 2) := by decide +kernel
theorem dX12_clashOf_30 : decode cX12_clashOf 30 = .ok (.lload 4, 2) := by decide +kernel
theorem dX12_clashOf_32 : decode cX12_clashOf 32 = .ok (.lconst 0, 1) := by decide +kernel
theorem dX12_clashOf_33 : decode cX12_clashOf 33 = .ok (.lcmp, 1) := by decide +kernel
theorem dX12_clashOf_34 : decode cX12_clashOf 34 = .ok (.ifCond .eq 10, 3) := by decide +kernel
theorem dX12_clashOf_44 : decode cX12_clashOf 44 = .ok (.iconst 0, 1) := by decide +kernel
theorem dX12_clashOf_45 : decode cX12_clashOf 45 = .ok (.goto 19, 3) := by decide +kernel
theorem dX12_clashOf_64 : decode cX12_clashOf 64 = .ok (.ireturn, 1) := by decide +kernel
theorem dX12_clashOf_37 : decode cX12_clashOf 37 = .ok (.lload 6, 2) := by decide +kernel
theorem dX12_clashOf_39 : decode cX12_clashOf 39 = .ok (.lconst 0, 1) := by decide +kernel
theorem dX12_clashOf_40 : decode cX12_clashOf 40 = .ok (.lcmp, 1) := by decide +kernel
theorem dX12_clashOf_41 : decode cX12_clashOf 41 = .ok (.ifCond .ne 7, 3) := by decide +kernel
theorem dX12_clashOf_48 : decode cX12_clashOf 48 = .ok (.ldc2_w 365, 3) := by decide +kernel
theorem dX12_clashOf_51 : decode cX12_clashOf 51 = .ok (.lload 8, 2) := by decide +kernel
theorem dX12_clashOf_53 : decode cX12_clashOf 53 = .ok (.lmul, 1) := by decide +kernel
theorem dX12_clashOf_54 : decode cX12_clashOf 54 = .ok (.lload 8, 2) := by decide +kernel
theorem dX12_clashOf_56 : decode cX12_clashOf 56 = .ok (.lmul, 1) := by decide +kernel
theorem dX12_clashOf_57 : decode cX12_clashOf 57 = .ok (.lload 4, 2) := by decide +kernel
theorem dX12_clashOf_59 : decode cX12_clashOf 59 = .ok (.lload 6, 2) := by decide +kernel
theorem dX12_clashOf_61 : decode cX12_clashOf 61 = .ok (.lmul, 1) := by decide +kernel
theorem dX12_clashOf_62 : decode cX12_clashOf 62 = .ok (.ldiv, 1) := by decide +kernel
theorem dX12_clashOf_63 : decode cX12_clashOf 63 = .ok (.l2i, 1) := by decide +kernel
theorem dX12_clash_50 : decode cX12_clash 50 = .ok (.ireturn, 1) := by decide +kernel
theorem dX12_clash_27 : decode cX12_clash 27 = .ok (.aload_n 0, 1) := by decide +kernel
theorem dX12_clash_28 : decode cX12_clash 28 = .ok (.iload_n 1, 1) := by decide +kernel
theorem dX12_clash_29 : decode cX12_clash 29 = .ok (.iload_n 2, 1) := by decide +kernel
theorem dX12_clash_30 : decode cX12_clash 30 = .ok (.aload_n 0, 1) := by decide +kernel
theorem dX12_clash_31 : decode cX12_clash 31 = .ok (.getfield 97, 3) := by decide +kernel
theorem dX12_clash_34 : decode cX12_clash 34 = .ok (.invokevirtual 367, 3) := by decide +kernel
theorem dX12_clash_37 : decode cX12_clash 37 = .ok (.goto 13, 3) := by decide +kernel
theorem dX12_worst_0 : decode cX12_worst 0 = .ok (.iconst (-1), 1) := by decide +kernel
theorem dX12_worst_1 : decode cX12_worst 1 = .ok (.istore_n 2, 1) := by decide +kernel
theorem dX12_worst_2 : decode cX12_worst 2 = .ok (.iconst (-1), 1) := by decide +kernel
theorem dX12_worst_3 : decode cX12_worst 3 = .ok (.istore_n 3, 1) := by decide +kernel
theorem dX12_worst_4 : decode cX12_worst 4 = .ok (.iconst 0, 1) := by decide +kernel
theorem dX12_worst_5 : decode cX12_worst 5 = .ok (.istore 4, 2) := by decide +kernel
theorem dX12_worst_7 : decode cX12_worst 7 = .ok (.iload 4, 2) := by decide +kernel
theorem dX12_worst_9 : decode cX12_worst 9 = .ok (.aload_n 0, 1) := by decide +kernel
theorem dX12_worst_10 : decode cX12_worst 10 = .ok (.getfield 237, 3) := by decide +kernel
theorem dX12_worst_13 : decode cX12_worst 13 = .ok (.if_icmp .ge 84, 3) := by decide +kernel
theorem dX12_worst_97 : decode cX12_worst 97 = .ok (.iload_n 2, 1) := by decide +kernel
theorem dX12_worst_98 : decode cX12_worst 98 = .ok (.ireturn, 1) := by decide +kernel
theorem dX12_worst_16 : decode cX12_worst 16 = .ok (.iload 4, 2) := by decide +kernel
theorem dX12_worst_18 : decode cX12_worst 18 = .ok (.iconst 1, 1) := by decide +kernel
theorem dX12_worst_19 : decode cX12_worst 19 = .ok (.iadd, 1) := by decide +kernel
theorem dX12_worst_20 : decode cX12_worst 20 = .ok (.istore 5, 2) := by decide +kernel
theorem dX12_worst_22 : decode cX12_worst 22 = .ok (.iload 5, 2) := by decide +kernel
theorem dX12_worst_24 : decode cX12_worst 24 = .ok (.aload_n 0, 1) := by decide +kernel
theorem dX12_worst_25 : decode cX12_worst 25 = .ok (.getfield 237, 3) := by decide +kernel
theorem dX12_worst_28 : decode cX12_worst 28 = .ok (.if_icmp .ge 63, 3) := by decide +kernel
theorem dX12_worst_91 : decode cX12_worst 91 = .ok (.iinc 4 1, 3) := by decide +kernel
theorem dX12_worst_94 : decode cX12_worst 94 = .ok (.goto (-87), 3) := by decide +kernel
theorem dX12_worst_31 : decode cX12_worst 31 = .ok (.iload_n 1, 1) := by decide +kernel
theorem dX12_worst_32 : decode cX12_worst 32 = .ok (.ifCond .eq 18, 3) := by decide +kernel
theorem dX12_worst_50 : decode cX12_worst 50 = .ok (.aload_n 0, 1) := by decide +kernel
theorem dX12_worst_51 : decode cX12_worst 51 = .ok (.iload 4, 2) := by decide +kernel
theorem dX12_worst_53 : decode cX12_worst 53 = .ok (.iload 5, 2) := by decide +kernel
theorem dX12_worst_55 : decode cX12_worst 55 = .ok (.aload_n 0, 1) := by decide +kernel
theorem dX12_worst_56 : decode cX12_worst 56 = .ok (.getfield 69, 3) := by decide +kernel
theorem dX12_worst_59 : decode cX12_worst 59 = .ok (.invokevirtual 367, 3) := by decide +kernel
theorem dX12_worst_62 : decode cX12_worst 62 = .ok (.istore 6, 2) := by decide +kernel
theorem dX12_worst_64 : decode cX12_worst 64 = .ok (.iload 6, 2) := by decide +kernel
theorem dX12_worst_66 : decode cX12_worst 66 = .ok (.iload_n 3, 1) := by decide +kernel
theorem dX12_worst_67 : decode cX12_worst 67 = .ok (.if_icmp .gt 6, 3) := by decide +kernel
theorem dX12_worst_73 : decode cX12_worst 73 = .ok (.bipush 100, 2) := by decide +kernel
theorem dX12_worst_75 : decode cX12_worst 75 = .ok (.iload 4, 2) := by decide +kernel
theorem dX12_worst_77 : decode cX12_worst 77 = .ok (.imul, 1) := by decide +kernel
theorem dX12_worst_78 : decode cX12_worst 78 = .ok (.iload 5, 2) := by decide +kernel
theorem dX12_worst_80 : decode cX12_worst 80 = .ok (.iadd, 1) := by decide +kernel
theorem dX12_worst_81 : decode cX12_worst 81 = .ok (.istore_n 2, 1) := by decide +kernel
theorem dX12_worst_82 : decode cX12_worst 82 = .ok (.iload 6, 2) := by decide +kernel
theorem dX12_worst_84 : decode cX12_worst 84 = .ok (.istore_n 3, 1) := by decide +kernel
theorem dX12_worst_85 : decode cX12_worst 85 = .ok (.iinc 5 1, 3) := by decide +kernel
theorem dX12_worst_88 : decode cX12_worst 88 = .ok (.goto (-66), 3) := by decide +kernel
theorem dX12_worst_70 : decode cX12_worst 70 = .ok (.goto 15, 3) := by decide +kernel
theorem dX12_worst_35 : decode cX12_worst 35 = .ok (.aload_n 0, 1) := by decide +kernel
theorem dX12_worst_36 : decode cX12_worst 36 = .ok (.iload 4, 2) := by decide +kernel
theorem dX12_worst_38 : decode cX12_worst 38 = .ok (.iload 5, 2) := by decide +kernel
theorem dX12_worst_40 : decode cX12_worst 40 = .ok (.aload_n 0, 1) := by decide +kernel
theorem dX12_worst_41 : decode cX12_worst 41 = .ok (.getfield 97, 3) := by decide +kernel
theorem dX12_worst_44 : decode cX12_worst 44 = .ok (.invokevirtual 367, 3) := by decide +kernel
theorem dX12_worst_47 : decode cX12_worst 47 = .ok (.goto 15, 3) := by decide +kernel
theorem dX12_hear_0 : decode cX12_hear 0 = .ok (.aload_n 0, 1) := by decide +kernel
theorem dX12_hear_1 : decode cX12_hear 1 = .ok (.getfield 148, 3) := by decide +kernel
theorem dX12_hear_4 : decode cX12_hear 4 = .ok (.istore_n 1, 1) := by decide +kernel
theorem dX12_hear_5 : decode cX12_hear 5 = .ok (.aload_n 0, 1) := by decide +kernel
theorem dX12_hear_6 : decode cX12_hear 6 = .ok (.iconst 0, 1) := by decide +kernel
theorem dX12_hear_7 : decode cX12_hear 7 = .ok (.putfield 148, 3) := by decide +kernel
theorem dX12_hear_10 : decode cX12_hear 10 = .ok (.iload_n 1, 1) := by decide +kernel
theorem dX12_hear_11 : decode cX12_hear 11 = .ok (.iconst 2, 1) := by decide +kernel
theorem dX12_hear_12 : decode cX12_hear 12 = .ok (.aload_n 0, 1) := by decide +kernel
theorem dX12_hear_13 : decode cX12_hear 13 = .ok (.getfield 240, 3) := by decide +kernel
theorem dX12_hear_16 : decode cX12_hear 16 = .ok (.imul, 1) := by decide +kernel
theorem dX12_hear_17 : decode cX12_hear 17 = .ok (.if_icmp .eq 5, 3) := by decide +kernel
theorem dX12_hear_22 : decode cX12_hear 22 = .ok (.iconst 0, 1) := by decide +kernel
theorem dX12_hear_23 : decode cX12_hear 23 = .ok (.istore_n 2, 1) := by decide +kernel
theorem dX12_hear_24 : decode cX12_hear 24 = .ok (.iload_n 2, 1) := by decide +kernel
theorem dX12_hear_25 : decode cX12_hear 25 = .ok (.aload_n 0, 1) := by decide +kernel
theorem dX12_hear_26 : decode cX12_hear 26 = .ok (.getfield 240, 3) := by decide +kernel
theorem dX12_hear_29 : decode cX12_hear 29 = .ok (.if_icmp .ge 55, 3) := by decide +kernel
theorem dX12_hear_84 : decode cX12_hear 84 = .ok (.iconst 1, 1) := by decide +kernel
theorem dX12_hear_85 : decode cX12_hear 85 = .ok (.ireturn, 1) := by decide +kernel
theorem dX12_hear_32 : decode cX12_hear 32 = .ok (.sipush 256, 3) := by decide +kernel
theorem dX12_hear_35 : decode cX12_hear 35 = .ok (.aload_n 0, 1) := by decide +kernel
theorem dX12_hear_36 : decode cX12_hear 36 = .ok (.getfield 7, 3) := by decide +kernel
theorem dX12_hear_39 : decode cX12_hear 39 = .ok (.iconst 2, 1) := by decide +kernel
theorem dX12_hear_40 : decode cX12_hear 40 = .ok (.iload_n 2, 1) := by decide +kernel
theorem dX12_hear_41 : decode cX12_hear 41 = .ok (.imul, 1) := by decide +kernel
theorem dX12_hear_42 : decode cX12_hear 42 = .ok (.iaload, 1) := by decide +kernel
theorem dX12_hear_43 : decode cX12_hear 43 = .ok (.imul, 1) := by decide +kernel
theorem dX12_hear_44 : decode cX12_hear 44 = .ok (.aload_n 0, 1) := by decide +kernel
theorem dX12_hear_45 : decode cX12_hear 45 = .ok (.getfield 7, 3) := by decide +kernel
theorem dX12_hear_48 : decode cX12_hear 48 = .ok (.iconst 2, 1) := by decide +kernel
theorem dX12_hear_49 : decode cX12_hear 49 = .ok (.iload_n 2, 1) := by decide +kernel
theorem dX12_hear_50 : decode cX12_hear 50 = .ok (.imul, 1) := by decide +kernel
theorem dX12_hear_51 : decode cX12_hear 51 = .ok (.iconst 1, 1) := by decide +kernel
theorem dX12_hear_52 : decode cX12_hear 52 = .ok (.iadd, 1) := by decide +kernel
theorem dX12_hear_53 : decode cX12_hear 53 = .ok (.iaload, 1) := by decide +kernel
theorem dX12_hear_54 : decode cX12_hear 54 = .ok (.iadd, 1) := by decide +kernel
theorem dX12_hear_55 : decode cX12_hear 55 = .ok (.istore_n 3, 1) := by decide +kernel
theorem dX12_hear_56 : decode cX12_hear 56 = .ok (.aload_n 0, 1) := by decide +kernel
theorem dX12_hear_57 : decode cX12_hear 57 = .ok (.getfield 100, 3) := by decide +kernel
theorem dX12_hear_60 : decode cX12_hear 60 = .ok (.iload_n 2, 1) := by decide +kernel
theorem dX12_hear_61 : decode cX12_hear 61 = .ok (.iload_n 3, 1) := by decide +kernel
theorem dX12_hear_62 : decode cX12_hear 62 = .ok (.sipush 32767, 3) := by decide +kernel
theorem dX12_hear_65 : decode cX12_hear 65 = .ok (.if_icmp .le 11, 3) := by decide +kernel
theorem dX12_hear_76 : decode cX12_hear 76 = .ok (.iload_n 3, 1) := by decide +kernel
theorem dX12_hear_77 : decode cX12_hear 77 = .ok (.iastore, 1) := by decide +kernel
theorem dX12_hear_78 : decode cX12_hear 78 = .ok (.iinc 2 1, 3) := by decide +kernel
theorem dX12_hear_81 : decode cX12_hear 81 = .ok (.goto (-57), 3) := by decide +kernel
theorem dX12_hear_68 : decode cX12_hear 68 = .ok (.iload_n 3, 1) := by decide +kernel
theorem dX12_hear_69 : decode cX12_hear 69 = .ok (.ldc_w 370, 3) := by decide +kernel
theorem dX12_hear_72 : decode cX12_hear 72 = .ok (.isub, 1) := by decide +kernel
theorem dX12_hear_73 : decode cX12_hear 73 = .ok (.goto 4, 3) := by decide +kernel
theorem dX12_hear_20 : decode cX12_hear 20 = .ok (.iconst 0, 1) := by decide +kernel
theorem dX12_hear_21 : decode cX12_hear 21 = .ok (.ireturn, 1) := by decide +kernel
theorem dX12_heard_0 : decode cX12_heard 0 = .ok (.aload_n 0, 1) := by decide +kernel
theorem dX12_heard_1 : decode cX12_heard 1 = .ok (.iload_n 1, 1) := by decide +kernel
theorem dX12_heard_2 : decode cX12_heard 2 = .ok (.invokevirtual 358, 3) := by decide +kernel
theorem dX12_heard_5 : decode cX12_heard 5 = .ok (.ifCond .eq 12, 3) := by decide +kernel
theorem dX12_heard_17 : decode cX12_heard 17 = .ok (.ldc_w 364, 3) := by decide +kernel
theorem dX12_heard_20 : decode cX12_heard 20 = .ok (.ireturn, 1) := by decide +kernel
theorem dX12_heard_8 : decode cX12_heard 8 = .ok (.aload_n 0, 1) := by decide +kernel
theorem dX12_heard_9 : decode cX12_heard 9 = .ok (.getfield 100, 3) := by decide +kernel
theorem dX12_heard_12 : decode cX12_heard 12 = .ok (.iload_n 1, 1) := by decide +kernel
theorem dX12_heard_13 : decode cX12_heard 13 = .ok (.iaload, 1) := by decide +kernel
theorem dX12_heard_14 : decode cX12_heard 14 = .ok (.goto 6, 3) := by decide +kernel
theorem dX12_send_0 : decode cX12_send 0 = .ok (.aload_n 0, 1) := by decide +kernel
theorem dX12_send_1 : decode cX12_send 1 = .ok (.invokevirtual 377, 3) := by decide +kernel
theorem dX12_isRowTold_0 : decode cX12_isRowTold 0 = .ok (.aload_n 0, 1) := by decide +kernel
theorem dX12_isRowTold_1 : decode cX12_isRowTold 1 = .ok (.getfield 148, 3) := by decide +kernel
theorem dX12_isRowTold_4 : decode cX12_isRowTold 4 = .ok (.istore_n 1, 1) := by decide +kernel
theorem dX12_isRowTold_5 : decode cX12_isRowTold 5 = .ok (.aload_n 0, 1) := by decide +kernel
theorem dX12_isRowTold_6 : decode cX12_isRowTold 6 = .ok (.iconst 0, 1) := by decide +kernel
theorem dX12_isRowTold_7 : decode cX12_isRowTold 7 = .ok (.putfield 148, 3) := by decide +kernel
theorem dX12_isRowTold_10 : decode cX12_isRowTold 10 = .ok (.aload_n 0, 1) := by decide +kernel
theorem dX12_isRowTold_11 : decode cX12_isRowTold 11 = .ok (.getfield 237, 3) := by decide +kernel
theorem dX12_isRowTold_14 : decode cX12_isRowTold 14 = .ok (.ifCond .eq 11, 3) := by decide +kernel
theorem dX12_isRowTold_25 : decode cX12_isRowTold 25 = .ok (.iconst 0, 1) := by decide +kernel
theorem dX12_isRowTold_26 : decode cX12_isRowTold 26 = .ok (.ireturn, 1) := by decide +kernel
theorem dX12_isRowTold_17 : decode cX12_isRowTold 17 = .ok (.iload_n 1, 1) := by decide +kernel
theorem dX12_isRowTold_18 : decode cX12_isRowTold 18 = .ok (.aload_n 0, 1) := by decide +kernel
theorem dX12_isRowTold_19 : decode cX12_isRowTold 19 = .ok (.getfield 237, 3) := by decide +kernel
theorem dX12_isRowTold_22 : decode cX12_isRowTold 22 = .ok (.if_icmp .eq 5, 3) := by decide +kernel
theorem dX12_isRowTold_27 : decode cX12_isRowTold 27 = .ok (.iconst 0, 1) := by decide +kernel
theorem dX12_isRowTold_28 : decode cX12_isRowTold 28 = .ok (.istore_n 2, 1) := by decide +kernel
theorem dX12_isRowTold_29 : decode cX12_isRowTold 29 = .ok (.iload_n 2, 1) := by decide +kernel
theorem dX12_isRowTold_30 : decode cX12_isRowTold 30 = .ok (.aload_n 0, 1) := by decide +kernel
theorem dX12_isRowTold_31 : decode cX12_isRowTold 31 = .ok (.getfield 237, 3) := by decide +kernel
theorem dX12_isRowTold_34 : decode cX12_isRowTold 34 = .ok (.if_icmp .ge 60, 3) := by decide +kernel
theorem dX12_isRowTold_37 : decode cX12_isRowTold 37 = .ok (.aload_n 0, 1) := by decide +kernel
theorem dX12_isRowTold_38 : decode cX12_isRowTold 38 = .ok (.getfield 103, 3) := by decide +kernel
theorem dX12_isRowTold_41 : decode cX12_isRowTold 41 = .ok (.iload_n 2, 1) := by decide +kernel
theorem dX12_isRowTold_42 : decode cX12_isRowTold 42 = .ok (.aload_n 0, 1) := by decide +kernel
theorem dX12_isRowTold_43 : decode cX12_isRowTold 43 = .ok (.getfield 7, 3) := by decide +kernel
theorem dX12_isRowTold_46 : decode cX12_isRowTold 46 = .ok (.iload_n 2, 1) := by decide +kernel
theorem dX12_isRowTold_47 : decode cX12_isRowTold 47 = .ok (.iaload, 1) := by decide +kernel
theorem dX12_isRowTold_48 : decode cX12_isRowTold 48 = .ok (.bipush 127, 2) := by decide +kernel
theorem dX12_isRowTold_50 : decode cX12_isRowTold 50 = .ok (.if_icmp .le 16, 3) := by decide +kernel
theorem dX12_isRowTold_66 : decode cX12_isRowTold 66 = .ok (.aload_n 0, 1) := by decide +kernel
theorem dX12_isRowTold_67 : decode cX12_isRowTold 67 = .ok (.getfield 7, 3) := by decide +kernel
theorem dX12_isRowTold_70 : decode cX12_isRowTold 70 = .ok (.iload_n 2, 1) := by decide +kernel
theorem dX12_isRowTold_71 : decode cX12_isRowTold 71 = .ok (.iaload, 1) := by decide +kernel
theorem dX12_isRowTold_72 : decode cX12_isRowTold 72 = .ok (.iastore, 1) := by decide +kernel
theorem dX12_isRowTold_73 : decode cX12_isRowTold 73 = .ok (.aload_n 0, 1) := by decide +kernel
theorem dX12_isRowTold_74 : decode cX12_isRowTold 74 = .ok (.aload_n 0, 1) := by decide +kernel
theorem dX12_isRowTold_75 : decode cX12_isRowTold 75 = .ok (.getfield 103, 3) := by decide +kernel
theorem dX12_isRowTold_78 : decode cX12_isRowTold 78 = .ok (.iload_n 2, 1) := by decide +kernel
theorem dX12_isRowTold_79 : decode cX12_isRowTold 79 = .ok (.iaload, 1) := by decide +kernel
theorem dX12_isRowTold_80 : decode cX12_isRowTold 80 = .ok (.invokevirtual 371, 3) := by decide +kernel
theorem dX12_isLetterOf_0 : decode cX12_isLetterOf 0 = .ok (.iload_n 1, 1) := by decide +kernel
theorem dX12_isLetterOf_1 : decode cX12_isLetterOf 1 = .ok (.i2l, 1) := by decide +kernel
theorem dX12_isLetterOf_2 : decode cX12_isLetterOf 2 = .ok (.iconst 1, 1) := by decide +kernel
theorem dX12_isLetterOf_3 : decode cX12_isLetterOf 3 = .ok (.aload_n 0, 1) := by decide +kernel
theorem dX12_isLetterOf_4 : decode cX12_isLetterOf 4 = .ok (.getfield 234, 3) := by decide +kernel
theorem dX12_isLetterOf_7 : decode cX12_isLetterOf 7 = .ok (.isub, 1) := by decide +kernel
theorem dX12_isLetterOf_8 : decode cX12_isLetterOf 8 = .ok (.i2l, 1) := by decide +kernel
theorem dX12_isLetterOf_9 : decode cX12_isLetterOf 9 = .ok (.aload_n 0, 1) := by decide +kernel
theorem dX12_isLetterOf_10 : decode cX12_isLetterOf 10 = .ok (.getfield 234, 3) := by decide +kernel
theorem dX12_isLetterOf_13 : decode cX12_isLetterOf 13 = .ok (.iconst 1, 1) := by decide +kernel
theorem dX12_isLetterOf_14 : decode cX12_isLetterOf 14 = .ok (.isub, 1) := by decide +kernel
theorem dX12_isLetterOf_15 : decode cX12_isLetterOf 15 = .ok (.i2l, 1) := by decide +kernel
theorem dX12_isLetterOf_16 : decode cX12_isLetterOf 16 = .ok (.invokestatic 191, 3) := by decide +kernel
theorem dX12_isLetterOf_19 : decode cX12_isLetterOf 19 = .ok (.ifCond .eq 20, 3) := by decide +kernel
theorem dX12_isLetterOf_39 : decode cX12_isLetterOf 39 = .ok (.iconst 0, 1) := by decide +kernel
theorem dX12_isLetterOf_40 : decode cX12_isLetterOf 40 = .ok (.ireturn, 1) := by decide +kernel
theorem dX12_isLetterOf_22 : decode cX12_isLetterOf 22 = .ok (.iload_n 1, 1) := by decide +kernel
theorem dX12_isLetterOf_23 : decode cX12_isLetterOf 23 = .ok (.aload_n 0, 1) := by decide +kernel
theorem dX12_isLetterOf_24 : decode cX12_isLetterOf 24 = .ok (.getfield 234, 3) := by decide +kernel
theorem dX12_isLetterOf_27 : decode cX12_isLetterOf 27 = .ok (.iadd, 1) := by decide +kernel
theorem dX12_isLetterOf_28 : decode cX12_isLetterOf 28 = .ok (.iconst 1, 1) := by decide +kernel
theorem dX12_isLetterOf_29 : decode cX12_isLetterOf 29 = .ok (.isub, 1) := by decide +kernel
theorem dX12_isLetterOf_30 : decode cX12_isLetterOf 30 = .ok (.iconst 2, 1) := by decide +kernel
theorem dX12_isLetterOf_31 : decode cX12_isLetterOf 31 = .ok (.irem, 1) := by decide +kernel
theorem dX12_isLetterOf_32 : decode cX12_isLetterOf 32 = .ok (.ifCond .ne 7, 3) := by decide +kernel
theorem dX12_isLetterOf_35 : decode cX12_isLetterOf 35 = .ok (.iconst 1, 1) := by decide +kernel
theorem dX12_isLetterOf_36 : decode cX12_isLetterOf 36 = .ok (.goto 4, 3) := by decide +kernel
theorem dX12_isRowTold_83 : decode cX12_isRowTold 83 = .ok (.ifCond .ne 5, 3) := by decide +kernel
theorem dX12_isRowTold_88 : decode cX12_isRowTold 88 = .ok (.iinc 2 1, 3) := by decide +kernel
theorem dX12_isRowTold_91 : decode cX12_isRowTold 91 = .ok (.goto (-62), 3) := by decide +kernel
theorem dX12_isRowTold_86 : decode cX12_isRowTold 86 = .ok (.iconst 0, 1) := by decide +kernel
theorem dX12_isRowTold_87 : decode cX12_isRowTold 87 = .ok (.ireturn, 1) := by decide +kernel
theorem dX12_isRowTold_53 : decode cX12_isRowTold 53 = .ok (.aload_n 0, 1) := by decide +kernel
theorem dX12_isRowTold_54 : decode cX12_isRowTold 54 = .ok (.getfield 7, 3) := by decide +kernel
theorem dX12_isRowTold_57 : decode cX12_isRowTold 57 = .ok (.iload_n 2, 1) := by decide +kernel
theorem dX12_isRowTold_58 : decode cX12_isRowTold 58 = .ok (.iaload, 1) := by decide +kernel
theorem dX12_isRowTold_59 : decode cX12_isRowTold 59 = .ok (.sipush 256, 3) := by decide +kernel
theorem dX12_isRowTold_62 : decode cX12_isRowTold 62 = .ok (.isub, 1) := by decide +kernel
theorem dX12_isRowTold_63 : decode cX12_isRowTold 63 = .ok (.goto 9, 3) := by decide +kernel
theorem dX12_isRowTold_94 : decode cX12_isRowTold 94 = .ok (.iconst 1, 1) := by decide +kernel
theorem dX12_isRowTold_95 : decode cX12_isRowTold 95 = .ok (.ireturn, 1) := by decide +kernel
theorem dX12_send_4 : decode cX12_send 4 = .ok (.ifCond .ne 5, 3) := by decide +kernel
theorem dX12_send_9 : decode cX12_send 9 = .ok (.iconst 0, 1) := by decide +kernel
theorem dX12_send_10 : decode cX12_send 10 = .ok (.istore_n 1, 1) := by decide +kernel
theorem dX12_send_11 : decode cX12_send 11 = .ok (.iload_n 1, 1) := by decide +kernel
theorem dX12_send_12 : decode cX12_send 12 = .ok (.aload_n 0, 1) := by decide +kernel
theorem dX12_send_13 : decode cX12_send 13 = .ok (.getfield 240, 3) := by decide +kernel
theorem dX12_send_16 : decode cX12_send 16 = .ok (.if_icmp .ge 20, 3) := by decide +kernel
theorem dX12_send_36 : decode cX12_send 36 = .ok (.iconst 1, 1) := by decide +kernel
theorem dX12_send_37 : decode cX12_send 37 = .ok (.ireturn, 1) := by decide +kernel
theorem dX12_send_19 : decode cX12_send 19 = .ok (.aload_n 0, 1) := by decide +kernel
theorem dX12_send_20 : decode cX12_send 20 = .ok (.getfield 100, 3) := by decide +kernel
theorem dX12_send_23 : decode cX12_send 23 = .ok (.iload_n 1, 1) := by decide +kernel
theorem dX12_send_24 : decode cX12_send 24 = .ok (.aload_n 0, 1) := by decide +kernel
theorem dX12_send_25 : decode cX12_send 25 = .ok (.iload_n 1, 1) := by decide +kernel
theorem dX12_send_26 : decode cX12_send 26 = .ok (.invokevirtual 374, 3) := by decide +kernel
theorem dX12_sentTo_0 : decode cX12_sentTo 0 = .ok (.iconst 0, 1) := by decide +kernel
theorem dX12_sentTo_1 : decode cX12_sentTo 1 = .ok (.istore_n 2, 1) := by decide +kernel
theorem dX12_sentTo_2 : decode cX12_sentTo 2 = .ok (.iconst 0, 1) := by decide +kernel
theorem dX12_sentTo_3 : decode cX12_sentTo 3 = .ok (.istore_n 3, 1) := by decide +kernel
theorem dX12_sentTo_4 : decode cX12_sentTo 4 = .ok (.iload_n 3, 1) := by decide +kernel
theorem dX12_sentTo_5 : decode cX12_sentTo 5 = .ok (.aload_n 0, 1) := by decide +kernel
theorem dX12_sentTo_6 : decode cX12_sentTo 6 = .ok (.getfield 237, 3) := by decide +kernel
theorem dX12_sentTo_9 : decode cX12_sentTo 9 = .ok (.if_icmp .ge 29, 3) := by decide +kernel
theorem dX12_sentTo_38 : decode cX12_sentTo 38 = .ok (.iload_n 2, 1) := by decide +kernel
theorem dX12_sentTo_39 : decode cX12_sentTo 39 = .ok (.ireturn, 1) := by decide +kernel
theorem dX12_sentTo_12 : decode cX12_sentTo 12 = .ok (.iload_n 2, 1) := by decide +kernel
theorem dX12_sentTo_13 : decode cX12_sentTo 13 = .ok (.aload_n 0, 1) := by decide +kernel
theorem dX12_sentTo_14 : decode cX12_sentTo 14 = .ok (.getfield 69, 3) := by decide +kernel
theorem dX12_sentTo_17 : decode cX12_sentTo 17 = .ok (.iconst 5, 1) := by decide +kernel
theorem dX12_sentTo_18 : decode cX12_sentTo 18 = .ok (.iload_n 1, 1) := by decide +kernel
theorem dX12_sentTo_19 : decode cX12_sentTo 19 = .ok (.imul, 1) := by decide +kernel
theorem dX12_sentTo_20 : decode cX12_sentTo 20 = .ok (.iload_n 3, 1) := by decide +kernel
theorem dX12_sentTo_21 : decode cX12_sentTo 21 = .ok (.iadd, 1) := by decide +kernel
theorem dX12_sentTo_22 : decode cX12_sentTo 22 = .ok (.iaload, 1) := by decide +kernel
theorem dX12_sentTo_23 : decode cX12_sentTo 23 = .ok (.aload_n 0, 1) := by decide +kernel
theorem dX12_sentTo_24 : decode cX12_sentTo 24 = .ok (.getfield 103, 3) := by decide +kernel
theorem dX12_sentTo_27 : decode cX12_sentTo 27 = .ok (.iload_n 3, 1) := by decide +kernel
theorem dX12_sentTo_28 : decode cX12_sentTo 28 = .ok (.iaload, 1) := by decide +kernel
theorem dX12_sentTo_29 : decode cX12_sentTo 29 = .ok (.imul, 1) := by decide +kernel
theorem dX12_sentTo_30 : decode cX12_sentTo 30 = .ok (.iadd, 1) := by decide +kernel
theorem dX12_sentTo_31 : decode cX12_sentTo 31 = .ok (.istore_n 2, 1) := by decide +kernel
theorem dX12_sentTo_32 : decode cX12_sentTo 32 = .ok (.iinc 3 1, 3) := by decide +kernel
theorem dX12_sentTo_35 : decode cX12_sentTo 35 = .ok (.goto (-31), 3) := by decide +kernel
theorem dX12_send_29 : decode cX12_send 29 = .ok (.iastore, 1) := by decide +kernel
theorem dX12_send_30 : decode cX12_send 30 = .ok (.iinc 1 1, 3) := by decide +kernel
theorem dX12_send_33 : decode cX12_send 33 = .ok (.goto (-22), 3) := by decide +kernel
theorem dX12_send_7 : decode cX12_send 7 = .ok (.iconst 0, 1) := by decide +kernel
theorem dX12_send_8 : decode cX12_send 8 = .ok (.ireturn, 1) := by decide +kernel
theorem dX12_distance_0 : decode cX12_distance 0 = .ok (.aload_n 0, 1) := by decide +kernel
theorem dX12_distance_1 : decode cX12_distance 1 = .ok (.invokevirtual 377, 3) := by decide +kernel
