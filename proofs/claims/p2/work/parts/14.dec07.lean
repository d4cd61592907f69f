theorem dX3_putAhead_29 : decode cX3_putAhead 29 = .ok (.ifCond .le 8, 3) := by decide +kernel
theorem dX3_putAhead_37 : decode cX3_putAhead 37 = .ok (.aload_n 0, 1) := by decide +kernel
theorem dX3_putAhead_38 : decode cX3_putAhead 38 = .ok (.getfield 22, 3) := by decide +kernel
theorem dX3_putAhead_41 : decode cX3_putAhead 41 = .ok (.iconst 0, 1) := by decide +kernel
theorem dX3_putAhead_42 : decode cX3_putAhead 42 = .ok (.aload_n 0, 1) := by decide +kernel
theorem dX3_putAhead_43 : decode cX3_putAhead 43 = .ok (.getfield 18, 3) := by decide +kernel
theorem dX3_putAhead_46 : decode cX3_putAhead 46 = .ok (.iconst 0, 1) := by decide +kernel
theorem dX3_putAhead_47 : decode cX3_putAhead 47 = .ok (.iconst 5, 1) := by decide +kernel
theorem dX3_putAhead_48 : decode cX3_putAhead 48 = .ok (.invokestatic 71, 3) := by decide +kernel
theorem dX3_putAhead_51 : decode cX3_putAhead 51 = .ok (.aload_n 0, 1) := by decide +kernel
theorem dX3_putAhead_52 : decode cX3_putAhead 52 = .ok (.iconst 1, 1) := by decide +kernel
theorem dX3_putAhead_53 : decode cX3_putAhead 53 = .ok (.putfield 39, 3) := by decide +kernel
theorem dX3_putAhead_56 : decode cX3_putAhead 56 = .ok (.lload_n 3, 1) := by decide +kernel
theorem dX3_putAhead_57 : decode cX3_putAhead 57 = .ok (.lreturn, 1) := by decide +kernel
theorem dX3_putAhead_32 : decode cX3_putAhead 32 = .ok (.aload_n 0, 1) := by decide +kernel
theorem dX3_putAhead_33 : decode cX3_putAhead 33 = .ok (.invokevirtual 67, 3) := by decide +kernel
theorem dX3_refuse_0 : decode cX3_refuse 0 = .ok (.aload_n 0, 1) := by decide +kernel
theorem dX3_refuse_1 : decode cX3_refuse 1 = .ok (.iconst 0, 1) := by decide +kernel
theorem dX3_refuse_2 : decode cX3_refuse 2 = .ok (.putfield 39, 3) := by decide +kernel
theorem dX3_refuse_5 : decode cX3_refuse 5 = .ok (.ldc2_w 43, 3) := by decide +kernel
theorem dX3_refuse_8 : decode cX3_refuse 8 = .ok (.lreturn, 1) := by decide +kernel
theorem dX3_putAhead_36 : decode cX3_putAhead 36 = .ok (.lreturn, 1) := by decide +kernel
theorem dX11_feed_0 : decode cX11_feed 0 = .ok (.aload_n 0, 1) := by decide +kernel
theorem dX11_feed_1 : decode cX11_feed 1 = .ok (.getfield 20, 3) := by decide +kernel
theorem dX11_feed_4 : decode cX11_feed 4 = .ok (.bipush 20, 2) := by decide +kernel
theorem dX11_feed_6 : decode cX11_feed 6 = .ok (.invokevirtual 83, 3) := by decide +kernel
theorem dX11_feed_9 : decode cX11_feed 9 = .ok (.ifCond .ne 5, 3) := by decide +kernel
theorem dX11_feed_14 : decode cX11_feed 14 = .ok (.aload_n 0, 1) := by decide +kernel
theorem dX11_feed_15 : decode cX11_feed 15 = .ok (.getfield 20, 3) := by decide +kernel
theorem dX11_feed_18 : decode cX11_feed 18 = .ok (.iload_n 1, 1) := by decide +kernel
theorem dX11_feed_19 : decode cX11_feed 19 = .ok (.invokevirtual 89, 3) := by decide +kernel
theorem dX11_feed_22 : decode cX11_feed 22 = .ok (.aload_n 0, 1) := by decide +kernel
theorem dX11_feed_23 : decode cX11_feed 23 = .ok (.getfield 20, 3) := by decide +kernel
theorem dX11_feed_26 : decode cX11_feed 26 = .ok (.iload_n 2, 1) := by decide +kernel
theorem dX11_feed_27 : decode cX11_feed 27 = .ok (.invokevirtual 89, 3) := by decide +kernel
theorem dX11_feed_30 : decode cX11_feed 30 = .ok (.aload_n 0, 1) := by decide +kernel
theorem dX11_feed_31 : decode cX11_feed 31 = .ok (.getfield 20, 3) := by decide +kernel
theorem dX11_feed_34 : decode cX11_feed 34 = .ok (.iload_n 3, 1) := by decide +kernel
theorem dX11_feed_35 : decode cX11_feed 35 = .ok (.invokevirtual 89, 3) := by decide +kernel
theorem dX11_feed_38 : decode cX11_feed 38 = .ok (.aload_n 0, 1) := by decide +kernel
theorem dX11_feed_39 : decode cX11_feed 39 = .ok (.getfield 20, 3) := by decide +kernel
theorem dX11_feed_42 : decode cX11_feed 42 = .ok (.iload 4, 2) := by decide +kernel
theorem dX11_feed_44 : decode cX11_feed 44 = .ok (.invokevirtual 89, 3) := by decide +kernel
theorem dX11_feed_47 : decode cX11_feed 47 = .ok (.aload_n 0, 1) := by decide +kernel
theorem dX11_feed_48 : decode cX11_feed 48 = .ok (.getfield 20, 3) := by decide +kernel
theorem dX11_feed_51 : decode cX11_feed 51 = .ok (.iload 5, 2) := by decide +kernel
theorem dX11_feed_53 : decode cX11_feed 53 = .ok (.invokevirtual 89, 3) := by decide +kernel
theorem dX11_feed_56 : decode cX11_feed 56 = .ok (.aload_n 0, 1) := by decide +kernel
theorem dX11_feed_57 : decode cX11_feed 57 = .ok (.getfield 20, 3) := by decide +kernel
theorem dX11_feed_60 : decode cX11_feed 60 = .ok (.invokevirtual 93, 3) := by decide +kernel
theorem dX11_feed_63 : decode cX11_feed 63 = .ok (.ireturn, 1) := by decide +kernel
theorem dX11_feed_12 : decode cX11_feed 12 = .ok (.iconst (-1), 1) := by decide +kernel
theorem dX11_feed_13 : decode cX11_feed 13 = .ok (.ireturn, 1) := by decide +kernel
theorem dX11_end_0 : decode cX11_end 0 = .ok (.iload_n 1, 1) := by decide +kernel
theorem dX11_end_1 : decode cX11_end 1 = .ok (.ifCond .lt 14, 3) := by decide +kernel
theorem dX11_end_15 : decode cX11_end 15 = .ok (.iconst 0, 1) := by decide +kernel
theorem dX11_end_16 : decode cX11_end 16 = .ok (.ireturn, 1) := by decide +kernel
theorem dX11_end_4 : decode cX11_end 4 = .ok (.iload_n 1, 1) := by decide +kernel
theorem dX11_end_5 : decode cX11_end 5 = .ok (.aload_n 0, 1) := by decide +kernel
theorem dX11_end_6 : decode cX11_end 6 = .ok (.getfield 20, 3) := by decide +kernel
theorem dX11_end_9 : decode cX11_end 9 = .ok (.invokevirtual 93, 3) := by decide +kernel
theorem dX11_end_12 : decode cX11_end 12 = .ok (.if_icmp .le 5, 3) := by decide +kernel
theorem dX11_end_17 : decode cX11_end 17 = .ok (.aload_n 0, 1) := by decide +kernel
theorem dX11_end_18 : decode cX11_end 18 = .ok (.getfield 20, 3) := by decide +kernel
theorem dX11_end_21 : decode cX11_end 21 = .ok (.iload_n 1, 1) := by decide +kernel
theorem dX11_end_22 : decode cX11_end 22 = .ok (.invokevirtual 97, 3) := by decide +kernel
theorem dX11_end_25 : decode cX11_end 25 = .ok (.iconst 1, 1) := by decide +kernel
theorem dX11_end_26 : decode cX11_end 26 = .ok (.ireturn, 1) := by decide +kernel
theorem dX11_house_0 : decode cX11_house 0 = .ok (.aload_n 0, 1) := by decide +kernel
theorem dX11_house_1 : decode cX11_house 1 = .ok (.getfield 10, 3) := by decide +kernel
theorem dX11_house_4 : decode cX11_house 4 = .ok (.invokevirtual 100, 3) := by decide +kernel
theorem dX4_readHouse_0 : decode cX4_readHouse 0 = .ok (.aload_n 0, 1) := by decide +kernel
theorem dX4_readHouse_1 : decode cX4_readHouse 1 = .ok (.getfield 21, 3) := by decide +kernel
theorem dX4_readHouse_4 : decode cX4_readHouse 4 = .ok (.invokevirtual 44, 3) := by decide +kernel
theorem dX4_readHouse_7 : decode cX4_readHouse 7 = .ok (.aload_n 0, 1) := by decide +kernel
theorem dX4_readHouse_8 : decode cX4_readHouse 8 = .ok (.iconst 0, 1) := by decide +kernel
theorem dX4_readHouse_9 : decode cX4_readHouse 9 = .ok (.putfield 35, 3) := by decide +kernel
theorem dX4_readHouse_12 : decode cX4_readHouse 12 = .ok (.aload_n 0, 1) := by decide +kernel
theorem dX4_readHouse_13 : decode cX4_readHouse 13 = .ok (.iconst 0, 1) := by decide +kernel
theorem dX4_readHouse_14 : decode cX4_readHouse 14 = .ok (.putfield 38, 3) := by decide +kernel
theorem dX4_readHouse_17 : decode cX4_readHouse 17 = .ok (.aload_n 0, 1) := by decide +kernel
theorem dX4_readHouse_18 : decode cX4_readHouse 18 = .ok (.iconst (-1), 1) := by decide +kernel
theorem dX4_readHouse_19 : decode cX4_readHouse 19 = .ok (.putfield 41, 3) := by decide +kernel
theorem dX4_readHouse_22 : decode cX4_readHouse 22 = .ok (.aload_n 0, 1) := by decide +kernel
theorem dX4_readHouse_23 : decode cX4_readHouse 23 = .ok (.iconst 0, 1) := by decide +kernel
theorem dX4_readHouse_24 : decode cX4_readHouse 24 = .ok (.iconst 0, 1) := by decide +kernel
theorem dX4_readHouse_25 : decode cX4_readHouse 25 = .ok (.invokevirtual 47, 3) := by decide +kernel
theorem dX4_goOn_0 : decode cX4_goOn 0 = .ok (.aload_n 0, 1) := by decide +kernel
theorem dX4_goOn_1 : decode cX4_goOn 1 = .ok (.iload_n 1, 1) := by decide +kernel
theorem dX4_goOn_2 : decode cX4_goOn 2 = .ok (.putfield 25, 3) := by decide +kernel
theorem dX4_goOn_5 : decode cX4_goOn 5 = .ok (.aload_n 0, 1) := by decide +kernel
theorem dX4_goOn_6 : decode cX4_goOn 6 = .ok (.getfield 25, 3) := by decide +kernel
theorem dX4_goOn_9 : decode cX4_goOn 9 = .ok (.aload_n 0, 1) := by decide +kernel
theorem dX4_goOn_10 : decode cX4_goOn 10 = .ok (.getfield 12, 3) := by decide +kernel
theorem dX4_goOn_13 : decode cX4_goOn 13 = .ok (.invokevirtual 70, 3) := by decide +kernel
theorem dX4_goOn_16 : decode cX4_goOn 16 = .ok (.if_icmp .ge 33, 3) := by decide +kernel
theorem dX4_goOn_49 : decode cX4_goOn 49 = .ok (.aload_n 0, 1) := by decide +kernel
theorem dX4_goOn_50 : decode cX4_goOn 50 = .ok (.aload_n 0, 1) := by decide +kernel
theorem dX4_goOn_51 : decode cX4_goOn 51 = .ok (.getfield 12, 3) := by decide +kernel
theorem dX4_goOn_54 : decode cX4_goOn 54 = .ok (.aload_n 0, 1) := by decide +kernel
theorem dX4_goOn_55 : decode cX4_goOn 55 = .ok (.getfield 25, 3) := by decide +kernel
theorem dX4_goOn_58 : decode cX4_goOn 58 = .ok (.invokevirtual 74, 3) := by decide +kernel
theorem dX4_goOn_61 : decode cX4_goOn 61 = .ok (.putfield 29, 3) := by decide +kernel
theorem dX4_goOn_64 : decode cX4_goOn 64 = .ok (.iload_n 2, 1) := by decide +kernel
theorem dX4_goOn_65 : decode cX4_goOn 65 = .ok (.ifCond .eq 36, 3) := by decide +kernel
theorem dX4_goOn_101 : decode cX4_goOn 101 = .ok (.return_, 1) := by decide +kernel
theorem dX4_goOn_68 : decode cX4_goOn 68 = .ok (.aload_n 0, 1) := by decide +kernel
theorem dX4_goOn_69 : decode cX4_goOn 69 = .ok (.getfield 25, 3) := by decide +kernel
theorem dX4_goOn_72 : decode cX4_goOn 72 = .ok (.iload_n 1, 1) := by decide +kernel
theorem dX4_goOn_73 : decode cX4_goOn 73 = .ok (.if_icmp .ne 28, 3) := by decide +kernel
theorem dX4_goOn_76 : decode cX4_goOn 76 = .ok (.aload_n 0, 1) := by decide +kernel
theorem dX4_goOn_77 : decode cX4_goOn 77 = .ok (.getfield 29, 3) := by decide +kernel
theorem dX4_goOn_80 : decode cX4_goOn 80 = .ok (.invokestatic 80, 3) := by decide +kernel
theorem dX4_isSmall_0 : decode cX4_isSmall 0 = .ok (.iload_n 0, 1) := by decide +kernel
theorem dX4_isSmall_1 : decode cX4_isSmall 1 = .ok (.bipush 97, 2) := by decide +kernel
theorem dX4_isSmall_3 : decode cX4_isSmall 3 = .ok (.if_icmp .lt 13, 3) := by decide +kernel
theorem dX4_isSmall_16 : decode cX4_isSmall 16 = .ok (.iconst 0, 1) := by decide +kernel
theorem dX4_isSmall_17 : decode cX4_isSmall 17 = .ok (.ireturn, 1) := by decide +kernel
theorem dX4_isSmall_6 : decode cX4_isSmall 6 = .ok (.iload_n 0, 1) := by decide +kernel
theorem dX4_isSmall_7 : decode cX4_isSmall 7 = .ok (.bipush 122, 2) := by decide +kernel
theorem dX4_isSmall_9 : decode cX4_isSmall 9 = .ok (.if_icmp .gt 7, 3) := by decide +kernel
theorem dX4_isSmall_12 : decode cX4_isSmall 12 = .ok (.iconst 1, 1) := by decide +kernel
theorem dX4_isSmall_13 : decode cX4_isSmall 13 = .ok (.goto 4, 3) := by decide +kernel
theorem dX4_goOn_83 : decode cX4_goOn 83 = .ok (.ifCond .ne 13, 3) := by decide +kernel
theorem dX4_goOn_96 : decode cX4_goOn 96 = .ok (.aload_n 0, 1) := by decide +kernel
theorem dX4_goOn_97 : decode cX4_goOn 97 = .ok (.iconst 0, 1) := by decide +kernel
theorem dX4_goOn_98 : decode cX4_goOn 98 = .ok (.putfield 29, 3) := by decide +kernel
theorem dX4_goOn_86 : decode cX4_goOn 86 = .ok (.aload_n 0, 1) := by decide +kernel
theorem dX4_goOn_87 : decode cX4_goOn 87 = .ok (.getfield 29, 3) := by decide +kernel
theorem dX4_goOn_90 : decode cX4_goOn 90 = .ok (.invokestatic 83, 3) := by decide +kernel
theorem dX4_isDigit_0 : decode cX4_isDigit 0 = .ok (.iload_n 0, 1) := by decide +kernel
theorem dX4_isDigit_1 : decode cX4_isDigit 1 = .ok (.bipush 48, 2) := by decide +kernel
theorem dX4_isDigit_3 : decode cX4_isDigit 3 = .ok (.if_icmp .lt 13, 3) := by decide +kernel
theorem dX4_isDigit_16 : decode cX4_isDigit 16 = .ok (.iconst 0, 1) := by decide +kernel
theorem dX4_isDigit_17 : decode cX4_isDigit 17 = .ok (.ireturn, 1) := by decide +kernel
theorem dX4_isDigit_6 : decode cX4_isDigit 6 = .ok (.iload_n 0, 1) := by decide +kernel
theorem dX4_isDigit_7 : decode cX4_isDigit 7 = .ok (.bipush 57, 2) := by decide +kernel
theorem dX4_isDigit_9 : decode cX4_isDigit 9 = .ok (.if_icmp .gt 7, 3) := by decide +kernel
theorem dX4_isDigit_12 : decode cX4_isDigit 12 = .ok (.iconst 1, 1) := by decide +kernel
theorem dX4_isDigit_13 : decode cX4_isDigit 13 = .ok (.goto 4, 3) := by decide +kernel
theorem dX4_goOn_93 : decode cX4_goOn 93 = .ok (.ifCond .eq 8, 3) := by decide +kernel
theorem dX4_goOn_19 : decode cX4_goOn 19 = .ok (.aload_n 0, 1) := by decide +kernel
theorem dX4_goOn_20 : decode cX4_goOn 20 = .ok (.getfield 12, 3) := by decide +kernel
theorem dX4_goOn_23 : decode cX4_goOn 23 = .ok (.aload_n 0, 1) := by decide +kernel
theorem dX4_goOn_24 : decode cX4_goOn 24 = .ok (.getfield 25, 3) := by decide +kernel
theorem dX4_goOn_27 : decode cX4_goOn 27 = .ok (.invokevirtual 74, 3) := by decide +kernel
theorem dX4_goOn_30 : decode cX4_goOn 30 = .ok (.invokestatic 77, 3) := by decide +kernel
theorem dX4_isBlank_0 : decode cX4_isBlank 0 = .ok (.iload_n 0, 1) := by decide +kernel
theorem dX4_isBlank_1 : decode cX4_isBlank 1 = .ok (.bipush 10, 2) := by decide +kernel
theorem dX4_isBlank_3 : decode cX4_isBlank 3 = .ok (.if_icmp .eq 9, 3) := by decide +kernel
theorem dX4_isBlank_12 : decode cX4_isBlank 12 = .ok (.iconst 1, 1) := by decide +kernel
theorem dX4_isBlank_13 : decode cX4_isBlank 13 = .ok (.goto 4, 3) := by decide +kernel
theorem dX4_isBlank_17 : decode cX4_isBlank 17 = .ok (.ireturn, 1) := by decide +kernel
theorem dX4_isBlank_6 : decode cX4_isBlank 6 = .ok (.iload_n 0, 1) := by decide +kernel
theorem dX4_isBlank_7 : decode cX4_isBlank 7 = .ok (.bipush 32, 2) := by decide +kernel
theorem dX4_isBlank_9 : decode cX4_isBlank 9 = .ok (.if_icmp .ne 7, 3) := by decide +kernel
theorem dX4_isBlank_16 : decode cX4_isBlank 16 = .ok (.iconst 0, 1) := by decide +kernel
theorem dX4_goOn_33 : decode cX4_goOn 33 = .ok (.ifCond .eq 16, 3) := by decide +kernel
theorem dX4_goOn_36 : decode cX4_goOn 36 = .ok (.aload_n 0, 1) := by decide +kernel
theorem dX4_goOn_37 : decode cX4_goOn 37 = .ok (.dup, 1) := by decide +kernel
theorem dX4_goOn_38 : decode cX4_goOn 38 = .ok (.getfield 25, 3) := by decide +kernel
theorem dX4_goOn_41 : decode cX4_goOn 41 = .ok (.iconst 1, 1) := by decide +kernel
theorem dX4_goOn_42 : decode cX4_goOn 42 = .ok (.iadd, 1) := by decide +kernel
theorem dX4_goOn_43 : decode cX4_goOn 43 = .ok (.putfield 25, 3) := by decide +kernel
theorem dX4_goOn_46 : decode cX4_goOn 46 = .ok (.goto (-41), 3) := by decide +kernel
theorem dX4_readHouse_28 : decode cX4_readHouse 28 = .ok (.iconst 0, 1) := by decide +kernel
theorem dX4_readHouse_29 : decode cX4_readHouse 29 = .ok (.istore_n 1, 1) := by decide +kernel
theorem dX4_readHouse_30 : decode cX4_readHouse 30 = .ok (.iload_n 1, 1) := by decide +kernel
theorem dX4_readHouse_31 : decode cX4_readHouse 31 = .ok (.bipush 60, 2) := by decide +kernel
theorem dX4_readHouse_33 : decode cX4_readHouse 33 = .ok (.if_icmp .gt 87, 3) := by decide +kernel
theorem dX4_readHouse_36 : decode cX4_readHouse 36 = .ok (.aload_n 0, 1) := by decide +kernel
theorem dX4_readHouse_37 : decode cX4_readHouse 37 = .ok (.getfield 29, 3) := by decide +kernel
theorem dX4_readHouse_40 : decode cX4_readHouse 40 = .ok (.iconst (-1), 1) := by decide +kernel
theorem dX4_readHouse_41 : decode cX4_readHouse 41 = .ok (.if_icmp .ne 20, 3) := by decide +kernel
theorem dX4_readHouse_61 : decode cX4_readHouse 61 = .ok (.iload_n 1, 1) := by decide +kernel
theorem dX4_readHouse_62 : decode cX4_readHouse 62 = .ok (.bipush 60, 2) := by decide +kernel
theorem dX4_readHouse_64 : decode cX4_readHouse 64 = .ok (.if_icmp .ne 13, 3) := by decide +kernel
theorem dX4_readHouse_77 : decode cX4_readHouse 77 = .ok (.aload_n 0, 1) := by decide +kernel
theorem dX4_readHouse_78 : decode cX4_readHouse 78 = .ok (.iload_n 1, 1) := by decide +kernel
theorem dX4_readHouse_79 : decode cX4_readHouse 79 = .ok (.ifCond .ne 7, 3) := by decide +kernel
theorem dX4_readHouse_82 : decode cX4_readHouse 82 = .ok (.iconst 1, 1) := by decide +kernel
theorem dX4_readHouse_83 : decode cX4_readHouse 83 = .ok (.goto 4, 3) := by decide +kernel
theorem dX4_readHouse_87 : decode cX4_readHouse 87 = .ok (.invokevirtual 59, 3) := by decide +kernel
theorem dX4_readStatement_0 : decode cX4_readStatement 0 = .ok (.iload_n 1, 1) := by decide +kernel
theorem dX4_readStatement_1 : decode cX4_readStatement 1 = .ok (.ifCond .eq 25, 3) := by decide +kernel
theorem dX4_readStatement_26 : decode cX4_readStatement 26 = .ok (.aload_n 0, 1) := by decide +kernel
theorem dX4_readStatement_27 : decode cX4_readStatement 27 = .ok (.ldc 115, 2) := by decide +kernel
theorem dX11_fault_0 : decode cX11_fault 0 = .ok (.iload_n 1, 1) := by decide +kernel
theorem dX11_fault_1 : decode cX11_fault 1 = .ok (.ifCond .ne 11, 3) := by decide +kernel
theorem dX11_fault_12 : decode cX11_fault 12 = .ok (.iload_n 1, 1) := by decide +kernel
theorem dX11_fault_13 : decode cX11_fault 13 = .ok (.iconst 1, 1) := by decide +kernel
theorem dX11_fault_14 : decode cX11_fault 14 = .ok (.if_icmp .ne 13, 3) := by decide +kernel
theorem dX11_fault_27 : decode cX11_fault 27 = .ok (.iconst (-1), 1) := by decide +kernel
theorem dX11_fault_28 : decode cX11_fault 28 = .ok (.ireturn, 1) := by decide +kernel
theorem dX11_fault_17 : decode cX11_fault 17 = .ok (.aload_n 0, 1) := by decide +kernel
theorem dX11_fault_18 : decode cX11_fault 18 = .ok (.getfield 10, 3) := by decide +kernel
theorem dX11_fault_21 : decode cX11_fault 21 = .ok (.getfield 130, 3) := by decide +kernel
theorem dX11_fault_24 : decode cX11_fault 24 = .ok (.goto 4, 3) := by decide +kernel
theorem dX11_fault_4 : decode cX11_fault 4 = .ok (.aload_n 0, 1) := by decide +kernel
theorem dX11_fault_5 : decode cX11_fault 5 = .ok (.getfield 10, 3) := by decide +kernel
theorem dX11_fault_8 : decode cX11_fault 8 = .ok (.getfield 127, 3) := by decide +kernel
theorem dX11_fault_11 : decode cX11_fault 11 = .ok (.ireturn, 1) := by decide +kernel
theorem dX11_has_0 : decode cX11_has 0 = .ok (.iload_n 1, 1) := by decide +kernel
theorem dX11_has_1 : decode cX11_has 1 = .ok (.tableswitch 138 0 9 #[55, 63, 71, 79, 87, 95, 106, 114, 122, 130], 55) := by decide +kernel
theorem dX11_has_56 : decode cX11_has 56 = .ok (.aload_n 0, 1) := by decide +kernel
theorem dX11_has_57 : decode cX11_has 57 = .ok (.getfield 69, 3) := by decide +kernel
theorem dX11_has_60 : decode cX11_has 60 = .ok (.getfield 133, 3) := by decide +kernel
theorem dX11_has_63 : decode cX11_has 63 = .ok (.ireturn, 1) := by decide +kernel
theorem dX11_has_64 : decode cX11_has 64 = .ok (.aload_n 0, 1) := by decide +kernel
theorem dX11_has_65 : decode cX11_has 65 = .ok (.getfield 69, 3) := by decide +kernel
theorem dX11_has_68 : decode cX11_has 68 = .ok (.getfield 136, 3) := by decide +kernel
theorem dX11_has_71 : decode cX11_has 71 = .ok (.ireturn, 1) := by decide +kernel
theorem dX11_has_72 : decode cX11_has 72 = .ok (.aload_n 0, 1) := by decide +kernel
theorem dX11_has_73 : decode cX11_has 73 = .ok (.getfield 69, 3) := by decide +kernel
theorem dX11_has_76 : decode cX11_has 76 = .ok (.getfield 139, 3) := by decide +kernel
theorem dX11_has_79 : decode cX11_has 79 = .ok (.ireturn, 1) := by decide +kernel
theorem dX11_has_80 : decode cX11_has 80 = .ok (.aload_n 0, 1) := by decide +kernel
theorem dX11_has_81 : decode cX11_has 81 = .ok (.getfield 69, 3) := by decide +kernel
theorem dX11_has_84 : decode cX11_has 84 = .ok (.getfield 142, 3) := by decide +kernel
theorem dX11_has_87 : decode cX11_has 87 = .ok (.ireturn, 1) := by decide +kernel
theorem dX11_has_88 : decode cX11_has 88 = .ok (.aload_n 0, 1) := by decide +kernel
theorem dX11_has_89 : decode cX11_has 89 = .ok (.getfield 69, 3) := by decide +kernel
theorem dX11_has_92 : decode cX11_has 92 = .ok (.getfield 145, 3) := by decide +kernel
theorem dX11_has_95 : decode cX11_has 95 = .ok (.ireturn, 1) := by decide +kernel
theorem dX11_has_96 : decode cX11_has 96 = .ok (.aload_n 0, 1) := by decide +kernel
theorem dX11_has_97 : decode cX11_has 97 = .ok (.getfield 69, 3) := by decide +kernel
theorem dX11_has_100 : decode cX11_has 100 = .ok (.getfield 148, 3) := by decide +kernel
theorem dX11_has_103 : decode cX11_has 103 = .ok (.getfield 152, 3) := by decide +kernel
theorem dX11_has_106 : decode cX11_has 106 = .ok (.ireturn, 1) := by decide +kernel
theorem dX11_has_107 : decode cX11_has 107 = .ok (.aload_n 0, 1) := by decide +kernel
theorem dX11_has_108 : decode cX11_has 108 = .ok (.getfield 69, 3) := by decide +kernel
theorem dX11_has_111 : decode cX11_has 111 = .ok (.getfield 157, 3) := by decide +kernel
theorem dX11_has_114 : decode cX11_has 114 = .ok (.ireturn, 1) := by decide +kernel
theorem dX11_has_115 : decode cX11_has 115 = .ok (.aload_n 0, 1) := by decide +kernel
theorem dX11_has_116 : decode cX11_has 116 = .ok (.getfield 76, 3) := by decide +kernel
theorem dX11_has_119 : decode cX11_has 119 = .ok (.getfield 160, 3) := by decide +kernel
theorem dX11_has_122 : decode cX11_has 122 = .ok (.ireturn, 1) := by decide +kernel
theorem dX11_has_123 : decode cX11_has 123 = .ok (.aload_n 0, 1) := by decide +kernel
theorem dX11_has_124 : decode cX11_has 124 = .ok (.getfield 76, 3) := by decide +kernel
theorem dX11_has_127 : decode cX11_has 127 = .ok (.getfield 163, 3) := by decide +kernel
theorem dX11_has_130 : decode cX11_has 130 = .ok (.ireturn, 1) := by decide +kernel
theorem dX11_has_131 : decode cX11_has 131 = .ok (.aload_n 0, 1) := by decide +kernel
theorem dX11_has_132 : decode cX11_has 132 = .ok (.getfield 76, 3) := by decide +kernel
theorem dX11_has_135 : decode cX11_has 135 = .ok (.getfield 166, 3) := by decide +kernel
theorem dX11_has_138 : decode cX11_has 138 = .ok (.ireturn, 1) := by decide +kernel
theorem dX11_has_139 : decode cX11_has 139 = .ok (.iconst (-1), 1) := by decide +kernel
theorem dX11_has_140 : decode cX11_has 140 = .ok (.ireturn, 1) := by decide +kernel
theorem dX11_table_0 : decode cX11_table 0 = .ok (.aload_n 0, 1) := by decide +kernel
theorem dX11_table_1 : decode cX11_table 1 = .ok (.getfield 69, 3) := by decide +kernel
theorem dX11_table_4 : decode cX11_table 4 = .ok (.iload_n 1, 1) := by decide +kernel
theorem dX11_table_5 : decode cX11_table 5 = .ok (.invokevirtual 169, 3) := by decide +kernel
theorem dX11_table_8 : decode cX11_table 8 = .ok (.ifCond .eq 14, 3) := by decide +kernel
theorem dX11_table_22 : decode cX11_table 22 = .ok (.ldc 175, 2) := by decide +kernel
theorem dX11_table_24 : decode cX11_table 24 = .ok (.ireturn, 1) := by decide +kernel
theorem dX11_table_11 : decode cX11_table 11 = .ok (.aload_n 0, 1) := by decide +kernel
theorem dX11_table_12 : decode cX11_table 12 = .ok (.getfield 69, 3) := by decide +kernel
theorem dX11_table_15 : decode cX11_table 15 = .ok (.iload_n 2, 1) := by decide +kernel
theorem dX11_table_16 : decode cX11_table 16 = .ok (.invokevirtual 172, 3) := by decide +kernel
theorem dX11_table_19 : decode cX11_table 19 = .ok (.ifCond .ne 6, 3) := by decide +kernel
theorem dX11_table_25 : decode cX11_table 25 = .ok (.aload_n 0, 1) := by decide +kernel
theorem dX11_table_26 : decode cX11_table 26 = .ok (.iload_n 3, 1) := by decide +kernel
theorem dX11_table_27 : decode cX11_table 27 = .ok (.invokevirtual 176, 3) := by decide +kernel
theorem dX11_tableBy_0 : decode cX11_tableBy 0 = .ok (.iload_n 1, 1) := by decide +kernel
theorem dX11_tableBy_1 : decode cX11_tableBy 1 = .ok (.ifCond .eq 13, 3) := by decide +kernel
theorem dX11_tableBy_14 : decode cX11_tableBy 14 = .ok (.aload_n 0, 1) := by decide +kernel
theorem dX11_tableBy_15 : decode cX11_tableBy 15 = .ok (.getfield 69, 3) := by decide +kernel
theorem dX11_tableBy_18 : decode cX11_tableBy 18 = .ok (.getfield 193, 3) := by decide +kernel
theorem dX11_tableBy_21 : decode cX11_tableBy 21 = .ok (.areturn, 1) := by decide +kernel
theorem dX11_table_30 : decode cX11_table 30 = .ok (.iload_n 1, 1) := by decide +kernel
theorem dX11_table_31 : decode cX11_table 31 = .ok (.iload_n 2, 1) := by decide +kernel
theorem dX11_table_32 : decode cX11_table 32 = .ok (.invokevirtual 180, 3) := by decide +kernel
theorem dX11_table_35 : decode cX11_table 35 = .ok (.ireturn, 1) := by decide +kernel
theorem dX11_tableBy_4 : decode cX11_tableBy 4 = .ok (.aload_n 0, 1) := by decide +kernel
theorem dX11_tableBy_5 : decode cX11_tableBy 5 = .ok (.getfield 76, 3) := by decide +kernel
theorem dX11_tableBy_8 : decode cX11_tableBy 8 = .ok (.getfield 189, 3) := by decide +kernel
theorem dX11_tableBy_11 : decode cX11_tableBy 11 = .ok (.goto 10, 3) := by decide +kernel
theorem dX11_product_0 : decode cX11_product 0 = .ok (.aload_n 0, 1) := by decide +kernel
theorem dX11_product_1 : decode cX11_product 1 = .ok (.getfield 69, 3) := by decide +kernel
theorem dX11_product_4 : decode cX11_product 4 = .ok (.iload_n 1, 1) := by decide +kernel
theorem dX11_product_5 : decode cX11_product 5 = .ok (.invokevirtual 172, 3) := by decide +kernel
theorem dX11_product_8 : decode cX11_product 8 = .ok (.ifCond .eq 14, 3) := by decide +kernel
theorem dX11_product_22 : decode cX11_product 22 = .ok (.ldc 175, 2) := by decide +kernel
theorem dX11_product_24 : decode cX11_product 24 = .ok (.ireturn, 1) := by decide +kernel
theorem dX11_product_11 : decode cX11_product 11 = .ok (.aload_n 0, 1) := by decide +kernel
theorem dX11_product_12 : decode cX11_product 12 = .ok (.getfield 69, 3) := by decide +kernel
theorem dX11_product_15 : decode cX11_product 15 = .ok (.iload_n 2, 1) := by decide +kernel
theorem dX11_product_16 : decode cX11_product 16 = .ok (.invokevirtual 172, 3) := by decide +kernel
theorem dX11_product_19 : decode cX11_product 19 = .ok (.ifCond .ne 6, 3) := by decide +kernel
theorem dX11_product_25 : decode cX11_product 25 = .ok (.aload_n 0, 1) := by decide +kernel
theorem dX11_product_26 : decode cX11_product 26 = .ok (.iload_n 3, 1) := by decide +kernel
theorem dX11_product_27 : decode cX11_product 27 = .ok (.invokevirtual 176, 3) := by decide +kernel
theorem dX11_product_30 : decode cX11_product 30 = .ok (.iload_n 1, 1) := by decide +kernel
theorem dX11_product_31 : decode cX11_product 31 = .ok (.iload_n 2, 1) := by decide +kernel
theorem dX11_product_32 : decode cX11_product 32 = .ok (.invokevirtual 186, 3) := by decide +kernel
theorem dX11_product_35 : decode cX11_product 35 = .ok (.ireturn, 1) := by decide +kernel
theorem dX11_hear_0 : decode cX11_hear 0 = .ok (.aload_n 0, 1) := by decide +kernel
theorem dX11_hear_1 : decode cX11_hear 1 = .ok (.getfield 20, 3) := by decide +kernel
theorem dX11_hear_4 : decode cX11_hear 4 = .ok (.invokevirtual 93, 3) := by decide +kernel
theorem dX11_hear_7 : decode cX11_hear 7 = .ok (.iconst 2, 1) := by decide +kernel
theorem dX11_hear_8 : decode cX11_hear 8 = .ok (.aload_n 0, 1) := by decide +kernel
theorem dX11_hear_9 : decode cX11_hear 9 = .ok (.getfield 69, 3) := by decide +kernel
theorem dX11_hear_12 : decode cX11_hear 12 = .ok (.getfield 139, 3) := by decide +kernel
theorem dX11_hear_15 : decode cX11_hear 15 = .ok (.imul, 1) := by decide +kernel
theorem dX11_hear_16 : decode cX11_hear 16 = .ok (.if_icmp .ne 7, 3) := by decide +kernel
theorem dX11_hear_23 : decode cX11_hear 23 = .ok (.iconst 0, 1) := by decide +kernel
theorem dX11_hear_24 : decode cX11_hear 24 = .ok (.istore_n 1, 1) := by decide +kernel
theorem dX11_hear_25 : decode cX11_hear 25 = .ok (.iload_n 1, 1) := by decide +kernel
theorem dX11_hear_26 : decode cX11_hear 26 = .ok (.ifCond .eq 7, 3) := by decide +kernel
theorem dX11_hear_33 : decode cX11_hear 33 = .ok (.aload_n 0, 1) := by decide +kernel
theorem dX11_hear_34 : decode cX11_hear 34 = .ok (.getfield 20, 3) := by decide +kernel
theorem dX11_hear_37 : decode cX11_hear 37 = .ok (.iconst 0, 1) := by decide +kernel
theorem dX11_hear_38 : decode cX11_hear 38 = .ok (.invokevirtual 97, 3) := by decide +kernel
theorem dX11_hear_41 : decode cX11_hear 41 = .ok (.iload_n 1, 1) := by decide +kernel
theorem dX11_hear_42 : decode cX11_hear 42 = .ok (.ireturn, 1) := by decide +kernel
theorem dX11_hear_19 : decode cX11_hear 19 = .ok (.iconst 1, 1) := by decide +kernel
theorem dX11_hear_20 : decode cX11_hear 20 = .ok (.goto 4, 3) := by decide +kernel
theorem dX11_hear_29 : decode cX11_hear 29 = .ok (.aload_n 0, 1) := by decide +kernel
theorem dX11_hear_30 : decode cX11_hear 30 = .ok (.invokevirtual 194, 3) := by decide +kernel
theorem dX11_takeHeard_0 : decode cX11_takeHeard 0 = .ok (.iconst 0, 1) := by decide +kernel
theorem dX11_takeHeard_1 : decode cX11_takeHeard 1 = .ok (.istore_n 1, 1) := by decide +kernel
theorem dX11_takeHeard_2 : decode cX11_takeHeard 2 = .ok (.iload_n 1, 1) := by decide +kernel
theorem dX11_takeHeard_3 : decode cX11_takeHeard 3 = .ok (.aload_n 0, 1) := by decide +kernel
theorem dX11_takeHeard_4 : decode cX11_takeHeard 4 = .ok (.getfield 69, 3) := by decide +kernel
theorem dX11_takeHeard_7 : decode cX11_takeHeard 7 = .ok (.getfield 139, 3) := by decide +kernel
theorem dX11_takeHeard_10 : decode cX11_takeHeard 10 = .ok (.if_icmp .ge 25, 3) := by decide +kernel
theorem dX11_takeHeard_35 : decode cX11_takeHeard 35 = .ok (.aload_n 0, 1) := by decide +kernel
theorem dX11_takeHeard_36 : decode cX11_takeHeard 36 = .ok (.getfield 24, 3) := by decide +kernel
theorem dX11_takeHeard_39 : decode cX11_takeHeard 39 = .ok (.invokevirtual 118, 3) := by decide +kernel
theorem dX11_takeHeard_42 : decode cX11_takeHeard 42 = .ok (.return_, 1) := by decide +kernel
theorem dX11_takeHeard_13 : decode cX11_takeHeard 13 = .ok (.aload_n 0, 1) := by decide +kernel
theorem dX11_takeHeard_14 : decode cX11_takeHeard 14 = .ok (.getfield 49, 3) := by decide +kernel
theorem dX11_takeHeard_17 : decode cX11_takeHeard 17 = .ok (.iload_n 1, 1) := by decide +kernel
theorem dX11_takeHeard_18 : decode cX11_takeHeard 18 = .ok (.aload_n 0, 1) := by decide +kernel
theorem dX11_takeHeard_19 : decode cX11_takeHeard 19 = .ok (.getfield 20, 3) := by decide +kernel
theorem dX11_takeHeard_22 : decode cX11_takeHeard 22 = .ok (.iconst 2, 1) := by decide +kernel
theorem dX11_takeHeard_23 : decode cX11_takeHeard 23 = .ok (.iload_n 1, 1) := by decide +kernel
theorem dX11_takeHeard_24 : decode cX11_takeHeard 24 = .ok (.imul, 1) := by decide +kernel
theorem dX11_takeHeard_25 : decode cX11_takeHeard 25 = .ok (.invokevirtual 197, 3) := by decide +kernel
theorem dX11_takeHeard_28 : decode cX11_takeHeard 28 = .ok (.iastore, 1) := by decide +kernel
theorem dX11_takeHeard_29 : decode cX11_takeHeard 29 = .ok (.iinc 1 1, 3) := by decide +kernel
theorem dX11_takeHeard_32 : decode cX11_takeHeard 32 = .ok (.goto (-30), 3) := by decide +kernel
theorem dX11_heard_0 : decode cX11_heard 0 = .ok (.aload_n 0, 1) := by decide +kernel
theorem dX11_heard_1 : decode cX11_heard 1 = .ok (.getfield 69, 3) := by decide +kernel
theorem dX11_heard_4 : decode cX11_heard 4 = .ok (.iload_n 1, 1) := by decide +kernel
theorem dX11_heard_5 : decode cX11_heard 5 = .ok (.invokevirtual 169, 3) := by decide +kernel
theorem dX11_heard_8 : decode cX11_heard 8 = .ok (.ifCond .eq 12, 3) := by decide +kernel
theorem dX11_heard_20 : decode cX11_heard 20 = .ok (.ldc 175, 2) := by decide +kernel
theorem dX11_heard_22 : decode cX11_heard 22 = .ok (.ireturn, 1) := by decide +kernel
theorem dX11_heard_11 : decode cX11_heard 11 = .ok (.aload_n 0, 1) := by decide +kernel
theorem dX11_heard_12 : decode cX11_heard 12 = .ok (.getfield 49, 3) := by decide +kernel
theorem dX11_heard_15 : decode cX11_heard 15 = .ok (.iload_n 1, 1) := by decide +kernel
theorem dX11_heard_16 : decode cX11_heard 16 = .ok (.iaload, 1) := by decide +kernel
theorem dX11_heard_17 : decode cX11_heard 17 = .ok (.goto 5, 3) := by decide +kernel
theorem dX11_send_0 : decode cX11_send 0 = .ok (.aload_n 0, 1) := by decide +kernel
theorem dX11_send_1 : decode cX11_send 1 = .ok (.invokevirtual 201, 3) := by decide +kernel
theorem dX11_takeRow_0 : decode cX11_takeRow 0 = .ok (.aload_n 0, 1) := by decide +kernel
theorem dX11_takeRow_1 : decode cX11_takeRow 1 = .ok (.getfield 69, 3) := by decide +kernel
theorem dX11_takeRow_4 : decode cX11_takeRow 4 = .ok (.getfield 136, 3) := by decide +kernel
theorem dX11_takeRow_7 : decode cX11_takeRow 7 = .ok (.ifCond .le 24, 3) := by decide +kernel
theorem dX11_takeRow_31 : decode cX11_takeRow 31 = .ok (.iconst 0, 1) := by decide +kernel
theorem dX11_takeRow_32 : decode cX11_takeRow 32 = .ok (.istore_n 1, 1) := by decide +kernel
theorem dX11_takeRow_33 : decode cX11_takeRow 33 = .ok (.iconst 0, 1) := by decide +kernel
theorem dX11_takeRow_34 : decode cX11_takeRow 34 = .ok (.istore_n 2, 1) := by decide +kernel
theorem dX11_takeRow_35 : decode cX11_takeRow 35 = .ok (.iload_n 1, 1) := by decide +kernel
theorem dX11_takeRow_36 : decode cX11_takeRow 36 = .ok (.ifCond .eq 48, 3) := by decide +kernel
theorem dX11_takeRow_84 : decode cX11_takeRow 84 = .ok (.aload_n 0, 1) := by decide +kernel
theorem dX11_takeRow_85 : decode cX11_takeRow 85 = .ok (.getfield 20, 3) := by decide +kernel
theorem dX11_takeRow_88 : decode cX11_takeRow 88 = .ok (.iconst 0, 1) := by decide +kernel
theorem dX11_takeRow_89 : decode cX11_takeRow 89 = .ok (.invokevirtual 97, 3) := by decide +kernel
theorem dX11_takeRow_92 : decode cX11_takeRow 92 = .ok (.iload_n 1, 1) := by decide +kernel
theorem dX11_takeRow_93 : decode cX11_takeRow 93 = .ok (.ireturn, 1) := by decide +kernel
theorem dX11_takeRow_10 : decode cX11_takeRow 10 = .ok (.aload_n 0, 1) := by decide +kernel
theorem dX11_takeRow_11 : decode cX11_takeRow 11 = .ok (.getfield 20, 3) := by decide +kernel
theorem dX11_takeRow_14 : decode cX11_takeRow 14 = .ok (.invokevirtual 93, 3) := by decide +kernel
theorem dX11_takeRow_17 : decode cX11_takeRow 17 = .ok (.aload_n 0, 1) := by decide +kernel
theorem dX11_takeRow_18 : decode cX11_takeRow 18 = .ok (.getfield 69, 3) := by decide +kernel
theorem dX11_takeRow_21 : decode cX11_takeRow 21 = .ok (.getfield 136, 3) := by decide +kernel
theorem dX11_takeRow_24 : decode cX11_takeRow 24 = .ok (.if_icmp .ne 7, 3) := by decide +kernel
theorem dX11_takeRow_27 : decode cX11_takeRow 27 = .ok (.iconst 1, 1) := by decide +kernel
theorem dX11_takeRow_28 : decode cX11_takeRow 28 = .ok (.goto 4, 3) := by decide +kernel
theorem dX11_takeRow_39 : decode cX11_takeRow 39 = .ok (.iload_n 2, 1) := by decide +kernel
theorem dX11_takeRow_40 : decode cX11_takeRow 40 = .ok (.aload_n 0, 1) := by decide +kernel
theorem dX11_takeRow_41 : decode cX11_takeRow 41 = .ok (.getfield 69, 3) := by decide +kernel
theorem dX11_takeRow_44 : decode cX11_takeRow 44 = .ok (.getfield 136, 3) := by decide +kernel
theorem dX11_takeRow_47 : decode cX11_takeRow 47 = .ok (.if_icmp .ge 37, 3) := by decide +kernel
theorem dX11_takeRow_50 : decode cX11_takeRow 50 = .ok (.aload_n 0, 1) := by decide +kernel
theorem dX11_takeRow_51 : decode cX11_takeRow 51 = .ok (.getfield 53, 3) := by decide +kernel
theorem dX11_takeRow_54 : decode cX11_takeRow 54 = .ok (.iload_n 2, 1) := by decide +kernel
theorem dX11_takeRow_55 : decode cX11_takeRow 55 = .ok (.aload_n 0, 1) := by decide +kernel
theorem dX11_takeRow_56 : decode cX11_takeRow 56 = .ok (.getfield 20, 3) := by decide +kernel
theorem dX11_takeRow_59 : decode cX11_takeRow 59 = .ok (.iload_n 2, 1) := by decide +kernel
theorem dX11_takeRow_60 : decode cX11_takeRow 60 = .ok (.invokevirtual 214, 3) := by decide +kernel
theorem dX11_takeRow_63 : decode cX11_takeRow 63 = .ok (.iastore, 1) := by decide +kernel
theorem dX11_takeRow_64 : decode cX11_takeRow 64 = .ok (.aload_n 0, 1) := by decide +kernel
theorem dX11_takeRow_65 : decode cX11_takeRow 65 = .ok (.getfield 69, 3) := by decide +kernel
theorem dX11_takeRow_68 : decode cX11_takeRow 68 = .ok (.aload_n 0, 1) := by decide +kernel
theorem dX11_takeRow_69 : decode cX11_takeRow 69 = .ok (.getfield 53, 3) := by decide +kernel
theorem dX11_takeRow_72 : decode cX11_takeRow 72 = .ok (.iload_n 2, 1) := by decide +kernel
theorem dX11_takeRow_73 : decode cX11_takeRow 73 = .ok (.iaload, 1) := by decide +kernel
theorem dX11_takeRow_74 : decode cX11_takeRow 74 = .ok (.invokevirtual 217, 3) := by decide +kernel
