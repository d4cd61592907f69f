theorem dX11_house_0 : decode cX11_house 0 = .ok (.aload_n 0, 1) := by decide +kernel
theorem dX11_house_1 : decode cX11_house 1 = .ok (.getfield 10, 3) := by decide +kernel
theorem dX11_house_4 : decode cX11_house 4 = .ok (.invokevirtual 100, 3) := by decide +kernel
theorem dX4_readHouse_0 : decode cX4_readHouse 0 = .ok (.aload_n 0, 1) := by decide +kernel
theorem dX4_readHouse_1 : decode cX4_readHouse 1 = .ok (.getfield 21, 3) := by decide +kernel
theorem dX4_readHouse_4 : decode cX4_readHouse 4 = .ok (.invokevirtual 44, 3) := by decide +kernel
theorem dX4_readHouse_7 : decode cX4_readHouse 7 = .ok (.aload_n 0, 1) := by decide +kernel
theorem dX4_readHouse_8 : decode cX4_readHouse 8 = .ok (.iconst 0, 1) := by decide +kernel
theorem dX4_readHouse_9 : decode cX4_readHouse 9 = .ok (.putfield 35, 3) := by decide +kernel
theorem dX4_readHouse_12 : decode cX4_readHouse 12 = .ok (.aload_n 0, 1) := by decide +kernel
theorem dX4_readHouse_13 : decode cX4_readHouse 13 = .ok (.iconst 0, 1) := by decide +kernel
theorem dX4_readHouse_14 : decode cX4_readHouse 14 = .ok (.putfield 38, 3) := by decide +kernel
theorem dX4_readHouse_17 : decode cX4_readHouse 17 = .ok (.aload_n 0, 1) := by decide +kernel
theorem dX4_readHouse_18 : decode cX4_readHouse 18 = .ok (.iconst (-1), 1) := by decide +kernel
theorem dX4_readHouse_19 : decode cX4_readHouse 19 = .ok (.putfield 41, 3) := by decide +kernel
theorem dX4_readHouse_22 : decode cX4_readHouse 22 = .ok (.aload_n 0, 1) := by decide +kernel
theorem dX4_readHouse_23 : decode cX4_readHouse 23 = .ok (.iconst 0, 1) := by decide +kernel
theorem dX4_readHouse_24 : decode cX4_readHouse 24 = .ok (.iconst 0, 1) := by decide +kernel
theorem dX4_readHouse_25 : decode cX4_readHouse 25 = .ok (.invokevirtual 47, 3) := by decide +kernel
theorem dX4_goOn_0 : decode cX4_goOn 0 = .ok (.aload_n 0, 1) := by decide +kernel
theorem dX4_goOn_1 : decode cX4_goOn 1 = .ok (.iload_n 1, 1) := by decide +kernel
theorem dX4_goOn_2 : decode cX4_goOn 2 = .ok (.putfield 25, 3) := by decide +kernel
theorem dX4_goOn_5 : decode cX4_goOn 5 = .ok (.aload_n 0, 1) := by decide +kernel
theorem dX4_goOn_6 : decode cX4_goOn 6 = .ok (.getfield 25, 3) := by decide +kernel
theorem dX4_goOn_9 : decode cX4_goOn 9 = .ok (.aload_n 0, 1) := by decide +kernel
theorem dX4_goOn_10 : decode cX4_goOn 10 = .ok (.getfield 12, 3) := by decide +kernel
theorem dX4_goOn_13 : decode cX4_goOn 13 = .ok (.invokevirtual 70, 3) := by decide +kernel
theorem dX4_goOn_16 : decode cX4_goOn 16 = .ok (.if_icmp .ge 33, 3) := by decide +kernel
theorem dX4_goOn_49 : decode cX4_goOn 49 = .ok (.aload_n 0, 1) := by decide +kernel
theorem dX4_goOn_50 : decode cX4_goOn 50 = .ok (.aload_n 0, 1) := by decide +kernel
theorem dX4_goOn_51 : decode cX4_goOn 51 = .ok (.getfield 12, 3) := by decide +kernel
theorem dX4_goOn_54 : decode cX4_goOn 54 = .ok (.aload_n 0, 1) := by decide +kernel
theorem dX4_goOn_55 : decode cX4_goOn 55 = .ok (.getfield 25, 3) := by decide +kernel
theorem dX4_goOn_58 : decode cX4_goOn 58 = .ok (.invokevirtual 74, 3) := by decide +kernel
theorem dX4_goOn_61 : decode cX4_goOn 61 = .ok (.putfield 29, 3) := by decide +kernel
theorem dX4_goOn_64 : decode cX4_goOn 64 = .ok (.iload_n 2, 1) := by decide +kernel
theorem dX4_goOn_65 : decode cX4_goOn 65 = .ok (.ifCond .eq 36, 3) := by decide +kernel
theorem dX4_goOn_101 : decode cX4_goOn 101 = .ok (.return_, 1) := by decide +kernel
theorem dX4_goOn_68 : decode cX4_goOn 68 = .ok (.aload_n 0, 1) := by decide +kernel
theorem dX4_goOn_69 : decode cX4_goOn 69 = .ok (.getfield 25, 3) := by decide +kernel
theorem dX4_goOn_72 : decode cX4_goOn 72 = .ok (.iload_n 1, 1) := by decide +kernel
theorem dX4_goOn_73 : decode cX4_goOn 73 = .ok (.if_icmp .ne 28, 3) := by decide +kernel
theorem dX4_goOn_76 : decode cX4_goOn 76 = .ok (.aload_n 0, 1) := by decide +kernel
theorem dX4_goOn_77 : decode cX4_goOn 77 = .ok (.getfield 29, 3) := by decide +kernel
theorem dX4_goOn_80 : decode cX4_goOn 80 = .ok (.invokestatic 80, 3) := by decide +kernel
theorem dX4_isSmall_0 : decode cX4_isSmall 0 = .ok (.iload_n 0, 1) := by decide +kernel
theorem dX4_isSmall_1 : decode cX4_isSmall 1 = .ok (.bipush 97, 2) := by decide +kernel
theorem dX4_isSmall_3 : decode cX4_isSmall 3 = .ok (.if_icmp .lt 13, 3) := by decide +kernel
theorem dX4_isSmall_16 : decode cX4_isSmall 16 = .ok (.iconst 0, 1) := by decide +kernel
theorem dX4_isSmall_17 : decode cX4_isSmall 17 = .ok (.ireturn, 1) := by decide +kernel
theorem dX4_isSmall_6 : decode cX4_isSmall 6 = .ok (.iload_n 0, 1) := by decide +kernel
theorem dX4_isSmall_7 : decode cX4_isSmall 7 = .ok (.bipush 122, 2) := by decide +kernel
theorem dX4_isSmall_9 : decode cX4_isSmall 9 = .ok (.if_icmp .gt 7, 3) := by decide +kernel
theorem dX4_isSmall_12 : decode cX4_isSmall 12 = .ok (.iconst 1, 1) := by decide +kernel
theorem dX4_isSmall_13 : decode cX4_isSmall 13 = .ok (.goto 4, 3) := by decide +kernel
theorem dX4_goOn_83 : decode cX4_goOn 83 = .ok (.ifCond .ne 13, 3) := by decide +kernel
theorem dX4_goOn_96 : decode cX4_goOn 96 = .ok (.aload_n 0, 1) := by decide +kernel
theorem dX4_goOn_97 : decode cX4_goOn 97 = .ok (.iconst 0, 1) := by decide +kernel
theorem dX4_goOn_98 : decode cX4_goOn 98 = .ok (.putfield 29, 3) := by decide +kernel
theorem dX4_goOn_86 : decode cX4_goOn 86 = .ok (.aload_n 0, 1) := by decide +kernel
theorem dX4_goOn_87 : decode cX4_goOn 87 = .ok (.getfield 29, 3) := by decide +kernel
theorem dX4_goOn_90 : decode cX4_goOn 90 = .ok (.invokestatic 83, 3) := by decide +kernel
theorem dX4_isDigit_0 : decode cX4_isDigit 0 = .ok (.iload_n 0, 1) := by decide +kernel
theorem dX4_isDigit_1 : decode cX4_isDigit 1 = .ok (.bipush 48, 2) := by decide +kernel
theorem dX4_isDigit_3 : decode cX4_isDigit 3 = .ok (.if_icmp .lt 13, 3) := by decide +kernel
theorem dX4_isDigit_16 : decode cX4_isDigit 16 = .ok (.iconst 0, 1) := by decide +kernel
theorem dX4_isDigit_17 : decode cX4_isDigit 17 = .ok (.ireturn, 1) := by decide +kernel
theorem dX4_isDigit_6 : decode cX4_isDigit 6 = .ok (.iload_n 0, 1) := by decide +kernel
theorem dX4_isDigit_7 : decode cX4_isDigit 7 = .ok (.bipush 57, 2) := by decide +kernel
theorem dX4_isDigit_9 : decode cX4_isDigit 9 = .ok (.if_icmp .gt 7, 3) := by decide +kernel
theorem dX4_isDigit_12 : decode cX4_isDigit 12 = .ok (.iconst 1, 1) := by decide +kernel
theorem dX4_isDigit_13 : decode cX4_isDigit 13 = .ok (.goto 4, 3) := by decide +kernel
theorem dX4_goOn_93 : decode cX4_goOn 93 = .ok (.ifCond .eq 8, 3) := by decide +kernel
theorem dX4_goOn_19 : decode cX4_goOn 19 = .ok (.aload_n 0, 1) := by decide +kernel
theorem dX4_goOn_20 : decode cX4_goOn 20 = .ok (.getfield 12, 3) := by decide +kernel
theorem dX4_goOn_23 : decode cX4_goOn 23 = .ok (.aload_n 0, 1) := by decide +kernel
theorem dX4_goOn_24 : decode cX4_goOn 24 = .ok (.getfield 25, 3) := by decide +kernel
theorem dX4_goOn_27 : decode cX4_goOn 27 = .ok (.invokevirtual 74, 3) := by decide +kernel
theorem dX4_goOn_30 : decode cX4_goOn 30 = .ok (.invokestatic 77, 3) := by decide +kernel
theorem dX4_isBlank_0 : decode cX4_isBlank 0 = .ok (.iload_n 0, 1) := by decide +kernel
theorem dX4_isBlank_1 : decode cX4_isBlank 1 = .ok (.bipush 10, 2) := by decide +kernel
theorem dX4_isBlank_3 : decode cX4_isBlank 3 = .ok (.if_icmp .eq 9, 3) := by decide +kernel
theorem dX4_isBlank_12 : decode cX4_isBlank 12 = .ok (.iconst 1, 1) := by decide +kernel
theorem dX4_isBlank_13 : decode cX4_isBlank 13 = .ok (.goto 4, 3) := by decide +kernel
theorem dX4_isBlank_17 : decode cX4_isBlank 17 = .ok (.ireturn, 1) := by decide +kernel
theorem dX4_isBlank_6 : decode cX4_isBlank 6 = .ok (.iload_n 0, 1) := by decide +kernel
theorem dX4_isBlank_7 : decode cX4_isBlank 7 = .ok (.bipush 32, 2) := by decide +kernel
theorem dX4_isBlank_9 : decode cX4_isBlank 9 = .ok (.if_icmp .ne 7, 3) := by decide +kernel
theorem dX4_isBlank_16 : decode cX4_isBlank 16 = .ok (.iconst 0, 1) := by decide +kernel
theorem dX4_goOn_33 : decode cX4_goOn 33 = .ok (.ifCond .eq 16, 3) := by decide +kernel
theorem dX4_goOn_36 : decode cX4_goOn 36 = .ok (.aload_n 0, 1) := by decide +kernel
theorem dX4_goOn_37 : decode cX4_goOn 37 = .ok (.dup, 1) := by decide +kernel
theorem dX4_goOn_38 : decode cX4_goOn 38 = .ok (.getfield 25, 3) := by decide +kernel
theorem dX4_goOn_41 : decode cX4_goOn 41 = .ok (.iconst 1, 1) := by decide +kernel
theorem dX4_goOn_42 : decode cX4_goOn 42 = .ok (.iadd, 1) := by decide +kernel
theorem dX4_goOn_43 : decode cX4_goOn 43 = .ok (.putfield 25, 3) := by decide +kernel
theorem dX4_goOn_46 : decode cX4_goOn 46 = .ok (.goto (-41), 3) := by decide +kernel
theorem dX4_readHouse_28 : decode cX4_readHouse 28 = .ok (.iconst 0, 1) := by decide +kernel
theorem dX4_readHouse_29 : decode cX4_readHouse 29 = .ok (.istore_n 1, 1) := by decide +kernel
theorem dX4_readHouse_30 : decode cX4_readHouse 30 = .ok (.iload_n 1, 1) := by decide +kernel
theorem dX4_readHouse_31 : decode cX4_readHouse 31 = .ok (.bipush 60, 2) := by decide +kernel
theorem dX4_readHouse_33 : decode cX4_readHouse 33 = .ok (.if_icmp .gt 87, 3) := by decide +kernel
theorem dX4_readHouse_36 : decode cX4_readHouse 36 = .ok (.aload_n 0, 1) := by decide +kernel
theorem dX4_readHouse_37 : decode cX4_readHouse 37 = .ok (.getfield 29, 3) := by decide +kernel
theorem dX4_readHouse_40 : decode cX4_readHouse 40 = .ok (.iconst (-1), 1) := by decide +kernel
theorem dX4_readHouse_41 : decode cX4_readHouse 41 = .ok (.if_icmp .ne 20, 3) := by decide +kernel
theorem dX4_readHouse_61 : decode cX4_readHouse 61 = .ok (.iload_n 1, 1) := by decide +kernel
theorem dX4_readHouse_62 : decode cX4_readHouse 62 = .ok (.bipush 60, 2) := by decide +kernel
theorem dX4_readHouse_64 : decode cX4_readHouse 64 = .ok (.if_icmp .ne 13, 3) := by decide +kernel
theorem dX4_readHouse_77 : decode cX4_readHouse 77 = .ok (.aload_n 0, 1) := by decide +kernel
theorem dX4_readHouse_78 : decode cX4_readHouse 78 = .ok (.iload_n 1, 1) := by decide +kernel
theorem dX4_readHouse_79 : decode cX4_readHouse 79 = .ok (.ifCond .ne 7, 3) := by decide +kernel
theorem dX4_readHouse_82 : decode cX4_readHouse 82 = .ok (.iconst 1, 1) := by decide +kernel
theorem dX4_readHouse_83 : decode cX4_readHouse 83 = .ok (.goto 4, 3) := by decide +kernel
theorem dX4_readHouse_87 : decode cX4_readHouse 87 = .ok (.invokevirtual 59, 3) := by decide +kernel
theorem dX4_readStatement_0 : decode cX4_readStatement 0 = .ok (.iload_n 1, 1) := by decide +kernel
theorem dX4_readStatement_1 : decode cX4_readStatement 1 = .ok (.ifCond .eq 25, 3) := by decide +kernel
theorem dX4_readStatement_4 : decode cX4_readStatement 4 = .ok (.aload_n 0, 1) := by decide +kernel
theorem dX4_readStatement_5 : decode cX4_readStatement 5 = .ok (.ldc 107, 2) := by decide +kernel
theorem dX4_readStatement_7 : decode cX4_readStatement 7 = .ok (.invokevirtual 109, 3) := by decide +kernel
theorem dX4_readWord_0 : decode cX4_readWord 0 = .ok (.aload_n 0, 1) := by decide +kernel
theorem dX4_readWord_1 : decode cX4_readWord 1 = .ok (.aload_n 1, 1) := by decide +kernel
theorem dX4_readWord_2 : decode cX4_readWord 2 = .ok (.invokevirtual 97, 3) := by decide +kernel
theorem dX4_takesWord_0 : decode cX4_takesWord 0 = .ok (.aload_n 0, 1) := by decide +kernel
theorem dX4_takesWord_1 : decode cX4_takesWord 1 = .ok (.aload_n 1, 1) := by decide +kernel
theorem dX4_takesWord_2 : decode cX4_takesWord 2 = .ok (.invokevirtual 93, 3) := by decide +kernel
theorem dX4_isWordAhead_0 : decode cX4_isWordAhead 0 = .ok (.aload_n 1, 1) := by decide +kernel
theorem dX4_isWordAhead_1 : decode cX4_isWordAhead 1 = .ok (.invokevirtual 86, 3) := by decide +kernel
theorem dJ0_length_8abf5_0 : decode cJ0_length_8abf5 0 = .ok (.aload_n 0, 1) := by decide +kernel
theorem dJ0_length_8abf5_1 : decode cJ0_length_8abf5 1 = .ok (.getfield 9, 3) := by decide +kernel
theorem dJ0_length_8abf5_4 : decode cJ0_length_8abf5 4 = .ok (.arraylength, 1) := by decide +kernel
theorem dJ0_length_8abf5_5 : decode cJ0_length_8abf5 5 = .ok (.aload_n 0, 1) := by decide +kernel
theorem dJ0_length_8abf5_6 : decode cJ0_length_8abf5 6 = .ok (.invokevirtual 335, 3) := by decide +kernel
theorem dJ0_coder_7d493_0 : decode cJ0_coder_7d493 0 = .ok (.getstatic 38, 3) := by decide +kernel
theorem dJ0_coder_7d493_3 : decode cJ0_coder_7d493 3 = .ok (.ifCond .eq 10, 3) := by decide +kernel
theorem dJ0_coder_7d493_6 : decode cJ0_coder_7d493 6 = .ok (.aload_n 0, 1) := by decide +kernel
theorem dJ0_coder_7d493_7 : decode cJ0_coder_7d493 7 = .ok (.getfield 15, 3) := by decide +kernel
theorem dJ0_coder_7d493_10 : decode cJ0_coder_7d493 10 = .ok (.goto 4, 3) := by decide +kernel
theorem dJ0_coder_7d493_14 : decode cJ0_coder_7d493 14 = .ok (.ireturn, 1) := by decide +kernel
theorem dJ0_length_8abf5_9 : decode cJ0_length_8abf5 9 = .ok (.ishr, 1) := by decide +kernel
theorem dJ0_length_8abf5_10 : decode cJ0_length_8abf5 10 = .ok (.ireturn, 1) := by decide +kernel
theorem dX4_isWordAhead_4 : decode cX4_isWordAhead 4 = .ok (.istore_n 2, 1) := by decide +kernel
theorem dX4_isWordAhead_5 : decode cX4_isWordAhead 5 = .ok (.iconst 0, 1) := by decide +kernel
theorem dX4_isWordAhead_6 : decode cX4_isWordAhead 6 = .ok (.istore_n 3, 1) := by decide +kernel
theorem dX4_isWordAhead_7 : decode cX4_isWordAhead 7 = .ok (.iload_n 3, 1) := by decide +kernel
theorem dX4_isWordAhead_8 : decode cX4_isWordAhead 8 = .ok (.iload_n 2, 1) := by decide +kernel
theorem dX4_isWordAhead_9 : decode cX4_isWordAhead 9 = .ok (.if_icmp .ge 32, 3) := by decide +kernel
theorem dX4_isWordAhead_41 : decode cX4_isWordAhead 41 = .ok (.aload_n 0, 1) := by decide +kernel
theorem dX4_isWordAhead_42 : decode cX4_isWordAhead 42 = .ok (.getfield 29, 3) := by decide +kernel
theorem dX4_isWordAhead_45 : decode cX4_isWordAhead 45 = .ok (.ifCond .eq 26, 3) := by decide +kernel
theorem dX4_isWordAhead_71 : decode cX4_isWordAhead 71 = .ok (.iconst 0, 1) := by decide +kernel
theorem dX4_isWordAhead_72 : decode cX4_isWordAhead 72 = .ok (.ireturn, 1) := by decide +kernel
theorem dX4_isWordAhead_48 : decode cX4_isWordAhead 48 = .ok (.aload_n 0, 1) := by decide +kernel
theorem dX4_isWordAhead_49 : decode cX4_isWordAhead 49 = .ok (.getfield 12, 3) := by decide +kernel
theorem dX4_isWordAhead_52 : decode cX4_isWordAhead 52 = .ok (.aload_n 0, 1) := by decide +kernel
theorem dX4_isWordAhead_53 : decode cX4_isWordAhead 53 = .ok (.getfield 25, 3) := by decide +kernel
theorem dX4_isWordAhead_56 : decode cX4_isWordAhead 56 = .ok (.iload_n 2, 1) := by decide +kernel
theorem dX4_isWordAhead_57 : decode cX4_isWordAhead 57 = .ok (.iadd, 1) := by decide +kernel
theorem dX4_isWordAhead_58 : decode cX4_isWordAhead 58 = .ok (.invokevirtual 74, 3) := by decide +kernel
theorem dX4_isWordAhead_61 : decode cX4_isWordAhead 61 = .ok (.invokestatic 80, 3) := by decide +kernel
theorem dX4_isWordAhead_64 : decode cX4_isWordAhead 64 = .ok (.ifCond .ne 7, 3) := by decide +kernel
theorem dX4_isWordAhead_67 : decode cX4_isWordAhead 67 = .ok (.iconst 1, 1) := by decide +kernel
theorem dX4_isWordAhead_68 : decode cX4_isWordAhead 68 = .ok (.goto 4, 3) := by decide +kernel
theorem dX4_isWordAhead_12 : decode cX4_isWordAhead 12 = .ok (.aload_n 0, 1) := by decide +kernel
theorem dX4_isWordAhead_13 : decode cX4_isWordAhead 13 = .ok (.getfield 12, 3) := by decide +kernel
theorem dX4_isWordAhead_16 : decode cX4_isWordAhead 16 = .ok (.aload_n 0, 1) := by decide +kernel
theorem dX4_isWordAhead_17 : decode cX4_isWordAhead 17 = .ok (.getfield 25, 3) := by decide +kernel
theorem dX4_isWordAhead_20 : decode cX4_isWordAhead 20 = .ok (.iload_n 3, 1) := by decide +kernel
theorem dX4_isWordAhead_21 : decode cX4_isWordAhead 21 = .ok (.iadd, 1) := by decide +kernel
theorem dX4_isWordAhead_22 : decode cX4_isWordAhead 22 = .ok (.invokevirtual 74, 3) := by decide +kernel
theorem dX4_isWordAhead_25 : decode cX4_isWordAhead 25 = .ok (.aload_n 1, 1) := by decide +kernel
theorem dX4_isWordAhead_26 : decode cX4_isWordAhead 26 = .ok (.iload_n 3, 1) := by decide +kernel
theorem dX4_isWordAhead_27 : decode cX4_isWordAhead 27 = .ok (.invokevirtual 89, 3) := by decide +kernel
theorem dJ0_charAt_5068e_0 : decode cJ0_charAt_5068e 0 = .ok (.aload_n 0, 1) := by decide +kernel
theorem dJ0_charAt_5068e_1 : decode cJ0_charAt_5068e 1 = .ok (.invokevirtual 492, 3) := by decide +kernel
theorem dJ0_isLatin1_aae02_0 : decode cJ0_isLatin1_aae02 0 = .ok (.getstatic 38, 3) := by decide +kernel
theorem dJ0_isLatin1_aae02_3 : decode cJ0_isLatin1_aae02 3 = .ok (.ifCond .eq 14, 3) := by decide +kernel
theorem dJ0_isLatin1_aae02_6 : decode cJ0_isLatin1_aae02 6 = .ok (.aload_n 0, 1) := by decide +kernel
theorem dJ0_isLatin1_aae02_7 : decode cJ0_isLatin1_aae02 7 = .ok (.getfield 15, 3) := by decide +kernel
theorem dJ0_isLatin1_aae02_10 : decode cJ0_isLatin1_aae02 10 = .ok (.ifCond .ne 7, 3) := by decide +kernel
theorem dJ0_isLatin1_aae02_13 : decode cJ0_isLatin1_aae02 13 = .ok (.iconst 1, 1) := by decide +kernel
theorem dJ0_isLatin1_aae02_14 : decode cJ0_isLatin1_aae02 14 = .ok (.goto 4, 3) := by decide +kernel
theorem dJ0_isLatin1_aae02_18 : decode cJ0_isLatin1_aae02 18 = .ok (.ireturn, 1) := by decide +kernel
theorem dJ0_charAt_5068e_4 : decode cJ0_charAt_5068e 4 = .ok (.ifCond .eq 12, 3) := by decide +kernel
theorem dJ0_charAt_5068e_7 : decode cJ0_charAt_5068e 7 = .ok (.aload_n 0, 1) := by decide +kernel
theorem dJ0_charAt_5068e_8 : decode cJ0_charAt_5068e 8 = .ok (.getfield 9, 3) := by decide +kernel
theorem dJ0_charAt_5068e_11 : decode cJ0_charAt_5068e 11 = .ok (.iload_n 1, 1) := by decide +kernel
theorem dJ0_charAt_5068e_12 : decode cJ0_charAt_5068e 12 = .ok (.invokestatic 495, 3) := by decide +kernel
theorem dJ1_charAt_3b067_0 : decode cJ1_charAt_3b067 0 = .ok (.iload_n 1, 1) := by decide +kernel
theorem dJ1_charAt_3b067_1 : decode cJ1_charAt_3b067 1 = .ok (.aload_n 0, 1) := by decide +kernel
theorem dJ1_charAt_3b067_2 : decode cJ1_charAt_3b067 2 = .ok (.arraylength, 1) := by decide +kernel
theorem dJ1_charAt_3b067_3 : decode cJ1_charAt_3b067 3 = .ok (.invokestatic 9, 3) := by decide +kernel
theorem dJ0_checkIndex_df160_0 : decode cJ0_checkIndex_df160 0 = .ok (.iload_n 0, 1) := by decide +kernel
theorem dJ0_checkIndex_df160_1 : decode cJ0_checkIndex_df160 1 = .ok (.iload_n 1, 1) := by decide +kernel
theorem dJ0_checkIndex_df160_2 : decode cJ0_checkIndex_df160 2 = .ok (.getstatic 1053, 3) := by decide +kernel
theorem dJ0_checkIndex_df160_5 : decode cJ0_checkIndex_df160 5 = .ok (.invokestatic 1059, 3) := by decide +kernel
theorem dJ3_checkIndex_8e157_0 : decode cJ3_checkIndex_8e157 0 = .ok (.iload_n 0, 1) := by decide +kernel
theorem dJ3_checkIndex_8e157_1 : decode cJ3_checkIndex_8e157 1 = .ok (.ifCond .lt 8, 3) := by decide +kernel
theorem dJ3_checkIndex_8e157_4 : decode cJ3_checkIndex_8e157 4 = .ok (.iload_n 0, 1) := by decide +kernel
theorem dJ3_checkIndex_8e157_5 : decode cJ3_checkIndex_8e157 5 = .ok (.iload_n 1, 1) := by decide +kernel
theorem dJ3_checkIndex_8e157_6 : decode cJ3_checkIndex_8e157 6 = .ok (.if_icmp .lt 10, 3) := by decide +kernel
theorem dJ3_checkIndex_8e157_16 : decode cJ3_checkIndex_8e157 16 = .ok (.iload_n 0, 1) := by decide +kernel
theorem dJ3_checkIndex_8e157_17 : decode cJ3_checkIndex_8e157 17 = .ok (.ireturn, 1) := by decide +kernel
theorem dJ0_checkIndex_df160_8 : decode cJ0_checkIndex_df160 8 = .ok (.pop, 1) := by decide +kernel
theorem dJ0_checkIndex_df160_9 : decode cJ0_checkIndex_df160 9 = .ok (.return_, 1) := by decide +kernel
theorem dJ1_charAt_3b067_6 : decode cJ1_charAt_3b067 6 = .ok (.aload_n 0, 1) := by decide +kernel
theorem dJ1_charAt_3b067_7 : decode cJ1_charAt_3b067 7 = .ok (.iload_n 1, 1) := by decide +kernel
theorem dJ1_charAt_3b067_8 : decode cJ1_charAt_3b067 8 = .ok (.baload, 1) := by decide +kernel
theorem dJ1_charAt_3b067_9 : decode cJ1_charAt_3b067 9 = .ok (.sipush 255, 3) := by decide +kernel
theorem dJ1_charAt_3b067_12 : decode cJ1_charAt_3b067 12 = .ok (.iand, 1) := by decide +kernel
theorem dJ1_charAt_3b067_13 : decode cJ1_charAt_3b067 13 = .ok (.i2c, 1) := by decide +kernel
theorem dJ1_charAt_3b067_14 : decode cJ1_charAt_3b067 14 = .ok (.ireturn, 1) := by decide +kernel
theorem dJ0_charAt_5068e_15 : decode cJ0_charAt_5068e 15 = .ok (.ireturn, 1) := by decide +kernel
theorem dX4_isWordAhead_30 : decode cX4_isWordAhead 30 = .ok (.if_icmp .eq 5, 3) := by decide +kernel
theorem dX4_isWordAhead_35 : decode cX4_isWordAhead 35 = .ok (.iinc 3 1, 3) := by decide +kernel
theorem dX4_isWordAhead_38 : decode cX4_isWordAhead 38 = .ok (.goto (-31), 3) := by decide +kernel
theorem dX4_isWordAhead_33 : decode cX4_isWordAhead 33 = .ok (.iconst 0, 1) := by decide +kernel
theorem dX4_isWordAhead_34 : decode cX4_isWordAhead 34 = .ok (.ireturn, 1) := by decide +kernel
theorem dX4_takesWord_5 : decode cX4_takesWord 5 = .ok (.istore_n 2, 1) := by decide +kernel
theorem dX4_takesWord_6 : decode cX4_takesWord 6 = .ok (.iload_n 2, 1) := by decide +kernel
theorem dX4_takesWord_7 : decode cX4_takesWord 7 = .ok (.ifCond .eq 17, 3) := by decide +kernel
theorem dX4_takesWord_24 : decode cX4_takesWord 24 = .ok (.iload_n 2, 1) := by decide +kernel
theorem dX4_takesWord_25 : decode cX4_takesWord 25 = .ok (.ireturn, 1) := by decide +kernel
theorem dX4_takesWord_10 : decode cX4_takesWord 10 = .ok (.aload_n 0, 1) := by decide +kernel
theorem dX4_takesWord_11 : decode cX4_takesWord 11 = .ok (.aload_n 0, 1) := by decide +kernel
theorem dX4_takesWord_12 : decode cX4_takesWord 12 = .ok (.getfield 25, 3) := by decide +kernel
theorem dX4_takesWord_15 : decode cX4_takesWord 15 = .ok (.aload_n 1, 1) := by decide +kernel
theorem dX4_takesWord_16 : decode cX4_takesWord 16 = .ok (.invokevirtual 86, 3) := by decide +kernel
theorem dX4_takesWord_19 : decode cX4_takesWord 19 = .ok (.iadd, 1) := by decide +kernel
theorem dX4_takesWord_20 : decode cX4_takesWord 20 = .ok (.iconst 1, 1) := by decide +kernel
theorem dX4_takesWord_21 : decode cX4_takesWord 21 = .ok (.invokevirtual 47, 3) := by decide +kernel
theorem dX4_readWord_5 : decode cX4_readWord 5 = .ok (.ifCond .ne 10, 3) := by decide +kernel
theorem dX4_readWord_15 : decode cX4_readWord 15 = .ok (.iconst 1, 1) := by decide +kernel
theorem dX4_readWord_16 : decode cX4_readWord 16 = .ok (.goto 4, 3) := by decide +kernel
theorem dX4_readWord_20 : decode cX4_readWord 20 = .ok (.ireturn, 1) := by decide +kernel
theorem dX4_readWord_8 : decode cX4_readWord 8 = .ok (.aload_n 0, 1) := by decide +kernel
theorem dX4_readWord_9 : decode cX4_readWord 9 = .ok (.invokevirtual 51, 3) := by decide +kernel
theorem dX4_failHere_0 : decode cX4_failHere 0 = .ok (.aload_n 0, 1) := by decide +kernel
theorem dX4_failHere_1 : decode cX4_failHere 1 = .ok (.iconst 1, 1) := by decide +kernel
theorem dX4_failHere_2 : decode cX4_failHere 2 = .ok (.aload_n 0, 1) := by decide +kernel
theorem dX4_failHere_3 : decode cX4_failHere 3 = .ok (.getfield 25, 3) := by decide +kernel
theorem dX4_failHere_6 : decode cX4_failHere 6 = .ok (.invokevirtual 55, 3) := by decide +kernel
theorem dX4_fail_0 : decode cX4_fail 0 = .ok (.aload_n 0, 1) := by decide +kernel
theorem dX4_fail_1 : decode cX4_fail 1 = .ok (.iload_n 1, 1) := by decide +kernel
theorem dX4_fail_2 : decode cX4_fail 2 = .ok (.putfield 38, 3) := by decide +kernel
theorem dX4_fail_5 : decode cX4_fail 5 = .ok (.aload_n 0, 1) := by decide +kernel
theorem dX4_fail_6 : decode cX4_fail 6 = .ok (.iload_n 2, 1) := by decide +kernel
theorem dX4_fail_7 : decode cX4_fail 7 = .ok (.putfield 41, 3) := by decide +kernel
theorem dX4_fail_10 : decode cX4_fail 10 = .ok (.iconst 0, 1) := by decide +kernel
theorem dX4_fail_11 : decode cX4_fail 11 = .ok (.ireturn, 1) := by decide +kernel
theorem dX4_failHere_9 : decode cX4_failHere 9 = .ok (.ireturn, 1) := by decide +kernel
theorem dX4_readWord_12 : decode cX4_readWord 12 = .ok (.ifCond .eq 7, 3) := by decide +kernel
theorem dX4_readWord_19 : decode cX4_readWord 19 = .ok (.iconst 0, 1) := by decide +kernel
theorem dX4_readStatement_10 : decode cX4_readStatement 10 = .ok (.ifCond .eq 14, 3) := by decide +kernel
theorem dX4_readStatement_24 : decode cX4_readStatement 24 = .ok (.iconst 0, 1) := by decide +kernel
theorem dX4_readStatement_25 : decode cX4_readStatement 25 = .ok (.ireturn, 1) := by decide +kernel
theorem dX4_readStatement_13 : decode cX4_readStatement 13 = .ok (.aload_n 0, 1) := by decide +kernel
theorem dX4_readStatement_14 : decode cX4_readStatement 14 = .ok (.invokevirtual 112, 3) := by decide +kernel
theorem dX4_readSizes_0 : decode cX4_readSizes 0 = .ok (.aload_n 0, 1) := by decide +kernel
theorem dX4_readSizes_1 : decode cX4_readSizes 1 = .ok (.getfield 21, 3) := by decide +kernel
theorem dX4_readSizes_4 : decode cX4_readSizes 4 = .ok (.aload_n 0, 1) := by decide +kernel
theorem dX4_readSizes_5 : decode cX4_readSizes 5 = .ok (.iconst 2, 1) := by decide +kernel
theorem dX4_readSizes_6 : decode cX4_readSizes 6 = .ok (.bipush 8, 2) := by decide +kernel
theorem dX4_readSizes_8 : decode cX4_readSizes 8 = .ok (.invokevirtual 156, 3) := by decide +kernel
theorem dX4_readBetween_0 : decode cX4_readBetween 0 = .ok (.aload_n 0, 1) := by decide +kernel
theorem dX4_readBetween_1 : decode cX4_readBetween 1 = .ok (.invokevirtual 103, 3) := by decide +kernel
theorem dX4_readNumber_0 : decode cX4_readNumber 0 = .ok (.aload_n 0, 1) := by decide +kernel
theorem dX4_readNumber_1 : decode cX4_readNumber 1 = .ok (.getfield 29, 3) := by decide +kernel
theorem dX4_readNumber_4 : decode cX4_readNumber 4 = .ok (.invokestatic 83, 3) := by decide +kernel
theorem dX4_readNumber_7 : decode cX4_readNumber 7 = .ok (.ifCond .ne 10, 3) := by decide +kernel
theorem dX4_readNumber_17 : decode cX4_readNumber 17 = .ok (.aload_n 0, 1) := by decide +kernel
theorem dX4_readNumber_18 : decode cX4_readNumber 18 = .ok (.aload_n 0, 1) := by decide +kernel
theorem dX4_readNumber_19 : decode cX4_readNumber 19 = .ok (.getfield 25, 3) := by decide +kernel
theorem dX4_readNumber_22 : decode cX4_readNumber 22 = .ok (.putfield 32, 3) := by decide +kernel
theorem dX4_readNumber_25 : decode cX4_readNumber 25 = .ok (.iconst 0, 1) := by decide +kernel
theorem dX4_readNumber_26 : decode cX4_readNumber 26 = .ok (.istore_n 1, 1) := by decide +kernel
theorem dX4_readNumber_27 : decode cX4_readNumber 27 = .ok (.iconst 0, 1) := by decide +kernel
theorem dX4_readNumber_28 : decode cX4_readNumber 28 = .ok (.istore_n 2, 1) := by decide +kernel
theorem dX4_readNumber_29 : decode cX4_readNumber 29 = .ok (.iload_n 2, 1) := by decide +kernel
theorem dX4_readNumber_30 : decode cX4_readNumber 30 = .ok (.iconst 4, 1) := by decide +kernel
theorem dX4_readNumber_31 : decode cX4_readNumber 31 = .ok (.if_icmp .ge 56, 3) := by decide +kernel
theorem dX4_readNumber_34 : decode cX4_readNumber 34 = .ok (.aload_n 0, 1) := by decide +kernel
theorem dX4_readNumber_35 : decode cX4_readNumber 35 = .ok (.getfield 12, 3) := by decide +kernel
theorem dX4_readNumber_38 : decode cX4_readNumber 38 = .ok (.aload_n 0, 1) := by decide +kernel
theorem dX4_readNumber_39 : decode cX4_readNumber 39 = .ok (.getfield 25, 3) := by decide +kernel
theorem dX4_readNumber_42 : decode cX4_readNumber 42 = .ok (.invokevirtual 74, 3) := by decide +kernel
theorem dX4_readNumber_45 : decode cX4_readNumber 45 = .ok (.invokestatic 83, 3) := by decide +kernel
theorem dX4_readNumber_48 : decode cX4_readNumber 48 = .ok (.ifCond .eq 39, 3) := by decide +kernel
theorem dX4_readNumber_87 : decode cX4_readNumber 87 = .ok (.aload_n 0, 1) := by decide +kernel
theorem dX4_readNumber_88 : decode cX4_readNumber 88 = .ok (.getfield 12, 3) := by decide +kernel
theorem dX4_readNumber_91 : decode cX4_readNumber 91 = .ok (.aload_n 0, 1) := by decide +kernel
theorem dX4_readNumber_92 : decode cX4_readNumber 92 = .ok (.getfield 25, 3) := by decide +kernel
theorem dX4_readNumber_95 : decode cX4_readNumber 95 = .ok (.invokevirtual 74, 3) := by decide +kernel
theorem dX4_readNumber_98 : decode cX4_readNumber 98 = .ok (.invokestatic 83, 3) := by decide +kernel
theorem dX4_readNumber_101 : decode cX4_readNumber 101 = .ok (.ifCond .eq 10, 3) := by decide +kernel
theorem dX4_readNumber_111 : decode cX4_readNumber 111 = .ok (.aload_n 0, 1) := by decide +kernel
theorem dX4_readNumber_112 : decode cX4_readNumber 112 = .ok (.aload_n 0, 1) := by decide +kernel
theorem dX4_readNumber_113 : decode cX4_readNumber 113 = .ok (.getfield 25, 3) := by decide +kernel
theorem dX4_readNumber_116 : decode cX4_readNumber 116 = .ok (.iconst 1, 1) := by decide +kernel
theorem dX4_readNumber_117 : decode cX4_readNumber 117 = .ok (.invokevirtual 47, 3) := by decide +kernel
theorem dX4_readNumber_120 : decode cX4_readNumber 120 = .ok (.iload_n 1, 1) := by decide +kernel
theorem dX4_readNumber_121 : decode cX4_readNumber 121 = .ok (.ireturn, 1) := by decide +kernel
theorem dX4_readNumber_104 : decode cX4_readNumber 104 = .ok (.aload_n 0, 1) := by decide +kernel
theorem dX4_readNumber_105 : decode cX4_readNumber 105 = .ok (.invokevirtual 51, 3) := by decide +kernel
theorem dX4_readNumber_108 : decode cX4_readNumber 108 = .ok (.pop, 1) := by decide +kernel
theorem dX4_readNumber_109 : decode cX4_readNumber 109 = .ok (.iconst (-1), 1) := by decide +kernel
theorem dX4_readNumber_110 : decode cX4_readNumber 110 = .ok (.ireturn, 1) := by decide +kernel
theorem dX4_readNumber_51 : decode cX4_readNumber 51 = .ok (.bipush 10, 2) := by decide +kernel
theorem dX4_readNumber_53 : decode cX4_readNumber 53 = .ok (.iload_n 1, 1) := by decide +kernel
theorem dX4_readNumber_54 : decode cX4_readNumber 54 = .ok (.imul, 1) := by decide +kernel
theorem dX4_readNumber_55 : decode cX4_readNumber 55 = .ok (.aload_n 0, 1) := by decide +kernel
theorem dX4_readNumber_56 : decode cX4_readNumber 56 = .ok (.getfield 12, 3) := by decide +kernel
theorem dX4_readNumber_59 : decode cX4_readNumber 59 = .ok (.aload_n 0, 1) := by decide +kernel
theorem dX4_readNumber_60 : decode cX4_readNumber 60 = .ok (.getfield 25, 3) := by decide +kernel
theorem dX4_readNumber_63 : decode cX4_readNumber 63 = .ok (.invokevirtual 74, 3) := by decide +kernel
theorem dX4_readNumber_66 : decode cX4_readNumber 66 = .ok (.iadd, 1) := by decide +kernel
theorem dX4_readNumber_67 : decode cX4_readNumber 67 = .ok (.bipush 48, 2) := by decide +kernel
theorem dX4_readNumber_69 : decode cX4_readNumber 69 = .ok (.isub, 1) := by decide +kernel
theorem dX4_readNumber_70 : decode cX4_readNumber 70 = .ok (.istore_n 1, 1) := by decide +kernel
theorem dX4_readNumber_71 : decode cX4_readNumber 71 = .ok (.aload_n 0, 1) := by decide +kernel
theorem dX4_readNumber_72 : decode cX4_readNumber 72 = .ok (.dup, 1) := by decide +kernel
theorem dX4_readNumber_73 : decode cX4_readNumber 73 = .ok (.getfield 25, 3) := by decide +kernel
theorem dX4_readNumber_76 : decode cX4_readNumber 76 = .ok (.iconst 1, 1) := by decide +kernel
theorem dX4_readNumber_77 : decode cX4_readNumber 77 = .ok (.iadd, 1) := by decide +kernel
theorem dX4_readNumber_78 : decode cX4_readNumber 78 = .ok (.putfield 25, 3) := by decide +kernel
theorem dX4_readNumber_81 : decode cX4_readNumber 81 = .ok (.iinc 2 1, 3) := by decide +kernel
theorem dX4_readNumber_84 : decode cX4_readNumber 84 = .ok (.goto (-55), 3) := by decide +kernel
theorem dX4_readNumber_10 : decode cX4_readNumber 10 = .ok (.aload_n 0, 1) := by decide +kernel
theorem dX4_readNumber_11 : decode cX4_readNumber 11 = .ok (.invokevirtual 51, 3) := by decide +kernel
theorem dX4_readNumber_14 : decode cX4_readNumber 14 = .ok (.pop, 1) := by decide +kernel
theorem dX4_readNumber_15 : decode cX4_readNumber 15 = .ok (.iconst (-1), 1) := by decide +kernel
theorem dX4_readNumber_16 : decode cX4_readNumber 16 = .ok (.ireturn, 1) := by decide +kernel
theorem dX4_readBetween_4 : decode cX4_readBetween 4 = .ok (.istore_n 3, 1) := by decide +kernel
theorem dX4_readBetween_5 : decode cX4_readBetween 5 = .ok (.iload_n 3, 1) := by decide +kernel
theorem dX4_readBetween_6 : decode cX4_readBetween 6 = .ok (.iconst (-1), 1) := by decide +kernel
theorem dX4_readBetween_7 : decode cX4_readBetween 7 = .ok (.if_icmp .eq 25, 3) := by decide +kernel
theorem dX4_readBetween_32 : decode cX4_readBetween 32 = .ok (.iload_n 3, 1) := by decide +kernel
theorem dX4_readBetween_33 : decode cX4_readBetween 33 = .ok (.ireturn, 1) := by decide +kernel
theorem dX4_readBetween_10 : decode cX4_readBetween 10 = .ok (.iload_n 3, 1) := by decide +kernel
theorem dX4_readBetween_11 : decode cX4_readBetween 11 = .ok (.iload_n 1, 1) := by decide +kernel
theorem dX4_readBetween_12 : decode cX4_readBetween 12 = .ok (.if_icmp .lt 8, 3) := by decide +kernel
theorem dX4_readBetween_20 : decode cX4_readBetween 20 = .ok (.aload_n 0, 1) := by decide +kernel
theorem dX4_readBetween_21 : decode cX4_readBetween 21 = .ok (.iconst 2, 1) := by decide +kernel
theorem dX4_readBetween_22 : decode cX4_readBetween 22 = .ok (.aload_n 0, 1) := by decide +kernel
theorem dX4_readBetween_23 : decode cX4_readBetween 23 = .ok (.getfield 32, 3) := by decide +kernel
theorem dX4_readBetween_26 : decode cX4_readBetween 26 = .ok (.invokevirtual 55, 3) := by decide +kernel
theorem dX4_readBetween_29 : decode cX4_readBetween 29 = .ok (.pop, 1) := by decide +kernel
theorem dX4_readBetween_30 : decode cX4_readBetween 30 = .ok (.iconst (-1), 1) := by decide +kernel
theorem dX4_readBetween_31 : decode cX4_readBetween 31 = .ok (.ireturn, 1) := by decide +kernel
theorem dX4_readBetween_15 : decode cX4_readBetween 15 = .ok (.iload_n 3, 1) := by decide +kernel
theorem dX4_readBetween_16 : decode cX4_readBetween 16 = .ok (.iload_n 2, 1) := by decide +kernel
theorem dX4_readBetween_17 : decode cX4_readBetween 17 = .ok (.if_icmp .le 15, 3) := by decide +kernel
theorem dX4_readSizes_11 : decode cX4_readSizes 11 = .ok (.putfield 160, 3) := by decide +kernel
theorem dX4_readSizes_14 : decode cX4_readSizes 14 = .ok (.aload_n 0, 1) := by decide +kernel
theorem dX4_readSizes_15 : decode cX4_readSizes 15 = .ok (.getfield 21, 3) := by decide +kernel
theorem dX4_readSizes_18 : decode cX4_readSizes 18 = .ok (.getfield 160, 3) := by decide +kernel
theorem dX4_readSizes_21 : decode cX4_readSizes 21 = .ok (.iconst (-1), 1) := by decide +kernel
theorem dX4_readSizes_22 : decode cX4_readSizes 22 = .ok (.if_icmp .ne 5, 3) := by decide +kernel
theorem dX4_readSizes_27 : decode cX4_readSizes 27 = .ok (.aload_n 0, 1) := by decide +kernel
theorem dX4_readSizes_28 : decode cX4_readSizes 28 = .ok (.getfield 21, 3) := by decide +kernel
theorem dX4_readSizes_31 : decode cX4_readSizes 31 = .ok (.aload_n 0, 1) := by decide +kernel
theorem dX4_readSizes_32 : decode cX4_readSizes 32 = .ok (.iconst 1, 1) := by decide +kernel
theorem dX4_readSizes_33 : decode cX4_readSizes 33 = .ok (.iconst 5, 1) := by decide +kernel
theorem dX4_readSizes_34 : decode cX4_readSizes 34 = .ok (.invokevirtual 156, 3) := by decide +kernel
theorem dX4_readSizes_37 : decode cX4_readSizes 37 = .ok (.putfield 163, 3) := by decide +kernel
theorem dX4_readSizes_40 : decode cX4_readSizes 40 = .ok (.aload_n 0, 1) := by decide +kernel
theorem dX4_readSizes_41 : decode cX4_readSizes 41 = .ok (.getfield 21, 3) := by decide +kernel
theorem dX4_readSizes_44 : decode cX4_readSizes 44 = .ok (.getfield 163, 3) := by decide +kernel
theorem dX4_readSizes_47 : decode cX4_readSizes 47 = .ok (.iconst (-1), 1) := by decide +kernel
theorem dX4_readSizes_48 : decode cX4_readSizes 48 = .ok (.if_icmp .ne 5, 3) := by decide +kernel
theorem dX4_readSizes_53 : decode cX4_readSizes 53 = .ok (.aload_n 0, 1) := by decide +kernel
theorem dX4_readSizes_54 : decode cX4_readSizes 54 = .ok (.getfield 21, 3) := by decide +kernel
theorem dX4_readSizes_57 : decode cX4_readSizes 57 = .ok (.aload_n 0, 1) := by decide +kernel
theorem dX4_readSizes_58 : decode cX4_readSizes 58 = .ok (.iconst 1, 1) := by decide +kernel
theorem dX4_readSizes_59 : decode cX4_readSizes 59 = .ok (.bipush 6, 2) := by decide +kernel
theorem dX4_readSizes_61 : decode cX4_readSizes 61 = .ok (.invokevirtual 156, 3) := by decide +kernel
theorem dX4_readSizes_64 : decode cX4_readSizes 64 = .ok (.putfield 120, 3) := by decide +kernel
theorem dX4_readSizes_67 : decode cX4_readSizes 67 = .ok (.aload_n 0, 1) := by decide +kernel
theorem dX4_readSizes_68 : decode cX4_readSizes 68 = .ok (.getfield 21, 3) := by decide +kernel
theorem dX4_readSizes_71 : decode cX4_readSizes 71 = .ok (.getfield 120, 3) := by decide +kernel
theorem dX4_readSizes_74 : decode cX4_readSizes 74 = .ok (.iconst (-1), 1) := by decide +kernel
theorem dX4_readSizes_75 : decode cX4_readSizes 75 = .ok (.if_icmp .eq 7, 3) := by decide +kernel
theorem dX4_readSizes_82 : decode cX4_readSizes 82 = .ok (.iconst 0, 1) := by decide +kernel
theorem dX4_readSizes_83 : decode cX4_readSizes 83 = .ok (.ireturn, 1) := by decide +kernel
theorem dX4_readSizes_78 : decode cX4_readSizes 78 = .ok (.iconst 1, 1) := by decide +kernel
theorem dX4_readSizes_79 : decode cX4_readSizes 79 = .ok (.goto 4, 3) := by decide +kernel
theorem dX4_readSizes_51 : decode cX4_readSizes 51 = .ok (.iconst 0, 1) := by decide +kernel
theorem dX4_readSizes_52 : decode cX4_readSizes 52 = .ok (.ireturn, 1) := by decide +kernel
theorem dX4_readSizes_25 : decode cX4_readSizes 25 = .ok (.iconst 0, 1) := by decide +kernel
theorem dX4_readSizes_26 : decode cX4_readSizes 26 = .ok (.ireturn, 1) := by decide +kernel
theorem dX4_readStatement_17 : decode cX4_readStatement 17 = .ok (.ifCond .eq 7, 3) := by decide +kernel
theorem dX4_readStatement_20 : decode cX4_readStatement 20 = .ok (.iconst 1, 1) := by decide +kernel
theorem dX4_readStatement_21 : decode cX4_readStatement 21 = .ok (.goto 4, 3) := by decide +kernel
theorem dX4_readHouse_90 : decode cX4_readHouse 90 = .ok (.ifCond .eq 12, 3) := by decide +kernel
theorem dX4_readHouse_102 : decode cX4_readHouse 102 = .ok (.iconst 0, 1) := by decide +kernel
theorem dX4_readHouse_103 : decode cX4_readHouse 103 = .ok (.ireturn, 1) := by decide +kernel
theorem dX4_readHouse_93 : decode cX4_readHouse 93 = .ok (.aload_n 0, 1) := by decide +kernel
theorem dX4_readHouse_94 : decode cX4_readHouse 94 = .ok (.bipush 59, 2) := by decide +kernel
theorem dX4_readHouse_96 : decode cX4_readHouse 96 = .ok (.invokevirtual 63, 3) := by decide +kernel
theorem dX4_readSign_0 : decode cX4_readSign 0 = .ok (.aload_n 0, 1) := by decide +kernel
