theorem dX11_house_0 : decode cX11_house 0 = .ok (.aload_n 0, 1) := dq_42 (by decide +kernel)
theorem dX11_house_1 : decode cX11_house 1 = .ok (.getfield 10, 3) := dq_180 (a := 0) (b := 10) (by decide +kernel) rfl
theorem dX11_house_4 : decode cX11_house 4 = .ok (.invokevirtual 100, 3) := dq_182 (a := 0) (b := 100) (by decide +kernel) rfl
theorem dX4_readHouse_0 : decode cX4_readHouse 0 = .ok (.aload_n 0, 1) := dq_42 (by decide +kernel)
theorem dX4_readHouse_1 : decode cX4_readHouse 1 = .ok (.getfield 21, 3) := dq_180 (a := 0) (b := 21) (by decide +kernel) rfl
theorem dX4_readHouse_4 : decode cX4_readHouse 4 = .ok (.invokevirtual 44, 3) := dq_182 (a := 0) (b := 44) (by decide +kernel) rfl
theorem dX4_readHouse_7 : decode cX4_readHouse 7 = .ok (.aload_n 0, 1) := dq_42 (by decide +kernel)
theorem dX4_readHouse_8 : decode cX4_readHouse 8 = .ok (.iconst 0, 1) := dq_3 (by decide +kernel)
theorem dX4_readHouse_9 : decode cX4_readHouse 9 = .ok (.putfield 35, 3) := dq_181 (a := 0) (b := 35) (by decide +kernel) rfl
theorem dX4_readHouse_12 : decode cX4_readHouse 12 = .ok (.aload_n 0, 1) := dq_42 (by decide +kernel)
theorem dX4_readHouse_13 : decode cX4_readHouse 13 = .ok (.iconst 0, 1) := dq_3 (by decide +kernel)
theorem dX4_readHouse_14 : decode cX4_readHouse 14 = .ok (.putfield 38, 3) := dq_181 (a := 0) (b := 38) (by decide +kernel) rfl
theorem dX4_readHouse_17 : decode cX4_readHouse 17 = .ok (.aload_n 0, 1) := dq_42 (by decide +kernel)
theorem dX4_readHouse_18 : decode cX4_readHouse 18 = .ok (.iconst (-1), 1) := dq_2 (by decide +kernel)
theorem dX4_readHouse_19 : decode cX4_readHouse 19 = .ok (.putfield 41, 3) := dq_181 (a := 0) (b := 41) (by decide +kernel) rfl
theorem dX4_readHouse_22 : decode cX4_readHouse 22 = .ok (.aload_n 0, 1) := dq_42 (by decide +kernel)
theorem dX4_readHouse_23 : decode cX4_readHouse 23 = .ok (.iconst 0, 1) := dq_3 (by decide +kernel)
theorem dX4_readHouse_24 : decode cX4_readHouse 24 = .ok (.iconst 0, 1) := dq_3 (by decide +kernel)
theorem dX4_readHouse_25 : decode cX4_readHouse 25 = .ok (.invokevirtual 47, 3) := dq_182 (a := 0) (b := 47) (by decide +kernel) rfl
theorem dX4_goOn_0 : decode cX4_goOn 0 = .ok (.aload_n 0, 1) := dq_42 (by decide +kernel)
theorem dX4_goOn_1 : decode cX4_goOn 1 = .ok (.iload_n 1, 1) := dq_27 (by decide +kernel)
theorem dX4_goOn_2 : decode cX4_goOn 2 = .ok (.putfield 25, 3) := dq_181 (a := 0) (b := 25) (by decide +kernel) rfl
theorem dX4_goOn_5 : decode cX4_goOn 5 = .ok (.aload_n 0, 1) := dq_42 (by decide +kernel)
theorem dX4_goOn_6 : decode cX4_goOn 6 = .ok (.getfield 25, 3) := dq_180 (a := 0) (b := 25) (by decide +kernel) rfl
theorem dX4_goOn_9 : decode cX4_goOn 9 = .ok (.aload_n 0, 1) := dq_42 (by decide +kernel)
theorem dX4_goOn_10 : decode cX4_goOn 10 = .ok (.getfield 12, 3) := dq_180 (a := 0) (b := 12) (by decide +kernel) rfl
theorem dX4_goOn_13 : decode cX4_goOn 13 = .ok (.invokevirtual 70, 3) := dq_182 (a := 0) (b := 70) (by decide +kernel) rfl
theorem dX4_goOn_16 : decode cX4_goOn 16 = .ok (.if_icmp .ge 33, 3) := dq_162 (a := 0) (b := 33) (by decide +kernel) (by decide +kernel)
theorem dX4_goOn_49 : decode cX4_goOn 49 = .ok (.aload_n 0, 1) := dq_42 (by decide +kernel)
theorem dX4_goOn_50 : decode cX4_goOn 50 = .ok (.aload_n 0, 1) := dq_42 (by decide +kernel)
theorem dX4_goOn_51 : decode cX4_goOn 51 = .ok (.getfield 12, 3) := dq_180 (a := 0) (b := 12) (by decide +kernel) rfl
theorem dX4_goOn_54 : decode cX4_goOn 54 = .ok (.aload_n 0, 1) := dq_42 (by decide +kernel)
theorem dX4_goOn_55 : decode cX4_goOn 55 = .ok (.getfield 25, 3) := dq_180 (a := 0) (b := 25) (by decide +kernel) rfl
theorem dX4_goOn_58 : decode cX4_goOn 58 = .ok (.invokevirtual 74, 3) := dq_182 (a := 0) (b := 74) (by decide +kernel) rfl
theorem dX4_goOn_61 : decode cX4_goOn 61 = .ok (.putfield 29, 3) := dq_181 (a := 0) (b := 29) (by decide +kernel) rfl
theorem dX4_goOn_64 : decode cX4_goOn 64 = .ok (.iload_n 2, 1) := dq_28 (by decide +kernel)
theorem dX4_goOn_65 : decode cX4_goOn 65 = .ok (.ifCond .eq 36, 3) := dq_153 (a := 0) (b := 36) (by decide +kernel) (by decide +kernel)
theorem dX4_goOn_101 : decode cX4_goOn 101 = .ok (.return_, 1) := dq_177 (by decide +kernel)
theorem dX4_goOn_68 : decode cX4_goOn 68 = .ok (.aload_n 0, 1) := dq_42 (by decide +kernel)
theorem dX4_goOn_69 : decode cX4_goOn 69 = .ok (.getfield 25, 3) := dq_180 (a := 0) (b := 25) (by decide +kernel) rfl
theorem dX4_goOn_72 : decode cX4_goOn 72 = .ok (.iload_n 1, 1) := dq_27 (by decide +kernel)
theorem dX4_goOn_73 : decode cX4_goOn 73 = .ok (.if_icmp .ne 28, 3) := dq_160 (a := 0) (b := 28) (by decide +kernel) (by decide +kernel)
theorem dX4_goOn_76 : decode cX4_goOn 76 = .ok (.aload_n 0, 1) := dq_42 (by decide +kernel)
theorem dX4_goOn_77 : decode cX4_goOn 77 = .ok (.getfield 29, 3) := dq_180 (a := 0) (b := 29) (by decide +kernel) rfl
theorem dX4_goOn_80 : decode cX4_goOn 80 = .ok (.invokestatic 80, 3) := dq_184 (a := 0) (b := 80) (by decide +kernel) rfl
theorem dX4_isSmall_0 : decode cX4_isSmall 0 = .ok (.iload_n 0, 1) := dq_26 (by decide +kernel)
theorem dX4_isSmall_1 : decode cX4_isSmall 1 = .ok (.bipush 97, 2) := dq_16 (a := 97) (by decide +kernel) (by decide +kernel)
theorem dX4_isSmall_3 : decode cX4_isSmall 3 = .ok (.if_icmp .lt 13, 3) := dq_161 (a := 0) (b := 13) (by decide +kernel) (by decide +kernel)
theorem dX4_isSmall_16 : decode cX4_isSmall 16 = .ok (.iconst 0, 1) := dq_3 (by decide +kernel)
theorem dX4_isSmall_17 : decode cX4_isSmall 17 = .ok (.ireturn, 1) := dq_172 (by decide +kernel)
theorem dX4_isSmall_6 : decode cX4_isSmall 6 = .ok (.iload_n 0, 1) := dq_26 (by decide +kernel)
theorem dX4_isSmall_7 : decode cX4_isSmall 7 = .ok (.bipush 122, 2) := dq_16 (a := 122) (by decide +kernel) (by decide +kernel)
theorem dX4_isSmall_9 : decode cX4_isSmall 9 = .ok (.if_icmp .gt 7, 3) := dq_163 (a := 0) (b := 7) (by decide +kernel) (by decide +kernel)
theorem dX4_isSmall_12 : decode cX4_isSmall 12 = .ok (.iconst 1, 1) := dq_4 (by decide +kernel)
theorem dX4_isSmall_13 : decode cX4_isSmall 13 = .ok (.goto 4, 3) := dq_167 (a := 0) (b := 4) (by decide +kernel) (by decide +kernel)
theorem dX4_goOn_83 : decode cX4_goOn 83 = .ok (.ifCond .ne 13, 3) := dq_154 (a := 0) (b := 13) (by decide +kernel) (by decide +kernel)
theorem dX4_goOn_96 : decode cX4_goOn 96 = .ok (.aload_n 0, 1) := dq_42 (by decide +kernel)
theorem dX4_goOn_97 : decode cX4_goOn 97 = .ok (.iconst 0, 1) := dq_3 (by decide +kernel)
theorem dX4_goOn_98 : decode cX4_goOn 98 = .ok (.putfield 29, 3) := dq_181 (a := 0) (b := 29) (by decide +kernel) rfl
theorem dX4_goOn_86 : decode cX4_goOn 86 = .ok (.aload_n 0, 1) := dq_42 (by decide +kernel)
theorem dX4_goOn_87 : decode cX4_goOn 87 = .ok (.getfield 29, 3) := dq_180 (a := 0) (b := 29) (by decide +kernel) rfl
theorem dX4_goOn_90 : decode cX4_goOn 90 = .ok (.invokestatic 83, 3) := dq_184 (a := 0) (b := 83) (by decide +kernel) rfl
theorem dX4_isDigit_0 : decode cX4_isDigit 0 = .ok (.iload_n 0, 1) := dq_26 (by decide +kernel)
theorem dX4_isDigit_1 : decode cX4_isDigit 1 = .ok (.bipush 48, 2) := dq_16 (a := 48) (by decide +kernel) (by decide +kernel)
theorem dX4_isDigit_3 : decode cX4_isDigit 3 = .ok (.if_icmp .lt 13, 3) := dq_161 (a := 0) (b := 13) (by decide +kernel) (by decide +kernel)
theorem dX4_isDigit_16 : decode cX4_isDigit 16 = .ok (.iconst 0, 1) := dq_3 (by decide +kernel)
theorem dX4_isDigit_17 : decode cX4_isDigit 17 = .ok (.ireturn, 1) := dq_172 (by decide +kernel)
theorem dX4_isDigit_6 : decode cX4_isDigit 6 = .ok (.iload_n 0, 1) := dq_26 (by decide +kernel)
theorem dX4_isDigit_7 : decode cX4_isDigit 7 = .ok (.bipush 57, 2) := dq_16 (a := 57) (by decide +kernel) (by decide +kernel)
theorem dX4_isDigit_9 : decode cX4_isDigit 9 = .ok (.if_icmp .gt 7, 3) := dq_163 (a := 0) (b := 7) (by decide +kernel) (by decide +kernel)
theorem dX4_isDigit_12 : decode cX4_isDigit 12 = .ok (.iconst 1, 1) := dq_4 (by decide +kernel)
theorem dX4_isDigit_13 : decode cX4_isDigit 13 = .ok (.goto 4, 3) := dq_167 (a := 0) (b := 4) (by decide +kernel) (by decide +kernel)
theorem dX4_goOn_93 : decode cX4_goOn 93 = .ok (.ifCond .eq 8, 3) := dq_153 (a := 0) (b := 8) (by decide +kernel) (by decide +kernel)
theorem dX4_goOn_19 : decode cX4_goOn 19 = .ok (.aload_n 0, 1) := dq_42 (by decide +kernel)
theorem dX4_goOn_20 : decode cX4_goOn 20 = .ok (.getfield 12, 3) := dq_180 (a := 0) (b := 12) (by decide +kernel) rfl
theorem dX4_goOn_23 : decode cX4_goOn 23 = .ok (.aload_n 0, 1) := dq_42 (by decide +kernel)
theorem dX4_goOn_24 : decode cX4_goOn 24 = .ok (.getfield 25, 3) := dq_180 (a := 0) (b := 25) (by decide +kernel) rfl
theorem dX4_goOn_27 : decode cX4_goOn 27 = .ok (.invokevirtual 74, 3) := dq_182 (a := 0) (b := 74) (by decide +kernel) rfl
theorem dX4_goOn_30 : decode cX4_goOn 30 = .ok (.invokestatic 77, 3) := dq_184 (a := 0) (b := 77) (by decide +kernel) rfl
theorem dX4_isBlank_0 : decode cX4_isBlank 0 = .ok (.iload_n 0, 1) := dq_26 (by decide +kernel)
theorem dX4_isBlank_1 : decode cX4_isBlank 1 = .ok (.bipush 10, 2) := dq_16 (a := 10) (by decide +kernel) (by decide +kernel)
theorem dX4_isBlank_3 : decode cX4_isBlank 3 = .ok (.if_icmp .eq 9, 3) := dq_159 (a := 0) (b := 9) (by decide +kernel) (by decide +kernel)
theorem dX4_isBlank_12 : decode cX4_isBlank 12 = .ok (.iconst 1, 1) := dq_4 (by decide +kernel)
theorem dX4_isBlank_13 : decode cX4_isBlank 13 = .ok (.goto 4, 3) := dq_167 (a := 0) (b := 4) (by decide +kernel) (by decide +kernel)
theorem dX4_isBlank_17 : decode cX4_isBlank 17 = .ok (.ireturn, 1) := dq_172 (by decide +kernel)
theorem dX4_isBlank_6 : decode cX4_isBlank 6 = .ok (.iload_n 0, 1) := dq_26 (by decide +kernel)
theorem dX4_isBlank_7 : decode cX4_isBlank 7 = .ok (.bipush 32, 2) := dq_16 (a := 32) (by decide +kernel) (by decide +kernel)
theorem dX4_isBlank_9 : decode cX4_isBlank 9 = .ok (.if_icmp .ne 7, 3) := dq_160 (a := 0) (b := 7) (by decide +kernel) (by decide +kernel)
theorem dX4_isBlank_16 : decode cX4_isBlank 16 = .ok (.iconst 0, 1) := dq_3 (by decide +kernel)
theorem dX4_goOn_33 : decode cX4_goOn 33 = .ok (.ifCond .eq 16, 3) := dq_153 (a := 0) (b := 16) (by decide +kernel) (by decide +kernel)
theorem dX4_goOn_36 : decode cX4_goOn 36 = .ok (.aload_n 0, 1) := dq_42 (by decide +kernel)
theorem dX4_goOn_37 : decode cX4_goOn 37 = .ok (.dup, 1) := dq_89 (by decide +kernel)
theorem dX4_goOn_38 : decode cX4_goOn 38 = .ok (.getfield 25, 3) := dq_180 (a := 0) (b := 25) (by decide +kernel) rfl
theorem dX4_goOn_41 : decode cX4_goOn 41 = .ok (.iconst 1, 1) := dq_4 (by decide +kernel)
theorem dX4_goOn_42 : decode cX4_goOn 42 = .ok (.iadd, 1) := dq_96 (by decide +kernel)
theorem dX4_goOn_43 : decode cX4_goOn 43 = .ok (.putfield 25, 3) := dq_181 (a := 0) (b := 25) (by decide +kernel) rfl
theorem dX4_goOn_46 : decode cX4_goOn 46 = .ok (.goto (-41), 3) := dq_167 (a := 255) (b := 215) (by decide +kernel) (by decide +kernel)
theorem dX4_readHouse_28 : decode cX4_readHouse 28 = .ok (.iconst 0, 1) := dq_3 (by decide +kernel)
theorem dX4_readHouse_29 : decode cX4_readHouse 29 = .ok (.istore_n 1, 1) := dq_60 (by decide +kernel)
theorem dX4_readHouse_30 : decode cX4_readHouse 30 = .ok (.iload_n 1, 1) := dq_27 (by decide +kernel)
theorem dX4_readHouse_31 : decode cX4_readHouse 31 = .ok (.bipush 60, 2) := dq_16 (a := 60) (by decide +kernel) (by decide +kernel)
theorem dX4_readHouse_33 : decode cX4_readHouse 33 = .ok (.if_icmp .gt 87, 3) := dq_163 (a := 0) (b := 87) (by decide +kernel) (by decide +kernel)
theorem dX4_readHouse_36 : decode cX4_readHouse 36 = .ok (.aload_n 0, 1) := dq_42 (by decide +kernel)
theorem dX4_readHouse_37 : decode cX4_readHouse 37 = .ok (.getfield 29, 3) := dq_180 (a := 0) (b := 29) (by decide +kernel) rfl
theorem dX4_readHouse_40 : decode cX4_readHouse 40 = .ok (.iconst (-1), 1) := dq_2 (by decide +kernel)
theorem dX4_readHouse_41 : decode cX4_readHouse 41 = .ok (.if_icmp .ne 20, 3) := dq_160 (a := 0) (b := 20) (by decide +kernel) (by decide +kernel)
theorem dX4_readHouse_61 : decode cX4_readHouse 61 = .ok (.iload_n 1, 1) := dq_27 (by decide +kernel)
theorem dX4_readHouse_62 : decode cX4_readHouse 62 = .ok (.bipush 60, 2) := dq_16 (a := 60) (by decide +kernel) (by decide +kernel)
theorem dX4_readHouse_64 : decode cX4_readHouse 64 = .ok (.if_icmp .ne 13, 3) := dq_160 (a := 0) (b := 13) (by decide +kernel) (by decide +kernel)
theorem dX4_readHouse_77 : decode cX4_readHouse 77 = .ok (.aload_n 0, 1) := dq_42 (by decide +kernel)
theorem dX4_readHouse_78 : decode cX4_readHouse 78 = .ok (.iload_n 1, 1) := dq_27 (by decide +kernel)
theorem dX4_readHouse_79 : decode cX4_readHouse 79 = .ok (.ifCond .ne 7, 3) := dq_154 (a := 0) (b := 7) (by decide +kernel) (by decide +kernel)
theorem dX4_readHouse_82 : decode cX4_readHouse 82 = .ok (.iconst 1, 1) := dq_4 (by decide +kernel)
theorem dX4_readHouse_83 : decode cX4_readHouse 83 = .ok (.goto 4, 3) := dq_167 (a := 0) (b := 4) (by decide +kernel) (by decide +kernel)
theorem dX4_readHouse_87 : decode cX4_readHouse 87 = .ok (.invokevirtual 59, 3) := dq_182 (a := 0) (b := 59) (by decide +kernel) rfl
theorem dX4_readStatement_0 : decode cX4_readStatement 0 = .ok (.iload_n 1, 1) := dq_27 (by decide +kernel)
theorem dX4_readStatement_1 : decode cX4_readStatement 1 = .ok (.ifCond .eq 25, 3) := dq_153 (a := 0) (b := 25) (by decide +kernel) (by decide +kernel)
theorem dX4_readStatement_4 : decode cX4_readStatement 4 = .ok (.aload_n 0, 1) := dq_42 (by decide +kernel)
theorem dX4_readStatement_5 : decode cX4_readStatement 5 = .ok (.ldc 107, 2) := dq_18 (a := 107) (by decide +kernel) rfl
theorem dX4_readStatement_7 : decode cX4_readStatement 7 = .ok (.invokevirtual 109, 3) := dq_182 (a := 0) (b := 109) (by decide +kernel) rfl
theorem dX4_readWord_0 : decode cX4_readWord 0 = .ok (.aload_n 0, 1) := dq_42 (by decide +kernel)
theorem dX4_readWord_1 : decode cX4_readWord 1 = .ok (.aload_n 1, 1) := dq_43 (by decide +kernel)
theorem dX4_readWord_2 : decode cX4_readWord 2 = .ok (.invokevirtual 97, 3) := dq_182 (a := 0) (b := 97) (by decide +kernel) rfl
theorem dX4_takesWord_0 : decode cX4_takesWord 0 = .ok (.aload_n 0, 1) := dq_42 (by decide +kernel)
theorem dX4_takesWord_1 : decode cX4_takesWord 1 = .ok (.aload_n 1, 1) := dq_43 (by decide +kernel)
theorem dX4_takesWord_2 : decode cX4_takesWord 2 = .ok (.invokevirtual 93, 3) := dq_182 (a := 0) (b := 93) (by decide +kernel) rfl
theorem dX4_isWordAhead_0 : decode cX4_isWordAhead 0 = .ok (.aload_n 1, 1) := dq_43 (by decide +kernel)
theorem dX4_isWordAhead_1 : decode cX4_isWordAhead 1 = .ok (.invokevirtual 86, 3) := dq_182 (a := 0) (b := 86) (by decide +kernel) rfl
theorem dJ0_length_8abf5_0 : decode cJ0_length_8abf5 0 = .ok (.aload_n 0, 1) := dq_42 (by decide +kernel)
theorem dJ0_length_8abf5_1 : decode cJ0_length_8abf5 1 = .ok (.getfield 9, 3) := dq_180 (a := 0) (b := 9) (by decide +kernel) rfl
theorem dJ0_length_8abf5_4 : decode cJ0_length_8abf5 4 = .ok (.arraylength, 1) := dq_190 (by decide +kernel)
theorem dJ0_length_8abf5_5 : decode cJ0_length_8abf5 5 = .ok (.aload_n 0, 1) := dq_42 (by decide +kernel)
theorem dJ0_length_8abf5_6 : decode cJ0_length_8abf5 6 = .ok (.invokevirtual 335, 3) := dq_182 (a := 1) (b := 79) (by decide +kernel) rfl
theorem dJ0_coder_7d493_0 : decode cJ0_coder_7d493 0 = .ok (.getstatic 38, 3) := dq_178 (a := 0) (b := 38) (by decide +kernel) rfl
theorem dJ0_coder_7d493_3 : decode cJ0_coder_7d493 3 = .ok (.ifCond .eq 10, 3) := dq_153 (a := 0) (b := 10) (by decide +kernel) (by decide +kernel)
theorem dJ0_coder_7d493_6 : decode cJ0_coder_7d493 6 = .ok (.aload_n 0, 1) := dq_42 (by decide +kernel)
theorem dJ0_coder_7d493_7 : decode cJ0_coder_7d493 7 = .ok (.getfield 15, 3) := dq_180 (a := 0) (b := 15) (by decide +kernel) rfl
theorem dJ0_coder_7d493_10 : decode cJ0_coder_7d493 10 = .ok (.goto 4, 3) := dq_167 (a := 0) (b := 4) (by decide +kernel) (by decide +kernel)
theorem dJ0_coder_7d493_14 : decode cJ0_coder_7d493 14 = .ok (.ireturn, 1) := dq_172 (by decide +kernel)
theorem dJ0_length_8abf5_9 : decode cJ0_length_8abf5 9 = .ok (.ishr, 1) := dq_122 (by decide +kernel)
theorem dJ0_length_8abf5_10 : decode cJ0_length_8abf5 10 = .ok (.ireturn, 1) := dq_172 (by decide +kernel)
theorem dX4_isWordAhead_4 : decode cX4_isWordAhead 4 = .ok (.istore_n 2, 1) := dq_61 (by decide +kernel)
theorem dX4_isWordAhead_5 : decode cX4_isWordAhead 5 = .ok (.iconst 0, 1) := dq_3 (by decide +kernel)
theorem dX4_isWordAhead_6 : decode cX4_isWordAhead 6 = .ok (.istore_n 3, 1) := dq_62 (by decide +kernel)
theorem dX4_isWordAhead_7 : decode cX4_isWordAhead 7 = .ok (.iload_n 3, 1) := dq_29 (by decide +kernel)
theorem dX4_isWordAhead_8 : decode cX4_isWordAhead 8 = .ok (.iload_n 2, 1) := dq_28 (by decide +kernel)
theorem dX4_isWordAhead_9 : decode cX4_isWordAhead 9 = .ok (.if_icmp .ge 32, 3) := dq_162 (a := 0) (b := 32) (by decide +kernel) (by decide +kernel)
theorem dX4_isWordAhead_41 : decode cX4_isWordAhead 41 = .ok (.aload_n 0, 1) := dq_42 (by decide +kernel)
theorem dX4_isWordAhead_42 : decode cX4_isWordAhead 42 = .ok (.getfield 29, 3) := dq_180 (a := 0) (b := 29) (by decide +kernel) rfl
theorem dX4_isWordAhead_45 : decode cX4_isWordAhead 45 = .ok (.ifCond .eq 26, 3) := dq_153 (a := 0) (b := 26) (by decide +kernel) (by decide +kernel)
theorem dX4_isWordAhead_71 : decode cX4_isWordAhead 71 = .ok (.iconst 0, 1) := dq_3 (by decide +kernel)
theorem dX4_isWordAhead_72 : decode cX4_isWordAhead 72 = .ok (.ireturn, 1) := dq_172 (by decide +kernel)
theorem dX4_isWordAhead_48 : decode cX4_isWordAhead 48 = .ok (.aload_n 0, 1) := dq_42 (by decide +kernel)
theorem dX4_isWordAhead_49 : decode cX4_isWordAhead 49 = .ok (.getfield 12, 3) := dq_180 (a := 0) (b := 12) (by decide +kernel) rfl
theorem dX4_isWordAhead_52 : decode cX4_isWordAhead 52 = .ok (.aload_n 0, 1) := dq_42 (by decide +kernel)
theorem dX4_isWordAhead_53 : decode cX4_isWordAhead 53 = .ok (.getfield 25, 3) := dq_180 (a := 0) (b := 25) (by decide +kernel) rfl
theorem dX4_isWordAhead_56 : decode cX4_isWordAhead 56 = .ok (.iload_n 2, 1) := dq_28 (by decide +kernel)
theorem dX4_isWordAhead_57 : decode cX4_isWordAhead 57 = .ok (.iadd, 1) := dq_96 (by decide +kernel)
theorem dX4_isWordAhead_58 : decode cX4_isWordAhead 58 = .ok (.invokevirtual 74, 3) := dq_182 (a := 0) (b := 74) (by decide +kernel) rfl
theorem dX4_isWordAhead_61 : decode cX4_isWordAhead 61 = .ok (.invokestatic 80, 3) := dq_184 (a := 0) (b := 80) (by decide +kernel) rfl
theorem dX4_isWordAhead_64 : decode cX4_isWordAhead 64 = .ok (.ifCond .ne 7, 3) := dq_154 (a := 0) (b := 7) (by decide +kernel) (by decide +kernel)
theorem dX4_isWordAhead_67 : decode cX4_isWordAhead 67 = .ok (.iconst 1, 1) := dq_4 (by decide +kernel)
theorem dX4_isWordAhead_68 : decode cX4_isWordAhead 68 = .ok (.goto 4, 3) := dq_167 (a := 0) (b := 4) (by decide +kernel) (by decide +kernel)
theorem dX4_isWordAhead_12 : decode cX4_isWordAhead 12 = .ok (.aload_n 0, 1) := dq_42 (by decide +kernel)
theorem dX4_isWordAhead_13 : decode cX4_isWordAhead 13 = .ok (.getfield 12, 3) := dq_180 (a := 0) (b := 12) (by decide +kernel) rfl
theorem dX4_isWordAhead_16 : decode cX4_isWordAhead 16 = .ok (.aload_n 0, 1) := dq_42 (by decide +kernel)
theorem dX4_isWordAhead_17 : decode cX4_isWordAhead 17 = .ok (.getfield 25, 3) := dq_180 (a := 0) (b := 25) (by decide +kernel) rfl
theorem dX4_isWordAhead_20 : decode cX4_isWordAhead 20 = .ok (.iload_n 3, 1) := dq_29 (by decide +kernel)
theorem dX4_isWordAhead_21 : decode cX4_isWordAhead 21 = .ok (.iadd, 1) := dq_96 (by decide +kernel)
theorem dX4_isWordAhead_22 : decode cX4_isWordAhead 22 = .ok (.invokevirtual 74, 3) := dq_182 (a := 0) (b := 74) (by decide +kernel) rfl
theorem dX4_isWordAhead_25 : decode cX4_isWordAhead 25 = .ok (.aload_n 1, 1) := dq_43 (by decide +kernel)
theorem dX4_isWordAhead_26 : decode cX4_isWordAhead 26 = .ok (.iload_n 3, 1) := dq_29 (by decide +kernel)
theorem dX4_isWordAhead_27 : decode cX4_isWordAhead 27 = .ok (.invokevirtual 89, 3) := dq_182 (a := 0) (b := 89) (by decide +kernel) rfl
theorem dJ0_charAt_5068e_0 : decode cJ0_charAt_5068e 0 = .ok (.aload_n 0, 1) := dq_42 (by decide +kernel)
theorem dJ0_charAt_5068e_1 : decode cJ0_charAt_5068e 1 = .ok (.invokevirtual 492, 3) := dq_182 (a := 1) (b := 236) (by decide +kernel) rfl
theorem dJ0_isLatin1_aae02_0 : decode cJ0_isLatin1_aae02 0 = .ok (.getstatic 38, 3) := dq_178 (a := 0) (b := 38) (by decide +kernel) rfl
theorem dJ0_isLatin1_aae02_3 : decode cJ0_isLatin1_aae02 3 = .ok (.ifCond .eq 14, 3) := dq_153 (a := 0) (b := 14) (by decide +kernel) (by decide +kernel)
theorem dJ0_isLatin1_aae02_6 : decode cJ0_isLatin1_aae02 6 = .ok (.aload_n 0, 1) := dq_42 (by decide +kernel)
theorem dJ0_isLatin1_aae02_7 : decode cJ0_isLatin1_aae02 7 = .ok (.getfield 15, 3) := dq_180 (a := 0) (b := 15) (by decide +kernel) rfl
theorem dJ0_isLatin1_aae02_10 : decode cJ0_isLatin1_aae02 10 = .ok (.ifCond .ne 7, 3) := dq_154 (a := 0) (b := 7) (by decide +kernel) (by decide +kernel)
theorem dJ0_isLatin1_aae02_13 : decode cJ0_isLatin1_aae02 13 = .ok (.iconst 1, 1) := dq_4 (by decide +kernel)
theorem dJ0_isLatin1_aae02_14 : decode cJ0_isLatin1_aae02 14 = .ok (.goto 4, 3) := dq_167 (a := 0) (b := 4) (by decide +kernel) (by decide +kernel)
theorem dJ0_isLatin1_aae02_18 : decode cJ0_isLatin1_aae02 18 = .ok (.ireturn, 1) := dq_172 (by decide +kernel)
theorem dJ0_charAt_5068e_4 : decode cJ0_charAt_5068e 4 = .ok (.ifCond .eq 12, 3) := dq_153 (a := 0) (b := 12) (by decide +kernel) (by decide +kernel)
theorem dJ0_charAt_5068e_7 : decode cJ0_charAt_5068e 7 = .ok (.aload_n 0, 1) := dq_42 (by decide +kernel)
theorem dJ0_charAt_5068e_8 : decode cJ0_charAt_5068e 8 = .ok (.getfield 9, 3) := dq_180 (a := 0) (b := 9) (by decide +kernel) rfl
theorem dJ0_charAt_5068e_11 : decode cJ0_charAt_5068e 11 = .ok (.iload_n 1, 1) := dq_27 (by decide +kernel)
theorem dJ0_charAt_5068e_12 : decode cJ0_charAt_5068e 12 = .ok (.invokestatic 495, 3) := dq_184 (a := 1) (b := 239) (by decide +kernel) rfl
theorem dJ1_charAt_3b067_0 : decode cJ1_charAt_3b067 0 = .ok (.iload_n 1, 1) := dq_27 (by decide +kernel)
theorem dJ1_charAt_3b067_1 : decode cJ1_charAt_3b067 1 = .ok (.aload_n 0, 1) := dq_42 (by decide +kernel)
theorem dJ1_charAt_3b067_2 : decode cJ1_charAt_3b067 2 = .ok (.arraylength, 1) := dq_190 (by decide +kernel)
theorem dJ1_charAt_3b067_3 : decode cJ1_charAt_3b067 3 = .ok (.invokestatic 9, 3) := dq_184 (a := 0) (b := 9) (by decide +kernel) rfl
theorem dJ0_checkIndex_df160_0 : decode cJ0_checkIndex_df160 0 = .ok (.iload_n 0, 1) := dq_26 (by decide +kernel)
theorem dJ0_checkIndex_df160_1 : decode cJ0_checkIndex_df160 1 = .ok (.iload_n 1, 1) := dq_27 (by decide +kernel)
theorem dJ0_checkIndex_df160_2 : decode cJ0_checkIndex_df160 2 = .ok (.getstatic 1053, 3) := dq_178 (a := 4) (b := 29) (by decide +kernel) rfl
theorem dJ0_checkIndex_df160_5 : decode cJ0_checkIndex_df160 5 = .ok (.invokestatic 1059, 3) := dq_184 (a := 4) (b := 35) (by decide +kernel) rfl
theorem dJ3_checkIndex_8e157_0 : decode cJ3_checkIndex_8e157 0 = .ok (.iload_n 0, 1) := dq_26 (by decide +kernel)
theorem dJ3_checkIndex_8e157_1 : decode cJ3_checkIndex_8e157 1 = .ok (.ifCond .lt 8, 3) := dq_155 (a := 0) (b := 8) (by decide +kernel) (by decide +kernel)
theorem dJ3_checkIndex_8e157_4 : decode cJ3_checkIndex_8e157 4 = .ok (.iload_n 0, 1) := dq_26 (by decide +kernel)
theorem dJ3_checkIndex_8e157_5 : decode cJ3_checkIndex_8e157 5 = .ok (.iload_n 1, 1) := dq_27 (by decide +kernel)
theorem dJ3_checkIndex_8e157_6 : decode cJ3_checkIndex_8e157 6 = .ok (.if_icmp .lt 10, 3) := dq_161 (a := 0) (b := 10) (by decide +kernel) (by decide +kernel)
theorem dJ3_checkIndex_8e157_16 : decode cJ3_checkIndex_8e157 16 = .ok (.iload_n 0, 1) := dq_26 (by decide +kernel)
theorem dJ3_checkIndex_8e157_17 : decode cJ3_checkIndex_8e157 17 = .ok (.ireturn, 1) := dq_172 (by decide +kernel)
theorem dJ0_checkIndex_df160_8 : decode cJ0_checkIndex_df160 8 = .ok (.pop, 1) := dq_87 (by decide +kernel)
theorem dJ0_checkIndex_df160_9 : decode cJ0_checkIndex_df160 9 = .ok (.return_, 1) := dq_177 (by decide +kernel)
theorem dJ1_charAt_3b067_6 : decode cJ1_charAt_3b067 6 = .ok (.aload_n 0, 1) := dq_42 (by decide +kernel)
theorem dJ1_charAt_3b067_7 : decode cJ1_charAt_3b067 7 = .ok (.iload_n 1, 1) := dq_27 (by decide +kernel)
theorem dJ1_charAt_3b067_8 : decode cJ1_charAt_3b067 8 = .ok (.baload, 1) := dq_51 (by decide +kernel)
theorem dJ1_charAt_3b067_9 : decode cJ1_charAt_3b067 9 = .ok (.sipush 255, 3) := dq_17 (a := 0) (b := 255) (by decide +kernel) (by decide +kernel)
theorem dJ1_charAt_3b067_12 : decode cJ1_charAt_3b067 12 = .ok (.iand, 1) := dq_126 (by decide +kernel)
theorem dJ1_charAt_3b067_13 : decode cJ1_charAt_3b067 13 = .ok (.i2c, 1) := dq_146 (by decide +kernel)
theorem dJ1_charAt_3b067_14 : decode cJ1_charAt_3b067 14 = .ok (.ireturn, 1) := dq_172 (by decide +kernel)
theorem dJ0_charAt_5068e_15 : decode cJ0_charAt_5068e 15 = .ok (.ireturn, 1) := dq_172 (by decide +kernel)
theorem dX4_isWordAhead_30 : decode cX4_isWordAhead 30 = .ok (.if_icmp .eq 5, 3) := dq_159 (a := 0) (b := 5) (by decide +kernel) (by decide +kernel)
theorem dX4_isWordAhead_35 : decode cX4_isWordAhead 35 = .ok (.iinc 3 1, 3) := dq_132 (a := 3) (b := 1) (by decide +kernel) rfl (by decide +kernel)
theorem dX4_isWordAhead_38 : decode cX4_isWordAhead 38 = .ok (.goto (-31), 3) := dq_167 (a := 255) (b := 225) (by decide +kernel) (by decide +kernel)
theorem dX4_isWordAhead_33 : decode cX4_isWordAhead 33 = .ok (.iconst 0, 1) := dq_3 (by decide +kernel)
theorem dX4_isWordAhead_34 : decode cX4_isWordAhead 34 = .ok (.ireturn, 1) := dq_172 (by decide +kernel)
theorem dX4_takesWord_5 : decode cX4_takesWord 5 = .ok (.istore_n 2, 1) := dq_61 (by decide +kernel)
theorem dX4_takesWord_6 : decode cX4_takesWord 6 = .ok (.iload_n 2, 1) := dq_28 (by decide +kernel)
theorem dX4_takesWord_7 : decode cX4_takesWord 7 = .ok (.ifCond .eq 17, 3) := dq_153 (a := 0) (b := 17) (by decide +kernel) (by decide +kernel)
theorem dX4_takesWord_24 : decode cX4_takesWord 24 = .ok (.iload_n 2, 1) := dq_28 (by decide +kernel)
theorem dX4_takesWord_25 : decode cX4_takesWord 25 = .ok (.ireturn, 1) := dq_172 (by decide +kernel)
theorem dX4_takesWord_10 : decode cX4_takesWord 10 = .ok (.aload_n 0, 1) := dq_42 (by decide +kernel)
theorem dX4_takesWord_11 : decode cX4_takesWord 11 = .ok (.aload_n 0, 1) := dq_42 (by decide +kernel)
theorem dX4_takesWord_12 : decode cX4_takesWord 12 = .ok (.getfield 25, 3) := dq_180 (a := 0) (b := 25) (by decide +kernel) rfl
theorem dX4_takesWord_15 : decode cX4_takesWord 15 = .ok (.aload_n 1, 1) := dq_43 (by decide +kernel)
theorem dX4_takesWord_16 : decode cX4_takesWord 16 = .ok (.invokevirtual 86, 3) := dq_182 (a := 0) (b := 86) (by decide +kernel) rfl
theorem dX4_takesWord_19 : decode cX4_takesWord 19 = .ok (.iadd, 1) := dq_96 (by decide +kernel)
theorem dX4_takesWord_20 : decode cX4_takesWord 20 = .ok (.iconst 1, 1) := dq_4 (by decide +kernel)
theorem dX4_takesWord_21 : decode cX4_takesWord 21 = .ok (.invokevirtual 47, 3) := dq_182 (a := 0) (b := 47) (by decide +kernel) rfl
theorem dX4_readWord_5 : decode cX4_readWord 5 = .ok (.ifCond .ne 10, 3) := dq_154 (a := 0) (b := 10) (by decide +kernel) (by decide +kernel)
theorem dX4_readWord_15 : decode cX4_readWord 15 = .ok (.iconst 1, 1) := dq_4 (by decide +kernel)
theorem dX4_readWord_16 : decode cX4_readWord 16 = .ok (.goto 4, 3) := dq_167 (a := 0) (b := 4) (by decide +kernel) (by decide +kernel)
theorem dX4_readWord_20 : decode cX4_readWord 20 = .ok (.ireturn, 1) := dq_172 (by decide +kernel)
theorem dX4_readWord_8 : decode cX4_readWord 8 = .ok (.aload_n 0, 1) := dq_42 (by decide +kernel)
theorem dX4_readWord_9 : decode cX4_readWord 9 = .ok (.invokevirtual 51, 3) := dq_182 (a := 0) (b := 51) (by decide +kernel) rfl
theorem dX4_failHere_0 : decode cX4_failHere 0 = .ok (.aload_n 0, 1) := dq_42 (by decide +kernel)
theorem dX4_failHere_1 : decode cX4_failHere 1 = .ok (.iconst 1, 1) := dq_4 (by decide +kernel)
theorem dX4_failHere_2 : decode cX4_failHere 2 = .ok (.aload_n 0, 1) := dq_42 (by decide +kernel)
theorem dX4_failHere_3 : decode cX4_failHere 3 = .ok (.getfield 25, 3) := dq_180 (a := 0) (b := 25) (by decide +kernel) rfl
theorem dX4_failHere_6 : decode cX4_failHere 6 = .ok (.invokevirtual 55, 3) := dq_182 (a := 0) (b := 55) (by decide +kernel) rfl
theorem dX4_fail_0 : decode cX4_fail 0 = .ok (.aload_n 0, 1) := dq_42 (by decide +kernel)
theorem dX4_fail_1 : decode cX4_fail 1 = .ok (.iload_n 1, 1) := dq_27 (by decide +kernel)
theorem dX4_fail_2 : decode cX4_fail 2 = .ok (.putfield 38, 3) := dq_181 (a := 0) (b := 38) (by decide +kernel) rfl
theorem dX4_fail_5 : decode cX4_fail 5 = .ok (.aload_n 0, 1) := dq_42 (by decide +kernel)
theorem dX4_fail_6 : decode cX4_fail 6 = .ok (.iload_n 2, 1) := dq_28 (by decide +kernel)
theorem dX4_fail_7 : decode cX4_fail 7 = .ok (.putfield 41, 3) := dq_181 (a := 0) (b := 41) (by decide +kernel) rfl
theorem dX4_fail_10 : decode cX4_fail 10 = .ok (.iconst 0, 1) := dq_3 (by decide +kernel)
theorem dX4_fail_11 : decode cX4_fail 11 = .ok (.ireturn, 1) := dq_172 (by decide +kernel)
theorem dX4_failHere_9 : decode cX4_failHere 9 = .ok (.ireturn, 1) := dq_172 (by decide +kernel)
theorem dX4_readWord_12 : decode cX4_readWord 12 = .ok (.ifCond .eq 7, 3) := dq_153 (a := 0) (b := 7) (by decide +kernel) (by decide +kernel)
theorem dX4_readWord_19 : decode cX4_readWord 19 = .ok (.iconst 0, 1) := dq_3 (by decide +kernel)
theorem dX4_readStatement_10 : decode cX4_readStatement 10 = .ok (.ifCond .eq 14, 3) := dq_153 (a := 0) (b := 14) (by decide +kernel) (by decide +kernel)
theorem dX4_readStatement_24 : decode cX4_readStatement 24 = .ok (.iconst 0, 1) := dq_3 (by decide +kernel)
theorem dX4_readStatement_25 : decode cX4_readStatement 25 = .ok (.ireturn, 1) := dq_172 (by decide +kernel)
theorem dX4_readStatement_13 : decode cX4_readStatement 13 = .ok (.aload_n 0, 1) := dq_42 (by decide +kernel)
theorem dX4_readStatement_14 : decode cX4_readStatement 14 = .ok (.invokevirtual 112, 3) := dq_182 (a := 0) (b := 112) (by decide +kernel) rfl
theorem dX4_readSizes_0 : decode cX4_readSizes 0 = .ok (.aload_n 0, 1) := dq_42 (by decide +kernel)
theorem dX4_readSizes_1 : decode cX4_readSizes 1 = .ok (.getfield 21, 3) := dq_180 (a := 0) (b := 21) (by decide +kernel) rfl
theorem dX4_readSizes_4 : decode cX4_readSizes 4 = .ok (.aload_n 0, 1) := dq_42 (by decide +kernel)
theorem dX4_readSizes_5 : decode cX4_readSizes 5 = .ok (.iconst 2, 1) := dq_5 (by decide +kernel)
theorem dX4_readSizes_6 : decode cX4_readSizes 6 = .ok (.bipush 8, 2) := dq_16 (a := 8) (by decide +kernel) (by decide +kernel)
theorem dX4_readSizes_8 : decode cX4_readSizes 8 = .ok (.invokevirtual 156, 3) := dq_182 (a := 0) (b := 156) (by decide +kernel) rfl
theorem dX4_readBetween_0 : decode cX4_readBetween 0 = .ok (.aload_n 0, 1) := dq_42 (by decide +kernel)
theorem dX4_readBetween_1 : decode cX4_readBetween 1 = .ok (.invokevirtual 103, 3) := dq_182 (a := 0) (b := 103) (by decide +kernel) rfl
theorem dX4_readNumber_0 : decode cX4_readNumber 0 = .ok (.aload_n 0, 1) := dq_42 (by decide +kernel)
theorem dX4_readNumber_1 : decode cX4_readNumber 1 = .ok (.getfield 29, 3) := dq_180 (a := 0) (b := 29) (by decide +kernel) rfl
theorem dX4_readNumber_4 : decode cX4_readNumber 4 = .ok (.invokestatic 83, 3) := dq_184 (a := 0) (b := 83) (by decide +kernel) rfl
theorem dX4_readNumber_7 : decode cX4_readNumber 7 = .ok (.ifCond .ne 10, 3) := dq_154 (a := 0) (b := 10) (by decide +kernel) (by decide +kernel)
theorem dX4_readNumber_17 : decode cX4_readNumber 17 = .ok (.aload_n 0, 1) := dq_42 (by decide +kernel)
theorem dX4_readNumber_18 : decode cX4_readNumber 18 = .ok (.aload_n 0, 1) := dq_42 (by decide +kernel)
theorem dX4_readNumber_19 : decode cX4_readNumber 19 = .ok (.getfield 25, 3) := dq_180 (a := 0) (b := 25) (by decide +kernel) rfl
theorem dX4_readNumber_22 : decode cX4_readNumber 22 = .ok (.putfield 32, 3) := dq_181 (a := 0) (b := 32) (by decide +kernel) rfl
theorem dX4_readNumber_25 : decode cX4_readNumber 25 = .ok (.iconst 0, 1) := dq_3 (by decide +kernel)
theorem dX4_readNumber_26 : decode cX4_readNumber 26 = .ok (.istore_n 1, 1) := dq_60 (by decide +kernel)
theorem dX4_readNumber_27 : decode cX4_readNumber 27 = .ok (.iconst 0, 1) := dq_3 (by decide +kernel)
theorem dX4_readNumber_28 : decode cX4_readNumber 28 = .ok (.istore_n 2, 1) := dq_61 (by decide +kernel)
theorem dX4_readNumber_29 : decode cX4_readNumber 29 = .ok (.iload_n 2, 1) := dq_28 (by decide +kernel)
theorem dX4_readNumber_30 : decode cX4_readNumber 30 = .ok (.iconst 4, 1) := dq_7 (by decide +kernel)
theorem dX4_readNumber_31 : decode cX4_readNumber 31 = .ok (.if_icmp .ge 56, 3) := dq_162 (a := 0) (b := 56) (by decide +kernel) (by decide +kernel)
theorem dX4_readNumber_34 : decode cX4_readNumber 34 = .ok (.aload_n 0, 1) := dq_42 (by decide +kernel)
theorem dX4_readNumber_35 : decode cX4_readNumber 35 = .ok (.getfield 12, 3) := dq_180 (a := 0) (b := 12) (by decide +kernel) rfl
theorem dX4_readNumber_38 : decode cX4_readNumber 38 = .ok (.aload_n 0, 1) := dq_42 (by decide +kernel)
theorem dX4_readNumber_39 : decode cX4_readNumber 39 = .ok (.getfield 25, 3) := dq_180 (a := 0) (b := 25) (by decide +kernel) rfl
theorem dX4_readNumber_42 : decode cX4_readNumber 42 = .ok (.invokevirtual 74, 3) := dq_182 (a := 0) (b := 74) (by decide +kernel) rfl
theorem dX4_readNumber_45 : decode cX4_readNumber 45 = .ok (.invokestatic 83, 3) := dq_184 (a := 0) (b := 83) (by decide +kernel) rfl
theorem dX4_readNumber_48 : decode cX4_readNumber 48 = .ok (.ifCond .eq 39, 3) := dq_153 (a := 0) (b := 39) (by decide +kernel) (by decide +kernel)
theorem dX4_readNumber_87 : decode cX4_readNumber 87 = .ok (.aload_n 0, 1) := dq_42 (by decide +kernel)
theorem dX4_readNumber_88 : decode cX4_readNumber 88 = .ok (.getfield 12, 3) := dq_180 (a := 0) (b := 12) (by decide +kernel) rfl
theorem dX4_readNumber_91 : decode cX4_readNumber 91 = .ok (.aload_n 0, 1) := dq_42 (by decide +kernel)
theorem dX4_readNumber_92 : decode cX4_readNumber 92 = .ok (.getfield 25, 3) := dq_180 (a := 0) (b := 25) (by decide +kernel) rfl
theorem dX4_readNumber_95 : decode cX4_readNumber 95 = .ok (.invokevirtual 74, 3) := dq_182 (a := 0) (b := 74) (by decide +kernel) rfl
theorem dX4_readNumber_98 : decode cX4_readNumber 98 = .ok (.invokestatic 83, 3) := dq_184 (a := 0) (b := 83) (by decide +kernel) rfl
theorem dX4_readNumber_101 : decode cX4_readNumber 101 = .ok (.ifCond .eq 10, 3) := dq_153 (a := 0) (b := 10) (by decide +kernel) (by decide +kernel)
theorem dX4_readNumber_111 : decode cX4_readNumber 111 = .ok (.aload_n 0, 1) := dq_42 (by decide +kernel)
theorem dX4_readNumber_112 : decode cX4_readNumber 112 = .ok (.aload_n 0, 1) := dq_42 (by decide +kernel)
theorem dX4_readNumber_113 : decode cX4_readNumber 113 = .ok (.getfield 25, 3) := dq_180 (a := 0) (b := 25) (by decide +kernel) rfl
theorem dX4_readNumber_116 : decode cX4_readNumber 116 = .ok (.iconst 1, 1) := dq_4 (by decide +kernel)
theorem dX4_readNumber_117 : decode cX4_readNumber 117 = .ok (.invokevirtual 47, 3) := dq_182 (a := 0) (b := 47) (by decide +kernel) rfl
theorem dX4_readNumber_120 : decode cX4_readNumber 120 = .ok (.iload_n 1, 1) := dq_27 (by decide +kernel)
theorem dX4_readNumber_121 : decode cX4_readNumber 121 = .ok (.ireturn, 1) := dq_172 (by decide +kernel)
theorem dX4_readNumber_104 : decode cX4_readNumber 104 = .ok (.aload_n 0, 1) := dq_42 (by decide +kernel)
theorem dX4_readNumber_105 : decode cX4_readNumber 105 = .ok (.invokevirtual 51, 3) := dq_182 (a := 0) (b := 51) (by decide +kernel) rfl
theorem dX4_readNumber_108 : decode cX4_readNumber 108 = .ok (.pop, 1) := dq_87 (by decide +kernel)
theorem dX4_readNumber_109 : decode cX4_readNumber 109 = .ok (.iconst (-1), 1) := dq_2 (by decide +kernel)
theorem dX4_readNumber_110 : decode cX4_readNumber 110 = .ok (.ireturn, 1) := dq_172 (by decide +kernel)
theorem dX4_readNumber_51 : decode cX4_readNumber 51 = .ok (.bipush 10, 2) := dq_16 (a := 10) (by decide +kernel) (by decide +kernel)
theorem dX4_readNumber_53 : decode cX4_readNumber 53 = .ok (.iload_n 1, 1) := dq_27 (by decide +kernel)
theorem dX4_readNumber_54 : decode cX4_readNumber 54 = .ok (.imul, 1) := dq_104 (by decide +kernel)
theorem dX4_readNumber_55 : decode cX4_readNumber 55 = .ok (.aload_n 0, 1) := dq_42 (by decide +kernel)
theorem dX4_readNumber_56 : decode cX4_readNumber 56 = .ok (.getfield 12, 3) := dq_180 (a := 0) (b := 12) (by decide +kernel) rfl
theorem dX4_readNumber_59 : decode cX4_readNumber 59 = .ok (.aload_n 0, 1) := dq_42 (by decide +kernel)
theorem dX4_readNumber_60 : decode cX4_readNumber 60 = .ok (.getfield 25, 3) := dq_180 (a := 0) (b := 25) (by decide +kernel) rfl
theorem dX4_readNumber_63 : decode cX4_readNumber 63 = .ok (.invokevirtual 74, 3) := dq_182 (a := 0) (b := 74) (by decide +kernel) rfl
theorem dX4_readNumber_66 : decode cX4_readNumber 66 = .ok (.iadd, 1) := dq_96 (by decide +kernel)
theorem dX4_readNumber_67 : decode cX4_readNumber 67 = .ok (.bipush 48, 2) := dq_16 (a := 48) (by decide +kernel) (by decide +kernel)
theorem dX4_readNumber_69 : decode cX4_readNumber 69 = .ok (.isub, 1) := dq_100 (by decide +kernel)
theorem dX4_readNumber_70 : decode cX4_readNumber 70 = .ok (.istore_n 1, 1) := dq_60 (by decide +kernel)
theorem dX4_readNumber_71 : decode cX4_readNumber 71 = .ok (.aload_n 0, 1) := dq_42 (by decide +kernel)
theorem dX4_readNumber_72 : decode cX4_readNumber 72 = .ok (.dup, 1) := dq_89 (by decide +kernel)
theorem dX4_readNumber_73 : decode cX4_readNumber 73 = .ok (.getfield 25, 3) := dq_180 (a := 0) (b := 25) (by decide +kernel) rfl
theorem dX4_readNumber_76 : decode cX4_readNumber 76 = .ok (.iconst 1, 1) := dq_4 (by decide +kernel)
theorem dX4_readNumber_77 : decode cX4_readNumber 77 = .ok (.iadd, 1) := dq_96 (by decide +kernel)
theorem dX4_readNumber_78 : decode cX4_readNumber 78 = .ok (.putfield 25, 3) := dq_181 (a := 0) (b := 25) (by decide +kernel) rfl
theorem dX4_readNumber_81 : decode cX4_readNumber 81 = .ok (.iinc 2 1, 3) := dq_132 (a := 2) (b := 1) (by decide +kernel) rfl (by decide +kernel)
theorem dX4_readNumber_84 : decode cX4_readNumber 84 = .ok (.goto (-55), 3) := dq_167 (a := 255) (b := 201) (by decide +kernel) (by decide +kernel)
theorem dX4_readNumber_10 : decode cX4_readNumber 10 = .ok (.aload_n 0, 1) := dq_42 (by decide +kernel)
theorem dX4_readNumber_11 : decode cX4_readNumber 11 = .ok (.invokevirtual 51, 3) := dq_182 (a := 0) (b := 51) (by decide +kernel) rfl
theorem dX4_readNumber_14 : decode cX4_readNumber 14 = .ok (.pop, 1) := dq_87 (by decide +kernel)
theorem dX4_readNumber_15 : decode cX4_readNumber 15 = .ok (.iconst (-1), 1) := dq_2 (by decide +kernel)
theorem dX4_readNumber_16 : decode cX4_readNumber 16 = .ok (.ireturn, 1) := dq_172 (by decide +kernel)
theorem dX4_readBetween_4 : decode cX4_readBetween 4 = .ok (.istore_n 3, 1) := dq_62 (by decide +kernel)
theorem dX4_readBetween_5 : decode cX4_readBetween 5 = .ok (.iload_n 3, 1) := dq_29 (by decide +kernel)
theorem dX4_readBetween_6 : decode cX4_readBetween 6 = .ok (.iconst (-1), 1) := dq_2 (by decide +kernel)
theorem dX4_readBetween_7 : decode cX4_readBetween 7 = .ok (.if_icmp .eq 25, 3) := dq_159 (a := 0) (b := 25) (by decide +kernel) (by decide +kernel)
theorem dX4_readBetween_32 : decode cX4_readBetween 32 = .ok (.iload_n 3, 1) := dq_29 (by decide +kernel)
theorem dX4_readBetween_33 : decode cX4_readBetween 33 = .ok (.ireturn, 1) := dq_172 (by decide +kernel)
theorem dX4_readBetween_10 : decode cX4_readBetween 10 = .ok (.iload_n 3, 1) := dq_29 (by decide +kernel)
theorem dX4_readBetween_11 : decode cX4_readBetween 11 = .ok (.iload_n 1, 1) := dq_27 (by decide +kernel)
theorem dX4_readBetween_12 : decode cX4_readBetween 12 = .ok (.if_icmp .lt 8, 3) := dq_161 (a := 0) (b := 8) (by decide +kernel) (by decide +kernel)
theorem dX4_readBetween_20 : decode cX4_readBetween 20 = .ok (.aload_n 0, 1) := dq_42 (by decide +kernel)
theorem dX4_readBetween_21 : decode cX4_readBetween 21 = .ok (.iconst 2, 1) := dq_5 (by decide +kernel)
theorem dX4_readBetween_22 : decode cX4_readBetween 22 = .ok (.aload_n 0, 1) := dq_42 (by decide +kernel)
theorem dX4_readBetween_23 : decode cX4_readBetween 23 = .ok (.getfield 32, 3) := dq_180 (a := 0) (b := 32) (by decide +kernel) rfl
theorem dX4_readBetween_26 : decode cX4_readBetween 26 = .ok (.invokevirtual 55, 3) := dq_182 (a := 0) (b := 55) (by decide +kernel) rfl
theorem dX4_readBetween_29 : decode cX4_readBetween 29 = .ok (.pop, 1) := dq_87 (by decide +kernel)
theorem dX4_readBetween_30 : decode cX4_readBetween 30 = .ok (.iconst (-1), 1) := dq_2 (by decide +kernel)
theorem dX4_readBetween_31 : decode cX4_readBetween 31 = .ok (.ireturn, 1) := dq_172 (by decide +kernel)
theorem dX4_readBetween_15 : decode cX4_readBetween 15 = .ok (.iload_n 3, 1) := dq_29 (by decide +kernel)
theorem dX4_readBetween_16 : decode cX4_readBetween 16 = .ok (.iload_n 2, 1) := dq_28 (by decide +kernel)
theorem dX4_readBetween_17 : decode cX4_readBetween 17 = .ok (.if_icmp .le 15, 3) := dq_164 (a := 0) (b := 15) (by decide +kernel) (by decide +kernel)
theorem dX4_readSizes_11 : decode cX4_readSizes 11 = .ok (.putfield 160, 3) := dq_181 (a := 0) (b := 160) (by decide +kernel) rfl
theorem dX4_readSizes_14 : decode cX4_readSizes 14 = .ok (.aload_n 0, 1) := dq_42 (by decide +kernel)
theorem dX4_readSizes_15 : decode cX4_readSizes 15 = .ok (.getfield 21, 3) := dq_180 (a := 0) (b := 21) (by decide +kernel) rfl
theorem dX4_readSizes_18 : decode cX4_readSizes 18 = .ok (.getfield 160, 3) := dq_180 (a := 0) (b := 160) (by decide +kernel) rfl
theorem dX4_readSizes_21 : decode cX4_readSizes 21 = .ok (.iconst (-1), 1) := dq_2 (by decide +kernel)
theorem dX4_readSizes_22 : decode cX4_readSizes 22 = .ok (.if_icmp .ne 5, 3) := dq_160 (a := 0) (b := 5) (by decide +kernel) (by decide +kernel)
theorem dX4_readSizes_27 : decode cX4_readSizes 27 = .ok (.aload_n 0, 1) := dq_42 (by decide +kernel)
theorem dX4_readSizes_28 : decode cX4_readSizes 28 = .ok (.getfield 21, 3) := dq_180 (a := 0) (b := 21) (by decide +kernel) rfl
theorem dX4_readSizes_31 : decode cX4_readSizes 31 = .ok (.aload_n 0, 1) := dq_42 (by decide +kernel)
theorem dX4_readSizes_32 : decode cX4_readSizes 32 = .ok (.iconst 1, 1) := dq_4 (by decide +kernel)
theorem dX4_readSizes_33 : decode cX4_readSizes 33 = .ok (.iconst 5, 1) := dq_8 (by decide +kernel)
theorem dX4_readSizes_34 : decode cX4_readSizes 34 = .ok (.invokevirtual 156, 3) := dq_182 (a := 0) (b := 156) (by decide +kernel) rfl
theorem dX4_readSizes_37 : decode cX4_readSizes 37 = .ok (.putfield 163, 3) := dq_181 (a := 0) (b := 163) (by decide +kernel) rfl
theorem dX4_readSizes_40 : decode cX4_readSizes 40 = .ok (.aload_n 0, 1) := dq_42 (by decide +kernel)
theorem dX4_readSizes_41 : decode cX4_readSizes 41 = .ok (.getfield 21, 3) := dq_180 (a := 0) (b := 21) (by decide +kernel) rfl
theorem dX4_readSizes_44 : decode cX4_readSizes 44 = .ok (.getfield 163, 3) := dq_180 (a := 0) (b := 163) (by decide +kernel) rfl
theorem dX4_readSizes_47 : decode cX4_readSizes 47 = .ok (.iconst (-1), 1) := dq_2 (by decide +kernel)
theorem dX4_readSizes_48 : decode cX4_readSizes 48 = .ok (.if_icmp .ne 5, 3) := dq_160 (a := 0) (b := 5) (by decide +kernel) (by decide +kernel)
theorem dX4_readSizes_53 : decode cX4_readSizes 53 = .ok (.aload_n 0, 1) := dq_42 (by decide +kernel)
theorem dX4_readSizes_54 : decode cX4_readSizes 54 = .ok (.getfield 21, 3) := dq_180 (a := 0) (b := 21) (by decide +kernel) rfl
theorem dX4_readSizes_57 : decode cX4_readSizes 57 = .ok (.aload_n 0, 1) := dq_42 (by decide +kernel)
theorem dX4_readSizes_58 : decode cX4_readSizes 58 = .ok (.iconst 1, 1) := dq_4 (by decide +kernel)
theorem dX4_readSizes_59 : decode cX4_readSizes 59 = .ok (.bipush 6, 2) := dq_16 (a := 6) (by decide +kernel) (by decide +kernel)
theorem dX4_readSizes_61 : decode cX4_readSizes 61 = .ok (.invokevirtual 156, 3) := dq_182 (a := 0) (b := 156) (by decide +kernel) rfl
theorem dX4_readSizes_64 : decode cX4_readSizes 64 = .ok (.putfield 120, 3) := dq_181 (a := 0) (b := 120) (by decide +kernel) rfl
theorem dX4_readSizes_67 : decode cX4_readSizes 67 = .ok (.aload_n 0, 1) := dq_42 (by decide +kernel)
theorem dX4_readSizes_68 : decode cX4_readSizes 68 = .ok (.getfield 21, 3) := dq_180 (a := 0) (b := 21) (by decide +kernel) rfl
theorem dX4_readSizes_71 : decode cX4_readSizes 71 = .ok (.getfield 120, 3) := dq_180 (a := 0) (b := 120) (by decide +kernel) rfl
theorem dX4_readSizes_74 : decode cX4_readSizes 74 = .ok (.iconst (-1), 1) := dq_2 (by decide +kernel)
theorem dX4_readSizes_75 : decode cX4_readSizes 75 = .ok (.if_icmp .eq 7, 3) := dq_159 (a := 0) (b := 7) (by decide +kernel) (by decide +kernel)
theorem dX4_readSizes_82 : decode cX4_readSizes 82 = .ok (.iconst 0, 1) := dq_3 (by decide +kernel)
theorem dX4_readSizes_83 : decode cX4_readSizes 83 = .ok (.ireturn, 1) := dq_172 (by decide +kernel)
theorem dX4_readSizes_78 : decode cX4_readSizes 78 = .ok (.iconst 1, 1) := dq_4 (by decide +kernel)
theorem dX4_readSizes_79 : decode cX4_readSizes 79 = .ok (.goto 4, 3) := dq_167 (a := 0) (b := 4) (by decide +kernel) (by decide +kernel)
theorem dX4_readSizes_51 : decode cX4_readSizes 51 = .ok (.iconst 0, 1) := dq_3 (by decide +kernel)
theorem dX4_readSizes_52 : decode cX4_readSizes 52 = .ok (.ireturn, 1) := dq_172 (by decide +kernel)
theorem dX4_readSizes_25 : decode cX4_readSizes 25 = .ok (.iconst 0, 1) := dq_3 (by decide +kernel)
theorem dX4_readSizes_26 : decode cX4_readSizes 26 = .ok (.ireturn, 1) := dq_172 (by decide +kernel)
theorem dX4_readStatement_17 : decode cX4_readStatement 17 = .ok (.ifCond .eq 7, 3) := dq_153 (a := 0) (b := 7) (by decide +kernel) (by decide +kernel)
theorem dX4_readStatement_20 : decode cX4_readStatement 20 = .ok (.iconst 1, 1) := dq_4 (by decide +kernel)
theorem dX4_readStatement_21 : decode cX4_readStatement 21 = .ok (.goto 4, 3) := dq_167 (a := 0) (b := 4) (by decide +kernel) (by decide +kernel)
theorem dX4_readHouse_90 : decode cX4_readHouse 90 = .ok (.ifCond .eq 12, 3) := dq_153 (a := 0) (b := 12) (by decide +kernel) (by decide +kernel)
theorem dX4_readHouse_102 : decode cX4_readHouse 102 = .ok (.iconst 0, 1) := dq_3 (by decide +kernel)
theorem dX4_readHouse_103 : decode cX4_readHouse 103 = .ok (.ireturn, 1) := dq_172 (by decide +kernel)
theorem dX4_readHouse_93 : decode cX4_readHouse 93 = .ok (.aload_n 0, 1) := dq_42 (by decide +kernel)
theorem dX4_readHouse_94 : decode cX4_readHouse 94 = .ok (.bipush 59, 2) := dq_16 (a := 59) (by decide +kernel) (by decide +kernel)
theorem dX4_readHouse_96 : decode cX4_readHouse 96 = .ok (.invokevirtual 63, 3) := dq_182 (a := 0) (b := 63) (by decide +kernel) rfl
theorem dX4_readSign_0 : decode cX4_readSign 0 = .ok (.aload_n 0, 1) := dq_42 (by decide +kernel)
theorem dX4_readSign_1 : decode cX4_readSign 1 = .ok (.getfield 29, 3) := dq_180 (a := 0) (b := 29) (by decide +kernel) rfl
theorem dX4_readSign_4 : decode cX4_readSign 4 = .ok (.iload_n 1, 1) := dq_27 (by decide +kernel)
theorem dX4_readSign_5 : decode cX4_readSign 5 = .ok (.if_icmp .eq 8, 3) := dq_159 (a := 0) (b := 8) (by decide +kernel) (by decide +kernel)
theorem dX4_readSign_13 : decode cX4_readSign 13 = .ok (.aload_n 0, 1) := dq_42 (by decide +kernel)
theorem dX4_readSign_14 : decode cX4_readSign 14 = .ok (.aload_n 0, 1) := dq_42 (by decide +kernel)
theorem dX4_readSign_15 : decode cX4_readSign 15 = .ok (.getfield 25, 3) := dq_180 (a := 0) (b := 25) (by decide +kernel) rfl
theorem dX4_readSign_18 : decode cX4_readSign 18 = .ok (.iconst 1, 1) := dq_4 (by decide +kernel)
theorem dX4_readSign_19 : decode cX4_readSign 19 = .ok (.iadd, 1) := dq_96 (by decide +kernel)
theorem dX4_readSign_20 : decode cX4_readSign 20 = .ok (.iconst 0, 1) := dq_3 (by decide +kernel)
theorem dX4_readSign_21 : decode cX4_readSign 21 = .ok (.invokevirtual 47, 3) := dq_182 (a := 0) (b := 47) (by decide +kernel) rfl
theorem dX4_readSign_24 : decode cX4_readSign 24 = .ok (.iconst 1, 1) := dq_4 (by decide +kernel)
theorem dX4_readSign_25 : decode cX4_readSign 25 = .ok (.ireturn, 1) := dq_172 (by decide +kernel)
theorem dX4_readSign_8 : decode cX4_readSign 8 = .ok (.aload_n 0, 1) := dq_42 (by decide +kernel)
theorem dX4_readSign_9 : decode cX4_readSign 9 = .ok (.invokevirtual 51, 3) := dq_182 (a := 0) (b := 51) (by decide +kernel) rfl
theorem dX4_readSign_12 : decode cX4_readSign 12 = .ok (.ireturn, 1) := dq_172 (by decide +kernel)
theorem dX4_readHouse_99 : decode cX4_readHouse 99 = .ok (.ifCond .ne 5, 3) := dq_154 (a := 0) (b := 5) (by decide +kernel) (by decide +kernel)
theorem dX4_readHouse_104 : decode cX4_readHouse 104 = .ok (.aload_n 0, 1) := dq_42 (by decide +kernel)
theorem dX4_readHouse_105 : decode cX4_readHouse 105 = .ok (.getfield 21, 3) := dq_180 (a := 0) (b := 21) (by decide +kernel) rfl
theorem dX4_readHouse_108 : decode cX4_readHouse 108 = .ok (.iload_n 1, 1) := dq_27 (by decide +kernel)
theorem dX4_readHouse_109 : decode cX4_readHouse 109 = .ok (.iconst 1, 1) := dq_4 (by decide +kernel)
theorem dX4_readHouse_110 : decode cX4_readHouse 110 = .ok (.iadd, 1) := dq_96 (by decide +kernel)
theorem dX4_readHouse_111 : decode cX4_readHouse 111 = .ok (.putfield 67, 3) := dq_181 (a := 0) (b := 67) (by decide +kernel) rfl
theorem dX4_readHouse_114 : decode cX4_readHouse 114 = .ok (.iinc 1 1, 3) := dq_132 (a := 1) (b := 1) (by decide +kernel) rfl (by decide +kernel)
theorem dX4_readHouse_117 : decode cX4_readHouse 117 = .ok (.goto (-87), 3) := dq_167 (a := 255) (b := 169) (by decide +kernel) (by decide +kernel)
theorem dX4_readHouse_44 : decode cX4_readHouse 44 = .ok (.iload_n 1, 1) := dq_27 (by decide +kernel)
theorem dX4_readHouse_45 : decode cX4_readHouse 45 = .ok (.ifCond .gt 10, 3) := dq_157 (a := 0) (b := 10) (by decide +kernel) (by decide +kernel)
theorem dX4_readHouse_48 : decode cX4_readHouse 48 = .ok (.aload_n 0, 1) := dq_42 (by decide +kernel)
theorem dX4_readHouse_49 : decode cX4_readHouse 49 = .ok (.invokevirtual 51, 3) := dq_182 (a := 0) (b := 51) (by decide +kernel) rfl
theorem dX4_readHouse_52 : decode cX4_readHouse 52 = .ok (.ifCond .eq 7, 3) := dq_153 (a := 0) (b := 7) (by decide +kernel) (by decide +kernel)
theorem dX4_readHouse_59 : decode cX4_readHouse 59 = .ok (.iconst 0, 1) := dq_3 (by decide +kernel)
theorem dX4_readHouse_60 : decode cX4_readHouse 60 = .ok (.ireturn, 1) := dq_172 (by decide +kernel)
theorem dX4_readHouse_86 : decode cX4_readHouse 86 = .ok (.iconst 0, 1) := dq_3 (by decide +kernel)
theorem dX4_readStatement_26 : decode cX4_readStatement 26 = .ok (.aload_n 0, 1) := dq_42 (by decide +kernel)
theorem dX4_readStatement_27 : decode cX4_readStatement 27 = .ok (.ldc 115, 2) := dq_18 (a := 115) (by decide +kernel) rfl
theorem dX4_readStatement_29 : decode cX4_readStatement 29 = .ok (.invokevirtual 93, 3) := dq_182 (a := 0) (b := 93) (by decide +kernel) rfl
theorem dX4_readStatement_32 : decode cX4_readStatement 32 = .ok (.ifCond .eq 46, 3) := dq_153 (a := 0) (b := 46) (by decide +kernel) (by decide +kernel)
theorem dX4_readStatement_78 : decode cX4_readStatement 78 = .ok (.aload_n 0, 1) := dq_42 (by decide +kernel)
theorem dX4_readStatement_79 : decode cX4_readStatement 79 = .ok (.ldc 129, 2) := dq_18 (a := 129) (by decide +kernel) rfl
theorem dX4_readStatement_81 : decode cX4_readStatement 81 = .ok (.invokevirtual 93, 3) := dq_182 (a := 0) (b := 93) (by decide +kernel) rfl
theorem dX4_readStatement_84 : decode cX4_readStatement 84 = .ok (.ifCond .eq 41, 3) := dq_153 (a := 0) (b := 41) (by decide +kernel) (by decide +kernel)
theorem dX4_readStatement_125 : decode cX4_readStatement 125 = .ok (.aload_n 0, 1) := dq_42 (by decide +kernel)
theorem dX4_readStatement_126 : decode cX4_readStatement 126 = .ok (.ldc 137, 2) := dq_18 (a := 137) (by decide +kernel) rfl
theorem dX4_readStatement_128 : decode cX4_readStatement 128 = .ok (.invokevirtual 93, 3) := dq_182 (a := 0) (b := 93) (by decide +kernel) rfl
theorem dX4_readStatement_131 : decode cX4_readStatement 131 = .ok (.ifCond .eq 44, 3) := dq_153 (a := 0) (b := 44) (by decide +kernel) (by decide +kernel)
theorem dX4_readStatement_175 : decode cX4_readStatement 175 = .ok (.aload_n 0, 1) := dq_42 (by decide +kernel)
theorem dX4_readStatement_176 : decode cX4_readStatement 176 = .ok (.ldc 151, 2) := dq_18 (a := 151) (by decide +kernel) rfl
theorem dX4_readStatement_178 : decode cX4_readStatement 178 = .ok (.invokevirtual 109, 3) := dq_182 (a := 0) (b := 109) (by decide +kernel) rfl
theorem dX4_readStatement_181 : decode cX4_readStatement 181 = .ok (.ifCond .eq 14, 3) := dq_153 (a := 0) (b := 14) (by decide +kernel) (by decide +kernel)
theorem dX4_readStatement_195 : decode cX4_readStatement 195 = .ok (.iconst 0, 1) := dq_3 (by decide +kernel)
theorem dX4_readStatement_196 : decode cX4_readStatement 196 = .ok (.ireturn, 1) := dq_172 (by decide +kernel)
theorem dX4_readStatement_184 : decode cX4_readStatement 184 = .ok (.aload_n 0, 1) := dq_42 (by decide +kernel)
theorem dX4_readStatement_185 : decode cX4_readStatement 185 = .ok (.invokevirtual 153, 3) := dq_182 (a := 0) (b := 153) (by decide +kernel) rfl
theorem dX4_readLimit_0 : decode cX4_readLimit 0 = .ok (.aload_n 0, 1) := dq_42 (by decide +kernel)
theorem dX4_readLimit_1 : decode cX4_readLimit 1 = .ok (.getfield 21, 3) := dq_180 (a := 0) (b := 21) (by decide +kernel) rfl
theorem dX4_readLimit_4 : decode cX4_readLimit 4 = .ok (.aload_n 0, 1) := dq_42 (by decide +kernel)
theorem dX4_readLimit_5 : decode cX4_readLimit 5 = .ok (.iconst 0, 1) := dq_3 (by decide +kernel)
theorem dX4_readLimit_6 : decode cX4_readLimit 6 = .ok (.sipush 9999, 3) := dq_17 (a := 39) (b := 15) (by decide +kernel) (by decide +kernel)
theorem dX4_readLimit_9 : decode cX4_readLimit 9 = .ok (.invokevirtual 156, 3) := dq_182 (a := 0) (b := 156) (by decide +kernel) rfl
theorem dX4_readLimit_12 : decode cX4_readLimit 12 = .ok (.putfield 191, 3) := dq_181 (a := 0) (b := 191) (by decide +kernel) rfl
theorem dX4_readLimit_15 : decode cX4_readLimit 15 = .ok (.aload_n 0, 1) := dq_42 (by decide +kernel)
theorem dX4_readLimit_16 : decode cX4_readLimit 16 = .ok (.getfield 21, 3) := dq_180 (a := 0) (b := 21) (by decide +kernel) rfl
theorem dX4_readLimit_19 : decode cX4_readLimit 19 = .ok (.getfield 191, 3) := dq_180 (a := 0) (b := 191) (by decide +kernel) rfl
theorem dX4_readLimit_22 : decode cX4_readLimit 22 = .ok (.iconst (-1), 1) := dq_2 (by decide +kernel)
theorem dX4_readLimit_23 : decode cX4_readLimit 23 = .ok (.if_icmp .eq 7, 3) := dq_159 (a := 0) (b := 7) (by decide +kernel) (by decide +kernel)
theorem dX4_readLimit_30 : decode cX4_readLimit 30 = .ok (.iconst 0, 1) := dq_3 (by decide +kernel)
theorem dX4_readLimit_31 : decode cX4_readLimit 31 = .ok (.ireturn, 1) := dq_172 (by decide +kernel)
theorem dX4_readLimit_26 : decode cX4_readLimit 26 = .ok (.iconst 1, 1) := dq_4 (by decide +kernel)
theorem dX4_readLimit_27 : decode cX4_readLimit 27 = .ok (.goto 4, 3) := dq_167 (a := 0) (b := 4) (by decide +kernel) (by decide +kernel)
theorem dX4_readStatement_188 : decode cX4_readStatement 188 = .ok (.ifCond .eq 7, 3) := dq_153 (a := 0) (b := 7) (by decide +kernel) (by decide +kernel)
theorem dX4_readStatement_191 : decode cX4_readStatement 191 = .ok (.iconst 1, 1) := dq_4 (by decide +kernel)
theorem dX4_readStatement_192 : decode cX4_readStatement 192 = .ok (.goto 4, 3) := dq_167 (a := 0) (b := 4) (by decide +kernel) (by decide +kernel)
theorem dX4_readStatement_134 : decode cX4_readStatement 134 = .ok (.aload_n 0, 1) := dq_42 (by decide +kernel)
theorem dX4_readStatement_135 : decode cX4_readStatement 135 = .ok (.aload_n 0, 1) := dq_42 (by decide +kernel)
theorem dX4_readStatement_136 : decode cX4_readStatement 136 = .ok (.getfield 21, 3) := dq_180 (a := 0) (b := 21) (by decide +kernel) rfl
theorem dX4_readStatement_139 : decode cX4_readStatement 139 = .ok (.getfield 139, 3) := dq_180 (a := 0) (b := 139) (by decide +kernel) rfl
theorem dX4_readStatement_142 : decode cX4_readStatement 142 = .ok (.getfield 143, 3) := dq_180 (a := 0) (b := 143) (by decide +kernel) rfl
theorem dX4_readStatement_145 : decode cX4_readStatement 145 = .ok (.bipush 8, 2) := dq_16 (a := 8) (by decide +kernel) (by decide +kernel)
theorem dX4_readStatement_147 : decode cX4_readStatement 147 = .ok (.invokevirtual 123, 3) := dq_182 (a := 0) (b := 123) (by decide +kernel) rfl
theorem dX4_hasRoom_0 : decode cX4_hasRoom 0 = .ok (.iload_n 1, 1) := dq_27 (by decide +kernel)
theorem dX4_hasRoom_1 : decode cX4_hasRoom 1 = .ok (.iload_n 2, 1) := dq_28 (by decide +kernel)
theorem dX4_hasRoom_2 : decode cX4_hasRoom 2 = .ok (.if_icmp .lt 15, 3) := dq_161 (a := 0) (b := 15) (by decide +kernel) (by decide +kernel)
theorem dX4_hasRoom_17 : decode cX4_hasRoom 17 = .ok (.iconst 1, 1) := dq_4 (by decide +kernel)
theorem dX4_hasRoom_18 : decode cX4_hasRoom 18 = .ok (.goto 4, 3) := dq_167 (a := 0) (b := 4) (by decide +kernel) (by decide +kernel)
theorem dX4_hasRoom_22 : decode cX4_hasRoom 22 = .ok (.ireturn, 1) := dq_172 (by decide +kernel)
theorem dX4_hasRoom_5 : decode cX4_hasRoom 5 = .ok (.aload_n 0, 1) := dq_42 (by decide +kernel)
theorem dX4_hasRoom_6 : decode cX4_hasRoom 6 = .ok (.iconst 4, 1) := dq_7 (by decide +kernel)
theorem dX4_hasRoom_7 : decode cX4_hasRoom 7 = .ok (.aload_n 0, 1) := dq_42 (by decide +kernel)
theorem dX4_hasRoom_8 : decode cX4_hasRoom 8 = .ok (.getfield 25, 3) := dq_180 (a := 0) (b := 25) (by decide +kernel) rfl
theorem dX4_hasRoom_11 : decode cX4_hasRoom 11 = .ok (.invokevirtual 55, 3) := dq_182 (a := 0) (b := 55) (by decide +kernel) rfl
theorem dX4_hasRoom_14 : decode cX4_hasRoom 14 = .ok (.ifCond .eq 7, 3) := dq_153 (a := 0) (b := 7) (by decide +kernel) (by decide +kernel)
theorem dX4_hasRoom_21 : decode cX4_hasRoom 21 = .ok (.iconst 0, 1) := dq_3 (by decide +kernel)
theorem dX4_readStatement_150 : decode cX4_readStatement 150 = .ok (.ifCond .eq 23, 3) := dq_153 (a := 0) (b := 23) (by decide +kernel) (by decide +kernel)
theorem dX4_readStatement_173 : decode cX4_readStatement 173 = .ok (.iconst 0, 1) := dq_3 (by decide +kernel)
theorem dX4_readStatement_174 : decode cX4_readStatement 174 = .ok (.ireturn, 1) := dq_172 (by decide +kernel)
theorem dX4_readStatement_153 : decode cX4_readStatement 153 = .ok (.aload_n 0, 1) := dq_42 (by decide +kernel)
theorem dX4_readStatement_154 : decode cX4_readStatement 154 = .ok (.ldc 137, 2) := dq_18 (a := 137) (by decide +kernel) rfl
theorem dX4_readStatement_156 : decode cX4_readStatement 156 = .ok (.invokevirtual 109, 3) := dq_182 (a := 0) (b := 109) (by decide +kernel) rfl
theorem dX4_readStatement_159 : decode cX4_readStatement 159 = .ok (.ifCond .eq 14, 3) := dq_153 (a := 0) (b := 14) (by decide +kernel) (by decide +kernel)
theorem dX4_readStatement_162 : decode cX4_readStatement 162 = .ok (.aload_n 0, 1) := dq_42 (by decide +kernel)
theorem dX4_readStatement_163 : decode cX4_readStatement 163 = .ok (.invokevirtual 148, 3) := dq_182 (a := 0) (b := 148) (by decide +kernel) rfl
theorem dX4_readRule_0 : decode cX4_readRule 0 = .ok (.aload_n 0, 1) := dq_42 (by decide +kernel)
theorem dX4_readRule_1 : decode cX4_readRule 1 = .ok (.getfield 21, 3) := dq_180 (a := 0) (b := 21) (by decide +kernel) rfl
theorem dX4_readRule_4 : decode cX4_readRule 4 = .ok (.getfield 139, 3) := dq_180 (a := 0) (b := 139) (by decide +kernel) rfl
theorem dX4_readRule_7 : decode cX4_readRule 7 = .ok (.invokevirtual 193, 3) := dq_182 (a := 0) (b := 193) (by decide +kernel) rfl
theorem dX4_readRule_10 : decode cX4_readRule 10 = .ok (.aload_n 0, 1) := dq_42 (by decide +kernel)
theorem dX4_readRule_11 : decode cX4_readRule 11 = .ok (.invokevirtual 196, 3) := dq_182 (a := 0) (b := 196) (by decide +kernel) rfl
theorem dX4_readSum_0 : decode cX4_readSum 0 = .ok (.aload_n 0, 1) := dq_42 (by decide +kernel)
theorem dX4_readSum_1 : decode cX4_readSum 1 = .ok (.invokevirtual 240, 3) := dq_182 (a := 0) (b := 240) (by decide +kernel) rfl
theorem dX4_readProduct_0 : decode cX4_readProduct 0 = .ok (.aload_n 0, 1) := dq_42 (by decide +kernel)
theorem dX4_readProduct_1 : decode cX4_readProduct 1 = .ok (.invokevirtual 243, 3) := dq_182 (a := 0) (b := 243) (by decide +kernel) rfl
theorem dX4_readPart_0 : decode cX4_readPart 0 = .ok (.aload_n 0, 1) := dq_42 (by decide +kernel)
theorem dX4_readPart_1 : decode cX4_readPart 1 = .ok (.getfield 29, 3) := dq_180 (a := 0) (b := 29) (by decide +kernel) rfl
theorem dX4_readPart_4 : decode cX4_readPart 4 = .ok (.bipush 40, 2) := dq_16 (a := 40) (by decide +kernel) (by decide +kernel)
theorem dX4_readPart_6 : decode cX4_readPart 6 = .ok (.if_icmp .ne 48, 3) := dq_160 (a := 0) (b := 48) (by decide +kernel) (by decide +kernel)
theorem dX4_readPart_54 : decode cX4_readPart 54 = .ok (.aload_n 0, 1) := dq_42 (by decide +kernel)
theorem dX4_readPart_55 : decode cX4_readPart 55 = .ok (.ldc 246, 2) := dq_18 (a := 246) (by decide +kernel) rfl
theorem dX4_readPart_57 : decode cX4_readPart 57 = .ok (.invokevirtual 97, 3) := dq_182 (a := 0) (b := 97) (by decide +kernel) rfl
theorem dX4_readPart_60 : decode cX4_readPart 60 = .ok (.ifCond .eq 9, 3) := dq_153 (a := 0) (b := 9) (by decide +kernel) (by decide +kernel)
theorem dX4_readPart_69 : decode cX4_readPart 69 = .ok (.aload_n 0, 1) := dq_42 (by decide +kernel)
theorem dX4_readPart_70 : decode cX4_readPart 70 = .ok (.ldc 248, 2) := dq_18 (a := 248) (by decide +kernel) rfl
theorem dX4_readPart_72 : decode cX4_readPart 72 = .ok (.invokevirtual 97, 3) := dq_182 (a := 0) (b := 97) (by decide +kernel) rfl
theorem dX4_readPart_75 : decode cX4_readPart 75 = .ok (.ifCond .eq 10, 3) := dq_153 (a := 0) (b := 10) (by decide +kernel) (by decide +kernel)
theorem dX4_readPart_85 : decode cX4_readPart 85 = .ok (.aload_n 0, 1) := dq_42 (by decide +kernel)
theorem dX4_readPart_86 : decode cX4_readPart 86 = .ok (.ldc 250, 2) := dq_18 (a := 250) (by decide +kernel) rfl
theorem dX4_readPart_88 : decode cX4_readPart 88 = .ok (.invokevirtual 97, 3) := dq_182 (a := 0) (b := 97) (by decide +kernel) rfl
theorem dX4_readPart_91 : decode cX4_readPart 91 = .ok (.ifCond .eq 10, 3) := dq_153 (a := 0) (b := 10) (by decide +kernel) (by decide +kernel)
theorem dX4_readPart_101 : decode cX4_readPart 101 = .ok (.aload_n 0, 1) := dq_42 (by decide +kernel)
theorem dX4_readPart_102 : decode cX4_readPart 102 = .ok (.ldc 252, 2) := dq_18 (a := 252) (by decide +kernel) rfl
theorem dX4_readPart_104 : decode cX4_readPart 104 = .ok (.invokevirtual 97, 3) := dq_182 (a := 0) (b := 97) (by decide +kernel) rfl
theorem dX4_readPart_107 : decode cX4_readPart 107 = .ok (.ifCond .eq 25, 3) := dq_153 (a := 0) (b := 25) (by decide +kernel) (by decide +kernel)
theorem dX4_readPart_132 : decode cX4_readPart 132 = .ok (.aload_n 0, 1) := dq_42 (by decide +kernel)
theorem dX4_readPart_133 : decode cX4_readPart 133 = .ok (.ldc_w 257, 3) := dq_19 (a := 1) (b := 1) (by decide +kernel) rfl
theorem dX4_readPart_136 : decode cX4_readPart 136 = .ok (.invokevirtual 97, 3) := dq_182 (a := 0) (b := 97) (by decide +kernel) rfl
theorem dX4_readPart_139 : decode cX4_readPart 139 = .ok (.ifCond .eq 25, 3) := dq_153 (a := 0) (b := 25) (by decide +kernel) (by decide +kernel)
theorem dX4_readPart_164 : decode cX4_readPart 164 = .ok (.aload_n 0, 1) := dq_42 (by decide +kernel)
theorem dX4_readPart_165 : decode cX4_readPart 165 = .ok (.invokevirtual 103, 3) := dq_182 (a := 0) (b := 103) (by decide +kernel) rfl
theorem dX4_readPart_168 : decode cX4_readPart 168 = .ok (.istore_n 1, 1) := dq_60 (by decide +kernel)
theorem dX4_readPart_169 : decode cX4_readPart 169 = .ok (.iload_n 1, 1) := dq_27 (by decide +kernel)
theorem dX4_readPart_170 : decode cX4_readPart 170 = .ok (.iconst (-1), 1) := dq_2 (by decide +kernel)
theorem dX4_readPart_171 : decode cX4_readPart 171 = .ok (.if_icmp .eq 15, 3) := dq_159 (a := 0) (b := 15) (by decide +kernel) (by decide +kernel)
theorem dX4_readPart_186 : decode cX4_readPart 186 = .ok (.iconst 0, 1) := dq_3 (by decide +kernel)
theorem dX4_readPart_187 : decode cX4_readPart 187 = .ok (.ireturn, 1) := dq_172 (by decide +kernel)
theorem dX4_readPart_174 : decode cX4_readPart 174 = .ok (.aload_n 0, 1) := dq_42 (by decide +kernel)
theorem dX4_readPart_175 : decode cX4_readPart 175 = .ok (.iload_n 1, 1) := dq_27 (by decide +kernel)
theorem dX4_readPart_176 : decode cX4_readPart 176 = .ok (.invokevirtual 219, 3) := dq_182 (a := 0) (b := 219) (by decide +kernel) rfl
theorem dX4_adds_0 : decode cX4_adds 0 = .ok (.aload_n 0, 1) := dq_42 (by decide +kernel)
theorem dX4_adds_1 : decode cX4_adds 1 = .ok (.getfield 21, 3) := dq_180 (a := 0) (b := 21) (by decide +kernel) rfl
theorem dX4_adds_4 : decode cX4_adds 4 = .ok (.getfield 139, 3) := dq_180 (a := 0) (b := 139) (by decide +kernel) rfl
theorem dX4_adds_7 : decode cX4_adds 7 = .ok (.iload_n 1, 1) := dq_27 (by decide +kernel)
theorem dX4_adds_8 : decode cX4_adds 8 = .ok (.invokevirtual 210, 3) := dq_182 (a := 0) (b := 210) (by decide +kernel) rfl
theorem dX4_adds_11 : decode cX4_adds 11 = .ok (.iconst 1, 1) := dq_4 (by decide +kernel)
theorem dX4_adds_12 : decode cX4_adds 12 = .ok (.ireturn, 1) := dq_172 (by decide +kernel)
theorem dX4_readPart_179 : decode cX4_readPart 179 = .ok (.ifCond .eq 7, 3) := dq_153 (a := 0) (b := 7) (by decide +kernel) (by decide +kernel)
theorem dX4_readPart_182 : decode cX4_readPart 182 = .ok (.iconst 1, 1) := dq_4 (by decide +kernel)
theorem dX4_readPart_183 : decode cX4_readPart 183 = .ok (.goto 4, 3) := dq_167 (a := 0) (b := 4) (by decide +kernel) (by decide +kernel)
theorem dX4_readPart_142 : decode cX4_readPart 142 = .ok (.aload_n 0, 1) := dq_42 (by decide +kernel)
theorem dX4_readPart_143 : decode cX4_readPart 143 = .ok (.invokevirtual 254, 3) := dq_182 (a := 0) (b := 254) (by decide +kernel) rfl
theorem dX4_readPair_0 : decode cX4_readPair 0 = .ok (.aload_n 0, 1) := dq_42 (by decide +kernel)
theorem dX4_readPair_1 : decode cX4_readPair 1 = .ok (.getfield 29, 3) := dq_180 (a := 0) (b := 29) (by decide +kernel) rfl
theorem dX4_readPair_4 : decode cX4_readPair 4 = .ok (.bipush 40, 2) := dq_16 (a := 40) (by decide +kernel) (by decide +kernel)
theorem dX4_readPair_6 : decode cX4_readPair 6 = .ok (.if_icmp .eq 8, 3) := dq_159 (a := 0) (b := 8) (by decide +kernel) (by decide +kernel)
theorem dX4_readPair_14 : decode cX4_readPair 14 = .ok (.aload_n 0, 1) := dq_42 (by decide +kernel)
theorem dX4_readPair_15 : decode cX4_readPair 15 = .ok (.invokevirtual 229, 3) := dq_182 (a := 0) (b := 229) (by decide +kernel) rfl
theorem dX4_opens_0 : decode cX4_opens 0 = .ok (.aload_n 0, 1) := dq_42 (by decide +kernel)
theorem dX4_opens_1 : decode cX4_opens 1 = .ok (.getfield 35, 3) := dq_180 (a := 0) (b := 35) (by decide +kernel) rfl
theorem dX4_opens_4 : decode cX4_opens 4 = .ok (.bipush 6, 2) := dq_16 (a := 6) (by decide +kernel) (by decide +kernel)
theorem dX4_opens_6 : decode cX4_opens 6 = .ok (.if_icmp .lt 13, 3) := dq_161 (a := 0) (b := 13) (by decide +kernel) (by decide +kernel)
theorem dX4_opens_19 : decode cX4_opens 19 = .ok (.aload_n 0, 1) := dq_42 (by decide +kernel)
theorem dX4_opens_20 : decode cX4_opens 20 = .ok (.dup, 1) := dq_89 (by decide +kernel)
theorem dX4_opens_21 : decode cX4_opens 21 = .ok (.getfield 35, 3) := dq_180 (a := 0) (b := 35) (by decide +kernel) rfl
theorem dX4_opens_24 : decode cX4_opens 24 = .ok (.iconst 1, 1) := dq_4 (by decide +kernel)
theorem dX4_opens_25 : decode cX4_opens 25 = .ok (.iadd, 1) := dq_96 (by decide +kernel)
theorem dX4_opens_26 : decode cX4_opens 26 = .ok (.putfield 35, 3) := dq_181 (a := 0) (b := 35) (by decide +kernel) rfl
theorem dX4_opens_29 : decode cX4_opens 29 = .ok (.iconst 1, 1) := dq_4 (by decide +kernel)
theorem dX4_opens_30 : decode cX4_opens 30 = .ok (.ireturn, 1) := dq_172 (by decide +kernel)
theorem dX4_readPair_18 : decode cX4_readPair 18 = .ok (.ifCond .eq 55, 3) := dq_153 (a := 0) (b := 55) (by decide +kernel) (by decide +kernel)
theorem dX4_readPair_21 : decode cX4_readPair 21 = .ok (.aload_n 0, 1) := dq_42 (by decide +kernel)
theorem dX4_readPair_22 : decode cX4_readPair 22 = .ok (.bipush 40, 2) := dq_16 (a := 40) (by decide +kernel) (by decide +kernel)
theorem dX4_readPair_24 : decode cX4_readPair 24 = .ok (.invokevirtual 63, 3) := dq_182 (a := 0) (b := 63) (by decide +kernel) rfl
theorem dX4_readPair_27 : decode cX4_readPair 27 = .ok (.ifCond .eq 46, 3) := dq_153 (a := 0) (b := 46) (by decide +kernel) (by decide +kernel)
theorem dX4_readPair_73 : decode cX4_readPair 73 = .ok (.iconst 0, 1) := dq_3 (by decide +kernel)
theorem dX4_readPair_74 : decode cX4_readPair 74 = .ok (.ireturn, 1) := dq_172 (by decide +kernel)
theorem dX4_readPair_30 : decode cX4_readPair 30 = .ok (.aload_n 0, 1) := dq_42 (by decide +kernel)
theorem dX4_readPair_31 : decode cX4_readPair 31 = .ok (.invokevirtual 196, 3) := dq_182 (a := 0) (b := 196) (by decide +kernel) rfl
theorem dX4_opens_9 : decode cX4_opens 9 = .ok (.aload_n 0, 1) := dq_42 (by decide +kernel)
theorem dX4_opens_10 : decode cX4_opens 10 = .ok (.iconst 3, 1) := dq_6 (by decide +kernel)
theorem dX4_opens_11 : decode cX4_opens 11 = .ok (.aload_n 0, 1) := dq_42 (by decide +kernel)
theorem dX4_opens_12 : decode cX4_opens 12 = .ok (.getfield 25, 3) := dq_180 (a := 0) (b := 25) (by decide +kernel) rfl
theorem dX4_opens_15 : decode cX4_opens 15 = .ok (.invokevirtual 55, 3) := dq_182 (a := 0) (b := 55) (by decide +kernel) rfl
theorem dX4_opens_18 : decode cX4_opens 18 = .ok (.ireturn, 1) := dq_172 (by decide +kernel)
theorem dX4_readPair_9 : decode cX4_readPair 9 = .ok (.aload_n 0, 1) := dq_42 (by decide +kernel)
theorem dX4_readPair_10 : decode cX4_readPair 10 = .ok (.invokevirtual 51, 3) := dq_182 (a := 0) (b := 51) (by decide +kernel) rfl
theorem dX4_readPair_13 : decode cX4_readPair 13 = .ok (.ireturn, 1) := dq_172 (by decide +kernel)
theorem dX4_readPart_146 : decode cX4_readPart 146 = .ok (.ifCond .eq 16, 3) := dq_153 (a := 0) (b := 16) (by decide +kernel) (by decide +kernel)
theorem dX4_readPart_162 : decode cX4_readPart 162 = .ok (.iconst 0, 1) := dq_3 (by decide +kernel)
theorem dX4_readPart_163 : decode cX4_readPart 163 = .ok (.ireturn, 1) := dq_172 (by decide +kernel)
theorem dX4_readPart_110 : decode cX4_readPart 110 = .ok (.aload_n 0, 1) := dq_42 (by decide +kernel)
theorem dX4_readPart_111 : decode cX4_readPart 111 = .ok (.invokevirtual 254, 3) := dq_182 (a := 0) (b := 254) (by decide +kernel) rfl
theorem dX4_readPart_114 : decode cX4_readPart 114 = .ok (.ifCond .eq 16, 3) := dq_153 (a := 0) (b := 16) (by decide +kernel) (by decide +kernel)
theorem dX4_readPart_130 : decode cX4_readPart 130 = .ok (.iconst 0, 1) := dq_3 (by decide +kernel)
theorem dX4_readPart_131 : decode cX4_readPart 131 = .ok (.ireturn, 1) := dq_172 (by decide +kernel)
theorem dX4_readPart_94 : decode cX4_readPart 94 = .ok (.aload_n 0, 1) := dq_42 (by decide +kernel)
theorem dX4_readPart_95 : decode cX4_readPart 95 = .ok (.bipush (-3), 2) := dq_16 (a := 253) (by decide +kernel) (by decide +kernel)
theorem dX4_readPart_97 : decode cX4_readPart 97 = .ok (.invokevirtual 219, 3) := dq_182 (a := 0) (b := 219) (by decide +kernel) rfl
theorem dX4_readPart_100 : decode cX4_readPart 100 = .ok (.ireturn, 1) := dq_172 (by decide +kernel)
theorem dX4_readPart_78 : decode cX4_readPart 78 = .ok (.aload_n 0, 1) := dq_42 (by decide +kernel)
theorem dX4_readPart_79 : decode cX4_readPart 79 = .ok (.bipush (-2), 2) := dq_16 (a := 254) (by decide +kernel) (by decide +kernel)
theorem dX4_readPart_81 : decode cX4_readPart 81 = .ok (.invokevirtual 219, 3) := dq_182 (a := 0) (b := 219) (by decide +kernel) rfl
theorem dX4_readPart_84 : decode cX4_readPart 84 = .ok (.ireturn, 1) := dq_172 (by decide +kernel)
theorem dX4_readPart_63 : decode cX4_readPart 63 = .ok (.aload_n 0, 1) := dq_42 (by decide +kernel)
theorem dX4_readPart_64 : decode cX4_readPart 64 = .ok (.iconst (-1), 1) := dq_2 (by decide +kernel)
theorem dX4_readPart_65 : decode cX4_readPart 65 = .ok (.invokevirtual 219, 3) := dq_182 (a := 0) (b := 219) (by decide +kernel) rfl
theorem dX4_readPart_68 : decode cX4_readPart 68 = .ok (.ireturn, 1) := dq_172 (by decide +kernel)
theorem dX4_readPart_9 : decode cX4_readPart 9 = .ok (.aload_n 0, 1) := dq_42 (by decide +kernel)
theorem dX4_readPart_10 : decode cX4_readPart 10 = .ok (.invokevirtual 229, 3) := dq_182 (a := 0) (b := 229) (by decide +kernel) rfl
theorem dX4_readPart_13 : decode cX4_readPart 13 = .ok (.ifCond .eq 39, 3) := dq_153 (a := 0) (b := 39) (by decide +kernel) (by decide +kernel)
theorem dX4_readPart_52 : decode cX4_readPart 52 = .ok (.iconst 0, 1) := dq_3 (by decide +kernel)
theorem dX4_readPart_53 : decode cX4_readPart 53 = .ok (.ireturn, 1) := dq_172 (by decide +kernel)
theorem dX4_readProduct_4 : decode cX4_readProduct 4 = .ok (.istore_n 1, 1) := dq_60 (by decide +kernel)
theorem dX4_readProduct_5 : decode cX4_readProduct 5 = .ok (.iconst 0, 1) := dq_3 (by decide +kernel)
theorem dX4_readProduct_6 : decode cX4_readProduct 6 = .ok (.istore_n 2, 1) := dq_61 (by decide +kernel)
theorem dX4_readProduct_7 : decode cX4_readProduct 7 = .ok (.iload_n 2, 1) := dq_28 (by decide +kernel)
theorem dX4_readProduct_8 : decode cX4_readProduct 8 = .ok (.sipush 1600, 3) := dq_17 (a := 6) (b := 64) (by decide +kernel) (by decide +kernel)
theorem dX4_readProduct_11 : decode cX4_readProduct 11 = .ok (.if_icmp .ge 83, 3) := dq_162 (a := 0) (b := 83) (by decide +kernel) (by decide +kernel)
theorem dX4_readProduct_14 : decode cX4_readProduct 14 = .ok (.iload_n 1, 1) := dq_27 (by decide +kernel)
theorem dX4_readProduct_15 : decode cX4_readProduct 15 = .ok (.ifCond .eq 79, 3) := dq_153 (a := 0) (b := 79) (by decide +kernel) (by decide +kernel)
theorem dX4_readProduct_94 : decode cX4_readProduct 94 = .ok (.iload_n 1, 1) := dq_27 (by decide +kernel)
theorem dX4_readProduct_95 : decode cX4_readProduct 95 = .ok (.ireturn, 1) := dq_172 (by decide +kernel)
theorem dX4_readProduct_18 : decode cX4_readProduct 18 = .ok (.aload_n 0, 1) := dq_42 (by decide +kernel)
theorem dX4_readProduct_19 : decode cX4_readProduct 19 = .ok (.bipush 42, 2) := dq_16 (a := 42) (by decide +kernel) (by decide +kernel)
theorem dX4_readProduct_21 : decode cX4_readProduct 21 = .ok (.invokevirtual 100, 3) := dq_182 (a := 0) (b := 100) (by decide +kernel) rfl
theorem dX4_takesSign_0 : decode cX4_takesSign 0 = .ok (.aload_n 0, 1) := dq_42 (by decide +kernel)
theorem dX4_takesSign_1 : decode cX4_takesSign 1 = .ok (.getfield 29, 3) := dq_180 (a := 0) (b := 29) (by decide +kernel) rfl
theorem dX4_takesSign_4 : decode cX4_takesSign 4 = .ok (.iload_n 1, 1) := dq_27 (by decide +kernel)
theorem dX4_takesSign_5 : decode cX4_takesSign 5 = .ok (.if_icmp .ne 7, 3) := dq_160 (a := 0) (b := 7) (by decide +kernel) (by decide +kernel)
theorem dX4_takesSign_12 : decode cX4_takesSign 12 = .ok (.iconst 0, 1) := dq_3 (by decide +kernel)
theorem dX4_takesSign_13 : decode cX4_takesSign 13 = .ok (.istore_n 2, 1) := dq_61 (by decide +kernel)
theorem dX4_takesSign_14 : decode cX4_takesSign 14 = .ok (.iload_n 2, 1) := dq_28 (by decide +kernel)
theorem dX4_takesSign_15 : decode cX4_takesSign 15 = .ok (.ifCond .eq 14, 3) := dq_153 (a := 0) (b := 14) (by decide +kernel) (by decide +kernel)
theorem dX4_takesSign_29 : decode cX4_takesSign 29 = .ok (.iload_n 2, 1) := dq_28 (by decide +kernel)
theorem dX4_takesSign_30 : decode cX4_takesSign 30 = .ok (.ireturn, 1) := dq_172 (by decide +kernel)
theorem dX4_takesSign_8 : decode cX4_takesSign 8 = .ok (.iconst 1, 1) := dq_4 (by decide +kernel)
theorem dX4_takesSign_9 : decode cX4_takesSign 9 = .ok (.goto 4, 3) := dq_167 (a := 0) (b := 4) (by decide +kernel) (by decide +kernel)
theorem dX4_takesSign_18 : decode cX4_takesSign 18 = .ok (.aload_n 0, 1) := dq_42 (by decide +kernel)
theorem dX4_takesSign_19 : decode cX4_takesSign 19 = .ok (.aload_n 0, 1) := dq_42 (by decide +kernel)
theorem dX4_takesSign_20 : decode cX4_takesSign 20 = .ok (.getfield 25, 3) := dq_180 (a := 0) (b := 25) (by decide +kernel) rfl
theorem dX4_takesSign_23 : decode cX4_takesSign 23 = .ok (.iconst 1, 1) := dq_4 (by decide +kernel)
theorem dX4_takesSign_24 : decode cX4_takesSign 24 = .ok (.iadd, 1) := dq_96 (by decide +kernel)
theorem dX4_takesSign_25 : decode cX4_takesSign 25 = .ok (.iconst 0, 1) := dq_3 (by decide +kernel)
theorem dX4_takesSign_26 : decode cX4_takesSign 26 = .ok (.invokevirtual 47, 3) := dq_182 (a := 0) (b := 47) (by decide +kernel) rfl
theorem dX4_readProduct_24 : decode cX4_readProduct 24 = .ok (.ifCond .eq 28, 3) := dq_153 (a := 0) (b := 28) (by decide +kernel) (by decide +kernel)
theorem dX4_readProduct_52 : decode cX4_readProduct 52 = .ok (.aload_n 0, 1) := dq_42 (by decide +kernel)
theorem dX4_readProduct_53 : decode cX4_readProduct 53 = .ok (.bipush 47, 2) := dq_16 (a := 47) (by decide +kernel) (by decide +kernel)
theorem dX4_readProduct_55 : decode cX4_readProduct 55 = .ok (.invokevirtual 100, 3) := dq_182 (a := 0) (b := 100) (by decide +kernel) rfl
theorem dX4_readProduct_58 : decode cX4_readProduct 58 = .ok (.ifCond .eq 28, 3) := dq_153 (a := 0) (b := 28) (by decide +kernel) (by decide +kernel)
theorem dX4_readProduct_86 : decode cX4_readProduct 86 = .ok (.iconst 1, 1) := dq_4 (by decide +kernel)
theorem dX4_readProduct_87 : decode cX4_readProduct 87 = .ok (.ireturn, 1) := dq_172 (by decide +kernel)
theorem dX4_readProduct_61 : decode cX4_readProduct 61 = .ok (.aload_n 0, 1) := dq_42 (by decide +kernel)
theorem dX4_readProduct_62 : decode cX4_readProduct 62 = .ok (.invokevirtual 243, 3) := dq_182 (a := 0) (b := 243) (by decide +kernel) rfl
theorem dX4_readProduct_65 : decode cX4_readProduct 65 = .ok (.ifCond .eq 16, 3) := dq_153 (a := 0) (b := 16) (by decide +kernel) (by decide +kernel)
theorem dX4_readProduct_81 : decode cX4_readProduct 81 = .ok (.iconst 0, 1) := dq_3 (by decide +kernel)
theorem dX4_readProduct_82 : decode cX4_readProduct 82 = .ok (.istore_n 1, 1) := dq_60 (by decide +kernel)
theorem dX4_readProduct_83 : decode cX4_readProduct 83 = .ok (.goto 5, 3) := dq_167 (a := 0) (b := 5) (by decide +kernel) (by decide +kernel)
theorem dX4_readProduct_88 : decode cX4_readProduct 88 = .ok (.iinc 2 1, 3) := dq_132 (a := 2) (b := 1) (by decide +kernel) rfl (by decide +kernel)
theorem dX4_readProduct_91 : decode cX4_readProduct 91 = .ok (.goto (-84), 3) := dq_167 (a := 255) (b := 172) (by decide +kernel) (by decide +kernel)
theorem dX4_readProduct_68 : decode cX4_readProduct 68 = .ok (.aload_n 0, 1) := dq_42 (by decide +kernel)
theorem dX4_readProduct_69 : decode cX4_readProduct 69 = .ok (.bipush (-8), 2) := dq_16 (a := 248) (by decide +kernel) (by decide +kernel)
theorem dX4_readProduct_71 : decode cX4_readProduct 71 = .ok (.invokevirtual 219, 3) := dq_182 (a := 0) (b := 219) (by decide +kernel) rfl
theorem dX4_readProduct_74 : decode cX4_readProduct 74 = .ok (.ifCond .eq 7, 3) := dq_153 (a := 0) (b := 7) (by decide +kernel) (by decide +kernel)
theorem dX4_readProduct_77 : decode cX4_readProduct 77 = .ok (.iconst 1, 1) := dq_4 (by decide +kernel)
theorem dX4_readProduct_78 : decode cX4_readProduct 78 = .ok (.goto 4, 3) := dq_167 (a := 0) (b := 4) (by decide +kernel) (by decide +kernel)
theorem dX4_readProduct_27 : decode cX4_readProduct 27 = .ok (.aload_n 0, 1) := dq_42 (by decide +kernel)
theorem dX4_readProduct_28 : decode cX4_readProduct 28 = .ok (.invokevirtual 243, 3) := dq_182 (a := 0) (b := 243) (by decide +kernel) rfl
theorem dX4_readProduct_31 : decode cX4_readProduct 31 = .ok (.ifCond .eq 16, 3) := dq_153 (a := 0) (b := 16) (by decide +kernel) (by decide +kernel)
theorem dX4_readProduct_47 : decode cX4_readProduct 47 = .ok (.iconst 0, 1) := dq_3 (by decide +kernel)
theorem dX4_readProduct_48 : decode cX4_readProduct 48 = .ok (.istore_n 1, 1) := dq_60 (by decide +kernel)
theorem dX4_readProduct_49 : decode cX4_readProduct 49 = .ok (.goto 39, 3) := dq_167 (a := 0) (b := 39) (by decide +kernel) (by decide +kernel)
theorem dX4_readProduct_34 : decode cX4_readProduct 34 = .ok (.aload_n 0, 1) := dq_42 (by decide +kernel)
theorem dX4_readProduct_35 : decode cX4_readProduct 35 = .ok (.bipush (-7), 2) := dq_16 (a := 249) (by decide +kernel) (by decide +kernel)
theorem dX4_readProduct_37 : decode cX4_readProduct 37 = .ok (.invokevirtual 219, 3) := dq_182 (a := 0) (b := 219) (by decide +kernel) rfl
theorem dX4_readProduct_40 : decode cX4_readProduct 40 = .ok (.ifCond .eq 7, 3) := dq_153 (a := 0) (b := 7) (by decide +kernel) (by decide +kernel)
theorem dX4_readProduct_43 : decode cX4_readProduct 43 = .ok (.iconst 1, 1) := dq_4 (by decide +kernel)
theorem dX4_readProduct_44 : decode cX4_readProduct 44 = .ok (.goto 4, 3) := dq_167 (a := 0) (b := 4) (by decide +kernel) (by decide +kernel)
theorem dX4_readSum_4 : decode cX4_readSum 4 = .ok (.istore_n 1, 1) := dq_60 (by decide +kernel)
theorem dX4_readSum_5 : decode cX4_readSum 5 = .ok (.iconst 0, 1) := dq_3 (by decide +kernel)
theorem dX4_readSum_6 : decode cX4_readSum 6 = .ok (.istore_n 2, 1) := dq_61 (by decide +kernel)
theorem dX4_readSum_7 : decode cX4_readSum 7 = .ok (.iload_n 2, 1) := dq_28 (by decide +kernel)
theorem dX4_readSum_8 : decode cX4_readSum 8 = .ok (.sipush 1600, 3) := dq_17 (a := 6) (b := 64) (by decide +kernel) (by decide +kernel)
theorem dX4_readSum_11 : decode cX4_readSum 11 = .ok (.if_icmp .ge 83, 3) := dq_162 (a := 0) (b := 83) (by decide +kernel) (by decide +kernel)
theorem dX4_readSum_14 : decode cX4_readSum 14 = .ok (.iload_n 1, 1) := dq_27 (by decide +kernel)
theorem dX4_readSum_15 : decode cX4_readSum 15 = .ok (.ifCond .eq 79, 3) := dq_153 (a := 0) (b := 79) (by decide +kernel) (by decide +kernel)
theorem dX4_readSum_94 : decode cX4_readSum 94 = .ok (.iload_n 1, 1) := dq_27 (by decide +kernel)
theorem dX4_readSum_95 : decode cX4_readSum 95 = .ok (.ireturn, 1) := dq_172 (by decide +kernel)
theorem dX4_readSum_18 : decode cX4_readSum 18 = .ok (.aload_n 0, 1) := dq_42 (by decide +kernel)
theorem dX4_readSum_19 : decode cX4_readSum 19 = .ok (.bipush 43, 2) := dq_16 (a := 43) (by decide +kernel) (by decide +kernel)
theorem dX4_readSum_21 : decode cX4_readSum 21 = .ok (.invokevirtual 100, 3) := dq_182 (a := 0) (b := 100) (by decide +kernel) rfl
theorem dX4_readSum_24 : decode cX4_readSum 24 = .ok (.ifCond .eq 28, 3) := dq_153 (a := 0) (b := 28) (by decide +kernel) (by decide +kernel)
theorem dX4_readSum_52 : decode cX4_readSum 52 = .ok (.aload_n 0, 1) := dq_42 (by decide +kernel)
theorem dX4_readSum_53 : decode cX4_readSum 53 = .ok (.bipush 45, 2) := dq_16 (a := 45) (by decide +kernel) (by decide +kernel)
theorem dX4_readSum_55 : decode cX4_readSum 55 = .ok (.invokevirtual 100, 3) := dq_182 (a := 0) (b := 100) (by decide +kernel) rfl
theorem dX4_readSum_58 : decode cX4_readSum 58 = .ok (.ifCond .eq 28, 3) := dq_153 (a := 0) (b := 28) (by decide +kernel) (by decide +kernel)
theorem dX4_readSum_86 : decode cX4_readSum 86 = .ok (.iconst 1, 1) := dq_4 (by decide +kernel)
theorem dX4_readSum_87 : decode cX4_readSum 87 = .ok (.ireturn, 1) := dq_172 (by decide +kernel)
theorem dX4_readSum_61 : decode cX4_readSum 61 = .ok (.aload_n 0, 1) := dq_42 (by decide +kernel)
theorem dX4_readSum_62 : decode cX4_readSum 62 = .ok (.invokevirtual 240, 3) := dq_182 (a := 0) (b := 240) (by decide +kernel) rfl
theorem dX4_readSum_65 : decode cX4_readSum 65 = .ok (.ifCond .eq 16, 3) := dq_153 (a := 0) (b := 16) (by decide +kernel) (by decide +kernel)
theorem dX4_readSum_81 : decode cX4_readSum 81 = .ok (.iconst 0, 1) := dq_3 (by decide +kernel)
theorem dX4_readSum_82 : decode cX4_readSum 82 = .ok (.istore_n 1, 1) := dq_60 (by decide +kernel)
theorem dX4_readSum_83 : decode cX4_readSum 83 = .ok (.goto 5, 3) := dq_167 (a := 0) (b := 5) (by decide +kernel) (by decide +kernel)
theorem dX4_readSum_88 : decode cX4_readSum 88 = .ok (.iinc 2 1, 3) := dq_132 (a := 2) (b := 1) (by decide +kernel) rfl (by decide +kernel)
theorem dX4_readSum_91 : decode cX4_readSum 91 = .ok (.goto (-84), 3) := dq_167 (a := 255) (b := 172) (by decide +kernel) (by decide +kernel)
theorem dX4_readSum_68 : decode cX4_readSum 68 = .ok (.aload_n 0, 1) := dq_42 (by decide +kernel)
theorem dX4_readSum_69 : decode cX4_readSum 69 = .ok (.bipush (-6), 2) := dq_16 (a := 250) (by decide +kernel) (by decide +kernel)
theorem dX4_readSum_71 : decode cX4_readSum 71 = .ok (.invokevirtual 219, 3) := dq_182 (a := 0) (b := 219) (by decide +kernel) rfl
theorem dX4_readSum_74 : decode cX4_readSum 74 = .ok (.ifCond .eq 7, 3) := dq_153 (a := 0) (b := 7) (by decide +kernel) (by decide +kernel)
theorem dX4_readSum_77 : decode cX4_readSum 77 = .ok (.iconst 1, 1) := dq_4 (by decide +kernel)
theorem dX4_readSum_78 : decode cX4_readSum 78 = .ok (.goto 4, 3) := dq_167 (a := 0) (b := 4) (by decide +kernel) (by decide +kernel)
theorem dX4_readSum_27 : decode cX4_readSum 27 = .ok (.aload_n 0, 1) := dq_42 (by decide +kernel)
theorem dX4_readSum_28 : decode cX4_readSum 28 = .ok (.invokevirtual 240, 3) := dq_182 (a := 0) (b := 240) (by decide +kernel) rfl
theorem dX4_readSum_31 : decode cX4_readSum 31 = .ok (.ifCond .eq 16, 3) := dq_153 (a := 0) (b := 16) (by decide +kernel) (by decide +kernel)
theorem dX4_readSum_47 : decode cX4_readSum 47 = .ok (.iconst 0, 1) := dq_3 (by decide +kernel)
theorem dX4_readSum_48 : decode cX4_readSum 48 = .ok (.istore_n 1, 1) := dq_60 (by decide +kernel)
theorem dX4_readSum_49 : decode cX4_readSum 49 = .ok (.goto 39, 3) := dq_167 (a := 0) (b := 39) (by decide +kernel) (by decide +kernel)
theorem dX4_readSum_34 : decode cX4_readSum 34 = .ok (.aload_n 0, 1) := dq_42 (by decide +kernel)
theorem dX4_readSum_35 : decode cX4_readSum 35 = .ok (.bipush (-5), 2) := dq_16 (a := 251) (by decide +kernel) (by decide +kernel)
theorem dX4_readSum_37 : decode cX4_readSum 37 = .ok (.invokevirtual 219, 3) := dq_182 (a := 0) (b := 219) (by decide +kernel) rfl
theorem dX4_readSum_40 : decode cX4_readSum 40 = .ok (.ifCond .eq 7, 3) := dq_153 (a := 0) (b := 7) (by decide +kernel) (by decide +kernel)
theorem dX4_readSum_43 : decode cX4_readSum 43 = .ok (.iconst 1, 1) := dq_4 (by decide +kernel)
theorem dX4_readSum_44 : decode cX4_readSum 44 = .ok (.goto 4, 3) := dq_167 (a := 0) (b := 4) (by decide +kernel) (by decide +kernel)
theorem dX4_readPair_34 : decode cX4_readPair 34 = .ok (.ifCond .eq 39, 3) := dq_153 (a := 0) (b := 39) (by decide +kernel) (by decide +kernel)
theorem dX4_readPair_37 : decode cX4_readPair 37 = .ok (.aload_n 0, 1) := dq_42 (by decide +kernel)
theorem dX4_readPair_38 : decode cX4_readPair 38 = .ok (.bipush 44, 2) := dq_16 (a := 44) (by decide +kernel) (by decide +kernel)
theorem dX4_readPair_40 : decode cX4_readPair 40 = .ok (.invokevirtual 63, 3) := dq_182 (a := 0) (b := 63) (by decide +kernel) rfl
theorem dX4_readPair_43 : decode cX4_readPair 43 = .ok (.ifCond .eq 30, 3) := dq_153 (a := 0) (b := 30) (by decide +kernel) (by decide +kernel)
theorem dX4_readPair_46 : decode cX4_readPair 46 = .ok (.aload_n 0, 1) := dq_42 (by decide +kernel)
theorem dX4_readPair_47 : decode cX4_readPair 47 = .ok (.invokevirtual 196, 3) := dq_182 (a := 0) (b := 196) (by decide +kernel) rfl
theorem dX4_readPair_50 : decode cX4_readPair 50 = .ok (.ifCond .eq 23, 3) := dq_153 (a := 0) (b := 23) (by decide +kernel) (by decide +kernel)
theorem dX4_readPair_53 : decode cX4_readPair 53 = .ok (.aload_n 0, 1) := dq_42 (by decide +kernel)
theorem dX4_readPair_54 : decode cX4_readPair 54 = .ok (.bipush 41, 2) := dq_16 (a := 41) (by decide +kernel) (by decide +kernel)
theorem dX4_readPair_56 : decode cX4_readPair 56 = .ok (.invokevirtual 63, 3) := dq_182 (a := 0) (b := 63) (by decide +kernel) rfl
theorem dX4_readPair_59 : decode cX4_readPair 59 = .ok (.ifCond .eq 14, 3) := dq_153 (a := 0) (b := 14) (by decide +kernel) (by decide +kernel)
theorem dX4_readPair_62 : decode cX4_readPair 62 = .ok (.aload_n 0, 1) := dq_42 (by decide +kernel)
theorem dX4_readPair_63 : decode cX4_readPair 63 = .ok (.invokevirtual 232, 3) := dq_182 (a := 0) (b := 232) (by decide +kernel) rfl
theorem dX4_closes_0 : decode cX4_closes 0 = .ok (.aload_n 0, 1) := dq_42 (by decide +kernel)
theorem dX4_closes_1 : decode cX4_closes 1 = .ok (.dup, 1) := dq_89 (by decide +kernel)
theorem dX4_closes_2 : decode cX4_closes 2 = .ok (.getfield 35, 3) := dq_180 (a := 0) (b := 35) (by decide +kernel) rfl
theorem dX4_closes_5 : decode cX4_closes 5 = .ok (.iconst 1, 1) := dq_4 (by decide +kernel)
theorem dX4_closes_6 : decode cX4_closes 6 = .ok (.isub, 1) := dq_100 (by decide +kernel)
theorem dX4_closes_7 : decode cX4_closes 7 = .ok (.putfield 35, 3) := dq_181 (a := 0) (b := 35) (by decide +kernel) rfl
theorem dX4_closes_10 : decode cX4_closes 10 = .ok (.iconst 1, 1) := dq_4 (by decide +kernel)
theorem dX4_closes_11 : decode cX4_closes 11 = .ok (.ireturn, 1) := dq_172 (by decide +kernel)
theorem dX4_readPair_66 : decode cX4_readPair 66 = .ok (.ifCond .eq 7, 3) := dq_153 (a := 0) (b := 7) (by decide +kernel) (by decide +kernel)
theorem dX4_readPair_69 : decode cX4_readPair 69 = .ok (.iconst 1, 1) := dq_4 (by decide +kernel)
theorem dX4_readPair_70 : decode cX4_readPair 70 = .ok (.goto 4, 3) := dq_167 (a := 0) (b := 4) (by decide +kernel) (by decide +kernel)
theorem dX4_readPart_149 : decode cX4_readPart 149 = .ok (.aload_n 0, 1) := dq_42 (by decide +kernel)
theorem dX4_readPart_150 : decode cX4_readPart 150 = .ok (.bipush (-10), 2) := dq_16 (a := 246) (by decide +kernel) (by decide +kernel)
theorem dX4_readPart_152 : decode cX4_readPart 152 = .ok (.invokevirtual 219, 3) := dq_182 (a := 0) (b := 219) (by decide +kernel) rfl
theorem dX4_readPart_155 : decode cX4_readPart 155 = .ok (.ifCond .eq 7, 3) := dq_153 (a := 0) (b := 7) (by decide +kernel) (by decide +kernel)
theorem dX4_readPart_158 : decode cX4_readPart 158 = .ok (.iconst 1, 1) := dq_4 (by decide +kernel)
theorem dX4_readPart_159 : decode cX4_readPart 159 = .ok (.goto 4, 3) := dq_167 (a := 0) (b := 4) (by decide +kernel) (by decide +kernel)
theorem dX4_readPart_117 : decode cX4_readPart 117 = .ok (.aload_n 0, 1) := dq_42 (by decide +kernel)
theorem dX4_readPart_118 : decode cX4_readPart 118 = .ok (.bipush (-9), 2) := dq_16 (a := 247) (by decide +kernel) (by decide +kernel)
theorem dX4_readPart_120 : decode cX4_readPart 120 = .ok (.invokevirtual 219, 3) := dq_182 (a := 0) (b := 219) (by decide +kernel) rfl
theorem dX4_readPart_123 : decode cX4_readPart 123 = .ok (.ifCond .eq 7, 3) := dq_153 (a := 0) (b := 7) (by decide +kernel) (by decide +kernel)
theorem dX4_readPart_126 : decode cX4_readPart 126 = .ok (.iconst 1, 1) := dq_4 (by decide +kernel)
theorem dX4_readPart_127 : decode cX4_readPart 127 = .ok (.goto 4, 3) := dq_167 (a := 0) (b := 4) (by decide +kernel) (by decide +kernel)
theorem dX4_readPart_16 : decode cX4_readPart 16 = .ok (.aload_n 0, 1) := dq_42 (by decide +kernel)
theorem dX4_readPart_17 : decode cX4_readPart 17 = .ok (.bipush 40, 2) := dq_16 (a := 40) (by decide +kernel) (by decide +kernel)
theorem dX4_readPart_19 : decode cX4_readPart 19 = .ok (.invokevirtual 63, 3) := dq_182 (a := 0) (b := 63) (by decide +kernel) rfl
theorem dX4_readPart_22 : decode cX4_readPart 22 = .ok (.ifCond .eq 30, 3) := dq_153 (a := 0) (b := 30) (by decide +kernel) (by decide +kernel)
theorem dX4_readPart_25 : decode cX4_readPart 25 = .ok (.aload_n 0, 1) := dq_42 (by decide +kernel)
theorem dX4_readPart_26 : decode cX4_readPart 26 = .ok (.invokevirtual 196, 3) := dq_182 (a := 0) (b := 196) (by decide +kernel) rfl
theorem dX4_readPart_29 : decode cX4_readPart 29 = .ok (.ifCond .eq 23, 3) := dq_153 (a := 0) (b := 23) (by decide +kernel) (by decide +kernel)
theorem dX4_readPart_32 : decode cX4_readPart 32 = .ok (.aload_n 0, 1) := dq_42 (by decide +kernel)
theorem dX4_readPart_33 : decode cX4_readPart 33 = .ok (.bipush 41, 2) := dq_16 (a := 41) (by decide +kernel) (by decide +kernel)
theorem dX4_readPart_35 : decode cX4_readPart 35 = .ok (.invokevirtual 63, 3) := dq_182 (a := 0) (b := 63) (by decide +kernel) rfl
theorem dX4_readPart_38 : decode cX4_readPart 38 = .ok (.ifCond .eq 14, 3) := dq_153 (a := 0) (b := 14) (by decide +kernel) (by decide +kernel)
theorem dX4_readPart_41 : decode cX4_readPart 41 = .ok (.aload_n 0, 1) := dq_42 (by decide +kernel)
theorem dX4_readPart_42 : decode cX4_readPart 42 = .ok (.invokevirtual 232, 3) := dq_182 (a := 0) (b := 232) (by decide +kernel) rfl
theorem dX4_readPart_45 : decode cX4_readPart 45 = .ok (.ifCond .eq 7, 3) := dq_153 (a := 0) (b := 7) (by decide +kernel) (by decide +kernel)
theorem dX4_readPart_48 : decode cX4_readPart 48 = .ok (.iconst 1, 1) := dq_4 (by decide +kernel)
theorem dX4_readPart_49 : decode cX4_readPart 49 = .ok (.goto 4, 3) := dq_167 (a := 0) (b := 4) (by decide +kernel) (by decide +kernel)
theorem dX4_readRule_14 : decode cX4_readRule 14 = .ok (.ifCond .eq 12, 3) := dq_153 (a := 0) (b := 12) (by decide +kernel) (by decide +kernel)
theorem dX4_readRule_26 : decode cX4_readRule 26 = .ok (.iconst 0, 1) := dq_3 (by decide +kernel)
theorem dX4_readRule_27 : decode cX4_readRule 27 = .ok (.ireturn, 1) := dq_172 (by decide +kernel)
theorem dX4_readRule_17 : decode cX4_readRule 17 = .ok (.aload_n 0, 1) := dq_42 (by decide +kernel)
theorem dX4_readRule_18 : decode cX4_readRule 18 = .ok (.ldc 199, 2) := dq_18 (a := 199) (by decide +kernel) rfl
theorem dX4_readRule_20 : decode cX4_readRule 20 = .ok (.invokevirtual 109, 3) := dq_182 (a := 0) (b := 109) (by decide +kernel) rfl
theorem dX4_readRule_23 : decode cX4_readRule 23 = .ok (.ifCond .ne 5, 3) := dq_154 (a := 0) (b := 5) (by decide +kernel) (by decide +kernel)
theorem dX4_readRule_28 : decode cX4_readRule 28 = .ok (.aload_n 0, 1) := dq_42 (by decide +kernel)
theorem dX4_readRule_29 : decode cX4_readRule 29 = .ok (.getfield 21, 3) := dq_180 (a := 0) (b := 21) (by decide +kernel) rfl
theorem dX4_readRule_32 : decode cX4_readRule 32 = .ok (.getfield 139, 3) := dq_180 (a := 0) (b := 139) (by decide +kernel) rfl
theorem dX4_readRule_35 : decode cX4_readRule 35 = .ok (.invokevirtual 201, 3) := dq_182 (a := 0) (b := 201) (by decide +kernel) rfl
theorem dX4_readRule_38 : decode cX4_readRule 38 = .ok (.aload_n 0, 1) := dq_42 (by decide +kernel)
theorem dX4_readRule_39 : decode cX4_readRule 39 = .ok (.invokevirtual 204, 3) := dq_182 (a := 0) (b := 204) (by decide +kernel) rfl
theorem dX4_readTest_0 : decode cX4_readTest 0 = .ok (.aload_n 0, 1) := dq_42 (by decide +kernel)
theorem dX4_readTest_1 : decode cX4_readTest 1 = .ok (.invokevirtual 214, 3) := dq_182 (a := 0) (b := 214) (by decide +kernel) rfl
theorem dX4_readBoth_0 : decode cX4_readBoth 0 = .ok (.aload_n 0, 1) := dq_42 (by decide +kernel)
theorem dX4_readBoth_1 : decode cX4_readBoth 1 = .ok (.invokevirtual 222, 3) := dq_182 (a := 0) (b := 222) (by decide +kernel) rfl
theorem dX4_readFact_0 : decode cX4_readFact 0 = .ok (.aload_n 0, 1) := dq_42 (by decide +kernel)
theorem lw_d_cX4_comparisonBy_1 : lw_dl cX4_comparisonBy [(1, .tableswitch 36 60 62 #[27, 33, 30], 27)] = true := by decide +kernel
theorem dX4_comparisonBy_1 : decode cX4_comparisonBy 1 = .ok (.tableswitch 36 60 62 #[27, 33, 30], 27) := lw_dr lw_d_cX4_comparisonBy_1 0 rfl
theorem dX4_readFact_1 : decode cX4_readFact 1 = .ok (.ldc 227, 2) := dq_18 (a := 227) (by decide +kernel) rfl
theorem dX4_readFact_3 : decode cX4_readFact 3 = .ok (.invokevirtual 93, 3) := dq_182 (a := 0) (b := 93) (by decide +kernel) rfl
theorem dX4_readFact_6 : decode cX4_readFact 6 = .ok (.ifCond .eq 48, 3) := dq_153 (a := 0) (b := 48) (by decide +kernel) (by decide +kernel)
theorem dX4_readFact_54 : decode cX4_readFact 54 = .ok (.aload_n 0, 1) := dq_42 (by decide +kernel)
theorem dX4_readFact_55 : decode cX4_readFact 55 = .ok (.getfield 29, 3) := dq_180 (a := 0) (b := 29) (by decide +kernel) rfl
theorem dX4_readFact_58 : decode cX4_readFact 58 = .ok (.bipush 91, 2) := dq_16 (a := 91) (by decide +kernel) (by decide +kernel)
theorem dX4_readFact_60 : decode cX4_readFact 60 = .ok (.if_icmp .ne 48, 3) := dq_160 (a := 0) (b := 48) (by decide +kernel) (by decide +kernel)
theorem dX4_readFact_108 : decode cX4_readFact 108 = .ok (.aload_n 0, 1) := dq_42 (by decide +kernel)
theorem dX4_readFact_109 : decode cX4_readFact 109 = .ok (.ldc 235, 2) := dq_18 (a := 235) (by decide +kernel) rfl
theorem dX4_readFact_111 : decode cX4_readFact 111 = .ok (.invokevirtual 97, 3) := dq_182 (a := 0) (b := 97) (by decide +kernel) rfl
theorem dX4_readFact_114 : decode cX4_readFact 114 = .ok (.ifCond .eq 9, 3) := dq_153 (a := 0) (b := 9) (by decide +kernel) (by decide +kernel)
theorem dX4_readFact_123 : decode cX4_readFact 123 = .ok (.aload_n 0, 1) := dq_42 (by decide +kernel)
theorem dX4_readFact_124 : decode cX4_readFact 124 = .ok (.invokevirtual 196, 3) := dq_182 (a := 0) (b := 196) (by decide +kernel) rfl
theorem dX4_readFact_127 : decode cX4_readFact 127 = .ok (.ifCond .ne 5, 3) := dq_154 (a := 0) (b := 5) (by decide +kernel) (by decide +kernel)
theorem dX4_readFact_132 : decode cX4_readFact 132 = .ok (.aload_n 0, 1) := dq_42 (by decide +kernel)
theorem dX4_readFact_133 : decode cX4_readFact 133 = .ok (.getfield 29, 3) := dq_180 (a := 0) (b := 29) (by decide +kernel) rfl
theorem dX4_readFact_136 : decode cX4_readFact 136 = .ok (.invokestatic 237, 3) := dq_184 (a := 0) (b := 237) (by decide +kernel) rfl
theorem dX4_comparisonBy_0 : decode cX4_comparisonBy 0 = .ok (.iload_n 0, 1) := dq_26 (by decide +kernel)
theorem dX4_comparisonBy_28 : decode cX4_comparisonBy 28 = .ok (.bipush (-11), 2) := dq_16 (a := 245) (by decide +kernel) (by decide +kernel)
theorem dX4_comparisonBy_30 : decode cX4_comparisonBy 30 = .ok (.ireturn, 1) := dq_172 (by decide +kernel)
theorem dX4_comparisonBy_34 : decode cX4_comparisonBy 34 = .ok (.bipush (-13), 2) := dq_16 (a := 243) (by decide +kernel) (by decide +kernel)
theorem dX4_comparisonBy_36 : decode cX4_comparisonBy 36 = .ok (.ireturn, 1) := dq_172 (by decide +kernel)
theorem dX4_comparisonBy_31 : decode cX4_comparisonBy 31 = .ok (.bipush (-12), 2) := dq_16 (a := 244) (by decide +kernel) (by decide +kernel)
theorem dX4_comparisonBy_33 : decode cX4_comparisonBy 33 = .ok (.ireturn, 1) := dq_172 (by decide +kernel)
theorem dX4_comparisonBy_37 : decode cX4_comparisonBy 37 = .ok (.iconst 0, 1) := dq_3 (by decide +kernel)
theorem dX4_comparisonBy_38 : decode cX4_comparisonBy 38 = .ok (.ireturn, 1) := dq_172 (by decide +kernel)
theorem dX4_readFact_139 : decode cX4_readFact 139 = .ok (.istore_n 1, 1) := dq_60 (by decide +kernel)
theorem dX4_readFact_140 : decode cX4_readFact 140 = .ok (.iload_n 1, 1) := dq_27 (by decide +kernel)
theorem dX4_readFact_141 : decode cX4_readFact 141 = .ok (.ifCond .ne 8, 3) := dq_154 (a := 0) (b := 8) (by decide +kernel) (by decide +kernel)
theorem dX4_readFact_149 : decode cX4_readFact 149 = .ok (.aload_n 0, 1) := dq_42 (by decide +kernel)
theorem dX4_readFact_150 : decode cX4_readFact 150 = .ok (.aload_n 0, 1) := dq_42 (by decide +kernel)
theorem dX4_readFact_151 : decode cX4_readFact 151 = .ok (.getfield 25, 3) := dq_180 (a := 0) (b := 25) (by decide +kernel) rfl
theorem dX4_readFact_154 : decode cX4_readFact 154 = .ok (.iconst 1, 1) := dq_4 (by decide +kernel)
theorem dX4_readFact_155 : decode cX4_readFact 155 = .ok (.iadd, 1) := dq_96 (by decide +kernel)
theorem dX4_readFact_156 : decode cX4_readFact 156 = .ok (.iconst 0, 1) := dq_3 (by decide +kernel)
theorem dX4_readFact_157 : decode cX4_readFact 157 = .ok (.invokevirtual 47, 3) := dq_182 (a := 0) (b := 47) (by decide +kernel) rfl
theorem dX4_readFact_160 : decode cX4_readFact 160 = .ok (.aload_n 0, 1) := dq_42 (by decide +kernel)
theorem dX4_readFact_161 : decode cX4_readFact 161 = .ok (.invokevirtual 196, 3) := dq_182 (a := 0) (b := 196) (by decide +kernel) rfl
theorem dX4_readFact_164 : decode cX4_readFact 164 = .ok (.ifCond .eq 15, 3) := dq_153 (a := 0) (b := 15) (by decide +kernel) (by decide +kernel)
theorem dX4_readFact_179 : decode cX4_readFact 179 = .ok (.iconst 0, 1) := dq_3 (by decide +kernel)
theorem dX4_readFact_180 : decode cX4_readFact 180 = .ok (.ireturn, 1) := dq_172 (by decide +kernel)
theorem dX4_readFact_167 : decode cX4_readFact 167 = .ok (.aload_n 0, 1) := dq_42 (by decide +kernel)
theorem dX4_readFact_168 : decode cX4_readFact 168 = .ok (.iload_n 1, 1) := dq_27 (by decide +kernel)
theorem dX4_readFact_169 : decode cX4_readFact 169 = .ok (.invokevirtual 219, 3) := dq_182 (a := 0) (b := 219) (by decide +kernel) rfl
theorem dX4_readFact_172 : decode cX4_readFact 172 = .ok (.ifCond .eq 7, 3) := dq_153 (a := 0) (b := 7) (by decide +kernel) (by decide +kernel)
theorem dX4_readFact_175 : decode cX4_readFact 175 = .ok (.iconst 1, 1) := dq_4 (by decide +kernel)
theorem dX4_readFact_176 : decode cX4_readFact 176 = .ok (.goto 4, 3) := dq_167 (a := 0) (b := 4) (by decide +kernel) (by decide +kernel)
theorem dX4_readFact_144 : decode cX4_readFact 144 = .ok (.aload_n 0, 1) := dq_42 (by decide +kernel)
theorem dX4_readFact_145 : decode cX4_readFact 145 = .ok (.invokevirtual 51, 3) := dq_182 (a := 0) (b := 51) (by decide +kernel) rfl
theorem dX4_readFact_148 : decode cX4_readFact 148 = .ok (.ireturn, 1) := dq_172 (by decide +kernel)
theorem dX4_readFact_130 : decode cX4_readFact 130 = .ok (.iconst 0, 1) := dq_3 (by decide +kernel)
theorem dX4_readFact_131 : decode cX4_readFact 131 = .ok (.ireturn, 1) := dq_172 (by decide +kernel)
theorem dX4_readFact_117 : decode cX4_readFact 117 = .ok (.aload_n 0, 1) := dq_42 (by decide +kernel)
theorem dX4_readFact_118 : decode cX4_readFact 118 = .ok (.iconst 1, 1) := dq_4 (by decide +kernel)
theorem dX4_readFact_119 : decode cX4_readFact 119 = .ok (.invokevirtual 219, 3) := dq_182 (a := 0) (b := 219) (by decide +kernel) rfl
theorem dX4_readFact_122 : decode cX4_readFact 122 = .ok (.ireturn, 1) := dq_172 (by decide +kernel)
theorem dX4_readFact_63 : decode cX4_readFact 63 = .ok (.aload_n 0, 1) := dq_42 (by decide +kernel)
theorem dX4_readFact_64 : decode cX4_readFact 64 = .ok (.invokevirtual 229, 3) := dq_182 (a := 0) (b := 229) (by decide +kernel) rfl
theorem dX4_readFact_67 : decode cX4_readFact 67 = .ok (.ifCond .eq 39, 3) := dq_153 (a := 0) (b := 39) (by decide +kernel) (by decide +kernel)
theorem dX4_readFact_70 : decode cX4_readFact 70 = .ok (.aload_n 0, 1) := dq_42 (by decide +kernel)
theorem dX4_readFact_71 : decode cX4_readFact 71 = .ok (.bipush 91, 2) := dq_16 (a := 91) (by decide +kernel) (by decide +kernel)
theorem dX4_readFact_73 : decode cX4_readFact 73 = .ok (.invokevirtual 63, 3) := dq_182 (a := 0) (b := 63) (by decide +kernel) rfl
theorem dX4_readFact_76 : decode cX4_readFact 76 = .ok (.ifCond .eq 30, 3) := dq_153 (a := 0) (b := 30) (by decide +kernel) (by decide +kernel)
theorem dX4_readFact_106 : decode cX4_readFact 106 = .ok (.iconst 0, 1) := dq_3 (by decide +kernel)
theorem dX4_readFact_107 : decode cX4_readFact 107 = .ok (.ireturn, 1) := dq_172 (by decide +kernel)
theorem dX4_readFact_79 : decode cX4_readFact 79 = .ok (.aload_n 0, 1) := dq_42 (by decide +kernel)
theorem dX4_readFact_80 : decode cX4_readFact 80 = .ok (.invokevirtual 204, 3) := dq_182 (a := 0) (b := 204) (by decide +kernel) rfl
theorem dX4_readFact_9 : decode cX4_readFact 9 = .ok (.aload_n 0, 1) := dq_42 (by decide +kernel)
theorem dX4_readFact_10 : decode cX4_readFact 10 = .ok (.invokevirtual 229, 3) := dq_182 (a := 0) (b := 229) (by decide +kernel) rfl
theorem dX4_readFact_13 : decode cX4_readFact 13 = .ok (.ifCond .eq 39, 3) := dq_153 (a := 0) (b := 39) (by decide +kernel) (by decide +kernel)
theorem dX4_readFact_52 : decode cX4_readFact 52 = .ok (.iconst 0, 1) := dq_3 (by decide +kernel)
theorem dX4_readFact_53 : decode cX4_readFact 53 = .ok (.ireturn, 1) := dq_172 (by decide +kernel)
theorem dX4_readBoth_4 : decode cX4_readBoth 4 = .ok (.istore_n 1, 1) := dq_60 (by decide +kernel)
theorem dX4_readBoth_5 : decode cX4_readBoth 5 = .ok (.iconst 0, 1) := dq_3 (by decide +kernel)
theorem dX4_readBoth_6 : decode cX4_readBoth 6 = .ok (.istore_n 2, 1) := dq_61 (by decide +kernel)
theorem dX4_readBoth_7 : decode cX4_readBoth 7 = .ok (.iload_n 2, 1) := dq_28 (by decide +kernel)
theorem dX4_readBoth_8 : decode cX4_readBoth 8 = .ok (.sipush 1600, 3) := dq_17 (a := 6) (b := 64) (by decide +kernel) (by decide +kernel)
theorem dX4_readBoth_11 : decode cX4_readBoth 11 = .ok (.if_icmp .ge 44, 3) := dq_162 (a := 0) (b := 44) (by decide +kernel) (by decide +kernel)
theorem dX4_readBoth_14 : decode cX4_readBoth 14 = .ok (.iload_n 1, 1) := dq_27 (by decide +kernel)
theorem dX4_readBoth_15 : decode cX4_readBoth 15 = .ok (.ifCond .eq 40, 3) := dq_153 (a := 0) (b := 40) (by decide +kernel) (by decide +kernel)
theorem dX4_readBoth_55 : decode cX4_readBoth 55 = .ok (.iload_n 1, 1) := dq_27 (by decide +kernel)
theorem dX4_readBoth_56 : decode cX4_readBoth 56 = .ok (.ireturn, 1) := dq_172 (by decide +kernel)
theorem dX4_readBoth_18 : decode cX4_readBoth 18 = .ok (.aload_n 0, 1) := dq_42 (by decide +kernel)
theorem dX4_readBoth_19 : decode cX4_readBoth 19 = .ok (.ldc 225, 2) := dq_18 (a := 225) (by decide +kernel) rfl
theorem dX4_readBoth_21 : decode cX4_readBoth 21 = .ok (.invokevirtual 97, 3) := dq_182 (a := 0) (b := 97) (by decide +kernel) rfl
theorem dX4_readBoth_24 : decode cX4_readBoth 24 = .ok (.ifCond .eq 31, 3) := dq_153 (a := 0) (b := 31) (by decide +kernel) (by decide +kernel)
theorem dX4_readBoth_27 : decode cX4_readBoth 27 = .ok (.aload_n 0, 1) := dq_42 (by decide +kernel)
theorem dX4_readBoth_28 : decode cX4_readBoth 28 = .ok (.invokevirtual 222, 3) := dq_182 (a := 0) (b := 222) (by decide +kernel) rfl
theorem dX4_readBoth_31 : decode cX4_readBoth 31 = .ok (.ifCond .eq 16, 3) := dq_153 (a := 0) (b := 16) (by decide +kernel) (by decide +kernel)
theorem dX4_readBoth_47 : decode cX4_readBoth 47 = .ok (.iconst 0, 1) := dq_3 (by decide +kernel)
theorem dX4_readBoth_48 : decode cX4_readBoth 48 = .ok (.istore_n 1, 1) := dq_60 (by decide +kernel)
theorem dX4_readBoth_49 : decode cX4_readBoth 49 = .ok (.iinc 2 1, 3) := dq_132 (a := 2) (b := 1) (by decide +kernel) rfl (by decide +kernel)
theorem dX4_readBoth_52 : decode cX4_readBoth 52 = .ok (.goto (-45), 3) := dq_167 (a := 255) (b := 211) (by decide +kernel) (by decide +kernel)
theorem dX4_readBoth_34 : decode cX4_readBoth 34 = .ok (.aload_n 0, 1) := dq_42 (by decide +kernel)
theorem dX4_readBoth_35 : decode cX4_readBoth 35 = .ok (.bipush (-14), 2) := dq_16 (a := 242) (by decide +kernel) (by decide +kernel)
theorem dX4_readBoth_37 : decode cX4_readBoth 37 = .ok (.invokevirtual 219, 3) := dq_182 (a := 0) (b := 219) (by decide +kernel) rfl
theorem dX4_readBoth_40 : decode cX4_readBoth 40 = .ok (.ifCond .eq 7, 3) := dq_153 (a := 0) (b := 7) (by decide +kernel) (by decide +kernel)
theorem dX4_readBoth_43 : decode cX4_readBoth 43 = .ok (.iconst 1, 1) := dq_4 (by decide +kernel)
theorem dX4_readBoth_44 : decode cX4_readBoth 44 = .ok (.goto 4, 3) := dq_167 (a := 0) (b := 4) (by decide +kernel) (by decide +kernel)
theorem dX4_readTest_4 : decode cX4_readTest 4 = .ok (.istore_n 1, 1) := dq_60 (by decide +kernel)
theorem dX4_readTest_5 : decode cX4_readTest 5 = .ok (.iconst 0, 1) := dq_3 (by decide +kernel)
theorem dX4_readTest_6 : decode cX4_readTest 6 = .ok (.istore_n 2, 1) := dq_61 (by decide +kernel)
theorem dX4_readTest_7 : decode cX4_readTest 7 = .ok (.iload_n 2, 1) := dq_28 (by decide +kernel)
theorem dX4_readTest_8 : decode cX4_readTest 8 = .ok (.sipush 1600, 3) := dq_17 (a := 6) (b := 64) (by decide +kernel) (by decide +kernel)
theorem dX4_readTest_11 : decode cX4_readTest 11 = .ok (.if_icmp .ge 44, 3) := dq_162 (a := 0) (b := 44) (by decide +kernel) (by decide +kernel)
theorem dX4_readTest_14 : decode cX4_readTest 14 = .ok (.iload_n 1, 1) := dq_27 (by decide +kernel)
theorem dX4_readTest_15 : decode cX4_readTest 15 = .ok (.ifCond .eq 40, 3) := dq_153 (a := 0) (b := 40) (by decide +kernel) (by decide +kernel)
theorem dX4_readTest_55 : decode cX4_readTest 55 = .ok (.iload_n 1, 1) := dq_27 (by decide +kernel)
theorem dX4_readTest_56 : decode cX4_readTest 56 = .ok (.ireturn, 1) := dq_172 (by decide +kernel)
theorem dX4_readTest_18 : decode cX4_readTest 18 = .ok (.aload_n 0, 1) := dq_42 (by decide +kernel)
theorem dX4_readTest_19 : decode cX4_readTest 19 = .ok (.ldc 217, 2) := dq_18 (a := 217) (by decide +kernel) rfl
theorem dX4_readTest_21 : decode cX4_readTest 21 = .ok (.invokevirtual 97, 3) := dq_182 (a := 0) (b := 97) (by decide +kernel) rfl
theorem dX4_readTest_24 : decode cX4_readTest 24 = .ok (.ifCond .eq 31, 3) := dq_153 (a := 0) (b := 31) (by decide +kernel) (by decide +kernel)
theorem dX4_readTest_27 : decode cX4_readTest 27 = .ok (.aload_n 0, 1) := dq_42 (by decide +kernel)
theorem dX4_readTest_28 : decode cX4_readTest 28 = .ok (.invokevirtual 214, 3) := dq_182 (a := 0) (b := 214) (by decide +kernel) rfl
theorem dX4_readTest_31 : decode cX4_readTest 31 = .ok (.ifCond .eq 16, 3) := dq_153 (a := 0) (b := 16) (by decide +kernel) (by decide +kernel)
theorem dX4_readTest_47 : decode cX4_readTest 47 = .ok (.iconst 0, 1) := dq_3 (by decide +kernel)
theorem dX4_readTest_48 : decode cX4_readTest 48 = .ok (.istore_n 1, 1) := dq_60 (by decide +kernel)
theorem dX4_readTest_49 : decode cX4_readTest 49 = .ok (.iinc 2 1, 3) := dq_132 (a := 2) (b := 1) (by decide +kernel) rfl (by decide +kernel)
theorem dX4_readTest_52 : decode cX4_readTest 52 = .ok (.goto (-45), 3) := dq_167 (a := 255) (b := 211) (by decide +kernel) (by decide +kernel)
theorem dX4_readTest_34 : decode cX4_readTest 34 = .ok (.aload_n 0, 1) := dq_42 (by decide +kernel)
theorem dX4_readTest_35 : decode cX4_readTest 35 = .ok (.bipush (-15), 2) := dq_16 (a := 241) (by decide +kernel) (by decide +kernel)
theorem dX4_readTest_37 : decode cX4_readTest 37 = .ok (.invokevirtual 219, 3) := dq_182 (a := 0) (b := 219) (by decide +kernel) rfl
theorem dX4_readTest_40 : decode cX4_readTest 40 = .ok (.ifCond .eq 7, 3) := dq_153 (a := 0) (b := 7) (by decide +kernel) (by decide +kernel)
theorem dX4_readTest_43 : decode cX4_readTest 43 = .ok (.iconst 1, 1) := dq_4 (by decide +kernel)
theorem dX4_readTest_44 : decode cX4_readTest 44 = .ok (.goto 4, 3) := dq_167 (a := 0) (b := 4) (by decide +kernel) (by decide +kernel)
theorem dX4_readFact_83 : decode cX4_readFact 83 = .ok (.ifCond .eq 23, 3) := dq_153 (a := 0) (b := 23) (by decide +kernel) (by decide +kernel)
theorem dX4_readFact_86 : decode cX4_readFact 86 = .ok (.aload_n 0, 1) := dq_42 (by decide +kernel)
theorem dX4_readFact_87 : decode cX4_readFact 87 = .ok (.bipush 93, 2) := dq_16 (a := 93) (by decide +kernel) (by decide +kernel)
theorem dX4_readFact_89 : decode cX4_readFact 89 = .ok (.invokevirtual 63, 3) := dq_182 (a := 0) (b := 63) (by decide +kernel) rfl
theorem dX4_readFact_92 : decode cX4_readFact 92 = .ok (.ifCond .eq 14, 3) := dq_153 (a := 0) (b := 14) (by decide +kernel) (by decide +kernel)
theorem dX4_readFact_95 : decode cX4_readFact 95 = .ok (.aload_n 0, 1) := dq_42 (by decide +kernel)
theorem dX4_readFact_96 : decode cX4_readFact 96 = .ok (.invokevirtual 232, 3) := dq_182 (a := 0) (b := 232) (by decide +kernel) rfl
theorem dX4_readFact_99 : decode cX4_readFact 99 = .ok (.ifCond .eq 7, 3) := dq_153 (a := 0) (b := 7) (by decide +kernel) (by decide +kernel)
theorem dX4_readFact_102 : decode cX4_readFact 102 = .ok (.iconst 1, 1) := dq_4 (by decide +kernel)
theorem dX4_readFact_103 : decode cX4_readFact 103 = .ok (.goto 4, 3) := dq_167 (a := 0) (b := 4) (by decide +kernel) (by decide +kernel)
theorem dX4_readFact_16 : decode cX4_readFact 16 = .ok (.aload_n 0, 1) := dq_42 (by decide +kernel)
theorem dX4_readFact_17 : decode cX4_readFact 17 = .ok (.ldc 227, 2) := dq_18 (a := 227) (by decide +kernel) rfl
theorem dX4_readFact_19 : decode cX4_readFact 19 = .ok (.invokevirtual 109, 3) := dq_182 (a := 0) (b := 109) (by decide +kernel) rfl
theorem dX4_readFact_22 : decode cX4_readFact 22 = .ok (.ifCond .eq 30, 3) := dq_153 (a := 0) (b := 30) (by decide +kernel) (by decide +kernel)
theorem dX4_readFact_25 : decode cX4_readFact 25 = .ok (.aload_n 0, 1) := dq_42 (by decide +kernel)
theorem dX4_readFact_26 : decode cX4_readFact 26 = .ok (.invokevirtual 222, 3) := dq_182 (a := 0) (b := 222) (by decide +kernel) rfl
theorem dX4_readFact_29 : decode cX4_readFact 29 = .ok (.ifCond .eq 23, 3) := dq_153 (a := 0) (b := 23) (by decide +kernel) (by decide +kernel)
theorem dX4_readFact_32 : decode cX4_readFact 32 = .ok (.aload_n 0, 1) := dq_42 (by decide +kernel)
theorem dX4_readFact_33 : decode cX4_readFact 33 = .ok (.invokevirtual 232, 3) := dq_182 (a := 0) (b := 232) (by decide +kernel) rfl
theorem dX4_readFact_36 : decode cX4_readFact 36 = .ok (.ifCond .eq 16, 3) := dq_153 (a := 0) (b := 16) (by decide +kernel) (by decide +kernel)
theorem dX4_readFact_39 : decode cX4_readFact 39 = .ok (.aload_n 0, 1) := dq_42 (by decide +kernel)
theorem dX4_readFact_40 : decode cX4_readFact 40 = .ok (.bipush (-4), 2) := dq_16 (a := 252) (by decide +kernel) (by decide +kernel)
theorem dX4_readFact_42 : decode cX4_readFact 42 = .ok (.invokevirtual 219, 3) := dq_182 (a := 0) (b := 219) (by decide +kernel) rfl
theorem dX4_readFact_45 : decode cX4_readFact 45 = .ok (.ifCond .eq 7, 3) := dq_153 (a := 0) (b := 7) (by decide +kernel) (by decide +kernel)
theorem dX4_readFact_48 : decode cX4_readFact 48 = .ok (.iconst 1, 1) := dq_4 (by decide +kernel)
theorem dX4_readFact_49 : decode cX4_readFact 49 = .ok (.goto 4, 3) := dq_167 (a := 0) (b := 4) (by decide +kernel) (by decide +kernel)
theorem dX4_readRule_42 : decode cX4_readRule 42 = .ok (.ifCond .ne 5, 3) := dq_154 (a := 0) (b := 5) (by decide +kernel) (by decide +kernel)
theorem dX4_readRule_47 : decode cX4_readRule 47 = .ok (.aload_n 0, 1) := dq_42 (by decide +kernel)
theorem dX4_readRule_48 : decode cX4_readRule 48 = .ok (.getfield 21, 3) := dq_180 (a := 0) (b := 21) (by decide +kernel) rfl
theorem dX4_readRule_51 : decode cX4_readRule 51 = .ok (.getfield 139, 3) := dq_180 (a := 0) (b := 139) (by decide +kernel) rfl
theorem dX4_readRule_54 : decode cX4_readRule 54 = .ok (.invokevirtual 207, 3) := dq_182 (a := 0) (b := 207) (by decide +kernel) rfl
theorem dX4_readRule_57 : decode cX4_readRule 57 = .ok (.iconst 1, 1) := dq_4 (by decide +kernel)
theorem dX4_readRule_58 : decode cX4_readRule 58 = .ok (.ireturn, 1) := dq_172 (by decide +kernel)
theorem dX4_readRule_45 : decode cX4_readRule 45 = .ok (.iconst 0, 1) := dq_3 (by decide +kernel)
theorem dX4_readRule_46 : decode cX4_readRule 46 = .ok (.ireturn, 1) := dq_172 (by decide +kernel)
theorem dX4_readStatement_166 : decode cX4_readStatement 166 = .ok (.ifCond .eq 7, 3) := dq_153 (a := 0) (b := 7) (by decide +kernel) (by decide +kernel)
theorem dX4_readStatement_169 : decode cX4_readStatement 169 = .ok (.iconst 1, 1) := dq_4 (by decide +kernel)
theorem dX4_readStatement_170 : decode cX4_readStatement 170 = .ok (.goto 4, 3) := dq_167 (a := 0) (b := 4) (by decide +kernel) (by decide +kernel)
theorem dX4_readStatement_87 : decode cX4_readStatement 87 = .ok (.aload_n 0, 1) := dq_42 (by decide +kernel)
theorem dX4_readStatement_88 : decode cX4_readStatement 88 = .ok (.aload_n 0, 1) := dq_42 (by decide +kernel)
theorem dX4_readStatement_89 : decode cX4_readStatement 89 = .ok (.getfield 21, 3) := dq_180 (a := 0) (b := 21) (by decide +kernel) rfl
theorem dX4_readStatement_92 : decode cX4_readStatement 92 = .ok (.getfield 131, 3) := dq_180 (a := 0) (b := 131) (by decide +kernel) rfl
theorem dX4_readStatement_95 : decode cX4_readStatement 95 = .ok (.bipush 16, 2) := dq_16 (a := 16) (by decide +kernel) (by decide +kernel)
theorem dX4_readStatement_97 : decode cX4_readStatement 97 = .ok (.invokevirtual 123, 3) := dq_182 (a := 0) (b := 123) (by decide +kernel) rfl
theorem dX4_readStatement_100 : decode cX4_readStatement 100 = .ok (.ifCond .eq 23, 3) := dq_153 (a := 0) (b := 23) (by decide +kernel) (by decide +kernel)
theorem dX4_readStatement_123 : decode cX4_readStatement 123 = .ok (.iconst 0, 1) := dq_3 (by decide +kernel)
theorem dX4_readStatement_124 : decode cX4_readStatement 124 = .ok (.ireturn, 1) := dq_172 (by decide +kernel)
theorem dX4_readStatement_103 : decode cX4_readStatement 103 = .ok (.aload_n 0, 1) := dq_42 (by decide +kernel)
theorem dX4_readStatement_104 : decode cX4_readStatement 104 = .ok (.ldc 129, 2) := dq_18 (a := 129) (by decide +kernel) rfl
theorem dX4_readStatement_106 : decode cX4_readStatement 106 = .ok (.invokevirtual 109, 3) := dq_182 (a := 0) (b := 109) (by decide +kernel) rfl
theorem dX4_readStatement_109 : decode cX4_readStatement 109 = .ok (.ifCond .eq 14, 3) := dq_153 (a := 0) (b := 14) (by decide +kernel) (by decide +kernel)
theorem dX4_readStatement_112 : decode cX4_readStatement 112 = .ok (.aload_n 0, 1) := dq_42 (by decide +kernel)
theorem dX4_readStatement_113 : decode cX4_readStatement 113 = .ok (.invokevirtual 134, 3) := dq_182 (a := 0) (b := 134) (by decide +kernel) rfl
theorem dX4_readLetters_0 : decode cX4_readLetters 0 = .ok (.iconst 0, 1) := dq_3 (by decide +kernel)
theorem dX4_readLetters_1 : decode cX4_readLetters 1 = .ok (.istore_n 1, 1) := dq_60 (by decide +kernel)
theorem dX4_readLetters_2 : decode cX4_readLetters 2 = .ok (.iload_n 1, 1) := dq_27 (by decide +kernel)
theorem dX4_readLetters_3 : decode cX4_readLetters 3 = .ok (.aload_n 0, 1) := dq_42 (by decide +kernel)
theorem dX4_readLetters_4 : decode cX4_readLetters 4 = .ok (.getfield 21, 3) := dq_180 (a := 0) (b := 21) (by decide +kernel) rfl
theorem dX4_readLetters_7 : decode cX4_readLetters 7 = .ok (.getfield 163, 3) := dq_180 (a := 0) (b := 163) (by decide +kernel) rfl
theorem dX4_readLetters_10 : decode cX4_readLetters 10 = .ok (.if_icmp .ge 63, 3) := dq_162 (a := 0) (b := 63) (by decide +kernel) (by decide +kernel)
theorem dX4_readLetters_73 : decode cX4_readLetters 73 = .ok (.aload_n 0, 1) := dq_42 (by decide +kernel)
theorem dX4_readLetters_74 : decode cX4_readLetters 74 = .ok (.getfield 21, 3) := dq_180 (a := 0) (b := 21) (by decide +kernel) rfl
theorem dX4_readLetters_77 : decode cX4_readLetters 77 = .ok (.dup, 1) := dq_89 (by decide +kernel)
theorem dX4_readLetters_78 : decode cX4_readLetters 78 = .ok (.getfield 131, 3) := dq_180 (a := 0) (b := 131) (by decide +kernel) rfl
theorem dX4_readLetters_81 : decode cX4_readLetters 81 = .ok (.iconst 1, 1) := dq_4 (by decide +kernel)
theorem dX4_readLetters_82 : decode cX4_readLetters 82 = .ok (.iadd, 1) := dq_96 (by decide +kernel)
theorem dX4_readLetters_83 : decode cX4_readLetters 83 = .ok (.putfield 131, 3) := dq_181 (a := 0) (b := 131) (by decide +kernel) rfl
theorem dX4_readLetters_86 : decode cX4_readLetters 86 = .ok (.iconst 1, 1) := dq_4 (by decide +kernel)
theorem dX4_readLetters_87 : decode cX4_readLetters 87 = .ok (.ireturn, 1) := dq_172 (by decide +kernel)
theorem dX4_readLetters_13 : decode cX4_readLetters 13 = .ok (.aload_n 0, 1) := dq_42 (by decide +kernel)
theorem dX4_readLetters_14 : decode cX4_readLetters 14 = .ok (.invokevirtual 166, 3) := dq_182 (a := 0) (b := 166) (by decide +kernel) rfl
theorem dX4_readSigned_0 : decode cX4_readSigned 0 = .ok (.aload_n 0, 1) := dq_42 (by decide +kernel)
theorem dX4_readSigned_1 : decode cX4_readSigned 1 = .ok (.getfield 25, 3) := dq_180 (a := 0) (b := 25) (by decide +kernel) rfl
theorem dX4_readSigned_4 : decode cX4_readSigned 4 = .ok (.istore_n 1, 1) := dq_60 (by decide +kernel)
theorem dX4_readSigned_5 : decode cX4_readSigned 5 = .ok (.aload_n 0, 1) := dq_42 (by decide +kernel)
theorem dX4_readSigned_6 : decode cX4_readSigned 6 = .ok (.bipush 45, 2) := dq_16 (a := 45) (by decide +kernel) (by decide +kernel)
theorem dX4_readSigned_8 : decode cX4_readSigned 8 = .ok (.invokevirtual 100, 3) := dq_182 (a := 0) (b := 100) (by decide +kernel) rfl
theorem dX4_readSigned_11 : decode cX4_readSigned 11 = .ok (.istore_n 2, 1) := dq_61 (by decide +kernel)
theorem dX4_readSigned_12 : decode cX4_readSigned 12 = .ok (.aload_n 0, 1) := dq_42 (by decide +kernel)
theorem dX4_readSigned_13 : decode cX4_readSigned 13 = .ok (.invokevirtual 103, 3) := dq_182 (a := 0) (b := 103) (by decide +kernel) rfl
theorem dX4_readSigned_16 : decode cX4_readSigned 16 = .ok (.istore_n 3, 1) := dq_62 (by decide +kernel)
theorem dX4_readSigned_17 : decode cX4_readSigned 17 = .ok (.iload_n 3, 1) := dq_29 (by decide +kernel)
theorem dX4_readSigned_18 : decode cX4_readSigned 18 = .ok (.iconst (-1), 1) := dq_2 (by decide +kernel)
theorem dX4_readSigned_19 : decode cX4_readSigned 19 = .ok (.if_icmp .ne 6, 3) := dq_160 (a := 0) (b := 6) (by decide +kernel) (by decide +kernel)
theorem dX4_readSigned_25 : decode cX4_readSigned 25 = .ok (.aload_n 0, 1) := dq_42 (by decide +kernel)
theorem dX4_readSigned_26 : decode cX4_readSigned 26 = .ok (.iload_n 1, 1) := dq_27 (by decide +kernel)
theorem dX4_readSigned_27 : decode cX4_readSigned 27 = .ok (.putfield 32, 3) := dq_181 (a := 0) (b := 32) (by decide +kernel) rfl
theorem dX4_readSigned_30 : decode cX4_readSigned 30 = .ok (.iload_n 2, 1) := dq_28 (by decide +kernel)
theorem dX4_readSigned_31 : decode cX4_readSigned 31 = .ok (.ifCond .eq 8, 3) := dq_153 (a := 0) (b := 8) (by decide +kernel) (by decide +kernel)
theorem dX4_readSigned_39 : decode cX4_readSigned 39 = .ok (.iload_n 3, 1) := dq_29 (by decide +kernel)
theorem dX4_readSigned_40 : decode cX4_readSigned 40 = .ok (.ireturn, 1) := dq_172 (by decide +kernel)
theorem dX4_readSigned_34 : decode cX4_readSigned 34 = .ok (.iload_n 3, 1) := dq_29 (by decide +kernel)
theorem dX4_readSigned_35 : decode cX4_readSigned 35 = .ok (.ineg, 1) := dq_116 (by decide +kernel)
theorem dX4_readSigned_36 : decode cX4_readSigned 36 = .ok (.goto 4, 3) := dq_167 (a := 0) (b := 4) (by decide +kernel) (by decide +kernel)
theorem dX4_readSigned_22 : decode cX4_readSigned 22 = .ok (.ldc 106, 2) := dq_18 (a := 106) (by decide +kernel) rfl
theorem dX4_readSigned_24 : decode cX4_readSigned 24 = .ok (.ireturn, 1) := dq_172 (by decide +kernel)
theorem dX4_readLetters_17 : decode cX4_readLetters 17 = .ok (.istore_n 2, 1) := dq_61 (by decide +kernel)
theorem dX4_readLetters_18 : decode cX4_readLetters 18 = .ok (.iload_n 2, 1) := dq_28 (by decide +kernel)
theorem dX4_readLetters_19 : decode cX4_readLetters 19 = .ok (.ldc 106, 2) := dq_18 (a := 106) (by decide +kernel) rfl
theorem dX4_readLetters_21 : decode cX4_readLetters 21 = .ok (.if_icmp .ne 5, 3) := dq_160 (a := 0) (b := 5) (by decide +kernel) (by decide +kernel)
theorem dX4_readLetters_26 : decode cX4_readLetters 26 = .ok (.aload_n 0, 1) := dq_42 (by decide +kernel)
theorem dX4_readLetters_27 : decode cX4_readLetters 27 = .ok (.getfield 21, 3) := dq_180 (a := 0) (b := 21) (by decide +kernel) rfl
theorem dX4_readLetters_30 : decode cX4_readLetters 30 = .ok (.iload_n 2, 1) := dq_28 (by decide +kernel)
theorem dX4_readLetters_31 : decode cX4_readLetters 31 = .ok (.invokevirtual 184, 3) := dq_182 (a := 0) (b := 184) (by decide +kernel) rfl
theorem dX4_readLetters_34 : decode cX4_readLetters 34 = .ok (.ifCond .ne 13, 3) := dq_154 (a := 0) (b := 13) (by decide +kernel) (by decide +kernel)
theorem dX4_readLetters_47 : decode cX4_readLetters 47 = .ok (.aload_n 0, 1) := dq_42 (by decide +kernel)
theorem dX4_readLetters_48 : decode cX4_readLetters 48 = .ok (.getfield 21, 3) := dq_180 (a := 0) (b := 21) (by decide +kernel) rfl
theorem dX4_readLetters_51 : decode cX4_readLetters 51 = .ok (.getfield 187, 3) := dq_180 (a := 0) (b := 187) (by decide +kernel) rfl
theorem dX4_readLetters_54 : decode cX4_readLetters 54 = .ok (.aload_n 0, 1) := dq_42 (by decide +kernel)
theorem dX4_readLetters_55 : decode cX4_readLetters 55 = .ok (.getfield 21, 3) := dq_180 (a := 0) (b := 21) (by decide +kernel) rfl
theorem dX4_readLetters_58 : decode cX4_readLetters 58 = .ok (.getfield 131, 3) := dq_180 (a := 0) (b := 131) (by decide +kernel) rfl
theorem dX4_readLetters_61 : decode cX4_readLetters 61 = .ok (.iconst 5, 1) := dq_8 (by decide +kernel)
theorem dX4_readLetters_62 : decode cX4_readLetters 62 = .ok (.imul, 1) := dq_104 (by decide +kernel)
theorem dX4_readLetters_63 : decode cX4_readLetters 63 = .ok (.iload_n 1, 1) := dq_27 (by decide +kernel)
theorem dX4_readLetters_64 : decode cX4_readLetters 64 = .ok (.iadd, 1) := dq_96 (by decide +kernel)
theorem dX4_readLetters_65 : decode cX4_readLetters 65 = .ok (.iload_n 2, 1) := dq_28 (by decide +kernel)
theorem dX4_readLetters_66 : decode cX4_readLetters 66 = .ok (.iastore, 1) := dq_79 (by decide +kernel)
theorem dX4_readLetters_67 : decode cX4_readLetters 67 = .ok (.iinc 1 1, 3) := dq_132 (a := 1) (b := 1) (by decide +kernel) rfl (by decide +kernel)
theorem dX4_readLetters_70 : decode cX4_readLetters 70 = .ok (.goto (-68), 3) := dq_167 (a := 255) (b := 188) (by decide +kernel) (by decide +kernel)
theorem dX4_readLetters_37 : decode cX4_readLetters 37 = .ok (.aload_n 0, 1) := dq_42 (by decide +kernel)
theorem dX4_readLetters_38 : decode cX4_readLetters 38 = .ok (.iconst 2, 1) := dq_5 (by decide +kernel)
theorem dX4_readLetters_39 : decode cX4_readLetters 39 = .ok (.aload_n 0, 1) := dq_42 (by decide +kernel)
theorem dX4_readLetters_40 : decode cX4_readLetters 40 = .ok (.getfield 32, 3) := dq_180 (a := 0) (b := 32) (by decide +kernel) rfl
theorem dX4_readLetters_43 : decode cX4_readLetters 43 = .ok (.invokevirtual 55, 3) := dq_182 (a := 0) (b := 55) (by decide +kernel) rfl
theorem dX4_readLetters_46 : decode cX4_readLetters 46 = .ok (.ireturn, 1) := dq_172 (by decide +kernel)
theorem dX4_readLetters_24 : decode cX4_readLetters 24 = .ok (.iconst 0, 1) := dq_3 (by decide +kernel)
theorem dX4_readLetters_25 : decode cX4_readLetters 25 = .ok (.ireturn, 1) := dq_172 (by decide +kernel)
theorem dX4_readStatement_116 : decode cX4_readStatement 116 = .ok (.ifCond .eq 7, 3) := dq_153 (a := 0) (b := 7) (by decide +kernel) (by decide +kernel)
theorem dX4_readStatement_119 : decode cX4_readStatement 119 = .ok (.iconst 1, 1) := dq_4 (by decide +kernel)
theorem dX4_readStatement_120 : decode cX4_readStatement 120 = .ok (.goto 4, 3) := dq_167 (a := 0) (b := 4) (by decide +kernel) (by decide +kernel)
theorem dX4_readStatement_35 : decode cX4_readStatement 35 = .ok (.aload_n 0, 1) := dq_42 (by decide +kernel)
theorem dX4_readStatement_36 : decode cX4_readStatement 36 = .ok (.aload_n 0, 1) := dq_42 (by decide +kernel)
theorem dX4_readStatement_37 : decode cX4_readStatement 37 = .ok (.getfield 21, 3) := dq_180 (a := 0) (b := 21) (by decide +kernel) rfl
theorem dX4_readStatement_40 : decode cX4_readStatement 40 = .ok (.getfield 117, 3) := dq_180 (a := 0) (b := 117) (by decide +kernel) rfl
theorem dX4_readStatement_43 : decode cX4_readStatement 43 = .ok (.aload_n 0, 1) := dq_42 (by decide +kernel)
theorem dX4_readStatement_44 : decode cX4_readStatement 44 = .ok (.getfield 21, 3) := dq_180 (a := 0) (b := 21) (by decide +kernel) rfl
theorem dX4_readStatement_47 : decode cX4_readStatement 47 = .ok (.getfield 120, 3) := dq_180 (a := 0) (b := 120) (by decide +kernel) rfl
theorem dX4_readStatement_50 : decode cX4_readStatement 50 = .ok (.invokevirtual 123, 3) := dq_182 (a := 0) (b := 123) (by decide +kernel) rfl
theorem dX4_readStatement_53 : decode cX4_readStatement 53 = .ok (.ifCond .eq 23, 3) := dq_153 (a := 0) (b := 23) (by decide +kernel) (by decide +kernel)
theorem dX4_readStatement_76 : decode cX4_readStatement 76 = .ok (.iconst 0, 1) := dq_3 (by decide +kernel)
theorem dX4_readStatement_77 : decode cX4_readStatement 77 = .ok (.ireturn, 1) := dq_172 (by decide +kernel)
theorem dX4_readStatement_56 : decode cX4_readStatement 56 = .ok (.aload_n 0, 1) := dq_42 (by decide +kernel)
theorem dX4_readStatement_57 : decode cX4_readStatement 57 = .ok (.ldc 115, 2) := dq_18 (a := 115) (by decide +kernel) rfl
theorem dX4_readStatement_59 : decode cX4_readStatement 59 = .ok (.invokevirtual 109, 3) := dq_182 (a := 0) (b := 109) (by decide +kernel) rfl
theorem dX4_readStatement_62 : decode cX4_readStatement 62 = .ok (.ifCond .eq 14, 3) := dq_153 (a := 0) (b := 14) (by decide +kernel) (by decide +kernel)
theorem dX4_readStatement_65 : decode cX4_readStatement 65 = .ok (.aload_n 0, 1) := dq_42 (by decide +kernel)
theorem dX4_readStatement_66 : decode cX4_readStatement 66 = .ok (.invokevirtual 126, 3) := dq_182 (a := 0) (b := 126) (by decide +kernel) rfl
theorem dX4_readRow_0 : decode cX4_readRow 0 = .ok (.iconst 0, 1) := dq_3 (by decide +kernel)
theorem dX4_readRow_1 : decode cX4_readRow 1 = .ok (.istore_n 1, 1) := dq_60 (by decide +kernel)
theorem dX4_readRow_2 : decode cX4_readRow 2 = .ok (.iload_n 1, 1) := dq_27 (by decide +kernel)
theorem dX4_readRow_3 : decode cX4_readRow 3 = .ok (.aload_n 0, 1) := dq_42 (by decide +kernel)
theorem dX4_readRow_4 : decode cX4_readRow 4 = .ok (.getfield 21, 3) := dq_180 (a := 0) (b := 21) (by decide +kernel) rfl
theorem dX4_readRow_7 : decode cX4_readRow 7 = .ok (.getfield 163, 3) := dq_180 (a := 0) (b := 163) (by decide +kernel) rfl
theorem dX4_readRow_10 : decode cX4_readRow 10 = .ok (.if_icmp .ge 60, 3) := dq_162 (a := 0) (b := 60) (by decide +kernel) (by decide +kernel)
theorem dX4_readRow_70 : decode cX4_readRow 70 = .ok (.aload_n 0, 1) := dq_42 (by decide +kernel)
theorem dX4_readRow_71 : decode cX4_readRow 71 = .ok (.getfield 21, 3) := dq_180 (a := 0) (b := 21) (by decide +kernel) rfl
theorem dX4_readRow_74 : decode cX4_readRow 74 = .ok (.dup, 1) := dq_89 (by decide +kernel)
theorem dX4_readRow_75 : decode cX4_readRow 75 = .ok (.getfield 117, 3) := dq_180 (a := 0) (b := 117) (by decide +kernel) rfl
theorem dX4_readRow_78 : decode cX4_readRow 78 = .ok (.iconst 1, 1) := dq_4 (by decide +kernel)
theorem dX4_readRow_79 : decode cX4_readRow 79 = .ok (.iadd, 1) := dq_96 (by decide +kernel)
theorem dX4_readRow_80 : decode cX4_readRow 80 = .ok (.putfield 117, 3) := dq_181 (a := 0) (b := 117) (by decide +kernel) rfl
theorem dX4_readRow_83 : decode cX4_readRow 83 = .ok (.iconst 1, 1) := dq_4 (by decide +kernel)
theorem dX4_readRow_84 : decode cX4_readRow 84 = .ok (.ireturn, 1) := dq_172 (by decide +kernel)
theorem dX4_readRow_13 : decode cX4_readRow 13 = .ok (.aload_n 0, 1) := dq_42 (by decide +kernel)
theorem dX4_readRow_14 : decode cX4_readRow 14 = .ok (.invokevirtual 166, 3) := dq_182 (a := 0) (b := 166) (by decide +kernel) rfl
theorem dX4_readRow_17 : decode cX4_readRow 17 = .ok (.istore_n 2, 1) := dq_61 (by decide +kernel)
theorem dX4_readRow_18 : decode cX4_readRow 18 = .ok (.iload_n 2, 1) := dq_28 (by decide +kernel)
theorem dX4_readRow_19 : decode cX4_readRow 19 = .ok (.ldc 106, 2) := dq_18 (a := 106) (by decide +kernel) rfl
theorem dX4_readRow_21 : decode cX4_readRow 21 = .ok (.if_icmp .ne 5, 3) := dq_160 (a := 0) (b := 5) (by decide +kernel) (by decide +kernel)
theorem dX4_readRow_26 : decode cX4_readRow 26 = .ok (.iload_n 2, 1) := dq_28 (by decide +kernel)
theorem dX4_readRow_27 : decode cX4_readRow 27 = .ok (.invokestatic 169, 3) := dq_184 (a := 0) (b := 169) (by decide +kernel) rfl
theorem dX4_readRow_30 : decode cX4_readRow 30 = .ok (.bipush 99, 2) := dq_16 (a := 99) (by decide +kernel) (by decide +kernel)
theorem dX4_readRow_32 : decode cX4_readRow 32 = .ok (.if_icmp .le 13, 3) := dq_164 (a := 0) (b := 13) (by decide +kernel) (by decide +kernel)
theorem dX4_readRow_45 : decode cX4_readRow 45 = .ok (.aload_n 0, 1) := dq_42 (by decide +kernel)
theorem dX4_readRow_46 : decode cX4_readRow 46 = .ok (.getfield 21, 3) := dq_180 (a := 0) (b := 21) (by decide +kernel) rfl
theorem dX4_readRow_49 : decode cX4_readRow 49 = .ok (.getfield 174, 3) := dq_180 (a := 0) (b := 174) (by decide +kernel) rfl
theorem dX4_readRow_52 : decode cX4_readRow 52 = .ok (.aload_n 0, 1) := dq_42 (by decide +kernel)
theorem dX4_readRow_53 : decode cX4_readRow 53 = .ok (.getfield 21, 3) := dq_180 (a := 0) (b := 21) (by decide +kernel) rfl
theorem dX4_readRow_56 : decode cX4_readRow 56 = .ok (.getfield 117, 3) := dq_180 (a := 0) (b := 117) (by decide +kernel) rfl
theorem dX4_readRow_59 : decode cX4_readRow 59 = .ok (.iload_n 1, 1) := dq_27 (by decide +kernel)
theorem dX4_readRow_60 : decode cX4_readRow 60 = .ok (.iload_n 2, 1) := dq_28 (by decide +kernel)
theorem dX4_readRow_61 : decode cX4_readRow 61 = .ok (.invokevirtual 178, 3) := dq_182 (a := 0) (b := 178) (by decide +kernel) rfl
theorem dX4_readRow_64 : decode cX4_readRow 64 = .ok (.iinc 1 1, 3) := dq_132 (a := 1) (b := 1) (by decide +kernel) rfl (by decide +kernel)
theorem dX4_readRow_67 : decode cX4_readRow 67 = .ok (.goto (-65), 3) := dq_167 (a := 255) (b := 191) (by decide +kernel) (by decide +kernel)
theorem dX4_readRow_35 : decode cX4_readRow 35 = .ok (.aload_n 0, 1) := dq_42 (by decide +kernel)
theorem dX4_readRow_36 : decode cX4_readRow 36 = .ok (.iconst 2, 1) := dq_5 (by decide +kernel)
theorem dX4_readRow_37 : decode cX4_readRow 37 = .ok (.aload_n 0, 1) := dq_42 (by decide +kernel)
theorem dX4_readRow_38 : decode cX4_readRow 38 = .ok (.getfield 32, 3) := dq_180 (a := 0) (b := 32) (by decide +kernel) rfl
theorem dX4_readRow_41 : decode cX4_readRow 41 = .ok (.invokevirtual 55, 3) := dq_182 (a := 0) (b := 55) (by decide +kernel) rfl
theorem dX4_readRow_44 : decode cX4_readRow 44 = .ok (.ireturn, 1) := dq_172 (by decide +kernel)
theorem dX4_readRow_24 : decode cX4_readRow 24 = .ok (.iconst 0, 1) := dq_3 (by decide +kernel)
theorem dX4_readRow_25 : decode cX4_readRow 25 = .ok (.ireturn, 1) := dq_172 (by decide +kernel)
theorem dX4_readStatement_69 : decode cX4_readStatement 69 = .ok (.ifCond .eq 7, 3) := dq_153 (a := 0) (b := 7) (by decide +kernel) (by decide +kernel)
theorem dX4_readStatement_72 : decode cX4_readStatement 72 = .ok (.iconst 1, 1) := dq_4 (by decide +kernel)
theorem dX4_readStatement_73 : decode cX4_readStatement 73 = .ok (.goto 4, 3) := dq_167 (a := 0) (b := 4) (by decide +kernel) (by decide +kernel)
theorem dX4_readHouse_67 : decode cX4_readHouse 67 = .ok (.aload_n 0, 1) := dq_42 (by decide +kernel)
theorem dX4_readHouse_68 : decode cX4_readHouse 68 = .ok (.iconst 4, 1) := dq_7 (by decide +kernel)
theorem dX4_readHouse_69 : decode cX4_readHouse 69 = .ok (.aload_n 0, 1) := dq_42 (by decide +kernel)
theorem dX4_readHouse_70 : decode cX4_readHouse 70 = .ok (.getfield 25, 3) := dq_180 (a := 0) (b := 25) (by decide +kernel) rfl
theorem dX4_readHouse_73 : decode cX4_readHouse 73 = .ok (.invokevirtual 55, 3) := dq_182 (a := 0) (b := 55) (by decide +kernel) rfl
theorem dX4_readHouse_76 : decode cX4_readHouse 76 = .ok (.ireturn, 1) := dq_172 (by decide +kernel)
theorem dX4_readHouse_55 : decode cX4_readHouse 55 = .ok (.iconst 1, 1) := dq_4 (by decide +kernel)
theorem dX4_readHouse_56 : decode cX4_readHouse 56 = .ok (.goto 4, 3) := dq_167 (a := 0) (b := 4) (by decide +kernel) (by decide +kernel)
theorem dX11_house_7 : decode cX11_house 7 = .ok (.istore_n 1, 1) := dq_60 (by decide +kernel)
theorem dX11_house_8 : decode cX11_house 8 = .ok (.aload_n 0, 1) := dq_42 (by decide +kernel)
theorem dX11_house_9 : decode cX11_house 9 = .ok (.getfield 20, 3) := dq_180 (a := 0) (b := 20) (by decide +kernel) rfl
theorem dX11_house_12 : decode cX11_house 12 = .ok (.iconst 0, 1) := dq_3 (by decide +kernel)
theorem dX11_house_13 : decode cX11_house 13 = .ok (.invokevirtual 97, 3) := dq_182 (a := 0) (b := 97) (by decide +kernel) rfl
theorem dX11_house_16 : decode cX11_house 16 = .ok (.iload_n 1, 1) := dq_27 (by decide +kernel)
theorem dX11_house_17 : decode cX11_house 17 = .ok (.ifCond .ne 5, 3) := dq_154 (a := 0) (b := 5) (by decide +kernel) (by decide +kernel)
theorem dX11_house_22 : decode cX11_house 22 = .ok (.aload_n 0, 1) := dq_42 (by decide +kernel)
theorem dX11_house_23 : decode cX11_house 23 = .ok (.aload_n 0, 1) := dq_42 (by decide +kernel)
theorem dX11_house_24 : decode cX11_house 24 = .ok (.getfield 10, 3) := dq_180 (a := 0) (b := 10) (by decide +kernel) rfl
theorem dX11_house_27 : decode cX11_house 27 = .ok (.aload_n 0, 1) := dq_42 (by decide +kernel)
theorem dX11_house_28 : decode cX11_house 28 = .ok (.getfield 69, 3) := dq_180 (a := 0) (b := 69) (by decide +kernel) rfl
theorem dX11_house_31 : decode cX11_house 31 = .ok (.invokevirtual 104, 3) := dq_182 (a := 0) (b := 104) (by decide +kernel) rfl
theorem dX4_exchange_0 : decode cX4_exchange 0 = .ok (.aload_n 0, 1) := dq_42 (by decide +kernel)
theorem dX4_exchange_1 : decode cX4_exchange 1 = .ok (.getfield 21, 3) := dq_180 (a := 0) (b := 21) (by decide +kernel) rfl
theorem dX4_exchange_4 : decode cX4_exchange 4 = .ok (.astore_n 2, 1) := dq_77 (by decide +kernel)
theorem dX4_exchange_5 : decode cX4_exchange 5 = .ok (.aload_n 0, 1) := dq_42 (by decide +kernel)
theorem dX4_exchange_6 : decode cX4_exchange 6 = .ok (.aload_n 1, 1) := dq_43 (by decide +kernel)
theorem dX4_exchange_7 : decode cX4_exchange 7 = .ok (.putfield 21, 3) := dq_181 (a := 0) (b := 21) (by decide +kernel) rfl
theorem dX4_exchange_10 : decode cX4_exchange 10 = .ok (.aload_n 2, 1) := dq_44 (by decide +kernel)
theorem dX4_exchange_11 : decode cX4_exchange 11 = .ok (.areturn, 1) := dq_176 (by decide +kernel)
theorem dX11_house_34 : decode cX11_house 34 = .ok (.putfield 69, 3) := dq_181 (a := 0) (b := 69) (by decide +kernel) rfl
theorem dX11_house_37 : decode cX11_house 37 = .ok (.aload_n 0, 1) := dq_42 (by decide +kernel)
theorem dX11_house_38 : decode cX11_house 38 = .ok (.getfield 49, 3) := dq_180 (a := 0) (b := 49) (by decide +kernel) rfl
theorem dX11_house_41 : decode cX11_house 41 = .ok (.iconst 0, 1) := dq_3 (by decide +kernel)
theorem dX11_house_42 : decode cX11_house 42 = .ok (.invokestatic 108, 3) := dq_184 (a := 0) (b := 108) (by decide +kernel) rfl
theorem dX11_house_45 : decode cX11_house 45 = .ok (.aload_n 0, 1) := dq_42 (by decide +kernel)
theorem dX11_house_46 : decode cX11_house 46 = .ok (.getfield 76, 3) := dq_180 (a := 0) (b := 76) (by decide +kernel) rfl
theorem dX11_house_49 : decode cX11_house 49 = .ok (.aload_n 0, 1) := dq_42 (by decide +kernel)
theorem dX11_house_50 : decode cX11_house 50 = .ok (.getfield 69, 3) := dq_180 (a := 0) (b := 69) (by decide +kernel) rfl
theorem dX11_house_53 : decode cX11_house 53 = .ok (.invokevirtual 114, 3) := dq_182 (a := 0) (b := 114) (by decide +kernel) rfl
theorem dX2_start_0 : decode cX2_start 0 = .ok (.aload_n 0, 1) := dq_42 (by decide +kernel)
theorem dX2_start_1 : decode cX2_start 1 = .ok (.getfield 12, 3) := dq_180 (a := 0) (b := 12) (by decide +kernel) rfl
theorem dX2_start_4 : decode cX2_start 4 = .ok (.aload_n 1, 1) := dq_43 (by decide +kernel)
theorem dX2_start_5 : decode cX2_start 5 = .ok (.getfield 42, 3) := dq_180 (a := 0) (b := 42) (by decide +kernel) rfl
theorem dX2_start_8 : decode cX2_start 8 = .ok (.invokevirtual 45, 3) := dq_182 (a := 0) (b := 45) (by decide +kernel) rfl
theorem dX2_start_11 : decode cX2_start 11 = .ok (.aload_n 0, 1) := dq_42 (by decide +kernel)
theorem dX2_start_12 : decode cX2_start 12 = .ok (.aload_n 1, 1) := dq_43 (by decide +kernel)
theorem dX2_start_13 : decode cX2_start 13 = .ok (.getfield 49, 3) := dq_180 (a := 0) (b := 49) (by decide +kernel) rfl
theorem dX2_start_16 : decode cX2_start 16 = .ok (.putfield 26, 3) := dq_181 (a := 0) (b := 26) (by decide +kernel) rfl
theorem dX2_start_19 : decode cX2_start 19 = .ok (.aload_n 0, 1) := dq_42 (by decide +kernel)
theorem dX2_start_20 : decode cX2_start 20 = .ok (.getfield 18, 3) := dq_180 (a := 0) (b := 18) (by decide +kernel) rfl
theorem dX2_start_23 : decode cX2_start 23 = .ok (.lconst 0, 1) := dq_9 (by decide +kernel)
theorem dX2_start_24 : decode cX2_start 24 = .ok (.invokestatic 50, 3) := dq_184 (a := 0) (b := 50) (by decide +kernel) rfl
theorem dX2_start_27 : decode cX2_start 27 = .ok (.iconst 0, 1) := dq_3 (by decide +kernel)
theorem dX2_start_28 : decode cX2_start 28 = .ok (.istore_n 2, 1) := dq_61 (by decide +kernel)
theorem dX2_start_29 : decode cX2_start 29 = .ok (.iload_n 2, 1) := dq_28 (by decide +kernel)
theorem dX2_start_30 : decode cX2_start 30 = .ok (.iconst 5, 1) := dq_8 (by decide +kernel)
theorem dX2_start_31 : decode cX2_start 31 = .ok (.if_icmp .ge 20, 3) := dq_162 (a := 0) (b := 20) (by decide +kernel) (by decide +kernel)
theorem dX2_start_34 : decode cX2_start 34 = .ok (.aload_n 0, 1) := dq_42 (by decide +kernel)
theorem dX2_start_35 : decode cX2_start 35 = .ok (.getfield 18, 3) := dq_180 (a := 0) (b := 18) (by decide +kernel) rfl
theorem dX2_start_38 : decode cX2_start 38 = .ok (.iload_n 2, 1) := dq_28 (by decide +kernel)
theorem dX2_start_39 : decode cX2_start 39 = .ok (.iconst 5, 1) := dq_8 (by decide +kernel)
theorem dX2_start_40 : decode cX2_start 40 = .ok (.imul, 1) := dq_104 (by decide +kernel)
theorem dX2_start_41 : decode cX2_start 41 = .ok (.iload_n 2, 1) := dq_28 (by decide +kernel)
theorem dX2_start_42 : decode cX2_start 42 = .ok (.iadd, 1) := dq_96 (by decide +kernel)
theorem dX2_start_43 : decode cX2_start 43 = .ok (.lconst 1, 1) := dq_10 (by decide +kernel)
theorem dX2_start_44 : decode cX2_start 44 = .ok (.lastore, 1) := dq_80 (by decide +kernel)
theorem dX2_start_45 : decode cX2_start 45 = .ok (.iinc 2 1, 3) := dq_132 (a := 2) (b := 1) (by decide +kernel) rfl (by decide +kernel)
theorem dX2_start_48 : decode cX2_start 48 = .ok (.goto (-19), 3) := dq_167 (a := 255) (b := 237) (by decide +kernel) (by decide +kernel)
theorem dX2_start_51 : decode cX2_start 51 = .ok (.aload_n 0, 1) := dq_42 (by decide +kernel)
theorem dX2_start_52 : decode cX2_start 52 = .ok (.iconst 0, 1) := dq_3 (by decide +kernel)
theorem dX2_start_53 : decode cX2_start 53 = .ok (.putfield 30, 3) := dq_181 (a := 0) (b := 30) (by decide +kernel) rfl
theorem dX2_start_56 : decode cX2_start 56 = .ok (.aload_n 0, 1) := dq_42 (by decide +kernel)
theorem dX2_start_57 : decode cX2_start 57 = .ok (.iconst 0, 1) := dq_3 (by decide +kernel)
theorem dX2_start_58 : decode cX2_start 58 = .ok (.putfield 33, 3) := dq_181 (a := 0) (b := 33) (by decide +kernel) rfl
theorem dX2_start_61 : decode cX2_start 61 = .ok (.aload_n 0, 1) := dq_42 (by decide +kernel)
theorem dX2_start_62 : decode cX2_start 62 = .ok (.iconst 0, 1) := dq_3 (by decide +kernel)
theorem dX2_start_63 : decode cX2_start 63 = .ok (.putfield 36, 3) := dq_181 (a := 0) (b := 36) (by decide +kernel) rfl
theorem dX2_start_66 : decode cX2_start 66 = .ok (.aload_n 0, 1) := dq_42 (by decide +kernel)
theorem dX2_start_67 : decode cX2_start 67 = .ok (.iconst 0, 1) := dq_3 (by decide +kernel)
theorem dX2_start_68 : decode cX2_start 68 = .ok (.putfield 39, 3) := dq_181 (a := 0) (b := 39) (by decide +kernel) rfl
theorem dX2_start_71 : decode cX2_start 71 = .ok (.return_, 1) := dq_177 (by decide +kernel)
theorem dX11_house_56 : decode cX11_house 56 = .ok (.aload_n 0, 1) := dq_42 (by decide +kernel)
theorem dX11_house_57 : decode cX11_house 57 = .ok (.getfield 24, 3) := dq_180 (a := 0) (b := 24) (by decide +kernel) rfl
theorem dX11_house_60 : decode cX11_house 60 = .ok (.invokevirtual 118, 3) := dq_182 (a := 0) (b := 118) (by decide +kernel) rfl
theorem dX11_house_63 : decode cX11_house 63 = .ok (.aload_n 0, 1) := dq_42 (by decide +kernel)
theorem dX11_house_64 : decode cX11_house 64 = .ok (.getfield 31, 3) := dq_180 (a := 0) (b := 31) (by decide +kernel) rfl
theorem dX11_house_67 : decode cX11_house 67 = .ok (.invokevirtual 121, 3) := dq_182 (a := 0) (b := 121) (by decide +kernel) rfl
theorem dX11_house_70 : decode cX11_house 70 = .ok (.aload_n 0, 1) := dq_42 (by decide +kernel)
theorem dX11_house_71 : decode cX11_house 71 = .ok (.getfield 38, 3) := dq_180 (a := 0) (b := 38) (by decide +kernel) rfl
theorem dX11_house_74 : decode cX11_house 74 = .ok (.invokevirtual 122, 3) := dq_182 (a := 0) (b := 122) (by decide +kernel) rfl
theorem dX11_house_77 : decode cX11_house 77 = .ok (.aload_n 0, 1) := dq_42 (by decide +kernel)
theorem dX11_house_78 : decode cX11_house 78 = .ok (.getfield 45, 3) := dq_180 (a := 0) (b := 45) (by decide +kernel) rfl
theorem dX11_house_81 : decode cX11_house 81 = .ok (.invokevirtual 123, 3) := dq_182 (a := 0) (b := 123) (by decide +kernel) rfl
theorem dX11_house_84 : decode cX11_house 84 = .ok (.aload_n 0, 1) := dq_42 (by decide +kernel)
theorem dX11_house_85 : decode cX11_house 85 = .ok (.getfield 69, 3) := dq_180 (a := 0) (b := 69) (by decide +kernel) rfl
theorem dX11_house_88 : decode cX11_house 88 = .ok (.getfield 124, 3) := dq_180 (a := 0) (b := 124) (by decide +kernel) rfl
theorem dX11_house_91 : decode cX11_house 91 = .ok (.ireturn, 1) := dq_172 (by decide +kernel)
theorem dX11_house_20 : decode cX11_house 20 = .ok (.iconst (-1), 1) := dq_2 (by decide +kernel)
theorem dX11_house_21 : decode cX11_house 21 = .ok (.ireturn, 1) := dq_172 (by decide +kernel)
theorem dX12_worthTold_7 : decode cX12_worthTold 7 = .ok (.aload_n 0, 1) := dq_42 (by decide +kernel)
theorem dX12_worthTold_8 : decode cX12_worthTold 8 = .ok (.getfield 81, 3) := dq_180 (a := 0) (b := 81) (by decide +kernel) rfl
theorem dX12_worthTold_11 : decode cX12_worthTold 11 = .ok (.iconst 1, 1) := dq_4 (by decide +kernel)
theorem dX12_worthTold_12 : decode cX12_worthTold 12 = .ok (.iaload, 1) := dq_46 (by decide +kernel)
theorem dX12_worthTold_13 : decode cX12_worthTold 13 = .ok (.bipush 8, 2) := dq_16 (a := 8) (by decide +kernel) (by decide +kernel)
theorem dX12_worthTold_15 : decode cX12_worthTold 15 = .ok (.if_icmp .ne 9, 3) := dq_160 (a := 0) (b := 9) (by decide +kernel) (by decide +kernel)
theorem dX12_sumsTold_30 : decode cX12_sumsTold 30 = .ok (.aload_n 0, 1) := dq_42 (by decide +kernel)
theorem dX12_sumsTold_31 : decode cX12_sumsTold 31 = .ok (.getfield 151, 3) := dq_180 (a := 0) (b := 151) (by decide +kernel) rfl
theorem dX12_sumsTold_34 : decode cX12_sumsTold 34 = .ok (.ifCond .ne 14, 3) := dq_154 (a := 0) (b := 14) (by decide +kernel) (by decide +kernel)
theorem dX12_sumsTold_48 : decode cX12_sumsTold 48 = .ok (.iconst 0, 1) := dq_3 (by decide +kernel)
theorem dX12_sumsTold_49 : decode cX12_sumsTold 49 = .ok (.istore_n 2, 1) := dq_61 (by decide +kernel)
theorem dX12_sumsTold_50 : decode cX12_sumsTold 50 = .ok (.goto (-35), 3) := dq_167 (a := 255) (b := 221) (by decide +kernel) (by decide +kernel)
theorem dX12_sumsTold_37 : decode cX12_sumsTold 37 = .ok (.aload_n 0, 1) := dq_42 (by decide +kernel)
theorem dX12_sumsTold_38 : decode cX12_sumsTold 38 = .ok (.invokevirtual 289, 3) := dq_182 (a := 1) (b := 33) (by decide +kernel) rfl
theorem dX12_goesOn_7 : decode cX12_goesOn 7 = .ok (.aload_n 0, 1) := dq_42 (by decide +kernel)
theorem dX12_goesOn_8 : decode cX12_goesOn 8 = .ok (.invokevirtual 163, 3) := dq_182 (a := 0) (b := 163) (by decide +kernel) rfl
theorem dX12_goesOn_11 : decode cX12_goesOn 11 = .ok (.bipush 41, 2) := dq_16 (a := 41) (by decide +kernel) (by decide +kernel)
theorem dX12_goesOn_13 : decode cX12_goesOn 13 = .ok (.if_icmp .ne 105, 3) := dq_160 (a := 0) (b := 105) (by decide +kernel) (by decide +kernel)
theorem dX12_goesOn_16 : decode cX12_goesOn 16 = .ok (.aload_n 0, 1) := dq_42 (by decide +kernel)
theorem dX12_goesOn_17 : decode cX12_goesOn 17 = .ok (.invokevirtual 277, 3) := dq_182 (a := 1) (b := 21) (by decide +kernel) rfl
theorem dX12_goesOn_20 : decode cX12_goesOn 20 = .ok (.bipush 20, 2) := dq_16 (a := 20) (by decide +kernel) (by decide +kernel)
theorem dX12_goesOn_22 : decode cX12_goesOn 22 = .ok (.if_icmp .eq 21, 3) := dq_159 (a := 0) (b := 21) (by decide +kernel) (by decide +kernel)
theorem dX12_goesOn_43 : decode cX12_goesOn 43 = .ok (.aload_n 0, 1) := dq_42 (by decide +kernel)
theorem dX12_goesOn_44 : decode cX12_goesOn 44 = .ok (.dup, 1) := dq_89 (by decide +kernel)
theorem dX12_goesOn_45 : decode cX12_goesOn 45 = .ok (.getfield 157, 3) := dq_180 (a := 0) (b := 157) (by decide +kernel) rfl
theorem dX12_goesOn_48 : decode cX12_goesOn 48 = .ok (.iconst 1, 1) := dq_4 (by decide +kernel)
theorem dX12_goesOn_49 : decode cX12_goesOn 49 = .ok (.iadd, 1) := dq_96 (by decide +kernel)
theorem dX12_goesOn_50 : decode cX12_goesOn 50 = .ok (.putfield 157, 3) := dq_181 (a := 0) (b := 157) (by decide +kernel) rfl
theorem dX12_goesOn_53 : decode cX12_goesOn 53 = .ok (.aload_n 0, 1) := dq_42 (by decide +kernel)
theorem dX12_goesOn_54 : decode cX12_goesOn 54 = .ok (.invokevirtual 280, 3) := dq_182 (a := 1) (b := 24) (by decide +kernel) rfl
theorem dX12_goesOn_57 : decode cX12_goesOn 57 = .ok (.aload_n 0, 1) := dq_42 (by decide +kernel)
theorem dX12_goesOn_58 : decode cX12_goesOn 58 = .ok (.dup, 1) := dq_89 (by decide +kernel)
theorem dX12_goesOn_59 : decode cX12_goesOn 59 = .ok (.getfield 259, 3) := dq_180 (a := 1) (b := 3) (by decide +kernel) rfl
theorem dX12_goesOn_62 : decode cX12_goesOn 62 = .ok (.iconst 1, 1) := dq_4 (by decide +kernel)
theorem dX12_goesOn_63 : decode cX12_goesOn 63 = .ok (.isub, 1) := dq_100 (by decide +kernel)
theorem dX12_goesOn_64 : decode cX12_goesOn 64 = .ok (.putfield 259, 3) := dq_181 (a := 1) (b := 3) (by decide +kernel) rfl
theorem dX12_goesOn_67 : decode cX12_goesOn 67 = .ok (.aload_n 0, 1) := dq_42 (by decide +kernel)
theorem dX12_goesOn_68 : decode cX12_goesOn 68 = .ok (.dup, 1) := dq_89 (by decide +kernel)
theorem dX12_goesOn_69 : decode cX12_goesOn 69 = .ok (.getfield 256, 3) := dq_180 (a := 1) (b := 0) (by decide +kernel) rfl
theorem dX12_goesOn_72 : decode cX12_goesOn 72 = .ok (.iconst 1, 1) := dq_4 (by decide +kernel)
theorem dX12_goesOn_73 : decode cX12_goesOn 73 = .ok (.isub, 1) := dq_100 (by decide +kernel)
theorem dX12_goesOn_74 : decode cX12_goesOn 74 = .ok (.putfield 256, 3) := dq_181 (a := 1) (b := 0) (by decide +kernel) rfl
theorem dX12_goesOn_77 : decode cX12_goesOn 77 = .ok (.aload_n 0, 1) := dq_42 (by decide +kernel)
theorem dX12_goesOn_78 : decode cX12_goesOn 78 = .ok (.getfield 78, 3) := dq_180 (a := 0) (b := 78) (by decide +kernel) rfl
theorem dX12_goesOn_81 : decode cX12_goesOn 81 = .ok (.aload_n 0, 1) := dq_42 (by decide +kernel)
theorem dX12_goesOn_82 : decode cX12_goesOn 82 = .ok (.getfield 259, 3) := dq_180 (a := 1) (b := 3) (by decide +kernel) rfl
theorem dX12_goesOn_85 : decode cX12_goesOn 85 = .ok (.iaload, 1) := dq_46 (by decide +kernel)
theorem dX12_goesOn_86 : decode cX12_goesOn 86 = .ok (.bipush 20, 2) := dq_16 (a := 20) (by decide +kernel) (by decide +kernel)
theorem dX12_goesOn_88 : decode cX12_goesOn 88 = .ok (.if_icmp .eq (-88), 3) := dq_159 (a := 255) (b := 168) (by decide +kernel) (by decide +kernel)
theorem dX12_goesOn_91 : decode cX12_goesOn 91 = .ok (.aload_n 0, 1) := dq_42 (by decide +kernel)
theorem dX12_goesOn_92 : decode cX12_goesOn 92 = .ok (.aload_n 0, 1) := dq_42 (by decide +kernel)
theorem dX12_goesOn_93 : decode cX12_goesOn 93 = .ok (.getfield 78, 3) := dq_180 (a := 0) (b := 78) (by decide +kernel) rfl
theorem dX12_goesOn_96 : decode cX12_goesOn 96 = .ok (.aload_n 0, 1) := dq_42 (by decide +kernel)
theorem dX12_goesOn_97 : decode cX12_goesOn 97 = .ok (.getfield 259, 3) := dq_180 (a := 1) (b := 3) (by decide +kernel) rfl
theorem dX12_goesOn_100 : decode cX12_goesOn 100 = .ok (.iaload, 1) := dq_46 (by decide +kernel)
theorem dX12_goesOn_101 : decode cX12_goesOn 101 = .ok (.bipush 23, 2) := dq_16 (a := 23) (by decide +kernel) (by decide +kernel)
theorem dX12_goesOn_103 : decode cX12_goesOn 103 = .ok (.if_icmp .ne 7, 3) := dq_160 (a := 0) (b := 7) (by decide +kernel) (by decide +kernel)
theorem dX12_goesOn_110 : decode cX12_goesOn 110 = .ok (.bipush 6, 2) := dq_16 (a := 6) (by decide +kernel) (by decide +kernel)
theorem dX12_goesOn_112 : decode cX12_goesOn 112 = .ok (.invokevirtual 262, 3) := dq_182 (a := 1) (b := 6) (by decide +kernel) rfl
theorem dX12_goesOn_115 : decode cX12_goesOn 115 = .ok (.goto (-115), 3) := dq_167 (a := 255) (b := 141) (by decide +kernel) (by decide +kernel)
theorem dX12_goesOn_106 : decode cX12_goesOn 106 = .ok (.iconst 5, 1) := dq_8 (by decide +kernel)
theorem dX12_goesOn_107 : decode cX12_goesOn 107 = .ok (.goto 5, 3) := dq_167 (a := 0) (b := 5) (by decide +kernel) (by decide +kernel)
theorem dX12_goesOn_25 : decode cX12_goesOn 25 = .ok (.aload_n 0, 1) := dq_42 (by decide +kernel)
theorem dX12_goesOn_26 : decode cX12_goesOn 26 = .ok (.invokevirtual 277, 3) := dq_182 (a := 1) (b := 21) (by decide +kernel) rfl
theorem dX12_goesOn_29 : decode cX12_goesOn 29 = .ok (.bipush 23, 2) := dq_16 (a := 23) (by decide +kernel) (by decide +kernel)
theorem dX12_goesOn_31 : decode cX12_goesOn 31 = .ok (.if_icmp .eq 12, 3) := dq_159 (a := 0) (b := 12) (by decide +kernel) (by decide +kernel)
theorem dX12_goesOn_34 : decode cX12_goesOn 34 = .ok (.aload_n 0, 1) := dq_42 (by decide +kernel)
theorem dX12_goesOn_35 : decode cX12_goesOn 35 = .ok (.invokevirtual 277, 3) := dq_182 (a := 1) (b := 21) (by decide +kernel) rfl
theorem dX12_goesOn_38 : decode cX12_goesOn 38 = .ok (.bipush 24, 2) := dq_16 (a := 24) (by decide +kernel) (by decide +kernel)
theorem dX12_goesOn_40 : decode cX12_goesOn 40 = .ok (.if_icmp .ne 78, 3) := dq_160 (a := 0) (b := 78) (by decide +kernel) (by decide +kernel)
theorem dX12_goesOn_152 : decode cX12_goesOn 152 = .ok (.iconst 3, 1) := dq_6 (by decide +kernel)
theorem dX12_goesOn_153 : decode cX12_goesOn 153 = .ok (.goto 4, 3) := dq_167 (a := 0) (b := 4) (by decide +kernel) (by decide +kernel)
theorem dX12_goesOn_127 : decode cX12_goesOn 127 = .ok (.aload_n 0, 1) := dq_42 (by decide +kernel)
theorem dX12_goesOn_128 : decode cX12_goesOn 128 = .ok (.bipush 47, 2) := dq_16 (a := 47) (by decide +kernel) (by decide +kernel)
theorem dX12_goesOn_130 : decode cX12_goesOn 130 = .ok (.invokevirtual 185, 3) := dq_182 (a := 0) (b := 185) (by decide +kernel) rfl
theorem dX12_goesOn_133 : decode cX12_goesOn 133 = .ok (.ifCond .eq 70, 3) := dq_153 (a := 0) (b := 70) (by decide +kernel) (by decide +kernel)
theorem dX12_goesOn_203 : decode cX12_goesOn 203 = .ok (.aload_n 0, 1) := dq_42 (by decide +kernel)
theorem dX12_goesOn_204 : decode cX12_goesOn 204 = .ok (.bipush 43, 2) := dq_16 (a := 43) (by decide +kernel) (by decide +kernel)
theorem dX12_goesOn_206 : decode cX12_goesOn 206 = .ok (.invokevirtual 185, 3) := dq_182 (a := 0) (b := 185) (by decide +kernel) rfl
theorem dX12_goesOn_209 : decode cX12_goesOn 209 = .ok (.ifCond .ne 12, 3) := dq_154 (a := 0) (b := 12) (by decide +kernel) (by decide +kernel)
theorem dX12_goesOn_221 : decode cX12_goesOn 221 = .ok (.aload_n 0, 1) := dq_42 (by decide +kernel)
theorem dX12_goesOn_222 : decode cX12_goesOn 222 = .ok (.getfield 7, 3) := dq_180 (a := 0) (b := 7) (by decide +kernel) rfl
theorem dX12_goesOn_225 : decode cX12_goesOn 225 = .ok (.aload_n 0, 1) := dq_42 (by decide +kernel)
theorem dX12_goesOn_226 : decode cX12_goesOn 226 = .ok (.getfield 157, 3) := dq_180 (a := 0) (b := 157) (by decide +kernel) rfl
theorem dX12_goesOn_229 : decode cX12_goesOn 229 = .ok (.iconst 1, 1) := dq_4 (by decide +kernel)
theorem dX12_goesOn_230 : decode cX12_goesOn 230 = .ok (.isub, 1) := dq_100 (by decide +kernel)
theorem dX12_goesOn_231 : decode cX12_goesOn 231 = .ok (.iaload, 1) := dq_46 (by decide +kernel)
theorem dX12_goesOn_232 : decode cX12_goesOn 232 = .ok (.bipush 43, 2) := dq_16 (a := 43) (by decide +kernel) (by decide +kernel)
theorem dX12_goesOn_234 : decode cX12_goesOn 234 = .ok (.if_icmp .ne 7, 3) := dq_160 (a := 0) (b := 7) (by decide +kernel) (by decide +kernel)
theorem dX12_goesOn_241 : decode cX12_goesOn 241 = .ok (.iconst 2, 1) := dq_5 (by decide +kernel)
theorem dX12_goesOn_242 : decode cX12_goesOn 242 = .ok (.istore_n 1, 1) := dq_60 (by decide +kernel)
theorem dX12_goesOn_237 : decode cX12_goesOn 237 = .ok (.iconst 1, 1) := dq_4 (by decide +kernel)
theorem dX12_goesOn_238 : decode cX12_goesOn 238 = .ok (.goto 4, 3) := dq_167 (a := 0) (b := 4) (by decide +kernel) (by decide +kernel)
theorem dX12_goesOn_212 : decode cX12_goesOn 212 = .ok (.aload_n 0, 1) := dq_42 (by decide +kernel)
theorem dX12_goesOn_213 : decode cX12_goesOn 213 = .ok (.bipush 45, 2) := dq_16 (a := 45) (by decide +kernel) (by decide +kernel)
theorem dX12_goesOn_215 : decode cX12_goesOn 215 = .ok (.invokevirtual 185, 3) := dq_182 (a := 0) (b := 185) (by decide +kernel) rfl
theorem dX12_goesOn_218 : decode cX12_goesOn 218 = .ok (.ifCond .eq 86, 3) := dq_153 (a := 0) (b := 86) (by decide +kernel) (by decide +kernel)
theorem dX12_goesOn_304 : decode cX12_goesOn 304 = .ok (.aload_n 0, 1) := dq_42 (by decide +kernel)
theorem dX12_goesOn_305 : decode cX12_goesOn 305 = .ok (.invokevirtual 277, 3) := dq_182 (a := 1) (b := 21) (by decide +kernel) rfl
theorem dX12_goesOn_308 : decode cX12_goesOn 308 = .ok (.bipush 21, 2) := dq_16 (a := 21) (by decide +kernel) (by decide +kernel)
theorem dX12_goesOn_310 : decode cX12_goesOn 310 = .ok (.if_icmp .eq 12, 3) := dq_159 (a := 0) (b := 12) (by decide +kernel) (by decide +kernel)
theorem dX12_goesOn_322 : decode cX12_goesOn 322 = .ok (.aload_n 0, 1) := dq_42 (by decide +kernel)
theorem dX12_goesOn_323 : decode cX12_goesOn 323 = .ok (.bipush 44, 2) := dq_16 (a := 44) (by decide +kernel) (by decide +kernel)
theorem dX12_goesOn_325 : decode cX12_goesOn 325 = .ok (.invokevirtual 219, 3) := dq_182 (a := 0) (b := 219) (by decide +kernel) rfl
theorem dX12_goesOn_328 : decode cX12_goesOn 328 = .ok (.aload_n 0, 1) := dq_42 (by decide +kernel)
theorem dX12_goesOn_329 : decode cX12_goesOn 329 = .ok (.getfield 151, 3) := dq_180 (a := 0) (b := 151) (by decide +kernel) rfl
theorem dX12_goesOn_332 : decode cX12_goesOn 332 = .ok (.ifCond .eq 5, 3) := dq_153 (a := 0) (b := 5) (by decide +kernel) (by decide +kernel)
theorem dX12_goesOn_337 : decode cX12_goesOn 337 = .ok (.aload_n 0, 1) := dq_42 (by decide +kernel)
theorem dX12_goesOn_338 : decode cX12_goesOn 338 = .ok (.invokevirtual 280, 3) := dq_182 (a := 1) (b := 24) (by decide +kernel) rfl
theorem dX12_goesOn_341 : decode cX12_goesOn 341 = .ok (.aload_n 0, 1) := dq_42 (by decide +kernel)
theorem dX12_goesOn_342 : decode cX12_goesOn 342 = .ok (.getfield 78, 3) := dq_180 (a := 0) (b := 78) (by decide +kernel) rfl
theorem dX12_goesOn_345 : decode cX12_goesOn 345 = .ok (.aload_n 0, 1) := dq_42 (by decide +kernel)
theorem dX12_goesOn_346 : decode cX12_goesOn 346 = .ok (.getfield 259, 3) := dq_180 (a := 1) (b := 3) (by decide +kernel) rfl
theorem dX12_goesOn_349 : decode cX12_goesOn 349 = .ok (.iconst 1, 1) := dq_4 (by decide +kernel)
theorem dX12_goesOn_350 : decode cX12_goesOn 350 = .ok (.isub, 1) := dq_100 (by decide +kernel)
theorem dX12_goesOn_351 : decode cX12_goesOn 351 = .ok (.dup2, 1) := dq_92 (by decide +kernel)
theorem dX12_goesOn_352 : decode cX12_goesOn 352 = .ok (.iaload, 1) := dq_46 (by decide +kernel)
theorem dX12_goesOn_353 : decode cX12_goesOn 353 = .ok (.iconst 2, 1) := dq_5 (by decide +kernel)
theorem dX12_goesOn_354 : decode cX12_goesOn 354 = .ok (.iadd, 1) := dq_96 (by decide +kernel)
theorem dX12_goesOn_355 : decode cX12_goesOn 355 = .ok (.iastore, 1) := dq_79 (by decide +kernel)
theorem dX12_goesOn_356 : decode cX12_goesOn 356 = .ok (.iconst 1, 1) := dq_4 (by decide +kernel)
theorem dX12_goesOn_357 : decode cX12_goesOn 357 = .ok (.ireturn, 1) := dq_172 (by decide +kernel)
theorem dX12_goesOn_335 : decode cX12_goesOn 335 = .ok (.iconst 0, 1) := dq_3 (by decide +kernel)
theorem dX12_goesOn_336 : decode cX12_goesOn 336 = .ok (.ireturn, 1) := dq_172 (by decide +kernel)
theorem dX12_goesOn_313 : decode cX12_goesOn 313 = .ok (.aload_n 0, 1) := dq_42 (by decide +kernel)
theorem dX12_goesOn_314 : decode cX12_goesOn 314 = .ok (.invokevirtual 277, 3) := dq_182 (a := 1) (b := 21) (by decide +kernel) rfl
theorem dX12_goesOn_317 : decode cX12_goesOn 317 = .ok (.bipush 22, 2) := dq_16 (a := 22) (by decide +kernel) (by decide +kernel)
theorem dX12_goesOn_319 : decode cX12_goesOn 319 = .ok (.if_icmp .ne 39, 3) := dq_160 (a := 0) (b := 39) (by decide +kernel) (by decide +kernel)
theorem dX12_goesOn_358 : decode cX12_goesOn 358 = .ok (.aload_n 0, 1) := dq_42 (by decide +kernel)
theorem dX12_goesOn_359 : decode cX12_goesOn 359 = .ok (.invokevirtual 277, 3) := dq_182 (a := 1) (b := 21) (by decide +kernel) rfl
theorem dX12_goesOn_362 : decode cX12_goesOn 362 = .ok (.iconst (-1), 1) := dq_2 (by decide +kernel)
theorem dX12_goesOn_363 : decode cX12_goesOn 363 = .ok (.if_icmp .eq 19, 3) := dq_159 (a := 0) (b := 19) (by decide +kernel) (by decide +kernel)
theorem dX12_goesOn_382 : decode cX12_goesOn 382 = .ok (.iconst 0, 1) := dq_3 (by decide +kernel)
theorem dX12_goesOn_383 : decode cX12_goesOn 383 = .ok (.ireturn, 1) := dq_172 (by decide +kernel)
theorem dX12_goesOn_366 : decode cX12_goesOn 366 = .ok (.aload_n 0, 1) := dq_42 (by decide +kernel)
theorem dX12_goesOn_367 : decode cX12_goesOn 367 = .ok (.getfield 151, 3) := dq_180 (a := 0) (b := 151) (by decide +kernel) rfl
theorem dX12_goesOn_370 : decode cX12_goesOn 370 = .ok (.ifCond .ne 12, 3) := dq_154 (a := 0) (b := 12) (by decide +kernel) (by decide +kernel)
theorem dX12_goesOn_373 : decode cX12_goesOn 373 = .ok (.aload_n 0, 1) := dq_42 (by decide +kernel)
theorem dX12_goesOn_374 : decode cX12_goesOn 374 = .ok (.iconst 1, 1) := dq_4 (by decide +kernel)
theorem dX12_goesOn_375 : decode cX12_goesOn 375 = .ok (.aload_n 0, 1) := dq_42 (by decide +kernel)
theorem dX12_goesOn_376 : decode cX12_goesOn 376 = .ok (.getfield 157, 3) := dq_180 (a := 0) (b := 157) (by decide +kernel) rfl
theorem dX12_goesOn_379 : decode cX12_goesOn 379 = .ok (.invokevirtual 181, 3) := dq_182 (a := 0) (b := 181) (by decide +kernel) rfl
theorem dX12_goesOn_243 : decode cX12_goesOn 243 = .ok (.aload_n 0, 1) := dq_42 (by decide +kernel)
theorem dX12_goesOn_244 : decode cX12_goesOn 244 = .ok (.iconst 3, 1) := dq_6 (by decide +kernel)
theorem dX12_goesOn_245 : decode cX12_goesOn 245 = .ok (.invokevirtual 283, 3) := dq_182 (a := 1) (b := 27) (by decide +kernel) rfl
theorem dX12_goesOn_248 : decode cX12_goesOn 248 = .ok (.ifCond .ne 27, 3) := dq_154 (a := 0) (b := 27) (by decide +kernel) (by decide +kernel)
theorem dX12_goesOn_275 : decode cX12_goesOn 275 = .ok (.aload_n 0, 1) := dq_42 (by decide +kernel)
theorem dX12_goesOn_276 : decode cX12_goesOn 276 = .ok (.invokevirtual 271, 3) := dq_182 (a := 1) (b := 15) (by decide +kernel) rfl
theorem dX12_goesOn_279 : decode cX12_goesOn 279 = .ok (.goto (-36), 3) := dq_167 (a := 255) (b := 220) (by decide +kernel) (by decide +kernel)
theorem dX12_goesOn_251 : decode cX12_goesOn 251 = .ok (.aload_n 0, 1) := dq_42 (by decide +kernel)
theorem dX12_goesOn_252 : decode cX12_goesOn 252 = .ok (.iconst 4, 1) := dq_7 (by decide +kernel)
theorem dX12_goesOn_253 : decode cX12_goesOn 253 = .ok (.invokevirtual 283, 3) := dq_182 (a := 1) (b := 27) (by decide +kernel) rfl
theorem dX12_goesOn_256 : decode cX12_goesOn 256 = .ok (.ifCond .ne 19, 3) := dq_154 (a := 0) (b := 19) (by decide +kernel) (by decide +kernel)
theorem dX12_goesOn_259 : decode cX12_goesOn 259 = .ok (.aload_n 0, 1) := dq_42 (by decide +kernel)
theorem dX12_goesOn_260 : decode cX12_goesOn 260 = .ok (.iconst 1, 1) := dq_4 (by decide +kernel)
theorem dX12_goesOn_261 : decode cX12_goesOn 261 = .ok (.invokevirtual 283, 3) := dq_182 (a := 1) (b := 27) (by decide +kernel) rfl
theorem dX12_goesOn_264 : decode cX12_goesOn 264 = .ok (.ifCond .ne 11, 3) := dq_154 (a := 0) (b := 11) (by decide +kernel) (by decide +kernel)
theorem dX12_goesOn_267 : decode cX12_goesOn 267 = .ok (.aload_n 0, 1) := dq_42 (by decide +kernel)
theorem dX12_goesOn_268 : decode cX12_goesOn 268 = .ok (.iconst 2, 1) := dq_5 (by decide +kernel)
theorem dX12_goesOn_269 : decode cX12_goesOn 269 = .ok (.invokevirtual 283, 3) := dq_182 (a := 1) (b := 27) (by decide +kernel) rfl
theorem dX12_goesOn_272 : decode cX12_goesOn 272 = .ok (.ifCond .eq 10, 3) := dq_153 (a := 0) (b := 10) (by decide +kernel) (by decide +kernel)
theorem dX12_goesOn_282 : decode cX12_goesOn 282 = .ok (.aload_n 0, 1) := dq_42 (by decide +kernel)
theorem dX12_goesOn_283 : decode cX12_goesOn 283 = .ok (.getfield 78, 3) := dq_180 (a := 0) (b := 78) (by decide +kernel) rfl
theorem dX12_goesOn_286 : decode cX12_goesOn 286 = .ok (.aload_n 0, 1) := dq_42 (by decide +kernel)
theorem dX12_goesOn_287 : decode cX12_goesOn 287 = .ok (.getfield 259, 3) := dq_180 (a := 1) (b := 3) (by decide +kernel) rfl
theorem dX12_goesOn_290 : decode cX12_goesOn 290 = .ok (.iload_n 1, 1) := dq_27 (by decide +kernel)
theorem dX12_goesOn_291 : decode cX12_goesOn 291 = .ok (.iastore, 1) := dq_79 (by decide +kernel)
theorem dX12_goesOn_292 : decode cX12_goesOn 292 = .ok (.aload_n 0, 1) := dq_42 (by decide +kernel)
theorem dX12_goesOn_293 : decode cX12_goesOn 293 = .ok (.dup, 1) := dq_89 (by decide +kernel)
theorem dX12_goesOn_294 : decode cX12_goesOn 294 = .ok (.getfield 259, 3) := dq_180 (a := 1) (b := 3) (by decide +kernel) rfl
theorem dX12_goesOn_297 : decode cX12_goesOn 297 = .ok (.iconst 1, 1) := dq_4 (by decide +kernel)
theorem dX12_goesOn_298 : decode cX12_goesOn 298 = .ok (.iadd, 1) := dq_96 (by decide +kernel)
theorem dX12_goesOn_299 : decode cX12_goesOn 299 = .ok (.putfield 259, 3) := dq_181 (a := 1) (b := 3) (by decide +kernel) rfl
theorem dX12_goesOn_302 : decode cX12_goesOn 302 = .ok (.iconst 1, 1) := dq_4 (by decide +kernel)
theorem dX12_goesOn_303 : decode cX12_goesOn 303 = .ok (.ireturn, 1) := dq_172 (by decide +kernel)
theorem dX12_sumsTold_41 : decode cX12_sumsTold 41 = .ok (.ifCond .eq 7, 3) := dq_153 (a := 0) (b := 7) (by decide +kernel) (by decide +kernel)
theorem dX12_sumsTold_44 : decode cX12_sumsTold 44 = .ok (.iconst 1, 1) := dq_4 (by decide +kernel)
theorem dX12_sumsTold_45 : decode cX12_sumsTold 45 = .ok (.goto 4, 3) := dq_167 (a := 0) (b := 4) (by decide +kernel) (by decide +kernel)
theorem dX12_sumsTold_71 : decode cX12_sumsTold 71 = .ok (.aload_n 0, 1) := dq_42 (by decide +kernel)
theorem dX12_sumsTold_72 : decode cX12_sumsTold 72 = .ok (.invokevirtual 271, 3) := dq_182 (a := 1) (b := 15) (by decide +kernel) rfl
theorem dX12_sumsTold_75 : decode cX12_sumsTold 75 = .ok (.goto (-22), 3) := dq_167 (a := 255) (b := 234) (by decide +kernel) (by decide +kernel)
theorem dX12_worthTold_71 : decode cX12_worthTold 71 = .ok (.aload_n 0, 1) := dq_42 (by decide +kernel)
theorem dX12_worthTold_72 : decode cX12_worthTold 72 = .ok (.getfield 87, 3) := dq_180 (a := 0) (b := 87) (by decide +kernel) rfl
theorem dX12_worthTold_75 : decode cX12_worthTold 75 = .ok (.iload_n 2, 1) := dq_28 (by decide +kernel)
theorem dX12_worthTold_76 : decode cX12_worthTold 76 = .ok (.aload_n 0, 1) := dq_42 (by decide +kernel)
theorem dX12_worthTold_77 : decode cX12_worthTold 77 = .ok (.getfield 222, 3) := dq_180 (a := 0) (b := 222) (by decide +kernel) rfl
theorem dX12_worthTold_80 : decode cX12_worthTold 80 = .ok (.iastore, 1) := dq_79 (by decide +kernel)
theorem dX12_worthTold_81 : decode cX12_worthTold 81 = .ok (.aload_n 0, 1) := dq_42 (by decide +kernel)
theorem dX12_worthTold_82 : decode cX12_worthTold 82 = .ok (.aload_n 0, 1) := dq_42 (by decide +kernel)
theorem dX12_worthTold_83 : decode cX12_worthTold 83 = .ok (.getfield 33, 3) := dq_180 (a := 0) (b := 33) (by decide +kernel) rfl
theorem dX12_worthTold_86 : decode cX12_worthTold 86 = .ok (.invokevirtual 212, 3) := dq_182 (a := 0) (b := 212) (by decide +kernel) rfl
theorem dX12_worthTold_89 : decode cX12_worthTold 89 = .ok (.aload_n 0, 1) := dq_42 (by decide +kernel)
theorem dX12_worthTold_90 : decode cX12_worthTold 90 = .ok (.iconst 0, 1) := dq_3 (by decide +kernel)
theorem dX12_worthTold_91 : decode cX12_worthTold 91 = .ok (.putfield 259, 3) := dq_181 (a := 1) (b := 3) (by decide +kernel) rfl
theorem dX12_worthTold_94 : decode cX12_worthTold 94 = .ok (.aload_n 0, 1) := dq_42 (by decide +kernel)
theorem dX12_worthTold_95 : decode cX12_worthTold 95 = .ok (.iconst 0, 1) := dq_3 (by decide +kernel)
theorem dX12_worthTold_96 : decode cX12_worthTold 96 = .ok (.putfield 256, 3) := dq_181 (a := 1) (b := 0) (by decide +kernel) rfl
theorem dX12_worthTold_99 : decode cX12_worthTold 99 = .ok (.aload_n 0, 1) := dq_42 (by decide +kernel)
theorem dX12_worthTold_100 : decode cX12_worthTold 100 = .ok (.iconst 0, 1) := dq_3 (by decide +kernel)
theorem dX12_worthTold_101 : decode cX12_worthTold 101 = .ok (.putfield 265, 3) := dq_181 (a := 1) (b := 9) (by decide +kernel) rfl
theorem dX12_worthTold_104 : decode cX12_worthTold 104 = .ok (.aload_n 0, 1) := dq_42 (by decide +kernel)
theorem dX12_worthTold_105 : decode cX12_worthTold 105 = .ok (.getfield 151, 3) := dq_180 (a := 0) (b := 151) (by decide +kernel) rfl
theorem dX12_worthTold_108 : decode cX12_worthTold 108 = .ok (.ifCond .ne 7, 3) := dq_154 (a := 0) (b := 7) (by decide +kernel) (by decide +kernel)
theorem dX12_worthTold_115 : decode cX12_worthTold 115 = .ok (.aload_n 0, 1) := dq_42 (by decide +kernel)
theorem dX12_worthTold_116 : decode cX12_worthTold 116 = .ok (.getfield 90, 3) := dq_180 (a := 0) (b := 90) (by decide +kernel) rfl
theorem dX12_worthTold_119 : decode cX12_worthTold 119 = .ok (.iload_n 2, 1) := dq_28 (by decide +kernel)
theorem dX12_worthTold_120 : decode cX12_worthTold 120 = .ok (.aload_n 0, 1) := dq_42 (by decide +kernel)
theorem dX12_worthTold_121 : decode cX12_worthTold 121 = .ok (.getfield 222, 3) := dq_180 (a := 0) (b := 222) (by decide +kernel) rfl
theorem dX12_worthTold_124 : decode cX12_worthTold 124 = .ok (.iastore, 1) := dq_79 (by decide +kernel)
theorem dX12_worthTold_125 : decode cX12_worthTold 125 = .ok (.aload_n 0, 1) := dq_42 (by decide +kernel)
theorem dX12_worthTold_126 : decode cX12_worthTold 126 = .ok (.getfield 81, 3) := dq_180 (a := 0) (b := 81) (by decide +kernel) rfl
theorem dX12_worthTold_129 : decode cX12_worthTold 129 = .ok (.iconst 1, 1) := dq_4 (by decide +kernel)
theorem dX12_worthTold_130 : decode cX12_worthTold 130 = .ok (.dup2, 1) := dq_92 (by decide +kernel)
theorem dX12_worthTold_131 : decode cX12_worthTold 131 = .ok (.iaload, 1) := dq_46 (by decide +kernel)
theorem dX12_worthTold_132 : decode cX12_worthTold 132 = .ok (.iconst 1, 1) := dq_4 (by decide +kernel)
theorem dX12_worthTold_133 : decode cX12_worthTold 133 = .ok (.iadd, 1) := dq_96 (by decide +kernel)
theorem dX12_worthTold_134 : decode cX12_worthTold 134 = .ok (.iastore, 1) := dq_79 (by decide +kernel)
theorem dX12_worthTold_135 : decode cX12_worthTold 135 = .ok (.return_, 1) := dq_177 (by decide +kernel)
theorem dX12_worthTold_111 : decode cX12_worthTold 111 = .ok (.aload_n 0, 1) := dq_42 (by decide +kernel)
theorem dX12_worthTold_112 : decode cX12_worthTold 112 = .ok (.invokevirtual 308, 3) := dq_182 (a := 1) (b := 52) (by decide +kernel) rfl
theorem dX12_test_13 : decode cX12_test 13 = .ok (.aload_n 0, 1) := dq_42 (by decide +kernel)
theorem dX12_test_14 : decode cX12_test 14 = .ok (.invokevirtual 163, 3) := dq_182 (a := 0) (b := 163) (by decide +kernel) rfl
theorem dX12_test_17 : decode cX12_test 17 = .ok (.istore_n 2, 1) := dq_61 (by decide +kernel)
theorem dX12_test_18 : decode cX12_test 18 = .ok (.iload_n 2, 1) := dq_28 (by decide +kernel)
theorem dX12_test_19 : decode cX12_test 19 = .ok (.bipush 91, 2) := dq_16 (a := 91) (by decide +kernel) (by decide +kernel)
theorem dX12_test_21 : decode cX12_test 21 = .ok (.if_icmp .ne 26, 3) := dq_160 (a := 0) (b := 26) (by decide +kernel) (by decide +kernel)
theorem dX12_test_47 : decode cX12_test 47 = .ok (.aload_n 0, 1) := dq_42 (by decide +kernel)
theorem dX12_test_48 : decode cX12_test 48 = .ok (.aload_n 0, 1) := dq_42 (by decide +kernel)
theorem dX12_test_49 : decode cX12_test 49 = .ok (.getfield 42, 3) := dq_180 (a := 0) (b := 42) (by decide +kernel) rfl
theorem dX12_test_52 : decode cX12_test 52 = .ok (.invokevirtual 174, 3) := dq_182 (a := 0) (b := 174) (by decide +kernel) rfl
theorem dX12_test_55 : decode cX12_test 55 = .ok (.ifCond .eq 24, 3) := dq_153 (a := 0) (b := 24) (by decide +kernel) (by decide +kernel)
theorem dX12_test_79 : decode cX12_test 79 = .ok (.aload_n 0, 1) := dq_42 (by decide +kernel)
theorem dX12_test_80 : decode cX12_test 80 = .ok (.invokevirtual 296, 3) := dq_182 (a := 1) (b := 40) (by decide +kernel) rfl
theorem dX12_fact_22 : decode cX12_fact 22 = .ok (.aload_n 0, 1) := dq_42 (by decide +kernel)
theorem dX12_fact_23 : decode cX12_fact 23 = .ok (.getfield 151, 3) := dq_180 (a := 0) (b := 151) (by decide +kernel) rfl
theorem dX12_fact_26 : decode cX12_fact 26 = .ok (.ifCond .eq 4, 3) := dq_153 (a := 0) (b := 4) (by decide +kernel) (by decide +kernel)
theorem dX12_fact_30 : decode cX12_fact 30 = .ok (.aload_n 0, 1) := dq_42 (by decide +kernel)
theorem dX12_fact_31 : decode cX12_fact 31 = .ok (.invokevirtual 163, 3) := dq_182 (a := 0) (b := 163) (by decide +kernel) rfl
theorem dX12_fact_34 : decode cX12_fact 34 = .ok (.istore_n 1, 1) := dq_60 (by decide +kernel)
theorem dX12_fact_35 : decode cX12_fact 35 = .ok (.iload_n 1, 1) := dq_27 (by decide +kernel)
theorem dX12_fact_36 : decode cX12_fact 36 = .ok (.bipush 60, 2) := dq_16 (a := 60) (by decide +kernel) (by decide +kernel)
theorem dX12_fact_38 : decode cX12_fact 38 = .ok (.if_icmp .eq 25, 3) := dq_159 (a := 0) (b := 25) (by decide +kernel) (by decide +kernel)
theorem dX12_fact_63 : decode cX12_fact 63 = .ok (.aload_n 0, 1) := dq_42 (by decide +kernel)
theorem dX12_fact_64 : decode cX12_fact 64 = .ok (.dup, 1) := dq_89 (by decide +kernel)
theorem dX12_fact_65 : decode cX12_fact 65 = .ok (.getfield 157, 3) := dq_180 (a := 0) (b := 157) (by decide +kernel) rfl
theorem dX12_fact_68 : decode cX12_fact 68 = .ok (.iconst 1, 1) := dq_4 (by decide +kernel)
theorem dX12_fact_69 : decode cX12_fact 69 = .ok (.iadd, 1) := dq_96 (by decide +kernel)
theorem dX12_fact_70 : decode cX12_fact 70 = .ok (.putfield 157, 3) := dq_181 (a := 0) (b := 157) (by decide +kernel) rfl
theorem dX12_fact_73 : decode cX12_fact 73 = .ok (.aload_n 0, 1) := dq_42 (by decide +kernel)
theorem dX12_fact_74 : decode cX12_fact 74 = .ok (.invokevirtual 293, 3) := dq_182 (a := 1) (b := 37) (by decide +kernel) rfl
theorem dX12_fact_77 : decode cX12_fact 77 = .ok (.aload_n 0, 1) := dq_42 (by decide +kernel)
theorem dX12_fact_78 : decode cX12_fact 78 = .ok (.iload_n 1, 1) := dq_27 (by decide +kernel)
theorem dX12_fact_79 : decode cX12_fact 79 = .ok (.bipush 60, 2) := dq_16 (a := 60) (by decide +kernel) (by decide +kernel)
theorem dX12_fact_81 : decode cX12_fact 81 = .ok (.if_icmp .ne 8, 3) := dq_160 (a := 0) (b := 8) (by decide +kernel) (by decide +kernel)
theorem dX12_fact_84 : decode cX12_fact 84 = .ok (.bipush 11, 2) := dq_16 (a := 11) (by decide +kernel) (by decide +kernel)
theorem dX12_fact_86 : decode cX12_fact 86 = .ok (.goto 16, 3) := dq_167 (a := 0) (b := 16) (by decide +kernel) (by decide +kernel)
theorem dX12_fact_102 : decode cX12_fact 102 = .ok (.invokevirtual 262, 3) := dq_182 (a := 1) (b := 6) (by decide +kernel) rfl
theorem dX12_fact_105 : decode cX12_fact 105 = .ok (.return_, 1) := dq_177 (by decide +kernel)
theorem dX12_fact_41 : decode cX12_fact 41 = .ok (.iload_n 1, 1) := dq_27 (by decide +kernel)
theorem dX12_fact_42 : decode cX12_fact 42 = .ok (.bipush 62, 2) := dq_16 (a := 62) (by decide +kernel) (by decide +kernel)
theorem dX12_fact_44 : decode cX12_fact 44 = .ok (.if_icmp .eq 19, 3) := dq_159 (a := 0) (b := 19) (by decide +kernel) (by decide +kernel)
theorem dX12_fact_89 : decode cX12_fact 89 = .ok (.iload_n 1, 1) := dq_27 (by decide +kernel)
theorem dX12_fact_90 : decode cX12_fact 90 = .ok (.bipush 62, 2) := dq_16 (a := 62) (by decide +kernel) (by decide +kernel)
theorem dX12_fact_92 : decode cX12_fact 92 = .ok (.if_icmp .ne 8, 3) := dq_160 (a := 0) (b := 8) (by decide +kernel) (by decide +kernel)
theorem dX12_fact_95 : decode cX12_fact 95 = .ok (.bipush 12, 2) := dq_16 (a := 12) (by decide +kernel) (by decide +kernel)
theorem dX12_fact_97 : decode cX12_fact 97 = .ok (.goto 5, 3) := dq_167 (a := 0) (b := 5) (by decide +kernel) (by decide +kernel)
theorem dX12_fact_47 : decode cX12_fact 47 = .ok (.iload_n 1, 1) := dq_27 (by decide +kernel)
theorem dX12_fact_48 : decode cX12_fact 48 = .ok (.bipush 61, 2) := dq_16 (a := 61) (by decide +kernel) (by decide +kernel)
theorem dX12_fact_50 : decode cX12_fact 50 = .ok (.if_icmp .eq 13, 3) := dq_159 (a := 0) (b := 13) (by decide +kernel) (by decide +kernel)
theorem dX12_fact_100 : decode cX12_fact 100 = .ok (.bipush 13, 2) := dq_16 (a := 13) (by decide +kernel) (by decide +kernel)
theorem dX12_fact_53 : decode cX12_fact 53 = .ok (.aload_n 0, 1) := dq_42 (by decide +kernel)
theorem dX12_fact_54 : decode cX12_fact 54 = .ok (.iconst 1, 1) := dq_4 (by decide +kernel)
theorem dX12_fact_55 : decode cX12_fact 55 = .ok (.aload_n 0, 1) := dq_42 (by decide +kernel)
theorem dX12_fact_56 : decode cX12_fact 56 = .ok (.getfield 157, 3) := dq_180 (a := 0) (b := 157) (by decide +kernel) rfl
theorem dX12_fact_59 : decode cX12_fact 59 = .ok (.invokevirtual 181, 3) := dq_182 (a := 0) (b := 181) (by decide +kernel) rfl
theorem dX12_fact_62 : decode cX12_fact 62 = .ok (.return_, 1) := dq_177 (by decide +kernel)
theorem dX12_fact_29 : decode cX12_fact 29 = .ok (.return_, 1) := dq_177 (by decide +kernel)
theorem dX12_fact_11 : decode cX12_fact 11 = .ok (.aload_n 0, 1) := dq_42 (by decide +kernel)
theorem dX12_fact_12 : decode cX12_fact 12 = .ok (.bipush 17, 2) := dq_16 (a := 17) (by decide +kernel) (by decide +kernel)
theorem dX12_fact_14 : decode cX12_fact 14 = .ok (.invokevirtual 262, 3) := dq_182 (a := 1) (b := 6) (by decide +kernel) rfl
theorem dX12_fact_17 : decode cX12_fact 17 = .ok (.return_, 1) := dq_177 (by decide +kernel)
theorem dX12_test_83 : decode cX12_test 83 = .ok (.aload_n 0, 1) := dq_42 (by decide +kernel)
theorem dX12_test_84 : decode cX12_test 84 = .ok (.invokevirtual 299, 3) := dq_182 (a := 1) (b := 43) (by decide +kernel) rfl
theorem dX12_test_87 : decode cX12_test 87 = .ok (.aload_n 0, 1) := dq_42 (by decide +kernel)
theorem dX12_test_88 : decode cX12_test 88 = .ok (.getfield 151, 3) := dq_180 (a := 0) (b := 151) (by decide +kernel) rfl
theorem dX12_test_91 : decode cX12_test 91 = .ok (.ifCond .ne 14, 3) := dq_154 (a := 0) (b := 14) (by decide +kernel) (by decide +kernel)
theorem dX12_test_105 : decode cX12_test 105 = .ok (.iconst 0, 1) := dq_3 (by decide +kernel)
theorem dX12_test_106 : decode cX12_test 106 = .ok (.istore_n 1, 1) := dq_60 (by decide +kernel)
theorem dX12_test_107 : decode cX12_test 107 = .ok (.goto (-105), 3) := dq_167 (a := 255) (b := 151) (by decide +kernel) (by decide +kernel)
theorem dX12_test_94 : decode cX12_test 94 = .ok (.aload_n 0, 1) := dq_42 (by decide +kernel)
theorem dX12_test_95 : decode cX12_test 95 = .ok (.invokevirtual 302, 3) := dq_182 (a := 1) (b := 46) (by decide +kernel) rfl
theorem dX12_goesOnTest_7 : decode cX12_goesOnTest 7 = .ok (.aload_n 0, 1) := dq_42 (by decide +kernel)
theorem dX12_goesOnTest_8 : decode cX12_goesOnTest 8 = .ok (.invokevirtual 163, 3) := dq_182 (a := 0) (b := 163) (by decide +kernel) rfl
theorem dX12_goesOnTest_11 : decode cX12_goesOnTest 11 = .ok (.bipush 93, 2) := dq_16 (a := 93) (by decide +kernel) (by decide +kernel)
theorem dX12_goesOnTest_13 : decode cX12_goesOnTest 13 = .ok (.if_icmp .ne 63, 3) := dq_160 (a := 0) (b := 63) (by decide +kernel) (by decide +kernel)
theorem dX12_goesOnTest_87 : decode cX12_goesOnTest 87 = .ok (.aload_n 0, 1) := dq_42 (by decide +kernel)
theorem dX12_goesOnTest_88 : decode cX12_goesOnTest 88 = .ok (.bipush 14, 2) := dq_16 (a := 14) (by decide +kernel) (by decide +kernel)
theorem dX12_goesOnTest_90 : decode cX12_goesOnTest 90 = .ok (.invokevirtual 283, 3) := dq_182 (a := 1) (b := 27) (by decide +kernel) rfl
theorem dX12_goesOnTest_93 : decode cX12_goesOnTest 93 = .ok (.ifCond .eq 10, 3) := dq_153 (a := 0) (b := 10) (by decide +kernel) (by decide +kernel)
theorem dX12_goesOnTest_103 : decode cX12_goesOnTest 103 = .ok (.aload_n 0, 1) := dq_42 (by decide +kernel)
theorem dX12_goesOnTest_104 : decode cX12_goesOnTest 104 = .ok (.getfield 78, 3) := dq_180 (a := 0) (b := 78) (by decide +kernel) rfl
theorem dX12_goesOnTest_107 : decode cX12_goesOnTest 107 = .ok (.aload_n 0, 1) := dq_42 (by decide +kernel)
theorem dX12_goesOnTest_108 : decode cX12_goesOnTest 108 = .ok (.getfield 259, 3) := dq_180 (a := 1) (b := 3) (by decide +kernel) rfl
theorem dX12_goesOnTest_111 : decode cX12_goesOnTest 111 = .ok (.bipush 14, 2) := dq_16 (a := 14) (by decide +kernel) (by decide +kernel)
theorem dX12_goesOnTest_113 : decode cX12_goesOnTest 113 = .ok (.iastore, 1) := dq_79 (by decide +kernel)
theorem dX12_goesOnTest_114 : decode cX12_goesOnTest 114 = .ok (.aload_n 0, 1) := dq_42 (by decide +kernel)
theorem dX12_goesOnTest_115 : decode cX12_goesOnTest 115 = .ok (.dup, 1) := dq_89 (by decide +kernel)
theorem dX12_goesOnTest_116 : decode cX12_goesOnTest 116 = .ok (.getfield 259, 3) := dq_180 (a := 1) (b := 3) (by decide +kernel) rfl
theorem dX12_goesOnTest_119 : decode cX12_goesOnTest 119 = .ok (.iconst 1, 1) := dq_4 (by decide +kernel)
theorem dX12_goesOnTest_120 : decode cX12_goesOnTest 120 = .ok (.iadd, 1) := dq_96 (by decide +kernel)
theorem dX12_goesOnTest_121 : decode cX12_goesOnTest 121 = .ok (.putfield 259, 3) := dq_181 (a := 1) (b := 3) (by decide +kernel) rfl
theorem dX12_goesOnTest_124 : decode cX12_goesOnTest 124 = .ok (.iconst 1, 1) := dq_4 (by decide +kernel)
theorem dX12_goesOnTest_125 : decode cX12_goesOnTest 125 = .ok (.ireturn, 1) := dq_172 (by decide +kernel)
theorem dX12_goesOnTest_96 : decode cX12_goesOnTest 96 = .ok (.aload_n 0, 1) := dq_42 (by decide +kernel)
theorem dX12_goesOnTest_97 : decode cX12_goesOnTest 97 = .ok (.invokevirtual 271, 3) := dq_182 (a := 1) (b := 15) (by decide +kernel) rfl
theorem dX12_goesOnTest_100 : decode cX12_goesOnTest 100 = .ok (.goto (-13), 3) := dq_167 (a := 255) (b := 243) (by decide +kernel) (by decide +kernel)
theorem dX12_goesOnTest_16 : decode cX12_goesOnTest 16 = .ok (.aload_n 0, 1) := dq_42 (by decide +kernel)
theorem dX12_goesOnTest_17 : decode cX12_goesOnTest 17 = .ok (.invokevirtual 305, 3) := dq_182 (a := 1) (b := 49) (by decide +kernel) rfl
theorem dX12_goesOnTest_20 : decode cX12_goesOnTest 20 = .ok (.ifCond .eq 56, 3) := dq_153 (a := 0) (b := 56) (by decide +kernel) (by decide +kernel)
theorem dX12_goesOnTest_23 : decode cX12_goesOnTest 23 = .ok (.aload_n 0, 1) := dq_42 (by decide +kernel)
theorem dX12_goesOnTest_24 : decode cX12_goesOnTest 24 = .ok (.dup, 1) := dq_89 (by decide +kernel)
theorem dX12_goesOnTest_25 : decode cX12_goesOnTest 25 = .ok (.getfield 157, 3) := dq_180 (a := 0) (b := 157) (by decide +kernel) rfl
theorem dX12_goesOnTest_28 : decode cX12_goesOnTest 28 = .ok (.iconst 1, 1) := dq_4 (by decide +kernel)
theorem dX12_goesOnTest_29 : decode cX12_goesOnTest 29 = .ok (.iadd, 1) := dq_96 (by decide +kernel)
theorem dX12_goesOnTest_30 : decode cX12_goesOnTest 30 = .ok (.putfield 157, 3) := dq_181 (a := 0) (b := 157) (by decide +kernel) rfl
theorem dX12_goesOnTest_33 : decode cX12_goesOnTest 33 = .ok (.aload_n 0, 1) := dq_42 (by decide +kernel)
theorem dX12_goesOnTest_34 : decode cX12_goesOnTest 34 = .ok (.bipush 25, 2) := dq_16 (a := 25) (by decide +kernel) (by decide +kernel)
theorem dX12_goesOnTest_36 : decode cX12_goesOnTest 36 = .ok (.invokevirtual 283, 3) := dq_182 (a := 1) (b := 27) (by decide +kernel) rfl
theorem dX12_goesOnTest_39 : decode cX12_goesOnTest 39 = .ok (.ifCond .ne 10, 3) := dq_154 (a := 0) (b := 10) (by decide +kernel) (by decide +kernel)
theorem dX12_goesOnTest_49 : decode cX12_goesOnTest 49 = .ok (.aload_n 0, 1) := dq_42 (by decide +kernel)
theorem dX12_goesOnTest_50 : decode cX12_goesOnTest 50 = .ok (.dup, 1) := dq_89 (by decide +kernel)
theorem dX12_goesOnTest_51 : decode cX12_goesOnTest 51 = .ok (.getfield 259, 3) := dq_180 (a := 1) (b := 3) (by decide +kernel) rfl
theorem dX12_goesOnTest_54 : decode cX12_goesOnTest 54 = .ok (.iconst 1, 1) := dq_4 (by decide +kernel)
theorem dX12_goesOnTest_55 : decode cX12_goesOnTest 55 = .ok (.isub, 1) := dq_100 (by decide +kernel)
theorem dX12_goesOnTest_56 : decode cX12_goesOnTest 56 = .ok (.putfield 259, 3) := dq_181 (a := 1) (b := 3) (by decide +kernel) rfl
theorem dX12_goesOnTest_59 : decode cX12_goesOnTest 59 = .ok (.aload_n 0, 1) := dq_42 (by decide +kernel)
theorem dX12_goesOnTest_60 : decode cX12_goesOnTest 60 = .ok (.dup, 1) := dq_89 (by decide +kernel)
theorem dX12_goesOnTest_61 : decode cX12_goesOnTest 61 = .ok (.getfield 256, 3) := dq_180 (a := 1) (b := 0) (by decide +kernel) rfl
theorem dX12_goesOnTest_64 : decode cX12_goesOnTest 64 = .ok (.iconst 1, 1) := dq_4 (by decide +kernel)
theorem dX12_goesOnTest_65 : decode cX12_goesOnTest 65 = .ok (.isub, 1) := dq_100 (by decide +kernel)
theorem dX12_goesOnTest_66 : decode cX12_goesOnTest 66 = .ok (.putfield 256, 3) := dq_181 (a := 1) (b := 0) (by decide +kernel) rfl
theorem dX12_goesOnTest_69 : decode cX12_goesOnTest 69 = .ok (.aload_n 0, 1) := dq_42 (by decide +kernel)
theorem dX12_goesOnTest_70 : decode cX12_goesOnTest 70 = .ok (.invokevirtual 299, 3) := dq_182 (a := 1) (b := 43) (by decide +kernel) rfl
theorem dX12_goesOnTest_73 : decode cX12_goesOnTest 73 = .ok (.goto (-73), 3) := dq_167 (a := 255) (b := 183) (by decide +kernel) (by decide +kernel)
theorem dX12_goesOnTest_42 : decode cX12_goesOnTest 42 = .ok (.aload_n 0, 1) := dq_42 (by decide +kernel)
theorem dX12_goesOnTest_43 : decode cX12_goesOnTest 43 = .ok (.invokevirtual 271, 3) := dq_182 (a := 1) (b := 15) (by decide +kernel) rfl
theorem dX12_goesOnTest_46 : decode cX12_goesOnTest 46 = .ok (.goto (-13), 3) := dq_167 (a := 255) (b := 243) (by decide +kernel) (by decide +kernel)
theorem dX12_test_98 : decode cX12_test 98 = .ok (.ifCond .eq 7, 3) := dq_153 (a := 0) (b := 7) (by decide +kernel) (by decide +kernel)
theorem dX12_test_101 : decode cX12_test 101 = .ok (.iconst 1, 1) := dq_4 (by decide +kernel)
theorem dX12_test_102 : decode cX12_test 102 = .ok (.goto 4, 3) := dq_167 (a := 0) (b := 4) (by decide +kernel) (by decide +kernel)
theorem dX12_test_58 : decode cX12_test 58 = .ok (.aload_n 0, 1) := dq_42 (by decide +kernel)
theorem dX12_test_59 : decode cX12_test 59 = .ok (.bipush 16, 2) := dq_16 (a := 16) (by decide +kernel) (by decide +kernel)
theorem dX12_test_61 : decode cX12_test 61 = .ok (.aload_n 0, 1) := dq_42 (by decide +kernel)
theorem dX12_test_62 : decode cX12_test 62 = .ok (.getfield 157, 3) := dq_180 (a := 0) (b := 157) (by decide +kernel) rfl
theorem dX12_test_65 : decode cX12_test 65 = .ok (.invokevirtual 274, 3) := dq_182 (a := 1) (b := 18) (by decide +kernel) rfl
theorem dX12_test_68 : decode cX12_test 68 = .ok (.aload_n 0, 1) := dq_42 (by decide +kernel)
theorem dX12_test_69 : decode cX12_test 69 = .ok (.aload_n 0, 1) := dq_42 (by decide +kernel)
theorem dX12_test_70 : decode cX12_test 70 = .ok (.getfield 42, 3) := dq_180 (a := 0) (b := 42) (by decide +kernel) rfl
theorem dX12_test_73 : decode cX12_test 73 = .ok (.invokevirtual 212, 3) := dq_182 (a := 0) (b := 212) (by decide +kernel) rfl
theorem dX12_test_76 : decode cX12_test 76 = .ok (.goto (-74), 3) := dq_167 (a := 255) (b := 182) (by decide +kernel) (by decide +kernel)
theorem dX12_test_24 : decode cX12_test 24 = .ok (.aload_n 0, 1) := dq_42 (by decide +kernel)
theorem dX12_test_25 : decode cX12_test 25 = .ok (.bipush 25, 2) := dq_16 (a := 25) (by decide +kernel) (by decide +kernel)
theorem dX12_test_27 : decode cX12_test 27 = .ok (.aload_n 0, 1) := dq_42 (by decide +kernel)
theorem dX12_test_28 : decode cX12_test 28 = .ok (.getfield 157, 3) := dq_180 (a := 0) (b := 157) (by decide +kernel) rfl
theorem dX12_test_31 : decode cX12_test 31 = .ok (.invokevirtual 274, 3) := dq_182 (a := 1) (b := 18) (by decide +kernel) rfl
theorem dX12_test_34 : decode cX12_test 34 = .ok (.aload_n 0, 1) := dq_42 (by decide +kernel)
theorem dX12_test_35 : decode cX12_test 35 = .ok (.dup, 1) := dq_89 (by decide +kernel)
theorem dX12_test_36 : decode cX12_test 36 = .ok (.getfield 157, 3) := dq_180 (a := 0) (b := 157) (by decide +kernel) rfl
theorem dX12_test_39 : decode cX12_test 39 = .ok (.iconst 1, 1) := dq_4 (by decide +kernel)
theorem dX12_test_40 : decode cX12_test 40 = .ok (.iadd, 1) := dq_96 (by decide +kernel)
theorem dX12_test_41 : decode cX12_test 41 = .ok (.putfield 157, 3) := dq_181 (a := 0) (b := 157) (by decide +kernel) rfl
theorem dX12_test_44 : decode cX12_test 44 = .ok (.goto (-42), 3) := dq_167 (a := 255) (b := 214) (by decide +kernel) (by decide +kernel)
theorem dX12_worthTold_18 : decode cX12_worthTold 18 = .ok (.aload_n 0, 1) := dq_42 (by decide +kernel)
theorem dX12_worthTold_19 : decode cX12_worthTold 19 = .ok (.iconst 4, 1) := dq_7 (by decide +kernel)
theorem dX12_worthTold_20 : decode cX12_worthTold 20 = .ok (.iload_n 1, 1) := dq_27 (by decide +kernel)
theorem dX12_worthTold_21 : decode cX12_worthTold 21 = .ok (.invokevirtual 181, 3) := dq_182 (a := 0) (b := 181) (by decide +kernel) rfl
theorem dX12_worthTold_31 : decode cX12_worthTold 31 = .ok (.return_, 1) := dq_177 (by decide +kernel)
theorem dX12_houseTold_70 : decode cX12_houseTold 70 = .ok (.aload_n 0, 1) := dq_42 (by decide +kernel)
theorem dX12_houseTold_71 : decode cX12_houseTold 71 = .ok (.getfield 66, 3) := dq_180 (a := 0) (b := 66) (by decide +kernel) rfl
theorem dX12_houseTold_74 : decode cX12_houseTold 74 = .ok (.iconst 5, 1) := dq_8 (by decide +kernel)
theorem dX12_houseTold_75 : decode cX12_houseTold 75 = .ok (.aload_n 0, 1) := dq_42 (by decide +kernel)
theorem dX12_houseTold_76 : decode cX12_houseTold 76 = .ok (.iconst 0, 1) := dq_3 (by decide +kernel)
theorem dX12_houseTold_77 : decode cX12_houseTold 77 = .ok (.sipush 9999, 3) := dq_17 (a := 39) (b := 15) (by decide +kernel) (by decide +kernel)
theorem dX12_houseTold_80 : decode cX12_houseTold 80 = .ok (.invokevirtual 195, 3) := dq_182 (a := 0) (b := 195) (by decide +kernel) rfl
theorem dX12_houseTold_83 : decode cX12_houseTold 83 = .ok (.iastore, 1) := dq_79 (by decide +kernel)
theorem dX12_houseTold_84 : decode cX12_houseTold 84 = .ok (.goto 23, 3) := dq_167 (a := 0) (b := 23) (by decide +kernel) (by decide +kernel)
theorem dX12_houseTold_51 : decode cX12_houseTold 51 = .ok (.aload_n 0, 1) := dq_42 (by decide +kernel)
theorem dX12_houseTold_52 : decode cX12_houseTold 52 = .ok (.iload_n 1, 1) := dq_27 (by decide +kernel)
theorem dX12_houseTold_53 : decode cX12_houseTold 53 = .ok (.invokevirtual 209, 3) := dq_182 (a := 0) (b := 209) (by decide +kernel) rfl
theorem dX12_houseTold_56 : decode cX12_houseTold 56 = .ok (.goto 51, 3) := dq_167 (a := 0) (b := 51) (by decide +kernel) (by decide +kernel)
theorem dX12_houseTold_32 : decode cX12_houseTold 32 = .ok (.aload_n 0, 1) := dq_42 (by decide +kernel)
theorem dX12_houseTold_33 : decode cX12_houseTold 33 = .ok (.iload_n 1, 1) := dq_27 (by decide +kernel)
theorem dX12_houseTold_34 : decode cX12_houseTold 34 = .ok (.invokevirtual 205, 3) := dq_182 (a := 0) (b := 205) (by decide +kernel) rfl
theorem dX12_houseTold_37 : decode cX12_houseTold 37 = .ok (.goto 70, 3) := dq_167 (a := 0) (b := 70) (by decide +kernel) (by decide +kernel)
theorem dX12_houseTold_14 : decode cX12_houseTold 14 = .ok (.aload_n 0, 1) := dq_42 (by decide +kernel)
theorem dX12_houseTold_15 : decode cX12_houseTold 15 = .ok (.iconst 4, 1) := dq_7 (by decide +kernel)
theorem dX12_houseTold_16 : decode cX12_houseTold 16 = .ok (.iload_n 1, 1) := dq_27 (by decide +kernel)
theorem dX12_houseTold_17 : decode cX12_houseTold 17 = .ok (.invokevirtual 181, 3) := dq_182 (a := 0) (b := 181) (by decide +kernel) rfl
theorem dX12_houseTold_20 : decode cX12_houseTold 20 = .ok (.return_, 1) := dq_177 (by decide +kernel)
theorem dX12_house_168 : decode cX12_house 168 = .ok (.goto (-19), 3) := dq_167 (a := 255) (b := 237) (by decide +kernel) (by decide +kernel)
