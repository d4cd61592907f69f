theorem dX12_apart_1 : decode cX12_apart 1 = .ok (.iload_n 1, 1) := dq_27 (by decide +kernel)
theorem dX12_apart_2 : decode cX12_apart 2 = .ok (.invokevirtual 454, 3) := dq_182 (a := 1) (b := 198) (by decide +kernel) rfl
theorem dX12_apart_5 : decode cX12_apart 5 = .ok (.ifCond .eq 27, 3) := dq_153 (a := 0) (b := 27) (by decide +kernel) (by decide +kernel)
theorem dX12_apart_32 : decode cX12_apart 32 = .ok (.ldc2_w 384, 3) := dq_20 (a := 1) (b := 128) (by decide +kernel) rfl
theorem dX12_apart_35 : decode cX12_apart 35 = .ok (.lreturn, 1) := dq_173 (by decide +kernel)
theorem dX12_apart_8 : decode cX12_apart 8 = .ok (.aload_n 0, 1) := dq_42 (by decide +kernel)
theorem dX12_apart_9 : decode cX12_apart 9 = .ok (.iload_n 1, 1) := dq_27 (by decide +kernel)
theorem dX12_apart_10 : decode cX12_apart 10 = .ok (.iconst 2, 1) := dq_5 (by decide +kernel)
theorem dX12_apart_11 : decode cX12_apart 11 = .ok (.aload_n 0, 1) := dq_42 (by decide +kernel)
theorem dX12_apart_12 : decode cX12_apart 12 = .ok (.getfield 234, 3) := dq_180 (a := 0) (b := 234) (by decide +kernel) rfl
theorem dX12_apart_15 : decode cX12_apart 15 = .ok (.imul, 1) := dq_104 (by decide +kernel)
theorem dX12_apart_16 : decode cX12_apart 16 = .ok (.iconst 2, 1) := dq_5 (by decide +kernel)
theorem dX12_apart_17 : decode cX12_apart 17 = .ok (.isub, 1) := dq_100 (by decide +kernel)
theorem dX12_apart_18 : decode cX12_apart 18 = .ok (.iconst 2, 1) := dq_5 (by decide +kernel)
theorem dX12_apart_19 : decode cX12_apart 19 = .ok (.invokevirtual 457, 3) := dq_182 (a := 1) (b := 201) (by decide +kernel) rfl
theorem dX12_word_0 : decode cX12_word 0 = .ok (.iload_n 1, 1) := dq_27 (by decide +kernel)
theorem dX12_word_1 : decode cX12_word 1 = .ok (.i2l, 1) := dq_133 (by decide +kernel)
theorem dX12_word_2 : decode cX12_word 2 = .ok (.lconst 0, 1) := dq_9 (by decide +kernel)
theorem dX12_word_3 : decode cX12_word 3 = .ok (.aload_n 0, 1) := dq_42 (by decide +kernel)
theorem dX12_word_4 : decode cX12_word 4 = .ok (.getfield 246, 3) := dq_180 (a := 0) (b := 246) (by decide +kernel) rfl
theorem dX12_word_7 : decode cX12_word 7 = .ok (.iconst 1, 1) := dq_4 (by decide +kernel)
theorem dX12_word_8 : decode cX12_word 8 = .ok (.isub, 1) := dq_100 (by decide +kernel)
theorem dX12_word_9 : decode cX12_word 9 = .ok (.i2l, 1) := dq_133 (by decide +kernel)
theorem dX12_word_10 : decode cX12_word 10 = .ok (.invokestatic 191, 3) := dq_184 (a := 0) (b := 191) (by decide +kernel) rfl
theorem dX12_word_13 : decode cX12_word 13 = .ok (.ifCond .eq 24, 3) := dq_153 (a := 0) (b := 24) (by decide +kernel) (by decide +kernel)
theorem dX12_word_37 : decode cX12_word 37 = .ok (.ldc_w 364, 3) := dq_19 (a := 1) (b := 108) (by decide +kernel) rfl
theorem dX12_word_40 : decode cX12_word 40 = .ok (.ireturn, 1) := dq_172 (by decide +kernel)
theorem dX12_word_16 : decode cX12_word 16 = .ok (.aload_n 0, 1) := dq_42 (by decide +kernel)
theorem dX12_word_17 : decode cX12_word 17 = .ok (.iload_n 2, 1) := dq_28 (by decide +kernel)
theorem dX12_word_18 : decode cX12_word 18 = .ok (.invokevirtual 361, 3) := dq_182 (a := 1) (b := 105) (by decide +kernel) rfl
theorem dX12_word_21 : decode cX12_word 21 = .ok (.ifCond .eq 16, 3) := dq_153 (a := 0) (b := 16) (by decide +kernel) (by decide +kernel)
theorem dX12_word_24 : decode cX12_word 24 = .ok (.aload_n 0, 1) := dq_42 (by decide +kernel)
theorem dX12_word_25 : decode cX12_word 25 = .ok (.getfield 72, 3) := dq_180 (a := 0) (b := 72) (by decide +kernel) rfl
theorem dX12_word_28 : decode cX12_word 28 = .ok (.iconst 5, 1) := dq_8 (by decide +kernel)
theorem dX12_word_29 : decode cX12_word 29 = .ok (.iload_n 1, 1) := dq_27 (by decide +kernel)
theorem dX12_word_30 : decode cX12_word 30 = .ok (.imul, 1) := dq_104 (by decide +kernel)
theorem dX12_word_31 : decode cX12_word 31 = .ok (.iload_n 2, 1) := dq_28 (by decide +kernel)
theorem dX12_word_32 : decode cX12_word 32 = .ok (.iadd, 1) := dq_96 (by decide +kernel)
theorem dX12_word_33 : decode cX12_word 33 = .ok (.iaload, 1) := dq_46 (by decide +kernel)
theorem dX12_word_34 : decode cX12_word 34 = .ok (.goto 6, 3) := dq_167 (a := 0) (b := 6) (by decide +kernel) (by decide +kernel)
theorem dX12_code_0 : decode cX12_code 0 = .ok (.iload_n 1, 1) := dq_27 (by decide +kernel)
theorem dX12_code_1 : decode cX12_code 1 = .ok (.i2l, 1) := dq_133 (by decide +kernel)
theorem dX12_code_2 : decode cX12_code 2 = .ok (.lconst 0, 1) := dq_9 (by decide +kernel)
theorem dX12_code_3 : decode cX12_code 3 = .ok (.ldc2_w 460, 3) := dq_20 (a := 1) (b := 204) (by decide +kernel) rfl
theorem dX12_code_6 : decode cX12_code 6 = .ok (.invokestatic 191, 3) := dq_184 (a := 0) (b := 191) (by decide +kernel) rfl
theorem dX12_code_9 : decode cX12_code 9 = .ok (.ifCond .eq 20, 3) := dq_153 (a := 0) (b := 20) (by decide +kernel) (by decide +kernel)
theorem dX12_code_29 : decode cX12_code 29 = .ok (.ldc2_w 384, 3) := dq_20 (a := 1) (b := 128) (by decide +kernel) rfl
theorem dX12_code_32 : decode cX12_code 32 = .ok (.lreturn, 1) := dq_173 (by decide +kernel)
theorem dX12_code_12 : decode cX12_code 12 = .ok (.aload_n 0, 1) := dq_42 (by decide +kernel)
theorem dX12_code_13 : decode cX12_code 13 = .ok (.getfield 246, 3) := dq_180 (a := 0) (b := 246) (by decide +kernel) rfl
theorem dX12_code_16 : decode cX12_code 16 = .ok (.iload_n 1, 1) := dq_27 (by decide +kernel)
theorem dX12_code_17 : decode cX12_code 17 = .ok (.iconst 3, 1) := dq_6 (by decide +kernel)
theorem dX12_code_18 : decode cX12_code 18 = .ok (.if_icmp .ne 7, 3) := dq_160 (a := 0) (b := 7) (by decide +kernel) (by decide +kernel)
theorem dX12_code_25 : decode cX12_code 25 = .ok (.iconst 2, 1) := dq_5 (by decide +kernel)
theorem dX12_code_26 : decode cX12_code 26 = .ok (.if_icmp .ge 7, 3) := dq_162 (a := 0) (b := 7) (by decide +kernel) (by decide +kernel)
theorem dX12_code_33 : decode cX12_code 33 = .ok (.lconst 0, 1) := dq_9 (by decide +kernel)
theorem dX12_code_34 : decode cX12_code 34 = .ok (.lstore_n 2, 1) := dq_65 (by decide +kernel)
theorem dX12_code_35 : decode cX12_code 35 = .ok (.iconst 0, 1) := dq_3 (by decide +kernel)
theorem dX12_code_36 : decode cX12_code 36 = .ok (.istore 4, 2) := dq_54 (a := 4) (by decide +kernel) rfl
theorem dX12_code_38 : decode cX12_code 38 = .ok (.iload 4, 2) := dq_21 (a := 4) (by decide +kernel) rfl
theorem dX12_code_40 : decode cX12_code 40 = .ok (.aload_n 0, 1) := dq_42 (by decide +kernel)
theorem dX12_code_41 : decode cX12_code 41 = .ok (.getfield 246, 3) := dq_180 (a := 0) (b := 246) (by decide +kernel) rfl
theorem dX12_code_44 : decode cX12_code 44 = .ok (.if_icmp .ge 29, 3) := dq_162 (a := 0) (b := 29) (by decide +kernel) (by decide +kernel)
theorem dX12_code_47 : decode cX12_code 47 = .ok (.aload_n 0, 1) := dq_42 (by decide +kernel)
theorem dX12_code_48 : decode cX12_code 48 = .ok (.iload 4, 2) := dq_21 (a := 4) (by decide +kernel) rfl
theorem dX12_code_50 : decode cX12_code 50 = .ok (.invokevirtual 462, 3) := dq_182 (a := 1) (b := 206) (by decide +kernel) rfl
theorem dX12_power_0 : decode cX12_power 0 = .ok (.iconst 0, 1) := dq_3 (by decide +kernel)
theorem dX12_power_1 : decode cX12_power 1 = .ok (.istore_n 2, 1) := dq_61 (by decide +kernel)
theorem dX12_power_2 : decode cX12_power 2 = .ok (.iconst 0, 1) := dq_3 (by decide +kernel)
theorem dX12_power_3 : decode cX12_power 3 = .ok (.istore_n 3, 1) := dq_62 (by decide +kernel)
theorem dX12_power_4 : decode cX12_power 4 = .ok (.iload_n 3, 1) := dq_29 (by decide +kernel)
theorem dX12_power_5 : decode cX12_power 5 = .ok (.aload_n 0, 1) := dq_42 (by decide +kernel)
theorem dX12_power_6 : decode cX12_power 6 = .ok (.getfield 237, 3) := dq_180 (a := 0) (b := 237) (by decide +kernel) rfl
theorem dX12_power_9 : decode cX12_power 9 = .ok (.if_icmp .ge 33, 3) := dq_162 (a := 0) (b := 33) (by decide +kernel) (by decide +kernel)
theorem dX12_power_42 : decode cX12_power 42 = .ok (.iload_n 2, 1) := dq_28 (by decide +kernel)
theorem dX12_power_43 : decode cX12_power 43 = .ok (.ireturn, 1) := dq_172 (by decide +kernel)
theorem dX12_power_12 : decode cX12_power 12 = .ok (.iload_n 2, 1) := dq_28 (by decide +kernel)
theorem dX12_power_13 : decode cX12_power 13 = .ok (.aload_n 0, 1) := dq_42 (by decide +kernel)
theorem dX12_power_14 : decode cX12_power 14 = .ok (.getfield 72, 3) := dq_180 (a := 0) (b := 72) (by decide +kernel) rfl
theorem dX12_power_17 : decode cX12_power 17 = .ok (.iconst 5, 1) := dq_8 (by decide +kernel)
theorem dX12_power_18 : decode cX12_power 18 = .ok (.iload_n 1, 1) := dq_27 (by decide +kernel)
theorem dX12_power_19 : decode cX12_power 19 = .ok (.imul, 1) := dq_104 (by decide +kernel)
theorem dX12_power_20 : decode cX12_power 20 = .ok (.iload_n 3, 1) := dq_29 (by decide +kernel)
theorem dX12_power_21 : decode cX12_power 21 = .ok (.iadd, 1) := dq_96 (by decide +kernel)
theorem dX12_power_22 : decode cX12_power 22 = .ok (.iaload, 1) := dq_46 (by decide +kernel)
theorem dX12_power_23 : decode cX12_power 23 = .ok (.aload_n 0, 1) := dq_42 (by decide +kernel)
theorem dX12_power_24 : decode cX12_power 24 = .ok (.getfield 72, 3) := dq_180 (a := 0) (b := 72) (by decide +kernel) rfl
theorem dX12_power_27 : decode cX12_power 27 = .ok (.iconst 5, 1) := dq_8 (by decide +kernel)
theorem dX12_power_28 : decode cX12_power 28 = .ok (.iload_n 1, 1) := dq_27 (by decide +kernel)
theorem dX12_power_29 : decode cX12_power 29 = .ok (.imul, 1) := dq_104 (by decide +kernel)
theorem dX12_power_30 : decode cX12_power 30 = .ok (.iload_n 3, 1) := dq_29 (by decide +kernel)
theorem dX12_power_31 : decode cX12_power 31 = .ok (.iadd, 1) := dq_96 (by decide +kernel)
theorem dX12_power_32 : decode cX12_power 32 = .ok (.iaload, 1) := dq_46 (by decide +kernel)
theorem dX12_power_33 : decode cX12_power 33 = .ok (.imul, 1) := dq_104 (by decide +kernel)
theorem dX12_power_34 : decode cX12_power 34 = .ok (.iadd, 1) := dq_96 (by decide +kernel)
theorem dX12_power_35 : decode cX12_power 35 = .ok (.istore_n 2, 1) := dq_61 (by decide +kernel)
theorem dX12_power_36 : decode cX12_power 36 = .ok (.iinc 3 1, 3) := dq_132 (a := 3) (b := 1) (by decide +kernel) rfl (by decide +kernel)
theorem dX12_power_39 : decode cX12_power 39 = .ok (.goto (-35), 3) := dq_167 (a := 255) (b := 221) (by decide +kernel) (by decide +kernel)
theorem dX12_code_53 : decode cX12_code 53 = .ok (.i2l, 1) := dq_133 (by decide +kernel)
theorem dX12_code_54 : decode cX12_code 54 = .ok (.lload_n 2, 1) := dq_32 (by decide +kernel)
theorem dX12_code_55 : decode cX12_code 55 = .ok (.lcmp, 1) := dq_148 (by decide +kernel)
theorem dX12_code_56 : decode cX12_code 56 = .ok (.ifCond .le 11, 3) := dq_158 (a := 0) (b := 11) (by decide +kernel) (by decide +kernel)
theorem dX12_code_67 : decode cX12_code 67 = .ok (.iinc 4 1, 3) := dq_132 (a := 4) (b := 1) (by decide +kernel) rfl (by decide +kernel)
theorem dX12_code_70 : decode cX12_code 70 = .ok (.goto (-32), 3) := dq_167 (a := 255) (b := 224) (by decide +kernel) (by decide +kernel)
theorem dX12_code_59 : decode cX12_code 59 = .ok (.aload_n 0, 1) := dq_42 (by decide +kernel)
theorem dX12_code_60 : decode cX12_code 60 = .ok (.iload 4, 2) := dq_21 (a := 4) (by decide +kernel) rfl
theorem dX12_code_62 : decode cX12_code 62 = .ok (.invokevirtual 462, 3) := dq_182 (a := 1) (b := 206) (by decide +kernel) rfl
theorem dX12_code_65 : decode cX12_code 65 = .ok (.i2l, 1) := dq_133 (by decide +kernel)
theorem dX12_code_66 : decode cX12_code 66 = .ok (.lstore_n 2, 1) := dq_65 (by decide +kernel)
theorem dX12_code_73 : decode cX12_code 73 = .ok (.iload_n 1, 1) := dq_27 (by decide +kernel)
theorem dX12_code_74 : decode cX12_code 74 = .ok (.iconst 3, 1) := dq_6 (by decide +kernel)
theorem dX12_code_75 : decode cX12_code 75 = .ok (.if_icmp .ne 5, 3) := dq_160 (a := 0) (b := 5) (by decide +kernel) (by decide +kernel)
theorem dX12_code_80 : decode cX12_code 80 = .ok (.ldc2_w 384, 3) := dq_20 (a := 1) (b := 128) (by decide +kernel) rfl
theorem dX12_code_83 : decode cX12_code 83 = .ok (.lstore 4, 2) := dq_55 (a := 4) (by decide +kernel) rfl
theorem dX12_code_85 : decode cX12_code 85 = .ok (.iconst 0, 1) := dq_3 (by decide +kernel)
theorem dX12_code_86 : decode cX12_code 86 = .ok (.istore 6, 2) := dq_54 (a := 6) (by decide +kernel) rfl
theorem dX12_code_88 : decode cX12_code 88 = .ok (.iconst 0, 1) := dq_3 (by decide +kernel)
theorem dX12_code_89 : decode cX12_code 89 = .ok (.istore 7, 2) := dq_54 (a := 7) (by decide +kernel) rfl
theorem dX12_code_91 : decode cX12_code 91 = .ok (.iconst 0, 1) := dq_3 (by decide +kernel)
theorem dX12_code_92 : decode cX12_code 92 = .ok (.istore 8, 2) := dq_54 (a := 8) (by decide +kernel) rfl
theorem dX12_code_94 : decode cX12_code 94 = .ok (.iload 8, 2) := dq_21 (a := 8) (by decide +kernel) rfl
theorem dX12_code_96 : decode cX12_code 96 = .ok (.aload_n 0, 1) := dq_42 (by decide +kernel)
theorem dX12_code_97 : decode cX12_code 97 = .ok (.getfield 246, 3) := dq_180 (a := 0) (b := 246) (by decide +kernel) rfl
theorem dX12_code_100 : decode cX12_code 100 = .ok (.if_icmp .ge 83, 3) := dq_162 (a := 0) (b := 83) (by decide +kernel) (by decide +kernel)
theorem dX12_code_103 : decode cX12_code 103 = .ok (.iload 8, 2) := dq_21 (a := 8) (by decide +kernel) rfl
theorem dX12_code_105 : decode cX12_code 105 = .ok (.iconst 1, 1) := dq_4 (by decide +kernel)
theorem dX12_code_106 : decode cX12_code 106 = .ok (.iadd, 1) := dq_96 (by decide +kernel)
theorem dX12_code_107 : decode cX12_code 107 = .ok (.istore 9, 2) := dq_54 (a := 9) (by decide +kernel) rfl
theorem dX12_code_109 : decode cX12_code 109 = .ok (.iload 9, 2) := dq_21 (a := 9) (by decide +kernel) rfl
theorem dX12_code_111 : decode cX12_code 111 = .ok (.aload_n 0, 1) := dq_42 (by decide +kernel)
theorem dX12_code_112 : decode cX12_code 112 = .ok (.getfield 246, 3) := dq_180 (a := 0) (b := 246) (by decide +kernel) rfl
theorem dX12_code_115 : decode cX12_code 115 = .ok (.if_icmp .ge 62, 3) := dq_162 (a := 0) (b := 62) (by decide +kernel) (by decide +kernel)
theorem dX12_code_118 : decode cX12_code 118 = .ok (.aload_n 0, 1) := dq_42 (by decide +kernel)
theorem dX12_code_119 : decode cX12_code 119 = .ok (.iload 8, 2) := dq_21 (a := 8) (by decide +kernel) rfl
theorem dX12_code_121 : decode cX12_code 121 = .ok (.iload 9, 2) := dq_21 (a := 9) (by decide +kernel) rfl
theorem dX12_code_123 : decode cX12_code 123 = .ok (.invokevirtual 465, 3) := dq_182 (a := 1) (b := 209) (by decide +kernel) rfl
theorem dX12_apartOf_0 : decode cX12_apartOf 0 = .ok (.iconst 0, 1) := dq_3 (by decide +kernel)
theorem dX12_apartOf_1 : decode cX12_apartOf 1 = .ok (.istore_n 3, 1) := dq_62 (by decide +kernel)
theorem dX12_apartOf_2 : decode cX12_apartOf 2 = .ok (.iload_n 3, 1) := dq_29 (by decide +kernel)
theorem dX12_apartOf_3 : decode cX12_apartOf 3 = .ok (.aload_n 0, 1) := dq_42 (by decide +kernel)
theorem dX12_apartOf_4 : decode cX12_apartOf 4 = .ok (.getfield 237, 3) := dq_180 (a := 0) (b := 237) (by decide +kernel) rfl
theorem dX12_apartOf_7 : decode cX12_apartOf 7 = .ok (.if_icmp .ge 36, 3) := dq_162 (a := 0) (b := 36) (by decide +kernel) (by decide +kernel)
theorem dX12_apartOf_43 : decode cX12_apartOf 43 = .ok (.aload_n 0, 1) := dq_42 (by decide +kernel)
theorem dX12_apartOf_44 : decode cX12_apartOf 44 = .ok (.iconst 0, 1) := dq_3 (by decide +kernel)
theorem dX12_apartOf_45 : decode cX12_apartOf 45 = .ok (.invokevirtual 380, 3) := dq_182 (a := 1) (b := 124) (by decide +kernel) rfl
theorem dX12_apartOf_48 : decode cX12_apartOf 48 = .ok (.lreturn, 1) := dq_173 (by decide +kernel)
theorem dX12_apartOf_10 : decode cX12_apartOf 10 = .ok (.aload_n 0, 1) := dq_42 (by decide +kernel)
theorem dX12_apartOf_11 : decode cX12_apartOf 11 = .ok (.getfield 103, 3) := dq_180 (a := 0) (b := 103) (by decide +kernel) rfl
theorem dX12_apartOf_14 : decode cX12_apartOf 14 = .ok (.iload_n 3, 1) := dq_29 (by decide +kernel)
theorem dX12_apartOf_15 : decode cX12_apartOf 15 = .ok (.aload_n 0, 1) := dq_42 (by decide +kernel)
theorem dX12_apartOf_16 : decode cX12_apartOf 16 = .ok (.getfield 72, 3) := dq_180 (a := 0) (b := 72) (by decide +kernel) rfl
theorem dX12_apartOf_19 : decode cX12_apartOf 19 = .ok (.iconst 5, 1) := dq_8 (by decide +kernel)
theorem dX12_apartOf_20 : decode cX12_apartOf 20 = .ok (.iload_n 1, 1) := dq_27 (by decide +kernel)
theorem dX12_apartOf_21 : decode cX12_apartOf 21 = .ok (.imul, 1) := dq_104 (by decide +kernel)
theorem dX12_apartOf_22 : decode cX12_apartOf 22 = .ok (.iload_n 3, 1) := dq_29 (by decide +kernel)
theorem dX12_apartOf_23 : decode cX12_apartOf 23 = .ok (.iadd, 1) := dq_96 (by decide +kernel)
theorem dX12_apartOf_24 : decode cX12_apartOf 24 = .ok (.iaload, 1) := dq_46 (by decide +kernel)
theorem dX12_apartOf_25 : decode cX12_apartOf 25 = .ok (.aload_n 0, 1) := dq_42 (by decide +kernel)
theorem dX12_apartOf_26 : decode cX12_apartOf 26 = .ok (.getfield 72, 3) := dq_180 (a := 0) (b := 72) (by decide +kernel) rfl
theorem dX12_apartOf_29 : decode cX12_apartOf 29 = .ok (.iconst 5, 1) := dq_8 (by decide +kernel)
theorem dX12_apartOf_30 : decode cX12_apartOf 30 = .ok (.iload_n 2, 1) := dq_28 (by decide +kernel)
theorem dX12_apartOf_31 : decode cX12_apartOf 31 = .ok (.imul, 1) := dq_104 (by decide +kernel)
theorem dX12_apartOf_32 : decode cX12_apartOf 32 = .ok (.iload_n 3, 1) := dq_29 (by decide +kernel)
theorem dX12_apartOf_33 : decode cX12_apartOf 33 = .ok (.iadd, 1) := dq_96 (by decide +kernel)
theorem dX12_apartOf_34 : decode cX12_apartOf 34 = .ok (.iaload, 1) := dq_46 (by decide +kernel)
theorem dX12_apartOf_35 : decode cX12_apartOf 35 = .ok (.isub, 1) := dq_100 (by decide +kernel)
theorem dX12_apartOf_36 : decode cX12_apartOf 36 = .ok (.iastore, 1) := dq_79 (by decide +kernel)
theorem dX12_apartOf_37 : decode cX12_apartOf 37 = .ok (.iinc 3 1, 3) := dq_132 (a := 3) (b := 1) (by decide +kernel) rfl (by decide +kernel)
theorem dX12_apartOf_40 : decode cX12_apartOf 40 = .ok (.goto (-38), 3) := dq_167 (a := 255) (b := 218) (by decide +kernel) (by decide +kernel)
theorem dX12_code_126 : decode cX12_code 126 = .ok (.lstore 10, 2) := dq_55 (a := 10) (by decide +kernel) rfl
theorem dX12_code_128 : decode cX12_code 128 = .ok (.lload 4, 2) := dq_22 (a := 4) (by decide +kernel) rfl
theorem dX12_code_130 : decode cX12_code 130 = .ok (.lconst 0, 1) := dq_9 (by decide +kernel)
theorem dX12_code_131 : decode cX12_code 131 = .ok (.lcmp, 1) := dq_148 (by decide +kernel)
theorem dX12_code_132 : decode cX12_code 132 = .ok (.ifCond .lt 11, 3) := dq_155 (a := 0) (b := 11) (by decide +kernel) (by decide +kernel)
theorem dX12_code_143 : decode cX12_code 143 = .ok (.lload 10, 2) := dq_22 (a := 10) (by decide +kernel) rfl
theorem dX12_code_145 : decode cX12_code 145 = .ok (.lstore 4, 2) := dq_55 (a := 4) (by decide +kernel) rfl
theorem dX12_code_147 : decode cX12_code 147 = .ok (.iconst 0, 1) := dq_3 (by decide +kernel)
theorem dX12_code_148 : decode cX12_code 148 = .ok (.istore 6, 2) := dq_54 (a := 6) (by decide +kernel) rfl
theorem dX12_code_150 : decode cX12_code 150 = .ok (.bipush 100, 2) := dq_16 (a := 100) (by decide +kernel) (by decide +kernel)
theorem dX12_code_152 : decode cX12_code 152 = .ok (.iload 8, 2) := dq_21 (a := 8) (by decide +kernel) rfl
theorem dX12_code_154 : decode cX12_code 154 = .ok (.imul, 1) := dq_104 (by decide +kernel)
theorem dX12_code_155 : decode cX12_code 155 = .ok (.iload 9, 2) := dq_21 (a := 9) (by decide +kernel) rfl
theorem dX12_code_157 : decode cX12_code 157 = .ok (.iadd, 1) := dq_96 (by decide +kernel)
theorem dX12_code_158 : decode cX12_code 158 = .ok (.istore 7, 2) := dq_54 (a := 7) (by decide +kernel) rfl
theorem dX12_code_160 : decode cX12_code 160 = .ok (.lload 10, 2) := dq_22 (a := 10) (by decide +kernel) rfl
theorem dX12_code_162 : decode cX12_code 162 = .ok (.lload 4, 2) := dq_22 (a := 4) (by decide +kernel) rfl
theorem dX12_code_164 : decode cX12_code 164 = .ok (.lcmp, 1) := dq_148 (by decide +kernel)
theorem dX12_code_165 : decode cX12_code 165 = .ok (.ifCond .ne 6, 3) := dq_154 (a := 0) (b := 6) (by decide +kernel) (by decide +kernel)
theorem dX12_code_168 : decode cX12_code 168 = .ok (.iinc 6 1, 3) := dq_132 (a := 6) (b := 1) (by decide +kernel) rfl (by decide +kernel)
theorem dX12_code_171 : decode cX12_code 171 = .ok (.iinc 9 1, 3) := dq_132 (a := 9) (b := 1) (by decide +kernel) rfl (by decide +kernel)
theorem dX12_code_174 : decode cX12_code 174 = .ok (.goto (-65), 3) := dq_167 (a := 255) (b := 191) (by decide +kernel) (by decide +kernel)
theorem dX12_code_177 : decode cX12_code 177 = .ok (.iinc 8 1, 3) := dq_132 (a := 8) (b := 1) (by decide +kernel) rfl (by decide +kernel)
theorem dX12_code_180 : decode cX12_code 180 = .ok (.goto (-86), 3) := dq_167 (a := 255) (b := 170) (by decide +kernel) (by decide +kernel)
theorem dX12_code_135 : decode cX12_code 135 = .ok (.lload 10, 2) := dq_22 (a := 10) (by decide +kernel) rfl
theorem dX12_code_137 : decode cX12_code 137 = .ok (.lload 4, 2) := dq_22 (a := 4) (by decide +kernel) rfl
theorem dX12_code_139 : decode cX12_code 139 = .ok (.lcmp, 1) := dq_148 (by decide +kernel)
theorem dX12_code_140 : decode cX12_code 140 = .ok (.ifCond .ge 20, 3) := dq_156 (a := 0) (b := 20) (by decide +kernel) (by decide +kernel)
theorem dX12_code_183 : decode cX12_code 183 = .ok (.iload_n 1, 1) := dq_27 (by decide +kernel)
theorem dX12_code_184 : decode cX12_code 184 = .ok (.ifCond .ne 8, 3) := dq_154 (a := 0) (b := 8) (by decide +kernel) (by decide +kernel)
theorem dX12_code_192 : decode cX12_code 192 = .ok (.iload_n 1, 1) := dq_27 (by decide +kernel)
theorem dX12_code_193 : decode cX12_code 193 = .ok (.iconst 1, 1) := dq_4 (by decide +kernel)
theorem dX12_code_194 : decode cX12_code 194 = .ok (.if_icmp .ne 9, 3) := dq_160 (a := 0) (b := 9) (by decide +kernel) (by decide +kernel)
theorem dX12_code_203 : decode cX12_code 203 = .ok (.iload 7, 2) := dq_21 (a := 7) (by decide +kernel) rfl
theorem dX12_code_205 : decode cX12_code 205 = .ok (.i2l, 1) := dq_133 (by decide +kernel)
theorem dX12_code_206 : decode cX12_code 206 = .ok (.lreturn, 1) := dq_173 (by decide +kernel)
theorem dX12_code_197 : decode cX12_code 197 = .ok (.iload 6, 2) := dq_21 (a := 6) (by decide +kernel) rfl
theorem dX12_code_199 : decode cX12_code 199 = .ok (.i2l, 1) := dq_133 (by decide +kernel)
theorem dX12_code_200 : decode cX12_code 200 = .ok (.goto 6, 3) := dq_167 (a := 0) (b := 6) (by decide +kernel) (by decide +kernel)
theorem dX12_code_187 : decode cX12_code 187 = .ok (.lload 4, 2) := dq_22 (a := 4) (by decide +kernel) rfl
theorem dX12_code_189 : decode cX12_code 189 = .ok (.goto 17, 3) := dq_167 (a := 0) (b := 17) (by decide +kernel) (by decide +kernel)
theorem dX12_code_78 : decode cX12_code 78 = .ok (.lload_n 2, 1) := dq_32 (by decide +kernel)
theorem dX12_code_79 : decode cX12_code 79 = .ok (.lreturn, 1) := dq_173 (by decide +kernel)
theorem dX12_code_21 : decode cX12_code 21 = .ok (.iconst 1, 1) := dq_4 (by decide +kernel)
theorem dX12_code_22 : decode cX12_code 22 = .ok (.goto 4, 3) := dq_167 (a := 0) (b := 4) (by decide +kernel) (by decide +kernel)
theorem dX12_leave_0 : decode cX12_leave 0 = .ok (.iload_n 1, 1) := dq_27 (by decide +kernel)
theorem dX12_leave_1 : decode cX12_leave 1 = .ok (.i2l, 1) := dq_133 (by decide +kernel)
theorem dX12_leave_2 : decode cX12_leave 2 = .ok (.lconst 0, 1) := dq_9 (by decide +kernel)
theorem dX12_leave_3 : decode cX12_leave 3 = .ok (.lconst 1, 1) := dq_10 (by decide +kernel)
theorem dX12_leave_4 : decode cX12_leave 4 = .ok (.invokestatic 191, 3) := dq_184 (a := 0) (b := 191) (by decide +kernel) rfl
theorem dX12_leave_7 : decode cX12_leave 7 = .ok (.ifCond .eq 11, 3) := dq_153 (a := 0) (b := 11) (by decide +kernel) (by decide +kernel)
theorem dX12_leave_18 : decode cX12_leave 18 = .ok (.ldc2_w 384, 3) := dq_20 (a := 1) (b := 128) (by decide +kernel) rfl
theorem dX12_leave_21 : decode cX12_leave 21 = .ok (.lreturn, 1) := dq_173 (by decide +kernel)
theorem dX12_leave_10 : decode cX12_leave 10 = .ok (.aload_n 0, 1) := dq_42 (by decide +kernel)
theorem dX12_leave_11 : decode cX12_leave 11 = .ok (.getfield 246, 3) := dq_180 (a := 0) (b := 246) (by decide +kernel) rfl
theorem dX12_leave_14 : decode cX12_leave 14 = .ok (.iconst 3, 1) := dq_6 (by decide +kernel)
theorem dX12_leave_15 : decode cX12_leave 15 = .ok (.if_icmp .ge 7, 3) := dq_162 (a := 0) (b := 7) (by decide +kernel) (by decide +kernel)
theorem dX12_leave_22 : decode cX12_leave 22 = .ok (.iconst 0, 1) := dq_3 (by decide +kernel)
theorem dX12_leave_23 : decode cX12_leave 23 = .ok (.istore_n 2, 1) := dq_61 (by decide +kernel)
theorem dX12_leave_24 : decode cX12_leave 24 = .ok (.iconst 1, 1) := dq_4 (by decide +kernel)
theorem dX12_leave_25 : decode cX12_leave 25 = .ok (.istore_n 3, 1) := dq_62 (by decide +kernel)
theorem dX12_leave_26 : decode cX12_leave 26 = .ok (.iload_n 3, 1) := dq_29 (by decide +kernel)
theorem dX12_leave_27 : decode cX12_leave 27 = .ok (.aload_n 0, 1) := dq_42 (by decide +kernel)
theorem dX12_leave_28 : decode cX12_leave 28 = .ok (.getfield 246, 3) := dq_180 (a := 0) (b := 246) (by decide +kernel) rfl
theorem dX12_leave_31 : decode cX12_leave 31 = .ok (.if_icmp .ge 25, 3) := dq_162 (a := 0) (b := 25) (by decide +kernel) (by decide +kernel)
theorem dX12_leave_34 : decode cX12_leave 34 = .ok (.aload_n 0, 1) := dq_42 (by decide +kernel)
theorem dX12_leave_35 : decode cX12_leave 35 = .ok (.iload_n 3, 1) := dq_29 (by decide +kernel)
theorem dX12_leave_36 : decode cX12_leave 36 = .ok (.invokevirtual 468, 3) := dq_182 (a := 1) (b := 212) (by decide +kernel) rfl
theorem dX12_leastWithout_0 : decode cX12_leastWithout 0 = .ok (.ldc2_w 384, 3) := dq_20 (a := 1) (b := 128) (by decide +kernel) rfl
theorem dX12_leastWithout_3 : decode cX12_leastWithout 3 = .ok (.lstore_n 2, 1) := dq_65 (by decide +kernel)
theorem dX12_leastWithout_4 : decode cX12_leastWithout 4 = .ok (.iconst 0, 1) := dq_3 (by decide +kernel)
theorem dX12_leastWithout_5 : decode cX12_leastWithout 5 = .ok (.istore 4, 2) := dq_54 (a := 4) (by decide +kernel) rfl
theorem dX12_leastWithout_7 : decode cX12_leastWithout 7 = .ok (.iload 4, 2) := dq_21 (a := 4) (by decide +kernel) rfl
theorem dX12_leastWithout_9 : decode cX12_leastWithout 9 = .ok (.aload_n 0, 1) := dq_42 (by decide +kernel)
theorem dX12_leastWithout_10 : decode cX12_leastWithout 10 = .ok (.getfield 246, 3) := dq_180 (a := 0) (b := 246) (by decide +kernel) rfl
theorem dX12_leastWithout_13 : decode cX12_leastWithout 13 = .ok (.if_icmp .ge 71, 3) := dq_162 (a := 0) (b := 71) (by decide +kernel) (by decide +kernel)
theorem dX12_leastWithout_84 : decode cX12_leastWithout 84 = .ok (.lload_n 2, 1) := dq_32 (by decide +kernel)
theorem dX12_leastWithout_85 : decode cX12_leastWithout 85 = .ok (.lreturn, 1) := dq_173 (by decide +kernel)
theorem dX12_leastWithout_16 : decode cX12_leastWithout 16 = .ok (.iload 4, 2) := dq_21 (a := 4) (by decide +kernel) rfl
theorem dX12_leastWithout_18 : decode cX12_leastWithout 18 = .ok (.iconst 1, 1) := dq_4 (by decide +kernel)
theorem dX12_leastWithout_19 : decode cX12_leastWithout 19 = .ok (.iadd, 1) := dq_96 (by decide +kernel)
theorem dX12_leastWithout_20 : decode cX12_leastWithout 20 = .ok (.istore 5, 2) := dq_54 (a := 5) (by decide +kernel) rfl
theorem dX12_leastWithout_22 : decode cX12_leastWithout 22 = .ok (.iload 5, 2) := dq_21 (a := 5) (by decide +kernel) rfl
theorem dX12_leastWithout_24 : decode cX12_leastWithout 24 = .ok (.aload_n 0, 1) := dq_42 (by decide +kernel)
theorem dX12_leastWithout_25 : decode cX12_leastWithout 25 = .ok (.getfield 246, 3) := dq_180 (a := 0) (b := 246) (by decide +kernel) rfl
theorem dX12_leastWithout_28 : decode cX12_leastWithout 28 = .ok (.if_icmp .ge 50, 3) := dq_162 (a := 0) (b := 50) (by decide +kernel) (by decide +kernel)
theorem dX12_leastWithout_78 : decode cX12_leastWithout 78 = .ok (.iinc 4 1, 3) := dq_132 (a := 4) (b := 1) (by decide +kernel) rfl (by decide +kernel)
theorem dX12_leastWithout_81 : decode cX12_leastWithout 81 = .ok (.goto (-74), 3) := dq_167 (a := 255) (b := 182) (by decide +kernel) (by decide +kernel)
theorem dX12_leastWithout_31 : decode cX12_leastWithout 31 = .ok (.iload 4, 2) := dq_21 (a := 4) (by decide +kernel) rfl
theorem dX12_leastWithout_33 : decode cX12_leastWithout 33 = .ok (.iload_n 1, 1) := dq_27 (by decide +kernel)
theorem dX12_leastWithout_34 : decode cX12_leastWithout 34 = .ok (.if_icmp .eq 38, 3) := dq_159 (a := 0) (b := 38) (by decide +kernel) (by decide +kernel)
theorem dX12_leastWithout_72 : decode cX12_leastWithout 72 = .ok (.iinc 5 1, 3) := dq_132 (a := 5) (b := 1) (by decide +kernel) rfl (by decide +kernel)
theorem dX12_leastWithout_75 : decode cX12_leastWithout 75 = .ok (.goto (-53), 3) := dq_167 (a := 255) (b := 203) (by decide +kernel) (by decide +kernel)
theorem dX12_leastWithout_37 : decode cX12_leastWithout 37 = .ok (.iload 5, 2) := dq_21 (a := 5) (by decide +kernel) rfl
theorem dX12_leastWithout_39 : decode cX12_leastWithout 39 = .ok (.iload_n 1, 1) := dq_27 (by decide +kernel)
theorem dX12_leastWithout_40 : decode cX12_leastWithout 40 = .ok (.if_icmp .ne 6, 3) := dq_160 (a := 0) (b := 6) (by decide +kernel) (by decide +kernel)
theorem dX12_leastWithout_46 : decode cX12_leastWithout 46 = .ok (.aload_n 0, 1) := dq_42 (by decide +kernel)
theorem dX12_leastWithout_47 : decode cX12_leastWithout 47 = .ok (.iload 4, 2) := dq_21 (a := 4) (by decide +kernel) rfl
theorem dX12_leastWithout_49 : decode cX12_leastWithout 49 = .ok (.iload 5, 2) := dq_21 (a := 5) (by decide +kernel) rfl
theorem dX12_leastWithout_51 : decode cX12_leastWithout 51 = .ok (.invokevirtual 465, 3) := dq_182 (a := 1) (b := 209) (by decide +kernel) rfl
theorem dX12_leastWithout_54 : decode cX12_leastWithout 54 = .ok (.lstore 6, 2) := dq_55 (a := 6) (by decide +kernel) rfl
theorem dX12_leastWithout_56 : decode cX12_leastWithout 56 = .ok (.lload_n 2, 1) := dq_32 (by decide +kernel)
theorem dX12_leastWithout_57 : decode cX12_leastWithout 57 = .ok (.lconst 0, 1) := dq_9 (by decide +kernel)
theorem dX12_leastWithout_58 : decode cX12_leastWithout 58 = .ok (.lcmp, 1) := dq_148 (by decide +kernel)
theorem dX12_leastWithout_59 : decode cX12_leastWithout 59 = .ok (.ifCond .lt 10, 3) := dq_155 (a := 0) (b := 10) (by decide +kernel) (by decide +kernel)
theorem dX12_leastWithout_69 : decode cX12_leastWithout 69 = .ok (.lload 6, 2) := dq_22 (a := 6) (by decide +kernel) rfl
theorem dX12_leastWithout_71 : decode cX12_leastWithout 71 = .ok (.lstore_n 2, 1) := dq_65 (by decide +kernel)
theorem dX12_leastWithout_43 : decode cX12_leastWithout 43 = .ok (.goto 29, 3) := dq_167 (a := 0) (b := 29) (by decide +kernel) (by decide +kernel)
theorem dX12_leastWithout_62 : decode cX12_leastWithout 62 = .ok (.lload 6, 2) := dq_22 (a := 6) (by decide +kernel) rfl
theorem dX12_leastWithout_64 : decode cX12_leastWithout 64 = .ok (.lload_n 2, 1) := dq_32 (by decide +kernel)
theorem dX12_leastWithout_65 : decode cX12_leastWithout 65 = .ok (.lcmp, 1) := dq_148 (by decide +kernel)
theorem dX12_leastWithout_66 : decode cX12_leastWithout 66 = .ok (.ifCond .ge 6, 3) := dq_156 (a := 0) (b := 6) (by decide +kernel) (by decide +kernel)
theorem dX12_leave_39 : decode cX12_leave 39 = .ok (.aload_n 0, 1) := dq_42 (by decide +kernel)
theorem dX12_leave_40 : decode cX12_leave 40 = .ok (.iload_n 2, 1) := dq_28 (by decide +kernel)
theorem dX12_leave_41 : decode cX12_leave 41 = .ok (.invokevirtual 468, 3) := dq_182 (a := 1) (b := 212) (by decide +kernel) rfl
theorem dX12_leave_44 : decode cX12_leave 44 = .ok (.lcmp, 1) := dq_148 (by decide +kernel)
theorem dX12_leave_45 : decode cX12_leave 45 = .ok (.ifCond .le 5, 3) := dq_158 (a := 0) (b := 5) (by decide +kernel) (by decide +kernel)
theorem dX12_leave_50 : decode cX12_leave 50 = .ok (.iinc 3 1, 3) := dq_132 (a := 3) (b := 1) (by decide +kernel) rfl (by decide +kernel)
theorem dX12_leave_53 : decode cX12_leave 53 = .ok (.goto (-27), 3) := dq_167 (a := 255) (b := 229) (by decide +kernel) (by decide +kernel)
theorem dX12_leave_48 : decode cX12_leave 48 = .ok (.iload_n 3, 1) := dq_29 (by decide +kernel)
theorem dX12_leave_49 : decode cX12_leave 49 = .ok (.istore_n 2, 1) := dq_61 (by decide +kernel)
theorem dX12_leave_56 : decode cX12_leave 56 = .ok (.iload_n 1, 1) := dq_27 (by decide +kernel)
theorem dX12_leave_57 : decode cX12_leave 57 = .ok (.ifCond .ne 8, 3) := dq_154 (a := 0) (b := 8) (by decide +kernel) (by decide +kernel)
theorem dX12_leave_65 : decode cX12_leave 65 = .ok (.aload_n 0, 1) := dq_42 (by decide +kernel)
theorem dX12_leave_66 : decode cX12_leave 66 = .ok (.iload_n 2, 1) := dq_28 (by decide +kernel)
theorem dX12_leave_67 : decode cX12_leave 67 = .ok (.invokevirtual 468, 3) := dq_182 (a := 1) (b := 212) (by decide +kernel) rfl
theorem dX12_leave_70 : decode cX12_leave 70 = .ok (.lreturn, 1) := dq_173 (by decide +kernel)
theorem dX12_leave_60 : decode cX12_leave 60 = .ok (.iload_n 2, 1) := dq_28 (by decide +kernel)
theorem dX12_leave_61 : decode cX12_leave 61 = .ok (.i2l, 1) := dq_133 (by decide +kernel)
theorem dX12_leave_62 : decode cX12_leave 62 = .ok (.goto 8, 3) := dq_167 (a := 0) (b := 8) (by decide +kernel) (by decide +kernel)
theorem dX12_behind_0 : decode cX12_behind 0 = .ok (.aload_n 0, 1) := dq_42 (by decide +kernel)
theorem dX12_behind_1 : decode cX12_behind 1 = .ok (.iload_n 1, 1) := dq_27 (by decide +kernel)
theorem dX12_behind_2 : decode cX12_behind 2 = .ok (.invokevirtual 471, 3) := dq_182 (a := 1) (b := 215) (by decide +kernel) rfl
theorem dX12_isWord_0 : decode cX12_isWord 0 = .ok (.iload_n 1, 1) := dq_27 (by decide +kernel)
theorem dX12_isWord_1 : decode cX12_isWord 1 = .ok (.i2l, 1) := dq_133 (by decide +kernel)
theorem dX12_isWord_2 : decode cX12_isWord 2 = .ok (.lconst 0, 1) := dq_9 (by decide +kernel)
theorem dX12_isWord_3 : decode cX12_isWord 3 = .ok (.aload_n 0, 1) := dq_42 (by decide +kernel)
theorem dX12_isWord_4 : decode cX12_isWord 4 = .ok (.getfield 246, 3) := dq_180 (a := 0) (b := 246) (by decide +kernel) rfl
theorem dX12_isWord_7 : decode cX12_isWord 7 = .ok (.iconst 1, 1) := dq_4 (by decide +kernel)
theorem dX12_isWord_8 : decode cX12_isWord 8 = .ok (.isub, 1) := dq_100 (by decide +kernel)
theorem dX12_isWord_9 : decode cX12_isWord 9 = .ok (.i2l, 1) := dq_133 (by decide +kernel)
theorem dX12_isWord_10 : decode cX12_isWord 10 = .ok (.invokestatic 191, 3) := dq_184 (a := 0) (b := 191) (by decide +kernel) rfl
theorem dX12_isWord_13 : decode cX12_isWord 13 = .ok (.ireturn, 1) := dq_172 (by decide +kernel)
theorem dX12_behind_5 : decode cX12_behind 5 = .ok (.ifCond .ne 5, 3) := dq_154 (a := 0) (b := 5) (by decide +kernel) (by decide +kernel)
theorem dX12_behind_10 : decode cX12_behind 10 = .ok (.aload_n 0, 1) := dq_42 (by decide +kernel)
theorem dX12_behind_11 : decode cX12_behind 11 = .ok (.iload_n 1, 1) := dq_27 (by decide +kernel)
theorem dX12_behind_12 : decode cX12_behind 12 = .ok (.invokevirtual 474, 3) := dq_182 (a := 1) (b := 218) (by decide +kernel) rfl
theorem dX12_numberOf_0 : decode cX12_numberOf 0 = .ok (.iconst 0, 1) := dq_3 (by decide +kernel)
theorem dX12_numberOf_1 : decode cX12_numberOf 1 = .ok (.istore_n 2, 1) := dq_61 (by decide +kernel)
theorem dX12_numberOf_2 : decode cX12_numberOf 2 = .ok (.iconst 0, 1) := dq_3 (by decide +kernel)
theorem dX12_numberOf_3 : decode cX12_numberOf 3 = .ok (.istore_n 3, 1) := dq_62 (by decide +kernel)
theorem dX12_numberOf_4 : decode cX12_numberOf 4 = .ok (.iload_n 3, 1) := dq_29 (by decide +kernel)
theorem dX12_numberOf_5 : decode cX12_numberOf 5 = .ok (.aload_n 0, 1) := dq_42 (by decide +kernel)
theorem dX12_numberOf_6 : decode cX12_numberOf 6 = .ok (.getfield 237, 3) := dq_180 (a := 0) (b := 237) (by decide +kernel) rfl
theorem dX12_numberOf_9 : decode cX12_numberOf 9 = .ok (.if_icmp .ge 36, 3) := dq_162 (a := 0) (b := 36) (by decide +kernel) (by decide +kernel)
theorem dX12_numberOf_45 : decode cX12_numberOf 45 = .ok (.iload_n 2, 1) := dq_28 (by decide +kernel)
theorem dX12_numberOf_46 : decode cX12_numberOf 46 = .ok (.ireturn, 1) := dq_172 (by decide +kernel)
theorem dX12_numberOf_12 : decode cX12_numberOf 12 = .ok (.iload_n 2, 1) := dq_28 (by decide +kernel)
theorem dX12_numberOf_13 : decode cX12_numberOf 13 = .ok (.aload_n 0, 1) := dq_42 (by decide +kernel)
theorem dX12_numberOf_14 : decode cX12_numberOf 14 = .ok (.getfield 234, 3) := dq_180 (a := 0) (b := 234) (by decide +kernel) rfl
theorem dX12_numberOf_17 : decode cX12_numberOf 17 = .ok (.imul, 1) := dq_104 (by decide +kernel)
theorem dX12_numberOf_18 : decode cX12_numberOf 18 = .ok (.aload_n 0, 1) := dq_42 (by decide +kernel)
theorem dX12_numberOf_19 : decode cX12_numberOf 19 = .ok (.getfield 72, 3) := dq_180 (a := 0) (b := 72) (by decide +kernel) rfl
theorem dX12_numberOf_22 : decode cX12_numberOf 22 = .ok (.iconst 5, 1) := dq_8 (by decide +kernel)
theorem dX12_numberOf_23 : decode cX12_numberOf 23 = .ok (.iload_n 1, 1) := dq_27 (by decide +kernel)
theorem dX12_numberOf_24 : decode cX12_numberOf 24 = .ok (.imul, 1) := dq_104 (by decide +kernel)
theorem dX12_numberOf_25 : decode cX12_numberOf 25 = .ok (.iload_n 3, 1) := dq_29 (by decide +kernel)
theorem dX12_numberOf_26 : decode cX12_numberOf 26 = .ok (.iadd, 1) := dq_96 (by decide +kernel)
theorem dX12_numberOf_27 : decode cX12_numberOf 27 = .ok (.iaload, 1) := dq_46 (by decide +kernel)
theorem dX12_numberOf_28 : decode cX12_numberOf 28 = .ok (.aload_n 0, 1) := dq_42 (by decide +kernel)
theorem dX12_numberOf_29 : decode cX12_numberOf 29 = .ok (.getfield 234, 3) := dq_180 (a := 0) (b := 234) (by decide +kernel) rfl
theorem dX12_numberOf_32 : decode cX12_numberOf 32 = .ok (.iadd, 1) := dq_96 (by decide +kernel)
theorem dX12_numberOf_33 : decode cX12_numberOf 33 = .ok (.iconst 1, 1) := dq_4 (by decide +kernel)
theorem dX12_numberOf_34 : decode cX12_numberOf 34 = .ok (.isub, 1) := dq_100 (by decide +kernel)
theorem dX12_numberOf_35 : decode cX12_numberOf 35 = .ok (.iconst 2, 1) := dq_5 (by decide +kernel)
theorem dX12_numberOf_36 : decode cX12_numberOf 36 = .ok (.idiv, 1) := dq_108 (by decide +kernel)
theorem dX12_numberOf_37 : decode cX12_numberOf 37 = .ok (.iadd, 1) := dq_96 (by decide +kernel)
theorem dX12_numberOf_38 : decode cX12_numberOf 38 = .ok (.istore_n 2, 1) := dq_61 (by decide +kernel)
theorem dX12_numberOf_39 : decode cX12_numberOf 39 = .ok (.iinc 3 1, 3) := dq_132 (a := 3) (b := 1) (by decide +kernel) rfl (by decide +kernel)
theorem dX12_numberOf_42 : decode cX12_numberOf 42 = .ok (.goto (-38), 3) := dq_167 (a := 255) (b := 218) (by decide +kernel) (by decide +kernel)
theorem dX12_behind_15 : decode cX12_behind 15 = .ok (.istore_n 2, 1) := dq_61 (by decide +kernel)
theorem dX12_behind_16 : decode cX12_behind 16 = .ok (.aload_n 0, 1) := dq_42 (by decide +kernel)
theorem dX12_behind_17 : decode cX12_behind 17 = .ok (.iload_n 2, 1) := dq_28 (by decide +kernel)
theorem dX12_behind_18 : decode cX12_behind 18 = .ok (.invokevirtual 409, 3) := dq_182 (a := 1) (b := 153) (by decide +kernel) rfl
theorem dX12_behind_21 : decode cX12_behind 21 = .ok (.lstore_n 3, 1) := dq_66 (by decide +kernel)
theorem dX12_behind_22 : decode cX12_behind 22 = .ok (.iconst 0, 1) := dq_3 (by decide +kernel)
theorem dX12_behind_23 : decode cX12_behind 23 = .ok (.istore 5, 2) := dq_54 (a := 5) (by decide +kernel) rfl
theorem dX12_behind_25 : decode cX12_behind 25 = .ok (.iconst 0, 1) := dq_3 (by decide +kernel)
theorem dX12_behind_26 : decode cX12_behind 26 = .ok (.istore 6, 2) := dq_54 (a := 6) (by decide +kernel) rfl
theorem dX12_behind_28 : decode cX12_behind 28 = .ok (.iload 6, 2) := dq_21 (a := 6) (by decide +kernel) rfl
theorem dX12_behind_30 : decode cX12_behind 30 = .ok (.aload_n 0, 1) := dq_42 (by decide +kernel)
theorem dX12_behind_31 : decode cX12_behind 31 = .ok (.invokevirtual 406, 3) := dq_182 (a := 1) (b := 150) (by decide +kernel) rfl
theorem dX12_behind_34 : decode cX12_behind 34 = .ok (.if_icmp .ge 40, 3) := dq_162 (a := 0) (b := 40) (by decide +kernel) (by decide +kernel)
theorem dX12_behind_74 : decode cX12_behind 74 = .ok (.iload 5, 2) := dq_21 (a := 5) (by decide +kernel) rfl
theorem dX12_behind_76 : decode cX12_behind 76 = .ok (.ireturn, 1) := dq_172 (by decide +kernel)
theorem dX12_behind_37 : decode cX12_behind 37 = .ok (.aload_n 0, 1) := dq_42 (by decide +kernel)
theorem dX12_behind_38 : decode cX12_behind 38 = .ok (.iload 6, 2) := dq_21 (a := 6) (by decide +kernel) rfl
theorem dX12_behind_40 : decode cX12_behind 40 = .ok (.invokevirtual 409, 3) := dq_182 (a := 1) (b := 153) (by decide +kernel) rfl
theorem dX12_behind_43 : decode cX12_behind 43 = .ok (.lstore 7, 2) := dq_55 (a := 7) (by decide +kernel) rfl
theorem dX12_behind_45 : decode cX12_behind 45 = .ok (.lload 7, 2) := dq_22 (a := 7) (by decide +kernel) rfl
theorem dX12_behind_47 : decode cX12_behind 47 = .ok (.lload_n 3, 1) := dq_33 (by decide +kernel)
theorem dX12_behind_48 : decode cX12_behind 48 = .ok (.lcmp, 1) := dq_148 (by decide +kernel)
theorem dX12_behind_49 : decode cX12_behind 49 = .ok (.ifCond .lt 16, 3) := dq_155 (a := 0) (b := 16) (by decide +kernel) (by decide +kernel)
theorem dX12_behind_65 : decode cX12_behind 65 = .ok (.iinc 5 1, 3) := dq_132 (a := 5) (b := 1) (by decide +kernel) rfl (by decide +kernel)
theorem dX12_behind_68 : decode cX12_behind 68 = .ok (.iinc 6 1, 3) := dq_132 (a := 6) (b := 1) (by decide +kernel) rfl (by decide +kernel)
theorem dX12_behind_71 : decode cX12_behind 71 = .ok (.goto (-43), 3) := dq_167 (a := 255) (b := 213) (by decide +kernel) (by decide +kernel)
theorem dX12_behind_52 : decode cX12_behind 52 = .ok (.lload 7, 2) := dq_22 (a := 7) (by decide +kernel) rfl
theorem dX12_behind_54 : decode cX12_behind 54 = .ok (.lload_n 3, 1) := dq_33 (by decide +kernel)
theorem dX12_behind_55 : decode cX12_behind 55 = .ok (.lcmp, 1) := dq_148 (by decide +kernel)
theorem dX12_behind_56 : decode cX12_behind 56 = .ok (.ifCond .ne 12, 3) := dq_154 (a := 0) (b := 12) (by decide +kernel) (by decide +kernel)
theorem dX12_behind_59 : decode cX12_behind 59 = .ok (.iload 6, 2) := dq_21 (a := 6) (by decide +kernel) rfl
theorem dX12_behind_61 : decode cX12_behind 61 = .ok (.iload_n 2, 1) := dq_28 (by decide +kernel)
theorem dX12_behind_62 : decode cX12_behind 62 = .ok (.if_icmp .ge 6, 3) := dq_162 (a := 0) (b := 6) (by decide +kernel) (by decide +kernel)
theorem dX12_behind_8 : decode cX12_behind 8 = .ok (.iconst (-1), 1) := dq_2 (by decide +kernel)
theorem dX12_behind_9 : decode cX12_behind 9 = .ok (.ireturn, 1) := dq_172 (by decide +kernel)
theorem dX12_unlike_0 : decode cX12_unlike 0 = .ok (.aload_n 0, 1) := dq_42 (by decide +kernel)
theorem dX12_unlike_1 : decode cX12_unlike 1 = .ok (.iload_n 1, 1) := dq_27 (by decide +kernel)
theorem dX12_unlike_2 : decode cX12_unlike 2 = .ok (.invokevirtual 471, 3) := dq_182 (a := 1) (b := 215) (by decide +kernel) rfl
theorem dX12_unlike_5 : decode cX12_unlike 5 = .ok (.ifCond .eq 11, 3) := dq_153 (a := 0) (b := 11) (by decide +kernel) (by decide +kernel)
theorem dX12_unlike_16 : decode cX12_unlike 16 = .ok (.iconst (-1), 1) := dq_2 (by decide +kernel)
theorem dX12_unlike_17 : decode cX12_unlike 17 = .ok (.ireturn, 1) := dq_172 (by decide +kernel)
theorem dX12_unlike_8 : decode cX12_unlike 8 = .ok (.aload_n 0, 1) := dq_42 (by decide +kernel)
theorem dX12_unlike_9 : decode cX12_unlike 9 = .ok (.iload_n 2, 1) := dq_28 (by decide +kernel)
theorem dX12_unlike_10 : decode cX12_unlike 10 = .ok (.invokevirtual 471, 3) := dq_182 (a := 1) (b := 215) (by decide +kernel) rfl
theorem dX12_unlike_13 : decode cX12_unlike 13 = .ok (.ifCond .ne 5, 3) := dq_154 (a := 0) (b := 5) (by decide +kernel) (by decide +kernel)
theorem dX12_unlike_18 : decode cX12_unlike 18 = .ok (.iconst 0, 1) := dq_3 (by decide +kernel)
theorem dX12_unlike_19 : decode cX12_unlike 19 = .ok (.istore_n 3, 1) := dq_62 (by decide +kernel)
theorem dX12_unlike_20 : decode cX12_unlike 20 = .ok (.iconst 0, 1) := dq_3 (by decide +kernel)
theorem dX12_unlike_21 : decode cX12_unlike 21 = .ok (.istore 4, 2) := dq_54 (a := 4) (by decide +kernel) rfl
theorem dX12_unlike_23 : decode cX12_unlike 23 = .ok (.iload 4, 2) := dq_21 (a := 4) (by decide +kernel) rfl
theorem dX12_unlike_25 : decode cX12_unlike 25 = .ok (.aload_n 0, 1) := dq_42 (by decide +kernel)
theorem lw_d_cX12_joins_36 : lw_dl cX12_joins [(36, .tableswitch 235 1 14 #[72, 86, 100, 114, 127, 147, 235, 235, 235, 235, 167, 186, 205, 224], 72)] = true := by decide +kernel
theorem dX12_joins_36 : decode cX12_joins 36 = .ok (.tableswitch 235 1 14 #[72, 86, 100, 114, 127, 147, 235, 235, 235, 235, 167, 186, 205, 224], 72) := lw_dr lw_d_cX12_joins_36 0 rfl
theorem dX12_unlike_26 : decode cX12_unlike 26 = .ok (.getfield 237, 3) := dq_180 (a := 0) (b := 237) (by decide +kernel) rfl
theorem dX12_unlike_29 : decode cX12_unlike 29 = .ok (.if_icmp .ge 37, 3) := dq_162 (a := 0) (b := 37) (by decide +kernel) (by decide +kernel)
theorem dX12_unlike_66 : decode cX12_unlike 66 = .ok (.iload_n 3, 1) := dq_29 (by decide +kernel)
theorem dX12_unlike_67 : decode cX12_unlike 67 = .ok (.ireturn, 1) := dq_172 (by decide +kernel)
theorem dX12_unlike_32 : decode cX12_unlike 32 = .ok (.aload_n 0, 1) := dq_42 (by decide +kernel)
theorem dX12_unlike_33 : decode cX12_unlike 33 = .ok (.getfield 72, 3) := dq_180 (a := 0) (b := 72) (by decide +kernel) rfl
theorem dX12_unlike_36 : decode cX12_unlike 36 = .ok (.iconst 5, 1) := dq_8 (by decide +kernel)
theorem dX12_unlike_37 : decode cX12_unlike 37 = .ok (.iload_n 1, 1) := dq_27 (by decide +kernel)
theorem dX12_unlike_38 : decode cX12_unlike 38 = .ok (.imul, 1) := dq_104 (by decide +kernel)
theorem dX12_unlike_39 : decode cX12_unlike 39 = .ok (.iload 4, 2) := dq_21 (a := 4) (by decide +kernel) rfl
theorem dX12_unlike_41 : decode cX12_unlike 41 = .ok (.iadd, 1) := dq_96 (by decide +kernel)
theorem dX12_unlike_42 : decode cX12_unlike 42 = .ok (.iaload, 1) := dq_46 (by decide +kernel)
theorem dX12_unlike_43 : decode cX12_unlike 43 = .ok (.aload_n 0, 1) := dq_42 (by decide +kernel)
theorem dX12_unlike_44 : decode cX12_unlike 44 = .ok (.getfield 72, 3) := dq_180 (a := 0) (b := 72) (by decide +kernel) rfl
theorem dX12_unlike_47 : decode cX12_unlike 47 = .ok (.iconst 5, 1) := dq_8 (by decide +kernel)
theorem dX12_unlike_48 : decode cX12_unlike 48 = .ok (.iload_n 2, 1) := dq_28 (by decide +kernel)
theorem dX12_unlike_49 : decode cX12_unlike 49 = .ok (.imul, 1) := dq_104 (by decide +kernel)
theorem dX12_unlike_50 : decode cX12_unlike 50 = .ok (.iload 4, 2) := dq_21 (a := 4) (by decide +kernel) rfl
theorem dX12_unlike_52 : decode cX12_unlike 52 = .ok (.iadd, 1) := dq_96 (by decide +kernel)
theorem dX12_unlike_53 : decode cX12_unlike 53 = .ok (.iaload, 1) := dq_46 (by decide +kernel)
theorem dX12_unlike_54 : decode cX12_unlike 54 = .ok (.if_icmp .eq 6, 3) := dq_159 (a := 0) (b := 6) (by decide +kernel) (by decide +kernel)
theorem dX12_unlike_60 : decode cX12_unlike 60 = .ok (.iinc 4 1, 3) := dq_132 (a := 4) (b := 1) (by decide +kernel) rfl (by decide +kernel)
theorem dX12_unlike_63 : decode cX12_unlike 63 = .ok (.goto (-40), 3) := dq_167 (a := 255) (b := 216) (by decide +kernel) (by decide +kernel)
theorem dX12_unlike_57 : decode cX12_unlike 57 = .ok (.iinc 3 1, 3) := dq_132 (a := 3) (b := 1) (by decide +kernel) rfl (by decide +kernel)
theorem dX12_decode_0 : decode cX12_decode 0 = .ok (.iconst (-1), 1) := dq_2 (by decide +kernel)
theorem dX12_decode_1 : decode cX12_decode 1 = .ok (.istore_n 1, 1) := dq_60 (by decide +kernel)
theorem dX12_decode_2 : decode cX12_decode 2 = .ok (.lconst 0, 1) := dq_9 (by decide +kernel)
theorem dX12_decode_3 : decode cX12_decode 3 = .ok (.lstore_n 2, 1) := dq_65 (by decide +kernel)
theorem dX12_decode_4 : decode cX12_decode 4 = .ok (.iconst 0, 1) := dq_3 (by decide +kernel)
theorem dX12_decode_5 : decode cX12_decode 5 = .ok (.istore 4, 2) := dq_54 (a := 4) (by decide +kernel) rfl
theorem dX12_decode_7 : decode cX12_decode 7 = .ok (.iload 4, 2) := dq_21 (a := 4) (by decide +kernel) rfl
theorem dX12_decode_9 : decode cX12_decode 9 = .ok (.aload_n 0, 1) := dq_42 (by decide +kernel)
theorem dX12_decode_10 : decode cX12_decode 10 = .ok (.getfield 246, 3) := dq_180 (a := 0) (b := 246) (by decide +kernel) rfl
theorem dX12_decode_13 : decode cX12_decode 13 = .ok (.if_icmp .ge 74, 3) := dq_162 (a := 0) (b := 74) (by decide +kernel) (by decide +kernel)
theorem dX12_decode_87 : decode cX12_decode 87 = .ok (.iload_n 1, 1) := dq_27 (by decide +kernel)
theorem dX12_decode_88 : decode cX12_decode 88 = .ok (.ireturn, 1) := dq_172 (by decide +kernel)
theorem dX12_decode_16 : decode cX12_decode 16 = .ok (.iconst 0, 1) := dq_3 (by decide +kernel)
theorem dX12_decode_17 : decode cX12_decode 17 = .ok (.istore 5, 2) := dq_54 (a := 5) (by decide +kernel) rfl
theorem dX12_decode_19 : decode cX12_decode 19 = .ok (.iload 5, 2) := dq_21 (a := 5) (by decide +kernel) rfl
theorem dX12_decode_21 : decode cX12_decode 21 = .ok (.aload_n 0, 1) := dq_42 (by decide +kernel)
theorem dX12_decode_22 : decode cX12_decode 22 = .ok (.getfield 237, 3) := dq_180 (a := 0) (b := 237) (by decide +kernel) rfl
theorem dX12_decode_25 : decode cX12_decode 25 = .ok (.if_icmp .ge 28, 3) := dq_162 (a := 0) (b := 28) (by decide +kernel) (by decide +kernel)
theorem dX12_decode_53 : decode cX12_decode 53 = .ok (.aload_n 0, 1) := dq_42 (by decide +kernel)
theorem dX12_decode_54 : decode cX12_decode 54 = .ok (.iconst 1, 1) := dq_4 (by decide +kernel)
theorem dX12_decode_55 : decode cX12_decode 55 = .ok (.invokevirtual 380, 3) := dq_182 (a := 1) (b := 124) (by decide +kernel) rfl
theorem dX12_decode_58 : decode cX12_decode 58 = .ok (.lstore 5, 2) := dq_55 (a := 5) (by decide +kernel) rfl
theorem dX12_decode_60 : decode cX12_decode 60 = .ok (.iload_n 1, 1) := dq_27 (by decide +kernel)
theorem dX12_decode_61 : decode cX12_decode 61 = .ok (.iconst (-1), 1) := dq_2 (by decide +kernel)
theorem dX12_decode_62 : decode cX12_decode 62 = .ok (.if_icmp .eq 13, 3) := dq_159 (a := 0) (b := 13) (by decide +kernel) (by decide +kernel)
theorem dX12_decode_75 : decode cX12_decode 75 = .ok (.iload 4, 2) := dq_21 (a := 4) (by decide +kernel) rfl
theorem dX12_decode_77 : decode cX12_decode 77 = .ok (.istore_n 1, 1) := dq_60 (by decide +kernel)
theorem dX12_decode_78 : decode cX12_decode 78 = .ok (.lload 5, 2) := dq_22 (a := 5) (by decide +kernel) rfl
theorem dX12_decode_80 : decode cX12_decode 80 = .ok (.lstore_n 2, 1) := dq_65 (by decide +kernel)
theorem dX12_decode_81 : decode cX12_decode 81 = .ok (.iinc 4 1, 3) := dq_132 (a := 4) (b := 1) (by decide +kernel) rfl (by decide +kernel)
theorem dX12_decode_84 : decode cX12_decode 84 = .ok (.goto (-77), 3) := dq_167 (a := 255) (b := 179) (by decide +kernel) (by decide +kernel)
theorem dX12_decode_28 : decode cX12_decode 28 = .ok (.aload_n 0, 1) := dq_42 (by decide +kernel)
theorem dX12_decode_29 : decode cX12_decode 29 = .ok (.getfield 103, 3) := dq_180 (a := 0) (b := 103) (by decide +kernel) rfl
theorem dX12_decode_32 : decode cX12_decode 32 = .ok (.iload 5, 2) := dq_21 (a := 5) (by decide +kernel) rfl
theorem dX12_decode_34 : decode cX12_decode 34 = .ok (.aload_n 0, 1) := dq_42 (by decide +kernel)
theorem dX12_decode_35 : decode cX12_decode 35 = .ok (.getfield 72, 3) := dq_180 (a := 0) (b := 72) (by decide +kernel) rfl
theorem dX12_decode_38 : decode cX12_decode 38 = .ok (.iconst 5, 1) := dq_8 (by decide +kernel)
theorem dX12_decode_39 : decode cX12_decode 39 = .ok (.iload 4, 2) := dq_21 (a := 4) (by decide +kernel) rfl
theorem dX12_decode_41 : decode cX12_decode 41 = .ok (.imul, 1) := dq_104 (by decide +kernel)
theorem dX12_decode_42 : decode cX12_decode 42 = .ok (.iload 5, 2) := dq_21 (a := 5) (by decide +kernel) rfl
theorem dX12_decode_44 : decode cX12_decode 44 = .ok (.iadd, 1) := dq_96 (by decide +kernel)
theorem dX12_decode_45 : decode cX12_decode 45 = .ok (.iaload, 1) := dq_46 (by decide +kernel)
theorem dX12_decode_46 : decode cX12_decode 46 = .ok (.iastore, 1) := dq_79 (by decide +kernel)
theorem dX12_decode_47 : decode cX12_decode 47 = .ok (.iinc 5 1, 3) := dq_132 (a := 5) (b := 1) (by decide +kernel) rfl (by decide +kernel)
theorem dX12_decode_50 : decode cX12_decode 50 = .ok (.goto (-31), 3) := dq_167 (a := 255) (b := 225) (by decide +kernel) (by decide +kernel)
theorem dX12_decode_65 : decode cX12_decode 65 = .ok (.lload 5, 2) := dq_22 (a := 5) (by decide +kernel) rfl
theorem dX12_decode_67 : decode cX12_decode 67 = .ok (.lload_n 2, 1) := dq_32 (by decide +kernel)
theorem dX12_decode_68 : decode cX12_decode 68 = .ok (.lcmp, 1) := dq_148 (by decide +kernel)
theorem dX12_decode_69 : decode cX12_decode 69 = .ok (.ifCond .lt 6, 3) := dq_155 (a := 0) (b := 6) (by decide +kernel) (by decide +kernel)
theorem dX12_decode_72 : decode cX12_decode 72 = .ok (.goto 9, 3) := dq_167 (a := 0) (b := 9) (by decide +kernel) (by decide +kernel)
theorem dX12_ahead_0 : decode cX12_ahead 0 = .ok (.aload_n 0, 1) := dq_42 (by decide +kernel)
theorem dX12_ahead_1 : decode cX12_ahead 1 = .ok (.iconst 0, 1) := dq_3 (by decide +kernel)
theorem dX12_ahead_2 : decode cX12_ahead 2 = .ok (.putfield 252, 3) := dq_181 (a := 0) (b := 252) (by decide +kernel) rfl
theorem dX12_ahead_5 : decode cX12_ahead 5 = .ok (.aload_n 0, 1) := dq_42 (by decide +kernel)
theorem dX12_ahead_6 : decode cX12_ahead 6 = .ok (.invokevirtual 377, 3) := dq_182 (a := 1) (b := 121) (by decide +kernel) rfl
theorem dX12_ahead_9 : decode cX12_ahead 9 = .ok (.ifCond .ne 7, 3) := dq_154 (a := 0) (b := 7) (by decide +kernel) (by decide +kernel)
theorem dX12_ahead_16 : decode cX12_ahead 16 = .ok (.aload_n 0, 1) := dq_42 (by decide +kernel)
theorem dX12_ahead_17 : decode cX12_ahead 17 = .ok (.invokevirtual 477, 3) := dq_182 (a := 1) (b := 221) (by decide +kernel) rfl
theorem dX12_aheadOf_0 : decode cX12_aheadOf 0 = .ok (.iconst 0, 1) := dq_3 (by decide +kernel)
theorem dX12_aheadOf_1 : decode cX12_aheadOf 1 = .ok (.istore_n 1, 1) := dq_60 (by decide +kernel)
theorem dX12_aheadOf_2 : decode cX12_aheadOf 2 = .ok (.iload_n 1, 1) := dq_27 (by decide +kernel)
theorem dX12_aheadOf_3 : decode cX12_aheadOf 3 = .ok (.aload_n 0, 1) := dq_42 (by decide +kernel)
theorem dX12_aheadOf_4 : decode cX12_aheadOf 4 = .ok (.getfield 237, 3) := dq_180 (a := 0) (b := 237) (by decide +kernel) rfl
theorem dX12_aheadOf_7 : decode cX12_aheadOf 7 = .ok (.if_icmp .ge 21, 3) := dq_162 (a := 0) (b := 21) (by decide +kernel) (by decide +kernel)
theorem dX12_aheadOf_28 : decode cX12_aheadOf 28 = .ok (.iconst 1, 1) := dq_4 (by decide +kernel)
theorem dX12_aheadOf_29 : decode cX12_aheadOf 29 = .ok (.istore_n 1, 1) := dq_60 (by decide +kernel)
theorem dX12_aheadOf_30 : decode cX12_aheadOf 30 = .ok (.iconst 0, 1) := dq_3 (by decide +kernel)
theorem dX12_aheadOf_31 : decode cX12_aheadOf 31 = .ok (.istore_n 2, 1) := dq_61 (by decide +kernel)
theorem dX12_aheadOf_32 : decode cX12_aheadOf 32 = .ok (.iload_n 2, 1) := dq_28 (by decide +kernel)
theorem dX12_aheadOf_33 : decode cX12_aheadOf 33 = .ok (.aload_n 0, 1) := dq_42 (by decide +kernel)
theorem dX12_aheadOf_34 : decode cX12_aheadOf 34 = .ok (.getfield 237, 3) := dq_180 (a := 0) (b := 237) (by decide +kernel) rfl
theorem dX12_aheadOf_37 : decode cX12_aheadOf 37 = .ok (.if_icmp .ge 13, 3) := dq_162 (a := 0) (b := 13) (by decide +kernel) (by decide +kernel)
theorem dX12_aheadOf_50 : decode cX12_aheadOf 50 = .ok (.ldc2_w 384, 3) := dq_20 (a := 1) (b := 128) (by decide +kernel) rfl
theorem dX12_aheadOf_53 : decode cX12_aheadOf 53 = .ok (.lstore_n 2, 1) := dq_65 (by decide +kernel)
theorem dX12_aheadOf_54 : decode cX12_aheadOf 54 = .ok (.iconst 0, 1) := dq_3 (by decide +kernel)
theorem dX12_aheadOf_55 : decode cX12_aheadOf 55 = .ok (.istore 4, 2) := dq_54 (a := 4) (by decide +kernel) rfl
theorem dX12_aheadOf_57 : decode cX12_aheadOf 57 = .ok (.iload 4, 2) := dq_21 (a := 4) (by decide +kernel) rfl
theorem dX12_aheadOf_59 : decode cX12_aheadOf 59 = .ok (.iload_n 1, 1) := dq_27 (by decide +kernel)
theorem dX12_aheadOf_60 : decode cX12_aheadOf 60 = .ok (.if_icmp .ge 139, 3) := dq_162 (a := 0) (b := 139) (by decide +kernel) (by decide +kernel)
theorem dX12_aheadOf_63 : decode cX12_aheadOf 63 = .ok (.iload 4, 2) := dq_21 (a := 4) (by decide +kernel) rfl
theorem dX12_aheadOf_65 : decode cX12_aheadOf 65 = .ok (.istore 5, 2) := dq_54 (a := 5) (by decide +kernel) rfl
theorem dX12_aheadOf_67 : decode cX12_aheadOf 67 = .ok (.aload_n 0, 1) := dq_42 (by decide +kernel)
theorem dX12_aheadOf_68 : decode cX12_aheadOf 68 = .ok (.getfield 237, 3) := dq_180 (a := 0) (b := 237) (by decide +kernel) rfl
theorem dX12_aheadOf_71 : decode cX12_aheadOf 71 = .ok (.iconst 1, 1) := dq_4 (by decide +kernel)
theorem dX12_aheadOf_72 : decode cX12_aheadOf 72 = .ok (.isub, 1) := dq_100 (by decide +kernel)
theorem dX12_aheadOf_73 : decode cX12_aheadOf 73 = .ok (.istore 6, 2) := dq_54 (a := 6) (by decide +kernel) rfl
theorem dX12_aheadOf_75 : decode cX12_aheadOf 75 = .ok (.iload 6, 2) := dq_21 (a := 6) (by decide +kernel) rfl
theorem dX12_aheadOf_77 : decode cX12_aheadOf 77 = .ok (.ifCond .lt 43, 3) := dq_155 (a := 0) (b := 43) (by decide +kernel) (by decide +kernel)
theorem dX12_aheadOf_120 : decode cX12_aheadOf 120 = .ok (.aload_n 0, 1) := dq_42 (by decide +kernel)
theorem dX12_aheadOf_121 : decode cX12_aheadOf 121 = .ok (.iconst 0, 1) := dq_3 (by decide +kernel)
theorem dX12_aheadOf_122 : decode cX12_aheadOf 122 = .ok (.invokevirtual 380, 3) := dq_182 (a := 1) (b := 124) (by decide +kernel) rfl
theorem dX12_aheadOf_125 : decode cX12_aheadOf 125 = .ok (.lstore 6, 2) := dq_55 (a := 6) (by decide +kernel) rfl
theorem dX12_aheadOf_127 : decode cX12_aheadOf 127 = .ok (.lload_n 2, 1) := dq_32 (by decide +kernel)
theorem dX12_aheadOf_128 : decode cX12_aheadOf 128 = .ok (.lconst 0, 1) := dq_9 (by decide +kernel)
theorem dX12_aheadOf_129 : decode cX12_aheadOf 129 = .ok (.lcmp, 1) := dq_148 (by decide +kernel)
theorem dX12_aheadOf_130 : decode cX12_aheadOf 130 = .ok (.ifCond .lt 13, 3) := dq_155 (a := 0) (b := 13) (by decide +kernel) (by decide +kernel)
theorem dX12_aheadOf_143 : decode cX12_aheadOf 143 = .ok (.lload 6, 2) := dq_22 (a := 6) (by decide +kernel) rfl
theorem dX12_aheadOf_145 : decode cX12_aheadOf 145 = .ok (.lstore_n 2, 1) := dq_65 (by decide +kernel)
theorem dX12_aheadOf_146 : decode cX12_aheadOf 146 = .ok (.iconst 0, 1) := dq_3 (by decide +kernel)
theorem dX12_aheadOf_147 : decode cX12_aheadOf 147 = .ok (.istore 8, 2) := dq_54 (a := 8) (by decide +kernel) rfl
theorem dX12_aheadOf_149 : decode cX12_aheadOf 149 = .ok (.iload 8, 2) := dq_21 (a := 8) (by decide +kernel) rfl
theorem dX12_aheadOf_151 : decode cX12_aheadOf 151 = .ok (.aload_n 0, 1) := dq_42 (by decide +kernel)
theorem dX12_aheadOf_152 : decode cX12_aheadOf 152 = .ok (.getfield 237, 3) := dq_180 (a := 0) (b := 237) (by decide +kernel) rfl
theorem dX12_aheadOf_155 : decode cX12_aheadOf 155 = .ok (.if_icmp .ge 38, 3) := dq_162 (a := 0) (b := 38) (by decide +kernel) (by decide +kernel)
theorem dX12_aheadOf_193 : decode cX12_aheadOf 193 = .ok (.iinc 4 1, 3) := dq_132 (a := 4) (b := 1) (by decide +kernel) rfl (by decide +kernel)
theorem dX12_aheadOf_196 : decode cX12_aheadOf 196 = .ok (.goto (-139), 3) := dq_167 (a := 255) (b := 117) (by decide +kernel) (by decide +kernel)
theorem dX12_aheadOf_199 : decode cX12_aheadOf 199 = .ok (.lload_n 2, 1) := dq_32 (by decide +kernel)
theorem dX12_aheadOf_200 : decode cX12_aheadOf 200 = .ok (.lreturn, 1) := dq_173 (by decide +kernel)
theorem dX12_aheadOf_133 : decode cX12_aheadOf 133 = .ok (.lload 6, 2) := dq_22 (a := 6) (by decide +kernel) rfl
theorem dX12_aheadOf_135 : decode cX12_aheadOf 135 = .ok (.lload_n 2, 1) := dq_32 (by decide +kernel)
theorem dX12_aheadOf_136 : decode cX12_aheadOf 136 = .ok (.lcmp, 1) := dq_148 (by decide +kernel)
theorem dX12_aheadOf_137 : decode cX12_aheadOf 137 = .ok (.ifCond .lt 6, 3) := dq_155 (a := 0) (b := 6) (by decide +kernel) (by decide +kernel)
theorem dX12_aheadOf_140 : decode cX12_aheadOf 140 = .ok (.goto 53, 3) := dq_167 (a := 0) (b := 53) (by decide +kernel) (by decide +kernel)
theorem dX12_aheadOf_10 : decode cX12_aheadOf 10 = .ok (.aload_n 0, 1) := dq_42 (by decide +kernel)
theorem dX12_aheadOf_11 : decode cX12_aheadOf 11 = .ok (.getfield 139, 3) := dq_180 (a := 0) (b := 139) (by decide +kernel) rfl
theorem dX12_aheadOf_14 : decode cX12_aheadOf 14 = .ok (.iload_n 1, 1) := dq_27 (by decide +kernel)
theorem dX12_aheadOf_15 : decode cX12_aheadOf 15 = .ok (.aload_n 0, 1) := dq_42 (by decide +kernel)
theorem dX12_aheadOf_16 : decode cX12_aheadOf 16 = .ok (.getfield 103, 3) := dq_180 (a := 0) (b := 103) (by decide +kernel) rfl
theorem dX12_aheadOf_19 : decode cX12_aheadOf 19 = .ok (.iload_n 1, 1) := dq_27 (by decide +kernel)
theorem dX12_aheadOf_20 : decode cX12_aheadOf 20 = .ok (.iaload, 1) := dq_46 (by decide +kernel)
theorem dX12_aheadOf_21 : decode cX12_aheadOf 21 = .ok (.iastore, 1) := dq_79 (by decide +kernel)
theorem dX12_aheadOf_22 : decode cX12_aheadOf 22 = .ok (.iinc 1 1, 3) := dq_132 (a := 1) (b := 1) (by decide +kernel) rfl (by decide +kernel)
theorem dX12_aheadOf_25 : decode cX12_aheadOf 25 = .ok (.goto (-23), 3) := dq_167 (a := 255) (b := 233) (by decide +kernel) (by decide +kernel)
theorem dX12_aheadOf_40 : decode cX12_aheadOf 40 = .ok (.iload_n 1, 1) := dq_27 (by decide +kernel)
theorem dX12_aheadOf_41 : decode cX12_aheadOf 41 = .ok (.iconst 3, 1) := dq_6 (by decide +kernel)
theorem dX12_aheadOf_42 : decode cX12_aheadOf 42 = .ok (.imul, 1) := dq_104 (by decide +kernel)
theorem dX12_aheadOf_43 : decode cX12_aheadOf 43 = .ok (.istore_n 1, 1) := dq_60 (by decide +kernel)
theorem dX12_aheadOf_44 : decode cX12_aheadOf 44 = .ok (.iinc 2 1, 3) := dq_132 (a := 2) (b := 1) (by decide +kernel) rfl (by decide +kernel)
theorem dX12_aheadOf_47 : decode cX12_aheadOf 47 = .ok (.goto (-15), 3) := dq_167 (a := 255) (b := 241) (by decide +kernel) (by decide +kernel)
theorem dX12_aheadOf_158 : decode cX12_aheadOf 158 = .ok (.aload_n 0, 1) := dq_42 (by decide +kernel)
theorem dX12_aheadOf_159 : decode cX12_aheadOf 159 = .ok (.getfield 136, 3) := dq_180 (a := 0) (b := 136) (by decide +kernel) rfl
theorem dX12_aheadOf_162 : decode cX12_aheadOf 162 = .ok (.iload 8, 2) := dq_21 (a := 8) (by decide +kernel) rfl
theorem dX12_aheadOf_164 : decode cX12_aheadOf 164 = .ok (.aload_n 0, 1) := dq_42 (by decide +kernel)
theorem dX12_aheadOf_165 : decode cX12_aheadOf 165 = .ok (.getfield 103, 3) := dq_180 (a := 0) (b := 103) (by decide +kernel) rfl
theorem dX12_aheadOf_168 : decode cX12_aheadOf 168 = .ok (.iload 8, 2) := dq_21 (a := 8) (by decide +kernel) rfl
theorem dX12_aheadOf_170 : decode cX12_aheadOf 170 = .ok (.iaload, 1) := dq_46 (by decide +kernel)
theorem dX12_aheadOf_171 : decode cX12_aheadOf 171 = .ok (.aload_n 0, 1) := dq_42 (by decide +kernel)
theorem dX12_aheadOf_172 : decode cX12_aheadOf 172 = .ok (.getfield 139, 3) := dq_180 (a := 0) (b := 139) (by decide +kernel) rfl
theorem dX12_aheadOf_175 : decode cX12_aheadOf 175 = .ok (.iload 8, 2) := dq_21 (a := 8) (by decide +kernel) rfl
theorem dX12_aheadOf_177 : decode cX12_aheadOf 177 = .ok (.iaload, 1) := dq_46 (by decide +kernel)
theorem dX12_aheadOf_178 : decode cX12_aheadOf 178 = .ok (.isub, 1) := dq_100 (by decide +kernel)
theorem dX12_aheadOf_179 : decode cX12_aheadOf 179 = .ok (.iconst 2, 1) := dq_5 (by decide +kernel)
theorem dX12_aheadOf_180 : decode cX12_aheadOf 180 = .ok (.aload_n 0, 1) := dq_42 (by decide +kernel)
theorem dX12_aheadOf_181 : decode cX12_aheadOf 181 = .ok (.getfield 234, 3) := dq_180 (a := 0) (b := 234) (by decide +kernel) rfl
theorem dX12_aheadOf_184 : decode cX12_aheadOf 184 = .ok (.imul, 1) := dq_104 (by decide +kernel)
theorem dX12_aheadOf_185 : decode cX12_aheadOf 185 = .ok (.idiv, 1) := dq_108 (by decide +kernel)
theorem dX12_aheadOf_186 : decode cX12_aheadOf 186 = .ok (.iastore, 1) := dq_79 (by decide +kernel)
theorem dX12_aheadOf_187 : decode cX12_aheadOf 187 = .ok (.iinc 8 1, 3) := dq_132 (a := 8) (b := 1) (by decide +kernel) rfl (by decide +kernel)
theorem dX12_aheadOf_190 : decode cX12_aheadOf 190 = .ok (.goto (-41), 3) := dq_167 (a := 255) (b := 215) (by decide +kernel) (by decide +kernel)
theorem dX12_aheadOf_80 : decode cX12_aheadOf 80 = .ok (.aload_n 0, 1) := dq_42 (by decide +kernel)
theorem dX12_aheadOf_81 : decode cX12_aheadOf 81 = .ok (.getfield 103, 3) := dq_180 (a := 0) (b := 103) (by decide +kernel) rfl
theorem dX12_aheadOf_84 : decode cX12_aheadOf 84 = .ok (.iload 6, 2) := dq_21 (a := 6) (by decide +kernel) rfl
theorem dX12_aheadOf_86 : decode cX12_aheadOf 86 = .ok (.aload_n 0, 1) := dq_42 (by decide +kernel)
theorem dX12_aheadOf_87 : decode cX12_aheadOf 87 = .ok (.getfield 139, 3) := dq_180 (a := 0) (b := 139) (by decide +kernel) rfl
theorem dX12_aheadOf_90 : decode cX12_aheadOf 90 = .ok (.iload 6, 2) := dq_21 (a := 6) (by decide +kernel) rfl
theorem dX12_aheadOf_92 : decode cX12_aheadOf 92 = .ok (.iaload, 1) := dq_46 (by decide +kernel)
theorem dX12_aheadOf_93 : decode cX12_aheadOf 93 = .ok (.iconst 2, 1) := dq_5 (by decide +kernel)
theorem dX12_aheadOf_94 : decode cX12_aheadOf 94 = .ok (.aload_n 0, 1) := dq_42 (by decide +kernel)
theorem dX12_aheadOf_95 : decode cX12_aheadOf 95 = .ok (.getfield 234, 3) := dq_180 (a := 0) (b := 234) (by decide +kernel) rfl
theorem dX12_aheadOf_98 : decode cX12_aheadOf 98 = .ok (.imul, 1) := dq_104 (by decide +kernel)
theorem dX12_aheadOf_99 : decode cX12_aheadOf 99 = .ok (.iload 5, 2) := dq_21 (a := 5) (by decide +kernel) rfl
theorem dX12_aheadOf_101 : decode cX12_aheadOf 101 = .ok (.iconst 3, 1) := dq_6 (by decide +kernel)
theorem dX12_aheadOf_102 : decode cX12_aheadOf 102 = .ok (.irem, 1) := dq_112 (by decide +kernel)
theorem dX12_aheadOf_103 : decode cX12_aheadOf 103 = .ok (.iconst 1, 1) := dq_4 (by decide +kernel)
theorem dX12_aheadOf_104 : decode cX12_aheadOf 104 = .ok (.isub, 1) := dq_100 (by decide +kernel)
theorem dX12_aheadOf_105 : decode cX12_aheadOf 105 = .ok (.imul, 1) := dq_104 (by decide +kernel)
theorem dX12_aheadOf_106 : decode cX12_aheadOf 106 = .ok (.iadd, 1) := dq_96 (by decide +kernel)
theorem dX12_aheadOf_107 : decode cX12_aheadOf 107 = .ok (.iastore, 1) := dq_79 (by decide +kernel)
theorem dX12_aheadOf_108 : decode cX12_aheadOf 108 = .ok (.iload 5, 2) := dq_21 (a := 5) (by decide +kernel) rfl
theorem dX12_aheadOf_110 : decode cX12_aheadOf 110 = .ok (.iconst 3, 1) := dq_6 (by decide +kernel)
theorem dX12_aheadOf_111 : decode cX12_aheadOf 111 = .ok (.idiv, 1) := dq_108 (by decide +kernel)
theorem dX12_aheadOf_112 : decode cX12_aheadOf 112 = .ok (.istore 5, 2) := dq_54 (a := 5) (by decide +kernel) rfl
theorem dX12_aheadOf_114 : decode cX12_aheadOf 114 = .ok (.iinc 6 (-1), 3) := dq_132 (a := 6) (b := 255) (by decide +kernel) rfl (by decide +kernel)
theorem dX12_aheadOf_117 : decode cX12_aheadOf 117 = .ok (.goto (-42), 3) := dq_167 (a := 255) (b := 214) (by decide +kernel) (by decide +kernel)
theorem dX12_ahead_20 : decode cX12_ahead 20 = .ok (.lstore_n 1, 1) := dq_64 (by decide +kernel)
theorem dX12_ahead_21 : decode cX12_ahead 21 = .ok (.lload_n 1, 1) := dq_31 (by decide +kernel)
theorem dX12_ahead_22 : decode cX12_ahead 22 = .ok (.ldc2_w 365, 3) := dq_20 (a := 1) (b := 109) (by decide +kernel) rfl
theorem dX12_ahead_25 : decode cX12_ahead 25 = .ok (.aload_n 0, 1) := dq_42 (by decide +kernel)
theorem dX12_ahead_26 : decode cX12_ahead 26 = .ok (.getfield 63, 3) := dq_180 (a := 0) (b := 63) (by decide +kernel) rfl
theorem dX12_ahead_29 : decode cX12_ahead 29 = .ok (.i2l, 1) := dq_133 (by decide +kernel)
theorem dX12_ahead_30 : decode cX12_ahead 30 = .ok (.lmul, 1) := dq_105 (by decide +kernel)
theorem dX12_ahead_31 : decode cX12_ahead 31 = .ok (.lcmp, 1) := dq_148 (by decide +kernel)
theorem dX12_ahead_32 : decode cX12_ahead 32 = .ok (.ifCond .le 7, 3) := dq_158 (a := 0) (b := 7) (by decide +kernel) (by decide +kernel)
theorem dX12_ahead_39 : decode cX12_ahead 39 = .ok (.aload_n 0, 1) := dq_42 (by decide +kernel)
theorem dX12_ahead_40 : decode cX12_ahead 40 = .ok (.iconst 1, 1) := dq_4 (by decide +kernel)
theorem dX12_ahead_41 : decode cX12_ahead 41 = .ok (.putfield 252, 3) := dq_181 (a := 0) (b := 252) (by decide +kernel) rfl
theorem dX12_ahead_44 : decode cX12_ahead 44 = .ok (.lload_n 1, 1) := dq_31 (by decide +kernel)
theorem dX12_ahead_45 : decode cX12_ahead 45 = .ok (.lreturn, 1) := dq_173 (by decide +kernel)
theorem dX12_ahead_35 : decode cX12_ahead 35 = .ok (.ldc2_w 384, 3) := dq_20 (a := 1) (b := 128) (by decide +kernel) rfl
theorem dX12_ahead_38 : decode cX12_ahead 38 = .ok (.lreturn, 1) := dq_173 (by decide +kernel)
theorem dX12_ahead_12 : decode cX12_ahead 12 = .ok (.ldc2_w 384, 3) := dq_20 (a := 1) (b := 128) (by decide +kernel) rfl
theorem dX12_ahead_15 : decode cX12_ahead 15 = .ok (.lreturn, 1) := dq_173 (by decide +kernel)
theorem dX12_span_0 : decode cX12_span 0 = .ok (.iconst 0, 1) := dq_3 (by decide +kernel)
theorem dX12_span_1 : decode cX12_span 1 = .ok (.istore_n 2, 1) := dq_61 (by decide +kernel)
theorem dX12_span_2 : decode cX12_span 2 = .ok (.iload_n 2, 1) := dq_28 (by decide +kernel)
theorem dX12_span_3 : decode cX12_span 3 = .ok (.iconst 5, 1) := dq_8 (by decide +kernel)
theorem dX12_span_4 : decode cX12_span 4 = .ok (.if_icmp .ge 21, 3) := dq_162 (a := 0) (b := 21) (by decide +kernel) (by decide +kernel)
theorem dX12_span_7 : decode cX12_span 7 = .ok (.aload_n 0, 1) := dq_42 (by decide +kernel)
theorem dX12_span_8 : decode cX12_span 8 = .ok (.getfield 142, 3) := dq_180 (a := 0) (b := 142) (by decide +kernel) rfl
theorem dX12_span_11 : decode cX12_span 11 = .ok (.iload_n 2, 1) := dq_28 (by decide +kernel)
theorem dX12_span_12 : decode cX12_span 12 = .ok (.aload_n 0, 1) := dq_42 (by decide +kernel)
theorem dX12_span_13 : decode cX12_span 13 = .ok (.getfield 136, 3) := dq_180 (a := 0) (b := 136) (by decide +kernel) rfl
theorem dX12_span_16 : decode cX12_span 16 = .ok (.iload_n 2, 1) := dq_28 (by decide +kernel)
theorem dX12_span_17 : decode cX12_span 17 = .ok (.iaload, 1) := dq_46 (by decide +kernel)
theorem dX12_span_18 : decode cX12_span 18 = .ok (.iastore, 1) := dq_79 (by decide +kernel)
theorem dX12_span_19 : decode cX12_span 19 = .ok (.iinc 2 1, 3) := dq_132 (a := 2) (b := 1) (by decide +kernel) rfl (by decide +kernel)
theorem dX12_span_22 : decode cX12_span 22 = .ok (.goto (-20), 3) := dq_167 (a := 255) (b := 236) (by decide +kernel) (by decide +kernel)
theorem dX12_span_25 : decode cX12_span 25 = .ok (.ldc2_w 384, 3) := dq_20 (a := 1) (b := 128) (by decide +kernel) rfl
theorem dX12_span_28 : decode cX12_span 28 = .ok (.lstore_n 2, 1) := dq_65 (by decide +kernel)
theorem dX12_span_29 : decode cX12_span 29 = .ok (.iconst 0, 1) := dq_3 (by decide +kernel)
theorem dX12_span_30 : decode cX12_span 30 = .ok (.istore 4, 2) := dq_54 (a := 4) (by decide +kernel) rfl
theorem dX12_span_32 : decode cX12_span 32 = .ok (.iload 4, 2) := dq_21 (a := 4) (by decide +kernel) rfl
theorem dX12_span_34 : decode cX12_span 34 = .ok (.aload_n 0, 1) := dq_42 (by decide +kernel)
theorem dX12_span_35 : decode cX12_span 35 = .ok (.invokevirtual 406, 3) := dq_182 (a := 1) (b := 150) (by decide +kernel) rfl
theorem dX12_span_38 : decode cX12_span 38 = .ok (.if_icmp .ge 51, 3) := dq_162 (a := 0) (b := 51) (by decide +kernel) (by decide +kernel)
theorem dX12_span_89 : decode cX12_span 89 = .ok (.iconst 0, 1) := dq_3 (by decide +kernel)
theorem dX12_span_90 : decode cX12_span 90 = .ok (.istore 4, 2) := dq_54 (a := 4) (by decide +kernel) rfl
theorem dX12_span_92 : decode cX12_span 92 = .ok (.iload 4, 2) := dq_21 (a := 4) (by decide +kernel) rfl
theorem dX12_span_94 : decode cX12_span 94 = .ok (.iconst 5, 1) := dq_8 (by decide +kernel)
theorem dX12_span_95 : decode cX12_span 95 = .ok (.if_icmp .ge 23, 3) := dq_162 (a := 0) (b := 23) (by decide +kernel) (by decide +kernel)
theorem dX12_span_98 : decode cX12_span 98 = .ok (.aload_n 0, 1) := dq_42 (by decide +kernel)
theorem dX12_span_99 : decode cX12_span 99 = .ok (.getfield 136, 3) := dq_180 (a := 0) (b := 136) (by decide +kernel) rfl
theorem dX12_span_102 : decode cX12_span 102 = .ok (.iload 4, 2) := dq_21 (a := 4) (by decide +kernel) rfl
theorem dX12_span_104 : decode cX12_span 104 = .ok (.aload_n 0, 1) := dq_42 (by decide +kernel)
theorem dX12_span_105 : decode cX12_span 105 = .ok (.getfield 142, 3) := dq_180 (a := 0) (b := 142) (by decide +kernel) rfl
theorem dX12_span_108 : decode cX12_span 108 = .ok (.iload 4, 2) := dq_21 (a := 4) (by decide +kernel) rfl
theorem dX12_span_110 : decode cX12_span 110 = .ok (.iaload, 1) := dq_46 (by decide +kernel)
theorem dX12_span_111 : decode cX12_span 111 = .ok (.iastore, 1) := dq_79 (by decide +kernel)
theorem dX12_span_112 : decode cX12_span 112 = .ok (.iinc 4 1, 3) := dq_132 (a := 4) (b := 1) (by decide +kernel) rfl (by decide +kernel)
theorem dX12_span_115 : decode cX12_span 115 = .ok (.goto (-23), 3) := dq_167 (a := 255) (b := 233) (by decide +kernel) (by decide +kernel)
theorem dX12_span_118 : decode cX12_span 118 = .ok (.lload_n 2, 1) := dq_32 (by decide +kernel)
theorem dX12_span_119 : decode cX12_span 119 = .ok (.lreturn, 1) := dq_173 (by decide +kernel)
theorem dX12_span_41 : decode cX12_span 41 = .ok (.aload_n 0, 1) := dq_42 (by decide +kernel)
theorem dX12_span_42 : decode cX12_span 42 = .ok (.iload 4, 2) := dq_21 (a := 4) (by decide +kernel) rfl
theorem dX12_span_44 : decode cX12_span 44 = .ok (.invokevirtual 403, 3) := dq_182 (a := 1) (b := 147) (by decide +kernel) rfl
theorem dX12_span_47 : decode cX12_span 47 = .ok (.aload_n 0, 1) := dq_42 (by decide +kernel)
theorem dX12_span_48 : decode cX12_span 48 = .ok (.invokevirtual 477, 3) := dq_182 (a := 1) (b := 221) (by decide +kernel) rfl
theorem dX12_span_51 : decode cX12_span 51 = .ok (.lstore 5, 2) := dq_55 (a := 5) (by decide +kernel) rfl
theorem dX12_span_53 : decode cX12_span 53 = .ok (.lload_n 2, 1) := dq_32 (by decide +kernel)
theorem dX12_span_54 : decode cX12_span 54 = .ok (.lconst 0, 1) := dq_9 (by decide +kernel)
theorem dX12_span_55 : decode cX12_span 55 = .ok (.lcmp, 1) := dq_148 (by decide +kernel)
theorem dX12_span_56 : decode cX12_span 56 = .ok (.ifCond .lt 24, 3) := dq_155 (a := 0) (b := 24) (by decide +kernel) (by decide +kernel)
theorem dX12_span_80 : decode cX12_span 80 = .ok (.lload 5, 2) := dq_22 (a := 5) (by decide +kernel) rfl
theorem dX12_span_82 : decode cX12_span 82 = .ok (.lstore_n 2, 1) := dq_65 (by decide +kernel)
theorem dX12_span_83 : decode cX12_span 83 = .ok (.iinc 4 1, 3) := dq_132 (a := 4) (b := 1) (by decide +kernel) rfl (by decide +kernel)
theorem dX12_span_86 : decode cX12_span 86 = .ok (.goto (-54), 3) := dq_167 (a := 255) (b := 202) (by decide +kernel) (by decide +kernel)
theorem dX12_span_59 : decode cX12_span 59 = .ok (.iload_n 1, 1) := dq_27 (by decide +kernel)
theorem dX12_span_60 : decode cX12_span 60 = .ok (.ifCond .eq 13, 3) := dq_153 (a := 0) (b := 13) (by decide +kernel) (by decide +kernel)
theorem dX12_span_73 : decode cX12_span 73 = .ok (.lload 5, 2) := dq_22 (a := 5) (by decide +kernel) rfl
theorem dX12_span_75 : decode cX12_span 75 = .ok (.lload_n 2, 1) := dq_32 (by decide +kernel)
theorem dX12_span_76 : decode cX12_span 76 = .ok (.lcmp, 1) := dq_148 (by decide +kernel)
theorem dX12_span_77 : decode cX12_span 77 = .ok (.ifCond .ge 6, 3) := dq_156 (a := 0) (b := 6) (by decide +kernel) (by decide +kernel)
theorem dX12_span_63 : decode cX12_span 63 = .ok (.lload 5, 2) := dq_22 (a := 5) (by decide +kernel) rfl
theorem dX12_span_65 : decode cX12_span 65 = .ok (.lload_n 2, 1) := dq_32 (by decide +kernel)
theorem dX12_span_66 : decode cX12_span 66 = .ok (.lcmp, 1) := dq_148 (by decide +kernel)
theorem dX12_span_67 : decode cX12_span 67 = .ok (.ifCond .le 16, 3) := dq_158 (a := 0) (b := 16) (by decide +kernel) (by decide +kernel)
theorem dX12_span_70 : decode cX12_span 70 = .ok (.goto 10, 3) := dq_167 (a := 0) (b := 10) (by decide +kernel) (by decide +kernel)
theorem dX12_put_0 : decode cX12_put 0 = .ok (.aload_n 0, 1) := dq_42 (by decide +kernel)
theorem dX12_put_1 : decode cX12_put 1 = .ok (.iload_n 1, 1) := dq_27 (by decide +kernel)
theorem dX12_put_2 : decode cX12_put 2 = .ok (.invokevirtual 361, 3) := dq_182 (a := 1) (b := 105) (by decide +kernel) rfl
theorem dX12_put_5 : decode cX12_put 5 = .ok (.ifCond .eq 19, 3) := dq_153 (a := 0) (b := 19) (by decide +kernel) (by decide +kernel)
theorem dX12_put_24 : decode cX12_put 24 = .ok (.ldc_w 364, 3) := dq_19 (a := 1) (b := 108) (by decide +kernel) rfl
theorem dX12_put_27 : decode cX12_put 27 = .ok (.ireturn, 1) := dq_172 (by decide +kernel)
theorem dX12_put_8 : decode cX12_put 8 = .ok (.aload_n 0, 1) := dq_42 (by decide +kernel)
theorem dX12_put_9 : decode cX12_put 9 = .ok (.getfield 252, 3) := dq_180 (a := 0) (b := 252) (by decide +kernel) rfl
theorem dX12_put_12 : decode cX12_put 12 = .ok (.ifCond .eq 12, 3) := dq_153 (a := 0) (b := 12) (by decide +kernel) (by decide +kernel)
theorem dX12_put_15 : decode cX12_put 15 = .ok (.aload_n 0, 1) := dq_42 (by decide +kernel)
theorem dX12_put_16 : decode cX12_put 16 = .ok (.getfield 136, 3) := dq_180 (a := 0) (b := 136) (by decide +kernel) rfl
theorem dX12_put_19 : decode cX12_put 19 = .ok (.iload_n 1, 1) := dq_27 (by decide +kernel)
theorem dX12_put_20 : decode cX12_put 20 = .ok (.iaload, 1) := dq_46 (by decide +kernel)
theorem dX12_put_21 : decode cX12_put 21 = .ok (.goto 6, 3) := dq_167 (a := 0) (b := 6) (by decide +kernel) (by decide +kernel)
theorem dX12_worth_0 : decode cX12_worth 0 = .ok (.aload_n 0, 1) := dq_42 (by decide +kernel)
theorem dX12_worth_1 : decode cX12_worth 1 = .ok (.iload_n 1, 1) := dq_27 (by decide +kernel)
theorem dX12_worth_2 : decode cX12_worth 2 = .ok (.invokevirtual 361, 3) := dq_182 (a := 1) (b := 105) (by decide +kernel) rfl
theorem dX12_worth_5 : decode cX12_worth 5 = .ok (.ifCond .eq 11, 3) := dq_153 (a := 0) (b := 11) (by decide +kernel) (by decide +kernel)
theorem dX12_worth_16 : decode cX12_worth 16 = .ok (.ldc_w 364, 3) := dq_19 (a := 1) (b := 108) (by decide +kernel) rfl
theorem dX12_worth_19 : decode cX12_worth 19 = .ok (.ireturn, 1) := dq_172 (by decide +kernel)
theorem dX12_worth_8 : decode cX12_worth 8 = .ok (.aload_n 0, 1) := dq_42 (by decide +kernel)
theorem dX12_worth_9 : decode cX12_worth 9 = .ok (.iload_n 1, 1) := dq_27 (by decide +kernel)
theorem dX12_worth_10 : decode cX12_worth 10 = .ok (.invokevirtual 481, 3) := dq_182 (a := 1) (b := 225) (by decide +kernel) rfl
theorem dX12_worthOf_0 : decode cX12_worthOf 0 = .ok (.iconst 0, 1) := dq_3 (by decide +kernel)
theorem dX12_worthOf_1 : decode cX12_worthOf 1 = .ok (.istore_n 2, 1) := dq_61 (by decide +kernel)
theorem dX12_worthOf_2 : decode cX12_worthOf 2 = .ok (.iload_n 2, 1) := dq_28 (by decide +kernel)
theorem dX12_worthOf_3 : decode cX12_worthOf 3 = .ok (.aload_n 0, 1) := dq_42 (by decide +kernel)
theorem dX12_worthOf_4 : decode cX12_worthOf 4 = .ok (.getfield 81, 3) := dq_180 (a := 0) (b := 81) (by decide +kernel) rfl
theorem dX12_worthOf_7 : decode cX12_worthOf 7 = .ok (.iconst 0, 1) := dq_3 (by decide +kernel)
theorem dX12_worthOf_8 : decode cX12_worthOf 8 = .ok (.iaload, 1) := dq_46 (by decide +kernel)
theorem dX12_worthOf_9 : decode cX12_worthOf 9 = .ok (.if_icmp .ge 50, 3) := dq_162 (a := 0) (b := 50) (by decide +kernel) (by decide +kernel)
theorem dX12_worthOf_59 : decode cX12_worthOf 59 = .ok (.iconst 0, 1) := dq_3 (by decide +kernel)
theorem dX12_worthOf_60 : decode cX12_worthOf 60 = .ok (.ireturn, 1) := dq_172 (by decide +kernel)
theorem dX12_worthOf_12 : decode cX12_worthOf 12 = .ok (.aload_n 0, 1) := dq_42 (by decide +kernel)
theorem dX12_worthOf_13 : decode cX12_worthOf 13 = .ok (.aload_n 0, 1) := dq_42 (by decide +kernel)
theorem dX12_worthOf_14 : decode cX12_worthOf 14 = .ok (.getfield 87, 3) := dq_180 (a := 0) (b := 87) (by decide +kernel) rfl
theorem dX12_worthOf_17 : decode cX12_worthOf 17 = .ok (.iload_n 2, 1) := dq_28 (by decide +kernel)
theorem dX12_worthOf_18 : decode cX12_worthOf 18 = .ok (.iaload, 1) := dq_46 (by decide +kernel)
theorem dX12_worthOf_19 : decode cX12_worthOf 19 = .ok (.aload_n 0, 1) := dq_42 (by decide +kernel)
theorem dX12_worthOf_20 : decode cX12_worthOf 20 = .ok (.getfield 90, 3) := dq_180 (a := 0) (b := 90) (by decide +kernel) rfl
theorem dX12_worthOf_23 : decode cX12_worthOf 23 = .ok (.iload_n 2, 1) := dq_28 (by decide +kernel)
theorem dX12_worthOf_24 : decode cX12_worthOf 24 = .ok (.iaload, 1) := dq_46 (by decide +kernel)
theorem dX12_worthOf_25 : decode cX12_worthOf 25 = .ok (.iload_n 1, 1) := dq_27 (by decide +kernel)
theorem dX12_worthOf_26 : decode cX12_worthOf 26 = .ok (.invokevirtual 345, 3) := dq_182 (a := 1) (b := 89) (by decide +kernel) rfl
theorem dX12_told_0 : decode cX12_told 0 = .ok (.aload_n 0, 1) := dq_42 (by decide +kernel)
theorem dX12_told_1 : decode cX12_told 1 = .ok (.iconst 0, 1) := dq_3 (by decide +kernel)
theorem dX12_told_2 : decode cX12_told 2 = .ok (.putfield 315, 3) := dq_181 (a := 1) (b := 59) (by decide +kernel) rfl
theorem dX12_told_5 : decode cX12_told 5 = .ok (.iload_n 1, 1) := dq_27 (by decide +kernel)
theorem dX12_told_6 : decode cX12_told 6 = .ok (.istore 4, 2) := dq_54 (a := 4) (by decide +kernel) rfl
theorem dX12_told_8 : decode cX12_told 8 = .ok (.iload 4, 2) := dq_21 (a := 4) (by decide +kernel) rfl
theorem dX12_told_10 : decode cX12_told 10 = .ok (.iload_n 2, 1) := dq_28 (by decide +kernel)
theorem dX12_told_11 : decode cX12_told 11 = .ok (.if_icmp .ge 156, 3) := dq_162 (a := 0) (b := 156) (by decide +kernel) (by decide +kernel)
theorem dX12_told_167 : decode cX12_told 167 = .ok (.aload_n 0, 1) := dq_42 (by decide +kernel)
theorem dX12_told_168 : decode cX12_told 168 = .ok (.getfield 93, 3) := dq_180 (a := 0) (b := 93) (by decide +kernel) rfl
theorem dX12_told_171 : decode cX12_told 171 = .ok (.iconst 0, 1) := dq_3 (by decide +kernel)
theorem dX12_told_172 : decode cX12_told 172 = .ok (.laload, 1) := dq_47 (by decide +kernel)
theorem dX12_told_173 : decode cX12_told 173 = .ok (.lreturn, 1) := dq_173 (by decide +kernel)
theorem dX12_told_14 : decode cX12_told 14 = .ok (.aload_n 0, 1) := dq_42 (by decide +kernel)
theorem dX12_told_15 : decode cX12_told 15 = .ok (.getfield 75, 3) := dq_180 (a := 0) (b := 75) (by decide +kernel) rfl
theorem dX12_told_18 : decode cX12_told 18 = .ok (.iload 4, 2) := dq_21 (a := 4) (by decide +kernel) rfl
theorem dX12_told_20 : decode cX12_told 20 = .ok (.iaload, 1) := dq_46 (by decide +kernel)
theorem dX12_told_21 : decode cX12_told 21 = .ok (.istore 5, 2) := dq_54 (a := 5) (by decide +kernel) rfl
theorem dX12_told_23 : decode cX12_told 23 = .ok (.iload 5, 2) := dq_21 (a := 5) (by decide +kernel) rfl
theorem dX12_told_25 : decode cX12_told 25 = .ok (.sipush 1000, 3) := dq_17 (a := 3) (b := 232) (by decide +kernel) (by decide +kernel)
theorem dX12_told_28 : decode cX12_told 28 = .ok (.if_icmp .lt 17, 3) := dq_161 (a := 0) (b := 17) (by decide +kernel) (by decide +kernel)
theorem dX12_told_45 : decode cX12_told 45 = .ok (.iload 5, 2) := dq_21 (a := 5) (by decide +kernel) rfl
theorem dX12_told_47 : decode cX12_told 47 = .ok (.bipush 17, 2) := dq_16 (a := 17) (by decide +kernel) (by decide +kernel)
theorem dX12_told_49 : decode cX12_told 49 = .ok (.if_icmp .ne 11, 3) := dq_160 (a := 0) (b := 11) (by decide +kernel) (by decide +kernel)
theorem dX12_told_60 : decode cX12_told 60 = .ok (.iload 5, 2) := dq_21 (a := 5) (by decide +kernel) rfl
theorem dX12_told_62 : decode cX12_told 62 = .ok (.bipush 16, 2) := dq_16 (a := 16) (by decide +kernel) (by decide +kernel)
theorem dX12_told_64 : decode cX12_told 64 = .ok (.if_icmp .ne 30, 3) := dq_160 (a := 0) (b := 30) (by decide +kernel) (by decide +kernel)
theorem dX12_told_94 : decode cX12_told 94 = .ok (.iload 5, 2) := dq_21 (a := 5) (by decide +kernel) rfl
theorem dX12_told_96 : decode cX12_told 96 = .ok (.i2l, 1) := dq_133 (by decide +kernel)
theorem dX12_told_97 : decode cX12_told 97 = .ok (.ldc2_w 330, 3) := dq_20 (a := 1) (b := 74) (by decide +kernel) rfl
theorem dX12_told_100 : decode cX12_told 100 = .ok (.ldc2_w 332, 3) := dq_20 (a := 1) (b := 76) (by decide +kernel) rfl
theorem dX12_told_103 : decode cX12_told 103 = .ok (.invokestatic 191, 3) := dq_184 (a := 0) (b := 191) (by decide +kernel) rfl
theorem dX12_told_106 : decode cX12_told 106 = .ok (.ifCond .eq 49, 3) := dq_153 (a := 0) (b := 49) (by decide +kernel) (by decide +kernel)
theorem dX12_told_155 : decode cX12_told 155 = .ok (.aload_n 0, 1) := dq_42 (by decide +kernel)
theorem dX12_told_156 : decode cX12_told 156 = .ok (.iload 5, 2) := dq_21 (a := 5) (by decide +kernel) rfl
theorem dX12_told_158 : decode cX12_told 158 = .ok (.invokevirtual 342, 3) := dq_182 (a := 1) (b := 86) (by decide +kernel) rfl
theorem dX12_joins_0 : decode cX12_joins 0 = .ok (.aload_n 0, 1) := dq_42 (by decide +kernel)
theorem dX12_joins_1 : decode cX12_joins 1 = .ok (.getfield 93, 3) := dq_180 (a := 0) (b := 93) (by decide +kernel) rfl
theorem dX12_joins_4 : decode cX12_joins 4 = .ok (.aload_n 0, 1) := dq_42 (by decide +kernel)
theorem dX12_joins_5 : decode cX12_joins 5 = .ok (.getfield 315, 3) := dq_180 (a := 1) (b := 59) (by decide +kernel) rfl
theorem dX12_joins_8 : decode cX12_joins 8 = .ok (.iconst 1, 1) := dq_4 (by decide +kernel)
theorem dX12_joins_9 : decode cX12_joins 9 = .ok (.isub, 1) := dq_100 (by decide +kernel)
theorem dX12_joins_10 : decode cX12_joins 10 = .ok (.laload, 1) := dq_47 (by decide +kernel)
theorem dX12_joins_11 : decode cX12_joins 11 = .ok (.lstore_n 2, 1) := dq_65 (by decide +kernel)
theorem dX12_joins_12 : decode cX12_joins 12 = .ok (.aload_n 0, 1) := dq_42 (by decide +kernel)
theorem dX12_joins_13 : decode cX12_joins 13 = .ok (.getfield 93, 3) := dq_180 (a := 0) (b := 93) (by decide +kernel) rfl
theorem dX12_joins_16 : decode cX12_joins 16 = .ok (.aload_n 0, 1) := dq_42 (by decide +kernel)
theorem dX12_joins_17 : decode cX12_joins 17 = .ok (.getfield 315, 3) := dq_180 (a := 1) (b := 59) (by decide +kernel) rfl
theorem dX12_joins_20 : decode cX12_joins 20 = .ok (.iconst 2, 1) := dq_5 (by decide +kernel)
theorem dX12_joins_21 : decode cX12_joins 21 = .ok (.isub, 1) := dq_100 (by decide +kernel)
theorem dX12_joins_22 : decode cX12_joins 22 = .ok (.laload, 1) := dq_47 (by decide +kernel)
theorem dX12_joins_23 : decode cX12_joins 23 = .ok (.lstore 4, 2) := dq_55 (a := 4) (by decide +kernel) rfl
theorem dX12_joins_25 : decode cX12_joins 25 = .ok (.aload_n 0, 1) := dq_42 (by decide +kernel)
theorem dX12_joins_26 : decode cX12_joins 26 = .ok (.dup, 1) := dq_89 (by decide +kernel)
theorem dX12_joins_27 : decode cX12_joins 27 = .ok (.getfield 315, 3) := dq_180 (a := 1) (b := 59) (by decide +kernel) rfl
theorem dX12_joins_30 : decode cX12_joins 30 = .ok (.iconst 2, 1) := dq_5 (by decide +kernel)
theorem dX12_joins_31 : decode cX12_joins 31 = .ok (.isub, 1) := dq_100 (by decide +kernel)
theorem dX12_joins_32 : decode cX12_joins 32 = .ok (.putfield 315, 3) := dq_181 (a := 1) (b := 59) (by decide +kernel) rfl
theorem dX12_joins_35 : decode cX12_joins 35 = .ok (.iload_n 1, 1) := dq_27 (by decide +kernel)
theorem dX12_joins_108 : decode cX12_joins 108 = .ok (.aload_n 0, 1) := dq_42 (by decide +kernel)
theorem dX12_joins_109 : decode cX12_joins 109 = .ok (.lload 4, 2) := dq_22 (a := 4) (by decide +kernel) rfl
theorem dX12_joins_111 : decode cX12_joins 111 = .ok (.lload_n 2, 1) := dq_32 (by decide +kernel)
theorem dX12_joins_112 : decode cX12_joins 112 = .ok (.ladd, 1) := dq_97 (by decide +kernel)
theorem dX12_joins_113 : decode cX12_joins 113 = .ok (.invokestatic 318, 3) := dq_184 (a := 1) (b := 62) (by decide +kernel) rfl
theorem dX12_clip_0 : decode cX12_clip 0 = .ok (.lload_n 0, 1) := dq_30 (by decide +kernel)
theorem dX12_clip_1 : decode cX12_clip 1 = .ok (.ldc2_w 311, 3) := dq_20 (a := 1) (b := 55) (by decide +kernel) rfl
theorem dX12_clip_4 : decode cX12_clip 4 = .ok (.lcmp, 1) := dq_148 (by decide +kernel)
theorem dX12_clip_5 : decode cX12_clip 5 = .ok (.ifCond .le 9, 3) := dq_158 (a := 0) (b := 9) (by decide +kernel) (by decide +kernel)
theorem dX12_clip_14 : decode cX12_clip 14 = .ok (.lload_n 0, 1) := dq_30 (by decide +kernel)
theorem dX12_clip_15 : decode cX12_clip 15 = .ok (.ldc2_w 313, 3) := dq_20 (a := 1) (b := 57) (by decide +kernel) rfl
theorem dX12_clip_18 : decode cX12_clip 18 = .ok (.lcmp, 1) := dq_148 (by decide +kernel)
theorem dX12_clip_19 : decode cX12_clip 19 = .ok (.ifCond .ge 9, 3) := dq_156 (a := 0) (b := 9) (by decide +kernel) (by decide +kernel)
theorem dX12_clip_28 : decode cX12_clip 28 = .ok (.lload_n 0, 1) := dq_30 (by decide +kernel)
theorem dX12_clip_29 : decode cX12_clip 29 = .ok (.lreturn, 1) := dq_173 (by decide +kernel)
theorem dX12_clip_22 : decode cX12_clip 22 = .ok (.ldc2_w 313, 3) := dq_20 (a := 1) (b := 57) (by decide +kernel) rfl
theorem dX12_clip_25 : decode cX12_clip 25 = .ok (.goto 4, 3) := dq_167 (a := 0) (b := 4) (by decide +kernel) (by decide +kernel)
theorem dX12_clip_8 : decode cX12_clip 8 = .ok (.ldc2_w 311, 3) := dq_20 (a := 1) (b := 55) (by decide +kernel) rfl
theorem dX12_clip_11 : decode cX12_clip 11 = .ok (.goto 18, 3) := dq_167 (a := 0) (b := 18) (by decide +kernel) (by decide +kernel)
theorem dX12_joins_116 : decode cX12_joins 116 = .ok (.invokevirtual 322, 3) := dq_182 (a := 1) (b := 66) (by decide +kernel) rfl
theorem dX12_puts_0 : decode cX12_puts 0 = .ok (.aload_n 0, 1) := dq_42 (by decide +kernel)
theorem dX12_puts_1 : decode cX12_puts 1 = .ok (.getfield 93, 3) := dq_180 (a := 0) (b := 93) (by decide +kernel) rfl
theorem dX12_puts_4 : decode cX12_puts 4 = .ok (.aload_n 0, 1) := dq_42 (by decide +kernel)
theorem dX12_puts_5 : decode cX12_puts 5 = .ok (.getfield 315, 3) := dq_180 (a := 1) (b := 59) (by decide +kernel) rfl
theorem dX12_puts_8 : decode cX12_puts 8 = .ok (.lload_n 1, 1) := dq_31 (by decide +kernel)
theorem dX12_puts_9 : decode cX12_puts 9 = .ok (.lastore, 1) := dq_80 (by decide +kernel)
theorem dX12_puts_10 : decode cX12_puts 10 = .ok (.aload_n 0, 1) := dq_42 (by decide +kernel)
theorem dX12_puts_11 : decode cX12_puts 11 = .ok (.dup, 1) := dq_89 (by decide +kernel)
theorem dX12_puts_12 : decode cX12_puts 12 = .ok (.getfield 315, 3) := dq_180 (a := 1) (b := 59) (by decide +kernel) rfl
theorem dX12_puts_15 : decode cX12_puts 15 = .ok (.iconst 1, 1) := dq_4 (by decide +kernel)
theorem dX12_puts_16 : decode cX12_puts 16 = .ok (.iadd, 1) := dq_96 (by decide +kernel)
theorem dX12_puts_17 : decode cX12_puts 17 = .ok (.putfield 315, 3) := dq_181 (a := 1) (b := 59) (by decide +kernel) rfl
theorem dX12_puts_20 : decode cX12_puts 20 = .ok (.return_, 1) := dq_177 (by decide +kernel)
theorem dX12_joins_119 : decode cX12_joins 119 = .ok (.goto 170, 3) := dq_167 (a := 0) (b := 170) (by decide +kernel) (by decide +kernel)
theorem dX12_joins_289 : decode cX12_joins 289 = .ok (.return_, 1) := dq_177 (by decide +kernel)
theorem dX12_joins_122 : decode cX12_joins 122 = .ok (.aload_n 0, 1) := dq_42 (by decide +kernel)
theorem dX12_joins_123 : decode cX12_joins 123 = .ok (.lload 4, 2) := dq_22 (a := 4) (by decide +kernel) rfl
theorem dX12_joins_125 : decode cX12_joins 125 = .ok (.lload_n 2, 1) := dq_32 (by decide +kernel)
theorem dX12_joins_126 : decode cX12_joins 126 = .ok (.lsub, 1) := dq_101 (by decide +kernel)
theorem dX12_joins_127 : decode cX12_joins 127 = .ok (.invokestatic 318, 3) := dq_184 (a := 1) (b := 62) (by decide +kernel) rfl
theorem dX12_joins_130 : decode cX12_joins 130 = .ok (.invokevirtual 322, 3) := dq_182 (a := 1) (b := 66) (by decide +kernel) rfl
theorem dX12_joins_133 : decode cX12_joins 133 = .ok (.goto 156, 3) := dq_167 (a := 0) (b := 156) (by decide +kernel) (by decide +kernel)
theorem dX12_joins_136 : decode cX12_joins 136 = .ok (.aload_n 0, 1) := dq_42 (by decide +kernel)
theorem dX12_joins_137 : decode cX12_joins 137 = .ok (.lload 4, 2) := dq_22 (a := 4) (by decide +kernel) rfl
theorem dX12_joins_139 : decode cX12_joins 139 = .ok (.lload_n 2, 1) := dq_32 (by decide +kernel)
theorem dX12_joins_140 : decode cX12_joins 140 = .ok (.lmul, 1) := dq_105 (by decide +kernel)
theorem dX12_joins_141 : decode cX12_joins 141 = .ok (.invokestatic 318, 3) := dq_184 (a := 1) (b := 62) (by decide +kernel) rfl
theorem dX12_joins_144 : decode cX12_joins 144 = .ok (.invokevirtual 322, 3) := dq_182 (a := 1) (b := 66) (by decide +kernel) rfl
theorem dX12_joins_147 : decode cX12_joins 147 = .ok (.goto 142, 3) := dq_167 (a := 0) (b := 142) (by decide +kernel) (by decide +kernel)
theorem dX12_joins_150 : decode cX12_joins 150 = .ok (.aload_n 0, 1) := dq_42 (by decide +kernel)
theorem dX12_joins_151 : decode cX12_joins 151 = .ok (.lload 4, 2) := dq_22 (a := 4) (by decide +kernel) rfl
theorem dX12_joins_153 : decode cX12_joins 153 = .ok (.lload_n 2, 1) := dq_32 (by decide +kernel)
theorem dX12_joins_154 : decode cX12_joins 154 = .ok (.invokestatic 326, 3) := dq_184 (a := 1) (b := 70) (by decide +kernel) rfl
theorem dX12_floor_0 : decode cX12_floor 0 = .ok (.lload_n 2, 1) := dq_32 (by decide +kernel)
theorem dX12_floor_1 : decode cX12_floor 1 = .ok (.lconst 0, 1) := dq_9 (by decide +kernel)
theorem dX12_floor_2 : decode cX12_floor 2 = .ok (.lcmp, 1) := dq_148 (by decide +kernel)
theorem dX12_floor_3 : decode cX12_floor 3 = .ok (.ifCond .ne 5, 3) := dq_154 (a := 0) (b := 5) (by decide +kernel) (by decide +kernel)
theorem dX12_floor_8 : decode cX12_floor 8 = .ok (.lload_n 0, 1) := dq_30 (by decide +kernel)
theorem dX12_floor_9 : decode cX12_floor 9 = .ok (.lload_n 2, 1) := dq_32 (by decide +kernel)
theorem dX12_floor_10 : decode cX12_floor 10 = .ok (.ldiv, 1) := dq_109 (by decide +kernel)
theorem dX12_floor_11 : decode cX12_floor 11 = .ok (.lstore 4, 2) := dq_55 (a := 4) (by decide +kernel) rfl
theorem dX12_floor_13 : decode cX12_floor 13 = .ok (.lload_n 0, 1) := dq_30 (by decide +kernel)
theorem dX12_floor_14 : decode cX12_floor 14 = .ok (.lload_n 2, 1) := dq_32 (by decide +kernel)
theorem dX12_floor_15 : decode cX12_floor 15 = .ok (.lrem, 1) := dq_113 (by decide +kernel)
theorem dX12_floor_16 : decode cX12_floor 16 = .ok (.lconst 0, 1) := dq_9 (by decide +kernel)
theorem dX12_floor_17 : decode cX12_floor 17 = .ok (.lcmp, 1) := dq_148 (by decide +kernel)
theorem dX12_floor_18 : decode cX12_floor 18 = .ok (.ifCond .eq 35, 3) := dq_153 (a := 0) (b := 35) (by decide +kernel) (by decide +kernel)
theorem dX12_floor_53 : decode cX12_floor 53 = .ok (.lload 4, 2) := dq_22 (a := 4) (by decide +kernel) rfl
theorem dX12_floor_55 : decode cX12_floor 55 = .ok (.lreturn, 1) := dq_173 (by decide +kernel)
theorem dX12_floor_21 : decode cX12_floor 21 = .ok (.lload_n 0, 1) := dq_30 (by decide +kernel)
theorem dX12_floor_22 : decode cX12_floor 22 = .ok (.lconst 0, 1) := dq_9 (by decide +kernel)
theorem dX12_floor_23 : decode cX12_floor 23 = .ok (.lcmp, 1) := dq_148 (by decide +kernel)
theorem dX12_floor_24 : decode cX12_floor 24 = .ok (.ifCond .ge 7, 3) := dq_156 (a := 0) (b := 7) (by decide +kernel) (by decide +kernel)
theorem dX12_floor_31 : decode cX12_floor 31 = .ok (.iconst 0, 1) := dq_3 (by decide +kernel)
theorem dX12_floor_32 : decode cX12_floor 32 = .ok (.lload_n 2, 1) := dq_32 (by decide +kernel)
theorem dX12_floor_33 : decode cX12_floor 33 = .ok (.lconst 0, 1) := dq_9 (by decide +kernel)
theorem dX12_floor_34 : decode cX12_floor 34 = .ok (.lcmp, 1) := dq_148 (by decide +kernel)
theorem dX12_floor_35 : decode cX12_floor 35 = .ok (.ifCond .ge 7, 3) := dq_156 (a := 0) (b := 7) (by decide +kernel) (by decide +kernel)
theorem dX12_floor_42 : decode cX12_floor 42 = .ok (.iconst 0, 1) := dq_3 (by decide +kernel)
theorem dX12_floor_43 : decode cX12_floor 43 = .ok (.if_icmp .eq 10, 3) := dq_159 (a := 0) (b := 10) (by decide +kernel) (by decide +kernel)
theorem dX12_floor_38 : decode cX12_floor 38 = .ok (.iconst 1, 1) := dq_4 (by decide +kernel)
theorem dX12_floor_39 : decode cX12_floor 39 = .ok (.goto 4, 3) := dq_167 (a := 0) (b := 4) (by decide +kernel) (by decide +kernel)
theorem dX12_floor_46 : decode cX12_floor 46 = .ok (.lload 4, 2) := dq_22 (a := 4) (by decide +kernel) rfl
theorem dX12_floor_48 : decode cX12_floor 48 = .ok (.lconst 1, 1) := dq_10 (by decide +kernel)
theorem dX12_floor_49 : decode cX12_floor 49 = .ok (.lsub, 1) := dq_101 (by decide +kernel)
theorem dX12_floor_50 : decode cX12_floor 50 = .ok (.goto 5, 3) := dq_167 (a := 0) (b := 5) (by decide +kernel) (by decide +kernel)
theorem dX12_floor_27 : decode cX12_floor 27 = .ok (.iconst 1, 1) := dq_4 (by decide +kernel)
theorem dX12_floor_28 : decode cX12_floor 28 = .ok (.goto 4, 3) := dq_167 (a := 0) (b := 4) (by decide +kernel) (by decide +kernel)
theorem dX12_floor_6 : decode cX12_floor 6 = .ok (.lconst 0, 1) := dq_9 (by decide +kernel)
theorem dX12_floor_7 : decode cX12_floor 7 = .ok (.lreturn, 1) := dq_173 (by decide +kernel)
theorem dX12_joins_157 : decode cX12_joins 157 = .ok (.invokevirtual 322, 3) := dq_182 (a := 1) (b := 66) (by decide +kernel) rfl
theorem dX12_joins_160 : decode cX12_joins 160 = .ok (.goto 129, 3) := dq_167 (a := 0) (b := 129) (by decide +kernel) (by decide +kernel)
theorem dX12_joins_163 : decode cX12_joins 163 = .ok (.aload_n 0, 1) := dq_42 (by decide +kernel)
theorem dX12_joins_164 : decode cX12_joins 164 = .ok (.lload 4, 2) := dq_22 (a := 4) (by decide +kernel) rfl
theorem dX12_joins_166 : decode cX12_joins 166 = .ok (.lload_n 2, 1) := dq_32 (by decide +kernel)
theorem dX12_joins_167 : decode cX12_joins 167 = .ok (.lcmp, 1) := dq_148 (by decide +kernel)
theorem dX12_joins_168 : decode cX12_joins 168 = .ok (.ifCond .ge 8, 3) := dq_156 (a := 0) (b := 8) (by decide +kernel) (by decide +kernel)
theorem dX12_joins_176 : decode cX12_joins 176 = .ok (.lload_n 2, 1) := dq_32 (by decide +kernel)
theorem dX12_joins_177 : decode cX12_joins 177 = .ok (.invokevirtual 322, 3) := dq_182 (a := 1) (b := 66) (by decide +kernel) rfl
theorem dX12_joins_180 : decode cX12_joins 180 = .ok (.goto 109, 3) := dq_167 (a := 0) (b := 109) (by decide +kernel) (by decide +kernel)
theorem dX12_joins_171 : decode cX12_joins 171 = .ok (.lload 4, 2) := dq_22 (a := 4) (by decide +kernel) rfl
theorem dX12_joins_173 : decode cX12_joins 173 = .ok (.goto 4, 3) := dq_167 (a := 0) (b := 4) (by decide +kernel) (by decide +kernel)
theorem dX12_joins_183 : decode cX12_joins 183 = .ok (.aload_n 0, 1) := dq_42 (by decide +kernel)
theorem dX12_joins_184 : decode cX12_joins 184 = .ok (.lload 4, 2) := dq_22 (a := 4) (by decide +kernel) rfl
theorem dX12_joins_186 : decode cX12_joins 186 = .ok (.lload_n 2, 1) := dq_32 (by decide +kernel)
theorem dX12_joins_187 : decode cX12_joins 187 = .ok (.lcmp, 1) := dq_148 (by decide +kernel)
theorem dX12_joins_188 : decode cX12_joins 188 = .ok (.ifCond .le 8, 3) := dq_158 (a := 0) (b := 8) (by decide +kernel) (by decide +kernel)
theorem dX12_joins_196 : decode cX12_joins 196 = .ok (.lload_n 2, 1) := dq_32 (by decide +kernel)
theorem dX12_joins_197 : decode cX12_joins 197 = .ok (.invokevirtual 322, 3) := dq_182 (a := 1) (b := 66) (by decide +kernel) rfl
theorem dX12_joins_200 : decode cX12_joins 200 = .ok (.goto 89, 3) := dq_167 (a := 0) (b := 89) (by decide +kernel) (by decide +kernel)
theorem dX12_joins_191 : decode cX12_joins 191 = .ok (.lload 4, 2) := dq_22 (a := 4) (by decide +kernel) rfl
theorem dX12_joins_193 : decode cX12_joins 193 = .ok (.goto 4, 3) := dq_167 (a := 0) (b := 4) (by decide +kernel) (by decide +kernel)
theorem dX12_joins_271 : decode cX12_joins 271 = .ok (.aload_n 0, 1) := dq_42 (by decide +kernel)
theorem dX12_joins_272 : decode cX12_joins 272 = .ok (.lload 4, 2) := dq_22 (a := 4) (by decide +kernel) rfl
theorem dX12_joins_274 : decode cX12_joins 274 = .ok (.lload_n 2, 1) := dq_32 (by decide +kernel)
theorem dX12_joins_275 : decode cX12_joins 275 = .ok (.ladd, 1) := dq_97 (by decide +kernel)
theorem dX12_joins_276 : decode cX12_joins 276 = .ok (.lconst 0, 1) := dq_9 (by decide +kernel)
theorem dX12_joins_277 : decode cX12_joins 277 = .ok (.lcmp, 1) := dq_148 (by decide +kernel)
theorem dX12_joins_278 : decode cX12_joins 278 = .ok (.ifCond .le 7, 3) := dq_158 (a := 0) (b := 7) (by decide +kernel) (by decide +kernel)
theorem dX12_joins_285 : decode cX12_joins 285 = .ok (.lconst 0, 1) := dq_9 (by decide +kernel)
theorem dX12_joins_286 : decode cX12_joins 286 = .ok (.invokevirtual 322, 3) := dq_182 (a := 1) (b := 66) (by decide +kernel) rfl
theorem dX12_joins_281 : decode cX12_joins 281 = .ok (.lconst 1, 1) := dq_10 (by decide +kernel)
theorem dX12_joins_282 : decode cX12_joins 282 = .ok (.goto 4, 3) := dq_167 (a := 0) (b := 4) (by decide +kernel) (by decide +kernel)
theorem dX12_joins_203 : decode cX12_joins 203 = .ok (.aload_n 0, 1) := dq_42 (by decide +kernel)
theorem dX12_joins_204 : decode cX12_joins 204 = .ok (.lload 4, 2) := dq_22 (a := 4) (by decide +kernel) rfl
theorem dX12_joins_206 : decode cX12_joins 206 = .ok (.lload_n 2, 1) := dq_32 (by decide +kernel)
theorem dX12_joins_207 : decode cX12_joins 207 = .ok (.lcmp, 1) := dq_148 (by decide +kernel)
theorem dX12_joins_208 : decode cX12_joins 208 = .ok (.ifCond .ge 7, 3) := dq_156 (a := 0) (b := 7) (by decide +kernel) (by decide +kernel)
theorem dX12_joins_215 : decode cX12_joins 215 = .ok (.lconst 0, 1) := dq_9 (by decide +kernel)
theorem dX12_joins_216 : decode cX12_joins 216 = .ok (.invokevirtual 322, 3) := dq_182 (a := 1) (b := 66) (by decide +kernel) rfl
theorem dX12_joins_219 : decode cX12_joins 219 = .ok (.goto 70, 3) := dq_167 (a := 0) (b := 70) (by decide +kernel) (by decide +kernel)
theorem dX12_joins_211 : decode cX12_joins 211 = .ok (.lconst 1, 1) := dq_10 (by decide +kernel)
theorem dX12_joins_212 : decode cX12_joins 212 = .ok (.goto 4, 3) := dq_167 (a := 0) (b := 4) (by decide +kernel) (by decide +kernel)
theorem dX12_joins_222 : decode cX12_joins 222 = .ok (.aload_n 0, 1) := dq_42 (by decide +kernel)
theorem dX12_joins_223 : decode cX12_joins 223 = .ok (.lload 4, 2) := dq_22 (a := 4) (by decide +kernel) rfl
theorem dX12_joins_225 : decode cX12_joins 225 = .ok (.lload_n 2, 1) := dq_32 (by decide +kernel)
theorem dX12_joins_226 : decode cX12_joins 226 = .ok (.lcmp, 1) := dq_148 (by decide +kernel)
theorem dX12_joins_227 : decode cX12_joins 227 = .ok (.ifCond .le 7, 3) := dq_158 (a := 0) (b := 7) (by decide +kernel) (by decide +kernel)
theorem dX12_joins_234 : decode cX12_joins 234 = .ok (.lconst 0, 1) := dq_9 (by decide +kernel)
theorem dX12_joins_235 : decode cX12_joins 235 = .ok (.invokevirtual 322, 3) := dq_182 (a := 1) (b := 66) (by decide +kernel) rfl
theorem dX12_joins_238 : decode cX12_joins 238 = .ok (.goto 51, 3) := dq_167 (a := 0) (b := 51) (by decide +kernel) (by decide +kernel)
theorem dX12_joins_230 : decode cX12_joins 230 = .ok (.lconst 1, 1) := dq_10 (by decide +kernel)
theorem dX12_joins_231 : decode cX12_joins 231 = .ok (.goto 4, 3) := dq_167 (a := 0) (b := 4) (by decide +kernel) (by decide +kernel)
theorem dX12_joins_241 : decode cX12_joins 241 = .ok (.aload_n 0, 1) := dq_42 (by decide +kernel)
theorem dX12_joins_242 : decode cX12_joins 242 = .ok (.lload 4, 2) := dq_22 (a := 4) (by decide +kernel) rfl
theorem dX12_joins_244 : decode cX12_joins 244 = .ok (.lload_n 2, 1) := dq_32 (by decide +kernel)
theorem dX12_joins_245 : decode cX12_joins 245 = .ok (.lcmp, 1) := dq_148 (by decide +kernel)
theorem dX12_joins_246 : decode cX12_joins 246 = .ok (.ifCond .ne 7, 3) := dq_154 (a := 0) (b := 7) (by decide +kernel) (by decide +kernel)
theorem dX12_joins_253 : decode cX12_joins 253 = .ok (.lconst 0, 1) := dq_9 (by decide +kernel)
theorem dX12_joins_254 : decode cX12_joins 254 = .ok (.invokevirtual 322, 3) := dq_182 (a := 1) (b := 66) (by decide +kernel) rfl
theorem dX12_joins_257 : decode cX12_joins 257 = .ok (.goto 32, 3) := dq_167 (a := 0) (b := 32) (by decide +kernel) (by decide +kernel)
theorem dX12_joins_249 : decode cX12_joins 249 = .ok (.lconst 1, 1) := dq_10 (by decide +kernel)
theorem dX12_joins_250 : decode cX12_joins 250 = .ok (.goto 4, 3) := dq_167 (a := 0) (b := 4) (by decide +kernel) (by decide +kernel)
theorem dX12_joins_260 : decode cX12_joins 260 = .ok (.aload_n 0, 1) := dq_42 (by decide +kernel)
theorem dX12_joins_261 : decode cX12_joins 261 = .ok (.lload 4, 2) := dq_22 (a := 4) (by decide +kernel) rfl
theorem dX12_joins_263 : decode cX12_joins 263 = .ok (.lload_n 2, 1) := dq_32 (by decide +kernel)
theorem dX12_joins_264 : decode cX12_joins 264 = .ok (.lmul, 1) := dq_105 (by decide +kernel)
theorem dX12_joins_265 : decode cX12_joins 265 = .ok (.invokevirtual 322, 3) := dq_182 (a := 1) (b := 66) (by decide +kernel) rfl
theorem dX12_joins_268 : decode cX12_joins 268 = .ok (.goto 21, 3) := dq_167 (a := 0) (b := 21) (by decide +kernel) (by decide +kernel)
theorem dX12_told_161 : decode cX12_told 161 = .ok (.iinc 4 1, 3) := dq_132 (a := 4) (b := 1) (by decide +kernel) rfl (by decide +kernel)
theorem dX12_told_164 : decode cX12_told 164 = .ok (.goto (-156), 3) := dq_167 (a := 255) (b := 100) (by decide +kernel) (by decide +kernel)
theorem dX12_told_109 : decode cX12_told 109 = .ok (.aload_n 0, 1) := dq_42 (by decide +kernel)
theorem dX12_told_110 : decode cX12_told 110 = .ok (.iload 5, 2) := dq_21 (a := 5) (by decide +kernel) rfl
theorem dX12_told_112 : decode cX12_told 112 = .ok (.bipush 7, 2) := dq_16 (a := 7) (by decide +kernel) (by decide +kernel)
theorem dX12_told_114 : decode cX12_told 114 = .ok (.if_icmp .ne 8, 3) := dq_160 (a := 0) (b := 8) (by decide +kernel) (by decide +kernel)
theorem dX12_told_122 : decode cX12_told 122 = .ok (.iload 5, 2) := dq_21 (a := 5) (by decide +kernel) rfl
theorem dX12_told_124 : decode cX12_told 124 = .ok (.bipush 8, 2) := dq_16 (a := 8) (by decide +kernel) (by decide +kernel)
theorem dX12_told_126 : decode cX12_told 126 = .ok (.if_icmp .ne 17, 3) := dq_160 (a := 0) (b := 17) (by decide +kernel) (by decide +kernel)
theorem dX12_told_143 : decode cX12_told 143 = .ok (.aload_n 0, 1) := dq_42 (by decide +kernel)
theorem dX12_told_144 : decode cX12_told 144 = .ok (.iload_n 3, 1) := dq_29 (by decide +kernel)
theorem dX12_told_145 : decode cX12_told 145 = .ok (.invokevirtual 338, 3) := dq_182 (a := 1) (b := 82) (by decide +kernel) rfl
theorem dX12_peak_0 : decode cX12_peak 0 = .ok (.iconst 0, 1) := dq_3 (by decide +kernel)
theorem dX12_peak_1 : decode cX12_peak 1 = .ok (.istore_n 2, 1) := dq_61 (by decide +kernel)
theorem dX12_peak_2 : decode cX12_peak 2 = .ok (.iconst 0, 1) := dq_3 (by decide +kernel)
theorem dX12_peak_3 : decode cX12_peak 3 = .ok (.istore_n 3, 1) := dq_62 (by decide +kernel)
theorem dX12_peak_4 : decode cX12_peak 4 = .ok (.iload_n 3, 1) := dq_29 (by decide +kernel)
theorem dX12_peak_5 : decode cX12_peak 5 = .ok (.aload_n 0, 1) := dq_42 (by decide +kernel)
theorem dX12_peak_6 : decode cX12_peak 6 = .ok (.getfield 240, 3) := dq_180 (a := 0) (b := 240) (by decide +kernel) rfl
theorem dX12_peak_9 : decode cX12_peak 9 = .ok (.if_icmp .ge 49, 3) := dq_162 (a := 0) (b := 49) (by decide +kernel) (by decide +kernel)
theorem dX12_peak_58 : decode cX12_peak 58 = .ok (.iload_n 2, 1) := dq_28 (by decide +kernel)
theorem dX12_peak_59 : decode cX12_peak 59 = .ok (.ireturn, 1) := dq_172 (by decide +kernel)
theorem dX12_peak_12 : decode cX12_peak 12 = .ok (.aload_n 0, 1) := dq_42 (by decide +kernel)
theorem dX12_peak_13 : decode cX12_peak 13 = .ok (.getfield 69, 3) := dq_180 (a := 0) (b := 69) (by decide +kernel) rfl
theorem dX12_peak_16 : decode cX12_peak 16 = .ok (.iconst 5, 1) := dq_8 (by decide +kernel)
theorem dX12_peak_17 : decode cX12_peak 17 = .ok (.iload_n 3, 1) := dq_29 (by decide +kernel)
theorem dX12_peak_18 : decode cX12_peak 18 = .ok (.imul, 1) := dq_104 (by decide +kernel)
theorem dX12_peak_19 : decode cX12_peak 19 = .ok (.iload_n 1, 1) := dq_27 (by decide +kernel)
theorem dX12_peak_20 : decode cX12_peak 20 = .ok (.iadd, 1) := dq_96 (by decide +kernel)
theorem dX12_peak_21 : decode cX12_peak 21 = .ok (.iaload, 1) := dq_46 (by decide +kernel)
theorem dX12_peak_22 : decode cX12_peak 22 = .ok (.istore 4, 2) := dq_54 (a := 4) (by decide +kernel) rfl
theorem dX12_peak_24 : decode cX12_peak 24 = .ok (.iload 4, 2) := dq_21 (a := 4) (by decide +kernel) rfl
theorem dX12_peak_26 : decode cX12_peak 26 = .ok (.ifCond .ge 9, 3) := dq_156 (a := 0) (b := 9) (by decide +kernel) (by decide +kernel)
theorem dX12_peak_35 : decode cX12_peak 35 = .ok (.iload 4, 2) := dq_21 (a := 4) (by decide +kernel) rfl
theorem dX12_peak_37 : decode cX12_peak 37 = .ok (.istore 4, 2) := dq_54 (a := 4) (by decide +kernel) rfl
theorem dX12_peak_39 : decode cX12_peak 39 = .ok (.iload 4, 2) := dq_21 (a := 4) (by decide +kernel) rfl
theorem dX12_peak_41 : decode cX12_peak 41 = .ok (.iload_n 2, 1) := dq_28 (by decide +kernel)
theorem dX12_peak_42 : decode cX12_peak 42 = .ok (.if_icmp .le 8, 3) := dq_164 (a := 0) (b := 8) (by decide +kernel) (by decide +kernel)
theorem dX12_peak_50 : decode cX12_peak 50 = .ok (.iload_n 2, 1) := dq_28 (by decide +kernel)
theorem dX12_peak_51 : decode cX12_peak 51 = .ok (.istore_n 2, 1) := dq_61 (by decide +kernel)
theorem dX12_peak_52 : decode cX12_peak 52 = .ok (.iinc 3 1, 3) := dq_132 (a := 3) (b := 1) (by decide +kernel) rfl (by decide +kernel)
theorem dX12_peak_55 : decode cX12_peak 55 = .ok (.goto (-51), 3) := dq_167 (a := 255) (b := 205) (by decide +kernel) (by decide +kernel)
theorem dX12_peak_45 : decode cX12_peak 45 = .ok (.iload 4, 2) := dq_21 (a := 4) (by decide +kernel) rfl
theorem dX12_peak_47 : decode cX12_peak 47 = .ok (.goto 4, 3) := dq_167 (a := 0) (b := 4) (by decide +kernel) (by decide +kernel)
theorem dX12_peak_29 : decode cX12_peak 29 = .ok (.iload 4, 2) := dq_21 (a := 4) (by decide +kernel) rfl
theorem dX12_peak_31 : decode cX12_peak 31 = .ok (.ineg, 1) := dq_116 (by decide +kernel)
theorem dX12_peak_32 : decode cX12_peak 32 = .ok (.goto 5, 3) := dq_167 (a := 0) (b := 5) (by decide +kernel) (by decide +kernel)
theorem dX12_told_148 : decode cX12_told 148 = .ok (.i2l, 1) := dq_133 (by decide +kernel)
theorem dX12_told_149 : decode cX12_told 149 = .ok (.invokevirtual 322, 3) := dq_182 (a := 1) (b := 66) (by decide +kernel) rfl
theorem dX12_told_152 : decode cX12_told 152 = .ok (.goto 9, 3) := dq_167 (a := 0) (b := 9) (by decide +kernel) (by decide +kernel)
theorem dX12_told_129 : decode cX12_told 129 = .ok (.aload_n 0, 1) := dq_42 (by decide +kernel)
theorem dX12_told_130 : decode cX12_told 130 = .ok (.iload_n 3, 1) := dq_29 (by decide +kernel)
theorem dX12_told_131 : decode cX12_told 131 = .ok (.iload_n 3, 1) := dq_29 (by decide +kernel)
theorem dX12_told_132 : decode cX12_told 132 = .ok (.aload_n 0, 1) := dq_42 (by decide +kernel)
theorem dX12_told_133 : decode cX12_told 133 = .ok (.getfield 69, 3) := dq_180 (a := 0) (b := 69) (by decide +kernel) rfl
theorem dX12_told_136 : decode cX12_told 136 = .ok (.invokevirtual 334, 3) := dq_182 (a := 1) (b := 78) (by decide +kernel) rfl
theorem dX12_told_139 : decode cX12_told 139 = .ok (.i2l, 1) := dq_133 (by decide +kernel)
theorem dX12_told_140 : decode cX12_told 140 = .ok (.goto 9, 3) := dq_167 (a := 0) (b := 9) (by decide +kernel) (by decide +kernel)
theorem dX12_told_117 : decode cX12_told 117 = .ok (.iload_n 3, 1) := dq_29 (by decide +kernel)
theorem dX12_told_118 : decode cX12_told 118 = .ok (.i2l, 1) := dq_133 (by decide +kernel)
theorem dX12_told_119 : decode cX12_told 119 = .ok (.goto 30, 3) := dq_167 (a := 0) (b := 30) (by decide +kernel) (by decide +kernel)
theorem dX12_told_67 : decode cX12_told 67 = .ok (.aload_n 0, 1) := dq_42 (by decide +kernel)
theorem dX12_told_68 : decode cX12_told 68 = .ok (.getfield 93, 3) := dq_180 (a := 0) (b := 93) (by decide +kernel) rfl
theorem dX12_told_71 : decode cX12_told 71 = .ok (.aload_n 0, 1) := dq_42 (by decide +kernel)
theorem dX12_told_72 : decode cX12_told 72 = .ok (.getfield 315, 3) := dq_180 (a := 1) (b := 59) (by decide +kernel) rfl
theorem dX12_told_75 : decode cX12_told 75 = .ok (.iconst 1, 1) := dq_4 (by decide +kernel)
theorem dX12_told_76 : decode cX12_told 76 = .ok (.isub, 1) := dq_100 (by decide +kernel)
theorem dX12_told_77 : decode cX12_told 77 = .ok (.lconst 1, 1) := dq_10 (by decide +kernel)
theorem dX12_told_78 : decode cX12_told 78 = .ok (.aload_n 0, 1) := dq_42 (by decide +kernel)
theorem dX12_told_79 : decode cX12_told 79 = .ok (.getfield 93, 3) := dq_180 (a := 0) (b := 93) (by decide +kernel) rfl
theorem dX12_told_82 : decode cX12_told 82 = .ok (.aload_n 0, 1) := dq_42 (by decide +kernel)
theorem dX12_told_83 : decode cX12_told 83 = .ok (.getfield 315, 3) := dq_180 (a := 1) (b := 59) (by decide +kernel) rfl
theorem dX12_told_86 : decode cX12_told 86 = .ok (.iconst 1, 1) := dq_4 (by decide +kernel)
theorem dX12_told_87 : decode cX12_told 87 = .ok (.isub, 1) := dq_100 (by decide +kernel)
theorem dX12_told_88 : decode cX12_told 88 = .ok (.laload, 1) := dq_47 (by decide +kernel)
theorem dX12_told_89 : decode cX12_told 89 = .ok (.lsub, 1) := dq_101 (by decide +kernel)
theorem dX12_told_90 : decode cX12_told 90 = .ok (.lastore, 1) := dq_80 (by decide +kernel)
theorem dX12_told_91 : decode cX12_told 91 = .ok (.goto 70, 3) := dq_167 (a := 0) (b := 70) (by decide +kernel) (by decide +kernel)
theorem dX12_told_52 : decode cX12_told 52 = .ok (.aload_n 0, 1) := dq_42 (by decide +kernel)
theorem dX12_told_53 : decode cX12_told 53 = .ok (.lconst 1, 1) := dq_10 (by decide +kernel)
theorem dX12_told_54 : decode cX12_told 54 = .ok (.invokevirtual 322, 3) := dq_182 (a := 1) (b := 66) (by decide +kernel) rfl
theorem dX12_told_57 : decode cX12_told 57 = .ok (.goto 104, 3) := dq_167 (a := 0) (b := 104) (by decide +kernel) (by decide +kernel)
theorem dX12_told_31 : decode cX12_told 31 = .ok (.aload_n 0, 1) := dq_42 (by decide +kernel)
theorem dX12_told_32 : decode cX12_told 32 = .ok (.iload 5, 2) := dq_21 (a := 5) (by decide +kernel) rfl
theorem dX12_told_34 : decode cX12_told 34 = .ok (.sipush 1000, 3) := dq_17 (a := 3) (b := 232) (by decide +kernel) (by decide +kernel)
theorem dX12_told_37 : decode cX12_told 37 = .ok (.isub, 1) := dq_100 (by decide +kernel)
theorem dX12_told_38 : decode cX12_told 38 = .ok (.i2l, 1) := dq_133 (by decide +kernel)
theorem dX12_told_39 : decode cX12_told 39 = .ok (.invokevirtual 322, 3) := dq_182 (a := 1) (b := 66) (by decide +kernel) rfl
theorem dX12_told_42 : decode cX12_told 42 = .ok (.goto 119, 3) := dq_167 (a := 0) (b := 119) (by decide +kernel) (by decide +kernel)
theorem dX12_worthOf_29 : decode cX12_worthOf 29 = .ok (.lconst 1, 1) := dq_10 (by decide +kernel)
theorem dX12_worthOf_30 : decode cX12_worthOf 30 = .ok (.lcmp, 1) := dq_148 (by decide +kernel)
theorem dX12_worthOf_31 : decode cX12_worthOf 31 = .ok (.ifCond .ne 22, 3) := dq_154 (a := 0) (b := 22) (by decide +kernel) (by decide +kernel)
theorem dX12_worthOf_53 : decode cX12_worthOf 53 = .ok (.iinc 2 1, 3) := dq_132 (a := 2) (b := 1) (by decide +kernel) rfl (by decide +kernel)
theorem dX12_worthOf_56 : decode cX12_worthOf 56 = .ok (.goto (-54), 3) := dq_167 (a := 255) (b := 202) (by decide +kernel) (by decide +kernel)
theorem dX12_worthOf_34 : decode cX12_worthOf 34 = .ok (.aload_n 0, 1) := dq_42 (by decide +kernel)
theorem dX12_worthOf_35 : decode cX12_worthOf 35 = .ok (.aload_n 0, 1) := dq_42 (by decide +kernel)
theorem dX12_worthOf_36 : decode cX12_worthOf 36 = .ok (.getfield 84, 3) := dq_180 (a := 0) (b := 84) (by decide +kernel) rfl
theorem dX12_worthOf_39 : decode cX12_worthOf 39 = .ok (.iload_n 2, 1) := dq_28 (by decide +kernel)
theorem dX12_worthOf_40 : decode cX12_worthOf 40 = .ok (.iaload, 1) := dq_46 (by decide +kernel)
theorem dX12_worthOf_41 : decode cX12_worthOf 41 = .ok (.aload_n 0, 1) := dq_42 (by decide +kernel)
theorem dX12_worthOf_42 : decode cX12_worthOf 42 = .ok (.getfield 87, 3) := dq_180 (a := 0) (b := 87) (by decide +kernel) rfl
theorem dX12_worthOf_45 : decode cX12_worthOf 45 = .ok (.iload_n 2, 1) := dq_28 (by decide +kernel)
theorem dX12_worthOf_46 : decode cX12_worthOf 46 = .ok (.iaload, 1) := dq_46 (by decide +kernel)
theorem dX12_worthOf_47 : decode cX12_worthOf 47 = .ok (.iload_n 1, 1) := dq_27 (by decide +kernel)
theorem dX12_worthOf_48 : decode cX12_worthOf 48 = .ok (.invokevirtual 345, 3) := dq_182 (a := 1) (b := 89) (by decide +kernel) rfl
theorem dX12_worthOf_51 : decode cX12_worthOf 51 = .ok (.l2i, 1) := dq_136 (by decide +kernel)
theorem dX12_worthOf_52 : decode cX12_worthOf 52 = .ok (.ireturn, 1) := dq_172 (by decide +kernel)
theorem dX12_worth_13 : decode cX12_worth 13 = .ok (.goto 6, 3) := dq_167 (a := 0) (b := 6) (by decide +kernel) (by decide +kernel)
theorem dX12_chosen_0 : decode cX12_chosen 0 = .ok (.iload_n 1, 1) := dq_27 (by decide +kernel)
theorem dX12_chosen_1 : decode cX12_chosen 1 = .ok (.i2l, 1) := dq_133 (by decide +kernel)
theorem dX12_chosen_2 : decode cX12_chosen 2 = .ok (.lconst 1, 1) := dq_10 (by decide +kernel)
theorem dX12_chosen_3 : decode cX12_chosen 3 = .ok (.ldc2_w 484, 3) := dq_20 (a := 1) (b := 228) (by decide +kernel) rfl
theorem dX12_chosen_6 : decode cX12_chosen 6 = .ok (.invokestatic 191, 3) := dq_184 (a := 0) (b := 191) (by decide +kernel) rfl
theorem dX12_chosen_9 : decode cX12_chosen 9 = .ok (.ifCond .eq 9, 3) := dq_153 (a := 0) (b := 9) (by decide +kernel) (by decide +kernel)
theorem dX12_chosen_18 : decode cX12_chosen 18 = .ok (.iconst (-1), 1) := dq_2 (by decide +kernel)
theorem dX12_chosen_19 : decode cX12_chosen 19 = .ok (.ireturn, 1) := dq_172 (by decide +kernel)
theorem dX12_chosen_12 : decode cX12_chosen 12 = .ok (.lload_n 2, 1) := dq_32 (by decide +kernel)
theorem dX12_chosen_13 : decode cX12_chosen 13 = .ok (.lconst 0, 1) := dq_9 (by decide +kernel)
theorem dX12_chosen_14 : decode cX12_chosen 14 = .ok (.lcmp, 1) := dq_148 (by decide +kernel)
theorem dX12_chosen_15 : decode cX12_chosen 15 = .ok (.ifCond .ge 5, 3) := dq_156 (a := 0) (b := 5) (by decide +kernel) (by decide +kernel)
theorem dX12_chosen_20 : decode cX12_chosen 20 = .ok (.iconst (-1), 1) := dq_2 (by decide +kernel)
theorem dX12_chosen_21 : decode cX12_chosen 21 = .ok (.istore 4, 2) := dq_54 (a := 4) (by decide +kernel) rfl
theorem dX12_chosen_23 : decode cX12_chosen 23 = .ok (.lconst 0, 1) := dq_9 (by decide +kernel)
theorem dX12_chosen_24 : decode cX12_chosen 24 = .ok (.lstore 5, 2) := dq_55 (a := 5) (by decide +kernel) rfl
theorem dX12_chosen_26 : decode cX12_chosen 26 = .ok (.iconst 1, 1) := dq_4 (by decide +kernel)
theorem dX12_chosen_27 : decode cX12_chosen 27 = .ok (.istore 7, 2) := dq_54 (a := 7) (by decide +kernel) rfl
theorem dX12_chosen_29 : decode cX12_chosen 29 = .ok (.iload 7, 2) := dq_21 (a := 7) (by decide +kernel) rfl
theorem dX12_chosen_31 : decode cX12_chosen 31 = .ok (.iconst 1, 1) := dq_4 (by decide +kernel)
theorem dX12_chosen_32 : decode cX12_chosen 32 = .ok (.aload_n 0, 1) := dq_42 (by decide +kernel)
theorem dX12_chosen_33 : decode cX12_chosen 33 = .ok (.getfield 237, 3) := dq_180 (a := 0) (b := 237) (by decide +kernel) rfl
theorem dX12_chosen_36 : decode cX12_chosen 36 = .ok (.ishl, 1) := dq_120 (by decide +kernel)
theorem dX12_chosen_37 : decode cX12_chosen 37 = .ok (.if_icmp .ge 117, 3) := dq_162 (a := 0) (b := 117) (by decide +kernel) (by decide +kernel)
theorem dX12_chosen_154 : decode cX12_chosen 154 = .ok (.iload 4, 2) := dq_21 (a := 4) (by decide +kernel) rfl
theorem dX12_chosen_156 : decode cX12_chosen 156 = .ok (.ireturn, 1) := dq_172 (by decide +kernel)
theorem dX12_chosen_40 : decode cX12_chosen 40 = .ok (.iload 7, 2) := dq_21 (a := 7) (by decide +kernel) rfl
theorem dX12_chosen_42 : decode cX12_chosen 42 = .ok (.invokestatic 486, 3) := dq_184 (a := 1) (b := 230) (by decide +kernel) rfl
theorem dX12_bits_0 : decode cX12_bits 0 = .ok (.iconst 0, 1) := dq_3 (by decide +kernel)
theorem dX12_bits_1 : decode cX12_bits 1 = .ok (.istore_n 1, 1) := dq_60 (by decide +kernel)
theorem dX12_bits_2 : decode cX12_bits 2 = .ok (.iload_n 0, 1) := dq_26 (by decide +kernel)
theorem dX12_bits_3 : decode cX12_bits 3 = .ok (.istore_n 2, 1) := dq_61 (by decide +kernel)
theorem dX12_bits_4 : decode cX12_bits 4 = .ok (.iload_n 2, 1) := dq_28 (by decide +kernel)
theorem dX12_bits_5 : decode cX12_bits 5 = .ok (.ifCond .eq 15, 3) := dq_153 (a := 0) (b := 15) (by decide +kernel) (by decide +kernel)
theorem dX12_bits_20 : decode cX12_bits 20 = .ok (.iload_n 1, 1) := dq_27 (by decide +kernel)
theorem dX12_bits_21 : decode cX12_bits 21 = .ok (.ireturn, 1) := dq_172 (by decide +kernel)
theorem dX12_bits_8 : decode cX12_bits 8 = .ok (.iinc 1 1, 3) := dq_132 (a := 1) (b := 1) (by decide +kernel) rfl (by decide +kernel)
theorem dX12_bits_11 : decode cX12_bits 11 = .ok (.iload_n 2, 1) := dq_28 (by decide +kernel)
theorem dX12_bits_12 : decode cX12_bits 12 = .ok (.iload_n 2, 1) := dq_28 (by decide +kernel)
theorem dX12_bits_13 : decode cX12_bits 13 = .ok (.iconst 1, 1) := dq_4 (by decide +kernel)
theorem dX12_bits_14 : decode cX12_bits 14 = .ok (.isub, 1) := dq_100 (by decide +kernel)
theorem dX12_bits_15 : decode cX12_bits 15 = .ok (.iand, 1) := dq_126 (by decide +kernel)
theorem dX12_bits_16 : decode cX12_bits 16 = .ok (.istore_n 2, 1) := dq_61 (by decide +kernel)
theorem dX12_bits_17 : decode cX12_bits 17 = .ok (.goto (-13), 3) := dq_167 (a := 255) (b := 243) (by decide +kernel) (by decide +kernel)
theorem dX12_chosen_45 : decode cX12_chosen 45 = .ok (.iload_n 1, 1) := dq_27 (by decide +kernel)
theorem dX12_chosen_46 : decode cX12_chosen 46 = .ok (.if_icmp .ne 102, 3) := dq_160 (a := 0) (b := 102) (by decide +kernel) (by decide +kernel)
theorem dX12_chosen_148 : decode cX12_chosen 148 = .ok (.iinc 7 1, 3) := dq_132 (a := 7) (b := 1) (by decide +kernel) rfl (by decide +kernel)
theorem dX12_chosen_151 : decode cX12_chosen 151 = .ok (.goto (-122), 3) := dq_167 (a := 255) (b := 134) (by decide +kernel) (by decide +kernel)
theorem dX12_chosen_49 : decode cX12_chosen 49 = .ok (.aload_n 0, 1) := dq_42 (by decide +kernel)
theorem dX12_chosen_50 : decode cX12_chosen 50 = .ok (.iload 7, 2) := dq_21 (a := 7) (by decide +kernel) rfl
theorem dX12_chosen_52 : decode cX12_chosen 52 = .ok (.iconst 2, 1) := dq_5 (by decide +kernel)
theorem dX12_chosen_53 : decode cX12_chosen 53 = .ok (.aload_n 0, 1) := dq_42 (by decide +kernel)
theorem dX12_chosen_54 : decode cX12_chosen 54 = .ok (.getfield 234, 3) := dq_180 (a := 0) (b := 234) (by decide +kernel) rfl
theorem dX12_chosen_57 : decode cX12_chosen 57 = .ok (.imul, 1) := dq_104 (by decide +kernel)
theorem dX12_chosen_58 : decode cX12_chosen 58 = .ok (.iconst 2, 1) := dq_5 (by decide +kernel)
theorem dX12_chosen_59 : decode cX12_chosen 59 = .ok (.isub, 1) := dq_100 (by decide +kernel)
theorem dX12_chosen_60 : decode cX12_chosen 60 = .ok (.iconst 2, 1) := dq_5 (by decide +kernel)
theorem dX12_chosen_61 : decode cX12_chosen 61 = .ok (.invokevirtual 457, 3) := dq_182 (a := 1) (b := 201) (by decide +kernel) rfl
theorem dX12_image_0 : decode cX12_image 0 = .ok (.aload_n 0, 1) := dq_42 (by decide +kernel)
theorem dX12_image_1 : decode cX12_image 1 = .ok (.iconst 0, 1) := dq_3 (by decide +kernel)
theorem dX12_image_2 : decode cX12_image 2 = .ok (.putfield 489, 3) := dq_181 (a := 1) (b := 233) (by decide +kernel) rfl
theorem dX12_image_5 : decode cX12_image 5 = .ok (.iconst 0, 1) := dq_3 (by decide +kernel)
theorem dX12_image_6 : decode cX12_image 6 = .ok (.istore_n 1, 1) := dq_60 (by decide +kernel)
theorem dX12_image_7 : decode cX12_image 7 = .ok (.iload_n 1, 1) := dq_27 (by decide +kernel)
theorem dX12_image_8 : decode cX12_image 8 = .ok (.aload_n 0, 1) := dq_42 (by decide +kernel)
theorem dX12_image_9 : decode cX12_image 9 = .ok (.getfield 240, 3) := dq_180 (a := 0) (b := 240) (by decide +kernel) rfl
theorem dX12_image_12 : decode cX12_image 12 = .ok (.if_icmp .ge 40, 3) := dq_162 (a := 0) (b := 40) (by decide +kernel) (by decide +kernel)
theorem dX12_image_52 : decode cX12_image 52 = .ok (.aload_n 0, 1) := dq_42 (by decide +kernel)
theorem dX12_image_53 : decode cX12_image 53 = .ok (.aload_n 0, 1) := dq_42 (by decide +kernel)
theorem dX12_image_54 : decode cX12_image 54 = .ok (.getfield 349, 3) := dq_180 (a := 1) (b := 93) (by decide +kernel) rfl
theorem dX12_image_57 : decode cX12_image 57 = .ok (.invokevirtual 492, 3) := dq_182 (a := 1) (b := 236) (by decide +kernel) rfl
theorem dX12_writes_0 : decode cX12_writes 0 = .ok (.aload_n 0, 1) := dq_42 (by decide +kernel)
theorem dX12_writes_1 : decode cX12_writes 1 = .ok (.getfield 145, 3) := dq_180 (a := 0) (b := 145) (by decide +kernel) rfl
theorem dX12_writes_4 : decode cX12_writes 4 = .ok (.aload_n 0, 1) := dq_42 (by decide +kernel)
theorem dX12_writes_5 : decode cX12_writes 5 = .ok (.getfield 489, 3) := dq_180 (a := 1) (b := 233) (by decide +kernel) rfl
theorem dX12_writes_8 : decode cX12_writes 8 = .ok (.iload_n 1, 1) := dq_27 (by decide +kernel)
theorem dX12_writes_9 : decode cX12_writes 9 = .ok (.iastore, 1) := dq_79 (by decide +kernel)
theorem dX12_writes_10 : decode cX12_writes 10 = .ok (.aload_n 0, 1) := dq_42 (by decide +kernel)
theorem dX12_writes_11 : decode cX12_writes 11 = .ok (.dup, 1) := dq_89 (by decide +kernel)
theorem dX12_writes_12 : decode cX12_writes 12 = .ok (.getfield 489, 3) := dq_180 (a := 1) (b := 233) (by decide +kernel) rfl
theorem dX12_writes_15 : decode cX12_writes 15 = .ok (.iconst 1, 1) := dq_4 (by decide +kernel)
theorem dX12_writes_16 : decode cX12_writes 16 = .ok (.iadd, 1) := dq_96 (by decide +kernel)
theorem dX12_writes_17 : decode cX12_writes 17 = .ok (.putfield 489, 3) := dq_181 (a := 1) (b := 233) (by decide +kernel) rfl
theorem dX12_writes_20 : decode cX12_writes 20 = .ok (.return_, 1) := dq_177 (by decide +kernel)
theorem dX12_image_60 : decode cX12_image 60 = .ok (.aload_n 0, 1) := dq_42 (by decide +kernel)
theorem dX12_image_61 : decode cX12_image 61 = .ok (.aload_n 0, 1) := dq_42 (by decide +kernel)
theorem dX12_image_62 : decode cX12_image 62 = .ok (.getfield 145, 3) := dq_180 (a := 0) (b := 145) (by decide +kernel) rfl
theorem dX12_image_65 : decode cX12_image 65 = .ok (.aload_n 0, 1) := dq_42 (by decide +kernel)
theorem dX12_image_66 : decode cX12_image 66 = .ok (.getfield 489, 3) := dq_180 (a := 1) (b := 233) (by decide +kernel) rfl
theorem dX12_image_69 : decode cX12_image 69 = .ok (.invokestatic 495, 3) := dq_184 (a := 1) (b := 239) (by decide +kernel) rfl
theorem dX12_checked_0 : decode cX12_checked 0 = .ok (.bipush 51, 2) := dq_16 (a := 51) (by decide +kernel) (by decide +kernel)
theorem dX12_checked_2 : decode cX12_checked 2 = .ok (.istore_n 2, 1) := dq_61 (by decide +kernel)
theorem dX12_checked_3 : decode cX12_checked 3 = .ok (.iconst 0, 1) := dq_3 (by decide +kernel)
theorem dX12_checked_4 : decode cX12_checked 4 = .ok (.istore_n 3, 1) := dq_62 (by decide +kernel)
theorem dX12_checked_5 : decode cX12_checked 5 = .ok (.iload_n 3, 1) := dq_29 (by decide +kernel)
theorem dX12_checked_6 : decode cX12_checked 6 = .ok (.iload_n 1, 1) := dq_27 (by decide +kernel)
theorem dX12_checked_7 : decode cX12_checked 7 = .ok (.if_icmp .ge 22, 3) := dq_162 (a := 0) (b := 22) (by decide +kernel) (by decide +kernel)
theorem dX12_checked_29 : decode cX12_checked 29 = .ok (.iload_n 2, 1) := dq_28 (by decide +kernel)
theorem dX12_checked_30 : decode cX12_checked 30 = .ok (.ireturn, 1) := dq_172 (by decide +kernel)
theorem dX12_checked_10 : decode cX12_checked 10 = .ok (.bipush 7, 2) := dq_16 (a := 7) (by decide +kernel) (by decide +kernel)
theorem dX12_checked_12 : decode cX12_checked 12 = .ok (.iload_n 2, 1) := dq_28 (by decide +kernel)
theorem dX12_checked_13 : decode cX12_checked 13 = .ok (.imul, 1) := dq_104 (by decide +kernel)
theorem dX12_checked_14 : decode cX12_checked 14 = .ok (.aload_n 0, 1) := dq_42 (by decide +kernel)
theorem dX12_checked_15 : decode cX12_checked 15 = .ok (.iload_n 3, 1) := dq_29 (by decide +kernel)
theorem dX12_checked_16 : decode cX12_checked 16 = .ok (.iaload, 1) := dq_46 (by decide +kernel)
theorem dX12_checked_17 : decode cX12_checked 17 = .ok (.iadd, 1) := dq_96 (by decide +kernel)
theorem dX12_checked_18 : decode cX12_checked 18 = .ok (.sipush 253, 3) := dq_17 (a := 0) (b := 253) (by decide +kernel) (by decide +kernel)
theorem dX12_checked_21 : decode cX12_checked 21 = .ok (.irem, 1) := dq_112 (by decide +kernel)
theorem dX12_checked_22 : decode cX12_checked 22 = .ok (.istore_n 2, 1) := dq_61 (by decide +kernel)
theorem dX12_checked_23 : decode cX12_checked 23 = .ok (.iinc 3 1, 3) := dq_132 (a := 3) (b := 1) (by decide +kernel) rfl (by decide +kernel)
theorem dX12_checked_26 : decode cX12_checked 26 = .ok (.goto (-21), 3) := dq_167 (a := 255) (b := 235) (by decide +kernel) (by decide +kernel)
theorem dX12_image_72 : decode cX12_image 72 = .ok (.invokevirtual 492, 3) := dq_182 (a := 1) (b := 236) (by decide +kernel) rfl
theorem dX12_image_75 : decode cX12_image 75 = .ok (.aload_n 0, 1) := dq_42 (by decide +kernel)
theorem dX12_image_76 : decode cX12_image 76 = .ok (.getfield 489, 3) := dq_180 (a := 1) (b := 233) (by decide +kernel) rfl
theorem dX12_image_79 : decode cX12_image 79 = .ok (.ireturn, 1) := dq_172 (by decide +kernel)
theorem dX12_image_15 : decode cX12_image 15 = .ok (.aload_n 0, 1) := dq_42 (by decide +kernel)
theorem dX12_image_16 : decode cX12_image 16 = .ok (.aload_n 0, 1) := dq_42 (by decide +kernel)
theorem dX12_image_17 : decode cX12_image 17 = .ok (.getfield 100, 3) := dq_180 (a := 0) (b := 100) (by decide +kernel) rfl
theorem dX12_image_20 : decode cX12_image 20 = .ok (.iload_n 1, 1) := dq_27 (by decide +kernel)
theorem dX12_image_21 : decode cX12_image 21 = .ok (.iaload, 1) := dq_46 (by decide +kernel)
theorem dX12_image_22 : decode cX12_image 22 = .ok (.bipush 8, 2) := dq_16 (a := 8) (by decide +kernel) (by decide +kernel)
theorem dX12_image_24 : decode cX12_image 24 = .ok (.ishr, 1) := dq_122 (by decide +kernel)
theorem dX12_image_25 : decode cX12_image 25 = .ok (.sipush 255, 3) := dq_17 (a := 0) (b := 255) (by decide +kernel) (by decide +kernel)
theorem dX12_image_28 : decode cX12_image 28 = .ok (.iand, 1) := dq_126 (by decide +kernel)
theorem dX12_image_29 : decode cX12_image 29 = .ok (.invokevirtual 492, 3) := dq_182 (a := 1) (b := 236) (by decide +kernel) rfl
theorem dX12_image_32 : decode cX12_image 32 = .ok (.aload_n 0, 1) := dq_42 (by decide +kernel)
theorem dX12_image_33 : decode cX12_image 33 = .ok (.aload_n 0, 1) := dq_42 (by decide +kernel)
theorem dX12_image_34 : decode cX12_image 34 = .ok (.getfield 100, 3) := dq_180 (a := 0) (b := 100) (by decide +kernel) rfl
theorem dX12_image_37 : decode cX12_image 37 = .ok (.iload_n 1, 1) := dq_27 (by decide +kernel)
theorem dX12_image_38 : decode cX12_image 38 = .ok (.iaload, 1) := dq_46 (by decide +kernel)
theorem dX12_image_39 : decode cX12_image 39 = .ok (.sipush 255, 3) := dq_17 (a := 0) (b := 255) (by decide +kernel) (by decide +kernel)
theorem dX12_image_42 : decode cX12_image 42 = .ok (.iand, 1) := dq_126 (by decide +kernel)
theorem dX12_image_43 : decode cX12_image 43 = .ok (.invokevirtual 492, 3) := dq_182 (a := 1) (b := 236) (by decide +kernel) rfl
theorem dX12_image_46 : decode cX12_image 46 = .ok (.iinc 1 1, 3) := dq_132 (a := 1) (b := 1) (by decide +kernel) rfl (by decide +kernel)
theorem dX12_image_49 : decode cX12_image 49 = .ok (.goto (-42), 3) := dq_167 (a := 255) (b := 214) (by decide +kernel) (by decide +kernel)
theorem dX12_octet_0 : decode cX12_octet 0 = .ok (.iload_n 1, 1) := dq_27 (by decide +kernel)
theorem dX12_octet_1 : decode cX12_octet 1 = .ok (.ifCond .lt 20, 3) := dq_155 (a := 0) (b := 20) (by decide +kernel) (by decide +kernel)
theorem dX12_octet_21 : decode cX12_octet 21 = .ok (.iconst (-1), 1) := dq_2 (by decide +kernel)
theorem dX12_octet_22 : decode cX12_octet 22 = .ok (.ireturn, 1) := dq_172 (by decide +kernel)
theorem dX12_octet_4 : decode cX12_octet 4 = .ok (.iload_n 1, 1) := dq_27 (by decide +kernel)
theorem dX12_octet_5 : decode cX12_octet 5 = .ok (.aload_n 0, 1) := dq_42 (by decide +kernel)
theorem dX12_octet_6 : decode cX12_octet 6 = .ok (.getfield 489, 3) := dq_180 (a := 1) (b := 233) (by decide +kernel) rfl
theorem dX12_octet_9 : decode cX12_octet 9 = .ok (.if_icmp .ge 12, 3) := dq_162 (a := 0) (b := 12) (by decide +kernel) (by decide +kernel)
theorem dX12_octet_12 : decode cX12_octet 12 = .ok (.aload_n 0, 1) := dq_42 (by decide +kernel)
theorem dX12_octet_13 : decode cX12_octet 13 = .ok (.getfield 145, 3) := dq_180 (a := 0) (b := 145) (by decide +kernel) rfl
theorem dX12_octet_16 : decode cX12_octet 16 = .ok (.iload_n 1, 1) := dq_27 (by decide +kernel)
theorem dX12_octet_17 : decode cX12_octet 17 = .ok (.iaload, 1) := dq_46 (by decide +kernel)
theorem dX12_octet_18 : decode cX12_octet 18 = .ok (.goto 4, 3) := dq_167 (a := 0) (b := 4) (by decide +kernel) (by decide +kernel)
theorem dX12_on_0 : decode cX12_on 0 = .ok (.aload_n 0, 1) := dq_42 (by decide +kernel)
theorem dX12_on_1 : decode cX12_on 1 = .ok (.getfield 148, 3) := dq_180 (a := 0) (b := 148) (by decide +kernel) rfl
theorem dX12_on_4 : decode cX12_on 4 = .ok (.istore_n 1, 1) := dq_60 (by decide +kernel)
theorem dX12_on_5 : decode cX12_on 5 = .ok (.aload_n 0, 1) := dq_42 (by decide +kernel)
theorem dX12_on_6 : decode cX12_on 6 = .ok (.iconst 0, 1) := dq_3 (by decide +kernel)
theorem dX12_on_7 : decode cX12_on 7 = .ok (.putfield 148, 3) := dq_181 (a := 0) (b := 148) (by decide +kernel) rfl
theorem dX12_on_10 : decode cX12_on 10 = .ok (.iload_n 1, 1) := dq_27 (by decide +kernel)
theorem dX12_on_11 : decode cX12_on 11 = .ok (.iconst 2, 1) := dq_5 (by decide +kernel)
theorem dX12_on_12 : decode cX12_on 12 = .ok (.aload_n 0, 1) := dq_42 (by decide +kernel)
theorem dX12_on_13 : decode cX12_on 13 = .ok (.getfield 240, 3) := dq_180 (a := 0) (b := 240) (by decide +kernel) rfl
theorem dX12_on_16 : decode cX12_on 16 = .ok (.imul, 1) := dq_104 (by decide +kernel)
theorem dX12_on_17 : decode cX12_on 17 = .ok (.iconst 2, 1) := dq_5 (by decide +kernel)
theorem dX12_on_18 : decode cX12_on 18 = .ok (.iadd, 1) := dq_96 (by decide +kernel)
theorem dX12_on_19 : decode cX12_on 19 = .ok (.if_icmp .ne 24, 3) := dq_160 (a := 0) (b := 24) (by decide +kernel) (by decide +kernel)
theorem dX12_on_43 : decode cX12_on 43 = .ok (.iconst 0, 1) := dq_3 (by decide +kernel)
theorem dX12_on_44 : decode cX12_on 44 = .ok (.ireturn, 1) := dq_172 (by decide +kernel)
theorem dX12_on_22 : decode cX12_on 22 = .ok (.aload_n 0, 1) := dq_42 (by decide +kernel)
theorem dX12_on_23 : decode cX12_on 23 = .ok (.getfield 7, 3) := dq_180 (a := 0) (b := 7) (by decide +kernel) rfl
theorem dX12_on_26 : decode cX12_on 26 = .ok (.iload_n 1, 1) := dq_27 (by decide +kernel)
theorem dX12_on_27 : decode cX12_on 27 = .ok (.iconst 1, 1) := dq_4 (by decide +kernel)
theorem dX12_on_28 : decode cX12_on 28 = .ok (.isub, 1) := dq_100 (by decide +kernel)
theorem dX12_on_29 : decode cX12_on 29 = .ok (.iaload, 1) := dq_46 (by decide +kernel)
theorem dX12_on_30 : decode cX12_on 30 = .ok (.aload_n 0, 1) := dq_42 (by decide +kernel)
theorem dX12_on_31 : decode cX12_on 31 = .ok (.getfield 7, 3) := dq_180 (a := 0) (b := 7) (by decide +kernel) rfl
theorem dX12_on_34 : decode cX12_on 34 = .ok (.iload_n 1, 1) := dq_27 (by decide +kernel)
theorem dX12_on_35 : decode cX12_on 35 = .ok (.iconst 1, 1) := dq_4 (by decide +kernel)
theorem dX12_on_36 : decode cX12_on 36 = .ok (.isub, 1) := dq_100 (by decide +kernel)
theorem dX12_on_37 : decode cX12_on 37 = .ok (.invokestatic 495, 3) := dq_184 (a := 1) (b := 239) (by decide +kernel) rfl
theorem dX12_on_40 : decode cX12_on 40 = .ok (.if_icmp .eq 5, 3) := dq_159 (a := 0) (b := 5) (by decide +kernel) (by decide +kernel)
theorem dX12_on_45 : decode cX12_on 45 = .ok (.aload_n 0, 1) := dq_42 (by decide +kernel)
theorem dX12_on_46 : decode cX12_on 46 = .ok (.aload_n 0, 1) := dq_42 (by decide +kernel)
theorem dX12_on_47 : decode cX12_on 47 = .ok (.getfield 349, 3) := dq_180 (a := 1) (b := 93) (by decide +kernel) rfl
theorem dX12_on_50 : decode cX12_on 50 = .ok (.putfield 499, 3) := dq_181 (a := 1) (b := 243) (by decide +kernel) rfl
theorem dX12_on_53 : decode cX12_on 53 = .ok (.aload_n 0, 1) := dq_42 (by decide +kernel)
theorem dX12_on_54 : decode cX12_on 54 = .ok (.aload_n 0, 1) := dq_42 (by decide +kernel)
theorem dX12_on_55 : decode cX12_on 55 = .ok (.getfield 352, 3) := dq_180 (a := 1) (b := 96) (by decide +kernel) rfl
theorem dX12_on_58 : decode cX12_on 58 = .ok (.putfield 502, 3) := dq_181 (a := 1) (b := 246) (by decide +kernel) rfl
theorem dX12_on_61 : decode cX12_on 61 = .ok (.aload_n 0, 1) := dq_42 (by decide +kernel)
theorem dX12_on_62 : decode cX12_on 62 = .ok (.aload_n 0, 1) := dq_42 (by decide +kernel)
theorem dX12_on_63 : decode cX12_on 63 = .ok (.getfield 355, 3) := dq_180 (a := 1) (b := 99) (by decide +kernel) rfl
theorem dX12_on_66 : decode cX12_on 66 = .ok (.putfield 505, 3) := dq_181 (a := 1) (b := 249) (by decide +kernel) rfl
theorem dX12_on_69 : decode cX12_on 69 = .ok (.aload_n 0, 1) := dq_42 (by decide +kernel)
theorem dX12_on_70 : decode cX12_on 70 = .ok (.aload_n 0, 1) := dq_42 (by decide +kernel)
theorem dX12_on_71 : decode cX12_on 71 = .ok (.getfield 7, 3) := dq_180 (a := 0) (b := 7) (by decide +kernel) rfl
theorem dX12_on_74 : decode cX12_on 74 = .ok (.iload_n 1, 1) := dq_27 (by decide +kernel)
theorem dX12_on_75 : decode cX12_on 75 = .ok (.iconst 2, 1) := dq_5 (by decide +kernel)
theorem dX12_on_76 : decode cX12_on 76 = .ok (.isub, 1) := dq_100 (by decide +kernel)
theorem dX12_on_77 : decode cX12_on 77 = .ok (.iaload, 1) := dq_46 (by decide +kernel)
theorem dX12_on_78 : decode cX12_on 78 = .ok (.invokevirtual 508, 3) := dq_182 (a := 1) (b := 252) (by decide +kernel) rfl
theorem dX12_canLead_0 : decode cX12_canLead 0 = .ok (.aload_n 0, 1) := dq_42 (by decide +kernel)
theorem dX12_canLead_1 : decode cX12_canLead 1 = .ok (.invokevirtual 249, 3) := dq_182 (a := 0) (b := 249) (by decide +kernel) rfl
theorem dX12_canLead_4 : decode cX12_canLead 4 = .ok (.aload_n 0, 1) := dq_42 (by decide +kernel)
theorem dX12_canLead_5 : decode cX12_canLead 5 = .ok (.getfield 349, 3) := dq_180 (a := 1) (b := 93) (by decide +kernel) rfl
theorem dX12_canLead_8 : decode cX12_canLead 8 = .ok (.iload_n 1, 1) := dq_27 (by decide +kernel)
theorem dX12_canLead_9 : decode cX12_canLead 9 = .ok (.if_icmp .ge 35, 3) := dq_162 (a := 0) (b := 35) (by decide +kernel) (by decide +kernel)
theorem dX12_canLead_44 : decode cX12_canLead 44 = .ok (.aload_n 0, 1) := dq_42 (by decide +kernel)
theorem dX12_canLead_45 : decode cX12_canLead 45 = .ok (.getfield 349, 3) := dq_180 (a := 1) (b := 93) (by decide +kernel) rfl
theorem dX12_canLead_48 : decode cX12_canLead 48 = .ok (.iload_n 1, 1) := dq_27 (by decide +kernel)
theorem dX12_canLead_49 : decode cX12_canLead 49 = .ok (.if_icmp .ne 7, 3) := dq_160 (a := 0) (b := 7) (by decide +kernel) (by decide +kernel)
theorem dX12_canLead_56 : decode cX12_canLead 56 = .ok (.iconst 0, 1) := dq_3 (by decide +kernel)
theorem dX12_canLead_57 : decode cX12_canLead 57 = .ok (.ireturn, 1) := dq_172 (by decide +kernel)
theorem dX12_canLead_52 : decode cX12_canLead 52 = .ok (.iconst 1, 1) := dq_4 (by decide +kernel)
theorem dX12_canLead_53 : decode cX12_canLead 53 = .ok (.goto 4, 3) := dq_167 (a := 0) (b := 4) (by decide +kernel) (by decide +kernel)
theorem dX12_canLead_12 : decode cX12_canLead 12 = .ok (.aload_n 0, 1) := dq_42 (by decide +kernel)
theorem dX12_canLead_13 : decode cX12_canLead 13 = .ok (.invokevirtual 442, 3) := dq_182 (a := 1) (b := 186) (by decide +kernel) rfl
theorem dX12_canLead_16 : decode cX12_canLead 16 = .ok (.ifCond .eq 28, 3) := dq_153 (a := 0) (b := 28) (by decide +kernel) (by decide +kernel)
theorem dX12_canLead_19 : decode cX12_canLead 19 = .ok (.aload_n 0, 1) := dq_42 (by decide +kernel)
theorem dX12_canLead_20 : decode cX12_canLead 20 = .ok (.aload_n 0, 1) := dq_42 (by decide +kernel)
theorem dX12_canLead_21 : decode cX12_canLead 21 = .ok (.getfield 349, 3) := dq_180 (a := 1) (b := 93) (by decide +kernel) rfl
theorem dX12_canLead_24 : decode cX12_canLead 24 = .ok (.bipush 40, 2) := dq_16 (a := 40) (by decide +kernel) (by decide +kernel)
theorem dX12_canLead_26 : decode cX12_canLead 26 = .ok (.if_icmp .ge 10, 3) := dq_162 (a := 0) (b := 10) (by decide +kernel) (by decide +kernel)
theorem dX12_canLead_36 : decode cX12_canLead 36 = .ok (.bipush 40, 2) := dq_16 (a := 40) (by decide +kernel) (by decide +kernel)
theorem dX12_canLead_38 : decode cX12_canLead 38 = .ok (.putfield 352, 3) := dq_181 (a := 1) (b := 96) (by decide +kernel) rfl
theorem dX12_canLead_41 : decode cX12_canLead 41 = .ok (.goto (-37), 3) := dq_167 (a := 255) (b := 219) (by decide +kernel) (by decide +kernel)
theorem dX12_canLead_29 : decode cX12_canLead 29 = .ok (.aload_n 0, 1) := dq_42 (by decide +kernel)
theorem dX12_canLead_30 : decode cX12_canLead 30 = .ok (.getfield 349, 3) := dq_180 (a := 1) (b := 93) (by decide +kernel) rfl
theorem dX12_canLead_33 : decode cX12_canLead 33 = .ok (.goto 5, 3) := dq_167 (a := 0) (b := 5) (by decide +kernel) (by decide +kernel)
theorem dX12_on_81 : decode cX12_on 81 = .ok (.ifCond .ne 9, 3) := dq_154 (a := 0) (b := 9) (by decide +kernel) (by decide +kernel)
theorem dX12_on_90 : decode cX12_on 90 = .ok (.iconst 0, 1) := dq_3 (by decide +kernel)
theorem dX12_on_91 : decode cX12_on 91 = .ok (.istore_n 2, 1) := dq_61 (by decide +kernel)
theorem dX12_on_92 : decode cX12_on 92 = .ok (.iload_n 2, 1) := dq_28 (by decide +kernel)
theorem dX12_on_93 : decode cX12_on 93 = .ok (.aload_n 0, 1) := dq_42 (by decide +kernel)
theorem dX12_on_94 : decode cX12_on 94 = .ok (.getfield 240, 3) := dq_180 (a := 0) (b := 240) (by decide +kernel) rfl
theorem dX12_on_97 : decode cX12_on 97 = .ok (.if_icmp .ge 55, 3) := dq_162 (a := 0) (b := 55) (by decide +kernel) (by decide +kernel)
theorem dX12_on_152 : decode cX12_on 152 = .ok (.iconst 1, 1) := dq_4 (by decide +kernel)
theorem dX12_on_153 : decode cX12_on 153 = .ok (.ireturn, 1) := dq_172 (by decide +kernel)
theorem dX12_on_100 : decode cX12_on 100 = .ok (.sipush 256, 3) := dq_17 (a := 1) (b := 0) (by decide +kernel) (by decide +kernel)
theorem dX12_on_103 : decode cX12_on 103 = .ok (.aload_n 0, 1) := dq_42 (by decide +kernel)
theorem dX12_on_104 : decode cX12_on 104 = .ok (.getfield 7, 3) := dq_180 (a := 0) (b := 7) (by decide +kernel) rfl
theorem dX12_on_107 : decode cX12_on 107 = .ok (.iconst 2, 1) := dq_5 (by decide +kernel)
theorem dX12_on_108 : decode cX12_on 108 = .ok (.iload_n 2, 1) := dq_28 (by decide +kernel)
theorem dX12_on_109 : decode cX12_on 109 = .ok (.imul, 1) := dq_104 (by decide +kernel)
theorem dX12_on_110 : decode cX12_on 110 = .ok (.iaload, 1) := dq_46 (by decide +kernel)
theorem dX12_on_111 : decode cX12_on 111 = .ok (.imul, 1) := dq_104 (by decide +kernel)
theorem dX12_on_112 : decode cX12_on 112 = .ok (.aload_n 0, 1) := dq_42 (by decide +kernel)
theorem dX12_on_113 : decode cX12_on 113 = .ok (.getfield 7, 3) := dq_180 (a := 0) (b := 7) (by decide +kernel) rfl
theorem dX12_on_116 : decode cX12_on 116 = .ok (.iconst 2, 1) := dq_5 (by decide +kernel)
theorem dX12_on_117 : decode cX12_on 117 = .ok (.iload_n 2, 1) := dq_28 (by decide +kernel)
theorem dX12_on_118 : decode cX12_on 118 = .ok (.imul, 1) := dq_104 (by decide +kernel)
theorem dX12_on_119 : decode cX12_on 119 = .ok (.iconst 1, 1) := dq_4 (by decide +kernel)
theorem dX12_on_120 : decode cX12_on 120 = .ok (.iadd, 1) := dq_96 (by decide +kernel)
theorem dX12_on_121 : decode cX12_on 121 = .ok (.iaload, 1) := dq_46 (by decide +kernel)
theorem dX12_on_122 : decode cX12_on 122 = .ok (.iadd, 1) := dq_96 (by decide +kernel)
theorem dX12_on_123 : decode cX12_on 123 = .ok (.istore_n 3, 1) := dq_62 (by decide +kernel)
theorem dX12_on_124 : decode cX12_on 124 = .ok (.aload_n 0, 1) := dq_42 (by decide +kernel)
theorem dX12_on_125 : decode cX12_on 125 = .ok (.getfield 100, 3) := dq_180 (a := 0) (b := 100) (by decide +kernel) rfl
theorem dX12_on_128 : decode cX12_on 128 = .ok (.iload_n 2, 1) := dq_28 (by decide +kernel)
theorem dX12_on_129 : decode cX12_on 129 = .ok (.iload_n 3, 1) := dq_29 (by decide +kernel)
theorem dX12_on_130 : decode cX12_on 130 = .ok (.sipush 32767, 3) := dq_17 (a := 127) (b := 255) (by decide +kernel) (by decide +kernel)
theorem dX12_on_133 : decode cX12_on 133 = .ok (.if_icmp .le 11, 3) := dq_164 (a := 0) (b := 11) (by decide +kernel) (by decide +kernel)
theorem dX12_on_144 : decode cX12_on 144 = .ok (.iload_n 3, 1) := dq_29 (by decide +kernel)
theorem dX12_on_145 : decode cX12_on 145 = .ok (.iastore, 1) := dq_79 (by decide +kernel)
theorem dX12_on_146 : decode cX12_on 146 = .ok (.iinc 2 1, 3) := dq_132 (a := 2) (b := 1) (by decide +kernel) rfl (by decide +kernel)
theorem dX12_on_149 : decode cX12_on 149 = .ok (.goto (-57), 3) := dq_167 (a := 255) (b := 199) (by decide +kernel) (by decide +kernel)
theorem dX12_on_136 : decode cX12_on 136 = .ok (.iload_n 3, 1) := dq_29 (by decide +kernel)
theorem dX12_on_137 : decode cX12_on 137 = .ok (.ldc_w 370, 3) := dq_19 (a := 1) (b := 114) (by decide +kernel) rfl
theorem dX12_on_140 : decode cX12_on 140 = .ok (.isub, 1) := dq_100 (by decide +kernel)
theorem dX12_on_141 : decode cX12_on 141 = .ok (.goto 4, 3) := dq_167 (a := 0) (b := 4) (by decide +kernel) (by decide +kernel)
theorem dX12_on_84 : decode cX12_on 84 = .ok (.aload_n 0, 1) := dq_42 (by decide +kernel)
theorem dX12_on_85 : decode cX12_on 85 = .ok (.invokevirtual 511, 3) := dq_182 (a := 1) (b := 255) (by decide +kernel) rfl
theorem dX12_takesBack_0 : decode cX12_takesBack 0 = .ok (.aload_n 0, 1) := dq_42 (by decide +kernel)
theorem dX12_takesBack_1 : decode cX12_takesBack 1 = .ok (.getfield 499, 3) := dq_180 (a := 1) (b := 243) (by decide +kernel) rfl
theorem dX12_takesBack_4 : decode cX12_takesBack 4 = .ok (.aload_n 0, 1) := dq_42 (by decide +kernel)
theorem dX12_takesBack_5 : decode cX12_takesBack 5 = .ok (.getfield 505, 3) := dq_180 (a := 1) (b := 249) (by decide +kernel) rfl
theorem dX12_takesBack_8 : decode cX12_takesBack 8 = .ok (.iadd, 1) := dq_96 (by decide +kernel)
theorem dX12_takesBack_9 : decode cX12_takesBack 9 = .ok (.istore_n 1, 1) := dq_60 (by decide +kernel)
theorem dX12_takesBack_10 : decode cX12_takesBack 10 = .ok (.aload_n 0, 1) := dq_42 (by decide +kernel)
theorem dX12_takesBack_11 : decode cX12_takesBack 11 = .ok (.iload_n 1, 1) := dq_27 (by decide +kernel)
theorem dX12_takesBack_12 : decode cX12_takesBack 12 = .ok (.invokevirtual 508, 3) := dq_182 (a := 1) (b := 252) (by decide +kernel) rfl
theorem dX12_takesBack_15 : decode cX12_takesBack 15 = .ok (.istore_n 2, 1) := dq_61 (by decide +kernel)
theorem dX12_takesBack_16 : decode cX12_takesBack 16 = .ok (.aload_n 0, 1) := dq_42 (by decide +kernel)
theorem dX12_takesBack_17 : decode cX12_takesBack 17 = .ok (.getfield 349, 3) := dq_180 (a := 1) (b := 93) (by decide +kernel) rfl
theorem dX12_takesBack_20 : decode cX12_takesBack 20 = .ok (.aload_n 0, 1) := dq_42 (by decide +kernel)
theorem dX12_takesBack_21 : decode cX12_takesBack 21 = .ok (.getfield 499, 3) := dq_180 (a := 1) (b := 243) (by decide +kernel) rfl
theorem dX12_takesBack_24 : decode cX12_takesBack 24 = .ok (.if_icmp .le 48, 3) := dq_164 (a := 0) (b := 48) (by decide +kernel) (by decide +kernel)
theorem dX12_takesBack_72 : decode cX12_takesBack 72 = .ok (.aload_n 0, 1) := dq_42 (by decide +kernel)
theorem dX12_takesBack_73 : decode cX12_takesBack 73 = .ok (.aload_n 0, 1) := dq_42 (by decide +kernel)
theorem dX12_takesBack_74 : decode cX12_takesBack 74 = .ok (.getfield 502, 3) := dq_180 (a := 1) (b := 246) (by decide +kernel) rfl
theorem dX12_takesBack_77 : decode cX12_takesBack 77 = .ok (.putfield 352, 3) := dq_181 (a := 1) (b := 96) (by decide +kernel) rfl
theorem dX12_takesBack_80 : decode cX12_takesBack 80 = .ok (.aload_n 0, 1) := dq_42 (by decide +kernel)
theorem dX12_takesBack_81 : decode cX12_takesBack 81 = .ok (.aload_n 0, 1) := dq_42 (by decide +kernel)
theorem dX12_takesBack_82 : decode cX12_takesBack 82 = .ok (.getfield 505, 3) := dq_180 (a := 1) (b := 249) (by decide +kernel) rfl
theorem dX12_takesBack_85 : decode cX12_takesBack 85 = .ok (.putfield 355, 3) := dq_181 (a := 1) (b := 99) (by decide +kernel) rfl
theorem dX12_takesBack_88 : decode cX12_takesBack 88 = .ok (.return_, 1) := dq_177 (by decide +kernel)
theorem dX12_takesBack_27 : decode cX12_takesBack 27 = .ok (.aload_n 0, 1) := dq_42 (by decide +kernel)
theorem dX12_takesBack_28 : decode cX12_takesBack 28 = .ok (.dup, 1) := dq_89 (by decide +kernel)
theorem dX12_takesBack_29 : decode cX12_takesBack 29 = .ok (.getfield 349, 3) := dq_180 (a := 1) (b := 93) (by decide +kernel) rfl
theorem dX12_takesBack_32 : decode cX12_takesBack 32 = .ok (.iconst 1, 1) := dq_4 (by decide +kernel)
theorem dX12_takesBack_33 : decode cX12_takesBack 33 = .ok (.isub, 1) := dq_100 (by decide +kernel)
theorem dX12_takesBack_34 : decode cX12_takesBack 34 = .ok (.putfield 349, 3) := dq_181 (a := 1) (b := 93) (by decide +kernel) rfl
theorem dX12_takesBack_37 : decode cX12_takesBack 37 = .ok (.aload_n 0, 1) := dq_42 (by decide +kernel)
theorem dX12_takesBack_38 : decode cX12_takesBack 38 = .ok (.aload_n 0, 1) := dq_42 (by decide +kernel)
theorem dX12_takesBack_39 : decode cX12_takesBack 39 = .ok (.getfield 124, 3) := dq_180 (a := 0) (b := 124) (by decide +kernel) rfl
theorem dX12_takesBack_42 : decode cX12_takesBack 42 = .ok (.aload_n 0, 1) := dq_42 (by decide +kernel)
theorem dX12_takesBack_43 : decode cX12_takesBack 43 = .ok (.getfield 349, 3) := dq_180 (a := 1) (b := 93) (by decide +kernel) rfl
theorem dX12_takesBack_46 : decode cX12_takesBack 46 = .ok (.iaload, 1) := dq_46 (by decide +kernel)
theorem dX12_takesBack_47 : decode cX12_takesBack 47 = .ok (.aload_n 0, 1) := dq_42 (by decide +kernel)
theorem dX12_takesBack_48 : decode cX12_takesBack 48 = .ok (.getfield 127, 3) := dq_180 (a := 0) (b := 127) (by decide +kernel) rfl
theorem dX12_takesBack_51 : decode cX12_takesBack 51 = .ok (.aload_n 0, 1) := dq_42 (by decide +kernel)
theorem dX12_takesBack_52 : decode cX12_takesBack 52 = .ok (.getfield 349, 3) := dq_180 (a := 1) (b := 93) (by decide +kernel) rfl
theorem dX12_takesBack_55 : decode cX12_takesBack 55 = .ok (.iaload, 1) := dq_46 (by decide +kernel)
theorem dX12_takesBack_56 : decode cX12_takesBack 56 = .ok (.aload_n 0, 1) := dq_42 (by decide +kernel)
theorem dX12_takesBack_57 : decode cX12_takesBack 57 = .ok (.getfield 130, 3) := dq_180 (a := 0) (b := 130) (by decide +kernel) rfl
theorem dX12_takesBack_60 : decode cX12_takesBack 60 = .ok (.aload_n 0, 1) := dq_42 (by decide +kernel)
theorem dX12_takesBack_61 : decode cX12_takesBack 61 = .ok (.getfield 349, 3) := dq_180 (a := 1) (b := 93) (by decide +kernel) rfl
theorem dX12_takesBack_64 : decode cX12_takesBack 64 = .ok (.iaload, 1) := dq_46 (by decide +kernel)
theorem dX12_takesBack_65 : decode cX12_takesBack 65 = .ok (.ineg, 1) := dq_116 (by decide +kernel)
theorem dX12_takesBack_66 : decode cX12_takesBack 66 = .ok (.invokevirtual 436, 3) := dq_182 (a := 1) (b := 180) (by decide +kernel) rfl
theorem dX12_takesBack_69 : decode cX12_takesBack 69 = .ok (.goto (-53), 3) := dq_167 (a := 255) (b := 203) (by decide +kernel) (by decide +kernel)
theorem dX12_on_88 : decode cX12_on 88 = .ok (.iconst 0, 1) := dq_3 (by decide +kernel)
theorem dX12_on_89 : decode cX12_on 89 = .ok (.ireturn, 1) := dq_172 (by decide +kernel)
