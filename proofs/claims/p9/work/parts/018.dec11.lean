theorem dX12_takes_17 : decode cX12_takes 17 = .ok (.iadd, 1) := by decide +kernel
theorem dX12_takes_18 : decode cX12_takes 18 = .ok (.putfield 157, 3) := by decide +kernel
theorem dX12_takes_21 : decode cX12_takes 21 = .ok (.aload_n 0, 1) := by decide +kernel
theorem dX12_takes_22 : decode cX12_takes 22 = .ok (.aload_n 0, 1) := by decide +kernel
theorem dX12_takes_23 : decode cX12_takes 23 = .ok (.getfield 157, 3) := by decide +kernel
theorem dX12_takes_26 : decode cX12_takes 26 = .ok (.putfield 171, 3) := by decide +kernel
theorem dX12_takes_29 : decode cX12_takes 29 = .ok (.iconst 1, 1) := by decide +kernel
theorem dX12_takes_30 : decode cX12_takes 30 = .ok (.ireturn, 1) := by decide +kernel
theorem dX12_takes_8 : decode cX12_takes 8 = .ok (.iconst 0, 1) := by decide +kernel
theorem dX12_takes_9 : decode cX12_takes 9 = .ok (.ireturn, 1) := by decide +kernel
theorem dX12_asks_12 : decode cX12_asks 12 = .ok (.ifCond .ne 12, 3) := by decide +kernel
theorem dX12_asks_15 : decode cX12_asks 15 = .ok (.aload_n 0, 1) := by decide +kernel
theorem dX12_asks_16 : decode cX12_asks 16 = .ok (.iconst 1, 1) := by decide +kernel
theorem dX12_asks_17 : decode cX12_asks 17 = .ok (.aload_n 0, 1) := by decide +kernel
theorem dX12_asks_18 : decode cX12_asks 18 = .ok (.getfield 157, 3) := by decide +kernel
theorem dX12_asks_21 : decode cX12_asks 21 = .ok (.invokevirtual 181, 3) := by decide +kernel
theorem dX12_fail_0 : decode cX12_fail 0 = .ok (.aload_n 0, 1) := by decide +kernel
theorem dX12_fail_1 : decode cX12_fail 1 = .ok (.getfield 151, 3) := by decide +kernel
theorem dX12_fail_4 : decode cX12_fail 4 = .ok (.ifCond .eq 4, 3) := by decide +kernel
theorem dX12_fail_8 : decode cX12_fail 8 = .ok (.aload_n 0, 1) := by decide +kernel
theorem dX12_fail_9 : decode cX12_fail 9 = .ok (.iload_n 1, 1) := by decide +kernel
theorem dX12_fail_10 : decode cX12_fail 10 = .ok (.putfield 151, 3) := by decide +kernel
theorem dX12_fail_13 : decode cX12_fail 13 = .ok (.aload_n 0, 1) := by decide +kernel
theorem dX12_fail_14 : decode cX12_fail 14 = .ok (.iload_n 2, 1) := by decide +kernel
theorem dX12_fail_15 : decode cX12_fail 15 = .ok (.putfield 154, 3) := by decide +kernel
theorem dX12_fail_18 : decode cX12_fail 18 = .ok (.return_, 1) := by decide +kernel
theorem dX12_fail_7 : decode cX12_fail 7 = .ok (.return_, 1) := by decide +kernel
theorem dX12_house_53 : decode cX12_house 53 = .ok (.aload_n 0, 1) := by decide +kernel
theorem dX12_house_54 : decode cX12_house 54 = .ok (.getfield 66, 3) := by decide +kernel
theorem dX12_house_57 : decode cX12_house 57 = .ok (.iconst 0, 1) := by decide +kernel
theorem dX12_house_58 : decode cX12_house 58 = .ok (.aload_n 0, 1) := by decide +kernel
theorem dX12_house_59 : decode cX12_house 59 = .ok (.iconst 2, 1) := by decide +kernel
theorem dX12_house_60 : decode cX12_house 60 = .ok (.bipush 8, 2) := by decide +kernel
theorem dX12_house_62 : decode cX12_house 62 = .ok (.invokevirtual 195, 3) := by decide +kernel
theorem dX12_number_0 : decode cX12_number 0 = .ok (.aload_n 0, 1) := by decide +kernel
theorem dX12_number_1 : decode cX12_number 1 = .ok (.getfield 151, 3) := by decide +kernel
theorem dX12_number_4 : decode cX12_number 4 = .ok (.ifCond .eq 5, 3) := by decide +kernel
theorem dX12_number_9 : decode cX12_number 9 = .ok (.aload_n 0, 1) := by decide +kernel
theorem dX12_number_10 : decode cX12_number 10 = .ok (.invokevirtual 163, 3) := by decide +kernel
theorem dX12_number_13 : decode cX12_number 13 = .ok (.invokestatic 188, 3) := by decide +kernel
theorem dX12_isDigit_0 : decode cX12_isDigit 0 = .ok (.iload_n 0, 1) := by decide +kernel
theorem dX12_isDigit_1 : decode cX12_isDigit 1 = .ok (.bipush 48, 2) := by decide +kernel
theorem dX12_isDigit_3 : decode cX12_isDigit 3 = .ok (.if_icmp .lt 13, 3) := by decide +kernel
theorem dX12_isDigit_16 : decode cX12_isDigit 16 = .ok (.iconst 0, 1) := by decide +kernel
theorem dX12_isDigit_17 : decode cX12_isDigit 17 = .ok (.ireturn, 1) := by decide +kernel
theorem dX12_isDigit_6 : decode cX12_isDigit 6 = .ok (.iload_n 0, 1) := by decide +kernel
theorem dX12_isDigit_7 : decode cX12_isDigit 7 = .ok (.bipush 57, 2) := by decide +kernel
theorem dX12_isDigit_9 : decode cX12_isDigit 9 = .ok (.if_icmp .gt 7, 3) := by decide +kernel
theorem dX12_isDigit_12 : decode cX12_isDigit 12 = .ok (.iconst 1, 1) := by decide +kernel
theorem dX12_isDigit_13 : decode cX12_isDigit 13 = .ok (.goto 4, 3) := by decide +kernel
theorem dX12_number_16 : decode cX12_number 16 = .ok (.ifCond .eq 14, 3) := by decide +kernel
theorem dX12_number_30 : decode cX12_number 30 = .ok (.aload_n 0, 1) := by decide +kernel
theorem dX12_number_31 : decode cX12_number 31 = .ok (.iconst 1, 1) := by decide +kernel
theorem dX12_number_32 : decode cX12_number 32 = .ok (.aload_n 0, 1) := by decide +kernel
theorem dX12_number_33 : decode cX12_number 33 = .ok (.getfield 157, 3) := by decide +kernel
theorem dX12_number_36 : decode cX12_number 36 = .ok (.invokevirtual 181, 3) := by decide +kernel
theorem dX12_number_39 : decode cX12_number 39 = .ok (.iconst 0, 1) := by decide +kernel
theorem dX12_number_40 : decode cX12_number 40 = .ok (.ireturn, 1) := by decide +kernel
theorem dX12_number_19 : decode cX12_number 19 = .ok (.aload_n 0, 1) := by decide +kernel
theorem dX12_number_20 : decode cX12_number 20 = .ok (.getfield 157, 3) := by decide +kernel
theorem dX12_number_23 : decode cX12_number 23 = .ok (.aload_n 0, 1) := by decide +kernel
theorem dX12_number_24 : decode cX12_number 24 = .ok (.getfield 171, 3) := by decide +kernel
theorem dX12_number_27 : decode cX12_number 27 = .ok (.if_icmp .ne 14, 3) := by decide +kernel
theorem dX12_number_41 : decode cX12_number 41 = .ok (.aload_n 0, 1) := by decide +kernel
theorem dX12_number_42 : decode cX12_number 42 = .ok (.getfield 157, 3) := by decide +kernel
theorem dX12_number_45 : decode cX12_number 45 = .ok (.istore_n 3, 1) := by decide +kernel
theorem dX12_number_46 : decode cX12_number 46 = .ok (.iconst 0, 1) := by decide +kernel
theorem dX12_number_47 : decode cX12_number 47 = .ok (.istore 4, 2) := by decide +kernel
theorem dX12_number_49 : decode cX12_number 49 = .ok (.aload_n 0, 1) := by decide +kernel
theorem dX12_number_50 : decode cX12_number 50 = .ok (.getfield 157, 3) := by decide +kernel
theorem dX12_number_53 : decode cX12_number 53 = .ok (.aload_n 0, 1) := by decide +kernel
theorem dX12_number_54 : decode cX12_number 54 = .ok (.getfield 160, 3) := by decide +kernel
theorem dX12_number_57 : decode cX12_number 57 = .ok (.if_icmp .ge 72, 3) := by decide +kernel
theorem dX12_number_129 : decode cX12_number 129 = .ok (.aload_n 0, 1) := by decide +kernel
theorem dX12_number_130 : decode cX12_number 130 = .ok (.aload_n 0, 1) := by decide +kernel
theorem dX12_number_131 : decode cX12_number 131 = .ok (.getfield 157, 3) := by decide +kernel
theorem dX12_number_134 : decode cX12_number 134 = .ok (.putfield 171, 3) := by decide +kernel
theorem dX12_number_137 : decode cX12_number 137 = .ok (.iload 4, 2) := by decide +kernel
theorem dX12_number_139 : decode cX12_number 139 = .ok (.i2l, 1) := by decide +kernel
theorem dX12_number_140 : decode cX12_number 140 = .ok (.iload_n 1, 1) := by decide +kernel
theorem dX12_number_141 : decode cX12_number 141 = .ok (.i2l, 1) := by decide +kernel
theorem dX12_number_142 : decode cX12_number 142 = .ok (.iload_n 2, 1) := by decide +kernel
theorem dX12_number_143 : decode cX12_number 143 = .ok (.i2l, 1) := by decide +kernel
theorem dX12_number_144 : decode cX12_number 144 = .ok (.invokestatic 191, 3) := by decide +kernel
theorem dX12_isIn_0 : decode cX12_isIn 0 = .ok (.lload_n 0, 1) := by decide +kernel
theorem dX12_isIn_1 : decode cX12_isIn 1 = .ok (.lload_n 2, 1) := by decide +kernel
theorem dX12_isIn_2 : decode cX12_isIn 2 = .ok (.lcmp, 1) := by decide +kernel
theorem dX12_isIn_3 : decode cX12_isIn 3 = .ok (.ifCond .lt 14, 3) := by decide +kernel
theorem dX12_isIn_17 : decode cX12_isIn 17 = .ok (.iconst 0, 1) := by decide +kernel
theorem dX12_isIn_18 : decode cX12_isIn 18 = .ok (.ireturn, 1) := by decide +kernel
theorem dX12_isIn_6 : decode cX12_isIn 6 = .ok (.lload_n 0, 1) := by decide +kernel
theorem dX12_isIn_7 : decode cX12_isIn 7 = .ok (.lload 4, 2) := by decide +kernel
theorem dX12_isIn_9 : decode cX12_isIn 9 = .ok (.lcmp, 1) := by decide +kernel
theorem dX12_isIn_10 : decode cX12_isIn 10 = .ok (.ifCond .gt 7, 3) := by decide +kernel
theorem dX12_isIn_13 : decode cX12_isIn 13 = .ok (.iconst 1, 1) := by decide +kernel
theorem dX12_isIn_14 : decode cX12_isIn 14 = .ok (.goto 4, 3) := by decide +kernel
theorem dX12_number_147 : decode cX12_number 147 = .ok (.ifCond .ne 9, 3) := by decide +kernel
theorem dX12_number_156 : decode cX12_number 156 = .ok (.iload 4, 2) := by decide +kernel
theorem dX12_number_158 : decode cX12_number 158 = .ok (.ireturn, 1) := by decide +kernel
theorem dX12_number_150 : decode cX12_number 150 = .ok (.aload_n 0, 1) := by decide +kernel
theorem dX12_number_151 : decode cX12_number 151 = .ok (.iconst 2, 1) := by decide +kernel
theorem dX12_number_152 : decode cX12_number 152 = .ok (.iload_n 3, 1) := by decide +kernel
theorem dX12_number_153 : decode cX12_number 153 = .ok (.invokevirtual 181, 3) := by decide +kernel
theorem dX12_number_60 : decode cX12_number 60 = .ok (.aload_n 0, 1) := by decide +kernel
theorem dX12_number_61 : decode cX12_number 61 = .ok (.getfield 7, 3) := by decide +kernel
theorem dX12_number_64 : decode cX12_number 64 = .ok (.aload_n 0, 1) := by decide +kernel
theorem dX12_number_65 : decode cX12_number 65 = .ok (.getfield 157, 3) := by decide +kernel
theorem dX12_number_68 : decode cX12_number 68 = .ok (.iaload, 1) := by decide +kernel
theorem dX12_number_69 : decode cX12_number 69 = .ok (.invokestatic 188, 3) := by decide +kernel
theorem dX12_number_72 : decode cX12_number 72 = .ok (.ifCond .eq 57, 3) := by decide +kernel
theorem dX12_number_75 : decode cX12_number 75 = .ok (.aload_n 0, 1) := by decide +kernel
theorem dX12_number_76 : decode cX12_number 76 = .ok (.getfield 157, 3) := by decide +kernel
theorem dX12_number_79 : decode cX12_number 79 = .ok (.iload_n 3, 1) := by decide +kernel
theorem dX12_number_80 : decode cX12_number 80 = .ok (.isub, 1) := by decide +kernel
theorem dX12_number_81 : decode cX12_number 81 = .ok (.iconst 4, 1) := by decide +kernel
theorem dX12_number_82 : decode cX12_number 82 = .ok (.if_icmp .ne 14, 3) := by decide +kernel
theorem dX12_number_96 : decode cX12_number 96 = .ok (.bipush 10, 2) := by decide +kernel
theorem dX12_number_98 : decode cX12_number 98 = .ok (.iload 4, 2) := by decide +kernel
theorem dX12_number_100 : decode cX12_number 100 = .ok (.imul, 1) := by decide +kernel
theorem dX12_number_101 : decode cX12_number 101 = .ok (.aload_n 0, 1) := by decide +kernel
theorem dX12_number_102 : decode cX12_number 102 = .ok (.getfield 7, 3) := by decide +kernel
theorem dX12_number_105 : decode cX12_number 105 = .ok (.aload_n 0, 1) := by decide +kernel
theorem dX12_number_106 : decode cX12_number 106 = .ok (.getfield 157, 3) := by decide +kernel
theorem dX12_number_109 : decode cX12_number 109 = .ok (.iaload, 1) := by decide +kernel
theorem dX12_number_110 : decode cX12_number 110 = .ok (.iadd, 1) := by decide +kernel
theorem dX12_number_111 : decode cX12_number 111 = .ok (.bipush 48, 2) := by decide +kernel
theorem dX12_number_113 : decode cX12_number 113 = .ok (.isub, 1) := by decide +kernel
theorem dX12_number_114 : decode cX12_number 114 = .ok (.istore 4, 2) := by decide +kernel
theorem dX12_number_116 : decode cX12_number 116 = .ok (.aload_n 0, 1) := by decide +kernel
theorem dX12_number_117 : decode cX12_number 117 = .ok (.dup, 1) := by decide +kernel
theorem dX12_number_118 : decode cX12_number 118 = .ok (.getfield 157, 3) := by decide +kernel
theorem dX12_number_121 : decode cX12_number 121 = .ok (.iconst 1, 1) := by decide +kernel
theorem dX12_number_122 : decode cX12_number 122 = .ok (.iadd, 1) := by decide +kernel
theorem dX12_number_123 : decode cX12_number 123 = .ok (.putfield 157, 3) := by decide +kernel
theorem dX12_number_126 : decode cX12_number 126 = .ok (.goto (-77), 3) := by decide +kernel
theorem dX12_number_85 : decode cX12_number 85 = .ok (.aload_n 0, 1) := by decide +kernel
theorem dX12_number_86 : decode cX12_number 86 = .ok (.iconst 1, 1) := by decide +kernel
theorem dX12_number_87 : decode cX12_number 87 = .ok (.aload_n 0, 1) := by decide +kernel
theorem dX12_number_88 : decode cX12_number 88 = .ok (.getfield 157, 3) := by decide +kernel
theorem dX12_number_91 : decode cX12_number 91 = .ok (.invokevirtual 181, 3) := by decide +kernel
theorem dX12_number_94 : decode cX12_number 94 = .ok (.iconst 0, 1) := by decide +kernel
theorem dX12_number_95 : decode cX12_number 95 = .ok (.ireturn, 1) := by decide +kernel
theorem dX12_number_7 : decode cX12_number 7 = .ok (.iconst 0, 1) := by decide +kernel
theorem dX12_number_8 : decode cX12_number 8 = .ok (.ireturn, 1) := by decide +kernel
theorem dX12_house_65 : decode cX12_house 65 = .ok (.iastore, 1) := by decide +kernel
theorem dX12_house_66 : decode cX12_house 66 = .ok (.aload_n 0, 1) := by decide +kernel
theorem dX12_house_67 : decode cX12_house 67 = .ok (.getfield 66, 3) := by decide +kernel
theorem dX12_house_70 : decode cX12_house 70 = .ok (.iconst 1, 1) := by decide +kernel
theorem dX12_house_71 : decode cX12_house 71 = .ok (.aload_n 0, 1) := by decide +kernel
theorem dX12_house_72 : decode cX12_house 72 = .ok (.iconst 1, 1) := by decide +kernel
theorem dX12_house_73 : decode cX12_house 73 = .ok (.iconst 5, 1) := by decide +kernel
theorem dX12_house_74 : decode cX12_house 74 = .ok (.invokevirtual 195, 3) := by decide +kernel
theorem dX12_house_77 : decode cX12_house 77 = .ok (.iastore, 1) := by decide +kernel
theorem dX12_house_78 : decode cX12_house 78 = .ok (.aload_n 0, 1) := by decide +kernel
theorem dX12_house_79 : decode cX12_house 79 = .ok (.getfield 66, 3) := by decide +kernel
theorem dX12_house_82 : decode cX12_house 82 = .ok (.iconst 2, 1) := by decide +kernel
theorem dX12_house_83 : decode cX12_house 83 = .ok (.aload_n 0, 1) := by decide +kernel
theorem dX12_house_84 : decode cX12_house 84 = .ok (.iconst 1, 1) := by decide +kernel
theorem dX12_house_85 : decode cX12_house 85 = .ok (.bipush 6, 2) := by decide +kernel
theorem dX12_house_87 : decode cX12_house 87 = .ok (.invokevirtual 195, 3) := by decide +kernel
theorem dX12_house_90 : decode cX12_house 90 = .ok (.iastore, 1) := by decide +kernel
theorem dX12_house_91 : decode cX12_house 91 = .ok (.aload_n 0, 1) := by decide +kernel
theorem dX12_house_92 : decode cX12_house 92 = .ok (.getfield 66, 3) := by decide +kernel
theorem dX12_house_95 : decode cX12_house 95 = .ok (.iconst 3, 1) := by decide +kernel
theorem dX12_house_96 : decode cX12_house 96 = .ok (.iconst 0, 1) := by decide +kernel
theorem dX12_house_97 : decode cX12_house 97 = .ok (.iastore, 1) := by decide +kernel
theorem dX12_house_98 : decode cX12_house 98 = .ok (.aload_n 0, 1) := by decide +kernel
theorem dX12_house_99 : decode cX12_house 99 = .ok (.getfield 66, 3) := by decide +kernel
theorem dX12_house_102 : decode cX12_house 102 = .ok (.iconst 4, 1) := by decide +kernel
theorem dX12_house_103 : decode cX12_house 103 = .ok (.iconst 0, 1) := by decide +kernel
theorem dX12_house_104 : decode cX12_house 104 = .ok (.iastore, 1) := by decide +kernel
theorem dX12_house_105 : decode cX12_house 105 = .ok (.aload_n 0, 1) := by decide +kernel
theorem dX12_house_106 : decode cX12_house 106 = .ok (.getfield 66, 3) := by decide +kernel
theorem dX12_house_109 : decode cX12_house 109 = .ok (.iconst 5, 1) := by decide +kernel
theorem dX12_house_110 : decode cX12_house 110 = .ok (.sipush 9999, 3) := by decide +kernel
theorem dX12_house_113 : decode cX12_house 113 = .ok (.iastore, 1) := by decide +kernel
theorem dX12_house_114 : decode cX12_house 114 = .ok (.iconst 0, 1) := by decide +kernel
theorem dX12_house_115 : decode cX12_house 115 = .ok (.istore_n 1, 1) := by decide +kernel
theorem dX12_house_116 : decode cX12_house 116 = .ok (.iload_n 1, 1) := by decide +kernel
theorem dX12_house_117 : decode cX12_house 117 = .ok (.bipush 30, 2) := by decide +kernel
theorem dX12_house_119 : decode cX12_house 119 = .ok (.if_icmp .ge 19, 3) := by decide +kernel
theorem dX12_house_122 : decode cX12_house 122 = .ok (.aload_n 0, 1) := by decide +kernel
theorem dX12_house_123 : decode cX12_house 123 = .ok (.getfield 69, 3) := by decide +kernel
theorem dX12_house_126 : decode cX12_house 126 = .ok (.bipush 30, 2) := by decide +kernel
theorem dX12_house_128 : decode cX12_house 128 = .ok (.iload_n 1, 1) := by decide +kernel
theorem dX12_house_129 : decode cX12_house 129 = .ok (.iadd, 1) := by decide +kernel
theorem dX12_house_130 : decode cX12_house 130 = .ok (.iconst 0, 1) := by decide +kernel
theorem dX12_house_131 : decode cX12_house 131 = .ok (.iastore, 1) := by decide +kernel
theorem dX12_house_132 : decode cX12_house 132 = .ok (.iinc 1 1, 3) := by decide +kernel
theorem dX12_house_135 : decode cX12_house 135 = .ok (.goto (-19), 3) := by decide +kernel
theorem dX12_house_138 : decode cX12_house 138 = .ok (.aload_n 0, 1) := by decide +kernel
theorem dX12_house_139 : decode cX12_house 139 = .ok (.bipush 59, 2) := by decide +kernel
theorem dX12_house_141 : decode cX12_house 141 = .ok (.invokevirtual 219, 3) := by decide +kernel
theorem dX12_asksSign_0 : decode cX12_asksSign 0 = .ok (.aload_n 0, 1) := by decide +kernel
theorem dX12_asksSign_1 : decode cX12_asksSign 1 = .ok (.getfield 151, 3) := by decide +kernel
theorem dX12_asksSign_4 : decode cX12_asksSign 4 = .ok (.ifCond .ne 20, 3) := by decide +kernel
theorem dX12_asksSign_24 : decode cX12_asksSign 24 = .ok (.return_, 1) := by decide +kernel
theorem dX12_asksSign_7 : decode cX12_asksSign 7 = .ok (.aload_n 0, 1) := by decide +kernel
theorem dX12_asksSign_8 : decode cX12_asksSign 8 = .ok (.iload_n 1, 1) := by decide +kernel
theorem dX12_asksSign_9 : decode cX12_asksSign 9 = .ok (.invokevirtual 185, 3) := by decide +kernel
theorem dX12_takesSign_0 : decode cX12_takesSign 0 = .ok (.aload_n 0, 1) := by decide +kernel
theorem dX12_takesSign_1 : decode cX12_takesSign 1 = .ok (.getfield 151, 3) := by decide +kernel
theorem dX12_takesSign_4 : decode cX12_takesSign 4 = .ok (.ifCond .ne 11, 3) := by decide +kernel
theorem dX12_takesSign_15 : decode cX12_takesSign 15 = .ok (.iconst 0, 1) := by decide +kernel
theorem dX12_takesSign_16 : decode cX12_takesSign 16 = .ok (.ireturn, 1) := by decide +kernel
theorem dX12_takesSign_7 : decode cX12_takesSign 7 = .ok (.aload_n 0, 1) := by decide +kernel
theorem dX12_takesSign_8 : decode cX12_takesSign 8 = .ok (.invokevirtual 163, 3) := by decide +kernel
theorem dX12_takesSign_11 : decode cX12_takesSign 11 = .ok (.iload_n 1, 1) := by decide +kernel
theorem dX12_takesSign_12 : decode cX12_takesSign 12 = .ok (.if_icmp .eq 5, 3) := by decide +kernel
theorem dX12_takesSign_17 : decode cX12_takesSign 17 = .ok (.aload_n 0, 1) := by decide +kernel
theorem dX12_takesSign_18 : decode cX12_takesSign 18 = .ok (.dup, 1) := by decide +kernel
theorem dX12_takesSign_19 : decode cX12_takesSign 19 = .ok (.getfield 157, 3) := by decide +kernel
theorem dX12_takesSign_22 : decode cX12_takesSign 22 = .ok (.iconst 1, 1) := by decide +kernel
theorem dX12_takesSign_23 : decode cX12_takesSign 23 = .ok (.iadd, 1) := by decide +kernel
theorem dX12_takesSign_24 : decode cX12_takesSign 24 = .ok (.putfield 157, 3) := by decide +kernel
theorem dX12_takesSign_27 : decode cX12_takesSign 27 = .ok (.iconst 1, 1) := by decide +kernel
theorem dX12_takesSign_28 : decode cX12_takesSign 28 = .ok (.ireturn, 1) := by decide +kernel
theorem dX12_asksSign_12 : decode cX12_asksSign 12 = .ok (.ifCond .ne 12, 3) := by decide +kernel
theorem dX12_asksSign_15 : decode cX12_asksSign 15 = .ok (.aload_n 0, 1) := by decide +kernel
theorem dX12_asksSign_16 : decode cX12_asksSign 16 = .ok (.iconst 1, 1) := by decide +kernel
theorem dX12_asksSign_17 : decode cX12_asksSign 17 = .ok (.aload_n 0, 1) := by decide +kernel
theorem dX12_asksSign_18 : decode cX12_asksSign 18 = .ok (.getfield 157, 3) := by decide +kernel
theorem dX12_asksSign_21 : decode cX12_asksSign 21 = .ok (.invokevirtual 181, 3) := by decide +kernel
theorem dX12_house_144 : decode cX12_house 144 = .ok (.aload_n 0, 1) := by decide +kernel
theorem dX12_house_145 : decode cX12_house 145 = .ok (.iconst 1, 1) := by decide +kernel
theorem dX12_house_146 : decode cX12_house 146 = .ok (.putfield 202, 3) := by decide +kernel
theorem dX12_house_149 : decode cX12_house 149 = .ok (.aload_n 0, 1) := by decide +kernel
theorem dX12_house_150 : decode cX12_house 150 = .ok (.getfield 151, 3) := by decide +kernel
theorem dX12_house_153 : decode cX12_house 153 = .ok (.ifCond .ne 18, 3) := by decide +kernel
theorem dX12_house_171 : decode cX12_house 171 = .ok (.aload_n 0, 1) := by decide +kernel
theorem dX12_house_172 : decode cX12_house 172 = .ok (.aload_n 0, 1) := by decide +kernel
theorem dX12_house_173 : decode cX12_house 173 = .ok (.getfield 151, 3) := by decide +kernel
theorem dX12_house_176 : decode cX12_house 176 = .ok (.putfield 228, 3) := by decide +kernel
theorem dX12_house_179 : decode cX12_house 179 = .ok (.aload_n 0, 1) := by decide +kernel
theorem dX12_house_180 : decode cX12_house 180 = .ok (.aload_n 0, 1) := by decide +kernel
theorem dX12_house_181 : decode cX12_house 181 = .ok (.getfield 154, 3) := by decide +kernel
theorem dX12_house_184 : decode cX12_house 184 = .ok (.putfield 13, 3) := by decide +kernel
theorem dX12_house_187 : decode cX12_house 187 = .ok (.aload_n 0, 1) := by decide +kernel
theorem dX12_house_188 : decode cX12_house 188 = .ok (.getfield 151, 3) := by decide +kernel
theorem dX12_house_191 : decode cX12_house 191 = .ok (.ifCond .eq 5, 3) := by decide +kernel
theorem dX12_house_196 : decode cX12_house 196 = .ok (.aload_n 0, 1) := by decide +kernel
theorem dX12_house_197 : decode cX12_house 197 = .ok (.invokevirtual 231, 3) := by decide +kernel
theorem dX12_stands_0 : decode cX12_stands 0 = .ok (.aload_n 0, 1) := by decide +kernel
theorem dX12_stands_1 : decode cX12_stands 1 = .ok (.aload_n 0, 1) := by decide +kernel
theorem dX12_stands_2 : decode cX12_stands 2 = .ok (.getfield 66, 3) := by decide +kernel
theorem dX12_stands_5 : decode cX12_stands 5 = .ok (.iconst 0, 1) := by decide +kernel
theorem dX12_stands_6 : decode cX12_stands 6 = .ok (.iaload, 1) := by decide +kernel
theorem dX12_stands_7 : decode cX12_stands 7 = .ok (.putfield 234, 3) := by decide +kernel
theorem dX12_stands_10 : decode cX12_stands 10 = .ok (.aload_n 0, 1) := by decide +kernel
theorem dX12_stands_11 : decode cX12_stands 11 = .ok (.aload_n 0, 1) := by decide +kernel
theorem dX12_stands_12 : decode cX12_stands 12 = .ok (.getfield 66, 3) := by decide +kernel
theorem dX12_stands_15 : decode cX12_stands 15 = .ok (.iconst 1, 1) := by decide +kernel
theorem dX12_stands_16 : decode cX12_stands 16 = .ok (.iaload, 1) := by decide +kernel
theorem dX12_stands_17 : decode cX12_stands 17 = .ok (.putfield 237, 3) := by decide +kernel
theorem dX12_stands_20 : decode cX12_stands 20 = .ok (.aload_n 0, 1) := by decide +kernel
theorem dX12_stands_21 : decode cX12_stands 21 = .ok (.aload_n 0, 1) := by decide +kernel
theorem dX12_stands_22 : decode cX12_stands 22 = .ok (.getfield 66, 3) := by decide +kernel
theorem dX12_stands_25 : decode cX12_stands 25 = .ok (.iconst 2, 1) := by decide +kernel
theorem dX12_stands_26 : decode cX12_stands 26 = .ok (.iaload, 1) := by decide +kernel
theorem dX12_stands_27 : decode cX12_stands 27 = .ok (.putfield 240, 3) := by decide +kernel
theorem dX12_stands_30 : decode cX12_stands 30 = .ok (.aload_n 0, 1) := by decide +kernel
theorem dX12_stands_31 : decode cX12_stands 31 = .ok (.aload_n 0, 1) := by decide +kernel
theorem dX12_stands_32 : decode cX12_stands 32 = .ok (.getfield 66, 3) := by decide +kernel
theorem dX12_stands_35 : decode cX12_stands 35 = .ok (.iconst 3, 1) := by decide +kernel
theorem dX12_stands_36 : decode cX12_stands 36 = .ok (.iaload, 1) := by decide +kernel
theorem dX12_stands_37 : decode cX12_stands 37 = .ok (.putfield 243, 3) := by decide +kernel
theorem dX12_stands_40 : decode cX12_stands 40 = .ok (.aload_n 0, 1) := by decide +kernel
theorem dX12_stands_41 : decode cX12_stands 41 = .ok (.aload_n 0, 1) := by decide +kernel
theorem dX12_stands_42 : decode cX12_stands 42 = .ok (.getfield 66, 3) := by decide +kernel
theorem dX12_stands_45 : decode cX12_stands 45 = .ok (.iconst 4, 1) := by decide +kernel
theorem dX12_stands_46 : decode cX12_stands 46 = .ok (.iaload, 1) := by decide +kernel
theorem dX12_stands_47 : decode cX12_stands 47 = .ok (.putfield 246, 3) := by decide +kernel
theorem dX12_stands_50 : decode cX12_stands 50 = .ok (.aload_n 0, 1) := by decide +kernel
theorem dX12_stands_51 : decode cX12_stands 51 = .ok (.aload_n 0, 1) := by decide +kernel
theorem dX12_stands_52 : decode cX12_stands 52 = .ok (.getfield 66, 3) := by decide +kernel
theorem dX12_stands_55 : decode cX12_stands 55 = .ok (.iconst 5, 1) := by decide +kernel
theorem dX12_stands_56 : decode cX12_stands 56 = .ok (.iaload, 1) := by decide +kernel
theorem dX12_stands_57 : decode cX12_stands 57 = .ok (.putfield 63, 3) := by decide +kernel
theorem dX12_stands_60 : decode cX12_stands 60 = .ok (.iconst 0, 1) := by decide +kernel
theorem dX12_stands_61 : decode cX12_stands 61 = .ok (.istore_n 1, 1) := by decide +kernel
theorem dX12_stands_62 : decode cX12_stands 62 = .ok (.iload_n 1, 1) := by decide +kernel
theorem dX12_stands_63 : decode cX12_stands 63 = .ok (.bipush 30, 2) := by decide +kernel
theorem dX12_stands_65 : decode cX12_stands 65 = .ok (.if_icmp .ge 24, 3) := by decide +kernel
theorem dX12_stands_68 : decode cX12_stands 68 = .ok (.aload_n 0, 1) := by decide +kernel
theorem dX12_stands_69 : decode cX12_stands 69 = .ok (.getfield 69, 3) := by decide +kernel
theorem dX12_stands_72 : decode cX12_stands 72 = .ok (.iload_n 1, 1) := by decide +kernel
theorem dX12_stands_73 : decode cX12_stands 73 = .ok (.aload_n 0, 1) := by decide +kernel
theorem dX12_stands_74 : decode cX12_stands 74 = .ok (.getfield 69, 3) := by decide +kernel
theorem dX12_stands_77 : decode cX12_stands 77 = .ok (.bipush 30, 2) := by decide +kernel
theorem dX12_stands_79 : decode cX12_stands 79 = .ok (.iload_n 1, 1) := by decide +kernel
theorem dX12_stands_80 : decode cX12_stands 80 = .ok (.iadd, 1) := by decide +kernel
theorem dX12_stands_81 : decode cX12_stands 81 = .ok (.iaload, 1) := by decide +kernel
theorem dX12_stands_82 : decode cX12_stands 82 = .ok (.iastore, 1) := by decide +kernel
theorem dX12_stands_83 : decode cX12_stands 83 = .ok (.iinc 1 1, 3) := by decide +kernel
theorem dX12_stands_86 : decode cX12_stands 86 = .ok (.goto (-24), 3) := by decide +kernel
theorem dX12_stands_89 : decode cX12_stands 89 = .ok (.iconst 0, 1) := by decide +kernel
theorem dX12_stands_90 : decode cX12_stands 90 = .ok (.istore_n 1, 1) := by decide +kernel
theorem dX12_stands_91 : decode cX12_stands 91 = .ok (.iload_n 1, 1) := by decide +kernel
theorem dX12_stands_92 : decode cX12_stands 92 = .ok (.bipush 80, 2) := by decide +kernel
theorem dX12_stands_94 : decode cX12_stands 94 = .ok (.if_icmp .ge 24, 3) := by decide +kernel
theorem dX12_stands_97 : decode cX12_stands 97 = .ok (.aload_n 0, 1) := by decide +kernel
theorem dX12_stands_98 : decode cX12_stands 98 = .ok (.getfield 72, 3) := by decide +kernel
theorem dX12_stands_101 : decode cX12_stands 101 = .ok (.iload_n 1, 1) := by decide +kernel
theorem dX12_stands_102 : decode cX12_stands 102 = .ok (.aload_n 0, 1) := by decide +kernel
theorem dX12_stands_103 : decode cX12_stands 103 = .ok (.getfield 72, 3) := by decide +kernel
theorem dX12_stands_106 : decode cX12_stands 106 = .ok (.bipush 80, 2) := by decide +kernel
theorem dX12_stands_108 : decode cX12_stands 108 = .ok (.iload_n 1, 1) := by decide +kernel
theorem dX12_stands_109 : decode cX12_stands 109 = .ok (.iadd, 1) := by decide +kernel
theorem dX12_stands_110 : decode cX12_stands 110 = .ok (.iaload, 1) := by decide +kernel
theorem dX12_stands_111 : decode cX12_stands 111 = .ok (.iastore, 1) := by decide +kernel
theorem dX12_stands_112 : decode cX12_stands 112 = .ok (.iinc 1 1, 3) := by decide +kernel
theorem dX12_stands_115 : decode cX12_stands 115 = .ok (.goto (-24), 3) := by decide +kernel
theorem dX12_stands_118 : decode cX12_stands 118 = .ok (.aload_n 0, 1) := by decide +kernel
theorem dX12_stands_119 : decode cX12_stands 119 = .ok (.getfield 81, 3) := by decide +kernel
theorem dX12_stands_122 : decode cX12_stands 122 = .ok (.iconst 0, 1) := by decide +kernel
theorem dX12_stands_123 : decode cX12_stands 123 = .ok (.aload_n 0, 1) := by decide +kernel
theorem dX12_stands_124 : decode cX12_stands 124 = .ok (.getfield 81, 3) := by decide +kernel
theorem dX12_stands_127 : decode cX12_stands 127 = .ok (.iconst 1, 1) := by decide +kernel
theorem dX12_stands_128 : decode cX12_stands 128 = .ok (.iaload, 1) := by decide +kernel
theorem dX12_stands_129 : decode cX12_stands 129 = .ok (.iastore, 1) := by decide +kernel
theorem dX12_stands_130 : decode cX12_stands 130 = .ok (.iconst 0, 1) := by decide +kernel
theorem dX12_stands_131 : decode cX12_stands 131 = .ok (.istore_n 1, 1) := by decide +kernel
theorem dX12_stands_132 : decode cX12_stands 132 = .ok (.iload_n 1, 1) := by decide +kernel
theorem dX12_stands_133 : decode cX12_stands 133 = .ok (.bipush 8, 2) := by decide +kernel
theorem dX12_stands_135 : decode cX12_stands 135 = .ok (.if_icmp .ge 54, 3) := by decide +kernel
theorem dX12_stands_138 : decode cX12_stands 138 = .ok (.aload_n 0, 1) := by decide +kernel
theorem dX12_stands_139 : decode cX12_stands 139 = .ok (.getfield 84, 3) := by decide +kernel
theorem dX12_stands_142 : decode cX12_stands 142 = .ok (.iload_n 1, 1) := by decide +kernel
theorem dX12_stands_143 : decode cX12_stands 143 = .ok (.aload_n 0, 1) := by decide +kernel
theorem dX12_stands_144 : decode cX12_stands 144 = .ok (.getfield 84, 3) := by decide +kernel
theorem dX12_stands_147 : decode cX12_stands 147 = .ok (.bipush 8, 2) := by decide +kernel
theorem dX12_stands_149 : decode cX12_stands 149 = .ok (.iload_n 1, 1) := by decide +kernel
theorem dX12_stands_150 : decode cX12_stands 150 = .ok (.iadd, 1) := by decide +kernel
theorem dX12_stands_151 : decode cX12_stands 151 = .ok (.iaload, 1) := by decide +kernel
theorem dX12_stands_152 : decode cX12_stands 152 = .ok (.iastore, 1) := by decide +kernel
theorem dX12_stands_153 : decode cX12_stands 153 = .ok (.aload_n 0, 1) := by decide +kernel
theorem dX12_stands_154 : decode cX12_stands 154 = .ok (.getfield 87, 3) := by decide +kernel
theorem dX12_stands_157 : decode cX12_stands 157 = .ok (.iload_n 1, 1) := by decide +kernel
theorem dX12_stands_158 : decode cX12_stands 158 = .ok (.aload_n 0, 1) := by decide +kernel
theorem dX12_stands_159 : decode cX12_stands 159 = .ok (.getfield 87, 3) := by decide +kernel
theorem dX12_stands_162 : decode cX12_stands 162 = .ok (.bipush 8, 2) := by decide +kernel
theorem dX12_stands_164 : decode cX12_stands 164 = .ok (.iload_n 1, 1) := by decide +kernel
theorem dX12_stands_165 : decode cX12_stands 165 = .ok (.iadd, 1) := by decide +kernel
theorem dX12_stands_166 : decode cX12_stands 166 = .ok (.iaload, 1) := by decide +kernel
theorem dX12_stands_167 : decode cX12_stands 167 = .ok (.iastore, 1) := by decide +kernel
theorem dX12_stands_168 : decode cX12_stands 168 = .ok (.aload_n 0, 1) := by decide +kernel
theorem dX12_stands_169 : decode cX12_stands 169 = .ok (.getfield 90, 3) := by decide +kernel
theorem dX12_stands_172 : decode cX12_stands 172 = .ok (.iload_n 1, 1) := by decide +kernel
theorem dX12_stands_173 : decode cX12_stands 173 = .ok (.aload_n 0, 1) := by decide +kernel
theorem dX12_stands_174 : decode cX12_stands 174 = .ok (.getfield 90, 3) := by decide +kernel
theorem dX12_stands_177 : decode cX12_stands 177 = .ok (.bipush 8, 2) := by decide +kernel
theorem dX12_stands_179 : decode cX12_stands 179 = .ok (.iload_n 1, 1) := by decide +kernel
theorem dX12_stands_180 : decode cX12_stands 180 = .ok (.iadd, 1) := by decide +kernel
theorem dX12_stands_181 : decode cX12_stands 181 = .ok (.iaload, 1) := by decide +kernel
theorem dX12_stands_182 : decode cX12_stands 182 = .ok (.iastore, 1) := by decide +kernel
theorem dX12_stands_183 : decode cX12_stands 183 = .ok (.iinc 1 1, 3) := by decide +kernel
theorem dX12_stands_186 : decode cX12_stands 186 = .ok (.goto (-54), 3) := by decide +kernel
theorem dX12_stands_189 : decode cX12_stands 189 = .ok (.iconst 0, 1) := by decide +kernel
theorem dX12_stands_190 : decode cX12_stands 190 = .ok (.istore_n 1, 1) := by decide +kernel
theorem dX12_stands_191 : decode cX12_stands 191 = .ok (.iload_n 1, 1) := by decide +kernel
theorem dX12_stands_192 : decode cX12_stands 192 = .ok (.aload_n 0, 1) := by decide +kernel
theorem dX12_stands_193 : decode cX12_stands 193 = .ok (.getfield 222, 3) := by decide +kernel
theorem dX12_stands_196 : decode cX12_stands 196 = .ok (.if_icmp .ge 25, 3) := by decide +kernel
theorem dX12_stands_221 : decode cX12_stands 221 = .ok (.iconst 0, 1) := by decide +kernel
theorem dX12_stands_222 : decode cX12_stands 222 = .ok (.istore_n 1, 1) := by decide +kernel
theorem dX12_stands_223 : decode cX12_stands 223 = .ok (.iload_n 1, 1) := by decide +kernel
theorem dX12_stands_224 : decode cX12_stands 224 = .ok (.bipush 6, 2) := by decide +kernel
theorem dX12_stands_226 : decode cX12_stands 226 = .ok (.if_icmp .ge 16, 3) := by decide +kernel
theorem dX12_stands_229 : decode cX12_stands 229 = .ok (.aload_n 0, 1) := by decide +kernel
theorem dX12_stands_230 : decode cX12_stands 230 = .ok (.getfield 100, 3) := by decide +kernel
theorem dX12_stands_233 : decode cX12_stands 233 = .ok (.iload_n 1, 1) := by decide +kernel
theorem dX12_stands_234 : decode cX12_stands 234 = .ok (.iconst 0, 1) := by decide +kernel
theorem dX12_stands_235 : decode cX12_stands 235 = .ok (.iastore, 1) := by decide +kernel
theorem dX12_stands_236 : decode cX12_stands 236 = .ok (.iinc 1 1, 3) := by decide +kernel
theorem dX12_stands_239 : decode cX12_stands 239 = .ok (.goto (-16), 3) := by decide +kernel
theorem dX12_stands_242 : decode cX12_stands 242 = .ok (.aload_n 0, 1) := by decide +kernel
theorem dX12_stands_243 : decode cX12_stands 243 = .ok (.invokevirtual 249, 3) := by decide +kernel
theorem dX12_leadsAnew_0 : decode cX12_leadsAnew 0 = .ok (.iconst 0, 1) := by decide +kernel
theorem dX12_leadsAnew_1 : decode cX12_leadsAnew 1 = .ok (.istore_n 1, 1) := by decide +kernel
theorem dX12_leadsAnew_2 : decode cX12_leadsAnew 2 = .ok (.iload_n 1, 1) := by decide +kernel
theorem dX12_leadsAnew_3 : decode cX12_leadsAnew 3 = .ok (.bipush 30, 2) := by decide +kernel
theorem dX12_leadsAnew_5 : decode cX12_leadsAnew 5 = .ok (.if_icmp .ge 21, 3) := by decide +kernel
theorem dX12_leadsAnew_8 : decode cX12_leadsAnew 8 = .ok (.aload_n 0, 1) := by decide +kernel
theorem dX12_leadsAnew_9 : decode cX12_leadsAnew 9 = .ok (.getfield 97, 3) := by decide +kernel
theorem dX12_leadsAnew_12 : decode cX12_leadsAnew 12 = .ok (.iload_n 1, 1) := by decide +kernel
theorem dX12_leadsAnew_13 : decode cX12_leadsAnew 13 = .ok (.aload_n 0, 1) := by decide +kernel
theorem dX12_leadsAnew_14 : decode cX12_leadsAnew 14 = .ok (.getfield 69, 3) := by decide +kernel
theorem dX12_leadsAnew_17 : decode cX12_leadsAnew 17 = .ok (.iload_n 1, 1) := by decide +kernel
theorem dX12_leadsAnew_18 : decode cX12_leadsAnew 18 = .ok (.iaload, 1) := by decide +kernel
theorem dX12_leadsAnew_19 : decode cX12_leadsAnew 19 = .ok (.iastore, 1) := by decide +kernel
theorem dX12_leadsAnew_20 : decode cX12_leadsAnew 20 = .ok (.iinc 1 1, 3) := by decide +kernel
theorem dX12_leadsAnew_23 : decode cX12_leadsAnew 23 = .ok (.goto (-21), 3) := by decide +kernel
theorem dX12_leadsAnew_26 : decode cX12_leadsAnew 26 = .ok (.iconst 0, 1) := by decide +kernel
theorem dX12_leadsAnew_27 : decode cX12_leadsAnew 27 = .ok (.istore_n 1, 1) := by decide +kernel
theorem dX12_leadsAnew_28 : decode cX12_leadsAnew 28 = .ok (.iload_n 1, 1) := by decide +kernel
theorem dX12_leadsAnew_29 : decode cX12_leadsAnew 29 = .ok (.bipush 25, 2) := by decide +kernel
theorem dX12_leadsAnew_31 : decode cX12_leadsAnew 31 = .ok (.if_icmp .ge 29, 3) := by decide +kernel
theorem dX12_leadsAnew_34 : decode cX12_leadsAnew 34 = .ok (.aload_n 0, 1) := by decide +kernel
theorem dX12_leadsAnew_35 : decode cX12_leadsAnew 35 = .ok (.getfield 121, 3) := by decide +kernel
theorem dX12_leadsAnew_38 : decode cX12_leadsAnew 38 = .ok (.iload_n 1, 1) := by decide +kernel
