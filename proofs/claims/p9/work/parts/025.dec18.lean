theorem dX12_apart_1 : decode cX12_apart 1 = .ok (.iload_n 1, 1) := by decide +kernel
theorem dX12_apart_2 : decode cX12_apart 2 = .ok (.invokevirtual 454, 3) := by decide +kernel
theorem dX12_apart_5 : decode cX12_apart 5 = .ok (.ifCond .eq 27, 3) := by decide +kernel
theorem dX12_apart_32 : decode cX12_apart 32 = .ok (.ldc2_w 384, 3) := by decide +kernel
theorem dX12_apart_35 : decode cX12_apart 35 = .ok (.lreturn, 1) := by decide +kernel
theorem dX12_apart_8 : decode cX12_apart 8 = .ok (.aload_n 0, 1) := by decide +kernel
theorem dX12_apart_9 : decode cX12_apart 9 = .ok (.iload_n 1, 1) := by decide +kernel
theorem dX12_apart_10 : decode cX12_apart 10 = .ok (.iconst 2, 1) := by decide +kernel
theorem dX12_apart_11 : decode cX12_apart 11 = .ok (.aload_n 0, 1) := by decide +kernel
theorem dX12_apart_12 : decode cX12_apart 12 = .ok (.getfield 234, 3) := by decide +kernel
theorem dX12_apart_15 : decode cX12_apart 15 = .ok (.imul, 1) := by decide +kernel
theorem dX12_apart_16 : decode cX12_apart 16 = .ok (.iconst 2, 1) := by decide +kernel
theorem dX12_apart_17 : decode cX12_apart 17 = .ok (.isub, 1) := by decide +kernel
theorem dX12_apart_18 : decode cX12_apart 18 = .ok (.iconst 2, 1) := by decide +kernel
theorem dX12_apart_19 : decode cX12_apart 19 = .ok (.invokevirtual 457, 3) := by decide +kernel
theorem dX12_word_0 : decode cX12_word 0 = .ok (.iload_n 1, 1) := by decide +kernel
theorem dX12_word_1 : decode cX12_word 1 = .ok (.i2l, 1) := by decide +kernel
theorem dX12_word_2 : decode cX12_word 2 = .ok (.lconst 0, 1) := by decide +kernel
theorem dX12_word_3 : decode cX12_word 3 = .ok (.aload_n 0, 1) := by decide +kernel
theorem dX12_word_4 : decode cX12_word 4 = .ok (.getfield 246, 3) := by decide +kernel
theorem dX12_word_7 : decode cX12_word 7 = .ok (.iconst 1, 1) := by decide +kernel
theorem dX12_word_8 : decode cX12_word 8 = .ok (.isub, 1) := by decide +kernel
theorem dX12_word_9 : decode cX12_word 9 = .ok (.i2l, 1) := by decide +kernel
theorem dX12_word_10 : decode cX12_word 10 = .ok (.invokestatic 191, 3) := by decide +kernel
theorem dX12_word_13 : decode cX12_word 13 = .ok (.ifCond .eq 24, 3) := by decide +kernel
theorem dX12_word_37 : decode cX12_word 37 = .ok (.ldc_w 364, 3) := by decide +kernel
theorem dX12_word_40 : decode cX12_word 40 = .ok (.ireturn, 1) := by decide +kernel
theorem dX12_word_16 : decode cX12_word 16 = .ok (.aload_n 0, 1) := by decide +kernel
theorem dX12_word_17 : decode cX12_word 17 = .ok (.iload_n 2, 1) := by decide +kernel
theorem dX12_word_18 : decode cX12_word 18 = .ok (.invokevirtual 361, 3) := by decide +kernel
theorem dX12_word_21 : decode cX12_word 21 = .ok (.ifCond .eq 16, 3) := by decide +kernel
theorem dX12_word_24 : decode cX12_word 24 = .ok (.aload_n 0, 1) := by decide +kernel
theorem dX12_word_25 : decode cX12_word 25 = .ok (.getfield 72, 3) := by decide +kernel
theorem dX12_word_28 : decode cX12_word 28 = .ok (.iconst 5, 1) := by decide +kernel
theorem dX12_word_29 : decode cX12_word 29 = .ok (.iload_n 1, 1) := by decide +kernel
theorem dX12_word_30 : decode cX12_word 30 = .ok (.imul, 1) := by decide +kernel
theorem dX12_word_31 : decode cX12_word 31 = .ok (.iload_n 2, 1) := by decide +kernel
theorem dX12_word_32 : decode cX12_word 32 = .ok (.iadd, 1) := by decide +kernel
theorem dX12_word_33 : decode cX12_word 33 = .ok (.iaload, 1) := by decide +kernel
theorem dX12_word_34 : decode cX12_word 34 = .ok (.goto 6, 3) := by decide +kernel
theorem dX12_code_0 : decode cX12_code 0 = .ok (.iload_n 1, 1) := by decide +kernel
theorem dX12_code_1 : decode cX12_code 1 = .ok (.i2l, 1) := by decide +kernel
theorem dX12_code_2 : decode cX12_code 2 = .ok (.lconst 0, 1) := by decide +kernel
theorem dX12_code_3 : decode cX12_code 3 = .ok (.ldc2_w 460, 3) := by decide +kernel
theorem dX12_code_6 : decode cX12_code 6 = .ok (.invokestatic 191, 3) := by decide +kernel
theorem dX12_code_9 : decode cX12_code 9 = .ok (.ifCond .eq 20, 3) := by decide +kernel
theorem dX12_code_29 : decode cX12_code 29 = .ok (.ldc2_w 384, 3) := by decide +kernel
theorem dX12_code_32 : decode cX12_code 32 = .ok (.lreturn, 1) := by decide +kernel
theorem dX12_code_12 : decode cX12_code 12 = .ok (.aload_n 0, 1) := by decide +kernel
theorem dX12_code_13 : decode cX12_code 13 = .ok (.getfield 246, 3) := by decide +kernel
theorem dX12_code_16 : decode cX12_code 16 = .ok (.iload_n 1, 1) := by decide +kernel
theorem dX12_code_17 : decode cX12_code 17 = .ok (.iconst 3, 1) := by decide +kernel
theorem dX12_code_18 : decode cX12_code 18 = .ok (.if_icmp .ne 7, 3) := by decide +kernel
theorem dX12_code_25 : decode cX12_code 25 = .ok (.iconst 2, 1) := by decide +kernel
theorem dX12_code_26 : decode cX12_code 26 = .ok (.if_icmp .ge 7, 3) := by decide +kernel
theorem dX12_code_33 : decode cX12_code 33 = .ok (.lconst 0, 1) := by decide +kernel
theorem dX12_code_34 : decode cX12_code 34 = .ok (.lstore_n 2, 1) := by decide +kernel
theorem dX12_code_35 : decode cX12_code 35 = .ok (.iconst 0, 1) := by decide +kernel
theorem dX12_code_36 : decode cX12_code 36 = .ok (.istore 4, 2) := by decide +kernel
theorem dX12_code_38 : decode cX12_code 38 = .ok (.iload 4, 2) := by decide +kernel
theorem dX12_code_40 : decode cX12_code 40 = .ok (.aload_n 0, 1) := by decide +kernel
theorem dX12_code_41 : decode cX12_code 41 = .ok (.getfield 246, 3) := by decide +kernel
theorem dX12_code_44 : decode cX12_code 44 = .ok (.if_icmp .ge 29, 3) := by decide +kernel
theorem dX12_code_47 : decode cX12_code 47 = .ok (.aload_n 0, 1) := by decide +kernel
theorem dX12_code_48 : decode cX12_code 48 = .ok (.iload 4, 2) := by decide +kernel
theorem dX12_code_50 : decode cX12_code 50 = .ok (.invokevirtual 462, 3) := by decide +kernel
theorem dX12_power_0 : decode cX12_power 0 = .ok (.iconst 0, 1) := by decide +kernel
theorem dX12_power_1 : decode cX12_power 1 = .ok (.istore_n 2, 1) := by decide +kernel
theorem dX12_power_2 : decode cX12_power 2 = .ok (.iconst 0, 1) := by decide +kernel
theorem dX12_power_3 : decode cX12_power 3 = .ok (.istore_n 3, 1) := by decide +kernel
theorem dX12_power_4 : decode cX12_power 4 = .ok (.iload_n 3, 1) := by decide +kernel
theorem dX12_power_5 : decode cX12_power 5 = .ok (.aload_n 0, 1) := by decide +kernel
theorem dX12_power_6 : decode cX12_power 6 = .ok (.getfield 237, 3) := by decide +kernel
theorem dX12_power_9 : decode cX12_power 9 = .ok (.if_icmp .ge 33, 3) := by decide +kernel
theorem dX12_power_42 : decode cX12_power 42 = .ok (.iload_n 2, 1) := by decide +kernel
theorem dX12_power_43 : decode cX12_power 43 = .ok (.ireturn, 1) := by decide +kernel
theorem dX12_power_12 : decode cX12_power 12 = .ok (.iload_n 2, 1) := by decide +kernel
theorem dX12_power_13 : decode cX12_power 13 = .ok (.aload_n 0, 1) := by decide +kernel
theorem dX12_power_14 : decode cX12_power 14 = .ok (.getfield 72, 3) := by decide +kernel
theorem dX12_power_17 : decode cX12_power 17 = .ok (.iconst 5, 1) := by decide +kernel
theorem dX12_power_18 : decode cX12_power 18 = .ok (.iload_n 1, 1) := by decide +kernel
theorem dX12_power_19 : decode cX12_power 19 = .ok (.imul, 1) := by decide +kernel
theorem dX12_power_20 : decode cX12_power 20 = .ok (.iload_n 3, 1) := by decide +kernel
theorem dX12_power_21 : decode cX12_power 21 = .ok (.iadd, 1) := by decide +kernel
theorem dX12_power_22 : decode cX12_power 22 = .ok (.iaload, 1) := by decide +kernel
theorem dX12_power_23 : decode cX12_power 23 = .ok (.aload_n 0, 1) := by decide +kernel
theorem dX12_power_24 : decode cX12_power 24 = .ok (.getfield 72, 3) := by decide +kernel
theorem dX12_power_27 : decode cX12_power 27 = .ok (.iconst 5, 1) := by decide +kernel
theorem dX12_power_28 : decode cX12_power 28 = .ok (.iload_n 1, 1) := by decide +kernel
theorem dX12_power_29 : decode cX12_power 29 = .ok (.imul, 1) := by decide +kernel
theorem dX12_power_30 : decode cX12_power 30 = .ok (.iload_n 3, 1) := by decide +kernel
theorem dX12_power_31 : decode cX12_power 31 = .ok (.iadd, 1) := by decide +kernel
theorem dX12_power_32 : decode cX12_power 32 = .ok (.iaload, 1) := by decide +kernel
theorem dX12_power_33 : decode cX12_power 33 = .ok (.imul, 1) := by decide +kernel
theorem dX12_power_34 : decode cX12_power 34 = .ok (.iadd, 1) := by decide +kernel
theorem dX12_power_35 : decode cX12_power 35 = .ok (.istore_n 2, 1) := by decide +kernel
theorem dX12_power_36 : decode cX12_power 36 = .ok (.iinc 3 1, 3) := by decide +kernel
theorem dX12_power_39 : decode cX12_power 39 = .ok (.goto (-35), 3) := by decide +kernel
theorem dX12_code_53 : decode cX12_code 53 = .ok (.i2l, 1) := by decide +kernel
theorem dX12_code_54 : decode cX12_code 54 = .ok (.lload_n 2, 1) := by decide +kernel
theorem dX12_code_55 : decode cX12_code 55 = .ok (.lcmp, 1) := by decide +kernel
theorem dX12_code_56 : decode cX12_code 56 = .ok (.ifCond .le 11, 3) := by decide +kernel
theorem dX12_code_67 : decode cX12_code 67 = .ok (.iinc 4 1, 3) := by decide +kernel
theorem dX12_code_70 : decode cX12_code 70 = .ok (.goto (-32), 3) := by decide +kernel
theorem dX12_code_59 : decode cX12_code 59 = .ok (.aload_n 0, 1) := by decide +kernel
theorem dX12_code_60 : decode cX12_code 60 = .ok (.iload 4, 2) := by decide +kernel
theorem dX12_code_62 : decode cX12_code 62 = .ok (.invokevirtual 462, 3) := by decide +kernel
theorem dX12_code_65 : decode cX12_code 65 = .ok (.i2l, 1) := by decide +kernel
theorem dX12_code_66 : decode cX12_code 66 = .ok (.lstore_n 2, 1) := by decide +kernel
theorem dX12_code_73 : decode cX12_code 73 = .ok (.iload_n 1, 1) := by decide +kernel
theorem dX12_code_74 : decode cX12_code 74 = .ok (.iconst 3, 1) := by decide +kernel
theorem dX12_code_75 : decode cX12_code 75 = .ok (.if_icmp .ne 5, 3) := by decide +kernel
theorem dX12_code_80 : decode cX12_code 80 = .ok (.ldc2_w 384, 3) := by decide +kernel
theorem dX12_code_83 : decode cX12_code 83 = .ok (.lstore 4, 2) := by decide +kernel
theorem dX12_code_85 : decode cX12_code 85 = .ok (.iconst 0, 1) := by decide +kernel
theorem dX12_code_86 : decode cX12_code 86 = .ok (.istore 6, 2) := by decide +kernel
theorem dX12_code_88 : decode cX12_code 88 = .ok (.iconst 0, 1) := by decide +kernel
theorem dX12_code_89 : decode cX12_code 89 = .ok (.istore 7, 2) := by decide +kernel
theorem dX12_code_91 : decode cX12_code 91 = .ok (.iconst 0, 1) := by decide +kernel
theorem dX12_code_92 : decode cX12_code 92 = .ok (.istore 8, 2) := by decide +kernel
theorem dX12_code_94 : decode cX12_code 94 = .ok (.iload 8, 2) := by decide +kernel
theorem dX12_code_96 : decode cX12_code 96 = .ok (.aload_n 0, 1) := by decide +kernel
theorem dX12_code_97 : decode cX12_code 97 = .ok (.getfield 246, 3) := by decide +kernel
theorem dX12_code_100 : decode cX12_code 100 = .ok (.if_icmp .ge 83, 3) := by decide +kernel
theorem dX12_code_103 : decode cX12_code 103 = .ok (.iload 8, 2) := by decide +kernel
theorem dX12_code_105 : decode cX12_code 105 = .ok (.iconst 1, 1) := by decide +kernel
theorem dX12_code_106 : decode cX12_code 106 = .ok (.iadd, 1) := by decide +kernel
theorem dX12_code_107 : decode cX12_code 107 = .ok (.istore 9, 2) := by decide +kernel
theorem dX12_code_109 : decode cX12_code 109 = .ok (.iload 9, 2) := by decide +kernel
theorem dX12_code_111 : decode cX12_code 111 = .ok (.aload_n 0, 1) := by decide +kernel
theorem dX12_code_112 : decode cX12_code 112 = .ok (.getfield 246, 3) := by decide +kernel
theorem dX12_code_115 : decode cX12_code 115 = .ok (.if_icmp .ge 62, 3) := by decide +kernel
theorem dX12_code_118 : decode cX12_code 118 = .ok (.aload_n 0, 1) := by decide +kernel
theorem dX12_code_119 : decode cX12_code 119 = .ok (.iload 8, 2) := by decide +kernel
theorem dX12_code_121 : decode cX12_code 121 = .ok (.iload 9, 2) := by decide +kernel
theorem dX12_code_123 : decode cX12_code 123 = .ok (.invokevirtual 465, 3) := by decide +kernel
theorem dX12_apartOf_0 : decode cX12_apartOf 0 = .ok (.iconst 0, 1) := by decide +kernel
theorem dX12_apartOf_1 : decode cX12_apartOf 1 = .ok (.istore_n 3, 1) := by decide +kernel
theorem dX12_apartOf_2 : decode cX12_apartOf 2 = .ok (.iload_n 3, 1) := by decide +kernel
theorem dX12_apartOf_3 : decode cX12_apartOf 3 = .ok (.aload_n 0, 1) := by decide +kernel
theorem dX12_apartOf_4 : decode cX12_apartOf 4 = .ok (.getfield 237, 3) := by decide +kernel
theorem dX12_apartOf_7 : decode cX12_apartOf 7 = .ok (.if_icmp .ge 36, 3) := by decide +kernel
theorem dX12_apartOf_43 : decode cX12_apartOf 43 = .ok (.aload_n 0, 1) := by decide +kernel
theorem dX12_apartOf_44 : decode cX12_apartOf 44 = .ok (.iconst 0, 1) := by decide +kernel
theorem dX12_apartOf_45 : decode cX12_apartOf 45 = .ok (.invokevirtual 380, 3) := by decide +kernel
theorem dX12_apartOf_48 : decode cX12_apartOf 48 = .ok (.lreturn, 1) := by decide +kernel
theorem dX12_apartOf_10 : decode cX12_apartOf 10 = .ok (.aload_n 0, 1) := by decide +kernel
theorem dX12_apartOf_11 : decode cX12_apartOf 11 = .ok (.getfield 103, 3) := by decide +kernel
theorem dX12_apartOf_14 : decode cX12_apartOf 14 = .ok (.iload_n 3, 1) := by decide +kernel
theorem dX12_apartOf_15 : decode cX12_apartOf 15 = .ok (.aload_n 0, 1) := by decide +kernel
theorem dX12_apartOf_16 : decode cX12_apartOf 16 = .ok (.getfield 72, 3) := by decide +kernel
theorem dX12_apartOf_19 : decode cX12_apartOf 19 = .ok (.iconst 5, 1) := by decide +kernel
theorem dX12_apartOf_20 : decode cX12_apartOf 20 = .ok (.iload_n 1, 1) := by decide +kernel
theorem dX12_apartOf_21 : decode cX12_apartOf 21 = .ok (.imul, 1) := by decide +kernel
theorem dX12_apartOf_22 : decode cX12_apartOf 22 = .ok (.iload_n 3, 1) := by decide +kernel
theorem dX12_apartOf_23 : decode cX12_apartOf 23 = .ok (.iadd, 1) := by decide +kernel
theorem dX12_apartOf_24 : decode cX12_apartOf 24 = .ok (.iaload, 1) := by decide +kernel
theorem dX12_apartOf_25 : decode cX12_apartOf 25 = .ok (.aload_n 0, 1) := by decide +kernel
theorem dX12_apartOf_26 : decode cX12_apartOf 26 = .ok (.getfield 72, 3) := by decide +kernel
theorem dX12_apartOf_29 : decode cX12_apartOf 29 = .ok (.iconst 5, 1) := by decide +kernel
theorem dX12_apartOf_30 : decode cX12_apartOf 30 = .ok (.iload_n 2, 1) := by decide +kernel
theorem dX12_apartOf_31 : decode cX12_apartOf 31 = .ok (.imul, 1) := by decide +kernel
theorem dX12_apartOf_32 : decode cX12_apartOf 32 = .ok (.iload_n 3, 1) := by decide +kernel
theorem dX12_apartOf_33 : decode cX12_apartOf 33 = .ok (.iadd, 1) := by decide +kernel
theorem dX12_apartOf_34 : decode cX12_apartOf 34 = .ok (.iaload, 1) := by decide +kernel
theorem dX12_apartOf_35 : decode cX12_apartOf 35 = .ok (.isub, 1) := by decide +kernel
theorem dX12_apartOf_36 : decode cX12_apartOf 36 = .ok (.iastore, 1) := by decide +kernel
theorem dX12_apartOf_37 : decode cX12_apartOf 37 = .ok (.iinc 3 1, 3) := by decide +kernel
theorem dX12_apartOf_40 : decode cX12_apartOf 40 = .ok (.goto (-38), 3) := by decide +kernel
theorem dX12_code_126 : decode cX12_code 126 = .ok (.lstore 10, 2) := by decide +kernel
theorem dX12_code_128 : decode cX12_code 128 = .ok (.lload 4, 2) := by decide +kernel
theorem dX12_code_130 : decode cX12_code 130 = .ok (.lconst 0, 1) := by decide +kernel
theorem dX12_code_131 : decode cX12_code 131 = .ok (.lcmp, 1) := by decide +kernel
theorem dX12_code_132 : decode cX12_code 132 = .ok (.ifCond .lt 11, 3) := by decide +kernel
theorem dX12_code_143 : decode cX12_code 143 = .ok (.lload 10, 2) := by decide +kernel
theorem dX12_code_145 : decode cX12_code 145 = .ok (.lstore 4, 2) := by decide +kernel
theorem dX12_code_147 : decode cX12_code 147 = .ok (.iconst 0, 1) := by decide +kernel
theorem dX12_code_148 : decode cX12_code 148 = .ok (.istore 6, 2) := by decide +kernel
theorem dX12_code_150 : decode cX12_code 150 = .ok (.bipush 100, 2) := by decide +kernel
theorem dX12_code_152 : decode cX12_code 152 = .ok (.iload 8, 2) := by decide +kernel
theorem dX12_code_154 : decode cX12_code 154 = .ok (.imul, 1) := by decide +kernel
theorem dX12_code_155 : decode cX12_code 155 = .ok (.iload 9, 2) := by decide +kernel
theorem dX12_code_157 : decode cX12_code 157 = .ok (.iadd, 1) := by decide +kernel
theorem dX12_code_158 : decode cX12_code 158 = .ok (.istore 7, 2) := by decide +kernel
theorem dX12_code_160 : decode cX12_code 160 = .ok (.lload 10, 2) := by decide +kernel
theorem dX12_code_162 : decode cX12_code 162 = .ok (.lload 4, 2) := by decide +kernel
theorem dX12_code_164 : decode cX12_code 164 = .ok (.lcmp, 1) := by decide +kernel
theorem dX12_code_165 : decode cX12_code 165 = .ok (.ifCond .ne 6, 3) := by decide +kernel
theorem dX12_code_168 : decode cX12_code 168 = .ok (.iinc 6 1, 3) := by decide +kernel
theorem dX12_code_171 : decode cX12_code 171 = .ok (.iinc 9 1, 3) := by decide +kernel
theorem dX12_code_174 : decode cX12_code 174 = .ok (.goto (-65), 3) := by decide +kernel
theorem dX12_code_177 : decode cX12_code 177 = .ok (.iinc 8 1, 3) := by decide +kernel
theorem dX12_code_180 : decode cX12_code 180 = .ok (.goto (-86), 3) := by decide +kernel
theorem dX12_code_135 : decode cX12_code 135 = .ok (.lload 10, 2) := by decide +kernel
theorem dX12_code_137 : decode cX12_code 137 = .ok (.lload 4, 2) := by decide +kernel
theorem dX12_code_139 : decode cX12_code 139 = .ok (.lcmp, 1) := by decide +kernel
theorem dX12_code_140 : decode cX12_code 140 = .ok (.ifCond .ge 20, 3) := by decide +kernel
theorem dX12_code_183 : decode cX12_code 183 = .ok (.iload_n 1, 1) := by decide +kernel
theorem dX12_code_184 : decode cX12_code 184 = .ok (.ifCond .ne 8, 3) := by decide +kernel
theorem dX12_code_192 : decode cX12_code 192 = .ok (.iload_n 1, 1) := by decide +kernel
theorem dX12_code_193 : decode cX12_code 193 = .ok (.iconst 1, 1) := by decide +kernel
theorem dX12_code_194 : decode cX12_code 194 = .ok (.if_icmp .ne 9, 3) := by decide +kernel
theorem dX12_code_203 : decode cX12_code 203 = .ok (.iload 7, 2) := by decide +kernel
theorem dX12_code_205 : decode cX12_code 205 = .ok (.i2l, 1) := by decide +kernel
theorem dX12_code_206 : decode cX12_code 206 = .ok (.lreturn, 1) := by decide +kernel
theorem dX12_code_197 : decode cX12_code 197 = .ok (.iload 6, 2) := by decide +kernel
theorem dX12_code_199 : decode cX12_code 199 = .ok (.i2l, 1) := by decide +kernel
theorem dX12_code_200 : decode cX12_code 200 = .ok (.goto 6, 3) := by decide +kernel
theorem dX12_code_187 : decode cX12_code 187 = .ok (.lload 4, 2) := by decide +kernel
theorem dX12_code_189 : decode cX12_code 189 = .ok (.goto 17, 3) := by decide +kernel
theorem dX12_code_78 : decode cX12_code 78 = .ok (.lload_n 2, 1) := by decide +kernel
theorem dX12_code_79 : decode cX12_code 79 = .ok (.lreturn, 1) := by decide +kernel
theorem dX12_code_21 : decode cX12_code 21 = .ok (.iconst 1, 1) := by decide +kernel
theorem dX12_code_22 : decode cX12_code 22 = .ok (.goto 4, 3) := by decide +kernel
theorem dX12_leave_0 : decode cX12_leave 0 = .ok (.iload_n 1, 1) := by decide +kernel
theorem dX12_leave_1 : decode cX12_leave 1 = .ok (.i2l, 1) := by decide +kernel
theorem dX12_leave_2 : decode cX12_leave 2 = .ok (.lconst 0, 1) := by decide +kernel
theorem dX12_leave_3 : decode cX12_leave 3 = .ok (.lconst 1, 1) := by decide +kernel
theorem dX12_leave_4 : decode cX12_leave 4 = .ok (.invokestatic 191, 3) := by decide +kernel
theorem dX12_leave_7 : decode cX12_leave 7 = .ok (.ifCond .eq 11, 3) := by decide +kernel
theorem dX12_leave_18 : decode cX12_leave 18 = .ok (.ldc2_w 384, 3) := by decide +kernel
theorem dX12_leave_21 : decode cX12_leave 21 = .ok (.lreturn, 1) := by decide +kernel
theorem dX12_leave_10 : decode cX12_leave 10 = .ok (.aload_n 0, 1) := by decide +kernel
theorem dX12_leave_11 : decode cX12_leave 11 = .ok (.getfield 246, 3) := by decide +kernel
theorem dX12_leave_14 : decode cX12_leave 14 = .ok (.iconst 3, 1) := by decide +kernel
theorem dX12_leave_15 : decode cX12_leave 15 = .ok (.if_icmp .ge 7, 3) := by decide +kernel
theorem dX12_leave_22 : decode cX12_leave 22 = .ok (.iconst 0, 1) := by decide +kernel
theorem dX12_leave_23 : decode cX12_leave 23 = .ok (.istore_n 2, 1) := by decide +kernel
theorem dX12_leave_24 : decode cX12_leave 24 = .ok (.iconst 1, 1) := by decide +kernel
theorem dX12_leave_25 : decode cX12_leave 25 = .ok (.istore_n 3, 1) := by decide +kernel
theorem dX12_leave_26 : decode cX12_leave 26 = .ok (.iload_n 3, 1) := by decide +kernel
theorem dX12_leave_27 : decode cX12_leave 27 = .ok (.aload_n 0, 1) := by decide +kernel
theorem dX12_leave_28 : decode cX12_leave 28 = .ok (.getfield 246, 3) := by decide +kernel
theorem dX12_leave_31 : decode cX12_leave 31 = .ok (.if_icmp .ge 25, 3) := by decide +kernel
theorem dX12_leave_34 : decode cX12_leave 34 = .ok (.aload_n 0, 1) := by decide +kernel
theorem dX12_leave_35 : decode cX12_leave 35 = .ok (.iload_n 3, 1) := by decide +kernel
theorem dX12_leave_36 : decode cX12_leave 36 = .ok (.invokevirtual 468, 3) := by decide +kernel
theorem dX12_leastWithout_0 : decode cX12_leastWithout 0 = .ok (.ldc2_w 384, 3) := by decide +kernel
theorem dX12_leastWithout_3 : decode cX12_leastWithout 3 = .ok (.lstore_n 2, 1) := by decide +kernel
theorem dX12_leastWithout_4 : decode cX12_leastWithout 4 = .ok (.iconst 0, 1) := by decide +kernel
theorem dX12_leastWithout_5 : decode cX12_leastWithout 5 = .ok (.istore 4, 2) := by decide +kernel
theorem dX12_leastWithout_7 : decode cX12_leastWithout 7 = .ok (.iload 4, 2) := by decide +kernel
theorem dX12_leastWithout_9 : decode cX12_leastWithout 9 = .ok (.aload_n 0, 1) := by decide +kernel
theorem dX12_leastWithout_10 : decode cX12_leastWithout 10 = .ok (.getfield 246, 3) := by decide +kernel
theorem dX12_leastWithout_13 : decode cX12_leastWithout 13 = .ok (.if_icmp .ge 71, 3) := by decide +kernel
theorem dX12_leastWithout_84 : decode cX12_leastWithout 84 = .ok (.lload_n 2, 1) := by decide +kernel
theorem dX12_leastWithout_85 : decode cX12_leastWithout 85 = .ok (.lreturn, 1) := by decide +kernel
theorem dX12_leastWithout_16 : decode cX12_leastWithout 16 = .ok (.iload 4, 2) := by decide +kernel
theorem dX12_leastWithout_18 : decode cX12_leastWithout 18 = .ok (.iconst 1, 1) := by decide +kernel
theorem dX12_leastWithout_19 : decode cX12_leastWithout 19 = .ok (.iadd, 1) := by decide +kernel
theorem dX12_leastWithout_20 : decode cX12_leastWithout 20 = .ok (.istore 5, 2) := by decide +kernel
theorem dX12_leastWithout_22 : decode cX12_leastWithout 22 = .ok (.iload 5, 2) := by decide +kernel
theorem dX12_leastWithout_24 : decode cX12_leastWithout 24 = .ok (.aload_n 0, 1) := by decide +kernel
theorem dX12_leastWithout_25 : decode cX12_leastWithout 25 = .ok (.getfield 246, 3) := by decide +kernel
theorem dX12_leastWithout_28 : decode cX12_leastWithout 28 = .ok (.if_icmp .ge 50, 3) := by decide +kernel
theorem dX12_leastWithout_78 : decode cX12_leastWithout 78 = .ok (.iinc 4 1, 3) := by decide +kernel
theorem dX12_leastWithout_81 : decode cX12_leastWithout 81 = .ok (.goto (-74), 3) := by decide +kernel
theorem dX12_leastWithout_31 : decode cX12_leastWithout 31 = .ok (.iload 4, 2) := by decide +kernel
theorem dX12_leastWithout_33 : decode cX12_leastWithout 33 = .ok (.iload_n 1, 1) := by decide +kernel
theorem dX12_leastWithout_34 : decode cX12_leastWithout 34 = .ok (.if_icmp .eq 38, 3) := by decide +kernel
theorem dX12_leastWithout_72 : decode cX12_leastWithout 72 = .ok (.iinc 5 1, 3) := by decide +kernel
theorem dX12_leastWithout_75 : decode cX12_leastWithout 75 = .ok (.goto (-53), 3) := by decide +kernel
theorem dX12_leastWithout_37 : decode cX12_leastWithout 37 = .ok (.iload 5, 2) := by decide +kernel
theorem dX12_leastWithout_39 : decode cX12_leastWithout 39 = .ok (.iload_n 1, 1) := by decide +kernel
theorem dX12_leastWithout_40 : decode cX12_leastWithout 40 = .ok (.if_icmp .ne 6, 3) := by decide +kernel
theorem dX12_leastWithout_46 : decode cX12_leastWithout 46 = .ok (.aload_n 0, 1) := by decide +kernel
theorem dX12_leastWithout_47 : decode cX12_leastWithout 47 = .ok (.iload 4, 2) := by decide +kernel
theorem dX12_leastWithout_49 : decode cX12_leastWithout 49 = .ok (.iload 5, 2) := by decide +kernel
theorem dX12_leastWithout_51 : decode cX12_leastWithout 51 = .ok (.invokevirtual 465, 3) := by decide +kernel
theorem dX12_leastWithout_54 : decode cX12_leastWithout 54 = .ok (.lstore 6, 2) := by decide +kernel
theorem dX12_leastWithout_56 : decode cX12_leastWithout 56 = .ok (.lload_n 2, 1) := by decide +kernel
theorem dX12_leastWithout_57 : decode cX12_leastWithout 57 = .ok (.lconst 0, 1) := by decide +kernel
theorem dX12_leastWithout_58 : decode cX12_leastWithout 58 = .ok (.lcmp, 1) := by decide +kernel
theorem dX12_leastWithout_59 : decode cX12_leastWithout 59 = .ok (.ifCond .lt 10, 3) := by decide +kernel
theorem dX12_leastWithout_69 : decode cX12_leastWithout 69 = .ok (.lload 6, 2) := by decide +kernel
theorem dX12_leastWithout_71 : decode cX12_leastWithout 71 = .ok (.lstore_n 2, 1) := by decide +kernel
theorem dX12_leastWithout_43 : decode cX12_leastWithout 43 = .ok (.goto 29, 3) := by decide +kernel
theorem dX12_leastWithout_62 : decode cX12_leastWithout 62 = .ok (.lload 6, 2) := by decide +kernel
theorem dX12_leastWithout_64 : decode cX12_leastWithout 64 = .ok (.lload_n 2, 1) := by decide +kernel
theorem dX12_leastWithout_65 : decode cX12_leastWithout 65 = .ok (.lcmp, 1) := by decide +kernel
theorem dX12_leastWithout_66 : decode cX12_leastWithout 66 = .ok (.ifCond .ge 6, 3) := by decide +kernel
theorem dX12_leave_39 : decode cX12_leave 39 = .ok (.aload_n 0, 1) := by decide +kernel
theorem dX12_leave_40 : decode cX12_leave 40 = .ok (.iload_n 2, 1) := by decide +kernel
theorem dX12_leave_41 : decode cX12_leave 41 = .ok (.invokevirtual 468, 3) := by decide +kernel
theorem dX12_leave_44 : decode cX12_leave 44 = .ok (.lcmp, 1) := by decide +kernel
theorem dX12_leave_45 : decode cX12_leave 45 = .ok (.ifCond .le 5, 3) := by decide +kernel
theorem dX12_leave_50 : decode cX12_leave 50 = .ok (.iinc 3 1, 3) := by decide +kernel
theorem dX12_leave_53 : decode cX12_leave 53 = .ok (.goto (-27), 3) := by decide +kernel
theorem dX12_leave_48 : decode cX12_leave 48 = .ok (.iload_n 3, 1) := by decide +kernel
theorem dX12_leave_49 : decode cX12_leave 49 = .ok (.istore_n 2, 1) := by decide +kernel
theorem dX12_leave_56 : decode cX12_leave 56 = .ok (.iload_n 1, 1) := by decide +kernel
theorem dX12_leave_57 : decode cX12_leave 57 = .ok (.ifCond .ne 8, 3) := by decide +kernel
theorem dX12_leave_65 : decode cX12_leave 65 = .ok (.aload_n 0, 1) := by decide +kernel
theorem dX12_leave_66 : decode cX12_leave 66 = .ok (.iload_n 2, 1) := by decide +kernel
theorem dX12_leave_67 : decode cX12_leave 67 = .ok (.invokevirtual 468, 3) := by decide +kernel
theorem dX12_leave_70 : decode cX12_leave 70 = .ok (.lreturn, 1) := by decide +kernel
theorem dX12_leave_60 : decode cX12_leave 60 = .ok (.iload_n 2, 1) := by decide +kernel
theorem dX12_leave_61 : decode cX12_leave 61 = .ok (.i2l, 1) := by decide +kernel
theorem dX12_leave_62 : decode cX12_leave 62 = .ok (.goto 8, 3) := by decide +kernel
theorem dX12_behind_0 : decode cX12_behind 0 = .ok (.aload_n 0, 1) := by decide +kernel
theorem dX12_behind_1 : decode cX12_behind 1 = .ok (.iload_n 1, 1) := by decide +kernel
theorem dX12_behind_2 : decode cX12_behind 2 = .ok (.invokevirtual 471, 3) := by decide +kernel
theorem dX12_isWord_0 : decode cX12_isWord 0 = .ok (.iload_n 1, 1) := by decide +kernel
theorem dX12_isWord_1 : decode cX12_isWord 1 = .ok (.i2l, 1) := by decide +kernel
theorem dX12_isWord_2 : decode cX12_isWord 2 = .ok (.lconst 0, 1) := by decide +kernel
theorem dX12_isWord_3 : decode cX12_isWord 3 = .ok (.aload_n 0, 1) := by decide +kernel
theorem dX12_isWord_4 : decode cX12_isWord 4 = .ok (.getfield 246, 3) := by decide +kernel
theorem dX12_isWord_7 : decode cX12_isWord 7 = .ok (.iconst 1, 1) := by decide +kernel
theorem dX12_isWord_8 : decode cX12_isWord 8 = .ok (.isub, 1) := by decide +kernel
theorem dX12_isWord_9 : decode cX12_isWord 9 = .ok (.i2l, 1) := by decide +kernel
theorem dX12_isWord_10 : decode cX12_isWord 10 = .ok (.invokestatic 191, 3) := by decide +kernel
theorem dX12_isWord_13 : decode cX12_isWord 13 = .ok (.ireturn, 1) := by decide +kernel
theorem dX12_behind_5 : decode cX12_behind 5 = .ok (.ifCond .ne 5, 3) := by decide +kernel
theorem dX12_behind_10 : decode cX12_behind 10 = .ok (.aload_n 0, 1) := by decide +kernel
theorem dX12_behind_11 : decode cX12_behind 11 = .ok (.iload_n 1, 1) := by decide +kernel
theorem dX12_behind_12 : decode cX12_behind 12 = .ok (.invokevirtual 474, 3) := by decide +kernel
theorem dX12_numberOf_0 : decode cX12_numberOf 0 = .ok (.iconst 0, 1) := by decide +kernel
theorem dX12_numberOf_1 : decode cX12_numberOf 1 = .ok (.istore_n 2, 1) := by decide +kernel
theorem dX12_numberOf_2 : decode cX12_numberOf 2 = .ok (.iconst 0, 1) := by decide +kernel
theorem dX12_numberOf_3 : decode cX12_numberOf 3 = .ok (.istore_n 3, 1) := by decide +kernel
theorem dX12_numberOf_4 : decode cX12_numberOf 4 = .ok (.iload_n 3, 1) := by decide +kernel
theorem dX12_numberOf_5 : decode cX12_numberOf 5 = .ok (.aload_n 0, 1) := by decide +kernel
theorem dX12_numberOf_6 : decode cX12_numberOf 6 = .ok (.getfield 237, 3) := by decide +kernel
theorem dX12_numberOf_9 : decode cX12_numberOf 9 = .ok (.if_icmp .ge 36, 3) := by decide +kernel
theorem dX12_numberOf_45 : decode cX12_numberOf 45 = .ok (.iload_n 2, 1) := by decide +kernel
theorem dX12_numberOf_46 : decode cX12_numberOf 46 = .ok (.ireturn, 1) := by decide +kernel
theorem dX12_numberOf_12 : decode cX12_numberOf 12 = .ok (.iload_n 2, 1) := by decide +kernel
theorem dX12_numberOf_13 : decode cX12_numberOf 13 = .ok (.aload_n 0, 1) := by decide +kernel
theorem dX12_numberOf_14 : decode cX12_numberOf 14 = .ok (.getfield 234, 3) := by decide +kernel
theorem dX12_numberOf_17 : decode cX12_numberOf 17 = .ok (.imul, 1) := by decide +kernel
theorem dX12_numberOf_18 : decode cX12_numberOf 18 = .ok (.aload_n 0, 1) := by decide +kernel
theorem dX12_numberOf_19 : decode cX12_numberOf 19 = .ok (.getfield 72, 3) := by decide +kernel
theorem dX12_numberOf_22 : decode cX12_numberOf 22 = .ok (.iconst 5, 1) := by decide +kernel
theorem dX12_numberOf_23 : decode cX12_numberOf 23 = .ok (.iload_n 1, 1) := by decide +kernel
theorem dX12_numberOf_24 : decode cX12_numberOf 24 = .ok (.imul, 1) := by decide +kernel
theorem dX12_numberOf_25 : decode cX12_numberOf 25 = .ok (.iload_n 3, 1) := by decide +kernel
theorem dX12_numberOf_26 : decode cX12_numberOf 26 = .ok (.iadd, 1) := by decide +kernel
theorem dX12_numberOf_27 : decode cX12_numberOf 27 = .ok (.iaload, 1) := by decide +kernel
theorem dX12_numberOf_28 : decode cX12_numberOf 28 = .ok (.aload_n 0, 1) := by decide +kernel
theorem dX12_numberOf_29 : decode cX12_numberOf 29 = .ok (.getfield 234, 3) := by decide +kernel
theorem dX12_numberOf_32 : decode cX12_numberOf 32 = .ok (.iadd, 1) := by decide +kernel
theorem dX12_numberOf_33 : decode cX12_numberOf 33 = .ok (.iconst 1, 1) := by decide +kernel
theorem dX12_numberOf_34 : decode cX12_numberOf 34 = .ok (.isub, 1) := by decide +kernel
theorem dX12_numberOf_35 : decode cX12_numberOf 35 = .ok (.iconst 2, 1) := by decide +kernel
theorem dX12_numberOf_36 : decode cX12_numberOf 36 = .ok (.idiv, 1) := by decide +kernel
theorem dX12_numberOf_37 : decode cX12_numberOf 37 = .ok (.iadd, 1) := by decide +kernel
theorem dX12_numberOf_38 : decode cX12_numberOf 38 = .ok (.istore_n 2, 1) := by decide +kernel
theorem dX12_numberOf_39 : decode cX12_numberOf 39 = .ok (.iinc 3 1, 3) := by decide +kernel
theorem dX12_numberOf_42 : decode cX12_numberOf 42 = .ok (.goto (-38), 3) := by decide +kernel
theorem dX12_behind_15 : decode cX12_behind 15 = .ok (.istore_n 2, 1) := by decide +kernel
theorem dX12_behind_16 : decode cX12_behind 16 = .ok (.aload_n 0, 1) := by decide +kernel
theorem dX12_behind_17 : decode cX12_behind 17 = .ok (.iload_n 2, 1) := by decide +kernel
theorem dX12_behind_18 : decode cX12_behind 18 = .ok (.invokevirtual 409, 3) := by decide +kernel
theorem dX12_behind_21 : decode cX12_behind 21 = .ok (.lstore_n 3, 1) := by decide +kernel
theorem dX12_behind_22 : decode cX12_behind 22 = .ok (.iconst 0, 1) := by decide +kernel
theorem dX12_behind_23 : decode cX12_behind 23 = .ok (.istore 5, 2) := by decide +kernel
theorem dX12_behind_25 : decode cX12_behind 25 = .ok (.iconst 0, 1) := by decide +kernel
theorem dX12_behind_26 : decode cX12_behind 26 = .ok (.istore 6, 2) := by decide +kernel
theorem dX12_behind_28 : decode cX12_behind 28 = .ok (.iload 6, 2) := by decide +kernel
theorem dX12_behind_30 : decode cX12_behind 30 = .ok (.aload_n 0, 1) := by decide +kernel
theorem dX12_behind_31 : decode cX12_behind 31 = .ok (.invokevirtual 406, 3) := by decide +kernel
theorem dX12_behind_34 : decode cX12_behind 34 = .ok (.if_icmp .ge 40, 3) := by decide +kernel
theorem dX12_behind_74 : decode cX12_behind 74 = .ok (.iload 5, 2) := by decide +kernel
theorem dX12_behind_76 : decode cX12_behind 76 = .ok (.ireturn, 1) := by decide +kernel
theorem dX12_behind_37 : decode cX12_behind 37 = .ok (.aload_n 0, 1) := by decide +kernel
theorem dX12_behind_38 : decode cX12_behind 38 = .ok (.iload 6, 2) := by decide +kernel
theorem dX12_behind_40 : decode cX12_behind 40 = .ok (.invokevirtual 409, 3) := by decide +kernel
theorem dX12_behind_43 : decode cX12_behind 43 = .ok (.lstore 7, 2) := by decide +kernel
theorem dX12_behind_45 : decode cX12_behind 45 = .ok (.lload 7, 2) := by decide +kernel
theorem dX12_behind_47 : decode cX12_behind 47 = .ok (.lload_n 3, 1) := by decide +kernel
theorem dX12_behind_48 : decode cX12_behind 48 = .ok (.lcmp, 1) := by decide +kernel
theorem dX12_behind_49 : decode cX12_behind 49 = .ok (.ifCond .lt 16, 3) := by decide +kernel
theorem dX12_behind_65 : decode cX12_behind 65 = .ok (.iinc 5 1, 3) := by decide +kernel
theorem dX12_behind_68 : decode cX12_behind 68 = .ok (.iinc 6 1, 3) := by decide +kernel
theorem dX12_behind_71 : decode cX12_behind 71 = .ok (.goto (-43), 3) := by decide +kernel
theorem dX12_behind_52 : decode cX12_behind 52 = .ok (.lload 7, 2) := by decide +kernel
theorem dX12_behind_54 : decode cX12_behind 54 = .ok (.lload_n 3, 1) := by decide +kernel
theorem dX12_behind_55 : decode cX12_behind 55 = .ok (.lcmp, 1) := by decide +kernel
theorem dX12_behind_56 : decode cX12_behind 56 = .ok (.ifCond .ne 12, 3) := by decide +kernel
theorem dX12_behind_59 : decode cX12_behind 59 = .ok (.iload 6, 2) := by decide +kernel
theorem dX12_behind_61 : decode cX12_behind 61 = .ok (.iload_n 2, 1) := by decide +kernel
theorem dX12_behind_62 : decode cX12_behind 62 = .ok (.if_icmp .ge 6, 3) := by decide +kernel
theorem dX12_behind_8 : decode cX12_behind 8 = .ok (.iconst (-1), 1) := by decide +kernel
theorem dX12_behind_9 : decode cX12_behind 9 = .ok (.ireturn, 1) := by decide +kernel
theorem dX12_unlike_0 : decode cX12_unlike 0 = .ok (.aload_n 0, 1) := by decide +kernel
theorem dX12_unlike_1 : decode cX12_unlike 1 = .ok (.iload_n 1, 1) := by decide +kernel
theorem dX12_unlike_2 : decode cX12_unlike 2 = .ok (.invokevirtual 471, 3) := by decide +kernel
theorem dX12_unlike_5 : decode cX12_unlike 5 = .ok (.ifCond .eq 11, 3) := by decide +kernel
theorem dX12_unlike_16 : decode cX12_unlike 16 = .ok (.iconst (-1), 1) := by decide +kernel
theorem dX12_unlike_17 : decode cX12_unlike 17 = .ok (.ireturn, 1) := by decide +kernel
theorem dX12_unlike_8 : decode cX12_unlike 8 = .ok (.aload_n 0, 1) := by decide +kernel
theorem dX12_unlike_9 : decode cX12_unlike 9 = .ok (.iload_n 2, 1) := by decide +kernel
theorem dX12_unlike_10 : decode cX12_unlike 10 = .ok (.invokevirtual 471, 3) := by decide +kernel
theorem dX12_unlike_13 : decode cX12_unlike 13 = .ok (.ifCond .ne 5, 3) := by decide +kernel
theorem dX12_unlike_18 : decode cX12_unlike 18 = .ok (.iconst 0, 1) := by decide +kernel
theorem dX12_unlike_19 : decode cX12_unlike 19 = .ok (.istore_n 3, 1) := by decide +kernel
theorem dX12_unlike_20 : decode cX12_unlike 20 = .ok (.iconst 0, 1) := by decide +kernel
theorem dX12_unlike_21 : decode cX12_unlike 21 = .ok (.istore 4, 2) := by decide +kernel
theorem dX12_unlike_23 : decode cX12_unlike 23 = .ok (.iload 4, 2) := by decide +kernel
theorem dX12_unlike_25 : decode cX12_unlike 25 = .ok (.aload_n 0, 1) := by decide +kernel
