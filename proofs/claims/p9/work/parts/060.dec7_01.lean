theorem dX4_readSign_1 : decode cX4_readSign 1 = .ok (.getfield 29, 3) := by decide +kernel
theorem dX4_readSign_4 : decode cX4_readSign 4 = .ok (.iload_n 1, 1) := by decide +kernel
theorem dX4_readSign_5 : decode cX4_readSign 5 = .ok (.if_icmp .eq 8, 3) := by decide +kernel
theorem dX4_readSign_13 : decode cX4_readSign 13 = .ok (.aload_n 0, 1) := by decide +kernel
theorem dX4_readSign_14 : decode cX4_readSign 14 = .ok (.aload_n 0, 1) := by decide +kernel
theorem dX4_readSign_15 : decode cX4_readSign 15 = .ok (.getfield 25, 3) := by decide +kernel
theorem dX4_readSign_18 : decode cX4_readSign 18 = .ok (.iconst 1, 1) := by decide +kernel
theorem dX4_readSign_19 : decode cX4_readSign 19 = .ok (.iadd, 1) := by decide +kernel
theorem dX4_readSign_20 : decode cX4_readSign 20 = .ok (.iconst 0, 1) := by decide +kernel
theorem dX4_readSign_21 : decode cX4_readSign 21 = .ok (.invokevirtual 47, 3) := by decide +kernel
theorem dX4_readSign_24 : decode cX4_readSign 24 = .ok (.iconst 1, 1) := by decide +kernel
theorem dX4_readSign_25 : decode cX4_readSign 25 = .ok (.ireturn, 1) := by decide +kernel
theorem dX4_readSign_8 : decode cX4_readSign 8 = .ok (.aload_n 0, 1) := by decide +kernel
theorem dX4_readSign_9 : decode cX4_readSign 9 = .ok (.invokevirtual 51, 3) := by decide +kernel
theorem dX4_readSign_12 : decode cX4_readSign 12 = .ok (.ireturn, 1) := by decide +kernel
theorem dX4_readHouse_99 : decode cX4_readHouse 99 = .ok (.ifCond .ne 5, 3) := by decide +kernel
theorem dX4_readHouse_104 : decode cX4_readHouse 104 = .ok (.aload_n 0, 1) := by decide +kernel
theorem dX4_readHouse_105 : decode cX4_readHouse 105 = .ok (.getfield 21, 3) := by decide +kernel
theorem dX4_readHouse_108 : decode cX4_readHouse 108 = .ok (.iload_n 1, 1) := by decide +kernel
theorem dX4_readHouse_109 : decode cX4_readHouse 109 = .ok (.iconst 1, 1) := by decide +kernel
theorem dX4_readHouse_110 : decode cX4_readHouse 110 = .ok (.iadd, 1) := by decide +kernel
theorem dX4_readHouse_111 : decode cX4_readHouse 111 = .ok (.putfield 67, 3) := by decide +kernel
theorem dX4_readHouse_114 : decode cX4_readHouse 114 = .ok (.iinc 1 1, 3) := by decide +kernel
theorem dX4_readHouse_117 : decode cX4_readHouse 117 = .ok (.goto (-87), 3) := by decide +kernel
theorem dX4_readHouse_44 : decode cX4_readHouse 44 = .ok (.iload_n 1, 1) := by decide +kernel
theorem dX4_readHouse_45 : decode cX4_readHouse 45 = .ok (.ifCond .gt 10, 3) := by decide +kernel
theorem dX4_readHouse_48 : decode cX4_readHouse 48 = .ok (.aload_n 0, 1) := by decide +kernel
theorem dX4_readHouse_49 : decode cX4_readHouse 49 = .ok (.invokevirtual 51, 3) := by decide +kernel
theorem dX4_readHouse_52 : decode cX4_readHouse 52 = .ok (.ifCond .eq 7, 3) := by decide +kernel
theorem dX4_readHouse_59 : decode cX4_readHouse 59 = .ok (.iconst 0, 1) := by decide +kernel
theorem dX4_readHouse_60 : decode cX4_readHouse 60 = .ok (.ireturn, 1) := by decide +kernel
theorem dX4_readHouse_86 : decode cX4_readHouse 86 = .ok (.iconst 0, 1) := by decide +kernel
theorem dX4_readStatement_26 : decode cX4_readStatement 26 = .ok (.aload_n 0, 1) := by decide +kernel
theorem dX4_readStatement_27 : decode cX4_readStatement 27 = .ok (.ldc 115, 2) := by decide +kernel
theorem dX4_readStatement_29 : decode cX4_readStatement 29 = .ok (.invokevirtual 93, 3) := by decide +kernel
theorem dX4_readStatement_32 : decode cX4_readStatement 32 = .ok (.ifCond .eq 46, 3) := by decide +kernel
theorem dX4_readStatement_78 : decode cX4_readStatement 78 = .ok (.aload_n 0, 1) := by decide +kernel
theorem dX4_readStatement_79 : decode cX4_readStatement 79 = .ok (.ldc 129, 2) := by decide +kernel
theorem dX4_readStatement_81 : decode cX4_readStatement 81 = .ok (.invokevirtual 93, 3) := by decide +kernel
theorem dX4_readStatement_84 : decode cX4_readStatement 84 = .ok (.ifCond .eq 41, 3) := by decide +kernel
theorem dX4_readStatement_125 : decode cX4_readStatement 125 = .ok (.aload_n 0, 1) := by decide +kernel
theorem dX4_readStatement_126 : decode cX4_readStatement 126 = .ok (.ldc 137, 2) := by decide +kernel
theorem dX4_readStatement_128 : decode cX4_readStatement 128 = .ok (.invokevirtual 93, 3) := by decide +kernel
theorem dX4_readStatement_131 : decode cX4_readStatement 131 = .ok (.ifCond .eq 44, 3) := by decide +kernel
theorem dX4_readStatement_175 : decode cX4_readStatement 175 = .ok (.aload_n 0, 1) := by decide +kernel
theorem dX4_readStatement_176 : decode cX4_readStatement 176 = .ok (.ldc 151, 2) := by decide +kernel
theorem dX4_readStatement_178 : decode cX4_readStatement 178 = .ok (.invokevirtual 109, 3) := by decide +kernel
theorem dX4_readStatement_181 : decode cX4_readStatement 181 = .ok (.ifCond .eq 14, 3) := by decide +kernel
theorem dX4_readStatement_195 : decode cX4_readStatement 195 = .ok (.iconst 0, 1) := by decide +kernel
theorem dX4_readStatement_196 : decode cX4_readStatement 196 = .ok (.ireturn, 1) := by decide +kernel
theorem dX4_readStatement_184 : decode cX4_readStatement 184 = .ok (.aload_n 0, 1) := by decide +kernel
theorem dX4_readStatement_185 : decode cX4_readStatement 185 = .ok (.invokevirtual 153, 3) := by decide +kernel
theorem dX4_readLimit_0 : decode cX4_readLimit 0 = .ok (.aload_n 0, 1) := by decide +kernel
theorem dX4_readLimit_1 : decode cX4_readLimit 1 = .ok (.getfield 21, 3) := by decide +kernel
theorem dX4_readLimit_4 : decode cX4_readLimit 4 = .ok (.aload_n 0, 1) := by decide +kernel
theorem dX4_readLimit_5 : decode cX4_readLimit 5 = .ok (.iconst 0, 1) := by decide +kernel
theorem dX4_readLimit_6 : decode cX4_readLimit 6 = .ok (.sipush 9999, 3) := by decide +kernel
theorem dX4_readLimit_9 : decode cX4_readLimit 9 = .ok (.invokevirtual 156, 3) := by decide +kernel
theorem dX4_readLimit_12 : decode cX4_readLimit 12 = .ok (.putfield 191, 3) := by decide +kernel
theorem dX4_readLimit_15 : decode cX4_readLimit 15 = .ok (.aload_n 0, 1) := by decide +kernel
theorem dX4_readLimit_16 : decode cX4_readLimit 16 = .ok (.getfield 21, 3) := by decide +kernel
theorem dX4_readLimit_19 : decode cX4_readLimit 19 = .ok (.getfield 191, 3) := by decide +kernel
theorem dX4_readLimit_22 : decode cX4_readLimit 22 = .ok (.iconst (-1), 1) := by decide +kernel
theorem dX4_readLimit_23 : decode cX4_readLimit 23 = .ok (.if_icmp .eq 7, 3) := by decide +kernel
theorem dX4_readLimit_30 : decode cX4_readLimit 30 = .ok (.iconst 0, 1) := by decide +kernel
theorem dX4_readLimit_31 : decode cX4_readLimit 31 = .ok (.ireturn, 1) := by decide +kernel
theorem dX4_readLimit_26 : decode cX4_readLimit 26 = .ok (.iconst 1, 1) := by decide +kernel
theorem dX4_readLimit_27 : decode cX4_readLimit 27 = .ok (.goto 4, 3) := by decide +kernel
theorem dX4_readStatement_188 : decode cX4_readStatement 188 = .ok (.ifCond .eq 7, 3) := by decide +kernel
theorem dX4_readStatement_191 : decode cX4_readStatement 191 = .ok (.iconst 1, 1) := by decide +kernel
theorem dX4_readStatement_192 : decode cX4_readStatement 192 = .ok (.goto 4, 3) := by decide +kernel
theorem dX4_readStatement_134 : decode cX4_readStatement 134 = .ok (.aload_n 0, 1) := by decide +kernel
theorem dX4_readStatement_135 : decode cX4_readStatement 135 = .ok (.aload_n 0, 1) := by decide +kernel
theorem dX4_readStatement_136 : decode cX4_readStatement 136 = .ok (.getfield 21, 3) := by decide +kernel
theorem dX4_readStatement_139 : decode cX4_readStatement 139 = .ok (.getfield 139, 3) := by decide +kernel
theorem dX4_readStatement_142 : decode cX4_readStatement 142 = .ok (.getfield 143, 3) := by decide +kernel
theorem dX4_readStatement_145 : decode cX4_readStatement 145 = .ok (.bipush 8, 2) := by decide +kernel
theorem dX4_readStatement_147 : decode cX4_readStatement 147 = .ok (.invokevirtual 123, 3) := by decide +kernel
theorem dX4_hasRoom_0 : decode cX4_hasRoom 0 = .ok (.iload_n 1, 1) := by decide +kernel
theorem dX4_hasRoom_1 : decode cX4_hasRoom 1 = .ok (.iload_n 2, 1) := by decide +kernel
theorem dX4_hasRoom_2 : decode cX4_hasRoom 2 = .ok (.if_icmp .lt 15, 3) := by decide +kernel
theorem dX4_hasRoom_17 : decode cX4_hasRoom 17 = .ok (.iconst 1, 1) := by decide +kernel
theorem dX4_hasRoom_18 : decode cX4_hasRoom 18 = .ok (.goto 4, 3) := by decide +kernel
theorem dX4_hasRoom_22 : decode cX4_hasRoom 22 = .ok (.ireturn, 1) := by decide +kernel
theorem dX4_hasRoom_5 : decode cX4_hasRoom 5 = .ok (.aload_n 0, 1) := by decide +kernel
theorem dX4_hasRoom_6 : decode cX4_hasRoom 6 = .ok (.iconst 4, 1) := by decide +kernel
theorem dX4_hasRoom_7 : decode cX4_hasRoom 7 = .ok (.aload_n 0, 1) := by decide +kernel
theorem dX4_hasRoom_8 : decode cX4_hasRoom 8 = .ok (.getfield 25, 3) := by decide +kernel
theorem dX4_hasRoom_11 : decode cX4_hasRoom 11 = .ok (.invokevirtual 55, 3) := by decide +kernel
theorem dX4_hasRoom_14 : decode cX4_hasRoom 14 = .ok (.ifCond .eq 7, 3) := by decide +kernel
theorem dX4_hasRoom_21 : decode cX4_hasRoom 21 = .ok (.iconst 0, 1) := by decide +kernel
theorem dX4_readStatement_150 : decode cX4_readStatement 150 = .ok (.ifCond .eq 23, 3) := by decide +kernel
theorem dX4_readStatement_173 : decode cX4_readStatement 173 = .ok (.iconst 0, 1) := by decide +kernel
theorem dX4_readStatement_174 : decode cX4_readStatement 174 = .ok (.ireturn, 1) := by decide +kernel
theorem dX4_readStatement_153 : decode cX4_readStatement 153 = .ok (.aload_n 0, 1) := by decide +kernel
theorem dX4_readStatement_154 : decode cX4_readStatement 154 = .ok (.ldc 137, 2) := by decide +kernel
theorem dX4_readStatement_156 : decode cX4_readStatement 156 = .ok (.invokevirtual 109, 3) := by decide +kernel
theorem dX4_readStatement_159 : decode cX4_readStatement 159 = .ok (.ifCond .eq 14, 3) := by decide +kernel
theorem dX4_readStatement_162 : decode cX4_readStatement 162 = .ok (.aload_n 0, 1) := by decide +kernel
theorem dX4_readStatement_163 : decode cX4_readStatement 163 = .ok (.invokevirtual 148, 3) := by decide +kernel
theorem dX4_readRule_0 : decode cX4_readRule 0 = .ok (.aload_n 0, 1) := by decide +kernel
theorem dX4_readRule_1 : decode cX4_readRule 1 = .ok (.getfield 21, 3) := by decide +kernel
theorem dX4_readRule_4 : decode cX4_readRule 4 = .ok (.getfield 139, 3) := by decide +kernel
theorem dX4_readRule_7 : decode cX4_readRule 7 = .ok (.invokevirtual 193, 3) := by decide +kernel
theorem dX4_readRule_10 : decode cX4_readRule 10 = .ok (.aload_n 0, 1) := by decide +kernel
theorem dX4_readRule_11 : decode cX4_readRule 11 = .ok (.invokevirtual 196, 3) := by decide +kernel
theorem dX4_readSum_0 : decode cX4_readSum 0 = .ok (.aload_n 0, 1) := by decide +kernel
theorem dX4_readSum_1 : decode cX4_readSum 1 = .ok (.invokevirtual 240, 3) := by decide +kernel
theorem dX4_readProduct_0 : decode cX4_readProduct 0 = .ok (.aload_n 0, 1) := by decide +kernel
theorem dX4_readProduct_1 : decode cX4_readProduct 1 = .ok (.invokevirtual 243, 3) := by decide +kernel
theorem dX4_readPart_0 : decode cX4_readPart 0 = .ok (.aload_n 0, 1) := by decide +kernel
theorem dX4_readPart_1 : decode cX4_readPart 1 = .ok (.getfield 29, 3) := by decide +kernel
theorem dX4_readPart_4 : decode cX4_readPart 4 = .ok (.bipush 40, 2) := by decide +kernel
theorem dX4_readPart_6 : decode cX4_readPart 6 = .ok (.if_icmp .ne 48, 3) := by decide +kernel
theorem dX4_readPart_54 : decode cX4_readPart 54 = .ok (.aload_n 0, 1) := by decide +kernel
theorem dX4_readPart_55 : decode cX4_readPart 55 = .ok (.ldc 246, 2) := by decide +kernel
theorem dX4_readPart_57 : decode cX4_readPart 57 = .ok (.invokevirtual 97, 3) := by decide +kernel
theorem dX4_readPart_60 : decode cX4_readPart 60 = .ok (.ifCond .eq 9, 3) := by decide +kernel
theorem dX4_readPart_69 : decode cX4_readPart 69 = .ok (.aload_n 0, 1) := by decide +kernel
theorem dX4_readPart_70 : decode cX4_readPart 70 = .ok (.ldc 248, 2) := by decide +kernel
theorem dX4_readPart_72 : decode cX4_readPart 72 = .ok (.invokevirtual 97, 3) := by decide +kernel
theorem dX4_readPart_75 : decode cX4_readPart 75 = .ok (.ifCond .eq 10, 3) := by decide +kernel
theorem dX4_readPart_85 : decode cX4_readPart 85 = .ok (.aload_n 0, 1) := by decide +kernel
theorem dX4_readPart_86 : decode cX4_readPart 86 = .ok (.ldc 250, 2) := by decide +kernel
theorem dX4_readPart_88 : decode cX4_readPart 88 = .ok (.invokevirtual 97, 3) := by decide +kernel
theorem dX4_readPart_91 : decode cX4_readPart 91 = .ok (.ifCond .eq 10, 3) := by decide +kernel
theorem dX4_readPart_101 : decode cX4_readPart 101 = .ok (.aload_n 0, 1) := by decide +kernel
theorem dX4_readPart_102 : decode cX4_readPart 102 = .ok (.ldc 252, 2) := by decide +kernel
theorem dX4_readPart_104 : decode cX4_readPart 104 = .ok (.invokevirtual 97, 3) := by decide +kernel
theorem dX4_readPart_107 : decode cX4_readPart 107 = .ok (.ifCond .eq 25, 3) := by decide +kernel
theorem dX4_readPart_132 : decode cX4_readPart 132 = .ok (.aload_n 0, 1) := by decide +kernel
theorem dX4_readPart_133 : decode cX4_readPart 133 = .ok (.ldc_w 257, 3) := by decide +kernel
theorem dX4_readPart_136 : decode cX4_readPart 136 = .ok (.invokevirtual 97, 3) := by decide +kernel
theorem dX4_readPart_139 : decode cX4_readPart 139 = .ok (.ifCond .eq 25, 3) := by decide +kernel
theorem dX4_readPart_164 : decode cX4_readPart 164 = .ok (.aload_n 0, 1) := by decide +kernel
theorem dX4_readPart_165 : decode cX4_readPart 165 = .ok (.invokevirtual 103, 3) := by decide +kernel
theorem dX4_readPart_168 : decode cX4_readPart 168 = .ok (.istore_n 1, 1) := by decide +kernel
theorem dX4_readPart_169 : decode cX4_readPart 169 = .ok (.iload_n 1, 1) := by decide +kernel
theorem dX4_readPart_170 : decode cX4_readPart 170 = .ok (.iconst (-1), 1) := by decide +kernel
theorem dX4_readPart_171 : decode cX4_readPart 171 = .ok (.if_icmp .eq 15, 3) := by decide +kernel
theorem dX4_readPart_186 : decode cX4_readPart 186 = .ok (.iconst 0, 1) := by decide +kernel
theorem dX4_readPart_187 : decode cX4_readPart 187 = .ok (.ireturn, 1) := by decide +kernel
theorem dX4_readPart_174 : decode cX4_readPart 174 = .ok (.aload_n 0, 1) := by decide +kernel
theorem dX4_readPart_175 : decode cX4_readPart 175 = .ok (.iload_n 1, 1) := by decide +kernel
theorem dX4_readPart_176 : decode cX4_readPart 176 = .ok (.invokevirtual 219, 3) := by decide +kernel
theorem dX4_adds_0 : decode cX4_adds 0 = .ok (.aload_n 0, 1) := by decide +kernel
theorem dX4_adds_1 : decode cX4_adds 1 = .ok (.getfield 21, 3) := by decide +kernel
theorem dX4_adds_4 : decode cX4_adds 4 = .ok (.getfield 139, 3) := by decide +kernel
theorem dX4_adds_7 : decode cX4_adds 7 = .ok (.iload_n 1, 1) := by decide +kernel
theorem dX4_adds_8 : decode cX4_adds 8 = .ok (.invokevirtual 210, 3) := by decide +kernel
theorem dX4_adds_11 : decode cX4_adds 11 = .ok (.iconst 1, 1) := by decide +kernel
theorem dX4_adds_12 : decode cX4_adds 12 = .ok (.ireturn, 1) := by decide +kernel
theorem dX4_readPart_179 : decode cX4_readPart 179 = .ok (.ifCond .eq 7, 3) := by decide +kernel
theorem dX4_readPart_182 : decode cX4_readPart 182 = .ok (.iconst 1, 1) := by decide +kernel
theorem dX4_readPart_183 : decode cX4_readPart 183 = .ok (.goto 4, 3) := by decide +kernel
theorem dX4_readPart_142 : decode cX4_readPart 142 = .ok (.aload_n 0, 1) := by decide +kernel
theorem dX4_readPart_143 : decode cX4_readPart 143 = .ok (.invokevirtual 254, 3) := by decide +kernel
theorem dX4_readPair_0 : decode cX4_readPair 0 = .ok (.aload_n 0, 1) := by decide +kernel
theorem dX4_readPair_1 : decode cX4_readPair 1 = .ok (.getfield 29, 3) := by decide +kernel
theorem dX4_readPair_4 : decode cX4_readPair 4 = .ok (.bipush 40, 2) := by decide +kernel
theorem dX4_readPair_6 : decode cX4_readPair 6 = .ok (.if_icmp .eq 8, 3) := by decide +kernel
theorem dX4_readPair_14 : decode cX4_readPair 14 = .ok (.aload_n 0, 1) := by decide +kernel
theorem dX4_readPair_15 : decode cX4_readPair 15 = .ok (.invokevirtual 229, 3) := by decide +kernel
theorem dX4_opens_0 : decode cX4_opens 0 = .ok (.aload_n 0, 1) := by decide +kernel
theorem dX4_opens_1 : decode cX4_opens 1 = .ok (.getfield 35, 3) := by decide +kernel
theorem dX4_opens_4 : decode cX4_opens 4 = .ok (.bipush 6, 2) := by decide +kernel
theorem dX4_opens_6 : decode cX4_opens 6 = .ok (.if_icmp .lt 13, 3) := by decide +kernel
theorem dX4_opens_19 : decode cX4_opens 19 = .ok (.aload_n 0, 1) := by decide +kernel
theorem dX4_opens_20 : decode cX4_opens 20 = .ok (.dup, 1) := by decide +kernel
theorem dX4_opens_21 : decode cX4_opens 21 = .ok (.getfield 35, 3) := by decide +kernel
theorem dX4_opens_24 : decode cX4_opens 24 = .ok (.iconst 1, 1) := by decide +kernel
theorem dX4_opens_25 : decode cX4_opens 25 = .ok (.iadd, 1) := by decide +kernel
theorem dX4_opens_26 : decode cX4_opens 26 = .ok (.putfield 35, 3) := by decide +kernel
theorem dX4_opens_29 : decode cX4_opens 29 = .ok (.iconst 1, 1) := by decide +kernel
theorem dX4_opens_30 : decode cX4_opens 30 = .ok (.ireturn, 1) := by decide +kernel
theorem dX4_readPair_18 : decode cX4_readPair 18 = .ok (.ifCond .eq 55, 3) := by decide +kernel
theorem dX4_readPair_21 : decode cX4_readPair 21 = .ok (.aload_n 0, 1) := by decide +kernel
theorem dX4_readPair_22 : decode cX4_readPair 22 = .ok (.bipush 40, 2) := by decide +kernel
theorem dX4_readPair_24 : decode cX4_readPair 24 = .ok (.invokevirtual 63, 3) := by decide +kernel
theorem dX4_readPair_27 : decode cX4_readPair 27 = .ok (.ifCond .eq 46, 3) := by decide +kernel
theorem dX4_readPair_73 : decode cX4_readPair 73 = .ok (.iconst 0, 1) := by decide +kernel
theorem dX4_readPair_74 : decode cX4_readPair 74 = .ok (.ireturn, 1) := by decide +kernel
theorem dX4_readPair_30 : decode cX4_readPair 30 = .ok (.aload_n 0, 1) := by decide +kernel
theorem dX4_readPair_31 : decode cX4_readPair 31 = .ok (.invokevirtual 196, 3) := by decide +kernel
theorem dX4_opens_9 : decode cX4_opens 9 = .ok (.aload_n 0, 1) := by decide +kernel
theorem dX4_opens_10 : decode cX4_opens 10 = .ok (.iconst 3, 1) := by decide +kernel
theorem dX4_opens_11 : decode cX4_opens 11 = .ok (.aload_n 0, 1) := by decide +kernel
theorem dX4_opens_12 : decode cX4_opens 12 = .ok (.getfield 25, 3) := by decide +kernel
theorem dX4_opens_15 : decode cX4_opens 15 = .ok (.invokevirtual 55, 3) := by decide +kernel
theorem dX4_opens_18 : decode cX4_opens 18 = .ok (.ireturn, 1) := by decide +kernel
theorem dX4_readPair_9 : decode cX4_readPair 9 = .ok (.aload_n 0, 1) := by decide +kernel
theorem dX4_readPair_10 : decode cX4_readPair 10 = .ok (.invokevirtual 51, 3) := by decide +kernel
theorem dX4_readPair_13 : decode cX4_readPair 13 = .ok (.ireturn, 1) := by decide +kernel
theorem dX4_readPart_146 : decode cX4_readPart 146 = .ok (.ifCond .eq 16, 3) := by decide +kernel
theorem dX4_readPart_162 : decode cX4_readPart 162 = .ok (.iconst 0, 1) := by decide +kernel
theorem dX4_readPart_163 : decode cX4_readPart 163 = .ok (.ireturn, 1) := by decide +kernel
theorem dX4_readPart_110 : decode cX4_readPart 110 = .ok (.aload_n 0, 1) := by decide +kernel
theorem dX4_readPart_111 : decode cX4_readPart 111 = .ok (.invokevirtual 254, 3) := by decide +kernel
theorem dX4_readPart_114 : decode cX4_readPart 114 = .ok (.ifCond .eq 16, 3) := by decide +kernel
theorem dX4_readPart_130 : decode cX4_readPart 130 = .ok (.iconst 0, 1) := by decide +kernel
theorem dX4_readPart_131 : decode cX4_readPart 131 = .ok (.ireturn, 1) := by decide +kernel
theorem dX4_readPart_94 : decode cX4_readPart 94 = .ok (.aload_n 0, 1) := by decide +kernel
theorem dX4_readPart_95 : decode cX4_readPart 95 = .ok (.bipush (-3), 2) := by decide +kernel
theorem dX4_readPart_97 : decode cX4_readPart 97 = .ok (.invokevirtual 219, 3) := by decide +kernel
theorem dX4_readPart_100 : decode cX4_readPart 100 = .ok (.ireturn, 1) := by decide +kernel
theorem dX4_readPart_78 : decode cX4_readPart 78 = .ok (.aload_n 0, 1) := by decide +kernel
theorem dX4_readPart_79 : decode cX4_readPart 79 = .ok (.bipush (-2), 2) := by decide +kernel
theorem dX4_readPart_81 : decode cX4_readPart 81 = .ok (.invokevirtual 219, 3) := by decide +kernel
theorem dX4_readPart_84 : decode cX4_readPart 84 = .ok (.ireturn, 1) := by decide +kernel
theorem dX4_readPart_63 : decode cX4_readPart 63 = .ok (.aload_n 0, 1) := by decide +kernel
theorem dX4_readPart_64 : decode cX4_readPart 64 = .ok (.iconst (-1), 1) := by decide +kernel
theorem dX4_readPart_65 : decode cX4_readPart 65 = .ok (.invokevirtual 219, 3) := by decide +kernel
theorem dX4_readPart_68 : decode cX4_readPart 68 = .ok (.ireturn, 1) := by decide +kernel
theorem dX4_readPart_9 : decode cX4_readPart 9 = .ok (.aload_n 0, 1) := by decide +kernel
theorem dX4_readPart_10 : decode cX4_readPart 10 = .ok (.invokevirtual 229, 3) := by decide +kernel
theorem dX4_readPart_13 : decode cX4_readPart 13 = .ok (.ifCond .eq 39, 3) := by decide +kernel
theorem dX4_readPart_52 : decode cX4_readPart 52 = .ok (.iconst 0, 1) := by decide +kernel
theorem dX4_readPart_53 : decode cX4_readPart 53 = .ok (.ireturn, 1) := by decide +kernel
theorem dX4_readProduct_4 : decode cX4_readProduct 4 = .ok (.istore_n 1, 1) := by decide +kernel
theorem dX4_readProduct_5 : decode cX4_readProduct 5 = .ok (.iconst 0, 1) := by decide +kernel
theorem dX4_readProduct_6 : decode cX4_readProduct 6 = .ok (.istore_n 2, 1) := by decide +kernel
theorem dX4_readProduct_7 : decode cX4_readProduct 7 = .ok (.iload_n 2, 1) := by decide +kernel
theorem dX4_readProduct_8 : decode cX4_readProduct 8 = .ok (.sipush 1600, 3) := by decide +kernel
theorem dX4_readProduct_11 : decode cX4_readProduct 11 = .ok (.if_icmp .ge 83, 3) := by decide +kernel
theorem dX4_readProduct_14 : decode cX4_readProduct 14 = .ok (.iload_n 1, 1) := by decide +kernel
theorem dX4_readProduct_15 : decode cX4_readProduct 15 = .ok (.ifCond .eq 79, 3) := by decide +kernel
theorem dX4_readProduct_94 : decode cX4_readProduct 94 = .ok (.iload_n 1, 1) := by decide +kernel
theorem dX4_readProduct_95 : decode cX4_readProduct 95 = .ok (.ireturn, 1) := by decide +kernel
theorem dX4_readProduct_18 : decode cX4_readProduct 18 = .ok (.aload_n 0, 1) := by decide +kernel
theorem dX4_readProduct_19 : decode cX4_readProduct 19 = .ok (.bipush 42, 2) := by decide +kernel
theorem dX4_readProduct_21 : decode cX4_readProduct 21 = .ok (.invokevirtual 100, 3) := by decide +kernel
theorem dX4_takesSign_0 : decode cX4_takesSign 0 = .ok (.aload_n 0, 1) := by decide +kernel
theorem dX4_takesSign_1 : decode cX4_takesSign 1 = .ok (.getfield 29, 3) := by decide +kernel
theorem dX4_takesSign_4 : decode cX4_takesSign 4 = .ok (.iload_n 1, 1) := by decide +kernel
theorem dX4_takesSign_5 : decode cX4_takesSign 5 = .ok (.if_icmp .ne 7, 3) := by decide +kernel
theorem dX4_takesSign_12 : decode cX4_takesSign 12 = .ok (.iconst 0, 1) := by decide +kernel
theorem dX4_takesSign_13 : decode cX4_takesSign 13 = .ok (.istore_n 2, 1) := by decide +kernel
theorem dX4_takesSign_14 : decode cX4_takesSign 14 = .ok (.iload_n 2, 1) := by decide +kernel
theorem dX4_takesSign_15 : decode cX4_takesSign 15 = .ok (.ifCond .eq 14, 3) := by decide +kernel
theorem dX4_takesSign_29 : decode cX4_takesSign 29 = .ok (.iload_n 2, 1) := by decide +kernel
theorem dX4_takesSign_30 : decode cX4_takesSign 30 = .ok (.ireturn, 1) := by decide +kernel
theorem dX4_takesSign_8 : decode cX4_takesSign 8 = .ok (.iconst 1, 1) := by decide +kernel
theorem dX4_takesSign_9 : decode cX4_takesSign 9 = .ok (.goto 4, 3) := by decide +kernel
theorem dX4_takesSign_18 : decode cX4_takesSign 18 = .ok (.aload_n 0, 1) := by decide +kernel
theorem dX4_takesSign_19 : decode cX4_takesSign 19 = .ok (.aload_n 0, 1) := by decide +kernel
theorem dX4_takesSign_20 : decode cX4_takesSign 20 = .ok (.getfield 25, 3) := by decide +kernel
theorem dX4_takesSign_23 : decode cX4_takesSign 23 = .ok (.iconst 1, 1) := by decide +kernel
theorem dX4_takesSign_24 : decode cX4_takesSign 24 = .ok (.iadd, 1) := by decide +kernel
theorem dX4_takesSign_25 : decode cX4_takesSign 25 = .ok (.iconst 0, 1) := by decide +kernel
theorem dX4_takesSign_26 : decode cX4_takesSign 26 = .ok (.invokevirtual 47, 3) := by decide +kernel
theorem dX4_readProduct_24 : decode cX4_readProduct 24 = .ok (.ifCond .eq 28, 3) := by decide +kernel
theorem dX4_readProduct_52 : decode cX4_readProduct 52 = .ok (.aload_n 0, 1) := by decide +kernel
theorem dX4_readProduct_53 : decode cX4_readProduct 53 = .ok (.bipush 47, 2) := by decide +kernel
theorem dX4_readProduct_55 : decode cX4_readProduct 55 = .ok (.invokevirtual 100, 3) := by decide +kernel
theorem dX4_readProduct_58 : decode cX4_readProduct 58 = .ok (.ifCond .eq 28, 3) := by decide +kernel
theorem dX4_readProduct_86 : decode cX4_readProduct 86 = .ok (.iconst 1, 1) := by decide +kernel
theorem dX4_readProduct_87 : decode cX4_readProduct 87 = .ok (.ireturn, 1) := by decide +kernel
theorem dX4_readProduct_61 : decode cX4_readProduct 61 = .ok (.aload_n 0, 1) := by decide +kernel
theorem dX4_readProduct_62 : decode cX4_readProduct 62 = .ok (.invokevirtual 243, 3) := by decide +kernel
theorem dX4_readProduct_65 : decode cX4_readProduct 65 = .ok (.ifCond .eq 16, 3) := by decide +kernel
theorem dX4_readProduct_81 : decode cX4_readProduct 81 = .ok (.iconst 0, 1) := by decide +kernel
theorem dX4_readProduct_82 : decode cX4_readProduct 82 = .ok (.istore_n 1, 1) := by decide +kernel
theorem dX4_readProduct_83 : decode cX4_readProduct 83 = .ok (.goto 5, 3) := by decide +kernel
theorem dX4_readProduct_88 : decode cX4_readProduct 88 = .ok (.iinc 2 1, 3) := by decide +kernel
theorem dX4_readProduct_91 : decode cX4_readProduct 91 = .ok (.goto (-84), 3) := by decide +kernel
theorem dX4_readProduct_68 : decode cX4_readProduct 68 = .ok (.aload_n 0, 1) := by decide +kernel
theorem dX4_readProduct_69 : decode cX4_readProduct 69 = .ok (.bipush (-8), 2) := by decide +kernel
theorem dX4_readProduct_71 : decode cX4_readProduct 71 = .ok (.invokevirtual 219, 3) := by decide +kernel
theorem dX4_readProduct_74 : decode cX4_readProduct 74 = .ok (.ifCond .eq 7, 3) := by decide +kernel
theorem dX4_readProduct_77 : decode cX4_readProduct 77 = .ok (.iconst 1, 1) := by decide +kernel
theorem dX4_readProduct_78 : decode cX4_readProduct 78 = .ok (.goto 4, 3) := by decide +kernel
theorem dX4_readProduct_27 : decode cX4_readProduct 27 = .ok (.aload_n 0, 1) := by decide +kernel
theorem dX4_readProduct_28 : decode cX4_readProduct 28 = .ok (.invokevirtual 243, 3) := by decide +kernel
theorem dX4_readProduct_31 : decode cX4_readProduct 31 = .ok (.ifCond .eq 16, 3) := by decide +kernel
theorem dX4_readProduct_47 : decode cX4_readProduct 47 = .ok (.iconst 0, 1) := by decide +kernel
theorem dX4_readProduct_48 : decode cX4_readProduct 48 = .ok (.istore_n 1, 1) := by decide +kernel
theorem dX4_readProduct_49 : decode cX4_readProduct 49 = .ok (.goto 39, 3) := by decide +kernel
theorem dX4_readProduct_34 : decode cX4_readProduct 34 = .ok (.aload_n 0, 1) := by decide +kernel
theorem dX4_readProduct_35 : decode cX4_readProduct 35 = .ok (.bipush (-7), 2) := by decide +kernel
theorem dX4_readProduct_37 : decode cX4_readProduct 37 = .ok (.invokevirtual 219, 3) := by decide +kernel
theorem dX4_readProduct_40 : decode cX4_readProduct 40 = .ok (.ifCond .eq 7, 3) := by decide +kernel
theorem dX4_readProduct_43 : decode cX4_readProduct 43 = .ok (.iconst 1, 1) := by decide +kernel
theorem dX4_readProduct_44 : decode cX4_readProduct 44 = .ok (.goto 4, 3) := by decide +kernel
theorem dX4_readSum_4 : decode cX4_readSum 4 = .ok (.istore_n 1, 1) := by decide +kernel
theorem dX4_readSum_5 : decode cX4_readSum 5 = .ok (.iconst 0, 1) := by decide +kernel
theorem dX4_readSum_6 : decode cX4_readSum 6 = .ok (.istore_n 2, 1) := by decide +kernel
theorem dX4_readSum_7 : decode cX4_readSum 7 = .ok (.iload_n 2, 1) := by decide +kernel
theorem dX4_readSum_8 : decode cX4_readSum 8 = .ok (.sipush 1600, 3) := by decide +kernel
theorem dX4_readSum_11 : decode cX4_readSum 11 = .ok (.if_icmp .ge 83, 3) := by decide +kernel
theorem dX4_readSum_14 : decode cX4_readSum 14 = .ok (.iload_n 1, 1) := by decide +kernel
theorem dX4_readSum_15 : decode cX4_readSum 15 = .ok (.ifCond .eq 79, 3) := by decide +kernel
theorem dX4_readSum_94 : decode cX4_readSum 94 = .ok (.iload_n 1, 1) := by decide +kernel
theorem dX4_readSum_95 : decode cX4_readSum 95 = .ok (.ireturn, 1) := by decide +kernel
theorem dX4_readSum_18 : decode cX4_readSum 18 = .ok (.aload_n 0, 1) := by decide +kernel
theorem dX4_readSum_19 : decode cX4_readSum 19 = .ok (.bipush 43, 2) := by decide +kernel
theorem dX4_readSum_21 : decode cX4_readSum 21 = .ok (.invokevirtual 100, 3) := by decide +kernel
theorem dX4_readSum_24 : decode cX4_readSum 24 = .ok (.ifCond .eq 28, 3) := by decide +kernel
theorem dX4_readSum_52 : decode cX4_readSum 52 = .ok (.aload_n 0, 1) := by decide +kernel
theorem dX4_readSum_53 : decode cX4_readSum 53 = .ok (.bipush 45, 2) := by decide +kernel
theorem dX4_readSum_55 : decode cX4_readSum 55 = .ok (.invokevirtual 100, 3) := by decide +kernel
theorem dX4_readSum_58 : decode cX4_readSum 58 = .ok (.ifCond .eq 28, 3) := by decide +kernel
theorem dX4_readSum_86 : decode cX4_readSum 86 = .ok (.iconst 1, 1) := by decide +kernel
theorem dX4_readSum_87 : decode cX4_readSum 87 = .ok (.ireturn, 1) := by decide +kernel
theorem dX4_readSum_61 : decode cX4_readSum 61 = .ok (.aload_n 0, 1) := by decide +kernel
theorem dX4_readSum_62 : decode cX4_readSum 62 = .ok (.invokevirtual 240, 3) := by decide +kernel
theorem dX4_readSum_65 : decode cX4_readSum 65 = .ok (.ifCond .eq 16, 3) := by decide +kernel
theorem dX4_readSum_81 : decode cX4_readSum 81 = .ok (.iconst 0, 1) := by decide +kernel
theorem dX4_readSum_82 : decode cX4_readSum 82 = .ok (.istore_n 1, 1) := by decide +kernel
theorem dX4_readSum_83 : decode cX4_readSum 83 = .ok (.goto 5, 3) := by decide +kernel
theorem dX4_readSum_88 : decode cX4_readSum 88 = .ok (.iinc 2 1, 3) := by decide +kernel
theorem dX4_readSum_91 : decode cX4_readSum 91 = .ok (.goto (-84), 3) := by decide +kernel
theorem dX4_readSum_68 : decode cX4_readSum 68 = .ok (.aload_n 0, 1) := by decide +kernel
theorem dX4_readSum_69 : decode cX4_readSum 69 = .ok (.bipush (-6), 2) := by decide +kernel
theorem dX4_readSum_71 : decode cX4_readSum 71 = .ok (.invokevirtual 219, 3) := by decide +kernel
theorem dX4_readSum_74 : decode cX4_readSum 74 = .ok (.ifCond .eq 7, 3) := by decide +kernel
theorem dX4_readSum_77 : decode cX4_readSum 77 = .ok (.iconst 1, 1) := by decide +kernel
theorem dX4_readSum_78 : decode cX4_readSum 78 = .ok (.goto 4, 3) := by decide +kernel
theorem dX4_readSum_27 : decode cX4_readSum 27 = .ok (.aload_n 0, 1) := by decide +kernel
theorem dX4_readSum_28 : decode cX4_readSum 28 = .ok (.invokevirtual 240, 3) := by decide +kernel
theorem dX4_readSum_31 : decode cX4_readSum 31 = .ok (.ifCond .eq 16, 3) := by decide +kernel
theorem dX4_readSum_47 : decode cX4_readSum 47 = .ok (.iconst 0, 1) := by decide +kernel
theorem dX4_readSum_48 : decode cX4_readSum 48 = .ok (.istore_n 1, 1) := by decide +kernel
theorem dX4_readSum_49 : decode cX4_readSum 49 = .ok (.goto 39, 3) := by decide +kernel
theorem dX4_readSum_34 : decode cX4_readSum 34 = .ok (.aload_n 0, 1) := by decide +kernel
theorem dX4_readSum_35 : decode cX4_readSum 35 = .ok (.bipush (-5), 2) := by decide +kernel
theorem dX4_readSum_37 : decode cX4_readSum 37 = .ok (.invokevirtual 219, 3) := by decide +kernel
theorem dX4_readSum_40 : decode cX4_readSum 40 = .ok (.ifCond .eq 7, 3) := by decide +kernel
theorem dX4_readSum_43 : decode cX4_readSum 43 = .ok (.iconst 1, 1) := by decide +kernel
theorem dX4_readSum_44 : decode cX4_readSum 44 = .ok (.goto 4, 3) := by decide +kernel
theorem dX4_readPair_34 : decode cX4_readPair 34 = .ok (.ifCond .eq 39, 3) := by decide +kernel
theorem dX4_readPair_37 : decode cX4_readPair 37 = .ok (.aload_n 0, 1) := by decide +kernel
theorem dX4_readPair_38 : decode cX4_readPair 38 = .ok (.bipush 44, 2) := by decide +kernel
theorem dX4_readPair_40 : decode cX4_readPair 40 = .ok (.invokevirtual 63, 3) := by decide +kernel
theorem dX4_readPair_43 : decode cX4_readPair 43 = .ok (.ifCond .eq 30, 3) := by decide +kernel
theorem dX4_readPair_46 : decode cX4_readPair 46 = .ok (.aload_n 0, 1) := by decide +kernel
theorem dX4_readPair_47 : decode cX4_readPair 47 = .ok (.invokevirtual 196, 3) := by decide +kernel
theorem dX4_readPair_50 : decode cX4_readPair 50 = .ok (.ifCond .eq 23, 3) := by decide +kernel
theorem dX4_readPair_53 : decode cX4_readPair 53 = .ok (.aload_n 0, 1) := by decide +kernel
theorem dX4_readPair_54 : decode cX4_readPair 54 = .ok (.bipush 41, 2) := by decide +kernel
theorem dX4_readPair_56 : decode cX4_readPair 56 = .ok (.invokevirtual 63, 3) := by decide +kernel
theorem dX4_readPair_59 : decode cX4_readPair 59 = .ok (.ifCond .eq 14, 3) := by decide +kernel
theorem dX4_readPair_62 : decode cX4_readPair 62 = .ok (.aload_n 0, 1) := by decide +kernel
theorem dX4_readPair_63 : decode cX4_readPair 63 = .ok (.invokevirtual 232, 3) := by decide +kernel
theorem dX4_closes_0 : decode cX4_closes 0 = .ok (.aload_n 0, 1) := by decide +kernel
theorem dX4_closes_1 : decode cX4_closes 1 = .ok (.dup, 1) := by decide +kernel
theorem dX4_closes_2 : decode cX4_closes 2 = .ok (.getfield 35, 3) := by decide +kernel
theorem dX4_closes_5 : decode cX4_closes 5 = .ok (.iconst 1, 1) := by decide +kernel
theorem dX4_closes_6 : decode cX4_closes 6 = .ok (.isub, 1) := by decide +kernel
theorem dX4_closes_7 : decode cX4_closes 7 = .ok (.putfield 35, 3) := by decide +kernel
theorem dX4_closes_10 : decode cX4_closes 10 = .ok (.iconst 1, 1) := by decide +kernel
theorem dX4_closes_11 : decode cX4_closes 11 = .ok (.ireturn, 1) := by decide +kernel
theorem dX4_readPair_66 : decode cX4_readPair 66 = .ok (.ifCond .eq 7, 3) := by decide +kernel
theorem dX4_readPair_69 : decode cX4_readPair 69 = .ok (.iconst 1, 1) := by decide +kernel
theorem dX4_readPair_70 : decode cX4_readPair 70 = .ok (.goto 4, 3) := by decide +kernel
theorem dX4_readPart_149 : decode cX4_readPart 149 = .ok (.aload_n 0, 1) := by decide +kernel
theorem dX4_readPart_150 : decode cX4_readPart 150 = .ok (.bipush (-10), 2) := by decide +kernel
theorem dX4_readPart_152 : decode cX4_readPart 152 = .ok (.invokevirtual 219, 3) := by decide +kernel
theorem dX4_readPart_155 : decode cX4_readPart 155 = .ok (.ifCond .eq 7, 3) := by decide +kernel
theorem dX4_readPart_158 : decode cX4_readPart 158 = .ok (.iconst 1, 1) := by decide +kernel
theorem dX4_readPart_159 : decode cX4_readPart 159 = .ok (.goto 4, 3) := by decide +kernel
theorem dX4_readPart_117 : decode cX4_readPart 117 = .ok (.aload_n 0, 1) := by decide +kernel
theorem dX4_readPart_118 : decode cX4_readPart 118 = .ok (.bipush (-9), 2) := by decide +kernel
theorem dX4_readPart_120 : decode cX4_readPart 120 = .ok (.invokevirtual 219, 3) := by decide +kernel
theorem dX4_readPart_123 : decode cX4_readPart 123 = .ok (.ifCond .eq 7, 3) := by decide +kernel
theorem dX4_readPart_126 : decode cX4_readPart 126 = .ok (.iconst 1, 1) := by decide +kernel
theorem dX4_readPart_127 : decode cX4_readPart 127 = .ok (.goto 4, 3) := by decide +kernel
theorem dX4_readPart_16 : decode cX4_readPart 16 = .ok (.aload_n 0, 1) := by decide +kernel
theorem dX4_readPart_17 : decode cX4_readPart 17 = .ok (.bipush 40, 2) := by decide +kernel
theorem dX4_readPart_19 : decode cX4_readPart 19 = .ok (.invokevirtual 63, 3) := by decide +kernel
theorem dX4_readPart_22 : decode cX4_readPart 22 = .ok (.ifCond .eq 30, 3) := by decide +kernel
theorem dX4_readPart_25 : decode cX4_readPart 25 = .ok (.aload_n 0, 1) := by decide +kernel
theorem dX4_readPart_26 : decode cX4_readPart 26 = .ok (.invokevirtual 196, 3) := by decide +kernel
theorem dX4_readPart_29 : decode cX4_readPart 29 = .ok (.ifCond .eq 23, 3) := by decide +kernel
theorem dX4_readPart_32 : decode cX4_readPart 32 = .ok (.aload_n 0, 1) := by decide +kernel
theorem dX4_readPart_33 : decode cX4_readPart 33 = .ok (.bipush 41, 2) := by decide +kernel
theorem dX4_readPart_35 : decode cX4_readPart 35 = .ok (.invokevirtual 63, 3) := by decide +kernel
theorem dX4_readPart_38 : decode cX4_readPart 38 = .ok (.ifCond .eq 14, 3) := by decide +kernel
theorem dX4_readPart_41 : decode cX4_readPart 41 = .ok (.aload_n 0, 1) := by decide +kernel
theorem dX4_readPart_42 : decode cX4_readPart 42 = .ok (.invokevirtual 232, 3) := by decide +kernel
theorem dX4_readPart_45 : decode cX4_readPart 45 = .ok (.ifCond .eq 7, 3) := by decide +kernel
theorem dX4_readPart_48 : decode cX4_readPart 48 = .ok (.iconst 1, 1) := by decide +kernel
theorem dX4_readPart_49 : decode cX4_readPart 49 = .ok (.goto 4, 3) := by decide +kernel
theorem dX4_readRule_14 : decode cX4_readRule 14 = .ok (.ifCond .eq 12, 3) := by decide +kernel
theorem dX4_readRule_26 : decode cX4_readRule 26 = .ok (.iconst 0, 1) := by decide +kernel
theorem dX4_readRule_27 : decode cX4_readRule 27 = .ok (.ireturn, 1) := by decide +kernel
theorem dX4_readRule_17 : decode cX4_readRule 17 = .ok (.aload_n 0, 1) := by decide +kernel
theorem dX4_readRule_18 : decode cX4_readRule 18 = .ok (.ldc 199, 2) := by decide +kernel
theorem dX4_readRule_20 : decode cX4_readRule 20 = .ok (.invokevirtual 109, 3) := by decide +kernel
theorem dX4_readRule_23 : decode cX4_readRule 23 = .ok (.ifCond .ne 5, 3) := by decide +kernel
theorem dX4_readRule_28 : decode cX4_readRule 28 = .ok (.aload_n 0, 1) := by decide +kernel
theorem dX4_readRule_29 : decode cX4_readRule 29 = .ok (.getfield 21, 3) := by decide +kernel
theorem dX4_readRule_32 : decode cX4_readRule 32 = .ok (.getfield 139, 3) := by decide +kernel
theorem dX4_readRule_35 : decode cX4_readRule 35 = .ok (.invokevirtual 201, 3) := by decide +kernel
theorem dX4_readRule_38 : decode cX4_readRule 38 = .ok (.aload_n 0, 1) := by decide +kernel
theorem dX4_readRule_39 : decode cX4_readRule 39 = .ok (.invokevirtual 204, 3) := by decide +kernel
theorem dX4_readTest_0 : decode cX4_readTest 0 = .ok (.aload_n 0, 1) := by decide +kernel
theorem dX4_readTest_1 : decode cX4_readTest 1 = .ok (.invokevirtual 214, 3) := by decide +kernel
theorem dX4_readBoth_0 : decode cX4_readBoth 0 = .ok (.aload_n 0, 1) := by decide +kernel
theorem dX4_readBoth_1 : decode cX4_readBoth 1 = .ok (.invokevirtual 222, 3) := by decide +kernel
theorem dX4_readFact_0 : decode cX4_readFact 0 = .ok (.aload_n 0, 1) := by decide +kernel
