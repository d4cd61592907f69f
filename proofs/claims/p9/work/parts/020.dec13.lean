theorem dX12_signed_40 : decode cX12_signed 40 = .ok (.iadd, 1) := by decide +kernel
theorem dX12_signed_41 : decode cX12_signed 41 = .ok (.putfield 157, 3) := by decide +kernel
theorem dX12_signed_58 : decode cX12_signed 58 = .ok (.iload 5, 2) := by decide +kernel
theorem dX12_signed_60 : decode cX12_signed 60 = .ok (.ineg, 1) := by decide +kernel
theorem dX12_signed_61 : decode cX12_signed 61 = .ok (.istore 5, 2) := by decide +kernel
theorem dX12_signed_7 : decode cX12_signed 7 = .ok (.iconst 0, 1) := by decide +kernel
theorem dX12_signed_8 : decode cX12_signed 8 = .ok (.ireturn, 1) := by decide +kernel
theorem dX12_rowTold_72 : decode cX12_rowTold 72 = .ok (.iastore, 1) := by decide +kernel
theorem dX12_rowTold_73 : decode cX12_rowTold 73 = .ok (.iinc 2 1, 3) := by decide +kernel
theorem dX12_rowTold_76 : decode cX12_rowTold 76 = .ok (.goto (-38), 3) := by decide +kernel
theorem dX12_rowTold_35 : decode cX12_rowTold 35 = .ok (.return_, 1) := by decide +kernel
theorem dX12_rowTold_7 : decode cX12_rowTold 7 = .ok (.aload_n 0, 1) := by decide +kernel
theorem dX12_rowTold_8 : decode cX12_rowTold 8 = .ok (.getfield 66, 3) := by decide +kernel
theorem dX12_rowTold_11 : decode cX12_rowTold 11 = .ok (.iconst 3, 1) := by decide +kernel
theorem dX12_rowTold_12 : decode cX12_rowTold 12 = .ok (.iaload, 1) := by decide +kernel
theorem dX12_rowTold_13 : decode cX12_rowTold 13 = .ok (.aload_n 0, 1) := by decide +kernel
theorem dX12_rowTold_14 : decode cX12_rowTold 14 = .ok (.getfield 66, 3) := by decide +kernel
theorem dX12_rowTold_17 : decode cX12_rowTold 17 = .ok (.iconst 2, 1) := by decide +kernel
theorem dX12_rowTold_18 : decode cX12_rowTold 18 = .ok (.iaload, 1) := by decide +kernel
theorem dX12_rowTold_19 : decode cX12_rowTold 19 = .ok (.if_icmp .ne 9, 3) := by decide +kernel
theorem dX12_rowTold_22 : decode cX12_rowTold 22 = .ok (.aload_n 0, 1) := by decide +kernel
theorem dX12_rowTold_23 : decode cX12_rowTold 23 = .ok (.iconst 4, 1) := by decide +kernel
theorem dX12_rowTold_24 : decode cX12_rowTold 24 = .ok (.iload_n 1, 1) := by decide +kernel
theorem dX12_rowTold_25 : decode cX12_rowTold 25 = .ok (.invokevirtual 181, 3) := by decide +kernel
theorem dX12_wordTold_0 : decode cX12_wordTold 0 = .ok (.aload_n 0, 1) := by decide +kernel
theorem dX12_wordTold_1 : decode cX12_wordTold 1 = .ok (.getfield 151, 3) := by decide +kernel
theorem dX12_wordTold_4 : decode cX12_wordTold 4 = .ok (.ifCond .ne 20, 3) := by decide +kernel
theorem dX12_wordTold_24 : decode cX12_wordTold 24 = .ok (.aload_n 0, 1) := by decide +kernel
theorem dX12_wordTold_25 : decode cX12_wordTold 25 = .ok (.getfield 151, 3) := by decide +kernel
theorem dX12_wordTold_28 : decode cX12_wordTold 28 = .ok (.ifCond .eq 4, 3) := by decide +kernel
theorem dX12_wordTold_32 : decode cX12_wordTold 32 = .ok (.iconst 0, 1) := by decide +kernel
theorem dX12_wordTold_33 : decode cX12_wordTold 33 = .ok (.istore_n 2, 1) := by decide +kernel
theorem dX12_wordTold_34 : decode cX12_wordTold 34 = .ok (.iload_n 2, 1) := by decide +kernel
theorem dX12_wordTold_35 : decode cX12_wordTold 35 = .ok (.aload_n 0, 1) := by decide +kernel
theorem dX12_wordTold_36 : decode cX12_wordTold 36 = .ok (.getfield 66, 3) := by decide +kernel
theorem dX12_wordTold_39 : decode cX12_wordTold 39 = .ok (.iconst 1, 1) := by decide +kernel
theorem dX12_wordTold_40 : decode cX12_wordTold 40 = .ok (.iaload, 1) := by decide +kernel
theorem dX12_wordTold_41 : decode cX12_wordTold 41 = .ok (.if_icmp .ge 40, 3) := by decide +kernel
theorem dX12_wordTold_81 : decode cX12_wordTold 81 = .ok (.aload_n 0, 1) := by decide +kernel
theorem dX12_wordTold_82 : decode cX12_wordTold 82 = .ok (.getfield 66, 3) := by decide +kernel
theorem dX12_wordTold_85 : decode cX12_wordTold 85 = .ok (.iconst 4, 1) := by decide +kernel
theorem dX12_wordTold_86 : decode cX12_wordTold 86 = .ok (.dup2, 1) := by decide +kernel
theorem dX12_wordTold_87 : decode cX12_wordTold 87 = .ok (.iaload, 1) := by decide +kernel
theorem dX12_wordTold_88 : decode cX12_wordTold 88 = .ok (.iconst 1, 1) := by decide +kernel
theorem dX12_wordTold_89 : decode cX12_wordTold 89 = .ok (.iadd, 1) := by decide +kernel
theorem dX12_wordTold_90 : decode cX12_wordTold 90 = .ok (.iastore, 1) := by decide +kernel
theorem dX12_wordTold_91 : decode cX12_wordTold 91 = .ok (.return_, 1) := by decide +kernel
theorem dX12_wordTold_44 : decode cX12_wordTold 44 = .ok (.aload_n 0, 1) := by decide +kernel
theorem dX12_wordTold_45 : decode cX12_wordTold 45 = .ok (.getfield 72, 3) := by decide +kernel
theorem dX12_wordTold_48 : decode cX12_wordTold 48 = .ok (.bipush 80, 2) := by decide +kernel
theorem dX12_wordTold_50 : decode cX12_wordTold 50 = .ok (.iconst 5, 1) := by decide +kernel
theorem dX12_wordTold_51 : decode cX12_wordTold 51 = .ok (.aload_n 0, 1) := by decide +kernel
theorem dX12_wordTold_52 : decode cX12_wordTold 52 = .ok (.getfield 66, 3) := by decide +kernel
theorem dX12_wordTold_55 : decode cX12_wordTold 55 = .ok (.iconst 4, 1) := by decide +kernel
theorem dX12_wordTold_56 : decode cX12_wordTold 56 = .ok (.iaload, 1) := by decide +kernel
theorem dX12_wordTold_57 : decode cX12_wordTold 57 = .ok (.imul, 1) := by decide +kernel
theorem dX12_wordTold_58 : decode cX12_wordTold 58 = .ok (.iadd, 1) := by decide +kernel
theorem dX12_wordTold_59 : decode cX12_wordTold 59 = .ok (.iload_n 2, 1) := by decide +kernel
theorem dX12_wordTold_60 : decode cX12_wordTold 60 = .ok (.iadd, 1) := by decide +kernel
theorem dX12_wordTold_61 : decode cX12_wordTold 61 = .ok (.aload_n 0, 1) := by decide +kernel
theorem dX12_wordTold_62 : decode cX12_wordTold 62 = .ok (.aload_n 0, 1) := by decide +kernel
theorem dX12_wordTold_63 : decode cX12_wordTold 63 = .ok (.getfield 66, 3) := by decide +kernel
theorem dX12_wordTold_66 : decode cX12_wordTold 66 = .ok (.iconst 0, 1) := by decide +kernel
theorem dX12_wordTold_67 : decode cX12_wordTold 67 = .ok (.iaload, 1) := by decide +kernel
theorem dX12_wordTold_68 : decode cX12_wordTold 68 = .ok (.iconst 1, 1) := by decide +kernel
theorem dX12_wordTold_69 : decode cX12_wordTold 69 = .ok (.isub, 1) := by decide +kernel
theorem dX12_wordTold_70 : decode cX12_wordTold 70 = .ok (.iconst 2, 1) := by decide +kernel
theorem dX12_wordTold_71 : decode cX12_wordTold 71 = .ok (.invokevirtual 199, 3) := by decide +kernel
theorem dX12_wordTold_74 : decode cX12_wordTold 74 = .ok (.iastore, 1) := by decide +kernel
theorem dX12_wordTold_75 : decode cX12_wordTold 75 = .ok (.iinc 2 1, 3) := by decide +kernel
theorem dX12_wordTold_78 : decode cX12_wordTold 78 = .ok (.goto (-44), 3) := by decide +kernel
theorem dX12_wordTold_31 : decode cX12_wordTold 31 = .ok (.return_, 1) := by decide +kernel
theorem dX12_wordTold_7 : decode cX12_wordTold 7 = .ok (.aload_n 0, 1) := by decide +kernel
theorem dX12_wordTold_8 : decode cX12_wordTold 8 = .ok (.getfield 66, 3) := by decide +kernel
theorem dX12_wordTold_11 : decode cX12_wordTold 11 = .ok (.iconst 4, 1) := by decide +kernel
theorem dX12_wordTold_12 : decode cX12_wordTold 12 = .ok (.iaload, 1) := by decide +kernel
theorem dX12_wordTold_13 : decode cX12_wordTold 13 = .ok (.bipush 16, 2) := by decide +kernel
theorem dX12_wordTold_15 : decode cX12_wordTold 15 = .ok (.if_icmp .ne 9, 3) := by decide +kernel
theorem dX12_wordTold_18 : decode cX12_wordTold 18 = .ok (.aload_n 0, 1) := by decide +kernel
theorem dX12_wordTold_19 : decode cX12_wordTold 19 = .ok (.iconst 4, 1) := by decide +kernel
theorem dX12_wordTold_20 : decode cX12_wordTold 20 = .ok (.iload_n 1, 1) := by decide +kernel
theorem dX12_wordTold_21 : decode cX12_wordTold 21 = .ok (.invokevirtual 181, 3) := by decide +kernel
theorem dX12_goesOn_0 : decode cX12_goesOn 0 = .ok (.aload_n 0, 1) := by decide +kernel
theorem dX12_goesOn_1 : decode cX12_goesOn 1 = .ok (.getfield 151, 3) := by decide +kernel
theorem dX12_goesOn_4 : decode cX12_goesOn 4 = .ok (.ifCond .ne 114, 3) := by decide +kernel
theorem dX12_goesOn_118 : decode cX12_goesOn 118 = .ok (.aload_n 0, 1) := by decide +kernel
theorem dX12_goesOn_119 : decode cX12_goesOn 119 = .ok (.bipush 42, 2) := by decide +kernel
theorem dX12_goesOn_121 : decode cX12_goesOn 121 = .ok (.invokevirtual 185, 3) := by decide +kernel
theorem dX12_goesOn_124 : decode cX12_goesOn 124 = .ok (.ifCond .ne 12, 3) := by decide +kernel
theorem dX12_goesOn_136 : decode cX12_goesOn 136 = .ok (.aload_n 0, 1) := by decide +kernel
theorem dX12_goesOn_137 : decode cX12_goesOn 137 = .ok (.getfield 7, 3) := by decide +kernel
theorem dX12_goesOn_140 : decode cX12_goesOn 140 = .ok (.aload_n 0, 1) := by decide +kernel
theorem dX12_goesOn_141 : decode cX12_goesOn 141 = .ok (.getfield 157, 3) := by decide +kernel
theorem dX12_goesOn_144 : decode cX12_goesOn 144 = .ok (.iconst 1, 1) := by decide +kernel
theorem dX12_goesOn_145 : decode cX12_goesOn 145 = .ok (.isub, 1) := by decide +kernel
theorem dX12_goesOn_146 : decode cX12_goesOn 146 = .ok (.iaload, 1) := by decide +kernel
theorem dX12_goesOn_147 : decode cX12_goesOn 147 = .ok (.bipush 42, 2) := by decide +kernel
theorem dX12_goesOn_149 : decode cX12_goesOn 149 = .ok (.if_icmp .ne 7, 3) := by decide +kernel
theorem dX12_goesOn_156 : decode cX12_goesOn 156 = .ok (.iconst 4, 1) := by decide +kernel
theorem dX12_goesOn_157 : decode cX12_goesOn 157 = .ok (.istore_n 1, 1) := by decide +kernel
theorem dX12_goesOn_158 : decode cX12_goesOn 158 = .ok (.aload_n 0, 1) := by decide +kernel
theorem dX12_goesOn_159 : decode cX12_goesOn 159 = .ok (.iconst 3, 1) := by decide +kernel
theorem dX12_goesOn_160 : decode cX12_goesOn 160 = .ok (.invokevirtual 283, 3) := by decide +kernel
theorem dX12_isOn_0 : decode cX12_isOn 0 = .ok (.aload_n 0, 1) := by decide +kernel
theorem dX12_isOn_1 : decode cX12_isOn 1 = .ok (.getfield 259, 3) := by decide +kernel
theorem dX12_isOn_4 : decode cX12_isOn 4 = .ok (.ifCond .le 22, 3) := by decide +kernel
theorem dX12_isOn_26 : decode cX12_isOn 26 = .ok (.iconst 0, 1) := by decide +kernel
theorem dX12_isOn_27 : decode cX12_isOn 27 = .ok (.ireturn, 1) := by decide +kernel
theorem dX12_isOn_7 : decode cX12_isOn 7 = .ok (.aload_n 0, 1) := by decide +kernel
theorem dX12_isOn_8 : decode cX12_isOn 8 = .ok (.getfield 78, 3) := by decide +kernel
theorem dX12_isOn_11 : decode cX12_isOn 11 = .ok (.aload_n 0, 1) := by decide +kernel
theorem dX12_isOn_12 : decode cX12_isOn 12 = .ok (.getfield 259, 3) := by decide +kernel
theorem dX12_isOn_15 : decode cX12_isOn 15 = .ok (.iconst 1, 1) := by decide +kernel
theorem dX12_isOn_16 : decode cX12_isOn 16 = .ok (.isub, 1) := by decide +kernel
theorem dX12_isOn_17 : decode cX12_isOn 17 = .ok (.iaload, 1) := by decide +kernel
theorem dX12_isOn_18 : decode cX12_isOn 18 = .ok (.iload_n 1, 1) := by decide +kernel
theorem dX12_isOn_19 : decode cX12_isOn 19 = .ok (.if_icmp .ne 7, 3) := by decide +kernel
theorem dX12_isOn_22 : decode cX12_isOn 22 = .ok (.iconst 1, 1) := by decide +kernel
theorem dX12_isOn_23 : decode cX12_isOn 23 = .ok (.goto 4, 3) := by decide +kernel
theorem dX12_goesOn_163 : decode cX12_goesOn 163 = .ok (.ifCond .ne 11, 3) := by decide +kernel
theorem dX12_goesOn_174 : decode cX12_goesOn 174 = .ok (.aload_n 0, 1) := by decide +kernel
theorem dX12_goesOn_175 : decode cX12_goesOn 175 = .ok (.invokevirtual 271, 3) := by decide +kernel
theorem dX12_drops_0 : decode cX12_drops 0 = .ok (.aload_n 0, 1) := by decide +kernel
theorem dX12_drops_1 : decode cX12_drops 1 = .ok (.dup, 1) := by decide +kernel
theorem dX12_drops_2 : decode cX12_drops 2 = .ok (.getfield 259, 3) := by decide +kernel
theorem dX12_drops_5 : decode cX12_drops 5 = .ok (.iconst 1, 1) := by decide +kernel
theorem dX12_drops_6 : decode cX12_drops 6 = .ok (.isub, 1) := by decide +kernel
theorem dX12_drops_7 : decode cX12_drops 7 = .ok (.putfield 259, 3) := by decide +kernel
theorem dX12_drops_10 : decode cX12_drops 10 = .ok (.aload_n 0, 1) := by decide +kernel
theorem dX12_drops_11 : decode cX12_drops 11 = .ok (.aload_n 0, 1) := by decide +kernel
theorem dX12_drops_12 : decode cX12_drops 12 = .ok (.getfield 78, 3) := by decide +kernel
theorem dX12_drops_15 : decode cX12_drops 15 = .ok (.aload_n 0, 1) := by decide +kernel
theorem dX12_drops_16 : decode cX12_drops 16 = .ok (.getfield 259, 3) := by decide +kernel
theorem dX12_drops_19 : decode cX12_drops 19 = .ok (.iaload, 1) := by decide +kernel
theorem dX12_drops_20 : decode cX12_drops 20 = .ok (.invokevirtual 262, 3) := by decide +kernel
theorem dX12_drops_23 : decode cX12_drops 23 = .ok (.return_, 1) := by decide +kernel
theorem dX12_goesOn_178 : decode cX12_goesOn 178 = .ok (.goto (-20), 3) := by decide +kernel
theorem dX12_goesOn_166 : decode cX12_goesOn 166 = .ok (.aload_n 0, 1) := by decide +kernel
theorem dX12_goesOn_167 : decode cX12_goesOn 167 = .ok (.iconst 4, 1) := by decide +kernel
theorem dX12_goesOn_168 : decode cX12_goesOn 168 = .ok (.invokevirtual 283, 3) := by decide +kernel
theorem dX12_goesOn_171 : decode cX12_goesOn 171 = .ok (.ifCond .eq 10, 3) := by decide +kernel
theorem dX12_goesOn_181 : decode cX12_goesOn 181 = .ok (.aload_n 0, 1) := by decide +kernel
theorem dX12_goesOn_182 : decode cX12_goesOn 182 = .ok (.getfield 78, 3) := by decide +kernel
theorem dX12_goesOn_185 : decode cX12_goesOn 185 = .ok (.aload_n 0, 1) := by decide +kernel
theorem dX12_goesOn_186 : decode cX12_goesOn 186 = .ok (.getfield 259, 3) := by decide +kernel
theorem dX12_goesOn_189 : decode cX12_goesOn 189 = .ok (.iload_n 1, 1) := by decide +kernel
theorem dX12_goesOn_190 : decode cX12_goesOn 190 = .ok (.iastore, 1) := by decide +kernel
theorem dX12_goesOn_191 : decode cX12_goesOn 191 = .ok (.aload_n 0, 1) := by decide +kernel
theorem dX12_goesOn_192 : decode cX12_goesOn 192 = .ok (.dup, 1) := by decide +kernel
theorem dX12_goesOn_193 : decode cX12_goesOn 193 = .ok (.getfield 259, 3) := by decide +kernel
theorem dX12_goesOn_196 : decode cX12_goesOn 196 = .ok (.iconst 1, 1) := by decide +kernel
theorem dX12_goesOn_197 : decode cX12_goesOn 197 = .ok (.iadd, 1) := by decide +kernel
theorem dX12_goesOn_198 : decode cX12_goesOn 198 = .ok (.putfield 259, 3) := by decide +kernel
theorem dX12_goesOn_201 : decode cX12_goesOn 201 = .ok (.iconst 1, 1) := by decide +kernel
theorem dX12_goesOn_202 : decode cX12_goesOn 202 = .ok (.ireturn, 1) := by decide +kernel
theorem dX12_mark_0 : decode cX12_mark 0 = .ok (.aload_n 0, 1) := by decide +kernel
theorem dX12_mark_1 : decode cX12_mark 1 = .ok (.getfield 259, 3) := by decide +kernel
theorem dX12_mark_4 : decode cX12_mark 4 = .ok (.iconst 1, 1) := by decide +kernel
theorem dX12_mark_5 : decode cX12_mark 5 = .ok (.isub, 1) := by decide +kernel
theorem dX12_mark_6 : decode cX12_mark 6 = .ok (.istore_n 1, 1) := by decide +kernel
theorem dX12_mark_7 : decode cX12_mark 7 = .ok (.iload_n 1, 1) := by decide +kernel
theorem dX12_mark_8 : decode cX12_mark 8 = .ok (.aload_n 0, 1) := by decide +kernel
theorem dX12_mark_9 : decode cX12_mark 9 = .ok (.getfield 265, 3) := by decide +kernel
theorem dX12_mark_12 : decode cX12_mark 12 = .ok (.if_icmp .lt 22, 3) := by decide +kernel
theorem dX12_mark_34 : decode cX12_mark 34 = .ok (.iload_n 1, 1) := by decide +kernel
theorem dX12_mark_35 : decode cX12_mark 35 = .ok (.aload_n 0, 1) := by decide +kernel
theorem dX12_mark_36 : decode cX12_mark 36 = .ok (.getfield 265, 3) := by decide +kernel
theorem dX12_mark_39 : decode cX12_mark 39 = .ok (.if_icmp .lt 12, 3) := by decide +kernel
theorem dX12_mark_51 : decode cX12_mark 51 = .ok (.iconst (-1), 1) := by decide +kernel
theorem dX12_mark_52 : decode cX12_mark 52 = .ok (.ireturn, 1) := by decide +kernel
theorem dX12_mark_42 : decode cX12_mark 42 = .ok (.aload_n 0, 1) := by decide +kernel
theorem dX12_mark_43 : decode cX12_mark 43 = .ok (.getfield 78, 3) := by decide +kernel
theorem dX12_mark_46 : decode cX12_mark 46 = .ok (.iload_n 1, 1) := by decide +kernel
theorem dX12_mark_47 : decode cX12_mark 47 = .ok (.iaload, 1) := by decide +kernel
theorem dX12_mark_48 : decode cX12_mark 48 = .ok (.goto 4, 3) := by decide +kernel
theorem dX12_mark_15 : decode cX12_mark 15 = .ok (.aload_n 0, 1) := by decide +kernel
theorem dX12_mark_16 : decode cX12_mark 16 = .ok (.aload_n 0, 1) := by decide +kernel
theorem dX12_mark_17 : decode cX12_mark 17 = .ok (.getfield 78, 3) := by decide +kernel
theorem dX12_mark_20 : decode cX12_mark 20 = .ok (.iload_n 1, 1) := by decide +kernel
theorem dX12_mark_21 : decode cX12_mark 21 = .ok (.iaload, 1) := by decide +kernel
theorem dX12_mark_22 : decode cX12_mark 22 = .ok (.invokevirtual 268, 3) := by decide +kernel
theorem dX12_isMark_0 : decode cX12_isMark 0 = .ok (.iload_n 1, 1) := by decide +kernel
theorem dX12_isMark_1 : decode cX12_isMark 1 = .ok (.bipush 20, 2) := by decide +kernel
theorem dX12_isMark_3 : decode cX12_isMark 3 = .ok (.if_icmp .lt 13, 3) := by decide +kernel
theorem dX12_isMark_16 : decode cX12_isMark 16 = .ok (.iconst 0, 1) := by decide +kernel
theorem dX12_isMark_17 : decode cX12_isMark 17 = .ok (.ireturn, 1) := by decide +kernel
theorem dX12_isMark_6 : decode cX12_isMark 6 = .ok (.iload_n 1, 1) := by decide +kernel
theorem dX12_isMark_7 : decode cX12_isMark 7 = .ok (.bipush 24, 2) := by decide +kernel
theorem dX12_isMark_9 : decode cX12_isMark 9 = .ok (.if_icmp .gt 7, 3) := by decide +kernel
theorem dX12_isMark_12 : decode cX12_isMark 12 = .ok (.iconst 1, 1) := by decide +kernel
theorem dX12_isMark_13 : decode cX12_isMark 13 = .ok (.goto 4, 3) := by decide +kernel
theorem dX12_mark_25 : decode cX12_mark 25 = .ok (.ifCond .ne 9, 3) := by decide +kernel
theorem dX12_mark_28 : decode cX12_mark 28 = .ok (.iinc 1 (-1), 3) := by decide +kernel
theorem dX12_mark_31 : decode cX12_mark 31 = .ok (.goto (-24), 3) := by decide +kernel
theorem dX12_dropsToMark_0 : decode cX12_dropsToMark 0 = .ok (.aload_n 0, 1) := by decide +kernel
theorem dX12_dropsToMark_1 : decode cX12_dropsToMark 1 = .ok (.getfield 259, 3) := by decide +kernel
theorem dX12_dropsToMark_4 : decode cX12_dropsToMark 4 = .ok (.aload_n 0, 1) := by decide +kernel
theorem dX12_dropsToMark_5 : decode cX12_dropsToMark 5 = .ok (.getfield 265, 3) := by decide +kernel
theorem dX12_dropsToMark_8 : decode cX12_dropsToMark 8 = .ok (.if_icmp .le 28, 3) := by decide +kernel
theorem dX12_dropsToMark_36 : decode cX12_dropsToMark 36 = .ok (.return_, 1) := by decide +kernel
theorem dX12_dropsToMark_11 : decode cX12_dropsToMark 11 = .ok (.aload_n 0, 1) := by decide +kernel
theorem dX12_dropsToMark_12 : decode cX12_dropsToMark 12 = .ok (.aload_n 0, 1) := by decide +kernel
theorem dX12_dropsToMark_13 : decode cX12_dropsToMark 13 = .ok (.getfield 78, 3) := by decide +kernel
theorem dX12_dropsToMark_16 : decode cX12_dropsToMark 16 = .ok (.aload_n 0, 1) := by decide +kernel
theorem dX12_dropsToMark_17 : decode cX12_dropsToMark 17 = .ok (.getfield 259, 3) := by decide +kernel
theorem dX12_dropsToMark_20 : decode cX12_dropsToMark 20 = .ok (.iconst 1, 1) := by decide +kernel
theorem dX12_dropsToMark_21 : decode cX12_dropsToMark 21 = .ok (.isub, 1) := by decide +kernel
theorem dX12_dropsToMark_22 : decode cX12_dropsToMark 22 = .ok (.iaload, 1) := by decide +kernel
theorem dX12_dropsToMark_23 : decode cX12_dropsToMark 23 = .ok (.invokevirtual 268, 3) := by decide +kernel
theorem dX12_dropsToMark_26 : decode cX12_dropsToMark 26 = .ok (.ifCond .ne 10, 3) := by decide +kernel
theorem dX12_dropsToMark_29 : decode cX12_dropsToMark 29 = .ok (.aload_n 0, 1) := by decide +kernel
theorem dX12_dropsToMark_30 : decode cX12_dropsToMark 30 = .ok (.invokevirtual 271, 3) := by decide +kernel
theorem dX12_dropsToMark_33 : decode cX12_dropsToMark 33 = .ok (.goto (-33), 3) := by decide +kernel
theorem dX12_test_0 : decode cX12_test 0 = .ok (.iconst 1, 1) := by decide +kernel
theorem dX12_test_1 : decode cX12_test 1 = .ok (.istore_n 1, 1) := by decide +kernel
theorem dX12_test_2 : decode cX12_test 2 = .ok (.iload_n 1, 1) := by decide +kernel
theorem dX12_test_3 : decode cX12_test 3 = .ok (.ifCond .eq 107, 3) := by decide +kernel
theorem dX12_test_6 : decode cX12_test 6 = .ok (.aload_n 0, 1) := by decide +kernel
theorem dX12_test_7 : decode cX12_test 7 = .ok (.getfield 151, 3) := by decide +kernel
theorem dX12_test_10 : decode cX12_test 10 = .ok (.ifCond .ne 100, 3) := by decide +kernel
theorem dX12_test_110 : decode cX12_test 110 = .ok (.aload_n 0, 1) := by decide +kernel
theorem dX12_test_111 : decode cX12_test 111 = .ok (.getfield 151, 3) := by decide +kernel
theorem dX12_test_114 : decode cX12_test 114 = .ok (.ifCond .ne 17, 3) := by decide +kernel
theorem dX12_test_131 : decode cX12_test 131 = .ok (.return_, 1) := by decide +kernel
theorem dX12_test_117 : decode cX12_test 117 = .ok (.aload_n 0, 1) := by decide +kernel
theorem dX12_test_118 : decode cX12_test 118 = .ok (.getfield 259, 3) := by decide +kernel
theorem dX12_test_121 : decode cX12_test 121 = .ok (.ifCond .le 10, 3) := by decide +kernel
theorem dX12_test_124 : decode cX12_test 124 = .ok (.aload_n 0, 1) := by decide +kernel
theorem dX12_test_125 : decode cX12_test 125 = .ok (.invokevirtual 271, 3) := by decide +kernel
theorem dX12_test_128 : decode cX12_test 128 = .ok (.goto (-18), 3) := by decide +kernel
theorem dX12_fact_0 : decode cX12_fact 0 = .ok (.aload_n 0, 1) := by decide +kernel
theorem dX12_fact_1 : decode cX12_fact 1 = .ok (.aload_n 0, 1) := by decide +kernel
theorem dX12_fact_2 : decode cX12_fact 2 = .ok (.getfield 45, 3) := by decide +kernel
theorem dX12_fact_5 : decode cX12_fact 5 = .ok (.invokevirtual 178, 3) := by decide +kernel
theorem dX12_fact_8 : decode cX12_fact 8 = .ok (.ifCond .eq 10, 3) := by decide +kernel
theorem dX12_fact_18 : decode cX12_fact 18 = .ok (.aload_n 0, 1) := by decide +kernel
theorem dX12_fact_19 : decode cX12_fact 19 = .ok (.invokevirtual 293, 3) := by decide +kernel
theorem dX12_dropsNots_0 : decode cX12_dropsNots 0 = .ok (.aload_n 0, 1) := by decide +kernel
theorem dX12_dropsNots_1 : decode cX12_dropsNots 1 = .ok (.getfield 151, 3) := by decide +kernel
theorem dX12_dropsNots_4 : decode cX12_dropsNots 4 = .ok (.ifCond .ne 29, 3) := by decide +kernel
theorem dX12_dropsNots_33 : decode cX12_dropsNots 33 = .ok (.return_, 1) := by decide +kernel
theorem dX12_dropsNots_7 : decode cX12_dropsNots 7 = .ok (.aload_n 0, 1) := by decide +kernel
theorem dX12_dropsNots_8 : decode cX12_dropsNots 8 = .ok (.bipush 16, 2) := by decide +kernel
theorem dX12_dropsNots_10 : decode cX12_dropsNots 10 = .ok (.invokevirtual 283, 3) := by decide +kernel
theorem dX12_dropsNots_13 : decode cX12_dropsNots 13 = .ok (.ifCond .eq 20, 3) := by decide +kernel
theorem dX12_dropsNots_16 : decode cX12_dropsNots 16 = .ok (.aload_n 0, 1) := by decide +kernel
theorem dX12_dropsNots_17 : decode cX12_dropsNots 17 = .ok (.dup, 1) := by decide +kernel
theorem dX12_dropsNots_18 : decode cX12_dropsNots 18 = .ok (.getfield 256, 3) := by decide +kernel
theorem dX12_dropsNots_21 : decode cX12_dropsNots 21 = .ok (.iconst 1, 1) := by decide +kernel
theorem dX12_dropsNots_22 : decode cX12_dropsNots 22 = .ok (.isub, 1) := by decide +kernel
theorem dX12_dropsNots_23 : decode cX12_dropsNots 23 = .ok (.putfield 256, 3) := by decide +kernel
theorem dX12_dropsNots_26 : decode cX12_dropsNots 26 = .ok (.aload_n 0, 1) := by decide +kernel
theorem dX12_dropsNots_27 : decode cX12_dropsNots 27 = .ok (.invokevirtual 271, 3) := by decide +kernel
theorem dX12_dropsNots_30 : decode cX12_dropsNots 30 = .ok (.goto (-30), 3) := by decide +kernel
theorem dX12_goesOnTest_0 : decode cX12_goesOnTest 0 = .ok (.aload_n 0, 1) := by decide +kernel
theorem dX12_goesOnTest_1 : decode cX12_goesOnTest 1 = .ok (.getfield 151, 3) := by decide +kernel
theorem dX12_goesOnTest_4 : decode cX12_goesOnTest 4 = .ok (.ifCond .ne 72, 3) := by decide +kernel
theorem dX12_goesOnTest_76 : decode cX12_goesOnTest 76 = .ok (.aload_n 0, 1) := by decide +kernel
theorem dX12_goesOnTest_77 : decode cX12_goesOnTest 77 = .ok (.aload_n 0, 1) := by decide +kernel
theorem dX12_goesOnTest_78 : decode cX12_goesOnTest 78 = .ok (.getfield 39, 3) := by decide +kernel
theorem dX12_goesOnTest_81 : decode cX12_goesOnTest 81 = .ok (.invokevirtual 178, 3) := by decide +kernel
theorem dX12_goesOnTest_84 : decode cX12_goesOnTest 84 = .ok (.ifCond .eq 42, 3) := by decide +kernel
theorem dX12_goesOnTest_126 : decode cX12_goesOnTest 126 = .ok (.aload_n 0, 1) := by decide +kernel
theorem dX12_goesOnTest_127 : decode cX12_goesOnTest 127 = .ok (.aload_n 0, 1) := by decide +kernel
theorem dX12_goesOnTest_128 : decode cX12_goesOnTest 128 = .ok (.getfield 36, 3) := by decide +kernel
theorem dX12_goesOnTest_131 : decode cX12_goesOnTest 131 = .ok (.invokevirtual 178, 3) := by decide +kernel
theorem dX12_goesOnTest_134 : decode cX12_goesOnTest 134 = .ok (.ifCond .eq 51, 3) := by decide +kernel
theorem dX12_goesOnTest_185 : decode cX12_goesOnTest 185 = .ok (.aload_n 0, 1) := by decide +kernel
theorem dX12_goesOnTest_186 : decode cX12_goesOnTest 186 = .ok (.getfield 151, 3) := by decide +kernel
theorem dX12_goesOnTest_189 : decode cX12_goesOnTest 189 = .ok (.ifCond .ne 19, 3) := by decide +kernel
theorem dX12_goesOnTest_208 : decode cX12_goesOnTest 208 = .ok (.iconst 0, 1) := by decide +kernel
theorem dX12_goesOnTest_209 : decode cX12_goesOnTest 209 = .ok (.ireturn, 1) := by decide +kernel
theorem dX12_goesOnTest_192 : decode cX12_goesOnTest 192 = .ok (.aload_n 0, 1) := by decide +kernel
theorem dX12_goesOnTest_193 : decode cX12_goesOnTest 193 = .ok (.invokevirtual 305, 3) := by decide +kernel
theorem dX12_hasSquare_0 : decode cX12_hasSquare 0 = .ok (.iconst 0, 1) := by decide +kernel
theorem dX12_hasSquare_1 : decode cX12_hasSquare 1 = .ok (.istore_n 1, 1) := by decide +kernel
theorem dX12_hasSquare_2 : decode cX12_hasSquare 2 = .ok (.iload_n 1, 1) := by decide +kernel
theorem dX12_hasSquare_3 : decode cX12_hasSquare 3 = .ok (.aload_n 0, 1) := by decide +kernel
theorem dX12_hasSquare_4 : decode cX12_hasSquare 4 = .ok (.getfield 259, 3) := by decide +kernel
theorem dX12_hasSquare_7 : decode cX12_hasSquare 7 = .ok (.if_icmp .ge 22, 3) := by decide +kernel
theorem dX12_hasSquare_29 : decode cX12_hasSquare 29 = .ok (.iconst 0, 1) := by decide +kernel
theorem dX12_hasSquare_30 : decode cX12_hasSquare 30 = .ok (.ireturn, 1) := by decide +kernel
theorem dX12_hasSquare_10 : decode cX12_hasSquare 10 = .ok (.aload_n 0, 1) := by decide +kernel
theorem dX12_hasSquare_11 : decode cX12_hasSquare 11 = .ok (.getfield 78, 3) := by decide +kernel
theorem dX12_hasSquare_14 : decode cX12_hasSquare 14 = .ok (.iload_n 1, 1) := by decide +kernel
theorem dX12_hasSquare_15 : decode cX12_hasSquare 15 = .ok (.iaload, 1) := by decide +kernel
theorem dX12_hasSquare_16 : decode cX12_hasSquare 16 = .ok (.bipush 25, 2) := by decide +kernel
theorem dX12_hasSquare_18 : decode cX12_hasSquare 18 = .ok (.if_icmp .ne 5, 3) := by decide +kernel
theorem dX12_hasSquare_23 : decode cX12_hasSquare 23 = .ok (.iinc 1 1, 3) := by decide +kernel
theorem dX12_hasSquare_26 : decode cX12_hasSquare 26 = .ok (.goto (-24), 3) := by decide +kernel
theorem dX12_hasSquare_21 : decode cX12_hasSquare 21 = .ok (.iconst 1, 1) := by decide +kernel
theorem dX12_hasSquare_22 : decode cX12_hasSquare 22 = .ok (.ireturn, 1) := by decide +kernel
theorem dX12_goesOnTest_196 : decode cX12_goesOnTest 196 = .ok (.ifCond .eq 12, 3) := by decide +kernel
theorem dX12_goesOnTest_199 : decode cX12_goesOnTest 199 = .ok (.aload_n 0, 1) := by decide +kernel
theorem dX12_goesOnTest_200 : decode cX12_goesOnTest 200 = .ok (.iconst 1, 1) := by decide +kernel
theorem dX12_goesOnTest_201 : decode cX12_goesOnTest 201 = .ok (.aload_n 0, 1) := by decide +kernel
theorem dX12_goesOnTest_202 : decode cX12_goesOnTest 202 = .ok (.getfield 157, 3) := by decide +kernel
theorem dX12_goesOnTest_205 : decode cX12_goesOnTest 205 = .ok (.invokevirtual 181, 3) := by decide +kernel
theorem dX12_goesOnTest_137 : decode cX12_goesOnTest 137 = .ok (.aload_n 0, 1) := by decide +kernel
theorem dX12_goesOnTest_138 : decode cX12_goesOnTest 138 = .ok (.bipush 14, 2) := by decide +kernel
theorem dX12_goesOnTest_140 : decode cX12_goesOnTest 140 = .ok (.invokevirtual 283, 3) := by decide +kernel
theorem dX12_goesOnTest_143 : decode cX12_goesOnTest 143 = .ok (.ifCond .ne 12, 3) := by decide +kernel
theorem dX12_goesOnTest_155 : decode cX12_goesOnTest 155 = .ok (.aload_n 0, 1) := by decide +kernel
theorem dX12_goesOnTest_156 : decode cX12_goesOnTest 156 = .ok (.invokevirtual 271, 3) := by decide +kernel
theorem dX12_goesOnTest_159 : decode cX12_goesOnTest 159 = .ok (.goto (-22), 3) := by decide +kernel
theorem dX12_goesOnTest_146 : decode cX12_goesOnTest 146 = .ok (.aload_n 0, 1) := by decide +kernel
theorem dX12_goesOnTest_147 : decode cX12_goesOnTest 147 = .ok (.bipush 15, 2) := by decide +kernel
theorem dX12_goesOnTest_149 : decode cX12_goesOnTest 149 = .ok (.invokevirtual 283, 3) := by decide +kernel
theorem dX12_goesOnTest_152 : decode cX12_goesOnTest 152 = .ok (.ifCond .eq 10, 3) := by decide +kernel
theorem dX12_goesOnTest_162 : decode cX12_goesOnTest 162 = .ok (.aload_n 0, 1) := by decide +kernel
theorem dX12_goesOnTest_163 : decode cX12_goesOnTest 163 = .ok (.getfield 78, 3) := by decide +kernel
theorem dX12_goesOnTest_166 : decode cX12_goesOnTest 166 = .ok (.aload_n 0, 1) := by decide +kernel
theorem dX12_goesOnTest_167 : decode cX12_goesOnTest 167 = .ok (.getfield 259, 3) := by decide +kernel
theorem dX12_goesOnTest_170 : decode cX12_goesOnTest 170 = .ok (.bipush 15, 2) := by decide +kernel
theorem dX12_goesOnTest_172 : decode cX12_goesOnTest 172 = .ok (.iastore, 1) := by decide +kernel
theorem dX12_goesOnTest_173 : decode cX12_goesOnTest 173 = .ok (.aload_n 0, 1) := by decide +kernel
theorem dX12_goesOnTest_174 : decode cX12_goesOnTest 174 = .ok (.dup, 1) := by decide +kernel
theorem dX12_goesOnTest_175 : decode cX12_goesOnTest 175 = .ok (.getfield 259, 3) := by decide +kernel
theorem dX12_goesOnTest_178 : decode cX12_goesOnTest 178 = .ok (.iconst 1, 1) := by decide +kernel
theorem dX12_goesOnTest_179 : decode cX12_goesOnTest 179 = .ok (.iadd, 1) := by decide +kernel
theorem dX12_goesOnTest_180 : decode cX12_goesOnTest 180 = .ok (.putfield 259, 3) := by decide +kernel
theorem dX12_goesOnTest_183 : decode cX12_goesOnTest 183 = .ok (.iconst 1, 1) := by decide +kernel
theorem dX12_goesOnTest_184 : decode cX12_goesOnTest 184 = .ok (.ireturn, 1) := by decide +kernel
theorem dX12_fault_0 : decode cX12_fault 0 = .ok (.iload_n 1, 1) := by decide +kernel
theorem dX12_fault_1 : decode cX12_fault 1 = .ok (.ifCond .ne 10, 3) := by decide +kernel
theorem dX12_fault_11 : decode cX12_fault 11 = .ok (.iload_n 1, 1) := by decide +kernel
theorem dX12_fault_12 : decode cX12_fault 12 = .ok (.iconst 1, 1) := by decide +kernel
theorem dX12_fault_13 : decode cX12_fault 13 = .ok (.if_icmp .ne 10, 3) := by decide +kernel
theorem dX12_fault_23 : decode cX12_fault 23 = .ok (.iconst (-1), 1) := by decide +kernel
theorem dX12_fault_24 : decode cX12_fault 24 = .ok (.ireturn, 1) := by decide +kernel
theorem dX12_fault_16 : decode cX12_fault 16 = .ok (.aload_n 0, 1) := by decide +kernel
theorem dX12_fault_17 : decode cX12_fault 17 = .ok (.getfield 13, 3) := by decide +kernel
theorem dX12_fault_20 : decode cX12_fault 20 = .ok (.goto 4, 3) := by decide +kernel
theorem dX12_fault_4 : decode cX12_fault 4 = .ok (.aload_n 0, 1) := by decide +kernel
theorem dX12_fault_5 : decode cX12_fault 5 = .ok (.getfield 228, 3) := by decide +kernel
theorem dX12_fault_8 : decode cX12_fault 8 = .ok (.goto 16, 3) := by decide +kernel
theorem dX12_has_0 : decode cX12_has 0 = .ok (.iload_n 1, 1) := by decide +kernel
theorem dX12_has_1 : decode cX12_has 1 = .ok (.tableswitch 107 0 9 #[55, 60, 65, 70, 75, 80, 87, 92, 97, 102], 55) := by decide +kernel
theorem dX12_has_56 : decode cX12_has 56 = .ok (.aload_n 0, 1) := by decide +kernel
theorem dX12_has_57 : decode cX12_has 57 = .ok (.getfield 234, 3) := by decide +kernel
theorem dX12_has_60 : decode cX12_has 60 = .ok (.ireturn, 1) := by decide +kernel
theorem dX12_has_61 : decode cX12_has 61 = .ok (.aload_n 0, 1) := by decide +kernel
theorem dX12_has_62 : decode cX12_has 62 = .ok (.getfield 237, 3) := by decide +kernel
theorem dX12_has_65 : decode cX12_has 65 = .ok (.ireturn, 1) := by decide +kernel
theorem dX12_has_66 : decode cX12_has 66 = .ok (.aload_n 0, 1) := by decide +kernel
theorem dX12_has_67 : decode cX12_has 67 = .ok (.getfield 240, 3) := by decide +kernel
theorem dX12_has_70 : decode cX12_has 70 = .ok (.ireturn, 1) := by decide +kernel
theorem dX12_has_71 : decode cX12_has 71 = .ok (.aload_n 0, 1) := by decide +kernel
theorem dX12_has_72 : decode cX12_has 72 = .ok (.getfield 243, 3) := by decide +kernel
theorem dX12_has_75 : decode cX12_has 75 = .ok (.ireturn, 1) := by decide +kernel
theorem dX12_has_76 : decode cX12_has 76 = .ok (.aload_n 0, 1) := by decide +kernel
theorem dX12_has_77 : decode cX12_has 77 = .ok (.getfield 246, 3) := by decide +kernel
theorem dX12_has_80 : decode cX12_has 80 = .ok (.ireturn, 1) := by decide +kernel
theorem dX12_has_81 : decode cX12_has 81 = .ok (.aload_n 0, 1) := by decide +kernel
theorem dX12_has_82 : decode cX12_has 82 = .ok (.getfield 81, 3) := by decide +kernel
theorem dX12_has_85 : decode cX12_has 85 = .ok (.iconst 0, 1) := by decide +kernel
theorem dX12_has_86 : decode cX12_has 86 = .ok (.iaload, 1) := by decide +kernel
theorem dX12_has_87 : decode cX12_has 87 = .ok (.ireturn, 1) := by decide +kernel
theorem dX12_has_88 : decode cX12_has 88 = .ok (.aload_n 0, 1) := by decide +kernel
theorem dX12_has_89 : decode cX12_has 89 = .ok (.getfield 63, 3) := by decide +kernel
theorem dX12_has_92 : decode cX12_has 92 = .ok (.ireturn, 1) := by decide +kernel
theorem dX12_has_93 : decode cX12_has 93 = .ok (.aload_n 0, 1) := by decide +kernel
theorem dX12_has_94 : decode cX12_has 94 = .ok (.getfield 349, 3) := by decide +kernel
theorem dX12_has_97 : decode cX12_has 97 = .ok (.ireturn, 1) := by decide +kernel
theorem dX12_has_98 : decode cX12_has 98 = .ok (.aload_n 0, 1) := by decide +kernel
theorem dX12_has_99 : decode cX12_has 99 = .ok (.getfield 352, 3) := by decide +kernel
theorem dX12_has_102 : decode cX12_has 102 = .ok (.ireturn, 1) := by decide +kernel
theorem dX12_has_103 : decode cX12_has 103 = .ok (.aload_n 0, 1) := by decide +kernel
theorem dX12_has_104 : decode cX12_has 104 = .ok (.getfield 355, 3) := by decide +kernel
theorem dX12_has_107 : decode cX12_has 107 = .ok (.ireturn, 1) := by decide +kernel
theorem dX12_has_108 : decode cX12_has 108 = .ok (.iconst (-1), 1) := by decide +kernel
theorem dX12_has_109 : decode cX12_has 109 = .ok (.ireturn, 1) := by decide +kernel
theorem dX12_table_0 : decode cX12_table 0 = .ok (.aload_n 0, 1) := by decide +kernel
theorem dX12_table_1 : decode cX12_table 1 = .ok (.iload_n 1, 1) := by decide +kernel
theorem dX12_table_2 : decode cX12_table 2 = .ok (.invokevirtual 358, 3) := by decide +kernel
theorem dX12_isReceiver_0 : decode cX12_isReceiver 0 = .ok (.iload_n 1, 1) := by decide +kernel
theorem dX12_isReceiver_1 : decode cX12_isReceiver 1 = .ok (.i2l, 1) := by decide +kernel
theorem dX12_isReceiver_2 : decode cX12_isReceiver 2 = .ok (.lconst 0, 1) := by decide +kernel
theorem dX12_isReceiver_3 : decode cX12_isReceiver 3 = .ok (.aload_n 0, 1) := by decide +kernel
theorem dX12_isReceiver_4 : decode cX12_isReceiver 4 = .ok (.getfield 240, 3) := by decide +kernel
theorem dX12_isReceiver_7 : decode cX12_isReceiver 7 = .ok (.iconst 1, 1) := by decide +kernel
theorem dX12_isReceiver_8 : decode cX12_isReceiver 8 = .ok (.isub, 1) := by decide +kernel
theorem dX12_isReceiver_9 : decode cX12_isReceiver 9 = .ok (.i2l, 1) := by decide +kernel
theorem dX12_isReceiver_10 : decode cX12_isReceiver 10 = .ok (.invokestatic 191, 3) := by decide +kernel
theorem dX12_isReceiver_13 : decode cX12_isReceiver 13 = .ok (.ireturn, 1) := by decide +kernel
theorem dX12_table_5 : decode cX12_table 5 = .ok (.ifCond .eq 11, 3) := by decide +kernel
theorem dX12_table_16 : decode cX12_table 16 = .ok (.ldc_w 364, 3) := by decide +kernel
theorem dX12_table_19 : decode cX12_table 19 = .ok (.ireturn, 1) := by decide +kernel
theorem dX12_table_8 : decode cX12_table 8 = .ok (.aload_n 0, 1) := by decide +kernel
theorem dX12_table_9 : decode cX12_table 9 = .ok (.iload_n 2, 1) := by decide +kernel
theorem dX12_table_10 : decode cX12_table 10 = .ok (.invokevirtual 361, 3) := by decide +kernel
theorem dX12_isSender_0 : decode cX12_isSender 0 = .ok (.iload_n 1, 1) := by decide +kernel
theorem dX12_isSender_1 : decode cX12_isSender 1 = .ok (.i2l, 1) := by decide +kernel
theorem dX12_isSender_2 : decode cX12_isSender 2 = .ok (.lconst 0, 1) := by decide +kernel
theorem dX12_isSender_3 : decode cX12_isSender 3 = .ok (.aload_n 0, 1) := by decide +kernel
theorem dX12_isSender_4 : decode cX12_isSender 4 = .ok (.getfield 237, 3) := by decide +kernel
theorem dX12_isSender_7 : decode cX12_isSender 7 = .ok (.iconst 1, 1) := by decide +kernel
theorem dX12_isSender_8 : decode cX12_isSender 8 = .ok (.isub, 1) := by decide +kernel
theorem dX12_isSender_9 : decode cX12_isSender 9 = .ok (.i2l, 1) := by decide +kernel
theorem dX12_isSender_10 : decode cX12_isSender 10 = .ok (.invokestatic 191, 3) := by decide +kernel
