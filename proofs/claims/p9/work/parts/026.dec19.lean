theorem dX12_unlike_26 : decode cX12_unlike 26 = .ok (.getfield 237, 3) := by decide +kernel
theorem dX12_unlike_29 : decode cX12_unlike 29 = .ok (.if_icmp .ge 37, 3) := by decide +kernel
theorem dX12_unlike_66 : decode cX12_unlike 66 = .ok (.iload_n 3, 1) := by decide +kernel
theorem dX12_unlike_67 : decode cX12_unlike 67 = .ok (.ireturn, 1) := by decide +kernel
theorem dX12_unlike_32 : decode cX12_unlike 32 = .ok (.aload_n 0, 1) := by decide +kernel
theorem dX12_unlike_33 : decode cX12_unlike 33 = .ok (.getfield 72, 3) := by decide +kernel
theorem dX12_unlike_36 : decode cX12_unlike 36 = .ok (.iconst 5, 1) := by decide +kernel
theorem dX12_unlike_37 : decode cX12_unlike 37 = .ok (.iload_n 1, 1) := by decide +kernel
theorem dX12_unlike_38 : decode cX12_unlike 38 = .ok (.imul, 1) := by decide +kernel
theorem dX12_unlike_39 : decode cX12_unlike 39 = .ok (.iload 4, 2) := by decide +kernel
theorem dX12_unlike_41 : decode cX12_unlike 41 = .ok (.iadd, 1) := by decide +kernel
theorem dX12_unlike_42 : decode cX12_unlike 42 = .ok (.iaload, 1) := by decide +kernel
theorem dX12_unlike_43 : decode cX12_unlike 43 = .ok (.aload_n 0, 1) := by decide +kernel
theorem dX12_unlike_44 : decode cX12_unlike 44 = .ok (.getfield 72, 3) := by decide +kernel
theorem dX12_unlike_47 : decode cX12_unlike 47 = .ok (.iconst 5, 1) := by decide +kernel
theorem dX12_unlike_48 : decode cX12_unlike 48 = .ok (.iload_n 2, 1) := by decide +kernel
theorem dX12_unlike_49 : decode cX12_unlike 49 = .ok (.imul, 1) := by decide +kernel
theorem dX12_unlike_50 : decode cX12_unlike 50 = .ok (.iload 4, 2) := by decide +kernel
theorem dX12_unlike_52 : decode cX12_unlike 52 = .ok (.iadd, 1) := by decide +kernel
theorem dX12_unlike_53 : decode cX12_unlike 53 = .ok (.iaload, 1) := by decide +kernel
theorem dX12_unlike_54 : decode cX12_unlike 54 = .ok (.if_icmp .eq 6, 3) := by decide +kernel
theorem dX12_unlike_60 : decode cX12_unlike 60 = .ok (.iinc 4 1, 3) := by decide +kernel
theorem dX12_unlike_63 : decode cX12_unlike 63 = .ok (.goto (-40), 3) := by decide +kernel
theorem dX12_unlike_57 : decode cX12_unlike 57 = .ok (.iinc 3 1, 3) := by decide +kernel
theorem dX12_decode_0 : decode cX12_decode 0 = .ok (.iconst (-1), 1) := by decide +kernel
theorem dX12_decode_1 : decode cX12_decode 1 = .ok (.istore_n 1, 1) := by decide +kernel
theorem dX12_decode_2 : decode cX12_decode 2 = .ok (.lconst 0, 1) := by decide +kernel
theorem dX12_decode_3 : decode cX12_decode 3 = .ok (.lstore_n 2, 1) := by decide +kernel
theorem dX12_decode_4 : decode cX12_decode 4 = .ok (.iconst 0, 1) := by decide +kernel
theorem dX12_decode_5 : decode cX12_decode 5 = .ok (.istore 4, 2) := by decide +kernel
theorem dX12_decode_7 : decode cX12_decode 7 = .ok (.iload 4, 2) := by decide +kernel
theorem dX12_decode_9 : decode cX12_decode 9 = .ok (.aload_n 0, 1) := by decide +kernel
theorem dX12_decode_10 : decode cX12_decode 10 = .ok (.getfield 246, 3) := by decide +kernel
theorem dX12_decode_13 : decode cX12_decode 13 = .ok (.if_icmp .ge 74, 3) := by decide +kernel
theorem dX12_decode_87 : decode cX12_decode 87 = .ok (.iload_n 1, 1) := by decide +kernel
theorem dX12_decode_88 : decode cX12_decode 88 = .ok (.ireturn, 1) := by decide +kernel
theorem dX12_decode_16 : decode cX12_decode 16 = .ok (.iconst 0, 1) := by decide +kernel
theorem dX12_decode_17 : decode cX12_decode 17 = .ok (.istore 5, 2) := by decide +kernel
theorem dX12_decode_19 : decode cX12_decode 19 = .ok (.iload 5, 2) := by decide +kernel
theorem dX12_decode_21 : decode cX12_decode 21 = .ok (.aload_n 0, 1) := by decide +kernel
theorem dX12_decode_22 : decode cX12_decode 22 = .ok (.getfield 237, 3) := by decide +kernel
theorem dX12_decode_25 : decode cX12_decode 25 = .ok (.if_icmp .ge 28, 3) := by decide +kernel
theorem dX12_decode_53 : decode cX12_decode 53 = .ok (.aload_n 0, 1) := by decide +kernel
theorem dX12_decode_54 : decode cX12_decode 54 = .ok (.iconst 1, 1) := by decide +kernel
theorem dX12_decode_55 : decode cX12_decode 55 = .ok (.invokevirtual 380, 3) := by decide +kernel
theorem dX12_decode_58 : decode cX12_decode 58 = .ok (.lstore 5, 2) := by decide +kernel
theorem dX12_decode_60 : decode cX12_decode 60 = .ok (.iload_n 1, 1) := by decide +kernel
theorem dX12_decode_61 : decode cX12_decode 61 = .ok (.iconst (-1), 1) := by decide +kernel
theorem dX12_decode_62 : decode cX12_decode 62 = .ok (.if_icmp .eq 13, 3) := by decide +kernel
theorem dX12_decode_75 : decode cX12_decode 75 = .ok (.iload 4, 2) := by decide +kernel
theorem dX12_decode_77 : decode cX12_decode 77 = .ok (.istore_n 1, 1) := by decide +kernel
theorem dX12_decode_78 : decode cX12_decode 78 = .ok (.lload 5, 2) := by decide +kernel
theorem dX12_decode_80 : decode cX12_decode 80 = .ok (.lstore_n 2, 1) := by decide +kernel
theorem dX12_decode_81 : decode cX12_decode 81 = .ok (.iinc 4 1, 3) := by decide +kernel
theorem dX12_decode_84 : decode cX12_decode 84 = .ok (.goto (-77), 3) := by decide +kernel
theorem dX12_decode_28 : decode cX12_decode 28 = .ok (.aload_n 0, 1) := by decide +kernel
theorem dX12_decode_29 : decode cX12_decode 29 = .ok (.getfield 103, 3) := by decide +kernel
theorem dX12_decode_32 : decode cX12_decode 32 = .ok (.iload 5, 2) := by decide +kernel
theorem dX12_decode_34 : decode cX12_decode 34 = .ok (.aload_n 0, 1) := by decide +kernel
theorem dX12_decode_35 : decode cX12_decode 35 = .ok (.getfield 72, 3) := by decide +kernel
theorem dX12_decode_38 : decode cX12_decode 38 = .ok (.iconst 5, 1) := by decide +kernel
theorem dX12_decode_39 : decode cX12_decode 39 = .ok (.iload 4, 2) := by decide +kernel
theorem dX12_decode_41 : decode cX12_decode 41 = .ok (.imul, 1) := by decide +kernel
theorem dX12_decode_42 : decode cX12_decode 42 = .ok (.iload 5, 2) := by decide +kernel
theorem dX12_decode_44 : decode cX12_decode 44 = .ok (.iadd, 1) := by decide +kernel
theorem dX12_decode_45 : decode cX12_decode 45 = .ok (.iaload, 1) := by decide +kernel
theorem dX12_decode_46 : decode cX12_decode 46 = .ok (.iastore, 1) := by decide +kernel
theorem dX12_decode_47 : decode cX12_decode 47 = .ok (.iinc 5 1, 3) := by decide +kernel
theorem dX12_decode_50 : decode cX12_decode 50 = .ok (.goto (-31), 3) := by decide +kernel
theorem dX12_decode_65 : decode cX12_decode 65 = .ok (.lload 5, 2) := by decide +kernel
theorem dX12_decode_67 : decode cX12_decode 67 = .ok (.lload_n 2, 1) := by decide +kernel
theorem dX12_decode_68 : decode cX12_decode 68 = .ok (.lcmp, 1) := by decide +kernel
theorem dX12_decode_69 : decode cX12_decode 69 = .ok (.ifCond .lt 6, 3) := by decide +kernel
theorem dX12_decode_72 : decode cX12_decode 72 = .ok (.goto 9, 3) := by decide +kernel
theorem dX12_ahead_0 : decode cX12_ahead 0 = .ok (.aload_n 0, 1) := by decide +kernel
theorem dX12_ahead_1 : decode cX12_ahead 1 = .ok (.iconst 0, 1) := by decide +kernel
theorem dX12_ahead_2 : decode cX12_ahead 2 = .ok (.putfield 252, 3) := by decide +kernel
theorem dX12_ahead_5 : decode cX12_ahead 5 = .ok (.aload_n 0, 1) := by decide +kernel
theorem dX12_ahead_6 : decode cX12_ahead 6 = .ok (.invokevirtual 377, 3) := by decide +kernel
theorem dX12_ahead_9 : decode cX12_ahead 9 = .ok (.ifCond .ne 7, 3) := by decide +kernel
theorem dX12_ahead_16 : decode cX12_ahead 16 = .ok (.aload_n 0, 1) := by decide +kernel
theorem dX12_ahead_17 : decode cX12_ahead 17 = .ok (.invokevirtual 477, 3) := by decide +kernel
theorem dX12_aheadOf_0 : decode cX12_aheadOf 0 = .ok (.iconst 0, 1) := by decide +kernel
theorem dX12_aheadOf_1 : decode cX12_aheadOf 1 = .ok (.istore_n 1, 1) := by decide +kernel
theorem dX12_aheadOf_2 : decode cX12_aheadOf 2 = .ok (.iload_n 1, 1) := by decide +kernel
theorem dX12_aheadOf_3 : decode cX12_aheadOf 3 = .ok (.aload_n 0, 1) := by decide +kernel
theorem dX12_aheadOf_4 : decode cX12_aheadOf 4 = .ok (.getfield 237, 3) := by decide +kernel
theorem dX12_aheadOf_7 : decode cX12_aheadOf 7 = .ok (.if_icmp .ge 21, 3) := by decide +kernel
theorem dX12_aheadOf_28 : decode cX12_aheadOf 28 = .ok (.iconst 1, 1) := by decide +kernel
theorem dX12_aheadOf_29 : decode cX12_aheadOf 29 = .ok (.istore_n 1, 1) := by decide +kernel
theorem dX12_aheadOf_30 : decode cX12_aheadOf 30 = .ok (.iconst 0, 1) := by decide +kernel
theorem dX12_aheadOf_31 : decode cX12_aheadOf 31 = .ok (.istore_n 2, 1) := by decide +kernel
theorem dX12_aheadOf_32 : decode cX12_aheadOf 32 = .ok (.iload_n 2, 1) := by decide +kernel
theorem dX12_aheadOf_33 : decode cX12_aheadOf 33 = .ok (.aload_n 0, 1) := by decide +kernel
theorem dX12_aheadOf_34 : decode cX12_aheadOf 34 = .ok (.getfield 237, 3) := by decide +kernel
theorem dX12_aheadOf_37 : decode cX12_aheadOf 37 = .ok (.if_icmp .ge 13, 3) := by decide +kernel
theorem dX12_aheadOf_50 : decode cX12_aheadOf 50 = .ok (.ldc2_w 384, 3) := by decide +kernel
theorem dX12_aheadOf_53 : decode cX12_aheadOf 53 = .ok (.lstore_n 2, 1) := by decide +kernel
theorem dX12_aheadOf_54 : decode cX12_aheadOf 54 = .ok (.iconst 0, 1) := by decide +kernel
theorem dX12_aheadOf_55 : decode cX12_aheadOf 55 = .ok (.istore 4, 2) := by decide +kernel
theorem dX12_aheadOf_57 : decode cX12_aheadOf 57 = .ok (.iload 4, 2) := by decide +kernel
theorem dX12_aheadOf_59 : decode cX12_aheadOf 59 = .ok (.iload_n 1, 1) := by decide +kernel
theorem dX12_aheadOf_60 : decode cX12_aheadOf 60 = .ok (.if_icmp .ge 139, 3) := by decide +kernel
theorem dX12_aheadOf_63 : decode cX12_aheadOf 63 = .ok (.iload 4, 2) := by decide +kernel
theorem dX12_aheadOf_65 : decode cX12_aheadOf 65 = .ok (.istore 5, 2) := by decide +kernel
theorem dX12_aheadOf_67 : decode cX12_aheadOf 67 = .ok (.aload_n 0, 1) := by decide +kernel
theorem dX12_aheadOf_68 : decode cX12_aheadOf 68 = .ok (.getfield 237, 3) := by decide +kernel
theorem dX12_aheadOf_71 : decode cX12_aheadOf 71 = .ok (.iconst 1, 1) := by decide +kernel
theorem dX12_aheadOf_72 : decode cX12_aheadOf 72 = .ok (.isub, 1) := by decide +kernel
theorem dX12_aheadOf_73 : decode cX12_aheadOf 73 = .ok (.istore 6, 2) := by decide +kernel
theorem dX12_aheadOf_75 : decode cX12_aheadOf 75 = .ok (.iload 6, 2) := by decide +kernel
theorem dX12_aheadOf_77 : decode cX12_aheadOf 77 = .ok (.ifCond .lt 43, 3) := by decide +kernel
theorem dX12_aheadOf_120 : decode cX12_aheadOf 120 = .ok (.aload_n 0, 1) := by decide +kernel
theorem dX12_aheadOf_121 : decode cX12_aheadOf 121 = .ok (.iconst 0, 1) := by decide +kernel
theorem dX12_aheadOf_122 : decode cX12_aheadOf 122 = .ok (.invokevirtual 380, 3) := by decide +kernel
theorem dX12_aheadOf_125 : decode cX12_aheadOf 125 = .ok (.lstore 6, 2) := by decide +kernel
theorem dX12_aheadOf_127 : decode cX12_aheadOf 127 = .ok (.lload_n 2, 1) := by decide +kernel
theorem dX12_aheadOf_128 : decode cX12_aheadOf 128 = .ok (.lconst 0, 1) := by decide +kernel
theorem dX12_aheadOf_129 : decode cX12_aheadOf 129 = .ok (.lcmp, 1) := by decide +kernel
theorem dX12_aheadOf_130 : decode cX12_aheadOf 130 = .ok (.ifCond .lt 13, 3) := by decide +kernel
theorem dX12_aheadOf_143 : decode cX12_aheadOf 143 = .ok (.lload 6, 2) := by decide +kernel
theorem dX12_aheadOf_145 : decode cX12_aheadOf 145 = .ok (.lstore_n 2, 1) := by decide +kernel
theorem dX12_aheadOf_146 : decode cX12_aheadOf 146 = .ok (.iconst 0, 1) := by decide +kernel
theorem dX12_aheadOf_147 : decode cX12_aheadOf 147 = .ok (.istore 8, 2) := by decide +kernel
theorem dX12_aheadOf_149 : decode cX12_aheadOf 149 = .ok (.iload 8, 2) := by decide +kernel
theorem dX12_aheadOf_151 : decode cX12_aheadOf 151 = .ok (.aload_n 0, 1) := by decide +kernel
theorem dX12_aheadOf_152 : decode cX12_aheadOf 152 = .ok (.getfield 237, 3) := by decide +kernel
theorem dX12_aheadOf_155 : decode cX12_aheadOf 155 = .ok (.if_icmp .ge 38, 3) := by decide +kernel
theorem dX12_aheadOf_193 : decode cX12_aheadOf 193 = .ok (.iinc 4 1, 3) := by decide +kernel
theorem dX12_aheadOf_196 : decode cX12_aheadOf 196 = .ok (.goto (-139), 3) := by decide +kernel
theorem dX12_aheadOf_199 : decode cX12_aheadOf 199 = .ok (.lload_n 2, 1) := by decide +kernel
theorem dX12_aheadOf_200 : decode cX12_aheadOf 200 = .ok (.lreturn, 1) := by decide +kernel
theorem dX12_aheadOf_133 : decode cX12_aheadOf 133 = .ok (.lload 6, 2) := by decide +kernel
theorem dX12_aheadOf_135 : decode cX12_aheadOf 135 = .ok (.lload_n 2, 1) := by decide +kernel
theorem dX12_aheadOf_136 : decode cX12_aheadOf 136 = .ok (.lcmp, 1) := by decide +kernel
theorem dX12_aheadOf_137 : decode cX12_aheadOf 137 = .ok (.ifCond .lt 6, 3) := by decide +kernel
theorem dX12_aheadOf_140 : decode cX12_aheadOf 140 = .ok (.goto 53, 3) := by decide +kernel
theorem dX12_aheadOf_10 : decode cX12_aheadOf 10 = .ok (.aload_n 0, 1) := by decide +kernel
theorem dX12_aheadOf_11 : decode cX12_aheadOf 11 = .ok (.getfield 139, 3) := by decide +kernel
theorem dX12_aheadOf_14 : decode cX12_aheadOf 14 = .ok (.iload_n 1, 1) := by decide +kernel
theorem dX12_aheadOf_15 : decode cX12_aheadOf 15 = .ok (.aload_n 0, 1) := by decide +kernel
theorem dX12_aheadOf_16 : decode cX12_aheadOf 16 = .ok (.getfield 103, 3) := by decide +kernel
theorem dX12_aheadOf_19 : decode cX12_aheadOf 19 = .ok (.iload_n 1, 1) := by decide +kernel
theorem dX12_aheadOf_20 : decode cX12_aheadOf 20 = .ok (.iaload, 1) := by decide +kernel
theorem dX12_aheadOf_21 : decode cX12_aheadOf 21 = .ok (.iastore, 1) := by decide +kernel
theorem dX12_aheadOf_22 : decode cX12_aheadOf 22 = .ok (.iinc 1 1, 3) := by decide +kernel
theorem dX12_aheadOf_25 : decode cX12_aheadOf 25 = .ok (.goto (-23), 3) := by decide +kernel
theorem dX12_aheadOf_40 : decode cX12_aheadOf 40 = .ok (.iload_n 1, 1) := by decide +kernel
theorem dX12_aheadOf_41 : decode cX12_aheadOf 41 = .ok (.iconst 3, 1) := by decide +kernel
theorem dX12_aheadOf_42 : decode cX12_aheadOf 42 = .ok (.imul, 1) := by decide +kernel
theorem dX12_aheadOf_43 : decode cX12_aheadOf 43 = .ok (.istore_n 1, 1) := by decide +kernel
theorem dX12_aheadOf_44 : decode cX12_aheadOf 44 = .ok (.iinc 2 1, 3) := by decide +kernel
theorem dX12_aheadOf_47 : decode cX12_aheadOf 47 = .ok (.goto (-15), 3) := by decide +kernel
theorem dX12_aheadOf_158 : decode cX12_aheadOf 158 = .ok (.aload_n 0, 1) := by decide +kernel
theorem dX12_aheadOf_159 : decode cX12_aheadOf 159 = .ok (.getfield 136, 3) := by decide +kernel
theorem dX12_aheadOf_162 : decode cX12_aheadOf 162 = .ok (.iload 8, 2) := by decide +kernel
theorem dX12_aheadOf_164 : decode cX12_aheadOf 164 = .ok (.aload_n 0, 1) := by decide +kernel
theorem dX12_aheadOf_165 : decode cX12_aheadOf 165 = .ok (.getfield 103, 3) := by decide +kernel
theorem dX12_aheadOf_168 : decode cX12_aheadOf 168 = .ok (.iload 8, 2) := by decide +kernel
theorem dX12_aheadOf_170 : decode cX12_aheadOf 170 = .ok (.iaload, 1) := by decide +kernel
theorem dX12_aheadOf_171 : decode cX12_aheadOf 171 = .ok (.aload_n 0, 1) := by decide +kernel
theorem dX12_aheadOf_172 : decode cX12_aheadOf 172 = .ok (.getfield 139, 3) := by decide +kernel
theorem dX12_aheadOf_175 : decode cX12_aheadOf 175 = .ok (.iload 8, 2) := by decide +kernel
theorem dX12_aheadOf_177 : decode cX12_aheadOf 177 = .ok (.iaload, 1) := by decide +kernel
theorem dX12_aheadOf_178 : decode cX12_aheadOf 178 = .ok (.isub, 1) := by decide +kernel
theorem dX12_aheadOf_179 : decode cX12_aheadOf 179 = .ok (.iconst 2, 1) := by decide +kernel
theorem dX12_aheadOf_180 : decode cX12_aheadOf 180 = .ok (.aload_n 0, 1) := by decide +kernel
theorem dX12_aheadOf_181 : decode cX12_aheadOf 181 = .ok (.getfield 234, 3) := by decide +kernel
theorem dX12_aheadOf_184 : decode cX12_aheadOf 184 = .ok (.imul, 1) := by decide +kernel
theorem dX12_aheadOf_185 : decode cX12_aheadOf 185 = .ok (.idiv, 1) := by decide +kernel
theorem dX12_aheadOf_186 : decode cX12_aheadOf 186 = .ok (.iastore, 1) := by decide +kernel
theorem dX12_aheadOf_187 : decode cX12_aheadOf 187 = .ok (.iinc 8 1, 3) := by decide +kernel
theorem dX12_aheadOf_190 : decode cX12_aheadOf 190 = .ok (.goto (-41), 3) := by decide +kernel
theorem dX12_aheadOf_80 : decode cX12_aheadOf 80 = .ok (.aload_n 0, 1) := by decide +kernel
theorem dX12_aheadOf_81 : decode cX12_aheadOf 81 = .ok (.getfield 103, 3) := by decide +kernel
theorem dX12_aheadOf_84 : decode cX12_aheadOf 84 = .ok (.iload 6, 2) := by decide +kernel
theorem dX12_aheadOf_86 : decode cX12_aheadOf 86 = .ok (.aload_n 0, 1) := by decide +kernel
theorem dX12_aheadOf_87 : decode cX12_aheadOf 87 = .ok (.getfield 139, 3) := by decide +kernel
theorem dX12_aheadOf_90 : decode cX12_aheadOf 90 = .ok (.iload 6, 2) := by decide +kernel
theorem dX12_aheadOf_92 : decode cX12_aheadOf 92 = .ok (.iaload, 1) := by decide +kernel
theorem dX12_aheadOf_93 : decode cX12_aheadOf 93 = .ok (.iconst 2, 1) := by decide +kernel
theorem dX12_aheadOf_94 : decode cX12_aheadOf 94 = .ok (.aload_n 0, 1) := by decide +kernel
theorem dX12_aheadOf_95 : decode cX12_aheadOf 95 = .ok (.getfield 234, 3) := by decide +kernel
theorem dX12_aheadOf_98 : decode cX12_aheadOf 98 = .ok (.imul, 1) := by decide +kernel
theorem dX12_aheadOf_99 : decode cX12_aheadOf 99 = .ok (.iload 5, 2) := by decide +kernel
theorem dX12_aheadOf_101 : decode cX12_aheadOf 101 = .ok (.iconst 3, 1) := by decide +kernel
theorem dX12_aheadOf_102 : decode cX12_aheadOf 102 = .ok (.irem, 1) := by decide +kernel
theorem dX12_aheadOf_103 : decode cX12_aheadOf 103 = .ok (.iconst 1, 1) := by decide +kernel
theorem dX12_aheadOf_104 : decode cX12_aheadOf 104 = .ok (.isub, 1) := by decide +kernel
theorem dX12_aheadOf_105 : decode cX12_aheadOf 105 = .ok (.imul, 1) := by decide +kernel
theorem dX12_aheadOf_106 : decode cX12_aheadOf 106 = .ok (.iadd, 1) := by decide +kernel
theorem dX12_aheadOf_107 : decode cX12_aheadOf 107 = .ok (.iastore, 1) := by decide +kernel
theorem dX12_aheadOf_108 : decode cX12_aheadOf 108 = .ok (.iload 5, 2) := by decide +kernel
theorem dX12_aheadOf_110 : decode cX12_aheadOf 110 = .ok (.iconst 3, 1) := by decide +kernel
theorem dX12_aheadOf_111 : decode cX12_aheadOf 111 = .ok (.idiv, 1) := by decide +kernel
theorem dX12_aheadOf_112 : decode cX12_aheadOf 112 = .ok (.istore 5, 2) := by decide +kernel
theorem dX12_aheadOf_114 : decode cX12_aheadOf 114 = .ok (.iinc 6 (-1), 3) := by decide +kernel
theorem dX12_aheadOf_117 : decode cX12_aheadOf 117 = .ok (.goto (-42), 3) := by decide +kernel
theorem dX12_ahead_20 : decode cX12_ahead 20 = .ok (.lstore_n 1, 1) := by decide +kernel
theorem dX12_ahead_21 : decode cX12_ahead 21 = .ok (.lload_n 1, 1) := by decide +kernel
theorem dX12_ahead_22 : decode cX12_ahead 22 = .ok (.ldc2_w 365, 3) := by decide +kernel
theorem dX12_ahead_25 : decode cX12_ahead 25 = .ok (.aload_n 0, 1) := by decide +kernel
theorem dX12_ahead_26 : decode cX12_ahead 26 = .ok (.getfield 63, 3) := by decide +kernel
theorem dX12_ahead_29 : decode cX12_ahead 29 = .ok (.i2l, 1) := by decide +kernel
theorem dX12_ahead_30 : decode cX12_ahead 30 = .ok (.lmul, 1) := by decide +kernel
theorem dX12_ahead_31 : decode cX12_ahead 31 = .ok (.lcmp, 1) := by decide +kernel
theorem dX12_ahead_32 : decode cX12_ahead 32 = .ok (.ifCond .le 7, 3) := by decide +kernel
theorem dX12_ahead_39 : decode cX12_ahead 39 = .ok (.aload_n 0, 1) := by decide +kernel
theorem dX12_ahead_40 : decode cX12_ahead 40 = .ok (.iconst 1, 1) := by decide +kernel
theorem dX12_ahead_41 : decode cX12_ahead 41 = .ok (.putfield 252, 3) := by decide +kernel
theorem dX12_ahead_44 : decode cX12_ahead 44 = .ok (.lload_n 1, 1) := by decide +kernel
theorem dX12_ahead_45 : decode cX12_ahead 45 = .ok (.lreturn, 1) := by decide +kernel
theorem dX12_ahead_35 : decode cX12_ahead 35 = .ok (.ldc2_w 384, 3) := by decide +kernel
theorem dX12_ahead_38 : decode cX12_ahead 38 = .ok (.lreturn, 1) := by decide +kernel
theorem dX12_ahead_12 : decode cX12_ahead 12 = .ok (.ldc2_w 384, 3) := by decide +kernel
theorem dX12_ahead_15 : decode cX12_ahead 15 = .ok (.lreturn, 1) := by decide +kernel
theorem dX12_span_0 : decode cX12_span 0 = .ok (.iconst 0, 1) := by decide +kernel
theorem dX12_span_1 : decode cX12_span 1 = .ok (.istore_n 2, 1) := by decide +kernel
theorem dX12_span_2 : decode cX12_span 2 = .ok (.iload_n 2, 1) := by decide +kernel
theorem dX12_span_3 : decode cX12_span 3 = .ok (.iconst 5, 1) := by decide +kernel
theorem dX12_span_4 : decode cX12_span 4 = .ok (.if_icmp .ge 21, 3) := by decide +kernel
theorem dX12_span_7 : decode cX12_span 7 = .ok (.aload_n 0, 1) := by decide +kernel
theorem dX12_span_8 : decode cX12_span 8 = .ok (.getfield 142, 3) := by decide +kernel
theorem dX12_span_11 : decode cX12_span 11 = .ok (.iload_n 2, 1) := by decide +kernel
theorem dX12_span_12 : decode cX12_span 12 = .ok (.aload_n 0, 1) := by decide +kernel
theorem dX12_span_13 : decode cX12_span 13 = .ok (.getfield 136, 3) := by decide +kernel
theorem dX12_span_16 : decode cX12_span 16 = .ok (.iload_n 2, 1) := by decide +kernel
theorem dX12_span_17 : decode cX12_span 17 = .ok (.iaload, 1) := by decide +kernel
theorem dX12_span_18 : decode cX12_span 18 = .ok (.iastore, 1) := by decide +kernel
theorem dX12_span_19 : decode cX12_span 19 = .ok (.iinc 2 1, 3) := by decide +kernel
theorem dX12_span_22 : decode cX12_span 22 = .ok (.goto (-20), 3) := by decide +kernel
theorem dX12_span_25 : decode cX12_span 25 = .ok (.ldc2_w 384, 3) := by decide +kernel
theorem dX12_span_28 : decode cX12_span 28 = .ok (.lstore_n 2, 1) := by decide +kernel
theorem dX12_span_29 : decode cX12_span 29 = .ok (.iconst 0, 1) := by decide +kernel
theorem dX12_span_30 : decode cX12_span 30 = .ok (.istore 4, 2) := by decide +kernel
theorem dX12_span_32 : decode cX12_span 32 = .ok (.iload 4, 2) := by decide +kernel
theorem dX12_span_34 : decode cX12_span 34 = .ok (.aload_n 0, 1) := by decide +kernel
theorem dX12_span_35 : decode cX12_span 35 = .ok (.invokevirtual 406, 3) := by decide +kernel
theorem dX12_span_38 : decode cX12_span 38 = .ok (.if_icmp .ge 51, 3) := by decide +kernel
theorem dX12_span_89 : decode cX12_span 89 = .ok (.iconst 0, 1) := by decide +kernel
theorem dX12_span_90 : decode cX12_span 90 = .ok (.istore 4, 2) := by decide +kernel
theorem dX12_span_92 : decode cX12_span 92 = .ok (.iload 4, 2) := by decide +kernel
theorem dX12_span_94 : decode cX12_span 94 = .ok (.iconst 5, 1) := by decide +kernel
theorem dX12_span_95 : decode cX12_span 95 = .ok (.if_icmp .ge 23, 3) := by decide +kernel
theorem dX12_span_98 : decode cX12_span 98 = .ok (.aload_n 0, 1) := by decide +kernel
theorem dX12_span_99 : decode cX12_span 99 = .ok (.getfield 136, 3) := by decide +kernel
theorem dX12_span_102 : decode cX12_span 102 = .ok (.iload 4, 2) := by decide +kernel
theorem dX12_span_104 : decode cX12_span 104 = .ok (.aload_n 0, 1) := by decide +kernel
theorem dX12_span_105 : decode cX12_span 105 = .ok (.getfield 142, 3) := by decide +kernel
theorem dX12_span_108 : decode cX12_span 108 = .ok (.iload 4, 2) := by decide +kernel
theorem dX12_span_110 : decode cX12_span 110 = .ok (.iaload, 1) := by decide +kernel
theorem dX12_span_111 : decode cX12_span 111 = .ok (.iastore, 1) := by decide +kernel
theorem dX12_span_112 : decode cX12_span 112 = .ok (.iinc 4 1, 3) := by decide +kernel
theorem dX12_span_115 : decode cX12_span 115 = .ok (.goto (-23), 3) := by decide +kernel
theorem dX12_span_118 : decode cX12_span 118 = .ok (.lload_n 2, 1) := by decide +kernel
theorem dX12_span_119 : decode cX12_span 119 = .ok (.lreturn, 1) := by decide +kernel
theorem dX12_span_41 : decode cX12_span 41 = .ok (.aload_n 0, 1) := by decide +kernel
theorem dX12_span_42 : decode cX12_span 42 = .ok (.iload 4, 2) := by decide +kernel
theorem dX12_span_44 : decode cX12_span 44 = .ok (.invokevirtual 403, 3) := by decide +kernel
theorem dX12_span_47 : decode cX12_span 47 = .ok (.aload_n 0, 1) := by decide +kernel
theorem dX12_span_48 : decode cX12_span 48 = .ok (.invokevirtual 477, 3) := by decide +kernel
theorem dX12_span_51 : decode cX12_span 51 = .ok (.lstore 5, 2) := by decide +kernel
theorem dX12_span_53 : decode cX12_span 53 = .ok (.lload_n 2, 1) := by decide +kernel
theorem dX12_span_54 : decode cX12_span 54 = .ok (.lconst 0, 1) := by decide +kernel
theorem dX12_span_55 : decode cX12_span 55 = .ok (.lcmp, 1) := by decide +kernel
theorem dX12_span_56 : decode cX12_span 56 = .ok (.ifCond .lt 24, 3) := by decide +kernel
theorem dX12_span_80 : decode cX12_span 80 = .ok (.lload 5, 2) := by decide +kernel
theorem dX12_span_82 : decode cX12_span 82 = .ok (.lstore_n 2, 1) := by decide +kernel
theorem dX12_span_83 : decode cX12_span 83 = .ok (.iinc 4 1, 3) := by decide +kernel
theorem dX12_span_86 : decode cX12_span 86 = .ok (.goto (-54), 3) := by decide +kernel
theorem dX12_span_59 : decode cX12_span 59 = .ok (.iload_n 1, 1) := by decide +kernel
theorem dX12_span_60 : decode cX12_span 60 = .ok (.ifCond .eq 13, 3) := by decide +kernel
theorem dX12_span_73 : decode cX12_span 73 = .ok (.lload 5, 2) := by decide +kernel
theorem dX12_span_75 : decode cX12_span 75 = .ok (.lload_n 2, 1) := by decide +kernel
theorem dX12_span_76 : decode cX12_span 76 = .ok (.lcmp, 1) := by decide +kernel
theorem dX12_span_77 : decode cX12_span 77 = .ok (.ifCond .ge 6, 3) := by decide +kernel
theorem dX12_span_63 : decode cX12_span 63 = .ok (.lload 5, 2) := by decide +kernel
theorem dX12_span_65 : decode cX12_span 65 = .ok (.lload_n 2, 1) := by decide +kernel
theorem dX12_span_66 : decode cX12_span 66 = .ok (.lcmp, 1) := by decide +kernel
theorem dX12_span_67 : decode cX12_span 67 = .ok (.ifCond .le 16, 3) := by decide +kernel
theorem dX12_span_70 : decode cX12_span 70 = .ok (.goto 10, 3) := by decide +kernel
theorem dX12_put_0 : decode cX12_put 0 = .ok (.aload_n 0, 1) := by decide +kernel
theorem dX12_put_1 : decode cX12_put 1 = .ok (.iload_n 1, 1) := by decide +kernel
theorem dX12_put_2 : decode cX12_put 2 = .ok (.invokevirtual 361, 3) := by decide +kernel
theorem dX12_put_5 : decode cX12_put 5 = .ok (.ifCond .eq 19, 3) := by decide +kernel
theorem dX12_put_24 : decode cX12_put 24 = .ok (.ldc_w 364, 3) := by decide +kernel
theorem dX12_put_27 : decode cX12_put 27 = .ok (.ireturn, 1) := by decide +kernel
theorem dX12_put_8 : decode cX12_put 8 = .ok (.aload_n 0, 1) := by decide +kernel
theorem dX12_put_9 : decode cX12_put 9 = .ok (.getfield 252, 3) := by decide +kernel
theorem dX12_put_12 : decode cX12_put 12 = .ok (.ifCond .eq 12, 3) := by decide +kernel
theorem dX12_put_15 : decode cX12_put 15 = .ok (.aload_n 0, 1) := by decide +kernel
theorem dX12_put_16 : decode cX12_put 16 = .ok (.getfield 136, 3) := by decide +kernel
theorem dX12_put_19 : decode cX12_put 19 = .ok (.iload_n 1, 1) := by decide +kernel
theorem dX12_put_20 : decode cX12_put 20 = .ok (.iaload, 1) := by decide +kernel
theorem dX12_put_21 : decode cX12_put 21 = .ok (.goto 6, 3) := by decide +kernel
theorem dX12_worth_0 : decode cX12_worth 0 = .ok (.aload_n 0, 1) := by decide +kernel
theorem dX12_worth_1 : decode cX12_worth 1 = .ok (.iload_n 1, 1) := by decide +kernel
theorem dX12_worth_2 : decode cX12_worth 2 = .ok (.invokevirtual 361, 3) := by decide +kernel
theorem dX12_worth_5 : decode cX12_worth 5 = .ok (.ifCond .eq 11, 3) := by decide +kernel
theorem dX12_worth_16 : decode cX12_worth 16 = .ok (.ldc_w 364, 3) := by decide +kernel
theorem dX12_worth_19 : decode cX12_worth 19 = .ok (.ireturn, 1) := by decide +kernel
theorem dX12_worth_8 : decode cX12_worth 8 = .ok (.aload_n 0, 1) := by decide +kernel
theorem dX12_worth_9 : decode cX12_worth 9 = .ok (.iload_n 1, 1) := by decide +kernel
theorem dX12_worth_10 : decode cX12_worth 10 = .ok (.invokevirtual 481, 3) := by decide +kernel
theorem dX12_worthOf_0 : decode cX12_worthOf 0 = .ok (.iconst 0, 1) := by decide +kernel
theorem dX12_worthOf_1 : decode cX12_worthOf 1 = .ok (.istore_n 2, 1) := by decide +kernel
theorem dX12_worthOf_2 : decode cX12_worthOf 2 = .ok (.iload_n 2, 1) := by decide +kernel
theorem dX12_worthOf_3 : decode cX12_worthOf 3 = .ok (.aload_n 0, 1) := by decide +kernel
theorem dX12_worthOf_4 : decode cX12_worthOf 4 = .ok (.getfield 81, 3) := by decide +kernel
theorem dX12_worthOf_7 : decode cX12_worthOf 7 = .ok (.iconst 0, 1) := by decide +kernel
theorem dX12_worthOf_8 : decode cX12_worthOf 8 = .ok (.iaload, 1) := by decide +kernel
theorem dX12_worthOf_9 : decode cX12_worthOf 9 = .ok (.if_icmp .ge 50, 3) := by decide +kernel
theorem dX12_worthOf_59 : decode cX12_worthOf 59 = .ok (.iconst 0, 1) := by decide +kernel
theorem dX12_worthOf_60 : decode cX12_worthOf 60 = .ok (.ireturn, 1) := by decide +kernel
theorem dX12_worthOf_12 : decode cX12_worthOf 12 = .ok (.aload_n 0, 1) := by decide +kernel
theorem dX12_worthOf_13 : decode cX12_worthOf 13 = .ok (.aload_n 0, 1) := by decide +kernel
theorem dX12_worthOf_14 : decode cX12_worthOf 14 = .ok (.getfield 87, 3) := by decide +kernel
theorem dX12_worthOf_17 : decode cX12_worthOf 17 = .ok (.iload_n 2, 1) := by decide +kernel
theorem dX12_worthOf_18 : decode cX12_worthOf 18 = .ok (.iaload, 1) := by decide +kernel
theorem dX12_worthOf_19 : decode cX12_worthOf 19 = .ok (.aload_n 0, 1) := by decide +kernel
theorem dX12_worthOf_20 : decode cX12_worthOf 20 = .ok (.getfield 90, 3) := by decide +kernel
theorem dX12_worthOf_23 : decode cX12_worthOf 23 = .ok (.iload_n 2, 1) := by decide +kernel
theorem dX12_worthOf_24 : decode cX12_worthOf 24 = .ok (.iaload, 1) := by decide +kernel
theorem dX12_worthOf_25 : decode cX12_worthOf 25 = .ok (.iload_n 1, 1) := by decide +kernel
theorem dX12_worthOf_26 : decode cX12_worthOf 26 = .ok (.invokevirtual 345, 3) := by decide +kernel
theorem dX12_told_0 : decode cX12_told 0 = .ok (.aload_n 0, 1) := by decide +kernel
theorem dX12_told_1 : decode cX12_told 1 = .ok (.iconst 0, 1) := by decide +kernel
theorem dX12_told_2 : decode cX12_told 2 = .ok (.putfield 315, 3) := by decide +kernel
theorem dX12_told_5 : decode cX12_told 5 = .ok (.iload_n 1, 1) := by decide +kernel
theorem dX12_told_6 : decode cX12_told 6 = .ok (.istore 4, 2) := by decide +kernel
theorem dX12_told_8 : decode cX12_told 8 = .ok (.iload 4, 2) := by decide +kernel
theorem dX12_told_10 : decode cX12_told 10 = .ok (.iload_n 2, 1) := by decide +kernel
theorem dX12_told_11 : decode cX12_told 11 = .ok (.if_icmp .ge 156, 3) := by decide +kernel
theorem dX12_told_167 : decode cX12_told 167 = .ok (.aload_n 0, 1) := by decide +kernel
theorem dX12_told_168 : decode cX12_told 168 = .ok (.getfield 93, 3) := by decide +kernel
theorem dX12_told_171 : decode cX12_told 171 = .ok (.iconst 0, 1) := by decide +kernel
theorem dX12_told_172 : decode cX12_told 172 = .ok (.laload, 1) := by decide +kernel
theorem dX12_told_173 : decode cX12_told 173 = .ok (.lreturn, 1) := by decide +kernel
theorem dX12_told_14 : decode cX12_told 14 = .ok (.aload_n 0, 1) := by decide +kernel
theorem dX12_told_15 : decode cX12_told 15 = .ok (.getfield 75, 3) := by decide +kernel
theorem dX12_told_18 : decode cX12_told 18 = .ok (.iload 4, 2) := by decide +kernel
theorem dX12_told_20 : decode cX12_told 20 = .ok (.iaload, 1) := by decide +kernel
theorem dX12_told_21 : decode cX12_told 21 = .ok (.istore 5, 2) := by decide +kernel
theorem dX12_told_23 : decode cX12_told 23 = .ok (.iload 5, 2) := by decide +kernel
theorem dX12_told_25 : decode cX12_told 25 = .ok (.sipush 1000, 3) := by decide +kernel
theorem dX12_told_28 : decode cX12_told 28 = .ok (.if_icmp .lt 17, 3) := by decide +kernel
theorem dX12_told_45 : decode cX12_told 45 = .ok (.iload 5, 2) := by decide +kernel
theorem dX12_told_47 : decode cX12_told 47 = .ok (.bipush 17, 2) := by decide +kernel
theorem dX12_told_49 : decode cX12_told 49 = .ok (.if_icmp .ne 11, 3) := by decide +kernel
theorem dX12_told_60 : decode cX12_told 60 = .ok (.iload 5, 2) := by decide +kernel
theorem dX12_told_62 : decode cX12_told 62 = .ok (.bipush 16, 2) := by decide +kernel
theorem dX12_told_64 : decode cX12_told 64 = .ok (.if_icmp .ne 30, 3) := by decide +kernel
theorem dX12_told_94 : decode cX12_told 94 = .ok (.iload 5, 2) := by decide +kernel
theorem dX12_told_96 : decode cX12_told 96 = .ok (.i2l, 1) := by decide +kernel
theorem dX12_told_97 : decode cX12_told 97 = .ok (.ldc2_w 330, 3) := by decide +kernel
theorem dX12_told_100 : decode cX12_told 100 = .ok (.ldc2_w 332, 3) := by decide +kernel
theorem dX12_told_103 : decode cX12_told 103 = .ok (.invokestatic 191, 3) := by decide +kernel
theorem dX12_told_106 : decode cX12_told 106 = .ok (.ifCond .eq 49, 3) := by decide +kernel
theorem dX12_told_155 : decode cX12_told 155 = .ok (.aload_n 0, 1) := by decide +kernel
theorem dX12_told_156 : decode cX12_told 156 = .ok (.iload 5, 2) := by decide +kernel
theorem dX12_told_158 : decode cX12_told 158 = .ok (.invokevirtual 342, 3) := by decide +kernel
theorem dX12_joins_0 : decode cX12_joins 0 = .ok (.aload_n 0, 1) := by decide +kernel
theorem dX12_joins_1 : decode cX12_joins 1 = .ok (.getfield 93, 3) := by decide +kernel
theorem dX12_joins_4 : decode cX12_joins 4 = .ok (.aload_n 0, 1) := by decide +kernel
theorem dX12_joins_5 : decode cX12_joins 5 = .ok (.getfield 315, 3) := by decide +kernel
theorem dX12_joins_8 : decode cX12_joins 8 = .ok (.iconst 1, 1) := by decide +kernel
theorem dX12_joins_9 : decode cX12_joins 9 = .ok (.isub, 1) := by decide +kernel
theorem dX12_joins_10 : decode cX12_joins 10 = .ok (.laload, 1) := by decide +kernel
theorem dX12_joins_11 : decode cX12_joins 11 = .ok (.lstore_n 2, 1) := by decide +kernel
theorem dX12_joins_12 : decode cX12_joins 12 = .ok (.aload_n 0, 1) := by decide +kernel
theorem dX12_joins_13 : decode cX12_joins 13 = .ok (.getfield 93, 3) := by decide +kernel
theorem dX12_joins_16 : decode cX12_joins 16 = .ok (.aload_n 0, 1) := by decide +kernel
theorem dX12_joins_17 : decode cX12_joins 17 = .ok (.getfield 315, 3) := by decide +kernel
theorem dX12_joins_20 : decode cX12_joins 20 = .ok (.iconst 2, 1) := by decide +kernel
theorem dX12_joins_21 : decode cX12_joins 21 = .ok (.isub, 1) := by decide +kernel
theorem dX12_joins_22 : decode cX12_joins 22 = .ok (.laload, 1) := by decide +kernel
theorem dX12_joins_23 : decode cX12_joins 23 = .ok (.lstore 4, 2) := by decide +kernel
theorem dX12_joins_25 : decode cX12_joins 25 = .ok (.aload_n 0, 1) := by decide +kernel
theorem dX12_joins_26 : decode cX12_joins 26 = .ok (.dup, 1) := by decide +kernel
theorem dX12_joins_27 : decode cX12_joins 27 = .ok (.getfield 315, 3) := by decide +kernel
theorem dX12_joins_30 : decode cX12_joins 30 = .ok (.iconst 2, 1) := by decide +kernel
theorem dX12_joins_31 : decode cX12_joins 31 = .ok (.isub, 1) := by decide +kernel
theorem dX12_joins_32 : decode cX12_joins 32 = .ok (.putfield 315, 3) := by decide +kernel
theorem dX12_joins_35 : decode cX12_joins 35 = .ok (.iload_n 1, 1) := by decide +kernel
theorem dX12_joins_36 : decode cX12_joins 36 = .ok (.tableswitch 235 1 14 #[72, 86, 100, 114, 127, 147, 235, 235, 235, 235, 167, 186, 205, 224], 72) := by decide +kernel
theorem dX12_joins_108 : decode cX12_joins 108 = .ok (.aload_n 0, 1) := by decide +kernel
theorem dX12_joins_109 : decode cX12_joins 109 = .ok (.lload 4, 2) := by decide +kernel
theorem dX12_joins_111 : decode cX12_joins 111 = .ok (.lload_n 2, 1) := by decide +kernel
theorem dX12_joins_112 : decode cX12_joins 112 = .ok (.ladd, 1) := by decide +kernel
theorem dX12_joins_113 : decode cX12_joins 113 = .ok (.invokestatic 318, 3) := by decide +kernel
theorem dX12_clip_0 : decode cX12_clip 0 = .ok (.lload_n 0, 1) := by decide +kernel
theorem dX12_clip_1 : decode cX12_clip 1 = .ok (.ldc2_w 311, 3) := by decide +kernel
theorem dX12_clip_4 : decode cX12_clip 4 = .ok (.lcmp, 1) := by decide +kernel
theorem dX12_clip_5 : decode cX12_clip 5 = .ok (.ifCond .le 9, 3) := by decide +kernel
theorem dX12_clip_14 : decode cX12_clip 14 = .ok (.lload_n 0, 1) := by decide +kernel
theorem dX12_clip_15 : decode cX12_clip 15 = .ok (.ldc2_w 313, 3) := by decide +kernel
theorem dX12_clip_18 : decode cX12_clip 18 = .ok (.lcmp, 1) := by decide +kernel
theorem dX12_clip_19 : decode cX12_clip 19 = .ok (.ifCond .ge 9, 3) := by decide +kernel
theorem dX12_clip_28 : decode cX12_clip 28 = .ok (.lload_n 0, 1) := by decide +kernel
theorem dX12_clip_29 : decode cX12_clip 29 = .ok (.lreturn, 1) := by decide +kernel
