theorem dX12_clip_22 : decode cX12_clip 22 = .ok (.ldc2_w 313, 3) := by decide +kernel
theorem dX12_clip_25 : decode cX12_clip 25 = .ok (.goto 4, 3) := by decide +kernel
theorem dX12_clip_8 : decode cX12_clip 8 = .ok (.ldc2_w 311, 3) := by decide +kernel
theorem dX12_clip_11 : decode cX12_clip 11 = .ok (.goto 18, 3) := by decide +kernel
theorem dX12_joins_116 : decode cX12_joins 116 = .ok (.invokevirtual 322, 3) := by decide +kernel
theorem dX12_puts_0 : decode cX12_puts 0 = .ok (.aload_n 0, 1) := by decide +kernel
theorem dX12_puts_1 : decode cX12_puts 1 = .ok (.getfield 93, 3) := by decide +kernel
theorem dX12_puts_4 : decode cX12_puts 4 = .ok (.aload_n 0, 1) := by decide +kernel
theorem dX12_puts_5 : decode cX12_puts 5 = .ok (.getfield 315, 3) := by decide +kernel
theorem dX12_puts_8 : decode cX12_puts 8 = .ok (.lload_n 1, 1) := by decide +kernel
theorem dX12_puts_9 : decode cX12_puts 9 = .ok (.lastore, 1) := by decide +kernel
theorem dX12_puts_10 : decode cX12_puts 10 = .ok (.aload_n 0, 1) := by decide +kernel
theorem dX12_puts_11 : decode cX12_puts 11 = .ok (.dup, 1) := by decide +kernel
theorem dX12_puts_12 : decode cX12_puts 12 = .ok (.getfield 315, 3) := by decide +kernel
theorem dX12_puts_15 : decode cX12_puts 15 = .ok (.iconst 1, 1) := by decide +kernel
theorem dX12_puts_16 : decode cX12_puts 16 = .ok (.iadd, 1) := by decide +kernel
theorem dX12_puts_17 : decode cX12_puts 17 = .ok (.putfield 315, 3) := by decide +kernel
theorem dX12_puts_20 : decode cX12_puts 20 = .ok (.return_, 1) := by decide +kernel
theorem dX12_joins_119 : decode cX12_joins 119 = .ok (.goto 170, 3) := by decide +kernel
theorem dX12_joins_289 : decode cX12_joins 289 = .ok (.return_, 1) := by decide +kernel
theorem dX12_joins_122 : decode cX12_joins 122 = .ok (.aload_n 0, 1) := by decide +kernel
theorem dX12_joins_123 : decode cX12_joins 123 = .ok (.lload 4, 2) := by decide +kernel
theorem dX12_joins_125 : decode cX12_joins 125 = .ok (.lload_n 2, 1) := by decide +kernel
theorem dX12_joins_126 : decode cX12_joins 126 = .ok (.lsub, 1) := by decide +kernel
theorem dX12_joins_127 : decode cX12_joins 127 = .ok (.invokestatic 318, 3) := by decide +kernel
theorem dX12_joins_130 : decode cX12_joins 130 = .ok (.invokevirtual 322, 3) := by decide +kernel
theorem dX12_joins_133 : decode cX12_joins 133 = .ok (.goto 156, 3) := by decide +kernel
theorem dX12_joins_136 : decode cX12_joins 136 = .ok (.aload_n 0, 1) := by decide +kernel
theorem dX12_joins_137 : decode cX12_joins 137 = .ok (.lload 4, 2) := by decide +kernel
theorem dX12_joins_139 : decode cX12_joins 139 = .ok (.lload_n 2, 1) := by decide +kernel
theorem dX12_joins_140 : decode cX12_joins 140 = .ok (.lmul, 1) := by decide +kernel
theorem dX12_joins_141 : decode cX12_joins 141 = .ok (.invokestatic 318, 3) := by decide +kernel
theorem dX12_joins_144 : decode cX12_joins 144 = .ok (.invokevirtual 322, 3) := by decide +kernel
theorem dX12_joins_147 : decode cX12_joins 147 = .ok (.goto 142, 3) := by decide +kernel
theorem dX12_joins_150 : decode cX12_joins 150 = .ok (.aload_n 0, 1) := by decide +kernel
theorem dX12_joins_151 : decode cX12_joins 151 = .ok (.lload 4, 2) := by decide +kernel
theorem dX12_joins_153 : decode cX12_joins 153 = .ok (.lload_n 2, 1) := by decide +kernel
theorem dX12_joins_154 : decode cX12_joins 154 = .ok (.invokestatic 326, 3) := by decide +kernel
theorem dX12_floor_0 : decode cX12_floor 0 = .ok (.lload_n 2, 1) := by decide +kernel
theorem dX12_floor_1 : decode cX12_floor 1 = .ok (.lconst 0, 1) := by decide +kernel
theorem dX12_floor_2 : decode cX12_floor 2 = .ok (.lcmp, 1) := by decide +kernel
theorem dX12_floor_3 : decode cX12_floor 3 = .ok (.ifCond .ne 5, 3) := by decide +kernel
theorem dX12_floor_8 : decode cX12_floor 8 = .ok (.lload_n 0, 1) := by decide +kernel
theorem dX12_floor_9 : decode cX12_floor 9 = .ok (.lload_n 2, 1) := by decide +kernel
theorem dX12_floor_10 : decode cX12_floor 10 = .ok (.ldiv, 1) := by decide +kernel
theorem dX12_floor_11 : decode cX12_floor 11 = .ok (.lstore 4, 2) := by decide +kernel
theorem dX12_floor_13 : decode cX12_floor 13 = .ok (.lload_n 0, 1) := by decide +kernel
theorem dX12_floor_14 : decode cX12_floor 14 = .ok (.lload_n 2, 1) := by decide +kernel
theorem dX12_floor_15 : decode cX12_floor 15 = .ok (.lrem, 1) := by decide +kernel
theorem dX12_floor_16 : decode cX12_floor 16 = .ok (.lconst 0, 1) := by decide +kernel
theorem dX12_floor_17 : decode cX12_floor 17 = .ok (.lcmp, 1) := by decide +kernel
theorem dX12_floor_18 : decode cX12_floor 18 = .ok (.ifCond .eq 35, 3) := by decide +kernel
theorem dX12_floor_53 : decode cX12_floor 53 = .ok (.lload 4, 2) := by decide +kernel
theorem dX12_floor_55 : decode cX12_floor 55 = .ok (.lreturn, 1) := by decide +kernel
theorem dX12_floor_21 : decode cX12_floor 21 = .ok (.lload_n 0, 1) := by decide +kernel
theorem dX12_floor_22 : decode cX12_floor 22 = .ok (.lconst 0, 1) := by decide +kernel
theorem dX12_floor_23 : decode cX12_floor 23 = .ok (.lcmp, 1) := by decide +kernel
theorem dX12_floor_24 : decode cX12_floor 24 = .ok (.ifCond .ge 7, 3) := by decide +kernel
theorem dX12_floor_31 : decode cX12_floor 31 = .ok (.iconst 0, 1) := by decide +kernel
theorem dX12_floor_32 : decode cX12_floor 32 = .ok (.lload_n 2, 1) := by decide +kernel
theorem dX12_floor_33 : decode cX12_floor 33 = .ok (.lconst 0, 1) := by decide +kernel
theorem dX12_floor_34 : decode cX12_floor 34 = .ok (.lcmp, 1) := by decide +kernel
theorem dX12_floor_35 : decode cX12_floor 35 = .ok (.ifCond .ge 7, 3) := by decide +kernel
theorem dX12_floor_42 : decode cX12_floor 42 = .ok (.iconst 0, 1) := by decide +kernel
theorem dX12_floor_43 : decode cX12_floor 43 = .ok (.if_icmp .eq 10, 3) := by decide +kernel
theorem dX12_floor_38 : decode cX12_floor 38 = .ok (.iconst 1, 1) := by decide +kernel
theorem dX12_floor_39 : decode cX12_floor 39 = .ok (.goto 4, 3) := by decide +kernel
theorem dX12_floor_46 : decode cX12_floor 46 = .ok (.lload 4, 2) := by decide +kernel
theorem dX12_floor_48 : decode cX12_floor 48 = .ok (.lconst 1, 1) := by decide +kernel
theorem dX12_floor_49 : decode cX12_floor 49 = .ok (.lsub, 1) := by decide +kernel
theorem dX12_floor_50 : decode cX12_floor 50 = .ok (.goto 5, 3) := by decide +kernel
theorem dX12_floor_27 : decode cX12_floor 27 = .ok (.iconst 1, 1) := by decide +kernel
theorem dX12_floor_28 : decode cX12_floor 28 = .ok (.goto 4, 3) := by decide +kernel
theorem dX12_floor_6 : decode cX12_floor 6 = .ok (.lconst 0, 1) := by decide +kernel
theorem dX12_floor_7 : decode cX12_floor 7 = .ok (.lreturn, 1) := by decide +kernel
theorem dX12_joins_157 : decode cX12_joins 157 = .ok (.invokevirtual 322, 3) := by decide +kernel
theorem dX12_joins_160 : decode cX12_joins 160 = .ok (.goto 129, 3) := by decide +kernel
theorem dX12_joins_163 : decode cX12_joins 163 = .ok (.aload_n 0, 1) := by decide +kernel
theorem dX12_joins_164 : decode cX12_joins 164 = .ok (.lload 4, 2) := by decide +kernel
theorem dX12_joins_166 : decode cX12_joins 166 = .ok (.lload_n 2, 1) := by decide +kernel
theorem dX12_joins_167 : decode cX12_joins 167 = .ok (.lcmp, 1) := by decide +kernel
theorem dX12_joins_168 : decode cX12_joins 168 = .ok (.ifCond .ge 8, 3) := by decide +kernel
theorem dX12_joins_176 : decode cX12_joins 176 = .ok (.lload_n 2, 1) := by decide +kernel
theorem dX12_joins_177 : decode cX12_joins 177 = .ok (.invokevirtual 322, 3) := by decide +kernel
theorem dX12_joins_180 : decode cX12_joins 180 = .ok (.goto 109, 3) := by decide +kernel
theorem dX12_joins_171 : decode cX12_joins 171 = .ok (.lload 4, 2) := by decide +kernel
theorem dX12_joins_173 : decode cX12_joins 173 = .ok (.goto 4, 3) := by decide +kernel
theorem dX12_joins_183 : decode cX12_joins 183 = .ok (.aload_n 0, 1) := by decide +kernel
theorem dX12_joins_184 : decode cX12_joins 184 = .ok (.lload 4, 2) := by decide +kernel
theorem dX12_joins_186 : decode cX12_joins 186 = .ok (.lload_n 2, 1) := by decide +kernel
theorem dX12_joins_187 : decode cX12_joins 187 = .ok (.lcmp, 1) := by decide +kernel
theorem dX12_joins_188 : decode cX12_joins 188 = .ok (.ifCond .le 8, 3) := by decide +kernel
theorem dX12_joins_196 : decode cX12_joins 196 = .ok (.lload_n 2, 1) := by decide +kernel
theorem dX12_joins_197 : decode cX12_joins 197 = .ok (.invokevirtual 322, 3) := by decide +kernel
theorem dX12_joins_200 : decode cX12_joins 200 = .ok (.goto 89, 3) := by decide +kernel
theorem dX12_joins_191 : decode cX12_joins 191 = .ok (.lload 4, 2) := by decide +kernel
theorem dX12_joins_193 : decode cX12_joins 193 = .ok (.goto 4, 3) := by decide +kernel
theorem dX12_joins_271 : decode cX12_joins 271 = .ok (.aload_n 0, 1) := by decide +kernel
theorem dX12_joins_272 : decode cX12_joins 272 = .ok (.lload 4, 2) := by decide +kernel
theorem dX12_joins_274 : decode cX12_joins 274 = .ok (.lload_n 2, 1) := by decide +kernel
theorem dX12_joins_275 : decode cX12_joins 275 = .ok (.ladd, 1) := by decide +kernel
theorem dX12_joins_276 : decode cX12_joins 276 = .ok (.lconst 0, 1) := by decide +kernel
theorem dX12_joins_277 : decode cX12_joins 277 = .ok (.lcmp, 1) := by decide +kernel
theorem dX12_joins_278 : decode cX12_joins 278 = .ok (.ifCond .le 7, 3) := by decide +kernel
theorem dX12_joins_285 : decode cX12_joins 285 = .ok (.lconst 0, 1) := by decide +kernel
theorem dX12_joins_286 : decode cX12_joins 286 = .ok (.invokevirtual 322, 3) := by decide +kernel
theorem dX12_joins_281 : decode cX12_joins 281 = .ok (.lconst 1, 1) := by decide +kernel
theorem dX12_joins_282 : decode cX12_joins 282 = .ok (.goto 4, 3) := by decide +kernel
theorem dX12_joins_203 : decode cX12_joins 203 = .ok (.aload_n 0, 1) := by decide +kernel
theorem dX12_joins_204 : decode cX12_joins 204 = .ok (.lload 4, 2) := by decide +kernel
theorem dX12_joins_206 : decode cX12_joins 206 = .ok (.lload_n 2, 1) := by decide +kernel
theorem dX12_joins_207 : decode cX12_joins 207 = .ok (.lcmp, 1) := by decide +kernel
theorem dX12_joins_208 : decode cX12_joins 208 = .ok (.ifCond .ge 7, 3) := by decide +kernel
theorem dX12_joins_215 : decode cX12_joins 215 = .ok (.lconst 0, 1) := by decide +kernel
theorem dX12_joins_216 : decode cX12_joins 216 = .ok (.invokevirtual 322, 3) := by decide +kernel
theorem dX12_joins_219 : decode cX12_joins 219 = .ok (.goto 70, 3) := by decide +kernel
theorem dX12_joins_211 : decode cX12_joins 211 = .ok (.lconst 1, 1) := by decide +kernel
theorem dX12_joins_212 : decode cX12_joins 212 = .ok (.goto 4, 3) := by decide +kernel
theorem dX12_joins_222 : decode cX12_joins 222 = .ok (.aload_n 0, 1) := by decide +kernel
theorem dX12_joins_223 : decode cX12_joins 223 = .ok (.lload 4, 2) := by decide +kernel
theorem dX12_joins_225 : decode cX12_joins 225 = .ok (.lload_n 2, 1) := by decide +kernel
theorem dX12_joins_226 : decode cX12_joins 226 = .ok (.lcmp, 1) := by decide +kernel
theorem dX12_joins_227 : decode cX12_joins 227 = .ok (.ifCond .le 7, 3) := by decide +kernel
theorem dX12_joins_234 : decode cX12_joins 234 = .ok (.lconst 0, 1) := by decide +kernel
theorem dX12_joins_235 : decode cX12_joins 235 = .ok (.invokevirtual 322, 3) := by decide +kernel
theorem dX12_joins_238 : decode cX12_joins 238 = .ok (.goto 51, 3) := by decide +kernel
theorem dX12_joins_230 : decode cX12_joins 230 = .ok (.lconst 1, 1) := by decide +kernel
theorem dX12_joins_231 : decode cX12_joins 231 = .ok (.goto 4, 3) := by decide +kernel
theorem dX12_joins_241 : decode cX12_joins 241 = .ok (.aload_n 0, 1) := by decide +kernel
theorem dX12_joins_242 : decode cX12_joins 242 = .ok (.lload 4, 2) := by decide +kernel
theorem dX12_joins_244 : decode cX12_joins 244 = .ok (.lload_n 2, 1) := by decide +kernel
theorem dX12_joins_245 : decode cX12_joins 245 = .ok (.lcmp, 1) := by decide +kernel
theorem dX12_joins_246 : decode cX12_joins 246 = .ok (.ifCond .ne 7, 3) := by decide +kernel
theorem dX12_joins_253 : decode cX12_joins 253 = .ok (.lconst 0, 1) := by decide +kernel
theorem dX12_joins_254 : decode cX12_joins 254 = .ok (.invokevirtual 322, 3) := by decide +kernel
theorem dX12_joins_257 : decode cX12_joins 257 = .ok (.goto 32, 3) := by decide +kernel
theorem dX12_joins_249 : decode cX12_joins 249 = .ok (.lconst 1, 1) := by decide +kernel
theorem dX12_joins_250 : decode cX12_joins 250 = .ok (.goto 4, 3) := by decide +kernel
theorem dX12_joins_260 : decode cX12_joins 260 = .ok (.aload_n 0, 1) := by decide +kernel
theorem dX12_joins_261 : decode cX12_joins 261 = .ok (.lload 4, 2) := by decide +kernel
theorem dX12_joins_263 : decode cX12_joins 263 = .ok (.lload_n 2, 1) := by decide +kernel
theorem dX12_joins_264 : decode cX12_joins 264 = .ok (.lmul, 1) := by decide +kernel
theorem dX12_joins_265 : decode cX12_joins 265 = .ok (.invokevirtual 322, 3) := by decide +kernel
theorem dX12_joins_268 : decode cX12_joins 268 = .ok (.goto 21, 3) := by decide +kernel
theorem dX12_told_161 : decode cX12_told 161 = .ok (.iinc 4 1, 3) := by decide +kernel
theorem dX12_told_164 : decode cX12_told 164 = .ok (.goto (-156), 3) := by decide +kernel
theorem dX12_told_109 : decode cX12_told 109 = .ok (.aload_n 0, 1) := by decide +kernel
theorem dX12_told_110 : decode cX12_told 110 = .ok (.iload 5, 2) := by decide +kernel
theorem dX12_told_112 : decode cX12_told 112 = .ok (.bipush 7, 2) := by decide +kernel
theorem dX12_told_114 : decode cX12_told 114 = .ok (.if_icmp .ne 8, 3) := by decide +kernel
theorem dX12_told_122 : decode cX12_told 122 = .ok (.iload 5, 2) := by decide +kernel
theorem dX12_told_124 : decode cX12_told 124 = .ok (.bipush 8, 2) := by decide +kernel
theorem dX12_told_126 : decode cX12_told 126 = .ok (.if_icmp .ne 17, 3) := by decide +kernel
theorem dX12_told_143 : decode cX12_told 143 = .ok (.aload_n 0, 1) := by decide +kernel
theorem dX12_told_144 : decode cX12_told 144 = .ok (.iload_n 3, 1) := by decide +kernel
theorem dX12_told_145 : decode cX12_told 145 = .ok (.invokevirtual 338, 3) := by decide +kernel
theorem dX12_peak_0 : decode cX12_peak 0 = .ok (.iconst 0, 1) := by decide +kernel
theorem dX12_peak_1 : decode cX12_peak 1 = .ok (.istore_n 2, 1) := by decide +kernel
theorem dX12_peak_2 : decode cX12_peak 2 = .ok (.iconst 0, 1) := by decide +kernel
theorem dX12_peak_3 : decode cX12_peak 3 = .ok (.istore_n 3, 1) := by decide +kernel
theorem dX12_peak_4 : decode cX12_peak 4 = .ok (.iload_n 3, 1) := by decide +kernel
theorem dX12_peak_5 : decode cX12_peak 5 = .ok (.aload_n 0, 1) := by decide +kernel
theorem dX12_peak_6 : decode cX12_peak 6 = .ok (.getfield 240, 3) := by decide +kernel
theorem dX12_peak_9 : decode cX12_peak 9 = .ok (.if_icmp .ge 49, 3) := by decide +kernel
theorem dX12_peak_58 : decode cX12_peak 58 = .ok (.iload_n 2, 1) := by decide +kernel
theorem dX12_peak_59 : decode cX12_peak 59 = .ok (.ireturn, 1) := by decide +kernel
theorem dX12_peak_12 : decode cX12_peak 12 = .ok (.aload_n 0, 1) := by decide +kernel
theorem dX12_peak_13 : decode cX12_peak 13 = .ok (.getfield 69, 3) := by decide +kernel
theorem dX12_peak_16 : decode cX12_peak 16 = .ok (.iconst 5, 1) := by decide +kernel
theorem dX12_peak_17 : decode cX12_peak 17 = .ok (.iload_n 3, 1) := by decide +kernel
theorem dX12_peak_18 : decode cX12_peak 18 = .ok (.imul, 1) := by decide +kernel
theorem dX12_peak_19 : decode cX12_peak 19 = .ok (.iload_n 1, 1) := by decide +kernel
theorem dX12_peak_20 : decode cX12_peak 20 = .ok (.iadd, 1) := by decide +kernel
theorem dX12_peak_21 : decode cX12_peak 21 = .ok (.iaload, 1) := by decide +kernel
theorem dX12_peak_22 : decode cX12_peak 22 = .ok (.istore 4, 2) := by decide +kernel
theorem dX12_peak_24 : decode cX12_peak 24 = .ok (.iload 4, 2) := by decide +kernel
theorem dX12_peak_26 : decode cX12_peak 26 = .ok (.ifCond .ge 9, 3) := by decide +kernel
theorem dX12_peak_35 : decode cX12_peak 35 = .ok (.iload 4, 2) := by decide +kernel
theorem dX12_peak_37 : decode cX12_peak 37 = .ok (.istore 4, 2) := by decide +kernel
theorem dX12_peak_39 : decode cX12_peak 39 = .ok (.iload 4, 2) := by decide +kernel
theorem dX12_peak_41 : decode cX12_peak 41 = .ok (.iload_n 2, 1) := by decide +kernel
theorem dX12_peak_42 : decode cX12_peak 42 = .ok (.if_icmp .le 8, 3) := by decide +kernel
theorem dX12_peak_50 : decode cX12_peak 50 = .ok (.iload_n 2, 1) := by decide +kernel
theorem dX12_peak_51 : decode cX12_peak 51 = .ok (.istore_n 2, 1) := by decide +kernel
theorem dX12_peak_52 : decode cX12_peak 52 = .ok (.iinc 3 1, 3) := by decide +kernel
theorem dX12_peak_55 : decode cX12_peak 55 = .ok (.goto (-51), 3) := by decide +kernel
theorem dX12_peak_45 : decode cX12_peak 45 = .ok (.iload 4, 2) := by decide +kernel
theorem dX12_peak_47 : decode cX12_peak 47 = .ok (.goto 4, 3) := by decide +kernel
theorem dX12_peak_29 : decode cX12_peak 29 = .ok (.iload 4, 2) := by decide +kernel
theorem dX12_peak_31 : decode cX12_peak 31 = .ok (.ineg, 1) := by decide +kernel
theorem dX12_peak_32 : decode cX12_peak 32 = .ok (.goto 5, 3) := by decide +kernel
theorem dX12_told_148 : decode cX12_told 148 = .ok (.i2l, 1) := by decide +kernel
theorem dX12_told_149 : decode cX12_told 149 = .ok (.invokevirtual 322, 3) := by decide +kernel
theorem dX12_told_152 : decode cX12_told 152 = .ok (.goto 9, 3) := by decide +kernel
theorem dX12_told_129 : decode cX12_told 129 = .ok (.aload_n 0, 1) := by decide +kernel
theorem dX12_told_130 : decode cX12_told 130 = .ok (.iload_n 3, 1) := by decide +kernel
theorem dX12_told_131 : decode cX12_told 131 = .ok (.iload_n 3, 1) := by decide +kernel
theorem dX12_told_132 : decode cX12_told 132 = .ok (.aload_n 0, 1) := by decide +kernel
theorem dX12_told_133 : decode cX12_told 133 = .ok (.getfield 69, 3) := by decide +kernel
theorem dX12_told_136 : decode cX12_told 136 = .ok (.invokevirtual 334, 3) := by decide +kernel
theorem dX12_told_139 : decode cX12_told 139 = .ok (.i2l, 1) := by decide +kernel
theorem dX12_told_140 : decode cX12_told 140 = .ok (.goto 9, 3) := by decide +kernel
theorem dX12_told_117 : decode cX12_told 117 = .ok (.iload_n 3, 1) := by decide +kernel
theorem dX12_told_118 : decode cX12_told 118 = .ok (.i2l, 1) := by decide +kernel
theorem dX12_told_119 : decode cX12_told 119 = .ok (.goto 30, 3) := by decide +kernel
theorem dX12_told_67 : decode cX12_told 67 = .ok (.aload_n 0, 1) := by decide +kernel
theorem dX12_told_68 : decode cX12_told 68 = .ok (.getfield 93, 3) := by decide +kernel
theorem dX12_told_71 : decode cX12_told 71 = .ok (.aload_n 0, 1) := by decide +kernel
theorem dX12_told_72 : decode cX12_told 72 = .ok (.getfield 315, 3) := by decide +kernel
theorem dX12_told_75 : decode cX12_told 75 = .ok (.iconst 1, 1) := by decide +kernel
theorem dX12_told_76 : decode cX12_told 76 = .ok (.isub, 1) := by decide +kernel
theorem dX12_told_77 : decode cX12_told 77 = .ok (.lconst 1, 1) := by decide +kernel
theorem dX12_told_78 : decode cX12_told 78 = .ok (.aload_n 0, 1) := by decide +kernel
theorem dX12_told_79 : decode cX12_told 79 = .ok (.getfield 93, 3) := by decide +kernel
theorem dX12_told_82 : decode cX12_told 82 = .ok (.aload_n 0, 1) := by decide +kernel
theorem dX12_told_83 : decode cX12_told 83 = .ok (.getfield 315, 3) := by decide +kernel
theorem dX12_told_86 : decode cX12_told 86 = .ok (.iconst 1, 1) := by decide +kernel
theorem dX12_told_87 : decode cX12_told 87 = .ok (.isub, 1) := by decide +kernel
theorem dX12_told_88 : decode cX12_told 88 = .ok (.laload, 1) := by decide +kernel
theorem dX12_told_89 : decode cX12_told 89 = .ok (.lsub, 1) := by decide +kernel
theorem dX12_told_90 : decode cX12_told 90 = .ok (.lastore, 1) := by decide +kernel
theorem dX12_told_91 : decode cX12_told 91 = .ok (.goto 70, 3) := by decide +kernel
theorem dX12_told_52 : decode cX12_told 52 = .ok (.aload_n 0, 1) := by decide +kernel
theorem dX12_told_53 : decode cX12_told 53 = .ok (.lconst 1, 1) := by decide +kernel
theorem dX12_told_54 : decode cX12_told 54 = .ok (.invokevirtual 322, 3) := by decide +kernel
theorem dX12_told_57 : decode cX12_told 57 = .ok (.goto 104, 3) := by decide +kernel
theorem dX12_told_31 : decode cX12_told 31 = .ok (.aload_n 0, 1) := by decide +kernel
theorem dX12_told_32 : decode cX12_told 32 = .ok (.iload 5, 2) := by decide +kernel
theorem dX12_told_34 : decode cX12_told 34 = .ok (.sipush 1000, 3) := by decide +kernel
theorem dX12_told_37 : decode cX12_told 37 = .ok (.isub, 1) := by decide +kernel
theorem dX12_told_38 : decode cX12_told 38 = .ok (.i2l, 1) := by decide +kernel
theorem dX12_told_39 : decode cX12_told 39 = .ok (.invokevirtual 322, 3) := by decide +kernel
theorem dX12_told_42 : decode cX12_told 42 = .ok (.goto 119, 3) := by decide +kernel
theorem dX12_worthOf_29 : decode cX12_worthOf 29 = .ok (.lconst 1, 1) := by decide +kernel
theorem dX12_worthOf_30 : decode cX12_worthOf 30 = .ok (.lcmp, 1) := by decide +kernel
theorem dX12_worthOf_31 : decode cX12_worthOf 31 = .ok (.ifCond .ne 22, 3) := by decide +kernel
theorem dX12_worthOf_53 : decode cX12_worthOf 53 = .ok (.iinc 2 1, 3) := by decide +kernel
theorem dX12_worthOf_56 : decode cX12_worthOf 56 = .ok (.goto (-54), 3) := by decide +kernel
theorem dX12_worthOf_34 : decode cX12_worthOf 34 = .ok (.aload_n 0, 1) := by decide +kernel
theorem dX12_worthOf_35 : decode cX12_worthOf 35 = .ok (.aload_n 0, 1) := by decide +kernel
theorem dX12_worthOf_36 : decode cX12_worthOf 36 = .ok (.getfield 84, 3) := by decide +kernel
theorem dX12_worthOf_39 : decode cX12_worthOf 39 = .ok (.iload_n 2, 1) := by decide +kernel
theorem dX12_worthOf_40 : decode cX12_worthOf 40 = .ok (.iaload, 1) := by decide +kernel
theorem dX12_worthOf_41 : decode cX12_worthOf 41 = .ok (.aload_n 0, 1) := by decide +kernel
theorem dX12_worthOf_42 : decode cX12_worthOf 42 = .ok (.getfield 87, 3) := by decide +kernel
theorem dX12_worthOf_45 : decode cX12_worthOf 45 = .ok (.iload_n 2, 1) := by decide +kernel
theorem dX12_worthOf_46 : decode cX12_worthOf 46 = .ok (.iaload, 1) := by decide +kernel
theorem dX12_worthOf_47 : decode cX12_worthOf 47 = .ok (.iload_n 1, 1) := by decide +kernel
theorem dX12_worthOf_48 : decode cX12_worthOf 48 = .ok (.invokevirtual 345, 3) := by decide +kernel
theorem dX12_worthOf_51 : decode cX12_worthOf 51 = .ok (.l2i, 1) := by decide +kernel
theorem dX12_worthOf_52 : decode cX12_worthOf 52 = .ok (.ireturn, 1) := by decide +kernel
theorem dX12_worth_13 : decode cX12_worth 13 = .ok (.goto 6, 3) := by decide +kernel
theorem dX12_chosen_0 : decode cX12_chosen 0 = .ok (.iload_n 1, 1) := by decide +kernel
theorem dX12_chosen_1 : decode cX12_chosen 1 = .ok (.i2l, 1) := by decide +kernel
theorem dX12_chosen_2 : decode cX12_chosen 2 = .ok (.lconst 1, 1) := by decide +kernel
theorem dX12_chosen_3 : decode cX12_chosen 3 = .ok (.ldc2_w 484, 3) := by decide +kernel
theorem dX12_chosen_6 : decode cX12_chosen 6 = .ok (.invokestatic 191, 3) := by decide +kernel
theorem dX12_chosen_9 : decode cX12_chosen 9 = .ok (.ifCond .eq 9, 3) := by decide +kernel
theorem dX12_chosen_18 : decode cX12_chosen 18 = .ok (.iconst (-1), 1) := by decide +kernel
theorem dX12_chosen_19 : decode cX12_chosen 19 = .ok (.ireturn, 1) := by decide +kernel
theorem dX12_chosen_12 : decode cX12_chosen 12 = .ok (.lload_n 2, 1) := by decide +kernel
theorem dX12_chosen_13 : decode cX12_chosen 13 = .ok (.lconst 0, 1) := by decide +kernel
theorem dX12_chosen_14 : decode cX12_chosen 14 = .ok (.lcmp, 1) := by decide +kernel
theorem dX12_chosen_15 : decode cX12_chosen 15 = .ok (.ifCond .ge 5, 3) := by decide +kernel
theorem dX12_chosen_20 : decode cX12_chosen 20 = .ok (.iconst (-1), 1) := by decide +kernel
theorem dX12_chosen_21 : decode cX12_chosen 21 = .ok (.istore 4, 2) := by decide +kernel
theorem dX12_chosen_23 : decode cX12_chosen 23 = .ok (.lconst 0, 1) := by decide +kernel
theorem dX12_chosen_24 : decode cX12_chosen 24 = .ok (.lstore 5, 2) := by decide +kernel
theorem dX12_chosen_26 : decode cX12_chosen 26 = .ok (.iconst 1, 1) := by decide +kernel
theorem dX12_chosen_27 : decode cX12_chosen 27 = .ok (.istore 7, 2) := by decide +kernel
theorem dX12_chosen_29 : decode cX12_chosen 29 = .ok (.iload 7, 2) := by decide +kernel
theorem dX12_chosen_31 : decode cX12_chosen 31 = .ok (.iconst 1, 1) := by decide +kernel
theorem dX12_chosen_32 : decode cX12_chosen 32 = .ok (.aload_n 0, 1) := by decide +kernel
theorem dX12_chosen_33 : decode cX12_chosen 33 = .ok (.getfield 237, 3) := by decide +kernel
theorem dX12_chosen_36 : decode cX12_chosen 36 = .ok (.ishl, 1) := by decide +kernel
theorem dX12_chosen_37 : decode cX12_chosen 37 = .ok (.if_icmp .ge 117, 3) := by decide +kernel
theorem dX12_chosen_154 : decode cX12_chosen 154 = .ok (.iload 4, 2) := by decide +kernel
theorem dX12_chosen_156 : decode cX12_chosen 156 = .ok (.ireturn, 1) := by decide +kernel
theorem dX12_chosen_40 : decode cX12_chosen 40 = .ok (.iload 7, 2) := by decide +kernel
theorem dX12_chosen_42 : decode cX12_chosen 42 = .ok (.invokestatic 486, 3) := by decide +kernel
theorem dX12_bits_0 : decode cX12_bits 0 = .ok (.iconst 0, 1) := by decide +kernel
theorem dX12_bits_1 : decode cX12_bits 1 = .ok (.istore_n 1, 1) := by decide +kernel
theorem dX12_bits_2 : decode cX12_bits 2 = .ok (.iload_n 0, 1) := by decide +kernel
theorem dX12_bits_3 : decode cX12_bits 3 = .ok (.istore_n 2, 1) := by decide +kernel
theorem dX12_bits_4 : decode cX12_bits 4 = .ok (.iload_n 2, 1) := by decide +kernel
theorem dX12_bits_5 : decode cX12_bits 5 = .ok (.ifCond .eq 15, 3) := by decide +kernel
theorem dX12_bits_20 : decode cX12_bits 20 = .ok (.iload_n 1, 1) := by decide +kernel
theorem dX12_bits_21 : decode cX12_bits 21 = .ok (.ireturn, 1) := by decide +kernel
theorem dX12_bits_8 : decode cX12_bits 8 = .ok (.iinc 1 1, 3) := by decide +kernel
theorem dX12_bits_11 : decode cX12_bits 11 = .ok (.iload_n 2, 1) := by decide +kernel
theorem dX12_bits_12 : decode cX12_bits 12 = .ok (.iload_n 2, 1) := by decide +kernel
theorem dX12_bits_13 : decode cX12_bits 13 = .ok (.iconst 1, 1) := by decide +kernel
theorem dX12_bits_14 : decode cX12_bits 14 = .ok (.isub, 1) := by decide +kernel
theorem dX12_bits_15 : decode cX12_bits 15 = .ok (.iand, 1) := by decide +kernel
theorem dX12_bits_16 : decode cX12_bits 16 = .ok (.istore_n 2, 1) := by decide +kernel
theorem dX12_bits_17 : decode cX12_bits 17 = .ok (.goto (-13), 3) := by decide +kernel
theorem dX12_chosen_45 : decode cX12_chosen 45 = .ok (.iload_n 1, 1) := by decide +kernel
theorem dX12_chosen_46 : decode cX12_chosen 46 = .ok (.if_icmp .ne 102, 3) := by decide +kernel
theorem dX12_chosen_148 : decode cX12_chosen 148 = .ok (.iinc 7 1, 3) := by decide +kernel
theorem dX12_chosen_151 : decode cX12_chosen 151 = .ok (.goto (-122), 3) := by decide +kernel
theorem dX12_chosen_49 : decode cX12_chosen 49 = .ok (.aload_n 0, 1) := by decide +kernel
theorem dX12_chosen_50 : decode cX12_chosen 50 = .ok (.iload 7, 2) := by decide +kernel
theorem dX12_chosen_52 : decode cX12_chosen 52 = .ok (.iconst 2, 1) := by decide +kernel
theorem dX12_chosen_53 : decode cX12_chosen 53 = .ok (.aload_n 0, 1) := by decide +kernel
theorem dX12_chosen_54 : decode cX12_chosen 54 = .ok (.getfield 234, 3) := by decide +kernel
theorem dX12_chosen_57 : decode cX12_chosen 57 = .ok (.imul, 1) := by decide +kernel
theorem dX12_chosen_58 : decode cX12_chosen 58 = .ok (.iconst 2, 1) := by decide +kernel
theorem dX12_chosen_59 : decode cX12_chosen 59 = .ok (.isub, 1) := by decide +kernel
theorem dX12_chosen_60 : decode cX12_chosen 60 = .ok (.iconst 2, 1) := by decide +kernel
theorem dX12_chosen_61 : decode cX12_chosen 61 = .ok (.invokevirtual 457, 3) := by decide +kernel
theorem dX12_image_0 : decode cX12_image 0 = .ok (.aload_n 0, 1) := by decide +kernel
theorem dX12_image_1 : decode cX12_image 1 = .ok (.iconst 0, 1) := by decide +kernel
theorem dX12_image_2 : decode cX12_image 2 = .ok (.putfield 489, 3) := by decide +kernel
theorem dX12_image_5 : decode cX12_image 5 = .ok (.iconst 0, 1) := by decide +kernel
theorem dX12_image_6 : decode cX12_image 6 = .ok (.istore_n 1, 1) := by decide +kernel
theorem dX12_image_7 : decode cX12_image 7 = .ok (.iload_n 1, 1) := by decide +kernel
theorem dX12_image_8 : decode cX12_image 8 = .ok (.aload_n 0, 1) := by decide +kernel
theorem dX12_image_9 : decode cX12_image 9 = .ok (.getfield 240, 3) := by decide +kernel
theorem dX12_image_12 : decode cX12_image 12 = .ok (.if_icmp .ge 40, 3) := by decide +kernel
theorem dX12_image_52 : decode cX12_image 52 = .ok (.aload_n 0, 1) := by decide +kernel
theorem dX12_image_53 : decode cX12_image 53 = .ok (.aload_n 0, 1) := by decide +kernel
theorem dX12_image_54 : decode cX12_image 54 = .ok (.getfield 349, 3) := by decide +kernel
theorem dX12_image_57 : decode cX12_image 57 = .ok (.invokevirtual 492, 3) := by decide +kernel
theorem dX12_writes_0 : decode cX12_writes 0 = .ok (.aload_n 0, 1) := by decide +kernel
theorem dX12_writes_1 : decode cX12_writes 1 = .ok (.getfield 145, 3) := by decide +kernel
theorem dX12_writes_4 : decode cX12_writes 4 = .ok (.aload_n 0, 1) := by decide +kernel
theorem dX12_writes_5 : decode cX12_writes 5 = .ok (.getfield 489, 3) := by decide +kernel
theorem dX12_writes_8 : decode cX12_writes 8 = .ok (.iload_n 1, 1) := by decide +kernel
theorem dX12_writes_9 : decode cX12_writes 9 = .ok (.iastore, 1) := by decide +kernel
theorem dX12_writes_10 : decode cX12_writes 10 = .ok (.aload_n 0, 1) := by decide +kernel
theorem dX12_writes_11 : decode cX12_writes 11 = .ok (.dup, 1) := by decide +kernel
theorem dX12_writes_12 : decode cX12_writes 12 = .ok (.getfield 489, 3) := by decide +kernel
theorem dX12_writes_15 : decode cX12_writes 15 = .ok (.iconst 1, 1) := by decide +kernel
theorem dX12_writes_16 : decode cX12_writes 16 = .ok (.iadd, 1) := by decide +kernel
theorem dX12_writes_17 : decode cX12_writes 17 = .ok (.putfield 489, 3) := by decide +kernel
theorem dX12_writes_20 : decode cX12_writes 20 = .ok (.return_, 1) := by decide +kernel
theorem dX12_image_60 : decode cX12_image 60 = .ok (.aload_n 0, 1) := by decide +kernel
theorem dX12_image_61 : decode cX12_image 61 = .ok (.aload_n 0, 1) := by decide +kernel
theorem dX12_image_62 : decode cX12_image 62 = .ok (.getfield 145, 3) := by decide +kernel
theorem dX12_image_65 : decode cX12_image 65 = .ok (.aload_n 0, 1) := by decide +kernel
theorem dX12_image_66 : decode cX12_image 66 = .ok (.getfield 489, 3) := by decide +kernel
theorem dX12_image_69 : decode cX12_image 69 = .ok (.invokestatic 495, 3) := by decide +kernel
theorem dX12_checked_0 : decode cX12_checked 0 = .ok (.bipush 51, 2) := by decide +kernel
theorem dX12_checked_2 : decode cX12_checked 2 = .ok (.istore_n 2, 1) := by decide +kernel
theorem dX12_checked_3 : decode cX12_checked 3 = .ok (.iconst 0, 1) := by decide +kernel
theorem dX12_checked_4 : decode cX12_checked 4 = .ok (.istore_n 3, 1) := by decide +kernel
theorem dX12_checked_5 : decode cX12_checked 5 = .ok (.iload_n 3, 1) := by decide +kernel
theorem dX12_checked_6 : decode cX12_checked 6 = .ok (.iload_n 1, 1) := by decide +kernel
theorem dX12_checked_7 : decode cX12_checked 7 = .ok (.if_icmp .ge 22, 3) := by decide +kernel
theorem dX12_checked_29 : decode cX12_checked 29 = .ok (.iload_n 2, 1) := by decide +kernel
theorem dX12_checked_30 : decode cX12_checked 30 = .ok (.ireturn, 1) := by decide +kernel
theorem dX12_checked_10 : decode cX12_checked 10 = .ok (.bipush 7, 2) := by decide +kernel
theorem dX12_checked_12 : decode cX12_checked 12 = .ok (.iload_n 2, 1) := by decide +kernel
theorem dX12_checked_13 : decode cX12_checked 13 = .ok (.imul, 1) := by decide +kernel
theorem dX12_checked_14 : decode cX12_checked 14 = .ok (.aload_n 0, 1) := by decide +kernel
theorem dX12_checked_15 : decode cX12_checked 15 = .ok (.iload_n 3, 1) := by decide +kernel
theorem dX12_checked_16 : decode cX12_checked 16 = .ok (.iaload, 1) := by decide +kernel
theorem dX12_checked_17 : decode cX12_checked 17 = .ok (.iadd, 1) := by decide +kernel
theorem dX12_checked_18 : decode cX12_checked 18 = .ok (.sipush 253, 3) := by decide +kernel
theorem dX12_checked_21 : decode cX12_checked 21 = .ok (.irem, 1) := by decide +kernel
theorem dX12_checked_22 : decode cX12_checked 22 = .ok (.istore_n 2, 1) := by decide +kernel
theorem dX12_checked_23 : decode cX12_checked 23 = .ok (.iinc 3 1, 3) := by decide +kernel
theorem dX12_checked_26 : decode cX12_checked 26 = .ok (.goto (-21), 3) := by decide +kernel
theorem dX12_image_72 : decode cX12_image 72 = .ok (.invokevirtual 492, 3) := by decide +kernel
theorem dX12_image_75 : decode cX12_image 75 = .ok (.aload_n 0, 1) := by decide +kernel
theorem dX12_image_76 : decode cX12_image 76 = .ok (.getfield 489, 3) := by decide +kernel
theorem dX12_image_79 : decode cX12_image 79 = .ok (.ireturn, 1) := by decide +kernel
theorem dX12_image_15 : decode cX12_image 15 = .ok (.aload_n 0, 1) := by decide +kernel
theorem dX12_image_16 : decode cX12_image 16 = .ok (.aload_n 0, 1) := by decide +kernel
theorem dX12_image_17 : decode cX12_image 17 = .ok (.getfield 100, 3) := by decide +kernel
theorem dX12_image_20 : decode cX12_image 20 = .ok (.iload_n 1, 1) := by decide +kernel
theorem dX12_image_21 : decode cX12_image 21 = .ok (.iaload, 1) := by decide +kernel
theorem dX12_image_22 : decode cX12_image 22 = .ok (.bipush 8, 2) := by decide +kernel
theorem dX12_image_24 : decode cX12_image 24 = .ok (.ishr, 1) := by decide +kernel
theorem dX12_image_25 : decode cX12_image 25 = .ok (.sipush 255, 3) := by decide +kernel
theorem dX12_image_28 : decode cX12_image 28 = .ok (.iand, 1) := by decide +kernel
theorem dX12_image_29 : decode cX12_image 29 = .ok (.invokevirtual 492, 3) := by decide +kernel
theorem dX12_image_32 : decode cX12_image 32 = .ok (.aload_n 0, 1) := by decide +kernel
theorem dX12_image_33 : decode cX12_image 33 = .ok (.aload_n 0, 1) := by decide +kernel
theorem dX12_image_34 : decode cX12_image 34 = .ok (.getfield 100, 3) := by decide +kernel
theorem dX12_image_37 : decode cX12_image 37 = .ok (.iload_n 1, 1) := by decide +kernel
theorem dX12_image_38 : decode cX12_image 38 = .ok (.iaload, 1) := by decide +kernel
theorem dX12_image_39 : decode cX12_image 39 = .ok (.sipush 255, 3) := by decide +kernel
theorem dX12_image_42 : decode cX12_image 42 = .ok (.iand, 1) := by decide +kernel
theorem dX12_image_43 : decode cX12_image 43 = .ok (.invokevirtual 492, 3) := by decide +kernel
theorem dX12_image_46 : decode cX12_image 46 = .ok (.iinc 1 1, 3) := by decide +kernel
theorem dX12_image_49 : decode cX12_image 49 = .ok (.goto (-42), 3) := by decide +kernel
theorem dX12_octet_0 : decode cX12_octet 0 = .ok (.iload_n 1, 1) := by decide +kernel
theorem dX12_octet_1 : decode cX12_octet 1 = .ok (.ifCond .lt 20, 3) := by decide +kernel
theorem dX12_octet_21 : decode cX12_octet 21 = .ok (.iconst (-1), 1) := by decide +kernel
theorem dX12_octet_22 : decode cX12_octet 22 = .ok (.ireturn, 1) := by decide +kernel
theorem dX12_octet_4 : decode cX12_octet 4 = .ok (.iload_n 1, 1) := by decide +kernel
theorem dX12_octet_5 : decode cX12_octet 5 = .ok (.aload_n 0, 1) := by decide +kernel
theorem dX12_octet_6 : decode cX12_octet 6 = .ok (.getfield 489, 3) := by decide +kernel
theorem dX12_octet_9 : decode cX12_octet 9 = .ok (.if_icmp .ge 12, 3) := by decide +kernel
theorem dX12_octet_12 : decode cX12_octet 12 = .ok (.aload_n 0, 1) := by decide +kernel
theorem dX12_octet_13 : decode cX12_octet 13 = .ok (.getfield 145, 3) := by decide +kernel
theorem dX12_octet_16 : decode cX12_octet 16 = .ok (.iload_n 1, 1) := by decide +kernel
theorem dX12_octet_17 : decode cX12_octet 17 = .ok (.iaload, 1) := by decide +kernel
theorem dX12_octet_18 : decode cX12_octet 18 = .ok (.goto 4, 3) := by decide +kernel
