theorem lw_d_cX12_clip_22 : lw_dl cX12_clip [(22, .ldc2_w 313, 3), (25, .goto 4, 3), (8, .ldc2_w 311, 3), (11, .goto 18, 3)] = true := by decide +kernel
theorem dX12_clip_22 : decode cX12_clip 22 = .ok (.ldc2_w 313, 3) := lw_dr lw_d_cX12_clip_22 0 rfl
theorem dX12_clip_25 : decode cX12_clip 25 = .ok (.goto 4, 3) := lw_dr lw_d_cX12_clip_22 1 rfl
theorem dX12_clip_8 : decode cX12_clip 8 = .ok (.ldc2_w 311, 3) := lw_dr lw_d_cX12_clip_22 2 rfl
theorem dX12_clip_11 : decode cX12_clip 11 = .ok (.goto 18, 3) := lw_dr lw_d_cX12_clip_22 3 rfl
theorem lw_d_cX12_joins_116 : lw_dl cX12_joins [(116, .invokevirtual 322, 3), (119, .goto 170, 3), (289, .return_, 1), (122, .aload_n 0, 1), (123, .lload 4, 2), (125, .lload_n 2, 1), (126, .lsub, 1), (127, .invokestatic 318, 3), (130, .invokevirtual 322, 3), (133, .goto 156, 3), (136, .aload_n 0, 1), (137, .lload 4, 2), (139, .lload_n 2, 1), (140, .lmul, 1), (141, .invokestatic 318, 3), (144, .invokevirtual 322, 3), (147, .goto 142, 3), (150, .aload_n 0, 1), (151, .lload 4, 2), (153, .lload_n 2, 1), (154, .invokestatic 326, 3), (157, .invokevirtual 322, 3), (160, .goto 129, 3), (163, .aload_n 0, 1), (164, .lload 4, 2), (166, .lload_n 2, 1), (167, .lcmp, 1), (168, .ifCond .ge 8, 3), (176, .lload_n 2, 1), (177, .invokevirtual 322, 3), (180, .goto 109, 3), (171, .lload 4, 2), (173, .goto 4, 3), (183, .aload_n 0, 1), (184, .lload 4, 2), (186, .lload_n 2, 1), (187, .lcmp, 1), (188, .ifCond .le 8, 3), (196, .lload_n 2, 1), (197, .invokevirtual 322, 3)] = true := by decide +kernel
theorem dX12_joins_116 : decode cX12_joins 116 = .ok (.invokevirtual 322, 3) := lw_dr lw_d_cX12_joins_116 0 rfl
theorem dX12_joins_119 : decode cX12_joins 119 = .ok (.goto 170, 3) := lw_dr lw_d_cX12_joins_116 1 rfl
theorem dX12_joins_289 : decode cX12_joins 289 = .ok (.return_, 1) := lw_dr lw_d_cX12_joins_116 2 rfl
theorem dX12_joins_122 : decode cX12_joins 122 = .ok (.aload_n 0, 1) := lw_dr lw_d_cX12_joins_116 3 rfl
theorem dX12_joins_123 : decode cX12_joins 123 = .ok (.lload 4, 2) := lw_dr lw_d_cX12_joins_116 4 rfl
theorem dX12_joins_125 : decode cX12_joins 125 = .ok (.lload_n 2, 1) := lw_dr lw_d_cX12_joins_116 5 rfl
theorem dX12_joins_126 : decode cX12_joins 126 = .ok (.lsub, 1) := lw_dr lw_d_cX12_joins_116 6 rfl
theorem dX12_joins_127 : decode cX12_joins 127 = .ok (.invokestatic 318, 3) := lw_dr lw_d_cX12_joins_116 7 rfl
theorem dX12_joins_130 : decode cX12_joins 130 = .ok (.invokevirtual 322, 3) := lw_dr lw_d_cX12_joins_116 8 rfl
theorem dX12_joins_133 : decode cX12_joins 133 = .ok (.goto 156, 3) := lw_dr lw_d_cX12_joins_116 9 rfl
theorem dX12_joins_136 : decode cX12_joins 136 = .ok (.aload_n 0, 1) := lw_dr lw_d_cX12_joins_116 10 rfl
theorem dX12_joins_137 : decode cX12_joins 137 = .ok (.lload 4, 2) := lw_dr lw_d_cX12_joins_116 11 rfl
theorem dX12_joins_139 : decode cX12_joins 139 = .ok (.lload_n 2, 1) := lw_dr lw_d_cX12_joins_116 12 rfl
theorem dX12_joins_140 : decode cX12_joins 140 = .ok (.lmul, 1) := lw_dr lw_d_cX12_joins_116 13 rfl
theorem dX12_joins_141 : decode cX12_joins 141 = .ok (.invokestatic 318, 3) := lw_dr lw_d_cX12_joins_116 14 rfl
theorem dX12_joins_144 : decode cX12_joins 144 = .ok (.invokevirtual 322, 3) := lw_dr lw_d_cX12_joins_116 15 rfl
theorem dX12_joins_147 : decode cX12_joins 147 = .ok (.goto 142, 3) := lw_dr lw_d_cX12_joins_116 16 rfl
theorem dX12_joins_150 : decode cX12_joins 150 = .ok (.aload_n 0, 1) := lw_dr lw_d_cX12_joins_116 17 rfl
theorem dX12_joins_151 : decode cX12_joins 151 = .ok (.lload 4, 2) := lw_dr lw_d_cX12_joins_116 18 rfl
theorem dX12_joins_153 : decode cX12_joins 153 = .ok (.lload_n 2, 1) := lw_dr lw_d_cX12_joins_116 19 rfl
theorem dX12_joins_154 : decode cX12_joins 154 = .ok (.invokestatic 326, 3) := lw_dr lw_d_cX12_joins_116 20 rfl
theorem dX12_joins_157 : decode cX12_joins 157 = .ok (.invokevirtual 322, 3) := lw_dr lw_d_cX12_joins_116 21 rfl
theorem dX12_joins_160 : decode cX12_joins 160 = .ok (.goto 129, 3) := lw_dr lw_d_cX12_joins_116 22 rfl
theorem dX12_joins_163 : decode cX12_joins 163 = .ok (.aload_n 0, 1) := lw_dr lw_d_cX12_joins_116 23 rfl
theorem dX12_joins_164 : decode cX12_joins 164 = .ok (.lload 4, 2) := lw_dr lw_d_cX12_joins_116 24 rfl
theorem dX12_joins_166 : decode cX12_joins 166 = .ok (.lload_n 2, 1) := lw_dr lw_d_cX12_joins_116 25 rfl
theorem dX12_joins_167 : decode cX12_joins 167 = .ok (.lcmp, 1) := lw_dr lw_d_cX12_joins_116 26 rfl
theorem dX12_joins_168 : decode cX12_joins 168 = .ok (.ifCond .ge 8, 3) := lw_dr lw_d_cX12_joins_116 27 rfl
theorem dX12_joins_176 : decode cX12_joins 176 = .ok (.lload_n 2, 1) := lw_dr lw_d_cX12_joins_116 28 rfl
theorem dX12_joins_177 : decode cX12_joins 177 = .ok (.invokevirtual 322, 3) := lw_dr lw_d_cX12_joins_116 29 rfl
theorem dX12_joins_180 : decode cX12_joins 180 = .ok (.goto 109, 3) := lw_dr lw_d_cX12_joins_116 30 rfl
theorem dX12_joins_171 : decode cX12_joins 171 = .ok (.lload 4, 2) := lw_dr lw_d_cX12_joins_116 31 rfl
theorem dX12_joins_173 : decode cX12_joins 173 = .ok (.goto 4, 3) := lw_dr lw_d_cX12_joins_116 32 rfl
theorem dX12_joins_183 : decode cX12_joins 183 = .ok (.aload_n 0, 1) := lw_dr lw_d_cX12_joins_116 33 rfl
theorem dX12_joins_184 : decode cX12_joins 184 = .ok (.lload 4, 2) := lw_dr lw_d_cX12_joins_116 34 rfl
theorem dX12_joins_186 : decode cX12_joins 186 = .ok (.lload_n 2, 1) := lw_dr lw_d_cX12_joins_116 35 rfl
theorem dX12_joins_187 : decode cX12_joins 187 = .ok (.lcmp, 1) := lw_dr lw_d_cX12_joins_116 36 rfl
theorem dX12_joins_188 : decode cX12_joins 188 = .ok (.ifCond .le 8, 3) := lw_dr lw_d_cX12_joins_116 37 rfl
theorem dX12_joins_196 : decode cX12_joins 196 = .ok (.lload_n 2, 1) := lw_dr lw_d_cX12_joins_116 38 rfl
theorem dX12_joins_197 : decode cX12_joins 197 = .ok (.invokevirtual 322, 3) := lw_dr lw_d_cX12_joins_116 39 rfl
theorem lw_d_cX12_joins_200 : lw_dl cX12_joins [(200, .goto 89, 3), (191, .lload 4, 2), (193, .goto 4, 3), (271, .aload_n 0, 1), (272, .lload 4, 2), (274, .lload_n 2, 1), (275, .ladd, 1), (276, .lconst 0, 1), (277, .lcmp, 1), (278, .ifCond .le 7, 3), (285, .lconst 0, 1), (286, .invokevirtual 322, 3), (281, .lconst 1, 1), (282, .goto 4, 3), (203, .aload_n 0, 1), (204, .lload 4, 2), (206, .lload_n 2, 1), (207, .lcmp, 1), (208, .ifCond .ge 7, 3), (215, .lconst 0, 1), (216, .invokevirtual 322, 3), (219, .goto 70, 3), (211, .lconst 1, 1), (212, .goto 4, 3), (222, .aload_n 0, 1), (223, .lload 4, 2), (225, .lload_n 2, 1), (226, .lcmp, 1), (227, .ifCond .le 7, 3), (234, .lconst 0, 1), (235, .invokevirtual 322, 3), (238, .goto 51, 3), (230, .lconst 1, 1), (231, .goto 4, 3), (241, .aload_n 0, 1), (242, .lload 4, 2), (244, .lload_n 2, 1), (245, .lcmp, 1), (246, .ifCond .ne 7, 3), (253, .lconst 0, 1)] = true := by decide +kernel
theorem dX12_joins_200 : decode cX12_joins 200 = .ok (.goto 89, 3) := lw_dr lw_d_cX12_joins_200 0 rfl
theorem dX12_joins_191 : decode cX12_joins 191 = .ok (.lload 4, 2) := lw_dr lw_d_cX12_joins_200 1 rfl
theorem dX12_joins_193 : decode cX12_joins 193 = .ok (.goto 4, 3) := lw_dr lw_d_cX12_joins_200 2 rfl
theorem dX12_joins_271 : decode cX12_joins 271 = .ok (.aload_n 0, 1) := lw_dr lw_d_cX12_joins_200 3 rfl
theorem dX12_joins_272 : decode cX12_joins 272 = .ok (.lload 4, 2) := lw_dr lw_d_cX12_joins_200 4 rfl
theorem dX12_joins_274 : decode cX12_joins 274 = .ok (.lload_n 2, 1) := lw_dr lw_d_cX12_joins_200 5 rfl
theorem dX12_joins_275 : decode cX12_joins 275 = .ok (.ladd, 1) := lw_dr lw_d_cX12_joins_200 6 rfl
theorem dX12_joins_276 : decode cX12_joins 276 = .ok (.lconst 0, 1) := lw_dr lw_d_cX12_joins_200 7 rfl
theorem dX12_joins_277 : decode cX12_joins 277 = .ok (.lcmp, 1) := lw_dr lw_d_cX12_joins_200 8 rfl
theorem dX12_joins_278 : decode cX12_joins 278 = .ok (.ifCond .le 7, 3) := lw_dr lw_d_cX12_joins_200 9 rfl
theorem dX12_joins_285 : decode cX12_joins 285 = .ok (.lconst 0, 1) := lw_dr lw_d_cX12_joins_200 10 rfl
theorem dX12_joins_286 : decode cX12_joins 286 = .ok (.invokevirtual 322, 3) := lw_dr lw_d_cX12_joins_200 11 rfl
theorem dX12_joins_281 : decode cX12_joins 281 = .ok (.lconst 1, 1) := lw_dr lw_d_cX12_joins_200 12 rfl
theorem dX12_joins_282 : decode cX12_joins 282 = .ok (.goto 4, 3) := lw_dr lw_d_cX12_joins_200 13 rfl
theorem dX12_joins_203 : decode cX12_joins 203 = .ok (.aload_n 0, 1) := lw_dr lw_d_cX12_joins_200 14 rfl
theorem dX12_joins_204 : decode cX12_joins 204 = .ok (.lload 4, 2) := lw_dr lw_d_cX12_joins_200 15 rfl
theorem dX12_joins_206 : decode cX12_joins 206 = .ok (.lload_n 2, 1) := lw_dr lw_d_cX12_joins_200 16 rfl
theorem dX12_joins_207 : decode cX12_joins 207 = .ok (.lcmp, 1) := lw_dr lw_d_cX12_joins_200 17 rfl
theorem dX12_joins_208 : decode cX12_joins 208 = .ok (.ifCond .ge 7, 3) := lw_dr lw_d_cX12_joins_200 18 rfl
theorem dX12_joins_215 : decode cX12_joins 215 = .ok (.lconst 0, 1) := lw_dr lw_d_cX12_joins_200 19 rfl
theorem dX12_joins_216 : decode cX12_joins 216 = .ok (.invokevirtual 322, 3) := lw_dr lw_d_cX12_joins_200 20 rfl
theorem dX12_joins_219 : decode cX12_joins 219 = .ok (.goto 70, 3) := lw_dr lw_d_cX12_joins_200 21 rfl
theorem dX12_joins_211 : decode cX12_joins 211 = .ok (.lconst 1, 1) := lw_dr lw_d_cX12_joins_200 22 rfl
theorem dX12_joins_212 : decode cX12_joins 212 = .ok (.goto 4, 3) := lw_dr lw_d_cX12_joins_200 23 rfl
theorem dX12_joins_222 : decode cX12_joins 222 = .ok (.aload_n 0, 1) := lw_dr lw_d_cX12_joins_200 24 rfl
theorem dX12_joins_223 : decode cX12_joins 223 = .ok (.lload 4, 2) := lw_dr lw_d_cX12_joins_200 25 rfl
theorem dX12_joins_225 : decode cX12_joins 225 = .ok (.lload_n 2, 1) := lw_dr lw_d_cX12_joins_200 26 rfl
theorem dX12_joins_226 : decode cX12_joins 226 = .ok (.lcmp, 1) := lw_dr lw_d_cX12_joins_200 27 rfl
theorem dX12_joins_227 : decode cX12_joins 227 = .ok (.ifCond .le 7, 3) := lw_dr lw_d_cX12_joins_200 28 rfl
theorem dX12_joins_234 : decode cX12_joins 234 = .ok (.lconst 0, 1) := lw_dr lw_d_cX12_joins_200 29 rfl
theorem dX12_joins_235 : decode cX12_joins 235 = .ok (.invokevirtual 322, 3) := lw_dr lw_d_cX12_joins_200 30 rfl
theorem dX12_joins_238 : decode cX12_joins 238 = .ok (.goto 51, 3) := lw_dr lw_d_cX12_joins_200 31 rfl
theorem dX12_joins_230 : decode cX12_joins 230 = .ok (.lconst 1, 1) := lw_dr lw_d_cX12_joins_200 32 rfl
theorem dX12_joins_231 : decode cX12_joins 231 = .ok (.goto 4, 3) := lw_dr lw_d_cX12_joins_200 33 rfl
theorem dX12_joins_241 : decode cX12_joins 241 = .ok (.aload_n 0, 1) := lw_dr lw_d_cX12_joins_200 34 rfl
theorem dX12_joins_242 : decode cX12_joins 242 = .ok (.lload 4, 2) := lw_dr lw_d_cX12_joins_200 35 rfl
theorem dX12_joins_244 : decode cX12_joins 244 = .ok (.lload_n 2, 1) := lw_dr lw_d_cX12_joins_200 36 rfl
theorem dX12_joins_245 : decode cX12_joins 245 = .ok (.lcmp, 1) := lw_dr lw_d_cX12_joins_200 37 rfl
theorem dX12_joins_246 : decode cX12_joins 246 = .ok (.ifCond .ne 7, 3) := lw_dr lw_d_cX12_joins_200 38 rfl
theorem dX12_joins_253 : decode cX12_joins 253 = .ok (.lconst 0, 1) := lw_dr lw_d_cX12_joins_200 39 rfl
theorem lw_d_cX12_joins_254 : lw_dl cX12_joins [(254, .invokevirtual 322, 3), (257, .goto 32, 3), (249, .lconst 1, 1), (250, .goto 4, 3), (260, .aload_n 0, 1), (261, .lload 4, 2), (263, .lload_n 2, 1), (264, .lmul, 1), (265, .invokevirtual 322, 3), (268, .goto 21, 3)] = true := by decide +kernel
theorem dX12_joins_254 : decode cX12_joins 254 = .ok (.invokevirtual 322, 3) := lw_dr lw_d_cX12_joins_254 0 rfl
theorem dX12_joins_257 : decode cX12_joins 257 = .ok (.goto 32, 3) := lw_dr lw_d_cX12_joins_254 1 rfl
theorem dX12_joins_249 : decode cX12_joins 249 = .ok (.lconst 1, 1) := lw_dr lw_d_cX12_joins_254 2 rfl
theorem dX12_joins_250 : decode cX12_joins 250 = .ok (.goto 4, 3) := lw_dr lw_d_cX12_joins_254 3 rfl
theorem dX12_joins_260 : decode cX12_joins 260 = .ok (.aload_n 0, 1) := lw_dr lw_d_cX12_joins_254 4 rfl
theorem dX12_joins_261 : decode cX12_joins 261 = .ok (.lload 4, 2) := lw_dr lw_d_cX12_joins_254 5 rfl
theorem dX12_joins_263 : decode cX12_joins 263 = .ok (.lload_n 2, 1) := lw_dr lw_d_cX12_joins_254 6 rfl
theorem dX12_joins_264 : decode cX12_joins 264 = .ok (.lmul, 1) := lw_dr lw_d_cX12_joins_254 7 rfl
theorem dX12_joins_265 : decode cX12_joins 265 = .ok (.invokevirtual 322, 3) := lw_dr lw_d_cX12_joins_254 8 rfl
theorem dX12_joins_268 : decode cX12_joins 268 = .ok (.goto 21, 3) := lw_dr lw_d_cX12_joins_254 9 rfl
theorem lw_d_cX12_puts_0 : lw_dl cX12_puts [(0, .aload_n 0, 1), (1, .getfield 93, 3), (4, .aload_n 0, 1), (5, .getfield 315, 3), (8, .lload_n 1, 1), (9, .lastore, 1), (10, .aload_n 0, 1), (11, .dup, 1), (12, .getfield 315, 3), (15, .iconst 1, 1), (16, .iadd, 1), (17, .putfield 315, 3), (20, .return_, 1)] = true := by decide +kernel
theorem dX12_puts_0 : decode cX12_puts 0 = .ok (.aload_n 0, 1) := lw_dr lw_d_cX12_puts_0 0 rfl
theorem dX12_puts_1 : decode cX12_puts 1 = .ok (.getfield 93, 3) := lw_dr lw_d_cX12_puts_0 1 rfl
theorem dX12_puts_4 : decode cX12_puts 4 = .ok (.aload_n 0, 1) := lw_dr lw_d_cX12_puts_0 2 rfl
theorem dX12_puts_5 : decode cX12_puts 5 = .ok (.getfield 315, 3) := lw_dr lw_d_cX12_puts_0 3 rfl
theorem dX12_puts_8 : decode cX12_puts 8 = .ok (.lload_n 1, 1) := lw_dr lw_d_cX12_puts_0 4 rfl
theorem dX12_puts_9 : decode cX12_puts 9 = .ok (.lastore, 1) := lw_dr lw_d_cX12_puts_0 5 rfl
theorem dX12_puts_10 : decode cX12_puts 10 = .ok (.aload_n 0, 1) := lw_dr lw_d_cX12_puts_0 6 rfl
theorem dX12_puts_11 : decode cX12_puts 11 = .ok (.dup, 1) := lw_dr lw_d_cX12_puts_0 7 rfl
theorem dX12_puts_12 : decode cX12_puts 12 = .ok (.getfield 315, 3) := lw_dr lw_d_cX12_puts_0 8 rfl
theorem dX12_puts_15 : decode cX12_puts 15 = .ok (.iconst 1, 1) := lw_dr lw_d_cX12_puts_0 9 rfl
theorem dX12_puts_16 : decode cX12_puts 16 = .ok (.iadd, 1) := lw_dr lw_d_cX12_puts_0 10 rfl
theorem dX12_puts_17 : decode cX12_puts 17 = .ok (.putfield 315, 3) := lw_dr lw_d_cX12_puts_0 11 rfl
theorem dX12_puts_20 : decode cX12_puts 20 = .ok (.return_, 1) := lw_dr lw_d_cX12_puts_0 12 rfl
theorem lw_d_cX12_floor_0 : lw_dl cX12_floor [(0, .lload_n 2, 1), (1, .lconst 0, 1), (2, .lcmp, 1), (3, .ifCond .ne 5, 3), (8, .lload_n 0, 1), (9, .lload_n 2, 1), (10, .ldiv, 1), (11, .lstore 4, 2), (13, .lload_n 0, 1), (14, .lload_n 2, 1), (15, .lrem, 1), (16, .lconst 0, 1), (17, .lcmp, 1), (18, .ifCond .eq 35, 3), (53, .lload 4, 2), (55, .lreturn, 1), (21, .lload_n 0, 1), (22, .lconst 0, 1), (23, .lcmp, 1), (24, .ifCond .ge 7, 3), (31, .iconst 0, 1), (32, .lload_n 2, 1), (33, .lconst 0, 1), (34, .lcmp, 1), (35, .ifCond .ge 7, 3), (42, .iconst 0, 1), (43, .if_icmp .eq 10, 3), (38, .iconst 1, 1), (39, .goto 4, 3), (46, .lload 4, 2), (48, .lconst 1, 1), (49, .lsub, 1), (50, .goto 5, 3), (27, .iconst 1, 1), (28, .goto 4, 3), (6, .lconst 0, 1), (7, .lreturn, 1)] = true := by decide +kernel
theorem dX12_floor_0 : decode cX12_floor 0 = .ok (.lload_n 2, 1) := lw_dr lw_d_cX12_floor_0 0 rfl
theorem dX12_floor_1 : decode cX12_floor 1 = .ok (.lconst 0, 1) := lw_dr lw_d_cX12_floor_0 1 rfl
theorem dX12_floor_2 : decode cX12_floor 2 = .ok (.lcmp, 1) := lw_dr lw_d_cX12_floor_0 2 rfl
theorem dX12_floor_3 : decode cX12_floor 3 = .ok (.ifCond .ne 5, 3) := lw_dr lw_d_cX12_floor_0 3 rfl
theorem dX12_floor_8 : decode cX12_floor 8 = .ok (.lload_n 0, 1) := lw_dr lw_d_cX12_floor_0 4 rfl
theorem dX12_floor_9 : decode cX12_floor 9 = .ok (.lload_n 2, 1) := lw_dr lw_d_cX12_floor_0 5 rfl
theorem dX12_floor_10 : decode cX12_floor 10 = .ok (.ldiv, 1) := lw_dr lw_d_cX12_floor_0 6 rfl
theorem dX12_floor_11 : decode cX12_floor 11 = .ok (.lstore 4, 2) := lw_dr lw_d_cX12_floor_0 7 rfl
theorem dX12_floor_13 : decode cX12_floor 13 = .ok (.lload_n 0, 1) := lw_dr lw_d_cX12_floor_0 8 rfl
theorem dX12_floor_14 : decode cX12_floor 14 = .ok (.lload_n 2, 1) := lw_dr lw_d_cX12_floor_0 9 rfl
theorem dX12_floor_15 : decode cX12_floor 15 = .ok (.lrem, 1) := lw_dr lw_d_cX12_floor_0 10 rfl
theorem dX12_floor_16 : decode cX12_floor 16 = .ok (.lconst 0, 1) := lw_dr lw_d_cX12_floor_0 11 rfl
theorem dX12_floor_17 : decode cX12_floor 17 = .ok (.lcmp, 1) := lw_dr lw_d_cX12_floor_0 12 rfl
theorem dX12_floor_18 : decode cX12_floor 18 = .ok (.ifCond .eq 35, 3) := lw_dr lw_d_cX12_floor_0 13 rfl
theorem dX12_floor_53 : decode cX12_floor 53 = .ok (.lload 4, 2) := lw_dr lw_d_cX12_floor_0 14 rfl
theorem dX12_floor_55 : decode cX12_floor 55 = .ok (.lreturn, 1) := lw_dr lw_d_cX12_floor_0 15 rfl
theorem dX12_floor_21 : decode cX12_floor 21 = .ok (.lload_n 0, 1) := lw_dr lw_d_cX12_floor_0 16 rfl
theorem dX12_floor_22 : decode cX12_floor 22 = .ok (.lconst 0, 1) := lw_dr lw_d_cX12_floor_0 17 rfl
theorem dX12_floor_23 : decode cX12_floor 23 = .ok (.lcmp, 1) := lw_dr lw_d_cX12_floor_0 18 rfl
theorem dX12_floor_24 : decode cX12_floor 24 = .ok (.ifCond .ge 7, 3) := lw_dr lw_d_cX12_floor_0 19 rfl
theorem dX12_floor_31 : decode cX12_floor 31 = .ok (.iconst 0, 1) := lw_dr lw_d_cX12_floor_0 20 rfl
theorem dX12_floor_32 : decode cX12_floor 32 = .ok (.lload_n 2, 1) := lw_dr lw_d_cX12_floor_0 21 rfl
theorem dX12_floor_33 : decode cX12_floor 33 = .ok (.lconst 0, 1) := lw_dr lw_d_cX12_floor_0 22 rfl
theorem dX12_floor_34 : decode cX12_floor 34 = .ok (.lcmp, 1) := lw_dr lw_d_cX12_floor_0 23 rfl
theorem dX12_floor_35 : decode cX12_floor 35 = .ok (.ifCond .ge 7, 3) := lw_dr lw_d_cX12_floor_0 24 rfl
theorem dX12_floor_42 : decode cX12_floor 42 = .ok (.iconst 0, 1) := lw_dr lw_d_cX12_floor_0 25 rfl
theorem dX12_floor_43 : decode cX12_floor 43 = .ok (.if_icmp .eq 10, 3) := lw_dr lw_d_cX12_floor_0 26 rfl
theorem dX12_floor_38 : decode cX12_floor 38 = .ok (.iconst 1, 1) := lw_dr lw_d_cX12_floor_0 27 rfl
theorem dX12_floor_39 : decode cX12_floor 39 = .ok (.goto 4, 3) := lw_dr lw_d_cX12_floor_0 28 rfl
theorem dX12_floor_46 : decode cX12_floor 46 = .ok (.lload 4, 2) := lw_dr lw_d_cX12_floor_0 29 rfl
theorem dX12_floor_48 : decode cX12_floor 48 = .ok (.lconst 1, 1) := lw_dr lw_d_cX12_floor_0 30 rfl
theorem dX12_floor_49 : decode cX12_floor 49 = .ok (.lsub, 1) := lw_dr lw_d_cX12_floor_0 31 rfl
theorem dX12_floor_50 : decode cX12_floor 50 = .ok (.goto 5, 3) := lw_dr lw_d_cX12_floor_0 32 rfl
theorem dX12_floor_27 : decode cX12_floor 27 = .ok (.iconst 1, 1) := lw_dr lw_d_cX12_floor_0 33 rfl
theorem dX12_floor_28 : decode cX12_floor 28 = .ok (.goto 4, 3) := lw_dr lw_d_cX12_floor_0 34 rfl
theorem dX12_floor_6 : decode cX12_floor 6 = .ok (.lconst 0, 1) := lw_dr lw_d_cX12_floor_0 35 rfl
theorem dX12_floor_7 : decode cX12_floor 7 = .ok (.lreturn, 1) := lw_dr lw_d_cX12_floor_0 36 rfl
theorem lw_d_cX12_told_161 : lw_dl cX12_told [(161, .iinc 4 1, 3), (164, .goto (-156), 3), (109, .aload_n 0, 1), (110, .iload 5, 2), (112, .bipush 7, 2), (114, .if_icmp .ne 8, 3), (122, .iload 5, 2), (124, .bipush 8, 2), (126, .if_icmp .ne 17, 3), (143, .aload_n 0, 1), (144, .iload_n 3, 1), (145, .invokevirtual 338, 3), (148, .i2l, 1), (149, .invokevirtual 322, 3), (152, .goto 9, 3), (129, .aload_n 0, 1), (130, .iload_n 3, 1), (131, .iload_n 3, 1), (132, .aload_n 0, 1), (133, .getfield 69, 3), (136, .invokevirtual 334, 3), (139, .i2l, 1), (140, .goto 9, 3), (117, .iload_n 3, 1), (118, .i2l, 1), (119, .goto 30, 3), (67, .aload_n 0, 1), (68, .getfield 93, 3), (71, .aload_n 0, 1), (72, .getfield 315, 3), (75, .iconst 1, 1), (76, .isub, 1), (77, .lconst 1, 1), (78, .aload_n 0, 1), (79, .getfield 93, 3), (82, .aload_n 0, 1), (83, .getfield 315, 3), (86, .iconst 1, 1), (87, .isub, 1), (88, .laload, 1)] = true := by decide +kernel
theorem dX12_told_161 : decode cX12_told 161 = .ok (.iinc 4 1, 3) := lw_dr lw_d_cX12_told_161 0 rfl
theorem dX12_told_164 : decode cX12_told 164 = .ok (.goto (-156), 3) := lw_dr lw_d_cX12_told_161 1 rfl
theorem dX12_told_109 : decode cX12_told 109 = .ok (.aload_n 0, 1) := lw_dr lw_d_cX12_told_161 2 rfl
theorem dX12_told_110 : decode cX12_told 110 = .ok (.iload 5, 2) := lw_dr lw_d_cX12_told_161 3 rfl
theorem dX12_told_112 : decode cX12_told 112 = .ok (.bipush 7, 2) := lw_dr lw_d_cX12_told_161 4 rfl
theorem dX12_told_114 : decode cX12_told 114 = .ok (.if_icmp .ne 8, 3) := lw_dr lw_d_cX12_told_161 5 rfl
theorem dX12_told_122 : decode cX12_told 122 = .ok (.iload 5, 2) := lw_dr lw_d_cX12_told_161 6 rfl
theorem dX12_told_124 : decode cX12_told 124 = .ok (.bipush 8, 2) := lw_dr lw_d_cX12_told_161 7 rfl
theorem dX12_told_126 : decode cX12_told 126 = .ok (.if_icmp .ne 17, 3) := lw_dr lw_d_cX12_told_161 8 rfl
theorem dX12_told_143 : decode cX12_told 143 = .ok (.aload_n 0, 1) := lw_dr lw_d_cX12_told_161 9 rfl
theorem dX12_told_144 : decode cX12_told 144 = .ok (.iload_n 3, 1) := lw_dr lw_d_cX12_told_161 10 rfl
theorem dX12_told_145 : decode cX12_told 145 = .ok (.invokevirtual 338, 3) := lw_dr lw_d_cX12_told_161 11 rfl
theorem dX12_told_148 : decode cX12_told 148 = .ok (.i2l, 1) := lw_dr lw_d_cX12_told_161 12 rfl
theorem dX12_told_149 : decode cX12_told 149 = .ok (.invokevirtual 322, 3) := lw_dr lw_d_cX12_told_161 13 rfl
theorem dX12_told_152 : decode cX12_told 152 = .ok (.goto 9, 3) := lw_dr lw_d_cX12_told_161 14 rfl
theorem dX12_told_129 : decode cX12_told 129 = .ok (.aload_n 0, 1) := lw_dr lw_d_cX12_told_161 15 rfl
theorem dX12_told_130 : decode cX12_told 130 = .ok (.iload_n 3, 1) := lw_dr lw_d_cX12_told_161 16 rfl
theorem dX12_told_131 : decode cX12_told 131 = .ok (.iload_n 3, 1) := lw_dr lw_d_cX12_told_161 17 rfl
theorem dX12_told_132 : decode cX12_told 132 = .ok (.aload_n 0, 1) := lw_dr lw_d_cX12_told_161 18 rfl
theorem dX12_told_133 : decode cX12_told 133 = .ok (.getfield 69, 3) := lw_dr lw_d_cX12_told_161 19 rfl
theorem dX12_told_136 : decode cX12_told 136 = .ok (.invokevirtual 334, 3) := lw_dr lw_d_cX12_told_161 20 rfl
theorem dX12_told_139 : decode cX12_told 139 = .ok (.i2l, 1) := lw_dr lw_d_cX12_told_161 21 rfl
theorem dX12_told_140 : decode cX12_told 140 = .ok (.goto 9, 3) := lw_dr lw_d_cX12_told_161 22 rfl
theorem dX12_told_117 : decode cX12_told 117 = .ok (.iload_n 3, 1) := lw_dr lw_d_cX12_told_161 23 rfl
theorem dX12_told_118 : decode cX12_told 118 = .ok (.i2l, 1) := lw_dr lw_d_cX12_told_161 24 rfl
theorem dX12_told_119 : decode cX12_told 119 = .ok (.goto 30, 3) := lw_dr lw_d_cX12_told_161 25 rfl
theorem dX12_told_67 : decode cX12_told 67 = .ok (.aload_n 0, 1) := lw_dr lw_d_cX12_told_161 26 rfl
theorem dX12_told_68 : decode cX12_told 68 = .ok (.getfield 93, 3) := lw_dr lw_d_cX12_told_161 27 rfl
theorem dX12_told_71 : decode cX12_told 71 = .ok (.aload_n 0, 1) := lw_dr lw_d_cX12_told_161 28 rfl
theorem dX12_told_72 : decode cX12_told 72 = .ok (.getfield 315, 3) := lw_dr lw_d_cX12_told_161 29 rfl
theorem dX12_told_75 : decode cX12_told 75 = .ok (.iconst 1, 1) := lw_dr lw_d_cX12_told_161 30 rfl
theorem dX12_told_76 : decode cX12_told 76 = .ok (.isub, 1) := lw_dr lw_d_cX12_told_161 31 rfl
theorem dX12_told_77 : decode cX12_told 77 = .ok (.lconst 1, 1) := lw_dr lw_d_cX12_told_161 32 rfl
theorem dX12_told_78 : decode cX12_told 78 = .ok (.aload_n 0, 1) := lw_dr lw_d_cX12_told_161 33 rfl
theorem dX12_told_79 : decode cX12_told 79 = .ok (.getfield 93, 3) := lw_dr lw_d_cX12_told_161 34 rfl
theorem dX12_told_82 : decode cX12_told 82 = .ok (.aload_n 0, 1) := lw_dr lw_d_cX12_told_161 35 rfl
theorem dX12_told_83 : decode cX12_told 83 = .ok (.getfield 315, 3) := lw_dr lw_d_cX12_told_161 36 rfl
theorem dX12_told_86 : decode cX12_told 86 = .ok (.iconst 1, 1) := lw_dr lw_d_cX12_told_161 37 rfl
theorem dX12_told_87 : decode cX12_told 87 = .ok (.isub, 1) := lw_dr lw_d_cX12_told_161 38 rfl
theorem dX12_told_88 : decode cX12_told 88 = .ok (.laload, 1) := lw_dr lw_d_cX12_told_161 39 rfl
theorem lw_d_cX12_told_89 : lw_dl cX12_told [(89, .lsub, 1), (90, .lastore, 1), (91, .goto 70, 3), (52, .aload_n 0, 1), (53, .lconst 1, 1), (54, .invokevirtual 322, 3), (57, .goto 104, 3), (31, .aload_n 0, 1), (32, .iload 5, 2), (34, .sipush 1000, 3), (37, .isub, 1), (38, .i2l, 1), (39, .invokevirtual 322, 3), (42, .goto 119, 3)] = true := by decide +kernel
theorem dX12_told_89 : decode cX12_told 89 = .ok (.lsub, 1) := lw_dr lw_d_cX12_told_89 0 rfl
theorem dX12_told_90 : decode cX12_told 90 = .ok (.lastore, 1) := lw_dr lw_d_cX12_told_89 1 rfl
theorem dX12_told_91 : decode cX12_told 91 = .ok (.goto 70, 3) := lw_dr lw_d_cX12_told_89 2 rfl
theorem dX12_told_52 : decode cX12_told 52 = .ok (.aload_n 0, 1) := lw_dr lw_d_cX12_told_89 3 rfl
theorem dX12_told_53 : decode cX12_told 53 = .ok (.lconst 1, 1) := lw_dr lw_d_cX12_told_89 4 rfl
theorem dX12_told_54 : decode cX12_told 54 = .ok (.invokevirtual 322, 3) := lw_dr lw_d_cX12_told_89 5 rfl
theorem dX12_told_57 : decode cX12_told 57 = .ok (.goto 104, 3) := lw_dr lw_d_cX12_told_89 6 rfl
theorem dX12_told_31 : decode cX12_told 31 = .ok (.aload_n 0, 1) := lw_dr lw_d_cX12_told_89 7 rfl
theorem dX12_told_32 : decode cX12_told 32 = .ok (.iload 5, 2) := lw_dr lw_d_cX12_told_89 8 rfl
theorem dX12_told_34 : decode cX12_told 34 = .ok (.sipush 1000, 3) := lw_dr lw_d_cX12_told_89 9 rfl
theorem dX12_told_37 : decode cX12_told 37 = .ok (.isub, 1) := lw_dr lw_d_cX12_told_89 10 rfl
theorem dX12_told_38 : decode cX12_told 38 = .ok (.i2l, 1) := lw_dr lw_d_cX12_told_89 11 rfl
theorem dX12_told_39 : decode cX12_told 39 = .ok (.invokevirtual 322, 3) := lw_dr lw_d_cX12_told_89 12 rfl
theorem dX12_told_42 : decode cX12_told 42 = .ok (.goto 119, 3) := lw_dr lw_d_cX12_told_89 13 rfl
theorem lw_d_cX12_peak_0 : lw_dl cX12_peak [(0, .iconst 0, 1), (1, .istore_n 2, 1), (2, .iconst 0, 1), (3, .istore_n 3, 1), (4, .iload_n 3, 1), (5, .aload_n 0, 1), (6, .getfield 240, 3), (9, .if_icmp .ge 49, 3), (58, .iload_n 2, 1), (59, .ireturn, 1), (12, .aload_n 0, 1), (13, .getfield 69, 3), (16, .iconst 5, 1), (17, .iload_n 3, 1), (18, .imul, 1), (19, .iload_n 1, 1), (20, .iadd, 1), (21, .iaload, 1), (22, .istore 4, 2), (24, .iload 4, 2), (26, .ifCond .ge 9, 3), (35, .iload 4, 2), (37, .istore 4, 2), (39, .iload 4, 2), (41, .iload_n 2, 1), (42, .if_icmp .le 8, 3), (50, .iload_n 2, 1), (51, .istore_n 2, 1), (52, .iinc 3 1, 3), (55, .goto (-51), 3), (45, .iload 4, 2), (47, .goto 4, 3), (29, .iload 4, 2), (31, .ineg, 1), (32, .goto 5, 3)] = true := by decide +kernel
theorem dX12_peak_0 : decode cX12_peak 0 = .ok (.iconst 0, 1) := lw_dr lw_d_cX12_peak_0 0 rfl
theorem dX12_peak_1 : decode cX12_peak 1 = .ok (.istore_n 2, 1) := lw_dr lw_d_cX12_peak_0 1 rfl
theorem dX12_peak_2 : decode cX12_peak 2 = .ok (.iconst 0, 1) := lw_dr lw_d_cX12_peak_0 2 rfl
theorem dX12_peak_3 : decode cX12_peak 3 = .ok (.istore_n 3, 1) := lw_dr lw_d_cX12_peak_0 3 rfl
theorem dX12_peak_4 : decode cX12_peak 4 = .ok (.iload_n 3, 1) := lw_dr lw_d_cX12_peak_0 4 rfl
theorem dX12_peak_5 : decode cX12_peak 5 = .ok (.aload_n 0, 1) := lw_dr lw_d_cX12_peak_0 5 rfl
theorem dX12_peak_6 : decode cX12_peak 6 = .ok (.getfield 240, 3) := lw_dr lw_d_cX12_peak_0 6 rfl
theorem dX12_peak_9 : decode cX12_peak 9 = .ok (.if_icmp .ge 49, 3) := lw_dr lw_d_cX12_peak_0 7 rfl
theorem dX12_peak_58 : decode cX12_peak 58 = .ok (.iload_n 2, 1) := lw_dr lw_d_cX12_peak_0 8 rfl
theorem dX12_peak_59 : decode cX12_peak 59 = .ok (.ireturn, 1) := lw_dr lw_d_cX12_peak_0 9 rfl
theorem dX12_peak_12 : decode cX12_peak 12 = .ok (.aload_n 0, 1) := lw_dr lw_d_cX12_peak_0 10 rfl
theorem dX12_peak_13 : decode cX12_peak 13 = .ok (.getfield 69, 3) := lw_dr lw_d_cX12_peak_0 11 rfl
theorem dX12_peak_16 : decode cX12_peak 16 = .ok (.iconst 5, 1) := lw_dr lw_d_cX12_peak_0 12 rfl
theorem dX12_peak_17 : decode cX12_peak 17 = .ok (.iload_n 3, 1) := lw_dr lw_d_cX12_peak_0 13 rfl
theorem dX12_peak_18 : decode cX12_peak 18 = .ok (.imul, 1) := lw_dr lw_d_cX12_peak_0 14 rfl
theorem dX12_peak_19 : decode cX12_peak 19 = .ok (.iload_n 1, 1) := lw_dr lw_d_cX12_peak_0 15 rfl
theorem dX12_peak_20 : decode cX12_peak 20 = .ok (.iadd, 1) := lw_dr lw_d_cX12_peak_0 16 rfl
theorem dX12_peak_21 : decode cX12_peak 21 = .ok (.iaload, 1) := lw_dr lw_d_cX12_peak_0 17 rfl
theorem dX12_peak_22 : decode cX12_peak 22 = .ok (.istore 4, 2) := lw_dr lw_d_cX12_peak_0 18 rfl
theorem dX12_peak_24 : decode cX12_peak 24 = .ok (.iload 4, 2) := lw_dr lw_d_cX12_peak_0 19 rfl
theorem dX12_peak_26 : decode cX12_peak 26 = .ok (.ifCond .ge 9, 3) := lw_dr lw_d_cX12_peak_0 20 rfl
theorem dX12_peak_35 : decode cX12_peak 35 = .ok (.iload 4, 2) := lw_dr lw_d_cX12_peak_0 21 rfl
theorem dX12_peak_37 : decode cX12_peak 37 = .ok (.istore 4, 2) := lw_dr lw_d_cX12_peak_0 22 rfl
theorem dX12_peak_39 : decode cX12_peak 39 = .ok (.iload 4, 2) := lw_dr lw_d_cX12_peak_0 23 rfl
theorem dX12_peak_41 : decode cX12_peak 41 = .ok (.iload_n 2, 1) := lw_dr lw_d_cX12_peak_0 24 rfl
theorem dX12_peak_42 : decode cX12_peak 42 = .ok (.if_icmp .le 8, 3) := lw_dr lw_d_cX12_peak_0 25 rfl
theorem dX12_peak_50 : decode cX12_peak 50 = .ok (.iload_n 2, 1) := lw_dr lw_d_cX12_peak_0 26 rfl
theorem dX12_peak_51 : decode cX12_peak 51 = .ok (.istore_n 2, 1) := lw_dr lw_d_cX12_peak_0 27 rfl
theorem dX12_peak_52 : decode cX12_peak 52 = .ok (.iinc 3 1, 3) := lw_dr lw_d_cX12_peak_0 28 rfl
theorem dX12_peak_55 : decode cX12_peak 55 = .ok (.goto (-51), 3) := lw_dr lw_d_cX12_peak_0 29 rfl
theorem dX12_peak_45 : decode cX12_peak 45 = .ok (.iload 4, 2) := lw_dr lw_d_cX12_peak_0 30 rfl
theorem dX12_peak_47 : decode cX12_peak 47 = .ok (.goto 4, 3) := lw_dr lw_d_cX12_peak_0 31 rfl
theorem dX12_peak_29 : decode cX12_peak 29 = .ok (.iload 4, 2) := lw_dr lw_d_cX12_peak_0 32 rfl
theorem dX12_peak_31 : decode cX12_peak 31 = .ok (.ineg, 1) := lw_dr lw_d_cX12_peak_0 33 rfl
theorem dX12_peak_32 : decode cX12_peak 32 = .ok (.goto 5, 3) := lw_dr lw_d_cX12_peak_0 34 rfl
theorem lw_d_cX12_worthOf_29 : lw_dl cX12_worthOf [(29, .lconst 1, 1), (30, .lcmp, 1), (31, .ifCond .ne 22, 3), (53, .iinc 2 1, 3), (56, .goto (-54), 3), (34, .aload_n 0, 1), (35, .aload_n 0, 1), (36, .getfield 84, 3), (39, .iload_n 2, 1), (40, .iaload, 1), (41, .aload_n 0, 1), (42, .getfield 87, 3), (45, .iload_n 2, 1), (46, .iaload, 1), (47, .iload_n 1, 1), (48, .invokevirtual 345, 3), (51, .l2i, 1), (52, .ireturn, 1)] = true := by decide +kernel
theorem dX12_worthOf_29 : decode cX12_worthOf 29 = .ok (.lconst 1, 1) := lw_dr lw_d_cX12_worthOf_29 0 rfl
theorem dX12_worthOf_30 : decode cX12_worthOf 30 = .ok (.lcmp, 1) := lw_dr lw_d_cX12_worthOf_29 1 rfl
theorem dX12_worthOf_31 : decode cX12_worthOf 31 = .ok (.ifCond .ne 22, 3) := lw_dr lw_d_cX12_worthOf_29 2 rfl
theorem dX12_worthOf_53 : decode cX12_worthOf 53 = .ok (.iinc 2 1, 3) := lw_dr lw_d_cX12_worthOf_29 3 rfl
theorem dX12_worthOf_56 : decode cX12_worthOf 56 = .ok (.goto (-54), 3) := lw_dr lw_d_cX12_worthOf_29 4 rfl
theorem dX12_worthOf_34 : decode cX12_worthOf 34 = .ok (.aload_n 0, 1) := lw_dr lw_d_cX12_worthOf_29 5 rfl
theorem dX12_worthOf_35 : decode cX12_worthOf 35 = .ok (.aload_n 0, 1) := lw_dr lw_d_cX12_worthOf_29 6 rfl
theorem dX12_worthOf_36 : decode cX12_worthOf 36 = .ok (.getfield 84, 3) := lw_dr lw_d_cX12_worthOf_29 7 rfl
theorem dX12_worthOf_39 : decode cX12_worthOf 39 = .ok (.iload_n 2, 1) := lw_dr lw_d_cX12_worthOf_29 8 rfl
theorem dX12_worthOf_40 : decode cX12_worthOf 40 = .ok (.iaload, 1) := lw_dr lw_d_cX12_worthOf_29 9 rfl
theorem dX12_worthOf_41 : decode cX12_worthOf 41 = .ok (.aload_n 0, 1) := lw_dr lw_d_cX12_worthOf_29 10 rfl
theorem dX12_worthOf_42 : decode cX12_worthOf 42 = .ok (.getfield 87, 3) := lw_dr lw_d_cX12_worthOf_29 11 rfl
theorem dX12_worthOf_45 : decode cX12_worthOf 45 = .ok (.iload_n 2, 1) := lw_dr lw_d_cX12_worthOf_29 12 rfl
theorem dX12_worthOf_46 : decode cX12_worthOf 46 = .ok (.iaload, 1) := lw_dr lw_d_cX12_worthOf_29 13 rfl
theorem dX12_worthOf_47 : decode cX12_worthOf 47 = .ok (.iload_n 1, 1) := lw_dr lw_d_cX12_worthOf_29 14 rfl
theorem dX12_worthOf_48 : decode cX12_worthOf 48 = .ok (.invokevirtual 345, 3) := lw_dr lw_d_cX12_worthOf_29 15 rfl
theorem dX12_worthOf_51 : decode cX12_worthOf 51 = .ok (.l2i, 1) := lw_dr lw_d_cX12_worthOf_29 16 rfl
theorem dX12_worthOf_52 : decode cX12_worthOf 52 = .ok (.ireturn, 1) := lw_dr lw_d_cX12_worthOf_29 17 rfl
theorem lw_d_cX12_worth_13 : lw_dl cX12_worth [(13, .goto 6, 3)] = true := by decide +kernel
theorem dX12_worth_13 : decode cX12_worth 13 = .ok (.goto 6, 3) := lw_dr lw_d_cX12_worth_13 0 rfl
theorem lw_d_cX12_chosen_0 : lw_dl cX12_chosen [(0, .iload_n 1, 1), (1, .i2l, 1), (2, .lconst 1, 1), (3, .ldc2_w 484, 3), (6, .invokestatic 191, 3), (9, .ifCond .eq 9, 3), (18, .iconst (-1), 1), (19, .ireturn, 1), (12, .lload_n 2, 1), (13, .lconst 0, 1), (14, .lcmp, 1), (15, .ifCond .ge 5, 3), (20, .iconst (-1), 1), (21, .istore 4, 2), (23, .lconst 0, 1), (24, .lstore 5, 2), (26, .iconst 1, 1), (27, .istore 7, 2), (29, .iload 7, 2), (31, .iconst 1, 1), (32, .aload_n 0, 1), (33, .getfield 237, 3), (36, .ishl, 1), (37, .if_icmp .ge 117, 3), (154, .iload 4, 2), (156, .ireturn, 1), (40, .iload 7, 2), (42, .invokestatic 486, 3), (45, .iload_n 1, 1), (46, .if_icmp .ne 102, 3), (148, .iinc 7 1, 3), (151, .goto (-122), 3), (49, .aload_n 0, 1), (50, .iload 7, 2), (52, .iconst 2, 1), (53, .aload_n 0, 1), (54, .getfield 234, 3), (57, .imul, 1), (58, .iconst 2, 1), (59, .isub, 1)] = true := by decide +kernel
theorem dX12_chosen_0 : decode cX12_chosen 0 = .ok (.iload_n 1, 1) := lw_dr lw_d_cX12_chosen_0 0 rfl
theorem dX12_chosen_1 : decode cX12_chosen 1 = .ok (.i2l, 1) := lw_dr lw_d_cX12_chosen_0 1 rfl
theorem dX12_chosen_2 : decode cX12_chosen 2 = .ok (.lconst 1, 1) := lw_dr lw_d_cX12_chosen_0 2 rfl
theorem dX12_chosen_3 : decode cX12_chosen 3 = .ok (.ldc2_w 484, 3) := lw_dr lw_d_cX12_chosen_0 3 rfl
theorem dX12_chosen_6 : decode cX12_chosen 6 = .ok (.invokestatic 191, 3) := lw_dr lw_d_cX12_chosen_0 4 rfl
theorem dX12_chosen_9 : decode cX12_chosen 9 = .ok (.ifCond .eq 9, 3) := lw_dr lw_d_cX12_chosen_0 5 rfl
theorem dX12_chosen_18 : decode cX12_chosen 18 = .ok (.iconst (-1), 1) := lw_dr lw_d_cX12_chosen_0 6 rfl
theorem dX12_chosen_19 : decode cX12_chosen 19 = .ok (.ireturn, 1) := lw_dr lw_d_cX12_chosen_0 7 rfl
theorem dX12_chosen_12 : decode cX12_chosen 12 = .ok (.lload_n 2, 1) := lw_dr lw_d_cX12_chosen_0 8 rfl
theorem dX12_chosen_13 : decode cX12_chosen 13 = .ok (.lconst 0, 1) := lw_dr lw_d_cX12_chosen_0 9 rfl
theorem dX12_chosen_14 : decode cX12_chosen 14 = .ok (.lcmp, 1) := lw_dr lw_d_cX12_chosen_0 10 rfl
theorem dX12_chosen_15 : decode cX12_chosen 15 = .ok (.ifCond .ge 5, 3) := lw_dr lw_d_cX12_chosen_0 11 rfl
theorem dX12_chosen_20 : decode cX12_chosen 20 = .ok (.iconst (-1), 1) := lw_dr lw_d_cX12_chosen_0 12 rfl
theorem dX12_chosen_21 : decode cX12_chosen 21 = .ok (.istore 4, 2) := lw_dr lw_d_cX12_chosen_0 13 rfl
theorem dX12_chosen_23 : decode cX12_chosen 23 = .ok (.lconst 0, 1) := lw_dr lw_d_cX12_chosen_0 14 rfl
theorem dX12_chosen_24 : decode cX12_chosen 24 = .ok (.lstore 5, 2) := lw_dr lw_d_cX12_chosen_0 15 rfl
theorem dX12_chosen_26 : decode cX12_chosen 26 = .ok (.iconst 1, 1) := lw_dr lw_d_cX12_chosen_0 16 rfl
theorem dX12_chosen_27 : decode cX12_chosen 27 = .ok (.istore 7, 2) := lw_dr lw_d_cX12_chosen_0 17 rfl
theorem dX12_chosen_29 : decode cX12_chosen 29 = .ok (.iload 7, 2) := lw_dr lw_d_cX12_chosen_0 18 rfl
theorem dX12_chosen_31 : decode cX12_chosen 31 = .ok (.iconst 1, 1) := lw_dr lw_d_cX12_chosen_0 19 rfl
theorem dX12_chosen_32 : decode cX12_chosen 32 = .ok (.aload_n 0, 1) := lw_dr lw_d_cX12_chosen_0 20 rfl
theorem dX12_chosen_33 : decode cX12_chosen 33 = .ok (.getfield 237, 3) := lw_dr lw_d_cX12_chosen_0 21 rfl
theorem dX12_chosen_36 : decode cX12_chosen 36 = .ok (.ishl, 1) := lw_dr lw_d_cX12_chosen_0 22 rfl
theorem dX12_chosen_37 : decode cX12_chosen 37 = .ok (.if_icmp .ge 117, 3) := lw_dr lw_d_cX12_chosen_0 23 rfl
theorem dX12_chosen_154 : decode cX12_chosen 154 = .ok (.iload 4, 2) := lw_dr lw_d_cX12_chosen_0 24 rfl
theorem dX12_chosen_156 : decode cX12_chosen 156 = .ok (.ireturn, 1) := lw_dr lw_d_cX12_chosen_0 25 rfl
theorem dX12_chosen_40 : decode cX12_chosen 40 = .ok (.iload 7, 2) := lw_dr lw_d_cX12_chosen_0 26 rfl
theorem dX12_chosen_42 : decode cX12_chosen 42 = .ok (.invokestatic 486, 3) := lw_dr lw_d_cX12_chosen_0 27 rfl
theorem dX12_chosen_45 : decode cX12_chosen 45 = .ok (.iload_n 1, 1) := lw_dr lw_d_cX12_chosen_0 28 rfl
theorem dX12_chosen_46 : decode cX12_chosen 46 = .ok (.if_icmp .ne 102, 3) := lw_dr lw_d_cX12_chosen_0 29 rfl
theorem dX12_chosen_148 : decode cX12_chosen 148 = .ok (.iinc 7 1, 3) := lw_dr lw_d_cX12_chosen_0 30 rfl
theorem dX12_chosen_151 : decode cX12_chosen 151 = .ok (.goto (-122), 3) := lw_dr lw_d_cX12_chosen_0 31 rfl
theorem dX12_chosen_49 : decode cX12_chosen 49 = .ok (.aload_n 0, 1) := lw_dr lw_d_cX12_chosen_0 32 rfl
theorem dX12_chosen_50 : decode cX12_chosen 50 = .ok (.iload 7, 2) := lw_dr lw_d_cX12_chosen_0 33 rfl
theorem dX12_chosen_52 : decode cX12_chosen 52 = .ok (.iconst 2, 1) := lw_dr lw_d_cX12_chosen_0 34 rfl
theorem dX12_chosen_53 : decode cX12_chosen 53 = .ok (.aload_n 0, 1) := lw_dr lw_d_cX12_chosen_0 35 rfl
theorem dX12_chosen_54 : decode cX12_chosen 54 = .ok (.getfield 234, 3) := lw_dr lw_d_cX12_chosen_0 36 rfl
theorem dX12_chosen_57 : decode cX12_chosen 57 = .ok (.imul, 1) := lw_dr lw_d_cX12_chosen_0 37 rfl
theorem dX12_chosen_58 : decode cX12_chosen 58 = .ok (.iconst 2, 1) := lw_dr lw_d_cX12_chosen_0 38 rfl
theorem dX12_chosen_59 : decode cX12_chosen 59 = .ok (.isub, 1) := lw_dr lw_d_cX12_chosen_0 39 rfl
theorem lw_d_cX12_chosen_60 : lw_dl cX12_chosen [(60, .iconst 2, 1), (61, .invokevirtual 457, 3)] = true := by decide +kernel
theorem dX12_chosen_60 : decode cX12_chosen 60 = .ok (.iconst 2, 1) := lw_dr lw_d_cX12_chosen_60 0 rfl
theorem dX12_chosen_61 : decode cX12_chosen 61 = .ok (.invokevirtual 457, 3) := lw_dr lw_d_cX12_chosen_60 1 rfl
theorem lw_d_cX12_bits_0 : lw_dl cX12_bits [(0, .iconst 0, 1), (1, .istore_n 1, 1), (2, .iload_n 0, 1), (3, .istore_n 2, 1), (4, .iload_n 2, 1), (5, .ifCond .eq 15, 3), (20, .iload_n 1, 1), (21, .ireturn, 1), (8, .iinc 1 1, 3), (11, .iload_n 2, 1), (12, .iload_n 2, 1), (13, .iconst 1, 1), (14, .isub, 1), (15, .iand, 1), (16, .istore_n 2, 1), (17, .goto (-13), 3)] = true := by decide +kernel
theorem dX12_bits_0 : decode cX12_bits 0 = .ok (.iconst 0, 1) := lw_dr lw_d_cX12_bits_0 0 rfl
theorem dX12_bits_1 : decode cX12_bits 1 = .ok (.istore_n 1, 1) := lw_dr lw_d_cX12_bits_0 1 rfl
theorem dX12_bits_2 : decode cX12_bits 2 = .ok (.iload_n 0, 1) := lw_dr lw_d_cX12_bits_0 2 rfl
theorem dX12_bits_3 : decode cX12_bits 3 = .ok (.istore_n 2, 1) := lw_dr lw_d_cX12_bits_0 3 rfl
theorem dX12_bits_4 : decode cX12_bits 4 = .ok (.iload_n 2, 1) := lw_dr lw_d_cX12_bits_0 4 rfl
theorem dX12_bits_5 : decode cX12_bits 5 = .ok (.ifCond .eq 15, 3) := lw_dr lw_d_cX12_bits_0 5 rfl
theorem dX12_bits_20 : decode cX12_bits 20 = .ok (.iload_n 1, 1) := lw_dr lw_d_cX12_bits_0 6 rfl
theorem dX12_bits_21 : decode cX12_bits 21 = .ok (.ireturn, 1) := lw_dr lw_d_cX12_bits_0 7 rfl
theorem dX12_bits_8 : decode cX12_bits 8 = .ok (.iinc 1 1, 3) := lw_dr lw_d_cX12_bits_0 8 rfl
theorem dX12_bits_11 : decode cX12_bits 11 = .ok (.iload_n 2, 1) := lw_dr lw_d_cX12_bits_0 9 rfl
theorem dX12_bits_12 : decode cX12_bits 12 = .ok (.iload_n 2, 1) := lw_dr lw_d_cX12_bits_0 10 rfl
theorem dX12_bits_13 : decode cX12_bits 13 = .ok (.iconst 1, 1) := lw_dr lw_d_cX12_bits_0 11 rfl
theorem dX12_bits_14 : decode cX12_bits 14 = .ok (.isub, 1) := lw_dr lw_d_cX12_bits_0 12 rfl
theorem dX12_bits_15 : decode cX12_bits 15 = .ok (.iand, 1) := lw_dr lw_d_cX12_bits_0 13 rfl
theorem dX12_bits_16 : decode cX12_bits 16 = .ok (.istore_n 2, 1) := lw_dr lw_d_cX12_bits_0 14 rfl
theorem dX12_bits_17 : decode cX12_bits 17 = .ok (.goto (-13), 3) := lw_dr lw_d_cX12_bits_0 15 rfl
theorem lw_d_cX12_image_0 : lw_dl cX12_image [(0, .aload_n 0, 1), (1, .iconst 0, 1), (2, .putfield 489, 3), (5, .iconst 0, 1), (6, .istore_n 1, 1), (7, .iload_n 1, 1), (8, .aload_n 0, 1), (9, .getfield 240, 3), (12, .if_icmp .ge 40, 3), (52, .aload_n 0, 1), (53, .aload_n 0, 1), (54, .getfield 349, 3), (57, .invokevirtual 492, 3), (60, .aload_n 0, 1), (61, .aload_n 0, 1), (62, .getfield 145, 3), (65, .aload_n 0, 1), (66, .getfield 489, 3), (69, .invokestatic 495, 3), (72, .invokevirtual 492, 3), (75, .aload_n 0, 1), (76, .getfield 489, 3), (79, .ireturn, 1), (15, .aload_n 0, 1), (16, .aload_n 0, 1), (17, .getfield 100, 3), (20, .iload_n 1, 1), (21, .iaload, 1), (22, .bipush 8, 2), (24, .ishr, 1), (25, .sipush 255, 3), (28, .iand, 1), (29, .invokevirtual 492, 3), (32, .aload_n 0, 1), (33, .aload_n 0, 1), (34, .getfield 100, 3), (37, .iload_n 1, 1), (38, .iaload, 1), (39, .sipush 255, 3), (42, .iand, 1)] = true := by decide +kernel
theorem dX12_image_0 : decode cX12_image 0 = .ok (.aload_n 0, 1) := lw_dr lw_d_cX12_image_0 0 rfl
theorem dX12_image_1 : decode cX12_image 1 = .ok (.iconst 0, 1) := lw_dr lw_d_cX12_image_0 1 rfl
theorem dX12_image_2 : decode cX12_image 2 = .ok (.putfield 489, 3) := lw_dr lw_d_cX12_image_0 2 rfl
theorem dX12_image_5 : decode cX12_image 5 = .ok (.iconst 0, 1) := lw_dr lw_d_cX12_image_0 3 rfl
theorem dX12_image_6 : decode cX12_image 6 = .ok (.istore_n 1, 1) := lw_dr lw_d_cX12_image_0 4 rfl
theorem dX12_image_7 : decode cX12_image 7 = .ok (.iload_n 1, 1) := lw_dr lw_d_cX12_image_0 5 rfl
theorem dX12_image_8 : decode cX12_image 8 = .ok (.aload_n 0, 1) := lw_dr lw_d_cX12_image_0 6 rfl
theorem dX12_image_9 : decode cX12_image 9 = .ok (.getfield 240, 3) := lw_dr lw_d_cX12_image_0 7 rfl
theorem dX12_image_12 : decode cX12_image 12 = .ok (.if_icmp .ge 40, 3) := lw_dr lw_d_cX12_image_0 8 rfl
theorem dX12_image_52 : decode cX12_image 52 = .ok (.aload_n 0, 1) := lw_dr lw_d_cX12_image_0 9 rfl
theorem dX12_image_53 : decode cX12_image 53 = .ok (.aload_n 0, 1) := lw_dr lw_d_cX12_image_0 10 rfl
theorem dX12_image_54 : decode cX12_image 54 = .ok (.getfield 349, 3) := lw_dr lw_d_cX12_image_0 11 rfl
theorem dX12_image_57 : decode cX12_image 57 = .ok (.invokevirtual 492, 3) := lw_dr lw_d_cX12_image_0 12 rfl
theorem dX12_image_60 : decode cX12_image 60 = .ok (.aload_n 0, 1) := lw_dr lw_d_cX12_image_0 13 rfl
theorem dX12_image_61 : decode cX12_image 61 = .ok (.aload_n 0, 1) := lw_dr lw_d_cX12_image_0 14 rfl
theorem dX12_image_62 : decode cX12_image 62 = .ok (.getfield 145, 3) := lw_dr lw_d_cX12_image_0 15 rfl
theorem dX12_image_65 : decode cX12_image 65 = .ok (.aload_n 0, 1) := lw_dr lw_d_cX12_image_0 16 rfl
theorem dX12_image_66 : decode cX12_image 66 = .ok (.getfield 489, 3) := lw_dr lw_d_cX12_image_0 17 rfl
theorem dX12_image_69 : decode cX12_image 69 = .ok (.invokestatic 495, 3) := lw_dr lw_d_cX12_image_0 18 rfl
theorem dX12_image_72 : decode cX12_image 72 = .ok (.invokevirtual 492, 3) := lw_dr lw_d_cX12_image_0 19 rfl
theorem dX12_image_75 : decode cX12_image 75 = .ok (.aload_n 0, 1) := lw_dr lw_d_cX12_image_0 20 rfl
theorem dX12_image_76 : decode cX12_image 76 = .ok (.getfield 489, 3) := lw_dr lw_d_cX12_image_0 21 rfl
theorem dX12_image_79 : decode cX12_image 79 = .ok (.ireturn, 1) := lw_dr lw_d_cX12_image_0 22 rfl
theorem dX12_image_15 : decode cX12_image 15 = .ok (.aload_n 0, 1) := lw_dr lw_d_cX12_image_0 23 rfl
theorem dX12_image_16 : decode cX12_image 16 = .ok (.aload_n 0, 1) := lw_dr lw_d_cX12_image_0 24 rfl
theorem dX12_image_17 : decode cX12_image 17 = .ok (.getfield 100, 3) := lw_dr lw_d_cX12_image_0 25 rfl
theorem dX12_image_20 : decode cX12_image 20 = .ok (.iload_n 1, 1) := lw_dr lw_d_cX12_image_0 26 rfl
theorem dX12_image_21 : decode cX12_image 21 = .ok (.iaload, 1) := lw_dr lw_d_cX12_image_0 27 rfl
theorem dX12_image_22 : decode cX12_image 22 = .ok (.bipush 8, 2) := lw_dr lw_d_cX12_image_0 28 rfl
theorem dX12_image_24 : decode cX12_image 24 = .ok (.ishr, 1) := lw_dr lw_d_cX12_image_0 29 rfl
theorem dX12_image_25 : decode cX12_image 25 = .ok (.sipush 255, 3) := lw_dr lw_d_cX12_image_0 30 rfl
theorem dX12_image_28 : decode cX12_image 28 = .ok (.iand, 1) := lw_dr lw_d_cX12_image_0 31 rfl
theorem dX12_image_29 : decode cX12_image 29 = .ok (.invokevirtual 492, 3) := lw_dr lw_d_cX12_image_0 32 rfl
theorem dX12_image_32 : decode cX12_image 32 = .ok (.aload_n 0, 1) := lw_dr lw_d_cX12_image_0 33 rfl
theorem dX12_image_33 : decode cX12_image 33 = .ok (.aload_n 0, 1) := lw_dr lw_d_cX12_image_0 34 rfl
theorem dX12_image_34 : decode cX12_image 34 = .ok (.getfield 100, 3) := lw_dr lw_d_cX12_image_0 35 rfl
theorem dX12_image_37 : decode cX12_image 37 = .ok (.iload_n 1, 1) := lw_dr lw_d_cX12_image_0 36 rfl
theorem dX12_image_38 : decode cX12_image 38 = .ok (.iaload, 1) := lw_dr lw_d_cX12_image_0 37 rfl
theorem dX12_image_39 : decode cX12_image 39 = .ok (.sipush 255, 3) := lw_dr lw_d_cX12_image_0 38 rfl
theorem dX12_image_42 : decode cX12_image 42 = .ok (.iand, 1) := lw_dr lw_d_cX12_image_0 39 rfl
theorem lw_d_cX12_image_43 : lw_dl cX12_image [(43, .invokevirtual 492, 3), (46, .iinc 1 1, 3), (49, .goto (-42), 3)] = true := by decide +kernel
theorem dX12_image_43 : decode cX12_image 43 = .ok (.invokevirtual 492, 3) := lw_dr lw_d_cX12_image_43 0 rfl
theorem dX12_image_46 : decode cX12_image 46 = .ok (.iinc 1 1, 3) := lw_dr lw_d_cX12_image_43 1 rfl
theorem dX12_image_49 : decode cX12_image 49 = .ok (.goto (-42), 3) := lw_dr lw_d_cX12_image_43 2 rfl
theorem lw_d_cX12_writes_0 : lw_dl cX12_writes [(0, .aload_n 0, 1), (1, .getfield 145, 3), (4, .aload_n 0, 1), (5, .getfield 489, 3), (8, .iload_n 1, 1), (9, .iastore, 1), (10, .aload_n 0, 1), (11, .dup, 1), (12, .getfield 489, 3), (15, .iconst 1, 1), (16, .iadd, 1), (17, .putfield 489, 3), (20, .return_, 1)] = true := by decide +kernel
theorem dX12_writes_0 : decode cX12_writes 0 = .ok (.aload_n 0, 1) := lw_dr lw_d_cX12_writes_0 0 rfl
theorem dX12_writes_1 : decode cX12_writes 1 = .ok (.getfield 145, 3) := lw_dr lw_d_cX12_writes_0 1 rfl
theorem dX12_writes_4 : decode cX12_writes 4 = .ok (.aload_n 0, 1) := lw_dr lw_d_cX12_writes_0 2 rfl
theorem dX12_writes_5 : decode cX12_writes 5 = .ok (.getfield 489, 3) := lw_dr lw_d_cX12_writes_0 3 rfl
theorem dX12_writes_8 : decode cX12_writes 8 = .ok (.iload_n 1, 1) := lw_dr lw_d_cX12_writes_0 4 rfl
theorem dX12_writes_9 : decode cX12_writes 9 = .ok (.iastore, 1) := lw_dr lw_d_cX12_writes_0 5 rfl
theorem dX12_writes_10 : decode cX12_writes 10 = .ok (.aload_n 0, 1) := lw_dr lw_d_cX12_writes_0 6 rfl
theorem dX12_writes_11 : decode cX12_writes 11 = .ok (.dup, 1) := lw_dr lw_d_cX12_writes_0 7 rfl
theorem dX12_writes_12 : decode cX12_writes 12 = .ok (.getfield 489, 3) := lw_dr lw_d_cX12_writes_0 8 rfl
theorem dX12_writes_15 : decode cX12_writes 15 = .ok (.iconst 1, 1) := lw_dr lw_d_cX12_writes_0 9 rfl
theorem dX12_writes_16 : decode cX12_writes 16 = .ok (.iadd, 1) := lw_dr lw_d_cX12_writes_0 10 rfl
theorem dX12_writes_17 : decode cX12_writes 17 = .ok (.putfield 489, 3) := lw_dr lw_d_cX12_writes_0 11 rfl
theorem dX12_writes_20 : decode cX12_writes 20 = .ok (.return_, 1) := lw_dr lw_d_cX12_writes_0 12 rfl
theorem lw_d_cX12_checked_0 : lw_dl cX12_checked [(0, .bipush 51, 2), (2, .istore_n 2, 1), (3, .iconst 0, 1), (4, .istore_n 3, 1), (5, .iload_n 3, 1), (6, .iload_n 1, 1), (7, .if_icmp .ge 22, 3), (29, .iload_n 2, 1), (30, .ireturn, 1), (10, .bipush 7, 2), (12, .iload_n 2, 1), (13, .imul, 1), (14, .aload_n 0, 1), (15, .iload_n 3, 1), (16, .iaload, 1), (17, .iadd, 1), (18, .sipush 253, 3), (21, .irem, 1), (22, .istore_n 2, 1), (23, .iinc 3 1, 3), (26, .goto (-21), 3)] = true := by decide +kernel
theorem dX12_checked_0 : decode cX12_checked 0 = .ok (.bipush 51, 2) := lw_dr lw_d_cX12_checked_0 0 rfl
theorem dX12_checked_2 : decode cX12_checked 2 = .ok (.istore_n 2, 1) := lw_dr lw_d_cX12_checked_0 1 rfl
theorem dX12_checked_3 : decode cX12_checked 3 = .ok (.iconst 0, 1) := lw_dr lw_d_cX12_checked_0 2 rfl
theorem dX12_checked_4 : decode cX12_checked 4 = .ok (.istore_n 3, 1) := lw_dr lw_d_cX12_checked_0 3 rfl
theorem dX12_checked_5 : decode cX12_checked 5 = .ok (.iload_n 3, 1) := lw_dr lw_d_cX12_checked_0 4 rfl
theorem dX12_checked_6 : decode cX12_checked 6 = .ok (.iload_n 1, 1) := lw_dr lw_d_cX12_checked_0 5 rfl
theorem dX12_checked_7 : decode cX12_checked 7 = .ok (.if_icmp .ge 22, 3) := lw_dr lw_d_cX12_checked_0 6 rfl
theorem dX12_checked_29 : decode cX12_checked 29 = .ok (.iload_n 2, 1) := lw_dr lw_d_cX12_checked_0 7 rfl
theorem dX12_checked_30 : decode cX12_checked 30 = .ok (.ireturn, 1) := lw_dr lw_d_cX12_checked_0 8 rfl
theorem dX12_checked_10 : decode cX12_checked 10 = .ok (.bipush 7, 2) := lw_dr lw_d_cX12_checked_0 9 rfl
theorem dX12_checked_12 : decode cX12_checked 12 = .ok (.iload_n 2, 1) := lw_dr lw_d_cX12_checked_0 10 rfl
theorem dX12_checked_13 : decode cX12_checked 13 = .ok (.imul, 1) := lw_dr lw_d_cX12_checked_0 11 rfl
theorem dX12_checked_14 : decode cX12_checked 14 = .ok (.aload_n 0, 1) := lw_dr lw_d_cX12_checked_0 12 rfl
theorem dX12_checked_15 : decode cX12_checked 15 = .ok (.iload_n 3, 1) := lw_dr lw_d_cX12_checked_0 13 rfl
theorem dX12_checked_16 : decode cX12_checked 16 = .ok (.iaload, 1) := lw_dr lw_d_cX12_checked_0 14 rfl
theorem dX12_checked_17 : decode cX12_checked 17 = .ok (.iadd, 1) := lw_dr lw_d_cX12_checked_0 15 rfl
theorem dX12_checked_18 : decode cX12_checked 18 = .ok (.sipush 253, 3) := lw_dr lw_d_cX12_checked_0 16 rfl
theorem dX12_checked_21 : decode cX12_checked 21 = .ok (.irem, 1) := lw_dr lw_d_cX12_checked_0 17 rfl
theorem dX12_checked_22 : decode cX12_checked 22 = .ok (.istore_n 2, 1) := lw_dr lw_d_cX12_checked_0 18 rfl
theorem dX12_checked_23 : decode cX12_checked 23 = .ok (.iinc 3 1, 3) := lw_dr lw_d_cX12_checked_0 19 rfl
theorem dX12_checked_26 : decode cX12_checked 26 = .ok (.goto (-21), 3) := lw_dr lw_d_cX12_checked_0 20 rfl
theorem lw_d_cX12_octet_0 : lw_dl cX12_octet [(0, .iload_n 1, 1), (1, .ifCond .lt 20, 3), (21, .iconst (-1), 1), (22, .ireturn, 1), (4, .iload_n 1, 1), (5, .aload_n 0, 1), (6, .getfield 489, 3), (9, .if_icmp .ge 12, 3), (12, .aload_n 0, 1), (13, .getfield 145, 3), (16, .iload_n 1, 1), (17, .iaload, 1), (18, .goto 4, 3)] = true := by decide +kernel
theorem dX12_octet_0 : decode cX12_octet 0 = .ok (.iload_n 1, 1) := lw_dr lw_d_cX12_octet_0 0 rfl
theorem dX12_octet_1 : decode cX12_octet 1 = .ok (.ifCond .lt 20, 3) := lw_dr lw_d_cX12_octet_0 1 rfl
theorem dX12_octet_21 : decode cX12_octet 21 = .ok (.iconst (-1), 1) := lw_dr lw_d_cX12_octet_0 2 rfl
theorem dX12_octet_22 : decode cX12_octet 22 = .ok (.ireturn, 1) := lw_dr lw_d_cX12_octet_0 3 rfl
theorem dX12_octet_4 : decode cX12_octet 4 = .ok (.iload_n 1, 1) := lw_dr lw_d_cX12_octet_0 4 rfl
theorem dX12_octet_5 : decode cX12_octet 5 = .ok (.aload_n 0, 1) := lw_dr lw_d_cX12_octet_0 5 rfl
theorem dX12_octet_6 : decode cX12_octet 6 = .ok (.getfield 489, 3) := lw_dr lw_d_cX12_octet_0 6 rfl
theorem dX12_octet_9 : decode cX12_octet 9 = .ok (.if_icmp .ge 12, 3) := lw_dr lw_d_cX12_octet_0 7 rfl
theorem dX12_octet_12 : decode cX12_octet 12 = .ok (.aload_n 0, 1) := lw_dr lw_d_cX12_octet_0 8 rfl
theorem dX12_octet_13 : decode cX12_octet 13 = .ok (.getfield 145, 3) := lw_dr lw_d_cX12_octet_0 9 rfl
theorem dX12_octet_16 : decode cX12_octet 16 = .ok (.iload_n 1, 1) := lw_dr lw_d_cX12_octet_0 10 rfl
theorem dX12_octet_17 : decode cX12_octet 17 = .ok (.iaload, 1) := lw_dr lw_d_cX12_octet_0 11 rfl
theorem dX12_octet_18 : decode cX12_octet 18 = .ok (.goto 4, 3) := lw_dr lw_d_cX12_octet_0 12 rfl
theorem lw_d_cX12_on_0 : lw_dl cX12_on [(0, .aload_n 0, 1), (1, .getfield 148, 3), (4, .istore_n 1, 1), (5, .aload_n 0, 1), (6, .iconst 0, 1), (7, .putfield 148, 3), (10, .iload_n 1, 1), (11, .iconst 2, 1), (12, .aload_n 0, 1), (13, .getfield 240, 3), (16, .imul, 1), (17, .iconst 2, 1), (18, .iadd, 1), (19, .if_icmp .ne 24, 3), (43, .iconst 0, 1), (44, .ireturn, 1), (22, .aload_n 0, 1), (23, .getfield 7, 3), (26, .iload_n 1, 1), (27, .iconst 1, 1), (28, .isub, 1), (29, .iaload, 1), (30, .aload_n 0, 1), (31, .getfield 7, 3), (34, .iload_n 1, 1), (35, .iconst 1, 1), (36, .isub, 1), (37, .invokestatic 495, 3), (40, .if_icmp .eq 5, 3), (45, .aload_n 0, 1), (46, .aload_n 0, 1), (47, .getfield 349, 3), (50, .putfield 499, 3), (53, .aload_n 0, 1), (54, .aload_n 0, 1), (55, .getfield 352, 3), (58, .putfield 502, 3), (61, .aload_n 0, 1), (62, .aload_n 0, 1), (63, .getfield 355, 3)] = true := by decide +kernel
theorem dX12_on_0 : decode cX12_on 0 = .ok (.aload_n 0, 1) := lw_dr lw_d_cX12_on_0 0 rfl
theorem dX12_on_1 : decode cX12_on 1 = .ok (.getfield 148, 3) := lw_dr lw_d_cX12_on_0 1 rfl
theorem dX12_on_4 : decode cX12_on 4 = .ok (.istore_n 1, 1) := lw_dr lw_d_cX12_on_0 2 rfl
theorem dX12_on_5 : decode cX12_on 5 = .ok (.aload_n 0, 1) := lw_dr lw_d_cX12_on_0 3 rfl
theorem dX12_on_6 : decode cX12_on 6 = .ok (.iconst 0, 1) := lw_dr lw_d_cX12_on_0 4 rfl
theorem dX12_on_7 : decode cX12_on 7 = .ok (.putfield 148, 3) := lw_dr lw_d_cX12_on_0 5 rfl
theorem dX12_on_10 : decode cX12_on 10 = .ok (.iload_n 1, 1) := lw_dr lw_d_cX12_on_0 6 rfl
theorem dX12_on_11 : decode cX12_on 11 = .ok (.iconst 2, 1) := lw_dr lw_d_cX12_on_0 7 rfl
theorem dX12_on_12 : decode cX12_on 12 = .ok (.aload_n 0, 1) := lw_dr lw_d_cX12_on_0 8 rfl
theorem dX12_on_13 : decode cX12_on 13 = .ok (.getfield 240, 3) := lw_dr lw_d_cX12_on_0 9 rfl
theorem dX12_on_16 : decode cX12_on 16 = .ok (.imul, 1) := lw_dr lw_d_cX12_on_0 10 rfl
theorem dX12_on_17 : decode cX12_on 17 = .ok (.iconst 2, 1) := lw_dr lw_d_cX12_on_0 11 rfl
theorem dX12_on_18 : decode cX12_on 18 = .ok (.iadd, 1) := lw_dr lw_d_cX12_on_0 12 rfl
theorem dX12_on_19 : decode cX12_on 19 = .ok (.if_icmp .ne 24, 3) := lw_dr lw_d_cX12_on_0 13 rfl
theorem dX12_on_43 : decode cX12_on 43 = .ok (.iconst 0, 1) := lw_dr lw_d_cX12_on_0 14 rfl
theorem dX12_on_44 : decode cX12_on 44 = .ok (.ireturn, 1) := lw_dr lw_d_cX12_on_0 15 rfl
theorem dX12_on_22 : decode cX12_on 22 = .ok (.aload_n 0, 1) := lw_dr lw_d_cX12_on_0 16 rfl
theorem dX12_on_23 : decode cX12_on 23 = .ok (.getfield 7, 3) := lw_dr lw_d_cX12_on_0 17 rfl
theorem dX12_on_26 : decode cX12_on 26 = .ok (.iload_n 1, 1) := lw_dr lw_d_cX12_on_0 18 rfl
theorem dX12_on_27 : decode cX12_on 27 = .ok (.iconst 1, 1) := lw_dr lw_d_cX12_on_0 19 rfl
theorem dX12_on_28 : decode cX12_on 28 = .ok (.isub, 1) := lw_dr lw_d_cX12_on_0 20 rfl
theorem dX12_on_29 : decode cX12_on 29 = .ok (.iaload, 1) := lw_dr lw_d_cX12_on_0 21 rfl
theorem dX12_on_30 : decode cX12_on 30 = .ok (.aload_n 0, 1) := lw_dr lw_d_cX12_on_0 22 rfl
theorem dX12_on_31 : decode cX12_on 31 = .ok (.getfield 7, 3) := lw_dr lw_d_cX12_on_0 23 rfl
theorem dX12_on_34 : decode cX12_on 34 = .ok (.iload_n 1, 1) := lw_dr lw_d_cX12_on_0 24 rfl
theorem dX12_on_35 : decode cX12_on 35 = .ok (.iconst 1, 1) := lw_dr lw_d_cX12_on_0 25 rfl
theorem dX12_on_36 : decode cX12_on 36 = .ok (.isub, 1) := lw_dr lw_d_cX12_on_0 26 rfl
theorem dX12_on_37 : decode cX12_on 37 = .ok (.invokestatic 495, 3) := lw_dr lw_d_cX12_on_0 27 rfl
theorem dX12_on_40 : decode cX12_on 40 = .ok (.if_icmp .eq 5, 3) := lw_dr lw_d_cX12_on_0 28 rfl
theorem dX12_on_45 : decode cX12_on 45 = .ok (.aload_n 0, 1) := lw_dr lw_d_cX12_on_0 29 rfl
theorem dX12_on_46 : decode cX12_on 46 = .ok (.aload_n 0, 1) := lw_dr lw_d_cX12_on_0 30 rfl
theorem dX12_on_47 : decode cX12_on 47 = .ok (.getfield 349, 3) := lw_dr lw_d_cX12_on_0 31 rfl
theorem dX12_on_50 : decode cX12_on 50 = .ok (.putfield 499, 3) := lw_dr lw_d_cX12_on_0 32 rfl
theorem dX12_on_53 : decode cX12_on 53 = .ok (.aload_n 0, 1) := lw_dr lw_d_cX12_on_0 33 rfl
theorem dX12_on_54 : decode cX12_on 54 = .ok (.aload_n 0, 1) := lw_dr lw_d_cX12_on_0 34 rfl
theorem dX12_on_55 : decode cX12_on 55 = .ok (.getfield 352, 3) := lw_dr lw_d_cX12_on_0 35 rfl
theorem dX12_on_58 : decode cX12_on 58 = .ok (.putfield 502, 3) := lw_dr lw_d_cX12_on_0 36 rfl
theorem dX12_on_61 : decode cX12_on 61 = .ok (.aload_n 0, 1) := lw_dr lw_d_cX12_on_0 37 rfl
theorem dX12_on_62 : decode cX12_on 62 = .ok (.aload_n 0, 1) := lw_dr lw_d_cX12_on_0 38 rfl
theorem dX12_on_63 : decode cX12_on 63 = .ok (.getfield 355, 3) := lw_dr lw_d_cX12_on_0 39 rfl
theorem lw_d_cX12_on_66 : lw_dl cX12_on [(66, .putfield 505, 3), (69, .aload_n 0, 1), (70, .aload_n 0, 1), (71, .getfield 7, 3), (74, .iload_n 1, 1), (75, .iconst 2, 1), (76, .isub, 1), (77, .iaload, 1), (78, .invokevirtual 508, 3), (81, .ifCond .ne 9, 3), (90, .iconst 0, 1), (91, .istore_n 2, 1), (92, .iload_n 2, 1), (93, .aload_n 0, 1), (94, .getfield 240, 3), (97, .if_icmp .ge 55, 3), (152, .iconst 1, 1), (153, .ireturn, 1), (100, .sipush 256, 3), (103, .aload_n 0, 1), (104, .getfield 7, 3), (107, .iconst 2, 1), (108, .iload_n 2, 1), (109, .imul, 1), (110, .iaload, 1), (111, .imul, 1), (112, .aload_n 0, 1), (113, .getfield 7, 3), (116, .iconst 2, 1), (117, .iload_n 2, 1), (118, .imul, 1), (119, .iconst 1, 1), (120, .iadd, 1), (121, .iaload, 1), (122, .iadd, 1), (123, .istore_n 3, 1), (124, .aload_n 0, 1), (125, .getfield 100, 3), (128, .iload_n 2, 1), (129, .iload_n 3, 1)] = true := by decide +kernel
theorem dX12_on_66 : decode cX12_on 66 = .ok (.putfield 505, 3) := lw_dr lw_d_cX12_on_66 0 rfl
theorem dX12_on_69 : decode cX12_on 69 = .ok (.aload_n 0, 1) := lw_dr lw_d_cX12_on_66 1 rfl
theorem dX12_on_70 : decode cX12_on 70 = .ok (.aload_n 0, 1) := lw_dr lw_d_cX12_on_66 2 rfl
theorem dX12_on_71 : decode cX12_on 71 = .ok (.getfield 7, 3) := lw_dr lw_d_cX12_on_66 3 rfl
theorem dX12_on_74 : decode cX12_on 74 = .ok (.iload_n 1, 1) := lw_dr lw_d_cX12_on_66 4 rfl
theorem dX12_on_75 : decode cX12_on 75 = .ok (.iconst 2, 1) := lw_dr lw_d_cX12_on_66 5 rfl
theorem dX12_on_76 : decode cX12_on 76 = .ok (.isub, 1) := lw_dr lw_d_cX12_on_66 6 rfl
theorem dX12_on_77 : decode cX12_on 77 = .ok (.iaload, 1) := lw_dr lw_d_cX12_on_66 7 rfl
theorem dX12_on_78 : decode cX12_on 78 = .ok (.invokevirtual 508, 3) := lw_dr lw_d_cX12_on_66 8 rfl
theorem dX12_on_81 : decode cX12_on 81 = .ok (.ifCond .ne 9, 3) := lw_dr lw_d_cX12_on_66 9 rfl
theorem dX12_on_90 : decode cX12_on 90 = .ok (.iconst 0, 1) := lw_dr lw_d_cX12_on_66 10 rfl
theorem dX12_on_91 : decode cX12_on 91 = .ok (.istore_n 2, 1) := lw_dr lw_d_cX12_on_66 11 rfl
theorem dX12_on_92 : decode cX12_on 92 = .ok (.iload_n 2, 1) := lw_dr lw_d_cX12_on_66 12 rfl
theorem dX12_on_93 : decode cX12_on 93 = .ok (.aload_n 0, 1) := lw_dr lw_d_cX12_on_66 13 rfl
theorem dX12_on_94 : decode cX12_on 94 = .ok (.getfield 240, 3) := lw_dr lw_d_cX12_on_66 14 rfl
theorem dX12_on_97 : decode cX12_on 97 = .ok (.if_icmp .ge 55, 3) := lw_dr lw_d_cX12_on_66 15 rfl
theorem dX12_on_152 : decode cX12_on 152 = .ok (.iconst 1, 1) := lw_dr lw_d_cX12_on_66 16 rfl
theorem dX12_on_153 : decode cX12_on 153 = .ok (.ireturn, 1) := lw_dr lw_d_cX12_on_66 17 rfl
theorem dX12_on_100 : decode cX12_on 100 = .ok (.sipush 256, 3) := lw_dr lw_d_cX12_on_66 18 rfl
theorem dX12_on_103 : decode cX12_on 103 = .ok (.aload_n 0, 1) := lw_dr lw_d_cX12_on_66 19 rfl
theorem dX12_on_104 : decode cX12_on 104 = .ok (.getfield 7, 3) := lw_dr lw_d_cX12_on_66 20 rfl
theorem dX12_on_107 : decode cX12_on 107 = .ok (.iconst 2, 1) := lw_dr lw_d_cX12_on_66 21 rfl
theorem dX12_on_108 : decode cX12_on 108 = .ok (.iload_n 2, 1) := lw_dr lw_d_cX12_on_66 22 rfl
theorem dX12_on_109 : decode cX12_on 109 = .ok (.imul, 1) := lw_dr lw_d_cX12_on_66 23 rfl
theorem dX12_on_110 : decode cX12_on 110 = .ok (.iaload, 1) := lw_dr lw_d_cX12_on_66 24 rfl
theorem dX12_on_111 : decode cX12_on 111 = .ok (.imul, 1) := lw_dr lw_d_cX12_on_66 25 rfl
theorem dX12_on_112 : decode cX12_on 112 = .ok (.aload_n 0, 1) := lw_dr lw_d_cX12_on_66 26 rfl
theorem dX12_on_113 : decode cX12_on 113 = .ok (.getfield 7, 3) := lw_dr lw_d_cX12_on_66 27 rfl
theorem dX12_on_116 : decode cX12_on 116 = .ok (.iconst 2, 1) := lw_dr lw_d_cX12_on_66 28 rfl
theorem dX12_on_117 : decode cX12_on 117 = .ok (.iload_n 2, 1) := lw_dr lw_d_cX12_on_66 29 rfl
theorem dX12_on_118 : decode cX12_on 118 = .ok (.imul, 1) := lw_dr lw_d_cX12_on_66 30 rfl
theorem dX12_on_119 : decode cX12_on 119 = .ok (.iconst 1, 1) := lw_dr lw_d_cX12_on_66 31 rfl
theorem dX12_on_120 : decode cX12_on 120 = .ok (.iadd, 1) := lw_dr lw_d_cX12_on_66 32 rfl
theorem dX12_on_121 : decode cX12_on 121 = .ok (.iaload, 1) := lw_dr lw_d_cX12_on_66 33 rfl
theorem dX12_on_122 : decode cX12_on 122 = .ok (.iadd, 1) := lw_dr lw_d_cX12_on_66 34 rfl
theorem dX12_on_123 : decode cX12_on 123 = .ok (.istore_n 3, 1) := lw_dr lw_d_cX12_on_66 35 rfl
theorem dX12_on_124 : decode cX12_on 124 = .ok (.aload_n 0, 1) := lw_dr lw_d_cX12_on_66 36 rfl
theorem dX12_on_125 : decode cX12_on 125 = .ok (.getfield 100, 3) := lw_dr lw_d_cX12_on_66 37 rfl
theorem dX12_on_128 : decode cX12_on 128 = .ok (.iload_n 2, 1) := lw_dr lw_d_cX12_on_66 38 rfl
theorem dX12_on_129 : decode cX12_on 129 = .ok (.iload_n 3, 1) := lw_dr lw_d_cX12_on_66 39 rfl
theorem lw_d_cX12_on_130 : lw_dl cX12_on [(130, .sipush 32767, 3), (133, .if_icmp .le 11, 3), (144, .iload_n 3, 1), (145, .iastore, 1), (146, .iinc 2 1, 3), (149, .goto (-57), 3), (136, .iload_n 3, 1), (137, .ldc_w 370, 3), (140, .isub, 1), (141, .goto 4, 3), (84, .aload_n 0, 1), (85, .invokevirtual 511, 3), (88, .iconst 0, 1), (89, .ireturn, 1)] = true := by decide +kernel
theorem dX12_on_130 : decode cX12_on 130 = .ok (.sipush 32767, 3) := lw_dr lw_d_cX12_on_130 0 rfl
theorem dX12_on_133 : decode cX12_on 133 = .ok (.if_icmp .le 11, 3) := lw_dr lw_d_cX12_on_130 1 rfl
theorem dX12_on_144 : decode cX12_on 144 = .ok (.iload_n 3, 1) := lw_dr lw_d_cX12_on_130 2 rfl
theorem dX12_on_145 : decode cX12_on 145 = .ok (.iastore, 1) := lw_dr lw_d_cX12_on_130 3 rfl
theorem dX12_on_146 : decode cX12_on 146 = .ok (.iinc 2 1, 3) := lw_dr lw_d_cX12_on_130 4 rfl
theorem dX12_on_149 : decode cX12_on 149 = .ok (.goto (-57), 3) := lw_dr lw_d_cX12_on_130 5 rfl
theorem dX12_on_136 : decode cX12_on 136 = .ok (.iload_n 3, 1) := lw_dr lw_d_cX12_on_130 6 rfl
theorem dX12_on_137 : decode cX12_on 137 = .ok (.ldc_w 370, 3) := lw_dr lw_d_cX12_on_130 7 rfl
theorem dX12_on_140 : decode cX12_on 140 = .ok (.isub, 1) := lw_dr lw_d_cX12_on_130 8 rfl
theorem dX12_on_141 : decode cX12_on 141 = .ok (.goto 4, 3) := lw_dr lw_d_cX12_on_130 9 rfl
theorem dX12_on_84 : decode cX12_on 84 = .ok (.aload_n 0, 1) := lw_dr lw_d_cX12_on_130 10 rfl
theorem dX12_on_85 : decode cX12_on 85 = .ok (.invokevirtual 511, 3) := lw_dr lw_d_cX12_on_130 11 rfl
theorem dX12_on_88 : decode cX12_on 88 = .ok (.iconst 0, 1) := lw_dr lw_d_cX12_on_130 12 rfl
theorem dX12_on_89 : decode cX12_on 89 = .ok (.ireturn, 1) := lw_dr lw_d_cX12_on_130 13 rfl
theorem lw_d_cX12_canLead_0 : lw_dl cX12_canLead [(0, .aload_n 0, 1), (1, .invokevirtual 249, 3), (4, .aload_n 0, 1), (5, .getfield 349, 3), (8, .iload_n 1, 1), (9, .if_icmp .ge 35, 3), (44, .aload_n 0, 1), (45, .getfield 349, 3), (48, .iload_n 1, 1), (49, .if_icmp .ne 7, 3), (56, .iconst 0, 1), (57, .ireturn, 1), (52, .iconst 1, 1), (53, .goto 4, 3), (12, .aload_n 0, 1), (13, .invokevirtual 442, 3), (16, .ifCond .eq 28, 3), (19, .aload_n 0, 1), (20, .aload_n 0, 1), (21, .getfield 349, 3), (24, .bipush 40, 2), (26, .if_icmp .ge 10, 3), (36, .bipush 40, 2), (38, .putfield 352, 3), (41, .goto (-37), 3), (29, .aload_n 0, 1), (30, .getfield 349, 3), (33, .goto 5, 3)] = true := by decide +kernel
theorem dX12_canLead_0 : decode cX12_canLead 0 = .ok (.aload_n 0, 1) := lw_dr lw_d_cX12_canLead_0 0 rfl
theorem dX12_canLead_1 : decode cX12_canLead 1 = .ok (.invokevirtual 249, 3) := lw_dr lw_d_cX12_canLead_0 1 rfl
theorem dX12_canLead_4 : decode cX12_canLead 4 = .ok (.aload_n 0, 1) := lw_dr lw_d_cX12_canLead_0 2 rfl
theorem dX12_canLead_5 : decode cX12_canLead 5 = .ok (.getfield 349, 3) := lw_dr lw_d_cX12_canLead_0 3 rfl
theorem dX12_canLead_8 : decode cX12_canLead 8 = .ok (.iload_n 1, 1) := lw_dr lw_d_cX12_canLead_0 4 rfl
theorem dX12_canLead_9 : decode cX12_canLead 9 = .ok (.if_icmp .ge 35, 3) := lw_dr lw_d_cX12_canLead_0 5 rfl
theorem dX12_canLead_44 : decode cX12_canLead 44 = .ok (.aload_n 0, 1) := lw_dr lw_d_cX12_canLead_0 6 rfl
theorem dX12_canLead_45 : decode cX12_canLead 45 = .ok (.getfield 349, 3) := lw_dr lw_d_cX12_canLead_0 7 rfl
theorem dX12_canLead_48 : decode cX12_canLead 48 = .ok (.iload_n 1, 1) := lw_dr lw_d_cX12_canLead_0 8 rfl
theorem dX12_canLead_49 : decode cX12_canLead 49 = .ok (.if_icmp .ne 7, 3) := lw_dr lw_d_cX12_canLead_0 9 rfl
theorem dX12_canLead_56 : decode cX12_canLead 56 = .ok (.iconst 0, 1) := lw_dr lw_d_cX12_canLead_0 10 rfl
theorem dX12_canLead_57 : decode cX12_canLead 57 = .ok (.ireturn, 1) := lw_dr lw_d_cX12_canLead_0 11 rfl
theorem dX12_canLead_52 : decode cX12_canLead 52 = .ok (.iconst 1, 1) := lw_dr lw_d_cX12_canLead_0 12 rfl
theorem dX12_canLead_53 : decode cX12_canLead 53 = .ok (.goto 4, 3) := lw_dr lw_d_cX12_canLead_0 13 rfl
theorem dX12_canLead_12 : decode cX12_canLead 12 = .ok (.aload_n 0, 1) := lw_dr lw_d_cX12_canLead_0 14 rfl
theorem dX12_canLead_13 : decode cX12_canLead 13 = .ok (.invokevirtual 442, 3) := lw_dr lw_d_cX12_canLead_0 15 rfl
theorem dX12_canLead_16 : decode cX12_canLead 16 = .ok (.ifCond .eq 28, 3) := lw_dr lw_d_cX12_canLead_0 16 rfl
theorem dX12_canLead_19 : decode cX12_canLead 19 = .ok (.aload_n 0, 1) := lw_dr lw_d_cX12_canLead_0 17 rfl
theorem dX12_canLead_20 : decode cX12_canLead 20 = .ok (.aload_n 0, 1) := lw_dr lw_d_cX12_canLead_0 18 rfl
theorem dX12_canLead_21 : decode cX12_canLead 21 = .ok (.getfield 349, 3) := lw_dr lw_d_cX12_canLead_0 19 rfl
theorem dX12_canLead_24 : decode cX12_canLead 24 = .ok (.bipush 40, 2) := lw_dr lw_d_cX12_canLead_0 20 rfl
theorem dX12_canLead_26 : decode cX12_canLead 26 = .ok (.if_icmp .ge 10, 3) := lw_dr lw_d_cX12_canLead_0 21 rfl
theorem dX12_canLead_36 : decode cX12_canLead 36 = .ok (.bipush 40, 2) := lw_dr lw_d_cX12_canLead_0 22 rfl
theorem dX12_canLead_38 : decode cX12_canLead 38 = .ok (.putfield 352, 3) := lw_dr lw_d_cX12_canLead_0 23 rfl
theorem dX12_canLead_41 : decode cX12_canLead 41 = .ok (.goto (-37), 3) := lw_dr lw_d_cX12_canLead_0 24 rfl
theorem dX12_canLead_29 : decode cX12_canLead 29 = .ok (.aload_n 0, 1) := lw_dr lw_d_cX12_canLead_0 25 rfl
theorem dX12_canLead_30 : decode cX12_canLead 30 = .ok (.getfield 349, 3) := lw_dr lw_d_cX12_canLead_0 26 rfl
theorem dX12_canLead_33 : decode cX12_canLead 33 = .ok (.goto 5, 3) := lw_dr lw_d_cX12_canLead_0 27 rfl
theorem lw_d_cX12_takesBack_0 : lw_dl cX12_takesBack [(0, .aload_n 0, 1), (1, .getfield 499, 3), (4, .aload_n 0, 1), (5, .getfield 505, 3), (8, .iadd, 1), (9, .istore_n 1, 1), (10, .aload_n 0, 1), (11, .iload_n 1, 1), (12, .invokevirtual 508, 3), (15, .istore_n 2, 1), (16, .aload_n 0, 1), (17, .getfield 349, 3), (20, .aload_n 0, 1), (21, .getfield 499, 3), (24, .if_icmp .le 48, 3), (72, .aload_n 0, 1), (73, .aload_n 0, 1), (74, .getfield 502, 3), (77, .putfield 352, 3), (80, .aload_n 0, 1), (81, .aload_n 0, 1), (82, .getfield 505, 3), (85, .putfield 355, 3), (88, .return_, 1), (27, .aload_n 0, 1), (28, .dup, 1), (29, .getfield 349, 3), (32, .iconst 1, 1), (33, .isub, 1), (34, .putfield 349, 3), (37, .aload_n 0, 1), (38, .aload_n 0, 1), (39, .getfield 124, 3), (42, .aload_n 0, 1), (43, .getfield 349, 3), (46, .iaload, 1), (47, .aload_n 0, 1), (48, .getfield 127, 3), (51, .aload_n 0, 1), (52, .getfield 349, 3)] = true := by decide +kernel
theorem dX12_takesBack_0 : decode cX12_takesBack 0 = .ok (.aload_n 0, 1) := lw_dr lw_d_cX12_takesBack_0 0 rfl
theorem dX12_takesBack_1 : decode cX12_takesBack 1 = .ok (.getfield 499, 3) := lw_dr lw_d_cX12_takesBack_0 1 rfl
theorem dX12_takesBack_4 : decode cX12_takesBack 4 = .ok (.aload_n 0, 1) := lw_dr lw_d_cX12_takesBack_0 2 rfl
theorem dX12_takesBack_5 : decode cX12_takesBack 5 = .ok (.getfield 505, 3) := lw_dr lw_d_cX12_takesBack_0 3 rfl
theorem dX12_takesBack_8 : decode cX12_takesBack 8 = .ok (.iadd, 1) := lw_dr lw_d_cX12_takesBack_0 4 rfl
theorem dX12_takesBack_9 : decode cX12_takesBack 9 = .ok (.istore_n 1, 1) := lw_dr lw_d_cX12_takesBack_0 5 rfl
theorem dX12_takesBack_10 : decode cX12_takesBack 10 = .ok (.aload_n 0, 1) := lw_dr lw_d_cX12_takesBack_0 6 rfl
theorem dX12_takesBack_11 : decode cX12_takesBack 11 = .ok (.iload_n 1, 1) := lw_dr lw_d_cX12_takesBack_0 7 rfl
theorem dX12_takesBack_12 : decode cX12_takesBack 12 = .ok (.invokevirtual 508, 3) := lw_dr lw_d_cX12_takesBack_0 8 rfl
theorem dX12_takesBack_15 : decode cX12_takesBack 15 = .ok (.istore_n 2, 1) := lw_dr lw_d_cX12_takesBack_0 9 rfl
theorem dX12_takesBack_16 : decode cX12_takesBack 16 = .ok (.aload_n 0, 1) := lw_dr lw_d_cX12_takesBack_0 10 rfl
theorem dX12_takesBack_17 : decode cX12_takesBack 17 = .ok (.getfield 349, 3) := lw_dr lw_d_cX12_takesBack_0 11 rfl
theorem dX12_takesBack_20 : decode cX12_takesBack 20 = .ok (.aload_n 0, 1) := lw_dr lw_d_cX12_takesBack_0 12 rfl
theorem dX12_takesBack_21 : decode cX12_takesBack 21 = .ok (.getfield 499, 3) := lw_dr lw_d_cX12_takesBack_0 13 rfl
theorem dX12_takesBack_24 : decode cX12_takesBack 24 = .ok (.if_icmp .le 48, 3) := lw_dr lw_d_cX12_takesBack_0 14 rfl
theorem dX12_takesBack_72 : decode cX12_takesBack 72 = .ok (.aload_n 0, 1) := lw_dr lw_d_cX12_takesBack_0 15 rfl
theorem dX12_takesBack_73 : decode cX12_takesBack 73 = .ok (.aload_n 0, 1) := lw_dr lw_d_cX12_takesBack_0 16 rfl
theorem dX12_takesBack_74 : decode cX12_takesBack 74 = .ok (.getfield 502, 3) := lw_dr lw_d_cX12_takesBack_0 17 rfl
theorem dX12_takesBack_77 : decode cX12_takesBack 77 = .ok (.putfield 352, 3) := lw_dr lw_d_cX12_takesBack_0 18 rfl
theorem dX12_takesBack_80 : decode cX12_takesBack 80 = .ok (.aload_n 0, 1) := lw_dr lw_d_cX12_takesBack_0 19 rfl
theorem dX12_takesBack_81 : decode cX12_takesBack 81 = .ok (.aload_n 0, 1) := lw_dr lw_d_cX12_takesBack_0 20 rfl
theorem dX12_takesBack_82 : decode cX12_takesBack 82 = .ok (.getfield 505, 3) := lw_dr lw_d_cX12_takesBack_0 21 rfl
theorem dX12_takesBack_85 : decode cX12_takesBack 85 = .ok (.putfield 355, 3) := lw_dr lw_d_cX12_takesBack_0 22 rfl
theorem dX12_takesBack_88 : decode cX12_takesBack 88 = .ok (.return_, 1) := lw_dr lw_d_cX12_takesBack_0 23 rfl
theorem dX12_takesBack_27 : decode cX12_takesBack 27 = .ok (.aload_n 0, 1) := lw_dr lw_d_cX12_takesBack_0 24 rfl
theorem dX12_takesBack_28 : decode cX12_takesBack 28 = .ok (.dup, 1) := lw_dr lw_d_cX12_takesBack_0 25 rfl
theorem dX12_takesBack_29 : decode cX12_takesBack 29 = .ok (.getfield 349, 3) := lw_dr lw_d_cX12_takesBack_0 26 rfl
theorem dX12_takesBack_32 : decode cX12_takesBack 32 = .ok (.iconst 1, 1) := lw_dr lw_d_cX12_takesBack_0 27 rfl
theorem dX12_takesBack_33 : decode cX12_takesBack 33 = .ok (.isub, 1) := lw_dr lw_d_cX12_takesBack_0 28 rfl
theorem dX12_takesBack_34 : decode cX12_takesBack 34 = .ok (.putfield 349, 3) := lw_dr lw_d_cX12_takesBack_0 29 rfl
theorem dX12_takesBack_37 : decode cX12_takesBack 37 = .ok (.aload_n 0, 1) := lw_dr lw_d_cX12_takesBack_0 30 rfl
theorem dX12_takesBack_38 : decode cX12_takesBack 38 = .ok (.aload_n 0, 1) := lw_dr lw_d_cX12_takesBack_0 31 rfl
theorem dX12_takesBack_39 : decode cX12_takesBack 39 = .ok (.getfield 124, 3) := lw_dr lw_d_cX12_takesBack_0 32 rfl
theorem dX12_takesBack_42 : decode cX12_takesBack 42 = .ok (.aload_n 0, 1) := lw_dr lw_d_cX12_takesBack_0 33 rfl
theorem dX12_takesBack_43 : decode cX12_takesBack 43 = .ok (.getfield 349, 3) := lw_dr lw_d_cX12_takesBack_0 34 rfl
theorem dX12_takesBack_46 : decode cX12_takesBack 46 = .ok (.iaload, 1) := lw_dr lw_d_cX12_takesBack_0 35 rfl
theorem dX12_takesBack_47 : decode cX12_takesBack 47 = .ok (.aload_n 0, 1) := lw_dr lw_d_cX12_takesBack_0 36 rfl
theorem dX12_takesBack_48 : decode cX12_takesBack 48 = .ok (.getfield 127, 3) := lw_dr lw_d_cX12_takesBack_0 37 rfl
theorem dX12_takesBack_51 : decode cX12_takesBack 51 = .ok (.aload_n 0, 1) := lw_dr lw_d_cX12_takesBack_0 38 rfl
theorem dX12_takesBack_52 : decode cX12_takesBack 52 = .ok (.getfield 349, 3) := lw_dr lw_d_cX12_takesBack_0 39 rfl
theorem lw_d_cX12_takesBack_55 : lw_dl cX12_takesBack [(55, .iaload, 1), (56, .aload_n 0, 1), (57, .getfield 130, 3), (60, .aload_n 0, 1), (61, .getfield 349, 3), (64, .iaload, 1), (65, .ineg, 1), (66, .invokevirtual 436, 3), (69, .goto (-53), 3)] = true := by decide +kernel
theorem dX12_takesBack_55 : decode cX12_takesBack 55 = .ok (.iaload, 1) := lw_dr lw_d_cX12_takesBack_55 0 rfl
theorem dX12_takesBack_56 : decode cX12_takesBack 56 = .ok (.aload_n 0, 1) := lw_dr lw_d_cX12_takesBack_55 1 rfl
theorem dX12_takesBack_57 : decode cX12_takesBack 57 = .ok (.getfield 130, 3) := lw_dr lw_d_cX12_takesBack_55 2 rfl
theorem dX12_takesBack_60 : decode cX12_takesBack 60 = .ok (.aload_n 0, 1) := lw_dr lw_d_cX12_takesBack_55 3 rfl
theorem dX12_takesBack_61 : decode cX12_takesBack 61 = .ok (.getfield 349, 3) := lw_dr lw_d_cX12_takesBack_55 4 rfl
theorem dX12_takesBack_64 : decode cX12_takesBack 64 = .ok (.iaload, 1) := lw_dr lw_d_cX12_takesBack_55 5 rfl
theorem dX12_takesBack_65 : decode cX12_takesBack 65 = .ok (.ineg, 1) := lw_dr lw_d_cX12_takesBack_55 6 rfl
theorem dX12_takesBack_66 : decode cX12_takesBack 66 = .ok (.invokevirtual 436, 3) := lw_dr lw_d_cX12_takesBack_55 7 rfl
theorem dX12_takesBack_69 : decode cX12_takesBack 69 = .ok (.goto (-53), 3) := lw_dr lw_d_cX12_takesBack_55 8 rfl
