theorem lw_d_cL_law_228 : lw_dl cL_law [(228, .aload_n 1, 1), (229, .aload_n 0, 1), (230, .iload_n 3, 1), (231, .iconst 1, 1), (232, .iadd, 1), (233, .iaload, 1), (234, .aload_n 0, 1), (235, .iload_n 3, 1), (236, .iconst 2, 1), (237, .iadd, 1), (238, .iaload, 1), (239, .aload_n 0, 1), (240, .iload_n 3, 1), (241, .iconst 3, 1), (242, .iadd, 1), (243, .iaload, 1), (244, .aload_n 0, 1), (245, .iload_n 3, 1), (246, .iconst 4, 1), (247, .iadd, 1), (248, .iaload, 1), (249, .aload_n 0, 1), (250, .iload_n 3, 1), (251, .iconst 5, 1), (252, .iadd, 1), (253, .iaload, 1), (254, .invokevirtual 13, 3), (257, .pop, 1), (258, .aload_n 2, 1), (259, .aload_n 0, 1), (260, .iload_n 3, 1), (261, .iconst 1, 1), (262, .iadd, 1), (263, .iaload, 1), (264, .aload_n 0, 1), (265, .iload_n 3, 1), (266, .iconst 2, 1), (267, .iadd, 1), (268, .iaload, 1), (269, .aload_n 0, 1)] = true := by decide +kernel
theorem dL_law_228 : decode cL_law 228 = .ok (.aload_n 1, 1) := lw_dr lw_d_cL_law_228 0 rfl
theorem dL_law_229 : decode cL_law 229 = .ok (.aload_n 0, 1) := lw_dr lw_d_cL_law_228 1 rfl
theorem dL_law_230 : decode cL_law 230 = .ok (.iload_n 3, 1) := lw_dr lw_d_cL_law_228 2 rfl
theorem dL_law_231 : decode cL_law 231 = .ok (.iconst 1, 1) := lw_dr lw_d_cL_law_228 3 rfl
theorem dL_law_232 : decode cL_law 232 = .ok (.iadd, 1) := lw_dr lw_d_cL_law_228 4 rfl
theorem dL_law_233 : decode cL_law 233 = .ok (.iaload, 1) := lw_dr lw_d_cL_law_228 5 rfl
theorem dL_law_234 : decode cL_law 234 = .ok (.aload_n 0, 1) := lw_dr lw_d_cL_law_228 6 rfl
theorem dL_law_235 : decode cL_law 235 = .ok (.iload_n 3, 1) := lw_dr lw_d_cL_law_228 7 rfl
theorem dL_law_236 : decode cL_law 236 = .ok (.iconst 2, 1) := lw_dr lw_d_cL_law_228 8 rfl
theorem dL_law_237 : decode cL_law 237 = .ok (.iadd, 1) := lw_dr lw_d_cL_law_228 9 rfl
theorem dL_law_238 : decode cL_law 238 = .ok (.iaload, 1) := lw_dr lw_d_cL_law_228 10 rfl
theorem dL_law_239 : decode cL_law 239 = .ok (.aload_n 0, 1) := lw_dr lw_d_cL_law_228 11 rfl
theorem dL_law_240 : decode cL_law 240 = .ok (.iload_n 3, 1) := lw_dr lw_d_cL_law_228 12 rfl
theorem dL_law_241 : decode cL_law 241 = .ok (.iconst 3, 1) := lw_dr lw_d_cL_law_228 13 rfl
theorem dL_law_242 : decode cL_law 242 = .ok (.iadd, 1) := lw_dr lw_d_cL_law_228 14 rfl
theorem dL_law_243 : decode cL_law 243 = .ok (.iaload, 1) := lw_dr lw_d_cL_law_228 15 rfl
theorem dL_law_244 : decode cL_law 244 = .ok (.aload_n 0, 1) := lw_dr lw_d_cL_law_228 16 rfl
theorem dL_law_245 : decode cL_law 245 = .ok (.iload_n 3, 1) := lw_dr lw_d_cL_law_228 17 rfl
theorem dL_law_246 : decode cL_law 246 = .ok (.iconst 4, 1) := lw_dr lw_d_cL_law_228 18 rfl
theorem dL_law_247 : decode cL_law 247 = .ok (.iadd, 1) := lw_dr lw_d_cL_law_228 19 rfl
theorem dL_law_248 : decode cL_law 248 = .ok (.iaload, 1) := lw_dr lw_d_cL_law_228 20 rfl
theorem dL_law_249 : decode cL_law 249 = .ok (.aload_n 0, 1) := lw_dr lw_d_cL_law_228 21 rfl
theorem dL_law_250 : decode cL_law 250 = .ok (.iload_n 3, 1) := lw_dr lw_d_cL_law_228 22 rfl
theorem dL_law_251 : decode cL_law 251 = .ok (.iconst 5, 1) := lw_dr lw_d_cL_law_228 23 rfl
theorem dL_law_252 : decode cL_law 252 = .ok (.iadd, 1) := lw_dr lw_d_cL_law_228 24 rfl
theorem dL_law_253 : decode cL_law 253 = .ok (.iaload, 1) := lw_dr lw_d_cL_law_228 25 rfl
theorem dL_law_254 : decode cL_law 254 = .ok (.invokevirtual 13, 3) := lw_dr lw_d_cL_law_228 26 rfl
theorem dL_law_257 : decode cL_law 257 = .ok (.pop, 1) := lw_dr lw_d_cL_law_228 27 rfl
theorem dL_law_258 : decode cL_law 258 = .ok (.aload_n 2, 1) := lw_dr lw_d_cL_law_228 28 rfl
theorem dL_law_259 : decode cL_law 259 = .ok (.aload_n 0, 1) := lw_dr lw_d_cL_law_228 29 rfl
theorem dL_law_260 : decode cL_law 260 = .ok (.iload_n 3, 1) := lw_dr lw_d_cL_law_228 30 rfl
theorem dL_law_261 : decode cL_law 261 = .ok (.iconst 1, 1) := lw_dr lw_d_cL_law_228 31 rfl
theorem dL_law_262 : decode cL_law 262 = .ok (.iadd, 1) := lw_dr lw_d_cL_law_228 32 rfl
theorem dL_law_263 : decode cL_law 263 = .ok (.iaload, 1) := lw_dr lw_d_cL_law_228 33 rfl
theorem dL_law_264 : decode cL_law 264 = .ok (.aload_n 0, 1) := lw_dr lw_d_cL_law_228 34 rfl
theorem dL_law_265 : decode cL_law 265 = .ok (.iload_n 3, 1) := lw_dr lw_d_cL_law_228 35 rfl
theorem dL_law_266 : decode cL_law 266 = .ok (.iconst 2, 1) := lw_dr lw_d_cL_law_228 36 rfl
theorem dL_law_267 : decode cL_law 267 = .ok (.iadd, 1) := lw_dr lw_d_cL_law_228 37 rfl
theorem dL_law_268 : decode cL_law 268 = .ok (.iaload, 1) := lw_dr lw_d_cL_law_228 38 rfl
theorem dL_law_269 : decode cL_law 269 = .ok (.aload_n 0, 1) := lw_dr lw_d_cL_law_228 39 rfl
theorem lw_d_cL_law_270 : lw_dl cL_law [(270, .iload_n 3, 1), (271, .iconst 3, 1), (272, .iadd, 1), (273, .iaload, 1), (274, .aload_n 0, 1), (275, .iload_n 3, 1), (276, .iconst 4, 1), (277, .iadd, 1), (278, .iaload, 1), (279, .aload_n 0, 1), (280, .iload_n 3, 1), (281, .iconst 5, 1), (282, .iadd, 1), (283, .iaload, 1), (284, .invokevirtual 17, 3), (287, .pop, 1), (288, .goto 1231, 3), (291, .aload_n 1, 1), (292, .aload_n 0, 1), (293, .iload_n 3, 1), (294, .iconst 1, 1), (295, .iadd, 1), (296, .iaload, 1), (297, .invokevirtual 18, 3), (300, .pop, 1), (301, .aload_n 2, 1), (302, .aload_n 0, 1), (303, .iload_n 3, 1), (304, .iconst 1, 1), (305, .iadd, 1), (306, .iaload, 1), (307, .invokevirtual 22, 3), (310, .pop, 1), (311, .goto 1208, 3), (314, .aload_n 1, 1), (315, .invokevirtual 23, 3), (318, .pop, 1), (319, .aload_n 2, 1), (320, .invokevirtual 27, 3), (323, .pop, 1)] = true := by decide +kernel
theorem dL_law_270 : decode cL_law 270 = .ok (.iload_n 3, 1) := lw_dr lw_d_cL_law_270 0 rfl
theorem dL_law_271 : decode cL_law 271 = .ok (.iconst 3, 1) := lw_dr lw_d_cL_law_270 1 rfl
theorem dL_law_272 : decode cL_law 272 = .ok (.iadd, 1) := lw_dr lw_d_cL_law_270 2 rfl
theorem dL_law_273 : decode cL_law 273 = .ok (.iaload, 1) := lw_dr lw_d_cL_law_270 3 rfl
theorem dL_law_274 : decode cL_law 274 = .ok (.aload_n 0, 1) := lw_dr lw_d_cL_law_270 4 rfl
theorem dL_law_275 : decode cL_law 275 = .ok (.iload_n 3, 1) := lw_dr lw_d_cL_law_270 5 rfl
theorem dL_law_276 : decode cL_law 276 = .ok (.iconst 4, 1) := lw_dr lw_d_cL_law_270 6 rfl
theorem dL_law_277 : decode cL_law 277 = .ok (.iadd, 1) := lw_dr lw_d_cL_law_270 7 rfl
theorem dL_law_278 : decode cL_law 278 = .ok (.iaload, 1) := lw_dr lw_d_cL_law_270 8 rfl
theorem dL_law_279 : decode cL_law 279 = .ok (.aload_n 0, 1) := lw_dr lw_d_cL_law_270 9 rfl
theorem dL_law_280 : decode cL_law 280 = .ok (.iload_n 3, 1) := lw_dr lw_d_cL_law_270 10 rfl
theorem dL_law_281 : decode cL_law 281 = .ok (.iconst 5, 1) := lw_dr lw_d_cL_law_270 11 rfl
theorem dL_law_282 : decode cL_law 282 = .ok (.iadd, 1) := lw_dr lw_d_cL_law_270 12 rfl
theorem dL_law_283 : decode cL_law 283 = .ok (.iaload, 1) := lw_dr lw_d_cL_law_270 13 rfl
theorem dL_law_284 : decode cL_law 284 = .ok (.invokevirtual 17, 3) := lw_dr lw_d_cL_law_270 14 rfl
theorem dL_law_287 : decode cL_law 287 = .ok (.pop, 1) := lw_dr lw_d_cL_law_270 15 rfl
theorem dL_law_288 : decode cL_law 288 = .ok (.goto 1231, 3) := lw_dr lw_d_cL_law_270 16 rfl
theorem dL_law_291 : decode cL_law 291 = .ok (.aload_n 1, 1) := lw_dr lw_d_cL_law_270 17 rfl
theorem dL_law_292 : decode cL_law 292 = .ok (.aload_n 0, 1) := lw_dr lw_d_cL_law_270 18 rfl
theorem dL_law_293 : decode cL_law 293 = .ok (.iload_n 3, 1) := lw_dr lw_d_cL_law_270 19 rfl
theorem dL_law_294 : decode cL_law 294 = .ok (.iconst 1, 1) := lw_dr lw_d_cL_law_270 20 rfl
theorem dL_law_295 : decode cL_law 295 = .ok (.iadd, 1) := lw_dr lw_d_cL_law_270 21 rfl
theorem dL_law_296 : decode cL_law 296 = .ok (.iaload, 1) := lw_dr lw_d_cL_law_270 22 rfl
theorem dL_law_297 : decode cL_law 297 = .ok (.invokevirtual 18, 3) := lw_dr lw_d_cL_law_270 23 rfl
theorem dL_law_300 : decode cL_law 300 = .ok (.pop, 1) := lw_dr lw_d_cL_law_270 24 rfl
theorem dL_law_301 : decode cL_law 301 = .ok (.aload_n 2, 1) := lw_dr lw_d_cL_law_270 25 rfl
theorem dL_law_302 : decode cL_law 302 = .ok (.aload_n 0, 1) := lw_dr lw_d_cL_law_270 26 rfl
theorem dL_law_303 : decode cL_law 303 = .ok (.iload_n 3, 1) := lw_dr lw_d_cL_law_270 27 rfl
theorem dL_law_304 : decode cL_law 304 = .ok (.iconst 1, 1) := lw_dr lw_d_cL_law_270 28 rfl
theorem dL_law_305 : decode cL_law 305 = .ok (.iadd, 1) := lw_dr lw_d_cL_law_270 29 rfl
theorem dL_law_306 : decode cL_law 306 = .ok (.iaload, 1) := lw_dr lw_d_cL_law_270 30 rfl
theorem dL_law_307 : decode cL_law 307 = .ok (.invokevirtual 22, 3) := lw_dr lw_d_cL_law_270 31 rfl
theorem dL_law_310 : decode cL_law 310 = .ok (.pop, 1) := lw_dr lw_d_cL_law_270 32 rfl
theorem dL_law_311 : decode cL_law 311 = .ok (.goto 1208, 3) := lw_dr lw_d_cL_law_270 33 rfl
theorem dL_law_314 : decode cL_law 314 = .ok (.aload_n 1, 1) := lw_dr lw_d_cL_law_270 34 rfl
theorem dL_law_315 : decode cL_law 315 = .ok (.invokevirtual 23, 3) := lw_dr lw_d_cL_law_270 35 rfl
theorem dL_law_318 : decode cL_law 318 = .ok (.pop, 1) := lw_dr lw_d_cL_law_270 36 rfl
theorem dL_law_319 : decode cL_law 319 = .ok (.aload_n 2, 1) := lw_dr lw_d_cL_law_270 37 rfl
theorem dL_law_320 : decode cL_law 320 = .ok (.invokevirtual 27, 3) := lw_dr lw_d_cL_law_270 38 rfl
theorem dL_law_323 : decode cL_law 323 = .ok (.pop, 1) := lw_dr lw_d_cL_law_270 39 rfl
theorem lw_d_cL_law_324 : lw_dl cL_law [(324, .goto 1195, 3), (327, .aload_n 1, 1), (328, .aload_n 0, 1), (329, .iload_n 3, 1), (330, .iconst 1, 1), (331, .iadd, 1), (332, .iaload, 1), (333, .invokevirtual 28, 3), (336, .pop, 1), (337, .aload_n 2, 1), (338, .aload_n 0, 1), (339, .iload_n 3, 1), (340, .iconst 1, 1), (341, .iadd, 1), (342, .iaload, 1), (343, .invokevirtual 32, 3), (346, .pop, 1), (347, .goto 1172, 3), (350, .aload_n 1, 1), (351, .aload_n 0, 1), (352, .iload_n 3, 1), (353, .iconst 1, 1), (354, .iadd, 1), (355, .iaload, 1), (356, .invokevirtual 33, 3), (359, .pop, 1), (360, .aload_n 2, 1), (361, .aload_n 0, 1), (362, .iload_n 3, 1), (363, .iconst 1, 1), (364, .iadd, 1), (365, .iaload, 1), (366, .invokevirtual 36, 3), (369, .pop, 1), (370, .goto 1149, 3), (373, .aload_n 1, 1), (374, .aload_n 0, 1), (375, .iload_n 3, 1), (376, .iconst 1, 1), (377, .iadd, 1)] = true := by decide +kernel
theorem dL_law_324 : decode cL_law 324 = .ok (.goto 1195, 3) := lw_dr lw_d_cL_law_324 0 rfl
theorem dL_law_327 : decode cL_law 327 = .ok (.aload_n 1, 1) := lw_dr lw_d_cL_law_324 1 rfl
theorem dL_law_328 : decode cL_law 328 = .ok (.aload_n 0, 1) := lw_dr lw_d_cL_law_324 2 rfl
theorem dL_law_329 : decode cL_law 329 = .ok (.iload_n 3, 1) := lw_dr lw_d_cL_law_324 3 rfl
theorem dL_law_330 : decode cL_law 330 = .ok (.iconst 1, 1) := lw_dr lw_d_cL_law_324 4 rfl
theorem dL_law_331 : decode cL_law 331 = .ok (.iadd, 1) := lw_dr lw_d_cL_law_324 5 rfl
theorem dL_law_332 : decode cL_law 332 = .ok (.iaload, 1) := lw_dr lw_d_cL_law_324 6 rfl
theorem dL_law_333 : decode cL_law 333 = .ok (.invokevirtual 28, 3) := lw_dr lw_d_cL_law_324 7 rfl
theorem dL_law_336 : decode cL_law 336 = .ok (.pop, 1) := lw_dr lw_d_cL_law_324 8 rfl
theorem dL_law_337 : decode cL_law 337 = .ok (.aload_n 2, 1) := lw_dr lw_d_cL_law_324 9 rfl
theorem dL_law_338 : decode cL_law 338 = .ok (.aload_n 0, 1) := lw_dr lw_d_cL_law_324 10 rfl
theorem dL_law_339 : decode cL_law 339 = .ok (.iload_n 3, 1) := lw_dr lw_d_cL_law_324 11 rfl
theorem dL_law_340 : decode cL_law 340 = .ok (.iconst 1, 1) := lw_dr lw_d_cL_law_324 12 rfl
theorem dL_law_341 : decode cL_law 341 = .ok (.iadd, 1) := lw_dr lw_d_cL_law_324 13 rfl
theorem dL_law_342 : decode cL_law 342 = .ok (.iaload, 1) := lw_dr lw_d_cL_law_324 14 rfl
theorem dL_law_343 : decode cL_law 343 = .ok (.invokevirtual 32, 3) := lw_dr lw_d_cL_law_324 15 rfl
theorem dL_law_346 : decode cL_law 346 = .ok (.pop, 1) := lw_dr lw_d_cL_law_324 16 rfl
theorem dL_law_347 : decode cL_law 347 = .ok (.goto 1172, 3) := lw_dr lw_d_cL_law_324 17 rfl
theorem dL_law_350 : decode cL_law 350 = .ok (.aload_n 1, 1) := lw_dr lw_d_cL_law_324 18 rfl
theorem dL_law_351 : decode cL_law 351 = .ok (.aload_n 0, 1) := lw_dr lw_d_cL_law_324 19 rfl
theorem dL_law_352 : decode cL_law 352 = .ok (.iload_n 3, 1) := lw_dr lw_d_cL_law_324 20 rfl
theorem dL_law_353 : decode cL_law 353 = .ok (.iconst 1, 1) := lw_dr lw_d_cL_law_324 21 rfl
theorem dL_law_354 : decode cL_law 354 = .ok (.iadd, 1) := lw_dr lw_d_cL_law_324 22 rfl
theorem dL_law_355 : decode cL_law 355 = .ok (.iaload, 1) := lw_dr lw_d_cL_law_324 23 rfl
theorem dL_law_356 : decode cL_law 356 = .ok (.invokevirtual 33, 3) := lw_dr lw_d_cL_law_324 24 rfl
theorem dL_law_359 : decode cL_law 359 = .ok (.pop, 1) := lw_dr lw_d_cL_law_324 25 rfl
theorem dL_law_360 : decode cL_law 360 = .ok (.aload_n 2, 1) := lw_dr lw_d_cL_law_324 26 rfl
theorem dL_law_361 : decode cL_law 361 = .ok (.aload_n 0, 1) := lw_dr lw_d_cL_law_324 27 rfl
theorem dL_law_362 : decode cL_law 362 = .ok (.iload_n 3, 1) := lw_dr lw_d_cL_law_324 28 rfl
theorem dL_law_363 : decode cL_law 363 = .ok (.iconst 1, 1) := lw_dr lw_d_cL_law_324 29 rfl
theorem dL_law_364 : decode cL_law 364 = .ok (.iadd, 1) := lw_dr lw_d_cL_law_324 30 rfl
theorem dL_law_365 : decode cL_law 365 = .ok (.iaload, 1) := lw_dr lw_d_cL_law_324 31 rfl
theorem dL_law_366 : decode cL_law 366 = .ok (.invokevirtual 36, 3) := lw_dr lw_d_cL_law_324 32 rfl
theorem dL_law_369 : decode cL_law 369 = .ok (.pop, 1) := lw_dr lw_d_cL_law_324 33 rfl
theorem dL_law_370 : decode cL_law 370 = .ok (.goto 1149, 3) := lw_dr lw_d_cL_law_324 34 rfl
theorem dL_law_373 : decode cL_law 373 = .ok (.aload_n 1, 1) := lw_dr lw_d_cL_law_324 35 rfl
theorem dL_law_374 : decode cL_law 374 = .ok (.aload_n 0, 1) := lw_dr lw_d_cL_law_324 36 rfl
theorem dL_law_375 : decode cL_law 375 = .ok (.iload_n 3, 1) := lw_dr lw_d_cL_law_324 37 rfl
theorem dL_law_376 : decode cL_law 376 = .ok (.iconst 1, 1) := lw_dr lw_d_cL_law_324 38 rfl
theorem dL_law_377 : decode cL_law 377 = .ok (.iadd, 1) := lw_dr lw_d_cL_law_324 39 rfl
theorem lw_d_cL_law_378 : lw_dl cL_law [(378, .iaload, 1), (379, .aload_n 0, 1), (380, .iload_n 3, 1), (381, .iconst 2, 1), (382, .iadd, 1), (383, .iaload, 1), (384, .aload_n 0, 1), (385, .iload_n 3, 1), (386, .iconst 3, 1), (387, .iadd, 1), (388, .iaload, 1), (389, .ifCond .eq 7, 3), (396, .iconst 0, 1), (397, .invokevirtual 37, 3), (400, .pop, 1), (401, .aload_n 2, 1), (402, .aload_n 0, 1), (403, .iload_n 3, 1), (404, .iconst 1, 1), (405, .iadd, 1), (406, .iaload, 1), (407, .aload_n 0, 1), (408, .iload_n 3, 1), (409, .iconst 2, 1), (410, .iadd, 1), (411, .iaload, 1), (412, .aload_n 0, 1), (413, .iload_n 3, 1), (414, .iconst 3, 1), (415, .iadd, 1), (416, .iaload, 1), (417, .ifCond .eq 7, 3), (424, .iconst 0, 1), (425, .invokevirtual 41, 3), (428, .pop, 1), (429, .goto 1090, 3), (420, .iconst 1, 1), (421, .goto 4, 3), (392, .iconst 1, 1), (393, .goto 4, 3)] = true := by decide +kernel
theorem dL_law_378 : decode cL_law 378 = .ok (.iaload, 1) := lw_dr lw_d_cL_law_378 0 rfl
theorem dL_law_379 : decode cL_law 379 = .ok (.aload_n 0, 1) := lw_dr lw_d_cL_law_378 1 rfl
theorem dL_law_380 : decode cL_law 380 = .ok (.iload_n 3, 1) := lw_dr lw_d_cL_law_378 2 rfl
theorem dL_law_381 : decode cL_law 381 = .ok (.iconst 2, 1) := lw_dr lw_d_cL_law_378 3 rfl
theorem dL_law_382 : decode cL_law 382 = .ok (.iadd, 1) := lw_dr lw_d_cL_law_378 4 rfl
theorem dL_law_383 : decode cL_law 383 = .ok (.iaload, 1) := lw_dr lw_d_cL_law_378 5 rfl
theorem dL_law_384 : decode cL_law 384 = .ok (.aload_n 0, 1) := lw_dr lw_d_cL_law_378 6 rfl
theorem dL_law_385 : decode cL_law 385 = .ok (.iload_n 3, 1) := lw_dr lw_d_cL_law_378 7 rfl
theorem dL_law_386 : decode cL_law 386 = .ok (.iconst 3, 1) := lw_dr lw_d_cL_law_378 8 rfl
theorem dL_law_387 : decode cL_law 387 = .ok (.iadd, 1) := lw_dr lw_d_cL_law_378 9 rfl
theorem dL_law_388 : decode cL_law 388 = .ok (.iaload, 1) := lw_dr lw_d_cL_law_378 10 rfl
theorem dL_law_389 : decode cL_law 389 = .ok (.ifCond .eq 7, 3) := lw_dr lw_d_cL_law_378 11 rfl
theorem dL_law_396 : decode cL_law 396 = .ok (.iconst 0, 1) := lw_dr lw_d_cL_law_378 12 rfl
theorem dL_law_397 : decode cL_law 397 = .ok (.invokevirtual 37, 3) := lw_dr lw_d_cL_law_378 13 rfl
theorem dL_law_400 : decode cL_law 400 = .ok (.pop, 1) := lw_dr lw_d_cL_law_378 14 rfl
theorem dL_law_401 : decode cL_law 401 = .ok (.aload_n 2, 1) := lw_dr lw_d_cL_law_378 15 rfl
theorem dL_law_402 : decode cL_law 402 = .ok (.aload_n 0, 1) := lw_dr lw_d_cL_law_378 16 rfl
theorem dL_law_403 : decode cL_law 403 = .ok (.iload_n 3, 1) := lw_dr lw_d_cL_law_378 17 rfl
theorem dL_law_404 : decode cL_law 404 = .ok (.iconst 1, 1) := lw_dr lw_d_cL_law_378 18 rfl
theorem dL_law_405 : decode cL_law 405 = .ok (.iadd, 1) := lw_dr lw_d_cL_law_378 19 rfl
theorem dL_law_406 : decode cL_law 406 = .ok (.iaload, 1) := lw_dr lw_d_cL_law_378 20 rfl
theorem dL_law_407 : decode cL_law 407 = .ok (.aload_n 0, 1) := lw_dr lw_d_cL_law_378 21 rfl
theorem dL_law_408 : decode cL_law 408 = .ok (.iload_n 3, 1) := lw_dr lw_d_cL_law_378 22 rfl
theorem dL_law_409 : decode cL_law 409 = .ok (.iconst 2, 1) := lw_dr lw_d_cL_law_378 23 rfl
theorem dL_law_410 : decode cL_law 410 = .ok (.iadd, 1) := lw_dr lw_d_cL_law_378 24 rfl
theorem dL_law_411 : decode cL_law 411 = .ok (.iaload, 1) := lw_dr lw_d_cL_law_378 25 rfl
theorem dL_law_412 : decode cL_law 412 = .ok (.aload_n 0, 1) := lw_dr lw_d_cL_law_378 26 rfl
theorem dL_law_413 : decode cL_law 413 = .ok (.iload_n 3, 1) := lw_dr lw_d_cL_law_378 27 rfl
theorem dL_law_414 : decode cL_law 414 = .ok (.iconst 3, 1) := lw_dr lw_d_cL_law_378 28 rfl
theorem dL_law_415 : decode cL_law 415 = .ok (.iadd, 1) := lw_dr lw_d_cL_law_378 29 rfl
theorem dL_law_416 : decode cL_law 416 = .ok (.iaload, 1) := lw_dr lw_d_cL_law_378 30 rfl
theorem dL_law_417 : decode cL_law 417 = .ok (.ifCond .eq 7, 3) := lw_dr lw_d_cL_law_378 31 rfl
theorem dL_law_424 : decode cL_law 424 = .ok (.iconst 0, 1) := lw_dr lw_d_cL_law_378 32 rfl
theorem dL_law_425 : decode cL_law 425 = .ok (.invokevirtual 41, 3) := lw_dr lw_d_cL_law_378 33 rfl
theorem dL_law_428 : decode cL_law 428 = .ok (.pop, 1) := lw_dr lw_d_cL_law_378 34 rfl
theorem dL_law_429 : decode cL_law 429 = .ok (.goto 1090, 3) := lw_dr lw_d_cL_law_378 35 rfl
theorem dL_law_420 : decode cL_law 420 = .ok (.iconst 1, 1) := lw_dr lw_d_cL_law_378 36 rfl
theorem dL_law_421 : decode cL_law 421 = .ok (.goto 4, 3) := lw_dr lw_d_cL_law_378 37 rfl
theorem dL_law_392 : decode cL_law 392 = .ok (.iconst 1, 1) := lw_dr lw_d_cL_law_378 38 rfl
theorem dL_law_393 : decode cL_law 393 = .ok (.goto 4, 3) := lw_dr lw_d_cL_law_378 39 rfl
theorem lw_d_cL_law_432 : lw_dl cL_law [(432, .aload_n 1, 1), (433, .aload_n 0, 1), (434, .iload_n 3, 1), (435, .iconst 1, 1), (436, .iadd, 1), (437, .iaload, 1), (438, .aload_n 0, 1), (439, .iload_n 3, 1), (440, .iconst 2, 1), (441, .iadd, 1), (442, .iaload, 1), (443, .aload_n 0, 1), (444, .iload_n 3, 1), (445, .iconst 3, 1), (446, .iadd, 1), (447, .iaload, 1), (448, .ifCond .eq 7, 3), (455, .iconst 0, 1), (456, .invokevirtual 42, 3), (459, .pop, 1), (460, .aload_n 2, 1), (461, .aload_n 0, 1), (462, .iload_n 3, 1), (463, .iconst 1, 1), (464, .iadd, 1), (465, .iaload, 1), (466, .aload_n 0, 1), (467, .iload_n 3, 1), (468, .iconst 2, 1), (469, .iadd, 1), (470, .iaload, 1), (471, .aload_n 0, 1), (472, .iload_n 3, 1), (473, .iconst 3, 1), (474, .iadd, 1), (475, .iaload, 1), (476, .ifCond .eq 7, 3), (483, .iconst 0, 1), (484, .invokevirtual 45, 3), (487, .pop, 1)] = true := by decide +kernel
theorem dL_law_432 : decode cL_law 432 = .ok (.aload_n 1, 1) := lw_dr lw_d_cL_law_432 0 rfl
theorem dL_law_433 : decode cL_law 433 = .ok (.aload_n 0, 1) := lw_dr lw_d_cL_law_432 1 rfl
theorem dL_law_434 : decode cL_law 434 = .ok (.iload_n 3, 1) := lw_dr lw_d_cL_law_432 2 rfl
theorem dL_law_435 : decode cL_law 435 = .ok (.iconst 1, 1) := lw_dr lw_d_cL_law_432 3 rfl
theorem dL_law_436 : decode cL_law 436 = .ok (.iadd, 1) := lw_dr lw_d_cL_law_432 4 rfl
theorem dL_law_437 : decode cL_law 437 = .ok (.iaload, 1) := lw_dr lw_d_cL_law_432 5 rfl
theorem dL_law_438 : decode cL_law 438 = .ok (.aload_n 0, 1) := lw_dr lw_d_cL_law_432 6 rfl
theorem dL_law_439 : decode cL_law 439 = .ok (.iload_n 3, 1) := lw_dr lw_d_cL_law_432 7 rfl
theorem dL_law_440 : decode cL_law 440 = .ok (.iconst 2, 1) := lw_dr lw_d_cL_law_432 8 rfl
theorem dL_law_441 : decode cL_law 441 = .ok (.iadd, 1) := lw_dr lw_d_cL_law_432 9 rfl
theorem dL_law_442 : decode cL_law 442 = .ok (.iaload, 1) := lw_dr lw_d_cL_law_432 10 rfl
theorem dL_law_443 : decode cL_law 443 = .ok (.aload_n 0, 1) := lw_dr lw_d_cL_law_432 11 rfl
theorem dL_law_444 : decode cL_law 444 = .ok (.iload_n 3, 1) := lw_dr lw_d_cL_law_432 12 rfl
theorem dL_law_445 : decode cL_law 445 = .ok (.iconst 3, 1) := lw_dr lw_d_cL_law_432 13 rfl
theorem dL_law_446 : decode cL_law 446 = .ok (.iadd, 1) := lw_dr lw_d_cL_law_432 14 rfl
theorem dL_law_447 : decode cL_law 447 = .ok (.iaload, 1) := lw_dr lw_d_cL_law_432 15 rfl
theorem dL_law_448 : decode cL_law 448 = .ok (.ifCond .eq 7, 3) := lw_dr lw_d_cL_law_432 16 rfl
theorem dL_law_455 : decode cL_law 455 = .ok (.iconst 0, 1) := lw_dr lw_d_cL_law_432 17 rfl
theorem dL_law_456 : decode cL_law 456 = .ok (.invokevirtual 42, 3) := lw_dr lw_d_cL_law_432 18 rfl
theorem dL_law_459 : decode cL_law 459 = .ok (.pop, 1) := lw_dr lw_d_cL_law_432 19 rfl
theorem dL_law_460 : decode cL_law 460 = .ok (.aload_n 2, 1) := lw_dr lw_d_cL_law_432 20 rfl
theorem dL_law_461 : decode cL_law 461 = .ok (.aload_n 0, 1) := lw_dr lw_d_cL_law_432 21 rfl
theorem dL_law_462 : decode cL_law 462 = .ok (.iload_n 3, 1) := lw_dr lw_d_cL_law_432 22 rfl
theorem dL_law_463 : decode cL_law 463 = .ok (.iconst 1, 1) := lw_dr lw_d_cL_law_432 23 rfl
theorem dL_law_464 : decode cL_law 464 = .ok (.iadd, 1) := lw_dr lw_d_cL_law_432 24 rfl
theorem dL_law_465 : decode cL_law 465 = .ok (.iaload, 1) := lw_dr lw_d_cL_law_432 25 rfl
theorem dL_law_466 : decode cL_law 466 = .ok (.aload_n 0, 1) := lw_dr lw_d_cL_law_432 26 rfl
theorem dL_law_467 : decode cL_law 467 = .ok (.iload_n 3, 1) := lw_dr lw_d_cL_law_432 27 rfl
theorem dL_law_468 : decode cL_law 468 = .ok (.iconst 2, 1) := lw_dr lw_d_cL_law_432 28 rfl
theorem dL_law_469 : decode cL_law 469 = .ok (.iadd, 1) := lw_dr lw_d_cL_law_432 29 rfl
theorem dL_law_470 : decode cL_law 470 = .ok (.iaload, 1) := lw_dr lw_d_cL_law_432 30 rfl
theorem dL_law_471 : decode cL_law 471 = .ok (.aload_n 0, 1) := lw_dr lw_d_cL_law_432 31 rfl
theorem dL_law_472 : decode cL_law 472 = .ok (.iload_n 3, 1) := lw_dr lw_d_cL_law_432 32 rfl
theorem dL_law_473 : decode cL_law 473 = .ok (.iconst 3, 1) := lw_dr lw_d_cL_law_432 33 rfl
theorem dL_law_474 : decode cL_law 474 = .ok (.iadd, 1) := lw_dr lw_d_cL_law_432 34 rfl
theorem dL_law_475 : decode cL_law 475 = .ok (.iaload, 1) := lw_dr lw_d_cL_law_432 35 rfl
theorem dL_law_476 : decode cL_law 476 = .ok (.ifCond .eq 7, 3) := lw_dr lw_d_cL_law_432 36 rfl
theorem dL_law_483 : decode cL_law 483 = .ok (.iconst 0, 1) := lw_dr lw_d_cL_law_432 37 rfl
theorem dL_law_484 : decode cL_law 484 = .ok (.invokevirtual 45, 3) := lw_dr lw_d_cL_law_432 38 rfl
theorem dL_law_487 : decode cL_law 487 = .ok (.pop, 1) := lw_dr lw_d_cL_law_432 39 rfl
theorem lw_d_cL_law_488 : lw_dl cL_law [(488, .goto 1031, 3), (479, .iconst 1, 1), (480, .goto 4, 3), (451, .iconst 1, 1), (452, .goto 4, 3), (491, .aload_n 1, 1), (492, .invokevirtual 46, 3), (495, .pop, 1), (496, .aload_n 2, 1), (497, .invokevirtual 50, 3), (500, .pop, 1), (501, .goto 1018, 3), (504, .aload_n 1, 1), (505, .aload_n 0, 1), (506, .iload_n 3, 1), (507, .iconst 1, 1), (508, .iadd, 1), (509, .iaload, 1), (510, .invokevirtual 51, 3), (513, .pop, 1), (514, .aload_n 2, 1), (515, .aload_n 0, 1), (516, .iload_n 3, 1), (517, .iconst 1, 1), (518, .iadd, 1), (519, .iaload, 1), (520, .invokevirtual 54, 3), (523, .pop, 1), (524, .goto 995, 3), (527, .aload_n 1, 1), (528, .invokevirtual 55, 3), (531, .pop, 1), (532, .aload_n 2, 1), (533, .invokevirtual 58, 3), (536, .pop, 1), (537, .goto 982, 3), (540, .aload_n 1, 1), (541, .invokevirtual 59, 3), (544, .pop2, 1), (545, .aload_n 2, 1)] = true := by decide +kernel
theorem dL_law_488 : decode cL_law 488 = .ok (.goto 1031, 3) := lw_dr lw_d_cL_law_488 0 rfl
theorem dL_law_479 : decode cL_law 479 = .ok (.iconst 1, 1) := lw_dr lw_d_cL_law_488 1 rfl
theorem dL_law_480 : decode cL_law 480 = .ok (.goto 4, 3) := lw_dr lw_d_cL_law_488 2 rfl
theorem dL_law_451 : decode cL_law 451 = .ok (.iconst 1, 1) := lw_dr lw_d_cL_law_488 3 rfl
theorem dL_law_452 : decode cL_law 452 = .ok (.goto 4, 3) := lw_dr lw_d_cL_law_488 4 rfl
theorem dL_law_491 : decode cL_law 491 = .ok (.aload_n 1, 1) := lw_dr lw_d_cL_law_488 5 rfl
theorem dL_law_492 : decode cL_law 492 = .ok (.invokevirtual 46, 3) := lw_dr lw_d_cL_law_488 6 rfl
theorem dL_law_495 : decode cL_law 495 = .ok (.pop, 1) := lw_dr lw_d_cL_law_488 7 rfl
theorem dL_law_496 : decode cL_law 496 = .ok (.aload_n 2, 1) := lw_dr lw_d_cL_law_488 8 rfl
theorem dL_law_497 : decode cL_law 497 = .ok (.invokevirtual 50, 3) := lw_dr lw_d_cL_law_488 9 rfl
theorem dL_law_500 : decode cL_law 500 = .ok (.pop, 1) := lw_dr lw_d_cL_law_488 10 rfl
theorem dL_law_501 : decode cL_law 501 = .ok (.goto 1018, 3) := lw_dr lw_d_cL_law_488 11 rfl
theorem dL_law_504 : decode cL_law 504 = .ok (.aload_n 1, 1) := lw_dr lw_d_cL_law_488 12 rfl
theorem dL_law_505 : decode cL_law 505 = .ok (.aload_n 0, 1) := lw_dr lw_d_cL_law_488 13 rfl
theorem dL_law_506 : decode cL_law 506 = .ok (.iload_n 3, 1) := lw_dr lw_d_cL_law_488 14 rfl
theorem dL_law_507 : decode cL_law 507 = .ok (.iconst 1, 1) := lw_dr lw_d_cL_law_488 15 rfl
theorem dL_law_508 : decode cL_law 508 = .ok (.iadd, 1) := lw_dr lw_d_cL_law_488 16 rfl
theorem dL_law_509 : decode cL_law 509 = .ok (.iaload, 1) := lw_dr lw_d_cL_law_488 17 rfl
theorem dL_law_510 : decode cL_law 510 = .ok (.invokevirtual 51, 3) := lw_dr lw_d_cL_law_488 18 rfl
theorem dL_law_513 : decode cL_law 513 = .ok (.pop, 1) := lw_dr lw_d_cL_law_488 19 rfl
theorem dL_law_514 : decode cL_law 514 = .ok (.aload_n 2, 1) := lw_dr lw_d_cL_law_488 20 rfl
theorem dL_law_515 : decode cL_law 515 = .ok (.aload_n 0, 1) := lw_dr lw_d_cL_law_488 21 rfl
theorem dL_law_516 : decode cL_law 516 = .ok (.iload_n 3, 1) := lw_dr lw_d_cL_law_488 22 rfl
theorem dL_law_517 : decode cL_law 517 = .ok (.iconst 1, 1) := lw_dr lw_d_cL_law_488 23 rfl
theorem dL_law_518 : decode cL_law 518 = .ok (.iadd, 1) := lw_dr lw_d_cL_law_488 24 rfl
theorem dL_law_519 : decode cL_law 519 = .ok (.iaload, 1) := lw_dr lw_d_cL_law_488 25 rfl
theorem dL_law_520 : decode cL_law 520 = .ok (.invokevirtual 54, 3) := lw_dr lw_d_cL_law_488 26 rfl
theorem dL_law_523 : decode cL_law 523 = .ok (.pop, 1) := lw_dr lw_d_cL_law_488 27 rfl
theorem dL_law_524 : decode cL_law 524 = .ok (.goto 995, 3) := lw_dr lw_d_cL_law_488 28 rfl
theorem dL_law_527 : decode cL_law 527 = .ok (.aload_n 1, 1) := lw_dr lw_d_cL_law_488 29 rfl
theorem dL_law_528 : decode cL_law 528 = .ok (.invokevirtual 55, 3) := lw_dr lw_d_cL_law_488 30 rfl
theorem dL_law_531 : decode cL_law 531 = .ok (.pop, 1) := lw_dr lw_d_cL_law_488 31 rfl
theorem dL_law_532 : decode cL_law 532 = .ok (.aload_n 2, 1) := lw_dr lw_d_cL_law_488 32 rfl
theorem dL_law_533 : decode cL_law 533 = .ok (.invokevirtual 58, 3) := lw_dr lw_d_cL_law_488 33 rfl
theorem dL_law_536 : decode cL_law 536 = .ok (.pop, 1) := lw_dr lw_d_cL_law_488 34 rfl
theorem dL_law_537 : decode cL_law 537 = .ok (.goto 982, 3) := lw_dr lw_d_cL_law_488 35 rfl
theorem dL_law_540 : decode cL_law 540 = .ok (.aload_n 1, 1) := lw_dr lw_d_cL_law_488 36 rfl
theorem dL_law_541 : decode cL_law 541 = .ok (.invokevirtual 59, 3) := lw_dr lw_d_cL_law_488 37 rfl
theorem dL_law_544 : decode cL_law 544 = .ok (.pop2, 1) := lw_dr lw_d_cL_law_488 38 rfl
theorem dL_law_545 : decode cL_law 545 = .ok (.aload_n 2, 1) := lw_dr lw_d_cL_law_488 39 rfl
theorem lw_d_cL_law_546 : lw_dl cL_law [(546, .invokevirtual 63, 3), (549, .pop2, 1), (550, .goto 969, 3), (553, .aload_n 1, 1), (554, .aload_n 0, 1), (555, .iload_n 3, 1), (556, .iconst 1, 1), (557, .iadd, 1), (558, .iaload, 1), (559, .aload_n 0, 1), (560, .iload_n 3, 1), (561, .iconst 2, 1), (562, .iadd, 1), (563, .iaload, 1), (564, .invokevirtual 64, 3), (567, .pop, 1), (568, .aload_n 2, 1), (569, .aload_n 0, 1), (570, .iload_n 3, 1), (571, .iconst 1, 1), (572, .iadd, 1), (573, .iaload, 1), (574, .aload_n 0, 1), (575, .iload_n 3, 1), (576, .iconst 2, 1), (577, .iadd, 1), (578, .iaload, 1), (579, .invokevirtual 68, 3), (582, .pop, 1), (583, .goto 936, 3), (586, .aload_n 1, 1), (587, .aload_n 0, 1), (588, .iload_n 3, 1), (589, .iconst 1, 1), (590, .iadd, 1), (591, .iaload, 1), (592, .aload_n 0, 1), (593, .iload_n 3, 1), (594, .iconst 2, 1), (595, .iadd, 1)] = true := by decide +kernel
theorem dL_law_546 : decode cL_law 546 = .ok (.invokevirtual 63, 3) := lw_dr lw_d_cL_law_546 0 rfl
theorem dL_law_549 : decode cL_law 549 = .ok (.pop2, 1) := lw_dr lw_d_cL_law_546 1 rfl
theorem dL_law_550 : decode cL_law 550 = .ok (.goto 969, 3) := lw_dr lw_d_cL_law_546 2 rfl
theorem dL_law_553 : decode cL_law 553 = .ok (.aload_n 1, 1) := lw_dr lw_d_cL_law_546 3 rfl
theorem dL_law_554 : decode cL_law 554 = .ok (.aload_n 0, 1) := lw_dr lw_d_cL_law_546 4 rfl
theorem dL_law_555 : decode cL_law 555 = .ok (.iload_n 3, 1) := lw_dr lw_d_cL_law_546 5 rfl
theorem dL_law_556 : decode cL_law 556 = .ok (.iconst 1, 1) := lw_dr lw_d_cL_law_546 6 rfl
theorem dL_law_557 : decode cL_law 557 = .ok (.iadd, 1) := lw_dr lw_d_cL_law_546 7 rfl
theorem dL_law_558 : decode cL_law 558 = .ok (.iaload, 1) := lw_dr lw_d_cL_law_546 8 rfl
theorem dL_law_559 : decode cL_law 559 = .ok (.aload_n 0, 1) := lw_dr lw_d_cL_law_546 9 rfl
theorem dL_law_560 : decode cL_law 560 = .ok (.iload_n 3, 1) := lw_dr lw_d_cL_law_546 10 rfl
theorem dL_law_561 : decode cL_law 561 = .ok (.iconst 2, 1) := lw_dr lw_d_cL_law_546 11 rfl
theorem dL_law_562 : decode cL_law 562 = .ok (.iadd, 1) := lw_dr lw_d_cL_law_546 12 rfl
theorem dL_law_563 : decode cL_law 563 = .ok (.iaload, 1) := lw_dr lw_d_cL_law_546 13 rfl
theorem dL_law_564 : decode cL_law 564 = .ok (.invokevirtual 64, 3) := lw_dr lw_d_cL_law_546 14 rfl
theorem dL_law_567 : decode cL_law 567 = .ok (.pop, 1) := lw_dr lw_d_cL_law_546 15 rfl
theorem dL_law_568 : decode cL_law 568 = .ok (.aload_n 2, 1) := lw_dr lw_d_cL_law_546 16 rfl
theorem dL_law_569 : decode cL_law 569 = .ok (.aload_n 0, 1) := lw_dr lw_d_cL_law_546 17 rfl
theorem dL_law_570 : decode cL_law 570 = .ok (.iload_n 3, 1) := lw_dr lw_d_cL_law_546 18 rfl
theorem dL_law_571 : decode cL_law 571 = .ok (.iconst 1, 1) := lw_dr lw_d_cL_law_546 19 rfl
theorem dL_law_572 : decode cL_law 572 = .ok (.iadd, 1) := lw_dr lw_d_cL_law_546 20 rfl
theorem dL_law_573 : decode cL_law 573 = .ok (.iaload, 1) := lw_dr lw_d_cL_law_546 21 rfl
theorem dL_law_574 : decode cL_law 574 = .ok (.aload_n 0, 1) := lw_dr lw_d_cL_law_546 22 rfl
theorem dL_law_575 : decode cL_law 575 = .ok (.iload_n 3, 1) := lw_dr lw_d_cL_law_546 23 rfl
theorem dL_law_576 : decode cL_law 576 = .ok (.iconst 2, 1) := lw_dr lw_d_cL_law_546 24 rfl
theorem dL_law_577 : decode cL_law 577 = .ok (.iadd, 1) := lw_dr lw_d_cL_law_546 25 rfl
theorem dL_law_578 : decode cL_law 578 = .ok (.iaload, 1) := lw_dr lw_d_cL_law_546 26 rfl
theorem dL_law_579 : decode cL_law 579 = .ok (.invokevirtual 68, 3) := lw_dr lw_d_cL_law_546 27 rfl
theorem dL_law_582 : decode cL_law 582 = .ok (.pop, 1) := lw_dr lw_d_cL_law_546 28 rfl
theorem dL_law_583 : decode cL_law 583 = .ok (.goto 936, 3) := lw_dr lw_d_cL_law_546 29 rfl
theorem dL_law_586 : decode cL_law 586 = .ok (.aload_n 1, 1) := lw_dr lw_d_cL_law_546 30 rfl
theorem dL_law_587 : decode cL_law 587 = .ok (.aload_n 0, 1) := lw_dr lw_d_cL_law_546 31 rfl
theorem dL_law_588 : decode cL_law 588 = .ok (.iload_n 3, 1) := lw_dr lw_d_cL_law_546 32 rfl
theorem dL_law_589 : decode cL_law 589 = .ok (.iconst 1, 1) := lw_dr lw_d_cL_law_546 33 rfl
theorem dL_law_590 : decode cL_law 590 = .ok (.iadd, 1) := lw_dr lw_d_cL_law_546 34 rfl
theorem dL_law_591 : decode cL_law 591 = .ok (.iaload, 1) := lw_dr lw_d_cL_law_546 35 rfl
theorem dL_law_592 : decode cL_law 592 = .ok (.aload_n 0, 1) := lw_dr lw_d_cL_law_546 36 rfl
theorem dL_law_593 : decode cL_law 593 = .ok (.iload_n 3, 1) := lw_dr lw_d_cL_law_546 37 rfl
theorem dL_law_594 : decode cL_law 594 = .ok (.iconst 2, 1) := lw_dr lw_d_cL_law_546 38 rfl
theorem dL_law_595 : decode cL_law 595 = .ok (.iadd, 1) := lw_dr lw_d_cL_law_546 39 rfl
theorem lw_d_cL_law_596 : lw_dl cL_law [(596, .iaload, 1), (597, .invokevirtual 69, 3), (600, .pop, 1), (601, .aload_n 2, 1), (602, .aload_n 0, 1), (603, .iload_n 3, 1), (604, .iconst 1, 1), (605, .iadd, 1), (606, .iaload, 1), (607, .aload_n 0, 1), (608, .iload_n 3, 1), (609, .iconst 2, 1), (610, .iadd, 1), (611, .iaload, 1), (612, .invokevirtual 72, 3), (615, .pop, 1), (616, .goto 903, 3), (619, .aload_n 1, 1), (620, .aload_n 0, 1), (621, .iload_n 3, 1)] = true := by decide +kernel
theorem dL_law_596 : decode cL_law 596 = .ok (.iaload, 1) := lw_dr lw_d_cL_law_596 0 rfl
theorem dL_law_597 : decode cL_law 597 = .ok (.invokevirtual 69, 3) := lw_dr lw_d_cL_law_596 1 rfl
theorem dL_law_600 : decode cL_law 600 = .ok (.pop, 1) := lw_dr lw_d_cL_law_596 2 rfl
theorem dL_law_601 : decode cL_law 601 = .ok (.aload_n 2, 1) := lw_dr lw_d_cL_law_596 3 rfl
theorem dL_law_602 : decode cL_law 602 = .ok (.aload_n 0, 1) := lw_dr lw_d_cL_law_596 4 rfl
theorem dL_law_603 : decode cL_law 603 = .ok (.iload_n 3, 1) := lw_dr lw_d_cL_law_596 5 rfl
theorem dL_law_604 : decode cL_law 604 = .ok (.iconst 1, 1) := lw_dr lw_d_cL_law_596 6 rfl
theorem dL_law_605 : decode cL_law 605 = .ok (.iadd, 1) := lw_dr lw_d_cL_law_596 7 rfl
theorem dL_law_606 : decode cL_law 606 = .ok (.iaload, 1) := lw_dr lw_d_cL_law_596 8 rfl
theorem dL_law_607 : decode cL_law 607 = .ok (.aload_n 0, 1) := lw_dr lw_d_cL_law_596 9 rfl
theorem dL_law_608 : decode cL_law 608 = .ok (.iload_n 3, 1) := lw_dr lw_d_cL_law_596 10 rfl
theorem dL_law_609 : decode cL_law 609 = .ok (.iconst 2, 1) := lw_dr lw_d_cL_law_596 11 rfl
theorem dL_law_610 : decode cL_law 610 = .ok (.iadd, 1) := lw_dr lw_d_cL_law_596 12 rfl
theorem dL_law_611 : decode cL_law 611 = .ok (.iaload, 1) := lw_dr lw_d_cL_law_596 13 rfl
theorem dL_law_612 : decode cL_law 612 = .ok (.invokevirtual 72, 3) := lw_dr lw_d_cL_law_596 14 rfl
theorem dL_law_615 : decode cL_law 615 = .ok (.pop, 1) := lw_dr lw_d_cL_law_596 15 rfl
theorem dL_law_616 : decode cL_law 616 = .ok (.goto 903, 3) := lw_dr lw_d_cL_law_596 16 rfl
theorem dL_law_619 : decode cL_law 619 = .ok (.aload_n 1, 1) := lw_dr lw_d_cL_law_596 17 rfl
theorem dL_law_620 : decode cL_law 620 = .ok (.aload_n 0, 1) := lw_dr lw_d_cL_law_596 18 rfl
theorem dL_law_621 : decode cL_law 621 = .ok (.iload_n 3, 1) := lw_dr lw_d_cL_law_596 19 rfl
theorem lw_d_cL_law_622 : lw_dl cL_law [(622, .iconst 1, 1), (623, .iadd, 1), (624, .iaload, 1), (625, .invokevirtual 73, 3), (628, .pop2, 1), (629, .aload_n 2, 1), (630, .aload_n 0, 1), (631, .iload_n 3, 1), (632, .iconst 1, 1), (633, .iadd, 1), (634, .iaload, 1), (635, .invokevirtual 77, 3), (638, .pop2, 1), (639, .goto 880, 3), (642, .aload_n 1, 1), (643, .aload_n 0, 1), (644, .iload_n 3, 1), (645, .iconst 1, 1), (646, .iadd, 1), (647, .iaload, 1), (648, .i2l, 1), (649, .bipush 32, 2), (651, .lshl, 1), (652, .aload_n 0, 1), (653, .iload_n 3, 1), (654, .iconst 2, 1), (655, .iadd, 1), (656, .iaload, 1), (657, .i2l, 1), (658, .ldc2_w 78, 3), (661, .land, 1), (662, .lor, 1), (663, .invokevirtual 80, 3), (666, .pop, 1), (667, .aload_n 2, 1), (668, .aload_n 0, 1), (669, .iload_n 3, 1), (670, .iconst 1, 1), (671, .iadd, 1), (672, .iaload, 1)] = true := by decide +kernel
theorem dL_law_622 : decode cL_law 622 = .ok (.iconst 1, 1) := lw_dr lw_d_cL_law_622 0 rfl
theorem dL_law_623 : decode cL_law 623 = .ok (.iadd, 1) := lw_dr lw_d_cL_law_622 1 rfl
theorem dL_law_624 : decode cL_law 624 = .ok (.iaload, 1) := lw_dr lw_d_cL_law_622 2 rfl
theorem dL_law_625 : decode cL_law 625 = .ok (.invokevirtual 73, 3) := lw_dr lw_d_cL_law_622 3 rfl
theorem dL_law_628 : decode cL_law 628 = .ok (.pop2, 1) := lw_dr lw_d_cL_law_622 4 rfl
theorem dL_law_629 : decode cL_law 629 = .ok (.aload_n 2, 1) := lw_dr lw_d_cL_law_622 5 rfl
theorem dL_law_630 : decode cL_law 630 = .ok (.aload_n 0, 1) := lw_dr lw_d_cL_law_622 6 rfl
theorem dL_law_631 : decode cL_law 631 = .ok (.iload_n 3, 1) := lw_dr lw_d_cL_law_622 7 rfl
theorem dL_law_632 : decode cL_law 632 = .ok (.iconst 1, 1) := lw_dr lw_d_cL_law_622 8 rfl
theorem dL_law_633 : decode cL_law 633 = .ok (.iadd, 1) := lw_dr lw_d_cL_law_622 9 rfl
theorem dL_law_634 : decode cL_law 634 = .ok (.iaload, 1) := lw_dr lw_d_cL_law_622 10 rfl
theorem dL_law_635 : decode cL_law 635 = .ok (.invokevirtual 77, 3) := lw_dr lw_d_cL_law_622 11 rfl
theorem dL_law_638 : decode cL_law 638 = .ok (.pop2, 1) := lw_dr lw_d_cL_law_622 12 rfl
theorem dL_law_639 : decode cL_law 639 = .ok (.goto 880, 3) := lw_dr lw_d_cL_law_622 13 rfl
theorem dL_law_642 : decode cL_law 642 = .ok (.aload_n 1, 1) := lw_dr lw_d_cL_law_622 14 rfl
theorem dL_law_643 : decode cL_law 643 = .ok (.aload_n 0, 1) := lw_dr lw_d_cL_law_622 15 rfl
theorem dL_law_644 : decode cL_law 644 = .ok (.iload_n 3, 1) := lw_dr lw_d_cL_law_622 16 rfl
theorem dL_law_645 : decode cL_law 645 = .ok (.iconst 1, 1) := lw_dr lw_d_cL_law_622 17 rfl
theorem dL_law_646 : decode cL_law 646 = .ok (.iadd, 1) := lw_dr lw_d_cL_law_622 18 rfl
theorem dL_law_647 : decode cL_law 647 = .ok (.iaload, 1) := lw_dr lw_d_cL_law_622 19 rfl
theorem dL_law_648 : decode cL_law 648 = .ok (.i2l, 1) := lw_dr lw_d_cL_law_622 20 rfl
theorem dL_law_649 : decode cL_law 649 = .ok (.bipush 32, 2) := lw_dr lw_d_cL_law_622 21 rfl
theorem dL_law_651 : decode cL_law 651 = .ok (.lshl, 1) := lw_dr lw_d_cL_law_622 22 rfl
theorem dL_law_652 : decode cL_law 652 = .ok (.aload_n 0, 1) := lw_dr lw_d_cL_law_622 23 rfl
theorem dL_law_653 : decode cL_law 653 = .ok (.iload_n 3, 1) := lw_dr lw_d_cL_law_622 24 rfl
theorem dL_law_654 : decode cL_law 654 = .ok (.iconst 2, 1) := lw_dr lw_d_cL_law_622 25 rfl
theorem dL_law_655 : decode cL_law 655 = .ok (.iadd, 1) := lw_dr lw_d_cL_law_622 26 rfl
theorem dL_law_656 : decode cL_law 656 = .ok (.iaload, 1) := lw_dr lw_d_cL_law_622 27 rfl
theorem dL_law_657 : decode cL_law 657 = .ok (.i2l, 1) := lw_dr lw_d_cL_law_622 28 rfl
theorem dL_law_658 : decode cL_law 658 = .ok (.ldc2_w 78, 3) := lw_dr lw_d_cL_law_622 29 rfl
theorem dL_law_661 : decode cL_law 661 = .ok (.land, 1) := lw_dr lw_d_cL_law_622 30 rfl
theorem dL_law_662 : decode cL_law 662 = .ok (.lor, 1) := lw_dr lw_d_cL_law_622 31 rfl
theorem dL_law_663 : decode cL_law 663 = .ok (.invokevirtual 80, 3) := lw_dr lw_d_cL_law_622 32 rfl
theorem dL_law_666 : decode cL_law 666 = .ok (.pop, 1) := lw_dr lw_d_cL_law_622 33 rfl
theorem dL_law_667 : decode cL_law 667 = .ok (.aload_n 2, 1) := lw_dr lw_d_cL_law_622 34 rfl
theorem dL_law_668 : decode cL_law 668 = .ok (.aload_n 0, 1) := lw_dr lw_d_cL_law_622 35 rfl
theorem dL_law_669 : decode cL_law 669 = .ok (.iload_n 3, 1) := lw_dr lw_d_cL_law_622 36 rfl
theorem dL_law_670 : decode cL_law 670 = .ok (.iconst 1, 1) := lw_dr lw_d_cL_law_622 37 rfl
theorem dL_law_671 : decode cL_law 671 = .ok (.iadd, 1) := lw_dr lw_d_cL_law_622 38 rfl
theorem dL_law_672 : decode cL_law 672 = .ok (.iaload, 1) := lw_dr lw_d_cL_law_622 39 rfl
theorem lw_d_cL_law_673 : lw_dl cL_law [(673, .i2l, 1), (674, .bipush 32, 2), (676, .lshl, 1), (677, .aload_n 0, 1), (678, .iload_n 3, 1), (679, .iconst 2, 1), (680, .iadd, 1), (681, .iaload, 1), (682, .i2l, 1), (683, .ldc2_w 78, 3), (686, .land, 1), (687, .lor, 1), (688, .invokevirtual 84, 3), (691, .pop, 1), (692, .goto 827, 3), (695, .aload_n 1, 1), (696, .aload_n 0, 1), (697, .iload_n 3, 1), (698, .iconst 1, 1), (699, .iadd, 1), (700, .iaload, 1), (701, .invokevirtual 85, 3), (704, .pop, 1), (705, .aload_n 2, 1), (706, .aload_n 0, 1), (707, .iload_n 3, 1), (708, .iconst 1, 1), (709, .iadd, 1), (710, .iaload, 1), (711, .invokevirtual 88, 3), (714, .pop, 1), (715, .goto 804, 3), (718, .aload_n 1, 1), (719, .aload_n 0, 1), (720, .iload_n 3, 1), (721, .iconst 1, 1), (722, .iadd, 1), (723, .iaload, 1), (724, .invokevirtual 89, 3), (727, .pop, 1)] = true := by decide +kernel
theorem dL_law_673 : decode cL_law 673 = .ok (.i2l, 1) := lw_dr lw_d_cL_law_673 0 rfl
theorem dL_law_674 : decode cL_law 674 = .ok (.bipush 32, 2) := lw_dr lw_d_cL_law_673 1 rfl
theorem dL_law_676 : decode cL_law 676 = .ok (.lshl, 1) := lw_dr lw_d_cL_law_673 2 rfl
theorem dL_law_677 : decode cL_law 677 = .ok (.aload_n 0, 1) := lw_dr lw_d_cL_law_673 3 rfl
theorem dL_law_678 : decode cL_law 678 = .ok (.iload_n 3, 1) := lw_dr lw_d_cL_law_673 4 rfl
theorem dL_law_679 : decode cL_law 679 = .ok (.iconst 2, 1) := lw_dr lw_d_cL_law_673 5 rfl
theorem dL_law_680 : decode cL_law 680 = .ok (.iadd, 1) := lw_dr lw_d_cL_law_673 6 rfl
theorem dL_law_681 : decode cL_law 681 = .ok (.iaload, 1) := lw_dr lw_d_cL_law_673 7 rfl
theorem dL_law_682 : decode cL_law 682 = .ok (.i2l, 1) := lw_dr lw_d_cL_law_673 8 rfl
theorem dL_law_683 : decode cL_law 683 = .ok (.ldc2_w 78, 3) := lw_dr lw_d_cL_law_673 9 rfl
theorem dL_law_686 : decode cL_law 686 = .ok (.land, 1) := lw_dr lw_d_cL_law_673 10 rfl
theorem dL_law_687 : decode cL_law 687 = .ok (.lor, 1) := lw_dr lw_d_cL_law_673 11 rfl
theorem dL_law_688 : decode cL_law 688 = .ok (.invokevirtual 84, 3) := lw_dr lw_d_cL_law_673 12 rfl
theorem dL_law_691 : decode cL_law 691 = .ok (.pop, 1) := lw_dr lw_d_cL_law_673 13 rfl
theorem dL_law_692 : decode cL_law 692 = .ok (.goto 827, 3) := lw_dr lw_d_cL_law_673 14 rfl
theorem dL_law_695 : decode cL_law 695 = .ok (.aload_n 1, 1) := lw_dr lw_d_cL_law_673 15 rfl
theorem dL_law_696 : decode cL_law 696 = .ok (.aload_n 0, 1) := lw_dr lw_d_cL_law_673 16 rfl
theorem dL_law_697 : decode cL_law 697 = .ok (.iload_n 3, 1) := lw_dr lw_d_cL_law_673 17 rfl
theorem dL_law_698 : decode cL_law 698 = .ok (.iconst 1, 1) := lw_dr lw_d_cL_law_673 18 rfl
theorem dL_law_699 : decode cL_law 699 = .ok (.iadd, 1) := lw_dr lw_d_cL_law_673 19 rfl
theorem dL_law_700 : decode cL_law 700 = .ok (.iaload, 1) := lw_dr lw_d_cL_law_673 20 rfl
theorem dL_law_701 : decode cL_law 701 = .ok (.invokevirtual 85, 3) := lw_dr lw_d_cL_law_673 21 rfl
theorem dL_law_704 : decode cL_law 704 = .ok (.pop, 1) := lw_dr lw_d_cL_law_673 22 rfl
theorem dL_law_705 : decode cL_law 705 = .ok (.aload_n 2, 1) := lw_dr lw_d_cL_law_673 23 rfl
theorem dL_law_706 : decode cL_law 706 = .ok (.aload_n 0, 1) := lw_dr lw_d_cL_law_673 24 rfl
theorem dL_law_707 : decode cL_law 707 = .ok (.iload_n 3, 1) := lw_dr lw_d_cL_law_673 25 rfl
theorem dL_law_708 : decode cL_law 708 = .ok (.iconst 1, 1) := lw_dr lw_d_cL_law_673 26 rfl
theorem dL_law_709 : decode cL_law 709 = .ok (.iadd, 1) := lw_dr lw_d_cL_law_673 27 rfl
theorem dL_law_710 : decode cL_law 710 = .ok (.iaload, 1) := lw_dr lw_d_cL_law_673 28 rfl
theorem dL_law_711 : decode cL_law 711 = .ok (.invokevirtual 88, 3) := lw_dr lw_d_cL_law_673 29 rfl
theorem dL_law_714 : decode cL_law 714 = .ok (.pop, 1) := lw_dr lw_d_cL_law_673 30 rfl
theorem dL_law_715 : decode cL_law 715 = .ok (.goto 804, 3) := lw_dr lw_d_cL_law_673 31 rfl
theorem dL_law_718 : decode cL_law 718 = .ok (.aload_n 1, 1) := lw_dr lw_d_cL_law_673 32 rfl
theorem dL_law_719 : decode cL_law 719 = .ok (.aload_n 0, 1) := lw_dr lw_d_cL_law_673 33 rfl
theorem dL_law_720 : decode cL_law 720 = .ok (.iload_n 3, 1) := lw_dr lw_d_cL_law_673 34 rfl
theorem dL_law_721 : decode cL_law 721 = .ok (.iconst 1, 1) := lw_dr lw_d_cL_law_673 35 rfl
theorem dL_law_722 : decode cL_law 722 = .ok (.iadd, 1) := lw_dr lw_d_cL_law_673 36 rfl
theorem dL_law_723 : decode cL_law 723 = .ok (.iaload, 1) := lw_dr lw_d_cL_law_673 37 rfl
theorem dL_law_724 : decode cL_law 724 = .ok (.invokevirtual 89, 3) := lw_dr lw_d_cL_law_673 38 rfl
theorem dL_law_727 : decode cL_law 727 = .ok (.pop, 1) := lw_dr lw_d_cL_law_673 39 rfl
theorem lw_d_cL_law_728 : lw_dl cL_law [(728, .aload_n 2, 1), (729, .aload_n 0, 1), (730, .iload_n 3, 1), (731, .iconst 1, 1), (732, .iadd, 1), (733, .iaload, 1), (734, .invokevirtual 92, 3), (737, .pop, 1), (738, .goto 781, 3), (741, .aload_n 1, 1), (742, .invokevirtual 93, 3), (745, .pop2, 1), (746, .aload_n 2, 1), (747, .invokevirtual 96, 3), (750, .pop2, 1), (751, .goto 768, 3), (754, .aload_n 1, 1), (755, .aload_n 0, 1), (756, .iload_n 3, 1), (757, .iconst 1, 1), (758, .iadd, 1), (759, .iaload, 1), (760, .aload_n 0, 1), (761, .iload_n 3, 1), (762, .iconst 2, 1), (763, .iadd, 1), (764, .iaload, 1), (765, .invokevirtual 97, 3), (768, .pop2, 1), (769, .aload_n 2, 1), (770, .aload_n 0, 1), (771, .iload_n 3, 1), (772, .iconst 1, 1), (773, .iadd, 1), (774, .iaload, 1), (775, .aload_n 0, 1), (776, .iload_n 3, 1), (777, .iconst 2, 1), (778, .iadd, 1), (779, .iaload, 1)] = true := by decide +kernel
theorem dL_law_728 : decode cL_law 728 = .ok (.aload_n 2, 1) := lw_dr lw_d_cL_law_728 0 rfl
theorem dL_law_729 : decode cL_law 729 = .ok (.aload_n 0, 1) := lw_dr lw_d_cL_law_728 1 rfl
theorem dL_law_730 : decode cL_law 730 = .ok (.iload_n 3, 1) := lw_dr lw_d_cL_law_728 2 rfl
theorem dL_law_731 : decode cL_law 731 = .ok (.iconst 1, 1) := lw_dr lw_d_cL_law_728 3 rfl
theorem dL_law_732 : decode cL_law 732 = .ok (.iadd, 1) := lw_dr lw_d_cL_law_728 4 rfl
theorem dL_law_733 : decode cL_law 733 = .ok (.iaload, 1) := lw_dr lw_d_cL_law_728 5 rfl
theorem dL_law_734 : decode cL_law 734 = .ok (.invokevirtual 92, 3) := lw_dr lw_d_cL_law_728 6 rfl
theorem dL_law_737 : decode cL_law 737 = .ok (.pop, 1) := lw_dr lw_d_cL_law_728 7 rfl
theorem dL_law_738 : decode cL_law 738 = .ok (.goto 781, 3) := lw_dr lw_d_cL_law_728 8 rfl
theorem dL_law_741 : decode cL_law 741 = .ok (.aload_n 1, 1) := lw_dr lw_d_cL_law_728 9 rfl
theorem dL_law_742 : decode cL_law 742 = .ok (.invokevirtual 93, 3) := lw_dr lw_d_cL_law_728 10 rfl
theorem dL_law_745 : decode cL_law 745 = .ok (.pop2, 1) := lw_dr lw_d_cL_law_728 11 rfl
theorem dL_law_746 : decode cL_law 746 = .ok (.aload_n 2, 1) := lw_dr lw_d_cL_law_728 12 rfl
theorem dL_law_747 : decode cL_law 747 = .ok (.invokevirtual 96, 3) := lw_dr lw_d_cL_law_728 13 rfl
theorem dL_law_750 : decode cL_law 750 = .ok (.pop2, 1) := lw_dr lw_d_cL_law_728 14 rfl
theorem dL_law_751 : decode cL_law 751 = .ok (.goto 768, 3) := lw_dr lw_d_cL_law_728 15 rfl
theorem dL_law_754 : decode cL_law 754 = .ok (.aload_n 1, 1) := lw_dr lw_d_cL_law_728 16 rfl
theorem dL_law_755 : decode cL_law 755 = .ok (.aload_n 0, 1) := lw_dr lw_d_cL_law_728 17 rfl
theorem dL_law_756 : decode cL_law 756 = .ok (.iload_n 3, 1) := lw_dr lw_d_cL_law_728 18 rfl
theorem dL_law_757 : decode cL_law 757 = .ok (.iconst 1, 1) := lw_dr lw_d_cL_law_728 19 rfl
theorem dL_law_758 : decode cL_law 758 = .ok (.iadd, 1) := lw_dr lw_d_cL_law_728 20 rfl
theorem dL_law_759 : decode cL_law 759 = .ok (.iaload, 1) := lw_dr lw_d_cL_law_728 21 rfl
theorem dL_law_760 : decode cL_law 760 = .ok (.aload_n 0, 1) := lw_dr lw_d_cL_law_728 22 rfl
theorem dL_law_761 : decode cL_law 761 = .ok (.iload_n 3, 1) := lw_dr lw_d_cL_law_728 23 rfl
theorem dL_law_762 : decode cL_law 762 = .ok (.iconst 2, 1) := lw_dr lw_d_cL_law_728 24 rfl
theorem dL_law_763 : decode cL_law 763 = .ok (.iadd, 1) := lw_dr lw_d_cL_law_728 25 rfl
theorem dL_law_764 : decode cL_law 764 = .ok (.iaload, 1) := lw_dr lw_d_cL_law_728 26 rfl
theorem dL_law_765 : decode cL_law 765 = .ok (.invokevirtual 97, 3) := lw_dr lw_d_cL_law_728 27 rfl
theorem dL_law_768 : decode cL_law 768 = .ok (.pop2, 1) := lw_dr lw_d_cL_law_728 28 rfl
theorem dL_law_769 : decode cL_law 769 = .ok (.aload_n 2, 1) := lw_dr lw_d_cL_law_728 29 rfl
theorem dL_law_770 : decode cL_law 770 = .ok (.aload_n 0, 1) := lw_dr lw_d_cL_law_728 30 rfl
theorem dL_law_771 : decode cL_law 771 = .ok (.iload_n 3, 1) := lw_dr lw_d_cL_law_728 31 rfl
theorem dL_law_772 : decode cL_law 772 = .ok (.iconst 1, 1) := lw_dr lw_d_cL_law_728 32 rfl
theorem dL_law_773 : decode cL_law 773 = .ok (.iadd, 1) := lw_dr lw_d_cL_law_728 33 rfl
theorem dL_law_774 : decode cL_law 774 = .ok (.iaload, 1) := lw_dr lw_d_cL_law_728 34 rfl
theorem dL_law_775 : decode cL_law 775 = .ok (.aload_n 0, 1) := lw_dr lw_d_cL_law_728 35 rfl
theorem dL_law_776 : decode cL_law 776 = .ok (.iload_n 3, 1) := lw_dr lw_d_cL_law_728 36 rfl
theorem dL_law_777 : decode cL_law 777 = .ok (.iconst 2, 1) := lw_dr lw_d_cL_law_728 37 rfl
theorem dL_law_778 : decode cL_law 778 = .ok (.iadd, 1) := lw_dr lw_d_cL_law_728 38 rfl
theorem dL_law_779 : decode cL_law 779 = .ok (.iaload, 1) := lw_dr lw_d_cL_law_728 39 rfl
theorem lw_d_cL_law_780 : lw_dl cL_law [(780, .invokevirtual 101, 3), (783, .pop2, 1), (784, .goto 735, 3), (787, .aload_n 1, 1), (788, .aload_n 0, 1), (789, .iload_n 3, 1), (790, .iconst 1, 1), (791, .iadd, 1), (792, .iaload, 1), (793, .aload_n 0, 1), (794, .iload_n 3, 1), (795, .iconst 2, 1), (796, .iadd, 1), (797, .iaload, 1), (798, .invokevirtual 102, 3), (801, .pop, 1), (802, .aload_n 2, 1), (803, .aload_n 0, 1), (804, .iload_n 3, 1), (805, .iconst 1, 1), (806, .iadd, 1), (807, .iaload, 1), (808, .aload_n 0, 1), (809, .iload_n 3, 1), (810, .iconst 2, 1), (811, .iadd, 1), (812, .iaload, 1), (813, .invokevirtual 105, 3), (816, .pop, 1), (817, .goto 702, 3), (820, .aload_n 1, 1), (821, .aload_n 0, 1), (822, .iload_n 3, 1), (823, .iconst 1, 1), (824, .iadd, 1), (825, .iaload, 1), (826, .invokevirtual 106, 3), (829, .pop2, 1), (830, .aload_n 2, 1), (831, .aload_n 0, 1)] = true := by decide +kernel
theorem dL_law_780 : decode cL_law 780 = .ok (.invokevirtual 101, 3) := lw_dr lw_d_cL_law_780 0 rfl
theorem dL_law_783 : decode cL_law 783 = .ok (.pop2, 1) := lw_dr lw_d_cL_law_780 1 rfl
theorem dL_law_784 : decode cL_law 784 = .ok (.goto 735, 3) := lw_dr lw_d_cL_law_780 2 rfl
theorem dL_law_787 : decode cL_law 787 = .ok (.aload_n 1, 1) := lw_dr lw_d_cL_law_780 3 rfl
theorem dL_law_788 : decode cL_law 788 = .ok (.aload_n 0, 1) := lw_dr lw_d_cL_law_780 4 rfl
theorem dL_law_789 : decode cL_law 789 = .ok (.iload_n 3, 1) := lw_dr lw_d_cL_law_780 5 rfl
theorem dL_law_790 : decode cL_law 790 = .ok (.iconst 1, 1) := lw_dr lw_d_cL_law_780 6 rfl
theorem dL_law_791 : decode cL_law 791 = .ok (.iadd, 1) := lw_dr lw_d_cL_law_780 7 rfl
theorem dL_law_792 : decode cL_law 792 = .ok (.iaload, 1) := lw_dr lw_d_cL_law_780 8 rfl
theorem dL_law_793 : decode cL_law 793 = .ok (.aload_n 0, 1) := lw_dr lw_d_cL_law_780 9 rfl
theorem dL_law_794 : decode cL_law 794 = .ok (.iload_n 3, 1) := lw_dr lw_d_cL_law_780 10 rfl
theorem dL_law_795 : decode cL_law 795 = .ok (.iconst 2, 1) := lw_dr lw_d_cL_law_780 11 rfl
theorem dL_law_796 : decode cL_law 796 = .ok (.iadd, 1) := lw_dr lw_d_cL_law_780 12 rfl
theorem dL_law_797 : decode cL_law 797 = .ok (.iaload, 1) := lw_dr lw_d_cL_law_780 13 rfl
theorem dL_law_798 : decode cL_law 798 = .ok (.invokevirtual 102, 3) := lw_dr lw_d_cL_law_780 14 rfl
theorem dL_law_801 : decode cL_law 801 = .ok (.pop, 1) := lw_dr lw_d_cL_law_780 15 rfl
theorem dL_law_802 : decode cL_law 802 = .ok (.aload_n 2, 1) := lw_dr lw_d_cL_law_780 16 rfl
theorem dL_law_803 : decode cL_law 803 = .ok (.aload_n 0, 1) := lw_dr lw_d_cL_law_780 17 rfl
theorem dL_law_804 : decode cL_law 804 = .ok (.iload_n 3, 1) := lw_dr lw_d_cL_law_780 18 rfl
theorem dL_law_805 : decode cL_law 805 = .ok (.iconst 1, 1) := lw_dr lw_d_cL_law_780 19 rfl
theorem dL_law_806 : decode cL_law 806 = .ok (.iadd, 1) := lw_dr lw_d_cL_law_780 20 rfl
theorem dL_law_807 : decode cL_law 807 = .ok (.iaload, 1) := lw_dr lw_d_cL_law_780 21 rfl
theorem dL_law_808 : decode cL_law 808 = .ok (.aload_n 0, 1) := lw_dr lw_d_cL_law_780 22 rfl
theorem dL_law_809 : decode cL_law 809 = .ok (.iload_n 3, 1) := lw_dr lw_d_cL_law_780 23 rfl
theorem dL_law_810 : decode cL_law 810 = .ok (.iconst 2, 1) := lw_dr lw_d_cL_law_780 24 rfl
theorem dL_law_811 : decode cL_law 811 = .ok (.iadd, 1) := lw_dr lw_d_cL_law_780 25 rfl
theorem dL_law_812 : decode cL_law 812 = .ok (.iaload, 1) := lw_dr lw_d_cL_law_780 26 rfl
theorem dL_law_813 : decode cL_law 813 = .ok (.invokevirtual 105, 3) := lw_dr lw_d_cL_law_780 27 rfl
theorem dL_law_816 : decode cL_law 816 = .ok (.pop, 1) := lw_dr lw_d_cL_law_780 28 rfl
theorem dL_law_817 : decode cL_law 817 = .ok (.goto 702, 3) := lw_dr lw_d_cL_law_780 29 rfl
theorem dL_law_820 : decode cL_law 820 = .ok (.aload_n 1, 1) := lw_dr lw_d_cL_law_780 30 rfl
theorem dL_law_821 : decode cL_law 821 = .ok (.aload_n 0, 1) := lw_dr lw_d_cL_law_780 31 rfl
theorem dL_law_822 : decode cL_law 822 = .ok (.iload_n 3, 1) := lw_dr lw_d_cL_law_780 32 rfl
theorem dL_law_823 : decode cL_law 823 = .ok (.iconst 1, 1) := lw_dr lw_d_cL_law_780 33 rfl
theorem dL_law_824 : decode cL_law 824 = .ok (.iadd, 1) := lw_dr lw_d_cL_law_780 34 rfl
theorem dL_law_825 : decode cL_law 825 = .ok (.iaload, 1) := lw_dr lw_d_cL_law_780 35 rfl
theorem dL_law_826 : decode cL_law 826 = .ok (.invokevirtual 106, 3) := lw_dr lw_d_cL_law_780 36 rfl
theorem dL_law_829 : decode cL_law 829 = .ok (.pop2, 1) := lw_dr lw_d_cL_law_780 37 rfl
theorem dL_law_830 : decode cL_law 830 = .ok (.aload_n 2, 1) := lw_dr lw_d_cL_law_780 38 rfl
theorem dL_law_831 : decode cL_law 831 = .ok (.aload_n 0, 1) := lw_dr lw_d_cL_law_780 39 rfl
theorem lw_d_cL_law_832 : lw_dl cL_law [(832, .iload_n 3, 1), (833, .iconst 1, 1), (834, .iadd, 1), (835, .iaload, 1), (836, .invokevirtual 109, 3), (839, .pop2, 1), (840, .goto 679, 3), (843, .aload_n 1, 1), (844, .aload_n 0, 1), (845, .iload_n 3, 1), (846, .iconst 1, 1), (847, .iadd, 1), (848, .iaload, 1), (849, .invokevirtual 110, 3), (852, .pop, 1), (853, .aload_n 2, 1), (854, .aload_n 0, 1), (855, .iload_n 3, 1), (856, .iconst 1, 1), (857, .iadd, 1), (858, .iaload, 1), (859, .invokevirtual 113, 3), (862, .pop, 1), (863, .goto 656, 3), (866, .aload_n 1, 1), (867, .invokevirtual 114, 3), (870, .pop, 1), (871, .aload_n 2, 1), (872, .invokevirtual 117, 3), (875, .pop, 1), (876, .goto 643, 3), (879, .aload_n 1, 1), (880, .invokevirtual 118, 3), (883, .pop, 1), (884, .aload_n 2, 1), (885, .invokevirtual 121, 3), (888, .pop, 1), (889, .goto 630, 3), (892, .aload_n 1, 1), (893, .aload_n 0, 1)] = true := by decide +kernel
theorem dL_law_832 : decode cL_law 832 = .ok (.iload_n 3, 1) := lw_dr lw_d_cL_law_832 0 rfl
theorem dL_law_833 : decode cL_law 833 = .ok (.iconst 1, 1) := lw_dr lw_d_cL_law_832 1 rfl
theorem dL_law_834 : decode cL_law 834 = .ok (.iadd, 1) := lw_dr lw_d_cL_law_832 2 rfl
theorem dL_law_835 : decode cL_law 835 = .ok (.iaload, 1) := lw_dr lw_d_cL_law_832 3 rfl
theorem dL_law_836 : decode cL_law 836 = .ok (.invokevirtual 109, 3) := lw_dr lw_d_cL_law_832 4 rfl
theorem dL_law_839 : decode cL_law 839 = .ok (.pop2, 1) := lw_dr lw_d_cL_law_832 5 rfl
theorem dL_law_840 : decode cL_law 840 = .ok (.goto 679, 3) := lw_dr lw_d_cL_law_832 6 rfl
theorem dL_law_843 : decode cL_law 843 = .ok (.aload_n 1, 1) := lw_dr lw_d_cL_law_832 7 rfl
theorem dL_law_844 : decode cL_law 844 = .ok (.aload_n 0, 1) := lw_dr lw_d_cL_law_832 8 rfl
theorem dL_law_845 : decode cL_law 845 = .ok (.iload_n 3, 1) := lw_dr lw_d_cL_law_832 9 rfl
theorem dL_law_846 : decode cL_law 846 = .ok (.iconst 1, 1) := lw_dr lw_d_cL_law_832 10 rfl
theorem dL_law_847 : decode cL_law 847 = .ok (.iadd, 1) := lw_dr lw_d_cL_law_832 11 rfl
theorem dL_law_848 : decode cL_law 848 = .ok (.iaload, 1) := lw_dr lw_d_cL_law_832 12 rfl
theorem dL_law_849 : decode cL_law 849 = .ok (.invokevirtual 110, 3) := lw_dr lw_d_cL_law_832 13 rfl
theorem dL_law_852 : decode cL_law 852 = .ok (.pop, 1) := lw_dr lw_d_cL_law_832 14 rfl
theorem dL_law_853 : decode cL_law 853 = .ok (.aload_n 2, 1) := lw_dr lw_d_cL_law_832 15 rfl
theorem dL_law_854 : decode cL_law 854 = .ok (.aload_n 0, 1) := lw_dr lw_d_cL_law_832 16 rfl
theorem dL_law_855 : decode cL_law 855 = .ok (.iload_n 3, 1) := lw_dr lw_d_cL_law_832 17 rfl
theorem dL_law_856 : decode cL_law 856 = .ok (.iconst 1, 1) := lw_dr lw_d_cL_law_832 18 rfl
theorem dL_law_857 : decode cL_law 857 = .ok (.iadd, 1) := lw_dr lw_d_cL_law_832 19 rfl
theorem dL_law_858 : decode cL_law 858 = .ok (.iaload, 1) := lw_dr lw_d_cL_law_832 20 rfl
theorem dL_law_859 : decode cL_law 859 = .ok (.invokevirtual 113, 3) := lw_dr lw_d_cL_law_832 21 rfl
theorem dL_law_862 : decode cL_law 862 = .ok (.pop, 1) := lw_dr lw_d_cL_law_832 22 rfl
theorem dL_law_863 : decode cL_law 863 = .ok (.goto 656, 3) := lw_dr lw_d_cL_law_832 23 rfl
theorem dL_law_866 : decode cL_law 866 = .ok (.aload_n 1, 1) := lw_dr lw_d_cL_law_832 24 rfl
theorem dL_law_867 : decode cL_law 867 = .ok (.invokevirtual 114, 3) := lw_dr lw_d_cL_law_832 25 rfl
theorem dL_law_870 : decode cL_law 870 = .ok (.pop, 1) := lw_dr lw_d_cL_law_832 26 rfl
theorem dL_law_871 : decode cL_law 871 = .ok (.aload_n 2, 1) := lw_dr lw_d_cL_law_832 27 rfl
theorem dL_law_872 : decode cL_law 872 = .ok (.invokevirtual 117, 3) := lw_dr lw_d_cL_law_832 28 rfl
theorem dL_law_875 : decode cL_law 875 = .ok (.pop, 1) := lw_dr lw_d_cL_law_832 29 rfl
theorem dL_law_876 : decode cL_law 876 = .ok (.goto 643, 3) := lw_dr lw_d_cL_law_832 30 rfl
theorem dL_law_879 : decode cL_law 879 = .ok (.aload_n 1, 1) := lw_dr lw_d_cL_law_832 31 rfl
theorem dL_law_880 : decode cL_law 880 = .ok (.invokevirtual 118, 3) := lw_dr lw_d_cL_law_832 32 rfl
theorem dL_law_883 : decode cL_law 883 = .ok (.pop, 1) := lw_dr lw_d_cL_law_832 33 rfl
theorem dL_law_884 : decode cL_law 884 = .ok (.aload_n 2, 1) := lw_dr lw_d_cL_law_832 34 rfl
theorem dL_law_885 : decode cL_law 885 = .ok (.invokevirtual 121, 3) := lw_dr lw_d_cL_law_832 35 rfl
theorem dL_law_888 : decode cL_law 888 = .ok (.pop, 1) := lw_dr lw_d_cL_law_832 36 rfl
theorem dL_law_889 : decode cL_law 889 = .ok (.goto 630, 3) := lw_dr lw_d_cL_law_832 37 rfl
theorem dL_law_892 : decode cL_law 892 = .ok (.aload_n 1, 1) := lw_dr lw_d_cL_law_832 38 rfl
theorem dL_law_893 : decode cL_law 893 = .ok (.aload_n 0, 1) := lw_dr lw_d_cL_law_832 39 rfl
theorem lw_d_cL_law_894 : lw_dl cL_law [(894, .iload_n 3, 1), (895, .iconst 1, 1), (896, .iadd, 1), (897, .iaload, 1), (898, .aload_n 0, 1), (899, .iload_n 3, 1), (900, .iconst 2, 1), (901, .iadd, 1), (902, .iaload, 1), (903, .invokevirtual 122, 3), (906, .pop2, 1), (907, .aload_n 2, 1), (908, .aload_n 0, 1), (909, .iload_n 3, 1), (910, .iconst 1, 1), (911, .iadd, 1), (912, .iaload, 1), (913, .aload_n 0, 1), (914, .iload_n 3, 1), (915, .iconst 2, 1), (916, .iadd, 1), (917, .iaload, 1), (918, .invokevirtual 125, 3), (921, .pop2, 1), (922, .goto 597, 3), (925, .aload_n 1, 1), (926, .aload_n 0, 1), (927, .iload_n 3, 1), (928, .iconst 1, 1), (929, .iadd, 1), (930, .iaload, 1), (931, .aload_n 0, 1), (932, .iload_n 3, 1), (933, .iconst 2, 1), (934, .iadd, 1), (935, .iaload, 1), (936, .invokevirtual 126, 3), (939, .pop, 1), (940, .aload_n 2, 1), (941, .aload_n 0, 1)] = true := by decide +kernel
theorem dL_law_894 : decode cL_law 894 = .ok (.iload_n 3, 1) := lw_dr lw_d_cL_law_894 0 rfl
theorem dL_law_895 : decode cL_law 895 = .ok (.iconst 1, 1) := lw_dr lw_d_cL_law_894 1 rfl
theorem dL_law_896 : decode cL_law 896 = .ok (.iadd, 1) := lw_dr lw_d_cL_law_894 2 rfl
theorem dL_law_897 : decode cL_law 897 = .ok (.iaload, 1) := lw_dr lw_d_cL_law_894 3 rfl
theorem dL_law_898 : decode cL_law 898 = .ok (.aload_n 0, 1) := lw_dr lw_d_cL_law_894 4 rfl
theorem dL_law_899 : decode cL_law 899 = .ok (.iload_n 3, 1) := lw_dr lw_d_cL_law_894 5 rfl
theorem dL_law_900 : decode cL_law 900 = .ok (.iconst 2, 1) := lw_dr lw_d_cL_law_894 6 rfl
theorem dL_law_901 : decode cL_law 901 = .ok (.iadd, 1) := lw_dr lw_d_cL_law_894 7 rfl
theorem dL_law_902 : decode cL_law 902 = .ok (.iaload, 1) := lw_dr lw_d_cL_law_894 8 rfl
theorem dL_law_903 : decode cL_law 903 = .ok (.invokevirtual 122, 3) := lw_dr lw_d_cL_law_894 9 rfl
theorem dL_law_906 : decode cL_law 906 = .ok (.pop2, 1) := lw_dr lw_d_cL_law_894 10 rfl
theorem dL_law_907 : decode cL_law 907 = .ok (.aload_n 2, 1) := lw_dr lw_d_cL_law_894 11 rfl
theorem dL_law_908 : decode cL_law 908 = .ok (.aload_n 0, 1) := lw_dr lw_d_cL_law_894 12 rfl
theorem dL_law_909 : decode cL_law 909 = .ok (.iload_n 3, 1) := lw_dr lw_d_cL_law_894 13 rfl
theorem dL_law_910 : decode cL_law 910 = .ok (.iconst 1, 1) := lw_dr lw_d_cL_law_894 14 rfl
theorem dL_law_911 : decode cL_law 911 = .ok (.iadd, 1) := lw_dr lw_d_cL_law_894 15 rfl
theorem dL_law_912 : decode cL_law 912 = .ok (.iaload, 1) := lw_dr lw_d_cL_law_894 16 rfl
theorem dL_law_913 : decode cL_law 913 = .ok (.aload_n 0, 1) := lw_dr lw_d_cL_law_894 17 rfl
theorem dL_law_914 : decode cL_law 914 = .ok (.iload_n 3, 1) := lw_dr lw_d_cL_law_894 18 rfl
theorem dL_law_915 : decode cL_law 915 = .ok (.iconst 2, 1) := lw_dr lw_d_cL_law_894 19 rfl
theorem dL_law_916 : decode cL_law 916 = .ok (.iadd, 1) := lw_dr lw_d_cL_law_894 20 rfl
theorem dL_law_917 : decode cL_law 917 = .ok (.iaload, 1) := lw_dr lw_d_cL_law_894 21 rfl
theorem dL_law_918 : decode cL_law 918 = .ok (.invokevirtual 125, 3) := lw_dr lw_d_cL_law_894 22 rfl
theorem dL_law_921 : decode cL_law 921 = .ok (.pop2, 1) := lw_dr lw_d_cL_law_894 23 rfl
theorem dL_law_922 : decode cL_law 922 = .ok (.goto 597, 3) := lw_dr lw_d_cL_law_894 24 rfl
theorem dL_law_925 : decode cL_law 925 = .ok (.aload_n 1, 1) := lw_dr lw_d_cL_law_894 25 rfl
theorem dL_law_926 : decode cL_law 926 = .ok (.aload_n 0, 1) := lw_dr lw_d_cL_law_894 26 rfl
theorem dL_law_927 : decode cL_law 927 = .ok (.iload_n 3, 1) := lw_dr lw_d_cL_law_894 27 rfl
theorem dL_law_928 : decode cL_law 928 = .ok (.iconst 1, 1) := lw_dr lw_d_cL_law_894 28 rfl
theorem dL_law_929 : decode cL_law 929 = .ok (.iadd, 1) := lw_dr lw_d_cL_law_894 29 rfl
theorem dL_law_930 : decode cL_law 930 = .ok (.iaload, 1) := lw_dr lw_d_cL_law_894 30 rfl
theorem dL_law_931 : decode cL_law 931 = .ok (.aload_n 0, 1) := lw_dr lw_d_cL_law_894 31 rfl
theorem dL_law_932 : decode cL_law 932 = .ok (.iload_n 3, 1) := lw_dr lw_d_cL_law_894 32 rfl
theorem dL_law_933 : decode cL_law 933 = .ok (.iconst 2, 1) := lw_dr lw_d_cL_law_894 33 rfl
theorem dL_law_934 : decode cL_law 934 = .ok (.iadd, 1) := lw_dr lw_d_cL_law_894 34 rfl
theorem dL_law_935 : decode cL_law 935 = .ok (.iaload, 1) := lw_dr lw_d_cL_law_894 35 rfl
theorem dL_law_936 : decode cL_law 936 = .ok (.invokevirtual 126, 3) := lw_dr lw_d_cL_law_894 36 rfl
theorem dL_law_939 : decode cL_law 939 = .ok (.pop, 1) := lw_dr lw_d_cL_law_894 37 rfl
theorem dL_law_940 : decode cL_law 940 = .ok (.aload_n 2, 1) := lw_dr lw_d_cL_law_894 38 rfl
theorem dL_law_941 : decode cL_law 941 = .ok (.aload_n 0, 1) := lw_dr lw_d_cL_law_894 39 rfl
theorem lw_d_cL_law_942 : lw_dl cL_law [(942, .iload_n 3, 1), (943, .iconst 1, 1), (944, .iadd, 1), (945, .iaload, 1), (946, .aload_n 0, 1), (947, .iload_n 3, 1), (948, .iconst 2, 1), (949, .iadd, 1), (950, .iaload, 1), (951, .invokevirtual 129, 3), (954, .pop, 1), (955, .goto 564, 3), (958, .aload_n 1, 1), (959, .aload_n 0, 1), (960, .iload_n 3, 1), (961, .iconst 1, 1), (962, .iadd, 1), (963, .iaload, 1), (964, .aload_n 0, 1), (965, .iload_n 3, 1), (966, .iconst 2, 1), (967, .iadd, 1), (968, .iaload, 1), (969, .aload_n 0, 1), (970, .iload_n 3, 1), (971, .iconst 3, 1), (972, .iadd, 1), (973, .iaload, 1), (974, .ifCond .eq 7, 3), (981, .iconst 0, 1), (982, .invokevirtual 130, 3), (985, .pop, 1), (986, .aload_n 2, 1), (987, .aload_n 0, 1), (988, .iload_n 3, 1), (989, .iconst 1, 1), (990, .iadd, 1), (991, .iaload, 1), (992, .aload_n 0, 1), (993, .iload_n 3, 1)] = true := by decide +kernel
theorem dL_law_942 : decode cL_law 942 = .ok (.iload_n 3, 1) := lw_dr lw_d_cL_law_942 0 rfl
theorem dL_law_943 : decode cL_law 943 = .ok (.iconst 1, 1) := lw_dr lw_d_cL_law_942 1 rfl
theorem dL_law_944 : decode cL_law 944 = .ok (.iadd, 1) := lw_dr lw_d_cL_law_942 2 rfl
theorem dL_law_945 : decode cL_law 945 = .ok (.iaload, 1) := lw_dr lw_d_cL_law_942 3 rfl
theorem dL_law_946 : decode cL_law 946 = .ok (.aload_n 0, 1) := lw_dr lw_d_cL_law_942 4 rfl
theorem dL_law_947 : decode cL_law 947 = .ok (.iload_n 3, 1) := lw_dr lw_d_cL_law_942 5 rfl
theorem dL_law_948 : decode cL_law 948 = .ok (.iconst 2, 1) := lw_dr lw_d_cL_law_942 6 rfl
theorem dL_law_949 : decode cL_law 949 = .ok (.iadd, 1) := lw_dr lw_d_cL_law_942 7 rfl
theorem dL_law_950 : decode cL_law 950 = .ok (.iaload, 1) := lw_dr lw_d_cL_law_942 8 rfl
theorem dL_law_951 : decode cL_law 951 = .ok (.invokevirtual 129, 3) := lw_dr lw_d_cL_law_942 9 rfl
theorem dL_law_954 : decode cL_law 954 = .ok (.pop, 1) := lw_dr lw_d_cL_law_942 10 rfl
theorem dL_law_955 : decode cL_law 955 = .ok (.goto 564, 3) := lw_dr lw_d_cL_law_942 11 rfl
theorem dL_law_958 : decode cL_law 958 = .ok (.aload_n 1, 1) := lw_dr lw_d_cL_law_942 12 rfl
theorem dL_law_959 : decode cL_law 959 = .ok (.aload_n 0, 1) := lw_dr lw_d_cL_law_942 13 rfl
theorem dL_law_960 : decode cL_law 960 = .ok (.iload_n 3, 1) := lw_dr lw_d_cL_law_942 14 rfl
theorem dL_law_961 : decode cL_law 961 = .ok (.iconst 1, 1) := lw_dr lw_d_cL_law_942 15 rfl
theorem dL_law_962 : decode cL_law 962 = .ok (.iadd, 1) := lw_dr lw_d_cL_law_942 16 rfl
theorem dL_law_963 : decode cL_law 963 = .ok (.iaload, 1) := lw_dr lw_d_cL_law_942 17 rfl
theorem dL_law_964 : decode cL_law 964 = .ok (.aload_n 0, 1) := lw_dr lw_d_cL_law_942 18 rfl
theorem dL_law_965 : decode cL_law 965 = .ok (.iload_n 3, 1) := lw_dr lw_d_cL_law_942 19 rfl
theorem dL_law_966 : decode cL_law 966 = .ok (.iconst 2, 1) := lw_dr lw_d_cL_law_942 20 rfl
theorem dL_law_967 : decode cL_law 967 = .ok (.iadd, 1) := lw_dr lw_d_cL_law_942 21 rfl
theorem dL_law_968 : decode cL_law 968 = .ok (.iaload, 1) := lw_dr lw_d_cL_law_942 22 rfl
theorem dL_law_969 : decode cL_law 969 = .ok (.aload_n 0, 1) := lw_dr lw_d_cL_law_942 23 rfl
theorem dL_law_970 : decode cL_law 970 = .ok (.iload_n 3, 1) := lw_dr lw_d_cL_law_942 24 rfl
theorem dL_law_971 : decode cL_law 971 = .ok (.iconst 3, 1) := lw_dr lw_d_cL_law_942 25 rfl
theorem dL_law_972 : decode cL_law 972 = .ok (.iadd, 1) := lw_dr lw_d_cL_law_942 26 rfl
theorem dL_law_973 : decode cL_law 973 = .ok (.iaload, 1) := lw_dr lw_d_cL_law_942 27 rfl
theorem dL_law_974 : decode cL_law 974 = .ok (.ifCond .eq 7, 3) := lw_dr lw_d_cL_law_942 28 rfl
theorem dL_law_981 : decode cL_law 981 = .ok (.iconst 0, 1) := lw_dr lw_d_cL_law_942 29 rfl
theorem dL_law_982 : decode cL_law 982 = .ok (.invokevirtual 130, 3) := lw_dr lw_d_cL_law_942 30 rfl
theorem dL_law_985 : decode cL_law 985 = .ok (.pop, 1) := lw_dr lw_d_cL_law_942 31 rfl
theorem dL_law_986 : decode cL_law 986 = .ok (.aload_n 2, 1) := lw_dr lw_d_cL_law_942 32 rfl
theorem dL_law_987 : decode cL_law 987 = .ok (.aload_n 0, 1) := lw_dr lw_d_cL_law_942 33 rfl
theorem dL_law_988 : decode cL_law 988 = .ok (.iload_n 3, 1) := lw_dr lw_d_cL_law_942 34 rfl
theorem dL_law_989 : decode cL_law 989 = .ok (.iconst 1, 1) := lw_dr lw_d_cL_law_942 35 rfl
theorem dL_law_990 : decode cL_law 990 = .ok (.iadd, 1) := lw_dr lw_d_cL_law_942 36 rfl
theorem dL_law_991 : decode cL_law 991 = .ok (.iaload, 1) := lw_dr lw_d_cL_law_942 37 rfl
theorem dL_law_992 : decode cL_law 992 = .ok (.aload_n 0, 1) := lw_dr lw_d_cL_law_942 38 rfl
theorem dL_law_993 : decode cL_law 993 = .ok (.iload_n 3, 1) := lw_dr lw_d_cL_law_942 39 rfl
theorem lw_d_cL_law_994 : lw_dl cL_law [(994, .iconst 2, 1), (995, .iadd, 1), (996, .iaload, 1), (997, .aload_n 0, 1), (998, .iload_n 3, 1), (999, .iconst 3, 1), (1000, .iadd, 1), (1001, .iaload, 1), (1002, .ifCond .eq 7, 3), (1009, .iconst 0, 1), (1010, .invokevirtual 133, 3), (1013, .pop, 1), (1014, .goto 505, 3), (1005, .iconst 1, 1), (1006, .goto 4, 3), (977, .iconst 1, 1), (978, .goto 4, 3), (1017, .aload_n 1, 1), (1018, .aload_n 0, 1), (1019, .iload_n 3, 1)] = true := by decide +kernel
theorem dL_law_994 : decode cL_law 994 = .ok (.iconst 2, 1) := lw_dr lw_d_cL_law_994 0 rfl
theorem dL_law_995 : decode cL_law 995 = .ok (.iadd, 1) := lw_dr lw_d_cL_law_994 1 rfl
theorem dL_law_996 : decode cL_law 996 = .ok (.iaload, 1) := lw_dr lw_d_cL_law_994 2 rfl
theorem dL_law_997 : decode cL_law 997 = .ok (.aload_n 0, 1) := lw_dr lw_d_cL_law_994 3 rfl
theorem dL_law_998 : decode cL_law 998 = .ok (.iload_n 3, 1) := lw_dr lw_d_cL_law_994 4 rfl
theorem dL_law_999 : decode cL_law 999 = .ok (.iconst 3, 1) := lw_dr lw_d_cL_law_994 5 rfl
theorem dL_law_1000 : decode cL_law 1000 = .ok (.iadd, 1) := lw_dr lw_d_cL_law_994 6 rfl
theorem dL_law_1001 : decode cL_law 1001 = .ok (.iaload, 1) := lw_dr lw_d_cL_law_994 7 rfl
theorem dL_law_1002 : decode cL_law 1002 = .ok (.ifCond .eq 7, 3) := lw_dr lw_d_cL_law_994 8 rfl
theorem dL_law_1009 : decode cL_law 1009 = .ok (.iconst 0, 1) := lw_dr lw_d_cL_law_994 9 rfl
theorem dL_law_1010 : decode cL_law 1010 = .ok (.invokevirtual 133, 3) := lw_dr lw_d_cL_law_994 10 rfl
theorem dL_law_1013 : decode cL_law 1013 = .ok (.pop, 1) := lw_dr lw_d_cL_law_994 11 rfl
theorem dL_law_1014 : decode cL_law 1014 = .ok (.goto 505, 3) := lw_dr lw_d_cL_law_994 12 rfl
theorem dL_law_1005 : decode cL_law 1005 = .ok (.iconst 1, 1) := lw_dr lw_d_cL_law_994 13 rfl
theorem dL_law_1006 : decode cL_law 1006 = .ok (.goto 4, 3) := lw_dr lw_d_cL_law_994 14 rfl
theorem dL_law_977 : decode cL_law 977 = .ok (.iconst 1, 1) := lw_dr lw_d_cL_law_994 15 rfl
theorem dL_law_978 : decode cL_law 978 = .ok (.goto 4, 3) := lw_dr lw_d_cL_law_994 16 rfl
theorem dL_law_1017 : decode cL_law 1017 = .ok (.aload_n 1, 1) := lw_dr lw_d_cL_law_994 17 rfl
theorem dL_law_1018 : decode cL_law 1018 = .ok (.aload_n 0, 1) := lw_dr lw_d_cL_law_994 18 rfl
theorem dL_law_1019 : decode cL_law 1019 = .ok (.iload_n 3, 1) := lw_dr lw_d_cL_law_994 19 rfl
theorem lw_d_cL_law_1020 : lw_dl cL_law [(1020, .iconst 1, 1), (1021, .iadd, 1), (1022, .iaload, 1), (1023, .ifCond .eq 7, 3), (1030, .iconst 0, 1), (1031, .invokevirtual 134, 3), (1034, .pop, 1), (1035, .aload_n 2, 1), (1036, .aload_n 0, 1), (1037, .iload_n 3, 1), (1038, .iconst 1, 1), (1039, .iadd, 1), (1040, .iaload, 1), (1041, .ifCond .eq 7, 3), (1048, .iconst 0, 1), (1049, .invokevirtual 138, 3), (1052, .pop, 1), (1053, .goto 466, 3), (1044, .iconst 1, 1), (1045, .goto 4, 3), (1026, .iconst 1, 1), (1027, .goto 4, 3), (1056, .aload_n 1, 1), (1057, .aload_n 0, 1), (1058, .iload_n 3, 1), (1059, .iconst 1, 1), (1060, .iadd, 1), (1061, .iaload, 1), (1062, .ifCond .eq 7, 3), (1069, .iconst 0, 1), (1070, .invokevirtual 139, 3), (1073, .pop2, 1), (1074, .aload_n 2, 1), (1075, .aload_n 0, 1), (1076, .iload_n 3, 1), (1077, .iconst 1, 1), (1078, .iadd, 1), (1079, .iaload, 1), (1080, .ifCond .eq 7, 3), (1087, .iconst 0, 1)] = true := by decide +kernel
theorem dL_law_1020 : decode cL_law 1020 = .ok (.iconst 1, 1) := lw_dr lw_d_cL_law_1020 0 rfl
theorem dL_law_1021 : decode cL_law 1021 = .ok (.iadd, 1) := lw_dr lw_d_cL_law_1020 1 rfl
theorem dL_law_1022 : decode cL_law 1022 = .ok (.iaload, 1) := lw_dr lw_d_cL_law_1020 2 rfl
theorem dL_law_1023 : decode cL_law 1023 = .ok (.ifCond .eq 7, 3) := lw_dr lw_d_cL_law_1020 3 rfl
theorem dL_law_1030 : decode cL_law 1030 = .ok (.iconst 0, 1) := lw_dr lw_d_cL_law_1020 4 rfl
theorem dL_law_1031 : decode cL_law 1031 = .ok (.invokevirtual 134, 3) := lw_dr lw_d_cL_law_1020 5 rfl
theorem dL_law_1034 : decode cL_law 1034 = .ok (.pop, 1) := lw_dr lw_d_cL_law_1020 6 rfl
theorem dL_law_1035 : decode cL_law 1035 = .ok (.aload_n 2, 1) := lw_dr lw_d_cL_law_1020 7 rfl
theorem dL_law_1036 : decode cL_law 1036 = .ok (.aload_n 0, 1) := lw_dr lw_d_cL_law_1020 8 rfl
theorem dL_law_1037 : decode cL_law 1037 = .ok (.iload_n 3, 1) := lw_dr lw_d_cL_law_1020 9 rfl
theorem dL_law_1038 : decode cL_law 1038 = .ok (.iconst 1, 1) := lw_dr lw_d_cL_law_1020 10 rfl
theorem dL_law_1039 : decode cL_law 1039 = .ok (.iadd, 1) := lw_dr lw_d_cL_law_1020 11 rfl
theorem dL_law_1040 : decode cL_law 1040 = .ok (.iaload, 1) := lw_dr lw_d_cL_law_1020 12 rfl
theorem dL_law_1041 : decode cL_law 1041 = .ok (.ifCond .eq 7, 3) := lw_dr lw_d_cL_law_1020 13 rfl
theorem dL_law_1048 : decode cL_law 1048 = .ok (.iconst 0, 1) := lw_dr lw_d_cL_law_1020 14 rfl
theorem dL_law_1049 : decode cL_law 1049 = .ok (.invokevirtual 138, 3) := lw_dr lw_d_cL_law_1020 15 rfl
theorem dL_law_1052 : decode cL_law 1052 = .ok (.pop, 1) := lw_dr lw_d_cL_law_1020 16 rfl
theorem dL_law_1053 : decode cL_law 1053 = .ok (.goto 466, 3) := lw_dr lw_d_cL_law_1020 17 rfl
theorem dL_law_1044 : decode cL_law 1044 = .ok (.iconst 1, 1) := lw_dr lw_d_cL_law_1020 18 rfl
theorem dL_law_1045 : decode cL_law 1045 = .ok (.goto 4, 3) := lw_dr lw_d_cL_law_1020 19 rfl
theorem dL_law_1026 : decode cL_law 1026 = .ok (.iconst 1, 1) := lw_dr lw_d_cL_law_1020 20 rfl
theorem dL_law_1027 : decode cL_law 1027 = .ok (.goto 4, 3) := lw_dr lw_d_cL_law_1020 21 rfl
theorem dL_law_1056 : decode cL_law 1056 = .ok (.aload_n 1, 1) := lw_dr lw_d_cL_law_1020 22 rfl
theorem dL_law_1057 : decode cL_law 1057 = .ok (.aload_n 0, 1) := lw_dr lw_d_cL_law_1020 23 rfl
theorem dL_law_1058 : decode cL_law 1058 = .ok (.iload_n 3, 1) := lw_dr lw_d_cL_law_1020 24 rfl
theorem dL_law_1059 : decode cL_law 1059 = .ok (.iconst 1, 1) := lw_dr lw_d_cL_law_1020 25 rfl
theorem dL_law_1060 : decode cL_law 1060 = .ok (.iadd, 1) := lw_dr lw_d_cL_law_1020 26 rfl
theorem dL_law_1061 : decode cL_law 1061 = .ok (.iaload, 1) := lw_dr lw_d_cL_law_1020 27 rfl
theorem dL_law_1062 : decode cL_law 1062 = .ok (.ifCond .eq 7, 3) := lw_dr lw_d_cL_law_1020 28 rfl
theorem dL_law_1069 : decode cL_law 1069 = .ok (.iconst 0, 1) := lw_dr lw_d_cL_law_1020 29 rfl
theorem dL_law_1070 : decode cL_law 1070 = .ok (.invokevirtual 139, 3) := lw_dr lw_d_cL_law_1020 30 rfl
theorem dL_law_1073 : decode cL_law 1073 = .ok (.pop2, 1) := lw_dr lw_d_cL_law_1020 31 rfl
theorem dL_law_1074 : decode cL_law 1074 = .ok (.aload_n 2, 1) := lw_dr lw_d_cL_law_1020 32 rfl
theorem dL_law_1075 : decode cL_law 1075 = .ok (.aload_n 0, 1) := lw_dr lw_d_cL_law_1020 33 rfl
theorem dL_law_1076 : decode cL_law 1076 = .ok (.iload_n 3, 1) := lw_dr lw_d_cL_law_1020 34 rfl
theorem dL_law_1077 : decode cL_law 1077 = .ok (.iconst 1, 1) := lw_dr lw_d_cL_law_1020 35 rfl
theorem dL_law_1078 : decode cL_law 1078 = .ok (.iadd, 1) := lw_dr lw_d_cL_law_1020 36 rfl
theorem dL_law_1079 : decode cL_law 1079 = .ok (.iaload, 1) := lw_dr lw_d_cL_law_1020 37 rfl
theorem dL_law_1080 : decode cL_law 1080 = .ok (.ifCond .eq 7, 3) := lw_dr lw_d_cL_law_1020 38 rfl
theorem dL_law_1087 : decode cL_law 1087 = .ok (.iconst 0, 1) := lw_dr lw_d_cL_law_1020 39 rfl
theorem lw_d_cL_law_1088 : lw_dl cL_law [(1088, .invokevirtual 143, 3), (1091, .pop2, 1), (1092, .goto 427, 3), (1083, .iconst 1, 1), (1084, .goto 4, 3), (1065, .iconst 1, 1), (1066, .goto 4, 3), (1095, .aload_n 1, 1), (1096, .aload_n 0, 1), (1097, .iload_n 3, 1), (1098, .iconst 1, 1), (1099, .iadd, 1), (1100, .iaload, 1), (1101, .aload_n 0, 1), (1102, .iload_n 3, 1), (1103, .iconst 2, 1), (1104, .iadd, 1), (1105, .iaload, 1), (1106, .aload_n 0, 1), (1107, .iload_n 3, 1), (1108, .iconst 3, 1), (1109, .iadd, 1), (1110, .iaload, 1), (1111, .invokevirtual 144, 3), (1114, .pop2, 1), (1115, .aload_n 2, 1), (1116, .aload_n 0, 1), (1117, .iload_n 3, 1), (1118, .iconst 1, 1), (1119, .iadd, 1), (1120, .iaload, 1), (1121, .aload_n 0, 1), (1122, .iload_n 3, 1), (1123, .iconst 2, 1), (1124, .iadd, 1), (1125, .iaload, 1), (1126, .aload_n 0, 1), (1127, .iload_n 3, 1), (1128, .iconst 3, 1), (1129, .iadd, 1)] = true := by decide +kernel
theorem dL_law_1088 : decode cL_law 1088 = .ok (.invokevirtual 143, 3) := lw_dr lw_d_cL_law_1088 0 rfl
theorem dL_law_1091 : decode cL_law 1091 = .ok (.pop2, 1) := lw_dr lw_d_cL_law_1088 1 rfl
theorem dL_law_1092 : decode cL_law 1092 = .ok (.goto 427, 3) := lw_dr lw_d_cL_law_1088 2 rfl
theorem dL_law_1083 : decode cL_law 1083 = .ok (.iconst 1, 1) := lw_dr lw_d_cL_law_1088 3 rfl
theorem dL_law_1084 : decode cL_law 1084 = .ok (.goto 4, 3) := lw_dr lw_d_cL_law_1088 4 rfl
theorem dL_law_1065 : decode cL_law 1065 = .ok (.iconst 1, 1) := lw_dr lw_d_cL_law_1088 5 rfl
theorem dL_law_1066 : decode cL_law 1066 = .ok (.goto 4, 3) := lw_dr lw_d_cL_law_1088 6 rfl
theorem dL_law_1095 : decode cL_law 1095 = .ok (.aload_n 1, 1) := lw_dr lw_d_cL_law_1088 7 rfl
theorem dL_law_1096 : decode cL_law 1096 = .ok (.aload_n 0, 1) := lw_dr lw_d_cL_law_1088 8 rfl
theorem dL_law_1097 : decode cL_law 1097 = .ok (.iload_n 3, 1) := lw_dr lw_d_cL_law_1088 9 rfl
theorem dL_law_1098 : decode cL_law 1098 = .ok (.iconst 1, 1) := lw_dr lw_d_cL_law_1088 10 rfl
theorem dL_law_1099 : decode cL_law 1099 = .ok (.iadd, 1) := lw_dr lw_d_cL_law_1088 11 rfl
theorem dL_law_1100 : decode cL_law 1100 = .ok (.iaload, 1) := lw_dr lw_d_cL_law_1088 12 rfl
theorem dL_law_1101 : decode cL_law 1101 = .ok (.aload_n 0, 1) := lw_dr lw_d_cL_law_1088 13 rfl
theorem dL_law_1102 : decode cL_law 1102 = .ok (.iload_n 3, 1) := lw_dr lw_d_cL_law_1088 14 rfl
theorem dL_law_1103 : decode cL_law 1103 = .ok (.iconst 2, 1) := lw_dr lw_d_cL_law_1088 15 rfl
theorem dL_law_1104 : decode cL_law 1104 = .ok (.iadd, 1) := lw_dr lw_d_cL_law_1088 16 rfl
theorem dL_law_1105 : decode cL_law 1105 = .ok (.iaload, 1) := lw_dr lw_d_cL_law_1088 17 rfl
theorem dL_law_1106 : decode cL_law 1106 = .ok (.aload_n 0, 1) := lw_dr lw_d_cL_law_1088 18 rfl
theorem dL_law_1107 : decode cL_law 1107 = .ok (.iload_n 3, 1) := lw_dr lw_d_cL_law_1088 19 rfl
theorem dL_law_1108 : decode cL_law 1108 = .ok (.iconst 3, 1) := lw_dr lw_d_cL_law_1088 20 rfl
theorem dL_law_1109 : decode cL_law 1109 = .ok (.iadd, 1) := lw_dr lw_d_cL_law_1088 21 rfl
theorem dL_law_1110 : decode cL_law 1110 = .ok (.iaload, 1) := lw_dr lw_d_cL_law_1088 22 rfl
theorem dL_law_1111 : decode cL_law 1111 = .ok (.invokevirtual 144, 3) := lw_dr lw_d_cL_law_1088 23 rfl
theorem dL_law_1114 : decode cL_law 1114 = .ok (.pop2, 1) := lw_dr lw_d_cL_law_1088 24 rfl
theorem dL_law_1115 : decode cL_law 1115 = .ok (.aload_n 2, 1) := lw_dr lw_d_cL_law_1088 25 rfl
theorem dL_law_1116 : decode cL_law 1116 = .ok (.aload_n 0, 1) := lw_dr lw_d_cL_law_1088 26 rfl
theorem dL_law_1117 : decode cL_law 1117 = .ok (.iload_n 3, 1) := lw_dr lw_d_cL_law_1088 27 rfl
theorem dL_law_1118 : decode cL_law 1118 = .ok (.iconst 1, 1) := lw_dr lw_d_cL_law_1088 28 rfl
theorem dL_law_1119 : decode cL_law 1119 = .ok (.iadd, 1) := lw_dr lw_d_cL_law_1088 29 rfl
theorem dL_law_1120 : decode cL_law 1120 = .ok (.iaload, 1) := lw_dr lw_d_cL_law_1088 30 rfl
theorem dL_law_1121 : decode cL_law 1121 = .ok (.aload_n 0, 1) := lw_dr lw_d_cL_law_1088 31 rfl
theorem dL_law_1122 : decode cL_law 1122 = .ok (.iload_n 3, 1) := lw_dr lw_d_cL_law_1088 32 rfl
theorem dL_law_1123 : decode cL_law 1123 = .ok (.iconst 2, 1) := lw_dr lw_d_cL_law_1088 33 rfl
theorem dL_law_1124 : decode cL_law 1124 = .ok (.iadd, 1) := lw_dr lw_d_cL_law_1088 34 rfl
theorem dL_law_1125 : decode cL_law 1125 = .ok (.iaload, 1) := lw_dr lw_d_cL_law_1088 35 rfl
theorem dL_law_1126 : decode cL_law 1126 = .ok (.aload_n 0, 1) := lw_dr lw_d_cL_law_1088 36 rfl
theorem dL_law_1127 : decode cL_law 1127 = .ok (.iload_n 3, 1) := lw_dr lw_d_cL_law_1088 37 rfl
theorem dL_law_1128 : decode cL_law 1128 = .ok (.iconst 3, 1) := lw_dr lw_d_cL_law_1088 38 rfl
theorem dL_law_1129 : decode cL_law 1129 = .ok (.iadd, 1) := lw_dr lw_d_cL_law_1088 39 rfl
theorem lw_d_cL_law_1130 : lw_dl cL_law [(1130, .iaload, 1), (1131, .invokevirtual 148, 3), (1134, .pop2, 1), (1135, .goto 384, 3), (1138, .aload_n 1, 1), (1139, .aload_n 0, 1), (1140, .iload_n 3, 1), (1141, .iconst 1, 1), (1142, .iadd, 1), (1143, .iaload, 1), (1144, .invokevirtual 149, 3), (1147, .pop2, 1), (1148, .aload_n 2, 1), (1149, .aload_n 0, 1), (1150, .iload_n 3, 1), (1151, .iconst 1, 1), (1152, .iadd, 1), (1153, .iaload, 1), (1154, .invokevirtual 152, 3), (1157, .pop2, 1), (1158, .goto 361, 3), (1161, .aload_n 1, 1), (1162, .aload_n 0, 1), (1163, .iload_n 3, 1), (1164, .iconst 1, 1), (1165, .iadd, 1), (1166, .iaload, 1), (1167, .aload_n 0, 1), (1168, .iload_n 3, 1), (1169, .iconst 2, 1), (1170, .iadd, 1), (1171, .iaload, 1), (1172, .invokevirtual 153, 3), (1175, .aload_n 2, 1), (1176, .aload_n 0, 1), (1177, .iload_n 3, 1), (1178, .iconst 1, 1), (1179, .iadd, 1), (1180, .iaload, 1), (1181, .aload_n 0, 1)] = true := by decide +kernel
theorem dL_law_1130 : decode cL_law 1130 = .ok (.iaload, 1) := lw_dr lw_d_cL_law_1130 0 rfl
theorem dL_law_1131 : decode cL_law 1131 = .ok (.invokevirtual 148, 3) := lw_dr lw_d_cL_law_1130 1 rfl
theorem dL_law_1134 : decode cL_law 1134 = .ok (.pop2, 1) := lw_dr lw_d_cL_law_1130 2 rfl
theorem dL_law_1135 : decode cL_law 1135 = .ok (.goto 384, 3) := lw_dr lw_d_cL_law_1130 3 rfl
theorem dL_law_1138 : decode cL_law 1138 = .ok (.aload_n 1, 1) := lw_dr lw_d_cL_law_1130 4 rfl
theorem dL_law_1139 : decode cL_law 1139 = .ok (.aload_n 0, 1) := lw_dr lw_d_cL_law_1130 5 rfl
theorem dL_law_1140 : decode cL_law 1140 = .ok (.iload_n 3, 1) := lw_dr lw_d_cL_law_1130 6 rfl
theorem dL_law_1141 : decode cL_law 1141 = .ok (.iconst 1, 1) := lw_dr lw_d_cL_law_1130 7 rfl
theorem dL_law_1142 : decode cL_law 1142 = .ok (.iadd, 1) := lw_dr lw_d_cL_law_1130 8 rfl
theorem dL_law_1143 : decode cL_law 1143 = .ok (.iaload, 1) := lw_dr lw_d_cL_law_1130 9 rfl
theorem dL_law_1144 : decode cL_law 1144 = .ok (.invokevirtual 149, 3) := lw_dr lw_d_cL_law_1130 10 rfl
theorem dL_law_1147 : decode cL_law 1147 = .ok (.pop2, 1) := lw_dr lw_d_cL_law_1130 11 rfl
theorem dL_law_1148 : decode cL_law 1148 = .ok (.aload_n 2, 1) := lw_dr lw_d_cL_law_1130 12 rfl
theorem dL_law_1149 : decode cL_law 1149 = .ok (.aload_n 0, 1) := lw_dr lw_d_cL_law_1130 13 rfl
theorem dL_law_1150 : decode cL_law 1150 = .ok (.iload_n 3, 1) := lw_dr lw_d_cL_law_1130 14 rfl
theorem dL_law_1151 : decode cL_law 1151 = .ok (.iconst 1, 1) := lw_dr lw_d_cL_law_1130 15 rfl
theorem dL_law_1152 : decode cL_law 1152 = .ok (.iadd, 1) := lw_dr lw_d_cL_law_1130 16 rfl
theorem dL_law_1153 : decode cL_law 1153 = .ok (.iaload, 1) := lw_dr lw_d_cL_law_1130 17 rfl
theorem dL_law_1154 : decode cL_law 1154 = .ok (.invokevirtual 152, 3) := lw_dr lw_d_cL_law_1130 18 rfl
theorem dL_law_1157 : decode cL_law 1157 = .ok (.pop2, 1) := lw_dr lw_d_cL_law_1130 19 rfl
theorem dL_law_1158 : decode cL_law 1158 = .ok (.goto 361, 3) := lw_dr lw_d_cL_law_1130 20 rfl
theorem dL_law_1161 : decode cL_law 1161 = .ok (.aload_n 1, 1) := lw_dr lw_d_cL_law_1130 21 rfl
theorem dL_law_1162 : decode cL_law 1162 = .ok (.aload_n 0, 1) := lw_dr lw_d_cL_law_1130 22 rfl
theorem dL_law_1163 : decode cL_law 1163 = .ok (.iload_n 3, 1) := lw_dr lw_d_cL_law_1130 23 rfl
theorem dL_law_1164 : decode cL_law 1164 = .ok (.iconst 1, 1) := lw_dr lw_d_cL_law_1130 24 rfl
theorem dL_law_1165 : decode cL_law 1165 = .ok (.iadd, 1) := lw_dr lw_d_cL_law_1130 25 rfl
theorem dL_law_1166 : decode cL_law 1166 = .ok (.iaload, 1) := lw_dr lw_d_cL_law_1130 26 rfl
theorem dL_law_1167 : decode cL_law 1167 = .ok (.aload_n 0, 1) := lw_dr lw_d_cL_law_1130 27 rfl
theorem dL_law_1168 : decode cL_law 1168 = .ok (.iload_n 3, 1) := lw_dr lw_d_cL_law_1130 28 rfl
theorem dL_law_1169 : decode cL_law 1169 = .ok (.iconst 2, 1) := lw_dr lw_d_cL_law_1130 29 rfl
theorem dL_law_1170 : decode cL_law 1170 = .ok (.iadd, 1) := lw_dr lw_d_cL_law_1130 30 rfl
theorem dL_law_1171 : decode cL_law 1171 = .ok (.iaload, 1) := lw_dr lw_d_cL_law_1130 31 rfl
theorem dL_law_1172 : decode cL_law 1172 = .ok (.invokevirtual 153, 3) := lw_dr lw_d_cL_law_1130 32 rfl
theorem dL_law_1175 : decode cL_law 1175 = .ok (.aload_n 2, 1) := lw_dr lw_d_cL_law_1130 33 rfl
theorem dL_law_1176 : decode cL_law 1176 = .ok (.aload_n 0, 1) := lw_dr lw_d_cL_law_1130 34 rfl
theorem dL_law_1177 : decode cL_law 1177 = .ok (.iload_n 3, 1) := lw_dr lw_d_cL_law_1130 35 rfl
theorem dL_law_1178 : decode cL_law 1178 = .ok (.iconst 1, 1) := lw_dr lw_d_cL_law_1130 36 rfl
theorem dL_law_1179 : decode cL_law 1179 = .ok (.iadd, 1) := lw_dr lw_d_cL_law_1130 37 rfl
theorem dL_law_1180 : decode cL_law 1180 = .ok (.iaload, 1) := lw_dr lw_d_cL_law_1130 38 rfl
theorem dL_law_1181 : decode cL_law 1181 = .ok (.aload_n 0, 1) := lw_dr lw_d_cL_law_1130 39 rfl
theorem lw_d_cL_law_1182 : lw_dl cL_law [(1182, .iload_n 3, 1), (1183, .iconst 2, 1), (1184, .iadd, 1), (1185, .iaload, 1), (1186, .invokevirtual 156, 3), (1189, .if_icmp .eq 330, 3), (1192, .iconst 0, 1), (1194, .aload_n 1, 1), (1195, .aload_n 0, 1), (1196, .iload_n 3, 1), (1197, .iconst 1, 1), (1198, .iadd, 1), (1199, .iaload, 1), (1200, .invokevirtual 157, 3), (1203, .pop2, 1), (1204, .aload_n 2, 1), (1205, .aload_n 0, 1), (1206, .iload_n 3, 1), (1207, .iconst 1, 1), (1208, .iadd, 1), (1209, .iaload, 1), (1210, .invokevirtual 160, 3), (1213, .pop2, 1), (1214, .goto 305, 3), (1217, .aload_n 1, 1), (1218, .invokevirtual 161, 3), (1221, .pop, 1), (1222, .aload_n 2, 1), (1223, .invokevirtual 164, 3), (1226, .pop, 1), (1227, .goto 292, 3), (1230, .aload_n 1, 1), (1231, .aload_n 0, 1), (1232, .iload_n 3, 1), (1233, .iconst 1, 1), (1234, .iadd, 1), (1235, .iaload, 1), (1236, .invokevirtual 165, 3), (1239, .pop2, 1), (1240, .aload_n 2, 1)] = true := by decide +kernel
theorem dL_law_1182 : decode cL_law 1182 = .ok (.iload_n 3, 1) := lw_dr lw_d_cL_law_1182 0 rfl
theorem dL_law_1183 : decode cL_law 1183 = .ok (.iconst 2, 1) := lw_dr lw_d_cL_law_1182 1 rfl
theorem dL_law_1184 : decode cL_law 1184 = .ok (.iadd, 1) := lw_dr lw_d_cL_law_1182 2 rfl
theorem dL_law_1185 : decode cL_law 1185 = .ok (.iaload, 1) := lw_dr lw_d_cL_law_1182 3 rfl
theorem dL_law_1186 : decode cL_law 1186 = .ok (.invokevirtual 156, 3) := lw_dr lw_d_cL_law_1182 4 rfl
theorem dL_law_1189 : decode cL_law 1189 = .ok (.if_icmp .eq 330, 3) := lw_dr lw_d_cL_law_1182 5 rfl
theorem dL_law_1192 : decode cL_law 1192 = .ok (.iconst 0, 1) := lw_dr lw_d_cL_law_1182 6 rfl
theorem dL_law_1194 : decode cL_law 1194 = .ok (.aload_n 1, 1) := lw_dr lw_d_cL_law_1182 7 rfl
theorem dL_law_1195 : decode cL_law 1195 = .ok (.aload_n 0, 1) := lw_dr lw_d_cL_law_1182 8 rfl
theorem dL_law_1196 : decode cL_law 1196 = .ok (.iload_n 3, 1) := lw_dr lw_d_cL_law_1182 9 rfl
theorem dL_law_1197 : decode cL_law 1197 = .ok (.iconst 1, 1) := lw_dr lw_d_cL_law_1182 10 rfl
theorem dL_law_1198 : decode cL_law 1198 = .ok (.iadd, 1) := lw_dr lw_d_cL_law_1182 11 rfl
theorem dL_law_1199 : decode cL_law 1199 = .ok (.iaload, 1) := lw_dr lw_d_cL_law_1182 12 rfl
theorem dL_law_1200 : decode cL_law 1200 = .ok (.invokevirtual 157, 3) := lw_dr lw_d_cL_law_1182 13 rfl
theorem dL_law_1203 : decode cL_law 1203 = .ok (.pop2, 1) := lw_dr lw_d_cL_law_1182 14 rfl
theorem dL_law_1204 : decode cL_law 1204 = .ok (.aload_n 2, 1) := lw_dr lw_d_cL_law_1182 15 rfl
theorem dL_law_1205 : decode cL_law 1205 = .ok (.aload_n 0, 1) := lw_dr lw_d_cL_law_1182 16 rfl
theorem dL_law_1206 : decode cL_law 1206 = .ok (.iload_n 3, 1) := lw_dr lw_d_cL_law_1182 17 rfl
theorem dL_law_1207 : decode cL_law 1207 = .ok (.iconst 1, 1) := lw_dr lw_d_cL_law_1182 18 rfl
theorem dL_law_1208 : decode cL_law 1208 = .ok (.iadd, 1) := lw_dr lw_d_cL_law_1182 19 rfl
theorem dL_law_1209 : decode cL_law 1209 = .ok (.iaload, 1) := lw_dr lw_d_cL_law_1182 20 rfl
theorem dL_law_1210 : decode cL_law 1210 = .ok (.invokevirtual 160, 3) := lw_dr lw_d_cL_law_1182 21 rfl
theorem dL_law_1213 : decode cL_law 1213 = .ok (.pop2, 1) := lw_dr lw_d_cL_law_1182 22 rfl
theorem dL_law_1214 : decode cL_law 1214 = .ok (.goto 305, 3) := lw_dr lw_d_cL_law_1182 23 rfl
theorem dL_law_1217 : decode cL_law 1217 = .ok (.aload_n 1, 1) := lw_dr lw_d_cL_law_1182 24 rfl
theorem dL_law_1218 : decode cL_law 1218 = .ok (.invokevirtual 161, 3) := lw_dr lw_d_cL_law_1182 25 rfl
theorem dL_law_1221 : decode cL_law 1221 = .ok (.pop, 1) := lw_dr lw_d_cL_law_1182 26 rfl
theorem dL_law_1222 : decode cL_law 1222 = .ok (.aload_n 2, 1) := lw_dr lw_d_cL_law_1182 27 rfl
theorem dL_law_1223 : decode cL_law 1223 = .ok (.invokevirtual 164, 3) := lw_dr lw_d_cL_law_1182 28 rfl
theorem dL_law_1226 : decode cL_law 1226 = .ok (.pop, 1) := lw_dr lw_d_cL_law_1182 29 rfl
theorem dL_law_1227 : decode cL_law 1227 = .ok (.goto 292, 3) := lw_dr lw_d_cL_law_1182 30 rfl
theorem dL_law_1230 : decode cL_law 1230 = .ok (.aload_n 1, 1) := lw_dr lw_d_cL_law_1182 31 rfl
theorem dL_law_1231 : decode cL_law 1231 = .ok (.aload_n 0, 1) := lw_dr lw_d_cL_law_1182 32 rfl
theorem dL_law_1232 : decode cL_law 1232 = .ok (.iload_n 3, 1) := lw_dr lw_d_cL_law_1182 33 rfl
theorem dL_law_1233 : decode cL_law 1233 = .ok (.iconst 1, 1) := lw_dr lw_d_cL_law_1182 34 rfl
theorem dL_law_1234 : decode cL_law 1234 = .ok (.iadd, 1) := lw_dr lw_d_cL_law_1182 35 rfl
theorem dL_law_1235 : decode cL_law 1235 = .ok (.iaload, 1) := lw_dr lw_d_cL_law_1182 36 rfl
theorem dL_law_1236 : decode cL_law 1236 = .ok (.invokevirtual 165, 3) := lw_dr lw_d_cL_law_1182 37 rfl
theorem dL_law_1239 : decode cL_law 1239 = .ok (.pop2, 1) := lw_dr lw_d_cL_law_1182 38 rfl
theorem dL_law_1240 : decode cL_law 1240 = .ok (.aload_n 2, 1) := lw_dr lw_d_cL_law_1182 39 rfl
theorem lw_d_cL_law_1241 : lw_dl cL_law [(1241, .aload_n 0, 1), (1242, .iload_n 3, 1), (1243, .iconst 1, 1), (1244, .iadd, 1), (1245, .iaload, 1), (1246, .invokevirtual 168, 3), (1249, .pop2, 1), (1250, .goto 269, 3), (1253, .aload_n 1, 1), (1254, .aload_n 0, 1), (1255, .iload_n 3, 1), (1256, .iconst 1, 1), (1257, .iadd, 1), (1258, .iaload, 1), (1259, .invokevirtual 169, 3), (1262, .pop, 1), (1263, .aload_n 2, 1), (1264, .aload_n 0, 1), (1265, .iload_n 3, 1), (1266, .iconst 1, 1), (1267, .iadd, 1), (1268, .iaload, 1), (1269, .invokevirtual 172, 3), (1272, .pop, 1), (1273, .goto 246, 3), (1276, .aload_n 1, 1), (1277, .aload_n 0, 1), (1278, .iload_n 3, 1), (1279, .iconst 1, 1), (1280, .iadd, 1), (1281, .iaload, 1), (1282, .aload_n 0, 1), (1283, .iload_n 3, 1), (1284, .iconst 2, 1), (1285, .iadd, 1), (1286, .iaload, 1), (1287, .invokevirtual 173, 3), (1290, .pop, 1), (1291, .aload_n 2, 1), (1292, .aload_n 0, 1)] = true := by decide +kernel
theorem dL_law_1241 : decode cL_law 1241 = .ok (.aload_n 0, 1) := lw_dr lw_d_cL_law_1241 0 rfl
theorem dL_law_1242 : decode cL_law 1242 = .ok (.iload_n 3, 1) := lw_dr lw_d_cL_law_1241 1 rfl
theorem dL_law_1243 : decode cL_law 1243 = .ok (.iconst 1, 1) := lw_dr lw_d_cL_law_1241 2 rfl
theorem dL_law_1244 : decode cL_law 1244 = .ok (.iadd, 1) := lw_dr lw_d_cL_law_1241 3 rfl
theorem dL_law_1245 : decode cL_law 1245 = .ok (.iaload, 1) := lw_dr lw_d_cL_law_1241 4 rfl
theorem dL_law_1246 : decode cL_law 1246 = .ok (.invokevirtual 168, 3) := lw_dr lw_d_cL_law_1241 5 rfl
theorem dL_law_1249 : decode cL_law 1249 = .ok (.pop2, 1) := lw_dr lw_d_cL_law_1241 6 rfl
theorem dL_law_1250 : decode cL_law 1250 = .ok (.goto 269, 3) := lw_dr lw_d_cL_law_1241 7 rfl
theorem dL_law_1253 : decode cL_law 1253 = .ok (.aload_n 1, 1) := lw_dr lw_d_cL_law_1241 8 rfl
theorem dL_law_1254 : decode cL_law 1254 = .ok (.aload_n 0, 1) := lw_dr lw_d_cL_law_1241 9 rfl
theorem dL_law_1255 : decode cL_law 1255 = .ok (.iload_n 3, 1) := lw_dr lw_d_cL_law_1241 10 rfl
theorem dL_law_1256 : decode cL_law 1256 = .ok (.iconst 1, 1) := lw_dr lw_d_cL_law_1241 11 rfl
theorem dL_law_1257 : decode cL_law 1257 = .ok (.iadd, 1) := lw_dr lw_d_cL_law_1241 12 rfl
theorem dL_law_1258 : decode cL_law 1258 = .ok (.iaload, 1) := lw_dr lw_d_cL_law_1241 13 rfl
theorem dL_law_1259 : decode cL_law 1259 = .ok (.invokevirtual 169, 3) := lw_dr lw_d_cL_law_1241 14 rfl
theorem dL_law_1262 : decode cL_law 1262 = .ok (.pop, 1) := lw_dr lw_d_cL_law_1241 15 rfl
theorem dL_law_1263 : decode cL_law 1263 = .ok (.aload_n 2, 1) := lw_dr lw_d_cL_law_1241 16 rfl
theorem dL_law_1264 : decode cL_law 1264 = .ok (.aload_n 0, 1) := lw_dr lw_d_cL_law_1241 17 rfl
theorem dL_law_1265 : decode cL_law 1265 = .ok (.iload_n 3, 1) := lw_dr lw_d_cL_law_1241 18 rfl
theorem dL_law_1266 : decode cL_law 1266 = .ok (.iconst 1, 1) := lw_dr lw_d_cL_law_1241 19 rfl
theorem dL_law_1267 : decode cL_law 1267 = .ok (.iadd, 1) := lw_dr lw_d_cL_law_1241 20 rfl
theorem dL_law_1268 : decode cL_law 1268 = .ok (.iaload, 1) := lw_dr lw_d_cL_law_1241 21 rfl
theorem dL_law_1269 : decode cL_law 1269 = .ok (.invokevirtual 172, 3) := lw_dr lw_d_cL_law_1241 22 rfl
theorem dL_law_1272 : decode cL_law 1272 = .ok (.pop, 1) := lw_dr lw_d_cL_law_1241 23 rfl
theorem dL_law_1273 : decode cL_law 1273 = .ok (.goto 246, 3) := lw_dr lw_d_cL_law_1241 24 rfl
theorem dL_law_1276 : decode cL_law 1276 = .ok (.aload_n 1, 1) := lw_dr lw_d_cL_law_1241 25 rfl
theorem dL_law_1277 : decode cL_law 1277 = .ok (.aload_n 0, 1) := lw_dr lw_d_cL_law_1241 26 rfl
theorem dL_law_1278 : decode cL_law 1278 = .ok (.iload_n 3, 1) := lw_dr lw_d_cL_law_1241 27 rfl
theorem dL_law_1279 : decode cL_law 1279 = .ok (.iconst 1, 1) := lw_dr lw_d_cL_law_1241 28 rfl
theorem dL_law_1280 : decode cL_law 1280 = .ok (.iadd, 1) := lw_dr lw_d_cL_law_1241 29 rfl
theorem dL_law_1281 : decode cL_law 1281 = .ok (.iaload, 1) := lw_dr lw_d_cL_law_1241 30 rfl
theorem dL_law_1282 : decode cL_law 1282 = .ok (.aload_n 0, 1) := lw_dr lw_d_cL_law_1241 31 rfl
theorem dL_law_1283 : decode cL_law 1283 = .ok (.iload_n 3, 1) := lw_dr lw_d_cL_law_1241 32 rfl
theorem dL_law_1284 : decode cL_law 1284 = .ok (.iconst 2, 1) := lw_dr lw_d_cL_law_1241 33 rfl
theorem dL_law_1285 : decode cL_law 1285 = .ok (.iadd, 1) := lw_dr lw_d_cL_law_1241 34 rfl
theorem dL_law_1286 : decode cL_law 1286 = .ok (.iaload, 1) := lw_dr lw_d_cL_law_1241 35 rfl
theorem dL_law_1287 : decode cL_law 1287 = .ok (.invokevirtual 173, 3) := lw_dr lw_d_cL_law_1241 36 rfl
theorem dL_law_1290 : decode cL_law 1290 = .ok (.pop, 1) := lw_dr lw_d_cL_law_1241 37 rfl
theorem dL_law_1291 : decode cL_law 1291 = .ok (.aload_n 2, 1) := lw_dr lw_d_cL_law_1241 38 rfl
theorem dL_law_1292 : decode cL_law 1292 = .ok (.aload_n 0, 1) := lw_dr lw_d_cL_law_1241 39 rfl
theorem lw_d_cL_law_1293 : lw_dl cL_law [(1293, .iload_n 3, 1), (1294, .iconst 1, 1), (1295, .iadd, 1), (1296, .iaload, 1), (1297, .aload_n 0, 1), (1298, .iload_n 3, 1), (1299, .iconst 2, 1), (1300, .iadd, 1), (1301, .iaload, 1), (1302, .invokevirtual 176, 3), (1305, .pop, 1), (1306, .goto 213, 3), (1309, .aload_n 1, 1), (1310, .aload_n 0, 1), (1311, .iload_n 3, 1), (1312, .iconst 1, 1), (1313, .iadd, 1), (1314, .iaload, 1), (1315, .ifCond .eq 7, 3), (1322, .iconst 0, 1), (1323, .invokevirtual 177, 3), (1326, .pop2, 1), (1327, .aload_n 2, 1), (1328, .aload_n 0, 1), (1329, .iload_n 3, 1), (1330, .iconst 1, 1), (1331, .iadd, 1), (1332, .iaload, 1), (1333, .ifCond .eq 7, 3), (1340, .iconst 0, 1), (1341, .invokevirtual 180, 3), (1344, .pop2, 1), (1345, .goto 174, 3), (1336, .iconst 1, 1), (1337, .goto 4, 3), (1318, .iconst 1, 1), (1319, .goto 4, 3), (1348, .aload_n 1, 1), (1349, .invokevirtual 181, 3), (1352, .pop2, 1)] = true := by decide +kernel
theorem dL_law_1293 : decode cL_law 1293 = .ok (.iload_n 3, 1) := lw_dr lw_d_cL_law_1293 0 rfl
theorem dL_law_1294 : decode cL_law 1294 = .ok (.iconst 1, 1) := lw_dr lw_d_cL_law_1293 1 rfl
theorem dL_law_1295 : decode cL_law 1295 = .ok (.iadd, 1) := lw_dr lw_d_cL_law_1293 2 rfl
theorem dL_law_1296 : decode cL_law 1296 = .ok (.iaload, 1) := lw_dr lw_d_cL_law_1293 3 rfl
theorem dL_law_1297 : decode cL_law 1297 = .ok (.aload_n 0, 1) := lw_dr lw_d_cL_law_1293 4 rfl
theorem dL_law_1298 : decode cL_law 1298 = .ok (.iload_n 3, 1) := lw_dr lw_d_cL_law_1293 5 rfl
theorem dL_law_1299 : decode cL_law 1299 = .ok (.iconst 2, 1) := lw_dr lw_d_cL_law_1293 6 rfl
theorem dL_law_1300 : decode cL_law 1300 = .ok (.iadd, 1) := lw_dr lw_d_cL_law_1293 7 rfl
theorem dL_law_1301 : decode cL_law 1301 = .ok (.iaload, 1) := lw_dr lw_d_cL_law_1293 8 rfl
theorem dL_law_1302 : decode cL_law 1302 = .ok (.invokevirtual 176, 3) := lw_dr lw_d_cL_law_1293 9 rfl
theorem dL_law_1305 : decode cL_law 1305 = .ok (.pop, 1) := lw_dr lw_d_cL_law_1293 10 rfl
theorem dL_law_1306 : decode cL_law 1306 = .ok (.goto 213, 3) := lw_dr lw_d_cL_law_1293 11 rfl
theorem dL_law_1309 : decode cL_law 1309 = .ok (.aload_n 1, 1) := lw_dr lw_d_cL_law_1293 12 rfl
theorem dL_law_1310 : decode cL_law 1310 = .ok (.aload_n 0, 1) := lw_dr lw_d_cL_law_1293 13 rfl
theorem dL_law_1311 : decode cL_law 1311 = .ok (.iload_n 3, 1) := lw_dr lw_d_cL_law_1293 14 rfl
theorem dL_law_1312 : decode cL_law 1312 = .ok (.iconst 1, 1) := lw_dr lw_d_cL_law_1293 15 rfl
theorem dL_law_1313 : decode cL_law 1313 = .ok (.iadd, 1) := lw_dr lw_d_cL_law_1293 16 rfl
theorem dL_law_1314 : decode cL_law 1314 = .ok (.iaload, 1) := lw_dr lw_d_cL_law_1293 17 rfl
theorem dL_law_1315 : decode cL_law 1315 = .ok (.ifCond .eq 7, 3) := lw_dr lw_d_cL_law_1293 18 rfl
theorem dL_law_1322 : decode cL_law 1322 = .ok (.iconst 0, 1) := lw_dr lw_d_cL_law_1293 19 rfl
theorem dL_law_1323 : decode cL_law 1323 = .ok (.invokevirtual 177, 3) := lw_dr lw_d_cL_law_1293 20 rfl
theorem dL_law_1326 : decode cL_law 1326 = .ok (.pop2, 1) := lw_dr lw_d_cL_law_1293 21 rfl
theorem dL_law_1327 : decode cL_law 1327 = .ok (.aload_n 2, 1) := lw_dr lw_d_cL_law_1293 22 rfl
theorem dL_law_1328 : decode cL_law 1328 = .ok (.aload_n 0, 1) := lw_dr lw_d_cL_law_1293 23 rfl
theorem dL_law_1329 : decode cL_law 1329 = .ok (.iload_n 3, 1) := lw_dr lw_d_cL_law_1293 24 rfl
theorem dL_law_1330 : decode cL_law 1330 = .ok (.iconst 1, 1) := lw_dr lw_d_cL_law_1293 25 rfl
theorem dL_law_1331 : decode cL_law 1331 = .ok (.iadd, 1) := lw_dr lw_d_cL_law_1293 26 rfl
theorem dL_law_1332 : decode cL_law 1332 = .ok (.iaload, 1) := lw_dr lw_d_cL_law_1293 27 rfl
theorem dL_law_1333 : decode cL_law 1333 = .ok (.ifCond .eq 7, 3) := lw_dr lw_d_cL_law_1293 28 rfl
theorem dL_law_1340 : decode cL_law 1340 = .ok (.iconst 0, 1) := lw_dr lw_d_cL_law_1293 29 rfl
theorem dL_law_1341 : decode cL_law 1341 = .ok (.invokevirtual 180, 3) := lw_dr lw_d_cL_law_1293 30 rfl
theorem dL_law_1344 : decode cL_law 1344 = .ok (.pop2, 1) := lw_dr lw_d_cL_law_1293 31 rfl
theorem dL_law_1345 : decode cL_law 1345 = .ok (.goto 174, 3) := lw_dr lw_d_cL_law_1293 32 rfl
theorem dL_law_1336 : decode cL_law 1336 = .ok (.iconst 1, 1) := lw_dr lw_d_cL_law_1293 33 rfl
theorem dL_law_1337 : decode cL_law 1337 = .ok (.goto 4, 3) := lw_dr lw_d_cL_law_1293 34 rfl
theorem dL_law_1318 : decode cL_law 1318 = .ok (.iconst 1, 1) := lw_dr lw_d_cL_law_1293 35 rfl
theorem dL_law_1319 : decode cL_law 1319 = .ok (.goto 4, 3) := lw_dr lw_d_cL_law_1293 36 rfl
theorem dL_law_1348 : decode cL_law 1348 = .ok (.aload_n 1, 1) := lw_dr lw_d_cL_law_1293 37 rfl
theorem dL_law_1349 : decode cL_law 1349 = .ok (.invokevirtual 181, 3) := lw_dr lw_d_cL_law_1293 38 rfl
theorem dL_law_1352 : decode cL_law 1352 = .ok (.pop2, 1) := lw_dr lw_d_cL_law_1293 39 rfl
theorem lw_d_cL_law_1353 : lw_dl cL_law [(1353, .aload_n 2, 1), (1354, .invokevirtual 184, 3), (1357, .pop2, 1), (1358, .goto 161, 3), (1361, .aload_n 1, 1), (1362, .aload_n 0, 1), (1363, .iload_n 3, 1), (1364, .iconst 1, 1), (1365, .iadd, 1), (1366, .iaload, 1), (1367, .invokevirtual 185, 3), (1370, .pop, 1), (1371, .aload_n 2, 1), (1372, .aload_n 0, 1), (1373, .iload_n 3, 1), (1374, .iconst 1, 1), (1375, .iadd, 1), (1376, .iaload, 1), (1377, .invokevirtual 188, 3), (1380, .pop, 1), (1381, .goto 138, 3), (1384, .aload_n 1, 1), (1385, .aload_n 0, 1), (1386, .iload_n 3, 1), (1387, .iconst 1, 1), (1388, .iadd, 1), (1389, .iaload, 1), (1390, .invokevirtual 189, 3), (1393, .pop, 1), (1394, .aload_n 2, 1), (1395, .aload_n 0, 1), (1396, .iload_n 3, 1), (1397, .iconst 1, 1), (1398, .iadd, 1), (1399, .iaload, 1), (1400, .invokevirtual 192, 3), (1403, .pop, 1), (1404, .goto 115, 3), (1407, .aload_n 1, 1), (1408, .aload_n 0, 1)] = true := by decide +kernel
theorem dL_law_1353 : decode cL_law 1353 = .ok (.aload_n 2, 1) := lw_dr lw_d_cL_law_1353 0 rfl
theorem dL_law_1354 : decode cL_law 1354 = .ok (.invokevirtual 184, 3) := lw_dr lw_d_cL_law_1353 1 rfl
theorem dL_law_1357 : decode cL_law 1357 = .ok (.pop2, 1) := lw_dr lw_d_cL_law_1353 2 rfl
theorem dL_law_1358 : decode cL_law 1358 = .ok (.goto 161, 3) := lw_dr lw_d_cL_law_1353 3 rfl
theorem dL_law_1361 : decode cL_law 1361 = .ok (.aload_n 1, 1) := lw_dr lw_d_cL_law_1353 4 rfl
theorem dL_law_1362 : decode cL_law 1362 = .ok (.aload_n 0, 1) := lw_dr lw_d_cL_law_1353 5 rfl
theorem dL_law_1363 : decode cL_law 1363 = .ok (.iload_n 3, 1) := lw_dr lw_d_cL_law_1353 6 rfl
theorem dL_law_1364 : decode cL_law 1364 = .ok (.iconst 1, 1) := lw_dr lw_d_cL_law_1353 7 rfl
theorem dL_law_1365 : decode cL_law 1365 = .ok (.iadd, 1) := lw_dr lw_d_cL_law_1353 8 rfl
theorem dL_law_1366 : decode cL_law 1366 = .ok (.iaload, 1) := lw_dr lw_d_cL_law_1353 9 rfl
theorem dL_law_1367 : decode cL_law 1367 = .ok (.invokevirtual 185, 3) := lw_dr lw_d_cL_law_1353 10 rfl
theorem dL_law_1370 : decode cL_law 1370 = .ok (.pop, 1) := lw_dr lw_d_cL_law_1353 11 rfl
theorem dL_law_1371 : decode cL_law 1371 = .ok (.aload_n 2, 1) := lw_dr lw_d_cL_law_1353 12 rfl
theorem dL_law_1372 : decode cL_law 1372 = .ok (.aload_n 0, 1) := lw_dr lw_d_cL_law_1353 13 rfl
theorem dL_law_1373 : decode cL_law 1373 = .ok (.iload_n 3, 1) := lw_dr lw_d_cL_law_1353 14 rfl
theorem dL_law_1374 : decode cL_law 1374 = .ok (.iconst 1, 1) := lw_dr lw_d_cL_law_1353 15 rfl
theorem dL_law_1375 : decode cL_law 1375 = .ok (.iadd, 1) := lw_dr lw_d_cL_law_1353 16 rfl
theorem dL_law_1376 : decode cL_law 1376 = .ok (.iaload, 1) := lw_dr lw_d_cL_law_1353 17 rfl
theorem dL_law_1377 : decode cL_law 1377 = .ok (.invokevirtual 188, 3) := lw_dr lw_d_cL_law_1353 18 rfl
theorem dL_law_1380 : decode cL_law 1380 = .ok (.pop, 1) := lw_dr lw_d_cL_law_1353 19 rfl
theorem dL_law_1381 : decode cL_law 1381 = .ok (.goto 138, 3) := lw_dr lw_d_cL_law_1353 20 rfl
theorem dL_law_1384 : decode cL_law 1384 = .ok (.aload_n 1, 1) := lw_dr lw_d_cL_law_1353 21 rfl
theorem dL_law_1385 : decode cL_law 1385 = .ok (.aload_n 0, 1) := lw_dr lw_d_cL_law_1353 22 rfl
theorem dL_law_1386 : decode cL_law 1386 = .ok (.iload_n 3, 1) := lw_dr lw_d_cL_law_1353 23 rfl
theorem dL_law_1387 : decode cL_law 1387 = .ok (.iconst 1, 1) := lw_dr lw_d_cL_law_1353 24 rfl
theorem dL_law_1388 : decode cL_law 1388 = .ok (.iadd, 1) := lw_dr lw_d_cL_law_1353 25 rfl
theorem dL_law_1389 : decode cL_law 1389 = .ok (.iaload, 1) := lw_dr lw_d_cL_law_1353 26 rfl
theorem dL_law_1390 : decode cL_law 1390 = .ok (.invokevirtual 189, 3) := lw_dr lw_d_cL_law_1353 27 rfl
theorem dL_law_1393 : decode cL_law 1393 = .ok (.pop, 1) := lw_dr lw_d_cL_law_1353 28 rfl
theorem dL_law_1394 : decode cL_law 1394 = .ok (.aload_n 2, 1) := lw_dr lw_d_cL_law_1353 29 rfl
theorem dL_law_1395 : decode cL_law 1395 = .ok (.aload_n 0, 1) := lw_dr lw_d_cL_law_1353 30 rfl
theorem dL_law_1396 : decode cL_law 1396 = .ok (.iload_n 3, 1) := lw_dr lw_d_cL_law_1353 31 rfl
theorem dL_law_1397 : decode cL_law 1397 = .ok (.iconst 1, 1) := lw_dr lw_d_cL_law_1353 32 rfl
theorem dL_law_1398 : decode cL_law 1398 = .ok (.iadd, 1) := lw_dr lw_d_cL_law_1353 33 rfl
theorem dL_law_1399 : decode cL_law 1399 = .ok (.iaload, 1) := lw_dr lw_d_cL_law_1353 34 rfl
theorem dL_law_1400 : decode cL_law 1400 = .ok (.invokevirtual 192, 3) := lw_dr lw_d_cL_law_1353 35 rfl
theorem dL_law_1403 : decode cL_law 1403 = .ok (.pop, 1) := lw_dr lw_d_cL_law_1353 36 rfl
theorem dL_law_1404 : decode cL_law 1404 = .ok (.goto 115, 3) := lw_dr lw_d_cL_law_1353 37 rfl
theorem dL_law_1407 : decode cL_law 1407 = .ok (.aload_n 1, 1) := lw_dr lw_d_cL_law_1353 38 rfl
theorem dL_law_1408 : decode cL_law 1408 = .ok (.aload_n 0, 1) := lw_dr lw_d_cL_law_1353 39 rfl
theorem lw_d_cL_law_1409 : lw_dl cL_law [(1409, .iload_n 3, 1), (1410, .iconst 1, 1), (1411, .iadd, 1), (1412, .iaload, 1), (1413, .aload_n 0, 1), (1414, .iload_n 3, 1), (1415, .iconst 2, 1), (1416, .iadd, 1), (1417, .iaload, 1), (1418, .i2l, 1), (1419, .bipush 32, 2), (1421, .lshl, 1), (1422, .aload_n 0, 1), (1423, .iload_n 3, 1), (1424, .iconst 3, 1), (1425, .iadd, 1), (1426, .iaload, 1), (1427, .i2l, 1), (1428, .ldc2_w 78, 3)] = true := by decide +kernel
theorem dL_law_1409 : decode cL_law 1409 = .ok (.iload_n 3, 1) := lw_dr lw_d_cL_law_1409 0 rfl
theorem dL_law_1410 : decode cL_law 1410 = .ok (.iconst 1, 1) := lw_dr lw_d_cL_law_1409 1 rfl
theorem dL_law_1411 : decode cL_law 1411 = .ok (.iadd, 1) := lw_dr lw_d_cL_law_1409 2 rfl
theorem dL_law_1412 : decode cL_law 1412 = .ok (.iaload, 1) := lw_dr lw_d_cL_law_1409 3 rfl
theorem dL_law_1413 : decode cL_law 1413 = .ok (.aload_n 0, 1) := lw_dr lw_d_cL_law_1409 4 rfl
theorem dL_law_1414 : decode cL_law 1414 = .ok (.iload_n 3, 1) := lw_dr lw_d_cL_law_1409 5 rfl
theorem dL_law_1415 : decode cL_law 1415 = .ok (.iconst 2, 1) := lw_dr lw_d_cL_law_1409 6 rfl
theorem dL_law_1416 : decode cL_law 1416 = .ok (.iadd, 1) := lw_dr lw_d_cL_law_1409 7 rfl
theorem dL_law_1417 : decode cL_law 1417 = .ok (.iaload, 1) := lw_dr lw_d_cL_law_1409 8 rfl
theorem dL_law_1418 : decode cL_law 1418 = .ok (.i2l, 1) := lw_dr lw_d_cL_law_1409 9 rfl
theorem dL_law_1419 : decode cL_law 1419 = .ok (.bipush 32, 2) := lw_dr lw_d_cL_law_1409 10 rfl
theorem dL_law_1421 : decode cL_law 1421 = .ok (.lshl, 1) := lw_dr lw_d_cL_law_1409 11 rfl
theorem dL_law_1422 : decode cL_law 1422 = .ok (.aload_n 0, 1) := lw_dr lw_d_cL_law_1409 12 rfl
theorem dL_law_1423 : decode cL_law 1423 = .ok (.iload_n 3, 1) := lw_dr lw_d_cL_law_1409 13 rfl
theorem dL_law_1424 : decode cL_law 1424 = .ok (.iconst 3, 1) := lw_dr lw_d_cL_law_1409 14 rfl
theorem dL_law_1425 : decode cL_law 1425 = .ok (.iadd, 1) := lw_dr lw_d_cL_law_1409 15 rfl
theorem dL_law_1426 : decode cL_law 1426 = .ok (.iaload, 1) := lw_dr lw_d_cL_law_1409 16 rfl
theorem dL_law_1427 : decode cL_law 1427 = .ok (.i2l, 1) := lw_dr lw_d_cL_law_1409 17 rfl
theorem dL_law_1428 : decode cL_law 1428 = .ok (.ldc2_w 78, 3) := lw_dr lw_d_cL_law_1409 18 rfl
theorem lw_d_cL_law_1431 : lw_dl cL_law [(1431, .land, 1), (1432, .lor, 1), (1433, .invokevirtual 193, 3), (1436, .pop, 1), (1437, .aload_n 2, 1), (1438, .aload_n 0, 1), (1439, .iload_n 3, 1), (1440, .iconst 1, 1), (1441, .iadd, 1), (1442, .iaload, 1), (1443, .aload_n 0, 1), (1444, .iload_n 3, 1), (1445, .iconst 2, 1), (1446, .iadd, 1), (1447, .iaload, 1), (1448, .i2l, 1), (1449, .bipush 32, 2), (1451, .lshl, 1), (1452, .aload_n 0, 1), (1453, .iload_n 3, 1), (1454, .iconst 3, 1), (1455, .iadd, 1), (1456, .iaload, 1), (1457, .i2l, 1), (1458, .ldc2_w 78, 3), (1461, .land, 1), (1462, .lor, 1), (1463, .invokevirtual 197, 3), (1466, .pop, 1), (1467, .goto 52, 3), (1470, .aload_n 1, 1), (1471, .invokevirtual 198, 3), (1474, .pop, 1), (1475, .aload_n 2, 1), (1476, .invokevirtual 201, 3), (1479, .pop, 1), (1480, .goto 39, 3), (1483, .aload_n 1, 1), (1484, .aload_n 0, 1), (1485, .iload_n 3, 1)] = true := by decide +kernel
theorem dL_law_1431 : decode cL_law 1431 = .ok (.land, 1) := lw_dr lw_d_cL_law_1431 0 rfl
theorem dL_law_1432 : decode cL_law 1432 = .ok (.lor, 1) := lw_dr lw_d_cL_law_1431 1 rfl
theorem dL_law_1433 : decode cL_law 1433 = .ok (.invokevirtual 193, 3) := lw_dr lw_d_cL_law_1431 2 rfl
theorem dL_law_1436 : decode cL_law 1436 = .ok (.pop, 1) := lw_dr lw_d_cL_law_1431 3 rfl
theorem dL_law_1437 : decode cL_law 1437 = .ok (.aload_n 2, 1) := lw_dr lw_d_cL_law_1431 4 rfl
theorem dL_law_1438 : decode cL_law 1438 = .ok (.aload_n 0, 1) := lw_dr lw_d_cL_law_1431 5 rfl
theorem dL_law_1439 : decode cL_law 1439 = .ok (.iload_n 3, 1) := lw_dr lw_d_cL_law_1431 6 rfl
theorem dL_law_1440 : decode cL_law 1440 = .ok (.iconst 1, 1) := lw_dr lw_d_cL_law_1431 7 rfl
theorem dL_law_1441 : decode cL_law 1441 = .ok (.iadd, 1) := lw_dr lw_d_cL_law_1431 8 rfl
theorem dL_law_1442 : decode cL_law 1442 = .ok (.iaload, 1) := lw_dr lw_d_cL_law_1431 9 rfl
theorem dL_law_1443 : decode cL_law 1443 = .ok (.aload_n 0, 1) := lw_dr lw_d_cL_law_1431 10 rfl
theorem dL_law_1444 : decode cL_law 1444 = .ok (.iload_n 3, 1) := lw_dr lw_d_cL_law_1431 11 rfl
theorem dL_law_1445 : decode cL_law 1445 = .ok (.iconst 2, 1) := lw_dr lw_d_cL_law_1431 12 rfl
theorem dL_law_1446 : decode cL_law 1446 = .ok (.iadd, 1) := lw_dr lw_d_cL_law_1431 13 rfl
theorem dL_law_1447 : decode cL_law 1447 = .ok (.iaload, 1) := lw_dr lw_d_cL_law_1431 14 rfl
theorem dL_law_1448 : decode cL_law 1448 = .ok (.i2l, 1) := lw_dr lw_d_cL_law_1431 15 rfl
theorem dL_law_1449 : decode cL_law 1449 = .ok (.bipush 32, 2) := lw_dr lw_d_cL_law_1431 16 rfl
theorem dL_law_1451 : decode cL_law 1451 = .ok (.lshl, 1) := lw_dr lw_d_cL_law_1431 17 rfl
theorem dL_law_1452 : decode cL_law 1452 = .ok (.aload_n 0, 1) := lw_dr lw_d_cL_law_1431 18 rfl
theorem dL_law_1453 : decode cL_law 1453 = .ok (.iload_n 3, 1) := lw_dr lw_d_cL_law_1431 19 rfl
theorem dL_law_1454 : decode cL_law 1454 = .ok (.iconst 3, 1) := lw_dr lw_d_cL_law_1431 20 rfl
theorem dL_law_1455 : decode cL_law 1455 = .ok (.iadd, 1) := lw_dr lw_d_cL_law_1431 21 rfl
theorem dL_law_1456 : decode cL_law 1456 = .ok (.iaload, 1) := lw_dr lw_d_cL_law_1431 22 rfl
theorem dL_law_1457 : decode cL_law 1457 = .ok (.i2l, 1) := lw_dr lw_d_cL_law_1431 23 rfl
theorem dL_law_1458 : decode cL_law 1458 = .ok (.ldc2_w 78, 3) := lw_dr lw_d_cL_law_1431 24 rfl
theorem dL_law_1461 : decode cL_law 1461 = .ok (.land, 1) := lw_dr lw_d_cL_law_1431 25 rfl
theorem dL_law_1462 : decode cL_law 1462 = .ok (.lor, 1) := lw_dr lw_d_cL_law_1431 26 rfl
theorem dL_law_1463 : decode cL_law 1463 = .ok (.invokevirtual 197, 3) := lw_dr lw_d_cL_law_1431 27 rfl
theorem dL_law_1466 : decode cL_law 1466 = .ok (.pop, 1) := lw_dr lw_d_cL_law_1431 28 rfl
theorem dL_law_1467 : decode cL_law 1467 = .ok (.goto 52, 3) := lw_dr lw_d_cL_law_1431 29 rfl
theorem dL_law_1470 : decode cL_law 1470 = .ok (.aload_n 1, 1) := lw_dr lw_d_cL_law_1431 30 rfl
theorem dL_law_1471 : decode cL_law 1471 = .ok (.invokevirtual 198, 3) := lw_dr lw_d_cL_law_1431 31 rfl
theorem dL_law_1474 : decode cL_law 1474 = .ok (.pop, 1) := lw_dr lw_d_cL_law_1431 32 rfl
theorem dL_law_1475 : decode cL_law 1475 = .ok (.aload_n 2, 1) := lw_dr lw_d_cL_law_1431 33 rfl
theorem dL_law_1476 : decode cL_law 1476 = .ok (.invokevirtual 201, 3) := lw_dr lw_d_cL_law_1431 34 rfl
theorem dL_law_1479 : decode cL_law 1479 = .ok (.pop, 1) := lw_dr lw_d_cL_law_1431 35 rfl
theorem dL_law_1480 : decode cL_law 1480 = .ok (.goto 39, 3) := lw_dr lw_d_cL_law_1431 36 rfl
theorem dL_law_1483 : decode cL_law 1483 = .ok (.aload_n 1, 1) := lw_dr lw_d_cL_law_1431 37 rfl
theorem dL_law_1484 : decode cL_law 1484 = .ok (.aload_n 0, 1) := lw_dr lw_d_cL_law_1431 38 rfl
theorem dL_law_1485 : decode cL_law 1485 = .ok (.iload_n 3, 1) := lw_dr lw_d_cL_law_1431 39 rfl
theorem lw_d_cL_law_1486 : lw_dl cL_law [(1486, .iconst 1, 1), (1487, .iadd, 1), (1488, .iaload, 1), (1489, .invokevirtual 202, 3), (1492, .pop, 1), (1493, .aload_n 2, 1), (1494, .aload_n 0, 1), (1495, .iload_n 3, 1), (1496, .iconst 1, 1), (1497, .iadd, 1), (1498, .iaload, 1), (1499, .invokevirtual 205, 3), (1502, .pop, 1), (1503, .goto 16, 3), (1506, .aload_n 1, 1), (1507, .invokevirtual 206, 3), (1510, .pop, 1), (1511, .aload_n 2, 1), (1512, .invokevirtual 209, 3), (1515, .pop, 1), (1516, .goto 3, 3), (0, .new 7, 3), (3, .dup, 1), (4, .invokespecial 9, 3), (7, .astore_n 1, 1), (8, .new 10, 3), (11, .dup, 1), (12, .invokespecial 12, 3), (15, .astore_n 2, 1), (16, .iconst 0, 1), (17, .istore_n 3, 1), (18, .iload_n 3, 1), (19, .aload_n 0, 1), (20, .arraylength, 1), (21, .bipush 6, 2), (23, .isub, 1), (24, .if_icmp .gt 1501, 3), (27, .aload_n 0, 1), (28, .iload_n 3, 1), (29, .iaload, 1)] = true := by decide +kernel
theorem dL_law_1486 : decode cL_law 1486 = .ok (.iconst 1, 1) := lw_dr lw_d_cL_law_1486 0 rfl
theorem dL_law_1487 : decode cL_law 1487 = .ok (.iadd, 1) := lw_dr lw_d_cL_law_1486 1 rfl
theorem dL_law_1488 : decode cL_law 1488 = .ok (.iaload, 1) := lw_dr lw_d_cL_law_1486 2 rfl
theorem dL_law_1489 : decode cL_law 1489 = .ok (.invokevirtual 202, 3) := lw_dr lw_d_cL_law_1486 3 rfl
theorem dL_law_1492 : decode cL_law 1492 = .ok (.pop, 1) := lw_dr lw_d_cL_law_1486 4 rfl
theorem dL_law_1493 : decode cL_law 1493 = .ok (.aload_n 2, 1) := lw_dr lw_d_cL_law_1486 5 rfl
theorem dL_law_1494 : decode cL_law 1494 = .ok (.aload_n 0, 1) := lw_dr lw_d_cL_law_1486 6 rfl
theorem dL_law_1495 : decode cL_law 1495 = .ok (.iload_n 3, 1) := lw_dr lw_d_cL_law_1486 7 rfl
theorem dL_law_1496 : decode cL_law 1496 = .ok (.iconst 1, 1) := lw_dr lw_d_cL_law_1486 8 rfl
theorem dL_law_1497 : decode cL_law 1497 = .ok (.iadd, 1) := lw_dr lw_d_cL_law_1486 9 rfl
theorem dL_law_1498 : decode cL_law 1498 = .ok (.iaload, 1) := lw_dr lw_d_cL_law_1486 10 rfl
theorem dL_law_1499 : decode cL_law 1499 = .ok (.invokevirtual 205, 3) := lw_dr lw_d_cL_law_1486 11 rfl
theorem dL_law_1502 : decode cL_law 1502 = .ok (.pop, 1) := lw_dr lw_d_cL_law_1486 12 rfl
theorem dL_law_1503 : decode cL_law 1503 = .ok (.goto 16, 3) := lw_dr lw_d_cL_law_1486 13 rfl
theorem dL_law_1506 : decode cL_law 1506 = .ok (.aload_n 1, 1) := lw_dr lw_d_cL_law_1486 14 rfl
theorem dL_law_1507 : decode cL_law 1507 = .ok (.invokevirtual 206, 3) := lw_dr lw_d_cL_law_1486 15 rfl
theorem dL_law_1510 : decode cL_law 1510 = .ok (.pop, 1) := lw_dr lw_d_cL_law_1486 16 rfl
theorem dL_law_1511 : decode cL_law 1511 = .ok (.aload_n 2, 1) := lw_dr lw_d_cL_law_1486 17 rfl
theorem dL_law_1512 : decode cL_law 1512 = .ok (.invokevirtual 209, 3) := lw_dr lw_d_cL_law_1486 18 rfl
theorem dL_law_1515 : decode cL_law 1515 = .ok (.pop, 1) := lw_dr lw_d_cL_law_1486 19 rfl
theorem dL_law_1516 : decode cL_law 1516 = .ok (.goto 3, 3) := lw_dr lw_d_cL_law_1486 20 rfl
theorem dL_law_0 : decode cL_law 0 = .ok (.new 7, 3) := lw_dr lw_d_cL_law_1486 21 rfl
theorem dL_law_3 : decode cL_law 3 = .ok (.dup, 1) := lw_dr lw_d_cL_law_1486 22 rfl
theorem dL_law_4 : decode cL_law 4 = .ok (.invokespecial 9, 3) := lw_dr lw_d_cL_law_1486 23 rfl
theorem dL_law_7 : decode cL_law 7 = .ok (.astore_n 1, 1) := lw_dr lw_d_cL_law_1486 24 rfl
theorem dL_law_8 : decode cL_law 8 = .ok (.new 10, 3) := lw_dr lw_d_cL_law_1486 25 rfl
theorem dL_law_11 : decode cL_law 11 = .ok (.dup, 1) := lw_dr lw_d_cL_law_1486 26 rfl
theorem dL_law_12 : decode cL_law 12 = .ok (.invokespecial 12, 3) := lw_dr lw_d_cL_law_1486 27 rfl
theorem dL_law_15 : decode cL_law 15 = .ok (.astore_n 2, 1) := lw_dr lw_d_cL_law_1486 28 rfl
theorem dL_law_16 : decode cL_law 16 = .ok (.iconst 0, 1) := lw_dr lw_d_cL_law_1486 29 rfl
theorem dL_law_17 : decode cL_law 17 = .ok (.istore_n 3, 1) := lw_dr lw_d_cL_law_1486 30 rfl
theorem dL_law_18 : decode cL_law 18 = .ok (.iload_n 3, 1) := lw_dr lw_d_cL_law_1486 31 rfl
theorem dL_law_19 : decode cL_law 19 = .ok (.aload_n 0, 1) := lw_dr lw_d_cL_law_1486 32 rfl
theorem dL_law_20 : decode cL_law 20 = .ok (.arraylength, 1) := lw_dr lw_d_cL_law_1486 33 rfl
theorem dL_law_21 : decode cL_law 21 = .ok (.bipush 6, 2) := lw_dr lw_d_cL_law_1486 34 rfl
theorem dL_law_23 : decode cL_law 23 = .ok (.isub, 1) := lw_dr lw_d_cL_law_1486 35 rfl
theorem dL_law_24 : decode cL_law 24 = .ok (.if_icmp .gt 1501, 3) := lw_dr lw_d_cL_law_1486 36 rfl
theorem dL_law_27 : decode cL_law 27 = .ok (.aload_n 0, 1) := lw_dr lw_d_cL_law_1486 37 rfl
theorem dL_law_28 : decode cL_law 28 = .ok (.iload_n 3, 1) := lw_dr lw_d_cL_law_1486 38 rfl
theorem dL_law_29 : decode cL_law 29 = .ok (.iaload, 1) := lw_dr lw_d_cL_law_1486 39 rfl
theorem lw_d_cL_law_30 : lw_dl cL_law [(30, .bipush 63, 2), (32, .iand, 1), (33, .tableswitch 1486 0 44 #[195, 258, 281, 294, 317, 340, 399, 458, 471, 494, 507, 520, 553, 586, 609, 662, 685, 708, 721, 754, 787, 810, 833, 846, 859, 892, 925, 984, 1023, 1062, 1105, 1128, 1161, 1184, 1197, 1220, 1243, 1276, 1315, 1328, 1351, 1374, 1437, 1450, 1473], 195), (1519, .iinc 3 6, 3), (1522, .goto (-1504), 3), (1525, .iconst 1, 1), (1526, .ireturn, 1)] = true := by decide +kernel
theorem dL_law_30 : decode cL_law 30 = .ok (.bipush 63, 2) := lw_dr lw_d_cL_law_30 0 rfl
theorem dL_law_32 : decode cL_law 32 = .ok (.iand, 1) := lw_dr lw_d_cL_law_30 1 rfl
theorem dL_law_33 : decode cL_law 33 = .ok (.tableswitch 1486 0 44 #[195, 258, 281, 294, 317, 340, 399, 458, 471, 494, 507, 520, 553, 586, 609, 662, 685, 708, 721, 754, 787, 810, 833, 846, 859, 892, 925, 984, 1023, 1062, 1105, 1128, 1161, 1184, 1197, 1220, 1243, 1276, 1315, 1328, 1351, 1374, 1437, 1450, 1473], 195) := lw_dr lw_d_cL_law_30 2 rfl
theorem dL_law_1519 : decode cL_law 1519 = .ok (.iinc 3 6, 3) := lw_dr lw_d_cL_law_30 3 rfl
theorem dL_law_1522 : decode cL_law 1522 = .ok (.goto (-1504), 3) := lw_dr lw_d_cL_law_30 4 rfl
theorem dL_law_1525 : decode cL_law 1525 = .ok (.iconst 1, 1) := lw_dr lw_d_cL_law_30 5 rfl
theorem dL_law_1526 : decode cL_law 1526 = .ok (.ireturn, 1) := lw_dr lw_d_cL_law_30 6 rfl
theorem lw_d_cX11_init_0 : lw_dl cX11_init [(0, .aload_n 0, 1), (1, .invokespecial 1, 3), (4, .aload_n 0, 1), (5, .new 7, 3), (8, .dup, 1), (9, .invokespecial 9, 3), (12, .putfield 10, 3), (15, .aload_n 0, 1), (16, .aload_n 0, 1), (17, .getfield 10, 3), (20, .getfield 16, 3), (23, .putfield 20, 3), (26, .aload_n 0, 1), (27, .new 21, 3), (30, .dup, 1), (31, .invokespecial 23, 3), (34, .putfield 24, 3), (37, .aload_n 0, 1), (38, .new 28, 3)] = true := by decide +kernel
theorem dX11_init_0 : decode cX11_init 0 = .ok (.aload_n 0, 1) := lw_dr lw_d_cX11_init_0 0 rfl
theorem dX11_init_1 : decode cX11_init 1 = .ok (.invokespecial 1, 3) := lw_dr lw_d_cX11_init_0 1 rfl
theorem dX11_init_4 : decode cX11_init 4 = .ok (.aload_n 0, 1) := lw_dr lw_d_cX11_init_0 2 rfl
theorem dX11_init_5 : decode cX11_init 5 = .ok (.new 7, 3) := lw_dr lw_d_cX11_init_0 3 rfl
theorem dX11_init_8 : decode cX11_init 8 = .ok (.dup, 1) := lw_dr lw_d_cX11_init_0 4 rfl
theorem dX11_init_9 : decode cX11_init 9 = .ok (.invokespecial 9, 3) := lw_dr lw_d_cX11_init_0 5 rfl
theorem dX11_init_12 : decode cX11_init 12 = .ok (.putfield 10, 3) := lw_dr lw_d_cX11_init_0 6 rfl
theorem dX11_init_15 : decode cX11_init 15 = .ok (.aload_n 0, 1) := lw_dr lw_d_cX11_init_0 7 rfl
theorem dX11_init_16 : decode cX11_init 16 = .ok (.aload_n 0, 1) := lw_dr lw_d_cX11_init_0 8 rfl
theorem dX11_init_17 : decode cX11_init 17 = .ok (.getfield 10, 3) := lw_dr lw_d_cX11_init_0 9 rfl
theorem dX11_init_20 : decode cX11_init 20 = .ok (.getfield 16, 3) := lw_dr lw_d_cX11_init_0 10 rfl
theorem dX11_init_23 : decode cX11_init 23 = .ok (.putfield 20, 3) := lw_dr lw_d_cX11_init_0 11 rfl
theorem dX11_init_26 : decode cX11_init 26 = .ok (.aload_n 0, 1) := lw_dr lw_d_cX11_init_0 12 rfl
theorem dX11_init_27 : decode cX11_init 27 = .ok (.new 21, 3) := lw_dr lw_d_cX11_init_0 13 rfl
theorem dX11_init_30 : decode cX11_init 30 = .ok (.dup, 1) := lw_dr lw_d_cX11_init_0 14 rfl
theorem dX11_init_31 : decode cX11_init 31 = .ok (.invokespecial 23, 3) := lw_dr lw_d_cX11_init_0 15 rfl
theorem dX11_init_34 : decode cX11_init 34 = .ok (.putfield 24, 3) := lw_dr lw_d_cX11_init_0 16 rfl
theorem dX11_init_37 : decode cX11_init 37 = .ok (.aload_n 0, 1) := lw_dr lw_d_cX11_init_0 17 rfl
theorem dX11_init_38 : decode cX11_init 38 = .ok (.new 28, 3) := lw_dr lw_d_cX11_init_0 18 rfl
theorem lw_d_cX4_init_0 : lw_dl cX4_init [(0, .aload_n 0, 1), (1, .invokespecial 3, 3), (4, .aload_n 0, 1), (5, .new 9, 3), (8, .dup, 1), (9, .invokespecial 11, 3), (12, .putfield 12, 3), (15, .aload_n 0, 1), (16, .new 18, 3), (19, .dup, 1), (20, .invokespecial 20, 3), (23, .putfield 21, 3), (26, .aload_n 0, 1), (27, .iconst 0, 1), (28, .putfield 25, 3), (31, .aload_n 0, 1), (32, .iconst (-1), 1), (33, .putfield 29, 3), (36, .aload_n 0, 1), (37, .iconst 0, 1), (38, .putfield 32, 3), (41, .aload_n 0, 1), (42, .iconst 0, 1), (43, .putfield 35, 3), (46, .aload_n 0, 1), (47, .iconst 0, 1), (48, .putfield 38, 3), (51, .aload_n 0, 1), (52, .iconst (-1), 1), (53, .putfield 41, 3), (56, .return_, 1)] = true := by decide +kernel
theorem dX4_init_0 : decode cX4_init 0 = .ok (.aload_n 0, 1) := lw_dr lw_d_cX4_init_0 0 rfl
theorem dX4_init_1 : decode cX4_init 1 = .ok (.invokespecial 3, 3) := lw_dr lw_d_cX4_init_0 1 rfl
theorem dX4_init_4 : decode cX4_init 4 = .ok (.aload_n 0, 1) := lw_dr lw_d_cX4_init_0 2 rfl
theorem dX4_init_5 : decode cX4_init 5 = .ok (.new 9, 3) := lw_dr lw_d_cX4_init_0 3 rfl
theorem dX4_init_8 : decode cX4_init 8 = .ok (.dup, 1) := lw_dr lw_d_cX4_init_0 4 rfl
theorem dX4_init_9 : decode cX4_init 9 = .ok (.invokespecial 11, 3) := lw_dr lw_d_cX4_init_0 5 rfl
theorem dX4_init_12 : decode cX4_init 12 = .ok (.putfield 12, 3) := lw_dr lw_d_cX4_init_0 6 rfl
theorem dX4_init_15 : decode cX4_init 15 = .ok (.aload_n 0, 1) := lw_dr lw_d_cX4_init_0 7 rfl
theorem dX4_init_16 : decode cX4_init 16 = .ok (.new 18, 3) := lw_dr lw_d_cX4_init_0 8 rfl
theorem dX4_init_19 : decode cX4_init 19 = .ok (.dup, 1) := lw_dr lw_d_cX4_init_0 9 rfl
theorem dX4_init_20 : decode cX4_init 20 = .ok (.invokespecial 20, 3) := lw_dr lw_d_cX4_init_0 10 rfl
theorem dX4_init_23 : decode cX4_init 23 = .ok (.putfield 21, 3) := lw_dr lw_d_cX4_init_0 11 rfl
theorem dX4_init_26 : decode cX4_init 26 = .ok (.aload_n 0, 1) := lw_dr lw_d_cX4_init_0 12 rfl
theorem dX4_init_27 : decode cX4_init 27 = .ok (.iconst 0, 1) := lw_dr lw_d_cX4_init_0 13 rfl
theorem dX4_init_28 : decode cX4_init 28 = .ok (.putfield 25, 3) := lw_dr lw_d_cX4_init_0 14 rfl
theorem dX4_init_31 : decode cX4_init 31 = .ok (.aload_n 0, 1) := lw_dr lw_d_cX4_init_0 15 rfl
theorem dX4_init_32 : decode cX4_init 32 = .ok (.iconst (-1), 1) := lw_dr lw_d_cX4_init_0 16 rfl
theorem dX4_init_33 : decode cX4_init 33 = .ok (.putfield 29, 3) := lw_dr lw_d_cX4_init_0 17 rfl
theorem dX4_init_36 : decode cX4_init 36 = .ok (.aload_n 0, 1) := lw_dr lw_d_cX4_init_0 18 rfl
theorem dX4_init_37 : decode cX4_init 37 = .ok (.iconst 0, 1) := lw_dr lw_d_cX4_init_0 19 rfl
theorem dX4_init_38 : decode cX4_init 38 = .ok (.putfield 32, 3) := lw_dr lw_d_cX4_init_0 20 rfl
theorem dX4_init_41 : decode cX4_init 41 = .ok (.aload_n 0, 1) := lw_dr lw_d_cX4_init_0 21 rfl
theorem dX4_init_42 : decode cX4_init 42 = .ok (.iconst 0, 1) := lw_dr lw_d_cX4_init_0 22 rfl
theorem dX4_init_43 : decode cX4_init 43 = .ok (.putfield 35, 3) := lw_dr lw_d_cX4_init_0 23 rfl
theorem dX4_init_46 : decode cX4_init 46 = .ok (.aload_n 0, 1) := lw_dr lw_d_cX4_init_0 24 rfl
theorem dX4_init_47 : decode cX4_init 47 = .ok (.iconst 0, 1) := lw_dr lw_d_cX4_init_0 25 rfl
theorem dX4_init_48 : decode cX4_init 48 = .ok (.putfield 38, 3) := lw_dr lw_d_cX4_init_0 26 rfl
theorem dX4_init_51 : decode cX4_init 51 = .ok (.aload_n 0, 1) := lw_dr lw_d_cX4_init_0 27 rfl
theorem dX4_init_52 : decode cX4_init 52 = .ok (.iconst (-1), 1) := lw_dr lw_d_cX4_init_0 28 rfl
theorem dX4_init_53 : decode cX4_init 53 = .ok (.putfield 41, 3) := lw_dr lw_d_cX4_init_0 29 rfl
theorem dX4_init_56 : decode cX4_init 56 = .ok (.return_, 1) := lw_dr lw_d_cX4_init_0 30 rfl
theorem lw_d_cX9_init_0 : lw_dl cX9_init [(0, .aload_n 0, 1), (1, .invokespecial 3, 3), (4, .aload_n 0, 1), (5, .sipush 1600, 3), (8, .newarray .byte, 2), (10, .putfield 9, 3), (13, .aload_n 0, 1), (14, .iconst 0, 1), (15, .putfield 15, 3), (18, .return_, 1)] = true := by decide +kernel
theorem dX9_init_0 : decode cX9_init 0 = .ok (.aload_n 0, 1) := lw_dr lw_d_cX9_init_0 0 rfl
theorem dX9_init_1 : decode cX9_init 1 = .ok (.invokespecial 3, 3) := lw_dr lw_d_cX9_init_0 1 rfl
theorem dX9_init_4 : decode cX9_init 4 = .ok (.aload_n 0, 1) := lw_dr lw_d_cX9_init_0 2 rfl
theorem dX9_init_5 : decode cX9_init 5 = .ok (.sipush 1600, 3) := lw_dr lw_d_cX9_init_0 3 rfl
theorem dX9_init_8 : decode cX9_init 8 = .ok (.newarray .byte, 2) := lw_dr lw_d_cX9_init_0 4 rfl
theorem dX9_init_10 : decode cX9_init 10 = .ok (.putfield 9, 3) := lw_dr lw_d_cX9_init_0 5 rfl
theorem dX9_init_13 : decode cX9_init 13 = .ok (.aload_n 0, 1) := lw_dr lw_d_cX9_init_0 6 rfl
theorem dX9_init_14 : decode cX9_init 14 = .ok (.iconst 0, 1) := lw_dr lw_d_cX9_init_0 7 rfl
theorem dX9_init_15 : decode cX9_init 15 = .ok (.putfield 15, 3) := lw_dr lw_d_cX9_init_0 8 rfl
theorem dX9_init_18 : decode cX9_init 18 = .ok (.return_, 1) := lw_dr lw_d_cX9_init_0 9 rfl
theorem lw_d_cX1_init_0 : lw_dl cX1_init [(0, .aload_n 0, 1), (1, .invokespecial 3, 3), (4, .aload_n 0, 1), (5, .new 9, 3), (8, .dup, 1), (9, .invokespecial 11, 3), (12, .putfield 12, 3), (15, .aload_n 0, 1), (16, .new 18, 3), (19, .dup, 1), (20, .invokespecial 20, 3), (23, .putfield 21, 3), (26, .aload_n 0, 1), (27, .bipush 80, 2), (29, .newarray .int, 2), (31, .putfield 25, 3), (34, .aload_n 0, 1), (35, .iconst 0, 1), (36, .putfield 29, 3), (39, .aload_n 0, 1), (40, .iconst 0, 1), (41, .putfield 33, 3), (44, .aload_n 0, 1), (45, .iconst 0, 1), (46, .putfield 36, 3), (49, .aload_n 0, 1), (50, .iconst 0, 1), (51, .putfield 39, 3), (54, .aload_n 0, 1), (55, .iconst 0, 1), (56, .putfield 42, 3), (59, .aload_n 0, 1), (60, .sipush 9999, 3), (63, .putfield 45, 3), (66, .aload_n 0, 1), (67, .iconst 0, 1), (68, .putfield 48, 3), (71, .return_, 1)] = true := by decide +kernel
theorem dX1_init_0 : decode cX1_init 0 = .ok (.aload_n 0, 1) := lw_dr lw_d_cX1_init_0 0 rfl
theorem dX1_init_1 : decode cX1_init 1 = .ok (.invokespecial 3, 3) := lw_dr lw_d_cX1_init_0 1 rfl
theorem dX1_init_4 : decode cX1_init 4 = .ok (.aload_n 0, 1) := lw_dr lw_d_cX1_init_0 2 rfl
theorem dX1_init_5 : decode cX1_init 5 = .ok (.new 9, 3) := lw_dr lw_d_cX1_init_0 3 rfl
theorem dX1_init_8 : decode cX1_init 8 = .ok (.dup, 1) := lw_dr lw_d_cX1_init_0 4 rfl
theorem dX1_init_9 : decode cX1_init 9 = .ok (.invokespecial 11, 3) := lw_dr lw_d_cX1_init_0 5 rfl
theorem dX1_init_12 : decode cX1_init 12 = .ok (.putfield 12, 3) := lw_dr lw_d_cX1_init_0 6 rfl
theorem dX1_init_15 : decode cX1_init 15 = .ok (.aload_n 0, 1) := lw_dr lw_d_cX1_init_0 7 rfl
theorem dX1_init_16 : decode cX1_init 16 = .ok (.new 18, 3) := lw_dr lw_d_cX1_init_0 8 rfl
theorem dX1_init_19 : decode cX1_init 19 = .ok (.dup, 1) := lw_dr lw_d_cX1_init_0 9 rfl
theorem dX1_init_20 : decode cX1_init 20 = .ok (.invokespecial 20, 3) := lw_dr lw_d_cX1_init_0 10 rfl
theorem dX1_init_23 : decode cX1_init 23 = .ok (.putfield 21, 3) := lw_dr lw_d_cX1_init_0 11 rfl
theorem dX1_init_26 : decode cX1_init 26 = .ok (.aload_n 0, 1) := lw_dr lw_d_cX1_init_0 12 rfl
theorem dX1_init_27 : decode cX1_init 27 = .ok (.bipush 80, 2) := lw_dr lw_d_cX1_init_0 13 rfl
theorem dX1_init_29 : decode cX1_init 29 = .ok (.newarray .int, 2) := lw_dr lw_d_cX1_init_0 14 rfl
theorem dX1_init_31 : decode cX1_init 31 = .ok (.putfield 25, 3) := lw_dr lw_d_cX1_init_0 15 rfl
theorem dX1_init_34 : decode cX1_init 34 = .ok (.aload_n 0, 1) := lw_dr lw_d_cX1_init_0 16 rfl
theorem dX1_init_35 : decode cX1_init 35 = .ok (.iconst 0, 1) := lw_dr lw_d_cX1_init_0 17 rfl
theorem dX1_init_36 : decode cX1_init 36 = .ok (.putfield 29, 3) := lw_dr lw_d_cX1_init_0 18 rfl
theorem dX1_init_39 : decode cX1_init 39 = .ok (.aload_n 0, 1) := lw_dr lw_d_cX1_init_0 19 rfl
theorem dX1_init_40 : decode cX1_init 40 = .ok (.iconst 0, 1) := lw_dr lw_d_cX1_init_0 20 rfl
theorem dX1_init_41 : decode cX1_init 41 = .ok (.putfield 33, 3) := lw_dr lw_d_cX1_init_0 21 rfl
theorem dX1_init_44 : decode cX1_init 44 = .ok (.aload_n 0, 1) := lw_dr lw_d_cX1_init_0 22 rfl
theorem dX1_init_45 : decode cX1_init 45 = .ok (.iconst 0, 1) := lw_dr lw_d_cX1_init_0 23 rfl
theorem dX1_init_46 : decode cX1_init 46 = .ok (.putfield 36, 3) := lw_dr lw_d_cX1_init_0 24 rfl
theorem dX1_init_49 : decode cX1_init 49 = .ok (.aload_n 0, 1) := lw_dr lw_d_cX1_init_0 25 rfl
theorem dX1_init_50 : decode cX1_init 50 = .ok (.iconst 0, 1) := lw_dr lw_d_cX1_init_0 26 rfl
theorem dX1_init_51 : decode cX1_init 51 = .ok (.putfield 39, 3) := lw_dr lw_d_cX1_init_0 27 rfl
theorem dX1_init_54 : decode cX1_init 54 = .ok (.aload_n 0, 1) := lw_dr lw_d_cX1_init_0 28 rfl
theorem dX1_init_55 : decode cX1_init 55 = .ok (.iconst 0, 1) := lw_dr lw_d_cX1_init_0 29 rfl
theorem dX1_init_56 : decode cX1_init 56 = .ok (.putfield 42, 3) := lw_dr lw_d_cX1_init_0 30 rfl
theorem dX1_init_59 : decode cX1_init 59 = .ok (.aload_n 0, 1) := lw_dr lw_d_cX1_init_0 31 rfl
theorem dX1_init_60 : decode cX1_init 60 = .ok (.sipush 9999, 3) := lw_dr lw_d_cX1_init_0 32 rfl
theorem dX1_init_63 : decode cX1_init 63 = .ok (.putfield 45, 3) := lw_dr lw_d_cX1_init_0 33 rfl
theorem dX1_init_66 : decode cX1_init 66 = .ok (.aload_n 0, 1) := lw_dr lw_d_cX1_init_0 34 rfl
theorem dX1_init_67 : decode cX1_init 67 = .ok (.iconst 0, 1) := lw_dr lw_d_cX1_init_0 35 rfl
theorem dX1_init_68 : decode cX1_init 68 = .ok (.putfield 48, 3) := lw_dr lw_d_cX1_init_0 36 rfl
theorem dX1_init_71 : decode cX1_init 71 = .ok (.return_, 1) := lw_dr lw_d_cX1_init_0 37 rfl
theorem lw_d_cX8_init_0 : lw_dl cX8_init [(0, .aload_n 0, 1), (1, .invokespecial 3, 3), (4, .aload_n 0, 1), (5, .bipush 30, 2), (7, .newarray .int, 2), (9, .putfield 9, 3), (12, .return_, 1)] = true := by decide +kernel
theorem dX8_init_0 : decode cX8_init 0 = .ok (.aload_n 0, 1) := lw_dr lw_d_cX8_init_0 0 rfl
theorem dX8_init_1 : decode cX8_init 1 = .ok (.invokespecial 3, 3) := lw_dr lw_d_cX8_init_0 1 rfl
theorem dX8_init_4 : decode cX8_init 4 = .ok (.aload_n 0, 1) := lw_dr lw_d_cX8_init_0 2 rfl
theorem dX8_init_5 : decode cX8_init 5 = .ok (.bipush 30, 2) := lw_dr lw_d_cX8_init_0 3 rfl
theorem dX8_init_7 : decode cX8_init 7 = .ok (.newarray .int, 2) := lw_dr lw_d_cX8_init_0 4 rfl
theorem dX8_init_9 : decode cX8_init 9 = .ok (.putfield 9, 3) := lw_dr lw_d_cX8_init_0 5 rfl
theorem dX8_init_12 : decode cX8_init 12 = .ok (.return_, 1) := lw_dr lw_d_cX8_init_0 6 rfl
theorem lw_d_cX5_init_0 : lw_dl cX5_init [(0, .aload_n 0, 1), (1, .invokespecial 3, 3), (4, .aload_n 0, 1), (5, .sipush 1600, 3), (8, .newarray .int, 2), (10, .putfield 9, 3), (13, .aload_n 0, 1), (14, .bipush 8, 2), (16, .newarray .int, 2), (18, .putfield 15, 3), (21, .aload_n 0, 1), (22, .bipush 8, 2), (24, .newarray .int, 2), (26, .putfield 18, 3), (29, .aload_n 0, 1), (30, .bipush 8, 2), (32, .newarray .int, 2), (34, .putfield 21, 3), (37, .aload_n 0, 1), (38, .bipush 64, 2), (40, .newarray .int, 2), (42, .putfield 24, 3), (45, .aload_n 0, 1), (46, .iconst 0, 1), (47, .putfield 27, 3), (50, .aload_n 0, 1), (51, .iconst 0, 1), (52, .putfield 31, 3), (55, .return_, 1)] = true := by decide +kernel
theorem dX5_init_0 : decode cX5_init 0 = .ok (.aload_n 0, 1) := lw_dr lw_d_cX5_init_0 0 rfl
theorem dX5_init_1 : decode cX5_init 1 = .ok (.invokespecial 3, 3) := lw_dr lw_d_cX5_init_0 1 rfl
theorem dX5_init_4 : decode cX5_init 4 = .ok (.aload_n 0, 1) := lw_dr lw_d_cX5_init_0 2 rfl
theorem dX5_init_5 : decode cX5_init 5 = .ok (.sipush 1600, 3) := lw_dr lw_d_cX5_init_0 3 rfl
theorem dX5_init_8 : decode cX5_init 8 = .ok (.newarray .int, 2) := lw_dr lw_d_cX5_init_0 4 rfl
theorem dX5_init_10 : decode cX5_init 10 = .ok (.putfield 9, 3) := lw_dr lw_d_cX5_init_0 5 rfl
theorem dX5_init_13 : decode cX5_init 13 = .ok (.aload_n 0, 1) := lw_dr lw_d_cX5_init_0 6 rfl
theorem dX5_init_14 : decode cX5_init 14 = .ok (.bipush 8, 2) := lw_dr lw_d_cX5_init_0 7 rfl
theorem dX5_init_16 : decode cX5_init 16 = .ok (.newarray .int, 2) := lw_dr lw_d_cX5_init_0 8 rfl
theorem dX5_init_18 : decode cX5_init 18 = .ok (.putfield 15, 3) := lw_dr lw_d_cX5_init_0 9 rfl
theorem dX5_init_21 : decode cX5_init 21 = .ok (.aload_n 0, 1) := lw_dr lw_d_cX5_init_0 10 rfl
theorem dX5_init_22 : decode cX5_init 22 = .ok (.bipush 8, 2) := lw_dr lw_d_cX5_init_0 11 rfl
theorem dX5_init_24 : decode cX5_init 24 = .ok (.newarray .int, 2) := lw_dr lw_d_cX5_init_0 12 rfl
theorem dX5_init_26 : decode cX5_init 26 = .ok (.putfield 18, 3) := lw_dr lw_d_cX5_init_0 13 rfl
theorem dX5_init_29 : decode cX5_init 29 = .ok (.aload_n 0, 1) := lw_dr lw_d_cX5_init_0 14 rfl
theorem dX5_init_30 : decode cX5_init 30 = .ok (.bipush 8, 2) := lw_dr lw_d_cX5_init_0 15 rfl
theorem dX5_init_32 : decode cX5_init 32 = .ok (.newarray .int, 2) := lw_dr lw_d_cX5_init_0 16 rfl
theorem dX5_init_34 : decode cX5_init 34 = .ok (.putfield 21, 3) := lw_dr lw_d_cX5_init_0 17 rfl
theorem dX5_init_37 : decode cX5_init 37 = .ok (.aload_n 0, 1) := lw_dr lw_d_cX5_init_0 18 rfl
theorem dX5_init_38 : decode cX5_init 38 = .ok (.bipush 64, 2) := lw_dr lw_d_cX5_init_0 19 rfl
theorem dX5_init_40 : decode cX5_init 40 = .ok (.newarray .int, 2) := lw_dr lw_d_cX5_init_0 20 rfl
theorem dX5_init_42 : decode cX5_init 42 = .ok (.putfield 24, 3) := lw_dr lw_d_cX5_init_0 21 rfl
theorem dX5_init_45 : decode cX5_init 45 = .ok (.aload_n 0, 1) := lw_dr lw_d_cX5_init_0 22 rfl
theorem dX5_init_46 : decode cX5_init 46 = .ok (.iconst 0, 1) := lw_dr lw_d_cX5_init_0 23 rfl
theorem dX5_init_47 : decode cX5_init 47 = .ok (.putfield 27, 3) := lw_dr lw_d_cX5_init_0 24 rfl
theorem dX5_init_50 : decode cX5_init 50 = .ok (.aload_n 0, 1) := lw_dr lw_d_cX5_init_0 25 rfl
theorem dX5_init_51 : decode cX5_init 51 = .ok (.iconst 0, 1) := lw_dr lw_d_cX5_init_0 26 rfl
theorem dX5_init_52 : decode cX5_init 52 = .ok (.putfield 31, 3) := lw_dr lw_d_cX5_init_0 27 rfl
theorem dX5_init_55 : decode cX5_init 55 = .ok (.return_, 1) := lw_dr lw_d_cX5_init_0 28 rfl
theorem lw_d_cX7_init_0 : lw_dl cX7_init [(0, .aload_n 0, 1), (1, .invokespecial 3, 3), (4, .aload_n 0, 1), (5, .new 9, 3), (8, .dup, 1), (9, .invokespecial 11, 3), (12, .putfield 12, 3), (15, .aload_n 0, 1), (16, .bipush 10, 2), (18, .newarray .long, 2), (20, .putfield 18, 3), (23, .aload_n 0, 1), (24, .bipush 10, 2), (26, .newarray .int, 2), (28, .putfield 22, 3), (31, .aload_n 0, 1), (32, .bipush 40, 2), (34, .newarray .long, 2), (36, .putfield 26, 3), (39, .aload_n 0, 1), (40, .bipush 40, 2), (42, .newarray .long, 2), (44, .putfield 29, 3), (47, .aload_n 0, 1), (48, .iconst 5, 1), (49, .newarray .int, 2), (51, .putfield 32, 3), (54, .aload_n 0, 1), (55, .iconst 5, 1), (56, .newarray .int, 2), (58, .putfield 35, 3), (61, .aload_n 0, 1), (62, .bipush 6, 2), (64, .newarray .int, 2), (66, .putfield 38, 3), (69, .aload_n 0, 1), (70, .iconst 0, 1), (71, .putfield 41, 3), (74, .aload_n 0, 1), (75, .lconst 0, 1)] = true := by decide +kernel
theorem dX7_init_0 : decode cX7_init 0 = .ok (.aload_n 0, 1) := lw_dr lw_d_cX7_init_0 0 rfl
theorem dX7_init_1 : decode cX7_init 1 = .ok (.invokespecial 3, 3) := lw_dr lw_d_cX7_init_0 1 rfl
theorem dX7_init_4 : decode cX7_init 4 = .ok (.aload_n 0, 1) := lw_dr lw_d_cX7_init_0 2 rfl
theorem dX7_init_5 : decode cX7_init 5 = .ok (.new 9, 3) := lw_dr lw_d_cX7_init_0 3 rfl
theorem dX7_init_8 : decode cX7_init 8 = .ok (.dup, 1) := lw_dr lw_d_cX7_init_0 4 rfl
theorem dX7_init_9 : decode cX7_init 9 = .ok (.invokespecial 11, 3) := lw_dr lw_d_cX7_init_0 5 rfl
theorem dX7_init_12 : decode cX7_init 12 = .ok (.putfield 12, 3) := lw_dr lw_d_cX7_init_0 6 rfl
theorem dX7_init_15 : decode cX7_init 15 = .ok (.aload_n 0, 1) := lw_dr lw_d_cX7_init_0 7 rfl
theorem dX7_init_16 : decode cX7_init 16 = .ok (.bipush 10, 2) := lw_dr lw_d_cX7_init_0 8 rfl
theorem dX7_init_18 : decode cX7_init 18 = .ok (.newarray .long, 2) := lw_dr lw_d_cX7_init_0 9 rfl
theorem dX7_init_20 : decode cX7_init 20 = .ok (.putfield 18, 3) := lw_dr lw_d_cX7_init_0 10 rfl
theorem dX7_init_23 : decode cX7_init 23 = .ok (.aload_n 0, 1) := lw_dr lw_d_cX7_init_0 11 rfl
theorem dX7_init_24 : decode cX7_init 24 = .ok (.bipush 10, 2) := lw_dr lw_d_cX7_init_0 12 rfl
theorem dX7_init_26 : decode cX7_init 26 = .ok (.newarray .int, 2) := lw_dr lw_d_cX7_init_0 13 rfl
theorem dX7_init_28 : decode cX7_init 28 = .ok (.putfield 22, 3) := lw_dr lw_d_cX7_init_0 14 rfl
theorem dX7_init_31 : decode cX7_init 31 = .ok (.aload_n 0, 1) := lw_dr lw_d_cX7_init_0 15 rfl
theorem dX7_init_32 : decode cX7_init 32 = .ok (.bipush 40, 2) := lw_dr lw_d_cX7_init_0 16 rfl
theorem dX7_init_34 : decode cX7_init 34 = .ok (.newarray .long, 2) := lw_dr lw_d_cX7_init_0 17 rfl
theorem dX7_init_36 : decode cX7_init 36 = .ok (.putfield 26, 3) := lw_dr lw_d_cX7_init_0 18 rfl
theorem dX7_init_39 : decode cX7_init 39 = .ok (.aload_n 0, 1) := lw_dr lw_d_cX7_init_0 19 rfl
theorem dX7_init_40 : decode cX7_init 40 = .ok (.bipush 40, 2) := lw_dr lw_d_cX7_init_0 20 rfl
theorem dX7_init_42 : decode cX7_init 42 = .ok (.newarray .long, 2) := lw_dr lw_d_cX7_init_0 21 rfl
theorem dX7_init_44 : decode cX7_init 44 = .ok (.putfield 29, 3) := lw_dr lw_d_cX7_init_0 22 rfl
theorem dX7_init_47 : decode cX7_init 47 = .ok (.aload_n 0, 1) := lw_dr lw_d_cX7_init_0 23 rfl
theorem dX7_init_48 : decode cX7_init 48 = .ok (.iconst 5, 1) := lw_dr lw_d_cX7_init_0 24 rfl
theorem dX7_init_49 : decode cX7_init 49 = .ok (.newarray .int, 2) := lw_dr lw_d_cX7_init_0 25 rfl
theorem dX7_init_51 : decode cX7_init 51 = .ok (.putfield 32, 3) := lw_dr lw_d_cX7_init_0 26 rfl
theorem dX7_init_54 : decode cX7_init 54 = .ok (.aload_n 0, 1) := lw_dr lw_d_cX7_init_0 27 rfl
theorem dX7_init_55 : decode cX7_init 55 = .ok (.iconst 5, 1) := lw_dr lw_d_cX7_init_0 28 rfl
theorem dX7_init_56 : decode cX7_init 56 = .ok (.newarray .int, 2) := lw_dr lw_d_cX7_init_0 29 rfl
theorem dX7_init_58 : decode cX7_init 58 = .ok (.putfield 35, 3) := lw_dr lw_d_cX7_init_0 30 rfl
theorem dX7_init_61 : decode cX7_init 61 = .ok (.aload_n 0, 1) := lw_dr lw_d_cX7_init_0 31 rfl
theorem dX7_init_62 : decode cX7_init 62 = .ok (.bipush 6, 2) := lw_dr lw_d_cX7_init_0 32 rfl
theorem dX7_init_64 : decode cX7_init 64 = .ok (.newarray .int, 2) := lw_dr lw_d_cX7_init_0 33 rfl
theorem dX7_init_66 : decode cX7_init 66 = .ok (.putfield 38, 3) := lw_dr lw_d_cX7_init_0 34 rfl
theorem dX7_init_69 : decode cX7_init 69 = .ok (.aload_n 0, 1) := lw_dr lw_d_cX7_init_0 35 rfl
theorem dX7_init_70 : decode cX7_init 70 = .ok (.iconst 0, 1) := lw_dr lw_d_cX7_init_0 36 rfl
theorem dX7_init_71 : decode cX7_init 71 = .ok (.putfield 41, 3) := lw_dr lw_d_cX7_init_0 37 rfl
theorem dX7_init_74 : decode cX7_init 74 = .ok (.aload_n 0, 1) := lw_dr lw_d_cX7_init_0 38 rfl
theorem dX7_init_75 : decode cX7_init 75 = .ok (.lconst 0, 1) := lw_dr lw_d_cX7_init_0 39 rfl
theorem lw_d_cX7_init_76 : lw_dl cX7_init [(76, .putfield 45, 3), (79, .aload_n 0, 1), (80, .iconst 0, 1), (81, .putfield 49, 3), (84, .return_, 1)] = true := by decide +kernel
theorem dX7_init_76 : decode cX7_init 76 = .ok (.putfield 45, 3) := lw_dr lw_d_cX7_init_76 0 rfl
theorem dX7_init_79 : decode cX7_init 79 = .ok (.aload_n 0, 1) := lw_dr lw_d_cX7_init_76 1 rfl
theorem dX7_init_80 : decode cX7_init 80 = .ok (.iconst 0, 1) := lw_dr lw_d_cX7_init_76 2 rfl
theorem dX7_init_81 : decode cX7_init 81 = .ok (.putfield 49, 3) := lw_dr lw_d_cX7_init_76 3 rfl
theorem dX7_init_84 : decode cX7_init 84 = .ok (.return_, 1) := lw_dr lw_d_cX7_init_76 4 rfl
theorem lw_d_cX10_init_0 : lw_dl cX10_init [(0, .aload_n 0, 1), (1, .invokespecial 3, 3), (4, .aload_n 0, 1), (5, .bipush 25, 2), (7, .newarray .long, 2), (9, .putfield 9, 3), (12, .aload_n 0, 1), (13, .iconst 5, 1), (14, .newarray .long, 2), (16, .putfield 15, 3), (19, .aload_n 0, 1), (20, .bipush 25, 2), (22, .newarray .long, 2), (24, .putfield 18, 3), (27, .aload_n 0, 1), (28, .iconst 5, 1), (29, .newarray .int, 2), (31, .putfield 21, 3), (34, .aload_n 0, 1), (35, .iconst 5, 1), (36, .newarray .int, 2), (38, .putfield 25, 3), (41, .aload_n 0, 1), (42, .iconst 5, 1), (43, .newarray .int, 2), (45, .putfield 28, 3), (48, .aload_n 0, 1), (49, .iconst 5, 1), (50, .newarray .int, 2), (52, .putfield 31, 3), (55, .aload_n 0, 1), (56, .iconst 0, 1), (57, .putfield 34, 3), (60, .return_, 1)] = true := by decide +kernel
theorem dX10_init_0 : decode cX10_init 0 = .ok (.aload_n 0, 1) := lw_dr lw_d_cX10_init_0 0 rfl
theorem dX10_init_1 : decode cX10_init 1 = .ok (.invokespecial 3, 3) := lw_dr lw_d_cX10_init_0 1 rfl
theorem dX10_init_4 : decode cX10_init 4 = .ok (.aload_n 0, 1) := lw_dr lw_d_cX10_init_0 2 rfl
theorem dX10_init_5 : decode cX10_init 5 = .ok (.bipush 25, 2) := lw_dr lw_d_cX10_init_0 3 rfl
theorem dX10_init_7 : decode cX10_init 7 = .ok (.newarray .long, 2) := lw_dr lw_d_cX10_init_0 4 rfl
theorem dX10_init_9 : decode cX10_init 9 = .ok (.putfield 9, 3) := lw_dr lw_d_cX10_init_0 5 rfl
theorem dX10_init_12 : decode cX10_init 12 = .ok (.aload_n 0, 1) := lw_dr lw_d_cX10_init_0 6 rfl
theorem dX10_init_13 : decode cX10_init 13 = .ok (.iconst 5, 1) := lw_dr lw_d_cX10_init_0 7 rfl
theorem dX10_init_14 : decode cX10_init 14 = .ok (.newarray .long, 2) := lw_dr lw_d_cX10_init_0 8 rfl
theorem dX10_init_16 : decode cX10_init 16 = .ok (.putfield 15, 3) := lw_dr lw_d_cX10_init_0 9 rfl
theorem dX10_init_19 : decode cX10_init 19 = .ok (.aload_n 0, 1) := lw_dr lw_d_cX10_init_0 10 rfl
theorem dX10_init_20 : decode cX10_init 20 = .ok (.bipush 25, 2) := lw_dr lw_d_cX10_init_0 11 rfl
theorem dX10_init_22 : decode cX10_init 22 = .ok (.newarray .long, 2) := lw_dr lw_d_cX10_init_0 12 rfl
theorem dX10_init_24 : decode cX10_init 24 = .ok (.putfield 18, 3) := lw_dr lw_d_cX10_init_0 13 rfl
theorem dX10_init_27 : decode cX10_init 27 = .ok (.aload_n 0, 1) := lw_dr lw_d_cX10_init_0 14 rfl
theorem dX10_init_28 : decode cX10_init 28 = .ok (.iconst 5, 1) := lw_dr lw_d_cX10_init_0 15 rfl
theorem dX10_init_29 : decode cX10_init 29 = .ok (.newarray .int, 2) := lw_dr lw_d_cX10_init_0 16 rfl
theorem dX10_init_31 : decode cX10_init 31 = .ok (.putfield 21, 3) := lw_dr lw_d_cX10_init_0 17 rfl
theorem dX10_init_34 : decode cX10_init 34 = .ok (.aload_n 0, 1) := lw_dr lw_d_cX10_init_0 18 rfl
theorem dX10_init_35 : decode cX10_init 35 = .ok (.iconst 5, 1) := lw_dr lw_d_cX10_init_0 19 rfl
theorem dX10_init_36 : decode cX10_init 36 = .ok (.newarray .int, 2) := lw_dr lw_d_cX10_init_0 20 rfl
theorem dX10_init_38 : decode cX10_init 38 = .ok (.putfield 25, 3) := lw_dr lw_d_cX10_init_0 21 rfl
theorem dX10_init_41 : decode cX10_init 41 = .ok (.aload_n 0, 1) := lw_dr lw_d_cX10_init_0 22 rfl
theorem dX10_init_42 : decode cX10_init 42 = .ok (.iconst 5, 1) := lw_dr lw_d_cX10_init_0 23 rfl
theorem dX10_init_43 : decode cX10_init 43 = .ok (.newarray .int, 2) := lw_dr lw_d_cX10_init_0 24 rfl
theorem dX10_init_45 : decode cX10_init 45 = .ok (.putfield 28, 3) := lw_dr lw_d_cX10_init_0 25 rfl
theorem dX10_init_48 : decode cX10_init 48 = .ok (.aload_n 0, 1) := lw_dr lw_d_cX10_init_0 26 rfl
theorem dX10_init_49 : decode cX10_init 49 = .ok (.iconst 5, 1) := lw_dr lw_d_cX10_init_0 27 rfl
theorem dX10_init_50 : decode cX10_init 50 = .ok (.newarray .int, 2) := lw_dr lw_d_cX10_init_0 28 rfl
theorem dX10_init_52 : decode cX10_init 52 = .ok (.putfield 31, 3) := lw_dr lw_d_cX10_init_0 29 rfl
theorem dX10_init_55 : decode cX10_init 55 = .ok (.aload_n 0, 1) := lw_dr lw_d_cX10_init_0 30 rfl
theorem dX10_init_56 : decode cX10_init 56 = .ok (.iconst 0, 1) := lw_dr lw_d_cX10_init_0 31 rfl
theorem dX10_init_57 : decode cX10_init 57 = .ok (.putfield 34, 3) := lw_dr lw_d_cX10_init_0 32 rfl
theorem dX10_init_60 : decode cX10_init 60 = .ok (.return_, 1) := lw_dr lw_d_cX10_init_0 33 rfl
theorem lw_d_cX11_init_41 : lw_dl cX11_init [(41, .dup, 1), (42, .invokespecial 30, 3), (45, .putfield 31, 3), (48, .aload_n 0, 1), (49, .new 35, 3), (52, .dup, 1), (53, .invokespecial 37, 3), (56, .putfield 38, 3), (59, .aload_n 0, 1), (60, .new 42, 3), (63, .dup, 1), (64, .invokespecial 44, 3), (67, .putfield 45, 3), (70, .aload_n 0, 1), (71, .bipush 6, 2), (73, .newarray .int, 2), (75, .putfield 49, 3), (78, .aload_n 0, 1), (79, .iconst 5, 1), (80, .newarray .int, 2), (82, .putfield 53, 3), (85, .aload_n 0, 1), (86, .iconst 5, 1), (87, .newarray .int, 2), (89, .putfield 56, 3), (92, .aload_n 0, 1), (93, .bipush 14, 2), (95, .newarray .int, 2), (97, .putfield 59, 3), (100, .aload_n 0, 1), (101, .iconst 0, 1), (102, .putfield 62, 3), (105, .aload_n 0, 1), (106, .new 66, 3), (109, .dup, 1), (110, .invokespecial 68, 3), (113, .putfield 69, 3), (116, .aload_n 0, 1), (117, .new 73, 3), (120, .dup, 1)] = true := by decide +kernel
theorem dX11_init_41 : decode cX11_init 41 = .ok (.dup, 1) := lw_dr lw_d_cX11_init_41 0 rfl
theorem dX11_init_42 : decode cX11_init 42 = .ok (.invokespecial 30, 3) := lw_dr lw_d_cX11_init_41 1 rfl
theorem dX11_init_45 : decode cX11_init 45 = .ok (.putfield 31, 3) := lw_dr lw_d_cX11_init_41 2 rfl
theorem dX11_init_48 : decode cX11_init 48 = .ok (.aload_n 0, 1) := lw_dr lw_d_cX11_init_41 3 rfl
theorem dX11_init_49 : decode cX11_init 49 = .ok (.new 35, 3) := lw_dr lw_d_cX11_init_41 4 rfl
theorem dX11_init_52 : decode cX11_init 52 = .ok (.dup, 1) := lw_dr lw_d_cX11_init_41 5 rfl
theorem dX11_init_53 : decode cX11_init 53 = .ok (.invokespecial 37, 3) := lw_dr lw_d_cX11_init_41 6 rfl
theorem dX11_init_56 : decode cX11_init 56 = .ok (.putfield 38, 3) := lw_dr lw_d_cX11_init_41 7 rfl
theorem dX11_init_59 : decode cX11_init 59 = .ok (.aload_n 0, 1) := lw_dr lw_d_cX11_init_41 8 rfl
theorem dX11_init_60 : decode cX11_init 60 = .ok (.new 42, 3) := lw_dr lw_d_cX11_init_41 9 rfl
theorem dX11_init_63 : decode cX11_init 63 = .ok (.dup, 1) := lw_dr lw_d_cX11_init_41 10 rfl
theorem dX11_init_64 : decode cX11_init 64 = .ok (.invokespecial 44, 3) := lw_dr lw_d_cX11_init_41 11 rfl
theorem dX11_init_67 : decode cX11_init 67 = .ok (.putfield 45, 3) := lw_dr lw_d_cX11_init_41 12 rfl
theorem dX11_init_70 : decode cX11_init 70 = .ok (.aload_n 0, 1) := lw_dr lw_d_cX11_init_41 13 rfl
theorem dX11_init_71 : decode cX11_init 71 = .ok (.bipush 6, 2) := lw_dr lw_d_cX11_init_41 14 rfl
theorem dX11_init_73 : decode cX11_init 73 = .ok (.newarray .int, 2) := lw_dr lw_d_cX11_init_41 15 rfl
theorem dX11_init_75 : decode cX11_init 75 = .ok (.putfield 49, 3) := lw_dr lw_d_cX11_init_41 16 rfl
theorem dX11_init_78 : decode cX11_init 78 = .ok (.aload_n 0, 1) := lw_dr lw_d_cX11_init_41 17 rfl
theorem dX11_init_79 : decode cX11_init 79 = .ok (.iconst 5, 1) := lw_dr lw_d_cX11_init_41 18 rfl
theorem dX11_init_80 : decode cX11_init 80 = .ok (.newarray .int, 2) := lw_dr lw_d_cX11_init_41 19 rfl
theorem dX11_init_82 : decode cX11_init 82 = .ok (.putfield 53, 3) := lw_dr lw_d_cX11_init_41 20 rfl
theorem dX11_init_85 : decode cX11_init 85 = .ok (.aload_n 0, 1) := lw_dr lw_d_cX11_init_41 21 rfl
theorem dX11_init_86 : decode cX11_init 86 = .ok (.iconst 5, 1) := lw_dr lw_d_cX11_init_41 22 rfl
theorem dX11_init_87 : decode cX11_init 87 = .ok (.newarray .int, 2) := lw_dr lw_d_cX11_init_41 23 rfl
theorem dX11_init_89 : decode cX11_init 89 = .ok (.putfield 56, 3) := lw_dr lw_d_cX11_init_41 24 rfl
theorem dX11_init_92 : decode cX11_init 92 = .ok (.aload_n 0, 1) := lw_dr lw_d_cX11_init_41 25 rfl
theorem dX11_init_93 : decode cX11_init 93 = .ok (.bipush 14, 2) := lw_dr lw_d_cX11_init_41 26 rfl
theorem dX11_init_95 : decode cX11_init 95 = .ok (.newarray .int, 2) := lw_dr lw_d_cX11_init_41 27 rfl
theorem dX11_init_97 : decode cX11_init 97 = .ok (.putfield 59, 3) := lw_dr lw_d_cX11_init_41 28 rfl
theorem dX11_init_100 : decode cX11_init 100 = .ok (.aload_n 0, 1) := lw_dr lw_d_cX11_init_41 29 rfl
theorem dX11_init_101 : decode cX11_init 101 = .ok (.iconst 0, 1) := lw_dr lw_d_cX11_init_41 30 rfl
theorem dX11_init_102 : decode cX11_init 102 = .ok (.putfield 62, 3) := lw_dr lw_d_cX11_init_41 31 rfl
theorem dX11_init_105 : decode cX11_init 105 = .ok (.aload_n 0, 1) := lw_dr lw_d_cX11_init_41 32 rfl
theorem dX11_init_106 : decode cX11_init 106 = .ok (.new 66, 3) := lw_dr lw_d_cX11_init_41 33 rfl
theorem dX11_init_109 : decode cX11_init 109 = .ok (.dup, 1) := lw_dr lw_d_cX11_init_41 34 rfl
theorem dX11_init_110 : decode cX11_init 110 = .ok (.invokespecial 68, 3) := lw_dr lw_d_cX11_init_41 35 rfl
theorem dX11_init_113 : decode cX11_init 113 = .ok (.putfield 69, 3) := lw_dr lw_d_cX11_init_41 36 rfl
theorem dX11_init_116 : decode cX11_init 116 = .ok (.aload_n 0, 1) := lw_dr lw_d_cX11_init_41 37 rfl
theorem dX11_init_117 : decode cX11_init 117 = .ok (.new 73, 3) := lw_dr lw_d_cX11_init_41 38 rfl
theorem dX11_init_120 : decode cX11_init 120 = .ok (.dup, 1) := lw_dr lw_d_cX11_init_41 39 rfl
theorem lw_d_cX11_init_121 : lw_dl cX11_init [(121, .invokespecial 75, 3), (124, .putfield 76, 3), (127, .aload_n 0, 1), (128, .new 73, 3), (131, .dup, 1), (132, .invokespecial 75, 3), (135, .putfield 80, 3), (138, .return_, 1)] = true := by decide +kernel
theorem dX11_init_121 : decode cX11_init 121 = .ok (.invokespecial 75, 3) := lw_dr lw_d_cX11_init_121 0 rfl
theorem dX11_init_124 : decode cX11_init 124 = .ok (.putfield 76, 3) := lw_dr lw_d_cX11_init_121 1 rfl
theorem dX11_init_127 : decode cX11_init 127 = .ok (.aload_n 0, 1) := lw_dr lw_d_cX11_init_121 2 rfl
theorem dX11_init_128 : decode cX11_init 128 = .ok (.new 73, 3) := lw_dr lw_d_cX11_init_121 3 rfl
theorem dX11_init_131 : decode cX11_init 131 = .ok (.dup, 1) := lw_dr lw_d_cX11_init_121 4 rfl
theorem dX11_init_132 : decode cX11_init 132 = .ok (.invokespecial 75, 3) := lw_dr lw_d_cX11_init_121 5 rfl
theorem dX11_init_135 : decode cX11_init 135 = .ok (.putfield 80, 3) := lw_dr lw_d_cX11_init_121 6 rfl
theorem dX11_init_138 : decode cX11_init 138 = .ok (.return_, 1) := lw_dr lw_d_cX11_init_121 7 rfl
theorem lw_d_cX6_init_0 : lw_dl cX6_init [(0, .aload_n 0, 1), (1, .invokespecial 3, 3), (4, .aload_n 0, 1), (5, .new 9, 3), (8, .dup, 1), (9, .invokespecial 11, 3), (12, .putfield 12, 3), (15, .aload_n 0, 1), (16, .iconst 5, 1), (17, .newarray .int, 2), (19, .putfield 18, 3), (22, .aload_n 0, 1), (23, .bipush 32, 2), (25, .newarray .long, 2), (27, .putfield 22, 3), (30, .aload_n 0, 1), (31, .lconst 0, 1), (32, .putfield 26, 3), (35, .aload_n 0, 1), (36, .getfield 22, 3), (39, .ldc2_w 30, 3), (42, .invokestatic 32, 3), (45, .return_, 1)] = true := by decide +kernel
theorem dX6_init_0 : decode cX6_init 0 = .ok (.aload_n 0, 1) := lw_dr lw_d_cX6_init_0 0 rfl
theorem dX6_init_1 : decode cX6_init 1 = .ok (.invokespecial 3, 3) := lw_dr lw_d_cX6_init_0 1 rfl
theorem dX6_init_4 : decode cX6_init 4 = .ok (.aload_n 0, 1) := lw_dr lw_d_cX6_init_0 2 rfl
theorem dX6_init_5 : decode cX6_init 5 = .ok (.new 9, 3) := lw_dr lw_d_cX6_init_0 3 rfl
theorem dX6_init_8 : decode cX6_init 8 = .ok (.dup, 1) := lw_dr lw_d_cX6_init_0 4 rfl
theorem dX6_init_9 : decode cX6_init 9 = .ok (.invokespecial 11, 3) := lw_dr lw_d_cX6_init_0 5 rfl
theorem dX6_init_12 : decode cX6_init 12 = .ok (.putfield 12, 3) := lw_dr lw_d_cX6_init_0 6 rfl
theorem dX6_init_15 : decode cX6_init 15 = .ok (.aload_n 0, 1) := lw_dr lw_d_cX6_init_0 7 rfl
theorem dX6_init_16 : decode cX6_init 16 = .ok (.iconst 5, 1) := lw_dr lw_d_cX6_init_0 8 rfl
theorem dX6_init_17 : decode cX6_init 17 = .ok (.newarray .int, 2) := lw_dr lw_d_cX6_init_0 9 rfl
theorem dX6_init_19 : decode cX6_init 19 = .ok (.putfield 18, 3) := lw_dr lw_d_cX6_init_0 10 rfl
theorem dX6_init_22 : decode cX6_init 22 = .ok (.aload_n 0, 1) := lw_dr lw_d_cX6_init_0 11 rfl
theorem dX6_init_23 : decode cX6_init 23 = .ok (.bipush 32, 2) := lw_dr lw_d_cX6_init_0 12 rfl
theorem dX6_init_25 : decode cX6_init 25 = .ok (.newarray .long, 2) := lw_dr lw_d_cX6_init_0 13 rfl
theorem dX6_init_27 : decode cX6_init 27 = .ok (.putfield 22, 3) := lw_dr lw_d_cX6_init_0 14 rfl
theorem dX6_init_30 : decode cX6_init 30 = .ok (.aload_n 0, 1) := lw_dr lw_d_cX6_init_0 15 rfl
theorem dX6_init_31 : decode cX6_init 31 = .ok (.lconst 0, 1) := lw_dr lw_d_cX6_init_0 16 rfl
theorem dX6_init_32 : decode cX6_init 32 = .ok (.putfield 26, 3) := lw_dr lw_d_cX6_init_0 17 rfl
theorem dX6_init_35 : decode cX6_init 35 = .ok (.aload_n 0, 1) := lw_dr lw_d_cX6_init_0 18 rfl
theorem dX6_init_36 : decode cX6_init 36 = .ok (.getfield 22, 3) := lw_dr lw_d_cX6_init_0 19 rfl
theorem dX6_init_39 : decode cX6_init 39 = .ok (.ldc2_w 30, 3) := lw_dr lw_d_cX6_init_0 20 rfl
theorem dX6_init_42 : decode cX6_init 42 = .ok (.invokestatic 32, 3) := lw_dr lw_d_cX6_init_0 21 rfl
theorem dX6_init_45 : decode cX6_init 45 = .ok (.return_, 1) := lw_dr lw_d_cX6_init_0 22 rfl
theorem lw_d_cX0_init_0 : lw_dl cX0_init [(0, .aload_n 0, 1), (1, .invokespecial 3, 3), (4, .aload_n 0, 1), (5, .sipush 256, 3), (8, .newarray .long, 2), (10, .putfield 9, 3), (13, .aload_n 0, 1), (14, .iconst 5, 1), (15, .newarray .int, 2), (17, .putfield 15, 3), (20, .aload_n 0, 1), (21, .iconst 0, 1), (22, .putfield 19, 3), (25, .aload_n 0, 1), (26, .iconst 0, 1), (27, .putfield 23, 3), (30, .aload_n 0, 1), (31, .lconst 0, 1), (32, .putfield 27, 3), (35, .aload_n 0, 1), (36, .iconst 0, 1), (37, .putfield 31, 3), (40, .aload_n 0, 1), (41, .iconst 0, 1), (42, .putfield 34, 3), (45, .return_, 1)] = true := by decide +kernel
theorem dX0_init_0 : decode cX0_init 0 = .ok (.aload_n 0, 1) := lw_dr lw_d_cX0_init_0 0 rfl
theorem dX0_init_1 : decode cX0_init 1 = .ok (.invokespecial 3, 3) := lw_dr lw_d_cX0_init_0 1 rfl
theorem dX0_init_4 : decode cX0_init 4 = .ok (.aload_n 0, 1) := lw_dr lw_d_cX0_init_0 2 rfl
theorem dX0_init_5 : decode cX0_init 5 = .ok (.sipush 256, 3) := lw_dr lw_d_cX0_init_0 3 rfl
theorem dX0_init_8 : decode cX0_init 8 = .ok (.newarray .long, 2) := lw_dr lw_d_cX0_init_0 4 rfl
theorem dX0_init_10 : decode cX0_init 10 = .ok (.putfield 9, 3) := lw_dr lw_d_cX0_init_0 5 rfl
theorem dX0_init_13 : decode cX0_init 13 = .ok (.aload_n 0, 1) := lw_dr lw_d_cX0_init_0 6 rfl
theorem dX0_init_14 : decode cX0_init 14 = .ok (.iconst 5, 1) := lw_dr lw_d_cX0_init_0 7 rfl
theorem dX0_init_15 : decode cX0_init 15 = .ok (.newarray .int, 2) := lw_dr lw_d_cX0_init_0 8 rfl
theorem dX0_init_17 : decode cX0_init 17 = .ok (.putfield 15, 3) := lw_dr lw_d_cX0_init_0 9 rfl
theorem dX0_init_20 : decode cX0_init 20 = .ok (.aload_n 0, 1) := lw_dr lw_d_cX0_init_0 10 rfl
theorem dX0_init_21 : decode cX0_init 21 = .ok (.iconst 0, 1) := lw_dr lw_d_cX0_init_0 11 rfl
theorem dX0_init_22 : decode cX0_init 22 = .ok (.putfield 19, 3) := lw_dr lw_d_cX0_init_0 12 rfl
theorem dX0_init_25 : decode cX0_init 25 = .ok (.aload_n 0, 1) := lw_dr lw_d_cX0_init_0 13 rfl
theorem dX0_init_26 : decode cX0_init 26 = .ok (.iconst 0, 1) := lw_dr lw_d_cX0_init_0 14 rfl
theorem dX0_init_27 : decode cX0_init 27 = .ok (.putfield 23, 3) := lw_dr lw_d_cX0_init_0 15 rfl
theorem dX0_init_30 : decode cX0_init 30 = .ok (.aload_n 0, 1) := lw_dr lw_d_cX0_init_0 16 rfl
theorem dX0_init_31 : decode cX0_init 31 = .ok (.lconst 0, 1) := lw_dr lw_d_cX0_init_0 17 rfl
theorem dX0_init_32 : decode cX0_init 32 = .ok (.putfield 27, 3) := lw_dr lw_d_cX0_init_0 18 rfl
theorem dX0_init_35 : decode cX0_init 35 = .ok (.aload_n 0, 1) := lw_dr lw_d_cX0_init_0 19 rfl
theorem dX0_init_36 : decode cX0_init 36 = .ok (.iconst 0, 1) := lw_dr lw_d_cX0_init_0 20 rfl
theorem dX0_init_37 : decode cX0_init 37 = .ok (.putfield 31, 3) := lw_dr lw_d_cX0_init_0 21 rfl
theorem dX0_init_40 : decode cX0_init 40 = .ok (.aload_n 0, 1) := lw_dr lw_d_cX0_init_0 22 rfl
theorem dX0_init_41 : decode cX0_init 41 = .ok (.iconst 0, 1) := lw_dr lw_d_cX0_init_0 23 rfl
theorem dX0_init_42 : decode cX0_init 42 = .ok (.putfield 34, 3) := lw_dr lw_d_cX0_init_0 24 rfl
theorem dX0_init_45 : decode cX0_init 45 = .ok (.return_, 1) := lw_dr lw_d_cX0_init_0 25 rfl
theorem lw_d_cX3_init_0 : lw_dl cX3_init [(0, .aload_n 0, 1), (1, .invokespecial 3, 3), (4, .aload_n 0, 1), (5, .new 9, 3), (8, .dup, 1), (9, .invokespecial 11, 3), (12, .putfield 12, 3), (15, .aload_n 0, 1), (16, .iconst 5, 1), (17, .newarray .int, 2), (19, .putfield 18, 3), (22, .aload_n 0, 1), (23, .iconst 5, 1), (24, .newarray .int, 2), (26, .putfield 22, 3), (29, .aload_n 0, 1), (30, .iconst 5, 1), (31, .newarray .int, 2), (33, .putfield 25, 3), (36, .aload_n 0, 1), (37, .iconst 5, 1), (38, .newarray .int, 2), (40, .putfield 28, 3), (43, .aload_n 0, 1), (44, .iconst 5, 1), (45, .newarray .long, 2), (47, .putfield 31, 3), (50, .aload_n 0, 1), (51, .lconst 0, 1), (52, .putfield 35, 3), (55, .aload_n 0, 1), (56, .iconst 0, 1), (57, .putfield 39, 3), (60, .aload_n 0, 1), (61, .ldc2_w 43, 3), (64, .putfield 45, 3), (67, .aload_n 0, 1), (68, .ldc2_w 43, 3), (71, .putfield 48, 3), (74, .return_, 1)] = true := by decide +kernel
theorem dX3_init_0 : decode cX3_init 0 = .ok (.aload_n 0, 1) := lw_dr lw_d_cX3_init_0 0 rfl
theorem dX3_init_1 : decode cX3_init 1 = .ok (.invokespecial 3, 3) := lw_dr lw_d_cX3_init_0 1 rfl
theorem dX3_init_4 : decode cX3_init 4 = .ok (.aload_n 0, 1) := lw_dr lw_d_cX3_init_0 2 rfl
theorem dX3_init_5 : decode cX3_init 5 = .ok (.new 9, 3) := lw_dr lw_d_cX3_init_0 3 rfl
theorem dX3_init_8 : decode cX3_init 8 = .ok (.dup, 1) := lw_dr lw_d_cX3_init_0 4 rfl
theorem dX3_init_9 : decode cX3_init 9 = .ok (.invokespecial 11, 3) := lw_dr lw_d_cX3_init_0 5 rfl
theorem dX3_init_12 : decode cX3_init 12 = .ok (.putfield 12, 3) := lw_dr lw_d_cX3_init_0 6 rfl
theorem dX3_init_15 : decode cX3_init 15 = .ok (.aload_n 0, 1) := lw_dr lw_d_cX3_init_0 7 rfl
theorem dX3_init_16 : decode cX3_init 16 = .ok (.iconst 5, 1) := lw_dr lw_d_cX3_init_0 8 rfl
theorem dX3_init_17 : decode cX3_init 17 = .ok (.newarray .int, 2) := lw_dr lw_d_cX3_init_0 9 rfl
theorem dX3_init_19 : decode cX3_init 19 = .ok (.putfield 18, 3) := lw_dr lw_d_cX3_init_0 10 rfl
theorem dX3_init_22 : decode cX3_init 22 = .ok (.aload_n 0, 1) := lw_dr lw_d_cX3_init_0 11 rfl
theorem dX3_init_23 : decode cX3_init 23 = .ok (.iconst 5, 1) := lw_dr lw_d_cX3_init_0 12 rfl
theorem dX3_init_24 : decode cX3_init 24 = .ok (.newarray .int, 2) := lw_dr lw_d_cX3_init_0 13 rfl
theorem dX3_init_26 : decode cX3_init 26 = .ok (.putfield 22, 3) := lw_dr lw_d_cX3_init_0 14 rfl
theorem dX3_init_29 : decode cX3_init 29 = .ok (.aload_n 0, 1) := lw_dr lw_d_cX3_init_0 15 rfl
theorem dX3_init_30 : decode cX3_init 30 = .ok (.iconst 5, 1) := lw_dr lw_d_cX3_init_0 16 rfl
theorem dX3_init_31 : decode cX3_init 31 = .ok (.newarray .int, 2) := lw_dr lw_d_cX3_init_0 17 rfl
theorem dX3_init_33 : decode cX3_init 33 = .ok (.putfield 25, 3) := lw_dr lw_d_cX3_init_0 18 rfl
theorem dX3_init_36 : decode cX3_init 36 = .ok (.aload_n 0, 1) := lw_dr lw_d_cX3_init_0 19 rfl
theorem dX3_init_37 : decode cX3_init 37 = .ok (.iconst 5, 1) := lw_dr lw_d_cX3_init_0 20 rfl
theorem dX3_init_38 : decode cX3_init 38 = .ok (.newarray .int, 2) := lw_dr lw_d_cX3_init_0 21 rfl
theorem dX3_init_40 : decode cX3_init 40 = .ok (.putfield 28, 3) := lw_dr lw_d_cX3_init_0 22 rfl
theorem dX3_init_43 : decode cX3_init 43 = .ok (.aload_n 0, 1) := lw_dr lw_d_cX3_init_0 23 rfl
theorem dX3_init_44 : decode cX3_init 44 = .ok (.iconst 5, 1) := lw_dr lw_d_cX3_init_0 24 rfl
theorem dX3_init_45 : decode cX3_init 45 = .ok (.newarray .long, 2) := lw_dr lw_d_cX3_init_0 25 rfl
theorem dX3_init_47 : decode cX3_init 47 = .ok (.putfield 31, 3) := lw_dr lw_d_cX3_init_0 26 rfl
theorem dX3_init_50 : decode cX3_init 50 = .ok (.aload_n 0, 1) := lw_dr lw_d_cX3_init_0 27 rfl
theorem dX3_init_51 : decode cX3_init 51 = .ok (.lconst 0, 1) := lw_dr lw_d_cX3_init_0 28 rfl
theorem dX3_init_52 : decode cX3_init 52 = .ok (.putfield 35, 3) := lw_dr lw_d_cX3_init_0 29 rfl
theorem dX3_init_55 : decode cX3_init 55 = .ok (.aload_n 0, 1) := lw_dr lw_d_cX3_init_0 30 rfl
theorem dX3_init_56 : decode cX3_init 56 = .ok (.iconst 0, 1) := lw_dr lw_d_cX3_init_0 31 rfl
theorem dX3_init_57 : decode cX3_init 57 = .ok (.putfield 39, 3) := lw_dr lw_d_cX3_init_0 32 rfl
theorem dX3_init_60 : decode cX3_init 60 = .ok (.aload_n 0, 1) := lw_dr lw_d_cX3_init_0 33 rfl
theorem dX3_init_61 : decode cX3_init 61 = .ok (.ldc2_w 43, 3) := lw_dr lw_d_cX3_init_0 34 rfl
theorem dX3_init_64 : decode cX3_init 64 = .ok (.putfield 45, 3) := lw_dr lw_d_cX3_init_0 35 rfl
theorem dX3_init_67 : decode cX3_init 67 = .ok (.aload_n 0, 1) := lw_dr lw_d_cX3_init_0 36 rfl
theorem dX3_init_68 : decode cX3_init 68 = .ok (.ldc2_w 43, 3) := lw_dr lw_d_cX3_init_0 37 rfl
theorem dX3_init_71 : decode cX3_init 71 = .ok (.putfield 48, 3) := lw_dr lw_d_cX3_init_0 38 rfl
theorem dX3_init_74 : decode cX3_init 74 = .ok (.return_, 1) := lw_dr lw_d_cX3_init_0 39 rfl
theorem lw_d_cX2_init_0 : lw_dl cX2_init [(0, .aload_n 0, 1), (1, .invokespecial 3, 3), (4, .aload_n 0, 1), (5, .new 9, 3), (8, .dup, 1), (9, .invokespecial 11, 3), (12, .putfield 12, 3), (15, .aload_n 0, 1), (16, .bipush 25, 2), (18, .newarray .long, 2), (20, .putfield 18, 3), (23, .aload_n 0, 1), (24, .bipush 120, 2), (26, .newarray .int, 2), (28, .putfield 22, 3), (31, .aload_n 0, 1), (32, .iconst 0, 1), (33, .putfield 26, 3), (36, .aload_n 0, 1), (37, .iconst 0, 1), (38, .putfield 30, 3), (41, .aload_n 0, 1), (42, .iconst 0, 1), (43, .putfield 33, 3), (46, .aload_n 0, 1), (47, .iconst 0, 1), (48, .putfield 36, 3), (51, .aload_n 0, 1), (52, .iconst 0, 1), (53, .putfield 39, 3), (56, .return_, 1)] = true := by decide +kernel
theorem dX2_init_0 : decode cX2_init 0 = .ok (.aload_n 0, 1) := lw_dr lw_d_cX2_init_0 0 rfl
theorem dX2_init_1 : decode cX2_init 1 = .ok (.invokespecial 3, 3) := lw_dr lw_d_cX2_init_0 1 rfl
theorem dX2_init_4 : decode cX2_init 4 = .ok (.aload_n 0, 1) := lw_dr lw_d_cX2_init_0 2 rfl
theorem dX2_init_5 : decode cX2_init 5 = .ok (.new 9, 3) := lw_dr lw_d_cX2_init_0 3 rfl
theorem dX2_init_8 : decode cX2_init 8 = .ok (.dup, 1) := lw_dr lw_d_cX2_init_0 4 rfl
theorem dX2_init_9 : decode cX2_init 9 = .ok (.invokespecial 11, 3) := lw_dr lw_d_cX2_init_0 5 rfl
theorem dX2_init_12 : decode cX2_init 12 = .ok (.putfield 12, 3) := lw_dr lw_d_cX2_init_0 6 rfl
theorem dX2_init_15 : decode cX2_init 15 = .ok (.aload_n 0, 1) := lw_dr lw_d_cX2_init_0 7 rfl
theorem dX2_init_16 : decode cX2_init 16 = .ok (.bipush 25, 2) := lw_dr lw_d_cX2_init_0 8 rfl
theorem dX2_init_18 : decode cX2_init 18 = .ok (.newarray .long, 2) := lw_dr lw_d_cX2_init_0 9 rfl
theorem dX2_init_20 : decode cX2_init 20 = .ok (.putfield 18, 3) := lw_dr lw_d_cX2_init_0 10 rfl
theorem dX2_init_23 : decode cX2_init 23 = .ok (.aload_n 0, 1) := lw_dr lw_d_cX2_init_0 11 rfl
theorem dX2_init_24 : decode cX2_init 24 = .ok (.bipush 120, 2) := lw_dr lw_d_cX2_init_0 12 rfl
theorem dX2_init_26 : decode cX2_init 26 = .ok (.newarray .int, 2) := lw_dr lw_d_cX2_init_0 13 rfl
theorem dX2_init_28 : decode cX2_init 28 = .ok (.putfield 22, 3) := lw_dr lw_d_cX2_init_0 14 rfl
theorem dX2_init_31 : decode cX2_init 31 = .ok (.aload_n 0, 1) := lw_dr lw_d_cX2_init_0 15 rfl
theorem dX2_init_32 : decode cX2_init 32 = .ok (.iconst 0, 1) := lw_dr lw_d_cX2_init_0 16 rfl
theorem dX2_init_33 : decode cX2_init 33 = .ok (.putfield 26, 3) := lw_dr lw_d_cX2_init_0 17 rfl
theorem dX2_init_36 : decode cX2_init 36 = .ok (.aload_n 0, 1) := lw_dr lw_d_cX2_init_0 18 rfl
theorem dX2_init_37 : decode cX2_init 37 = .ok (.iconst 0, 1) := lw_dr lw_d_cX2_init_0 19 rfl
theorem dX2_init_38 : decode cX2_init 38 = .ok (.putfield 30, 3) := lw_dr lw_d_cX2_init_0 20 rfl
theorem dX2_init_41 : decode cX2_init 41 = .ok (.aload_n 0, 1) := lw_dr lw_d_cX2_init_0 21 rfl
theorem dX2_init_42 : decode cX2_init 42 = .ok (.iconst 0, 1) := lw_dr lw_d_cX2_init_0 22 rfl
theorem dX2_init_43 : decode cX2_init 43 = .ok (.putfield 33, 3) := lw_dr lw_d_cX2_init_0 23 rfl
theorem dX2_init_46 : decode cX2_init 46 = .ok (.aload_n 0, 1) := lw_dr lw_d_cX2_init_0 24 rfl
theorem dX2_init_47 : decode cX2_init 47 = .ok (.iconst 0, 1) := lw_dr lw_d_cX2_init_0 25 rfl
theorem dX2_init_48 : decode cX2_init 48 = .ok (.putfield 36, 3) := lw_dr lw_d_cX2_init_0 26 rfl
theorem dX2_init_51 : decode cX2_init 51 = .ok (.aload_n 0, 1) := lw_dr lw_d_cX2_init_0 27 rfl
theorem dX2_init_52 : decode cX2_init 52 = .ok (.iconst 0, 1) := lw_dr lw_d_cX2_init_0 28 rfl
theorem dX2_init_53 : decode cX2_init 53 = .ok (.putfield 39, 3) := lw_dr lw_d_cX2_init_0 29 rfl
theorem dX2_init_56 : decode cX2_init 56 = .ok (.return_, 1) := lw_dr lw_d_cX2_init_0 30 rfl
theorem lw_d_cX12_init_0 : lw_dl cX12_init [(0, .aload_n 0, 1), (1, .invokespecial 1, 3), (4, .aload_n 0, 1), (5, .sipush 1600, 3), (8, .newarray .int, 2), (10, .putfield 7, 3), (13, .aload_n 0, 1), (14, .iconst (-1), 1), (15, .putfield 13, 3), (18, .aload_n 0, 1), (19, .iconst 5, 1), (20, .newarray .char, 2), (22, .dup, 1), (23, .iconst 0, 1), (24, .bipush 104, 2), (26, .castore, 1), (27, .dup, 1), (28, .iconst 1, 1), (29, .bipush 111, 2), (31, .castore, 1), (32, .dup, 1), (33, .iconst 2, 1), (34, .bipush 117, 2), (36, .castore, 1), (37, .dup, 1), (38, .iconst 3, 1), (39, .bipush 115, 2), (41, .castore, 1), (42, .dup, 1), (43, .iconst 4, 1), (44, .bipush 101, 2), (46, .castore, 1), (47, .putfield 17, 3), (50, .aload_n 0, 1), (51, .iconst 3, 1), (52, .newarray .char, 2), (54, .dup, 1), (55, .iconst 0, 1), (56, .bipush 114, 2), (58, .castore, 1)] = true := by decide +kernel
theorem dX12_init_0 : decode cX12_init 0 = .ok (.aload_n 0, 1) := lw_dr lw_d_cX12_init_0 0 rfl
theorem dX12_init_1 : decode cX12_init 1 = .ok (.invokespecial 1, 3) := lw_dr lw_d_cX12_init_0 1 rfl
theorem dX12_init_4 : decode cX12_init 4 = .ok (.aload_n 0, 1) := lw_dr lw_d_cX12_init_0 2 rfl
theorem dX12_init_5 : decode cX12_init 5 = .ok (.sipush 1600, 3) := lw_dr lw_d_cX12_init_0 3 rfl
theorem dX12_init_8 : decode cX12_init 8 = .ok (.newarray .int, 2) := lw_dr lw_d_cX12_init_0 4 rfl
theorem dX12_init_10 : decode cX12_init 10 = .ok (.putfield 7, 3) := lw_dr lw_d_cX12_init_0 5 rfl
theorem dX12_init_13 : decode cX12_init 13 = .ok (.aload_n 0, 1) := lw_dr lw_d_cX12_init_0 6 rfl
theorem dX12_init_14 : decode cX12_init 14 = .ok (.iconst (-1), 1) := lw_dr lw_d_cX12_init_0 7 rfl
theorem dX12_init_15 : decode cX12_init 15 = .ok (.putfield 13, 3) := lw_dr lw_d_cX12_init_0 8 rfl
theorem dX12_init_18 : decode cX12_init 18 = .ok (.aload_n 0, 1) := lw_dr lw_d_cX12_init_0 9 rfl
theorem dX12_init_19 : decode cX12_init 19 = .ok (.iconst 5, 1) := lw_dr lw_d_cX12_init_0 10 rfl
theorem dX12_init_20 : decode cX12_init 20 = .ok (.newarray .char, 2) := lw_dr lw_d_cX12_init_0 11 rfl
theorem dX12_init_22 : decode cX12_init 22 = .ok (.dup, 1) := lw_dr lw_d_cX12_init_0 12 rfl
theorem dX12_init_23 : decode cX12_init 23 = .ok (.iconst 0, 1) := lw_dr lw_d_cX12_init_0 13 rfl
theorem dX12_init_24 : decode cX12_init 24 = .ok (.bipush 104, 2) := lw_dr lw_d_cX12_init_0 14 rfl
theorem dX12_init_26 : decode cX12_init 26 = .ok (.castore, 1) := lw_dr lw_d_cX12_init_0 15 rfl
theorem dX12_init_27 : decode cX12_init 27 = .ok (.dup, 1) := lw_dr lw_d_cX12_init_0 16 rfl
theorem dX12_init_28 : decode cX12_init 28 = .ok (.iconst 1, 1) := lw_dr lw_d_cX12_init_0 17 rfl
theorem dX12_init_29 : decode cX12_init 29 = .ok (.bipush 111, 2) := lw_dr lw_d_cX12_init_0 18 rfl
theorem dX12_init_31 : decode cX12_init 31 = .ok (.castore, 1) := lw_dr lw_d_cX12_init_0 19 rfl
theorem dX12_init_32 : decode cX12_init 32 = .ok (.dup, 1) := lw_dr lw_d_cX12_init_0 20 rfl
theorem dX12_init_33 : decode cX12_init 33 = .ok (.iconst 2, 1) := lw_dr lw_d_cX12_init_0 21 rfl
theorem dX12_init_34 : decode cX12_init 34 = .ok (.bipush 117, 2) := lw_dr lw_d_cX12_init_0 22 rfl
theorem dX12_init_36 : decode cX12_init 36 = .ok (.castore, 1) := lw_dr lw_d_cX12_init_0 23 rfl
theorem dX12_init_37 : decode cX12_init 37 = .ok (.dup, 1) := lw_dr lw_d_cX12_init_0 24 rfl
theorem dX12_init_38 : decode cX12_init 38 = .ok (.iconst 3, 1) := lw_dr lw_d_cX12_init_0 25 rfl
theorem dX12_init_39 : decode cX12_init 39 = .ok (.bipush 115, 2) := lw_dr lw_d_cX12_init_0 26 rfl
theorem dX12_init_41 : decode cX12_init 41 = .ok (.castore, 1) := lw_dr lw_d_cX12_init_0 27 rfl
theorem dX12_init_42 : decode cX12_init 42 = .ok (.dup, 1) := lw_dr lw_d_cX12_init_0 28 rfl
theorem dX12_init_43 : decode cX12_init 43 = .ok (.iconst 4, 1) := lw_dr lw_d_cX12_init_0 29 rfl
theorem dX12_init_44 : decode cX12_init 44 = .ok (.bipush 101, 2) := lw_dr lw_d_cX12_init_0 30 rfl
theorem dX12_init_46 : decode cX12_init 46 = .ok (.castore, 1) := lw_dr lw_d_cX12_init_0 31 rfl
theorem dX12_init_47 : decode cX12_init 47 = .ok (.putfield 17, 3) := lw_dr lw_d_cX12_init_0 32 rfl
theorem dX12_init_50 : decode cX12_init 50 = .ok (.aload_n 0, 1) := lw_dr lw_d_cX12_init_0 33 rfl
theorem dX12_init_51 : decode cX12_init 51 = .ok (.iconst 3, 1) := lw_dr lw_d_cX12_init_0 34 rfl
theorem dX12_init_52 : decode cX12_init 52 = .ok (.newarray .char, 2) := lw_dr lw_d_cX12_init_0 35 rfl
theorem dX12_init_54 : decode cX12_init 54 = .ok (.dup, 1) := lw_dr lw_d_cX12_init_0 36 rfl
theorem dX12_init_55 : decode cX12_init 55 = .ok (.iconst 0, 1) := lw_dr lw_d_cX12_init_0 37 rfl
theorem dX12_init_56 : decode cX12_init 56 = .ok (.bipush 114, 2) := lw_dr lw_d_cX12_init_0 38 rfl
theorem dX12_init_58 : decode cX12_init 58 = .ok (.castore, 1) := lw_dr lw_d_cX12_init_0 39 rfl
theorem lw_d_cX12_init_59 : lw_dl cX12_init [(59, .dup, 1), (60, .iconst 1, 1), (61, .bipush 111, 2), (63, .castore, 1), (64, .dup, 1), (65, .iconst 2, 1), (66, .bipush 119, 2), (68, .castore, 1), (69, .putfield 21, 3), (72, .aload_n 0, 1), (73, .iconst 4, 1), (74, .newarray .char, 2), (76, .dup, 1), (77, .iconst 0, 1), (78, .bipush 119, 2), (80, .castore, 1), (81, .dup, 1), (82, .iconst 1, 1), (83, .bipush 111, 2), (85, .castore, 1), (86, .dup, 1), (87, .iconst 2, 1), (88, .bipush 114, 2), (90, .castore, 1), (91, .dup, 1), (92, .iconst 3, 1), (93, .bipush 100, 2), (95, .castore, 1), (96, .putfield 24, 3), (99, .aload_n 0, 1), (100, .iconst 5, 1), (101, .newarray .char, 2), (103, .dup, 1), (104, .iconst 0, 1), (105, .bipush 119, 2), (107, .castore, 1), (108, .dup, 1), (109, .iconst 1, 1), (110, .bipush 111, 2), (112, .castore, 1)] = true := by decide +kernel
theorem dX12_init_59 : decode cX12_init 59 = .ok (.dup, 1) := lw_dr lw_d_cX12_init_59 0 rfl
theorem dX12_init_60 : decode cX12_init 60 = .ok (.iconst 1, 1) := lw_dr lw_d_cX12_init_59 1 rfl
theorem dX12_init_61 : decode cX12_init 61 = .ok (.bipush 111, 2) := lw_dr lw_d_cX12_init_59 2 rfl
theorem dX12_init_63 : decode cX12_init 63 = .ok (.castore, 1) := lw_dr lw_d_cX12_init_59 3 rfl
theorem dX12_init_64 : decode cX12_init 64 = .ok (.dup, 1) := lw_dr lw_d_cX12_init_59 4 rfl
theorem dX12_init_65 : decode cX12_init 65 = .ok (.iconst 2, 1) := lw_dr lw_d_cX12_init_59 5 rfl
theorem dX12_init_66 : decode cX12_init 66 = .ok (.bipush 119, 2) := lw_dr lw_d_cX12_init_59 6 rfl
theorem dX12_init_68 : decode cX12_init 68 = .ok (.castore, 1) := lw_dr lw_d_cX12_init_59 7 rfl
theorem dX12_init_69 : decode cX12_init 69 = .ok (.putfield 21, 3) := lw_dr lw_d_cX12_init_59 8 rfl
theorem dX12_init_72 : decode cX12_init 72 = .ok (.aload_n 0, 1) := lw_dr lw_d_cX12_init_59 9 rfl
theorem dX12_init_73 : decode cX12_init 73 = .ok (.iconst 4, 1) := lw_dr lw_d_cX12_init_59 10 rfl
theorem dX12_init_74 : decode cX12_init 74 = .ok (.newarray .char, 2) := lw_dr lw_d_cX12_init_59 11 rfl
theorem dX12_init_76 : decode cX12_init 76 = .ok (.dup, 1) := lw_dr lw_d_cX12_init_59 12 rfl
theorem dX12_init_77 : decode cX12_init 77 = .ok (.iconst 0, 1) := lw_dr lw_d_cX12_init_59 13 rfl
theorem dX12_init_78 : decode cX12_init 78 = .ok (.bipush 119, 2) := lw_dr lw_d_cX12_init_59 14 rfl
theorem dX12_init_80 : decode cX12_init 80 = .ok (.castore, 1) := lw_dr lw_d_cX12_init_59 15 rfl
theorem dX12_init_81 : decode cX12_init 81 = .ok (.dup, 1) := lw_dr lw_d_cX12_init_59 16 rfl
theorem dX12_init_82 : decode cX12_init 82 = .ok (.iconst 1, 1) := lw_dr lw_d_cX12_init_59 17 rfl
theorem dX12_init_83 : decode cX12_init 83 = .ok (.bipush 111, 2) := lw_dr lw_d_cX12_init_59 18 rfl
theorem dX12_init_85 : decode cX12_init 85 = .ok (.castore, 1) := lw_dr lw_d_cX12_init_59 19 rfl
theorem dX12_init_86 : decode cX12_init 86 = .ok (.dup, 1) := lw_dr lw_d_cX12_init_59 20 rfl
theorem dX12_init_87 : decode cX12_init 87 = .ok (.iconst 2, 1) := lw_dr lw_d_cX12_init_59 21 rfl
theorem dX12_init_88 : decode cX12_init 88 = .ok (.bipush 114, 2) := lw_dr lw_d_cX12_init_59 22 rfl
theorem dX12_init_90 : decode cX12_init 90 = .ok (.castore, 1) := lw_dr lw_d_cX12_init_59 23 rfl
theorem dX12_init_91 : decode cX12_init 91 = .ok (.dup, 1) := lw_dr lw_d_cX12_init_59 24 rfl
theorem dX12_init_92 : decode cX12_init 92 = .ok (.iconst 3, 1) := lw_dr lw_d_cX12_init_59 25 rfl
theorem dX12_init_93 : decode cX12_init 93 = .ok (.bipush 100, 2) := lw_dr lw_d_cX12_init_59 26 rfl
theorem dX12_init_95 : decode cX12_init 95 = .ok (.castore, 1) := lw_dr lw_d_cX12_init_59 27 rfl
theorem dX12_init_96 : decode cX12_init 96 = .ok (.putfield 24, 3) := lw_dr lw_d_cX12_init_59 28 rfl
theorem dX12_init_99 : decode cX12_init 99 = .ok (.aload_n 0, 1) := lw_dr lw_d_cX12_init_59 29 rfl
theorem dX12_init_100 : decode cX12_init 100 = .ok (.iconst 5, 1) := lw_dr lw_d_cX12_init_59 30 rfl
theorem dX12_init_101 : decode cX12_init 101 = .ok (.newarray .char, 2) := lw_dr lw_d_cX12_init_59 31 rfl
theorem dX12_init_103 : decode cX12_init 103 = .ok (.dup, 1) := lw_dr lw_d_cX12_init_59 32 rfl
theorem dX12_init_104 : decode cX12_init 104 = .ok (.iconst 0, 1) := lw_dr lw_d_cX12_init_59 33 rfl
theorem dX12_init_105 : decode cX12_init 105 = .ok (.bipush 119, 2) := lw_dr lw_d_cX12_init_59 34 rfl
theorem dX12_init_107 : decode cX12_init 107 = .ok (.castore, 1) := lw_dr lw_d_cX12_init_59 35 rfl
theorem dX12_init_108 : decode cX12_init 108 = .ok (.dup, 1) := lw_dr lw_d_cX12_init_59 36 rfl
theorem dX12_init_109 : decode cX12_init 109 = .ok (.iconst 1, 1) := lw_dr lw_d_cX12_init_59 37 rfl
theorem dX12_init_110 : decode cX12_init 110 = .ok (.bipush 111, 2) := lw_dr lw_d_cX12_init_59 38 rfl
theorem dX12_init_112 : decode cX12_init 112 = .ok (.castore, 1) := lw_dr lw_d_cX12_init_59 39 rfl
theorem lw_d_cX12_init_113 : lw_dl cX12_init [(113, .dup, 1), (114, .iconst 2, 1), (115, .bipush 114, 2), (117, .castore, 1), (118, .dup, 1), (119, .iconst 3, 1), (120, .bipush 116, 2), (122, .castore, 1), (123, .dup, 1), (124, .iconst 4, 1), (125, .bipush 104, 2), (127, .castore, 1), (128, .putfield 27, 3), (131, .aload_n 0, 1), (132, .iconst 5, 1), (133, .newarray .char, 2), (135, .dup, 1), (136, .iconst 0, 1), (137, .bipush 108, 2), (139, .castore, 1), (140, .dup, 1), (141, .iconst 1, 1), (142, .bipush 105, 2), (144, .castore, 1), (145, .dup, 1), (146, .iconst 2, 1), (147, .bipush 109, 2), (149, .castore, 1), (150, .dup, 1), (151, .iconst 3, 1), (152, .bipush 105, 2), (154, .castore, 1), (155, .dup, 1), (156, .iconst 4, 1), (157, .bipush 116, 2), (159, .castore, 1), (160, .putfield 30, 3), (163, .aload_n 0, 1), (164, .iconst 4, 1), (165, .newarray .char, 2)] = true := by decide +kernel
theorem dX12_init_113 : decode cX12_init 113 = .ok (.dup, 1) := lw_dr lw_d_cX12_init_113 0 rfl
theorem dX12_init_114 : decode cX12_init 114 = .ok (.iconst 2, 1) := lw_dr lw_d_cX12_init_113 1 rfl
theorem dX12_init_115 : decode cX12_init 115 = .ok (.bipush 114, 2) := lw_dr lw_d_cX12_init_113 2 rfl
theorem dX12_init_117 : decode cX12_init 117 = .ok (.castore, 1) := lw_dr lw_d_cX12_init_113 3 rfl
theorem dX12_init_118 : decode cX12_init 118 = .ok (.dup, 1) := lw_dr lw_d_cX12_init_113 4 rfl
theorem dX12_init_119 : decode cX12_init 119 = .ok (.iconst 3, 1) := lw_dr lw_d_cX12_init_113 5 rfl
theorem dX12_init_120 : decode cX12_init 120 = .ok (.bipush 116, 2) := lw_dr lw_d_cX12_init_113 6 rfl
theorem dX12_init_122 : decode cX12_init 122 = .ok (.castore, 1) := lw_dr lw_d_cX12_init_113 7 rfl
theorem dX12_init_123 : decode cX12_init 123 = .ok (.dup, 1) := lw_dr lw_d_cX12_init_113 8 rfl
theorem dX12_init_124 : decode cX12_init 124 = .ok (.iconst 4, 1) := lw_dr lw_d_cX12_init_113 9 rfl
theorem dX12_init_125 : decode cX12_init 125 = .ok (.bipush 104, 2) := lw_dr lw_d_cX12_init_113 10 rfl
theorem dX12_init_127 : decode cX12_init 127 = .ok (.castore, 1) := lw_dr lw_d_cX12_init_113 11 rfl
theorem dX12_init_128 : decode cX12_init 128 = .ok (.putfield 27, 3) := lw_dr lw_d_cX12_init_113 12 rfl
theorem dX12_init_131 : decode cX12_init 131 = .ok (.aload_n 0, 1) := lw_dr lw_d_cX12_init_113 13 rfl
theorem dX12_init_132 : decode cX12_init 132 = .ok (.iconst 5, 1) := lw_dr lw_d_cX12_init_113 14 rfl
theorem dX12_init_133 : decode cX12_init 133 = .ok (.newarray .char, 2) := lw_dr lw_d_cX12_init_113 15 rfl
theorem dX12_init_135 : decode cX12_init 135 = .ok (.dup, 1) := lw_dr lw_d_cX12_init_113 16 rfl
theorem dX12_init_136 : decode cX12_init 136 = .ok (.iconst 0, 1) := lw_dr lw_d_cX12_init_113 17 rfl
theorem dX12_init_137 : decode cX12_init 137 = .ok (.bipush 108, 2) := lw_dr lw_d_cX12_init_113 18 rfl
theorem dX12_init_139 : decode cX12_init 139 = .ok (.castore, 1) := lw_dr lw_d_cX12_init_113 19 rfl
theorem dX12_init_140 : decode cX12_init 140 = .ok (.dup, 1) := lw_dr lw_d_cX12_init_113 20 rfl
theorem dX12_init_141 : decode cX12_init 141 = .ok (.iconst 1, 1) := lw_dr lw_d_cX12_init_113 21 rfl
theorem dX12_init_142 : decode cX12_init 142 = .ok (.bipush 105, 2) := lw_dr lw_d_cX12_init_113 22 rfl
theorem dX12_init_144 : decode cX12_init 144 = .ok (.castore, 1) := lw_dr lw_d_cX12_init_113 23 rfl
theorem dX12_init_145 : decode cX12_init 145 = .ok (.dup, 1) := lw_dr lw_d_cX12_init_113 24 rfl
theorem dX12_init_146 : decode cX12_init 146 = .ok (.iconst 2, 1) := lw_dr lw_d_cX12_init_113 25 rfl
theorem dX12_init_147 : decode cX12_init 147 = .ok (.bipush 109, 2) := lw_dr lw_d_cX12_init_113 26 rfl
theorem dX12_init_149 : decode cX12_init 149 = .ok (.castore, 1) := lw_dr lw_d_cX12_init_113 27 rfl
theorem dX12_init_150 : decode cX12_init 150 = .ok (.dup, 1) := lw_dr lw_d_cX12_init_113 28 rfl
theorem dX12_init_151 : decode cX12_init 151 = .ok (.iconst 3, 1) := lw_dr lw_d_cX12_init_113 29 rfl
theorem dX12_init_152 : decode cX12_init 152 = .ok (.bipush 105, 2) := lw_dr lw_d_cX12_init_113 30 rfl
theorem dX12_init_154 : decode cX12_init 154 = .ok (.castore, 1) := lw_dr lw_d_cX12_init_113 31 rfl
theorem dX12_init_155 : decode cX12_init 155 = .ok (.dup, 1) := lw_dr lw_d_cX12_init_113 32 rfl
theorem dX12_init_156 : decode cX12_init 156 = .ok (.iconst 4, 1) := lw_dr lw_d_cX12_init_113 33 rfl
theorem dX12_init_157 : decode cX12_init 157 = .ok (.bipush 116, 2) := lw_dr lw_d_cX12_init_113 34 rfl
theorem dX12_init_159 : decode cX12_init 159 = .ok (.castore, 1) := lw_dr lw_d_cX12_init_113 35 rfl
theorem dX12_init_160 : decode cX12_init 160 = .ok (.putfield 30, 3) := lw_dr lw_d_cX12_init_113 36 rfl
theorem dX12_init_163 : decode cX12_init 163 = .ok (.aload_n 0, 1) := lw_dr lw_d_cX12_init_113 37 rfl
theorem dX12_init_164 : decode cX12_init 164 = .ok (.iconst 4, 1) := lw_dr lw_d_cX12_init_113 38 rfl
theorem dX12_init_165 : decode cX12_init 165 = .ok (.newarray .char, 2) := lw_dr lw_d_cX12_init_113 39 rfl
theorem lw_d_cX12_init_167 : lw_dl cX12_init [(167, .dup, 1), (168, .iconst 0, 1), (169, .bipush 119, 2), (171, .castore, 1), (172, .dup, 1), (173, .iconst 1, 1), (174, .bipush 104, 2), (176, .castore, 1), (177, .dup, 1), (178, .iconst 2, 1), (179, .bipush 101, 2), (181, .castore, 1)] = true := by decide +kernel
theorem dX12_init_167 : decode cX12_init 167 = .ok (.dup, 1) := lw_dr lw_d_cX12_init_167 0 rfl
theorem dX12_init_168 : decode cX12_init 168 = .ok (.iconst 0, 1) := lw_dr lw_d_cX12_init_167 1 rfl
theorem dX12_init_169 : decode cX12_init 169 = .ok (.bipush 119, 2) := lw_dr lw_d_cX12_init_167 2 rfl
theorem dX12_init_171 : decode cX12_init 171 = .ok (.castore, 1) := lw_dr lw_d_cX12_init_167 3 rfl
theorem dX12_init_172 : decode cX12_init 172 = .ok (.dup, 1) := lw_dr lw_d_cX12_init_167 4 rfl
theorem dX12_init_173 : decode cX12_init 173 = .ok (.iconst 1, 1) := lw_dr lw_d_cX12_init_167 5 rfl
theorem dX12_init_174 : decode cX12_init 174 = .ok (.bipush 104, 2) := lw_dr lw_d_cX12_init_167 6 rfl
theorem dX12_init_176 : decode cX12_init 176 = .ok (.castore, 1) := lw_dr lw_d_cX12_init_167 7 rfl
theorem dX12_init_177 : decode cX12_init 177 = .ok (.dup, 1) := lw_dr lw_d_cX12_init_167 8 rfl
theorem dX12_init_178 : decode cX12_init 178 = .ok (.iconst 2, 1) := lw_dr lw_d_cX12_init_167 9 rfl
theorem dX12_init_179 : decode cX12_init 179 = .ok (.bipush 101, 2) := lw_dr lw_d_cX12_init_167 10 rfl
theorem dX12_init_181 : decode cX12_init 181 = .ok (.castore, 1) := lw_dr lw_d_cX12_init_167 11 rfl
theorem lw_d_cX12_init_182 : lw_dl cX12_init [(182, .dup, 1), (183, .iconst 3, 1), (184, .bipush 110, 2), (186, .castore, 1), (187, .putfield 33, 3), (190, .aload_n 0, 1), (191, .iconst 2, 1), (192, .newarray .char, 2), (194, .dup, 1), (195, .iconst 0, 1), (196, .bipush 111, 2), (198, .castore, 1), (199, .dup, 1), (200, .iconst 1, 1), (201, .bipush 114, 2), (203, .castore, 1), (204, .putfield 36, 3), (207, .aload_n 0, 1), (208, .iconst 3, 1), (209, .newarray .char, 2), (211, .dup, 1), (212, .iconst 0, 1), (213, .bipush 97, 2), (215, .castore, 1), (216, .dup, 1), (217, .iconst 1, 1), (218, .bipush 110, 2), (220, .castore, 1), (221, .dup, 1), (222, .iconst 2, 1), (223, .bipush 100, 2), (225, .castore, 1), (226, .putfield 39, 3), (229, .aload_n 0, 1), (230, .iconst 3, 1), (231, .newarray .char, 2), (233, .dup, 1), (234, .iconst 0, 1), (235, .bipush 110, 2), (237, .castore, 1)] = true := by decide +kernel
theorem dX12_init_182 : decode cX12_init 182 = .ok (.dup, 1) := lw_dr lw_d_cX12_init_182 0 rfl
theorem dX12_init_183 : decode cX12_init 183 = .ok (.iconst 3, 1) := lw_dr lw_d_cX12_init_182 1 rfl
theorem dX12_init_184 : decode cX12_init 184 = .ok (.bipush 110, 2) := lw_dr lw_d_cX12_init_182 2 rfl
theorem dX12_init_186 : decode cX12_init 186 = .ok (.castore, 1) := lw_dr lw_d_cX12_init_182 3 rfl
theorem dX12_init_187 : decode cX12_init 187 = .ok (.putfield 33, 3) := lw_dr lw_d_cX12_init_182 4 rfl
theorem dX12_init_190 : decode cX12_init 190 = .ok (.aload_n 0, 1) := lw_dr lw_d_cX12_init_182 5 rfl
theorem dX12_init_191 : decode cX12_init 191 = .ok (.iconst 2, 1) := lw_dr lw_d_cX12_init_182 6 rfl
theorem dX12_init_192 : decode cX12_init 192 = .ok (.newarray .char, 2) := lw_dr lw_d_cX12_init_182 7 rfl
theorem dX12_init_194 : decode cX12_init 194 = .ok (.dup, 1) := lw_dr lw_d_cX12_init_182 8 rfl
theorem dX12_init_195 : decode cX12_init 195 = .ok (.iconst 0, 1) := lw_dr lw_d_cX12_init_182 9 rfl
theorem dX12_init_196 : decode cX12_init 196 = .ok (.bipush 111, 2) := lw_dr lw_d_cX12_init_182 10 rfl
theorem dX12_init_198 : decode cX12_init 198 = .ok (.castore, 1) := lw_dr lw_d_cX12_init_182 11 rfl
theorem dX12_init_199 : decode cX12_init 199 = .ok (.dup, 1) := lw_dr lw_d_cX12_init_182 12 rfl
theorem dX12_init_200 : decode cX12_init 200 = .ok (.iconst 1, 1) := lw_dr lw_d_cX12_init_182 13 rfl
theorem dX12_init_201 : decode cX12_init 201 = .ok (.bipush 114, 2) := lw_dr lw_d_cX12_init_182 14 rfl
theorem dX12_init_203 : decode cX12_init 203 = .ok (.castore, 1) := lw_dr lw_d_cX12_init_182 15 rfl
theorem dX12_init_204 : decode cX12_init 204 = .ok (.putfield 36, 3) := lw_dr lw_d_cX12_init_182 16 rfl
theorem dX12_init_207 : decode cX12_init 207 = .ok (.aload_n 0, 1) := lw_dr lw_d_cX12_init_182 17 rfl
theorem dX12_init_208 : decode cX12_init 208 = .ok (.iconst 3, 1) := lw_dr lw_d_cX12_init_182 18 rfl
theorem dX12_init_209 : decode cX12_init 209 = .ok (.newarray .char, 2) := lw_dr lw_d_cX12_init_182 19 rfl
theorem dX12_init_211 : decode cX12_init 211 = .ok (.dup, 1) := lw_dr lw_d_cX12_init_182 20 rfl
theorem dX12_init_212 : decode cX12_init 212 = .ok (.iconst 0, 1) := lw_dr lw_d_cX12_init_182 21 rfl
theorem dX12_init_213 : decode cX12_init 213 = .ok (.bipush 97, 2) := lw_dr lw_d_cX12_init_182 22 rfl
theorem dX12_init_215 : decode cX12_init 215 = .ok (.castore, 1) := lw_dr lw_d_cX12_init_182 23 rfl
theorem dX12_init_216 : decode cX12_init 216 = .ok (.dup, 1) := lw_dr lw_d_cX12_init_182 24 rfl
theorem dX12_init_217 : decode cX12_init 217 = .ok (.iconst 1, 1) := lw_dr lw_d_cX12_init_182 25 rfl
theorem dX12_init_218 : decode cX12_init 218 = .ok (.bipush 110, 2) := lw_dr lw_d_cX12_init_182 26 rfl
theorem dX12_init_220 : decode cX12_init 220 = .ok (.castore, 1) := lw_dr lw_d_cX12_init_182 27 rfl
theorem dX12_init_221 : decode cX12_init 221 = .ok (.dup, 1) := lw_dr lw_d_cX12_init_182 28 rfl
theorem dX12_init_222 : decode cX12_init 222 = .ok (.iconst 2, 1) := lw_dr lw_d_cX12_init_182 29 rfl
theorem dX12_init_223 : decode cX12_init 223 = .ok (.bipush 100, 2) := lw_dr lw_d_cX12_init_182 30 rfl
theorem dX12_init_225 : decode cX12_init 225 = .ok (.castore, 1) := lw_dr lw_d_cX12_init_182 31 rfl
theorem dX12_init_226 : decode cX12_init 226 = .ok (.putfield 39, 3) := lw_dr lw_d_cX12_init_182 32 rfl
theorem dX12_init_229 : decode cX12_init 229 = .ok (.aload_n 0, 1) := lw_dr lw_d_cX12_init_182 33 rfl
theorem dX12_init_230 : decode cX12_init 230 = .ok (.iconst 3, 1) := lw_dr lw_d_cX12_init_182 34 rfl
theorem dX12_init_231 : decode cX12_init 231 = .ok (.newarray .char, 2) := lw_dr lw_d_cX12_init_182 35 rfl
theorem dX12_init_233 : decode cX12_init 233 = .ok (.dup, 1) := lw_dr lw_d_cX12_init_182 36 rfl
theorem dX12_init_234 : decode cX12_init 234 = .ok (.iconst 0, 1) := lw_dr lw_d_cX12_init_182 37 rfl
theorem dX12_init_235 : decode cX12_init 235 = .ok (.bipush 110, 2) := lw_dr lw_d_cX12_init_182 38 rfl
theorem dX12_init_237 : decode cX12_init 237 = .ok (.castore, 1) := lw_dr lw_d_cX12_init_182 39 rfl
theorem lw_d_cX12_init_238 : lw_dl cX12_init [(238, .dup, 1), (239, .iconst 1, 1), (240, .bipush 111, 2), (242, .castore, 1), (243, .dup, 1), (244, .iconst 2, 1), (245, .bipush 116, 2), (247, .castore, 1), (248, .putfield 42, 3), (251, .aload_n 0, 1), (252, .iconst 3, 1), (253, .newarray .char, 2), (255, .dup, 1), (256, .iconst 0, 1), (257, .bipush 97, 2), (259, .castore, 1), (260, .dup, 1), (261, .iconst 1, 1), (262, .bipush 108, 2), (264, .castore, 1), (265, .dup, 1), (266, .iconst 2, 1), (267, .bipush 108, 2), (269, .castore, 1), (270, .putfield 45, 3), (273, .aload_n 0, 1), (274, .bipush 6, 2), (276, .newarray .char, 2), (278, .dup, 1), (279, .iconst 0, 1), (280, .bipush 115, 2), (282, .castore, 1), (283, .dup, 1), (284, .iconst 1, 1), (285, .bipush 101, 2), (287, .castore, 1), (288, .dup, 1), (289, .iconst 2, 1), (290, .bipush 110, 2), (292, .castore, 1)] = true := by decide +kernel
theorem dX12_init_238 : decode cX12_init 238 = .ok (.dup, 1) := lw_dr lw_d_cX12_init_238 0 rfl
theorem dX12_init_239 : decode cX12_init 239 = .ok (.iconst 1, 1) := lw_dr lw_d_cX12_init_238 1 rfl
theorem dX12_init_240 : decode cX12_init 240 = .ok (.bipush 111, 2) := lw_dr lw_d_cX12_init_238 2 rfl
theorem dX12_init_242 : decode cX12_init 242 = .ok (.castore, 1) := lw_dr lw_d_cX12_init_238 3 rfl
theorem dX12_init_243 : decode cX12_init 243 = .ok (.dup, 1) := lw_dr lw_d_cX12_init_238 4 rfl
theorem dX12_init_244 : decode cX12_init 244 = .ok (.iconst 2, 1) := lw_dr lw_d_cX12_init_238 5 rfl
theorem dX12_init_245 : decode cX12_init 245 = .ok (.bipush 116, 2) := lw_dr lw_d_cX12_init_238 6 rfl
theorem dX12_init_247 : decode cX12_init 247 = .ok (.castore, 1) := lw_dr lw_d_cX12_init_238 7 rfl
theorem dX12_init_248 : decode cX12_init 248 = .ok (.putfield 42, 3) := lw_dr lw_d_cX12_init_238 8 rfl
theorem dX12_init_251 : decode cX12_init 251 = .ok (.aload_n 0, 1) := lw_dr lw_d_cX12_init_238 9 rfl
theorem dX12_init_252 : decode cX12_init 252 = .ok (.iconst 3, 1) := lw_dr lw_d_cX12_init_238 10 rfl
theorem dX12_init_253 : decode cX12_init 253 = .ok (.newarray .char, 2) := lw_dr lw_d_cX12_init_238 11 rfl
theorem dX12_init_255 : decode cX12_init 255 = .ok (.dup, 1) := lw_dr lw_d_cX12_init_238 12 rfl
theorem dX12_init_256 : decode cX12_init 256 = .ok (.iconst 0, 1) := lw_dr lw_d_cX12_init_238 13 rfl
theorem dX12_init_257 : decode cX12_init 257 = .ok (.bipush 97, 2) := lw_dr lw_d_cX12_init_238 14 rfl
theorem dX12_init_259 : decode cX12_init 259 = .ok (.castore, 1) := lw_dr lw_d_cX12_init_238 15 rfl
theorem dX12_init_260 : decode cX12_init 260 = .ok (.dup, 1) := lw_dr lw_d_cX12_init_238 16 rfl
theorem dX12_init_261 : decode cX12_init 261 = .ok (.iconst 1, 1) := lw_dr lw_d_cX12_init_238 17 rfl
theorem dX12_init_262 : decode cX12_init 262 = .ok (.bipush 108, 2) := lw_dr lw_d_cX12_init_238 18 rfl
theorem dX12_init_264 : decode cX12_init 264 = .ok (.castore, 1) := lw_dr lw_d_cX12_init_238 19 rfl
theorem dX12_init_265 : decode cX12_init 265 = .ok (.dup, 1) := lw_dr lw_d_cX12_init_238 20 rfl
theorem dX12_init_266 : decode cX12_init 266 = .ok (.iconst 2, 1) := lw_dr lw_d_cX12_init_238 21 rfl
theorem dX12_init_267 : decode cX12_init 267 = .ok (.bipush 108, 2) := lw_dr lw_d_cX12_init_238 22 rfl
theorem dX12_init_269 : decode cX12_init 269 = .ok (.castore, 1) := lw_dr lw_d_cX12_init_238 23 rfl
theorem dX12_init_270 : decode cX12_init 270 = .ok (.putfield 45, 3) := lw_dr lw_d_cX12_init_238 24 rfl
theorem dX12_init_273 : decode cX12_init 273 = .ok (.aload_n 0, 1) := lw_dr lw_d_cX12_init_238 25 rfl
theorem dX12_init_274 : decode cX12_init 274 = .ok (.bipush 6, 2) := lw_dr lw_d_cX12_init_238 26 rfl
theorem dX12_init_276 : decode cX12_init 276 = .ok (.newarray .char, 2) := lw_dr lw_d_cX12_init_238 27 rfl
theorem dX12_init_278 : decode cX12_init 278 = .ok (.dup, 1) := lw_dr lw_d_cX12_init_238 28 rfl
theorem dX12_init_279 : decode cX12_init 279 = .ok (.iconst 0, 1) := lw_dr lw_d_cX12_init_238 29 rfl
theorem dX12_init_280 : decode cX12_init 280 = .ok (.bipush 115, 2) := lw_dr lw_d_cX12_init_238 30 rfl
theorem dX12_init_282 : decode cX12_init 282 = .ok (.castore, 1) := lw_dr lw_d_cX12_init_238 31 rfl
theorem dX12_init_283 : decode cX12_init 283 = .ok (.dup, 1) := lw_dr lw_d_cX12_init_238 32 rfl
theorem dX12_init_284 : decode cX12_init 284 = .ok (.iconst 1, 1) := lw_dr lw_d_cX12_init_238 33 rfl
theorem dX12_init_285 : decode cX12_init 285 = .ok (.bipush 101, 2) := lw_dr lw_d_cX12_init_238 34 rfl
theorem dX12_init_287 : decode cX12_init 287 = .ok (.castore, 1) := lw_dr lw_d_cX12_init_238 35 rfl
theorem dX12_init_288 : decode cX12_init 288 = .ok (.dup, 1) := lw_dr lw_d_cX12_init_238 36 rfl
theorem dX12_init_289 : decode cX12_init 289 = .ok (.iconst 2, 1) := lw_dr lw_d_cX12_init_238 37 rfl
theorem dX12_init_290 : decode cX12_init 290 = .ok (.bipush 110, 2) := lw_dr lw_d_cX12_init_238 38 rfl
theorem dX12_init_292 : decode cX12_init 292 = .ok (.castore, 1) := lw_dr lw_d_cX12_init_238 39 rfl
theorem lw_d_cX12_init_293 : lw_dl cX12_init [(293, .dup, 1), (294, .iconst 3, 1), (295, .bipush 100, 2), (297, .castore, 1), (298, .dup, 1), (299, .iconst 4, 1), (300, .bipush 101, 2), (302, .castore, 1), (303, .dup, 1), (304, .iconst 5, 1), (305, .bipush 114, 2), (307, .castore, 1), (308, .putfield 48, 3), (311, .aload_n 0, 1), (312, .bipush 6, 2), (314, .newarray .char, 2), (316, .dup, 1), (317, .iconst 0, 1), (318, .bipush 115, 2), (320, .castore, 1), (321, .dup, 1), (322, .iconst 1, 1), (323, .bipush 113, 2), (325, .castore, 1), (326, .dup, 1), (327, .iconst 2, 1), (328, .bipush 117, 2), (330, .castore, 1), (331, .dup, 1), (332, .iconst 3, 1), (333, .bipush 97, 2), (335, .castore, 1), (336, .dup, 1), (337, .iconst 4, 1), (338, .bipush 114, 2), (340, .castore, 1), (341, .dup, 1), (342, .iconst 5, 1), (343, .bipush 101, 2), (345, .castore, 1)] = true := by decide +kernel
theorem dX12_init_293 : decode cX12_init 293 = .ok (.dup, 1) := lw_dr lw_d_cX12_init_293 0 rfl
theorem dX12_init_294 : decode cX12_init 294 = .ok (.iconst 3, 1) := lw_dr lw_d_cX12_init_293 1 rfl
theorem dX12_init_295 : decode cX12_init 295 = .ok (.bipush 100, 2) := lw_dr lw_d_cX12_init_293 2 rfl
theorem dX12_init_297 : decode cX12_init 297 = .ok (.castore, 1) := lw_dr lw_d_cX12_init_293 3 rfl
theorem dX12_init_298 : decode cX12_init 298 = .ok (.dup, 1) := lw_dr lw_d_cX12_init_293 4 rfl
theorem dX12_init_299 : decode cX12_init 299 = .ok (.iconst 4, 1) := lw_dr lw_d_cX12_init_293 5 rfl
theorem dX12_init_300 : decode cX12_init 300 = .ok (.bipush 101, 2) := lw_dr lw_d_cX12_init_293 6 rfl
theorem dX12_init_302 : decode cX12_init 302 = .ok (.castore, 1) := lw_dr lw_d_cX12_init_293 7 rfl
theorem dX12_init_303 : decode cX12_init 303 = .ok (.dup, 1) := lw_dr lw_d_cX12_init_293 8 rfl
theorem dX12_init_304 : decode cX12_init 304 = .ok (.iconst 5, 1) := lw_dr lw_d_cX12_init_293 9 rfl
theorem dX12_init_305 : decode cX12_init 305 = .ok (.bipush 114, 2) := lw_dr lw_d_cX12_init_293 10 rfl
theorem dX12_init_307 : decode cX12_init 307 = .ok (.castore, 1) := lw_dr lw_d_cX12_init_293 11 rfl
theorem dX12_init_308 : decode cX12_init 308 = .ok (.putfield 48, 3) := lw_dr lw_d_cX12_init_293 12 rfl
theorem dX12_init_311 : decode cX12_init 311 = .ok (.aload_n 0, 1) := lw_dr lw_d_cX12_init_293 13 rfl
theorem dX12_init_312 : decode cX12_init 312 = .ok (.bipush 6, 2) := lw_dr lw_d_cX12_init_293 14 rfl
theorem dX12_init_314 : decode cX12_init 314 = .ok (.newarray .char, 2) := lw_dr lw_d_cX12_init_293 15 rfl
theorem dX12_init_316 : decode cX12_init 316 = .ok (.dup, 1) := lw_dr lw_d_cX12_init_293 16 rfl
theorem dX12_init_317 : decode cX12_init 317 = .ok (.iconst 0, 1) := lw_dr lw_d_cX12_init_293 17 rfl
theorem dX12_init_318 : decode cX12_init 318 = .ok (.bipush 115, 2) := lw_dr lw_d_cX12_init_293 18 rfl
theorem dX12_init_320 : decode cX12_init 320 = .ok (.castore, 1) := lw_dr lw_d_cX12_init_293 19 rfl
theorem dX12_init_321 : decode cX12_init 321 = .ok (.dup, 1) := lw_dr lw_d_cX12_init_293 20 rfl
theorem dX12_init_322 : decode cX12_init 322 = .ok (.iconst 1, 1) := lw_dr lw_d_cX12_init_293 21 rfl
theorem dX12_init_323 : decode cX12_init 323 = .ok (.bipush 113, 2) := lw_dr lw_d_cX12_init_293 22 rfl
theorem dX12_init_325 : decode cX12_init 325 = .ok (.castore, 1) := lw_dr lw_d_cX12_init_293 23 rfl
theorem dX12_init_326 : decode cX12_init 326 = .ok (.dup, 1) := lw_dr lw_d_cX12_init_293 24 rfl
theorem dX12_init_327 : decode cX12_init 327 = .ok (.iconst 2, 1) := lw_dr lw_d_cX12_init_293 25 rfl
theorem dX12_init_328 : decode cX12_init 328 = .ok (.bipush 117, 2) := lw_dr lw_d_cX12_init_293 26 rfl
theorem dX12_init_330 : decode cX12_init 330 = .ok (.castore, 1) := lw_dr lw_d_cX12_init_293 27 rfl
theorem dX12_init_331 : decode cX12_init 331 = .ok (.dup, 1) := lw_dr lw_d_cX12_init_293 28 rfl
theorem dX12_init_332 : decode cX12_init 332 = .ok (.iconst 3, 1) := lw_dr lw_d_cX12_init_293 29 rfl
theorem dX12_init_333 : decode cX12_init 333 = .ok (.bipush 97, 2) := lw_dr lw_d_cX12_init_293 30 rfl
theorem dX12_init_335 : decode cX12_init 335 = .ok (.castore, 1) := lw_dr lw_d_cX12_init_293 31 rfl
theorem dX12_init_336 : decode cX12_init 336 = .ok (.dup, 1) := lw_dr lw_d_cX12_init_293 32 rfl
theorem dX12_init_337 : decode cX12_init 337 = .ok (.iconst 4, 1) := lw_dr lw_d_cX12_init_293 33 rfl
theorem dX12_init_338 : decode cX12_init 338 = .ok (.bipush 114, 2) := lw_dr lw_d_cX12_init_293 34 rfl
theorem dX12_init_340 : decode cX12_init 340 = .ok (.castore, 1) := lw_dr lw_d_cX12_init_293 35 rfl
theorem dX12_init_341 : decode cX12_init 341 = .ok (.dup, 1) := lw_dr lw_d_cX12_init_293 36 rfl
theorem dX12_init_342 : decode cX12_init 342 = .ok (.iconst 5, 1) := lw_dr lw_d_cX12_init_293 37 rfl
theorem dX12_init_343 : decode cX12_init 343 = .ok (.bipush 101, 2) := lw_dr lw_d_cX12_init_293 38 rfl
theorem dX12_init_345 : decode cX12_init 345 = .ok (.castore, 1) := lw_dr lw_d_cX12_init_293 39 rfl
theorem lw_d_cX12_init_346 : lw_dl cX12_init [(346, .putfield 51, 3), (349, .aload_n 0, 1), (350, .iconst 4, 1), (351, .newarray .char, 2), (353, .dup, 1), (354, .iconst 0, 1), (355, .bipush 112, 2), (357, .castore, 1), (358, .dup, 1), (359, .iconst 1, 1), (360, .bipush 101, 2), (362, .castore, 1), (363, .dup, 1), (364, .iconst 2, 1), (365, .bipush 97, 2), (367, .castore, 1), (368, .dup, 1), (369, .iconst 3, 1), (370, .bipush 107, 2), (372, .castore, 1), (373, .putfield 54, 3), (376, .aload_n 0, 1), (377, .iconst 3, 1), (378, .newarray .char, 2), (380, .dup, 1), (381, .iconst 0, 1), (382, .bipush 109, 2), (384, .castore, 1), (385, .dup, 1), (386, .iconst 1, 1), (387, .bipush 105, 2), (389, .castore, 1), (390, .dup, 1), (391, .iconst 2, 1), (392, .bipush 110, 2), (394, .castore, 1), (395, .putfield 57, 3), (398, .aload_n 0, 1), (399, .iconst 3, 1), (400, .newarray .char, 2)] = true := by decide +kernel
theorem dX12_init_346 : decode cX12_init 346 = .ok (.putfield 51, 3) := lw_dr lw_d_cX12_init_346 0 rfl
theorem dX12_init_349 : decode cX12_init 349 = .ok (.aload_n 0, 1) := lw_dr lw_d_cX12_init_346 1 rfl
theorem dX12_init_350 : decode cX12_init 350 = .ok (.iconst 4, 1) := lw_dr lw_d_cX12_init_346 2 rfl
theorem dX12_init_351 : decode cX12_init 351 = .ok (.newarray .char, 2) := lw_dr lw_d_cX12_init_346 3 rfl
theorem dX12_init_353 : decode cX12_init 353 = .ok (.dup, 1) := lw_dr lw_d_cX12_init_346 4 rfl
theorem dX12_init_354 : decode cX12_init 354 = .ok (.iconst 0, 1) := lw_dr lw_d_cX12_init_346 5 rfl
theorem dX12_init_355 : decode cX12_init 355 = .ok (.bipush 112, 2) := lw_dr lw_d_cX12_init_346 6 rfl
theorem dX12_init_357 : decode cX12_init 357 = .ok (.castore, 1) := lw_dr lw_d_cX12_init_346 7 rfl
theorem dX12_init_358 : decode cX12_init 358 = .ok (.dup, 1) := lw_dr lw_d_cX12_init_346 8 rfl
theorem dX12_init_359 : decode cX12_init 359 = .ok (.iconst 1, 1) := lw_dr lw_d_cX12_init_346 9 rfl
theorem dX12_init_360 : decode cX12_init 360 = .ok (.bipush 101, 2) := lw_dr lw_d_cX12_init_346 10 rfl
theorem dX12_init_362 : decode cX12_init 362 = .ok (.castore, 1) := lw_dr lw_d_cX12_init_346 11 rfl
theorem dX12_init_363 : decode cX12_init 363 = .ok (.dup, 1) := lw_dr lw_d_cX12_init_346 12 rfl
theorem dX12_init_364 : decode cX12_init 364 = .ok (.iconst 2, 1) := lw_dr lw_d_cX12_init_346 13 rfl
theorem dX12_init_365 : decode cX12_init 365 = .ok (.bipush 97, 2) := lw_dr lw_d_cX12_init_346 14 rfl
theorem dX12_init_367 : decode cX12_init 367 = .ok (.castore, 1) := lw_dr lw_d_cX12_init_346 15 rfl
theorem dX12_init_368 : decode cX12_init 368 = .ok (.dup, 1) := lw_dr lw_d_cX12_init_346 16 rfl
theorem dX12_init_369 : decode cX12_init 369 = .ok (.iconst 3, 1) := lw_dr lw_d_cX12_init_346 17 rfl
theorem dX12_init_370 : decode cX12_init 370 = .ok (.bipush 107, 2) := lw_dr lw_d_cX12_init_346 18 rfl
theorem dX12_init_372 : decode cX12_init 372 = .ok (.castore, 1) := lw_dr lw_d_cX12_init_346 19 rfl
theorem dX12_init_373 : decode cX12_init 373 = .ok (.putfield 54, 3) := lw_dr lw_d_cX12_init_346 20 rfl
theorem dX12_init_376 : decode cX12_init 376 = .ok (.aload_n 0, 1) := lw_dr lw_d_cX12_init_346 21 rfl
theorem dX12_init_377 : decode cX12_init 377 = .ok (.iconst 3, 1) := lw_dr lw_d_cX12_init_346 22 rfl
theorem dX12_init_378 : decode cX12_init 378 = .ok (.newarray .char, 2) := lw_dr lw_d_cX12_init_346 23 rfl
theorem dX12_init_380 : decode cX12_init 380 = .ok (.dup, 1) := lw_dr lw_d_cX12_init_346 24 rfl
theorem dX12_init_381 : decode cX12_init 381 = .ok (.iconst 0, 1) := lw_dr lw_d_cX12_init_346 25 rfl
theorem dX12_init_382 : decode cX12_init 382 = .ok (.bipush 109, 2) := lw_dr lw_d_cX12_init_346 26 rfl
theorem dX12_init_384 : decode cX12_init 384 = .ok (.castore, 1) := lw_dr lw_d_cX12_init_346 27 rfl
theorem dX12_init_385 : decode cX12_init 385 = .ok (.dup, 1) := lw_dr lw_d_cX12_init_346 28 rfl
theorem dX12_init_386 : decode cX12_init 386 = .ok (.iconst 1, 1) := lw_dr lw_d_cX12_init_346 29 rfl
theorem dX12_init_387 : decode cX12_init 387 = .ok (.bipush 105, 2) := lw_dr lw_d_cX12_init_346 30 rfl
theorem dX12_init_389 : decode cX12_init 389 = .ok (.castore, 1) := lw_dr lw_d_cX12_init_346 31 rfl
theorem dX12_init_390 : decode cX12_init 390 = .ok (.dup, 1) := lw_dr lw_d_cX12_init_346 32 rfl
theorem dX12_init_391 : decode cX12_init 391 = .ok (.iconst 2, 1) := lw_dr lw_d_cX12_init_346 33 rfl
theorem dX12_init_392 : decode cX12_init 392 = .ok (.bipush 110, 2) := lw_dr lw_d_cX12_init_346 34 rfl
theorem dX12_init_394 : decode cX12_init 394 = .ok (.castore, 1) := lw_dr lw_d_cX12_init_346 35 rfl
theorem dX12_init_395 : decode cX12_init 395 = .ok (.putfield 57, 3) := lw_dr lw_d_cX12_init_346 36 rfl
theorem dX12_init_398 : decode cX12_init 398 = .ok (.aload_n 0, 1) := lw_dr lw_d_cX12_init_346 37 rfl
theorem dX12_init_399 : decode cX12_init 399 = .ok (.iconst 3, 1) := lw_dr lw_d_cX12_init_346 38 rfl
theorem dX12_init_400 : decode cX12_init 400 = .ok (.newarray .char, 2) := lw_dr lw_d_cX12_init_346 39 rfl
theorem lw_d_cX12_init_402 : lw_dl cX12_init [(402, .dup, 1), (403, .iconst 0, 1), (404, .bipush 109, 2), (406, .castore, 1), (407, .dup, 1), (408, .iconst 1, 1), (409, .bipush 97, 2), (411, .castore, 1), (412, .dup, 1), (413, .iconst 2, 1), (414, .bipush 120, 2), (416, .castore, 1), (417, .putfield 60, 3), (420, .aload_n 0, 1), (421, .sipush 9999, 3), (424, .putfield 63, 3), (427, .aload_n 0, 1), (428, .bipush 6, 2), (430, .newarray .int, 2), (432, .putfield 66, 3), (435, .aload_n 0, 1), (436, .bipush 60, 2), (438, .newarray .int, 2), (440, .putfield 69, 3), (443, .aload_n 0, 1), (444, .sipush 160, 3), (447, .newarray .int, 2), (449, .putfield 72, 3), (452, .aload_n 0, 1), (453, .sipush 3200, 3), (456, .newarray .int, 2), (458, .putfield 75, 3), (461, .aload_n 0, 1), (462, .sipush 1700, 3), (465, .newarray .int, 2), (467, .putfield 78, 3), (470, .aload_n 0, 1), (471, .iconst 2, 1), (472, .newarray .int, 2), (474, .putfield 81, 3)] = true := by decide +kernel
theorem dX12_init_402 : decode cX12_init 402 = .ok (.dup, 1) := lw_dr lw_d_cX12_init_402 0 rfl
theorem dX12_init_403 : decode cX12_init 403 = .ok (.iconst 0, 1) := lw_dr lw_d_cX12_init_402 1 rfl
theorem dX12_init_404 : decode cX12_init 404 = .ok (.bipush 109, 2) := lw_dr lw_d_cX12_init_402 2 rfl
theorem dX12_init_406 : decode cX12_init 406 = .ok (.castore, 1) := lw_dr lw_d_cX12_init_402 3 rfl
theorem dX12_init_407 : decode cX12_init 407 = .ok (.dup, 1) := lw_dr lw_d_cX12_init_402 4 rfl
theorem dX12_init_408 : decode cX12_init 408 = .ok (.iconst 1, 1) := lw_dr lw_d_cX12_init_402 5 rfl
theorem dX12_init_409 : decode cX12_init 409 = .ok (.bipush 97, 2) := lw_dr lw_d_cX12_init_402 6 rfl
theorem dX12_init_411 : decode cX12_init 411 = .ok (.castore, 1) := lw_dr lw_d_cX12_init_402 7 rfl
theorem dX12_init_412 : decode cX12_init 412 = .ok (.dup, 1) := lw_dr lw_d_cX12_init_402 8 rfl
theorem dX12_init_413 : decode cX12_init 413 = .ok (.iconst 2, 1) := lw_dr lw_d_cX12_init_402 9 rfl
theorem dX12_init_414 : decode cX12_init 414 = .ok (.bipush 120, 2) := lw_dr lw_d_cX12_init_402 10 rfl
theorem dX12_init_416 : decode cX12_init 416 = .ok (.castore, 1) := lw_dr lw_d_cX12_init_402 11 rfl
theorem dX12_init_417 : decode cX12_init 417 = .ok (.putfield 60, 3) := lw_dr lw_d_cX12_init_402 12 rfl
theorem dX12_init_420 : decode cX12_init 420 = .ok (.aload_n 0, 1) := lw_dr lw_d_cX12_init_402 13 rfl
theorem dX12_init_421 : decode cX12_init 421 = .ok (.sipush 9999, 3) := lw_dr lw_d_cX12_init_402 14 rfl
theorem dX12_init_424 : decode cX12_init 424 = .ok (.putfield 63, 3) := lw_dr lw_d_cX12_init_402 15 rfl
theorem dX12_init_427 : decode cX12_init 427 = .ok (.aload_n 0, 1) := lw_dr lw_d_cX12_init_402 16 rfl
theorem dX12_init_428 : decode cX12_init 428 = .ok (.bipush 6, 2) := lw_dr lw_d_cX12_init_402 17 rfl
theorem dX12_init_430 : decode cX12_init 430 = .ok (.newarray .int, 2) := lw_dr lw_d_cX12_init_402 18 rfl
theorem dX12_init_432 : decode cX12_init 432 = .ok (.putfield 66, 3) := lw_dr lw_d_cX12_init_402 19 rfl
theorem dX12_init_435 : decode cX12_init 435 = .ok (.aload_n 0, 1) := lw_dr lw_d_cX12_init_402 20 rfl
theorem dX12_init_436 : decode cX12_init 436 = .ok (.bipush 60, 2) := lw_dr lw_d_cX12_init_402 21 rfl
theorem dX12_init_438 : decode cX12_init 438 = .ok (.newarray .int, 2) := lw_dr lw_d_cX12_init_402 22 rfl
theorem dX12_init_440 : decode cX12_init 440 = .ok (.putfield 69, 3) := lw_dr lw_d_cX12_init_402 23 rfl
theorem dX12_init_443 : decode cX12_init 443 = .ok (.aload_n 0, 1) := lw_dr lw_d_cX12_init_402 24 rfl
theorem dX12_init_444 : decode cX12_init 444 = .ok (.sipush 160, 3) := lw_dr lw_d_cX12_init_402 25 rfl
theorem dX12_init_447 : decode cX12_init 447 = .ok (.newarray .int, 2) := lw_dr lw_d_cX12_init_402 26 rfl
theorem dX12_init_449 : decode cX12_init 449 = .ok (.putfield 72, 3) := lw_dr lw_d_cX12_init_402 27 rfl
theorem dX12_init_452 : decode cX12_init 452 = .ok (.aload_n 0, 1) := lw_dr lw_d_cX12_init_402 28 rfl
theorem dX12_init_453 : decode cX12_init 453 = .ok (.sipush 3200, 3) := lw_dr lw_d_cX12_init_402 29 rfl
theorem dX12_init_456 : decode cX12_init 456 = .ok (.newarray .int, 2) := lw_dr lw_d_cX12_init_402 30 rfl
theorem dX12_init_458 : decode cX12_init 458 = .ok (.putfield 75, 3) := lw_dr lw_d_cX12_init_402 31 rfl
theorem dX12_init_461 : decode cX12_init 461 = .ok (.aload_n 0, 1) := lw_dr lw_d_cX12_init_402 32 rfl
theorem dX12_init_462 : decode cX12_init 462 = .ok (.sipush 1700, 3) := lw_dr lw_d_cX12_init_402 33 rfl
theorem dX12_init_465 : decode cX12_init 465 = .ok (.newarray .int, 2) := lw_dr lw_d_cX12_init_402 34 rfl
theorem dX12_init_467 : decode cX12_init 467 = .ok (.putfield 78, 3) := lw_dr lw_d_cX12_init_402 35 rfl
theorem dX12_init_470 : decode cX12_init 470 = .ok (.aload_n 0, 1) := lw_dr lw_d_cX12_init_402 36 rfl
theorem dX12_init_471 : decode cX12_init 471 = .ok (.iconst 2, 1) := lw_dr lw_d_cX12_init_402 37 rfl
theorem dX12_init_472 : decode cX12_init 472 = .ok (.newarray .int, 2) := lw_dr lw_d_cX12_init_402 38 rfl
theorem dX12_init_474 : decode cX12_init 474 = .ok (.putfield 81, 3) := lw_dr lw_d_cX12_init_402 39 rfl
theorem lw_d_cX12_init_477 : lw_dl cX12_init [(477, .aload_n 0, 1), (478, .bipush 16, 2), (480, .newarray .int, 2), (482, .putfield 84, 3), (485, .aload_n 0, 1), (486, .bipush 16, 2), (488, .newarray .int, 2), (490, .putfield 87, 3), (493, .aload_n 0, 1), (494, .bipush 16, 2), (496, .newarray .int, 2), (498, .putfield 90, 3), (501, .aload_n 0, 1), (502, .sipush 1700, 3), (505, .newarray .long, 2), (507, .putfield 93, 3), (510, .aload_n 0, 1), (511, .bipush 30, 2), (513, .newarray .int, 2), (515, .putfield 97, 3), (518, .aload_n 0, 1), (519, .bipush 6, 2), (521, .newarray .int, 2), (523, .putfield 100, 3), (526, .aload_n 0, 1), (527, .iconst 5, 1), (528, .newarray .int, 2), (530, .putfield 103, 3), (533, .aload_n 0, 1), (534, .bipush 10, 2), (536, .newarray .long, 2), (538, .putfield 106, 3), (541, .aload_n 0, 1), (542, .bipush 10, 2), (544, .newarray .int, 2), (546, .putfield 109, 3), (549, .aload_n 0, 1), (550, .iconst 5, 1), (551, .newarray .int, 2), (553, .putfield 112, 3)] = true := by decide +kernel
theorem dX12_init_477 : decode cX12_init 477 = .ok (.aload_n 0, 1) := lw_dr lw_d_cX12_init_477 0 rfl
theorem dX12_init_478 : decode cX12_init 478 = .ok (.bipush 16, 2) := lw_dr lw_d_cX12_init_477 1 rfl
theorem dX12_init_480 : decode cX12_init 480 = .ok (.newarray .int, 2) := lw_dr lw_d_cX12_init_477 2 rfl
theorem dX12_init_482 : decode cX12_init 482 = .ok (.putfield 84, 3) := lw_dr lw_d_cX12_init_477 3 rfl
theorem dX12_init_485 : decode cX12_init 485 = .ok (.aload_n 0, 1) := lw_dr lw_d_cX12_init_477 4 rfl
theorem dX12_init_486 : decode cX12_init 486 = .ok (.bipush 16, 2) := lw_dr lw_d_cX12_init_477 5 rfl
theorem dX12_init_488 : decode cX12_init 488 = .ok (.newarray .int, 2) := lw_dr lw_d_cX12_init_477 6 rfl
theorem dX12_init_490 : decode cX12_init 490 = .ok (.putfield 87, 3) := lw_dr lw_d_cX12_init_477 7 rfl
theorem dX12_init_493 : decode cX12_init 493 = .ok (.aload_n 0, 1) := lw_dr lw_d_cX12_init_477 8 rfl
theorem dX12_init_494 : decode cX12_init 494 = .ok (.bipush 16, 2) := lw_dr lw_d_cX12_init_477 9 rfl
theorem dX12_init_496 : decode cX12_init 496 = .ok (.newarray .int, 2) := lw_dr lw_d_cX12_init_477 10 rfl
theorem dX12_init_498 : decode cX12_init 498 = .ok (.putfield 90, 3) := lw_dr lw_d_cX12_init_477 11 rfl
theorem dX12_init_501 : decode cX12_init 501 = .ok (.aload_n 0, 1) := lw_dr lw_d_cX12_init_477 12 rfl
theorem dX12_init_502 : decode cX12_init 502 = .ok (.sipush 1700, 3) := lw_dr lw_d_cX12_init_477 13 rfl
theorem dX12_init_505 : decode cX12_init 505 = .ok (.newarray .long, 2) := lw_dr lw_d_cX12_init_477 14 rfl
theorem dX12_init_507 : decode cX12_init 507 = .ok (.putfield 93, 3) := lw_dr lw_d_cX12_init_477 15 rfl
theorem dX12_init_510 : decode cX12_init 510 = .ok (.aload_n 0, 1) := lw_dr lw_d_cX12_init_477 16 rfl
theorem dX12_init_511 : decode cX12_init 511 = .ok (.bipush 30, 2) := lw_dr lw_d_cX12_init_477 17 rfl
theorem dX12_init_513 : decode cX12_init 513 = .ok (.newarray .int, 2) := lw_dr lw_d_cX12_init_477 18 rfl
theorem dX12_init_515 : decode cX12_init 515 = .ok (.putfield 97, 3) := lw_dr lw_d_cX12_init_477 19 rfl
theorem dX12_init_518 : decode cX12_init 518 = .ok (.aload_n 0, 1) := lw_dr lw_d_cX12_init_477 20 rfl
theorem dX12_init_519 : decode cX12_init 519 = .ok (.bipush 6, 2) := lw_dr lw_d_cX12_init_477 21 rfl
theorem dX12_init_521 : decode cX12_init 521 = .ok (.newarray .int, 2) := lw_dr lw_d_cX12_init_477 22 rfl
theorem dX12_init_523 : decode cX12_init 523 = .ok (.putfield 100, 3) := lw_dr lw_d_cX12_init_477 23 rfl
theorem dX12_init_526 : decode cX12_init 526 = .ok (.aload_n 0, 1) := lw_dr lw_d_cX12_init_477 24 rfl
theorem dX12_init_527 : decode cX12_init 527 = .ok (.iconst 5, 1) := lw_dr lw_d_cX12_init_477 25 rfl
theorem dX12_init_528 : decode cX12_init 528 = .ok (.newarray .int, 2) := lw_dr lw_d_cX12_init_477 26 rfl
theorem dX12_init_530 : decode cX12_init 530 = .ok (.putfield 103, 3) := lw_dr lw_d_cX12_init_477 27 rfl
theorem dX12_init_533 : decode cX12_init 533 = .ok (.aload_n 0, 1) := lw_dr lw_d_cX12_init_477 28 rfl
theorem dX12_init_534 : decode cX12_init 534 = .ok (.bipush 10, 2) := lw_dr lw_d_cX12_init_477 29 rfl
theorem dX12_init_536 : decode cX12_init 536 = .ok (.newarray .long, 2) := lw_dr lw_d_cX12_init_477 30 rfl
theorem dX12_init_538 : decode cX12_init 538 = .ok (.putfield 106, 3) := lw_dr lw_d_cX12_init_477 31 rfl
theorem dX12_init_541 : decode cX12_init 541 = .ok (.aload_n 0, 1) := lw_dr lw_d_cX12_init_477 32 rfl
theorem dX12_init_542 : decode cX12_init 542 = .ok (.bipush 10, 2) := lw_dr lw_d_cX12_init_477 33 rfl
theorem dX12_init_544 : decode cX12_init 544 = .ok (.newarray .int, 2) := lw_dr lw_d_cX12_init_477 34 rfl
theorem dX12_init_546 : decode cX12_init 546 = .ok (.putfield 109, 3) := lw_dr lw_d_cX12_init_477 35 rfl
theorem dX12_init_549 : decode cX12_init 549 = .ok (.aload_n 0, 1) := lw_dr lw_d_cX12_init_477 36 rfl
theorem dX12_init_550 : decode cX12_init 550 = .ok (.iconst 5, 1) := lw_dr lw_d_cX12_init_477 37 rfl
theorem dX12_init_551 : decode cX12_init 551 = .ok (.newarray .int, 2) := lw_dr lw_d_cX12_init_477 38 rfl
theorem dX12_init_553 : decode cX12_init 553 = .ok (.putfield 112, 3) := lw_dr lw_d_cX12_init_477 39 rfl
theorem lw_d_cX12_init_556 : lw_dl cX12_init [(556, .aload_n 0, 1), (557, .iconst 5, 1), (558, .newarray .int, 2), (560, .putfield 115, 3), (563, .aload_n 0, 1), (564, .bipush 6, 2), (566, .newarray .long, 2), (568, .putfield 118, 3), (571, .aload_n 0, 1), (572, .bipush 25, 2), (574, .newarray .long, 2), (576, .putfield 121, 3), (579, .aload_n 0, 1), (580, .sipush 200, 3), (583, .newarray .int, 2), (585, .putfield 124, 3), (588, .aload_n 0, 1), (589, .sipush 200, 3), (592, .newarray .int, 2), (594, .putfield 127, 3), (597, .aload_n 0, 1), (598, .sipush 200, 3), (601, .newarray .int, 2), (603, .putfield 130, 3), (606, .aload_n 0, 1), (607, .iconst 5, 1), (608, .newarray .int, 2), (610, .putfield 133, 3), (613, .aload_n 0, 1), (614, .iconst 5, 1), (615, .newarray .int, 2), (617, .putfield 136, 3), (620, .aload_n 0, 1), (621, .iconst 5, 1), (622, .newarray .int, 2), (624, .putfield 139, 3), (627, .aload_n 0, 1), (628, .iconst 5, 1), (629, .newarray .int, 2), (631, .putfield 142, 3)] = true := by decide +kernel
theorem dX12_init_556 : decode cX12_init 556 = .ok (.aload_n 0, 1) := lw_dr lw_d_cX12_init_556 0 rfl
theorem dX12_init_557 : decode cX12_init 557 = .ok (.iconst 5, 1) := lw_dr lw_d_cX12_init_556 1 rfl
theorem dX12_init_558 : decode cX12_init 558 = .ok (.newarray .int, 2) := lw_dr lw_d_cX12_init_556 2 rfl
theorem dX12_init_560 : decode cX12_init 560 = .ok (.putfield 115, 3) := lw_dr lw_d_cX12_init_556 3 rfl
theorem dX12_init_563 : decode cX12_init 563 = .ok (.aload_n 0, 1) := lw_dr lw_d_cX12_init_556 4 rfl
theorem dX12_init_564 : decode cX12_init 564 = .ok (.bipush 6, 2) := lw_dr lw_d_cX12_init_556 5 rfl
theorem dX12_init_566 : decode cX12_init 566 = .ok (.newarray .long, 2) := lw_dr lw_d_cX12_init_556 6 rfl
theorem dX12_init_568 : decode cX12_init 568 = .ok (.putfield 118, 3) := lw_dr lw_d_cX12_init_556 7 rfl
theorem dX12_init_571 : decode cX12_init 571 = .ok (.aload_n 0, 1) := lw_dr lw_d_cX12_init_556 8 rfl
theorem dX12_init_572 : decode cX12_init 572 = .ok (.bipush 25, 2) := lw_dr lw_d_cX12_init_556 9 rfl
theorem dX12_init_574 : decode cX12_init 574 = .ok (.newarray .long, 2) := lw_dr lw_d_cX12_init_556 10 rfl
theorem dX12_init_576 : decode cX12_init 576 = .ok (.putfield 121, 3) := lw_dr lw_d_cX12_init_556 11 rfl
theorem dX12_init_579 : decode cX12_init 579 = .ok (.aload_n 0, 1) := lw_dr lw_d_cX12_init_556 12 rfl
theorem dX12_init_580 : decode cX12_init 580 = .ok (.sipush 200, 3) := lw_dr lw_d_cX12_init_556 13 rfl
theorem dX12_init_583 : decode cX12_init 583 = .ok (.newarray .int, 2) := lw_dr lw_d_cX12_init_556 14 rfl
theorem dX12_init_585 : decode cX12_init 585 = .ok (.putfield 124, 3) := lw_dr lw_d_cX12_init_556 15 rfl
theorem dX12_init_588 : decode cX12_init 588 = .ok (.aload_n 0, 1) := lw_dr lw_d_cX12_init_556 16 rfl
theorem dX12_init_589 : decode cX12_init 589 = .ok (.sipush 200, 3) := lw_dr lw_d_cX12_init_556 17 rfl
theorem dX12_init_592 : decode cX12_init 592 = .ok (.newarray .int, 2) := lw_dr lw_d_cX12_init_556 18 rfl
theorem dX12_init_594 : decode cX12_init 594 = .ok (.putfield 127, 3) := lw_dr lw_d_cX12_init_556 19 rfl
theorem dX12_init_597 : decode cX12_init 597 = .ok (.aload_n 0, 1) := lw_dr lw_d_cX12_init_556 20 rfl
theorem dX12_init_598 : decode cX12_init 598 = .ok (.sipush 200, 3) := lw_dr lw_d_cX12_init_556 21 rfl
theorem dX12_init_601 : decode cX12_init 601 = .ok (.newarray .int, 2) := lw_dr lw_d_cX12_init_556 22 rfl
theorem dX12_init_603 : decode cX12_init 603 = .ok (.putfield 130, 3) := lw_dr lw_d_cX12_init_556 23 rfl
theorem dX12_init_606 : decode cX12_init 606 = .ok (.aload_n 0, 1) := lw_dr lw_d_cX12_init_556 24 rfl
theorem dX12_init_607 : decode cX12_init 607 = .ok (.iconst 5, 1) := lw_dr lw_d_cX12_init_556 25 rfl
theorem dX12_init_608 : decode cX12_init 608 = .ok (.newarray .int, 2) := lw_dr lw_d_cX12_init_556 26 rfl
theorem dX12_init_610 : decode cX12_init 610 = .ok (.putfield 133, 3) := lw_dr lw_d_cX12_init_556 27 rfl
theorem dX12_init_613 : decode cX12_init 613 = .ok (.aload_n 0, 1) := lw_dr lw_d_cX12_init_556 28 rfl
theorem dX12_init_614 : decode cX12_init 614 = .ok (.iconst 5, 1) := lw_dr lw_d_cX12_init_556 29 rfl
theorem dX12_init_615 : decode cX12_init 615 = .ok (.newarray .int, 2) := lw_dr lw_d_cX12_init_556 30 rfl
theorem dX12_init_617 : decode cX12_init 617 = .ok (.putfield 136, 3) := lw_dr lw_d_cX12_init_556 31 rfl
theorem dX12_init_620 : decode cX12_init 620 = .ok (.aload_n 0, 1) := lw_dr lw_d_cX12_init_556 32 rfl
theorem dX12_init_621 : decode cX12_init 621 = .ok (.iconst 5, 1) := lw_dr lw_d_cX12_init_556 33 rfl
theorem dX12_init_622 : decode cX12_init 622 = .ok (.newarray .int, 2) := lw_dr lw_d_cX12_init_556 34 rfl
theorem dX12_init_624 : decode cX12_init 624 = .ok (.putfield 139, 3) := lw_dr lw_d_cX12_init_556 35 rfl
theorem dX12_init_627 : decode cX12_init 627 = .ok (.aload_n 0, 1) := lw_dr lw_d_cX12_init_556 36 rfl
theorem dX12_init_628 : decode cX12_init 628 = .ok (.iconst 5, 1) := lw_dr lw_d_cX12_init_556 37 rfl
theorem dX12_init_629 : decode cX12_init 629 = .ok (.newarray .int, 2) := lw_dr lw_d_cX12_init_556 38 rfl
theorem dX12_init_631 : decode cX12_init 631 = .ok (.putfield 142, 3) := lw_dr lw_d_cX12_init_556 39 rfl
theorem lw_d_cX12_init_634 : lw_dl cX12_init [(634, .aload_n 0, 1), (635, .bipush 20, 2), (637, .newarray .int, 2), (639, .putfield 145, 3), (642, .return_, 1)] = true := by decide +kernel
theorem dX12_init_634 : decode cX12_init 634 = .ok (.aload_n 0, 1) := lw_dr lw_d_cX12_init_634 0 rfl
theorem dX12_init_635 : decode cX12_init 635 = .ok (.bipush 20, 2) := lw_dr lw_d_cX12_init_634 1 rfl
theorem dX12_init_637 : decode cX12_init 637 = .ok (.newarray .int, 2) := lw_dr lw_d_cX12_init_634 2 rfl
theorem dX12_init_639 : decode cX12_init 639 = .ok (.putfield 145, 3) := lw_dr lw_d_cX12_init_634 3 rfl
theorem dX12_init_642 : decode cX12_init 642 = .ok (.return_, 1) := lw_dr lw_d_cX12_init_634 4 rfl
