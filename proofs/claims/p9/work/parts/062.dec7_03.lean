theorem dX2_start_67 : decode cX2_start 67 = .ok (.iconst 0, 1) := by decide +kernel
theorem dX2_start_68 : decode cX2_start 68 = .ok (.putfield 39, 3) := by decide +kernel
theorem dX2_start_71 : decode cX2_start 71 = .ok (.return_, 1) := by decide +kernel
theorem dX11_house_56 : decode cX11_house 56 = .ok (.aload_n 0, 1) := by decide +kernel
theorem dX11_house_57 : decode cX11_house 57 = .ok (.getfield 24, 3) := by decide +kernel
theorem dX11_house_60 : decode cX11_house 60 = .ok (.invokevirtual 118, 3) := by decide +kernel
theorem dX11_house_63 : decode cX11_house 63 = .ok (.aload_n 0, 1) := by decide +kernel
theorem dX11_house_64 : decode cX11_house 64 = .ok (.getfield 31, 3) := by decide +kernel
theorem dX11_house_67 : decode cX11_house 67 = .ok (.invokevirtual 121, 3) := by decide +kernel
theorem dX11_house_70 : decode cX11_house 70 = .ok (.aload_n 0, 1) := by decide +kernel
theorem dX11_house_71 : decode cX11_house 71 = .ok (.getfield 38, 3) := by decide +kernel
theorem dX11_house_74 : decode cX11_house 74 = .ok (.invokevirtual 122, 3) := by decide +kernel
theorem dX11_house_77 : decode cX11_house 77 = .ok (.aload_n 0, 1) := by decide +kernel
theorem dX11_house_78 : decode cX11_house 78 = .ok (.getfield 45, 3) := by decide +kernel
theorem dX11_house_81 : decode cX11_house 81 = .ok (.invokevirtual 123, 3) := by decide +kernel
theorem dX11_house_84 : decode cX11_house 84 = .ok (.aload_n 0, 1) := by decide +kernel
theorem dX11_house_85 : decode cX11_house 85 = .ok (.getfield 69, 3) := by decide +kernel
theorem dX11_house_88 : decode cX11_house 88 = .ok (.getfield 124, 3) := by decide +kernel
theorem dX11_house_91 : decode cX11_house 91 = .ok (.ireturn, 1) := by decide +kernel
theorem dX11_house_20 : decode cX11_house 20 = .ok (.iconst (-1), 1) := by decide +kernel
theorem dX11_house_21 : decode cX11_house 21 = .ok (.ireturn, 1) := by decide +kernel
theorem dX12_worthTold_7 : decode cX12_worthTold 7 = .ok (.aload_n 0, 1) := by decide +kernel
theorem dX12_worthTold_8 : decode cX12_worthTold 8 = .ok (.getfield 81, 3) := by decide +kernel
theorem dX12_worthTold_11 : decode cX12_worthTold 11 = .ok (.iconst 1, 1) := by decide +kernel
theorem dX12_worthTold_12 : decode cX12_worthTold 12 = .ok (.iaload, 1) := by decide +kernel
theorem dX12_worthTold_13 : decode cX12_worthTold 13 = .ok (.bipush 8, 2) := by decide +kernel
theorem dX12_worthTold_15 : decode cX12_worthTold 15 = .ok (.if_icmp .ne 9, 3) := by decide +kernel
theorem dX12_sumsTold_30 : decode cX12_sumsTold 30 = .ok (.aload_n 0, 1) := by decide +kernel
theorem dX12_sumsTold_31 : decode cX12_sumsTold 31 = .ok (.getfield 151, 3) := by decide +kernel
theorem dX12_sumsTold_34 : decode cX12_sumsTold 34 = .ok (.ifCond .ne 14, 3) := by decide +kernel
theorem dX12_sumsTold_48 : decode cX12_sumsTold 48 = .ok (.iconst 0, 1) := by decide +kernel
theorem dX12_sumsTold_49 : decode cX12_sumsTold 49 = .ok (.istore_n 2, 1) := by decide +kernel
theorem dX12_sumsTold_50 : decode cX12_sumsTold 50 = .ok (.goto (-35), 3) := by decide +kernel
theorem dX12_sumsTold_37 : decode cX12_sumsTold 37 = .ok (.aload_n 0, 1) := by decide +kernel
theorem dX12_sumsTold_38 : decode cX12_sumsTold 38 = .ok (.invokevirtual 289, 3) := by decide +kernel
theorem dX12_goesOn_7 : decode cX12_goesOn 7 = .ok (.aload_n 0, 1) := by decide +kernel
theorem dX12_goesOn_8 : decode cX12_goesOn 8 = .ok (.invokevirtual 163, 3) := by decide +kernel
theorem dX12_goesOn_11 : decode cX12_goesOn 11 = .ok (.bipush 41, 2) := by decide +kernel
theorem dX12_goesOn_13 : decode cX12_goesOn 13 = .ok (.if_icmp .ne 105, 3) := by decide +kernel
theorem dX12_goesOn_16 : decode cX12_goesOn 16 = .ok (.aload_n 0, 1) := by decide +kernel
theorem dX12_goesOn_17 : decode cX12_goesOn 17 = .ok (.invokevirtual 277, 3) := by decide +kernel
theorem dX12_goesOn_20 : decode cX12_goesOn 20 = .ok (.bipush 20, 2) := by decide +kernel
theorem dX12_goesOn_22 : decode cX12_goesOn 22 = .ok (.if_icmp .eq 21, 3) := by decide +kernel
theorem dX12_goesOn_43 : decode cX12_goesOn 43 = .ok (.aload_n 0, 1) := by decide +kernel
theorem dX12_goesOn_44 : decode cX12_goesOn 44 = .ok (.dup, 1) := by decide +kernel
theorem dX12_goesOn_45 : decode cX12_goesOn 45 = .ok (.getfield 157, 3) := by decide +kernel
theorem dX12_goesOn_48 : decode cX12_goesOn 48 = .ok (.iconst 1, 1) := by decide +kernel
theorem dX12_goesOn_49 : decode cX12_goesOn 49 = .ok (.iadd, 1) := by decide +kernel
theorem dX12_goesOn_50 : decode cX12_goesOn 50 = .ok (.putfield 157, 3) := by decide +kernel
theorem dX12_goesOn_53 : decode cX12_goesOn 53 = .ok (.aload_n 0, 1) := by decide +kernel
theorem dX12_goesOn_54 : decode cX12_goesOn 54 = .ok (.invokevirtual 280, 3) := by decide +kernel
theorem dX12_goesOn_57 : decode cX12_goesOn 57 = .ok (.aload_n 0, 1) := by decide +kernel
theorem dX12_goesOn_58 : decode cX12_goesOn 58 = .ok (.dup, 1) := by decide +kernel
theorem dX12_goesOn_59 : decode cX12_goesOn 59 = .ok (.getfield 259, 3) := by decide +kernel
theorem dX12_goesOn_62 : decode cX12_goesOn 62 = .ok (.iconst 1, 1) := by decide +kernel
theorem dX12_goesOn_63 : decode cX12_goesOn 63 = .ok (.isub, 1) := by decide +kernel
theorem dX12_goesOn_64 : decode cX12_goesOn 64 = .ok (.putfield 259, 3) := by decide +kernel
theorem dX12_goesOn_67 : decode cX12_goesOn 67 = .ok (.aload_n 0, 1) := by decide +kernel
theorem dX12_goesOn_68 : decode cX12_goesOn 68 = .ok (.dup, 1) := by decide +kernel
theorem dX12_goesOn_69 : decode cX12_goesOn 69 = .ok (.getfield 256, 3) := by decide +kernel
theorem dX12_goesOn_72 : decode cX12_goesOn 72 = .ok (.iconst 1, 1) := by decide +kernel
theorem dX12_goesOn_73 : decode cX12_goesOn 73 = .ok (.isub, 1) := by decide +kernel
theorem dX12_goesOn_74 : decode cX12_goesOn 74 = .ok (.putfield 256, 3) := by decide +kernel
theorem dX12_goesOn_77 : decode cX12_goesOn 77 = .ok (.aload_n 0, 1) := by decide +kernel
theorem dX12_goesOn_78 : decode cX12_goesOn 78 = .ok (.getfield 78, 3) := by decide +kernel
theorem dX12_goesOn_81 : decode cX12_goesOn 81 = .ok (.aload_n 0, 1) := by decide +kernel
theorem dX12_goesOn_82 : decode cX12_goesOn 82 = .ok (.getfield 259, 3) := by decide +kernel
theorem dX12_goesOn_85 : decode cX12_goesOn 85 = .ok (.iaload, 1) := by decide +kernel
theorem dX12_goesOn_86 : decode cX12_goesOn 86 = .ok (.bipush 20, 2) := by decide +kernel
theorem dX12_goesOn_88 : decode cX12_goesOn 88 = .ok (.if_icmp .eq (-88), 3) := by decide +kernel
theorem dX12_goesOn_91 : decode cX12_goesOn 91 = .ok (.aload_n 0, 1) := by decide +kernel
theorem dX12_goesOn_92 : decode cX12_goesOn 92 = .ok (.aload_n 0, 1) := by decide +kernel
theorem dX12_goesOn_93 : decode cX12_goesOn 93 = .ok (.getfield 78, 3) := by decide +kernel
theorem dX12_goesOn_96 : decode cX12_goesOn 96 = .ok (.aload_n 0, 1) := by decide +kernel
theorem dX12_goesOn_97 : decode cX12_goesOn 97 = .ok (.getfield 259, 3) := by decide +kernel
theorem dX12_goesOn_100 : decode cX12_goesOn 100 = .ok (.iaload, 1) := by decide +kernel
theorem dX12_goesOn_101 : decode cX12_goesOn 101 = .ok (.bipush 23, 2) := by decide +kernel
theorem dX12_goesOn_103 : decode cX12_goesOn 103 = .ok (.if_icmp .ne 7, 3) := by decide +kernel
theorem dX12_goesOn_110 : decode cX12_goesOn 110 = .ok (.bipush 6, 2) := by decide +kernel
theorem dX12_goesOn_112 : decode cX12_goesOn 112 = .ok (.invokevirtual 262, 3) := by decide +kernel
theorem dX12_goesOn_115 : decode cX12_goesOn 115 = .ok (.goto (-115), 3) := by decide +kernel
theorem dX12_goesOn_106 : decode cX12_goesOn 106 = .ok (.iconst 5, 1) := by decide +kernel
theorem dX12_goesOn_107 : decode cX12_goesOn 107 = .ok (.goto 5, 3) := by decide +kernel
theorem dX12_goesOn_25 : decode cX12_goesOn 25 = .ok (.aload_n 0, 1) := by decide +kernel
theorem dX12_goesOn_26 : decode cX12_goesOn 26 = .ok (.invokevirtual 277, 3) := by decide +kernel
theorem dX12_goesOn_29 : decode cX12_goesOn 29 = .ok (.bipush 23, 2) := by decide +kernel
theorem dX12_goesOn_31 : decode cX12_goesOn 31 = .ok (.if_icmp .eq 12, 3) := by decide +kernel
theorem dX12_goesOn_34 : decode cX12_goesOn 34 = .ok (.aload_n 0, 1) := by decide +kernel
theorem dX12_goesOn_35 : decode cX12_goesOn 35 = .ok (.invokevirtual 277, 3) := by decide +kernel
theorem dX12_goesOn_38 : decode cX12_goesOn 38 = .ok (.bipush 24, 2) := by decide +kernel
theorem dX12_goesOn_40 : decode cX12_goesOn 40 = .ok (.if_icmp .ne 78, 3) := by decide +kernel
theorem dX12_goesOn_152 : decode cX12_goesOn 152 = .ok (.iconst 3, 1) := by decide +kernel
theorem dX12_goesOn_153 : decode cX12_goesOn 153 = .ok (.goto 4, 3) := by decide +kernel
theorem dX12_goesOn_127 : decode cX12_goesOn 127 = .ok (.aload_n 0, 1) := by decide +kernel
theorem dX12_goesOn_128 : decode cX12_goesOn 128 = .ok (.bipush 47, 2) := by decide +kernel
theorem dX12_goesOn_130 : decode cX12_goesOn 130 = .ok (.invokevirtual 185, 3) := by decide +kernel
theorem dX12_goesOn_133 : decode cX12_goesOn 133 = .ok (.ifCond .eq 70, 3) := by decide +kernel
theorem dX12_goesOn_203 : decode cX12_goesOn 203 = .ok (.aload_n 0, 1) := by decide +kernel
theorem dX12_goesOn_204 : decode cX12_goesOn 204 = .ok (.bipush 43, 2) := by decide +kernel
theorem dX12_goesOn_206 : decode cX12_goesOn 206 = .ok (.invokevirtual 185, 3) := by decide +kernel
theorem dX12_goesOn_209 : decode cX12_goesOn 209 = .ok (.ifCond .ne 12, 3) := by decide +kernel
theorem dX12_goesOn_221 : decode cX12_goesOn 221 = .ok (.aload_n 0, 1) := by decide +kernel
theorem dX12_goesOn_222 : decode cX12_goesOn 222 = .ok (.getfield 7, 3) := by decide +kernel
theorem dX12_goesOn_225 : decode cX12_goesOn 225 = .ok (.aload_n 0, 1) := by decide +kernel
theorem dX12_goesOn_226 : decode cX12_goesOn 226 = .ok (.getfield 157, 3) := by decide +kernel
theorem dX12_goesOn_229 : decode cX12_goesOn 229 = .ok (.iconst 1, 1) := by decide +kernel
theorem dX12_goesOn_230 : decode cX12_goesOn 230 = .ok (.isub, 1) := by decide +kernel
theorem dX12_goesOn_231 : decode cX12_goesOn 231 = .ok (.iaload, 1) := by decide +kernel
theorem dX12_goesOn_232 : decode cX12_goesOn 232 = .ok (.bipush 43, 2) := by decide +kernel
theorem dX12_goesOn_234 : decode cX12_goesOn 234 = .ok (.if_icmp .ne 7, 3) := by decide +kernel
theorem dX12_goesOn_241 : decode cX12_goesOn 241 = .ok (.iconst 2, 1) := by decide +kernel
theorem dX12_goesOn_242 : decode cX12_goesOn 242 = .ok (.istore_n 1, 1) := by decide +kernel
theorem dX12_goesOn_237 : decode cX12_goesOn 237 = .ok (.iconst 1, 1) := by decide +kernel
theorem dX12_goesOn_238 : decode cX12_goesOn 238 = .ok (.goto 4, 3) := by decide +kernel
theorem dX12_goesOn_212 : decode cX12_goesOn 212 = .ok (.aload_n 0, 1) := by decide +kernel
theorem dX12_goesOn_213 : decode cX12_goesOn 213 = .ok (.bipush 45, 2) := by decide +kernel
theorem dX12_goesOn_215 : decode cX12_goesOn 215 = .ok (.invokevirtual 185, 3) := by decide +kernel
theorem dX12_goesOn_218 : decode cX12_goesOn 218 = .ok (.ifCond .eq 86, 3) := by decide +kernel
theorem dX12_goesOn_304 : decode cX12_goesOn 304 = .ok (.aload_n 0, 1) := by decide +kernel
theorem dX12_goesOn_305 : decode cX12_goesOn 305 = .ok (.invokevirtual 277, 3) := by decide +kernel
theorem dX12_goesOn_308 : decode cX12_goesOn 308 = .ok (.bipush 21, 2) := by decide +kernel
theorem dX12_goesOn_310 : decode cX12_goesOn 310 = .ok (.if_icmp .eq 12, 3) := by decide +kernel
theorem dX12_goesOn_322 : decode cX12_goesOn 322 = .ok (.aload_n 0, 1) := by decide +kernel
theorem dX12_goesOn_323 : decode cX12_goesOn 323 = .ok (.bipush 44, 2) := by decide +kernel
theorem dX12_goesOn_325 : decode cX12_goesOn 325 = .ok (.invokevirtual 219, 3) := by decide +kernel
theorem dX12_goesOn_328 : decode cX12_goesOn 328 = .ok (.aload_n 0, 1) := by decide +kernel
theorem dX12_goesOn_329 : decode cX12_goesOn 329 = .ok (.getfield 151, 3) := by decide +kernel
theorem dX12_goesOn_332 : decode cX12_goesOn 332 = .ok (.ifCond .eq 5, 3) := by decide +kernel
theorem dX12_goesOn_337 : decode cX12_goesOn 337 = .ok (.aload_n 0, 1) := by decide +kernel
theorem dX12_goesOn_338 : decode cX12_goesOn 338 = .ok (.invokevirtual 280, 3) := by decide +kernel
theorem dX12_goesOn_341 : decode cX12_goesOn 341 = .ok (.aload_n 0, 1) := by decide +kernel
theorem dX12_goesOn_342 : decode cX12_goesOn 342 = .ok (.getfield 78, 3) := by decide +kernel
theorem dX12_goesOn_345 : decode cX12_goesOn 345 = .ok (.aload_n 0, 1) := by decide +kernel
theorem dX12_goesOn_346 : decode cX12_goesOn 346 = .ok (.getfield 259, 3) := by decide +kernel
theorem dX12_goesOn_349 : decode cX12_goesOn 349 = .ok (.iconst 1, 1) := by decide +kernel
theorem dX12_goesOn_350 : decode cX12_goesOn 350 = .ok (.isub, 1) := by decide +kernel
theorem dX12_goesOn_351 : decode cX12_goesOn 351 = .ok (.dup2, 1) := by decide +kernel
theorem dX12_goesOn_352 : decode cX12_goesOn 352 = .ok (.iaload, 1) := by decide +kernel
theorem dX12_goesOn_353 : decode cX12_goesOn 353 = .ok (.iconst 2, 1) := by decide +kernel
theorem dX12_goesOn_354 : decode cX12_goesOn 354 = .ok (.iadd, 1) := by decide +kernel
theorem dX12_goesOn_355 : decode cX12_goesOn 355 = .ok (.iastore, 1) := by decide +kernel
theorem dX12_goesOn_356 : decode cX12_goesOn 356 = .ok (.iconst 1, 1) := by decide +kernel
theorem dX12_goesOn_357 : decode cX12_goesOn 357 = .ok (.ireturn, 1) := by decide +kernel
theorem dX12_goesOn_335 : decode cX12_goesOn 335 = .ok (.iconst 0, 1) := by decide +kernel
theorem dX12_goesOn_336 : decode cX12_goesOn 336 = .ok (.ireturn, 1) := by decide +kernel
theorem dX12_goesOn_313 : decode cX12_goesOn 313 = .ok (.aload_n 0, 1) := by decide +kernel
theorem dX12_goesOn_314 : decode cX12_goesOn 314 = .ok (.invokevirtual 277, 3) := by decide +kernel
theorem dX12_goesOn_317 : decode cX12_goesOn 317 = .ok (.bipush 22, 2) := by decide +kernel
theorem dX12_goesOn_319 : decode cX12_goesOn 319 = .ok (.if_icmp .ne 39, 3) := by decide +kernel
theorem dX12_goesOn_358 : decode cX12_goesOn 358 = .ok (.aload_n 0, 1) := by decide +kernel
theorem dX12_goesOn_359 : decode cX12_goesOn 359 = .ok (.invokevirtual 277, 3) := by decide +kernel
theorem dX12_goesOn_362 : decode cX12_goesOn 362 = .ok (.iconst (-1), 1) := by decide +kernel
theorem dX12_goesOn_363 : decode cX12_goesOn 363 = .ok (.if_icmp .eq 19, 3) := by decide +kernel
theorem dX12_goesOn_382 : decode cX12_goesOn 382 = .ok (.iconst 0, 1) := by decide +kernel
theorem dX12_goesOn_383 : decode cX12_goesOn 383 = .ok (.ireturn, 1) := by decide +kernel
theorem dX12_goesOn_366 : decode cX12_goesOn 366 = .ok (.aload_n 0, 1) := by decide +kernel
theorem dX12_goesOn_367 : decode cX12_goesOn 367 = .ok (.getfield 151, 3) := by decide +kernel
theorem dX12_goesOn_370 : decode cX12_goesOn 370 = .ok (.ifCond .ne 12, 3) := by decide +kernel
theorem dX12_goesOn_373 : decode cX12_goesOn 373 = .ok (.aload_n 0, 1) := by decide +kernel
theorem dX12_goesOn_374 : decode cX12_goesOn 374 = .ok (.iconst 1, 1) := by decide +kernel
theorem dX12_goesOn_375 : decode cX12_goesOn 375 = .ok (.aload_n 0, 1) := by decide +kernel
theorem dX12_goesOn_376 : decode cX12_goesOn 376 = .ok (.getfield 157, 3) := by decide +kernel
theorem dX12_goesOn_379 : decode cX12_goesOn 379 = .ok (.invokevirtual 181, 3) := by decide +kernel
theorem dX12_goesOn_243 : decode cX12_goesOn 243 = .ok (.aload_n 0, 1) := by decide +kernel
theorem dX12_goesOn_244 : decode cX12_goesOn 244 = .ok (.iconst 3, 1) := by decide +kernel
theorem dX12_goesOn_245 : decode cX12_goesOn 245 = .ok (.invokevirtual 283, 3) := by decide +kernel
theorem dX12_goesOn_248 : decode cX12_goesOn 248 = .ok (.ifCond .ne 27, 3) := by decide +kernel
theorem dX12_goesOn_275 : decode cX12_goesOn 275 = .ok (.aload_n 0, 1) := by decide +kernel
theorem dX12_goesOn_276 : decode cX12_goesOn 276 = .ok (.invokevirtual 271, 3) := by decide +kernel
theorem dX12_goesOn_279 : decode cX12_goesOn 279 = .ok (.goto (-36), 3) := by decide +kernel
theorem dX12_goesOn_251 : decode cX12_goesOn 251 = .ok (.aload_n 0, 1) := by decide +kernel
theorem dX12_goesOn_252 : decode cX12_goesOn 252 = .ok (.iconst 4, 1) := by decide +kernel
theorem dX12_goesOn_253 : decode cX12_goesOn 253 = .ok (.invokevirtual 283, 3) := by decide +kernel
theorem dX12_goesOn_256 : decode cX12_goesOn 256 = .ok (.ifCond .ne 19, 3) := by decide +kernel
theorem dX12_goesOn_259 : decode cX12_goesOn 259 = .ok (.aload_n 0, 1) := by decide +kernel
theorem dX12_goesOn_260 : decode cX12_goesOn 260 = .ok (.iconst 1, 1) := by decide +kernel
theorem dX12_goesOn_261 : decode cX12_goesOn 261 = .ok (.invokevirtual 283, 3) := by decide +kernel
theorem dX12_goesOn_264 : decode cX12_goesOn 264 = .ok (.ifCond .ne 11, 3) := by decide +kernel
theorem dX12_goesOn_267 : decode cX12_goesOn 267 = .ok (.aload_n 0, 1) := by decide +kernel
theorem dX12_goesOn_268 : decode cX12_goesOn 268 = .ok (.iconst 2, 1) := by decide +kernel
theorem dX12_goesOn_269 : decode cX12_goesOn 269 = .ok (.invokevirtual 283, 3) := by decide +kernel
theorem dX12_goesOn_272 : decode cX12_goesOn 272 = .ok (.ifCond .eq 10, 3) := by decide +kernel
theorem dX12_goesOn_282 : decode cX12_goesOn 282 = .ok (.aload_n 0, 1) := by decide +kernel
theorem dX12_goesOn_283 : decode cX12_goesOn 283 = .ok (.getfield 78, 3) := by decide +kernel
theorem dX12_goesOn_286 : decode cX12_goesOn 286 = .ok (.aload_n 0, 1) := by decide +kernel
theorem dX12_goesOn_287 : decode cX12_goesOn 287 = .ok (.getfield 259, 3) := by decide +kernel
theorem dX12_goesOn_290 : decode cX12_goesOn 290 = .ok (.iload_n 1, 1) := by decide +kernel
theorem dX12_goesOn_291 : decode cX12_goesOn 291 = .ok (.iastore, 1) := by decide +kernel
theorem dX12_goesOn_292 : decode cX12_goesOn 292 = .ok (.aload_n 0, 1) := by decide +kernel
theorem dX12_goesOn_293 : decode cX12_goesOn 293 = .ok (.dup, 1) := by decide +kernel
theorem dX12_goesOn_294 : decode cX12_goesOn 294 = .ok (.getfield 259, 3) := by decide +kernel
theorem dX12_goesOn_297 : decode cX12_goesOn 297 = .ok (.iconst 1, 1) := by decide +kernel
theorem dX12_goesOn_298 : decode cX12_goesOn 298 = .ok (.iadd, 1) := by decide +kernel
theorem dX12_goesOn_299 : decode cX12_goesOn 299 = .ok (.putfield 259, 3) := by decide +kernel
theorem dX12_goesOn_302 : decode cX12_goesOn 302 = .ok (.iconst 1, 1) := by decide +kernel
theorem dX12_goesOn_303 : decode cX12_goesOn 303 = .ok (.ireturn, 1) := by decide +kernel
theorem dX12_sumsTold_41 : decode cX12_sumsTold 41 = .ok (.ifCond .eq 7, 3) := by decide +kernel
theorem dX12_sumsTold_44 : decode cX12_sumsTold 44 = .ok (.iconst 1, 1) := by decide +kernel
theorem dX12_sumsTold_45 : decode cX12_sumsTold 45 = .ok (.goto 4, 3) := by decide +kernel
theorem dX12_sumsTold_71 : decode cX12_sumsTold 71 = .ok (.aload_n 0, 1) := by decide +kernel
theorem dX12_sumsTold_72 : decode cX12_sumsTold 72 = .ok (.invokevirtual 271, 3) := by decide +kernel
theorem dX12_sumsTold_75 : decode cX12_sumsTold 75 = .ok (.goto (-22), 3) := by decide +kernel
theorem dX12_worthTold_71 : decode cX12_worthTold 71 = .ok (.aload_n 0, 1) := by decide +kernel
theorem dX12_worthTold_72 : decode cX12_worthTold 72 = .ok (.getfield 87, 3) := by decide +kernel
theorem dX12_worthTold_75 : decode cX12_worthTold 75 = .ok (.iload_n 2, 1) := by decide +kernel
theorem dX12_worthTold_76 : decode cX12_worthTold 76 = .ok (.aload_n 0, 1) := by decide +kernel
theorem dX12_worthTold_77 : decode cX12_worthTold 77 = .ok (.getfield 222, 3) := by decide +kernel
theorem dX12_worthTold_80 : decode cX12_worthTold 80 = .ok (.iastore, 1) := by decide +kernel
theorem dX12_worthTold_81 : decode cX12_worthTold 81 = .ok (.aload_n 0, 1) := by decide +kernel
theorem dX12_worthTold_82 : decode cX12_worthTold 82 = .ok (.aload_n 0, 1) := by decide +kernel
theorem dX12_worthTold_83 : decode cX12_worthTold 83 = .ok (.getfield 33, 3) := by decide +kernel
theorem dX12_worthTold_86 : decode cX12_worthTold 86 = .ok (.invokevirtual 212, 3) := by decide +kernel
theorem dX12_worthTold_89 : decode cX12_worthTold 89 = .ok (.aload_n 0, 1) := by decide +kernel
theorem dX12_worthTold_90 : decode cX12_worthTold 90 = .ok (.iconst 0, 1) := by decide +kernel
theorem dX12_worthTold_91 : decode cX12_worthTold 91 = .ok (.putfield 259, 3) := by decide +kernel
theorem dX12_worthTold_94 : decode cX12_worthTold 94 = .ok (.aload_n 0, 1) := by decide +kernel
theorem dX12_worthTold_95 : decode cX12_worthTold 95 = .ok (.iconst 0, 1) := by decide +kernel
theorem dX12_worthTold_96 : decode cX12_worthTold 96 = .ok (.putfield 256, 3) := by decide +kernel
theorem dX12_worthTold_99 : decode cX12_worthTold 99 = .ok (.aload_n 0, 1) := by decide +kernel
theorem dX12_worthTold_100 : decode cX12_worthTold 100 = .ok (.iconst 0, 1) := by decide +kernel
theorem dX12_worthTold_101 : decode cX12_worthTold 101 = .ok (.putfield 265, 3) := by decide +kernel
theorem dX12_worthTold_104 : decode cX12_worthTold 104 = .ok (.aload_n 0, 1) := by decide +kernel
theorem dX12_worthTold_105 : decode cX12_worthTold 105 = .ok (.getfield 151, 3) := by decide +kernel
theorem dX12_worthTold_108 : decode cX12_worthTold 108 = .ok (.ifCond .ne 7, 3) := by decide +kernel
theorem dX12_worthTold_115 : decode cX12_worthTold 115 = .ok (.aload_n 0, 1) := by decide +kernel
theorem dX12_worthTold_116 : decode cX12_worthTold 116 = .ok (.getfield 90, 3) := by decide +kernel
theorem dX12_worthTold_119 : decode cX12_worthTold 119 = .ok (.iload_n 2, 1) := by decide +kernel
theorem dX12_worthTold_120 : decode cX12_worthTold 120 = .ok (.aload_n 0, 1) := by decide +kernel
theorem dX12_worthTold_121 : decode cX12_worthTold 121 = .ok (.getfield 222, 3) := by decide +kernel
theorem dX12_worthTold_124 : decode cX12_worthTold 124 = .ok (.iastore, 1) := by decide +kernel
theorem dX12_worthTold_125 : decode cX12_worthTold 125 = .ok (.aload_n 0, 1) := by decide +kernel
theorem dX12_worthTold_126 : decode cX12_worthTold 126 = .ok (.getfield 81, 3) := by decide +kernel
theorem dX12_worthTold_129 : decode cX12_worthTold 129 = .ok (.iconst 1, 1) := by decide +kernel
theorem dX12_worthTold_130 : decode cX12_worthTold 130 = .ok (.dup2, 1) := by decide +kernel
theorem dX12_worthTold_131 : decode cX12_worthTold 131 = .ok (.iaload, 1) := by decide +kernel
theorem dX12_worthTold_132 : decode cX12_worthTold 132 = .ok (.iconst 1, 1) := by decide +kernel
theorem dX12_worthTold_133 : decode cX12_worthTold 133 = .ok (.iadd, 1) := by decide +kernel
theorem dX12_worthTold_134 : decode cX12_worthTold 134 = .ok (.iastore, 1) := by decide +kernel
theorem dX12_worthTold_135 : decode cX12_worthTold 135 = .ok (.return_, 1) := by decide +kernel
theorem dX12_worthTold_111 : decode cX12_worthTold 111 = .ok (.aload_n 0, 1) := by decide +kernel
theorem dX12_worthTold_112 : decode cX12_worthTold 112 = .ok (.invokevirtual 308, 3) := by decide +kernel
theorem dX12_test_13 : decode cX12_test 13 = .ok (.aload_n 0, 1) := by decide +kernel
theorem dX12_test_14 : decode cX12_test 14 = .ok (.invokevirtual 163, 3) := by decide +kernel
theorem dX12_test_17 : decode cX12_test 17 = .ok (.istore_n 2, 1) := by decide +kernel
theorem dX12_test_18 : decode cX12_test 18 = .ok (.iload_n 2, 1) := by decide +kernel
theorem dX12_test_19 : decode cX12_test 19 = .ok (.bipush 91, 2) := by decide +kernel
theorem dX12_test_21 : decode cX12_test 21 = .ok (.if_icmp .ne 26, 3) := by decide +kernel
theorem dX12_test_47 : decode cX12_test 47 = .ok (.aload_n 0, 1) := by decide +kernel
theorem dX12_test_48 : decode cX12_test 48 = .ok (.aload_n 0, 1) := by decide +kernel
theorem dX12_test_49 : decode cX12_test 49 = .ok (.getfield 42, 3) := by decide +kernel
theorem dX12_test_52 : decode cX12_test 52 = .ok (.invokevirtual 174, 3) := by decide +kernel
theorem dX12_test_55 : decode cX12_test 55 = .ok (.ifCond .eq 24, 3) := by decide +kernel
theorem dX12_test_79 : decode cX12_test 79 = .ok (.aload_n 0, 1) := by decide +kernel
theorem dX12_test_80 : decode cX12_test 80 = .ok (.invokevirtual 296, 3) := by decide +kernel
theorem dX12_fact_22 : decode cX12_fact 22 = .ok (.aload_n 0, 1) := by decide +kernel
theorem dX12_fact_23 : decode cX12_fact 23 = .ok (.getfield 151, 3) := by decide +kernel
theorem dX12_fact_26 : decode cX12_fact 26 = .ok (.ifCond .eq 4, 3) := by decide +kernel
theorem dX12_fact_30 : decode cX12_fact 30 = .ok (.aload_n 0, 1) := by decide +kernel
theorem dX12_fact_31 : decode cX12_fact 31 = .ok (.invokevirtual 163, 3) := by decide +kernel
theorem dX12_fact_34 : decode cX12_fact 34 = .ok (.istore_n 1, 1) := by decide +kernel
theorem dX12_fact_35 : decode cX12_fact 35 = .ok (.iload_n 1, 1) := by decide +kernel
theorem dX12_fact_36 : decode cX12_fact 36 = .ok (.bipush 60, 2) := by decide +kernel
theorem dX12_fact_38 : decode cX12_fact 38 = .ok (.if_icmp .eq 25, 3) := by decide +kernel
theorem dX12_fact_63 : decode cX12_fact 63 = .ok (.aload_n 0, 1) := by decide +kernel
theorem dX12_fact_64 : decode cX12_fact 64 = .ok (.dup, 1) := by decide +kernel
theorem dX12_fact_65 : decode cX12_fact 65 = .ok (.getfield 157, 3) := by decide +kernel
theorem dX12_fact_68 : decode cX12_fact 68 = .ok (.iconst 1, 1) := by decide +kernel
theorem dX12_fact_69 : decode cX12_fact 69 = .ok (.iadd, 1) := by decide +kernel
theorem dX12_fact_70 : decode cX12_fact 70 = .ok (.putfield 157, 3) := by decide +kernel
theorem dX12_fact_73 : decode cX12_fact 73 = .ok (.aload_n 0, 1) := by decide +kernel
theorem dX12_fact_74 : decode cX12_fact 74 = .ok (.invokevirtual 293, 3) := by decide +kernel
theorem dX12_fact_77 : decode cX12_fact 77 = .ok (.aload_n 0, 1) := by decide +kernel
theorem dX12_fact_78 : decode cX12_fact 78 = .ok (.iload_n 1, 1) := by decide +kernel
theorem dX12_fact_79 : decode cX12_fact 79 = .ok (.bipush 60, 2) := by decide +kernel
theorem dX12_fact_81 : decode cX12_fact 81 = .ok (.if_icmp .ne 8, 3) := by decide +kernel
theorem dX12_fact_84 : decode cX12_fact 84 = .ok (.bipush 11, 2) := by decide +kernel
theorem dX12_fact_86 : decode cX12_fact 86 = .ok (.goto 16, 3) := by decide +kernel
theorem dX12_fact_102 : decode cX12_fact 102 = .ok (.invokevirtual 262, 3) := by decide +kernel
theorem dX12_fact_105 : decode cX12_fact 105 = .ok (.return_, 1) := by decide +kernel
theorem dX12_fact_41 : decode cX12_fact 41 = .ok (.iload_n 1, 1) := by decide +kernel
theorem dX12_fact_42 : decode cX12_fact 42 = .ok (.bipush 62, 2) := by decide +kernel
theorem dX12_fact_44 : decode cX12_fact 44 = .ok (.if_icmp .eq 19, 3) := by decide +kernel
theorem dX12_fact_89 : decode cX12_fact 89 = .ok (.iload_n 1, 1) := by decide +kernel
theorem dX12_fact_90 : decode cX12_fact 90 = .ok (.bipush 62, 2) := by decide +kernel
theorem dX12_fact_92 : decode cX12_fact 92 = .ok (.if_icmp .ne 8, 3) := by decide +kernel
theorem dX12_fact_95 : decode cX12_fact 95 = .ok (.bipush 12, 2) := by decide +kernel
theorem dX12_fact_97 : decode cX12_fact 97 = .ok (.goto 5, 3) := by decide +kernel
theorem dX12_fact_47 : decode cX12_fact 47 = .ok (.iload_n 1, 1) := by decide +kernel
theorem dX12_fact_48 : decode cX12_fact 48 = .ok (.bipush 61, 2) := by decide +kernel
theorem dX12_fact_50 : decode cX12_fact 50 = .ok (.if_icmp .eq 13, 3) := by decide +kernel
theorem dX12_fact_100 : decode cX12_fact 100 = .ok (.bipush 13, 2) := by decide +kernel
theorem dX12_fact_53 : decode cX12_fact 53 = .ok (.aload_n 0, 1) := by decide +kernel
theorem dX12_fact_54 : decode cX12_fact 54 = .ok (.iconst 1, 1) := by decide +kernel
theorem dX12_fact_55 : decode cX12_fact 55 = .ok (.aload_n 0, 1) := by decide +kernel
theorem dX12_fact_56 : decode cX12_fact 56 = .ok (.getfield 157, 3) := by decide +kernel
theorem dX12_fact_59 : decode cX12_fact 59 = .ok (.invokevirtual 181, 3) := by decide +kernel
theorem dX12_fact_62 : decode cX12_fact 62 = .ok (.return_, 1) := by decide +kernel
theorem dX12_fact_29 : decode cX12_fact 29 = .ok (.return_, 1) := by decide +kernel
theorem dX12_fact_11 : decode cX12_fact 11 = .ok (.aload_n 0, 1) := by decide +kernel
theorem dX12_fact_12 : decode cX12_fact 12 = .ok (.bipush 17, 2) := by decide +kernel
theorem dX12_fact_14 : decode cX12_fact 14 = .ok (.invokevirtual 262, 3) := by decide +kernel
theorem dX12_fact_17 : decode cX12_fact 17 = .ok (.return_, 1) := by decide +kernel
theorem dX12_test_83 : decode cX12_test 83 = .ok (.aload_n 0, 1) := by decide +kernel
theorem dX12_test_84 : decode cX12_test 84 = .ok (.invokevirtual 299, 3) := by decide +kernel
theorem dX12_test_87 : decode cX12_test 87 = .ok (.aload_n 0, 1) := by decide +kernel
theorem dX12_test_88 : decode cX12_test 88 = .ok (.getfield 151, 3) := by decide +kernel
theorem dX12_test_91 : decode cX12_test 91 = .ok (.ifCond .ne 14, 3) := by decide +kernel
theorem dX12_test_105 : decode cX12_test 105 = .ok (.iconst 0, 1) := by decide +kernel
theorem dX12_test_106 : decode cX12_test 106 = .ok (.istore_n 1, 1) := by decide +kernel
theorem dX12_test_107 : decode cX12_test 107 = .ok (.goto (-105), 3) := by decide +kernel
theorem dX12_test_94 : decode cX12_test 94 = .ok (.aload_n 0, 1) := by decide +kernel
theorem dX12_test_95 : decode cX12_test 95 = .ok (.invokevirtual 302, 3) := by decide +kernel
theorem dX12_goesOnTest_7 : decode cX12_goesOnTest 7 = .ok (.aload_n 0, 1) := by decide +kernel
theorem dX12_goesOnTest_8 : decode cX12_goesOnTest 8 = .ok (.invokevirtual 163, 3) := by decide +kernel
theorem dX12_goesOnTest_11 : decode cX12_goesOnTest 11 = .ok (.bipush 93, 2) := by decide +kernel
theorem dX12_goesOnTest_13 : decode cX12_goesOnTest 13 = .ok (.if_icmp .ne 63, 3) := by decide +kernel
theorem dX12_goesOnTest_87 : decode cX12_goesOnTest 87 = .ok (.aload_n 0, 1) := by decide +kernel
theorem dX12_goesOnTest_88 : decode cX12_goesOnTest 88 = .ok (.bipush 14, 2) := by decide +kernel
theorem dX12_goesOnTest_90 : decode cX12_goesOnTest 90 = .ok (.invokevirtual 283, 3) := by decide +kernel
theorem dX12_goesOnTest_93 : decode cX12_goesOnTest 93 = .ok (.ifCond .eq 10, 3) := by decide +kernel
theorem dX12_goesOnTest_103 : decode cX12_goesOnTest 103 = .ok (.aload_n 0, 1) := by decide +kernel
theorem dX12_goesOnTest_104 : decode cX12_goesOnTest 104 = .ok (.getfield 78, 3) := by decide +kernel
theorem dX12_goesOnTest_107 : decode cX12_goesOnTest 107 = .ok (.aload_n 0, 1) := by decide +kernel
theorem dX12_goesOnTest_108 : decode cX12_goesOnTest 108 = .ok (.getfield 259, 3) := by decide +kernel
theorem dX12_goesOnTest_111 : decode cX12_goesOnTest 111 = .ok (.bipush 14, 2) := by decide +kernel
theorem dX12_goesOnTest_113 : decode cX12_goesOnTest 113 = .ok (.iastore, 1) := by decide +kernel
theorem dX12_goesOnTest_114 : decode cX12_goesOnTest 114 = .ok (.aload_n 0, 1) := by decide +kernel
theorem dX12_goesOnTest_115 : decode cX12_goesOnTest 115 = .ok (.dup, 1) := by decide +kernel
theorem dX12_goesOnTest_116 : decode cX12_goesOnTest 116 = .ok (.getfield 259, 3) := by decide +kernel
theorem dX12_goesOnTest_119 : decode cX12_goesOnTest 119 = .ok (.iconst 1, 1) := by decide +kernel
theorem dX12_goesOnTest_120 : decode cX12_goesOnTest 120 = .ok (.iadd, 1) := by decide +kernel
theorem dX12_goesOnTest_121 : decode cX12_goesOnTest 121 = .ok (.putfield 259, 3) := by decide +kernel
theorem dX12_goesOnTest_124 : decode cX12_goesOnTest 124 = .ok (.iconst 1, 1) := by decide +kernel
theorem dX12_goesOnTest_125 : decode cX12_goesOnTest 125 = .ok (.ireturn, 1) := by decide +kernel
theorem dX12_goesOnTest_96 : decode cX12_goesOnTest 96 = .ok (.aload_n 0, 1) := by decide +kernel
theorem dX12_goesOnTest_97 : decode cX12_goesOnTest 97 = .ok (.invokevirtual 271, 3) := by decide +kernel
theorem dX12_goesOnTest_100 : decode cX12_goesOnTest 100 = .ok (.goto (-13), 3) := by decide +kernel
theorem dX12_goesOnTest_16 : decode cX12_goesOnTest 16 = .ok (.aload_n 0, 1) := by decide +kernel
theorem dX12_goesOnTest_17 : decode cX12_goesOnTest 17 = .ok (.invokevirtual 305, 3) := by decide +kernel
theorem dX12_goesOnTest_20 : decode cX12_goesOnTest 20 = .ok (.ifCond .eq 56, 3) := by decide +kernel
theorem dX12_goesOnTest_23 : decode cX12_goesOnTest 23 = .ok (.aload_n 0, 1) := by decide +kernel
theorem dX12_goesOnTest_24 : decode cX12_goesOnTest 24 = .ok (.dup, 1) := by decide +kernel
theorem dX12_goesOnTest_25 : decode cX12_goesOnTest 25 = .ok (.getfield 157, 3) := by decide +kernel
theorem dX12_goesOnTest_28 : decode cX12_goesOnTest 28 = .ok (.iconst 1, 1) := by decide +kernel
theorem dX12_goesOnTest_29 : decode cX12_goesOnTest 29 = .ok (.iadd, 1) := by decide +kernel
theorem dX12_goesOnTest_30 : decode cX12_goesOnTest 30 = .ok (.putfield 157, 3) := by decide +kernel
theorem dX12_goesOnTest_33 : decode cX12_goesOnTest 33 = .ok (.aload_n 0, 1) := by decide +kernel
theorem dX12_goesOnTest_34 : decode cX12_goesOnTest 34 = .ok (.bipush 25, 2) := by decide +kernel
theorem dX12_goesOnTest_36 : decode cX12_goesOnTest 36 = .ok (.invokevirtual 283, 3) := by decide +kernel
theorem dX12_goesOnTest_39 : decode cX12_goesOnTest 39 = .ok (.ifCond .ne 10, 3) := by decide +kernel
theorem dX12_goesOnTest_49 : decode cX12_goesOnTest 49 = .ok (.aload_n 0, 1) := by decide +kernel
theorem dX12_goesOnTest_50 : decode cX12_goesOnTest 50 = .ok (.dup, 1) := by decide +kernel
theorem dX12_goesOnTest_51 : decode cX12_goesOnTest 51 = .ok (.getfield 259, 3) := by decide +kernel
theorem dX12_goesOnTest_54 : decode cX12_goesOnTest 54 = .ok (.iconst 1, 1) := by decide +kernel
theorem dX12_goesOnTest_55 : decode cX12_goesOnTest 55 = .ok (.isub, 1) := by decide +kernel
theorem dX12_goesOnTest_56 : decode cX12_goesOnTest 56 = .ok (.putfield 259, 3) := by decide +kernel
theorem dX12_goesOnTest_59 : decode cX12_goesOnTest 59 = .ok (.aload_n 0, 1) := by decide +kernel
theorem dX12_goesOnTest_60 : decode cX12_goesOnTest 60 = .ok (.dup, 1) := by decide +kernel
theorem dX12_goesOnTest_61 : decode cX12_goesOnTest 61 = .ok (.getfield 256, 3) := by decide +kernel
theorem dX12_goesOnTest_64 : decode cX12_goesOnTest 64 = .ok (.iconst 1, 1) := by decide +kernel
theorem dX12_goesOnTest_65 : decode cX12_goesOnTest 65 = .ok (.isub, 1) := by decide +kernel
theorem dX12_goesOnTest_66 : decode cX12_goesOnTest 66 = .ok (.putfield 256, 3) := by decide +kernel
theorem dX12_goesOnTest_69 : decode cX12_goesOnTest 69 = .ok (.aload_n 0, 1) := by decide +kernel
theorem dX12_goesOnTest_70 : decode cX12_goesOnTest 70 = .ok (.invokevirtual 299, 3) := by decide +kernel
theorem dX12_goesOnTest_73 : decode cX12_goesOnTest 73 = .ok (.goto (-73), 3) := by decide +kernel
theorem dX12_goesOnTest_42 : decode cX12_goesOnTest 42 = .ok (.aload_n 0, 1) := by decide +kernel
theorem dX12_goesOnTest_43 : decode cX12_goesOnTest 43 = .ok (.invokevirtual 271, 3) := by decide +kernel
theorem dX12_goesOnTest_46 : decode cX12_goesOnTest 46 = .ok (.goto (-13), 3) := by decide +kernel
theorem dX12_test_98 : decode cX12_test 98 = .ok (.ifCond .eq 7, 3) := by decide +kernel
theorem dX12_test_101 : decode cX12_test 101 = .ok (.iconst 1, 1) := by decide +kernel
theorem dX12_test_102 : decode cX12_test 102 = .ok (.goto 4, 3) := by decide +kernel
theorem dX12_test_58 : decode cX12_test 58 = .ok (.aload_n 0, 1) := by decide +kernel
theorem dX12_test_59 : decode cX12_test 59 = .ok (.bipush 16, 2) := by decide +kernel
theorem dX12_test_61 : decode cX12_test 61 = .ok (.aload_n 0, 1) := by decide +kernel
theorem dX12_test_62 : decode cX12_test 62 = .ok (.getfield 157, 3) := by decide +kernel
theorem dX12_test_65 : decode cX12_test 65 = .ok (.invokevirtual 274, 3) := by decide +kernel
theorem dX12_test_68 : decode cX12_test 68 = .ok (.aload_n 0, 1) := by decide +kernel
theorem dX12_test_69 : decode cX12_test 69 = .ok (.aload_n 0, 1) := by decide +kernel
theorem dX12_test_70 : decode cX12_test 70 = .ok (.getfield 42, 3) := by decide +kernel
theorem dX12_test_73 : decode cX12_test 73 = .ok (.invokevirtual 212, 3) := by decide +kernel
theorem dX12_test_76 : decode cX12_test 76 = .ok (.goto (-74), 3) := by decide +kernel
theorem dX12_test_24 : decode cX12_test 24 = .ok (.aload_n 0, 1) := by decide +kernel
theorem dX12_test_25 : decode cX12_test 25 = .ok (.bipush 25, 2) := by decide +kernel
theorem dX12_test_27 : decode cX12_test 27 = .ok (.aload_n 0, 1) := by decide +kernel
theorem dX12_test_28 : decode cX12_test 28 = .ok (.getfield 157, 3) := by decide +kernel
theorem dX12_test_31 : decode cX12_test 31 = .ok (.invokevirtual 274, 3) := by decide +kernel
theorem dX12_test_34 : decode cX12_test 34 = .ok (.aload_n 0, 1) := by decide +kernel
theorem dX12_test_35 : decode cX12_test 35 = .ok (.dup, 1) := by decide +kernel
theorem dX12_test_36 : decode cX12_test 36 = .ok (.getfield 157, 3) := by decide +kernel
theorem dX12_test_39 : decode cX12_test 39 = .ok (.iconst 1, 1) := by decide +kernel
theorem dX12_test_40 : decode cX12_test 40 = .ok (.iadd, 1) := by decide +kernel
theorem dX12_test_41 : decode cX12_test 41 = .ok (.putfield 157, 3) := by decide +kernel
theorem dX12_test_44 : decode cX12_test 44 = .ok (.goto (-42), 3) := by decide +kernel
theorem dX12_worthTold_18 : decode cX12_worthTold 18 = .ok (.aload_n 0, 1) := by decide +kernel
theorem dX12_worthTold_19 : decode cX12_worthTold 19 = .ok (.iconst 4, 1) := by decide +kernel
theorem dX12_worthTold_20 : decode cX12_worthTold 20 = .ok (.iload_n 1, 1) := by decide +kernel
theorem dX12_worthTold_21 : decode cX12_worthTold 21 = .ok (.invokevirtual 181, 3) := by decide +kernel
theorem dX12_worthTold_31 : decode cX12_worthTold 31 = .ok (.return_, 1) := by decide +kernel
theorem dX12_houseTold_70 : decode cX12_houseTold 70 = .ok (.aload_n 0, 1) := by decide +kernel
theorem dX12_houseTold_71 : decode cX12_houseTold 71 = .ok (.getfield 66, 3) := by decide +kernel
