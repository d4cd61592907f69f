theorem dL_law_228 : decode cL_law 228 = .ok (.aload_n 1, 1) := dq_43 (by decide +kernel)
theorem dL_law_229 : decode cL_law 229 = .ok (.aload_n 0, 1) := dq_42 (by decide +kernel)
theorem dL_law_230 : decode cL_law 230 = .ok (.iload_n 3, 1) := dq_29 (by decide +kernel)
theorem dL_law_231 : decode cL_law 231 = .ok (.iconst 1, 1) := dq_4 (by decide +kernel)
theorem dL_law_232 : decode cL_law 232 = .ok (.iadd, 1) := dq_96 (by decide +kernel)
theorem dL_law_233 : decode cL_law 233 = .ok (.iaload, 1) := dq_46 (by decide +kernel)
theorem dL_law_234 : decode cL_law 234 = .ok (.aload_n 0, 1) := dq_42 (by decide +kernel)
theorem dL_law_235 : decode cL_law 235 = .ok (.iload_n 3, 1) := dq_29 (by decide +kernel)
theorem dL_law_236 : decode cL_law 236 = .ok (.iconst 2, 1) := dq_5 (by decide +kernel)
theorem dL_law_237 : decode cL_law 237 = .ok (.iadd, 1) := dq_96 (by decide +kernel)
theorem dL_law_238 : decode cL_law 238 = .ok (.iaload, 1) := dq_46 (by decide +kernel)
theorem dL_law_239 : decode cL_law 239 = .ok (.aload_n 0, 1) := dq_42 (by decide +kernel)
theorem dL_law_240 : decode cL_law 240 = .ok (.iload_n 3, 1) := dq_29 (by decide +kernel)
theorem dL_law_241 : decode cL_law 241 = .ok (.iconst 3, 1) := dq_6 (by decide +kernel)
theorem dL_law_242 : decode cL_law 242 = .ok (.iadd, 1) := dq_96 (by decide +kernel)
theorem dL_law_243 : decode cL_law 243 = .ok (.iaload, 1) := dq_46 (by decide +kernel)
theorem dL_law_244 : decode cL_law 244 = .ok (.aload_n 0, 1) := dq_42 (by decide +kernel)
theorem dL_law_245 : decode cL_law 245 = .ok (.iload_n 3, 1) := dq_29 (by decide +kernel)
theorem dL_law_246 : decode cL_law 246 = .ok (.iconst 4, 1) := dq_7 (by decide +kernel)
theorem dL_law_247 : decode cL_law 247 = .ok (.iadd, 1) := dq_96 (by decide +kernel)
theorem dL_law_248 : decode cL_law 248 = .ok (.iaload, 1) := dq_46 (by decide +kernel)
theorem dL_law_249 : decode cL_law 249 = .ok (.aload_n 0, 1) := dq_42 (by decide +kernel)
theorem dL_law_250 : decode cL_law 250 = .ok (.iload_n 3, 1) := dq_29 (by decide +kernel)
theorem dL_law_251 : decode cL_law 251 = .ok (.iconst 5, 1) := dq_8 (by decide +kernel)
theorem dL_law_252 : decode cL_law 252 = .ok (.iadd, 1) := dq_96 (by decide +kernel)
theorem dL_law_253 : decode cL_law 253 = .ok (.iaload, 1) := dq_46 (by decide +kernel)
theorem dL_law_254 : decode cL_law 254 = .ok (.invokevirtual 13, 3) := dq_182 (a := 0) (b := 13) (by decide +kernel) rfl
theorem dL_law_257 : decode cL_law 257 = .ok (.pop, 1) := dq_87 (by decide +kernel)
theorem dL_law_258 : decode cL_law 258 = .ok (.aload_n 2, 1) := dq_44 (by decide +kernel)
theorem dL_law_259 : decode cL_law 259 = .ok (.aload_n 0, 1) := dq_42 (by decide +kernel)
theorem dL_law_260 : decode cL_law 260 = .ok (.iload_n 3, 1) := dq_29 (by decide +kernel)
theorem dL_law_261 : decode cL_law 261 = .ok (.iconst 1, 1) := dq_4 (by decide +kernel)
theorem dL_law_262 : decode cL_law 262 = .ok (.iadd, 1) := dq_96 (by decide +kernel)
theorem dL_law_263 : decode cL_law 263 = .ok (.iaload, 1) := dq_46 (by decide +kernel)
theorem dL_law_264 : decode cL_law 264 = .ok (.aload_n 0, 1) := dq_42 (by decide +kernel)
theorem dL_law_265 : decode cL_law 265 = .ok (.iload_n 3, 1) := dq_29 (by decide +kernel)
theorem dL_law_266 : decode cL_law 266 = .ok (.iconst 2, 1) := dq_5 (by decide +kernel)
theorem dL_law_267 : decode cL_law 267 = .ok (.iadd, 1) := dq_96 (by decide +kernel)
theorem dL_law_268 : decode cL_law 268 = .ok (.iaload, 1) := dq_46 (by decide +kernel)
theorem dL_law_269 : decode cL_law 269 = .ok (.aload_n 0, 1) := dq_42 (by decide +kernel)
theorem dL_law_270 : decode cL_law 270 = .ok (.iload_n 3, 1) := dq_29 (by decide +kernel)
theorem dL_law_271 : decode cL_law 271 = .ok (.iconst 3, 1) := dq_6 (by decide +kernel)
theorem dL_law_272 : decode cL_law 272 = .ok (.iadd, 1) := dq_96 (by decide +kernel)
theorem dL_law_273 : decode cL_law 273 = .ok (.iaload, 1) := dq_46 (by decide +kernel)
theorem dL_law_274 : decode cL_law 274 = .ok (.aload_n 0, 1) := dq_42 (by decide +kernel)
theorem dL_law_275 : decode cL_law 275 = .ok (.iload_n 3, 1) := dq_29 (by decide +kernel)
theorem dL_law_276 : decode cL_law 276 = .ok (.iconst 4, 1) := dq_7 (by decide +kernel)
theorem dL_law_277 : decode cL_law 277 = .ok (.iadd, 1) := dq_96 (by decide +kernel)
theorem dL_law_278 : decode cL_law 278 = .ok (.iaload, 1) := dq_46 (by decide +kernel)
theorem dL_law_279 : decode cL_law 279 = .ok (.aload_n 0, 1) := dq_42 (by decide +kernel)
theorem dL_law_280 : decode cL_law 280 = .ok (.iload_n 3, 1) := dq_29 (by decide +kernel)
theorem dL_law_281 : decode cL_law 281 = .ok (.iconst 5, 1) := dq_8 (by decide +kernel)
theorem dL_law_282 : decode cL_law 282 = .ok (.iadd, 1) := dq_96 (by decide +kernel)
theorem dL_law_283 : decode cL_law 283 = .ok (.iaload, 1) := dq_46 (by decide +kernel)
theorem dL_law_284 : decode cL_law 284 = .ok (.invokevirtual 17, 3) := dq_182 (a := 0) (b := 17) (by decide +kernel) rfl
theorem dL_law_287 : decode cL_law 287 = .ok (.pop, 1) := dq_87 (by decide +kernel)
theorem dL_law_288 : decode cL_law 288 = .ok (.goto 1231, 3) := dq_167 (a := 4) (b := 207) (by decide +kernel) (by decide +kernel)
theorem dL_law_291 : decode cL_law 291 = .ok (.aload_n 1, 1) := dq_43 (by decide +kernel)
theorem dL_law_292 : decode cL_law 292 = .ok (.aload_n 0, 1) := dq_42 (by decide +kernel)
theorem dL_law_293 : decode cL_law 293 = .ok (.iload_n 3, 1) := dq_29 (by decide +kernel)
theorem dL_law_294 : decode cL_law 294 = .ok (.iconst 1, 1) := dq_4 (by decide +kernel)
theorem dL_law_295 : decode cL_law 295 = .ok (.iadd, 1) := dq_96 (by decide +kernel)
theorem dL_law_296 : decode cL_law 296 = .ok (.iaload, 1) := dq_46 (by decide +kernel)
theorem dL_law_297 : decode cL_law 297 = .ok (.invokevirtual 18, 3) := dq_182 (a := 0) (b := 18) (by decide +kernel) rfl
theorem dL_law_300 : decode cL_law 300 = .ok (.pop, 1) := dq_87 (by decide +kernel)
theorem dL_law_301 : decode cL_law 301 = .ok (.aload_n 2, 1) := dq_44 (by decide +kernel)
theorem dL_law_302 : decode cL_law 302 = .ok (.aload_n 0, 1) := dq_42 (by decide +kernel)
theorem dL_law_303 : decode cL_law 303 = .ok (.iload_n 3, 1) := dq_29 (by decide +kernel)
theorem dL_law_304 : decode cL_law 304 = .ok (.iconst 1, 1) := dq_4 (by decide +kernel)
theorem dL_law_305 : decode cL_law 305 = .ok (.iadd, 1) := dq_96 (by decide +kernel)
theorem dL_law_306 : decode cL_law 306 = .ok (.iaload, 1) := dq_46 (by decide +kernel)
theorem dL_law_307 : decode cL_law 307 = .ok (.invokevirtual 22, 3) := dq_182 (a := 0) (b := 22) (by decide +kernel) rfl
theorem dL_law_310 : decode cL_law 310 = .ok (.pop, 1) := dq_87 (by decide +kernel)
theorem dL_law_311 : decode cL_law 311 = .ok (.goto 1208, 3) := dq_167 (a := 4) (b := 184) (by decide +kernel) (by decide +kernel)
theorem dL_law_314 : decode cL_law 314 = .ok (.aload_n 1, 1) := dq_43 (by decide +kernel)
theorem dL_law_315 : decode cL_law 315 = .ok (.invokevirtual 23, 3) := dq_182 (a := 0) (b := 23) (by decide +kernel) rfl
theorem dL_law_318 : decode cL_law 318 = .ok (.pop, 1) := dq_87 (by decide +kernel)
theorem dL_law_319 : decode cL_law 319 = .ok (.aload_n 2, 1) := dq_44 (by decide +kernel)
theorem dL_law_320 : decode cL_law 320 = .ok (.invokevirtual 27, 3) := dq_182 (a := 0) (b := 27) (by decide +kernel) rfl
theorem dL_law_323 : decode cL_law 323 = .ok (.pop, 1) := dq_87 (by decide +kernel)
theorem dL_law_324 : decode cL_law 324 = .ok (.goto 1195, 3) := dq_167 (a := 4) (b := 171) (by decide +kernel) (by decide +kernel)
theorem dL_law_327 : decode cL_law 327 = .ok (.aload_n 1, 1) := dq_43 (by decide +kernel)
theorem dL_law_328 : decode cL_law 328 = .ok (.aload_n 0, 1) := dq_42 (by decide +kernel)
theorem dL_law_329 : decode cL_law 329 = .ok (.iload_n 3, 1) := dq_29 (by decide +kernel)
theorem dL_law_330 : decode cL_law 330 = .ok (.iconst 1, 1) := dq_4 (by decide +kernel)
theorem dL_law_331 : decode cL_law 331 = .ok (.iadd, 1) := dq_96 (by decide +kernel)
theorem dL_law_332 : decode cL_law 332 = .ok (.iaload, 1) := dq_46 (by decide +kernel)
theorem dL_law_333 : decode cL_law 333 = .ok (.invokevirtual 28, 3) := dq_182 (a := 0) (b := 28) (by decide +kernel) rfl
theorem dL_law_336 : decode cL_law 336 = .ok (.pop, 1) := dq_87 (by decide +kernel)
theorem dL_law_337 : decode cL_law 337 = .ok (.aload_n 2, 1) := dq_44 (by decide +kernel)
theorem dL_law_338 : decode cL_law 338 = .ok (.aload_n 0, 1) := dq_42 (by decide +kernel)
theorem dL_law_339 : decode cL_law 339 = .ok (.iload_n 3, 1) := dq_29 (by decide +kernel)
theorem dL_law_340 : decode cL_law 340 = .ok (.iconst 1, 1) := dq_4 (by decide +kernel)
theorem dL_law_341 : decode cL_law 341 = .ok (.iadd, 1) := dq_96 (by decide +kernel)
theorem dL_law_342 : decode cL_law 342 = .ok (.iaload, 1) := dq_46 (by decide +kernel)
theorem dL_law_343 : decode cL_law 343 = .ok (.invokevirtual 32, 3) := dq_182 (a := 0) (b := 32) (by decide +kernel) rfl
theorem dL_law_346 : decode cL_law 346 = .ok (.pop, 1) := dq_87 (by decide +kernel)
theorem dL_law_347 : decode cL_law 347 = .ok (.goto 1172, 3) := dq_167 (a := 4) (b := 148) (by decide +kernel) (by decide +kernel)
theorem dL_law_350 : decode cL_law 350 = .ok (.aload_n 1, 1) := dq_43 (by decide +kernel)
theorem dL_law_351 : decode cL_law 351 = .ok (.aload_n 0, 1) := dq_42 (by decide +kernel)
theorem dL_law_352 : decode cL_law 352 = .ok (.iload_n 3, 1) := dq_29 (by decide +kernel)
theorem dL_law_353 : decode cL_law 353 = .ok (.iconst 1, 1) := dq_4 (by decide +kernel)
theorem dL_law_354 : decode cL_law 354 = .ok (.iadd, 1) := dq_96 (by decide +kernel)
theorem dL_law_355 : decode cL_law 355 = .ok (.iaload, 1) := dq_46 (by decide +kernel)
theorem dL_law_356 : decode cL_law 356 = .ok (.invokevirtual 33, 3) := dq_182 (a := 0) (b := 33) (by decide +kernel) rfl
theorem dL_law_359 : decode cL_law 359 = .ok (.pop, 1) := dq_87 (by decide +kernel)
theorem dL_law_360 : decode cL_law 360 = .ok (.aload_n 2, 1) := dq_44 (by decide +kernel)
theorem dL_law_361 : decode cL_law 361 = .ok (.aload_n 0, 1) := dq_42 (by decide +kernel)
theorem dL_law_362 : decode cL_law 362 = .ok (.iload_n 3, 1) := dq_29 (by decide +kernel)
theorem dL_law_363 : decode cL_law 363 = .ok (.iconst 1, 1) := dq_4 (by decide +kernel)
theorem dL_law_364 : decode cL_law 364 = .ok (.iadd, 1) := dq_96 (by decide +kernel)
theorem dL_law_365 : decode cL_law 365 = .ok (.iaload, 1) := dq_46 (by decide +kernel)
theorem dL_law_366 : decode cL_law 366 = .ok (.invokevirtual 36, 3) := dq_182 (a := 0) (b := 36) (by decide +kernel) rfl
theorem dL_law_369 : decode cL_law 369 = .ok (.pop, 1) := dq_87 (by decide +kernel)
theorem dL_law_370 : decode cL_law 370 = .ok (.goto 1149, 3) := dq_167 (a := 4) (b := 125) (by decide +kernel) (by decide +kernel)
theorem dL_law_373 : decode cL_law 373 = .ok (.aload_n 1, 1) := dq_43 (by decide +kernel)
theorem dL_law_374 : decode cL_law 374 = .ok (.aload_n 0, 1) := dq_42 (by decide +kernel)
theorem dL_law_375 : decode cL_law 375 = .ok (.iload_n 3, 1) := dq_29 (by decide +kernel)
theorem dL_law_376 : decode cL_law 376 = .ok (.iconst 1, 1) := dq_4 (by decide +kernel)
theorem dL_law_377 : decode cL_law 377 = .ok (.iadd, 1) := dq_96 (by decide +kernel)
theorem dL_law_378 : decode cL_law 378 = .ok (.iaload, 1) := dq_46 (by decide +kernel)
theorem dL_law_379 : decode cL_law 379 = .ok (.aload_n 0, 1) := dq_42 (by decide +kernel)
theorem dL_law_380 : decode cL_law 380 = .ok (.iload_n 3, 1) := dq_29 (by decide +kernel)
theorem dL_law_381 : decode cL_law 381 = .ok (.iconst 2, 1) := dq_5 (by decide +kernel)
theorem dL_law_382 : decode cL_law 382 = .ok (.iadd, 1) := dq_96 (by decide +kernel)
theorem dL_law_383 : decode cL_law 383 = .ok (.iaload, 1) := dq_46 (by decide +kernel)
theorem dL_law_384 : decode cL_law 384 = .ok (.aload_n 0, 1) := dq_42 (by decide +kernel)
theorem dL_law_385 : decode cL_law 385 = .ok (.iload_n 3, 1) := dq_29 (by decide +kernel)
theorem dL_law_386 : decode cL_law 386 = .ok (.iconst 3, 1) := dq_6 (by decide +kernel)
theorem dL_law_387 : decode cL_law 387 = .ok (.iadd, 1) := dq_96 (by decide +kernel)
theorem dL_law_388 : decode cL_law 388 = .ok (.iaload, 1) := dq_46 (by decide +kernel)
theorem dL_law_389 : decode cL_law 389 = .ok (.ifCond .eq 7, 3) := dq_153 (a := 0) (b := 7) (by decide +kernel) (by decide +kernel)
theorem dL_law_396 : decode cL_law 396 = .ok (.iconst 0, 1) := dq_3 (by decide +kernel)
theorem dL_law_397 : decode cL_law 397 = .ok (.invokevirtual 37, 3) := dq_182 (a := 0) (b := 37) (by decide +kernel) rfl
theorem dL_law_400 : decode cL_law 400 = .ok (.aload_n 2, 1) := dq_44 (by decide +kernel)
theorem dL_law_401 : decode cL_law 401 = .ok (.aload_n 0, 1) := dq_42 (by decide +kernel)
theorem dL_law_402 : decode cL_law 402 = .ok (.iload_n 3, 1) := dq_29 (by decide +kernel)
theorem dL_law_403 : decode cL_law 403 = .ok (.iconst 1, 1) := dq_4 (by decide +kernel)
theorem dL_law_404 : decode cL_law 404 = .ok (.iadd, 1) := dq_96 (by decide +kernel)
theorem dL_law_405 : decode cL_law 405 = .ok (.iaload, 1) := dq_46 (by decide +kernel)
theorem dL_law_406 : decode cL_law 406 = .ok (.aload_n 0, 1) := dq_42 (by decide +kernel)
theorem dL_law_407 : decode cL_law 407 = .ok (.iload_n 3, 1) := dq_29 (by decide +kernel)
theorem dL_law_408 : decode cL_law 408 = .ok (.iconst 2, 1) := dq_5 (by decide +kernel)
theorem dL_law_409 : decode cL_law 409 = .ok (.iadd, 1) := dq_96 (by decide +kernel)
theorem dL_law_410 : decode cL_law 410 = .ok (.iaload, 1) := dq_46 (by decide +kernel)
theorem dL_law_411 : decode cL_law 411 = .ok (.aload_n 0, 1) := dq_42 (by decide +kernel)
theorem dL_law_412 : decode cL_law 412 = .ok (.iload_n 3, 1) := dq_29 (by decide +kernel)
theorem dL_law_413 : decode cL_law 413 = .ok (.iconst 3, 1) := dq_6 (by decide +kernel)
theorem dL_law_414 : decode cL_law 414 = .ok (.iadd, 1) := dq_96 (by decide +kernel)
theorem dL_law_415 : decode cL_law 415 = .ok (.iaload, 1) := dq_46 (by decide +kernel)
theorem dL_law_416 : decode cL_law 416 = .ok (.ifCond .eq 7, 3) := dq_153 (a := 0) (b := 7) (by decide +kernel) (by decide +kernel)
theorem dL_law_423 : decode cL_law 423 = .ok (.iconst 0, 1) := dq_3 (by decide +kernel)
theorem dL_law_424 : decode cL_law 424 = .ok (.invokevirtual 41, 3) := dq_182 (a := 0) (b := 41) (by decide +kernel) rfl
theorem dL_law_427 : decode cL_law 427 = .ok (.if_icmp .eq 1092, 3) := dq_159 (a := 4) (b := 68) (by decide +kernel) (by decide +kernel)
theorem dL_law_430 : decode cL_law 430 = .ok (.iconst 0, 1) := dq_3 (by decide +kernel)
theorem dL_law_419 : decode cL_law 419 = .ok (.iconst 1, 1) := dq_4 (by decide +kernel)
theorem dL_law_420 : decode cL_law 420 = .ok (.goto 4, 3) := dq_167 (a := 0) (b := 4) (by decide +kernel) (by decide +kernel)
theorem dL_law_392 : decode cL_law 392 = .ok (.iconst 1, 1) := dq_4 (by decide +kernel)
theorem dL_law_393 : decode cL_law 393 = .ok (.goto 4, 3) := dq_167 (a := 0) (b := 4) (by decide +kernel) (by decide +kernel)
theorem dL_law_432 : decode cL_law 432 = .ok (.aload_n 1, 1) := dq_43 (by decide +kernel)
theorem dL_law_433 : decode cL_law 433 = .ok (.aload_n 0, 1) := dq_42 (by decide +kernel)
theorem dL_law_434 : decode cL_law 434 = .ok (.iload_n 3, 1) := dq_29 (by decide +kernel)
theorem dL_law_435 : decode cL_law 435 = .ok (.iconst 1, 1) := dq_4 (by decide +kernel)
theorem dL_law_436 : decode cL_law 436 = .ok (.iadd, 1) := dq_96 (by decide +kernel)
theorem dL_law_437 : decode cL_law 437 = .ok (.iaload, 1) := dq_46 (by decide +kernel)
theorem dL_law_438 : decode cL_law 438 = .ok (.aload_n 0, 1) := dq_42 (by decide +kernel)
theorem dL_law_439 : decode cL_law 439 = .ok (.iload_n 3, 1) := dq_29 (by decide +kernel)
theorem dL_law_440 : decode cL_law 440 = .ok (.iconst 2, 1) := dq_5 (by decide +kernel)
theorem dL_law_441 : decode cL_law 441 = .ok (.iadd, 1) := dq_96 (by decide +kernel)
theorem dL_law_442 : decode cL_law 442 = .ok (.iaload, 1) := dq_46 (by decide +kernel)
theorem dL_law_443 : decode cL_law 443 = .ok (.aload_n 0, 1) := dq_42 (by decide +kernel)
theorem dL_law_444 : decode cL_law 444 = .ok (.iload_n 3, 1) := dq_29 (by decide +kernel)
theorem dL_law_445 : decode cL_law 445 = .ok (.iconst 3, 1) := dq_6 (by decide +kernel)
theorem dL_law_446 : decode cL_law 446 = .ok (.iadd, 1) := dq_96 (by decide +kernel)
theorem dL_law_447 : decode cL_law 447 = .ok (.iaload, 1) := dq_46 (by decide +kernel)
theorem dL_law_448 : decode cL_law 448 = .ok (.ifCond .eq 7, 3) := dq_153 (a := 0) (b := 7) (by decide +kernel) (by decide +kernel)
theorem dL_law_455 : decode cL_law 455 = .ok (.iconst 0, 1) := dq_3 (by decide +kernel)
theorem dL_law_456 : decode cL_law 456 = .ok (.invokevirtual 42, 3) := dq_182 (a := 0) (b := 42) (by decide +kernel) rfl
theorem dL_law_459 : decode cL_law 459 = .ok (.pop, 1) := dq_87 (by decide +kernel)
theorem dL_law_460 : decode cL_law 460 = .ok (.aload_n 2, 1) := dq_44 (by decide +kernel)
theorem dL_law_461 : decode cL_law 461 = .ok (.aload_n 0, 1) := dq_42 (by decide +kernel)
theorem dL_law_462 : decode cL_law 462 = .ok (.iload_n 3, 1) := dq_29 (by decide +kernel)
theorem dL_law_463 : decode cL_law 463 = .ok (.iconst 1, 1) := dq_4 (by decide +kernel)
theorem dL_law_464 : decode cL_law 464 = .ok (.iadd, 1) := dq_96 (by decide +kernel)
theorem dL_law_465 : decode cL_law 465 = .ok (.iaload, 1) := dq_46 (by decide +kernel)
theorem dL_law_466 : decode cL_law 466 = .ok (.aload_n 0, 1) := dq_42 (by decide +kernel)
theorem dL_law_467 : decode cL_law 467 = .ok (.iload_n 3, 1) := dq_29 (by decide +kernel)
theorem dL_law_468 : decode cL_law 468 = .ok (.iconst 2, 1) := dq_5 (by decide +kernel)
theorem dL_law_469 : decode cL_law 469 = .ok (.iadd, 1) := dq_96 (by decide +kernel)
theorem dL_law_470 : decode cL_law 470 = .ok (.iaload, 1) := dq_46 (by decide +kernel)
theorem dL_law_471 : decode cL_law 471 = .ok (.aload_n 0, 1) := dq_42 (by decide +kernel)
theorem dL_law_472 : decode cL_law 472 = .ok (.iload_n 3, 1) := dq_29 (by decide +kernel)
theorem dL_law_473 : decode cL_law 473 = .ok (.iconst 3, 1) := dq_6 (by decide +kernel)
theorem dL_law_474 : decode cL_law 474 = .ok (.iadd, 1) := dq_96 (by decide +kernel)
theorem dL_law_475 : decode cL_law 475 = .ok (.iaload, 1) := dq_46 (by decide +kernel)
theorem dL_law_476 : decode cL_law 476 = .ok (.ifCond .eq 7, 3) := dq_153 (a := 0) (b := 7) (by decide +kernel) (by decide +kernel)
theorem dL_law_483 : decode cL_law 483 = .ok (.iconst 0, 1) := dq_3 (by decide +kernel)
theorem dL_law_484 : decode cL_law 484 = .ok (.invokevirtual 45, 3) := dq_182 (a := 0) (b := 45) (by decide +kernel) rfl
theorem dL_law_487 : decode cL_law 487 = .ok (.pop, 1) := dq_87 (by decide +kernel)
theorem dL_law_488 : decode cL_law 488 = .ok (.goto 1031, 3) := dq_167 (a := 4) (b := 7) (by decide +kernel) (by decide +kernel)
theorem dL_law_479 : decode cL_law 479 = .ok (.iconst 1, 1) := dq_4 (by decide +kernel)
theorem dL_law_480 : decode cL_law 480 = .ok (.goto 4, 3) := dq_167 (a := 0) (b := 4) (by decide +kernel) (by decide +kernel)
theorem dL_law_451 : decode cL_law 451 = .ok (.iconst 1, 1) := dq_4 (by decide +kernel)
theorem dL_law_452 : decode cL_law 452 = .ok (.goto 4, 3) := dq_167 (a := 0) (b := 4) (by decide +kernel) (by decide +kernel)
theorem dL_law_491 : decode cL_law 491 = .ok (.aload_n 1, 1) := dq_43 (by decide +kernel)
theorem dL_law_492 : decode cL_law 492 = .ok (.invokevirtual 46, 3) := dq_182 (a := 0) (b := 46) (by decide +kernel) rfl
theorem dL_law_495 : decode cL_law 495 = .ok (.pop, 1) := dq_87 (by decide +kernel)
theorem dL_law_496 : decode cL_law 496 = .ok (.aload_n 2, 1) := dq_44 (by decide +kernel)
theorem dL_law_497 : decode cL_law 497 = .ok (.invokevirtual 50, 3) := dq_182 (a := 0) (b := 50) (by decide +kernel) rfl
theorem dL_law_500 : decode cL_law 500 = .ok (.pop, 1) := dq_87 (by decide +kernel)
theorem dL_law_501 : decode cL_law 501 = .ok (.goto 1018, 3) := dq_167 (a := 3) (b := 250) (by decide +kernel) (by decide +kernel)
theorem dL_law_504 : decode cL_law 504 = .ok (.aload_n 1, 1) := dq_43 (by decide +kernel)
theorem dL_law_505 : decode cL_law 505 = .ok (.aload_n 0, 1) := dq_42 (by decide +kernel)
theorem dL_law_506 : decode cL_law 506 = .ok (.iload_n 3, 1) := dq_29 (by decide +kernel)
theorem dL_law_507 : decode cL_law 507 = .ok (.iconst 1, 1) := dq_4 (by decide +kernel)
theorem dL_law_508 : decode cL_law 508 = .ok (.iadd, 1) := dq_96 (by decide +kernel)
theorem dL_law_509 : decode cL_law 509 = .ok (.iaload, 1) := dq_46 (by decide +kernel)
theorem dL_law_510 : decode cL_law 510 = .ok (.invokevirtual 51, 3) := dq_182 (a := 0) (b := 51) (by decide +kernel) rfl
theorem dL_law_513 : decode cL_law 513 = .ok (.pop, 1) := dq_87 (by decide +kernel)
theorem dL_law_514 : decode cL_law 514 = .ok (.aload_n 2, 1) := dq_44 (by decide +kernel)
theorem dL_law_515 : decode cL_law 515 = .ok (.aload_n 0, 1) := dq_42 (by decide +kernel)
theorem dL_law_516 : decode cL_law 516 = .ok (.iload_n 3, 1) := dq_29 (by decide +kernel)
theorem dL_law_517 : decode cL_law 517 = .ok (.iconst 1, 1) := dq_4 (by decide +kernel)
theorem dL_law_518 : decode cL_law 518 = .ok (.iadd, 1) := dq_96 (by decide +kernel)
theorem dL_law_519 : decode cL_law 519 = .ok (.iaload, 1) := dq_46 (by decide +kernel)
theorem dL_law_520 : decode cL_law 520 = .ok (.invokevirtual 54, 3) := dq_182 (a := 0) (b := 54) (by decide +kernel) rfl
theorem dL_law_523 : decode cL_law 523 = .ok (.pop, 1) := dq_87 (by decide +kernel)
theorem dL_law_524 : decode cL_law 524 = .ok (.goto 995, 3) := dq_167 (a := 3) (b := 227) (by decide +kernel) (by decide +kernel)
theorem dL_law_527 : decode cL_law 527 = .ok (.aload_n 1, 1) := dq_43 (by decide +kernel)
theorem dL_law_528 : decode cL_law 528 = .ok (.invokevirtual 55, 3) := dq_182 (a := 0) (b := 55) (by decide +kernel) rfl
theorem dL_law_531 : decode cL_law 531 = .ok (.pop, 1) := dq_87 (by decide +kernel)
theorem dL_law_532 : decode cL_law 532 = .ok (.aload_n 2, 1) := dq_44 (by decide +kernel)
theorem dL_law_533 : decode cL_law 533 = .ok (.invokevirtual 58, 3) := dq_182 (a := 0) (b := 58) (by decide +kernel) rfl
theorem dL_law_536 : decode cL_law 536 = .ok (.pop, 1) := dq_87 (by decide +kernel)
theorem dL_law_537 : decode cL_law 537 = .ok (.goto 982, 3) := dq_167 (a := 3) (b := 214) (by decide +kernel) (by decide +kernel)
theorem dL_law_540 : decode cL_law 540 = .ok (.aload_n 1, 1) := dq_43 (by decide +kernel)
theorem dL_law_541 : decode cL_law 541 = .ok (.invokevirtual 59, 3) := dq_182 (a := 0) (b := 59) (by decide +kernel) rfl
theorem dL_law_544 : decode cL_law 544 = .ok (.pop2, 1) := dq_88 (by decide +kernel)
theorem dL_law_545 : decode cL_law 545 = .ok (.aload_n 2, 1) := dq_44 (by decide +kernel)
theorem dL_law_546 : decode cL_law 546 = .ok (.invokevirtual 63, 3) := dq_182 (a := 0) (b := 63) (by decide +kernel) rfl
theorem dL_law_549 : decode cL_law 549 = .ok (.pop2, 1) := dq_88 (by decide +kernel)
theorem dL_law_550 : decode cL_law 550 = .ok (.goto 969, 3) := dq_167 (a := 3) (b := 201) (by decide +kernel) (by decide +kernel)
theorem dL_law_553 : decode cL_law 553 = .ok (.aload_n 1, 1) := dq_43 (by decide +kernel)
theorem dL_law_554 : decode cL_law 554 = .ok (.aload_n 0, 1) := dq_42 (by decide +kernel)
theorem dL_law_555 : decode cL_law 555 = .ok (.iload_n 3, 1) := dq_29 (by decide +kernel)
theorem dL_law_556 : decode cL_law 556 = .ok (.iconst 1, 1) := dq_4 (by decide +kernel)
theorem dL_law_557 : decode cL_law 557 = .ok (.iadd, 1) := dq_96 (by decide +kernel)
theorem dL_law_558 : decode cL_law 558 = .ok (.iaload, 1) := dq_46 (by decide +kernel)
theorem dL_law_559 : decode cL_law 559 = .ok (.aload_n 0, 1) := dq_42 (by decide +kernel)
theorem dL_law_560 : decode cL_law 560 = .ok (.iload_n 3, 1) := dq_29 (by decide +kernel)
theorem dL_law_561 : decode cL_law 561 = .ok (.iconst 2, 1) := dq_5 (by decide +kernel)
theorem dL_law_562 : decode cL_law 562 = .ok (.iadd, 1) := dq_96 (by decide +kernel)
theorem dL_law_563 : decode cL_law 563 = .ok (.iaload, 1) := dq_46 (by decide +kernel)
theorem dL_law_564 : decode cL_law 564 = .ok (.invokevirtual 64, 3) := dq_182 (a := 0) (b := 64) (by decide +kernel) rfl
theorem dL_law_567 : decode cL_law 567 = .ok (.pop, 1) := dq_87 (by decide +kernel)
theorem dL_law_568 : decode cL_law 568 = .ok (.aload_n 2, 1) := dq_44 (by decide +kernel)
theorem dL_law_569 : decode cL_law 569 = .ok (.aload_n 0, 1) := dq_42 (by decide +kernel)
theorem dL_law_570 : decode cL_law 570 = .ok (.iload_n 3, 1) := dq_29 (by decide +kernel)
theorem dL_law_571 : decode cL_law 571 = .ok (.iconst 1, 1) := dq_4 (by decide +kernel)
theorem dL_law_572 : decode cL_law 572 = .ok (.iadd, 1) := dq_96 (by decide +kernel)
theorem dL_law_573 : decode cL_law 573 = .ok (.iaload, 1) := dq_46 (by decide +kernel)
theorem dL_law_574 : decode cL_law 574 = .ok (.aload_n 0, 1) := dq_42 (by decide +kernel)
theorem dL_law_575 : decode cL_law 575 = .ok (.iload_n 3, 1) := dq_29 (by decide +kernel)
theorem dL_law_576 : decode cL_law 576 = .ok (.iconst 2, 1) := dq_5 (by decide +kernel)
theorem dL_law_577 : decode cL_law 577 = .ok (.iadd, 1) := dq_96 (by decide +kernel)
theorem dL_law_578 : decode cL_law 578 = .ok (.iaload, 1) := dq_46 (by decide +kernel)
theorem dL_law_579 : decode cL_law 579 = .ok (.invokevirtual 68, 3) := dq_182 (a := 0) (b := 68) (by decide +kernel) rfl
theorem dL_law_582 : decode cL_law 582 = .ok (.pop, 1) := dq_87 (by decide +kernel)
theorem dL_law_583 : decode cL_law 583 = .ok (.goto 936, 3) := dq_167 (a := 3) (b := 168) (by decide +kernel) (by decide +kernel)
theorem dL_law_586 : decode cL_law 586 = .ok (.aload_n 1, 1) := dq_43 (by decide +kernel)
theorem dL_law_587 : decode cL_law 587 = .ok (.aload_n 0, 1) := dq_42 (by decide +kernel)
theorem dL_law_588 : decode cL_law 588 = .ok (.iload_n 3, 1) := dq_29 (by decide +kernel)
theorem dL_law_589 : decode cL_law 589 = .ok (.iconst 1, 1) := dq_4 (by decide +kernel)
theorem dL_law_590 : decode cL_law 590 = .ok (.iadd, 1) := dq_96 (by decide +kernel)
theorem dL_law_591 : decode cL_law 591 = .ok (.iaload, 1) := dq_46 (by decide +kernel)
theorem dL_law_592 : decode cL_law 592 = .ok (.aload_n 0, 1) := dq_42 (by decide +kernel)
theorem dL_law_593 : decode cL_law 593 = .ok (.iload_n 3, 1) := dq_29 (by decide +kernel)
theorem dL_law_594 : decode cL_law 594 = .ok (.iconst 2, 1) := dq_5 (by decide +kernel)
theorem dL_law_595 : decode cL_law 595 = .ok (.iadd, 1) := dq_96 (by decide +kernel)
theorem dL_law_596 : decode cL_law 596 = .ok (.iaload, 1) := dq_46 (by decide +kernel)
theorem dL_law_597 : decode cL_law 597 = .ok (.invokevirtual 69, 3) := dq_182 (a := 0) (b := 69) (by decide +kernel) rfl
theorem dL_law_600 : decode cL_law 600 = .ok (.pop, 1) := dq_87 (by decide +kernel)
theorem dL_law_601 : decode cL_law 601 = .ok (.aload_n 2, 1) := dq_44 (by decide +kernel)
theorem dL_law_602 : decode cL_law 602 = .ok (.aload_n 0, 1) := dq_42 (by decide +kernel)
theorem dL_law_603 : decode cL_law 603 = .ok (.iload_n 3, 1) := dq_29 (by decide +kernel)
theorem dL_law_604 : decode cL_law 604 = .ok (.iconst 1, 1) := dq_4 (by decide +kernel)
theorem dL_law_605 : decode cL_law 605 = .ok (.iadd, 1) := dq_96 (by decide +kernel)
theorem dL_law_606 : decode cL_law 606 = .ok (.iaload, 1) := dq_46 (by decide +kernel)
theorem dL_law_607 : decode cL_law 607 = .ok (.aload_n 0, 1) := dq_42 (by decide +kernel)
theorem dL_law_608 : decode cL_law 608 = .ok (.iload_n 3, 1) := dq_29 (by decide +kernel)
theorem dL_law_609 : decode cL_law 609 = .ok (.iconst 2, 1) := dq_5 (by decide +kernel)
theorem dL_law_610 : decode cL_law 610 = .ok (.iadd, 1) := dq_96 (by decide +kernel)
theorem dL_law_611 : decode cL_law 611 = .ok (.iaload, 1) := dq_46 (by decide +kernel)
theorem dL_law_612 : decode cL_law 612 = .ok (.invokevirtual 72, 3) := dq_182 (a := 0) (b := 72) (by decide +kernel) rfl
theorem dL_law_615 : decode cL_law 615 = .ok (.pop, 1) := dq_87 (by decide +kernel)
theorem dL_law_616 : decode cL_law 616 = .ok (.goto 903, 3) := dq_167 (a := 3) (b := 135) (by decide +kernel) (by decide +kernel)
theorem dL_law_619 : decode cL_law 619 = .ok (.aload_n 1, 1) := dq_43 (by decide +kernel)
theorem dL_law_620 : decode cL_law 620 = .ok (.aload_n 0, 1) := dq_42 (by decide +kernel)
theorem dL_law_621 : decode cL_law 621 = .ok (.iload_n 3, 1) := dq_29 (by decide +kernel)
theorem dL_law_622 : decode cL_law 622 = .ok (.iconst 1, 1) := dq_4 (by decide +kernel)
theorem dL_law_623 : decode cL_law 623 = .ok (.iadd, 1) := dq_96 (by decide +kernel)
theorem dL_law_624 : decode cL_law 624 = .ok (.iaload, 1) := dq_46 (by decide +kernel)
theorem dL_law_625 : decode cL_law 625 = .ok (.invokevirtual 73, 3) := dq_182 (a := 0) (b := 73) (by decide +kernel) rfl
theorem dL_law_628 : decode cL_law 628 = .ok (.pop2, 1) := dq_88 (by decide +kernel)
theorem dL_law_629 : decode cL_law 629 = .ok (.aload_n 2, 1) := dq_44 (by decide +kernel)
theorem dL_law_630 : decode cL_law 630 = .ok (.aload_n 0, 1) := dq_42 (by decide +kernel)
theorem dL_law_631 : decode cL_law 631 = .ok (.iload_n 3, 1) := dq_29 (by decide +kernel)
theorem dL_law_632 : decode cL_law 632 = .ok (.iconst 1, 1) := dq_4 (by decide +kernel)
theorem dL_law_633 : decode cL_law 633 = .ok (.iadd, 1) := dq_96 (by decide +kernel)
theorem dL_law_634 : decode cL_law 634 = .ok (.iaload, 1) := dq_46 (by decide +kernel)
theorem dL_law_635 : decode cL_law 635 = .ok (.invokevirtual 77, 3) := dq_182 (a := 0) (b := 77) (by decide +kernel) rfl
theorem dL_law_638 : decode cL_law 638 = .ok (.pop2, 1) := dq_88 (by decide +kernel)
theorem dL_law_639 : decode cL_law 639 = .ok (.goto 880, 3) := dq_167 (a := 3) (b := 112) (by decide +kernel) (by decide +kernel)
theorem dL_law_642 : decode cL_law 642 = .ok (.aload_n 1, 1) := dq_43 (by decide +kernel)
theorem dL_law_643 : decode cL_law 643 = .ok (.aload_n 0, 1) := dq_42 (by decide +kernel)
theorem dL_law_644 : decode cL_law 644 = .ok (.iload_n 3, 1) := dq_29 (by decide +kernel)
theorem dL_law_645 : decode cL_law 645 = .ok (.iconst 1, 1) := dq_4 (by decide +kernel)
theorem dL_law_646 : decode cL_law 646 = .ok (.iadd, 1) := dq_96 (by decide +kernel)
theorem dL_law_647 : decode cL_law 647 = .ok (.iaload, 1) := dq_46 (by decide +kernel)
theorem dL_law_648 : decode cL_law 648 = .ok (.i2l, 1) := dq_133 (by decide +kernel)
theorem dL_law_649 : decode cL_law 649 = .ok (.bipush 32, 2) := dq_16 (a := 32) (by decide +kernel) (by decide +kernel)
theorem dL_law_651 : decode cL_law 651 = .ok (.lshl, 1) := dq_121 (by decide +kernel)
theorem dL_law_652 : decode cL_law 652 = .ok (.aload_n 0, 1) := dq_42 (by decide +kernel)
theorem dL_law_653 : decode cL_law 653 = .ok (.iload_n 3, 1) := dq_29 (by decide +kernel)
theorem dL_law_654 : decode cL_law 654 = .ok (.iconst 2, 1) := dq_5 (by decide +kernel)
theorem dL_law_655 : decode cL_law 655 = .ok (.iadd, 1) := dq_96 (by decide +kernel)
theorem dL_law_656 : decode cL_law 656 = .ok (.iaload, 1) := dq_46 (by decide +kernel)
theorem dL_law_657 : decode cL_law 657 = .ok (.i2l, 1) := dq_133 (by decide +kernel)
theorem dL_law_658 : decode cL_law 658 = .ok (.ldc2_w 78, 3) := dq_20 (a := 0) (b := 78) (by decide +kernel) rfl
theorem dL_law_661 : decode cL_law 661 = .ok (.land, 1) := dq_127 (by decide +kernel)
theorem dL_law_662 : decode cL_law 662 = .ok (.lor, 1) := dq_129 (by decide +kernel)
theorem dL_law_663 : decode cL_law 663 = .ok (.invokevirtual 80, 3) := dq_182 (a := 0) (b := 80) (by decide +kernel) rfl
theorem dL_law_666 : decode cL_law 666 = .ok (.pop, 1) := dq_87 (by decide +kernel)
theorem dL_law_667 : decode cL_law 667 = .ok (.aload_n 2, 1) := dq_44 (by decide +kernel)
theorem dL_law_668 : decode cL_law 668 = .ok (.aload_n 0, 1) := dq_42 (by decide +kernel)
theorem dL_law_669 : decode cL_law 669 = .ok (.iload_n 3, 1) := dq_29 (by decide +kernel)
theorem dL_law_670 : decode cL_law 670 = .ok (.iconst 1, 1) := dq_4 (by decide +kernel)
theorem dL_law_671 : decode cL_law 671 = .ok (.iadd, 1) := dq_96 (by decide +kernel)
theorem dL_law_672 : decode cL_law 672 = .ok (.iaload, 1) := dq_46 (by decide +kernel)
theorem dL_law_673 : decode cL_law 673 = .ok (.i2l, 1) := dq_133 (by decide +kernel)
theorem dL_law_674 : decode cL_law 674 = .ok (.bipush 32, 2) := dq_16 (a := 32) (by decide +kernel) (by decide +kernel)
theorem dL_law_676 : decode cL_law 676 = .ok (.lshl, 1) := dq_121 (by decide +kernel)
theorem dL_law_677 : decode cL_law 677 = .ok (.aload_n 0, 1) := dq_42 (by decide +kernel)
theorem dL_law_678 : decode cL_law 678 = .ok (.iload_n 3, 1) := dq_29 (by decide +kernel)
theorem dL_law_679 : decode cL_law 679 = .ok (.iconst 2, 1) := dq_5 (by decide +kernel)
theorem dL_law_680 : decode cL_law 680 = .ok (.iadd, 1) := dq_96 (by decide +kernel)
theorem dL_law_681 : decode cL_law 681 = .ok (.iaload, 1) := dq_46 (by decide +kernel)
theorem dL_law_682 : decode cL_law 682 = .ok (.i2l, 1) := dq_133 (by decide +kernel)
theorem dL_law_683 : decode cL_law 683 = .ok (.ldc2_w 78, 3) := dq_20 (a := 0) (b := 78) (by decide +kernel) rfl
theorem dL_law_686 : decode cL_law 686 = .ok (.land, 1) := dq_127 (by decide +kernel)
theorem dL_law_687 : decode cL_law 687 = .ok (.lor, 1) := dq_129 (by decide +kernel)
theorem dL_law_688 : decode cL_law 688 = .ok (.invokevirtual 84, 3) := dq_182 (a := 0) (b := 84) (by decide +kernel) rfl
theorem dL_law_691 : decode cL_law 691 = .ok (.pop, 1) := dq_87 (by decide +kernel)
theorem dL_law_692 : decode cL_law 692 = .ok (.goto 827, 3) := dq_167 (a := 3) (b := 59) (by decide +kernel) (by decide +kernel)
theorem dL_law_695 : decode cL_law 695 = .ok (.aload_n 1, 1) := dq_43 (by decide +kernel)
theorem dL_law_696 : decode cL_law 696 = .ok (.aload_n 0, 1) := dq_42 (by decide +kernel)
theorem dL_law_697 : decode cL_law 697 = .ok (.iload_n 3, 1) := dq_29 (by decide +kernel)
theorem dL_law_698 : decode cL_law 698 = .ok (.iconst 1, 1) := dq_4 (by decide +kernel)
theorem dL_law_699 : decode cL_law 699 = .ok (.iadd, 1) := dq_96 (by decide +kernel)
theorem dL_law_700 : decode cL_law 700 = .ok (.iaload, 1) := dq_46 (by decide +kernel)
theorem dL_law_701 : decode cL_law 701 = .ok (.invokevirtual 85, 3) := dq_182 (a := 0) (b := 85) (by decide +kernel) rfl
theorem dL_law_704 : decode cL_law 704 = .ok (.pop, 1) := dq_87 (by decide +kernel)
theorem dL_law_705 : decode cL_law 705 = .ok (.aload_n 2, 1) := dq_44 (by decide +kernel)
theorem dL_law_706 : decode cL_law 706 = .ok (.aload_n 0, 1) := dq_42 (by decide +kernel)
theorem dL_law_707 : decode cL_law 707 = .ok (.iload_n 3, 1) := dq_29 (by decide +kernel)
theorem dL_law_708 : decode cL_law 708 = .ok (.iconst 1, 1) := dq_4 (by decide +kernel)
theorem dL_law_709 : decode cL_law 709 = .ok (.iadd, 1) := dq_96 (by decide +kernel)
theorem dL_law_710 : decode cL_law 710 = .ok (.iaload, 1) := dq_46 (by decide +kernel)
theorem dL_law_711 : decode cL_law 711 = .ok (.invokevirtual 88, 3) := dq_182 (a := 0) (b := 88) (by decide +kernel) rfl
theorem dL_law_714 : decode cL_law 714 = .ok (.pop, 1) := dq_87 (by decide +kernel)
theorem dL_law_715 : decode cL_law 715 = .ok (.goto 804, 3) := dq_167 (a := 3) (b := 36) (by decide +kernel) (by decide +kernel)
theorem dL_law_718 : decode cL_law 718 = .ok (.aload_n 1, 1) := dq_43 (by decide +kernel)
theorem dL_law_719 : decode cL_law 719 = .ok (.aload_n 0, 1) := dq_42 (by decide +kernel)
theorem dL_law_720 : decode cL_law 720 = .ok (.iload_n 3, 1) := dq_29 (by decide +kernel)
theorem dL_law_721 : decode cL_law 721 = .ok (.iconst 1, 1) := dq_4 (by decide +kernel)
theorem dL_law_722 : decode cL_law 722 = .ok (.iadd, 1) := dq_96 (by decide +kernel)
theorem dL_law_723 : decode cL_law 723 = .ok (.iaload, 1) := dq_46 (by decide +kernel)
theorem dL_law_724 : decode cL_law 724 = .ok (.invokevirtual 89, 3) := dq_182 (a := 0) (b := 89) (by decide +kernel) rfl
theorem dL_law_727 : decode cL_law 727 = .ok (.pop, 1) := dq_87 (by decide +kernel)
theorem dL_law_728 : decode cL_law 728 = .ok (.aload_n 2, 1) := dq_44 (by decide +kernel)
theorem dL_law_729 : decode cL_law 729 = .ok (.aload_n 0, 1) := dq_42 (by decide +kernel)
theorem dL_law_730 : decode cL_law 730 = .ok (.iload_n 3, 1) := dq_29 (by decide +kernel)
theorem dL_law_731 : decode cL_law 731 = .ok (.iconst 1, 1) := dq_4 (by decide +kernel)
theorem dL_law_732 : decode cL_law 732 = .ok (.iadd, 1) := dq_96 (by decide +kernel)
theorem dL_law_733 : decode cL_law 733 = .ok (.iaload, 1) := dq_46 (by decide +kernel)
theorem dL_law_734 : decode cL_law 734 = .ok (.invokevirtual 92, 3) := dq_182 (a := 0) (b := 92) (by decide +kernel) rfl
theorem dL_law_737 : decode cL_law 737 = .ok (.pop, 1) := dq_87 (by decide +kernel)
theorem dL_law_738 : decode cL_law 738 = .ok (.goto 781, 3) := dq_167 (a := 3) (b := 13) (by decide +kernel) (by decide +kernel)
theorem dL_law_741 : decode cL_law 741 = .ok (.aload_n 1, 1) := dq_43 (by decide +kernel)
theorem dL_law_742 : decode cL_law 742 = .ok (.invokevirtual 93, 3) := dq_182 (a := 0) (b := 93) (by decide +kernel) rfl
theorem dL_law_745 : decode cL_law 745 = .ok (.pop2, 1) := dq_88 (by decide +kernel)
theorem dL_law_746 : decode cL_law 746 = .ok (.aload_n 2, 1) := dq_44 (by decide +kernel)
theorem dL_law_747 : decode cL_law 747 = .ok (.invokevirtual 96, 3) := dq_182 (a := 0) (b := 96) (by decide +kernel) rfl
theorem dL_law_750 : decode cL_law 750 = .ok (.pop2, 1) := dq_88 (by decide +kernel)
theorem dL_law_751 : decode cL_law 751 = .ok (.goto 768, 3) := dq_167 (a := 3) (b := 0) (by decide +kernel) (by decide +kernel)
theorem dL_law_754 : decode cL_law 754 = .ok (.aload_n 1, 1) := dq_43 (by decide +kernel)
theorem dL_law_755 : decode cL_law 755 = .ok (.aload_n 0, 1) := dq_42 (by decide +kernel)
theorem dL_law_756 : decode cL_law 756 = .ok (.iload_n 3, 1) := dq_29 (by decide +kernel)
theorem dL_law_757 : decode cL_law 757 = .ok (.iconst 1, 1) := dq_4 (by decide +kernel)
theorem dL_law_758 : decode cL_law 758 = .ok (.iadd, 1) := dq_96 (by decide +kernel)
theorem dL_law_759 : decode cL_law 759 = .ok (.iaload, 1) := dq_46 (by decide +kernel)
theorem dL_law_760 : decode cL_law 760 = .ok (.aload_n 0, 1) := dq_42 (by decide +kernel)
theorem dL_law_761 : decode cL_law 761 = .ok (.iload_n 3, 1) := dq_29 (by decide +kernel)
theorem dL_law_762 : decode cL_law 762 = .ok (.iconst 2, 1) := dq_5 (by decide +kernel)
theorem dL_law_763 : decode cL_law 763 = .ok (.iadd, 1) := dq_96 (by decide +kernel)
theorem dL_law_764 : decode cL_law 764 = .ok (.iaload, 1) := dq_46 (by decide +kernel)
theorem dL_law_765 : decode cL_law 765 = .ok (.invokevirtual 97, 3) := dq_182 (a := 0) (b := 97) (by decide +kernel) rfl
theorem dL_law_768 : decode cL_law 768 = .ok (.pop2, 1) := dq_88 (by decide +kernel)
theorem dL_law_769 : decode cL_law 769 = .ok (.aload_n 2, 1) := dq_44 (by decide +kernel)
theorem dL_law_770 : decode cL_law 770 = .ok (.aload_n 0, 1) := dq_42 (by decide +kernel)
theorem dL_law_771 : decode cL_law 771 = .ok (.iload_n 3, 1) := dq_29 (by decide +kernel)
theorem dL_law_772 : decode cL_law 772 = .ok (.iconst 1, 1) := dq_4 (by decide +kernel)
theorem dL_law_773 : decode cL_law 773 = .ok (.iadd, 1) := dq_96 (by decide +kernel)
theorem dL_law_774 : decode cL_law 774 = .ok (.iaload, 1) := dq_46 (by decide +kernel)
theorem dL_law_775 : decode cL_law 775 = .ok (.aload_n 0, 1) := dq_42 (by decide +kernel)
theorem dL_law_776 : decode cL_law 776 = .ok (.iload_n 3, 1) := dq_29 (by decide +kernel)
theorem dL_law_777 : decode cL_law 777 = .ok (.iconst 2, 1) := dq_5 (by decide +kernel)
theorem dL_law_778 : decode cL_law 778 = .ok (.iadd, 1) := dq_96 (by decide +kernel)
theorem dL_law_779 : decode cL_law 779 = .ok (.iaload, 1) := dq_46 (by decide +kernel)
theorem dL_law_780 : decode cL_law 780 = .ok (.invokevirtual 101, 3) := dq_182 (a := 0) (b := 101) (by decide +kernel) rfl
theorem dL_law_783 : decode cL_law 783 = .ok (.pop2, 1) := dq_88 (by decide +kernel)
theorem dL_law_784 : decode cL_law 784 = .ok (.goto 735, 3) := dq_167 (a := 2) (b := 223) (by decide +kernel) (by decide +kernel)
theorem dL_law_787 : decode cL_law 787 = .ok (.aload_n 1, 1) := dq_43 (by decide +kernel)
theorem dL_law_788 : decode cL_law 788 = .ok (.aload_n 0, 1) := dq_42 (by decide +kernel)
theorem dL_law_789 : decode cL_law 789 = .ok (.iload_n 3, 1) := dq_29 (by decide +kernel)
theorem dL_law_790 : decode cL_law 790 = .ok (.iconst 1, 1) := dq_4 (by decide +kernel)
theorem dL_law_791 : decode cL_law 791 = .ok (.iadd, 1) := dq_96 (by decide +kernel)
theorem dL_law_792 : decode cL_law 792 = .ok (.iaload, 1) := dq_46 (by decide +kernel)
theorem dL_law_793 : decode cL_law 793 = .ok (.aload_n 0, 1) := dq_42 (by decide +kernel)
theorem dL_law_794 : decode cL_law 794 = .ok (.iload_n 3, 1) := dq_29 (by decide +kernel)
theorem dL_law_795 : decode cL_law 795 = .ok (.iconst 2, 1) := dq_5 (by decide +kernel)
theorem dL_law_796 : decode cL_law 796 = .ok (.iadd, 1) := dq_96 (by decide +kernel)
theorem dL_law_797 : decode cL_law 797 = .ok (.iaload, 1) := dq_46 (by decide +kernel)
theorem dL_law_798 : decode cL_law 798 = .ok (.invokevirtual 102, 3) := dq_182 (a := 0) (b := 102) (by decide +kernel) rfl
theorem dL_law_801 : decode cL_law 801 = .ok (.pop, 1) := dq_87 (by decide +kernel)
theorem dL_law_802 : decode cL_law 802 = .ok (.aload_n 2, 1) := dq_44 (by decide +kernel)
theorem dL_law_803 : decode cL_law 803 = .ok (.aload_n 0, 1) := dq_42 (by decide +kernel)
theorem dL_law_804 : decode cL_law 804 = .ok (.iload_n 3, 1) := dq_29 (by decide +kernel)
theorem dL_law_805 : decode cL_law 805 = .ok (.iconst 1, 1) := dq_4 (by decide +kernel)
theorem dL_law_806 : decode cL_law 806 = .ok (.iadd, 1) := dq_96 (by decide +kernel)
theorem dL_law_807 : decode cL_law 807 = .ok (.iaload, 1) := dq_46 (by decide +kernel)
theorem dL_law_808 : decode cL_law 808 = .ok (.aload_n 0, 1) := dq_42 (by decide +kernel)
theorem dL_law_809 : decode cL_law 809 = .ok (.iload_n 3, 1) := dq_29 (by decide +kernel)
theorem dL_law_810 : decode cL_law 810 = .ok (.iconst 2, 1) := dq_5 (by decide +kernel)
theorem dL_law_811 : decode cL_law 811 = .ok (.iadd, 1) := dq_96 (by decide +kernel)
theorem dL_law_812 : decode cL_law 812 = .ok (.iaload, 1) := dq_46 (by decide +kernel)
theorem dL_law_813 : decode cL_law 813 = .ok (.invokevirtual 105, 3) := dq_182 (a := 0) (b := 105) (by decide +kernel) rfl
theorem dL_law_816 : decode cL_law 816 = .ok (.pop, 1) := dq_87 (by decide +kernel)
theorem dL_law_817 : decode cL_law 817 = .ok (.goto 702, 3) := dq_167 (a := 2) (b := 190) (by decide +kernel) (by decide +kernel)
theorem dL_law_820 : decode cL_law 820 = .ok (.aload_n 1, 1) := dq_43 (by decide +kernel)
theorem dL_law_821 : decode cL_law 821 = .ok (.aload_n 0, 1) := dq_42 (by decide +kernel)
theorem dL_law_822 : decode cL_law 822 = .ok (.iload_n 3, 1) := dq_29 (by decide +kernel)
theorem dL_law_823 : decode cL_law 823 = .ok (.iconst 1, 1) := dq_4 (by decide +kernel)
theorem dL_law_824 : decode cL_law 824 = .ok (.iadd, 1) := dq_96 (by decide +kernel)
theorem dL_law_825 : decode cL_law 825 = .ok (.iaload, 1) := dq_46 (by decide +kernel)
theorem dL_law_826 : decode cL_law 826 = .ok (.invokevirtual 106, 3) := dq_182 (a := 0) (b := 106) (by decide +kernel) rfl
theorem dL_law_829 : decode cL_law 829 = .ok (.pop2, 1) := dq_88 (by decide +kernel)
theorem dL_law_830 : decode cL_law 830 = .ok (.aload_n 2, 1) := dq_44 (by decide +kernel)
theorem dL_law_831 : decode cL_law 831 = .ok (.aload_n 0, 1) := dq_42 (by decide +kernel)
theorem dL_law_832 : decode cL_law 832 = .ok (.iload_n 3, 1) := dq_29 (by decide +kernel)
theorem dL_law_833 : decode cL_law 833 = .ok (.iconst 1, 1) := dq_4 (by decide +kernel)
theorem dL_law_834 : decode cL_law 834 = .ok (.iadd, 1) := dq_96 (by decide +kernel)
theorem dL_law_835 : decode cL_law 835 = .ok (.iaload, 1) := dq_46 (by decide +kernel)
theorem dL_law_836 : decode cL_law 836 = .ok (.invokevirtual 109, 3) := dq_182 (a := 0) (b := 109) (by decide +kernel) rfl
theorem dL_law_839 : decode cL_law 839 = .ok (.pop2, 1) := dq_88 (by decide +kernel)
theorem dL_law_840 : decode cL_law 840 = .ok (.goto 679, 3) := dq_167 (a := 2) (b := 167) (by decide +kernel) (by decide +kernel)
theorem dL_law_843 : decode cL_law 843 = .ok (.aload_n 1, 1) := dq_43 (by decide +kernel)
theorem dL_law_844 : decode cL_law 844 = .ok (.aload_n 0, 1) := dq_42 (by decide +kernel)
theorem dL_law_845 : decode cL_law 845 = .ok (.iload_n 3, 1) := dq_29 (by decide +kernel)
theorem dL_law_846 : decode cL_law 846 = .ok (.iconst 1, 1) := dq_4 (by decide +kernel)
theorem dL_law_847 : decode cL_law 847 = .ok (.iadd, 1) := dq_96 (by decide +kernel)
theorem dL_law_848 : decode cL_law 848 = .ok (.iaload, 1) := dq_46 (by decide +kernel)
theorem dL_law_849 : decode cL_law 849 = .ok (.invokevirtual 110, 3) := dq_182 (a := 0) (b := 110) (by decide +kernel) rfl
theorem dL_law_852 : decode cL_law 852 = .ok (.pop, 1) := dq_87 (by decide +kernel)
theorem dL_law_853 : decode cL_law 853 = .ok (.aload_n 2, 1) := dq_44 (by decide +kernel)
theorem dL_law_854 : decode cL_law 854 = .ok (.aload_n 0, 1) := dq_42 (by decide +kernel)
theorem dL_law_855 : decode cL_law 855 = .ok (.iload_n 3, 1) := dq_29 (by decide +kernel)
theorem dL_law_856 : decode cL_law 856 = .ok (.iconst 1, 1) := dq_4 (by decide +kernel)
theorem dL_law_857 : decode cL_law 857 = .ok (.iadd, 1) := dq_96 (by decide +kernel)
theorem dL_law_858 : decode cL_law 858 = .ok (.iaload, 1) := dq_46 (by decide +kernel)
theorem dL_law_859 : decode cL_law 859 = .ok (.invokevirtual 113, 3) := dq_182 (a := 0) (b := 113) (by decide +kernel) rfl
theorem dL_law_862 : decode cL_law 862 = .ok (.pop, 1) := dq_87 (by decide +kernel)
theorem dL_law_863 : decode cL_law 863 = .ok (.goto 656, 3) := dq_167 (a := 2) (b := 144) (by decide +kernel) (by decide +kernel)
theorem dL_law_866 : decode cL_law 866 = .ok (.aload_n 1, 1) := dq_43 (by decide +kernel)
theorem dL_law_867 : decode cL_law 867 = .ok (.invokevirtual 114, 3) := dq_182 (a := 0) (b := 114) (by decide +kernel) rfl
theorem dL_law_870 : decode cL_law 870 = .ok (.pop, 1) := dq_87 (by decide +kernel)
theorem dL_law_871 : decode cL_law 871 = .ok (.aload_n 2, 1) := dq_44 (by decide +kernel)
theorem dL_law_872 : decode cL_law 872 = .ok (.invokevirtual 117, 3) := dq_182 (a := 0) (b := 117) (by decide +kernel) rfl
theorem dL_law_875 : decode cL_law 875 = .ok (.pop, 1) := dq_87 (by decide +kernel)
theorem dL_law_876 : decode cL_law 876 = .ok (.goto 643, 3) := dq_167 (a := 2) (b := 131) (by decide +kernel) (by decide +kernel)
theorem dL_law_879 : decode cL_law 879 = .ok (.aload_n 1, 1) := dq_43 (by decide +kernel)
theorem dL_law_880 : decode cL_law 880 = .ok (.invokevirtual 118, 3) := dq_182 (a := 0) (b := 118) (by decide +kernel) rfl
theorem dL_law_883 : decode cL_law 883 = .ok (.pop, 1) := dq_87 (by decide +kernel)
theorem dL_law_884 : decode cL_law 884 = .ok (.aload_n 2, 1) := dq_44 (by decide +kernel)
theorem dL_law_885 : decode cL_law 885 = .ok (.invokevirtual 121, 3) := dq_182 (a := 0) (b := 121) (by decide +kernel) rfl
theorem dL_law_888 : decode cL_law 888 = .ok (.pop, 1) := dq_87 (by decide +kernel)
theorem dL_law_889 : decode cL_law 889 = .ok (.goto 630, 3) := dq_167 (a := 2) (b := 118) (by decide +kernel) (by decide +kernel)
theorem dL_law_892 : decode cL_law 892 = .ok (.aload_n 1, 1) := dq_43 (by decide +kernel)
theorem dL_law_893 : decode cL_law 893 = .ok (.aload_n 0, 1) := dq_42 (by decide +kernel)
theorem dL_law_894 : decode cL_law 894 = .ok (.iload_n 3, 1) := dq_29 (by decide +kernel)
theorem dL_law_895 : decode cL_law 895 = .ok (.iconst 1, 1) := dq_4 (by decide +kernel)
theorem dL_law_896 : decode cL_law 896 = .ok (.iadd, 1) := dq_96 (by decide +kernel)
theorem dL_law_897 : decode cL_law 897 = .ok (.iaload, 1) := dq_46 (by decide +kernel)
theorem dL_law_898 : decode cL_law 898 = .ok (.aload_n 0, 1) := dq_42 (by decide +kernel)
theorem dL_law_899 : decode cL_law 899 = .ok (.iload_n 3, 1) := dq_29 (by decide +kernel)
theorem dL_law_900 : decode cL_law 900 = .ok (.iconst 2, 1) := dq_5 (by decide +kernel)
theorem dL_law_901 : decode cL_law 901 = .ok (.iadd, 1) := dq_96 (by decide +kernel)
theorem dL_law_902 : decode cL_law 902 = .ok (.iaload, 1) := dq_46 (by decide +kernel)
theorem dL_law_903 : decode cL_law 903 = .ok (.invokevirtual 122, 3) := dq_182 (a := 0) (b := 122) (by decide +kernel) rfl
theorem dL_law_906 : decode cL_law 906 = .ok (.pop2, 1) := dq_88 (by decide +kernel)
theorem dL_law_907 : decode cL_law 907 = .ok (.aload_n 2, 1) := dq_44 (by decide +kernel)
theorem dL_law_908 : decode cL_law 908 = .ok (.aload_n 0, 1) := dq_42 (by decide +kernel)
theorem dL_law_909 : decode cL_law 909 = .ok (.iload_n 3, 1) := dq_29 (by decide +kernel)
theorem dL_law_910 : decode cL_law 910 = .ok (.iconst 1, 1) := dq_4 (by decide +kernel)
theorem dL_law_911 : decode cL_law 911 = .ok (.iadd, 1) := dq_96 (by decide +kernel)
theorem dL_law_912 : decode cL_law 912 = .ok (.iaload, 1) := dq_46 (by decide +kernel)
theorem dL_law_913 : decode cL_law 913 = .ok (.aload_n 0, 1) := dq_42 (by decide +kernel)
theorem dL_law_914 : decode cL_law 914 = .ok (.iload_n 3, 1) := dq_29 (by decide +kernel)
theorem dL_law_915 : decode cL_law 915 = .ok (.iconst 2, 1) := dq_5 (by decide +kernel)
theorem dL_law_916 : decode cL_law 916 = .ok (.iadd, 1) := dq_96 (by decide +kernel)
theorem dL_law_917 : decode cL_law 917 = .ok (.iaload, 1) := dq_46 (by decide +kernel)
theorem dL_law_918 : decode cL_law 918 = .ok (.invokevirtual 125, 3) := dq_182 (a := 0) (b := 125) (by decide +kernel) rfl
theorem dL_law_921 : decode cL_law 921 = .ok (.pop2, 1) := dq_88 (by decide +kernel)
theorem dL_law_922 : decode cL_law 922 = .ok (.goto 597, 3) := dq_167 (a := 2) (b := 85) (by decide +kernel) (by decide +kernel)
theorem dL_law_925 : decode cL_law 925 = .ok (.aload_n 1, 1) := dq_43 (by decide +kernel)
theorem dL_law_926 : decode cL_law 926 = .ok (.aload_n 0, 1) := dq_42 (by decide +kernel)
theorem dL_law_927 : decode cL_law 927 = .ok (.iload_n 3, 1) := dq_29 (by decide +kernel)
theorem dL_law_928 : decode cL_law 928 = .ok (.iconst 1, 1) := dq_4 (by decide +kernel)
theorem dL_law_929 : decode cL_law 929 = .ok (.iadd, 1) := dq_96 (by decide +kernel)
theorem dL_law_930 : decode cL_law 930 = .ok (.iaload, 1) := dq_46 (by decide +kernel)
theorem dL_law_931 : decode cL_law 931 = .ok (.aload_n 0, 1) := dq_42 (by decide +kernel)
theorem dL_law_932 : decode cL_law 932 = .ok (.iload_n 3, 1) := dq_29 (by decide +kernel)
theorem dL_law_933 : decode cL_law 933 = .ok (.iconst 2, 1) := dq_5 (by decide +kernel)
theorem dL_law_934 : decode cL_law 934 = .ok (.iadd, 1) := dq_96 (by decide +kernel)
theorem dL_law_935 : decode cL_law 935 = .ok (.iaload, 1) := dq_46 (by decide +kernel)
theorem dL_law_936 : decode cL_law 936 = .ok (.invokevirtual 126, 3) := dq_182 (a := 0) (b := 126) (by decide +kernel) rfl
theorem dL_law_939 : decode cL_law 939 = .ok (.pop, 1) := dq_87 (by decide +kernel)
theorem dL_law_940 : decode cL_law 940 = .ok (.aload_n 2, 1) := dq_44 (by decide +kernel)
theorem dL_law_941 : decode cL_law 941 = .ok (.aload_n 0, 1) := dq_42 (by decide +kernel)
theorem dL_law_942 : decode cL_law 942 = .ok (.iload_n 3, 1) := dq_29 (by decide +kernel)
theorem dL_law_943 : decode cL_law 943 = .ok (.iconst 1, 1) := dq_4 (by decide +kernel)
theorem dL_law_944 : decode cL_law 944 = .ok (.iadd, 1) := dq_96 (by decide +kernel)
theorem dL_law_945 : decode cL_law 945 = .ok (.iaload, 1) := dq_46 (by decide +kernel)
theorem dL_law_946 : decode cL_law 946 = .ok (.aload_n 0, 1) := dq_42 (by decide +kernel)
theorem dL_law_947 : decode cL_law 947 = .ok (.iload_n 3, 1) := dq_29 (by decide +kernel)
theorem dL_law_948 : decode cL_law 948 = .ok (.iconst 2, 1) := dq_5 (by decide +kernel)
theorem dL_law_949 : decode cL_law 949 = .ok (.iadd, 1) := dq_96 (by decide +kernel)
theorem dL_law_950 : decode cL_law 950 = .ok (.iaload, 1) := dq_46 (by decide +kernel)
theorem dL_law_951 : decode cL_law 951 = .ok (.invokevirtual 129, 3) := dq_182 (a := 0) (b := 129) (by decide +kernel) rfl
theorem dL_law_954 : decode cL_law 954 = .ok (.pop, 1) := dq_87 (by decide +kernel)
theorem dL_law_955 : decode cL_law 955 = .ok (.goto 564, 3) := dq_167 (a := 2) (b := 52) (by decide +kernel) (by decide +kernel)
theorem dL_law_958 : decode cL_law 958 = .ok (.aload_n 1, 1) := dq_43 (by decide +kernel)
theorem dL_law_959 : decode cL_law 959 = .ok (.aload_n 0, 1) := dq_42 (by decide +kernel)
theorem dL_law_960 : decode cL_law 960 = .ok (.iload_n 3, 1) := dq_29 (by decide +kernel)
theorem dL_law_961 : decode cL_law 961 = .ok (.iconst 1, 1) := dq_4 (by decide +kernel)
theorem dL_law_962 : decode cL_law 962 = .ok (.iadd, 1) := dq_96 (by decide +kernel)
theorem dL_law_963 : decode cL_law 963 = .ok (.iaload, 1) := dq_46 (by decide +kernel)
theorem dL_law_964 : decode cL_law 964 = .ok (.aload_n 0, 1) := dq_42 (by decide +kernel)
theorem dL_law_965 : decode cL_law 965 = .ok (.iload_n 3, 1) := dq_29 (by decide +kernel)
theorem dL_law_966 : decode cL_law 966 = .ok (.iconst 2, 1) := dq_5 (by decide +kernel)
theorem dL_law_967 : decode cL_law 967 = .ok (.iadd, 1) := dq_96 (by decide +kernel)
theorem dL_law_968 : decode cL_law 968 = .ok (.iaload, 1) := dq_46 (by decide +kernel)
theorem dL_law_969 : decode cL_law 969 = .ok (.aload_n 0, 1) := dq_42 (by decide +kernel)
theorem dL_law_970 : decode cL_law 970 = .ok (.iload_n 3, 1) := dq_29 (by decide +kernel)
theorem dL_law_971 : decode cL_law 971 = .ok (.iconst 3, 1) := dq_6 (by decide +kernel)
theorem dL_law_972 : decode cL_law 972 = .ok (.iadd, 1) := dq_96 (by decide +kernel)
theorem dL_law_973 : decode cL_law 973 = .ok (.iaload, 1) := dq_46 (by decide +kernel)
theorem dL_law_974 : decode cL_law 974 = .ok (.ifCond .eq 7, 3) := dq_153 (a := 0) (b := 7) (by decide +kernel) (by decide +kernel)
theorem dL_law_981 : decode cL_law 981 = .ok (.iconst 0, 1) := dq_3 (by decide +kernel)
theorem dL_law_982 : decode cL_law 982 = .ok (.invokevirtual 130, 3) := dq_182 (a := 0) (b := 130) (by decide +kernel) rfl
theorem dL_law_985 : decode cL_law 985 = .ok (.pop, 1) := dq_87 (by decide +kernel)
theorem dL_law_986 : decode cL_law 986 = .ok (.aload_n 2, 1) := dq_44 (by decide +kernel)
theorem dL_law_987 : decode cL_law 987 = .ok (.aload_n 0, 1) := dq_42 (by decide +kernel)
theorem dL_law_988 : decode cL_law 988 = .ok (.iload_n 3, 1) := dq_29 (by decide +kernel)
theorem dL_law_989 : decode cL_law 989 = .ok (.iconst 1, 1) := dq_4 (by decide +kernel)
theorem dL_law_990 : decode cL_law 990 = .ok (.iadd, 1) := dq_96 (by decide +kernel)
theorem dL_law_991 : decode cL_law 991 = .ok (.iaload, 1) := dq_46 (by decide +kernel)
theorem dL_law_992 : decode cL_law 992 = .ok (.aload_n 0, 1) := dq_42 (by decide +kernel)
theorem dL_law_993 : decode cL_law 993 = .ok (.iload_n 3, 1) := dq_29 (by decide +kernel)
theorem dL_law_994 : decode cL_law 994 = .ok (.iconst 2, 1) := dq_5 (by decide +kernel)
theorem dL_law_995 : decode cL_law 995 = .ok (.iadd, 1) := dq_96 (by decide +kernel)
theorem dL_law_996 : decode cL_law 996 = .ok (.iaload, 1) := dq_46 (by decide +kernel)
theorem dL_law_997 : decode cL_law 997 = .ok (.aload_n 0, 1) := dq_42 (by decide +kernel)
theorem dL_law_998 : decode cL_law 998 = .ok (.iload_n 3, 1) := dq_29 (by decide +kernel)
theorem dL_law_999 : decode cL_law 999 = .ok (.iconst 3, 1) := dq_6 (by decide +kernel)
theorem dL_law_1000 : decode cL_law 1000 = .ok (.iadd, 1) := dq_96 (by decide +kernel)
theorem dL_law_1001 : decode cL_law 1001 = .ok (.iaload, 1) := dq_46 (by decide +kernel)
theorem dL_law_1002 : decode cL_law 1002 = .ok (.ifCond .eq 7, 3) := dq_153 (a := 0) (b := 7) (by decide +kernel) (by decide +kernel)
theorem dL_law_1009 : decode cL_law 1009 = .ok (.iconst 0, 1) := dq_3 (by decide +kernel)
theorem dL_law_1010 : decode cL_law 1010 = .ok (.invokevirtual 133, 3) := dq_182 (a := 0) (b := 133) (by decide +kernel) rfl
theorem dL_law_1013 : decode cL_law 1013 = .ok (.pop, 1) := dq_87 (by decide +kernel)
theorem dL_law_1014 : decode cL_law 1014 = .ok (.goto 505, 3) := dq_167 (a := 1) (b := 249) (by decide +kernel) (by decide +kernel)
theorem dL_law_1005 : decode cL_law 1005 = .ok (.iconst 1, 1) := dq_4 (by decide +kernel)
theorem dL_law_1006 : decode cL_law 1006 = .ok (.goto 4, 3) := dq_167 (a := 0) (b := 4) (by decide +kernel) (by decide +kernel)
theorem dL_law_977 : decode cL_law 977 = .ok (.iconst 1, 1) := dq_4 (by decide +kernel)
theorem dL_law_978 : decode cL_law 978 = .ok (.goto 4, 3) := dq_167 (a := 0) (b := 4) (by decide +kernel) (by decide +kernel)
theorem dL_law_1017 : decode cL_law 1017 = .ok (.aload_n 1, 1) := dq_43 (by decide +kernel)
theorem dL_law_1018 : decode cL_law 1018 = .ok (.aload_n 0, 1) := dq_42 (by decide +kernel)
theorem dL_law_1019 : decode cL_law 1019 = .ok (.iload_n 3, 1) := dq_29 (by decide +kernel)
theorem dL_law_1020 : decode cL_law 1020 = .ok (.iconst 1, 1) := dq_4 (by decide +kernel)
theorem dL_law_1021 : decode cL_law 1021 = .ok (.iadd, 1) := dq_96 (by decide +kernel)
theorem dL_law_1022 : decode cL_law 1022 = .ok (.iaload, 1) := dq_46 (by decide +kernel)
theorem dL_law_1023 : decode cL_law 1023 = .ok (.ifCond .eq 7, 3) := dq_153 (a := 0) (b := 7) (by decide +kernel) (by decide +kernel)
theorem dL_law_1030 : decode cL_law 1030 = .ok (.iconst 0, 1) := dq_3 (by decide +kernel)
theorem dL_law_1031 : decode cL_law 1031 = .ok (.invokevirtual 134, 3) := dq_182 (a := 0) (b := 134) (by decide +kernel) rfl
theorem dL_law_1034 : decode cL_law 1034 = .ok (.pop, 1) := dq_87 (by decide +kernel)
theorem dL_law_1035 : decode cL_law 1035 = .ok (.aload_n 2, 1) := dq_44 (by decide +kernel)
theorem dL_law_1036 : decode cL_law 1036 = .ok (.aload_n 0, 1) := dq_42 (by decide +kernel)
theorem dL_law_1037 : decode cL_law 1037 = .ok (.iload_n 3, 1) := dq_29 (by decide +kernel)
theorem dL_law_1038 : decode cL_law 1038 = .ok (.iconst 1, 1) := dq_4 (by decide +kernel)
theorem dL_law_1039 : decode cL_law 1039 = .ok (.iadd, 1) := dq_96 (by decide +kernel)
theorem dL_law_1040 : decode cL_law 1040 = .ok (.iaload, 1) := dq_46 (by decide +kernel)
theorem dL_law_1041 : decode cL_law 1041 = .ok (.ifCond .eq 7, 3) := dq_153 (a := 0) (b := 7) (by decide +kernel) (by decide +kernel)
theorem dL_law_1048 : decode cL_law 1048 = .ok (.iconst 0, 1) := dq_3 (by decide +kernel)
theorem dL_law_1049 : decode cL_law 1049 = .ok (.invokevirtual 138, 3) := dq_182 (a := 0) (b := 138) (by decide +kernel) rfl
theorem dL_law_1052 : decode cL_law 1052 = .ok (.pop, 1) := dq_87 (by decide +kernel)
theorem dL_law_1053 : decode cL_law 1053 = .ok (.goto 466, 3) := dq_167 (a := 1) (b := 210) (by decide +kernel) (by decide +kernel)
theorem dL_law_1044 : decode cL_law 1044 = .ok (.iconst 1, 1) := dq_4 (by decide +kernel)
theorem dL_law_1045 : decode cL_law 1045 = .ok (.goto 4, 3) := dq_167 (a := 0) (b := 4) (by decide +kernel) (by decide +kernel)
theorem dL_law_1026 : decode cL_law 1026 = .ok (.iconst 1, 1) := dq_4 (by decide +kernel)
theorem dL_law_1027 : decode cL_law 1027 = .ok (.goto 4, 3) := dq_167 (a := 0) (b := 4) (by decide +kernel) (by decide +kernel)
theorem dL_law_1056 : decode cL_law 1056 = .ok (.aload_n 1, 1) := dq_43 (by decide +kernel)
theorem dL_law_1057 : decode cL_law 1057 = .ok (.aload_n 0, 1) := dq_42 (by decide +kernel)
theorem dL_law_1058 : decode cL_law 1058 = .ok (.iload_n 3, 1) := dq_29 (by decide +kernel)
theorem dL_law_1059 : decode cL_law 1059 = .ok (.iconst 1, 1) := dq_4 (by decide +kernel)
theorem dL_law_1060 : decode cL_law 1060 = .ok (.iadd, 1) := dq_96 (by decide +kernel)
theorem dL_law_1061 : decode cL_law 1061 = .ok (.iaload, 1) := dq_46 (by decide +kernel)
theorem dL_law_1062 : decode cL_law 1062 = .ok (.ifCond .eq 7, 3) := dq_153 (a := 0) (b := 7) (by decide +kernel) (by decide +kernel)
theorem dL_law_1069 : decode cL_law 1069 = .ok (.iconst 0, 1) := dq_3 (by decide +kernel)
theorem dL_law_1070 : decode cL_law 1070 = .ok (.invokevirtual 139, 3) := dq_182 (a := 0) (b := 139) (by decide +kernel) rfl
theorem dL_law_1073 : decode cL_law 1073 = .ok (.pop2, 1) := dq_88 (by decide +kernel)
theorem dL_law_1074 : decode cL_law 1074 = .ok (.aload_n 2, 1) := dq_44 (by decide +kernel)
theorem dL_law_1075 : decode cL_law 1075 = .ok (.aload_n 0, 1) := dq_42 (by decide +kernel)
theorem dL_law_1076 : decode cL_law 1076 = .ok (.iload_n 3, 1) := dq_29 (by decide +kernel)
theorem dL_law_1077 : decode cL_law 1077 = .ok (.iconst 1, 1) := dq_4 (by decide +kernel)
theorem dL_law_1078 : decode cL_law 1078 = .ok (.iadd, 1) := dq_96 (by decide +kernel)
theorem dL_law_1079 : decode cL_law 1079 = .ok (.iaload, 1) := dq_46 (by decide +kernel)
theorem dL_law_1080 : decode cL_law 1080 = .ok (.ifCond .eq 7, 3) := dq_153 (a := 0) (b := 7) (by decide +kernel) (by decide +kernel)
theorem dL_law_1087 : decode cL_law 1087 = .ok (.iconst 0, 1) := dq_3 (by decide +kernel)
theorem dL_law_1088 : decode cL_law 1088 = .ok (.invokevirtual 143, 3) := dq_182 (a := 0) (b := 143) (by decide +kernel) rfl
theorem dL_law_1091 : decode cL_law 1091 = .ok (.pop2, 1) := dq_88 (by decide +kernel)
theorem dL_law_1092 : decode cL_law 1092 = .ok (.goto 427, 3) := dq_167 (a := 1) (b := 171) (by decide +kernel) (by decide +kernel)
theorem dL_law_1083 : decode cL_law 1083 = .ok (.iconst 1, 1) := dq_4 (by decide +kernel)
theorem dL_law_1084 : decode cL_law 1084 = .ok (.goto 4, 3) := dq_167 (a := 0) (b := 4) (by decide +kernel) (by decide +kernel)
theorem dL_law_1065 : decode cL_law 1065 = .ok (.iconst 1, 1) := dq_4 (by decide +kernel)
theorem dL_law_1066 : decode cL_law 1066 = .ok (.goto 4, 3) := dq_167 (a := 0) (b := 4) (by decide +kernel) (by decide +kernel)
theorem dL_law_1095 : decode cL_law 1095 = .ok (.aload_n 1, 1) := dq_43 (by decide +kernel)
theorem dL_law_1096 : decode cL_law 1096 = .ok (.aload_n 0, 1) := dq_42 (by decide +kernel)
theorem dL_law_1097 : decode cL_law 1097 = .ok (.iload_n 3, 1) := dq_29 (by decide +kernel)
theorem dL_law_1098 : decode cL_law 1098 = .ok (.iconst 1, 1) := dq_4 (by decide +kernel)
theorem dL_law_1099 : decode cL_law 1099 = .ok (.iadd, 1) := dq_96 (by decide +kernel)
theorem dL_law_1100 : decode cL_law 1100 = .ok (.iaload, 1) := dq_46 (by decide +kernel)
theorem dL_law_1101 : decode cL_law 1101 = .ok (.aload_n 0, 1) := dq_42 (by decide +kernel)
theorem dL_law_1102 : decode cL_law 1102 = .ok (.iload_n 3, 1) := dq_29 (by decide +kernel)
theorem dL_law_1103 : decode cL_law 1103 = .ok (.iconst 2, 1) := dq_5 (by decide +kernel)
theorem dL_law_1104 : decode cL_law 1104 = .ok (.iadd, 1) := dq_96 (by decide +kernel)
theorem dL_law_1105 : decode cL_law 1105 = .ok (.iaload, 1) := dq_46 (by decide +kernel)
theorem dL_law_1106 : decode cL_law 1106 = .ok (.aload_n 0, 1) := dq_42 (by decide +kernel)
theorem dL_law_1107 : decode cL_law 1107 = .ok (.iload_n 3, 1) := dq_29 (by decide +kernel)
theorem dL_law_1108 : decode cL_law 1108 = .ok (.iconst 3, 1) := dq_6 (by decide +kernel)
theorem dL_law_1109 : decode cL_law 1109 = .ok (.iadd, 1) := dq_96 (by decide +kernel)
theorem dL_law_1110 : decode cL_law 1110 = .ok (.iaload, 1) := dq_46 (by decide +kernel)
theorem dL_law_1111 : decode cL_law 1111 = .ok (.invokevirtual 144, 3) := dq_182 (a := 0) (b := 144) (by decide +kernel) rfl
theorem dL_law_1114 : decode cL_law 1114 = .ok (.pop2, 1) := dq_88 (by decide +kernel)
theorem dL_law_1115 : decode cL_law 1115 = .ok (.aload_n 2, 1) := dq_44 (by decide +kernel)
theorem dL_law_1116 : decode cL_law 1116 = .ok (.aload_n 0, 1) := dq_42 (by decide +kernel)
theorem dL_law_1117 : decode cL_law 1117 = .ok (.iload_n 3, 1) := dq_29 (by decide +kernel)
theorem dL_law_1118 : decode cL_law 1118 = .ok (.iconst 1, 1) := dq_4 (by decide +kernel)
theorem dL_law_1119 : decode cL_law 1119 = .ok (.iadd, 1) := dq_96 (by decide +kernel)
theorem dL_law_1120 : decode cL_law 1120 = .ok (.iaload, 1) := dq_46 (by decide +kernel)
theorem dL_law_1121 : decode cL_law 1121 = .ok (.aload_n 0, 1) := dq_42 (by decide +kernel)
theorem dL_law_1122 : decode cL_law 1122 = .ok (.iload_n 3, 1) := dq_29 (by decide +kernel)
theorem dL_law_1123 : decode cL_law 1123 = .ok (.iconst 2, 1) := dq_5 (by decide +kernel)
theorem dL_law_1124 : decode cL_law 1124 = .ok (.iadd, 1) := dq_96 (by decide +kernel)
theorem dL_law_1125 : decode cL_law 1125 = .ok (.iaload, 1) := dq_46 (by decide +kernel)
theorem dL_law_1126 : decode cL_law 1126 = .ok (.aload_n 0, 1) := dq_42 (by decide +kernel)
theorem dL_law_1127 : decode cL_law 1127 = .ok (.iload_n 3, 1) := dq_29 (by decide +kernel)
theorem dL_law_1128 : decode cL_law 1128 = .ok (.iconst 3, 1) := dq_6 (by decide +kernel)
theorem dL_law_1129 : decode cL_law 1129 = .ok (.iadd, 1) := dq_96 (by decide +kernel)
theorem dL_law_1130 : decode cL_law 1130 = .ok (.iaload, 1) := dq_46 (by decide +kernel)
theorem dL_law_1131 : decode cL_law 1131 = .ok (.invokevirtual 148, 3) := dq_182 (a := 0) (b := 148) (by decide +kernel) rfl
theorem dL_law_1134 : decode cL_law 1134 = .ok (.pop2, 1) := dq_88 (by decide +kernel)
theorem dL_law_1135 : decode cL_law 1135 = .ok (.goto 384, 3) := dq_167 (a := 1) (b := 128) (by decide +kernel) (by decide +kernel)
theorem dL_law_1138 : decode cL_law 1138 = .ok (.aload_n 1, 1) := dq_43 (by decide +kernel)
theorem dL_law_1139 : decode cL_law 1139 = .ok (.aload_n 0, 1) := dq_42 (by decide +kernel)
theorem dL_law_1140 : decode cL_law 1140 = .ok (.iload_n 3, 1) := dq_29 (by decide +kernel)
theorem dL_law_1141 : decode cL_law 1141 = .ok (.iconst 1, 1) := dq_4 (by decide +kernel)
theorem dL_law_1142 : decode cL_law 1142 = .ok (.iadd, 1) := dq_96 (by decide +kernel)
theorem dL_law_1143 : decode cL_law 1143 = .ok (.iaload, 1) := dq_46 (by decide +kernel)
theorem dL_law_1144 : decode cL_law 1144 = .ok (.invokevirtual 149, 3) := dq_182 (a := 0) (b := 149) (by decide +kernel) rfl
theorem dL_law_1147 : decode cL_law 1147 = .ok (.pop2, 1) := dq_88 (by decide +kernel)
theorem dL_law_1148 : decode cL_law 1148 = .ok (.aload_n 2, 1) := dq_44 (by decide +kernel)
theorem dL_law_1149 : decode cL_law 1149 = .ok (.aload_n 0, 1) := dq_42 (by decide +kernel)
theorem dL_law_1150 : decode cL_law 1150 = .ok (.iload_n 3, 1) := dq_29 (by decide +kernel)
theorem dL_law_1151 : decode cL_law 1151 = .ok (.iconst 1, 1) := dq_4 (by decide +kernel)
theorem dL_law_1152 : decode cL_law 1152 = .ok (.iadd, 1) := dq_96 (by decide +kernel)
theorem dL_law_1153 : decode cL_law 1153 = .ok (.iaload, 1) := dq_46 (by decide +kernel)
theorem dL_law_1154 : decode cL_law 1154 = .ok (.invokevirtual 152, 3) := dq_182 (a := 0) (b := 152) (by decide +kernel) rfl
theorem dL_law_1157 : decode cL_law 1157 = .ok (.pop2, 1) := dq_88 (by decide +kernel)
theorem dL_law_1158 : decode cL_law 1158 = .ok (.goto 361, 3) := dq_167 (a := 1) (b := 105) (by decide +kernel) (by decide +kernel)
theorem dL_law_1161 : decode cL_law 1161 = .ok (.aload_n 1, 1) := dq_43 (by decide +kernel)
theorem dL_law_1162 : decode cL_law 1162 = .ok (.aload_n 0, 1) := dq_42 (by decide +kernel)
theorem dL_law_1163 : decode cL_law 1163 = .ok (.iload_n 3, 1) := dq_29 (by decide +kernel)
theorem dL_law_1164 : decode cL_law 1164 = .ok (.iconst 1, 1) := dq_4 (by decide +kernel)
theorem dL_law_1165 : decode cL_law 1165 = .ok (.iadd, 1) := dq_96 (by decide +kernel)
theorem dL_law_1166 : decode cL_law 1166 = .ok (.iaload, 1) := dq_46 (by decide +kernel)
theorem dL_law_1167 : decode cL_law 1167 = .ok (.aload_n 0, 1) := dq_42 (by decide +kernel)
theorem dL_law_1168 : decode cL_law 1168 = .ok (.iload_n 3, 1) := dq_29 (by decide +kernel)
theorem dL_law_1169 : decode cL_law 1169 = .ok (.iconst 2, 1) := dq_5 (by decide +kernel)
theorem dL_law_1170 : decode cL_law 1170 = .ok (.iadd, 1) := dq_96 (by decide +kernel)
theorem dL_law_1171 : decode cL_law 1171 = .ok (.iaload, 1) := dq_46 (by decide +kernel)
theorem dL_law_1172 : decode cL_law 1172 = .ok (.invokevirtual 153, 3) := dq_182 (a := 0) (b := 153) (by decide +kernel) rfl
theorem dL_law_1175 : decode cL_law 1175 = .ok (.pop, 1) := dq_87 (by decide +kernel)
theorem dL_law_1176 : decode cL_law 1176 = .ok (.aload_n 2, 1) := dq_44 (by decide +kernel)
theorem dL_law_1177 : decode cL_law 1177 = .ok (.aload_n 0, 1) := dq_42 (by decide +kernel)
theorem dL_law_1178 : decode cL_law 1178 = .ok (.iload_n 3, 1) := dq_29 (by decide +kernel)
theorem dL_law_1179 : decode cL_law 1179 = .ok (.iconst 1, 1) := dq_4 (by decide +kernel)
theorem dL_law_1180 : decode cL_law 1180 = .ok (.iadd, 1) := dq_96 (by decide +kernel)
theorem dL_law_1181 : decode cL_law 1181 = .ok (.iaload, 1) := dq_46 (by decide +kernel)
theorem dL_law_1182 : decode cL_law 1182 = .ok (.aload_n 0, 1) := dq_42 (by decide +kernel)
theorem dL_law_1183 : decode cL_law 1183 = .ok (.iload_n 3, 1) := dq_29 (by decide +kernel)
theorem dL_law_1184 : decode cL_law 1184 = .ok (.iconst 2, 1) := dq_5 (by decide +kernel)
theorem dL_law_1185 : decode cL_law 1185 = .ok (.iadd, 1) := dq_96 (by decide +kernel)
theorem dL_law_1186 : decode cL_law 1186 = .ok (.iaload, 1) := dq_46 (by decide +kernel)
theorem dL_law_1187 : decode cL_law 1187 = .ok (.invokevirtual 156, 3) := dq_182 (a := 0) (b := 156) (by decide +kernel) rfl
theorem dL_law_1190 : decode cL_law 1190 = .ok (.pop, 1) := dq_87 (by decide +kernel)
theorem dL_law_1191 : decode cL_law 1191 = .ok (.goto 328, 3) := dq_167 (a := 1) (b := 72) (by decide +kernel) (by decide +kernel)
theorem dL_law_1194 : decode cL_law 1194 = .ok (.aload_n 1, 1) := dq_43 (by decide +kernel)
theorem dL_law_1195 : decode cL_law 1195 = .ok (.aload_n 0, 1) := dq_42 (by decide +kernel)
theorem dL_law_1196 : decode cL_law 1196 = .ok (.iload_n 3, 1) := dq_29 (by decide +kernel)
theorem dL_law_1197 : decode cL_law 1197 = .ok (.iconst 1, 1) := dq_4 (by decide +kernel)
theorem dL_law_1198 : decode cL_law 1198 = .ok (.iadd, 1) := dq_96 (by decide +kernel)
theorem dL_law_1199 : decode cL_law 1199 = .ok (.iaload, 1) := dq_46 (by decide +kernel)
theorem dL_law_1200 : decode cL_law 1200 = .ok (.invokevirtual 157, 3) := dq_182 (a := 0) (b := 157) (by decide +kernel) rfl
theorem dL_law_1203 : decode cL_law 1203 = .ok (.pop2, 1) := dq_88 (by decide +kernel)
theorem dL_law_1204 : decode cL_law 1204 = .ok (.aload_n 2, 1) := dq_44 (by decide +kernel)
theorem dL_law_1205 : decode cL_law 1205 = .ok (.aload_n 0, 1) := dq_42 (by decide +kernel)
theorem dL_law_1206 : decode cL_law 1206 = .ok (.iload_n 3, 1) := dq_29 (by decide +kernel)
theorem dL_law_1207 : decode cL_law 1207 = .ok (.iconst 1, 1) := dq_4 (by decide +kernel)
theorem dL_law_1208 : decode cL_law 1208 = .ok (.iadd, 1) := dq_96 (by decide +kernel)
theorem dL_law_1209 : decode cL_law 1209 = .ok (.iaload, 1) := dq_46 (by decide +kernel)
theorem dL_law_1210 : decode cL_law 1210 = .ok (.invokevirtual 160, 3) := dq_182 (a := 0) (b := 160) (by decide +kernel) rfl
theorem dL_law_1213 : decode cL_law 1213 = .ok (.pop2, 1) := dq_88 (by decide +kernel)
theorem dL_law_1214 : decode cL_law 1214 = .ok (.goto 305, 3) := dq_167 (a := 1) (b := 49) (by decide +kernel) (by decide +kernel)
theorem dL_law_1217 : decode cL_law 1217 = .ok (.aload_n 1, 1) := dq_43 (by decide +kernel)
theorem dL_law_1218 : decode cL_law 1218 = .ok (.invokevirtual 161, 3) := dq_182 (a := 0) (b := 161) (by decide +kernel) rfl
theorem dL_law_1221 : decode cL_law 1221 = .ok (.pop, 1) := dq_87 (by decide +kernel)
theorem dL_law_1222 : decode cL_law 1222 = .ok (.aload_n 2, 1) := dq_44 (by decide +kernel)
theorem dL_law_1223 : decode cL_law 1223 = .ok (.invokevirtual 164, 3) := dq_182 (a := 0) (b := 164) (by decide +kernel) rfl
theorem dL_law_1226 : decode cL_law 1226 = .ok (.pop, 1) := dq_87 (by decide +kernel)
theorem dL_law_1227 : decode cL_law 1227 = .ok (.goto 292, 3) := dq_167 (a := 1) (b := 36) (by decide +kernel) (by decide +kernel)
theorem dL_law_1230 : decode cL_law 1230 = .ok (.aload_n 1, 1) := dq_43 (by decide +kernel)
theorem dL_law_1231 : decode cL_law 1231 = .ok (.aload_n 0, 1) := dq_42 (by decide +kernel)
theorem dL_law_1232 : decode cL_law 1232 = .ok (.iload_n 3, 1) := dq_29 (by decide +kernel)
theorem dL_law_1233 : decode cL_law 1233 = .ok (.iconst 1, 1) := dq_4 (by decide +kernel)
theorem dL_law_1234 : decode cL_law 1234 = .ok (.iadd, 1) := dq_96 (by decide +kernel)
theorem dL_law_1235 : decode cL_law 1235 = .ok (.iaload, 1) := dq_46 (by decide +kernel)
theorem dL_law_1236 : decode cL_law 1236 = .ok (.invokevirtual 165, 3) := dq_182 (a := 0) (b := 165) (by decide +kernel) rfl
theorem dL_law_1239 : decode cL_law 1239 = .ok (.pop2, 1) := dq_88 (by decide +kernel)
theorem dL_law_1240 : decode cL_law 1240 = .ok (.aload_n 2, 1) := dq_44 (by decide +kernel)
theorem dL_law_1241 : decode cL_law 1241 = .ok (.aload_n 0, 1) := dq_42 (by decide +kernel)
theorem dL_law_1242 : decode cL_law 1242 = .ok (.iload_n 3, 1) := dq_29 (by decide +kernel)
theorem dL_law_1243 : decode cL_law 1243 = .ok (.iconst 1, 1) := dq_4 (by decide +kernel)
theorem dL_law_1244 : decode cL_law 1244 = .ok (.iadd, 1) := dq_96 (by decide +kernel)
theorem dL_law_1245 : decode cL_law 1245 = .ok (.iaload, 1) := dq_46 (by decide +kernel)
theorem dL_law_1246 : decode cL_law 1246 = .ok (.invokevirtual 168, 3) := dq_182 (a := 0) (b := 168) (by decide +kernel) rfl
theorem dL_law_1249 : decode cL_law 1249 = .ok (.pop2, 1) := dq_88 (by decide +kernel)
theorem dL_law_1250 : decode cL_law 1250 = .ok (.goto 269, 3) := dq_167 (a := 1) (b := 13) (by decide +kernel) (by decide +kernel)
theorem dL_law_1253 : decode cL_law 1253 = .ok (.aload_n 1, 1) := dq_43 (by decide +kernel)
theorem dL_law_1254 : decode cL_law 1254 = .ok (.aload_n 0, 1) := dq_42 (by decide +kernel)
theorem dL_law_1255 : decode cL_law 1255 = .ok (.iload_n 3, 1) := dq_29 (by decide +kernel)
theorem dL_law_1256 : decode cL_law 1256 = .ok (.iconst 1, 1) := dq_4 (by decide +kernel)
theorem dL_law_1257 : decode cL_law 1257 = .ok (.iadd, 1) := dq_96 (by decide +kernel)
theorem dL_law_1258 : decode cL_law 1258 = .ok (.iaload, 1) := dq_46 (by decide +kernel)
theorem dL_law_1259 : decode cL_law 1259 = .ok (.invokevirtual 169, 3) := dq_182 (a := 0) (b := 169) (by decide +kernel) rfl
theorem dL_law_1262 : decode cL_law 1262 = .ok (.pop, 1) := dq_87 (by decide +kernel)
theorem dL_law_1263 : decode cL_law 1263 = .ok (.aload_n 2, 1) := dq_44 (by decide +kernel)
theorem dL_law_1264 : decode cL_law 1264 = .ok (.aload_n 0, 1) := dq_42 (by decide +kernel)
theorem dL_law_1265 : decode cL_law 1265 = .ok (.iload_n 3, 1) := dq_29 (by decide +kernel)
theorem dL_law_1266 : decode cL_law 1266 = .ok (.iconst 1, 1) := dq_4 (by decide +kernel)
theorem dL_law_1267 : decode cL_law 1267 = .ok (.iadd, 1) := dq_96 (by decide +kernel)
theorem dL_law_1268 : decode cL_law 1268 = .ok (.iaload, 1) := dq_46 (by decide +kernel)
theorem dL_law_1269 : decode cL_law 1269 = .ok (.invokevirtual 172, 3) := dq_182 (a := 0) (b := 172) (by decide +kernel) rfl
theorem dL_law_1272 : decode cL_law 1272 = .ok (.pop, 1) := dq_87 (by decide +kernel)
theorem dL_law_1273 : decode cL_law 1273 = .ok (.goto 246, 3) := dq_167 (a := 0) (b := 246) (by decide +kernel) (by decide +kernel)
theorem dL_law_1276 : decode cL_law 1276 = .ok (.aload_n 1, 1) := dq_43 (by decide +kernel)
theorem dL_law_1277 : decode cL_law 1277 = .ok (.aload_n 0, 1) := dq_42 (by decide +kernel)
theorem dL_law_1278 : decode cL_law 1278 = .ok (.iload_n 3, 1) := dq_29 (by decide +kernel)
theorem dL_law_1279 : decode cL_law 1279 = .ok (.iconst 1, 1) := dq_4 (by decide +kernel)
theorem dL_law_1280 : decode cL_law 1280 = .ok (.iadd, 1) := dq_96 (by decide +kernel)
theorem dL_law_1281 : decode cL_law 1281 = .ok (.iaload, 1) := dq_46 (by decide +kernel)
theorem dL_law_1282 : decode cL_law 1282 = .ok (.aload_n 0, 1) := dq_42 (by decide +kernel)
theorem dL_law_1283 : decode cL_law 1283 = .ok (.iload_n 3, 1) := dq_29 (by decide +kernel)
theorem dL_law_1284 : decode cL_law 1284 = .ok (.iconst 2, 1) := dq_5 (by decide +kernel)
theorem dL_law_1285 : decode cL_law 1285 = .ok (.iadd, 1) := dq_96 (by decide +kernel)
theorem dL_law_1286 : decode cL_law 1286 = .ok (.iaload, 1) := dq_46 (by decide +kernel)
theorem dL_law_1287 : decode cL_law 1287 = .ok (.invokevirtual 173, 3) := dq_182 (a := 0) (b := 173) (by decide +kernel) rfl
theorem dL_law_1290 : decode cL_law 1290 = .ok (.pop, 1) := dq_87 (by decide +kernel)
theorem dL_law_1291 : decode cL_law 1291 = .ok (.aload_n 2, 1) := dq_44 (by decide +kernel)
theorem dL_law_1292 : decode cL_law 1292 = .ok (.aload_n 0, 1) := dq_42 (by decide +kernel)
theorem dL_law_1293 : decode cL_law 1293 = .ok (.iload_n 3, 1) := dq_29 (by decide +kernel)
theorem dL_law_1294 : decode cL_law 1294 = .ok (.iconst 1, 1) := dq_4 (by decide +kernel)
theorem dL_law_1295 : decode cL_law 1295 = .ok (.iadd, 1) := dq_96 (by decide +kernel)
theorem dL_law_1296 : decode cL_law 1296 = .ok (.iaload, 1) := dq_46 (by decide +kernel)
theorem dL_law_1297 : decode cL_law 1297 = .ok (.aload_n 0, 1) := dq_42 (by decide +kernel)
theorem dL_law_1298 : decode cL_law 1298 = .ok (.iload_n 3, 1) := dq_29 (by decide +kernel)
theorem dL_law_1299 : decode cL_law 1299 = .ok (.iconst 2, 1) := dq_5 (by decide +kernel)
theorem dL_law_1300 : decode cL_law 1300 = .ok (.iadd, 1) := dq_96 (by decide +kernel)
theorem dL_law_1301 : decode cL_law 1301 = .ok (.iaload, 1) := dq_46 (by decide +kernel)
theorem dL_law_1302 : decode cL_law 1302 = .ok (.invokevirtual 176, 3) := dq_182 (a := 0) (b := 176) (by decide +kernel) rfl
theorem dL_law_1305 : decode cL_law 1305 = .ok (.pop, 1) := dq_87 (by decide +kernel)
theorem dL_law_1306 : decode cL_law 1306 = .ok (.goto 213, 3) := dq_167 (a := 0) (b := 213) (by decide +kernel) (by decide +kernel)
theorem dL_law_1309 : decode cL_law 1309 = .ok (.aload_n 1, 1) := dq_43 (by decide +kernel)
theorem dL_law_1310 : decode cL_law 1310 = .ok (.aload_n 0, 1) := dq_42 (by decide +kernel)
theorem dL_law_1311 : decode cL_law 1311 = .ok (.iload_n 3, 1) := dq_29 (by decide +kernel)
theorem dL_law_1312 : decode cL_law 1312 = .ok (.iconst 1, 1) := dq_4 (by decide +kernel)
theorem dL_law_1313 : decode cL_law 1313 = .ok (.iadd, 1) := dq_96 (by decide +kernel)
theorem dL_law_1314 : decode cL_law 1314 = .ok (.iaload, 1) := dq_46 (by decide +kernel)
theorem dL_law_1315 : decode cL_law 1315 = .ok (.ifCond .eq 7, 3) := dq_153 (a := 0) (b := 7) (by decide +kernel) (by decide +kernel)
theorem dL_law_1322 : decode cL_law 1322 = .ok (.iconst 0, 1) := dq_3 (by decide +kernel)
theorem dL_law_1323 : decode cL_law 1323 = .ok (.invokevirtual 177, 3) := dq_182 (a := 0) (b := 177) (by decide +kernel) rfl
theorem dL_law_1326 : decode cL_law 1326 = .ok (.pop2, 1) := dq_88 (by decide +kernel)
theorem dL_law_1327 : decode cL_law 1327 = .ok (.aload_n 2, 1) := dq_44 (by decide +kernel)
theorem dL_law_1328 : decode cL_law 1328 = .ok (.aload_n 0, 1) := dq_42 (by decide +kernel)
theorem dL_law_1329 : decode cL_law 1329 = .ok (.iload_n 3, 1) := dq_29 (by decide +kernel)
theorem dL_law_1330 : decode cL_law 1330 = .ok (.iconst 1, 1) := dq_4 (by decide +kernel)
theorem dL_law_1331 : decode cL_law 1331 = .ok (.iadd, 1) := dq_96 (by decide +kernel)
theorem dL_law_1332 : decode cL_law 1332 = .ok (.iaload, 1) := dq_46 (by decide +kernel)
theorem dL_law_1333 : decode cL_law 1333 = .ok (.ifCond .eq 7, 3) := dq_153 (a := 0) (b := 7) (by decide +kernel) (by decide +kernel)
theorem dL_law_1340 : decode cL_law 1340 = .ok (.iconst 0, 1) := dq_3 (by decide +kernel)
theorem dL_law_1341 : decode cL_law 1341 = .ok (.invokevirtual 180, 3) := dq_182 (a := 0) (b := 180) (by decide +kernel) rfl
theorem dL_law_1344 : decode cL_law 1344 = .ok (.pop2, 1) := dq_88 (by decide +kernel)
theorem dL_law_1345 : decode cL_law 1345 = .ok (.goto 174, 3) := dq_167 (a := 0) (b := 174) (by decide +kernel) (by decide +kernel)
theorem dL_law_1336 : decode cL_law 1336 = .ok (.iconst 1, 1) := dq_4 (by decide +kernel)
theorem dL_law_1337 : decode cL_law 1337 = .ok (.goto 4, 3) := dq_167 (a := 0) (b := 4) (by decide +kernel) (by decide +kernel)
theorem dL_law_1318 : decode cL_law 1318 = .ok (.iconst 1, 1) := dq_4 (by decide +kernel)
theorem dL_law_1319 : decode cL_law 1319 = .ok (.goto 4, 3) := dq_167 (a := 0) (b := 4) (by decide +kernel) (by decide +kernel)
theorem dL_law_1348 : decode cL_law 1348 = .ok (.aload_n 1, 1) := dq_43 (by decide +kernel)
theorem dL_law_1349 : decode cL_law 1349 = .ok (.invokevirtual 181, 3) := dq_182 (a := 0) (b := 181) (by decide +kernel) rfl
theorem dL_law_1352 : decode cL_law 1352 = .ok (.pop2, 1) := dq_88 (by decide +kernel)
theorem dL_law_1353 : decode cL_law 1353 = .ok (.aload_n 2, 1) := dq_44 (by decide +kernel)
theorem dL_law_1354 : decode cL_law 1354 = .ok (.invokevirtual 184, 3) := dq_182 (a := 0) (b := 184) (by decide +kernel) rfl
theorem dL_law_1357 : decode cL_law 1357 = .ok (.pop2, 1) := dq_88 (by decide +kernel)
theorem dL_law_1358 : decode cL_law 1358 = .ok (.goto 161, 3) := dq_167 (a := 0) (b := 161) (by decide +kernel) (by decide +kernel)
theorem dL_law_1361 : decode cL_law 1361 = .ok (.aload_n 1, 1) := dq_43 (by decide +kernel)
theorem dL_law_1362 : decode cL_law 1362 = .ok (.aload_n 0, 1) := dq_42 (by decide +kernel)
theorem dL_law_1363 : decode cL_law 1363 = .ok (.iload_n 3, 1) := dq_29 (by decide +kernel)
theorem dL_law_1364 : decode cL_law 1364 = .ok (.iconst 1, 1) := dq_4 (by decide +kernel)
theorem dL_law_1365 : decode cL_law 1365 = .ok (.iadd, 1) := dq_96 (by decide +kernel)
theorem dL_law_1366 : decode cL_law 1366 = .ok (.iaload, 1) := dq_46 (by decide +kernel)
theorem dL_law_1367 : decode cL_law 1367 = .ok (.invokevirtual 185, 3) := dq_182 (a := 0) (b := 185) (by decide +kernel) rfl
theorem dL_law_1370 : decode cL_law 1370 = .ok (.pop, 1) := dq_87 (by decide +kernel)
theorem dL_law_1371 : decode cL_law 1371 = .ok (.aload_n 2, 1) := dq_44 (by decide +kernel)
theorem dL_law_1372 : decode cL_law 1372 = .ok (.aload_n 0, 1) := dq_42 (by decide +kernel)
theorem dL_law_1373 : decode cL_law 1373 = .ok (.iload_n 3, 1) := dq_29 (by decide +kernel)
theorem dL_law_1374 : decode cL_law 1374 = .ok (.iconst 1, 1) := dq_4 (by decide +kernel)
theorem dL_law_1375 : decode cL_law 1375 = .ok (.iadd, 1) := dq_96 (by decide +kernel)
theorem dL_law_1376 : decode cL_law 1376 = .ok (.iaload, 1) := dq_46 (by decide +kernel)
theorem dL_law_1377 : decode cL_law 1377 = .ok (.invokevirtual 188, 3) := dq_182 (a := 0) (b := 188) (by decide +kernel) rfl
theorem dL_law_1380 : decode cL_law 1380 = .ok (.pop, 1) := dq_87 (by decide +kernel)
theorem dL_law_1381 : decode cL_law 1381 = .ok (.goto 138, 3) := dq_167 (a := 0) (b := 138) (by decide +kernel) (by decide +kernel)
theorem dL_law_1384 : decode cL_law 1384 = .ok (.aload_n 1, 1) := dq_43 (by decide +kernel)
theorem dL_law_1385 : decode cL_law 1385 = .ok (.aload_n 0, 1) := dq_42 (by decide +kernel)
theorem dL_law_1386 : decode cL_law 1386 = .ok (.iload_n 3, 1) := dq_29 (by decide +kernel)
theorem dL_law_1387 : decode cL_law 1387 = .ok (.iconst 1, 1) := dq_4 (by decide +kernel)
theorem dL_law_1388 : decode cL_law 1388 = .ok (.iadd, 1) := dq_96 (by decide +kernel)
theorem dL_law_1389 : decode cL_law 1389 = .ok (.iaload, 1) := dq_46 (by decide +kernel)
theorem dL_law_1390 : decode cL_law 1390 = .ok (.invokevirtual 189, 3) := dq_182 (a := 0) (b := 189) (by decide +kernel) rfl
theorem dL_law_1393 : decode cL_law 1393 = .ok (.pop, 1) := dq_87 (by decide +kernel)
theorem dL_law_1394 : decode cL_law 1394 = .ok (.aload_n 2, 1) := dq_44 (by decide +kernel)
theorem dL_law_1395 : decode cL_law 1395 = .ok (.aload_n 0, 1) := dq_42 (by decide +kernel)
theorem dL_law_1396 : decode cL_law 1396 = .ok (.iload_n 3, 1) := dq_29 (by decide +kernel)
theorem dL_law_1397 : decode cL_law 1397 = .ok (.iconst 1, 1) := dq_4 (by decide +kernel)
theorem dL_law_1398 : decode cL_law 1398 = .ok (.iadd, 1) := dq_96 (by decide +kernel)
theorem dL_law_1399 : decode cL_law 1399 = .ok (.iaload, 1) := dq_46 (by decide +kernel)
theorem dL_law_1400 : decode cL_law 1400 = .ok (.invokevirtual 192, 3) := dq_182 (a := 0) (b := 192) (by decide +kernel) rfl
theorem dL_law_1403 : decode cL_law 1403 = .ok (.pop, 1) := dq_87 (by decide +kernel)
theorem dL_law_1404 : decode cL_law 1404 = .ok (.goto 115, 3) := dq_167 (a := 0) (b := 115) (by decide +kernel) (by decide +kernel)
theorem dL_law_1407 : decode cL_law 1407 = .ok (.aload_n 1, 1) := dq_43 (by decide +kernel)
theorem dL_law_1408 : decode cL_law 1408 = .ok (.aload_n 0, 1) := dq_42 (by decide +kernel)
theorem dL_law_1409 : decode cL_law 1409 = .ok (.iload_n 3, 1) := dq_29 (by decide +kernel)
theorem dL_law_1410 : decode cL_law 1410 = .ok (.iconst 1, 1) := dq_4 (by decide +kernel)
theorem dL_law_1411 : decode cL_law 1411 = .ok (.iadd, 1) := dq_96 (by decide +kernel)
theorem dL_law_1412 : decode cL_law 1412 = .ok (.iaload, 1) := dq_46 (by decide +kernel)
theorem dL_law_1413 : decode cL_law 1413 = .ok (.aload_n 0, 1) := dq_42 (by decide +kernel)
theorem dL_law_1414 : decode cL_law 1414 = .ok (.iload_n 3, 1) := dq_29 (by decide +kernel)
theorem dL_law_1415 : decode cL_law 1415 = .ok (.iconst 2, 1) := dq_5 (by decide +kernel)
theorem dL_law_1416 : decode cL_law 1416 = .ok (.iadd, 1) := dq_96 (by decide +kernel)
theorem dL_law_1417 : decode cL_law 1417 = .ok (.iaload, 1) := dq_46 (by decide +kernel)
theorem dL_law_1418 : decode cL_law 1418 = .ok (.i2l, 1) := dq_133 (by decide +kernel)
theorem dL_law_1419 : decode cL_law 1419 = .ok (.bipush 32, 2) := dq_16 (a := 32) (by decide +kernel) (by decide +kernel)
theorem dL_law_1421 : decode cL_law 1421 = .ok (.lshl, 1) := dq_121 (by decide +kernel)
theorem dL_law_1422 : decode cL_law 1422 = .ok (.aload_n 0, 1) := dq_42 (by decide +kernel)
theorem dL_law_1423 : decode cL_law 1423 = .ok (.iload_n 3, 1) := dq_29 (by decide +kernel)
theorem dL_law_1424 : decode cL_law 1424 = .ok (.iconst 3, 1) := dq_6 (by decide +kernel)
theorem dL_law_1425 : decode cL_law 1425 = .ok (.iadd, 1) := dq_96 (by decide +kernel)
theorem dL_law_1426 : decode cL_law 1426 = .ok (.iaload, 1) := dq_46 (by decide +kernel)
theorem dL_law_1427 : decode cL_law 1427 = .ok (.i2l, 1) := dq_133 (by decide +kernel)
theorem dL_law_1428 : decode cL_law 1428 = .ok (.ldc2_w 78, 3) := dq_20 (a := 0) (b := 78) (by decide +kernel) rfl
theorem lw_d_cL_law_33 : lw_dl cL_law [(33, .tableswitch 1486 0 44 #[195, 258, 281, 294, 317, 340, 399, 458, 471, 494, 507, 520, 553, 586, 609, 662, 685, 708, 721, 754, 787, 810, 833, 846, 859, 892, 925, 984, 1023, 1062, 1105, 1128, 1161, 1184, 1197, 1220, 1243, 1276, 1315, 1328, 1351, 1374, 1437, 1450, 1473], 195)] = true := by decide +kernel
theorem dL_law_33 : decode cL_law 33 = .ok (.tableswitch 1486 0 44 #[195, 258, 281, 294, 317, 340, 399, 458, 471, 494, 507, 520, 553, 586, 609, 662, 685, 708, 721, 754, 787, 810, 833, 846, 859, 892, 925, 984, 1023, 1062, 1105, 1128, 1161, 1184, 1197, 1220, 1243, 1276, 1315, 1328, 1351, 1374, 1437, 1450, 1473], 195) := lw_dr lw_d_cL_law_33 0 rfl
theorem lw_d_cX9_init_8 : lw_dl cX9_init [(8, .newarray .byte, 2)] = true := by decide +kernel
theorem dX9_init_8 : decode cX9_init 8 = .ok (.newarray .byte, 2) := lw_dr lw_d_cX9_init_8 0 rfl
theorem lw_d_cX8_init_7 : lw_dl cX8_init [(7, .newarray .int, 2)] = true := by decide +kernel
theorem dX8_init_7 : decode cX8_init 7 = .ok (.newarray .int, 2) := lw_dr lw_d_cX8_init_7 0 rfl
theorem lw_d_cX5_init_8 : lw_dl cX5_init [(8, .newarray .int, 2), (16, .newarray .int, 2), (24, .newarray .int, 2), (32, .newarray .int, 2), (40, .newarray .int, 2)] = true := by decide +kernel
theorem dX5_init_8 : decode cX5_init 8 = .ok (.newarray .int, 2) := lw_dr lw_d_cX5_init_8 0 rfl
theorem dX5_init_16 : decode cX5_init 16 = .ok (.newarray .int, 2) := lw_dr lw_d_cX5_init_8 1 rfl
theorem dX5_init_24 : decode cX5_init 24 = .ok (.newarray .int, 2) := lw_dr lw_d_cX5_init_8 2 rfl
theorem dX5_init_32 : decode cX5_init 32 = .ok (.newarray .int, 2) := lw_dr lw_d_cX5_init_8 3 rfl
theorem dX5_init_40 : decode cX5_init 40 = .ok (.newarray .int, 2) := lw_dr lw_d_cX5_init_8 4 rfl
theorem lw_d_cX1_init_29 : lw_dl cX1_init [(29, .newarray .int, 2)] = true := by decide +kernel
theorem dX1_init_29 : decode cX1_init 29 = .ok (.newarray .int, 2) := lw_dr lw_d_cX1_init_29 0 rfl
theorem lw_d_cX10_init_7 : lw_dl cX10_init [(7, .newarray .long, 2), (14, .newarray .long, 2), (22, .newarray .long, 2), (29, .newarray .int, 2), (36, .newarray .int, 2), (43, .newarray .int, 2), (50, .newarray .int, 2)] = true := by decide +kernel
theorem dX10_init_7 : decode cX10_init 7 = .ok (.newarray .long, 2) := lw_dr lw_d_cX10_init_7 0 rfl
theorem dX10_init_14 : decode cX10_init 14 = .ok (.newarray .long, 2) := lw_dr lw_d_cX10_init_7 1 rfl
theorem dX10_init_22 : decode cX10_init 22 = .ok (.newarray .long, 2) := lw_dr lw_d_cX10_init_7 2 rfl
theorem dX10_init_29 : decode cX10_init 29 = .ok (.newarray .int, 2) := lw_dr lw_d_cX10_init_7 3 rfl
theorem dX10_init_36 : decode cX10_init 36 = .ok (.newarray .int, 2) := lw_dr lw_d_cX10_init_7 4 rfl
theorem dX10_init_43 : decode cX10_init 43 = .ok (.newarray .int, 2) := lw_dr lw_d_cX10_init_7 5 rfl
theorem dX10_init_50 : decode cX10_init 50 = .ok (.newarray .int, 2) := lw_dr lw_d_cX10_init_7 6 rfl
theorem lw_d_cX7_init_18 : lw_dl cX7_init [(18, .newarray .long, 2), (26, .newarray .int, 2), (34, .newarray .long, 2), (42, .newarray .long, 2), (49, .newarray .int, 2), (56, .newarray .int, 2), (64, .newarray .int, 2)] = true := by decide +kernel
theorem dX7_init_18 : decode cX7_init 18 = .ok (.newarray .long, 2) := lw_dr lw_d_cX7_init_18 0 rfl
theorem dX7_init_26 : decode cX7_init 26 = .ok (.newarray .int, 2) := lw_dr lw_d_cX7_init_18 1 rfl
theorem dX7_init_34 : decode cX7_init 34 = .ok (.newarray .long, 2) := lw_dr lw_d_cX7_init_18 2 rfl
theorem dX7_init_42 : decode cX7_init 42 = .ok (.newarray .long, 2) := lw_dr lw_d_cX7_init_18 3 rfl
theorem dX7_init_49 : decode cX7_init 49 = .ok (.newarray .int, 2) := lw_dr lw_d_cX7_init_18 4 rfl
theorem dX7_init_56 : decode cX7_init 56 = .ok (.newarray .int, 2) := lw_dr lw_d_cX7_init_18 5 rfl
theorem dX7_init_64 : decode cX7_init 64 = .ok (.newarray .int, 2) := lw_dr lw_d_cX7_init_18 6 rfl
theorem dL_law_1431 : decode cL_law 1431 = .ok (.land, 1) := dq_127 (by decide +kernel)
theorem dL_law_1432 : decode cL_law 1432 = .ok (.lor, 1) := dq_129 (by decide +kernel)
theorem dL_law_1433 : decode cL_law 1433 = .ok (.invokevirtual 193, 3) := dq_182 (a := 0) (b := 193) (by decide +kernel) rfl
theorem dL_law_1436 : decode cL_law 1436 = .ok (.pop, 1) := dq_87 (by decide +kernel)
theorem dL_law_1437 : decode cL_law 1437 = .ok (.aload_n 2, 1) := dq_44 (by decide +kernel)
theorem dL_law_1438 : decode cL_law 1438 = .ok (.aload_n 0, 1) := dq_42 (by decide +kernel)
theorem dL_law_1439 : decode cL_law 1439 = .ok (.iload_n 3, 1) := dq_29 (by decide +kernel)
theorem dL_law_1440 : decode cL_law 1440 = .ok (.iconst 1, 1) := dq_4 (by decide +kernel)
theorem dL_law_1441 : decode cL_law 1441 = .ok (.iadd, 1) := dq_96 (by decide +kernel)
theorem dL_law_1442 : decode cL_law 1442 = .ok (.iaload, 1) := dq_46 (by decide +kernel)
theorem dL_law_1443 : decode cL_law 1443 = .ok (.aload_n 0, 1) := dq_42 (by decide +kernel)
theorem dL_law_1444 : decode cL_law 1444 = .ok (.iload_n 3, 1) := dq_29 (by decide +kernel)
theorem dL_law_1445 : decode cL_law 1445 = .ok (.iconst 2, 1) := dq_5 (by decide +kernel)
theorem dL_law_1446 : decode cL_law 1446 = .ok (.iadd, 1) := dq_96 (by decide +kernel)
theorem dL_law_1447 : decode cL_law 1447 = .ok (.iaload, 1) := dq_46 (by decide +kernel)
theorem dL_law_1448 : decode cL_law 1448 = .ok (.i2l, 1) := dq_133 (by decide +kernel)
theorem dL_law_1449 : decode cL_law 1449 = .ok (.bipush 32, 2) := dq_16 (a := 32) (by decide +kernel) (by decide +kernel)
theorem dL_law_1451 : decode cL_law 1451 = .ok (.lshl, 1) := dq_121 (by decide +kernel)
theorem dL_law_1452 : decode cL_law 1452 = .ok (.aload_n 0, 1) := dq_42 (by decide +kernel)
theorem dL_law_1453 : decode cL_law 1453 = .ok (.iload_n 3, 1) := dq_29 (by decide +kernel)
theorem dL_law_1454 : decode cL_law 1454 = .ok (.iconst 3, 1) := dq_6 (by decide +kernel)
theorem dL_law_1455 : decode cL_law 1455 = .ok (.iadd, 1) := dq_96 (by decide +kernel)
theorem dL_law_1456 : decode cL_law 1456 = .ok (.iaload, 1) := dq_46 (by decide +kernel)
theorem dL_law_1457 : decode cL_law 1457 = .ok (.i2l, 1) := dq_133 (by decide +kernel)
theorem dL_law_1458 : decode cL_law 1458 = .ok (.ldc2_w 78, 3) := dq_20 (a := 0) (b := 78) (by decide +kernel) rfl
theorem dL_law_1461 : decode cL_law 1461 = .ok (.land, 1) := dq_127 (by decide +kernel)
theorem dL_law_1462 : decode cL_law 1462 = .ok (.lor, 1) := dq_129 (by decide +kernel)
theorem dL_law_1463 : decode cL_law 1463 = .ok (.invokevirtual 197, 3) := dq_182 (a := 0) (b := 197) (by decide +kernel) rfl
theorem dL_law_1466 : decode cL_law 1466 = .ok (.pop, 1) := dq_87 (by decide +kernel)
theorem dL_law_1467 : decode cL_law 1467 = .ok (.goto 52, 3) := dq_167 (a := 0) (b := 52) (by decide +kernel) (by decide +kernel)
theorem dL_law_1470 : decode cL_law 1470 = .ok (.aload_n 1, 1) := dq_43 (by decide +kernel)
theorem dL_law_1471 : decode cL_law 1471 = .ok (.invokevirtual 198, 3) := dq_182 (a := 0) (b := 198) (by decide +kernel) rfl
theorem dL_law_1474 : decode cL_law 1474 = .ok (.pop, 1) := dq_87 (by decide +kernel)
theorem dL_law_1475 : decode cL_law 1475 = .ok (.aload_n 2, 1) := dq_44 (by decide +kernel)
theorem dL_law_1476 : decode cL_law 1476 = .ok (.invokevirtual 201, 3) := dq_182 (a := 0) (b := 201) (by decide +kernel) rfl
theorem dL_law_1479 : decode cL_law 1479 = .ok (.pop, 1) := dq_87 (by decide +kernel)
theorem dL_law_1480 : decode cL_law 1480 = .ok (.goto 39, 3) := dq_167 (a := 0) (b := 39) (by decide +kernel) (by decide +kernel)
theorem dL_law_1483 : decode cL_law 1483 = .ok (.aload_n 1, 1) := dq_43 (by decide +kernel)
theorem dL_law_1484 : decode cL_law 1484 = .ok (.aload_n 0, 1) := dq_42 (by decide +kernel)
theorem dL_law_1485 : decode cL_law 1485 = .ok (.iload_n 3, 1) := dq_29 (by decide +kernel)
theorem dL_law_1486 : decode cL_law 1486 = .ok (.iconst 1, 1) := dq_4 (by decide +kernel)
theorem dL_law_1487 : decode cL_law 1487 = .ok (.iadd, 1) := dq_96 (by decide +kernel)
theorem dL_law_1488 : decode cL_law 1488 = .ok (.iaload, 1) := dq_46 (by decide +kernel)
theorem dL_law_1489 : decode cL_law 1489 = .ok (.invokevirtual 202, 3) := dq_182 (a := 0) (b := 202) (by decide +kernel) rfl
theorem dL_law_1492 : decode cL_law 1492 = .ok (.pop, 1) := dq_87 (by decide +kernel)
theorem dL_law_1493 : decode cL_law 1493 = .ok (.aload_n 2, 1) := dq_44 (by decide +kernel)
theorem dL_law_1494 : decode cL_law 1494 = .ok (.aload_n 0, 1) := dq_42 (by decide +kernel)
theorem dL_law_1495 : decode cL_law 1495 = .ok (.iload_n 3, 1) := dq_29 (by decide +kernel)
theorem dL_law_1496 : decode cL_law 1496 = .ok (.iconst 1, 1) := dq_4 (by decide +kernel)
theorem dL_law_1497 : decode cL_law 1497 = .ok (.iadd, 1) := dq_96 (by decide +kernel)
theorem dL_law_1498 : decode cL_law 1498 = .ok (.iaload, 1) := dq_46 (by decide +kernel)
theorem dL_law_1499 : decode cL_law 1499 = .ok (.invokevirtual 205, 3) := dq_182 (a := 0) (b := 205) (by decide +kernel) rfl
theorem dL_law_1502 : decode cL_law 1502 = .ok (.pop, 1) := dq_87 (by decide +kernel)
theorem dL_law_1503 : decode cL_law 1503 = .ok (.goto 16, 3) := dq_167 (a := 0) (b := 16) (by decide +kernel) (by decide +kernel)
theorem dL_law_1506 : decode cL_law 1506 = .ok (.aload_n 1, 1) := dq_43 (by decide +kernel)
theorem dL_law_1507 : decode cL_law 1507 = .ok (.invokevirtual 206, 3) := dq_182 (a := 0) (b := 206) (by decide +kernel) rfl
theorem dL_law_1510 : decode cL_law 1510 = .ok (.pop, 1) := dq_87 (by decide +kernel)
theorem dL_law_1511 : decode cL_law 1511 = .ok (.aload_n 2, 1) := dq_44 (by decide +kernel)
theorem dL_law_1512 : decode cL_law 1512 = .ok (.invokevirtual 209, 3) := dq_182 (a := 0) (b := 209) (by decide +kernel) rfl
theorem dL_law_1515 : decode cL_law 1515 = .ok (.pop, 1) := dq_87 (by decide +kernel)
theorem dL_law_1516 : decode cL_law 1516 = .ok (.goto 3, 3) := dq_167 (a := 0) (b := 3) (by decide +kernel) (by decide +kernel)
theorem dL_law_0 : decode cL_law 0 = .ok (.new 7, 3) := dq_187 (a := 0) (b := 7) (by decide +kernel) rfl
theorem dL_law_3 : decode cL_law 3 = .ok (.dup, 1) := dq_89 (by decide +kernel)
theorem dL_law_4 : decode cL_law 4 = .ok (.invokespecial 9, 3) := dq_183 (a := 0) (b := 9) (by decide +kernel) rfl
theorem dL_law_7 : decode cL_law 7 = .ok (.astore_n 1, 1) := dq_76 (by decide +kernel)
theorem dL_law_8 : decode cL_law 8 = .ok (.new 10, 3) := dq_187 (a := 0) (b := 10) (by decide +kernel) rfl
theorem dL_law_11 : decode cL_law 11 = .ok (.dup, 1) := dq_89 (by decide +kernel)
theorem dL_law_12 : decode cL_law 12 = .ok (.invokespecial 12, 3) := dq_183 (a := 0) (b := 12) (by decide +kernel) rfl
theorem dL_law_15 : decode cL_law 15 = .ok (.astore_n 2, 1) := dq_77 (by decide +kernel)
theorem dL_law_16 : decode cL_law 16 = .ok (.iconst 0, 1) := dq_3 (by decide +kernel)
theorem dL_law_17 : decode cL_law 17 = .ok (.istore_n 3, 1) := dq_62 (by decide +kernel)
theorem dL_law_18 : decode cL_law 18 = .ok (.iload_n 3, 1) := dq_29 (by decide +kernel)
theorem dL_law_19 : decode cL_law 19 = .ok (.aload_n 0, 1) := dq_42 (by decide +kernel)
theorem dL_law_20 : decode cL_law 20 = .ok (.arraylength, 1) := dq_190 (by decide +kernel)
theorem dL_law_21 : decode cL_law 21 = .ok (.bipush 6, 2) := dq_16 (a := 6) (by decide +kernel) (by decide +kernel)
theorem dL_law_23 : decode cL_law 23 = .ok (.isub, 1) := dq_100 (by decide +kernel)
theorem dL_law_24 : decode cL_law 24 = .ok (.if_icmp .gt 1501, 3) := dq_163 (a := 5) (b := 221) (by decide +kernel) (by decide +kernel)
theorem dL_law_27 : decode cL_law 27 = .ok (.aload_n 0, 1) := dq_42 (by decide +kernel)
theorem dL_law_28 : decode cL_law 28 = .ok (.iload_n 3, 1) := dq_29 (by decide +kernel)
theorem dL_law_29 : decode cL_law 29 = .ok (.iaload, 1) := dq_46 (by decide +kernel)
theorem dL_law_30 : decode cL_law 30 = .ok (.bipush 63, 2) := dq_16 (a := 63) (by decide +kernel) (by decide +kernel)
theorem dL_law_32 : decode cL_law 32 = .ok (.iand, 1) := dq_126 (by decide +kernel)
theorem dL_law_1519 : decode cL_law 1519 = .ok (.iinc 3 6, 3) := dq_132 (a := 3) (b := 6) (by decide +kernel) rfl (by decide +kernel)
theorem dL_law_1522 : decode cL_law 1522 = .ok (.goto (-1504), 3) := dq_167 (a := 250) (b := 32) (by decide +kernel) (by decide +kernel)
theorem dL_law_1525 : decode cL_law 1525 = .ok (.iconst 1, 1) := dq_4 (by decide +kernel)
theorem dL_law_1526 : decode cL_law 1526 = .ok (.ireturn, 1) := dq_172 (by decide +kernel)
theorem dX11_init_0 : decode cX11_init 0 = .ok (.aload_n 0, 1) := dq_42 (by decide +kernel)
theorem dX11_init_1 : decode cX11_init 1 = .ok (.invokespecial 1, 3) := dq_183 (a := 0) (b := 1) (by decide +kernel) rfl
theorem dX11_init_4 : decode cX11_init 4 = .ok (.aload_n 0, 1) := dq_42 (by decide +kernel)
theorem dX11_init_5 : decode cX11_init 5 = .ok (.new 7, 3) := dq_187 (a := 0) (b := 7) (by decide +kernel) rfl
theorem dX11_init_8 : decode cX11_init 8 = .ok (.dup, 1) := dq_89 (by decide +kernel)
theorem dX11_init_9 : decode cX11_init 9 = .ok (.invokespecial 9, 3) := dq_183 (a := 0) (b := 9) (by decide +kernel) rfl
theorem dX4_init_0 : decode cX4_init 0 = .ok (.aload_n 0, 1) := dq_42 (by decide +kernel)
theorem dX4_init_1 : decode cX4_init 1 = .ok (.invokespecial 3, 3) := dq_183 (a := 0) (b := 3) (by decide +kernel) rfl
theorem dX4_init_4 : decode cX4_init 4 = .ok (.aload_n 0, 1) := dq_42 (by decide +kernel)
theorem dX4_init_5 : decode cX4_init 5 = .ok (.new 9, 3) := dq_187 (a := 0) (b := 9) (by decide +kernel) rfl
theorem dX4_init_8 : decode cX4_init 8 = .ok (.dup, 1) := dq_89 (by decide +kernel)
theorem dX4_init_9 : decode cX4_init 9 = .ok (.invokespecial 11, 3) := dq_183 (a := 0) (b := 11) (by decide +kernel) rfl
theorem dX9_init_0 : decode cX9_init 0 = .ok (.aload_n 0, 1) := dq_42 (by decide +kernel)
theorem dX9_init_1 : decode cX9_init 1 = .ok (.invokespecial 3, 3) := dq_183 (a := 0) (b := 3) (by decide +kernel) rfl
theorem dX9_init_4 : decode cX9_init 4 = .ok (.aload_n 0, 1) := dq_42 (by decide +kernel)
theorem dX9_init_5 : decode cX9_init 5 = .ok (.sipush 1600, 3) := dq_17 (a := 6) (b := 64) (by decide +kernel) (by decide +kernel)
theorem dX9_init_10 : decode cX9_init 10 = .ok (.putfield 9, 3) := dq_181 (a := 0) (b := 9) (by decide +kernel) rfl
theorem dX9_init_13 : decode cX9_init 13 = .ok (.aload_n 0, 1) := dq_42 (by decide +kernel)
theorem dX9_init_14 : decode cX9_init 14 = .ok (.iconst 0, 1) := dq_3 (by decide +kernel)
theorem dX9_init_15 : decode cX9_init 15 = .ok (.putfield 15, 3) := dq_181 (a := 0) (b := 15) (by decide +kernel) rfl
theorem dX9_init_18 : decode cX9_init 18 = .ok (.return_, 1) := dq_177 (by decide +kernel)
theorem dX4_init_12 : decode cX4_init 12 = .ok (.putfield 12, 3) := dq_181 (a := 0) (b := 12) (by decide +kernel) rfl
theorem dX4_init_15 : decode cX4_init 15 = .ok (.aload_n 0, 1) := dq_42 (by decide +kernel)
theorem dX4_init_16 : decode cX4_init 16 = .ok (.new 18, 3) := dq_187 (a := 0) (b := 18) (by decide +kernel) rfl
theorem dX4_init_19 : decode cX4_init 19 = .ok (.dup, 1) := dq_89 (by decide +kernel)
theorem dX4_init_20 : decode cX4_init 20 = .ok (.invokespecial 20, 3) := dq_183 (a := 0) (b := 20) (by decide +kernel) rfl
theorem dX1_init_0 : decode cX1_init 0 = .ok (.aload_n 0, 1) := dq_42 (by decide +kernel)
theorem dX1_init_1 : decode cX1_init 1 = .ok (.invokespecial 3, 3) := dq_183 (a := 0) (b := 3) (by decide +kernel) rfl
theorem dX1_init_4 : decode cX1_init 4 = .ok (.aload_n 0, 1) := dq_42 (by decide +kernel)
theorem dX1_init_5 : decode cX1_init 5 = .ok (.new 9, 3) := dq_187 (a := 0) (b := 9) (by decide +kernel) rfl
theorem dX1_init_8 : decode cX1_init 8 = .ok (.dup, 1) := dq_89 (by decide +kernel)
theorem dX1_init_9 : decode cX1_init 9 = .ok (.invokespecial 11, 3) := dq_183 (a := 0) (b := 11) (by decide +kernel) rfl
theorem dX8_init_0 : decode cX8_init 0 = .ok (.aload_n 0, 1) := dq_42 (by decide +kernel)
theorem dX8_init_1 : decode cX8_init 1 = .ok (.invokespecial 3, 3) := dq_183 (a := 0) (b := 3) (by decide +kernel) rfl
theorem dX8_init_4 : decode cX8_init 4 = .ok (.aload_n 0, 1) := dq_42 (by decide +kernel)
theorem dX8_init_5 : decode cX8_init 5 = .ok (.bipush 30, 2) := dq_16 (a := 30) (by decide +kernel) (by decide +kernel)
theorem dX8_init_9 : decode cX8_init 9 = .ok (.putfield 9, 3) := dq_181 (a := 0) (b := 9) (by decide +kernel) rfl
theorem dX8_init_12 : decode cX8_init 12 = .ok (.return_, 1) := dq_177 (by decide +kernel)
theorem dX1_init_12 : decode cX1_init 12 = .ok (.putfield 12, 3) := dq_181 (a := 0) (b := 12) (by decide +kernel) rfl
theorem dX1_init_15 : decode cX1_init 15 = .ok (.aload_n 0, 1) := dq_42 (by decide +kernel)
theorem dX1_init_16 : decode cX1_init 16 = .ok (.new 18, 3) := dq_187 (a := 0) (b := 18) (by decide +kernel) rfl
theorem dX1_init_19 : decode cX1_init 19 = .ok (.dup, 1) := dq_89 (by decide +kernel)
theorem dX1_init_20 : decode cX1_init 20 = .ok (.invokespecial 20, 3) := dq_183 (a := 0) (b := 20) (by decide +kernel) rfl
theorem dX5_init_0 : decode cX5_init 0 = .ok (.aload_n 0, 1) := dq_42 (by decide +kernel)
theorem dX5_init_1 : decode cX5_init 1 = .ok (.invokespecial 3, 3) := dq_183 (a := 0) (b := 3) (by decide +kernel) rfl
theorem dX5_init_4 : decode cX5_init 4 = .ok (.aload_n 0, 1) := dq_42 (by decide +kernel)
theorem dX5_init_5 : decode cX5_init 5 = .ok (.sipush 1600, 3) := dq_17 (a := 6) (b := 64) (by decide +kernel) (by decide +kernel)
theorem dX5_init_10 : decode cX5_init 10 = .ok (.putfield 9, 3) := dq_181 (a := 0) (b := 9) (by decide +kernel) rfl
theorem dX5_init_13 : decode cX5_init 13 = .ok (.aload_n 0, 1) := dq_42 (by decide +kernel)
theorem dX5_init_14 : decode cX5_init 14 = .ok (.bipush 8, 2) := dq_16 (a := 8) (by decide +kernel) (by decide +kernel)
theorem dX5_init_18 : decode cX5_init 18 = .ok (.putfield 15, 3) := dq_181 (a := 0) (b := 15) (by decide +kernel) rfl
theorem dX5_init_21 : decode cX5_init 21 = .ok (.aload_n 0, 1) := dq_42 (by decide +kernel)
theorem dX5_init_22 : decode cX5_init 22 = .ok (.bipush 8, 2) := dq_16 (a := 8) (by decide +kernel) (by decide +kernel)
theorem dX5_init_26 : decode cX5_init 26 = .ok (.putfield 18, 3) := dq_181 (a := 0) (b := 18) (by decide +kernel) rfl
theorem dX5_init_29 : decode cX5_init 29 = .ok (.aload_n 0, 1) := dq_42 (by decide +kernel)
theorem dX5_init_30 : decode cX5_init 30 = .ok (.bipush 8, 2) := dq_16 (a := 8) (by decide +kernel) (by decide +kernel)
theorem dX5_init_34 : decode cX5_init 34 = .ok (.putfield 21, 3) := dq_181 (a := 0) (b := 21) (by decide +kernel) rfl
theorem dX5_init_37 : decode cX5_init 37 = .ok (.aload_n 0, 1) := dq_42 (by decide +kernel)
theorem dX5_init_38 : decode cX5_init 38 = .ok (.bipush 64, 2) := dq_16 (a := 64) (by decide +kernel) (by decide +kernel)
theorem dX5_init_42 : decode cX5_init 42 = .ok (.putfield 24, 3) := dq_181 (a := 0) (b := 24) (by decide +kernel) rfl
theorem dX5_init_45 : decode cX5_init 45 = .ok (.aload_n 0, 1) := dq_42 (by decide +kernel)
theorem dX5_init_46 : decode cX5_init 46 = .ok (.iconst 0, 1) := dq_3 (by decide +kernel)
theorem dX5_init_47 : decode cX5_init 47 = .ok (.putfield 27, 3) := dq_181 (a := 0) (b := 27) (by decide +kernel) rfl
theorem dX5_init_50 : decode cX5_init 50 = .ok (.aload_n 0, 1) := dq_42 (by decide +kernel)
theorem dX5_init_51 : decode cX5_init 51 = .ok (.iconst 0, 1) := dq_3 (by decide +kernel)
theorem dX5_init_52 : decode cX5_init 52 = .ok (.putfield 31, 3) := dq_181 (a := 0) (b := 31) (by decide +kernel) rfl
theorem dX5_init_55 : decode cX5_init 55 = .ok (.return_, 1) := dq_177 (by decide +kernel)
theorem dX1_init_23 : decode cX1_init 23 = .ok (.putfield 21, 3) := dq_181 (a := 0) (b := 21) (by decide +kernel) rfl
theorem dX1_init_26 : decode cX1_init 26 = .ok (.aload_n 0, 1) := dq_42 (by decide +kernel)
theorem dX1_init_27 : decode cX1_init 27 = .ok (.bipush 80, 2) := dq_16 (a := 80) (by decide +kernel) (by decide +kernel)
theorem dX1_init_31 : decode cX1_init 31 = .ok (.putfield 25, 3) := dq_181 (a := 0) (b := 25) (by decide +kernel) rfl
theorem dX1_init_34 : decode cX1_init 34 = .ok (.aload_n 0, 1) := dq_42 (by decide +kernel)
theorem dX1_init_35 : decode cX1_init 35 = .ok (.iconst 0, 1) := dq_3 (by decide +kernel)
theorem dX1_init_36 : decode cX1_init 36 = .ok (.putfield 29, 3) := dq_181 (a := 0) (b := 29) (by decide +kernel) rfl
theorem dX1_init_39 : decode cX1_init 39 = .ok (.aload_n 0, 1) := dq_42 (by decide +kernel)
theorem dX1_init_40 : decode cX1_init 40 = .ok (.iconst 0, 1) := dq_3 (by decide +kernel)
theorem dX1_init_41 : decode cX1_init 41 = .ok (.putfield 33, 3) := dq_181 (a := 0) (b := 33) (by decide +kernel) rfl
theorem dX1_init_44 : decode cX1_init 44 = .ok (.aload_n 0, 1) := dq_42 (by decide +kernel)
theorem dX1_init_45 : decode cX1_init 45 = .ok (.iconst 0, 1) := dq_3 (by decide +kernel)
theorem dX1_init_46 : decode cX1_init 46 = .ok (.putfield 36, 3) := dq_181 (a := 0) (b := 36) (by decide +kernel) rfl
theorem dX1_init_49 : decode cX1_init 49 = .ok (.aload_n 0, 1) := dq_42 (by decide +kernel)
theorem dX1_init_50 : decode cX1_init 50 = .ok (.iconst 0, 1) := dq_3 (by decide +kernel)
theorem dX1_init_51 : decode cX1_init 51 = .ok (.putfield 39, 3) := dq_181 (a := 0) (b := 39) (by decide +kernel) rfl
theorem dX1_init_54 : decode cX1_init 54 = .ok (.aload_n 0, 1) := dq_42 (by decide +kernel)
theorem dX1_init_55 : decode cX1_init 55 = .ok (.iconst 0, 1) := dq_3 (by decide +kernel)
theorem dX1_init_56 : decode cX1_init 56 = .ok (.putfield 42, 3) := dq_181 (a := 0) (b := 42) (by decide +kernel) rfl
theorem dX1_init_59 : decode cX1_init 59 = .ok (.aload_n 0, 1) := dq_42 (by decide +kernel)
theorem dX1_init_60 : decode cX1_init 60 = .ok (.sipush 9999, 3) := dq_17 (a := 39) (b := 15) (by decide +kernel) (by decide +kernel)
theorem dX1_init_63 : decode cX1_init 63 = .ok (.putfield 45, 3) := dq_181 (a := 0) (b := 45) (by decide +kernel) rfl
theorem dX1_init_66 : decode cX1_init 66 = .ok (.aload_n 0, 1) := dq_42 (by decide +kernel)
theorem dX1_init_67 : decode cX1_init 67 = .ok (.iconst 0, 1) := dq_3 (by decide +kernel)
theorem dX1_init_68 : decode cX1_init 68 = .ok (.putfield 48, 3) := dq_181 (a := 0) (b := 48) (by decide +kernel) rfl
theorem dX1_init_71 : decode cX1_init 71 = .ok (.return_, 1) := dq_177 (by decide +kernel)
theorem dX4_init_23 : decode cX4_init 23 = .ok (.putfield 21, 3) := dq_181 (a := 0) (b := 21) (by decide +kernel) rfl
theorem dX4_init_26 : decode cX4_init 26 = .ok (.aload_n 0, 1) := dq_42 (by decide +kernel)
theorem dX4_init_27 : decode cX4_init 27 = .ok (.iconst 0, 1) := dq_3 (by decide +kernel)
theorem dX4_init_28 : decode cX4_init 28 = .ok (.putfield 25, 3) := dq_181 (a := 0) (b := 25) (by decide +kernel) rfl
theorem dX4_init_31 : decode cX4_init 31 = .ok (.aload_n 0, 1) := dq_42 (by decide +kernel)
theorem dX4_init_32 : decode cX4_init 32 = .ok (.iconst (-1), 1) := dq_2 (by decide +kernel)
theorem dX4_init_33 : decode cX4_init 33 = .ok (.putfield 29, 3) := dq_181 (a := 0) (b := 29) (by decide +kernel) rfl
theorem dX4_init_36 : decode cX4_init 36 = .ok (.aload_n 0, 1) := dq_42 (by decide +kernel)
theorem dX4_init_37 : decode cX4_init 37 = .ok (.iconst 0, 1) := dq_3 (by decide +kernel)
theorem dX4_init_38 : decode cX4_init 38 = .ok (.putfield 32, 3) := dq_181 (a := 0) (b := 32) (by decide +kernel) rfl
theorem dX4_init_41 : decode cX4_init 41 = .ok (.aload_n 0, 1) := dq_42 (by decide +kernel)
theorem dX4_init_42 : decode cX4_init 42 = .ok (.iconst 0, 1) := dq_3 (by decide +kernel)
theorem dX4_init_43 : decode cX4_init 43 = .ok (.putfield 35, 3) := dq_181 (a := 0) (b := 35) (by decide +kernel) rfl
theorem dX4_init_46 : decode cX4_init 46 = .ok (.aload_n 0, 1) := dq_42 (by decide +kernel)
theorem dX4_init_47 : decode cX4_init 47 = .ok (.iconst 0, 1) := dq_3 (by decide +kernel)
theorem dX4_init_48 : decode cX4_init 48 = .ok (.putfield 38, 3) := dq_181 (a := 0) (b := 38) (by decide +kernel) rfl
theorem dX4_init_51 : decode cX4_init 51 = .ok (.aload_n 0, 1) := dq_42 (by decide +kernel)
theorem dX4_init_52 : decode cX4_init 52 = .ok (.iconst (-1), 1) := dq_2 (by decide +kernel)
theorem dX4_init_53 : decode cX4_init 53 = .ok (.putfield 41, 3) := dq_181 (a := 0) (b := 41) (by decide +kernel) rfl
theorem dX4_init_56 : decode cX4_init 56 = .ok (.return_, 1) := dq_177 (by decide +kernel)
theorem dX11_init_12 : decode cX11_init 12 = .ok (.putfield 10, 3) := dq_181 (a := 0) (b := 10) (by decide +kernel) rfl
theorem dX11_init_15 : decode cX11_init 15 = .ok (.aload_n 0, 1) := dq_42 (by decide +kernel)
theorem dX11_init_16 : decode cX11_init 16 = .ok (.aload_n 0, 1) := dq_42 (by decide +kernel)
theorem dX11_init_17 : decode cX11_init 17 = .ok (.getfield 10, 3) := dq_180 (a := 0) (b := 10) (by decide +kernel) rfl
theorem dX11_init_20 : decode cX11_init 20 = .ok (.getfield 16, 3) := dq_180 (a := 0) (b := 16) (by decide +kernel) rfl
theorem dX11_init_23 : decode cX11_init 23 = .ok (.putfield 20, 3) := dq_181 (a := 0) (b := 20) (by decide +kernel) rfl
theorem dX11_init_26 : decode cX11_init 26 = .ok (.aload_n 0, 1) := dq_42 (by decide +kernel)
theorem dX11_init_27 : decode cX11_init 27 = .ok (.new 21, 3) := dq_187 (a := 0) (b := 21) (by decide +kernel) rfl
theorem dX11_init_30 : decode cX11_init 30 = .ok (.dup, 1) := dq_89 (by decide +kernel)
theorem dX11_init_31 : decode cX11_init 31 = .ok (.invokespecial 23, 3) := dq_183 (a := 0) (b := 23) (by decide +kernel) rfl
theorem dX7_init_0 : decode cX7_init 0 = .ok (.aload_n 0, 1) := dq_42 (by decide +kernel)
theorem dX7_init_1 : decode cX7_init 1 = .ok (.invokespecial 3, 3) := dq_183 (a := 0) (b := 3) (by decide +kernel) rfl
theorem dX7_init_4 : decode cX7_init 4 = .ok (.aload_n 0, 1) := dq_42 (by decide +kernel)
theorem dX7_init_5 : decode cX7_init 5 = .ok (.new 9, 3) := dq_187 (a := 0) (b := 9) (by decide +kernel) rfl
theorem dX7_init_8 : decode cX7_init 8 = .ok (.dup, 1) := dq_89 (by decide +kernel)
theorem dX7_init_9 : decode cX7_init 9 = .ok (.invokespecial 11, 3) := dq_183 (a := 0) (b := 11) (by decide +kernel) rfl
theorem dX10_init_0 : decode cX10_init 0 = .ok (.aload_n 0, 1) := dq_42 (by decide +kernel)
theorem dX10_init_1 : decode cX10_init 1 = .ok (.invokespecial 3, 3) := dq_183 (a := 0) (b := 3) (by decide +kernel) rfl
theorem dX10_init_4 : decode cX10_init 4 = .ok (.aload_n 0, 1) := dq_42 (by decide +kernel)
theorem dX10_init_5 : decode cX10_init 5 = .ok (.bipush 25, 2) := dq_16 (a := 25) (by decide +kernel) (by decide +kernel)
theorem dX10_init_9 : decode cX10_init 9 = .ok (.putfield 9, 3) := dq_181 (a := 0) (b := 9) (by decide +kernel) rfl
theorem dX10_init_12 : decode cX10_init 12 = .ok (.aload_n 0, 1) := dq_42 (by decide +kernel)
theorem dX10_init_13 : decode cX10_init 13 = .ok (.iconst 5, 1) := dq_8 (by decide +kernel)
theorem dX10_init_16 : decode cX10_init 16 = .ok (.putfield 15, 3) := dq_181 (a := 0) (b := 15) (by decide +kernel) rfl
theorem dX10_init_19 : decode cX10_init 19 = .ok (.aload_n 0, 1) := dq_42 (by decide +kernel)
theorem dX10_init_20 : decode cX10_init 20 = .ok (.bipush 25, 2) := dq_16 (a := 25) (by decide +kernel) (by decide +kernel)
theorem dX10_init_24 : decode cX10_init 24 = .ok (.putfield 18, 3) := dq_181 (a := 0) (b := 18) (by decide +kernel) rfl
theorem dX10_init_27 : decode cX10_init 27 = .ok (.aload_n 0, 1) := dq_42 (by decide +kernel)
theorem dX10_init_28 : decode cX10_init 28 = .ok (.iconst 5, 1) := dq_8 (by decide +kernel)
theorem dX10_init_31 : decode cX10_init 31 = .ok (.putfield 21, 3) := dq_181 (a := 0) (b := 21) (by decide +kernel) rfl
theorem dX10_init_34 : decode cX10_init 34 = .ok (.aload_n 0, 1) := dq_42 (by decide +kernel)
theorem dX10_init_35 : decode cX10_init 35 = .ok (.iconst 5, 1) := dq_8 (by decide +kernel)
theorem dX10_init_38 : decode cX10_init 38 = .ok (.putfield 25, 3) := dq_181 (a := 0) (b := 25) (by decide +kernel) rfl
theorem dX10_init_41 : decode cX10_init 41 = .ok (.aload_n 0, 1) := dq_42 (by decide +kernel)
theorem dX10_init_42 : decode cX10_init 42 = .ok (.iconst 5, 1) := dq_8 (by decide +kernel)
theorem dX10_init_45 : decode cX10_init 45 = .ok (.putfield 28, 3) := dq_181 (a := 0) (b := 28) (by decide +kernel) rfl
theorem dX10_init_48 : decode cX10_init 48 = .ok (.aload_n 0, 1) := dq_42 (by decide +kernel)
theorem dX10_init_49 : decode cX10_init 49 = .ok (.iconst 5, 1) := dq_8 (by decide +kernel)
theorem dX10_init_52 : decode cX10_init 52 = .ok (.putfield 31, 3) := dq_181 (a := 0) (b := 31) (by decide +kernel) rfl
theorem dX10_init_55 : decode cX10_init 55 = .ok (.aload_n 0, 1) := dq_42 (by decide +kernel)
theorem dX10_init_56 : decode cX10_init 56 = .ok (.iconst 0, 1) := dq_3 (by decide +kernel)
theorem dX10_init_57 : decode cX10_init 57 = .ok (.putfield 34, 3) := dq_181 (a := 0) (b := 34) (by decide +kernel) rfl
theorem dX10_init_60 : decode cX10_init 60 = .ok (.return_, 1) := dq_177 (by decide +kernel)
theorem dX7_init_12 : decode cX7_init 12 = .ok (.putfield 12, 3) := dq_181 (a := 0) (b := 12) (by decide +kernel) rfl
theorem dX7_init_15 : decode cX7_init 15 = .ok (.aload_n 0, 1) := dq_42 (by decide +kernel)
theorem dX7_init_16 : decode cX7_init 16 = .ok (.bipush 10, 2) := dq_16 (a := 10) (by decide +kernel) (by decide +kernel)
theorem dX7_init_20 : decode cX7_init 20 = .ok (.putfield 18, 3) := dq_181 (a := 0) (b := 18) (by decide +kernel) rfl
theorem dX7_init_23 : decode cX7_init 23 = .ok (.aload_n 0, 1) := dq_42 (by decide +kernel)
theorem dX7_init_24 : decode cX7_init 24 = .ok (.bipush 10, 2) := dq_16 (a := 10) (by decide +kernel) (by decide +kernel)
theorem dX7_init_28 : decode cX7_init 28 = .ok (.putfield 22, 3) := dq_181 (a := 0) (b := 22) (by decide +kernel) rfl
theorem dX7_init_31 : decode cX7_init 31 = .ok (.aload_n 0, 1) := dq_42 (by decide +kernel)
theorem dX7_init_32 : decode cX7_init 32 = .ok (.bipush 40, 2) := dq_16 (a := 40) (by decide +kernel) (by decide +kernel)
theorem dX7_init_36 : decode cX7_init 36 = .ok (.putfield 26, 3) := dq_181 (a := 0) (b := 26) (by decide +kernel) rfl
theorem dX7_init_39 : decode cX7_init 39 = .ok (.aload_n 0, 1) := dq_42 (by decide +kernel)
theorem dX7_init_40 : decode cX7_init 40 = .ok (.bipush 40, 2) := dq_16 (a := 40) (by decide +kernel) (by decide +kernel)
theorem dX7_init_44 : decode cX7_init 44 = .ok (.putfield 29, 3) := dq_181 (a := 0) (b := 29) (by decide +kernel) rfl
theorem dX7_init_47 : decode cX7_init 47 = .ok (.aload_n 0, 1) := dq_42 (by decide +kernel)
theorem dX7_init_48 : decode cX7_init 48 = .ok (.iconst 5, 1) := dq_8 (by decide +kernel)
theorem dX7_init_51 : decode cX7_init 51 = .ok (.putfield 32, 3) := dq_181 (a := 0) (b := 32) (by decide +kernel) rfl
theorem dX7_init_54 : decode cX7_init 54 = .ok (.aload_n 0, 1) := dq_42 (by decide +kernel)
theorem dX7_init_55 : decode cX7_init 55 = .ok (.iconst 5, 1) := dq_8 (by decide +kernel)
theorem dX7_init_58 : decode cX7_init 58 = .ok (.putfield 35, 3) := dq_181 (a := 0) (b := 35) (by decide +kernel) rfl
theorem dX7_init_61 : decode cX7_init 61 = .ok (.aload_n 0, 1) := dq_42 (by decide +kernel)
theorem dX7_init_62 : decode cX7_init 62 = .ok (.bipush 6, 2) := dq_16 (a := 6) (by decide +kernel) (by decide +kernel)
theorem dX7_init_66 : decode cX7_init 66 = .ok (.putfield 38, 3) := dq_181 (a := 0) (b := 38) (by decide +kernel) rfl
theorem dX7_init_69 : decode cX7_init 69 = .ok (.aload_n 0, 1) := dq_42 (by decide +kernel)
theorem dX7_init_70 : decode cX7_init 70 = .ok (.iconst 0, 1) := dq_3 (by decide +kernel)
theorem dX7_init_71 : decode cX7_init 71 = .ok (.putfield 41, 3) := dq_181 (a := 0) (b := 41) (by decide +kernel) rfl
theorem dX7_init_74 : decode cX7_init 74 = .ok (.aload_n 0, 1) := dq_42 (by decide +kernel)
theorem dX7_init_75 : decode cX7_init 75 = .ok (.lconst 0, 1) := dq_9 (by decide +kernel)
theorem dX7_init_76 : decode cX7_init 76 = .ok (.putfield 45, 3) := dq_181 (a := 0) (b := 45) (by decide +kernel) rfl
theorem dX7_init_79 : decode cX7_init 79 = .ok (.aload_n 0, 1) := dq_42 (by decide +kernel)
theorem dX7_init_80 : decode cX7_init 80 = .ok (.iconst 0, 1) := dq_3 (by decide +kernel)
theorem dX7_init_81 : decode cX7_init 81 = .ok (.putfield 49, 3) := dq_181 (a := 0) (b := 49) (by decide +kernel) rfl
theorem dX7_init_84 : decode cX7_init 84 = .ok (.return_, 1) := dq_177 (by decide +kernel)
theorem dX11_init_34 : decode cX11_init 34 = .ok (.putfield 24, 3) := dq_181 (a := 0) (b := 24) (by decide +kernel) rfl
theorem dX11_init_37 : decode cX11_init 37 = .ok (.aload_n 0, 1) := dq_42 (by decide +kernel)
theorem dX11_init_38 : decode cX11_init 38 = .ok (.new 28, 3) := dq_187 (a := 0) (b := 28) (by decide +kernel) rfl
theorem lw_d_cX6_init_17 : lw_dl cX6_init [(17, .newarray .int, 2), (25, .newarray .long, 2)] = true := by decide +kernel
theorem dX6_init_17 : decode cX6_init 17 = .ok (.newarray .int, 2) := lw_dr lw_d_cX6_init_17 0 rfl
theorem dX6_init_25 : decode cX6_init 25 = .ok (.newarray .long, 2) := lw_dr lw_d_cX6_init_17 1 rfl
theorem lw_d_cX0_init_8 : lw_dl cX0_init [(8, .newarray .long, 2), (15, .newarray .int, 2)] = true := by decide +kernel
theorem dX0_init_8 : decode cX0_init 8 = .ok (.newarray .long, 2) := lw_dr lw_d_cX0_init_8 0 rfl
theorem dX0_init_15 : decode cX0_init 15 = .ok (.newarray .int, 2) := lw_dr lw_d_cX0_init_8 1 rfl
theorem lw_d_cX3_init_17 : lw_dl cX3_init [(17, .newarray .int, 2), (24, .newarray .int, 2), (31, .newarray .int, 2), (38, .newarray .int, 2), (45, .newarray .long, 2)] = true := by decide +kernel
theorem dX3_init_17 : decode cX3_init 17 = .ok (.newarray .int, 2) := lw_dr lw_d_cX3_init_17 0 rfl
theorem dX3_init_24 : decode cX3_init 24 = .ok (.newarray .int, 2) := lw_dr lw_d_cX3_init_17 1 rfl
theorem dX3_init_31 : decode cX3_init 31 = .ok (.newarray .int, 2) := lw_dr lw_d_cX3_init_17 2 rfl
theorem dX3_init_38 : decode cX3_init 38 = .ok (.newarray .int, 2) := lw_dr lw_d_cX3_init_17 3 rfl
theorem dX3_init_45 : decode cX3_init 45 = .ok (.newarray .long, 2) := lw_dr lw_d_cX3_init_17 4 rfl
theorem lw_d_cX11_init_73 : lw_dl cX11_init [(73, .newarray .int, 2), (80, .newarray .int, 2), (87, .newarray .int, 2), (95, .newarray .int, 2)] = true := by decide +kernel
theorem dX11_init_73 : decode cX11_init 73 = .ok (.newarray .int, 2) := lw_dr lw_d_cX11_init_73 0 rfl
theorem dX11_init_80 : decode cX11_init 80 = .ok (.newarray .int, 2) := lw_dr lw_d_cX11_init_73 1 rfl
theorem dX11_init_87 : decode cX11_init 87 = .ok (.newarray .int, 2) := lw_dr lw_d_cX11_init_73 2 rfl
theorem dX11_init_95 : decode cX11_init 95 = .ok (.newarray .int, 2) := lw_dr lw_d_cX11_init_73 3 rfl
theorem lw_d_cX2_init_18 : lw_dl cX2_init [(18, .newarray .long, 2), (26, .newarray .int, 2)] = true := by decide +kernel
theorem dX2_init_18 : decode cX2_init 18 = .ok (.newarray .long, 2) := lw_dr lw_d_cX2_init_18 0 rfl
theorem dX2_init_26 : decode cX2_init 26 = .ok (.newarray .int, 2) := lw_dr lw_d_cX2_init_18 1 rfl
theorem lw_d_cX12_init_8 : lw_dl cX12_init [(8, .newarray .int, 2), (20, .newarray .char, 2), (52, .newarray .char, 2), (74, .newarray .char, 2), (101, .newarray .char, 2), (133, .newarray .char, 2), (165, .newarray .char, 2)] = true := by decide +kernel
theorem dX12_init_8 : decode cX12_init 8 = .ok (.newarray .int, 2) := lw_dr lw_d_cX12_init_8 0 rfl
theorem dX12_init_20 : decode cX12_init 20 = .ok (.newarray .char, 2) := lw_dr lw_d_cX12_init_8 1 rfl
theorem dX12_init_52 : decode cX12_init 52 = .ok (.newarray .char, 2) := lw_dr lw_d_cX12_init_8 2 rfl
theorem dX12_init_74 : decode cX12_init 74 = .ok (.newarray .char, 2) := lw_dr lw_d_cX12_init_8 3 rfl
theorem dX12_init_101 : decode cX12_init 101 = .ok (.newarray .char, 2) := lw_dr lw_d_cX12_init_8 4 rfl
theorem dX12_init_133 : decode cX12_init 133 = .ok (.newarray .char, 2) := lw_dr lw_d_cX12_init_8 5 rfl
theorem dX12_init_165 : decode cX12_init 165 = .ok (.newarray .char, 2) := lw_dr lw_d_cX12_init_8 6 rfl
theorem dX11_init_41 : decode cX11_init 41 = .ok (.dup, 1) := dq_89 (by decide +kernel)
theorem dX11_init_42 : decode cX11_init 42 = .ok (.invokespecial 30, 3) := dq_183 (a := 0) (b := 30) (by decide +kernel) rfl
theorem dX6_init_0 : decode cX6_init 0 = .ok (.aload_n 0, 1) := dq_42 (by decide +kernel)
theorem dX6_init_1 : decode cX6_init 1 = .ok (.invokespecial 3, 3) := dq_183 (a := 0) (b := 3) (by decide +kernel) rfl
theorem dX6_init_4 : decode cX6_init 4 = .ok (.aload_n 0, 1) := dq_42 (by decide +kernel)
theorem dX6_init_5 : decode cX6_init 5 = .ok (.new 9, 3) := dq_187 (a := 0) (b := 9) (by decide +kernel) rfl
theorem dX6_init_8 : decode cX6_init 8 = .ok (.dup, 1) := dq_89 (by decide +kernel)
theorem dX6_init_9 : decode cX6_init 9 = .ok (.invokespecial 11, 3) := dq_183 (a := 0) (b := 11) (by decide +kernel) rfl
theorem dX6_init_12 : decode cX6_init 12 = .ok (.putfield 12, 3) := dq_181 (a := 0) (b := 12) (by decide +kernel) rfl
theorem dX6_init_15 : decode cX6_init 15 = .ok (.aload_n 0, 1) := dq_42 (by decide +kernel)
theorem dX6_init_16 : decode cX6_init 16 = .ok (.iconst 5, 1) := dq_8 (by decide +kernel)
theorem dX6_init_19 : decode cX6_init 19 = .ok (.putfield 18, 3) := dq_181 (a := 0) (b := 18) (by decide +kernel) rfl
theorem dX6_init_22 : decode cX6_init 22 = .ok (.aload_n 0, 1) := dq_42 (by decide +kernel)
theorem dX6_init_23 : decode cX6_init 23 = .ok (.bipush 32, 2) := dq_16 (a := 32) (by decide +kernel) (by decide +kernel)
theorem dX6_init_27 : decode cX6_init 27 = .ok (.putfield 22, 3) := dq_181 (a := 0) (b := 22) (by decide +kernel) rfl
theorem dX6_init_30 : decode cX6_init 30 = .ok (.aload_n 0, 1) := dq_42 (by decide +kernel)
theorem dX6_init_31 : decode cX6_init 31 = .ok (.lconst 0, 1) := dq_9 (by decide +kernel)
theorem dX6_init_32 : decode cX6_init 32 = .ok (.putfield 26, 3) := dq_181 (a := 0) (b := 26) (by decide +kernel) rfl
theorem dX6_init_35 : decode cX6_init 35 = .ok (.aload_n 0, 1) := dq_42 (by decide +kernel)
theorem dX6_init_36 : decode cX6_init 36 = .ok (.getfield 22, 3) := dq_180 (a := 0) (b := 22) (by decide +kernel) rfl
theorem dX6_init_39 : decode cX6_init 39 = .ok (.ldc2_w 30, 3) := dq_20 (a := 0) (b := 30) (by decide +kernel) rfl
theorem dX6_init_42 : decode cX6_init 42 = .ok (.invokestatic 32, 3) := dq_184 (a := 0) (b := 32) (by decide +kernel) rfl
theorem dX6_init_45 : decode cX6_init 45 = .ok (.return_, 1) := dq_177 (by decide +kernel)
theorem dX11_init_45 : decode cX11_init 45 = .ok (.putfield 31, 3) := dq_181 (a := 0) (b := 31) (by decide +kernel) rfl
theorem dX11_init_48 : decode cX11_init 48 = .ok (.aload_n 0, 1) := dq_42 (by decide +kernel)
theorem dX11_init_49 : decode cX11_init 49 = .ok (.new 35, 3) := dq_187 (a := 0) (b := 35) (by decide +kernel) rfl
theorem dX11_init_52 : decode cX11_init 52 = .ok (.dup, 1) := dq_89 (by decide +kernel)
theorem dX11_init_53 : decode cX11_init 53 = .ok (.invokespecial 37, 3) := dq_183 (a := 0) (b := 37) (by decide +kernel) rfl
theorem dX0_init_0 : decode cX0_init 0 = .ok (.aload_n 0, 1) := dq_42 (by decide +kernel)
theorem dX0_init_1 : decode cX0_init 1 = .ok (.invokespecial 3, 3) := dq_183 (a := 0) (b := 3) (by decide +kernel) rfl
theorem dX0_init_4 : decode cX0_init 4 = .ok (.aload_n 0, 1) := dq_42 (by decide +kernel)
theorem dX0_init_5 : decode cX0_init 5 = .ok (.sipush 256, 3) := dq_17 (a := 1) (b := 0) (by decide +kernel) (by decide +kernel)
theorem dX0_init_10 : decode cX0_init 10 = .ok (.putfield 9, 3) := dq_181 (a := 0) (b := 9) (by decide +kernel) rfl
theorem dX0_init_13 : decode cX0_init 13 = .ok (.aload_n 0, 1) := dq_42 (by decide +kernel)
theorem dX0_init_14 : decode cX0_init 14 = .ok (.iconst 5, 1) := dq_8 (by decide +kernel)
theorem dX0_init_17 : decode cX0_init 17 = .ok (.putfield 15, 3) := dq_181 (a := 0) (b := 15) (by decide +kernel) rfl
theorem dX0_init_20 : decode cX0_init 20 = .ok (.aload_n 0, 1) := dq_42 (by decide +kernel)
theorem dX0_init_21 : decode cX0_init 21 = .ok (.iconst 0, 1) := dq_3 (by decide +kernel)
theorem dX0_init_22 : decode cX0_init 22 = .ok (.putfield 19, 3) := dq_181 (a := 0) (b := 19) (by decide +kernel) rfl
theorem dX0_init_25 : decode cX0_init 25 = .ok (.aload_n 0, 1) := dq_42 (by decide +kernel)
theorem dX0_init_26 : decode cX0_init 26 = .ok (.iconst 0, 1) := dq_3 (by decide +kernel)
theorem dX0_init_27 : decode cX0_init 27 = .ok (.putfield 23, 3) := dq_181 (a := 0) (b := 23) (by decide +kernel) rfl
theorem dX0_init_30 : decode cX0_init 30 = .ok (.aload_n 0, 1) := dq_42 (by decide +kernel)
theorem dX0_init_31 : decode cX0_init 31 = .ok (.lconst 0, 1) := dq_9 (by decide +kernel)
theorem dX0_init_32 : decode cX0_init 32 = .ok (.putfield 27, 3) := dq_181 (a := 0) (b := 27) (by decide +kernel) rfl
theorem dX0_init_35 : decode cX0_init 35 = .ok (.aload_n 0, 1) := dq_42 (by decide +kernel)
theorem dX0_init_36 : decode cX0_init 36 = .ok (.iconst 0, 1) := dq_3 (by decide +kernel)
theorem dX0_init_37 : decode cX0_init 37 = .ok (.putfield 31, 3) := dq_181 (a := 0) (b := 31) (by decide +kernel) rfl
theorem dX0_init_40 : decode cX0_init 40 = .ok (.aload_n 0, 1) := dq_42 (by decide +kernel)
theorem dX0_init_41 : decode cX0_init 41 = .ok (.iconst 0, 1) := dq_3 (by decide +kernel)
theorem dX0_init_42 : decode cX0_init 42 = .ok (.putfield 34, 3) := dq_181 (a := 0) (b := 34) (by decide +kernel) rfl
theorem dX0_init_45 : decode cX0_init 45 = .ok (.return_, 1) := dq_177 (by decide +kernel)
theorem dX11_init_56 : decode cX11_init 56 = .ok (.putfield 38, 3) := dq_181 (a := 0) (b := 38) (by decide +kernel) rfl
theorem dX11_init_59 : decode cX11_init 59 = .ok (.aload_n 0, 1) := dq_42 (by decide +kernel)
theorem dX11_init_60 : decode cX11_init 60 = .ok (.new 42, 3) := dq_187 (a := 0) (b := 42) (by decide +kernel) rfl
theorem dX11_init_63 : decode cX11_init 63 = .ok (.dup, 1) := dq_89 (by decide +kernel)
theorem dX11_init_64 : decode cX11_init 64 = .ok (.invokespecial 44, 3) := dq_183 (a := 0) (b := 44) (by decide +kernel) rfl
theorem dX3_init_0 : decode cX3_init 0 = .ok (.aload_n 0, 1) := dq_42 (by decide +kernel)
theorem dX3_init_1 : decode cX3_init 1 = .ok (.invokespecial 3, 3) := dq_183 (a := 0) (b := 3) (by decide +kernel) rfl
theorem dX3_init_4 : decode cX3_init 4 = .ok (.aload_n 0, 1) := dq_42 (by decide +kernel)
theorem dX3_init_5 : decode cX3_init 5 = .ok (.new 9, 3) := dq_187 (a := 0) (b := 9) (by decide +kernel) rfl
theorem dX3_init_8 : decode cX3_init 8 = .ok (.dup, 1) := dq_89 (by decide +kernel)
theorem dX3_init_9 : decode cX3_init 9 = .ok (.invokespecial 11, 3) := dq_183 (a := 0) (b := 11) (by decide +kernel) rfl
theorem dX3_init_12 : decode cX3_init 12 = .ok (.putfield 12, 3) := dq_181 (a := 0) (b := 12) (by decide +kernel) rfl
theorem dX3_init_15 : decode cX3_init 15 = .ok (.aload_n 0, 1) := dq_42 (by decide +kernel)
theorem dX3_init_16 : decode cX3_init 16 = .ok (.iconst 5, 1) := dq_8 (by decide +kernel)
theorem dX3_init_19 : decode cX3_init 19 = .ok (.putfield 18, 3) := dq_181 (a := 0) (b := 18) (by decide +kernel) rfl
theorem dX3_init_22 : decode cX3_init 22 = .ok (.aload_n 0, 1) := dq_42 (by decide +kernel)
theorem dX3_init_23 : decode cX3_init 23 = .ok (.iconst 5, 1) := dq_8 (by decide +kernel)
theorem dX3_init_26 : decode cX3_init 26 = .ok (.putfield 22, 3) := dq_181 (a := 0) (b := 22) (by decide +kernel) rfl
theorem dX3_init_29 : decode cX3_init 29 = .ok (.aload_n 0, 1) := dq_42 (by decide +kernel)
theorem dX3_init_30 : decode cX3_init 30 = .ok (.iconst 5, 1) := dq_8 (by decide +kernel)
theorem dX3_init_33 : decode cX3_init 33 = .ok (.putfield 25, 3) := dq_181 (a := 0) (b := 25) (by decide +kernel) rfl
theorem dX3_init_36 : decode cX3_init 36 = .ok (.aload_n 0, 1) := dq_42 (by decide +kernel)
theorem dX3_init_37 : decode cX3_init 37 = .ok (.iconst 5, 1) := dq_8 (by decide +kernel)
theorem dX3_init_40 : decode cX3_init 40 = .ok (.putfield 28, 3) := dq_181 (a := 0) (b := 28) (by decide +kernel) rfl
theorem dX3_init_43 : decode cX3_init 43 = .ok (.aload_n 0, 1) := dq_42 (by decide +kernel)
theorem dX3_init_44 : decode cX3_init 44 = .ok (.iconst 5, 1) := dq_8 (by decide +kernel)
theorem dX3_init_47 : decode cX3_init 47 = .ok (.putfield 31, 3) := dq_181 (a := 0) (b := 31) (by decide +kernel) rfl
theorem dX3_init_50 : decode cX3_init 50 = .ok (.aload_n 0, 1) := dq_42 (by decide +kernel)
theorem dX3_init_51 : decode cX3_init 51 = .ok (.lconst 0, 1) := dq_9 (by decide +kernel)
theorem dX3_init_52 : decode cX3_init 52 = .ok (.putfield 35, 3) := dq_181 (a := 0) (b := 35) (by decide +kernel) rfl
theorem dX3_init_55 : decode cX3_init 55 = .ok (.aload_n 0, 1) := dq_42 (by decide +kernel)
theorem dX3_init_56 : decode cX3_init 56 = .ok (.iconst 0, 1) := dq_3 (by decide +kernel)
theorem dX3_init_57 : decode cX3_init 57 = .ok (.putfield 39, 3) := dq_181 (a := 0) (b := 39) (by decide +kernel) rfl
theorem dX3_init_60 : decode cX3_init 60 = .ok (.aload_n 0, 1) := dq_42 (by decide +kernel)
theorem dX3_init_61 : decode cX3_init 61 = .ok (.ldc2_w 43, 3) := dq_20 (a := 0) (b := 43) (by decide +kernel) rfl
theorem dX3_init_64 : decode cX3_init 64 = .ok (.putfield 45, 3) := dq_181 (a := 0) (b := 45) (by decide +kernel) rfl
theorem dX3_init_67 : decode cX3_init 67 = .ok (.aload_n 0, 1) := dq_42 (by decide +kernel)
theorem dX3_init_68 : decode cX3_init 68 = .ok (.ldc2_w 43, 3) := dq_20 (a := 0) (b := 43) (by decide +kernel) rfl
theorem dX3_init_71 : decode cX3_init 71 = .ok (.putfield 48, 3) := dq_181 (a := 0) (b := 48) (by decide +kernel) rfl
theorem dX3_init_74 : decode cX3_init 74 = .ok (.return_, 1) := dq_177 (by decide +kernel)
theorem dX11_init_67 : decode cX11_init 67 = .ok (.putfield 45, 3) := dq_181 (a := 0) (b := 45) (by decide +kernel) rfl
theorem dX11_init_70 : decode cX11_init 70 = .ok (.aload_n 0, 1) := dq_42 (by decide +kernel)
theorem dX11_init_71 : decode cX11_init 71 = .ok (.bipush 6, 2) := dq_16 (a := 6) (by decide +kernel) (by decide +kernel)
theorem dX11_init_75 : decode cX11_init 75 = .ok (.putfield 49, 3) := dq_181 (a := 0) (b := 49) (by decide +kernel) rfl
theorem dX11_init_78 : decode cX11_init 78 = .ok (.aload_n 0, 1) := dq_42 (by decide +kernel)
theorem dX11_init_79 : decode cX11_init 79 = .ok (.iconst 5, 1) := dq_8 (by decide +kernel)
theorem dX11_init_82 : decode cX11_init 82 = .ok (.putfield 53, 3) := dq_181 (a := 0) (b := 53) (by decide +kernel) rfl
theorem dX11_init_85 : decode cX11_init 85 = .ok (.aload_n 0, 1) := dq_42 (by decide +kernel)
theorem dX11_init_86 : decode cX11_init 86 = .ok (.iconst 5, 1) := dq_8 (by decide +kernel)
theorem dX11_init_89 : decode cX11_init 89 = .ok (.putfield 56, 3) := dq_181 (a := 0) (b := 56) (by decide +kernel) rfl
theorem dX11_init_92 : decode cX11_init 92 = .ok (.aload_n 0, 1) := dq_42 (by decide +kernel)
theorem dX11_init_93 : decode cX11_init 93 = .ok (.bipush 14, 2) := dq_16 (a := 14) (by decide +kernel) (by decide +kernel)
theorem dX11_init_97 : decode cX11_init 97 = .ok (.putfield 59, 3) := dq_181 (a := 0) (b := 59) (by decide +kernel) rfl
theorem dX11_init_100 : decode cX11_init 100 = .ok (.aload_n 0, 1) := dq_42 (by decide +kernel)
theorem dX11_init_101 : decode cX11_init 101 = .ok (.iconst 0, 1) := dq_3 (by decide +kernel)
theorem dX11_init_102 : decode cX11_init 102 = .ok (.putfield 62, 3) := dq_181 (a := 0) (b := 62) (by decide +kernel) rfl
theorem dX11_init_105 : decode cX11_init 105 = .ok (.aload_n 0, 1) := dq_42 (by decide +kernel)
theorem dX11_init_106 : decode cX11_init 106 = .ok (.new 66, 3) := dq_187 (a := 0) (b := 66) (by decide +kernel) rfl
theorem dX11_init_109 : decode cX11_init 109 = .ok (.dup, 1) := dq_89 (by decide +kernel)
theorem dX11_init_110 : decode cX11_init 110 = .ok (.invokespecial 68, 3) := dq_183 (a := 0) (b := 68) (by decide +kernel) rfl
theorem dX11_init_113 : decode cX11_init 113 = .ok (.putfield 69, 3) := dq_181 (a := 0) (b := 69) (by decide +kernel) rfl
theorem dX11_init_116 : decode cX11_init 116 = .ok (.aload_n 0, 1) := dq_42 (by decide +kernel)
theorem dX11_init_117 : decode cX11_init 117 = .ok (.new 73, 3) := dq_187 (a := 0) (b := 73) (by decide +kernel) rfl
theorem dX11_init_120 : decode cX11_init 120 = .ok (.dup, 1) := dq_89 (by decide +kernel)
theorem dX11_init_121 : decode cX11_init 121 = .ok (.invokespecial 75, 3) := dq_183 (a := 0) (b := 75) (by decide +kernel) rfl
theorem dX2_init_0 : decode cX2_init 0 = .ok (.aload_n 0, 1) := dq_42 (by decide +kernel)
theorem dX2_init_1 : decode cX2_init 1 = .ok (.invokespecial 3, 3) := dq_183 (a := 0) (b := 3) (by decide +kernel) rfl
theorem dX2_init_4 : decode cX2_init 4 = .ok (.aload_n 0, 1) := dq_42 (by decide +kernel)
theorem dX2_init_5 : decode cX2_init 5 = .ok (.new 9, 3) := dq_187 (a := 0) (b := 9) (by decide +kernel) rfl
theorem dX2_init_8 : decode cX2_init 8 = .ok (.dup, 1) := dq_89 (by decide +kernel)
theorem dX2_init_9 : decode cX2_init 9 = .ok (.invokespecial 11, 3) := dq_183 (a := 0) (b := 11) (by decide +kernel) rfl
theorem dX2_init_12 : decode cX2_init 12 = .ok (.putfield 12, 3) := dq_181 (a := 0) (b := 12) (by decide +kernel) rfl
theorem dX2_init_15 : decode cX2_init 15 = .ok (.aload_n 0, 1) := dq_42 (by decide +kernel)
theorem dX2_init_16 : decode cX2_init 16 = .ok (.bipush 25, 2) := dq_16 (a := 25) (by decide +kernel) (by decide +kernel)
theorem dX2_init_20 : decode cX2_init 20 = .ok (.putfield 18, 3) := dq_181 (a := 0) (b := 18) (by decide +kernel) rfl
theorem dX2_init_23 : decode cX2_init 23 = .ok (.aload_n 0, 1) := dq_42 (by decide +kernel)
theorem dX2_init_24 : decode cX2_init 24 = .ok (.bipush 120, 2) := dq_16 (a := 120) (by decide +kernel) (by decide +kernel)
theorem dX2_init_28 : decode cX2_init 28 = .ok (.putfield 22, 3) := dq_181 (a := 0) (b := 22) (by decide +kernel) rfl
theorem dX2_init_31 : decode cX2_init 31 = .ok (.aload_n 0, 1) := dq_42 (by decide +kernel)
theorem dX2_init_32 : decode cX2_init 32 = .ok (.iconst 0, 1) := dq_3 (by decide +kernel)
theorem dX2_init_33 : decode cX2_init 33 = .ok (.putfield 26, 3) := dq_181 (a := 0) (b := 26) (by decide +kernel) rfl
theorem dX2_init_36 : decode cX2_init 36 = .ok (.aload_n 0, 1) := dq_42 (by decide +kernel)
theorem dX2_init_37 : decode cX2_init 37 = .ok (.iconst 0, 1) := dq_3 (by decide +kernel)
theorem dX2_init_38 : decode cX2_init 38 = .ok (.putfield 30, 3) := dq_181 (a := 0) (b := 30) (by decide +kernel) rfl
theorem dX2_init_41 : decode cX2_init 41 = .ok (.aload_n 0, 1) := dq_42 (by decide +kernel)
theorem dX2_init_42 : decode cX2_init 42 = .ok (.iconst 0, 1) := dq_3 (by decide +kernel)
theorem dX2_init_43 : decode cX2_init 43 = .ok (.putfield 33, 3) := dq_181 (a := 0) (b := 33) (by decide +kernel) rfl
theorem dX2_init_46 : decode cX2_init 46 = .ok (.aload_n 0, 1) := dq_42 (by decide +kernel)
theorem dX2_init_47 : decode cX2_init 47 = .ok (.iconst 0, 1) := dq_3 (by decide +kernel)
theorem dX2_init_48 : decode cX2_init 48 = .ok (.putfield 36, 3) := dq_181 (a := 0) (b := 36) (by decide +kernel) rfl
theorem dX2_init_51 : decode cX2_init 51 = .ok (.aload_n 0, 1) := dq_42 (by decide +kernel)
theorem dX2_init_52 : decode cX2_init 52 = .ok (.iconst 0, 1) := dq_3 (by decide +kernel)
theorem dX2_init_53 : decode cX2_init 53 = .ok (.putfield 39, 3) := dq_181 (a := 0) (b := 39) (by decide +kernel) rfl
theorem dX2_init_56 : decode cX2_init 56 = .ok (.return_, 1) := dq_177 (by decide +kernel)
theorem dX11_init_124 : decode cX11_init 124 = .ok (.putfield 76, 3) := dq_181 (a := 0) (b := 76) (by decide +kernel) rfl
theorem dX11_init_127 : decode cX11_init 127 = .ok (.aload_n 0, 1) := dq_42 (by decide +kernel)
theorem dX11_init_128 : decode cX11_init 128 = .ok (.new 73, 3) := dq_187 (a := 0) (b := 73) (by decide +kernel) rfl
theorem dX11_init_131 : decode cX11_init 131 = .ok (.dup, 1) := dq_89 (by decide +kernel)
theorem dX11_init_132 : decode cX11_init 132 = .ok (.invokespecial 75, 3) := dq_183 (a := 0) (b := 75) (by decide +kernel) rfl
theorem dX11_init_135 : decode cX11_init 135 = .ok (.putfield 80, 3) := dq_181 (a := 0) (b := 80) (by decide +kernel) rfl
theorem dX11_init_138 : decode cX11_init 138 = .ok (.return_, 1) := dq_177 (by decide +kernel)
theorem dX12_init_0 : decode cX12_init 0 = .ok (.aload_n 0, 1) := dq_42 (by decide +kernel)
theorem dX12_init_1 : decode cX12_init 1 = .ok (.invokespecial 1, 3) := dq_183 (a := 0) (b := 1) (by decide +kernel) rfl
theorem dX12_init_4 : decode cX12_init 4 = .ok (.aload_n 0, 1) := dq_42 (by decide +kernel)
theorem dX12_init_5 : decode cX12_init 5 = .ok (.sipush 1600, 3) := dq_17 (a := 6) (b := 64) (by decide +kernel) (by decide +kernel)
theorem dX12_init_10 : decode cX12_init 10 = .ok (.putfield 7, 3) := dq_181 (a := 0) (b := 7) (by decide +kernel) rfl
theorem dX12_init_13 : decode cX12_init 13 = .ok (.aload_n 0, 1) := dq_42 (by decide +kernel)
theorem dX12_init_14 : decode cX12_init 14 = .ok (.iconst (-1), 1) := dq_2 (by decide +kernel)
theorem dX12_init_15 : decode cX12_init 15 = .ok (.putfield 13, 3) := dq_181 (a := 0) (b := 13) (by decide +kernel) rfl
theorem dX12_init_18 : decode cX12_init 18 = .ok (.aload_n 0, 1) := dq_42 (by decide +kernel)
theorem dX12_init_19 : decode cX12_init 19 = .ok (.iconst 5, 1) := dq_8 (by decide +kernel)
theorem dX12_init_22 : decode cX12_init 22 = .ok (.dup, 1) := dq_89 (by decide +kernel)
theorem dX12_init_23 : decode cX12_init 23 = .ok (.iconst 0, 1) := dq_3 (by decide +kernel)
theorem dX12_init_24 : decode cX12_init 24 = .ok (.bipush 104, 2) := dq_16 (a := 104) (by decide +kernel) (by decide +kernel)
theorem dX12_init_26 : decode cX12_init 26 = .ok (.castore, 1) := dq_85 (by decide +kernel)
theorem dX12_init_27 : decode cX12_init 27 = .ok (.dup, 1) := dq_89 (by decide +kernel)
theorem dX12_init_28 : decode cX12_init 28 = .ok (.iconst 1, 1) := dq_4 (by decide +kernel)
theorem dX12_init_29 : decode cX12_init 29 = .ok (.bipush 111, 2) := dq_16 (a := 111) (by decide +kernel) (by decide +kernel)
theorem dX12_init_31 : decode cX12_init 31 = .ok (.castore, 1) := dq_85 (by decide +kernel)
theorem dX12_init_32 : decode cX12_init 32 = .ok (.dup, 1) := dq_89 (by decide +kernel)
theorem dX12_init_33 : decode cX12_init 33 = .ok (.iconst 2, 1) := dq_5 (by decide +kernel)
theorem dX12_init_34 : decode cX12_init 34 = .ok (.bipush 117, 2) := dq_16 (a := 117) (by decide +kernel) (by decide +kernel)
theorem dX12_init_36 : decode cX12_init 36 = .ok (.castore, 1) := dq_85 (by decide +kernel)
theorem dX12_init_37 : decode cX12_init 37 = .ok (.dup, 1) := dq_89 (by decide +kernel)
theorem dX12_init_38 : decode cX12_init 38 = .ok (.iconst 3, 1) := dq_6 (by decide +kernel)
theorem dX12_init_39 : decode cX12_init 39 = .ok (.bipush 115, 2) := dq_16 (a := 115) (by decide +kernel) (by decide +kernel)
theorem dX12_init_41 : decode cX12_init 41 = .ok (.castore, 1) := dq_85 (by decide +kernel)
theorem dX12_init_42 : decode cX12_init 42 = .ok (.dup, 1) := dq_89 (by decide +kernel)
theorem dX12_init_43 : decode cX12_init 43 = .ok (.iconst 4, 1) := dq_7 (by decide +kernel)
theorem dX12_init_44 : decode cX12_init 44 = .ok (.bipush 101, 2) := dq_16 (a := 101) (by decide +kernel) (by decide +kernel)
theorem dX12_init_46 : decode cX12_init 46 = .ok (.castore, 1) := dq_85 (by decide +kernel)
theorem dX12_init_47 : decode cX12_init 47 = .ok (.putfield 17, 3) := dq_181 (a := 0) (b := 17) (by decide +kernel) rfl
theorem dX12_init_50 : decode cX12_init 50 = .ok (.aload_n 0, 1) := dq_42 (by decide +kernel)
theorem dX12_init_51 : decode cX12_init 51 = .ok (.iconst 3, 1) := dq_6 (by decide +kernel)
theorem dX12_init_54 : decode cX12_init 54 = .ok (.dup, 1) := dq_89 (by decide +kernel)
theorem dX12_init_55 : decode cX12_init 55 = .ok (.iconst 0, 1) := dq_3 (by decide +kernel)
theorem dX12_init_56 : decode cX12_init 56 = .ok (.bipush 114, 2) := dq_16 (a := 114) (by decide +kernel) (by decide +kernel)
theorem dX12_init_58 : decode cX12_init 58 = .ok (.castore, 1) := dq_85 (by decide +kernel)
theorem dX12_init_59 : decode cX12_init 59 = .ok (.dup, 1) := dq_89 (by decide +kernel)
theorem dX12_init_60 : decode cX12_init 60 = .ok (.iconst 1, 1) := dq_4 (by decide +kernel)
theorem dX12_init_61 : decode cX12_init 61 = .ok (.bipush 111, 2) := dq_16 (a := 111) (by decide +kernel) (by decide +kernel)
theorem dX12_init_63 : decode cX12_init 63 = .ok (.castore, 1) := dq_85 (by decide +kernel)
theorem dX12_init_64 : decode cX12_init 64 = .ok (.dup, 1) := dq_89 (by decide +kernel)
theorem dX12_init_65 : decode cX12_init 65 = .ok (.iconst 2, 1) := dq_5 (by decide +kernel)
theorem dX12_init_66 : decode cX12_init 66 = .ok (.bipush 119, 2) := dq_16 (a := 119) (by decide +kernel) (by decide +kernel)
theorem dX12_init_68 : decode cX12_init 68 = .ok (.castore, 1) := dq_85 (by decide +kernel)
theorem dX12_init_69 : decode cX12_init 69 = .ok (.putfield 21, 3) := dq_181 (a := 0) (b := 21) (by decide +kernel) rfl
theorem dX12_init_72 : decode cX12_init 72 = .ok (.aload_n 0, 1) := dq_42 (by decide +kernel)
theorem dX12_init_73 : decode cX12_init 73 = .ok (.iconst 4, 1) := dq_7 (by decide +kernel)
theorem dX12_init_76 : decode cX12_init 76 = .ok (.dup, 1) := dq_89 (by decide +kernel)
theorem dX12_init_77 : decode cX12_init 77 = .ok (.iconst 0, 1) := dq_3 (by decide +kernel)
theorem dX12_init_78 : decode cX12_init 78 = .ok (.bipush 119, 2) := dq_16 (a := 119) (by decide +kernel) (by decide +kernel)
theorem dX12_init_80 : decode cX12_init 80 = .ok (.castore, 1) := dq_85 (by decide +kernel)
theorem dX12_init_81 : decode cX12_init 81 = .ok (.dup, 1) := dq_89 (by decide +kernel)
theorem dX12_init_82 : decode cX12_init 82 = .ok (.iconst 1, 1) := dq_4 (by decide +kernel)
theorem dX12_init_83 : decode cX12_init 83 = .ok (.bipush 111, 2) := dq_16 (a := 111) (by decide +kernel) (by decide +kernel)
theorem dX12_init_85 : decode cX12_init 85 = .ok (.castore, 1) := dq_85 (by decide +kernel)
theorem dX12_init_86 : decode cX12_init 86 = .ok (.dup, 1) := dq_89 (by decide +kernel)
theorem dX12_init_87 : decode cX12_init 87 = .ok (.iconst 2, 1) := dq_5 (by decide +kernel)
theorem dX12_init_88 : decode cX12_init 88 = .ok (.bipush 114, 2) := dq_16 (a := 114) (by decide +kernel) (by decide +kernel)
theorem dX12_init_90 : decode cX12_init 90 = .ok (.castore, 1) := dq_85 (by decide +kernel)
theorem dX12_init_91 : decode cX12_init 91 = .ok (.dup, 1) := dq_89 (by decide +kernel)
theorem dX12_init_92 : decode cX12_init 92 = .ok (.iconst 3, 1) := dq_6 (by decide +kernel)
theorem dX12_init_93 : decode cX12_init 93 = .ok (.bipush 100, 2) := dq_16 (a := 100) (by decide +kernel) (by decide +kernel)
theorem dX12_init_95 : decode cX12_init 95 = .ok (.castore, 1) := dq_85 (by decide +kernel)
theorem dX12_init_96 : decode cX12_init 96 = .ok (.putfield 24, 3) := dq_181 (a := 0) (b := 24) (by decide +kernel) rfl
theorem dX12_init_99 : decode cX12_init 99 = .ok (.aload_n 0, 1) := dq_42 (by decide +kernel)
theorem dX12_init_100 : decode cX12_init 100 = .ok (.iconst 5, 1) := dq_8 (by decide +kernel)
theorem dX12_init_103 : decode cX12_init 103 = .ok (.dup, 1) := dq_89 (by decide +kernel)
theorem dX12_init_104 : decode cX12_init 104 = .ok (.iconst 0, 1) := dq_3 (by decide +kernel)
theorem dX12_init_105 : decode cX12_init 105 = .ok (.bipush 119, 2) := dq_16 (a := 119) (by decide +kernel) (by decide +kernel)
theorem dX12_init_107 : decode cX12_init 107 = .ok (.castore, 1) := dq_85 (by decide +kernel)
theorem dX12_init_108 : decode cX12_init 108 = .ok (.dup, 1) := dq_89 (by decide +kernel)
theorem dX12_init_109 : decode cX12_init 109 = .ok (.iconst 1, 1) := dq_4 (by decide +kernel)
theorem dX12_init_110 : decode cX12_init 110 = .ok (.bipush 111, 2) := dq_16 (a := 111) (by decide +kernel) (by decide +kernel)
theorem dX12_init_112 : decode cX12_init 112 = .ok (.castore, 1) := dq_85 (by decide +kernel)
theorem dX12_init_113 : decode cX12_init 113 = .ok (.dup, 1) := dq_89 (by decide +kernel)
theorem dX12_init_114 : decode cX12_init 114 = .ok (.iconst 2, 1) := dq_5 (by decide +kernel)
theorem dX12_init_115 : decode cX12_init 115 = .ok (.bipush 114, 2) := dq_16 (a := 114) (by decide +kernel) (by decide +kernel)
theorem dX12_init_117 : decode cX12_init 117 = .ok (.castore, 1) := dq_85 (by decide +kernel)
theorem dX12_init_118 : decode cX12_init 118 = .ok (.dup, 1) := dq_89 (by decide +kernel)
theorem dX12_init_119 : decode cX12_init 119 = .ok (.iconst 3, 1) := dq_6 (by decide +kernel)
theorem dX12_init_120 : decode cX12_init 120 = .ok (.bipush 116, 2) := dq_16 (a := 116) (by decide +kernel) (by decide +kernel)
theorem dX12_init_122 : decode cX12_init 122 = .ok (.castore, 1) := dq_85 (by decide +kernel)
theorem dX12_init_123 : decode cX12_init 123 = .ok (.dup, 1) := dq_89 (by decide +kernel)
theorem dX12_init_124 : decode cX12_init 124 = .ok (.iconst 4, 1) := dq_7 (by decide +kernel)
theorem dX12_init_125 : decode cX12_init 125 = .ok (.bipush 104, 2) := dq_16 (a := 104) (by decide +kernel) (by decide +kernel)
theorem dX12_init_127 : decode cX12_init 127 = .ok (.castore, 1) := dq_85 (by decide +kernel)
theorem dX12_init_128 : decode cX12_init 128 = .ok (.putfield 27, 3) := dq_181 (a := 0) (b := 27) (by decide +kernel) rfl
theorem dX12_init_131 : decode cX12_init 131 = .ok (.aload_n 0, 1) := dq_42 (by decide +kernel)
theorem dX12_init_132 : decode cX12_init 132 = .ok (.iconst 5, 1) := dq_8 (by decide +kernel)
theorem dX12_init_135 : decode cX12_init 135 = .ok (.dup, 1) := dq_89 (by decide +kernel)
theorem dX12_init_136 : decode cX12_init 136 = .ok (.iconst 0, 1) := dq_3 (by decide +kernel)
theorem dX12_init_137 : decode cX12_init 137 = .ok (.bipush 108, 2) := dq_16 (a := 108) (by decide +kernel) (by decide +kernel)
theorem dX12_init_139 : decode cX12_init 139 = .ok (.castore, 1) := dq_85 (by decide +kernel)
theorem dX12_init_140 : decode cX12_init 140 = .ok (.dup, 1) := dq_89 (by decide +kernel)
theorem dX12_init_141 : decode cX12_init 141 = .ok (.iconst 1, 1) := dq_4 (by decide +kernel)
theorem dX12_init_142 : decode cX12_init 142 = .ok (.bipush 105, 2) := dq_16 (a := 105) (by decide +kernel) (by decide +kernel)
theorem dX12_init_144 : decode cX12_init 144 = .ok (.castore, 1) := dq_85 (by decide +kernel)
theorem dX12_init_145 : decode cX12_init 145 = .ok (.dup, 1) := dq_89 (by decide +kernel)
theorem dX12_init_146 : decode cX12_init 146 = .ok (.iconst 2, 1) := dq_5 (by decide +kernel)
theorem dX12_init_147 : decode cX12_init 147 = .ok (.bipush 109, 2) := dq_16 (a := 109) (by decide +kernel) (by decide +kernel)
theorem dX12_init_149 : decode cX12_init 149 = .ok (.castore, 1) := dq_85 (by decide +kernel)
theorem dX12_init_150 : decode cX12_init 150 = .ok (.dup, 1) := dq_89 (by decide +kernel)
theorem dX12_init_151 : decode cX12_init 151 = .ok (.iconst 3, 1) := dq_6 (by decide +kernel)
theorem dX12_init_152 : decode cX12_init 152 = .ok (.bipush 105, 2) := dq_16 (a := 105) (by decide +kernel) (by decide +kernel)
theorem dX12_init_154 : decode cX12_init 154 = .ok (.castore, 1) := dq_85 (by decide +kernel)
theorem dX12_init_155 : decode cX12_init 155 = .ok (.dup, 1) := dq_89 (by decide +kernel)
theorem dX12_init_156 : decode cX12_init 156 = .ok (.iconst 4, 1) := dq_7 (by decide +kernel)
theorem dX12_init_157 : decode cX12_init 157 = .ok (.bipush 116, 2) := dq_16 (a := 116) (by decide +kernel) (by decide +kernel)
theorem dX12_init_159 : decode cX12_init 159 = .ok (.castore, 1) := dq_85 (by decide +kernel)
theorem dX12_init_160 : decode cX12_init 160 = .ok (.putfield 30, 3) := dq_181 (a := 0) (b := 30) (by decide +kernel) rfl
theorem dX12_init_163 : decode cX12_init 163 = .ok (.aload_n 0, 1) := dq_42 (by decide +kernel)
theorem dX12_init_164 : decode cX12_init 164 = .ok (.iconst 4, 1) := dq_7 (by decide +kernel)
theorem dX12_init_167 : decode cX12_init 167 = .ok (.dup, 1) := dq_89 (by decide +kernel)
theorem dX12_init_168 : decode cX12_init 168 = .ok (.iconst 0, 1) := dq_3 (by decide +kernel)
theorem dX12_init_169 : decode cX12_init 169 = .ok (.bipush 119, 2) := dq_16 (a := 119) (by decide +kernel) (by decide +kernel)
theorem dX12_init_171 : decode cX12_init 171 = .ok (.castore, 1) := dq_85 (by decide +kernel)
theorem dX12_init_172 : decode cX12_init 172 = .ok (.dup, 1) := dq_89 (by decide +kernel)
theorem dX12_init_173 : decode cX12_init 173 = .ok (.iconst 1, 1) := dq_4 (by decide +kernel)
theorem dX12_init_174 : decode cX12_init 174 = .ok (.bipush 104, 2) := dq_16 (a := 104) (by decide +kernel) (by decide +kernel)
theorem dX12_init_176 : decode cX12_init 176 = .ok (.castore, 1) := dq_85 (by decide +kernel)
theorem dX12_init_177 : decode cX12_init 177 = .ok (.dup, 1) := dq_89 (by decide +kernel)
theorem dX12_init_178 : decode cX12_init 178 = .ok (.iconst 2, 1) := dq_5 (by decide +kernel)
theorem dX12_init_179 : decode cX12_init 179 = .ok (.bipush 101, 2) := dq_16 (a := 101) (by decide +kernel) (by decide +kernel)
theorem dX12_init_181 : decode cX12_init 181 = .ok (.castore, 1) := dq_85 (by decide +kernel)
theorem lw_d_cX12_init_192 : lw_dl cX12_init [(192, .newarray .char, 2), (209, .newarray .char, 2), (231, .newarray .char, 2), (253, .newarray .char, 2), (276, .newarray .char, 2), (314, .newarray .char, 2), (351, .newarray .char, 2), (378, .newarray .char, 2), (400, .newarray .char, 2), (430, .newarray .int, 2), (438, .newarray .int, 2), (447, .newarray .int, 2), (456, .newarray .int, 2), (465, .newarray .int, 2), (472, .newarray .int, 2), (480, .newarray .int, 2), (488, .newarray .int, 2), (496, .newarray .int, 2), (505, .newarray .long, 2), (513, .newarray .int, 2), (521, .newarray .int, 2), (528, .newarray .int, 2), (536, .newarray .long, 2), (544, .newarray .int, 2), (551, .newarray .int, 2), (558, .newarray .int, 2), (566, .newarray .long, 2), (574, .newarray .long, 2), (583, .newarray .int, 2), (592, .newarray .int, 2), (601, .newarray .int, 2), (608, .newarray .int, 2), (615, .newarray .int, 2), (622, .newarray .int, 2), (629, .newarray .int, 2), (637, .newarray .int, 2)] = true := by decide +kernel
theorem dX12_init_192 : decode cX12_init 192 = .ok (.newarray .char, 2) := lw_dr lw_d_cX12_init_192 0 rfl
theorem dX12_init_209 : decode cX12_init 209 = .ok (.newarray .char, 2) := lw_dr lw_d_cX12_init_192 1 rfl
theorem dX12_init_231 : decode cX12_init 231 = .ok (.newarray .char, 2) := lw_dr lw_d_cX12_init_192 2 rfl
theorem dX12_init_253 : decode cX12_init 253 = .ok (.newarray .char, 2) := lw_dr lw_d_cX12_init_192 3 rfl
theorem dX12_init_276 : decode cX12_init 276 = .ok (.newarray .char, 2) := lw_dr lw_d_cX12_init_192 4 rfl
theorem dX12_init_314 : decode cX12_init 314 = .ok (.newarray .char, 2) := lw_dr lw_d_cX12_init_192 5 rfl
theorem dX12_init_351 : decode cX12_init 351 = .ok (.newarray .char, 2) := lw_dr lw_d_cX12_init_192 6 rfl
theorem dX12_init_378 : decode cX12_init 378 = .ok (.newarray .char, 2) := lw_dr lw_d_cX12_init_192 7 rfl
theorem dX12_init_400 : decode cX12_init 400 = .ok (.newarray .char, 2) := lw_dr lw_d_cX12_init_192 8 rfl
theorem dX12_init_430 : decode cX12_init 430 = .ok (.newarray .int, 2) := lw_dr lw_d_cX12_init_192 9 rfl
theorem dX12_init_438 : decode cX12_init 438 = .ok (.newarray .int, 2) := lw_dr lw_d_cX12_init_192 10 rfl
theorem dX12_init_447 : decode cX12_init 447 = .ok (.newarray .int, 2) := lw_dr lw_d_cX12_init_192 11 rfl
theorem dX12_init_456 : decode cX12_init 456 = .ok (.newarray .int, 2) := lw_dr lw_d_cX12_init_192 12 rfl
theorem dX12_init_465 : decode cX12_init 465 = .ok (.newarray .int, 2) := lw_dr lw_d_cX12_init_192 13 rfl
theorem dX12_init_472 : decode cX12_init 472 = .ok (.newarray .int, 2) := lw_dr lw_d_cX12_init_192 14 rfl
theorem dX12_init_480 : decode cX12_init 480 = .ok (.newarray .int, 2) := lw_dr lw_d_cX12_init_192 15 rfl
theorem dX12_init_488 : decode cX12_init 488 = .ok (.newarray .int, 2) := lw_dr lw_d_cX12_init_192 16 rfl
theorem dX12_init_496 : decode cX12_init 496 = .ok (.newarray .int, 2) := lw_dr lw_d_cX12_init_192 17 rfl
theorem dX12_init_505 : decode cX12_init 505 = .ok (.newarray .long, 2) := lw_dr lw_d_cX12_init_192 18 rfl
theorem dX12_init_513 : decode cX12_init 513 = .ok (.newarray .int, 2) := lw_dr lw_d_cX12_init_192 19 rfl
theorem dX12_init_521 : decode cX12_init 521 = .ok (.newarray .int, 2) := lw_dr lw_d_cX12_init_192 20 rfl
theorem dX12_init_528 : decode cX12_init 528 = .ok (.newarray .int, 2) := lw_dr lw_d_cX12_init_192 21 rfl
theorem dX12_init_536 : decode cX12_init 536 = .ok (.newarray .long, 2) := lw_dr lw_d_cX12_init_192 22 rfl
theorem dX12_init_544 : decode cX12_init 544 = .ok (.newarray .int, 2) := lw_dr lw_d_cX12_init_192 23 rfl
theorem dX12_init_551 : decode cX12_init 551 = .ok (.newarray .int, 2) := lw_dr lw_d_cX12_init_192 24 rfl
theorem dX12_init_558 : decode cX12_init 558 = .ok (.newarray .int, 2) := lw_dr lw_d_cX12_init_192 25 rfl
theorem dX12_init_566 : decode cX12_init 566 = .ok (.newarray .long, 2) := lw_dr lw_d_cX12_init_192 26 rfl
theorem dX12_init_574 : decode cX12_init 574 = .ok (.newarray .long, 2) := lw_dr lw_d_cX12_init_192 27 rfl
theorem dX12_init_583 : decode cX12_init 583 = .ok (.newarray .int, 2) := lw_dr lw_d_cX12_init_192 28 rfl
theorem dX12_init_592 : decode cX12_init 592 = .ok (.newarray .int, 2) := lw_dr lw_d_cX12_init_192 29 rfl
theorem dX12_init_601 : decode cX12_init 601 = .ok (.newarray .int, 2) := lw_dr lw_d_cX12_init_192 30 rfl
theorem dX12_init_608 : decode cX12_init 608 = .ok (.newarray .int, 2) := lw_dr lw_d_cX12_init_192 31 rfl
theorem dX12_init_615 : decode cX12_init 615 = .ok (.newarray .int, 2) := lw_dr lw_d_cX12_init_192 32 rfl
theorem dX12_init_622 : decode cX12_init 622 = .ok (.newarray .int, 2) := lw_dr lw_d_cX12_init_192 33 rfl
theorem dX12_init_629 : decode cX12_init 629 = .ok (.newarray .int, 2) := lw_dr lw_d_cX12_init_192 34 rfl
theorem dX12_init_637 : decode cX12_init 637 = .ok (.newarray .int, 2) := lw_dr lw_d_cX12_init_192 35 rfl
theorem dX12_init_182 : decode cX12_init 182 = .ok (.dup, 1) := dq_89 (by decide +kernel)
theorem dX12_init_183 : decode cX12_init 183 = .ok (.iconst 3, 1) := dq_6 (by decide +kernel)
theorem dX12_init_184 : decode cX12_init 184 = .ok (.bipush 110, 2) := dq_16 (a := 110) (by decide +kernel) (by decide +kernel)
theorem dX12_init_186 : decode cX12_init 186 = .ok (.castore, 1) := dq_85 (by decide +kernel)
theorem dX12_init_187 : decode cX12_init 187 = .ok (.putfield 33, 3) := dq_181 (a := 0) (b := 33) (by decide +kernel) rfl
theorem dX12_init_190 : decode cX12_init 190 = .ok (.aload_n 0, 1) := dq_42 (by decide +kernel)
theorem dX12_init_191 : decode cX12_init 191 = .ok (.iconst 2, 1) := dq_5 (by decide +kernel)
theorem dX12_init_194 : decode cX12_init 194 = .ok (.dup, 1) := dq_89 (by decide +kernel)
theorem dX12_init_195 : decode cX12_init 195 = .ok (.iconst 0, 1) := dq_3 (by decide +kernel)
theorem dX12_init_196 : decode cX12_init 196 = .ok (.bipush 111, 2) := dq_16 (a := 111) (by decide +kernel) (by decide +kernel)
theorem dX12_init_198 : decode cX12_init 198 = .ok (.castore, 1) := dq_85 (by decide +kernel)
theorem dX12_init_199 : decode cX12_init 199 = .ok (.dup, 1) := dq_89 (by decide +kernel)
theorem dX12_init_200 : decode cX12_init 200 = .ok (.iconst 1, 1) := dq_4 (by decide +kernel)
theorem dX12_init_201 : decode cX12_init 201 = .ok (.bipush 114, 2) := dq_16 (a := 114) (by decide +kernel) (by decide +kernel)
theorem dX12_init_203 : decode cX12_init 203 = .ok (.castore, 1) := dq_85 (by decide +kernel)
theorem dX12_init_204 : decode cX12_init 204 = .ok (.putfield 36, 3) := dq_181 (a := 0) (b := 36) (by decide +kernel) rfl
theorem dX12_init_207 : decode cX12_init 207 = .ok (.aload_n 0, 1) := dq_42 (by decide +kernel)
theorem dX12_init_208 : decode cX12_init 208 = .ok (.iconst 3, 1) := dq_6 (by decide +kernel)
theorem dX12_init_211 : decode cX12_init 211 = .ok (.dup, 1) := dq_89 (by decide +kernel)
theorem dX12_init_212 : decode cX12_init 212 = .ok (.iconst 0, 1) := dq_3 (by decide +kernel)
theorem dX12_init_213 : decode cX12_init 213 = .ok (.bipush 97, 2) := dq_16 (a := 97) (by decide +kernel) (by decide +kernel)
theorem dX12_init_215 : decode cX12_init 215 = .ok (.castore, 1) := dq_85 (by decide +kernel)
theorem dX12_init_216 : decode cX12_init 216 = .ok (.dup, 1) := dq_89 (by decide +kernel)
theorem dX12_init_217 : decode cX12_init 217 = .ok (.iconst 1, 1) := dq_4 (by decide +kernel)
theorem dX12_init_218 : decode cX12_init 218 = .ok (.bipush 110, 2) := dq_16 (a := 110) (by decide +kernel) (by decide +kernel)
theorem dX12_init_220 : decode cX12_init 220 = .ok (.castore, 1) := dq_85 (by decide +kernel)
theorem dX12_init_221 : decode cX12_init 221 = .ok (.dup, 1) := dq_89 (by decide +kernel)
theorem dX12_init_222 : decode cX12_init 222 = .ok (.iconst 2, 1) := dq_5 (by decide +kernel)
theorem dX12_init_223 : decode cX12_init 223 = .ok (.bipush 100, 2) := dq_16 (a := 100) (by decide +kernel) (by decide +kernel)
theorem dX12_init_225 : decode cX12_init 225 = .ok (.castore, 1) := dq_85 (by decide +kernel)
theorem dX12_init_226 : decode cX12_init 226 = .ok (.putfield 39, 3) := dq_181 (a := 0) (b := 39) (by decide +kernel) rfl
theorem dX12_init_229 : decode cX12_init 229 = .ok (.aload_n 0, 1) := dq_42 (by decide +kernel)
theorem dX12_init_230 : decode cX12_init 230 = .ok (.iconst 3, 1) := dq_6 (by decide +kernel)
theorem dX12_init_233 : decode cX12_init 233 = .ok (.dup, 1) := dq_89 (by decide +kernel)
theorem dX12_init_234 : decode cX12_init 234 = .ok (.iconst 0, 1) := dq_3 (by decide +kernel)
theorem dX12_init_235 : decode cX12_init 235 = .ok (.bipush 110, 2) := dq_16 (a := 110) (by decide +kernel) (by decide +kernel)
theorem dX12_init_237 : decode cX12_init 237 = .ok (.castore, 1) := dq_85 (by decide +kernel)
theorem dX12_init_238 : decode cX12_init 238 = .ok (.dup, 1) := dq_89 (by decide +kernel)
theorem dX12_init_239 : decode cX12_init 239 = .ok (.iconst 1, 1) := dq_4 (by decide +kernel)
theorem dX12_init_240 : decode cX12_init 240 = .ok (.bipush 111, 2) := dq_16 (a := 111) (by decide +kernel) (by decide +kernel)
theorem dX12_init_242 : decode cX12_init 242 = .ok (.castore, 1) := dq_85 (by decide +kernel)
theorem dX12_init_243 : decode cX12_init 243 = .ok (.dup, 1) := dq_89 (by decide +kernel)
theorem dX12_init_244 : decode cX12_init 244 = .ok (.iconst 2, 1) := dq_5 (by decide +kernel)
theorem dX12_init_245 : decode cX12_init 245 = .ok (.bipush 116, 2) := dq_16 (a := 116) (by decide +kernel) (by decide +kernel)
theorem dX12_init_247 : decode cX12_init 247 = .ok (.castore, 1) := dq_85 (by decide +kernel)
theorem dX12_init_248 : decode cX12_init 248 = .ok (.putfield 42, 3) := dq_181 (a := 0) (b := 42) (by decide +kernel) rfl
theorem dX12_init_251 : decode cX12_init 251 = .ok (.aload_n 0, 1) := dq_42 (by decide +kernel)
theorem dX12_init_252 : decode cX12_init 252 = .ok (.iconst 3, 1) := dq_6 (by decide +kernel)
theorem dX12_init_255 : decode cX12_init 255 = .ok (.dup, 1) := dq_89 (by decide +kernel)
theorem dX12_init_256 : decode cX12_init 256 = .ok (.iconst 0, 1) := dq_3 (by decide +kernel)
theorem dX12_init_257 : decode cX12_init 257 = .ok (.bipush 97, 2) := dq_16 (a := 97) (by decide +kernel) (by decide +kernel)
theorem dX12_init_259 : decode cX12_init 259 = .ok (.castore, 1) := dq_85 (by decide +kernel)
theorem dX12_init_260 : decode cX12_init 260 = .ok (.dup, 1) := dq_89 (by decide +kernel)
theorem dX12_init_261 : decode cX12_init 261 = .ok (.iconst 1, 1) := dq_4 (by decide +kernel)
theorem dX12_init_262 : decode cX12_init 262 = .ok (.bipush 108, 2) := dq_16 (a := 108) (by decide +kernel) (by decide +kernel)
theorem dX12_init_264 : decode cX12_init 264 = .ok (.castore, 1) := dq_85 (by decide +kernel)
theorem dX12_init_265 : decode cX12_init 265 = .ok (.dup, 1) := dq_89 (by decide +kernel)
theorem dX12_init_266 : decode cX12_init 266 = .ok (.iconst 2, 1) := dq_5 (by decide +kernel)
theorem dX12_init_267 : decode cX12_init 267 = .ok (.bipush 108, 2) := dq_16 (a := 108) (by decide +kernel) (by decide +kernel)
theorem dX12_init_269 : decode cX12_init 269 = .ok (.castore, 1) := dq_85 (by decide +kernel)
theorem dX12_init_270 : decode cX12_init 270 = .ok (.putfield 45, 3) := dq_181 (a := 0) (b := 45) (by decide +kernel) rfl
theorem dX12_init_273 : decode cX12_init 273 = .ok (.aload_n 0, 1) := dq_42 (by decide +kernel)
theorem dX12_init_274 : decode cX12_init 274 = .ok (.bipush 6, 2) := dq_16 (a := 6) (by decide +kernel) (by decide +kernel)
theorem dX12_init_278 : decode cX12_init 278 = .ok (.dup, 1) := dq_89 (by decide +kernel)
theorem dX12_init_279 : decode cX12_init 279 = .ok (.iconst 0, 1) := dq_3 (by decide +kernel)
theorem dX12_init_280 : decode cX12_init 280 = .ok (.bipush 115, 2) := dq_16 (a := 115) (by decide +kernel) (by decide +kernel)
theorem dX12_init_282 : decode cX12_init 282 = .ok (.castore, 1) := dq_85 (by decide +kernel)
theorem dX12_init_283 : decode cX12_init 283 = .ok (.dup, 1) := dq_89 (by decide +kernel)
theorem dX12_init_284 : decode cX12_init 284 = .ok (.iconst 1, 1) := dq_4 (by decide +kernel)
theorem dX12_init_285 : decode cX12_init 285 = .ok (.bipush 101, 2) := dq_16 (a := 101) (by decide +kernel) (by decide +kernel)
theorem dX12_init_287 : decode cX12_init 287 = .ok (.castore, 1) := dq_85 (by decide +kernel)
theorem dX12_init_288 : decode cX12_init 288 = .ok (.dup, 1) := dq_89 (by decide +kernel)
theorem dX12_init_289 : decode cX12_init 289 = .ok (.iconst 2, 1) := dq_5 (by decide +kernel)
theorem dX12_init_290 : decode cX12_init 290 = .ok (.bipush 110, 2) := dq_16 (a := 110) (by decide +kernel) (by decide +kernel)
theorem dX12_init_292 : decode cX12_init 292 = .ok (.castore, 1) := dq_85 (by decide +kernel)
theorem dX12_init_293 : decode cX12_init 293 = .ok (.dup, 1) := dq_89 (by decide +kernel)
theorem dX12_init_294 : decode cX12_init 294 = .ok (.iconst 3, 1) := dq_6 (by decide +kernel)
theorem dX12_init_295 : decode cX12_init 295 = .ok (.bipush 100, 2) := dq_16 (a := 100) (by decide +kernel) (by decide +kernel)
theorem dX12_init_297 : decode cX12_init 297 = .ok (.castore, 1) := dq_85 (by decide +kernel)
theorem dX12_init_298 : decode cX12_init 298 = .ok (.dup, 1) := dq_89 (by decide +kernel)
theorem dX12_init_299 : decode cX12_init 299 = .ok (.iconst 4, 1) := dq_7 (by decide +kernel)
theorem dX12_init_300 : decode cX12_init 300 = .ok (.bipush 101, 2) := dq_16 (a := 101) (by decide +kernel) (by decide +kernel)
theorem dX12_init_302 : decode cX12_init 302 = .ok (.castore, 1) := dq_85 (by decide +kernel)
theorem dX12_init_303 : decode cX12_init 303 = .ok (.dup, 1) := dq_89 (by decide +kernel)
theorem dX12_init_304 : decode cX12_init 304 = .ok (.iconst 5, 1) := dq_8 (by decide +kernel)
theorem dX12_init_305 : decode cX12_init 305 = .ok (.bipush 114, 2) := dq_16 (a := 114) (by decide +kernel) (by decide +kernel)
theorem dX12_init_307 : decode cX12_init 307 = .ok (.castore, 1) := dq_85 (by decide +kernel)
theorem dX12_init_308 : decode cX12_init 308 = .ok (.putfield 48, 3) := dq_181 (a := 0) (b := 48) (by decide +kernel) rfl
theorem dX12_init_311 : decode cX12_init 311 = .ok (.aload_n 0, 1) := dq_42 (by decide +kernel)
theorem dX12_init_312 : decode cX12_init 312 = .ok (.bipush 6, 2) := dq_16 (a := 6) (by decide +kernel) (by decide +kernel)
theorem dX12_init_316 : decode cX12_init 316 = .ok (.dup, 1) := dq_89 (by decide +kernel)
theorem dX12_init_317 : decode cX12_init 317 = .ok (.iconst 0, 1) := dq_3 (by decide +kernel)
theorem dX12_init_318 : decode cX12_init 318 = .ok (.bipush 115, 2) := dq_16 (a := 115) (by decide +kernel) (by decide +kernel)
theorem dX12_init_320 : decode cX12_init 320 = .ok (.castore, 1) := dq_85 (by decide +kernel)
theorem dX12_init_321 : decode cX12_init 321 = .ok (.dup, 1) := dq_89 (by decide +kernel)
theorem dX12_init_322 : decode cX12_init 322 = .ok (.iconst 1, 1) := dq_4 (by decide +kernel)
theorem dX12_init_323 : decode cX12_init 323 = .ok (.bipush 113, 2) := dq_16 (a := 113) (by decide +kernel) (by decide +kernel)
theorem dX12_init_325 : decode cX12_init 325 = .ok (.castore, 1) := dq_85 (by decide +kernel)
theorem dX12_init_326 : decode cX12_init 326 = .ok (.dup, 1) := dq_89 (by decide +kernel)
theorem dX12_init_327 : decode cX12_init 327 = .ok (.iconst 2, 1) := dq_5 (by decide +kernel)
theorem dX12_init_328 : decode cX12_init 328 = .ok (.bipush 117, 2) := dq_16 (a := 117) (by decide +kernel) (by decide +kernel)
theorem dX12_init_330 : decode cX12_init 330 = .ok (.castore, 1) := dq_85 (by decide +kernel)
theorem dX12_init_331 : decode cX12_init 331 = .ok (.dup, 1) := dq_89 (by decide +kernel)
theorem dX12_init_332 : decode cX12_init 332 = .ok (.iconst 3, 1) := dq_6 (by decide +kernel)
theorem dX12_init_333 : decode cX12_init 333 = .ok (.bipush 97, 2) := dq_16 (a := 97) (by decide +kernel) (by decide +kernel)
theorem dX12_init_335 : decode cX12_init 335 = .ok (.castore, 1) := dq_85 (by decide +kernel)
theorem dX12_init_336 : decode cX12_init 336 = .ok (.dup, 1) := dq_89 (by decide +kernel)
theorem dX12_init_337 : decode cX12_init 337 = .ok (.iconst 4, 1) := dq_7 (by decide +kernel)
theorem dX12_init_338 : decode cX12_init 338 = .ok (.bipush 114, 2) := dq_16 (a := 114) (by decide +kernel) (by decide +kernel)
theorem dX12_init_340 : decode cX12_init 340 = .ok (.castore, 1) := dq_85 (by decide +kernel)
theorem dX12_init_341 : decode cX12_init 341 = .ok (.dup, 1) := dq_89 (by decide +kernel)
theorem dX12_init_342 : decode cX12_init 342 = .ok (.iconst 5, 1) := dq_8 (by decide +kernel)
theorem dX12_init_343 : decode cX12_init 343 = .ok (.bipush 101, 2) := dq_16 (a := 101) (by decide +kernel) (by decide +kernel)
theorem dX12_init_345 : decode cX12_init 345 = .ok (.castore, 1) := dq_85 (by decide +kernel)
theorem dX12_init_346 : decode cX12_init 346 = .ok (.putfield 51, 3) := dq_181 (a := 0) (b := 51) (by decide +kernel) rfl
theorem dX12_init_349 : decode cX12_init 349 = .ok (.aload_n 0, 1) := dq_42 (by decide +kernel)
theorem dX12_init_350 : decode cX12_init 350 = .ok (.iconst 4, 1) := dq_7 (by decide +kernel)
theorem dX12_init_353 : decode cX12_init 353 = .ok (.dup, 1) := dq_89 (by decide +kernel)
theorem dX12_init_354 : decode cX12_init 354 = .ok (.iconst 0, 1) := dq_3 (by decide +kernel)
theorem dX12_init_355 : decode cX12_init 355 = .ok (.bipush 112, 2) := dq_16 (a := 112) (by decide +kernel) (by decide +kernel)
theorem dX12_init_357 : decode cX12_init 357 = .ok (.castore, 1) := dq_85 (by decide +kernel)
theorem dX12_init_358 : decode cX12_init 358 = .ok (.dup, 1) := dq_89 (by decide +kernel)
theorem dX12_init_359 : decode cX12_init 359 = .ok (.iconst 1, 1) := dq_4 (by decide +kernel)
theorem dX12_init_360 : decode cX12_init 360 = .ok (.bipush 101, 2) := dq_16 (a := 101) (by decide +kernel) (by decide +kernel)
theorem dX12_init_362 : decode cX12_init 362 = .ok (.castore, 1) := dq_85 (by decide +kernel)
theorem dX12_init_363 : decode cX12_init 363 = .ok (.dup, 1) := dq_89 (by decide +kernel)
theorem dX12_init_364 : decode cX12_init 364 = .ok (.iconst 2, 1) := dq_5 (by decide +kernel)
theorem dX12_init_365 : decode cX12_init 365 = .ok (.bipush 97, 2) := dq_16 (a := 97) (by decide +kernel) (by decide +kernel)
theorem dX12_init_367 : decode cX12_init 367 = .ok (.castore, 1) := dq_85 (by decide +kernel)
theorem dX12_init_368 : decode cX12_init 368 = .ok (.dup, 1) := dq_89 (by decide +kernel)
theorem dX12_init_369 : decode cX12_init 369 = .ok (.iconst 3, 1) := dq_6 (by decide +kernel)
theorem dX12_init_370 : decode cX12_init 370 = .ok (.bipush 107, 2) := dq_16 (a := 107) (by decide +kernel) (by decide +kernel)
theorem dX12_init_372 : decode cX12_init 372 = .ok (.castore, 1) := dq_85 (by decide +kernel)
theorem dX12_init_373 : decode cX12_init 373 = .ok (.putfield 54, 3) := dq_181 (a := 0) (b := 54) (by decide +kernel) rfl
theorem dX12_init_376 : decode cX12_init 376 = .ok (.aload_n 0, 1) := dq_42 (by decide +kernel)
theorem dX12_init_377 : decode cX12_init 377 = .ok (.iconst 3, 1) := dq_6 (by decide +kernel)
theorem dX12_init_380 : decode cX12_init 380 = .ok (.dup, 1) := dq_89 (by decide +kernel)
theorem dX12_init_381 : decode cX12_init 381 = .ok (.iconst 0, 1) := dq_3 (by decide +kernel)
theorem dX12_init_382 : decode cX12_init 382 = .ok (.bipush 109, 2) := dq_16 (a := 109) (by decide +kernel) (by decide +kernel)
theorem dX12_init_384 : decode cX12_init 384 = .ok (.castore, 1) := dq_85 (by decide +kernel)
theorem dX12_init_385 : decode cX12_init 385 = .ok (.dup, 1) := dq_89 (by decide +kernel)
theorem dX12_init_386 : decode cX12_init 386 = .ok (.iconst 1, 1) := dq_4 (by decide +kernel)
theorem dX12_init_387 : decode cX12_init 387 = .ok (.bipush 105, 2) := dq_16 (a := 105) (by decide +kernel) (by decide +kernel)
theorem dX12_init_389 : decode cX12_init 389 = .ok (.castore, 1) := dq_85 (by decide +kernel)
theorem dX12_init_390 : decode cX12_init 390 = .ok (.dup, 1) := dq_89 (by decide +kernel)
theorem dX12_init_391 : decode cX12_init 391 = .ok (.iconst 2, 1) := dq_5 (by decide +kernel)
theorem dX12_init_392 : decode cX12_init 392 = .ok (.bipush 110, 2) := dq_16 (a := 110) (by decide +kernel) (by decide +kernel)
theorem dX12_init_394 : decode cX12_init 394 = .ok (.castore, 1) := dq_85 (by decide +kernel)
theorem dX12_init_395 : decode cX12_init 395 = .ok (.putfield 57, 3) := dq_181 (a := 0) (b := 57) (by decide +kernel) rfl
theorem dX12_init_398 : decode cX12_init 398 = .ok (.aload_n 0, 1) := dq_42 (by decide +kernel)
theorem dX12_init_399 : decode cX12_init 399 = .ok (.iconst 3, 1) := dq_6 (by decide +kernel)
theorem dX12_init_402 : decode cX12_init 402 = .ok (.dup, 1) := dq_89 (by decide +kernel)
theorem dX12_init_403 : decode cX12_init 403 = .ok (.iconst 0, 1) := dq_3 (by decide +kernel)
theorem dX12_init_404 : decode cX12_init 404 = .ok (.bipush 109, 2) := dq_16 (a := 109) (by decide +kernel) (by decide +kernel)
theorem dX12_init_406 : decode cX12_init 406 = .ok (.castore, 1) := dq_85 (by decide +kernel)
theorem dX12_init_407 : decode cX12_init 407 = .ok (.dup, 1) := dq_89 (by decide +kernel)
theorem dX12_init_408 : decode cX12_init 408 = .ok (.iconst 1, 1) := dq_4 (by decide +kernel)
theorem dX12_init_409 : decode cX12_init 409 = .ok (.bipush 97, 2) := dq_16 (a := 97) (by decide +kernel) (by decide +kernel)
theorem dX12_init_411 : decode cX12_init 411 = .ok (.castore, 1) := dq_85 (by decide +kernel)
theorem dX12_init_412 : decode cX12_init 412 = .ok (.dup, 1) := dq_89 (by decide +kernel)
theorem dX12_init_413 : decode cX12_init 413 = .ok (.iconst 2, 1) := dq_5 (by decide +kernel)
theorem dX12_init_414 : decode cX12_init 414 = .ok (.bipush 120, 2) := dq_16 (a := 120) (by decide +kernel) (by decide +kernel)
theorem dX12_init_416 : decode cX12_init 416 = .ok (.castore, 1) := dq_85 (by decide +kernel)
theorem dX12_init_417 : decode cX12_init 417 = .ok (.putfield 60, 3) := dq_181 (a := 0) (b := 60) (by decide +kernel) rfl
theorem dX12_init_420 : decode cX12_init 420 = .ok (.aload_n 0, 1) := dq_42 (by decide +kernel)
theorem dX12_init_421 : decode cX12_init 421 = .ok (.sipush 9999, 3) := dq_17 (a := 39) (b := 15) (by decide +kernel) (by decide +kernel)
theorem dX12_init_424 : decode cX12_init 424 = .ok (.putfield 63, 3) := dq_181 (a := 0) (b := 63) (by decide +kernel) rfl
theorem dX12_init_427 : decode cX12_init 427 = .ok (.aload_n 0, 1) := dq_42 (by decide +kernel)
theorem dX12_init_428 : decode cX12_init 428 = .ok (.bipush 6, 2) := dq_16 (a := 6) (by decide +kernel) (by decide +kernel)
theorem dX12_init_432 : decode cX12_init 432 = .ok (.putfield 66, 3) := dq_181 (a := 0) (b := 66) (by decide +kernel) rfl
theorem dX12_init_435 : decode cX12_init 435 = .ok (.aload_n 0, 1) := dq_42 (by decide +kernel)
theorem dX12_init_436 : decode cX12_init 436 = .ok (.bipush 60, 2) := dq_16 (a := 60) (by decide +kernel) (by decide +kernel)
theorem dX12_init_440 : decode cX12_init 440 = .ok (.putfield 69, 3) := dq_181 (a := 0) (b := 69) (by decide +kernel) rfl
theorem dX12_init_443 : decode cX12_init 443 = .ok (.aload_n 0, 1) := dq_42 (by decide +kernel)
theorem dX12_init_444 : decode cX12_init 444 = .ok (.sipush 160, 3) := dq_17 (a := 0) (b := 160) (by decide +kernel) (by decide +kernel)
theorem dX12_init_449 : decode cX12_init 449 = .ok (.putfield 72, 3) := dq_181 (a := 0) (b := 72) (by decide +kernel) rfl
theorem dX12_init_452 : decode cX12_init 452 = .ok (.aload_n 0, 1) := dq_42 (by decide +kernel)
theorem dX12_init_453 : decode cX12_init 453 = .ok (.sipush 3200, 3) := dq_17 (a := 12) (b := 128) (by decide +kernel) (by decide +kernel)
theorem dX12_init_458 : decode cX12_init 458 = .ok (.putfield 75, 3) := dq_181 (a := 0) (b := 75) (by decide +kernel) rfl
theorem dX12_init_461 : decode cX12_init 461 = .ok (.aload_n 0, 1) := dq_42 (by decide +kernel)
theorem dX12_init_462 : decode cX12_init 462 = .ok (.sipush 1700, 3) := dq_17 (a := 6) (b := 164) (by decide +kernel) (by decide +kernel)
theorem dX12_init_467 : decode cX12_init 467 = .ok (.putfield 78, 3) := dq_181 (a := 0) (b := 78) (by decide +kernel) rfl
theorem dX12_init_470 : decode cX12_init 470 = .ok (.aload_n 0, 1) := dq_42 (by decide +kernel)
theorem dX12_init_471 : decode cX12_init 471 = .ok (.iconst 2, 1) := dq_5 (by decide +kernel)
theorem dX12_init_474 : decode cX12_init 474 = .ok (.putfield 81, 3) := dq_181 (a := 0) (b := 81) (by decide +kernel) rfl
theorem dX12_init_477 : decode cX12_init 477 = .ok (.aload_n 0, 1) := dq_42 (by decide +kernel)
theorem dX12_init_478 : decode cX12_init 478 = .ok (.bipush 16, 2) := dq_16 (a := 16) (by decide +kernel) (by decide +kernel)
theorem dX12_init_482 : decode cX12_init 482 = .ok (.putfield 84, 3) := dq_181 (a := 0) (b := 84) (by decide +kernel) rfl
theorem dX12_init_485 : decode cX12_init 485 = .ok (.aload_n 0, 1) := dq_42 (by decide +kernel)
theorem dX12_init_486 : decode cX12_init 486 = .ok (.bipush 16, 2) := dq_16 (a := 16) (by decide +kernel) (by decide +kernel)
theorem dX12_init_490 : decode cX12_init 490 = .ok (.putfield 87, 3) := dq_181 (a := 0) (b := 87) (by decide +kernel) rfl
theorem dX12_init_493 : decode cX12_init 493 = .ok (.aload_n 0, 1) := dq_42 (by decide +kernel)
theorem dX12_init_494 : decode cX12_init 494 = .ok (.bipush 16, 2) := dq_16 (a := 16) (by decide +kernel) (by decide +kernel)
theorem dX12_init_498 : decode cX12_init 498 = .ok (.putfield 90, 3) := dq_181 (a := 0) (b := 90) (by decide +kernel) rfl
theorem dX12_init_501 : decode cX12_init 501 = .ok (.aload_n 0, 1) := dq_42 (by decide +kernel)
theorem dX12_init_502 : decode cX12_init 502 = .ok (.sipush 1700, 3) := dq_17 (a := 6) (b := 164) (by decide +kernel) (by decide +kernel)
theorem dX12_init_507 : decode cX12_init 507 = .ok (.putfield 93, 3) := dq_181 (a := 0) (b := 93) (by decide +kernel) rfl
theorem dX12_init_510 : decode cX12_init 510 = .ok (.aload_n 0, 1) := dq_42 (by decide +kernel)
theorem dX12_init_511 : decode cX12_init 511 = .ok (.bipush 30, 2) := dq_16 (a := 30) (by decide +kernel) (by decide +kernel)
theorem dX12_init_515 : decode cX12_init 515 = .ok (.putfield 97, 3) := dq_181 (a := 0) (b := 97) (by decide +kernel) rfl
theorem dX12_init_518 : decode cX12_init 518 = .ok (.aload_n 0, 1) := dq_42 (by decide +kernel)
theorem dX12_init_519 : decode cX12_init 519 = .ok (.bipush 6, 2) := dq_16 (a := 6) (by decide +kernel) (by decide +kernel)
theorem dX12_init_523 : decode cX12_init 523 = .ok (.putfield 100, 3) := dq_181 (a := 0) (b := 100) (by decide +kernel) rfl
theorem dX12_init_526 : decode cX12_init 526 = .ok (.aload_n 0, 1) := dq_42 (by decide +kernel)
theorem dX12_init_527 : decode cX12_init 527 = .ok (.iconst 5, 1) := dq_8 (by decide +kernel)
theorem dX12_init_530 : decode cX12_init 530 = .ok (.putfield 103, 3) := dq_181 (a := 0) (b := 103) (by decide +kernel) rfl
theorem dX12_init_533 : decode cX12_init 533 = .ok (.aload_n 0, 1) := dq_42 (by decide +kernel)
theorem dX12_init_534 : decode cX12_init 534 = .ok (.bipush 10, 2) := dq_16 (a := 10) (by decide +kernel) (by decide +kernel)
theorem dX12_init_538 : decode cX12_init 538 = .ok (.putfield 106, 3) := dq_181 (a := 0) (b := 106) (by decide +kernel) rfl
theorem dX12_init_541 : decode cX12_init 541 = .ok (.aload_n 0, 1) := dq_42 (by decide +kernel)
theorem dX12_init_542 : decode cX12_init 542 = .ok (.bipush 10, 2) := dq_16 (a := 10) (by decide +kernel) (by decide +kernel)
theorem dX12_init_546 : decode cX12_init 546 = .ok (.putfield 109, 3) := dq_181 (a := 0) (b := 109) (by decide +kernel) rfl
theorem dX12_init_549 : decode cX12_init 549 = .ok (.aload_n 0, 1) := dq_42 (by decide +kernel)
theorem dX12_init_550 : decode cX12_init 550 = .ok (.iconst 5, 1) := dq_8 (by decide +kernel)
theorem dX12_init_553 : decode cX12_init 553 = .ok (.putfield 112, 3) := dq_181 (a := 0) (b := 112) (by decide +kernel) rfl
theorem dX12_init_556 : decode cX12_init 556 = .ok (.aload_n 0, 1) := dq_42 (by decide +kernel)
theorem dX12_init_557 : decode cX12_init 557 = .ok (.iconst 5, 1) := dq_8 (by decide +kernel)
theorem dX12_init_560 : decode cX12_init 560 = .ok (.putfield 115, 3) := dq_181 (a := 0) (b := 115) (by decide +kernel) rfl
theorem dX12_init_563 : decode cX12_init 563 = .ok (.aload_n 0, 1) := dq_42 (by decide +kernel)
theorem dX12_init_564 : decode cX12_init 564 = .ok (.bipush 6, 2) := dq_16 (a := 6) (by decide +kernel) (by decide +kernel)
theorem dX12_init_568 : decode cX12_init 568 = .ok (.putfield 118, 3) := dq_181 (a := 0) (b := 118) (by decide +kernel) rfl
theorem dX12_init_571 : decode cX12_init 571 = .ok (.aload_n 0, 1) := dq_42 (by decide +kernel)
theorem dX12_init_572 : decode cX12_init 572 = .ok (.bipush 25, 2) := dq_16 (a := 25) (by decide +kernel) (by decide +kernel)
theorem dX12_init_576 : decode cX12_init 576 = .ok (.putfield 121, 3) := dq_181 (a := 0) (b := 121) (by decide +kernel) rfl
theorem dX12_init_579 : decode cX12_init 579 = .ok (.aload_n 0, 1) := dq_42 (by decide +kernel)
theorem dX12_init_580 : decode cX12_init 580 = .ok (.sipush 200, 3) := dq_17 (a := 0) (b := 200) (by decide +kernel) (by decide +kernel)
theorem dX12_init_585 : decode cX12_init 585 = .ok (.putfield 124, 3) := dq_181 (a := 0) (b := 124) (by decide +kernel) rfl
theorem dX12_init_588 : decode cX12_init 588 = .ok (.aload_n 0, 1) := dq_42 (by decide +kernel)
theorem dX12_init_589 : decode cX12_init 589 = .ok (.sipush 200, 3) := dq_17 (a := 0) (b := 200) (by decide +kernel) (by decide +kernel)
theorem dX12_init_594 : decode cX12_init 594 = .ok (.putfield 127, 3) := dq_181 (a := 0) (b := 127) (by decide +kernel) rfl
theorem dX12_init_597 : decode cX12_init 597 = .ok (.aload_n 0, 1) := dq_42 (by decide +kernel)
theorem dX12_init_598 : decode cX12_init 598 = .ok (.sipush 200, 3) := dq_17 (a := 0) (b := 200) (by decide +kernel) (by decide +kernel)
theorem dX12_init_603 : decode cX12_init 603 = .ok (.putfield 130, 3) := dq_181 (a := 0) (b := 130) (by decide +kernel) rfl
theorem dX12_init_606 : decode cX12_init 606 = .ok (.aload_n 0, 1) := dq_42 (by decide +kernel)
theorem dX12_init_607 : decode cX12_init 607 = .ok (.iconst 5, 1) := dq_8 (by decide +kernel)
theorem dX12_init_610 : decode cX12_init 610 = .ok (.putfield 133, 3) := dq_181 (a := 0) (b := 133) (by decide +kernel) rfl
theorem dX12_init_613 : decode cX12_init 613 = .ok (.aload_n 0, 1) := dq_42 (by decide +kernel)
theorem dX12_init_614 : decode cX12_init 614 = .ok (.iconst 5, 1) := dq_8 (by decide +kernel)
theorem dX12_init_617 : decode cX12_init 617 = .ok (.putfield 136, 3) := dq_181 (a := 0) (b := 136) (by decide +kernel) rfl
theorem dX12_init_620 : decode cX12_init 620 = .ok (.aload_n 0, 1) := dq_42 (by decide +kernel)
theorem dX12_init_621 : decode cX12_init 621 = .ok (.iconst 5, 1) := dq_8 (by decide +kernel)
theorem dX12_init_624 : decode cX12_init 624 = .ok (.putfield 139, 3) := dq_181 (a := 0) (b := 139) (by decide +kernel) rfl
theorem dX12_init_627 : decode cX12_init 627 = .ok (.aload_n 0, 1) := dq_42 (by decide +kernel)
theorem dX12_init_628 : decode cX12_init 628 = .ok (.iconst 5, 1) := dq_8 (by decide +kernel)
theorem dX12_init_631 : decode cX12_init 631 = .ok (.putfield 142, 3) := dq_181 (a := 0) (b := 142) (by decide +kernel) rfl
theorem dX12_init_634 : decode cX12_init 634 = .ok (.aload_n 0, 1) := dq_42 (by decide +kernel)
theorem dX12_init_635 : decode cX12_init 635 = .ok (.bipush 20, 2) := dq_16 (a := 20) (by decide +kernel) (by decide +kernel)
theorem dX12_init_639 : decode cX12_init 639 = .ok (.putfield 145, 3) := dq_181 (a := 0) (b := 145) (by decide +kernel) rfl
theorem dX12_init_642 : decode cX12_init 642 = .ok (.return_, 1) := dq_177 (by decide +kernel)
