theorem dX12_init_182 : decode cX12_init 182 = .ok (.dup, 1) := by decide +kernel
theorem dX12_init_183 : decode cX12_init 183 = .ok (.iconst 3, 1) := by decide +kernel
theorem dX12_init_184 : decode cX12_init 184 = .ok (.bipush 110, 2) := by decide +kernel
theorem dX12_init_186 : decode cX12_init 186 = .ok (.castore, 1) := by decide +kernel
theorem dX12_init_187 : decode cX12_init 187 = .ok (.putfield 33, 3) := by decide +kernel
theorem dX12_init_190 : decode cX12_init 190 = .ok (.aload_n 0, 1) := by decide +kernel
theorem dX12_init_191 : decode cX12_init 191 = .ok (.iconst 2, 1) := by decide +kernel
theorem dX12_init_192 : decode cX12_init 192 = .ok (.newarray .char, 2) := by decide +kernel
theorem dX12_init_194 : decode cX12_init 194 = .ok (.dup, 1) := by decide +kernel
theorem dX12_init_195 : decode cX12_init 195 = .ok (.iconst 0, 1) := by decide +kernel
theorem dX12_init_196 : decode cX12_init 196 = .ok (.bipush 111, 2) := by decide +kernel
theorem dX12_init_198 : decode cX12_init 198 = .ok (.castore, 1) := by decide +kernel
theorem dX12_init_199 : decode cX12_init 199 = .ok (.dup, 1) := by decide +kernel
theorem dX12_init_200 : decode cX12_init 200 = .ok (.iconst 1, 1) := by decide +kernel
theorem dX12_init_201 : decode cX12_init 201 = .ok (.bipush 114, 2) := by decide +kernel
theorem dX12_init_203 : decode cX12_init 203 = .ok (.castore, 1) := by decide +kernel
theorem dX12_init_204 : decode cX12_init 204 = .ok (.putfield 36, 3) := by decide +kernel
theorem dX12_init_207 : decode cX12_init 207 = .ok (.aload_n 0, 1) := by decide +kernel
theorem dX12_init_208 : decode cX12_init 208 = .ok (.iconst 3, 1) := by decide +kernel
theorem dX12_init_209 : decode cX12_init 209 = .ok (.newarray .char, 2) := by decide +kernel
theorem dX12_init_211 : decode cX12_init 211 = .ok (.dup, 1) := by decide +kernel
theorem dX12_init_212 : decode cX12_init 212 = .ok (.iconst 0, 1) := by decide +kernel
theorem dX12_init_213 : decode cX12_init 213 = .ok (.bipush 97, 2) := by decide +kernel
theorem dX12_init_215 : decode cX12_init 215 = .ok (.castore, 1) := by decide +kernel
theorem dX12_init_216 : decode cX12_init 216 = .ok (.dup, 1) := by decide +kernel
theorem dX12_init_217 : decode cX12_init 217 = .ok (.iconst 1, 1) := by decide +kernel
theorem dX12_init_218 : decode cX12_init 218 = .ok (.bipush 110, 2) := by decide +kernel
theorem dX12_init_220 : decode cX12_init 220 = .ok (.castore, 1) := by decide +kernel
theorem dX12_init_221 : decode cX12_init 221 = .ok (.dup, 1) := by decide +kernel
theorem dX12_init_222 : decode cX12_init 222 = .ok (.iconst 2, 1) := by decide +kernel
theorem dX12_init_223 : decode cX12_init 223 = .ok (.bipush 100, 2) := by decide +kernel
theorem dX12_init_225 : decode cX12_init 225 = .ok (.castore, 1) := by decide +kernel
theorem dX12_init_226 : decode cX12_init 226 = .ok (.putfield 39, 3) := by decide +kernel
theorem dX12_init_229 : decode cX12_init 229 = .ok (.aload_n 0, 1) := by decide +kernel
theorem dX12_init_230 : decode cX12_init 230 = .ok (.iconst 3, 1) := by decide +kernel
theorem dX12_init_231 : decode cX12_init 231 = .ok (.newarray .char, 2) := by decide +kernel
theorem dX12_init_233 : decode cX12_init 233 = .ok (.dup, 1) := by decide +kernel
theorem dX12_init_234 : decode cX12_init 234 = .ok (.iconst 0, 1) := by decide +kernel
theorem dX12_init_235 : decode cX12_init 235 = .ok (.bipush 110, 2) := by decide +kernel
theorem dX12_init_237 : decode cX12_init 237 = .ok (.castore, 1) := by decide +kernel
theorem dX12_init_238 : decode cX12_init 238 = .ok (.dup, 1) := by decide +kernel
theorem dX12_init_239 : decode cX12_init 239 = .ok (.iconst 1, 1) := by decide +kernel
theorem dX12_init_240 : decode cX12_init 240 = .ok (.bipush 111, 2) := by decide +kernel
theorem dX12_init_242 : decode cX12_init 242 = .ok (.castore, 1) := by decide +kernel
theorem dX12_init_243 : decode cX12_init 243 = .ok (.dup, 1) := by decide +kernel
theorem dX12_init_244 : decode cX12_init 244 = .ok (.iconst 2, 1) := by decide +kernel
theorem dX12_init_245 : decode cX12_init 245 = .ok (.bipush 116, 2) := by decide +kernel
theorem dX12_init_247 : decode cX12_init 247 = .ok (.castore, 1) := by decide +kernel
theorem dX12_init_248 : decode cX12_init 248 = .ok (.putfield 42, 3) := by decide +kernel
theorem dX12_init_251 : decode cX12_init 251 = .ok (.aload_n 0, 1) := by decide +kernel
theorem dX12_init_252 : decode cX12_init 252 = .ok (.iconst 3, 1) := by decide +kernel
theorem dX12_init_253 : decode cX12_init 253 = .ok (.newarray .char, 2) := by decide +kernel
theorem dX12_init_255 : decode cX12_init 255 = .ok (.dup, 1) := by decide +kernel
theorem dX12_init_256 : decode cX12_init 256 = .ok (.iconst 0, 1) := by decide +kernel
theorem dX12_init_257 : decode cX12_init 257 = .ok (.bipush 97, 2) := by decide +kernel
theorem dX12_init_259 : decode cX12_init 259 = .ok (.castore, 1) := by decide +kernel
theorem dX12_init_260 : decode cX12_init 260 = .ok (.dup, 1) := by decide +kernel
theorem dX12_init_261 : decode cX12_init 261 = .ok (.iconst 1, 1) := by decide +kernel
theorem dX12_init_262 : decode cX12_init 262 = .ok (.bipush 108, 2) := by decide +kernel
theorem dX12_init_264 : decode cX12_init 264 = .ok (.castore, 1) := by decide +kernel
theorem dX12_init_265 : decode cX12_init 265 = .ok (.dup, 1) := by decide +kernel
theorem dX12_init_266 : decode cX12_init 266 = .ok (.iconst 2, 1) := by decide +kernel
theorem dX12_init_267 : decode cX12_init 267 = .ok (.bipush 108, 2) := by decide +kernel
theorem dX12_init_269 : decode cX12_init 269 = .ok (.castore, 1) := by decide +kernel
theorem dX12_init_270 : decode cX12_init 270 = .ok (.putfield 45, 3) := by decide +kernel
theorem dX12_init_273 : decode cX12_init 273 = .ok (.aload_n 0, 1) := by decide +kernel
theorem dX12_init_274 : decode cX12_init 274 = .ok (.bipush 6, 2) := by decide +kernel
theorem dX12_init_276 : decode cX12_init 276 = .ok (.newarray .char, 2) := by decide +kernel
theorem dX12_init_278 : decode cX12_init 278 = .ok (.dup, 1) := by decide +kernel
theorem dX12_init_279 : decode cX12_init 279 = .ok (.iconst 0, 1) := by decide +kernel
theorem dX12_init_280 : decode cX12_init 280 = .ok (.bipush 115, 2) := by decide +kernel
theorem dX12_init_282 : decode cX12_init 282 = .ok (.castore, 1) := by decide +kernel
theorem dX12_init_283 : decode cX12_init 283 = .ok (.dup, 1) := by decide +kernel
theorem dX12_init_284 : decode cX12_init 284 = .ok (.iconst 1, 1) := by decide +kernel
theorem dX12_init_285 : decode cX12_init 285 = .ok (.bipush 101, 2) := by decide +kernel
theorem dX12_init_287 : decode cX12_init 287 = .ok (.castore, 1) := by decide +kernel
theorem dX12_init_288 : decode cX12_init 288 = .ok (.dup, 1) := by decide +kernel
theorem dX12_init_289 : decode cX12_init 289 = .ok (.iconst 2, 1) := by decide +kernel
theorem dX12_init_290 : decode cX12_init 290 = .ok (.bipush 110, 2) := by decide +kernel
theorem dX12_init_292 : decode cX12_init 292 = .ok (.castore, 1) := by decide +kernel
theorem dX12_init_293 : decode cX12_init 293 = .ok (.dup, 1) := by decide +kernel
theorem dX12_init_294 : decode cX12_init 294 = .ok (.iconst 3, 1) := by decide +kernel
theorem dX12_init_295 : decode cX12_init 295 = .ok (.bipush 100, 2) := by decide +kernel
theorem dX12_init_297 : decode cX12_init 297 = .ok (.castore, 1) := by decide +kernel
theorem dX12_init_298 : decode cX12_init 298 = .ok (.dup, 1) := by decide +kernel
theorem dX12_init_299 : decode cX12_init 299 = .ok (.iconst 4, 1) := by decide +kernel
theorem dX12_init_300 : decode cX12_init 300 = .ok (.bipush 101, 2) := by decide +kernel
theorem dX12_init_302 : decode cX12_init 302 = .ok (.castore, 1) := by decide +kernel
theorem dX12_init_303 : decode cX12_init 303 = .ok (.dup, 1) := by decide +kernel
theorem dX12_init_304 : decode cX12_init 304 = .ok (.iconst 5, 1) := by decide +kernel
theorem dX12_init_305 : decode cX12_init 305 = .ok (.bipush 114, 2) := by decide +kernel
theorem dX12_init_307 : decode cX12_init 307 = .ok (.castore, 1) := by decide +kernel
theorem dX12_init_308 : decode cX12_init 308 = .ok (.putfield 48, 3) := by decide +kernel
theorem dX12_init_311 : decode cX12_init 311 = .ok (.aload_n 0, 1) := by decide +kernel
theorem dX12_init_312 : decode cX12_init 312 = .ok (.bipush 6, 2) := by decide +kernel
theorem dX12_init_314 : decode cX12_init 314 = .ok (.newarray .char, 2) := by decide +kernel
theorem dX12_init_316 : decode cX12_init 316 = .ok (.dup, 1) := by decide +kernel
theorem dX12_init_317 : decode cX12_init 317 = .ok (.iconst 0, 1) := by decide +kernel
theorem dX12_init_318 : decode cX12_init 318 = .ok (.bipush 115, 2) := by decide +kernel
theorem dX12_init_320 : decode cX12_init 320 = .ok (.castore, 1) := by decide +kernel
theorem dX12_init_321 : decode cX12_init 321 = .ok (.dup, 1) := by decide +kernel
theorem dX12_init_322 : decode cX12_init 322 = .ok (.iconst 1, 1) := by decide +kernel
theorem dX12_init_323 : decode cX12_init 323 = .ok (.bipush 113, 2) := by decide +kernel
theorem dX12_init_325 : decode cX12_init 325 = .ok (.castore, 1) := by decide +kernel
theorem dX12_init_326 : decode cX12_init 326 = .ok (.dup, 1) := by decide +kernel
theorem dX12_init_327 : decode cX12_init 327 = .ok (.iconst 2, 1) := by decide +kernel
theorem dX12_init_328 : decode cX12_init 328 = .ok (.bipush 117, 2) := by decide +kernel
theorem dX12_init_330 : decode cX12_init 330 = .ok (.castore, 1) := by decide +kernel
theorem dX12_init_331 : decode cX12_init 331 = .ok (.dup, 1) := by decide +kernel
theorem dX12_init_332 : decode cX12_init 332 = .ok (.iconst 3, 1) := by decide +kernel
theorem dX12_init_333 : decode cX12_init 333 = .ok (.bipush 97, 2) := by decide +kernel
theorem dX12_init_335 : decode cX12_init 335 = .ok (.castore, 1) := by decide +kernel
theorem dX12_init_336 : decode cX12_init 336 = .ok (.dup, 1) := by decide +kernel
theorem dX12_init_337 : decode cX12_init 337 = .ok (.iconst 4, 1) := by decide +kernel
theorem dX12_init_338 : decode cX12_init 338 = .ok (.bipush 114, 2) := by decide +kernel
theorem dX12_init_340 : decode cX12_init 340 = .ok (.castore, 1) := by decide +kernel
theorem dX12_init_341 : decode cX12_init 341 = .ok (.dup, 1) := by decide +kernel
theorem dX12_init_342 : decode cX12_init 342 = .ok (.iconst 5, 1) := by decide +kernel
theorem dX12_init_343 : decode cX12_init 343 = .ok (.bipush 101, 2) := by decide +kernel
theorem dX12_init_345 : decode cX12_init 345 = .ok (.castore, 1) := by decide +kernel
theorem dX12_init_346 : decode cX12_init 346 = .ok (.putfield 51, 3) := by decide +kernel
theorem dX12_init_349 : decode cX12_init 349 = .ok (.aload_n 0, 1) := by decide +kernel
theorem dX12_init_350 : decode cX12_init 350 = .ok (.iconst 4, 1) := by decide +kernel
theorem dX12_init_351 : decode cX12_init 351 = .ok (.newarray .char, 2) := by decide +kernel
theorem dX12_init_353 : decode cX12_init 353 = .ok (.dup, 1) := by decide +kernel
theorem dX12_init_354 : decode cX12_init 354 = .ok (.iconst 0, 1) := by decide +kernel
theorem dX12_init_355 : decode cX12_init 355 = .ok (.bipush 112, 2) := by decide +kernel
theorem dX12_init_357 : decode cX12_init 357 = .ok (.castore, 1) := by decide +kernel
theorem dX12_init_358 : decode cX12_init 358 = .ok (.dup, 1) := by decide +kernel
theorem dX12_init_359 : decode cX12_init 359 = .ok (.iconst 1, 1) := by decide +kernel
theorem dX12_init_360 : decode cX12_init 360 = .ok (.bipush 101, 2) := by decide +kernel
theorem dX12_init_362 : decode cX12_init 362 = .ok (.castore, 1) := by decide +kernel
theorem dX12_init_363 : decode cX12_init 363 = .ok (.dup, 1) := by decide +kernel
theorem dX12_init_364 : decode cX12_init 364 = .ok (.iconst 2, 1) := by decide +kernel
theorem dX12_init_365 : decode cX12_init 365 = .ok (.bipush 97, 2) := by decide +kernel
theorem dX12_init_367 : decode cX12_init 367 = .ok (.castore, 1) := by decide +kernel
theorem dX12_init_368 : decode cX12_init 368 = .ok (.dup, 1) := by decide +kernel
theorem dX12_init_369 : decode cX12_init 369 = .ok (.iconst 3, 1) := by decide +kernel
theorem dX12_init_370 : decode cX12_init 370 = .ok (.bipush 107, 2) := by decide +kernel
theorem dX12_init_372 : decode cX12_init 372 = .ok (.castore, 1) := by decide +kernel
theorem dX12_init_373 : decode cX12_init 373 = .ok (.putfield 54, 3) := by decide +kernel
theorem dX12_init_376 : decode cX12_init 376 = .ok (.aload_n 0, 1) := by decide +kernel
theorem dX12_init_377 : decode cX12_init 377 = .ok (.iconst 3, 1) := by decide +kernel
theorem dX12_init_378 : decode cX12_init 378 = .ok (.newarray .char, 2) := by decide +kernel
theorem dX12_init_380 : decode cX12_init 380 = .ok (.dup, 1) := by decide +kernel
theorem dX12_init_381 : decode cX12_init 381 = .ok (.iconst 0, 1) := by decide +kernel
theorem dX12_init_382 : decode cX12_init 382 = .ok (.bipush 109, 2) := by decide +kernel
theorem dX12_init_384 : decode cX12_init 384 = .ok (.castore, 1) := by decide +kernel
theorem dX12_init_385 : decode cX12_init 385 = .ok (.dup, 1) := by decide +kernel
theorem dX12_init_386 : decode cX12_init 386 = .ok (.iconst 1, 1) := by decide +kernel
theorem dX12_init_387 : decode cX12_init 387 = .ok (.bipush 105, 2) := by decide +kernel
theorem dX12_init_389 : decode cX12_init 389 = .ok (.castore, 1) := by decide +kernel
theorem dX12_init_390 : decode cX12_init 390 = .ok (.dup, 1) := by decide +kernel
theorem dX12_init_391 : decode cX12_init 391 = .ok (.iconst 2, 1) := by decide +kernel
theorem dX12_init_392 : decode cX12_init 392 = .ok (.bipush 110, 2) := by decide +kernel
theorem dX12_init_394 : decode cX12_init 394 = .ok (.castore, 1) := by decide +kernel
theorem dX12_init_395 : decode cX12_init 395 = .ok (.putfield 57, 3) := by decide +kernel
theorem dX12_init_398 : decode cX12_init 398 = .ok (.aload_n 0, 1) := by decide +kernel
theorem dX12_init_399 : decode cX12_init 399 = .ok (.iconst 3, 1) := by decide +kernel
theorem dX12_init_400 : decode cX12_init 400 = .ok (.newarray .char, 2) := by decide +kernel
theorem dX12_init_402 : decode cX12_init 402 = .ok (.dup, 1) := by decide +kernel
theorem dX12_init_403 : decode cX12_init 403 = .ok (.iconst 0, 1) := by decide +kernel
theorem dX12_init_404 : decode cX12_init 404 = .ok (.bipush 109, 2) := by decide +kernel
theorem dX12_init_406 : decode cX12_init 406 = .ok (.castore, 1) := by decide +kernel
theorem dX12_init_407 : decode cX12_init 407 = .ok (.dup, 1) := by decide +kernel
theorem dX12_init_408 : decode cX12_init 408 = .ok (.iconst 1, 1) := by decide +kernel
theorem dX12_init_409 : decode cX12_init 409 = .ok (.bipush 97, 2) := by decide +kernel
theorem dX12_init_411 : decode cX12_init 411 = .ok (.castore, 1) := by decide +kernel
theorem dX12_init_412 : decode cX12_init 412 = .ok (.dup, 1) := by decide +kernel
theorem dX12_init_413 : decode cX12_init 413 = .ok (.iconst 2, 1) := by decide +kernel
theorem dX12_init_414 : decode cX12_init 414 = .ok (.bipush 120, 2) := by decide +kernel
theorem dX12_init_416 : decode cX12_init 416 = .ok (.castore, 1) := by decide +kernel
theorem dX12_init_417 : decode cX12_init 417 = .ok (.putfield 60, 3) := by decide +kernel
theorem dX12_init_420 : decode cX12_init 420 = .ok (.aload_n 0, 1) := by decide +kernel
theorem dX12_init_421 : decode cX12_init 421 = .ok (.sipush 9999, 3) := by decide +kernel
theorem dX12_init_424 : decode cX12_init 424 = .ok (.putfield 63, 3) := by decide +kernel
theorem dX12_init_427 : decode cX12_init 427 = .ok (.aload_n 0, 1) := by decide +kernel
theorem dX12_init_428 : decode cX12_init 428 = .ok (.bipush 6, 2) := by decide +kernel
theorem dX12_init_430 : decode cX12_init 430 = .ok (.newarray .int, 2) := by decide +kernel
theorem dX12_init_432 : decode cX12_init 432 = .ok (.putfield 66, 3) := by decide +kernel
theorem dX12_init_435 : decode cX12_init 435 = .ok (.aload_n 0, 1) := by decide +kernel
theorem dX12_init_436 : decode cX12_init 436 = .ok (.bipush 60, 2) := by decide +kernel
theorem dX12_init_438 : decode cX12_init 438 = .ok (.newarray .int, 2) := by decide +kernel
theorem dX12_init_440 : decode cX12_init 440 = .ok (.putfield 69, 3) := by decide +kernel
theorem dX12_init_443 : decode cX12_init 443 = .ok (.aload_n 0, 1) := by decide +kernel
theorem dX12_init_444 : decode cX12_init 444 = .ok (.sipush 160, 3) := by decide +kernel
theorem dX12_init_447 : decode cX12_init 447 = .ok (.newarray .int, 2) := by decide +kernel
theorem dX12_init_449 : decode cX12_init 449 = .ok (.putfield 72, 3) := by decide +kernel
theorem dX12_init_452 : decode cX12_init 452 = .ok (.aload_n 0, 1) := by decide +kernel
theorem dX12_init_453 : decode cX12_init 453 = .ok (.sipush 3200, 3) := by decide +kernel
theorem dX12_init_456 : decode cX12_init 456 = .ok (.newarray .int, 2) := by decide +kernel
theorem dX12_init_458 : decode cX12_init 458 = .ok (.putfield 75, 3) := by decide +kernel
theorem dX12_init_461 : decode cX12_init 461 = .ok (.aload_n 0, 1) := by decide +kernel
theorem dX12_init_462 : decode cX12_init 462 = .ok (.sipush 1700, 3) := by decide +kernel
theorem dX12_init_465 : decode cX12_init 465 = .ok (.newarray .int, 2) := by decide +kernel
theorem dX12_init_467 : decode cX12_init 467 = .ok (.putfield 78, 3) := by decide +kernel
theorem dX12_init_470 : decode cX12_init 470 = .ok (.aload_n 0, 1) := by decide +kernel
theorem dX12_init_471 : decode cX12_init 471 = .ok (.iconst 2, 1) := by decide +kernel
theorem dX12_init_472 : decode cX12_init 472 = .ok (.newarray .int, 2) := by decide +kernel
theorem dX12_init_474 : decode cX12_init 474 = .ok (.putfield 81, 3) := by decide +kernel
theorem dX12_init_477 : decode cX12_init 477 = .ok (.aload_n 0, 1) := by decide +kernel
theorem dX12_init_478 : decode cX12_init 478 = .ok (.bipush 16, 2) := by decide +kernel
theorem dX12_init_480 : decode cX12_init 480 = .ok (.newarray .int, 2) := by decide +kernel
theorem dX12_init_482 : decode cX12_init 482 = .ok (.putfield 84, 3) := by decide +kernel
theorem dX12_init_485 : decode cX12_init 485 = .ok (.aload_n 0, 1) := by decide +kernel
theorem dX12_init_486 : decode cX12_init 486 = .ok (.bipush 16, 2) := by decide +kernel
theorem dX12_init_488 : decode cX12_init 488 = .ok (.newarray .int, 2) := by decide +kernel
theorem dX12_init_490 : decode cX12_init 490 = .ok (.putfield 87, 3) := by decide +kernel
theorem dX12_init_493 : decode cX12_init 493 = .ok (.aload_n 0, 1) := by decide +kernel
theorem dX12_init_494 : decode cX12_init 494 = .ok (.bipush 16, 2) := by decide +kernel
theorem dX12_init_496 : decode cX12_init 496 = .ok (.newarray .int, 2) := by decide +kernel
theorem dX12_init_498 : decode cX12_init 498 = .ok (.putfield 90, 3) := by decide +kernel
theorem dX12_init_501 : decode cX12_init 501 = .ok (.aload_n 0, 1) := by decide +kernel
theorem dX12_init_502 : decode cX12_init 502 = .ok (.sipush 1700, 3) := by decide +kernel
theorem dX12_init_505 : decode cX12_init 505 = .ok (.newarray .long, 2) := by decide +kernel
theorem dX12_init_507 : decode cX12_init 507 = .ok (.putfield 93, 3) := by decide +kernel
theorem dX12_init_510 : decode cX12_init 510 = .ok (.aload_n 0, 1) := by decide +kernel
theorem dX12_init_511 : decode cX12_init 511 = .ok (.bipush 30, 2) := by decide +kernel
theorem dX12_init_513 : decode cX12_init 513 = .ok (.newarray .int, 2) := by decide +kernel
theorem dX12_init_515 : decode cX12_init 515 = .ok (.putfield 97, 3) := by decide +kernel
theorem dX12_init_518 : decode cX12_init 518 = .ok (.aload_n 0, 1) := by decide +kernel
theorem dX12_init_519 : decode cX12_init 519 = .ok (.bipush 6, 2) := by decide +kernel
theorem dX12_init_521 : decode cX12_init 521 = .ok (.newarray .int, 2) := by decide +kernel
theorem dX12_init_523 : decode cX12_init 523 = .ok (.putfield 100, 3) := by decide +kernel
theorem dX12_init_526 : decode cX12_init 526 = .ok (.aload_n 0, 1) := by decide +kernel
theorem dX12_init_527 : decode cX12_init 527 = .ok (.iconst 5, 1) := by decide +kernel
theorem dX12_init_528 : decode cX12_init 528 = .ok (.newarray .int, 2) := by decide +kernel
theorem dX12_init_530 : decode cX12_init 530 = .ok (.putfield 103, 3) := by decide +kernel
theorem dX12_init_533 : decode cX12_init 533 = .ok (.aload_n 0, 1) := by decide +kernel
theorem dX12_init_534 : decode cX12_init 534 = .ok (.bipush 10, 2) := by decide +kernel
theorem dX12_init_536 : decode cX12_init 536 = .ok (.newarray .long, 2) := by decide +kernel
theorem dX12_init_538 : decode cX12_init 538 = .ok (.putfield 106, 3) := by decide +kernel
theorem dX12_init_541 : decode cX12_init 541 = .ok (.aload_n 0, 1) := by decide +kernel
theorem dX12_init_542 : decode cX12_init 542 = .ok (.bipush 10, 2) := by decide +kernel
theorem dX12_init_544 : decode cX12_init 544 = .ok (.newarray .int, 2) := by decide +kernel
theorem dX12_init_546 : decode cX12_init 546 = .ok (.putfield 109, 3) := by decide +kernel
theorem dX12_init_549 : decode cX12_init 549 = .ok (.aload_n 0, 1) := by decide +kernel
theorem dX12_init_550 : decode cX12_init 550 = .ok (.iconst 5, 1) := by decide +kernel
theorem dX12_init_551 : decode cX12_init 551 = .ok (.newarray .int, 2) := by decide +kernel
theorem dX12_init_553 : decode cX12_init 553 = .ok (.putfield 112, 3) := by decide +kernel
theorem dX12_init_556 : decode cX12_init 556 = .ok (.aload_n 0, 1) := by decide +kernel
theorem dX12_init_557 : decode cX12_init 557 = .ok (.iconst 5, 1) := by decide +kernel
theorem dX12_init_558 : decode cX12_init 558 = .ok (.newarray .int, 2) := by decide +kernel
theorem dX12_init_560 : decode cX12_init 560 = .ok (.putfield 115, 3) := by decide +kernel
theorem dX12_init_563 : decode cX12_init 563 = .ok (.aload_n 0, 1) := by decide +kernel
theorem dX12_init_564 : decode cX12_init 564 = .ok (.bipush 6, 2) := by decide +kernel
theorem dX12_init_566 : decode cX12_init 566 = .ok (.newarray .long, 2) := by decide +kernel
theorem dX12_init_568 : decode cX12_init 568 = .ok (.putfield 118, 3) := by decide +kernel
theorem dX12_init_571 : decode cX12_init 571 = .ok (.aload_n 0, 1) := by decide +kernel
theorem dX12_init_572 : decode cX12_init 572 = .ok (.bipush 25, 2) := by decide +kernel
theorem dX12_init_574 : decode cX12_init 574 = .ok (.newarray .long, 2) := by decide +kernel
theorem dX12_init_576 : decode cX12_init 576 = .ok (.putfield 121, 3) := by decide +kernel
theorem dX12_init_579 : decode cX12_init 579 = .ok (.aload_n 0, 1) := by decide +kernel
theorem dX12_init_580 : decode cX12_init 580 = .ok (.sipush 200, 3) := by decide +kernel
theorem dX12_init_583 : decode cX12_init 583 = .ok (.newarray .int, 2) := by decide +kernel
theorem dX12_init_585 : decode cX12_init 585 = .ok (.putfield 124, 3) := by decide +kernel
theorem dX12_init_588 : decode cX12_init 588 = .ok (.aload_n 0, 1) := by decide +kernel
theorem dX12_init_589 : decode cX12_init 589 = .ok (.sipush 200, 3) := by decide +kernel
theorem dX12_init_592 : decode cX12_init 592 = .ok (.newarray .int, 2) := by decide +kernel
theorem dX12_init_594 : decode cX12_init 594 = .ok (.putfield 127, 3) := by decide +kernel
theorem dX12_init_597 : decode cX12_init 597 = .ok (.aload_n 0, 1) := by decide +kernel
theorem dX12_init_598 : decode cX12_init 598 = .ok (.sipush 200, 3) := by decide +kernel
theorem dX12_init_601 : decode cX12_init 601 = .ok (.newarray .int, 2) := by decide +kernel
theorem dX12_init_603 : decode cX12_init 603 = .ok (.putfield 130, 3) := by decide +kernel
theorem dX12_init_606 : decode cX12_init 606 = .ok (.aload_n 0, 1) := by decide +kernel
theorem dX12_init_607 : decode cX12_init 607 = .ok (.iconst 5, 1) := by decide +kernel
theorem dX12_init_608 : decode cX12_init 608 = .ok (.newarray .int, 2) := by decide +kernel
theorem dX12_init_610 : decode cX12_init 610 = .ok (.putfield 133, 3) := by decide +kernel
theorem dX12_init_613 : decode cX12_init 613 = .ok (.aload_n 0, 1) := by decide +kernel
theorem dX12_init_614 : decode cX12_init 614 = .ok (.iconst 5, 1) := by decide +kernel
theorem dX12_init_615 : decode cX12_init 615 = .ok (.newarray .int, 2) := by decide +kernel
theorem dX12_init_617 : decode cX12_init 617 = .ok (.putfield 136, 3) := by decide +kernel
theorem dX12_init_620 : decode cX12_init 620 = .ok (.aload_n 0, 1) := by decide +kernel
theorem dX12_init_621 : decode cX12_init 621 = .ok (.iconst 5, 1) := by decide +kernel
theorem dX12_init_622 : decode cX12_init 622 = .ok (.newarray .int, 2) := by decide +kernel
theorem dX12_init_624 : decode cX12_init 624 = .ok (.putfield 139, 3) := by decide +kernel
theorem dX12_init_627 : decode cX12_init 627 = .ok (.aload_n 0, 1) := by decide +kernel
theorem dX12_init_628 : decode cX12_init 628 = .ok (.iconst 5, 1) := by decide +kernel
theorem dX12_init_629 : decode cX12_init 629 = .ok (.newarray .int, 2) := by decide +kernel
theorem dX12_init_631 : decode cX12_init 631 = .ok (.putfield 142, 3) := by decide +kernel
theorem dX12_init_634 : decode cX12_init 634 = .ok (.aload_n 0, 1) := by decide +kernel
theorem dX12_init_635 : decode cX12_init 635 = .ok (.bipush 20, 2) := by decide +kernel
theorem dX12_init_637 : decode cX12_init 637 = .ok (.newarray .int, 2) := by decide +kernel
theorem dX12_init_639 : decode cX12_init 639 = .ok (.putfield 145, 3) := by decide +kernel
theorem dX12_init_642 : decode cX12_init 642 = .ok (.return_, 1) := by decide +kernel
