theorem dX0_init_0 : decode cX0_init 0 = .ok (.aload_n 0, 1) := by decide +kernel
theorem dX0_init_1 : decode cX0_init 1 = .ok (.invokespecial 3, 3) := by decide +kernel
theorem dX0_init_4 : decode cX0_init 4 = .ok (.aload_n 0, 1) := by decide +kernel
theorem dX0_init_5 : decode cX0_init 5 = .ok (.bipush 30, 2) := by decide +kernel
theorem dX0_init_7 : decode cX0_init 7 = .ok (.newarray .int, 2) := by decide +kernel
theorem dX0_init_9 : decode cX0_init 9 = .ok (.putfield 11, 3) := by decide +kernel
theorem dX0_init_12 : decode cX0_init 12 = .ok (.return_, 1) := by decide +kernel
theorem dX0_forget_0 : decode cX0_forget 0 = .ok (.aload_n 0, 1) := by decide +kernel
theorem dX0_forget_1 : decode cX0_forget 1 = .ok (.iconst 0, 1) := by decide +kernel
theorem dX0_forget_2 : decode cX0_forget 2 = .ok (.putfield 15, 3) := by decide +kernel
theorem dX0_forget_5 : decode cX0_forget 5 = .ok (.return_, 1) := by decide +kernel
theorem dX0_perform_0 : decode cX0_perform 0 = .ok (.aload_n 0, 1) := by decide +kernel
theorem dX0_perform_1 : decode cX0_perform 1 = .ok (.iload_n 1, 1) := by decide +kernel
theorem dX0_perform_2 : decode cX0_perform 2 = .ok (.putfield 19, 3) := by decide +kernel
theorem dX0_perform_5 : decode cX0_perform 5 = .ok (.aload_n 0, 1) := by decide +kernel
theorem dX0_perform_6 : decode cX0_perform 6 = .ok (.iload_n 2, 1) := by decide +kernel
theorem dX0_perform_7 : decode cX0_perform 7 = .ok (.putfield 22, 3) := by decide +kernel
theorem dX0_perform_10 : decode cX0_perform 10 = .ok (.aload_n 0, 1) := by decide +kernel
theorem dX0_perform_11 : decode cX0_perform 11 = .ok (.iload_n 3, 1) := by decide +kernel
theorem dX0_perform_12 : decode cX0_perform 12 = .ok (.putfield 25, 3) := by decide +kernel
theorem dX0_perform_15 : decode cX0_perform 15 = .ok (.aload_n 0, 1) := by decide +kernel
theorem dX0_perform_16 : decode cX0_perform 16 = .ok (.iconst 0, 1) := by decide +kernel
theorem dX0_perform_17 : decode cX0_perform 17 = .ok (.putfield 28, 3) := by decide +kernel
theorem dX0_perform_20 : decode cX0_perform 20 = .ok (.aload_n 0, 1) := by decide +kernel
theorem dX0_perform_21 : decode cX0_perform 21 = .ok (.iload 4, 2) := by decide +kernel
theorem dX0_perform_23 : decode cX0_perform 23 = .ok (.iload 5, 2) := by decide +kernel
theorem dX0_perform_25 : decode cX0_perform 25 = .ok (.iconst 0, 1) := by decide +kernel
theorem dX0_perform_26 : decode cX0_perform 26 = .ok (.invokevirtual 32, 3) := by decide +kernel
theorem dX0_perform_29 : decode cX0_perform 29 = .ok (.istore 6, 2) := by decide +kernel
theorem dX0_perform_31 : decode cX0_perform 31 = .ok (.aload_n 0, 1) := by decide +kernel
theorem dX0_perform_32 : decode cX0_perform 32 = .ok (.getfield 28, 3) := by decide +kernel
theorem dX0_perform_35 : decode cX0_perform 35 = .ok (.ifCond .eq 8, 3) := by decide +kernel
theorem dX0_perform_38 : decode cX0_perform 38 = .ok (.bipush (-15), 2) := by decide +kernel
theorem dX0_perform_40 : decode cX0_perform 40 = .ok (.goto 5, 3) := by decide +kernel
theorem dX0_perform_43 : decode cX0_perform 43 = .ok (.iload 6, 2) := by decide +kernel
theorem dX0_perform_45 : decode cX0_perform 45 = .ok (.ireturn, 1) := by decide +kernel
theorem dX0_ask_0 : decode cX0_ask 0 = .ok (.aload_n 0, 1) := by decide +kernel
theorem dX0_ask_1 : decode cX0_ask 1 = .ok (.getstatic 36, 3) := by decide +kernel
theorem dX0_ask_4 : decode cX0_ask 4 = .ok (.aload_n 0, 1) := by decide +kernel
theorem dX0_ask_5 : decode cX0_ask 5 = .ok (.getfield 19, 3) := by decide +kernel
theorem dX0_ask_8 : decode cX0_ask 8 = .ok (.iconst 4, 1) := by decide +kernel
theorem dX0_ask_9 : decode cX0_ask 9 = .ok (.imul, 1) := by decide +kernel
theorem dX0_ask_10 : decode cX0_ask 10 = .ok (.iload_n 1, 1) := by decide +kernel
theorem dX0_ask_11 : decode cX0_ask 11 = .ok (.iadd, 1) := by decide +kernel
theorem dX0_ask_12 : decode cX0_ask 12 = .ok (.iaload, 1) := by decide +kernel
theorem dX0_ask_13 : decode cX0_ask 13 = .ok (.iload_n 2, 1) := by decide +kernel
theorem dX0_ask_14 : decode cX0_ask 14 = .ok (.iload_n 3, 1) := by decide +kernel
theorem dX0_ask_15 : decode cX0_ask 15 = .ok (.invokevirtual 39, 3) := by decide +kernel
theorem dX0_ask_18 : decode cX0_ask 18 = .ok (.ireturn, 1) := by decide +kernel
theorem dX0_run_0 : decode cX0_run 0 = .ok (.aload_n 0, 1) := by decide +kernel
theorem dX0_run_1 : decode cX0_run 1 = .ok (.getfield 28, 3) := by decide +kernel
theorem dX0_run_4 : decode cX0_run 4 = .ok (.ifCond .ne 9, 3) := by decide +kernel
theorem dX0_run_7 : decode cX0_run 7 = .ok (.iload_n 3, 1) := by decide +kernel
theorem dX0_run_8 : decode cX0_run 8 = .ok (.bipush 16, 2) := by decide +kernel
theorem dX0_run_10 : decode cX0_run 10 = .ok (.if_icmp .le 5, 3) := by decide +kernel
theorem dX0_run_13 : decode cX0_run 13 = .ok (.iconst 0, 1) := by decide +kernel
theorem dX0_run_14 : decode cX0_run 14 = .ok (.ireturn, 1) := by decide +kernel
theorem dX0_run_15 : decode cX0_run 15 = .ok (.aload_n 0, 1) := by decide +kernel
theorem dX0_run_16 : decode cX0_run 16 = .ok (.iload_n 1, 1) := by decide +kernel
theorem dX0_run_17 : decode cX0_run 17 = .ok (.invokevirtual 42, 3) := by decide +kernel
theorem dX0_run_20 : decode cX0_run 20 = .ok (.iload_n 3, 1) := by decide +kernel
theorem dX0_run_21 : decode cX0_run 21 = .ok (.iconst 1, 1) := by decide +kernel
theorem dX0_run_22 : decode cX0_run 22 = .ok (.iadd, 1) := by decide +kernel
theorem dX0_run_23 : decode cX0_run 23 = .ok (.istore 4, 2) := by decide +kernel
theorem dX0_run_25 : decode cX0_run 25 = .ok (.iload_n 1, 1) := by decide +kernel
theorem dX0_run_26 : decode cX0_run 26 = .ok (.tableswitch 423 10 61 #[222, 231, 247, 262, 423, 423, 423, 423, 423, 423, 275, 423, 423, 423, 423, 423, 423, 423, 423, 423, 287, 299, 423, 423, 423, 423, 423, 423, 423, 423, 321, 333, 423, 423, 423, 423, 423, 423, 423, 423, 355, 373, 423, 423, 423, 423, 423, 423, 423, 423, 388, 401], 222) := by decide +kernel
theorem dX0_run_248 : decode cX0_run 248 = .ok (.iload_n 2, 1) := by decide +kernel
theorem dX0_run_249 : decode cX0_run 249 = .ok (.iconst 2, 1) := by decide +kernel
theorem dX0_run_250 : decode cX0_run 250 = .ok (.imul, 1) := by decide +kernel
theorem dX0_run_251 : decode cX0_run 251 = .ok (.aload_n 0, 1) := by decide +kernel
theorem dX0_run_252 : decode cX0_run 252 = .ok (.getfield 22, 3) := by decide +kernel
theorem dX0_run_255 : decode cX0_run 255 = .ok (.isub, 1) := by decide +kernel
theorem dX0_run_256 : decode cX0_run 256 = .ok (.ireturn, 1) := by decide +kernel
theorem dX0_run_257 : decode cX0_run 257 = .ok (.aload_n 0, 1) := by decide +kernel
theorem dX0_run_258 : decode cX0_run 258 = .ok (.iconst 0, 1) := by decide +kernel
theorem dX0_run_259 : decode cX0_run 259 = .ok (.iload_n 2, 1) := by decide +kernel
theorem dX0_run_260 : decode cX0_run 260 = .ok (.iload 4, 2) := by decide +kernel
theorem dX0_run_262 : decode cX0_run 262 = .ok (.invokevirtual 32, 3) := by decide +kernel
theorem dX0_run_265 : decode cX0_run 265 = .ok (.aload_n 0, 1) := by decide +kernel
theorem dX0_run_266 : decode cX0_run 266 = .ok (.getfield 25, 3) := by decide +kernel
theorem dX0_run_269 : decode cX0_run 269 = .ok (.iconst 4, 1) := by decide +kernel
theorem dX0_run_270 : decode cX0_run 270 = .ok (.imul, 1) := by decide +kernel
theorem dX0_run_271 : decode cX0_run 271 = .ok (.iadd, 1) := by decide +kernel
theorem dX0_run_272 : decode cX0_run 272 = .ok (.ireturn, 1) := by decide +kernel
theorem dX0_run_273 : decode cX0_run 273 = .ok (.aload_n 0, 1) := by decide +kernel
theorem dX0_run_274 : decode cX0_run 274 = .ok (.iload_n 2, 1) := by decide +kernel
theorem dX0_run_275 : decode cX0_run 275 = .ok (.aload_n 0, 1) := by decide +kernel
theorem dX0_run_276 : decode cX0_run 276 = .ok (.getfield 25, 3) := by decide +kernel
theorem dX0_run_279 : decode cX0_run 279 = .ok (.aload_n 0, 1) := by decide +kernel
theorem dX0_run_280 : decode cX0_run 280 = .ok (.getfield 22, 3) := by decide +kernel
theorem dX0_run_283 : decode cX0_run 283 = .ok (.isub, 1) := by decide +kernel
theorem dX0_run_284 : decode cX0_run 284 = .ok (.invokevirtual 46, 3) := by decide +kernel
theorem dX0_run_287 : decode cX0_run 287 = .ok (.ireturn, 1) := by decide +kernel
theorem dX0_run_288 : decode cX0_run 288 = .ok (.aload_n 0, 1) := by decide +kernel
theorem dX0_run_289 : decode cX0_run 289 = .ok (.iconst 1, 1) := by decide +kernel
theorem dX0_run_290 : decode cX0_run 290 = .ok (.iload_n 2, 1) := by decide +kernel
theorem dX0_run_291 : decode cX0_run 291 = .ok (.iload 4, 2) := by decide +kernel
theorem dX0_run_293 : decode cX0_run 293 = .ok (.invokevirtual 32, 3) := by decide +kernel
theorem dX0_run_296 : decode cX0_run 296 = .ok (.sipush 160, 3) := by decide +kernel
theorem dX0_run_299 : decode cX0_run 299 = .ok (.ixor, 1) := by decide +kernel
theorem dX0_run_300 : decode cX0_run 300 = .ok (.ireturn, 1) := by decide +kernel
theorem dX0_run_301 : decode cX0_run 301 = .ok (.aload_n 0, 1) := by decide +kernel
theorem dX0_run_302 : decode cX0_run 302 = .ok (.bipush 11, 2) := by decide +kernel
theorem dX0_run_304 : decode cX0_run 304 = .ok (.iload_n 2, 1) := by decide +kernel
theorem dX0_run_305 : decode cX0_run 305 = .ok (.iload 4, 2) := by decide +kernel
theorem dX0_run_307 : decode cX0_run 307 = .ok (.invokevirtual 39, 3) := by decide +kernel
theorem dX0_run_310 : decode cX0_run 310 = .ok (.iconst 1, 1) := by decide +kernel
theorem dX0_run_311 : decode cX0_run 311 = .ok (.isub, 1) := by decide +kernel
theorem dX0_run_312 : decode cX0_run 312 = .ok (.ireturn, 1) := by decide +kernel
theorem dX0_run_313 : decode cX0_run 313 = .ok (.iconst 0, 1) := by decide +kernel
theorem dX0_run_314 : decode cX0_run 314 = .ok (.aload_n 0, 1) := by decide +kernel
theorem dX0_run_315 : decode cX0_run 315 = .ok (.bipush 10, 2) := by decide +kernel
theorem dX0_run_317 : decode cX0_run 317 = .ok (.iload_n 2, 1) := by decide +kernel
theorem dX0_run_318 : decode cX0_run 318 = .ok (.iload 4, 2) := by decide +kernel
theorem dX0_run_320 : decode cX0_run 320 = .ok (.invokevirtual 39, 3) := by decide +kernel
theorem dX0_run_323 : decode cX0_run 323 = .ok (.isub, 1) := by decide +kernel
theorem dX0_run_324 : decode cX0_run 324 = .ok (.ireturn, 1) := by decide +kernel
theorem dX0_run_325 : decode cX0_run 325 = .ok (.aload_n 0, 1) := by decide +kernel
theorem dX0_run_326 : decode cX0_run 326 = .ok (.bipush 13, 2) := by decide +kernel
theorem dX0_run_328 : decode cX0_run 328 = .ok (.iload_n 2, 1) := by decide +kernel
theorem dX0_run_329 : decode cX0_run 329 = .ok (.iload 4, 2) := by decide +kernel
theorem dX0_run_331 : decode cX0_run 331 = .ok (.invokevirtual 39, 3) := by decide +kernel
theorem dX0_run_334 : decode cX0_run 334 = .ok (.aload_n 0, 1) := by decide +kernel
theorem dX0_run_335 : decode cX0_run 335 = .ok (.iconst 2, 1) := by decide +kernel
theorem dX0_run_336 : decode cX0_run 336 = .ok (.aload_n 0, 1) := by decide +kernel
theorem dX0_run_337 : decode cX0_run 337 = .ok (.getfield 22, 3) := by decide +kernel
theorem dX0_run_340 : decode cX0_run 340 = .ok (.iload 4, 2) := by decide +kernel
theorem dX0_run_342 : decode cX0_run 342 = .ok (.invokevirtual 32, 3) := by decide +kernel
theorem dX0_run_345 : decode cX0_run 345 = .ok (.iadd, 1) := by decide +kernel
theorem dX0_run_346 : decode cX0_run 346 = .ok (.ireturn, 1) := by decide +kernel
theorem dX0_run_347 : decode cX0_run 347 = .ok (.aload_n 0, 1) := by decide +kernel
theorem dX0_run_348 : decode cX0_run 348 = .ok (.bipush 30, 2) := by decide +kernel
theorem dX0_run_350 : decode cX0_run 350 = .ok (.iload_n 2, 1) := by decide +kernel
theorem dX0_run_351 : decode cX0_run 351 = .ok (.iload 4, 2) := by decide +kernel
theorem dX0_run_353 : decode cX0_run 353 = .ok (.invokevirtual 39, 3) := by decide +kernel
theorem dX0_run_356 : decode cX0_run 356 = .ok (.iconst 3, 1) := by decide +kernel
theorem dX0_run_357 : decode cX0_run 357 = .ok (.imul, 1) := by decide +kernel
theorem dX0_run_358 : decode cX0_run 358 = .ok (.ireturn, 1) := by decide +kernel
theorem dX0_run_359 : decode cX0_run 359 = .ok (.aload_n 0, 1) := by decide +kernel
theorem dX0_run_360 : decode cX0_run 360 = .ok (.bipush 11, 2) := by decide +kernel
theorem dX0_run_362 : decode cX0_run 362 = .ok (.iload_n 2, 1) := by decide +kernel
theorem dX0_run_363 : decode cX0_run 363 = .ok (.iload 4, 2) := by decide +kernel
theorem dX0_run_365 : decode cX0_run 365 = .ok (.invokevirtual 39, 3) := by decide +kernel
theorem dX0_run_368 : decode cX0_run 368 = .ok (.aload_n 0, 1) := by decide +kernel
theorem dX0_run_369 : decode cX0_run 369 = .ok (.iconst 0, 1) := by decide +kernel
theorem dX0_run_370 : decode cX0_run 370 = .ok (.aload_n 0, 1) := by decide +kernel
theorem dX0_run_371 : decode cX0_run 371 = .ok (.getfield 25, 3) := by decide +kernel
theorem dX0_run_374 : decode cX0_run 374 = .ok (.iload 4, 2) := by decide +kernel
theorem dX0_run_376 : decode cX0_run 376 = .ok (.invokevirtual 32, 3) := by decide +kernel
theorem dX0_run_379 : decode cX0_run 379 = .ok (.ixor, 1) := by decide +kernel
theorem dX0_run_380 : decode cX0_run 380 = .ok (.ireturn, 1) := by decide +kernel
theorem dX0_run_381 : decode cX0_run 381 = .ok (.aload_n 0, 1) := by decide +kernel
theorem dX0_run_382 : decode cX0_run 382 = .ok (.bipush 12, 2) := by decide +kernel
theorem dX0_run_384 : decode cX0_run 384 = .ok (.iload_n 2, 1) := by decide +kernel
theorem dX0_run_385 : decode cX0_run 385 = .ok (.bipush 8, 2) := by decide +kernel
theorem dX0_run_387 : decode cX0_run 387 = .ok (.iadd, 1) := by decide +kernel
theorem dX0_run_388 : decode cX0_run 388 = .ok (.iload 4, 2) := by decide +kernel
theorem dX0_run_390 : decode cX0_run 390 = .ok (.invokevirtual 39, 3) := by decide +kernel
theorem dX0_run_393 : decode cX0_run 393 = .ok (.aload_n 0, 1) := by decide +kernel
theorem dX0_run_394 : decode cX0_run 394 = .ok (.getfield 22, 3) := by decide +kernel
theorem dX0_run_397 : decode cX0_run 397 = .ok (.isub, 1) := by decide +kernel
theorem dX0_run_398 : decode cX0_run 398 = .ok (.ireturn, 1) := by decide +kernel
theorem dX0_run_399 : decode cX0_run 399 = .ok (.aload_n 0, 1) := by decide +kernel
theorem dX0_run_400 : decode cX0_run 400 = .ok (.bipush 10, 2) := by decide +kernel
theorem dX0_run_402 : decode cX0_run 402 = .ok (.iload_n 2, 1) := by decide +kernel
theorem dX0_run_403 : decode cX0_run 403 = .ok (.iload 4, 2) := by decide +kernel
theorem dX0_run_405 : decode cX0_run 405 = .ok (.invokevirtual 39, 3) := by decide +kernel
theorem dX0_run_408 : decode cX0_run 408 = .ok (.aload_n 0, 1) := by decide +kernel
theorem dX0_run_409 : decode cX0_run 409 = .ok (.getfield 25, 3) := by decide +kernel
theorem dX0_run_412 : decode cX0_run 412 = .ok (.iadd, 1) := by decide +kernel
theorem dX0_run_413 : decode cX0_run 413 = .ok (.ireturn, 1) := by decide +kernel
theorem dX0_run_414 : decode cX0_run 414 = .ok (.aload_n 0, 1) := by decide +kernel
theorem dX0_run_415 : decode cX0_run 415 = .ok (.bipush 13, 2) := by decide +kernel
theorem dX0_run_417 : decode cX0_run 417 = .ok (.iload_n 2, 1) := by decide +kernel
theorem dX0_run_418 : decode cX0_run 418 = .ok (.iload 4, 2) := by decide +kernel
theorem dX0_run_420 : decode cX0_run 420 = .ok (.invokevirtual 39, 3) := by decide +kernel
theorem dX0_run_423 : decode cX0_run 423 = .ok (.bipush 6, 2) := by decide +kernel
theorem dX0_run_425 : decode cX0_run 425 = .ok (.isub, 1) := by decide +kernel
theorem dX0_run_426 : decode cX0_run 426 = .ok (.ireturn, 1) := by decide +kernel
theorem dX0_run_427 : decode cX0_run 427 = .ok (.aload_n 0, 1) := by decide +kernel
theorem dX0_run_428 : decode cX0_run 428 = .ok (.bipush 12, 2) := by decide +kernel
theorem dX0_run_430 : decode cX0_run 430 = .ok (.iload_n 2, 1) := by decide +kernel
theorem dX0_run_431 : decode cX0_run 431 = .ok (.iload 4, 2) := by decide +kernel
theorem dX0_run_433 : decode cX0_run 433 = .ok (.invokevirtual 39, 3) := by decide +kernel
theorem dX0_run_436 : decode cX0_run 436 = .ok (.aload_n 0, 1) := by decide +kernel
theorem dX0_run_437 : decode cX0_run 437 = .ok (.iconst 0, 1) := by decide +kernel
theorem dX0_run_438 : decode cX0_run 438 = .ok (.aload_n 0, 1) := by decide +kernel
theorem dX0_run_439 : decode cX0_run 439 = .ok (.getfield 22, 3) := by decide +kernel
theorem dX0_run_442 : decode cX0_run 442 = .ok (.iload 4, 2) := by decide +kernel
theorem dX0_run_444 : decode cX0_run 444 = .ok (.invokevirtual 32, 3) := by decide +kernel
theorem dX0_run_447 : decode cX0_run 447 = .ok (.imul, 1) := by decide +kernel
theorem dX0_run_448 : decode cX0_run 448 = .ok (.ireturn, 1) := by decide +kernel
theorem dX0_run_449 : decode cX0_run 449 = .ok (.iconst 0, 1) := by decide +kernel
theorem dX0_run_450 : decode cX0_run 450 = .ok (.ireturn, 1) := by decide +kernel
theorem dX0_note_0 : decode cX0_note 0 = .ok (.aload_n 0, 1) := by decide +kernel
theorem dX0_note_1 : decode cX0_note 1 = .ok (.getfield 15, 3) := by decide +kernel
theorem dX0_note_4 : decode cX0_note 4 = .ok (.bipush 30, 2) := by decide +kernel
theorem dX0_note_6 : decode cX0_note 6 = .ok (.if_icmp .ge 23, 3) := by decide +kernel
theorem dX0_note_9 : decode cX0_note 9 = .ok (.aload_n 0, 1) := by decide +kernel
theorem dX0_note_10 : decode cX0_note 10 = .ok (.getfield 11, 3) := by decide +kernel
theorem dX0_note_13 : decode cX0_note 13 = .ok (.aload_n 0, 1) := by decide +kernel
theorem dX0_note_14 : decode cX0_note 14 = .ok (.getfield 15, 3) := by decide +kernel
theorem dX0_note_17 : decode cX0_note 17 = .ok (.iload_n 1, 1) := by decide +kernel
theorem dX0_note_18 : decode cX0_note 18 = .ok (.iastore, 1) := by decide +kernel
theorem dX0_note_19 : decode cX0_note 19 = .ok (.aload_n 0, 1) := by decide +kernel
theorem dX0_note_20 : decode cX0_note 20 = .ok (.dup, 1) := by decide +kernel
theorem dX0_note_21 : decode cX0_note 21 = .ok (.getfield 15, 3) := by decide +kernel
theorem dX0_note_24 : decode cX0_note 24 = .ok (.iconst 1, 1) := by decide +kernel
theorem dX0_note_25 : decode cX0_note 25 = .ok (.iadd, 1) := by decide +kernel
theorem dX0_note_26 : decode cX0_note 26 = .ok (.putfield 15, 3) := by decide +kernel
theorem dX0_note_29 : decode cX0_note 29 = .ok (.return_, 1) := by decide +kernel
theorem dX0_quotient_0 : decode cX0_quotient 0 = .ok (.iload_n 2, 1) := by decide +kernel
theorem dX0_quotient_1 : decode cX0_quotient 1 = .ok (.ifCond .ne 10, 3) := by decide +kernel
theorem dX0_quotient_4 : decode cX0_quotient 4 = .ok (.aload_n 0, 1) := by decide +kernel
theorem dX0_quotient_5 : decode cX0_quotient 5 = .ok (.iconst 1, 1) := by decide +kernel
theorem dX0_quotient_6 : decode cX0_quotient 6 = .ok (.putfield 28, 3) := by decide +kernel
theorem dX0_quotient_9 : decode cX0_quotient 9 = .ok (.iconst 0, 1) := by decide +kernel
theorem dX0_quotient_10 : decode cX0_quotient 10 = .ok (.ireturn, 1) := by decide +kernel
theorem dX0_quotient_11 : decode cX0_quotient 11 = .ok (.iload_n 1, 1) := by decide +kernel
theorem dX0_quotient_12 : decode cX0_quotient 12 = .ok (.iload_n 2, 1) := by decide +kernel
theorem dX0_quotient_13 : decode cX0_quotient 13 = .ok (.idiv, 1) := by decide +kernel
theorem dX0_quotient_14 : decode cX0_quotient 14 = .ok (.ireturn, 1) := by decide +kernel
theorem dX1_init_0 : decode cX1_init 0 = .ok (.aload_n 0, 1) := by decide +kernel
theorem dX1_init_1 : decode cX1_init 1 = .ok (.invokespecial 3, 3) := by decide +kernel
theorem dX1_init_4 : decode cX1_init 4 = .ok (.aload_n 0, 1) := by decide +kernel
theorem dX1_init_5 : decode cX1_init 5 = .ok (.iconst 4, 1) := by decide +kernel
theorem dX1_init_6 : decode cX1_init 6 = .ok (.newarray .int, 2) := by decide +kernel
theorem dX1_init_8 : decode cX1_init 8 = .ok (.putfield 9, 3) := by decide +kernel
theorem dX1_init_11 : decode cX1_init 11 = .ok (.aload_n 0, 1) := by decide +kernel
theorem dX1_init_12 : decode cX1_init 12 = .ok (.bipush 8, 2) := by decide +kernel
theorem dX1_init_14 : decode cX1_init 14 = .ok (.newarray .int, 2) := by decide +kernel
theorem dX1_init_16 : decode cX1_init 16 = .ok (.putfield 15, 3) := by decide +kernel
theorem dX1_init_19 : decode cX1_init 19 = .ok (.aload_n 0, 1) := by decide +kernel
theorem dX1_init_20 : decode cX1_init 20 = .ok (.bipush 8, 2) := by decide +kernel
theorem dX1_init_22 : decode cX1_init 22 = .ok (.newarray .int, 2) := by decide +kernel
theorem dX1_init_24 : decode cX1_init 24 = .ok (.putfield 18, 3) := by decide +kernel
theorem dX1_init_27 : decode cX1_init 27 = .ok (.aload_n 0, 1) := by decide +kernel
theorem dX1_init_28 : decode cX1_init 28 = .ok (.bipush 8, 2) := by decide +kernel
theorem dX1_init_30 : decode cX1_init 30 = .ok (.newarray .int, 2) := by decide +kernel
theorem dX1_init_32 : decode cX1_init 32 = .ok (.putfield 21, 3) := by decide +kernel
theorem dX1_init_35 : decode cX1_init 35 = .ok (.aload_n 0, 1) := by decide +kernel
theorem dX1_init_36 : decode cX1_init 36 = .ok (.bipush 8, 2) := by decide +kernel
theorem dX1_init_38 : decode cX1_init 38 = .ok (.newarray .int, 2) := by decide +kernel
theorem dX1_init_40 : decode cX1_init 40 = .ok (.putfield 24, 3) := by decide +kernel
theorem dX1_init_43 : decode cX1_init 43 = .ok (.aload_n 0, 1) := by decide +kernel
theorem dX1_init_44 : decode cX1_init 44 = .ok (.bipush 8, 2) := by decide +kernel
theorem dX1_init_46 : decode cX1_init 46 = .ok (.newarray .int, 2) := by decide +kernel
theorem dX1_init_48 : decode cX1_init 48 = .ok (.putfield 27, 3) := by decide +kernel
theorem dX1_init_51 : decode cX1_init 51 = .ok (.aload_n 0, 1) := by decide +kernel
theorem dX1_init_52 : decode cX1_init 52 = .ok (.bipush 8, 2) := by decide +kernel
theorem dX1_init_54 : decode cX1_init 54 = .ok (.newarray .int, 2) := by decide +kernel
theorem dX1_init_56 : decode cX1_init 56 = .ok (.putfield 30, 3) := by decide +kernel
theorem dX1_init_59 : decode cX1_init 59 = .ok (.aload_n 0, 1) := by decide +kernel
theorem dX1_init_60 : decode cX1_init 60 = .ok (.iconst 1, 1) := by decide +kernel
theorem dX1_init_61 : decode cX1_init 61 = .ok (.putfield 33, 3) := by decide +kernel
theorem dX1_init_64 : decode cX1_init 64 = .ok (.aload_n 0, 1) := by decide +kernel
theorem dX1_init_65 : decode cX1_init 65 = .ok (.invokevirtual 37, 3) := by decide +kernel
theorem dX1_init_68 : decode cX1_init 68 = .ok (.return_, 1) := by decide +kernel
theorem dX1_makeFirst_0 : decode cX1_makeFirst 0 = .ok (.iconst 0, 1) := by decide +kernel
theorem dX1_makeFirst_1 : decode cX1_makeFirst 1 = .ok (.istore_n 1, 1) := by decide +kernel
theorem dX1_makeFirst_2 : decode cX1_makeFirst 2 = .ok (.iload_n 1, 1) := by decide +kernel
theorem dX1_makeFirst_3 : decode cX1_makeFirst 3 = .ok (.iconst 4, 1) := by decide +kernel
theorem dX1_makeFirst_4 : decode cX1_makeFirst 4 = .ok (.if_icmp .ge 20, 3) := by decide +kernel
theorem dX1_makeFirst_7 : decode cX1_makeFirst 7 = .ok (.aload_n 0, 1) := by decide +kernel
theorem dX1_makeFirst_8 : decode cX1_makeFirst 8 = .ok (.getfield 9, 3) := by decide +kernel
theorem dX1_makeFirst_11 : decode cX1_makeFirst 11 = .ok (.iload_n 1, 1) := by decide +kernel
theorem dX1_makeFirst_12 : decode cX1_makeFirst 12 = .ok (.getstatic 40, 3) := by decide +kernel
theorem dX1_makeFirst_15 : decode cX1_makeFirst 15 = .ok (.iload_n 1, 1) := by decide +kernel
theorem dX1_makeFirst_16 : decode cX1_makeFirst 16 = .ok (.iaload, 1) := by decide +kernel
theorem dX1_makeFirst_17 : decode cX1_makeFirst 17 = .ok (.iastore, 1) := by decide +kernel
theorem dX1_makeFirst_18 : decode cX1_makeFirst 18 = .ok (.iinc 1 1, 3) := by decide +kernel
theorem dX1_makeFirst_21 : decode cX1_makeFirst 21 = .ok (.goto (-19), 3) := by decide +kernel
theorem dX1_makeFirst_24 : decode cX1_makeFirst 24 = .ok (.iconst 0, 1) := by decide +kernel
theorem dX1_makeFirst_25 : decode cX1_makeFirst 25 = .ok (.istore_n 1, 1) := by decide +kernel
theorem dX1_makeFirst_26 : decode cX1_makeFirst 26 = .ok (.iload_n 1, 1) := by decide +kernel
theorem dX1_makeFirst_27 : decode cX1_makeFirst 27 = .ok (.bipush 8, 2) := by decide +kernel
theorem dX1_makeFirst_29 : decode cX1_makeFirst 29 = .ok (.if_icmp .ge 28, 3) := by decide +kernel
theorem dX1_makeFirst_32 : decode cX1_makeFirst 32 = .ok (.aload_n 0, 1) := by decide +kernel
theorem dX1_makeFirst_33 : decode cX1_makeFirst 33 = .ok (.getfield 15, 3) := by decide +kernel
theorem dX1_makeFirst_36 : decode cX1_makeFirst 36 = .ok (.iload_n 1, 1) := by decide +kernel
theorem dX1_makeFirst_37 : decode cX1_makeFirst 37 = .ok (.iload_n 1, 1) := by decide +kernel
theorem dX1_makeFirst_38 : decode cX1_makeFirst 38 = .ok (.iconst 1, 1) := by decide +kernel
theorem dX1_makeFirst_39 : decode cX1_makeFirst 39 = .ok (.iadd, 1) := by decide +kernel
theorem dX1_makeFirst_40 : decode cX1_makeFirst 40 = .ok (.bipush 8, 2) := by decide +kernel
theorem dX1_makeFirst_42 : decode cX1_makeFirst 42 = .ok (.irem, 1) := by decide +kernel
theorem dX1_makeFirst_43 : decode cX1_makeFirst 43 = .ok (.iastore, 1) := by decide +kernel
theorem dX1_makeFirst_44 : decode cX1_makeFirst 44 = .ok (.aload_n 0, 1) := by decide +kernel
theorem dX1_makeFirst_45 : decode cX1_makeFirst 45 = .ok (.getfield 18, 3) := by decide +kernel
theorem dX1_makeFirst_48 : decode cX1_makeFirst 48 = .ok (.iload_n 1, 1) := by decide +kernel
theorem dX1_makeFirst_49 : decode cX1_makeFirst 49 = .ok (.iconst 1, 1) := by decide +kernel
theorem dX1_makeFirst_50 : decode cX1_makeFirst 50 = .ok (.iastore, 1) := by decide +kernel
theorem dX1_makeFirst_51 : decode cX1_makeFirst 51 = .ok (.iinc 1 1, 3) := by decide +kernel
theorem dX1_makeFirst_54 : decode cX1_makeFirst 54 = .ok (.goto (-28), 3) := by decide +kernel
theorem dX1_makeFirst_57 : decode cX1_makeFirst 57 = .ok (.aload_n 0, 1) := by decide +kernel
theorem dX1_makeFirst_58 : decode cX1_makeFirst 58 = .ok (.iconst 0, 1) := by decide +kernel
theorem dX1_makeFirst_59 : decode cX1_makeFirst 59 = .ok (.putfield 43, 3) := by decide +kernel
theorem dX1_makeFirst_62 : decode cX1_makeFirst 62 = .ok (.aload_n 0, 1) := by decide +kernel
theorem dX1_makeFirst_63 : decode cX1_makeFirst 63 = .ok (.iconst 0, 1) := by decide +kernel
theorem dX1_makeFirst_64 : decode cX1_makeFirst 64 = .ok (.putfield 46, 3) := by decide +kernel
theorem dX1_makeFirst_67 : decode cX1_makeFirst 67 = .ok (.aload_n 0, 1) := by decide +kernel
theorem dX1_makeFirst_68 : decode cX1_makeFirst 68 = .ok (.iconst 0, 1) := by decide +kernel
theorem dX1_makeFirst_69 : decode cX1_makeFirst 69 = .ok (.putfield 49, 3) := by decide +kernel
theorem dX1_makeFirst_72 : decode cX1_makeFirst 72 = .ok (.return_, 1) := by decide +kernel
theorem dX1_copyFrom_0 : decode cX1_copyFrom 0 = .ok (.aload_n 1, 1) := by decide +kernel
theorem dX1_copyFrom_1 : decode cX1_copyFrom 1 = .ok (.getfield 9, 3) := by decide +kernel
theorem dX1_copyFrom_4 : decode cX1_copyFrom 4 = .ok (.iconst 0, 1) := by decide +kernel
theorem dX1_copyFrom_5 : decode cX1_copyFrom 5 = .ok (.aload_n 0, 1) := by decide +kernel
theorem dX1_copyFrom_6 : decode cX1_copyFrom 6 = .ok (.getfield 9, 3) := by decide +kernel
theorem dX1_copyFrom_9 : decode cX1_copyFrom 9 = .ok (.iconst 0, 1) := by decide +kernel
theorem dX1_copyFrom_10 : decode cX1_copyFrom 10 = .ok (.iconst 4, 1) := by decide +kernel
theorem dX1_copyFrom_11 : decode cX1_copyFrom 11 = .ok (.invokestatic 52, 3) := by decide +kernel
theorem dX1_copyFrom_14 : decode cX1_copyFrom 14 = .ok (.aload_n 1, 1) := by decide +kernel
theorem dX1_copyFrom_15 : decode cX1_copyFrom 15 = .ok (.getfield 15, 3) := by decide +kernel
theorem dX1_copyFrom_18 : decode cX1_copyFrom 18 = .ok (.iconst 0, 1) := by decide +kernel
theorem dX1_copyFrom_19 : decode cX1_copyFrom 19 = .ok (.aload_n 0, 1) := by decide +kernel
theorem dX1_copyFrom_20 : decode cX1_copyFrom 20 = .ok (.getfield 15, 3) := by decide +kernel
theorem dX1_copyFrom_23 : decode cX1_copyFrom 23 = .ok (.iconst 0, 1) := by decide +kernel
theorem dX1_copyFrom_24 : decode cX1_copyFrom 24 = .ok (.bipush 8, 2) := by decide +kernel
theorem dX1_copyFrom_26 : decode cX1_copyFrom 26 = .ok (.invokestatic 52, 3) := by decide +kernel
theorem dX1_copyFrom_29 : decode cX1_copyFrom 29 = .ok (.aload_n 1, 1) := by decide +kernel
theorem dX1_copyFrom_30 : decode cX1_copyFrom 30 = .ok (.getfield 18, 3) := by decide +kernel
theorem dX1_copyFrom_33 : decode cX1_copyFrom 33 = .ok (.iconst 0, 1) := by decide +kernel
theorem dX1_copyFrom_34 : decode cX1_copyFrom 34 = .ok (.aload_n 0, 1) := by decide +kernel
theorem dX1_copyFrom_35 : decode cX1_copyFrom 35 = .ok (.getfield 18, 3) := by decide +kernel
theorem dX1_copyFrom_38 : decode cX1_copyFrom 38 = .ok (.iconst 0, 1) := by decide +kernel
theorem dX1_copyFrom_39 : decode cX1_copyFrom 39 = .ok (.bipush 8, 2) := by decide +kernel
theorem dX1_copyFrom_41 : decode cX1_copyFrom 41 = .ok (.invokestatic 52, 3) := by decide +kernel
theorem dX1_copyFrom_44 : decode cX1_copyFrom 44 = .ok (.aload_n 1, 1) := by decide +kernel
theorem dX1_copyFrom_45 : decode cX1_copyFrom 45 = .ok (.getfield 21, 3) := by decide +kernel
theorem dX1_copyFrom_48 : decode cX1_copyFrom 48 = .ok (.iconst 0, 1) := by decide +kernel
theorem dX1_copyFrom_49 : decode cX1_copyFrom 49 = .ok (.aload_n 0, 1) := by decide +kernel
theorem dX1_copyFrom_50 : decode cX1_copyFrom 50 = .ok (.getfield 21, 3) := by decide +kernel
theorem dX1_copyFrom_53 : decode cX1_copyFrom 53 = .ok (.iconst 0, 1) := by decide +kernel
theorem dX1_copyFrom_54 : decode cX1_copyFrom 54 = .ok (.bipush 8, 2) := by decide +kernel
theorem dX1_copyFrom_56 : decode cX1_copyFrom 56 = .ok (.invokestatic 52, 3) := by decide +kernel
theorem dX1_copyFrom_59 : decode cX1_copyFrom 59 = .ok (.aload_n 1, 1) := by decide +kernel
theorem dX1_copyFrom_60 : decode cX1_copyFrom 60 = .ok (.getfield 24, 3) := by decide +kernel
theorem dX1_copyFrom_63 : decode cX1_copyFrom 63 = .ok (.iconst 0, 1) := by decide +kernel
theorem dX1_copyFrom_64 : decode cX1_copyFrom 64 = .ok (.aload_n 0, 1) := by decide +kernel
theorem dX1_copyFrom_65 : decode cX1_copyFrom 65 = .ok (.getfield 24, 3) := by decide +kernel
theorem dX1_copyFrom_68 : decode cX1_copyFrom 68 = .ok (.iconst 0, 1) := by decide +kernel
theorem dX1_copyFrom_69 : decode cX1_copyFrom 69 = .ok (.bipush 8, 2) := by decide +kernel
theorem dX1_copyFrom_71 : decode cX1_copyFrom 71 = .ok (.invokestatic 52, 3) := by decide +kernel
theorem dX1_copyFrom_74 : decode cX1_copyFrom 74 = .ok (.aload_n 1, 1) := by decide +kernel
theorem dX1_copyFrom_75 : decode cX1_copyFrom 75 = .ok (.getfield 27, 3) := by decide +kernel
theorem dX1_copyFrom_78 : decode cX1_copyFrom 78 = .ok (.iconst 0, 1) := by decide +kernel
theorem dX1_copyFrom_79 : decode cX1_copyFrom 79 = .ok (.aload_n 0, 1) := by decide +kernel
theorem dX1_copyFrom_80 : decode cX1_copyFrom 80 = .ok (.getfield 27, 3) := by decide +kernel
theorem dX1_copyFrom_83 : decode cX1_copyFrom 83 = .ok (.iconst 0, 1) := by decide +kernel
theorem dX1_copyFrom_84 : decode cX1_copyFrom 84 = .ok (.bipush 8, 2) := by decide +kernel
theorem dX1_copyFrom_86 : decode cX1_copyFrom 86 = .ok (.invokestatic 52, 3) := by decide +kernel
theorem dX1_copyFrom_89 : decode cX1_copyFrom 89 = .ok (.aload_n 1, 1) := by decide +kernel
theorem dX1_copyFrom_90 : decode cX1_copyFrom 90 = .ok (.getfield 30, 3) := by decide +kernel
theorem dX1_copyFrom_93 : decode cX1_copyFrom 93 = .ok (.iconst 0, 1) := by decide +kernel
theorem dX1_copyFrom_94 : decode cX1_copyFrom 94 = .ok (.aload_n 0, 1) := by decide +kernel
theorem dX1_copyFrom_95 : decode cX1_copyFrom 95 = .ok (.getfield 30, 3) := by decide +kernel
theorem dX1_copyFrom_98 : decode cX1_copyFrom 98 = .ok (.iconst 0, 1) := by decide +kernel
theorem dX1_copyFrom_99 : decode cX1_copyFrom 99 = .ok (.bipush 8, 2) := by decide +kernel
theorem dX1_copyFrom_101 : decode cX1_copyFrom 101 = .ok (.invokestatic 52, 3) := by decide +kernel
theorem dX1_copyFrom_104 : decode cX1_copyFrom 104 = .ok (.aload_n 0, 1) := by decide +kernel
theorem dX1_copyFrom_105 : decode cX1_copyFrom 105 = .ok (.aload_n 1, 1) := by decide +kernel
theorem dX1_copyFrom_106 : decode cX1_copyFrom 106 = .ok (.getfield 43, 3) := by decide +kernel
theorem dX1_copyFrom_109 : decode cX1_copyFrom 109 = .ok (.putfield 43, 3) := by decide +kernel
theorem dX1_copyFrom_112 : decode cX1_copyFrom 112 = .ok (.aload_n 0, 1) := by decide +kernel
theorem dX1_copyFrom_113 : decode cX1_copyFrom 113 = .ok (.aload_n 1, 1) := by decide +kernel
theorem dX1_copyFrom_114 : decode cX1_copyFrom 114 = .ok (.getfield 46, 3) := by decide +kernel
theorem dX1_copyFrom_117 : decode cX1_copyFrom 117 = .ok (.putfield 46, 3) := by decide +kernel
theorem dX1_copyFrom_120 : decode cX1_copyFrom 120 = .ok (.aload_n 0, 1) := by decide +kernel
theorem dX1_copyFrom_121 : decode cX1_copyFrom 121 = .ok (.aload_n 1, 1) := by decide +kernel
theorem dX1_copyFrom_122 : decode cX1_copyFrom 122 = .ok (.getfield 49, 3) := by decide +kernel
theorem dX1_copyFrom_125 : decode cX1_copyFrom 125 = .ok (.putfield 49, 3) := by decide +kernel
theorem dX1_copyFrom_128 : decode cX1_copyFrom 128 = .ok (.aload_n 0, 1) := by decide +kernel
theorem dX1_copyFrom_129 : decode cX1_copyFrom 129 = .ok (.aload_n 1, 1) := by decide +kernel
theorem dX1_copyFrom_130 : decode cX1_copyFrom 130 = .ok (.getfield 33, 3) := by decide +kernel
theorem dX1_copyFrom_133 : decode cX1_copyFrom 133 = .ok (.putfield 33, 3) := by decide +kernel
theorem dX1_copyFrom_136 : decode cX1_copyFrom 136 = .ok (.return_, 1) := by decide +kernel
theorem dX1_add_0 : decode cX1_add 0 = .ok (.aload_n 0, 1) := by decide +kernel
theorem dX1_add_1 : decode cX1_add 1 = .ok (.getfield 46, 3) := by decide +kernel
theorem dX1_add_4 : decode cX1_add 4 = .ok (.istore 4, 2) := by decide +kernel
theorem dX1_add_6 : decode cX1_add 6 = .ok (.aload_n 0, 1) := by decide +kernel
theorem dX1_add_7 : decode cX1_add 7 = .ok (.getfield 21, 3) := by decide +kernel
theorem dX1_add_10 : decode cX1_add 10 = .ok (.iload 4, 2) := by decide +kernel
theorem dX1_add_12 : decode cX1_add 12 = .ok (.iload_n 1, 1) := by decide +kernel
theorem dX1_add_13 : decode cX1_add 13 = .ok (.iastore, 1) := by decide +kernel
theorem dX1_add_14 : decode cX1_add 14 = .ok (.aload_n 0, 1) := by decide +kernel
theorem dX1_add_15 : decode cX1_add 15 = .ok (.getfield 24, 3) := by decide +kernel
theorem dX1_add_18 : decode cX1_add 18 = .ok (.iload 4, 2) := by decide +kernel
theorem dX1_add_20 : decode cX1_add 20 = .ok (.iload_n 2, 1) := by decide +kernel
theorem dX1_add_21 : decode cX1_add 21 = .ok (.iastore, 1) := by decide +kernel
theorem dX1_add_22 : decode cX1_add 22 = .ok (.aload_n 0, 1) := by decide +kernel
theorem dX1_add_23 : decode cX1_add 23 = .ok (.getfield 27, 3) := by decide +kernel
theorem dX1_add_26 : decode cX1_add 26 = .ok (.iload 4, 2) := by decide +kernel
theorem dX1_add_28 : decode cX1_add 28 = .ok (.iload_n 3, 1) := by decide +kernel
theorem dX1_add_29 : decode cX1_add 29 = .ok (.iastore, 1) := by decide +kernel
theorem dX1_add_30 : decode cX1_add 30 = .ok (.aload_n 0, 1) := by decide +kernel
theorem dX1_add_31 : decode cX1_add 31 = .ok (.getfield 30, 3) := by decide +kernel
theorem dX1_add_34 : decode cX1_add 34 = .ok (.iload 4, 2) := by decide +kernel
theorem dX1_add_36 : decode cX1_add 36 = .ok (.iconst 1, 1) := by decide +kernel
theorem dX1_add_37 : decode cX1_add 37 = .ok (.iload_n 3, 1) := by decide +kernel
theorem dX1_add_38 : decode cX1_add 38 = .ok (.ishl, 1) := by decide +kernel
theorem dX1_add_39 : decode cX1_add 39 = .ok (.iastore, 1) := by decide +kernel
theorem dX1_add_40 : decode cX1_add 40 = .ok (.aload_n 0, 1) := by decide +kernel
theorem dX1_add_41 : decode cX1_add 41 = .ok (.dup, 1) := by decide +kernel
theorem dX1_add_42 : decode cX1_add 42 = .ok (.getfield 46, 3) := by decide +kernel
theorem dX1_add_45 : decode cX1_add 45 = .ok (.iconst 1, 1) := by decide +kernel
theorem dX1_add_46 : decode cX1_add 46 = .ok (.iadd, 1) := by decide +kernel
theorem dX1_add_47 : decode cX1_add 47 = .ok (.putfield 46, 3) := by decide +kernel
theorem dX1_add_50 : decode cX1_add 50 = .ok (.iload 4, 2) := by decide +kernel
theorem dX1_add_52 : decode cX1_add 52 = .ok (.ireturn, 1) := by decide +kernel
theorem dX1_bring_0 : decode cX1_bring 0 = .ok (.aload_n 0, 1) := by decide +kernel
theorem dX1_bring_1 : decode cX1_bring 1 = .ok (.getfield 27, 3) := by decide +kernel
theorem dX1_bring_4 : decode cX1_bring 4 = .ok (.iload_n 1, 1) := by decide +kernel
theorem dX1_bring_5 : decode cX1_bring 5 = .ok (.iload_n 2, 1) := by decide +kernel
theorem dX1_bring_6 : decode cX1_bring 6 = .ok (.iastore, 1) := by decide +kernel
theorem dX1_bring_7 : decode cX1_bring 7 = .ok (.aload_n 0, 1) := by decide +kernel
theorem dX1_bring_8 : decode cX1_bring 8 = .ok (.getfield 30, 3) := by decide +kernel
theorem dX1_bring_11 : decode cX1_bring 11 = .ok (.iload_n 1, 1) := by decide +kernel
theorem dX1_bring_12 : decode cX1_bring 12 = .ok (.dup2, 1) := by decide +kernel
theorem dX1_bring_13 : decode cX1_bring 13 = .ok (.iaload, 1) := by decide +kernel
theorem dX1_bring_14 : decode cX1_bring 14 = .ok (.iconst 1, 1) := by decide +kernel
theorem dX1_bring_15 : decode cX1_bring 15 = .ok (.iload_n 2, 1) := by decide +kernel
theorem dX1_bring_16 : decode cX1_bring 16 = .ok (.ishl, 1) := by decide +kernel
theorem dX1_bring_17 : decode cX1_bring 17 = .ok (.ior, 1) := by decide +kernel
theorem dX1_bring_18 : decode cX1_bring 18 = .ok (.iastore, 1) := by decide +kernel
theorem dX1_bring_19 : decode cX1_bring 19 = .ok (.return_, 1) := by decide +kernel
theorem dX1_coolsOf_0 : decode cX1_coolsOf 0 = .ok (.aload_n 0, 1) := by decide +kernel
theorem dX1_coolsOf_1 : decode cX1_coolsOf 1 = .ok (.getfield 9, 3) := by decide +kernel
theorem dX1_coolsOf_4 : decode cX1_coolsOf 4 = .ok (.iconst 0, 1) := by decide +kernel
theorem dX1_coolsOf_5 : decode cX1_coolsOf 5 = .ok (.iaload, 1) := by decide +kernel
theorem dX1_coolsOf_6 : decode cX1_coolsOf 6 = .ok (.istore_n 2, 1) := by decide +kernel
theorem dX1_coolsOf_7 : decode cX1_coolsOf 7 = .ok (.aload_n 0, 1) := by decide +kernel
theorem dX1_coolsOf_8 : decode cX1_coolsOf 8 = .ok (.getfield 21, 3) := by decide +kernel
theorem dX1_coolsOf_11 : decode cX1_coolsOf 11 = .ok (.iload_n 1, 1) := by decide +kernel
theorem dX1_coolsOf_12 : decode cX1_coolsOf 12 = .ok (.iaload, 1) := by decide +kernel
theorem dX1_coolsOf_13 : decode cX1_coolsOf 13 = .ok (.tableswitch 89 1 5 #[35, 50, 39, 54, 68], 35) := by decide +kernel
theorem dX1_coolsOf_48 : decode cX1_coolsOf 48 = .ok (.iload_n 2, 1) := by decide +kernel
theorem dX1_coolsOf_49 : decode cX1_coolsOf 49 = .ok (.iconst 1, 1) := by decide +kernel
theorem dX1_coolsOf_50 : decode cX1_coolsOf 50 = .ok (.isub, 1) := by decide +kernel
theorem dX1_coolsOf_51 : decode cX1_coolsOf 51 = .ok (.ireturn, 1) := by decide +kernel
theorem dX1_coolsOf_52 : decode cX1_coolsOf 52 = .ok (.iload_n 2, 1) := by decide +kernel
theorem dX1_coolsOf_53 : decode cX1_coolsOf 53 = .ok (.iconst 1, 1) := by decide +kernel
theorem dX1_coolsOf_54 : decode cX1_coolsOf 54 = .ok (.isub, 1) := by decide +kernel
theorem dX1_coolsOf_55 : decode cX1_coolsOf 55 = .ok (.aload_n 0, 1) := by decide +kernel
theorem dX1_coolsOf_56 : decode cX1_coolsOf 56 = .ok (.getfield 9, 3) := by decide +kernel
theorem dX1_coolsOf_59 : decode cX1_coolsOf 59 = .ok (.iconst 1, 1) := by decide +kernel
theorem dX1_coolsOf_60 : decode cX1_coolsOf 60 = .ok (.iaload, 1) := by decide +kernel
theorem dX1_coolsOf_61 : decode cX1_coolsOf 61 = .ok (.isub, 1) := by decide +kernel
theorem dX1_coolsOf_62 : decode cX1_coolsOf 62 = .ok (.ireturn, 1) := by decide +kernel
theorem dX1_coolsOf_63 : decode cX1_coolsOf 63 = .ok (.iload_n 2, 1) := by decide +kernel
theorem dX1_coolsOf_64 : decode cX1_coolsOf 64 = .ok (.iconst 2, 1) := by decide +kernel
theorem dX1_coolsOf_65 : decode cX1_coolsOf 65 = .ok (.imul, 1) := by decide +kernel
theorem dX1_coolsOf_66 : decode cX1_coolsOf 66 = .ok (.ireturn, 1) := by decide +kernel
theorem dX1_coolsOf_67 : decode cX1_coolsOf 67 = .ok (.iload_n 2, 1) := by decide +kernel
theorem dX1_coolsOf_68 : decode cX1_coolsOf 68 = .ok (.iconst 2, 1) := by decide +kernel
theorem dX1_coolsOf_69 : decode cX1_coolsOf 69 = .ok (.imul, 1) := by decide +kernel
theorem dX1_coolsOf_70 : decode cX1_coolsOf 70 = .ok (.aload_n 0, 1) := by decide +kernel
theorem dX1_coolsOf_71 : decode cX1_coolsOf 71 = .ok (.getfield 30, 3) := by decide +kernel
theorem dX1_coolsOf_74 : decode cX1_coolsOf 74 = .ok (.iload_n 1, 1) := by decide +kernel
theorem dX1_coolsOf_75 : decode cX1_coolsOf 75 = .ok (.iaload, 1) := by decide +kernel
theorem dX1_coolsOf_76 : decode cX1_coolsOf 76 = .ok (.invokestatic 58, 3) := by decide +kernel
theorem dX1_coolsOf_79 : decode cX1_coolsOf 79 = .ok (.iadd, 1) := by decide +kernel
theorem dX1_coolsOf_80 : decode cX1_coolsOf 80 = .ok (.ireturn, 1) := by decide +kernel
theorem dX1_coolsOf_81 : decode cX1_coolsOf 81 = .ok (.aload_n 0, 1) := by decide +kernel
theorem dX1_coolsOf_82 : decode cX1_coolsOf 82 = .ok (.getfield 24, 3) := by decide +kernel
theorem dX1_coolsOf_85 : decode cX1_coolsOf 85 = .ok (.iload_n 1, 1) := by decide +kernel
theorem dX1_coolsOf_86 : decode cX1_coolsOf 86 = .ok (.iaload, 1) := by decide +kernel
theorem dX1_coolsOf_87 : decode cX1_coolsOf 87 = .ok (.aload_n 0, 1) := by decide +kernel
theorem dX1_coolsOf_88 : decode cX1_coolsOf 88 = .ok (.getfield 9, 3) := by decide +kernel
theorem dX1_coolsOf_91 : decode cX1_coolsOf 91 = .ok (.iconst 2, 1) := by decide +kernel
theorem dX1_coolsOf_92 : decode cX1_coolsOf 92 = .ok (.iaload, 1) := by decide +kernel
theorem dX1_coolsOf_93 : decode cX1_coolsOf 93 = .ok (.if_icmp .le 7, 3) := by decide +kernel
theorem dX1_coolsOf_96 : decode cX1_coolsOf 96 = .ok (.iconst (-1), 1) := by decide +kernel
theorem dX1_coolsOf_97 : decode cX1_coolsOf 97 = .ok (.goto 4, 3) := by decide +kernel
theorem dX1_coolsOf_100 : decode cX1_coolsOf 100 = .ok (.iload_n 2, 1) := by decide +kernel
theorem dX1_coolsOf_101 : decode cX1_coolsOf 101 = .ok (.ireturn, 1) := by decide +kernel
theorem dX1_coolsOf_102 : decode cX1_coolsOf 102 = .ok (.iload_n 2, 1) := by decide +kernel
theorem dX1_coolsOf_103 : decode cX1_coolsOf 103 = .ok (.ireturn, 1) := by decide +kernel
theorem dX1_doorsOf_0 : decode cX1_doorsOf 0 = .ok (.aload_n 0, 1) := by decide +kernel
theorem dX1_doorsOf_1 : decode cX1_doorsOf 1 = .ok (.getfield 21, 3) := by decide +kernel
theorem dX1_doorsOf_4 : decode cX1_doorsOf 4 = .ok (.iload_n 1, 1) := by decide +kernel
theorem dX1_doorsOf_5 : decode cX1_doorsOf 5 = .ok (.iaload, 1) := by decide +kernel
theorem dX1_doorsOf_6 : decode cX1_doorsOf 6 = .ok (.tableswitch 58 2 5 #[32, 30, 34, 43], 30) := by decide +kernel
theorem dX1_doorsOf_36 : decode cX1_doorsOf 36 = .ok (.iconst 2, 1) := by decide +kernel
theorem dX1_doorsOf_37 : decode cX1_doorsOf 37 = .ok (.ireturn, 1) := by decide +kernel
theorem dX1_doorsOf_38 : decode cX1_doorsOf 38 = .ok (.iconst 2, 1) := by decide +kernel
theorem dX1_doorsOf_39 : decode cX1_doorsOf 39 = .ok (.ireturn, 1) := by decide +kernel
theorem dX1_doorsOf_40 : decode cX1_doorsOf 40 = .ok (.iconst 2, 1) := by decide +kernel
theorem dX1_doorsOf_41 : decode cX1_doorsOf 41 = .ok (.aload_n 0, 1) := by decide +kernel
theorem dX1_doorsOf_42 : decode cX1_doorsOf 42 = .ok (.getfield 49, 3) := by decide +kernel
theorem dX1_doorsOf_45 : decode cX1_doorsOf 45 = .ok (.iconst 2, 1) := by decide +kernel
theorem dX1_doorsOf_46 : decode cX1_doorsOf 46 = .ok (.irem, 1) := by decide +kernel
theorem dX1_doorsOf_47 : decode cX1_doorsOf 47 = .ok (.isub, 1) := by decide +kernel
theorem dX1_doorsOf_48 : decode cX1_doorsOf 48 = .ok (.ireturn, 1) := by decide +kernel
theorem dX1_doorsOf_49 : decode cX1_doorsOf 49 = .ok (.aload_n 0, 1) := by decide +kernel
theorem dX1_doorsOf_50 : decode cX1_doorsOf 50 = .ok (.getfield 49, 3) := by decide +kernel
theorem dX1_doorsOf_53 : decode cX1_doorsOf 53 = .ok (.iconst 3, 1) := by decide +kernel
theorem dX1_doorsOf_54 : decode cX1_doorsOf 54 = .ok (.irem, 1) := by decide +kernel
theorem dX1_doorsOf_55 : decode cX1_doorsOf 55 = .ok (.ifCond .ne 7, 3) := by decide +kernel
theorem dX1_doorsOf_58 : decode cX1_doorsOf 58 = .ok (.iconst 1, 1) := by decide +kernel
theorem dX1_doorsOf_59 : decode cX1_doorsOf 59 = .ok (.goto 4, 3) := by decide +kernel
theorem dX1_doorsOf_62 : decode cX1_doorsOf 62 = .ok (.iconst 0, 1) := by decide +kernel
theorem dX1_doorsOf_63 : decode cX1_doorsOf 63 = .ok (.ireturn, 1) := by decide +kernel
theorem dX1_doorsOf_64 : decode cX1_doorsOf 64 = .ok (.iconst 1, 1) := by decide +kernel
theorem dX1_doorsOf_65 : decode cX1_doorsOf 65 = .ok (.ireturn, 1) := by decide +kernel
theorem dX1_passMinute_0 : decode cX1_passMinute 0 = .ok (.iconst 0, 1) := by decide +kernel
theorem dX1_passMinute_1 : decode cX1_passMinute 1 = .ok (.istore_n 1, 1) := by decide +kernel
theorem dX1_passMinute_2 : decode cX1_passMinute 2 = .ok (.iload_n 1, 1) := by decide +kernel
theorem dX1_passMinute_3 : decode cX1_passMinute 3 = .ok (.aload_n 0, 1) := by decide +kernel
theorem dX1_passMinute_4 : decode cX1_passMinute 4 = .ok (.getfield 46, 3) := by decide +kernel
theorem dX1_passMinute_7 : decode cX1_passMinute 7 = .ok (.if_icmp .ge 14, 3) := by decide +kernel
theorem dX1_passMinute_10 : decode cX1_passMinute 10 = .ok (.aload_n 0, 1) := by decide +kernel
theorem dX1_passMinute_11 : decode cX1_passMinute 11 = .ok (.iload_n 1, 1) := by decide +kernel
theorem dX1_passMinute_12 : decode cX1_passMinute 12 = .ok (.invokevirtual 64, 3) := by decide +kernel
theorem dX1_passMinute_15 : decode cX1_passMinute 15 = .ok (.iinc 1 1, 3) := by decide +kernel
theorem dX1_passMinute_18 : decode cX1_passMinute 18 = .ok (.goto (-16), 3) := by decide +kernel
theorem dX1_passMinute_21 : decode cX1_passMinute 21 = .ok (.aload_n 0, 1) := by decide +kernel
theorem dX1_passMinute_22 : decode cX1_passMinute 22 = .ok (.dup, 1) := by decide +kernel
theorem dX1_passMinute_23 : decode cX1_passMinute 23 = .ok (.getfield 49, 3) := by decide +kernel
theorem dX1_passMinute_26 : decode cX1_passMinute 26 = .ok (.iconst 1, 1) := by decide +kernel
theorem dX1_passMinute_27 : decode cX1_passMinute 27 = .ok (.iadd, 1) := by decide +kernel
theorem dX1_passMinute_28 : decode cX1_passMinute 28 = .ok (.putfield 49, 3) := by decide +kernel
theorem dX1_passMinute_31 : decode cX1_passMinute 31 = .ok (.return_, 1) := by decide +kernel
theorem dX1_passMinuteOf_0 : decode cX1_passMinuteOf 0 = .ok (.aload_n 0, 1) := by decide +kernel
theorem dX1_passMinuteOf_1 : decode cX1_passMinuteOf 1 = .ok (.iload_n 1, 1) := by decide +kernel
theorem dX1_passMinuteOf_2 : decode cX1_passMinuteOf 2 = .ok (.invokevirtual 64, 3) := by decide +kernel
theorem dX1_passMinuteOf_5 : decode cX1_passMinuteOf 5 = .ok (.aload_n 0, 1) := by decide +kernel
theorem dX1_passMinuteOf_6 : decode cX1_passMinuteOf 6 = .ok (.dup, 1) := by decide +kernel
theorem dX1_passMinuteOf_7 : decode cX1_passMinuteOf 7 = .ok (.getfield 49, 3) := by decide +kernel
theorem dX1_passMinuteOf_10 : decode cX1_passMinuteOf 10 = .ok (.iconst 1, 1) := by decide +kernel
theorem dX1_passMinuteOf_11 : decode cX1_passMinuteOf 11 = .ok (.iadd, 1) := by decide +kernel
theorem dX1_passMinuteOf_12 : decode cX1_passMinuteOf 12 = .ok (.putfield 49, 3) := by decide +kernel
theorem dX1_passMinuteOf_15 : decode cX1_passMinuteOf 15 = .ok (.return_, 1) := by decide +kernel
theorem dX1_passMinutesOf_0 : decode cX1_passMinutesOf 0 = .ok (.iconst 0, 1) := by decide +kernel
theorem dX1_passMinutesOf_1 : decode cX1_passMinutesOf 1 = .ok (.istore_n 3, 1) := by decide +kernel
theorem dX1_passMinutesOf_2 : decode cX1_passMinutesOf 2 = .ok (.iload_n 3, 1) := by decide +kernel
theorem dX1_passMinutesOf_3 : decode cX1_passMinutesOf 3 = .ok (.iload_n 2, 1) := by decide +kernel
theorem dX1_passMinutesOf_4 : decode cX1_passMinutesOf 4 = .ok (.if_icmp .ge 14, 3) := by decide +kernel
theorem dX1_passMinutesOf_7 : decode cX1_passMinutesOf 7 = .ok (.aload_n 0, 1) := by decide +kernel
theorem dX1_passMinutesOf_8 : decode cX1_passMinutesOf 8 = .ok (.iload_n 1, 1) := by decide +kernel
theorem dX1_passMinutesOf_9 : decode cX1_passMinutesOf 9 = .ok (.invokevirtual 68, 3) := by decide +kernel
theorem dX1_passMinutesOf_12 : decode cX1_passMinutesOf 12 = .ok (.iinc 3 1, 3) := by decide +kernel
theorem dX1_passMinutesOf_15 : decode cX1_passMinutesOf 15 = .ok (.goto (-13), 3) := by decide +kernel
theorem dX1_passMinutesOf_18 : decode cX1_passMinutesOf 18 = .ok (.return_, 1) := by decide +kernel
theorem dX1_passMinuteByDraws_0 : decode cX1_passMinuteByDraws 0 = .ok (.aload_n 0, 1) := by decide +kernel
theorem dX1_passMinuteByDraws_1 : decode cX1_passMinuteByDraws 1 = .ok (.getfield 46, 3) := by decide +kernel
theorem dX1_passMinuteByDraws_4 : decode cX1_passMinuteByDraws 4 = .ok (.ifCond .le 41, 3) := by decide +kernel
theorem dX1_passMinuteByDraws_7 : decode cX1_passMinuteByDraws 7 = .ok (.aload_n 0, 1) := by decide +kernel
theorem dX1_passMinuteByDraws_8 : decode cX1_passMinuteByDraws 8 = .ok (.invokevirtual 71, 3) := by decide +kernel
theorem dX1_passMinuteByDraws_11 : decode cX1_passMinuteByDraws 11 = .ok (.aload_n 0, 1) := by decide +kernel
theorem dX1_passMinuteByDraws_12 : decode cX1_passMinuteByDraws 12 = .ok (.getfield 46, 3) := by decide +kernel
theorem dX1_passMinuteByDraws_15 : decode cX1_passMinuteByDraws 15 = .ok (.irem, 1) := by decide +kernel
theorem dX1_passMinuteByDraws_16 : decode cX1_passMinuteByDraws 16 = .ok (.istore_n 1, 1) := by decide +kernel
theorem dX1_passMinuteByDraws_17 : decode cX1_passMinuteByDraws 17 = .ok (.aload_n 0, 1) := by decide +kernel
theorem dX1_passMinuteByDraws_18 : decode cX1_passMinuteByDraws 18 = .ok (.invokevirtual 71, 3) := by decide +kernel
theorem dX1_passMinuteByDraws_21 : decode cX1_passMinuteByDraws 21 = .ok (.bipush 100, 2) := by decide +kernel
theorem dX1_passMinuteByDraws_23 : decode cX1_passMinuteByDraws 23 = .ok (.irem, 1) := by decide +kernel
theorem dX1_passMinuteByDraws_24 : decode cX1_passMinuteByDraws 24 = .ok (.aload_n 0, 1) := by decide +kernel
theorem dX1_passMinuteByDraws_25 : decode cX1_passMinuteByDraws 25 = .ok (.getfield 9, 3) := by decide +kernel
theorem dX1_passMinuteByDraws_28 : decode cX1_passMinuteByDraws 28 = .ok (.iconst 3, 1) := by decide +kernel
theorem dX1_passMinuteByDraws_29 : decode cX1_passMinuteByDraws 29 = .ok (.iaload, 1) := by decide +kernel
theorem dX1_passMinuteByDraws_30 : decode cX1_passMinuteByDraws 30 = .ok (.if_icmp .ge 15, 3) := by decide +kernel
theorem dX1_passMinuteByDraws_33 : decode cX1_passMinuteByDraws 33 = .ok (.aload_n 0, 1) := by decide +kernel
theorem dX1_passMinuteByDraws_34 : decode cX1_passMinuteByDraws 34 = .ok (.iload_n 1, 1) := by decide +kernel
theorem dX1_passMinuteByDraws_35 : decode cX1_passMinuteByDraws 35 = .ok (.aload_n 0, 1) := by decide +kernel
theorem dX1_passMinuteByDraws_36 : decode cX1_passMinuteByDraws 36 = .ok (.invokevirtual 71, 3) := by decide +kernel
theorem dX1_passMinuteByDraws_39 : decode cX1_passMinuteByDraws 39 = .ok (.bipush 8, 2) := by decide +kernel
theorem dX1_passMinuteByDraws_41 : decode cX1_passMinuteByDraws 41 = .ok (.irem, 1) := by decide +kernel
theorem dX1_passMinuteByDraws_42 : decode cX1_passMinuteByDraws 42 = .ok (.invokevirtual 75, 3) := by decide +kernel
theorem dX1_passMinuteByDraws_45 : decode cX1_passMinuteByDraws 45 = .ok (.aload_n 0, 1) := by decide +kernel
theorem dX1_passMinuteByDraws_46 : decode cX1_passMinuteByDraws 46 = .ok (.invokevirtual 79, 3) := by decide +kernel
theorem dX1_passMinuteByDraws_49 : decode cX1_passMinuteByDraws 49 = .ok (.return_, 1) := by decide +kernel
theorem dX1_draw_0 : decode cX1_draw 0 = .ok (.aload_n 0, 1) := by decide +kernel
theorem dX1_draw_1 : decode cX1_draw 1 = .ok (.aload_n 0, 1) := by decide +kernel
theorem dX1_draw_2 : decode cX1_draw 2 = .ok (.getfield 33, 3) := by decide +kernel
theorem dX1_draw_5 : decode cX1_draw 5 = .ok (.ldc 82, 2) := by decide +kernel
theorem dX1_draw_7 : decode cX1_draw 7 = .ok (.imul, 1) := by decide +kernel
theorem dX1_draw_8 : decode cX1_draw 8 = .ok (.sipush 12345, 3) := by decide +kernel
theorem dX1_draw_11 : decode cX1_draw 11 = .ok (.iadd, 1) := by decide +kernel
theorem dX1_draw_12 : decode cX1_draw 12 = .ok (.putfield 33, 3) := by decide +kernel
theorem dX1_draw_15 : decode cX1_draw 15 = .ok (.aload_n 0, 1) := by decide +kernel
theorem dX1_draw_16 : decode cX1_draw 16 = .ok (.getfield 33, 3) := by decide +kernel
theorem dX1_draw_19 : decode cX1_draw 19 = .ok (.bipush 16, 2) := by decide +kernel
theorem dX1_draw_21 : decode cX1_draw 21 = .ok (.iushr, 1) := by decide +kernel
theorem dX1_draw_22 : decode cX1_draw 22 = .ok (.ireturn, 1) := by decide +kernel
theorem dX1_handOnAndCool_0 : decode cX1_handOnAndCool 0 = .ok (.aload_n 0, 1) := by decide +kernel
theorem dX1_handOnAndCool_1 : decode cX1_handOnAndCool 1 = .ok (.iload_n 1, 1) := by decide +kernel
theorem dX1_handOnAndCool_2 : decode cX1_handOnAndCool 2 = .ok (.invokevirtual 83, 3) := by decide +kernel
theorem dX1_handOnAndCool_5 : decode cX1_handOnAndCool 5 = .ok (.istore_n 2, 1) := by decide +kernel
theorem dX1_handOnAndCool_6 : decode cX1_handOnAndCool 6 = .ok (.iconst 0, 1) := by decide +kernel
theorem dX1_handOnAndCool_7 : decode cX1_handOnAndCool 7 = .ok (.istore_n 3, 1) := by decide +kernel
theorem dX1_handOnAndCool_8 : decode cX1_handOnAndCool 8 = .ok (.iload_n 3, 1) := by decide +kernel
theorem dX1_handOnAndCool_9 : decode cX1_handOnAndCool 9 = .ok (.iload_n 2, 1) := by decide +kernel
theorem dX1_handOnAndCool_10 : decode cX1_handOnAndCool 10 = .ok (.if_icmp .ge 48, 3) := by decide +kernel
theorem dX1_handOnAndCool_13 : decode cX1_handOnAndCool 13 = .ok (.aload_n 0, 1) := by decide +kernel
theorem dX1_handOnAndCool_14 : decode cX1_handOnAndCool 14 = .ok (.getfield 15, 3) := by decide +kernel
theorem dX1_handOnAndCool_17 : decode cX1_handOnAndCool 17 = .ok (.aload_n 0, 1) := by decide +kernel
theorem dX1_handOnAndCool_18 : decode cX1_handOnAndCool 18 = .ok (.getfield 27, 3) := by decide +kernel
theorem dX1_handOnAndCool_21 : decode cX1_handOnAndCool 21 = .ok (.iload_n 1, 1) := by decide +kernel
theorem dX1_handOnAndCool_22 : decode cX1_handOnAndCool 22 = .ok (.iaload, 1) := by decide +kernel
theorem dX1_handOnAndCool_23 : decode cX1_handOnAndCool 23 = .ok (.iaload, 1) := by decide +kernel
theorem dX1_handOnAndCool_24 : decode cX1_handOnAndCool 24 = .ok (.istore 4, 2) := by decide +kernel
theorem dX1_handOnAndCool_26 : decode cX1_handOnAndCool 26 = .ok (.aload_n 0, 1) := by decide +kernel
theorem dX1_handOnAndCool_27 : decode cX1_handOnAndCool 27 = .ok (.getfield 24, 3) := by decide +kernel
theorem dX1_handOnAndCool_30 : decode cX1_handOnAndCool 30 = .ok (.iload_n 1, 1) := by decide +kernel
theorem dX1_handOnAndCool_31 : decode cX1_handOnAndCool 31 = .ok (.iaload, 1) := by decide +kernel
theorem dX1_handOnAndCool_32 : decode cX1_handOnAndCool 32 = .ok (.aload_n 0, 1) := by decide +kernel
theorem dX1_handOnAndCool_33 : decode cX1_handOnAndCool 33 = .ok (.getfield 18, 3) := by decide +kernel
theorem dX1_handOnAndCool_36 : decode cX1_handOnAndCool 36 = .ok (.iload 4, 2) := by decide +kernel
theorem dX1_handOnAndCool_38 : decode cX1_handOnAndCool 38 = .ok (.iaload, 1) := by decide +kernel
theorem dX1_handOnAndCool_39 : decode cX1_handOnAndCool 39 = .ok (.if_icmp .ge 6, 3) := by decide +kernel
theorem dX1_handOnAndCool_42 : decode cX1_handOnAndCool 42 = .ok (.goto 16, 3) := by decide +kernel
theorem dX1_handOnAndCool_45 : decode cX1_handOnAndCool 45 = .ok (.aload_n 0, 1) := by decide +kernel
theorem dX1_handOnAndCool_46 : decode cX1_handOnAndCool 46 = .ok (.iload_n 1, 1) := by decide +kernel
theorem dX1_handOnAndCool_47 : decode cX1_handOnAndCool 47 = .ok (.iload 4, 2) := by decide +kernel
theorem dX1_handOnAndCool_49 : decode cX1_handOnAndCool 49 = .ok (.invokevirtual 75, 3) := by decide +kernel
theorem dX1_handOnAndCool_52 : decode cX1_handOnAndCool 52 = .ok (.iinc 3 1, 3) := by decide +kernel
theorem dX1_handOnAndCool_55 : decode cX1_handOnAndCool 55 = .ok (.goto (-47), 3) := by decide +kernel
theorem dX1_handOnAndCool_58 : decode cX1_handOnAndCool 58 = .ok (.aload_n 0, 1) := by decide +kernel
theorem dX1_handOnAndCool_59 : decode cX1_handOnAndCool 59 = .ok (.iload_n 1, 1) := by decide +kernel
theorem dX1_handOnAndCool_60 : decode cX1_handOnAndCool 60 = .ok (.invokevirtual 86, 3) := by decide +kernel
theorem dX1_handOnAndCool_63 : decode cX1_handOnAndCool 63 = .ok (.istore_n 3, 1) := by decide +kernel
theorem dX1_handOnAndCool_64 : decode cX1_handOnAndCool 64 = .ok (.aload_n 0, 1) := by decide +kernel
theorem dX1_handOnAndCool_65 : decode cX1_handOnAndCool 65 = .ok (.getfield 24, 3) := by decide +kernel
theorem dX1_handOnAndCool_68 : decode cX1_handOnAndCool 68 = .ok (.iload_n 1, 1) := by decide +kernel
theorem dX1_handOnAndCool_69 : decode cX1_handOnAndCool 69 = .ok (.aload_n 0, 1) := by decide +kernel
theorem dX1_handOnAndCool_70 : decode cX1_handOnAndCool 70 = .ok (.getfield 24, 3) := by decide +kernel
theorem dX1_handOnAndCool_73 : decode cX1_handOnAndCool 73 = .ok (.iload_n 1, 1) := by decide +kernel
theorem dX1_handOnAndCool_74 : decode cX1_handOnAndCool 74 = .ok (.iaload, 1) := by decide +kernel
theorem dX1_handOnAndCool_75 : decode cX1_handOnAndCool 75 = .ok (.aload_n 0, 1) := by decide +kernel
theorem dX1_handOnAndCool_76 : decode cX1_handOnAndCool 76 = .ok (.aload_n 0, 1) := by decide +kernel
theorem dX1_handOnAndCool_77 : decode cX1_handOnAndCool 77 = .ok (.getfield 27, 3) := by decide +kernel
theorem dX1_handOnAndCool_80 : decode cX1_handOnAndCool 80 = .ok (.iload_n 1, 1) := by decide +kernel
theorem dX1_handOnAndCool_81 : decode cX1_handOnAndCool 81 = .ok (.iaload, 1) := by decide +kernel
theorem dX1_handOnAndCool_82 : decode cX1_handOnAndCool 82 = .ok (.invokevirtual 89, 3) := by decide +kernel
theorem dX1_handOnAndCool_85 : decode cX1_handOnAndCool 85 = .ok (.ifCond .eq 9, 3) := by decide +kernel
theorem dX1_handOnAndCool_88 : decode cX1_handOnAndCool 88 = .ok (.iload_n 3, 1) := by decide +kernel
theorem dX1_handOnAndCool_89 : decode cX1_handOnAndCool 89 = .ok (.iconst 2, 1) := by decide +kernel
theorem dX1_handOnAndCool_90 : decode cX1_handOnAndCool 90 = .ok (.idiv, 1) := by decide +kernel
theorem dX1_handOnAndCool_91 : decode cX1_handOnAndCool 91 = .ok (.goto 4, 3) := by decide +kernel
theorem dX1_handOnAndCool_94 : decode cX1_handOnAndCool 94 = .ok (.iload_n 3, 1) := by decide +kernel
theorem dX1_handOnAndCool_95 : decode cX1_handOnAndCool 95 = .ok (.isub, 1) := by decide +kernel
theorem dX1_handOnAndCool_96 : decode cX1_handOnAndCool 96 = .ok (.invokestatic 93, 3) := by decide +kernel
theorem dX1_handOnAndCool_99 : decode cX1_handOnAndCool 99 = .ok (.iastore, 1) := by decide +kernel
theorem dX1_handOnAndCool_100 : decode cX1_handOnAndCool 100 = .ok (.return_, 1) := by decide +kernel
theorem dX1_hasBox_0 : decode cX1_hasBox 0 = .ok (.aload_n 0, 1) := by decide +kernel
theorem dX1_hasBox_1 : decode cX1_hasBox 1 = .ok (.getfield 43, 3) := by decide +kernel
theorem dX1_hasBox_4 : decode cX1_hasBox 4 = .ok (.iload_n 1, 1) := by decide +kernel
theorem dX1_hasBox_5 : decode cX1_hasBox 5 = .ok (.ishr, 1) := by decide +kernel
theorem dX1_hasBox_6 : decode cX1_hasBox 6 = .ok (.iconst 1, 1) := by decide +kernel
theorem dX1_hasBox_7 : decode cX1_hasBox 7 = .ok (.iand, 1) := by decide +kernel
theorem dX1_hasBox_8 : decode cX1_hasBox 8 = .ok (.iconst 1, 1) := by decide +kernel
theorem dX1_hasBox_9 : decode cX1_hasBox 9 = .ok (.if_icmp .ne 7, 3) := by decide +kernel
theorem dX1_hasBox_12 : decode cX1_hasBox 12 = .ok (.iconst 1, 1) := by decide +kernel
theorem dX1_hasBox_13 : decode cX1_hasBox 13 = .ok (.goto 4, 3) := by decide +kernel
theorem dX1_hasBox_16 : decode cX1_hasBox 16 = .ok (.iconst 0, 1) := by decide +kernel
theorem dX1_hasBox_17 : decode cX1_hasBox 17 = .ok (.ireturn, 1) := by decide +kernel
theorem dX1_heatTogether_0 : decode cX1_heatTogether 0 = .ok (.iconst 0, 1) := by decide +kernel
theorem dX1_heatTogether_1 : decode cX1_heatTogether 1 = .ok (.istore_n 1, 1) := by decide +kernel
theorem dX1_heatTogether_2 : decode cX1_heatTogether 2 = .ok (.iconst 0, 1) := by decide +kernel
theorem dX1_heatTogether_3 : decode cX1_heatTogether 3 = .ok (.istore_n 2, 1) := by decide +kernel
theorem dX1_heatTogether_4 : decode cX1_heatTogether 4 = .ok (.iload_n 2, 1) := by decide +kernel
theorem dX1_heatTogether_5 : decode cX1_heatTogether 5 = .ok (.aload_n 0, 1) := by decide +kernel
theorem dX1_heatTogether_6 : decode cX1_heatTogether 6 = .ok (.getfield 46, 3) := by decide +kernel
theorem dX1_heatTogether_9 : decode cX1_heatTogether 9 = .ok (.if_icmp .ge 18, 3) := by decide +kernel
theorem dX1_heatTogether_12 : decode cX1_heatTogether 12 = .ok (.iload_n 1, 1) := by decide +kernel
theorem dX1_heatTogether_13 : decode cX1_heatTogether 13 = .ok (.aload_n 0, 1) := by decide +kernel
theorem dX1_heatTogether_14 : decode cX1_heatTogether 14 = .ok (.getfield 24, 3) := by decide +kernel
theorem dX1_heatTogether_17 : decode cX1_heatTogether 17 = .ok (.iload_n 2, 1) := by decide +kernel
theorem dX1_heatTogether_18 : decode cX1_heatTogether 18 = .ok (.iaload, 1) := by decide +kernel
theorem dX1_heatTogether_19 : decode cX1_heatTogether 19 = .ok (.iadd, 1) := by decide +kernel
theorem dX1_heatTogether_20 : decode cX1_heatTogether 20 = .ok (.istore_n 1, 1) := by decide +kernel
theorem dX1_heatTogether_21 : decode cX1_heatTogether 21 = .ok (.iinc 2 1, 3) := by decide +kernel
theorem dX1_heatTogether_24 : decode cX1_heatTogether 24 = .ok (.goto (-20), 3) := by decide +kernel
theorem dX1_heatTogether_27 : decode cX1_heatTogether 27 = .ok (.iload_n 1, 1) := by decide +kernel
theorem dX1_heatTogether_28 : decode cX1_heatTogether 28 = .ok (.ireturn, 1) := by decide +kernel
theorem dX1_hearings_0 : decode cX1_hearings 0 = .ok (.iconst 0, 1) := by decide +kernel
theorem dX1_hearings_1 : decode cX1_hearings 1 = .ok (.istore_n 1, 1) := by decide +kernel
theorem dX1_hearings_2 : decode cX1_hearings 2 = .ok (.iconst 0, 1) := by decide +kernel
theorem dX1_hearings_3 : decode cX1_hearings 3 = .ok (.istore_n 2, 1) := by decide +kernel
theorem dX1_hearings_4 : decode cX1_hearings 4 = .ok (.iload_n 2, 1) := by decide +kernel
theorem dX1_hearings_5 : decode cX1_hearings 5 = .ok (.aload_n 0, 1) := by decide +kernel
theorem dX1_hearings_6 : decode cX1_hearings 6 = .ok (.getfield 46, 3) := by decide +kernel
theorem dX1_hearings_9 : decode cX1_hearings 9 = .ok (.if_icmp .ge 21, 3) := by decide +kernel
theorem dX1_hearings_12 : decode cX1_hearings 12 = .ok (.iload_n 1, 1) := by decide +kernel
theorem dX1_hearings_13 : decode cX1_hearings 13 = .ok (.aload_n 0, 1) := by decide +kernel
theorem dX1_hearings_14 : decode cX1_hearings 14 = .ok (.getfield 30, 3) := by decide +kernel
theorem dX1_hearings_17 : decode cX1_hearings 17 = .ok (.iload_n 2, 1) := by decide +kernel
theorem dX1_hearings_18 : decode cX1_hearings 18 = .ok (.iaload, 1) := by decide +kernel
theorem dX1_hearings_19 : decode cX1_hearings 19 = .ok (.invokestatic 58, 3) := by decide +kernel
theorem dX1_hearings_22 : decode cX1_hearings 22 = .ok (.iadd, 1) := by decide +kernel
theorem dX1_hearings_23 : decode cX1_hearings 23 = .ok (.istore_n 1, 1) := by decide +kernel
theorem dX1_hearings_24 : decode cX1_hearings 24 = .ok (.iinc 2 1, 3) := by decide +kernel
theorem dX1_hearings_27 : decode cX1_hearings 27 = .ok (.goto (-23), 3) := by decide +kernel
theorem dX1_hearings_30 : decode cX1_hearings 30 = .ok (.iload_n 1, 1) := by decide +kernel
theorem dX1_hearings_31 : decode cX1_hearings 31 = .ok (.ireturn, 1) := by decide +kernel
theorem dX1_housesWithTales_0 : decode cX1_housesWithTales 0 = .ok (.iconst 0, 1) := by decide +kernel
theorem dX1_housesWithTales_1 : decode cX1_housesWithTales 1 = .ok (.istore_n 1, 1) := by decide +kernel
theorem dX1_housesWithTales_2 : decode cX1_housesWithTales 2 = .ok (.iconst 0, 1) := by decide +kernel
theorem dX1_housesWithTales_3 : decode cX1_housesWithTales 3 = .ok (.istore_n 2, 1) := by decide +kernel
theorem dX1_housesWithTales_4 : decode cX1_housesWithTales 4 = .ok (.iload_n 2, 1) := by decide +kernel
theorem dX1_housesWithTales_5 : decode cX1_housesWithTales 5 = .ok (.aload_n 0, 1) := by decide +kernel
theorem dX1_housesWithTales_6 : decode cX1_housesWithTales 6 = .ok (.getfield 46, 3) := by decide +kernel
theorem dX1_housesWithTales_9 : decode cX1_housesWithTales 9 = .ok (.if_icmp .ge 20, 3) := by decide +kernel
theorem dX1_housesWithTales_12 : decode cX1_housesWithTales 12 = .ok (.iload_n 1, 1) := by decide +kernel
theorem dX1_housesWithTales_13 : decode cX1_housesWithTales 13 = .ok (.iconst 1, 1) := by decide +kernel
theorem dX1_housesWithTales_14 : decode cX1_housesWithTales 14 = .ok (.aload_n 0, 1) := by decide +kernel
theorem dX1_housesWithTales_15 : decode cX1_housesWithTales 15 = .ok (.getfield 27, 3) := by decide +kernel
theorem dX1_housesWithTales_18 : decode cX1_housesWithTales 18 = .ok (.iload_n 2, 1) := by decide +kernel
theorem dX1_housesWithTales_19 : decode cX1_housesWithTales 19 = .ok (.iaload, 1) := by decide +kernel
theorem dX1_housesWithTales_20 : decode cX1_housesWithTales 20 = .ok (.ishl, 1) := by decide +kernel
theorem dX1_housesWithTales_21 : decode cX1_housesWithTales 21 = .ok (.ior, 1) := by decide +kernel
theorem dX1_housesWithTales_22 : decode cX1_housesWithTales 22 = .ok (.istore_n 1, 1) := by decide +kernel
theorem dX1_housesWithTales_23 : decode cX1_housesWithTales 23 = .ok (.iinc 2 1, 3) := by decide +kernel
theorem dX1_housesWithTales_26 : decode cX1_housesWithTales 26 = .ok (.goto (-22), 3) := by decide +kernel
theorem dX1_housesWithTales_29 : decode cX1_housesWithTales 29 = .ok (.iload_n 1, 1) := by decide +kernel
theorem dX1_housesWithTales_30 : decode cX1_housesWithTales 30 = .ok (.ireturn, 1) := by decide +kernel
theorem dX1_coldTales_0 : decode cX1_coldTales 0 = .ok (.iconst 0, 1) := by decide +kernel
theorem dX1_coldTales_1 : decode cX1_coldTales 1 = .ok (.istore_n 1, 1) := by decide +kernel
theorem dX1_coldTales_2 : decode cX1_coldTales 2 = .ok (.iconst 0, 1) := by decide +kernel
theorem dX1_coldTales_3 : decode cX1_coldTales 3 = .ok (.istore_n 2, 1) := by decide +kernel
theorem dX1_coldTales_4 : decode cX1_coldTales 4 = .ok (.iload_n 2, 1) := by decide +kernel
theorem dX1_coldTales_5 : decode cX1_coldTales 5 = .ok (.aload_n 0, 1) := by decide +kernel
theorem dX1_coldTales_6 : decode cX1_coldTales 6 = .ok (.getfield 46, 3) := by decide +kernel
theorem dX1_coldTales_9 : decode cX1_coldTales 9 = .ok (.if_icmp .ge 24, 3) := by decide +kernel
theorem dX1_coldTales_12 : decode cX1_coldTales 12 = .ok (.aload_n 0, 1) := by decide +kernel
theorem dX1_coldTales_13 : decode cX1_coldTales 13 = .ok (.getfield 24, 3) := by decide +kernel
theorem dX1_coldTales_16 : decode cX1_coldTales 16 = .ok (.iload_n 2, 1) := by decide +kernel
theorem dX1_coldTales_17 : decode cX1_coldTales 17 = .ok (.iaload, 1) := by decide +kernel
theorem dX1_coldTales_18 : decode cX1_coldTales 18 = .ok (.ifCond .ne 9, 3) := by decide +kernel
theorem dX1_coldTales_21 : decode cX1_coldTales 21 = .ok (.iload_n 1, 1) := by decide +kernel
theorem dX1_coldTales_22 : decode cX1_coldTales 22 = .ok (.iconst 1, 1) := by decide +kernel
theorem dX1_coldTales_23 : decode cX1_coldTales 23 = .ok (.iload_n 2, 1) := by decide +kernel
theorem dX1_coldTales_24 : decode cX1_coldTales 24 = .ok (.ishl, 1) := by decide +kernel
theorem dX1_coldTales_25 : decode cX1_coldTales 25 = .ok (.ior, 1) := by decide +kernel
theorem dX1_coldTales_26 : decode cX1_coldTales 26 = .ok (.istore_n 1, 1) := by decide +kernel
theorem dX1_coldTales_27 : decode cX1_coldTales 27 = .ok (.iinc 2 1, 3) := by decide +kernel
theorem dX1_coldTales_30 : decode cX1_coldTales 30 = .ok (.goto (-26), 3) := by decide +kernel
theorem dX1_coldTales_33 : decode cX1_coldTales 33 = .ok (.iload_n 1, 1) := by decide +kernel
theorem dX1_coldTales_34 : decode cX1_coldTales 34 = .ok (.ireturn, 1) := by decide +kernel
theorem dX1_talesAt_0 : decode cX1_talesAt 0 = .ok (.iconst 0, 1) := by decide +kernel
theorem dX1_talesAt_1 : decode cX1_talesAt 1 = .ok (.istore_n 2, 1) := by decide +kernel
theorem dX1_talesAt_2 : decode cX1_talesAt 2 = .ok (.iconst 0, 1) := by decide +kernel
theorem dX1_talesAt_3 : decode cX1_talesAt 3 = .ok (.istore_n 3, 1) := by decide +kernel
theorem dX1_talesAt_4 : decode cX1_talesAt 4 = .ok (.iload_n 3, 1) := by decide +kernel
theorem dX1_talesAt_5 : decode cX1_talesAt 5 = .ok (.aload_n 0, 1) := by decide +kernel
theorem dX1_talesAt_6 : decode cX1_talesAt 6 = .ok (.getfield 46, 3) := by decide +kernel
theorem dX1_talesAt_9 : decode cX1_talesAt 9 = .ok (.if_icmp .ge 25, 3) := by decide +kernel
theorem dX1_talesAt_12 : decode cX1_talesAt 12 = .ok (.aload_n 0, 1) := by decide +kernel
theorem dX1_talesAt_13 : decode cX1_talesAt 13 = .ok (.getfield 27, 3) := by decide +kernel
theorem dX1_talesAt_16 : decode cX1_talesAt 16 = .ok (.iload_n 3, 1) := by decide +kernel
theorem dX1_talesAt_17 : decode cX1_talesAt 17 = .ok (.iaload, 1) := by decide +kernel
theorem dX1_talesAt_18 : decode cX1_talesAt 18 = .ok (.iload_n 1, 1) := by decide +kernel
theorem dX1_talesAt_19 : decode cX1_talesAt 19 = .ok (.if_icmp .ne 9, 3) := by decide +kernel
theorem dX1_talesAt_22 : decode cX1_talesAt 22 = .ok (.iload_n 2, 1) := by decide +kernel
theorem dX1_talesAt_23 : decode cX1_talesAt 23 = .ok (.iconst 1, 1) := by decide +kernel
theorem dX1_talesAt_24 : decode cX1_talesAt 24 = .ok (.iload_n 3, 1) := by decide +kernel
theorem dX1_talesAt_25 : decode cX1_talesAt 25 = .ok (.ishl, 1) := by decide +kernel
theorem dX1_talesAt_26 : decode cX1_talesAt 26 = .ok (.ior, 1) := by decide +kernel
theorem dX1_talesAt_27 : decode cX1_talesAt 27 = .ok (.istore_n 2, 1) := by decide +kernel
theorem dX1_talesAt_28 : decode cX1_talesAt 28 = .ok (.iinc 3 1, 3) := by decide +kernel
theorem dX1_talesAt_31 : decode cX1_talesAt 31 = .ok (.goto (-27), 3) := by decide +kernel
theorem dX1_talesAt_34 : decode cX1_talesAt 34 = .ok (.iload_n 2, 1) := by decide +kernel
theorem dX1_talesAt_35 : decode cX1_talesAt 35 = .ok (.ireturn, 1) := by decide +kernel
theorem dX1_talesHeardBy_0 : decode cX1_talesHeardBy 0 = .ok (.iconst 0, 1) := by decide +kernel
theorem dX1_talesHeardBy_1 : decode cX1_talesHeardBy 1 = .ok (.istore_n 2, 1) := by decide +kernel
theorem dX1_talesHeardBy_2 : decode cX1_talesHeardBy 2 = .ok (.iconst 0, 1) := by decide +kernel
theorem dX1_talesHeardBy_3 : decode cX1_talesHeardBy 3 = .ok (.istore_n 3, 1) := by decide +kernel
theorem dX1_talesHeardBy_4 : decode cX1_talesHeardBy 4 = .ok (.iload_n 3, 1) := by decide +kernel
theorem dX1_talesHeardBy_5 : decode cX1_talesHeardBy 5 = .ok (.aload_n 0, 1) := by decide +kernel
theorem dX1_talesHeardBy_6 : decode cX1_talesHeardBy 6 = .ok (.getfield 46, 3) := by decide +kernel
theorem dX1_talesHeardBy_9 : decode cX1_talesHeardBy 9 = .ok (.if_icmp .ge 29, 3) := by decide +kernel
theorem dX1_talesHeardBy_12 : decode cX1_talesHeardBy 12 = .ok (.aload_n 0, 1) := by decide +kernel
theorem dX1_talesHeardBy_13 : decode cX1_talesHeardBy 13 = .ok (.getfield 30, 3) := by decide +kernel
theorem dX1_talesHeardBy_16 : decode cX1_talesHeardBy 16 = .ok (.iload_n 3, 1) := by decide +kernel
theorem dX1_talesHeardBy_17 : decode cX1_talesHeardBy 17 = .ok (.iaload, 1) := by decide +kernel
theorem dX1_talesHeardBy_18 : decode cX1_talesHeardBy 18 = .ok (.iload_n 1, 1) := by decide +kernel
theorem dX1_talesHeardBy_19 : decode cX1_talesHeardBy 19 = .ok (.ishr, 1) := by decide +kernel
theorem dX1_talesHeardBy_20 : decode cX1_talesHeardBy 20 = .ok (.iconst 1, 1) := by decide +kernel
theorem dX1_talesHeardBy_21 : decode cX1_talesHeardBy 21 = .ok (.iand, 1) := by decide +kernel
theorem dX1_talesHeardBy_22 : decode cX1_talesHeardBy 22 = .ok (.iconst 1, 1) := by decide +kernel
theorem dX1_talesHeardBy_23 : decode cX1_talesHeardBy 23 = .ok (.if_icmp .ne 9, 3) := by decide +kernel
theorem dX1_talesHeardBy_26 : decode cX1_talesHeardBy 26 = .ok (.iload_n 2, 1) := by decide +kernel
theorem dX1_talesHeardBy_27 : decode cX1_talesHeardBy 27 = .ok (.iconst 1, 1) := by decide +kernel
theorem dX1_talesHeardBy_28 : decode cX1_talesHeardBy 28 = .ok (.iload_n 3, 1) := by decide +kernel
theorem dX1_talesHeardBy_29 : decode cX1_talesHeardBy 29 = .ok (.ishl, 1) := by decide +kernel
theorem dX1_talesHeardBy_30 : decode cX1_talesHeardBy 30 = .ok (.ior, 1) := by decide +kernel
theorem dX1_talesHeardBy_31 : decode cX1_talesHeardBy 31 = .ok (.istore_n 2, 1) := by decide +kernel
theorem dX1_talesHeardBy_32 : decode cX1_talesHeardBy 32 = .ok (.iinc 3 1, 3) := by decide +kernel
theorem dX1_talesHeardBy_35 : decode cX1_talesHeardBy 35 = .ok (.goto (-31), 3) := by decide +kernel
theorem dX1_talesHeardBy_38 : decode cX1_talesHeardBy 38 = .ok (.iload_n 2, 1) := by decide +kernel
theorem dX1_talesHeardBy_39 : decode cX1_talesHeardBy 39 = .ok (.ireturn, 1) := by decide +kernel
theorem dX1_loopFrom_0 : decode cX1_loopFrom 0 = .ok (.iconst 0, 1) := by decide +kernel
theorem dX1_loopFrom_1 : decode cX1_loopFrom 1 = .ok (.istore_n 2, 1) := by decide +kernel
theorem dX1_loopFrom_2 : decode cX1_loopFrom 2 = .ok (.iload_n 1, 1) := by decide +kernel
theorem dX1_loopFrom_3 : decode cX1_loopFrom 3 = .ok (.istore_n 3, 1) := by decide +kernel
theorem dX1_loopFrom_4 : decode cX1_loopFrom 4 = .ok (.iconst 0, 1) := by decide +kernel
theorem dX1_loopFrom_5 : decode cX1_loopFrom 5 = .ok (.istore 4, 2) := by decide +kernel
theorem dX1_loopFrom_7 : decode cX1_loopFrom 7 = .ok (.iload 4, 2) := by decide +kernel
theorem dX1_loopFrom_9 : decode cX1_loopFrom 9 = .ok (.bipush 8, 2) := by decide +kernel
theorem dX1_loopFrom_11 : decode cX1_loopFrom 11 = .ok (.if_icmp .ge 22, 3) := by decide +kernel
theorem dX1_loopFrom_14 : decode cX1_loopFrom 14 = .ok (.iload_n 2, 1) := by decide +kernel
theorem dX1_loopFrom_15 : decode cX1_loopFrom 15 = .ok (.iconst 1, 1) := by decide +kernel
theorem dX1_loopFrom_16 : decode cX1_loopFrom 16 = .ok (.iload_n 3, 1) := by decide +kernel
theorem dX1_loopFrom_17 : decode cX1_loopFrom 17 = .ok (.ishl, 1) := by decide +kernel
theorem dX1_loopFrom_18 : decode cX1_loopFrom 18 = .ok (.ior, 1) := by decide +kernel
theorem dX1_loopFrom_19 : decode cX1_loopFrom 19 = .ok (.istore_n 2, 1) := by decide +kernel
theorem dX1_loopFrom_20 : decode cX1_loopFrom 20 = .ok (.aload_n 0, 1) := by decide +kernel
theorem dX1_loopFrom_21 : decode cX1_loopFrom 21 = .ok (.getfield 15, 3) := by decide +kernel
theorem dX1_loopFrom_24 : decode cX1_loopFrom 24 = .ok (.iload_n 3, 1) := by decide +kernel
theorem dX1_loopFrom_25 : decode cX1_loopFrom 25 = .ok (.iaload, 1) := by decide +kernel
theorem dX1_loopFrom_26 : decode cX1_loopFrom 26 = .ok (.istore_n 3, 1) := by decide +kernel
theorem dX1_loopFrom_27 : decode cX1_loopFrom 27 = .ok (.iinc 4 1, 3) := by decide +kernel
theorem dX1_loopFrom_30 : decode cX1_loopFrom 30 = .ok (.goto (-23), 3) := by decide +kernel
theorem dX1_loopFrom_33 : decode cX1_loopFrom 33 = .ok (.iload_n 2, 1) := by decide +kernel
theorem dX1_loopFrom_34 : decode cX1_loopFrom 34 = .ok (.ireturn, 1) := by decide +kernel
theorem dX2_init_0 : decode cX2_init 0 = .ok (.aload_n 0, 1) := by decide +kernel
theorem dX2_init_1 : decode cX2_init 1 = .ok (.invokespecial 3, 3) := by decide +kernel
theorem dX2_init_4 : decode cX2_init 4 = .ok (.aload_n 0, 1) := by decide +kernel
theorem dX2_init_5 : decode cX2_init 5 = .ok (.iconst (-1), 1) := by decide +kernel
theorem dX2_init_6 : decode cX2_init 6 = .ok (.putfield 9, 3) := by decide +kernel
theorem dX2_init_9 : decode cX2_init 9 = .ok (.aload_n 0, 1) := by decide +kernel
theorem dX2_init_10 : decode cX2_init 10 = .ok (.bipush 40, 2) := by decide +kernel
theorem dX2_init_12 : decode cX2_init 12 = .ok (.newarray .int, 2) := by decide +kernel
theorem dX2_init_14 : decode cX2_init 14 = .ok (.putfield 15, 3) := by decide +kernel
theorem dX2_init_17 : decode cX2_init 17 = .ok (.return_, 1) := by decide +kernel
theorem dX2_isMissing_0 : decode cX2_isMissing 0 = .ok (.aload_n 0, 1) := by decide +kernel
theorem dX2_isMissing_1 : decode cX2_isMissing 1 = .ok (.getfield 9, 3) := by decide +kernel
theorem dX2_isMissing_4 : decode cX2_isMissing 4 = .ok (.iconst (-1), 1) := by decide +kernel
theorem dX2_isMissing_5 : decode cX2_isMissing 5 = .ok (.if_icmp .ne 7, 3) := by decide +kernel
theorem dX2_isMissing_8 : decode cX2_isMissing 8 = .ok (.iconst 1, 1) := by decide +kernel
theorem dX2_isMissing_9 : decode cX2_isMissing 9 = .ok (.goto 4, 3) := by decide +kernel
theorem dX2_isMissing_12 : decode cX2_isMissing 12 = .ok (.iconst 0, 1) := by decide +kernel
theorem dX2_isMissing_13 : decode cX2_isMissing 13 = .ok (.ireturn, 1) := by decide +kernel
theorem dX2_becomeMissing_0 : decode cX2_becomeMissing 0 = .ok (.aload_n 0, 1) := by decide +kernel
theorem dX2_becomeMissing_1 : decode cX2_becomeMissing 1 = .ok (.iconst (-1), 1) := by decide +kernel
theorem dX2_becomeMissing_2 : decode cX2_becomeMissing 2 = .ok (.putfield 9, 3) := by decide +kernel
theorem dX2_becomeMissing_5 : decode cX2_becomeMissing 5 = .ok (.aload_n 0, 1) := by decide +kernel
theorem dX2_becomeMissing_6 : decode cX2_becomeMissing 6 = .ok (.iconst 0, 1) := by decide +kernel
theorem dX2_becomeMissing_7 : decode cX2_becomeMissing 7 = .ok (.putfield 19, 3) := by decide +kernel
theorem dX2_becomeMissing_10 : decode cX2_becomeMissing 10 = .ok (.return_, 1) := by decide +kernel
theorem dX2_becomeRow_0 : decode cX2_becomeRow 0 = .ok (.aload_n 0, 1) := by decide +kernel
theorem dX2_becomeRow_1 : decode cX2_becomeRow 1 = .ok (.iload_n 1, 1) := by decide +kernel
theorem dX2_becomeRow_2 : decode cX2_becomeRow 2 = .ok (.putfield 9, 3) := by decide +kernel
theorem dX2_becomeRow_5 : decode cX2_becomeRow 5 = .ok (.aload_n 0, 1) := by decide +kernel
theorem dX2_becomeRow_6 : decode cX2_becomeRow 6 = .ok (.iload_n 2, 1) := by decide +kernel
theorem dX2_becomeRow_7 : decode cX2_becomeRow 7 = .ok (.putfield 19, 3) := by decide +kernel
theorem dX2_becomeRow_10 : decode cX2_becomeRow 10 = .ok (.iconst 0, 1) := by decide +kernel
theorem dX2_becomeRow_11 : decode cX2_becomeRow 11 = .ok (.istore_n 3, 1) := by decide +kernel
theorem dX2_becomeRow_12 : decode cX2_becomeRow 12 = .ok (.iload_n 3, 1) := by decide +kernel
theorem dX2_becomeRow_13 : decode cX2_becomeRow 13 = .ok (.iload_n 2, 1) := by decide +kernel
theorem dX2_becomeRow_14 : decode cX2_becomeRow 14 = .ok (.if_icmp .ge 16, 3) := by decide +kernel
theorem dX2_becomeRow_17 : decode cX2_becomeRow 17 = .ok (.aload_n 0, 1) := by decide +kernel
theorem dX2_becomeRow_18 : decode cX2_becomeRow 18 = .ok (.getfield 15, 3) := by decide +kernel
theorem dX2_becomeRow_21 : decode cX2_becomeRow 21 = .ok (.iload_n 3, 1) := by decide +kernel
theorem dX2_becomeRow_22 : decode cX2_becomeRow 22 = .ok (.iconst 0, 1) := by decide +kernel
theorem dX2_becomeRow_23 : decode cX2_becomeRow 23 = .ok (.iastore, 1) := by decide +kernel
theorem dX2_becomeRow_24 : decode cX2_becomeRow 24 = .ok (.iinc 3 1, 3) := by decide +kernel
theorem dX2_becomeRow_27 : decode cX2_becomeRow 27 = .ok (.goto (-15), 3) := by decide +kernel
theorem dX2_becomeRow_30 : decode cX2_becomeRow 30 = .ok (.return_, 1) := by decide +kernel
theorem dX2_narrowed_0 : decode cX2_narrowed 0 = .ok (.aload_n 0, 1) := by decide +kernel
theorem dX2_narrowed_1 : decode cX2_narrowed 1 = .ok (.getfield 9, 3) := by decide +kernel
theorem dX2_narrowed_4 : decode cX2_narrowed 4 = .ok (.ifCond .ne 6, 3) := by decide +kernel
theorem dX2_narrowed_7 : decode cX2_narrowed 7 = .ok (.iload_n 1, 1) := by decide +kernel
theorem dX2_narrowed_8 : decode cX2_narrowed 8 = .ok (.i2b, 1) := by decide +kernel
theorem dX2_narrowed_9 : decode cX2_narrowed 9 = .ok (.ireturn, 1) := by decide +kernel
theorem dX2_narrowed_10 : decode cX2_narrowed 10 = .ok (.aload_n 0, 1) := by decide +kernel
theorem dX2_narrowed_11 : decode cX2_narrowed 11 = .ok (.getfield 9, 3) := by decide +kernel
theorem dX2_narrowed_14 : decode cX2_narrowed 14 = .ok (.iconst 1, 1) := by decide +kernel
theorem dX2_narrowed_15 : decode cX2_narrowed 15 = .ok (.if_icmp .ne 8, 3) := by decide +kernel
theorem dX2_narrowed_18 : decode cX2_narrowed 18 = .ok (.iload_n 1, 1) := by decide +kernel
theorem dX2_narrowed_19 : decode cX2_narrowed 19 = .ok (.i2s, 1) := by decide +kernel
theorem dX2_narrowed_20 : decode cX2_narrowed 20 = .ok (.goto 4, 3) := by decide +kernel
theorem dX2_narrowed_23 : decode cX2_narrowed 23 = .ok (.iload_n 1, 1) := by decide +kernel
theorem dX2_narrowed_24 : decode cX2_narrowed 24 = .ok (.ireturn, 1) := by decide +kernel
theorem dX3_init_0 : decode cX3_init 0 = .ok (.aload_n 0, 1) := by decide +kernel
theorem dX3_init_1 : decode cX3_init 1 = .ok (.invokespecial 1, 3) := by decide +kernel
theorem dX3_init_4 : decode cX3_init 4 = .ok (.aload_n 0, 1) := by decide +kernel
theorem dX3_init_5 : decode cX3_init 5 = .ok (.iconst 0, 1) := by decide +kernel
theorem dX3_init_6 : decode cX3_init 6 = .ok (.putfield 9, 3) := by decide +kernel
theorem dX3_init_9 : decode cX3_init 9 = .ok (.return_, 1) := by decide +kernel
theorem dX3_holdTale_0 : decode cX3_holdTale 0 = .ok (.aload_n 0, 1) := by decide +kernel
theorem dX3_holdTale_1 : decode cX3_holdTale 1 = .ok (.iconst 1, 1) := by decide +kernel
theorem dX3_holdTale_2 : decode cX3_holdTale 2 = .ok (.putfield 9, 3) := by decide +kernel
theorem dX3_holdTale_5 : decode cX3_holdTale 5 = .ok (.aload_n 0, 1) := by decide +kernel
theorem dX3_holdTale_6 : decode cX3_holdTale 6 = .ok (.iload_n 1, 1) := by decide +kernel
theorem dX3_holdTale_7 : decode cX3_holdTale 7 = .ok (.putfield 13, 3) := by decide +kernel
theorem dX3_holdTale_10 : decode cX3_holdTale 10 = .ok (.return_, 1) := by decide +kernel
theorem dX3_holdRow_0 : decode cX3_holdRow 0 = .ok (.aload_n 0, 1) := by decide +kernel
theorem dX3_holdRow_1 : decode cX3_holdRow 1 = .ok (.aload_n 1, 1) := by decide +kernel
theorem dX3_holdRow_2 : decode cX3_holdRow 2 = .ok (.invokevirtual 16, 3) := by decide +kernel
theorem dX3_holdRow_5 : decode cX3_holdRow 5 = .ok (.ifCond .eq 7, 3) := by decide +kernel
theorem dX3_holdRow_8 : decode cX3_holdRow 8 = .ok (.iconst 0, 1) := by decide +kernel
theorem dX3_holdRow_9 : decode cX3_holdRow 9 = .ok (.goto 4, 3) := by decide +kernel
theorem dX3_holdRow_12 : decode cX3_holdRow 12 = .ok (.iconst 2, 1) := by decide +kernel
theorem dX3_holdRow_13 : decode cX3_holdRow 13 = .ok (.putfield 9, 3) := by decide +kernel
theorem dX3_holdRow_16 : decode cX3_holdRow 16 = .ok (.aload_n 0, 1) := by decide +kernel
theorem dX3_holdRow_17 : decode cX3_holdRow 17 = .ok (.aload_n 1, 1) := by decide +kernel
theorem dX3_holdRow_18 : decode cX3_holdRow 18 = .ok (.getfield 22, 3) := by decide +kernel
theorem dX3_holdRow_21 : decode cX3_holdRow 21 = .ok (.putfield 13, 3) := by decide +kernel
theorem dX3_holdRow_24 : decode cX3_holdRow 24 = .ok (.aload_n 0, 1) := by decide +kernel
theorem dX3_holdRow_25 : decode cX3_holdRow 25 = .ok (.aload_n 1, 1) := by decide +kernel
theorem dX3_holdRow_26 : decode cX3_holdRow 26 = .ok (.getfield 25, 3) := by decide +kernel
theorem dX3_holdRow_29 : decode cX3_holdRow 29 = .ok (.putfield 28, 3) := by decide +kernel
theorem dX3_holdRow_32 : decode cX3_holdRow 32 = .ok (.return_, 1) := by decide +kernel
theorem dX3_holdNothing_0 : decode cX3_holdNothing 0 = .ok (.aload_n 0, 1) := by decide +kernel
theorem dX3_holdNothing_1 : decode cX3_holdNothing 1 = .ok (.iconst 0, 1) := by decide +kernel
theorem dX3_holdNothing_2 : decode cX3_holdNothing 2 = .ok (.putfield 9, 3) := by decide +kernel
theorem dX3_holdNothing_5 : decode cX3_holdNothing 5 = .ok (.return_, 1) := by decide +kernel
theorem dX4_init_0 : decode cX4_init 0 = .ok (.aload_n 0, 1) := by decide +kernel
theorem dX4_init_1 : decode cX4_init 1 = .ok (.invokespecial 3, 3) := by decide +kernel
theorem dX4_init_4 : decode cX4_init 4 = .ok (.aload_n 0, 1) := by decide +kernel
theorem dX4_init_5 : decode cX4_init 5 = .ok (.sipush 200, 3) := by decide +kernel
theorem dX4_init_8 : decode cX4_init 8 = .ok (.newarray .byte, 2) := by decide +kernel
theorem dX4_init_10 : decode cX4_init 10 = .ok (.putfield 9, 3) := by decide +kernel
theorem dX4_init_13 : decode cX4_init 13 = .ok (.aload_n 0, 1) := by decide +kernel
theorem dX4_init_14 : decode cX4_init 14 = .ok (.iconst 0, 1) := by decide +kernel
theorem dX4_init_15 : decode cX4_init 15 = .ok (.putfield 15, 3) := by decide +kernel
theorem dX4_init_18 : decode cX4_init 18 = .ok (.return_, 1) := by decide +kernel
theorem dX4_append_0 : decode cX4_append 0 = .ok (.aload_n 0, 1) := by decide +kernel
theorem dX4_append_1 : decode cX4_append 1 = .ok (.getfield 9, 3) := by decide +kernel
theorem dX4_append_4 : decode cX4_append 4 = .ok (.aload_n 0, 1) := by decide +kernel
theorem dX4_append_5 : decode cX4_append 5 = .ok (.getfield 19, 3) := by decide +kernel
theorem dX4_append_8 : decode cX4_append 8 = .ok (.iload_n 1, 1) := by decide +kernel
theorem dX4_append_9 : decode cX4_append 9 = .ok (.bastore, 1) := by decide +kernel
theorem dX4_append_10 : decode cX4_append 10 = .ok (.aload_n 0, 1) := by decide +kernel
theorem dX4_append_11 : decode cX4_append 11 = .ok (.dup, 1) := by decide +kernel
theorem dX4_append_12 : decode cX4_append 12 = .ok (.getfield 19, 3) := by decide +kernel
theorem dX4_append_15 : decode cX4_append 15 = .ok (.iconst 1, 1) := by decide +kernel
theorem dX4_append_16 : decode cX4_append 16 = .ok (.iadd, 1) := by decide +kernel
theorem dX4_append_17 : decode cX4_append 17 = .ok (.putfield 19, 3) := by decide +kernel
theorem dX4_append_20 : decode cX4_append 20 = .ok (.return_, 1) := by decide +kernel
theorem dX4_readInto_0 : decode cX4_readInto 0 = .ok (.aload_n 0, 1) := by decide +kernel
theorem dX4_readInto_1 : decode cX4_readInto 1 = .ok (.iconst 0, 1) := by decide +kernel
theorem dX4_readInto_2 : decode cX4_readInto 2 = .ok (.putfield 22, 3) := by decide +kernel
theorem dX4_readInto_5 : decode cX4_readInto 5 = .ok (.aload_n 0, 1) := by decide +kernel
theorem dX4_readInto_6 : decode cX4_readInto 6 = .ok (.invokevirtual 25, 3) := by decide +kernel
theorem dX4_readInto_9 : decode cX4_readInto 9 = .ok (.iconst 0, 1) := by decide +kernel
theorem dX4_readInto_10 : decode cX4_readInto 10 = .ok (.istore_n 2, 1) := by decide +kernel
theorem dX4_readInto_11 : decode cX4_readInto 11 = .ok (.iload_n 2, 1) := by decide +kernel
theorem dX4_readInto_12 : decode cX4_readInto 12 = .ok (.aload_n 0, 1) := by decide +kernel
theorem dX4_readInto_13 : decode cX4_readInto 13 = .ok (.getfield 19, 3) := by decide +kernel
theorem dX4_readInto_16 : decode cX4_readInto 16 = .ok (.if_icmp .gt 29, 3) := by decide +kernel
theorem dX4_readInto_19 : decode cX4_readInto 19 = .ok (.aload_n 0, 1) := by decide +kernel
theorem dX4_readInto_20 : decode cX4_readInto 20 = .ok (.getfield 15, 3) := by decide +kernel
theorem dX4_readInto_23 : decode cX4_readInto 23 = .ok (.ifCond .eq 22, 3) := by decide +kernel
theorem dX4_readInto_26 : decode cX4_readInto 26 = .ok (.aload_n 0, 1) := by decide +kernel
theorem dX4_readInto_27 : decode cX4_readInto 27 = .ok (.aload_n 1, 1) := by decide +kernel
theorem dX4_readInto_28 : decode cX4_readInto 28 = .ok (.invokevirtual 28, 3) := by decide +kernel
theorem dX4_readInto_31 : decode cX4_readInto 31 = .ok (.ifCond .ne 8, 3) := by decide +kernel
theorem dX4_readInto_34 : decode cX4_readInto 34 = .ok (.aload_n 0, 1) := by decide +kernel
theorem dX4_readInto_35 : decode cX4_readInto 35 = .ok (.getfield 32, 3) := by decide +kernel
theorem dX4_readInto_38 : decode cX4_readInto 38 = .ok (.ireturn, 1) := by decide +kernel
theorem dX4_readInto_39 : decode cX4_readInto 39 = .ok (.iinc 2 1, 3) := by decide +kernel
theorem dX4_readInto_42 : decode cX4_readInto 42 = .ok (.goto (-31), 3) := by decide +kernel
theorem dX4_readInto_45 : decode cX4_readInto 45 = .ok (.iconst (-1), 1) := by decide +kernel
theorem dX4_readInto_46 : decode cX4_readInto 46 = .ok (.ireturn, 1) := by decide +kernel
theorem dX4_readSentence_0 : decode cX4_readSentence 0 = .ok (.aload_n 0, 1) := by decide +kernel
theorem dX4_readSentence_1 : decode cX4_readSentence 1 = .ok (.invokevirtual 35, 3) := by decide +kernel
theorem dX4_readSentence_4 : decode cX4_readSentence 4 = .ok (.istore_n 2, 1) := by decide +kernel
theorem dX4_readSentence_5 : decode cX4_readSentence 5 = .ok (.iload_n 2, 1) := by decide +kernel
theorem dX4_readSentence_6 : decode cX4_readSentence 6 = .ok (.iconst (-1), 1) := by decide +kernel
theorem dX4_readSentence_7 : decode cX4_readSentence 7 = .ok (.if_icmp .eq 10, 3) := by decide +kernel
theorem dX4_readSentence_10 : decode cX4_readSentence 10 = .ok (.aload_n 0, 1) := by decide +kernel
theorem dX4_readSentence_11 : decode cX4_readSentence 11 = .ok (.aload_n 1, 1) := by decide +kernel
theorem dX4_readSentence_12 : decode cX4_readSentence 12 = .ok (.iload_n 2, 1) := by decide +kernel
theorem dX4_readSentence_13 : decode cX4_readSentence 13 = .ok (.invokevirtual 39, 3) := by decide +kernel
theorem dX4_readSentence_16 : decode cX4_readSentence 16 = .ok (.ireturn, 1) := by decide +kernel
theorem dX4_readSentence_17 : decode cX4_readSentence 17 = .ok (.aload_n 0, 1) := by decide +kernel
theorem dX4_readSentence_18 : decode cX4_readSentence 18 = .ok (.invokevirtual 43, 3) := by decide +kernel
theorem dX4_readSentence_21 : decode cX4_readSentence 21 = .ok (.istore_n 3, 1) := by decide +kernel
theorem dX4_readSentence_22 : decode cX4_readSentence 22 = .ok (.iload_n 3, 1) := by decide +kernel
theorem dX4_readSentence_23 : decode cX4_readSentence 23 = .ok (.iconst (-1), 1) := by decide +kernel
theorem dX4_readSentence_24 : decode cX4_readSentence 24 = .ok (.if_icmp .eq 10, 3) := by decide +kernel
theorem dX4_readSentence_27 : decode cX4_readSentence 27 = .ok (.aload_n 0, 1) := by decide +kernel
theorem dX4_readSentence_28 : decode cX4_readSentence 28 = .ok (.aload_n 1, 1) := by decide +kernel
theorem dX4_readSentence_29 : decode cX4_readSentence 29 = .ok (.iload_n 3, 1) := by decide +kernel
theorem dX4_readSentence_30 : decode cX4_readSentence 30 = .ok (.invokevirtual 46, 3) := by decide +kernel
theorem dX4_readSentence_33 : decode cX4_readSentence 33 = .ok (.ireturn, 1) := by decide +kernel
theorem dX4_readSentence_34 : decode cX4_readSentence 34 = .ok (.aload_n 0, 1) := by decide +kernel
theorem dX4_readSentence_35 : decode cX4_readSentence 35 = .ok (.ldc 49, 2) := by decide +kernel
theorem dX4_readSentence_37 : decode cX4_readSentence 37 = .ok (.invokevirtual 51, 3) := by decide +kernel
theorem dX4_readSentence_40 : decode cX4_readSentence 40 = .ok (.ifCond .eq 14, 3) := by decide +kernel
theorem dX4_readSentence_43 : decode cX4_readSentence 43 = .ok (.aload_n 0, 1) := by decide +kernel
theorem dX4_readSentence_44 : decode cX4_readSentence 44 = .ok (.aload_n 1, 1) := by decide +kernel
theorem dX4_readSentence_45 : decode cX4_readSentence 45 = .ok (.getfield 55, 3) := by decide +kernel
theorem dX4_readSentence_48 : decode cX4_readSentence 48 = .ok (.bipush 7, 2) := by decide +kernel
theorem dX4_readSentence_50 : decode cX4_readSentence 50 = .ok (.invokevirtual 60, 3) := by decide +kernel
theorem dX4_readSentence_53 : decode cX4_readSentence 53 = .ok (.ireturn, 1) := by decide +kernel
theorem dX4_readSentence_54 : decode cX4_readSentence 54 = .ok (.aload_n 0, 1) := by decide +kernel
theorem dX4_readSentence_55 : decode cX4_readSentence 55 = .ok (.ldc 64, 2) := by decide +kernel
theorem dX4_readSentence_57 : decode cX4_readSentence 57 = .ok (.invokevirtual 51, 3) := by decide +kernel
theorem dX4_readSentence_60 : decode cX4_readSentence 60 = .ok (.ifCond .eq 14, 3) := by decide +kernel
theorem dX4_readSentence_63 : decode cX4_readSentence 63 = .ok (.aload_n 0, 1) := by decide +kernel
theorem dX4_readSentence_64 : decode cX4_readSentence 64 = .ok (.aload_n 1, 1) := by decide +kernel
theorem dX4_readSentence_65 : decode cX4_readSentence 65 = .ok (.getfield 66, 3) := by decide +kernel
theorem dX4_readSentence_68 : decode cX4_readSentence 68 = .ok (.bipush 99, 2) := by decide +kernel
theorem dX4_readSentence_70 : decode cX4_readSentence 70 = .ok (.invokevirtual 60, 3) := by decide +kernel
theorem dX4_readSentence_73 : decode cX4_readSentence 73 = .ok (.ireturn, 1) := by decide +kernel
theorem dX4_readSentence_74 : decode cX4_readSentence 74 = .ok (.aload_n 0, 1) := by decide +kernel
theorem dX4_readSentence_75 : decode cX4_readSentence 75 = .ok (.ldc 68, 2) := by decide +kernel
theorem dX4_readSentence_77 : decode cX4_readSentence 77 = .ok (.invokevirtual 51, 3) := by decide +kernel
theorem dX4_readSentence_80 : decode cX4_readSentence 80 = .ok (.ifCond .eq 15, 3) := by decide +kernel
theorem dX4_readSentence_83 : decode cX4_readSentence 83 = .ok (.aload_n 0, 1) := by decide +kernel
theorem dX4_readSentence_84 : decode cX4_readSentence 84 = .ok (.aload_n 1, 1) := by decide +kernel
theorem dX4_readSentence_85 : decode cX4_readSentence 85 = .ok (.invokevirtual 70, 3) := by decide +kernel
theorem dX4_readSentence_88 : decode cX4_readSentence 88 = .ok (.ifCond .eq 7, 3) := by decide +kernel
theorem dX4_readSentence_91 : decode cX4_readSentence 91 = .ok (.iconst 1, 1) := by decide +kernel
theorem dX4_readSentence_92 : decode cX4_readSentence 92 = .ok (.goto 4, 3) := by decide +kernel
theorem dX4_readSentence_95 : decode cX4_readSentence 95 = .ok (.iconst 0, 1) := by decide +kernel
theorem dX4_readSentence_96 : decode cX4_readSentence 96 = .ok (.ireturn, 1) := by decide +kernel
theorem dX4_readTale_0 : decode cX4_readTale 0 = .ok (.aload_n 1, 1) := by decide +kernel
theorem dX4_readTale_1 : decode cX4_readTale 1 = .ok (.getfield 73, 3) := by decide +kernel
theorem dX4_readTale_4 : decode cX4_readTale 4 = .ok (.bipush 8, 2) := by decide +kernel
theorem dX4_readTale_6 : decode cX4_readTale 6 = .ok (.if_icmp .lt 5, 3) := by decide +kernel
theorem dX4_readTale_9 : decode cX4_readTale 9 = .ok (.iconst 0, 1) := by decide +kernel
theorem dX4_readTale_10 : decode cX4_readTale 10 = .ok (.ireturn, 1) := by decide +kernel
theorem dX4_readTale_11 : decode cX4_readTale 11 = .ok (.aload_n 0, 1) := by decide +kernel
theorem dX4_readTale_12 : decode cX4_readTale 12 = .ok (.invokevirtual 25, 3) := by decide +kernel
theorem dX4_readTale_15 : decode cX4_readTale 15 = .ok (.aload_n 0, 1) := by decide +kernel
theorem dX4_readTale_16 : decode cX4_readTale 16 = .ok (.ldc 76, 2) := by decide +kernel
theorem dX4_readTale_18 : decode cX4_readTale 18 = .ok (.invokevirtual 78, 3) := by decide +kernel
theorem dX4_readTale_21 : decode cX4_readTale 21 = .ok (.ifCond .eq 12, 3) := by decide +kernel
theorem dX4_readTale_24 : decode cX4_readTale 24 = .ok (.aload_n 0, 1) := by decide +kernel
theorem dX4_readTale_25 : decode cX4_readTale 25 = .ok (.bipush 7, 2) := by decide +kernel
theorem dX4_readTale_27 : decode cX4_readTale 27 = .ok (.invokevirtual 81, 3) := by decide +kernel
theorem dX4_readTale_30 : decode cX4_readTale 30 = .ok (.ifCond .ne 5, 3) := by decide +kernel
theorem dX4_readTale_33 : decode cX4_readTale 33 = .ok (.iconst 0, 1) := by decide +kernel
theorem dX4_readTale_34 : decode cX4_readTale 34 = .ok (.ireturn, 1) := by decide +kernel
theorem dX4_readTale_35 : decode cX4_readTale 35 = .ok (.aload_n 0, 1) := by decide +kernel
theorem dX4_readTale_36 : decode cX4_readTale 36 = .ok (.invokevirtual 85, 3) := by decide +kernel
theorem dX4_readTale_39 : decode cX4_readTale 39 = .ok (.istore_n 3, 1) := by decide +kernel
theorem dX4_readTale_40 : decode cX4_readTale 40 = .ok (.bipush 50, 2) := by decide +kernel
theorem dX4_readTale_42 : decode cX4_readTale 42 = .ok (.istore 4, 2) := by decide +kernel
theorem dX4_readTale_44 : decode cX4_readTale 44 = .ok (.aload_n 0, 1) := by decide +kernel
theorem dX4_readTale_45 : decode cX4_readTale 45 = .ok (.ldc 88, 2) := by decide +kernel
theorem dX4_readTale_47 : decode cX4_readTale 47 = .ok (.invokevirtual 78, 3) := by decide +kernel
theorem dX4_readTale_50 : decode cX4_readTale 50 = .ok (.ifCond .eq 20, 3) := by decide +kernel
theorem dX4_readTale_53 : decode cX4_readTale 53 = .ok (.aload_n 0, 1) := by decide +kernel
theorem dX4_readTale_54 : decode cX4_readTale 54 = .ok (.bipush 99, 2) := by decide +kernel
theorem dX4_readTale_56 : decode cX4_readTale 56 = .ok (.invokevirtual 81, 3) := by decide +kernel
theorem dX4_readTale_59 : decode cX4_readTale 59 = .ok (.ifCond .ne 5, 3) := by decide +kernel
theorem dX4_readTale_62 : decode cX4_readTale 62 = .ok (.iconst 0, 1) := by decide +kernel
theorem dX4_readTale_63 : decode cX4_readTale 63 = .ok (.ireturn, 1) := by decide +kernel
theorem dX4_readTale_64 : decode cX4_readTale 64 = .ok (.aload_n 0, 1) := by decide +kernel
theorem dX4_readTale_65 : decode cX4_readTale 65 = .ok (.invokevirtual 85, 3) := by decide +kernel
theorem dX4_readTale_68 : decode cX4_readTale 68 = .ok (.istore 4, 2) := by decide +kernel
theorem dX4_readTale_70 : decode cX4_readTale 70 = .ok (.aload_n 1, 1) := by decide +kernel
theorem dX4_readTale_71 : decode cX4_readTale 71 = .ok (.iload_n 2, 1) := by decide +kernel
theorem dX4_readTale_72 : decode cX4_readTale 72 = .ok (.iload 4, 2) := by decide +kernel
theorem dX4_readTale_74 : decode cX4_readTale 74 = .ok (.iload_n 3, 1) := by decide +kernel
theorem dX4_readTale_75 : decode cX4_readTale 75 = .ok (.invokevirtual 90, 3) := by decide +kernel
theorem dX4_readTale_78 : decode cX4_readTale 78 = .ok (.pop, 1) := by decide +kernel
theorem dX4_readTale_79 : decode cX4_readTale 79 = .ok (.aload_n 0, 1) := by decide +kernel
theorem dX4_readTale_80 : decode cX4_readTale 80 = .ok (.invokevirtual 94, 3) := by decide +kernel
theorem dX4_readTale_83 : decode cX4_readTale 83 = .ok (.ireturn, 1) := by decide +kernel
theorem dX4_readLaw_0 : decode cX4_readLaw 0 = .ok (.aload_n 0, 1) := by decide +kernel
theorem dX4_readLaw_1 : decode cX4_readLaw 1 = .ok (.invokevirtual 25, 3) := by decide +kernel
theorem dX4_readLaw_4 : decode cX4_readLaw 4 = .ok (.aload_n 0, 1) := by decide +kernel
theorem dX4_readLaw_5 : decode cX4_readLaw 5 = .ok (.getstatic 98, 3) := by decide +kernel
theorem dX4_readLaw_8 : decode cX4_readLaw 8 = .ok (.iload_n 2, 1) := by decide +kernel
theorem dX4_readLaw_9 : decode cX4_readLaw 9 = .ok (.iaload, 1) := by decide +kernel
theorem dX4_readLaw_10 : decode cX4_readLaw 10 = .ok (.invokevirtual 81, 3) := by decide +kernel
theorem dX4_readLaw_13 : decode cX4_readLaw 13 = .ok (.ifCond .ne 5, 3) := by decide +kernel
theorem dX4_readLaw_16 : decode cX4_readLaw 16 = .ok (.iconst 0, 1) := by decide +kernel
theorem dX4_readLaw_17 : decode cX4_readLaw 17 = .ok (.ireturn, 1) := by decide +kernel
theorem dX4_readLaw_18 : decode cX4_readLaw 18 = .ok (.aload_n 1, 1) := by decide +kernel
theorem dX4_readLaw_19 : decode cX4_readLaw 19 = .ok (.getfield 101, 3) := by decide +kernel
theorem dX4_readLaw_22 : decode cX4_readLaw 22 = .ok (.iload_n 2, 1) := by decide +kernel
theorem dX4_readLaw_23 : decode cX4_readLaw 23 = .ok (.aload_n 0, 1) := by decide +kernel
theorem dX4_readLaw_24 : decode cX4_readLaw 24 = .ok (.invokevirtual 85, 3) := by decide +kernel
theorem dX4_readLaw_27 : decode cX4_readLaw 27 = .ok (.iastore, 1) := by decide +kernel
theorem dX4_readLaw_28 : decode cX4_readLaw 28 = .ok (.aload_n 0, 1) := by decide +kernel
theorem dX4_readLaw_29 : decode cX4_readLaw 29 = .ok (.invokevirtual 94, 3) := by decide +kernel
theorem dX4_readLaw_32 : decode cX4_readLaw 32 = .ok (.ireturn, 1) := by decide +kernel
theorem dX4_readOfHouse_0 : decode cX4_readOfHouse 0 = .ok (.aload_n 0, 1) := by decide +kernel
theorem dX4_readOfHouse_1 : decode cX4_readOfHouse 1 = .ok (.invokevirtual 25, 3) := by decide +kernel
theorem dX4_readOfHouse_4 : decode cX4_readOfHouse 4 = .ok (.aload_n 0, 1) := by decide +kernel
theorem dX4_readOfHouse_5 : decode cX4_readOfHouse 5 = .ok (.bipush 7, 2) := by decide +kernel
theorem dX4_readOfHouse_7 : decode cX4_readOfHouse 7 = .ok (.invokevirtual 81, 3) := by decide +kernel
theorem dX4_readOfHouse_10 : decode cX4_readOfHouse 10 = .ok (.ifCond .ne 5, 3) := by decide +kernel
theorem dX4_readOfHouse_13 : decode cX4_readOfHouse 13 = .ok (.iconst 0, 1) := by decide +kernel
theorem dX4_readOfHouse_14 : decode cX4_readOfHouse 14 = .ok (.ireturn, 1) := by decide +kernel
theorem dX4_readOfHouse_15 : decode cX4_readOfHouse 15 = .ok (.aload_n 0, 1) := by decide +kernel
theorem dX4_readOfHouse_16 : decode cX4_readOfHouse 16 = .ok (.invokevirtual 85, 3) := by decide +kernel
theorem dX4_readOfHouse_19 : decode cX4_readOfHouse 19 = .ok (.istore_n 3, 1) := by decide +kernel
theorem dX4_readOfHouse_20 : decode cX4_readOfHouse 20 = .ok (.aload_n 0, 1) := by decide +kernel
theorem dX4_readOfHouse_21 : decode cX4_readOfHouse 21 = .ok (.ldc 104, 2) := by decide +kernel
theorem dX4_readOfHouse_23 : decode cX4_readOfHouse 23 = .ok (.invokevirtual 78, 3) := by decide +kernel
theorem dX4_readOfHouse_26 : decode cX4_readOfHouse 26 = .ok (.ifCond .eq 11, 3) := by decide +kernel
theorem dX4_readOfHouse_29 : decode cX4_readOfHouse 29 = .ok (.aload_n 0, 1) := by decide +kernel
theorem dX4_readOfHouse_30 : decode cX4_readOfHouse 30 = .ok (.iload_n 2, 1) := by decide +kernel
theorem dX4_readOfHouse_31 : decode cX4_readOfHouse 31 = .ok (.invokevirtual 81, 3) := by decide +kernel
theorem dX4_readOfHouse_34 : decode cX4_readOfHouse 34 = .ok (.ifCond .ne 5, 3) := by decide +kernel
theorem dX4_readOfHouse_37 : decode cX4_readOfHouse 37 = .ok (.iconst 0, 1) := by decide +kernel
theorem dX4_readOfHouse_38 : decode cX4_readOfHouse 38 = .ok (.ireturn, 1) := by decide +kernel
theorem dX4_readOfHouse_39 : decode cX4_readOfHouse 39 = .ok (.aload_n 1, 1) := by decide +kernel
theorem dX4_readOfHouse_40 : decode cX4_readOfHouse 40 = .ok (.iload_n 3, 1) := by decide +kernel
theorem dX4_readOfHouse_41 : decode cX4_readOfHouse 41 = .ok (.aload_n 0, 1) := by decide +kernel
theorem dX4_readOfHouse_42 : decode cX4_readOfHouse 42 = .ok (.invokevirtual 85, 3) := by decide +kernel
theorem dX4_readOfHouse_45 : decode cX4_readOfHouse 45 = .ok (.iastore, 1) := by decide +kernel
theorem dX4_readOfHouse_46 : decode cX4_readOfHouse 46 = .ok (.aload_n 0, 1) := by decide +kernel
theorem dX4_readOfHouse_47 : decode cX4_readOfHouse 47 = .ok (.invokevirtual 94, 3) := by decide +kernel
theorem dX4_readOfHouse_50 : decode cX4_readOfHouse 50 = .ok (.ireturn, 1) := by decide +kernel
theorem dX4_readBox_0 : decode cX4_readBox 0 = .ok (.aload_n 0, 1) := by decide +kernel
theorem dX4_readBox_1 : decode cX4_readBox 1 = .ok (.invokevirtual 25, 3) := by decide +kernel
theorem dX4_readBox_4 : decode cX4_readBox 4 = .ok (.aload_n 0, 1) := by decide +kernel
theorem dX4_readBox_5 : decode cX4_readBox 5 = .ok (.bipush 7, 2) := by decide +kernel
theorem dX4_readBox_7 : decode cX4_readBox 7 = .ok (.invokevirtual 81, 3) := by decide +kernel
theorem dX4_readBox_10 : decode cX4_readBox 10 = .ok (.ifCond .ne 5, 3) := by decide +kernel
theorem dX4_readBox_13 : decode cX4_readBox 13 = .ok (.iconst 0, 1) := by decide +kernel
theorem dX4_readBox_14 : decode cX4_readBox 14 = .ok (.ireturn, 1) := by decide +kernel
theorem dX4_readBox_15 : decode cX4_readBox 15 = .ok (.aload_n 1, 1) := by decide +kernel
theorem dX4_readBox_16 : decode cX4_readBox 16 = .ok (.dup, 1) := by decide +kernel
theorem dX4_readBox_17 : decode cX4_readBox 17 = .ok (.getfield 106, 3) := by decide +kernel
theorem dX4_readBox_20 : decode cX4_readBox 20 = .ok (.iconst 1, 1) := by decide +kernel
theorem dX4_readBox_21 : decode cX4_readBox 21 = .ok (.aload_n 0, 1) := by decide +kernel
theorem dX4_readBox_22 : decode cX4_readBox 22 = .ok (.invokevirtual 85, 3) := by decide +kernel
theorem dX4_readBox_25 : decode cX4_readBox 25 = .ok (.ishl, 1) := by decide +kernel
theorem dX4_readBox_26 : decode cX4_readBox 26 = .ok (.ior, 1) := by decide +kernel
theorem dX4_readBox_27 : decode cX4_readBox 27 = .ok (.putfield 106, 3) := by decide +kernel
theorem dX4_readBox_30 : decode cX4_readBox 30 = .ok (.aload_n 0, 1) := by decide +kernel
theorem dX4_readBox_31 : decode cX4_readBox 31 = .ok (.invokevirtual 94, 3) := by decide +kernel
theorem dX4_readBox_34 : decode cX4_readBox 34 = .ok (.ireturn, 1) := by decide +kernel
theorem dX4_namedKind_0 : decode cX4_namedKind 0 = .ok (.aload_n 0, 1) := by decide +kernel
theorem dX4_namedKind_1 : decode cX4_namedKind 1 = .ok (.ldc 109, 2) := by decide +kernel
theorem dX4_namedKind_3 : decode cX4_namedKind 3 = .ok (.invokevirtual 51, 3) := by decide +kernel
theorem dX4_namedKind_6 : decode cX4_namedKind 6 = .ok (.ifCond .eq 5, 3) := by decide +kernel
theorem dX4_namedKind_9 : decode cX4_namedKind 9 = .ok (.iconst 0, 1) := by decide +kernel
theorem dX4_namedKind_10 : decode cX4_namedKind 10 = .ok (.ireturn, 1) := by decide +kernel
theorem dX4_namedKind_11 : decode cX4_namedKind 11 = .ok (.aload_n 0, 1) := by decide +kernel
theorem dX4_namedKind_12 : decode cX4_namedKind 12 = .ok (.ldc 111, 2) := by decide +kernel
theorem dX4_namedKind_14 : decode cX4_namedKind 14 = .ok (.invokevirtual 51, 3) := by decide +kernel
theorem dX4_namedKind_17 : decode cX4_namedKind 17 = .ok (.ifCond .eq 5, 3) := by decide +kernel
theorem dX4_namedKind_20 : decode cX4_namedKind 20 = .ok (.iconst 1, 1) := by decide +kernel
theorem dX4_namedKind_21 : decode cX4_namedKind 21 = .ok (.ireturn, 1) := by decide +kernel
theorem dX4_namedKind_22 : decode cX4_namedKind 22 = .ok (.aload_n 0, 1) := by decide +kernel
theorem dX4_namedKind_23 : decode cX4_namedKind 23 = .ok (.ldc 113, 2) := by decide +kernel
theorem dX4_namedKind_25 : decode cX4_namedKind 25 = .ok (.invokevirtual 51, 3) := by decide +kernel
theorem dX4_namedKind_28 : decode cX4_namedKind 28 = .ok (.ifCond .eq 5, 3) := by decide +kernel
theorem dX4_namedKind_31 : decode cX4_namedKind 31 = .ok (.iconst 2, 1) := by decide +kernel
theorem dX4_namedKind_32 : decode cX4_namedKind 32 = .ok (.ireturn, 1) := by decide +kernel
theorem dX4_namedKind_33 : decode cX4_namedKind 33 = .ok (.aload_n 0, 1) := by decide +kernel
theorem dX4_namedKind_34 : decode cX4_namedKind 34 = .ok (.ldc 115, 2) := by decide +kernel
theorem dX4_namedKind_36 : decode cX4_namedKind 36 = .ok (.invokevirtual 51, 3) := by decide +kernel
theorem dX4_namedKind_39 : decode cX4_namedKind 39 = .ok (.ifCond .eq 5, 3) := by decide +kernel
theorem dX4_namedKind_42 : decode cX4_namedKind 42 = .ok (.iconst 3, 1) := by decide +kernel
theorem dX4_namedKind_43 : decode cX4_namedKind 43 = .ok (.ireturn, 1) := by decide +kernel
theorem dX4_namedKind_44 : decode cX4_namedKind 44 = .ok (.aload_n 0, 1) := by decide +kernel
theorem dX4_namedKind_45 : decode cX4_namedKind 45 = .ok (.ldc 117, 2) := by decide +kernel
theorem dX4_namedKind_47 : decode cX4_namedKind 47 = .ok (.invokevirtual 51, 3) := by decide +kernel
theorem dX4_namedKind_50 : decode cX4_namedKind 50 = .ok (.ifCond .eq 5, 3) := by decide +kernel
theorem dX4_namedKind_53 : decode cX4_namedKind 53 = .ok (.iconst 4, 1) := by decide +kernel
theorem dX4_namedKind_54 : decode cX4_namedKind 54 = .ok (.ireturn, 1) := by decide +kernel
theorem dX4_namedKind_55 : decode cX4_namedKind 55 = .ok (.aload_n 0, 1) := by decide +kernel
theorem dX4_namedKind_56 : decode cX4_namedKind 56 = .ok (.ldc 119, 2) := by decide +kernel
theorem dX4_namedKind_58 : decode cX4_namedKind 58 = .ok (.invokevirtual 51, 3) := by decide +kernel
theorem dX4_namedKind_61 : decode cX4_namedKind 61 = .ok (.ifCond .eq 7, 3) := by decide +kernel
theorem dX4_namedKind_64 : decode cX4_namedKind 64 = .ok (.iconst 5, 1) := by decide +kernel
theorem dX4_namedKind_65 : decode cX4_namedKind 65 = .ok (.goto 4, 3) := by decide +kernel
theorem dX4_namedKind_68 : decode cX4_namedKind 68 = .ok (.iconst (-1), 1) := by decide +kernel
theorem dX4_namedKind_69 : decode cX4_namedKind 69 = .ok (.ireturn, 1) := by decide +kernel
theorem dX4_namedLaw_0 : decode cX4_namedLaw 0 = .ok (.aload_n 0, 1) := by decide +kernel
theorem dX4_namedLaw_1 : decode cX4_namedLaw 1 = .ok (.ldc 121, 2) := by decide +kernel
theorem dX4_namedLaw_3 : decode cX4_namedLaw 3 = .ok (.invokevirtual 51, 3) := by decide +kernel
theorem dX4_namedLaw_6 : decode cX4_namedLaw 6 = .ok (.ifCond .eq 5, 3) := by decide +kernel
theorem dX4_namedLaw_9 : decode cX4_namedLaw 9 = .ok (.iconst 0, 1) := by decide +kernel
theorem dX4_namedLaw_10 : decode cX4_namedLaw 10 = .ok (.ireturn, 1) := by decide +kernel
theorem dX4_namedLaw_11 : decode cX4_namedLaw 11 = .ok (.aload_n 0, 1) := by decide +kernel
theorem dX4_namedLaw_12 : decode cX4_namedLaw 12 = .ok (.ldc 123, 2) := by decide +kernel
theorem dX4_namedLaw_14 : decode cX4_namedLaw 14 = .ok (.invokevirtual 51, 3) := by decide +kernel
theorem dX4_namedLaw_17 : decode cX4_namedLaw 17 = .ok (.ifCond .eq 5, 3) := by decide +kernel
theorem dX4_namedLaw_20 : decode cX4_namedLaw 20 = .ok (.iconst 1, 1) := by decide +kernel
theorem dX4_namedLaw_21 : decode cX4_namedLaw 21 = .ok (.ireturn, 1) := by decide +kernel
theorem dX4_namedLaw_22 : decode cX4_namedLaw 22 = .ok (.aload_n 0, 1) := by decide +kernel
theorem dX4_namedLaw_23 : decode cX4_namedLaw 23 = .ok (.ldc 125, 2) := by decide +kernel
theorem dX4_namedLaw_25 : decode cX4_namedLaw 25 = .ok (.invokevirtual 51, 3) := by decide +kernel
theorem dX4_namedLaw_28 : decode cX4_namedLaw 28 = .ok (.ifCond .eq 5, 3) := by decide +kernel
theorem dX4_namedLaw_31 : decode cX4_namedLaw 31 = .ok (.iconst 2, 1) := by decide +kernel
theorem dX4_namedLaw_32 : decode cX4_namedLaw 32 = .ok (.ireturn, 1) := by decide +kernel
theorem dX4_namedLaw_33 : decode cX4_namedLaw 33 = .ok (.aload_n 0, 1) := by decide +kernel
theorem dX4_namedLaw_34 : decode cX4_namedLaw 34 = .ok (.ldc 127, 2) := by decide +kernel
theorem dX4_namedLaw_36 : decode cX4_namedLaw 36 = .ok (.invokevirtual 51, 3) := by decide +kernel
theorem dX4_namedLaw_39 : decode cX4_namedLaw 39 = .ok (.ifCond .eq 7, 3) := by decide +kernel
theorem dX4_namedLaw_42 : decode cX4_namedLaw 42 = .ok (.iconst 3, 1) := by decide +kernel
theorem dX4_namedLaw_43 : decode cX4_namedLaw 43 = .ok (.goto 4, 3) := by decide +kernel
theorem dX4_namedLaw_46 : decode cX4_namedLaw 46 = .ok (.iconst (-1), 1) := by decide +kernel
theorem dX4_namedLaw_47 : decode cX4_namedLaw 47 = .ok (.ireturn, 1) := by decide +kernel
theorem dX4_advance_0 : decode cX4_advance 0 = .ok (.aload_n 0, 1) := by decide +kernel
theorem dX4_advance_1 : decode cX4_advance 1 = .ok (.aload_n 0, 1) := by decide +kernel
theorem dX4_advance_2 : decode cX4_advance 2 = .ok (.getfield 22, 3) := by decide +kernel
theorem dX4_advance_5 : decode cX4_advance 5 = .ok (.putfield 32, 3) := by decide +kernel
theorem dX4_advance_8 : decode cX4_advance 8 = .ok (.aload_n 0, 1) := by decide +kernel
theorem dX4_advance_9 : decode cX4_advance 9 = .ok (.getfield 32, 3) := by decide +kernel
theorem dX4_advance_12 : decode cX4_advance 12 = .ok (.aload_n 0, 1) := by decide +kernel
theorem dX4_advance_13 : decode cX4_advance 13 = .ok (.getfield 19, 3) := by decide +kernel
theorem dX4_advance_16 : decode cX4_advance 16 = .ok (.if_icmp .ge 30, 3) := by decide +kernel
theorem dX4_advance_19 : decode cX4_advance 19 = .ok (.aload_n 0, 1) := by decide +kernel
theorem dX4_advance_20 : decode cX4_advance 20 = .ok (.getfield 9, 3) := by decide +kernel
theorem dX4_advance_23 : decode cX4_advance 23 = .ok (.aload_n 0, 1) := by decide +kernel
theorem dX4_advance_24 : decode cX4_advance 24 = .ok (.getfield 32, 3) := by decide +kernel
theorem dX4_advance_27 : decode cX4_advance 27 = .ok (.baload, 1) := by decide +kernel
theorem dX4_advance_28 : decode cX4_advance 28 = .ok (.bipush 32, 2) := by decide +kernel
theorem dX4_advance_30 : decode cX4_advance 30 = .ok (.if_icmp .ne 16, 3) := by decide +kernel
theorem dX4_advance_33 : decode cX4_advance 33 = .ok (.aload_n 0, 1) := by decide +kernel
theorem dX4_advance_34 : decode cX4_advance 34 = .ok (.dup, 1) := by decide +kernel
theorem dX4_advance_35 : decode cX4_advance 35 = .ok (.getfield 32, 3) := by decide +kernel
theorem dX4_advance_38 : decode cX4_advance 38 = .ok (.iconst 1, 1) := by decide +kernel
theorem dX4_advance_39 : decode cX4_advance 39 = .ok (.iadd, 1) := by decide +kernel
theorem dX4_advance_40 : decode cX4_advance 40 = .ok (.putfield 32, 3) := by decide +kernel
theorem dX4_advance_43 : decode cX4_advance 43 = .ok (.goto (-35), 3) := by decide +kernel
theorem dX4_advance_46 : decode cX4_advance 46 = .ok (.aload_n 0, 1) := by decide +kernel
theorem dX4_advance_47 : decode cX4_advance 47 = .ok (.aload_n 0, 1) := by decide +kernel
theorem dX4_advance_48 : decode cX4_advance 48 = .ok (.getfield 32, 3) := by decide +kernel
theorem dX4_advance_51 : decode cX4_advance 51 = .ok (.putfield 22, 3) := by decide +kernel
theorem dX4_advance_54 : decode cX4_advance 54 = .ok (.aload_n 0, 1) := by decide +kernel
theorem dX4_advance_55 : decode cX4_advance 55 = .ok (.getfield 32, 3) := by decide +kernel
theorem dX4_advance_58 : decode cX4_advance 58 = .ok (.aload_n 0, 1) := by decide +kernel
theorem dX4_advance_59 : decode cX4_advance 59 = .ok (.getfield 19, 3) := by decide +kernel
theorem dX4_advance_62 : decode cX4_advance 62 = .ok (.if_icmp .lt 11, 3) := by decide +kernel
theorem dX4_advance_65 : decode cX4_advance 65 = .ok (.aload_n 0, 1) := by decide +kernel
theorem dX4_advance_66 : decode cX4_advance 66 = .ok (.iconst 0, 1) := by decide +kernel
theorem dX4_advance_67 : decode cX4_advance 67 = .ok (.putfield 15, 3) := by decide +kernel
theorem dX4_advance_70 : decode cX4_advance 70 = .ok (.goto 88, 3) := by decide +kernel
theorem dX4_advance_73 : decode cX4_advance 73 = .ok (.aload_n 0, 1) := by decide +kernel
theorem dX4_advance_74 : decode cX4_advance 74 = .ok (.getfield 9, 3) := by decide +kernel
theorem dX4_advance_77 : decode cX4_advance 77 = .ok (.aload_n 0, 1) := by decide +kernel
theorem dX4_advance_78 : decode cX4_advance 78 = .ok (.getfield 32, 3) := by decide +kernel
theorem dX4_advance_81 : decode cX4_advance 81 = .ok (.baload, 1) := by decide +kernel
theorem dX4_advance_82 : decode cX4_advance 82 = .ok (.bipush 97, 2) := by decide +kernel
theorem dX4_advance_84 : decode cX4_advance 84 = .ok (.bipush 122, 2) := by decide +kernel
theorem dX4_advance_86 : decode cX4_advance 86 = .ok (.invokestatic 129, 3) := by decide +kernel
theorem dX4_advance_89 : decode cX4_advance 89 = .ok (.ifCond .eq 19, 3) := by decide +kernel
theorem dX4_advance_92 : decode cX4_advance 92 = .ok (.aload_n 0, 1) := by decide +kernel
theorem dX4_advance_93 : decode cX4_advance 93 = .ok (.iconst 1, 1) := by decide +kernel
theorem dX4_advance_94 : decode cX4_advance 94 = .ok (.putfield 15, 3) := by decide +kernel
theorem dX4_advance_97 : decode cX4_advance 97 = .ok (.aload_n 0, 1) := by decide +kernel
theorem dX4_advance_98 : decode cX4_advance 98 = .ok (.bipush 97, 2) := by decide +kernel
theorem dX4_advance_100 : decode cX4_advance 100 = .ok (.bipush 122, 2) := by decide +kernel
theorem dX4_advance_102 : decode cX4_advance 102 = .ok (.invokevirtual 133, 3) := by decide +kernel
theorem dX4_advance_105 : decode cX4_advance 105 = .ok (.goto 53, 3) := by decide +kernel
theorem dX4_advance_108 : decode cX4_advance 108 = .ok (.aload_n 0, 1) := by decide +kernel
theorem dX4_advance_109 : decode cX4_advance 109 = .ok (.getfield 9, 3) := by decide +kernel
theorem dX4_advance_112 : decode cX4_advance 112 = .ok (.aload_n 0, 1) := by decide +kernel
theorem dX4_advance_113 : decode cX4_advance 113 = .ok (.getfield 32, 3) := by decide +kernel
theorem dX4_advance_116 : decode cX4_advance 116 = .ok (.baload, 1) := by decide +kernel
theorem dX4_advance_117 : decode cX4_advance 117 = .ok (.bipush 48, 2) := by decide +kernel
theorem dX4_advance_119 : decode cX4_advance 119 = .ok (.bipush 57, 2) := by decide +kernel
theorem dX4_advance_121 : decode cX4_advance 121 = .ok (.invokestatic 129, 3) := by decide +kernel
theorem dX4_advance_124 : decode cX4_advance 124 = .ok (.ifCond .eq 19, 3) := by decide +kernel
theorem dX4_advance_127 : decode cX4_advance 127 = .ok (.aload_n 0, 1) := by decide +kernel
theorem dX4_advance_128 : decode cX4_advance 128 = .ok (.iconst 2, 1) := by decide +kernel
theorem dX4_advance_129 : decode cX4_advance 129 = .ok (.putfield 15, 3) := by decide +kernel
theorem dX4_advance_132 : decode cX4_advance 132 = .ok (.aload_n 0, 1) := by decide +kernel
theorem dX4_advance_133 : decode cX4_advance 133 = .ok (.bipush 48, 2) := by decide +kernel
theorem dX4_advance_135 : decode cX4_advance 135 = .ok (.bipush 57, 2) := by decide +kernel
theorem dX4_advance_137 : decode cX4_advance 137 = .ok (.invokevirtual 133, 3) := by decide +kernel
theorem dX4_advance_140 : decode cX4_advance 140 = .ok (.goto 18, 3) := by decide +kernel
theorem dX4_advance_143 : decode cX4_advance 143 = .ok (.aload_n 0, 1) := by decide +kernel
theorem dX4_advance_144 : decode cX4_advance 144 = .ok (.iconst 3, 1) := by decide +kernel
theorem dX4_advance_145 : decode cX4_advance 145 = .ok (.putfield 15, 3) := by decide +kernel
theorem dX4_advance_148 : decode cX4_advance 148 = .ok (.aload_n 0, 1) := by decide +kernel
theorem dX4_advance_149 : decode cX4_advance 149 = .ok (.dup, 1) := by decide +kernel
theorem dX4_advance_150 : decode cX4_advance 150 = .ok (.getfield 22, 3) := by decide +kernel
theorem dX4_advance_153 : decode cX4_advance 153 = .ok (.iconst 1, 1) := by decide +kernel
theorem dX4_advance_154 : decode cX4_advance 154 = .ok (.iadd, 1) := by decide +kernel
theorem dX4_advance_155 : decode cX4_advance 155 = .ok (.putfield 22, 3) := by decide +kernel
theorem dX4_advance_158 : decode cX4_advance 158 = .ok (.return_, 1) := by decide +kernel
theorem dX4_goBehind_0 : decode cX4_goBehind 0 = .ok (.aload_n 0, 1) := by decide +kernel
theorem dX4_goBehind_1 : decode cX4_goBehind 1 = .ok (.getfield 22, 3) := by decide +kernel
theorem dX4_goBehind_4 : decode cX4_goBehind 4 = .ok (.aload_n 0, 1) := by decide +kernel
theorem dX4_goBehind_5 : decode cX4_goBehind 5 = .ok (.getfield 19, 3) := by decide +kernel
theorem dX4_goBehind_8 : decode cX4_goBehind 8 = .ok (.if_icmp .ge 42, 3) := by decide +kernel
theorem dX4_goBehind_11 : decode cX4_goBehind 11 = .ok (.aload_n 0, 1) := by decide +kernel
theorem dX4_goBehind_12 : decode cX4_goBehind 12 = .ok (.getfield 9, 3) := by decide +kernel
theorem dX4_goBehind_15 : decode cX4_goBehind 15 = .ok (.aload_n 0, 1) := by decide +kernel
theorem dX4_goBehind_16 : decode cX4_goBehind 16 = .ok (.getfield 22, 3) := by decide +kernel
theorem dX4_goBehind_19 : decode cX4_goBehind 19 = .ok (.baload, 1) := by decide +kernel
theorem dX4_goBehind_20 : decode cX4_goBehind 20 = .ok (.iload_n 1, 1) := by decide +kernel
theorem dX4_goBehind_21 : decode cX4_goBehind 21 = .ok (.if_icmp .lt 29, 3) := by decide +kernel
theorem dX4_goBehind_24 : decode cX4_goBehind 24 = .ok (.aload_n 0, 1) := by decide +kernel
theorem dX4_goBehind_25 : decode cX4_goBehind 25 = .ok (.getfield 9, 3) := by decide +kernel
theorem dX4_goBehind_28 : decode cX4_goBehind 28 = .ok (.aload_n 0, 1) := by decide +kernel
theorem dX4_goBehind_29 : decode cX4_goBehind 29 = .ok (.getfield 22, 3) := by decide +kernel
theorem dX4_goBehind_32 : decode cX4_goBehind 32 = .ok (.baload, 1) := by decide +kernel
theorem dX4_goBehind_33 : decode cX4_goBehind 33 = .ok (.iload_n 2, 1) := by decide +kernel
theorem dX4_goBehind_34 : decode cX4_goBehind 34 = .ok (.if_icmp .gt 16, 3) := by decide +kernel
theorem dX4_goBehind_37 : decode cX4_goBehind 37 = .ok (.aload_n 0, 1) := by decide +kernel
theorem dX4_goBehind_38 : decode cX4_goBehind 38 = .ok (.dup, 1) := by decide +kernel
theorem dX4_goBehind_39 : decode cX4_goBehind 39 = .ok (.getfield 22, 3) := by decide +kernel
theorem dX4_goBehind_42 : decode cX4_goBehind 42 = .ok (.iconst 1, 1) := by decide +kernel
theorem dX4_goBehind_43 : decode cX4_goBehind 43 = .ok (.iadd, 1) := by decide +kernel
theorem dX4_goBehind_44 : decode cX4_goBehind 44 = .ok (.putfield 22, 3) := by decide +kernel
theorem dX4_goBehind_47 : decode cX4_goBehind 47 = .ok (.goto (-47), 3) := by decide +kernel
theorem dX4_goBehind_50 : decode cX4_goBehind 50 = .ok (.return_, 1) := by decide +kernel
theorem dX4_isName_0 : decode cX4_isName 0 = .ok (.aload_n 0, 1) := by decide +kernel
theorem dX4_isName_1 : decode cX4_isName 1 = .ok (.getfield 15, 3) := by decide +kernel
theorem dX4_isName_4 : decode cX4_isName 4 = .ok (.iconst 1, 1) := by decide +kernel
theorem dX4_isName_5 : decode cX4_isName 5 = .ok (.if_icmp .ne 19, 3) := by decide +kernel
theorem dX4_isName_8 : decode cX4_isName 8 = .ok (.aload_n 0, 1) := by decide +kernel
theorem dX4_isName_9 : decode cX4_isName 9 = .ok (.getfield 22, 3) := by decide +kernel
theorem dX4_isName_12 : decode cX4_isName 12 = .ok (.aload_n 0, 1) := by decide +kernel
theorem dX4_isName_13 : decode cX4_isName 13 = .ok (.getfield 32, 3) := by decide +kernel
theorem dX4_isName_16 : decode cX4_isName 16 = .ok (.isub, 1) := by decide +kernel
theorem dX4_isName_17 : decode cX4_isName 17 = .ok (.aload_n 1, 1) := by decide +kernel
theorem dX4_isName_18 : decode cX4_isName 18 = .ok (.invokevirtual 137, 3) := by decide +kernel
theorem dX4_isName_21 : decode cX4_isName 21 = .ok (.if_icmp .eq 5, 3) := by decide +kernel
theorem dX4_isName_24 : decode cX4_isName 24 = .ok (.iconst 0, 1) := by decide +kernel
theorem dX4_isName_25 : decode cX4_isName 25 = .ok (.ireturn, 1) := by decide +kernel
theorem dX4_isName_26 : decode cX4_isName 26 = .ok (.iconst 0, 1) := by decide +kernel
theorem dX4_isName_27 : decode cX4_isName 27 = .ok (.istore_n 2, 1) := by decide +kernel
theorem dX4_isName_28 : decode cX4_isName 28 = .ok (.iload_n 2, 1) := by decide +kernel
theorem dX4_isName_29 : decode cX4_isName 29 = .ok (.aload_n 1, 1) := by decide +kernel
theorem dX4_isName_30 : decode cX4_isName 30 = .ok (.invokevirtual 137, 3) := by decide +kernel
theorem dX4_isName_33 : decode cX4_isName 33 = .ok (.if_icmp .ge 30, 3) := by decide +kernel
theorem dX4_isName_36 : decode cX4_isName 36 = .ok (.aload_n 0, 1) := by decide +kernel
theorem dX4_isName_37 : decode cX4_isName 37 = .ok (.getfield 9, 3) := by decide +kernel
theorem dX4_isName_40 : decode cX4_isName 40 = .ok (.aload_n 0, 1) := by decide +kernel
theorem dX4_isName_41 : decode cX4_isName 41 = .ok (.getfield 32, 3) := by decide +kernel
theorem dX4_isName_44 : decode cX4_isName 44 = .ok (.iload_n 2, 1) := by decide +kernel
theorem dX4_isName_45 : decode cX4_isName 45 = .ok (.iadd, 1) := by decide +kernel
theorem dX4_isName_46 : decode cX4_isName 46 = .ok (.baload, 1) := by decide +kernel
theorem dX4_isName_47 : decode cX4_isName 47 = .ok (.aload_n 1, 1) := by decide +kernel
theorem dX4_isName_48 : decode cX4_isName 48 = .ok (.iload_n 2, 1) := by decide +kernel
theorem dX4_isName_49 : decode cX4_isName 49 = .ok (.invokevirtual 142, 3) := by decide +kernel
theorem dX4_isName_52 : decode cX4_isName 52 = .ok (.if_icmp .eq 5, 3) := by decide +kernel
theorem dX4_isName_55 : decode cX4_isName 55 = .ok (.iconst 0, 1) := by decide +kernel
theorem dX4_isName_56 : decode cX4_isName 56 = .ok (.ireturn, 1) := by decide +kernel
theorem dX4_isName_57 : decode cX4_isName 57 = .ok (.iinc 2 1, 3) := by decide +kernel
theorem dX4_isName_60 : decode cX4_isName 60 = .ok (.goto (-32), 3) := by decide +kernel
theorem dX4_isName_63 : decode cX4_isName 63 = .ok (.iconst 1, 1) := by decide +kernel
theorem dX4_isName_64 : decode cX4_isName 64 = .ok (.ireturn, 1) := by decide +kernel
theorem dX4_passName_0 : decode cX4_passName 0 = .ok (.aload_n 0, 1) := by decide +kernel
theorem dX4_passName_1 : decode cX4_passName 1 = .ok (.aload_n 1, 1) := by decide +kernel
theorem dX4_passName_2 : decode cX4_passName 2 = .ok (.invokevirtual 51, 3) := by decide +kernel
theorem dX4_passName_5 : decode cX4_passName 5 = .ok (.ifCond .ne 5, 3) := by decide +kernel
theorem dX4_passName_8 : decode cX4_passName 8 = .ok (.iconst 0, 1) := by decide +kernel
theorem dX4_passName_9 : decode cX4_passName 9 = .ok (.ireturn, 1) := by decide +kernel
theorem dX4_passName_10 : decode cX4_passName 10 = .ok (.aload_n 0, 1) := by decide +kernel
theorem dX4_passName_11 : decode cX4_passName 11 = .ok (.invokevirtual 25, 3) := by decide +kernel
theorem dX4_passName_14 : decode cX4_passName 14 = .ok (.iconst 1, 1) := by decide +kernel
theorem dX4_passName_15 : decode cX4_passName 15 = .ok (.ireturn, 1) := by decide +kernel
theorem dX4_isNumberTo_0 : decode cX4_isNumberTo 0 = .ok (.aload_n 0, 1) := by decide +kernel
theorem dX4_isNumberTo_1 : decode cX4_isNumberTo 1 = .ok (.getfield 15, 3) := by decide +kernel
theorem dX4_isNumberTo_4 : decode cX4_isNumberTo 4 = .ok (.iconst 2, 1) := by decide +kernel
theorem dX4_isNumberTo_5 : decode cX4_isNumberTo 5 = .ok (.if_icmp .ne 28, 3) := by decide +kernel
theorem dX4_isNumberTo_8 : decode cX4_isNumberTo 8 = .ok (.aload_n 0, 1) := by decide +kernel
theorem dX4_isNumberTo_9 : decode cX4_isNumberTo 9 = .ok (.getfield 22, 3) := by decide +kernel
theorem dX4_isNumberTo_12 : decode cX4_isNumberTo 12 = .ok (.aload_n 0, 1) := by decide +kernel
theorem dX4_isNumberTo_13 : decode cX4_isNumberTo 13 = .ok (.getfield 32, 3) := by decide +kernel
theorem dX4_isNumberTo_16 : decode cX4_isNumberTo 16 = .ok (.isub, 1) := by decide +kernel
theorem dX4_isNumberTo_17 : decode cX4_isNumberTo 17 = .ok (.iconst 3, 1) := by decide +kernel
theorem dX4_isNumberTo_18 : decode cX4_isNumberTo 18 = .ok (.if_icmp .gt 15, 3) := by decide +kernel
theorem dX4_isNumberTo_21 : decode cX4_isNumberTo 21 = .ok (.aload_n 0, 1) := by decide +kernel
theorem dX4_isNumberTo_22 : decode cX4_isNumberTo 22 = .ok (.invokevirtual 146, 3) := by decide +kernel
theorem dX4_isNumberTo_25 : decode cX4_isNumberTo 25 = .ok (.iload_n 1, 1) := by decide +kernel
theorem dX4_isNumberTo_26 : decode cX4_isNumberTo 26 = .ok (.if_icmp .gt 7, 3) := by decide +kernel
theorem dX4_isNumberTo_29 : decode cX4_isNumberTo 29 = .ok (.iconst 1, 1) := by decide +kernel
theorem dX4_isNumberTo_30 : decode cX4_isNumberTo 30 = .ok (.goto 4, 3) := by decide +kernel
theorem dX4_isNumberTo_33 : decode cX4_isNumberTo 33 = .ok (.iconst 0, 1) := by decide +kernel
theorem dX4_isNumberTo_34 : decode cX4_isNumberTo 34 = .ok (.ireturn, 1) := by decide +kernel
theorem dX4_numberHere_0 : decode cX4_numberHere 0 = .ok (.iconst 0, 1) := by decide +kernel
theorem dX4_numberHere_1 : decode cX4_numberHere 1 = .ok (.istore_n 1, 1) := by decide +kernel
theorem dX4_numberHere_2 : decode cX4_numberHere 2 = .ok (.aload_n 0, 1) := by decide +kernel
theorem dX4_numberHere_3 : decode cX4_numberHere 3 = .ok (.getfield 32, 3) := by decide +kernel
theorem dX4_numberHere_6 : decode cX4_numberHere 6 = .ok (.istore_n 2, 1) := by decide +kernel
theorem dX4_numberHere_7 : decode cX4_numberHere 7 = .ok (.iload_n 2, 1) := by decide +kernel
theorem dX4_numberHere_8 : decode cX4_numberHere 8 = .ok (.aload_n 0, 1) := by decide +kernel
theorem dX4_numberHere_9 : decode cX4_numberHere 9 = .ok (.getfield 22, 3) := by decide +kernel
theorem dX4_numberHere_12 : decode cX4_numberHere 12 = .ok (.if_icmp .ge 24, 3) := by decide +kernel
theorem dX4_numberHere_15 : decode cX4_numberHere 15 = .ok (.iload_n 1, 1) := by decide +kernel
theorem dX4_numberHere_16 : decode cX4_numberHere 16 = .ok (.bipush 10, 2) := by decide +kernel
theorem dX4_numberHere_18 : decode cX4_numberHere 18 = .ok (.imul, 1) := by decide +kernel
theorem dX4_numberHere_19 : decode cX4_numberHere 19 = .ok (.aload_n 0, 1) := by decide +kernel
theorem dX4_numberHere_20 : decode cX4_numberHere 20 = .ok (.getfield 9, 3) := by decide +kernel
theorem dX4_numberHere_23 : decode cX4_numberHere 23 = .ok (.iload_n 2, 1) := by decide +kernel
theorem dX4_numberHere_24 : decode cX4_numberHere 24 = .ok (.baload, 1) := by decide +kernel
theorem dX4_numberHere_25 : decode cX4_numberHere 25 = .ok (.bipush 48, 2) := by decide +kernel
theorem dX4_numberHere_27 : decode cX4_numberHere 27 = .ok (.isub, 1) := by decide +kernel
theorem dX4_numberHere_28 : decode cX4_numberHere 28 = .ok (.iadd, 1) := by decide +kernel
theorem dX4_numberHere_29 : decode cX4_numberHere 29 = .ok (.istore_n 1, 1) := by decide +kernel
theorem dX4_numberHere_30 : decode cX4_numberHere 30 = .ok (.iinc 2 1, 3) := by decide +kernel
theorem dX4_numberHere_33 : decode cX4_numberHere 33 = .ok (.goto (-26), 3) := by decide +kernel
theorem dX4_numberHere_36 : decode cX4_numberHere 36 = .ok (.iload_n 1, 1) := by decide +kernel
theorem dX4_numberHere_37 : decode cX4_numberHere 37 = .ok (.ireturn, 1) := by decide +kernel
theorem dX4_takeNumber_0 : decode cX4_takeNumber 0 = .ok (.aload_n 0, 1) := by decide +kernel
theorem dX4_takeNumber_1 : decode cX4_takeNumber 1 = .ok (.invokevirtual 146, 3) := by decide +kernel
theorem dX4_takeNumber_4 : decode cX4_takeNumber 4 = .ok (.istore_n 1, 1) := by decide +kernel
theorem dX4_takeNumber_5 : decode cX4_takeNumber 5 = .ok (.aload_n 0, 1) := by decide +kernel
theorem dX4_takeNumber_6 : decode cX4_takeNumber 6 = .ok (.invokevirtual 25, 3) := by decide +kernel
theorem dX4_takeNumber_9 : decode cX4_takeNumber 9 = .ok (.iload_n 1, 1) := by decide +kernel
theorem dX4_takeNumber_10 : decode cX4_takeNumber 10 = .ok (.ireturn, 1) := by decide +kernel
theorem dX4_passSemicolon_0 : decode cX4_passSemicolon 0 = .ok (.aload_n 0, 1) := by decide +kernel
theorem dX4_passSemicolon_1 : decode cX4_passSemicolon 1 = .ok (.getfield 15, 3) := by decide +kernel
theorem dX4_passSemicolon_4 : decode cX4_passSemicolon 4 = .ok (.iconst 3, 1) := by decide +kernel
theorem dX4_passSemicolon_5 : decode cX4_passSemicolon 5 = .ok (.if_icmp .ne 17, 3) := by decide +kernel
theorem dX4_passSemicolon_8 : decode cX4_passSemicolon 8 = .ok (.aload_n 0, 1) := by decide +kernel
theorem dX4_passSemicolon_9 : decode cX4_passSemicolon 9 = .ok (.getfield 9, 3) := by decide +kernel
theorem dX4_passSemicolon_12 : decode cX4_passSemicolon 12 = .ok (.aload_n 0, 1) := by decide +kernel
theorem dX4_passSemicolon_13 : decode cX4_passSemicolon 13 = .ok (.getfield 32, 3) := by decide +kernel
theorem dX4_passSemicolon_16 : decode cX4_passSemicolon 16 = .ok (.baload, 1) := by decide +kernel
theorem dX4_passSemicolon_17 : decode cX4_passSemicolon 17 = .ok (.bipush 59, 2) := by decide +kernel
theorem dX4_passSemicolon_19 : decode cX4_passSemicolon 19 = .ok (.if_icmp .eq 5, 3) := by decide +kernel
theorem dX4_passSemicolon_22 : decode cX4_passSemicolon 22 = .ok (.iconst 0, 1) := by decide +kernel
theorem dX4_passSemicolon_23 : decode cX4_passSemicolon 23 = .ok (.ireturn, 1) := by decide +kernel
theorem dX4_passSemicolon_24 : decode cX4_passSemicolon 24 = .ok (.aload_n 0, 1) := by decide +kernel
theorem dX4_passSemicolon_25 : decode cX4_passSemicolon 25 = .ok (.invokevirtual 25, 3) := by decide +kernel
theorem dX4_passSemicolon_28 : decode cX4_passSemicolon 28 = .ok (.iconst 1, 1) := by decide +kernel
theorem dX4_passSemicolon_29 : decode cX4_passSemicolon 29 = .ok (.ireturn, 1) := by decide +kernel
