theorem d_Mo_draft_42 : decode b_Mo_draft 42 = .ok (.iconst 1, 1) := by decide +kernel
theorem d_Mo_draft_43 : decode b_Mo_draft 43 = .ok (.iadd, 1) := by decide +kernel
theorem d_Mo_draft_44 : decode b_Mo_draft 44 = .ok (.istore 6, 2) := by decide +kernel
theorem d_Mo_draft_46 : decode b_Mo_draft 46 = .ok (.iconst 1, 1) := by decide +kernel
theorem d_Mo_draft_47 : decode b_Mo_draft 47 = .ok (.istore 7, 2) := by decide +kernel
theorem d_Mo_draft_49 : decode b_Mo_draft 49 = .ok (.bipush 94, 2) := by decide +kernel
theorem d_Mo_draft_51 : decode b_Mo_draft 51 = .ok (.istore 8, 2) := by decide +kernel
theorem d_Mo_draft_53 : decode b_Mo_draft 53 = .ok (.iconst 0, 1) := by decide +kernel
theorem d_Mo_draft_54 : decode b_Mo_draft 54 = .ok (.istore 9, 2) := by decide +kernel
theorem d_Mo_draft_56 : decode b_Mo_draft 56 = .ok (.ldc_w 375, 3) := by decide +kernel
theorem d_Mo_draft_59 : decode b_Mo_draft 59 = .ok (.istore 10, 2) := by decide +kernel
theorem d_Mo_draft_61 : decode b_Mo_draft 61 = .ok (.iconst 0, 1) := by decide +kernel
theorem d_Mo_draft_62 : decode b_Mo_draft 62 = .ok (.istore 11, 2) := by decide +kernel
theorem d_Mo_draft_64 : decode b_Mo_draft 64 = .ok (.iload 11, 2) := by decide +kernel
theorem d_Mo_draft_66 : decode b_Mo_draft 66 = .ok (.aload_n 0, 1) := by decide +kernel
theorem d_Mo_draft_67 : decode b_Mo_draft 67 = .ok (.getfield 346, 3) := by decide +kernel
theorem d_Mo_draft_70 : decode b_Mo_draft 70 = .ok (.if_icmp .ge 137, 3) := by decide +kernel
theorem d_Mo_draft_207 : decode b_Mo_draft 207 = .ok (.iconst 0, 1) := by decide +kernel
theorem d_Mo_draft_208 : decode b_Mo_draft 208 = .ok (.istore 11, 2) := by decide +kernel
theorem d_Mo_draft_210 : decode b_Mo_draft 210 = .ok (.iload 11, 2) := by decide +kernel
theorem d_Mo_draft_212 : decode b_Mo_draft 212 = .ok (.bipush 32, 2) := by decide +kernel
theorem d_Mo_draft_214 : decode b_Mo_draft 214 = .ok (.if_icmp .ge 33, 3) := by decide +kernel
theorem d_Mo_draft_217 : decode b_Mo_draft 217 = .ok (.aload_n 0, 1) := by decide +kernel
theorem d_Mo_draft_218 : decode b_Mo_draft 218 = .ok (.getfield 10, 3) := by decide +kernel
theorem d_Mo_draft_221 : decode b_Mo_draft 221 = .ok (.ldc_w 376, 3) := by decide +kernel
theorem d_Mo_draft_224 : decode b_Mo_draft 224 = .ok (.iload 11, 2) := by decide +kernel
theorem d_Mo_draft_226 : decode b_Mo_draft 226 = .ok (.iadd, 1) := by decide +kernel
theorem d_Mo_draft_227 : decode b_Mo_draft 227 = .ok (.aload_n 0, 1) := by decide +kernel
theorem d_Mo_draft_228 : decode b_Mo_draft 228 = .ok (.getfield 50, 3) := by decide +kernel
theorem d_Mo_draft_231 : decode b_Mo_draft 231 = .ok (.bipush 32, 2) := by decide +kernel
theorem d_Mo_draft_233 : decode b_Mo_draft 233 = .ok (.iload 5, 2) := by decide +kernel
theorem d_Mo_draft_235 : decode b_Mo_draft 235 = .ok (.imul, 1) := by decide +kernel
theorem d_Mo_draft_236 : decode b_Mo_draft 236 = .ok (.iload 11, 2) := by decide +kernel
theorem d_Mo_draft_238 : decode b_Mo_draft 238 = .ok (.iadd, 1) := by decide +kernel
theorem d_Mo_draft_239 : decode b_Mo_draft 239 = .ok (.baload, 1) := by decide +kernel
theorem d_Mo_draft_240 : decode b_Mo_draft 240 = .ok (.bastore, 1) := by decide +kernel
theorem d_Mo_draft_241 : decode b_Mo_draft 241 = .ok (.iinc 11 1, 3) := by decide +kernel
theorem d_Mo_draft_244 : decode b_Mo_draft 244 = .ok (.goto (-34), 3) := by decide +kernel
theorem d_Mo_draft_247 : decode b_Mo_draft 247 = .ok (.aload_n 0, 1) := by decide +kernel
theorem d_Mo_draft_248 : decode b_Mo_draft 248 = .ok (.ldc_w 377, 3) := by decide +kernel
theorem d_Mo_draft_251 : decode b_Mo_draft 251 = .ok (.iload_n 2, 1) := by decide +kernel
theorem d_Mo_draft_252 : decode b_Mo_draft 252 = .ok (.invokevirtual 371, 3) := by decide +kernel
theorem d_Mo_draft_255 : decode b_Mo_draft 255 = .ok (.aload_n 0, 1) := by decide +kernel
theorem d_Mo_draft_256 : decode b_Mo_draft 256 = .ok (.ldc_w 378, 3) := by decide +kernel
theorem d_Mo_draft_259 : decode b_Mo_draft 259 = .ok (.aload_n 0, 1) := by decide +kernel
theorem d_Mo_draft_260 : decode b_Mo_draft 260 = .ok (.iload 5, 2) := by decide +kernel
theorem d_Mo_draft_262 : decode b_Mo_draft 262 = .ok (.invokevirtual 200, 3) := by decide +kernel
theorem d_Mo_draft_265 : decode b_Mo_draft 265 = .ok (.invokevirtual 371, 3) := by decide +kernel
theorem d_Mo_draft_268 : decode b_Mo_draft 268 = .ok (.aload_n 0, 1) := by decide +kernel
theorem d_Mo_draft_269 : decode b_Mo_draft 269 = .ok (.ldc_w 379, 3) := by decide +kernel
theorem d_Mo_draft_272 : decode b_Mo_draft 272 = .ok (.iconst 0, 1) := by decide +kernel
theorem d_Mo_draft_273 : decode b_Mo_draft 273 = .ok (.invokevirtual 371, 3) := by decide +kernel
theorem d_Mo_draft_276 : decode b_Mo_draft 276 = .ok (.aload_n 0, 1) := by decide +kernel
theorem d_Mo_draft_277 : decode b_Mo_draft 277 = .ok (.getfield 10, 3) := by decide +kernel
theorem d_Mo_draft_280 : decode b_Mo_draft 280 = .ok (.ldc_w 380, 3) := by decide +kernel
theorem d_Mo_draft_283 : decode b_Mo_draft 283 = .ok (.iload 7, 2) := by decide +kernel
theorem d_Mo_draft_285 : decode b_Mo_draft 285 = .ok (.i2b, 1) := by decide +kernel
theorem d_Mo_draft_286 : decode b_Mo_draft 286 = .ok (.bastore, 1) := by decide +kernel
theorem d_Mo_draft_287 : decode b_Mo_draft 287 = .ok (.aload_n 0, 1) := by decide +kernel
theorem d_Mo_draft_288 : decode b_Mo_draft 288 = .ok (.ldc_w 381, 3) := by decide +kernel
theorem d_Mo_draft_291 : decode b_Mo_draft 291 = .ok (.iload 6, 2) := by decide +kernel
theorem d_Mo_draft_293 : decode b_Mo_draft 293 = .ok (.invokevirtual 371, 3) := by decide +kernel
theorem d_Mo_draft_296 : decode b_Mo_draft 296 = .ok (.aload_n 0, 1) := by decide +kernel
theorem d_Mo_draft_297 : decode b_Mo_draft 297 = .ok (.getfield 10, 3) := by decide +kernel
theorem d_Mo_draft_300 : decode b_Mo_draft 300 = .ok (.ldc_w 382, 3) := by decide +kernel
theorem d_Mo_draft_303 : decode b_Mo_draft 303 = .ok (.iconst 0, 1) := by decide +kernel
theorem d_Mo_draft_304 : decode b_Mo_draft 304 = .ok (.bastore, 1) := by decide +kernel
theorem d_Mo_draft_305 : decode b_Mo_draft 305 = .ok (.aload_n 0, 1) := by decide +kernel
theorem d_Mo_draft_306 : decode b_Mo_draft 306 = .ok (.getfield 10, 3) := by decide +kernel
theorem d_Mo_draft_309 : decode b_Mo_draft 309 = .ok (.ldc_w 383, 3) := by decide +kernel
theorem d_Mo_draft_312 : decode b_Mo_draft 312 = .ok (.iconst 1, 1) := by decide +kernel
theorem d_Mo_draft_313 : decode b_Mo_draft 313 = .ok (.bastore, 1) := by decide +kernel
theorem d_Mo_draft_314 : decode b_Mo_draft 314 = .ok (.aload_n 0, 1) := by decide +kernel
theorem d_Mo_draft_315 : decode b_Mo_draft 315 = .ok (.ldc_w 384, 3) := by decide +kernel
theorem d_Mo_draft_318 : decode b_Mo_draft 318 = .ok (.iload 6, 2) := by decide +kernel
theorem d_Mo_draft_320 : decode b_Mo_draft 320 = .ok (.invokestatic 285, 3) := by decide +kernel
theorem d_Mo_draft_323 : decode b_Mo_draft 323 = .ok (.iload 9, 2) := by decide +kernel
theorem d_Mo_draft_325 : decode b_Mo_draft 325 = .ok (.iadd, 1) := by decide +kernel
theorem d_Mo_draft_326 : decode b_Mo_draft 326 = .ok (.invokevirtual 371, 3) := by decide +kernel
theorem d_Mo_draft_329 : decode b_Mo_draft 329 = .ok (.aload_n 0, 1) := by decide +kernel
theorem d_Mo_draft_330 : decode b_Mo_draft 330 = .ok (.ldc_w 385, 3) := by decide +kernel
theorem d_Mo_draft_333 : decode b_Mo_draft 333 = .ok (.iload_n 3, 1) := by decide +kernel
theorem d_Mo_draft_334 : decode b_Mo_draft 334 = .ok (.invokevirtual 386, 3) := by decide +kernel
theorem d_Mo_draft_337 : decode b_Mo_draft 337 = .ok (.pop, 1) := by decide +kernel
theorem d_Mo_draft_338 : decode b_Mo_draft 338 = .ok (.ldc_w 381, 3) := by decide +kernel
theorem d_Mo_draft_341 : decode b_Mo_draft 341 = .ok (.istore 11, 2) := by decide +kernel
theorem d_Mo_draft_343 : decode b_Mo_draft 343 = .ok (.iconst 0, 1) := by decide +kernel
theorem d_Mo_draft_344 : decode b_Mo_draft 344 = .ok (.istore 12, 2) := by decide +kernel
theorem d_Mo_draft_346 : decode b_Mo_draft 346 = .ok (.iload 12, 2) := by decide +kernel
theorem d_Mo_draft_348 : decode b_Mo_draft 348 = .ok (.iload 7, 2) := by decide +kernel
theorem d_Mo_draft_350 : decode b_Mo_draft 350 = .ok (.if_icmp .ge 62, 3) := by decide +kernel
theorem d_Mo_draft_353 : decode b_Mo_draft 353 = .ok (.iload 12, 2) := by decide +kernel
theorem d_Mo_draft_355 : decode b_Mo_draft 355 = .ok (.ifCond .ne 9, 3) := by decide +kernel
theorem d_Mo_draft_358 : decode b_Mo_draft 358 = .ok (.ldc_w 375, 3) := by decide +kernel
theorem d_Mo_draft_361 : decode b_Mo_draft 361 = .ok (.goto 15, 3) := by decide +kernel
theorem d_Mo_draft_376 : decode b_Mo_draft 376 = .ok (.istore 13, 2) := by decide +kernel
theorem d_Mo_draft_378 : decode b_Mo_draft 378 = .ok (.aload_n 0, 1) := by decide +kernel
theorem d_Mo_draft_379 : decode b_Mo_draft 379 = .ok (.aload_n 0, 1) := by decide +kernel
theorem d_Mo_draft_380 : decode b_Mo_draft 380 = .ok (.getfield 10, 3) := by decide +kernel
theorem d_Mo_draft_383 : decode b_Mo_draft 383 = .ok (.iload 11, 2) := by decide +kernel
theorem d_Mo_draft_385 : decode b_Mo_draft 385 = .ok (.iload 13, 2) := by decide +kernel
theorem d_Mo_draft_387 : decode b_Mo_draft 387 = .ok (.iload 11, 2) := by decide +kernel
theorem d_Mo_draft_389 : decode b_Mo_draft 389 = .ok (.isub, 1) := by decide +kernel
theorem d_Mo_draft_390 : decode b_Mo_draft 390 = .ok (.aload_n 0, 1) := by decide +kernel
theorem d_Mo_draft_391 : decode b_Mo_draft 391 = .ok (.getfield 115, 3) := by decide +kernel
theorem d_Mo_draft_394 : decode b_Mo_draft 394 = .ok (.bipush 32, 2) := by decide +kernel
theorem d_Mo_draft_396 : decode b_Mo_draft 396 = .ok (.iload 12, 2) := by decide +kernel
theorem d_Mo_draft_398 : decode b_Mo_draft 398 = .ok (.imul, 1) := by decide +kernel
theorem d_Mo_draft_399 : decode b_Mo_draft 399 = .ok (.invokevirtual 183, 3) := by decide +kernel
theorem d_Mo_draft_402 : decode b_Mo_draft 402 = .ok (.iload 13, 2) := by decide +kernel
theorem d_Mo_draft_404 : decode b_Mo_draft 404 = .ok (.istore 11, 2) := by decide +kernel
theorem d_Mo_draft_406 : decode b_Mo_draft 406 = .ok (.iinc 12 1, 3) := by decide +kernel
theorem d_Mo_draft_409 : decode b_Mo_draft 409 = .ok (.goto (-63), 3) := by decide +kernel
theorem d_Mo_draft_412 : decode b_Mo_draft 412 = .ok (.aload_n 0, 1) := by decide +kernel
theorem d_Mo_draft_413 : decode b_Mo_draft 413 = .ok (.iload 7, 2) := by decide +kernel
theorem d_Mo_draft_415 : decode b_Mo_draft 415 = .ok (.invokevirtual 190, 3) := by decide +kernel
theorem d_Mo_draft_418 : decode b_Mo_draft 418 = .ok (.iconst 0, 1) := by decide +kernel
theorem d_Mo_draft_419 : decode b_Mo_draft 419 = .ok (.istore 12, 2) := by decide +kernel
theorem d_Mo_draft_421 : decode b_Mo_draft 421 = .ok (.iload 12, 2) := by decide +kernel
theorem d_Mo_draft_423 : decode b_Mo_draft 423 = .ok (.bipush 32, 2) := by decide +kernel
theorem d_Mo_draft_425 : decode b_Mo_draft 425 = .ok (.if_icmp .ge 27, 3) := by decide +kernel
theorem d_Mo_draft_428 : decode b_Mo_draft 428 = .ok (.aload_n 0, 1) := by decide +kernel
theorem d_Mo_draft_429 : decode b_Mo_draft 429 = .ok (.getfield 10, 3) := by decide +kernel
theorem d_Mo_draft_432 : decode b_Mo_draft 432 = .ok (.ldc_w 389, 3) := by decide +kernel
theorem d_Mo_draft_435 : decode b_Mo_draft 435 = .ok (.iload 12, 2) := by decide +kernel
theorem d_Mo_draft_437 : decode b_Mo_draft 437 = .ok (.iadd, 1) := by decide +kernel
theorem d_Mo_draft_438 : decode b_Mo_draft 438 = .ok (.aload_n 0, 1) := by decide +kernel
theorem d_Mo_draft_439 : decode b_Mo_draft 439 = .ok (.getfield 115, 3) := by decide +kernel
theorem d_Mo_draft_442 : decode b_Mo_draft 442 = .ok (.iload 12, 2) := by decide +kernel
theorem d_Mo_draft_444 : decode b_Mo_draft 444 = .ok (.baload, 1) := by decide +kernel
theorem d_Mo_draft_445 : decode b_Mo_draft 445 = .ok (.bastore, 1) := by decide +kernel
theorem d_Mo_draft_446 : decode b_Mo_draft 446 = .ok (.iinc 12 1, 3) := by decide +kernel
theorem d_Mo_draft_449 : decode b_Mo_draft 449 = .ok (.goto (-28), 3) := by decide +kernel
theorem d_Mo_draft_452 : decode b_Mo_draft 452 = .ok (.aload_n 0, 1) := by decide +kernel
theorem d_Mo_draft_453 : decode b_Mo_draft 453 = .ok (.iload 8, 2) := by decide +kernel
theorem d_Mo_draft_455 : decode b_Mo_draft 455 = .ok (.putfield 390, 3) := by decide +kernel
theorem d_Mo_draft_458 : decode b_Mo_draft 458 = .ok (.aload_n 0, 1) := by decide +kernel
theorem d_Mo_draft_459 : decode b_Mo_draft 459 = .ok (.iconst 1, 1) := by decide +kernel
theorem d_Mo_draft_460 : decode b_Mo_draft 460 = .ok (.putfield 393, 3) := by decide +kernel
theorem d_Mo_draft_463 : decode b_Mo_draft 463 = .ok (.iload 8, 2) := by decide +kernel
theorem d_Mo_draft_465 : decode b_Mo_draft 465 = .ok (.ireturn, 1) := by decide +kernel
theorem d_Mo_due_0 : decode b_Mo_due 0 = .ok (.aload_n 0, 1) := by decide +kernel
theorem d_Mo_due_1 : decode b_Mo_due 1 = .ok (.getfield 24, 3) := by decide +kernel
theorem d_Mo_due_4 : decode b_Mo_due 4 = .ok (.iload_n 1, 1) := by decide +kernel
theorem d_Mo_due_5 : decode b_Mo_due 5 = .ok (.iaload, 1) := by decide +kernel
theorem d_Mo_due_6 : decode b_Mo_due 6 = .ok (.iconst 1, 1) := by decide +kernel
theorem d_Mo_due_7 : decode b_Mo_due 7 = .ok (.iadd, 1) := by decide +kernel
theorem d_Mo_due_8 : decode b_Mo_due 8 = .ok (.istore_n 2, 1) := by decide +kernel
theorem d_Mo_due_9 : decode b_Mo_due 9 = .ok (.iload_n 2, 1) := by decide +kernel
theorem d_Mo_due_10 : decode b_Mo_due 10 = .ok (.bipush 8, 2) := by decide +kernel
theorem d_Mo_due_12 : decode b_Mo_due 12 = .ok (.irem, 1) := by decide +kernel
theorem d_Mo_due_13 : decode b_Mo_due 13 = .ok (.ifCond .eq 10, 3) := by decide +kernel
theorem d_Mo_due_16 : decode b_Mo_due 16 = .ok (.aload_n 0, 1) := by decide +kernel
theorem d_Mo_due_17 : decode b_Mo_due 17 = .ok (.getfield 30, 3) := by decide +kernel
theorem d_Mo_due_20 : decode b_Mo_due 20 = .ok (.iload_n 1, 1) := by decide +kernel
theorem d_Mo_due_21 : decode b_Mo_due 21 = .ok (.iaload, 1) := by decide +kernel
theorem d_Mo_due_22 : decode b_Mo_due 22 = .ok (.ireturn, 1) := by decide +kernel
theorem d_Mo_end_0 : decode b_Mo_end 0 = .ok (.iload_n 1, 1) := by decide +kernel
theorem d_Mo_end_1 : decode b_Mo_end 1 = .ok (.ifCond .lt 11, 3) := by decide +kernel
theorem d_Mo_end_4 : decode b_Mo_end 4 = .ok (.iload_n 1, 1) := by decide +kernel
theorem d_Mo_end_5 : decode b_Mo_end 5 = .ok (.aload_n 0, 1) := by decide +kernel
theorem d_Mo_end_6 : decode b_Mo_end 6 = .ok (.getfield 363, 3) := by decide +kernel
theorem d_Mo_end_9 : decode b_Mo_end 9 = .ok (.if_icmp .le 5, 3) := by decide +kernel
theorem d_Mo_end_12 : decode b_Mo_end 12 = .ok (.iconst (-1), 1) := by decide +kernel
theorem d_Mo_end_13 : decode b_Mo_end 13 = .ok (.ireturn, 1) := by decide +kernel
theorem d_Mo_end_14 : decode b_Mo_end 14 = .ok (.aload_n 0, 1) := by decide +kernel
theorem d_Mo_end_15 : decode b_Mo_end 15 = .ok (.iload_n 1, 1) := by decide +kernel
theorem d_Mo_end_16 : decode b_Mo_end 16 = .ok (.putfield 363, 3) := by decide +kernel
theorem d_Mo_end_19 : decode b_Mo_end 19 = .ok (.iload_n 1, 1) := by decide +kernel
theorem d_Mo_end_20 : decode b_Mo_end 20 = .ok (.ireturn, 1) := by decide +kernel
theorem d_Mo_feed_0 : decode b_Mo_feed 0 = .ok (.aload_n 0, 1) := by decide +kernel
theorem d_Mo_feed_1 : decode b_Mo_feed 1 = .ok (.getfield 363, 3) := by decide +kernel
theorem d_Mo_feed_4 : decode b_Mo_feed 4 = .ok (.bipush 20, 2) := by decide +kernel
theorem d_Mo_feed_6 : decode b_Mo_feed 6 = .ok (.iadd, 1) := by decide +kernel
theorem d_Mo_feed_7 : decode b_Mo_feed 7 = .ok (.sipush 4096, 3) := by decide +kernel
theorem d_Mo_feed_10 : decode b_Mo_feed 10 = .ok (.if_icmp .le 6, 3) := by decide +kernel
theorem d_Mo_feed_16 : decode b_Mo_feed 16 = .ok (.aload_n 0, 1) := by decide +kernel
theorem d_Mo_feed_17 : decode b_Mo_feed 17 = .ok (.iload_n 1, 1) := by decide +kernel
theorem d_Mo_feed_18 : decode b_Mo_feed 18 = .ok (.invokevirtual 366, 3) := by decide +kernel
theorem d_Mo_feed_21 : decode b_Mo_feed 21 = .ok (.aload_n 0, 1) := by decide +kernel
theorem d_Mo_feed_22 : decode b_Mo_feed 22 = .ok (.iload_n 2, 1) := by decide +kernel
theorem d_Mo_feed_23 : decode b_Mo_feed 23 = .ok (.invokevirtual 366, 3) := by decide +kernel
theorem d_Mo_feed_26 : decode b_Mo_feed 26 = .ok (.aload_n 0, 1) := by decide +kernel
theorem d_Mo_feed_27 : decode b_Mo_feed 27 = .ok (.iload_n 3, 1) := by decide +kernel
theorem d_Mo_feed_28 : decode b_Mo_feed 28 = .ok (.invokevirtual 366, 3) := by decide +kernel
theorem d_Mo_feed_31 : decode b_Mo_feed 31 = .ok (.aload_n 0, 1) := by decide +kernel
theorem d_Mo_feed_32 : decode b_Mo_feed 32 = .ok (.iload 4, 2) := by decide +kernel
theorem d_Mo_feed_34 : decode b_Mo_feed 34 = .ok (.invokevirtual 366, 3) := by decide +kernel
theorem d_Mo_feed_37 : decode b_Mo_feed 37 = .ok (.aload_n 0, 1) := by decide +kernel
theorem d_Mo_feed_38 : decode b_Mo_feed 38 = .ok (.iload 5, 2) := by decide +kernel
theorem d_Mo_feed_40 : decode b_Mo_feed 40 = .ok (.invokevirtual 366, 3) := by decide +kernel
theorem d_Mo_feed_43 : decode b_Mo_feed 43 = .ok (.aload_n 0, 1) := by decide +kernel
theorem d_Mo_feed_44 : decode b_Mo_feed 44 = .ok (.getfield 363, 3) := by decide +kernel
theorem d_Mo_feed_47 : decode b_Mo_feed 47 = .ok (.ireturn, 1) := by decide +kernel
theorem d_Mo_hash_0 : decode b_Mo_hash 0 = .ok (.aload_n 0, 1) := by decide +kernel
theorem d_Mo_hash_1 : decode b_Mo_hash 1 = .ok (.aload_n 1, 1) := by decide +kernel
theorem d_Mo_hash_2 : decode b_Mo_hash 2 = .ok (.iload_n 2, 1) := by decide +kernel
theorem d_Mo_hash_3 : decode b_Mo_hash 3 = .ok (.iload_n 3, 1) := by decide +kernel
theorem d_Mo_hash_4 : decode b_Mo_hash 4 = .ok (.aload_n 0, 1) := by decide +kernel
theorem d_Mo_hash_5 : decode b_Mo_hash 5 = .ok (.getfield 103, 3) := by decide +kernel
theorem d_Mo_hash_8 : decode b_Mo_hash 8 = .ok (.iconst 0, 1) := by decide +kernel
theorem d_Mo_hash_9 : decode b_Mo_hash 9 = .ok (.invokevirtual 161, 3) := by decide +kernel
theorem d_Mo_hash_12 : decode b_Mo_hash 12 = .ok (.aload_n 0, 1) := by decide +kernel
theorem d_Mo_hash_13 : decode b_Mo_hash 13 = .ok (.aload_n 0, 1) := by decide +kernel
theorem d_Mo_hash_14 : decode b_Mo_hash 14 = .ok (.getfield 103, 3) := by decide +kernel
theorem d_Mo_hash_17 : decode b_Mo_hash 17 = .ok (.iconst 0, 1) := by decide +kernel
theorem d_Mo_hash_18 : decode b_Mo_hash 18 = .ok (.bipush 32, 2) := by decide +kernel
theorem d_Mo_hash_20 : decode b_Mo_hash 20 = .ok (.aload 4, 2) := by decide +kernel
theorem d_Mo_hash_22 : decode b_Mo_hash 22 = .ok (.iload 5, 2) := by decide +kernel
theorem d_Mo_hash_24 : decode b_Mo_hash 24 = .ok (.invokevirtual 161, 3) := by decide +kernel
theorem d_Mo_hash_27 : decode b_Mo_hash 27 = .ok (.return_, 1) := by decide +kernel
theorem d_Mo_inChain_0 : decode b_Mo_inChain 0 = .ok (.aload_n 0, 1) := by decide +kernel
theorem d_Mo_inChain_1 : decode b_Mo_inChain 1 = .ok (.iload_n 2, 1) := by decide +kernel
theorem d_Mo_inChain_2 : decode b_Mo_inChain 2 = .ok (.aload_n 0, 1) := by decide +kernel
theorem d_Mo_inChain_3 : decode b_Mo_inChain 3 = .ok (.getfield 24, 3) := by decide +kernel
theorem d_Mo_inChain_6 : decode b_Mo_inChain 6 = .ok (.iload_n 1, 1) := by decide +kernel
theorem d_Mo_inChain_7 : decode b_Mo_inChain 7 = .ok (.iaload, 1) := by decide +kernel
theorem d_Mo_inChain_8 : decode b_Mo_inChain 8 = .ok (.invokevirtual 194, 3) := by decide +kernel
theorem d_Mo_inChain_11 : decode b_Mo_inChain 11 = .ok (.iload_n 1, 1) := by decide +kernel
theorem d_Mo_inChain_12 : decode b_Mo_inChain 12 = .ok (.if_icmp .ne 7, 3) := by decide +kernel
theorem d_Mo_inChain_15 : decode b_Mo_inChain 15 = .ok (.iconst 1, 1) := by decide +kernel
theorem d_Mo_inChain_16 : decode b_Mo_inChain 16 = .ok (.goto 4, 3) := by decide +kernel
theorem d_Mo_inChain_20 : decode b_Mo_inChain 20 = .ok (.ireturn, 1) := by decide +kernel
theorem d_Mo_init_0 : decode b_Mo_init 0 = .ok (.aload_n 0, 1) := by decide +kernel
theorem d_Mo_init_1 : decode b_Mo_init 1 = .ok (.invokespecial 3, 3) := by decide +kernel
theorem d_Mo_init_4 : decode b_Mo_init 4 = .ok (.aload_n 0, 1) := by decide +kernel
theorem d_Mo_init_5 : decode b_Mo_init 5 = .ok (.ldc 9, 2) := by decide +kernel
theorem d_Mo_init_7 : decode b_Mo_init 7 = .ok (.newarray .byte, 2) := by decide +kernel
theorem d_Mo_init_9 : decode b_Mo_init 9 = .ok (.putfield 10, 3) := by decide +kernel
theorem d_Mo_init_12 : decode b_Mo_init 12 = .ok (.aload_n 0, 1) := by decide +kernel
theorem d_Mo_init_13 : decode b_Mo_init 13 = .ok (.sipush 256, 3) := by decide +kernel
theorem d_Mo_init_16 : decode b_Mo_init 16 = .ok (.newarray .int, 2) := by decide +kernel
theorem d_Mo_init_18 : decode b_Mo_init 18 = .ok (.putfield 14, 3) := by decide +kernel
theorem d_Mo_init_21 : decode b_Mo_init 21 = .ok (.aload_n 0, 1) := by decide +kernel
theorem d_Mo_init_22 : decode b_Mo_init 22 = .ok (.sipush 256, 3) := by decide +kernel
theorem d_Mo_init_25 : decode b_Mo_init 25 = .ok (.newarray .int, 2) := by decide +kernel
theorem d_Mo_init_27 : decode b_Mo_init 27 = .ok (.putfield 18, 3) := by decide +kernel
theorem d_Mo_init_30 : decode b_Mo_init 30 = .ok (.aload_n 0, 1) := by decide +kernel
theorem d_Mo_init_31 : decode b_Mo_init 31 = .ok (.sipush 256, 3) := by decide +kernel
theorem d_Mo_init_34 : decode b_Mo_init 34 = .ok (.newarray .int, 2) := by decide +kernel
theorem d_Mo_init_36 : decode b_Mo_init 36 = .ok (.putfield 21, 3) := by decide +kernel
theorem d_Mo_init_39 : decode b_Mo_init 39 = .ok (.aload_n 0, 1) := by decide +kernel
theorem d_Mo_init_40 : decode b_Mo_init 40 = .ok (.sipush 256, 3) := by decide +kernel
theorem d_Mo_init_43 : decode b_Mo_init 43 = .ok (.newarray .int, 2) := by decide +kernel
theorem d_Mo_init_45 : decode b_Mo_init 45 = .ok (.putfield 24, 3) := by decide +kernel
theorem d_Mo_init_48 : decode b_Mo_init 48 = .ok (.aload_n 0, 1) := by decide +kernel
theorem d_Mo_init_49 : decode b_Mo_init 49 = .ok (.sipush 256, 3) := by decide +kernel
theorem d_Mo_init_52 : decode b_Mo_init 52 = .ok (.newarray .int, 2) := by decide +kernel
theorem d_Mo_init_54 : decode b_Mo_init 54 = .ok (.putfield 27, 3) := by decide +kernel
theorem d_Mo_init_57 : decode b_Mo_init 57 = .ok (.aload_n 0, 1) := by decide +kernel
theorem d_Mo_init_58 : decode b_Mo_init 58 = .ok (.sipush 256, 3) := by decide +kernel
theorem d_Mo_init_61 : decode b_Mo_init 61 = .ok (.newarray .int, 2) := by decide +kernel
theorem d_Mo_init_63 : decode b_Mo_init 63 = .ok (.putfield 30, 3) := by decide +kernel
theorem d_Mo_init_66 : decode b_Mo_init 66 = .ok (.aload_n 0, 1) := by decide +kernel
theorem d_Mo_init_67 : decode b_Mo_init 67 = .ok (.sipush 256, 3) := by decide +kernel
theorem d_Mo_init_70 : decode b_Mo_init 70 = .ok (.newarray .long, 2) := by decide +kernel
theorem d_Mo_init_72 : decode b_Mo_init 72 = .ok (.putfield 33, 3) := by decide +kernel
theorem d_Mo_init_75 : decode b_Mo_init 75 = .ok (.aload_n 0, 1) := by decide +kernel
theorem d_Mo_init_76 : decode b_Mo_init 76 = .ok (.sipush 256, 3) := by decide +kernel
theorem d_Mo_init_79 : decode b_Mo_init 79 = .ok (.newarray .int, 2) := by decide +kernel
theorem d_Mo_init_81 : decode b_Mo_init 81 = .ok (.putfield 37, 3) := by decide +kernel
theorem d_Mo_init_84 : decode b_Mo_init 84 = .ok (.aload_n 0, 1) := by decide +kernel
theorem d_Mo_init_85 : decode b_Mo_init 85 = .ok (.sipush 256, 3) := by decide +kernel
theorem d_Mo_init_88 : decode b_Mo_init 88 = .ok (.newarray .boolean, 2) := by decide +kernel
theorem d_Mo_init_90 : decode b_Mo_init 90 = .ok (.putfield 40, 3) := by decide +kernel
theorem d_Mo_init_93 : decode b_Mo_init 93 = .ok (.aload_n 0, 1) := by decide +kernel
theorem d_Mo_init_94 : decode b_Mo_init 94 = .ok (.sipush 256, 3) := by decide +kernel
theorem d_Mo_init_97 : decode b_Mo_init 97 = .ok (.newarray .int, 2) := by decide +kernel
theorem d_Mo_init_99 : decode b_Mo_init 99 = .ok (.putfield 44, 3) := by decide +kernel
theorem d_Mo_init_102 : decode b_Mo_init 102 = .ok (.aload_n 0, 1) := by decide +kernel
theorem d_Mo_init_103 : decode b_Mo_init 103 = .ok (.sipush 256, 3) := by decide +kernel
theorem d_Mo_init_106 : decode b_Mo_init 106 = .ok (.newarray .int, 2) := by decide +kernel
theorem d_Mo_init_108 : decode b_Mo_init 108 = .ok (.putfield 47, 3) := by decide +kernel
theorem d_Mo_init_111 : decode b_Mo_init 111 = .ok (.aload_n 0, 1) := by decide +kernel
theorem d_Mo_init_112 : decode b_Mo_init 112 = .ok (.sipush 8192, 3) := by decide +kernel
theorem d_Mo_init_115 : decode b_Mo_init 115 = .ok (.newarray .byte, 2) := by decide +kernel
theorem d_Mo_init_117 : decode b_Mo_init 117 = .ok (.putfield 50, 3) := by decide +kernel
theorem d_Mo_init_120 : decode b_Mo_init 120 = .ok (.aload_n 0, 1) := by decide +kernel
theorem d_Mo_init_121 : decode b_Mo_init 121 = .ok (.iconst 1, 1) := by decide +kernel
theorem d_Mo_init_122 : decode b_Mo_init 122 = .ok (.putfield 53, 3) := by decide +kernel
theorem d_Mo_init_125 : decode b_Mo_init 125 = .ok (.aload_n 0, 1) := by decide +kernel
theorem d_Mo_init_126 : decode b_Mo_init 126 = .ok (.bipush 16, 2) := by decide +kernel
theorem d_Mo_init_128 : decode b_Mo_init 128 = .ok (.newarray .int, 2) := by decide +kernel
theorem d_Mo_init_130 : decode b_Mo_init 130 = .ok (.putfield 57, 3) := by decide +kernel
theorem d_Mo_init_133 : decode b_Mo_init 133 = .ok (.aload_n 0, 1) := by decide +kernel
theorem d_Mo_init_134 : decode b_Mo_init 134 = .ok (.bipush 16, 2) := by decide +kernel
theorem d_Mo_init_136 : decode b_Mo_init 136 = .ok (.newarray .int, 2) := by decide +kernel
theorem d_Mo_init_138 : decode b_Mo_init 138 = .ok (.putfield 60, 3) := by decide +kernel
theorem d_Mo_init_141 : decode b_Mo_init 141 = .ok (.aload_n 0, 1) := by decide +kernel
theorem d_Mo_init_142 : decode b_Mo_init 142 = .ok (.sipush 512, 3) := by decide +kernel
theorem d_Mo_init_145 : decode b_Mo_init 145 = .ok (.newarray .byte, 2) := by decide +kernel
theorem d_Mo_init_147 : decode b_Mo_init 147 = .ok (.putfield 63, 3) := by decide +kernel
theorem d_Mo_init_150 : decode b_Mo_init 150 = .ok (.aload_n 0, 1) := by decide +kernel
theorem d_Mo_init_151 : decode b_Mo_init 151 = .ok (.ldc 66, 2) := by decide +kernel
theorem d_Mo_init_153 : decode b_Mo_init 153 = .ok (.newarray .byte, 2) := by decide +kernel
theorem d_Mo_init_155 : decode b_Mo_init 155 = .ok (.putfield 67, 3) := by decide +kernel
theorem d_Mo_init_158 : decode b_Mo_init 158 = .ok (.aload_n 0, 1) := by decide +kernel
theorem d_Mo_init_159 : decode b_Mo_init 159 = .ok (.bipush 32, 2) := by decide +kernel
theorem d_Mo_init_161 : decode b_Mo_init 161 = .ok (.newarray .int, 2) := by decide +kernel
theorem d_Mo_init_163 : decode b_Mo_init 163 = .ok (.putfield 70, 3) := by decide +kernel
theorem d_Mo_init_166 : decode b_Mo_init 166 = .ok (.aload_n 0, 1) := by decide +kernel
theorem d_Mo_init_167 : decode b_Mo_init 167 = .ok (.bipush 32, 2) := by decide +kernel
theorem d_Mo_init_169 : decode b_Mo_init 169 = .ok (.newarray .int, 2) := by decide +kernel
theorem d_Mo_init_171 : decode b_Mo_init 171 = .ok (.putfield 73, 3) := by decide +kernel
theorem d_Mo_init_174 : decode b_Mo_init 174 = .ok (.aload_n 0, 1) := by decide +kernel
theorem d_Mo_init_175 : decode b_Mo_init 175 = .ok (.bipush 8, 2) := by decide +kernel
theorem d_Mo_init_177 : decode b_Mo_init 177 = .ok (.newarray .int, 2) := by decide +kernel
theorem d_Mo_init_179 : decode b_Mo_init 179 = .ok (.putfield 76, 3) := by decide +kernel
theorem d_Mo_init_182 : decode b_Mo_init 182 = .ok (.aload_n 0, 1) := by decide +kernel
theorem d_Mo_init_183 : decode b_Mo_init 183 = .ok (.bipush 8, 2) := by decide +kernel
theorem d_Mo_init_185 : decode b_Mo_init 185 = .ok (.newarray .int, 2) := by decide +kernel
theorem d_Mo_init_187 : decode b_Mo_init 187 = .ok (.putfield 79, 3) := by decide +kernel
theorem d_Mo_init_190 : decode b_Mo_init 190 = .ok (.aload_n 0, 1) := by decide +kernel
theorem d_Mo_init_191 : decode b_Mo_init 191 = .ok (.bipush 8, 2) := by decide +kernel
theorem d_Mo_init_193 : decode b_Mo_init 193 = .ok (.newarray .int, 2) := by decide +kernel
theorem d_Mo_init_195 : decode b_Mo_init 195 = .ok (.putfield 82, 3) := by decide +kernel
theorem d_Mo_init_198 : decode b_Mo_init 198 = .ok (.aload_n 0, 1) := by decide +kernel
theorem d_Mo_init_199 : decode b_Mo_init 199 = .ok (.bipush 8, 2) := by decide +kernel
theorem d_Mo_init_201 : decode b_Mo_init 201 = .ok (.newarray .int, 2) := by decide +kernel
theorem d_Mo_init_203 : decode b_Mo_init 203 = .ok (.putfield 85, 3) := by decide +kernel
theorem d_Mo_init_206 : decode b_Mo_init 206 = .ok (.aload_n 0, 1) := by decide +kernel
theorem d_Mo_init_207 : decode b_Mo_init 207 = .ok (.bipush 8, 2) := by decide +kernel
theorem d_Mo_init_209 : decode b_Mo_init 209 = .ok (.newarray .int, 2) := by decide +kernel
theorem d_Mo_init_211 : decode b_Mo_init 211 = .ok (.putfield 88, 3) := by decide +kernel
theorem d_Mo_init_214 : decode b_Mo_init 214 = .ok (.aload_n 0, 1) := by decide +kernel
theorem d_Mo_init_215 : decode b_Mo_init 215 = .ok (.bipush 8, 2) := by decide +kernel
theorem d_Mo_init_217 : decode b_Mo_init 217 = .ok (.newarray .int, 2) := by decide +kernel
theorem d_Mo_init_219 : decode b_Mo_init 219 = .ok (.putfield 91, 3) := by decide +kernel
theorem d_Mo_init_222 : decode b_Mo_init 222 = .ok (.aload_n 0, 1) := by decide +kernel
theorem d_Mo_init_223 : decode b_Mo_init 223 = .ok (.bipush 8, 2) := by decide +kernel
theorem d_Mo_init_225 : decode b_Mo_init 225 = .ok (.newarray .int, 2) := by decide +kernel
theorem d_Mo_init_227 : decode b_Mo_init 227 = .ok (.putfield 94, 3) := by decide +kernel
theorem d_Mo_init_230 : decode b_Mo_init 230 = .ok (.aload_n 0, 1) := by decide +kernel
theorem d_Mo_init_231 : decode b_Mo_init 231 = .ok (.bipush 64, 2) := by decide +kernel
theorem d_Mo_init_233 : decode b_Mo_init 233 = .ok (.newarray .int, 2) := by decide +kernel
theorem d_Mo_init_235 : decode b_Mo_init 235 = .ok (.putfield 97, 3) := by decide +kernel
theorem d_Mo_init_238 : decode b_Mo_init 238 = .ok (.aload_n 0, 1) := by decide +kernel
theorem d_Mo_init_239 : decode b_Mo_init 239 = .ok (.bipush 8, 2) := by decide +kernel
theorem d_Mo_init_241 : decode b_Mo_init 241 = .ok (.newarray .int, 2) := by decide +kernel
theorem d_Mo_init_243 : decode b_Mo_init 243 = .ok (.putfield 100, 3) := by decide +kernel
theorem d_Mo_init_246 : decode b_Mo_init 246 = .ok (.aload_n 0, 1) := by decide +kernel
theorem d_Mo_init_247 : decode b_Mo_init 247 = .ok (.bipush 32, 2) := by decide +kernel
theorem d_Mo_init_249 : decode b_Mo_init 249 = .ok (.newarray .byte, 2) := by decide +kernel
theorem d_Mo_init_251 : decode b_Mo_init 251 = .ok (.putfield 103, 3) := by decide +kernel
theorem d_Mo_init_254 : decode b_Mo_init 254 = .ok (.aload_n 0, 1) := by decide +kernel
theorem d_Mo_init_255 : decode b_Mo_init 255 = .ok (.bipush 32, 2) := by decide +kernel
theorem d_Mo_init_257 : decode b_Mo_init 257 = .ok (.newarray .byte, 2) := by decide +kernel
theorem d_Mo_init_259 : decode b_Mo_init 259 = .ok (.putfield 106, 3) := by decide +kernel
theorem d_Mo_init_262 : decode b_Mo_init 262 = .ok (.aload_n 0, 1) := by decide +kernel
theorem d_Mo_init_263 : decode b_Mo_init 263 = .ok (.bipush 32, 2) := by decide +kernel
theorem d_Mo_init_265 : decode b_Mo_init 265 = .ok (.newarray .byte, 2) := by decide +kernel
theorem d_Mo_init_267 : decode b_Mo_init 267 = .ok (.putfield 109, 3) := by decide +kernel
theorem d_Mo_init_270 : decode b_Mo_init 270 = .ok (.aload_n 0, 1) := by decide +kernel
theorem d_Mo_init_271 : decode b_Mo_init 271 = .ok (.sipush 8192, 3) := by decide +kernel
theorem d_Mo_init_274 : decode b_Mo_init 274 = .ok (.newarray .byte, 2) := by decide +kernel
theorem d_Mo_init_276 : decode b_Mo_init 276 = .ok (.putfield 112, 3) := by decide +kernel
theorem d_Mo_init_279 : decode b_Mo_init 279 = .ok (.aload_n 0, 1) := by decide +kernel
theorem d_Mo_init_280 : decode b_Mo_init 280 = .ok (.sipush 1088, 3) := by decide +kernel
theorem d_Mo_init_283 : decode b_Mo_init 283 = .ok (.newarray .byte, 2) := by decide +kernel
theorem d_Mo_init_285 : decode b_Mo_init 285 = .ok (.putfield 115, 3) := by decide +kernel
theorem d_Mo_init_288 : decode b_Mo_init 288 = .ok (.aload_n 0, 1) := by decide +kernel
theorem d_Mo_init_289 : decode b_Mo_init 289 = .ok (.sipush 1920, 3) := by decide +kernel
theorem d_Mo_init_292 : decode b_Mo_init 292 = .ok (.newarray .byte, 2) := by decide +kernel
theorem d_Mo_init_294 : decode b_Mo_init 294 = .ok (.putfield 118, 3) := by decide +kernel
theorem d_Mo_init_297 : decode b_Mo_init 297 = .ok (.aload_n 0, 1) := by decide +kernel
theorem d_Mo_init_298 : decode b_Mo_init 298 = .ok (.bipush 24, 2) := by decide +kernel
theorem d_Mo_init_300 : decode b_Mo_init 300 = .ok (.newarray .int, 2) := by decide +kernel
theorem d_Mo_init_302 : decode b_Mo_init 302 = .ok (.putfield 121, 3) := by decide +kernel
theorem d_Mo_init_305 : decode b_Mo_init 305 = .ok (.aload_n 0, 1) := by decide +kernel
theorem d_Mo_init_306 : decode b_Mo_init 306 = .ok (.bipush 100, 2) := by decide +kernel
theorem d_Mo_init_308 : decode b_Mo_init 308 = .ok (.newarray .boolean, 2) := by decide +kernel
theorem d_Mo_init_310 : decode b_Mo_init 310 = .ok (.putfield 124, 3) := by decide +kernel
theorem d_Mo_init_313 : decode b_Mo_init 313 = .ok (.aload_n 0, 1) := by decide +kernel
theorem d_Mo_init_314 : decode b_Mo_init 314 = .ok (.new 127, 3) := by decide +kernel
theorem d_Mo_init_317 : decode b_Mo_init 317 = .ok (.dup, 1) := by decide +kernel
theorem d_Mo_init_318 : decode b_Mo_init 318 = .ok (.invokespecial 129, 3) := by decide +kernel
theorem d_Mo_init_321 : decode b_Mo_init 321 = .ok (.putfield 130, 3) := by decide +kernel
theorem d_Mo_init_324 : decode b_Mo_init 324 = .ok (.aload_n 0, 1) := by decide +kernel
theorem d_Mo_init_325 : decode b_Mo_init 325 = .ok (.new 127, 3) := by decide +kernel
theorem d_Mo_init_328 : decode b_Mo_init 328 = .ok (.dup, 1) := by decide +kernel
theorem d_Mo_init_329 : decode b_Mo_init 329 = .ok (.invokespecial 129, 3) := by decide +kernel
theorem d_Mo_init_332 : decode b_Mo_init 332 = .ok (.putfield 134, 3) := by decide +kernel
theorem d_Mo_init_335 : decode b_Mo_init 335 = .ok (.aload_n 0, 1) := by decide +kernel
theorem d_Mo_init_336 : decode b_Mo_init 336 = .ok (.new 127, 3) := by decide +kernel
theorem d_Mo_init_339 : decode b_Mo_init 339 = .ok (.dup, 1) := by decide +kernel
theorem d_Mo_init_340 : decode b_Mo_init 340 = .ok (.invokespecial 129, 3) := by decide +kernel
theorem d_Mo_init_343 : decode b_Mo_init 343 = .ok (.putfield 137, 3) := by decide +kernel
theorem d_Mo_init_346 : decode b_Mo_init 346 = .ok (.aload_n 0, 1) := by decide +kernel
theorem d_Mo_init_347 : decode b_Mo_init 347 = .ok (.sipush 256, 3) := by decide +kernel
theorem d_Mo_init_350 : decode b_Mo_init 350 = .ok (.newarray .int, 2) := by decide +kernel
theorem d_Mo_init_352 : decode b_Mo_init 352 = .ok (.putfield 140, 3) := by decide +kernel
theorem d_Mo_init_355 : decode b_Mo_init 355 = .ok (.aload_n 0, 1) := by decide +kernel
theorem d_Mo_init_356 : decode b_Mo_init 356 = .ok (.sipush 27000, 3) := by decide +kernel
theorem d_Mo_init_359 : decode b_Mo_init 359 = .ok (.newarray .int, 2) := by decide +kernel
theorem d_Mo_init_361 : decode b_Mo_init 361 = .ok (.putfield 143, 3) := by decide +kernel
theorem d_Mo_init_364 : decode b_Mo_init 364 = .ok (.aload_n 0, 1) := by decide +kernel
theorem d_Mo_init_365 : decode b_Mo_init 365 = .ok (.bipush 8, 2) := by decide +kernel
theorem d_Mo_init_367 : decode b_Mo_init 367 = .ok (.newarray .int, 2) := by decide +kernel
theorem d_Mo_init_369 : decode b_Mo_init 369 = .ok (.putfield 146, 3) := by decide +kernel
theorem d_Mo_init_372 : decode b_Mo_init 372 = .ok (.aload_n 0, 1) := by decide +kernel
theorem d_Mo_init_373 : decode b_Mo_init 373 = .ok (.getfield 30, 3) := by decide +kernel
theorem d_Mo_init_376 : decode b_Mo_init 376 = .ok (.iconst 0, 1) := by decide +kernel
theorem d_Mo_init_377 : decode b_Mo_init 377 = .ok (.ldc 149, 2) := by decide +kernel
theorem d_Mo_init_379 : decode b_Mo_init 379 = .ok (.iastore, 1) := by decide +kernel
theorem d_Mo_init_380 : decode b_Mo_init 380 = .ok (.aload_n 0, 1) := by decide +kernel
theorem d_Mo_init_381 : decode b_Mo_init 381 = .ok (.getfield 21, 3) := by decide +kernel
theorem d_Mo_init_384 : decode b_Mo_init 384 = .ok (.iconst 0, 1) := by decide +kernel
theorem d_Mo_init_385 : decode b_Mo_init 385 = .ok (.bipush (-2), 2) := by decide +kernel
theorem d_Mo_init_387 : decode b_Mo_init 387 = .ok (.iastore, 1) := by decide +kernel
theorem d_Mo_init_388 : decode b_Mo_init 388 = .ok (.aload_n 0, 1) := by decide +kernel
theorem d_Mo_init_389 : decode b_Mo_init 389 = .ok (.getfield 40, 3) := by decide +kernel
theorem d_Mo_init_392 : decode b_Mo_init 392 = .ok (.iconst 0, 1) := by decide +kernel
theorem d_Mo_init_393 : decode b_Mo_init 393 = .ok (.iconst 1, 1) := by decide +kernel
theorem d_Mo_init_394 : decode b_Mo_init 394 = .ok (.bastore, 1) := by decide +kernel
theorem d_Mo_init_395 : decode b_Mo_init 395 = .ok (.return_, 1) := by decide +kernel
theorem d_Mo_mine_0 : decode b_Mo_mine 0 = .ok (.iload_n 1, 1) := by decide +kernel
theorem d_Mo_mine_1 : decode b_Mo_mine 1 = .ok (.iconst 1, 1) := by decide +kernel
theorem d_Mo_mine_2 : decode b_Mo_mine 2 = .ok (.if_icmp .lt 18, 3) := by decide +kernel
theorem d_Mo_mine_5 : decode b_Mo_mine 5 = .ok (.iload_n 1, 1) := by decide +kernel
theorem d_Mo_mine_6 : decode b_Mo_mine 6 = .ok (.sipush 2000, 3) := by decide +kernel
theorem d_Mo_mine_9 : decode b_Mo_mine 9 = .ok (.if_icmp .gt 11, 3) := by decide +kernel
theorem d_Mo_mine_12 : decode b_Mo_mine 12 = .ok (.aload_n 0, 1) := by decide +kernel
theorem d_Mo_mine_13 : decode b_Mo_mine 13 = .ok (.getfield 393, 3) := by decide +kernel
theorem d_Mo_mine_16 : decode b_Mo_mine 16 = .ok (.iconst 1, 1) := by decide +kernel
theorem d_Mo_mine_17 : decode b_Mo_mine 17 = .ok (.if_icmp .eq 5, 3) := by decide +kernel
theorem d_Mo_mine_20 : decode b_Mo_mine 20 = .ok (.iconst (-1), 1) := by decide +kernel
theorem d_Mo_mine_21 : decode b_Mo_mine 21 = .ok (.ireturn, 1) := by decide +kernel
theorem d_Mo_octet_0 : decode b_Mo_octet 0 = .ok (.iload_n 1, 1) := by decide +kernel
theorem d_Mo_octet_1 : decode b_Mo_octet 1 = .ok (.iconst (-1), 1) := by decide +kernel
theorem d_Mo_octet_2 : decode b_Mo_octet 2 = .ok (.if_icmp .ne 8, 3) := by decide +kernel
theorem d_Mo_octet_5 : decode b_Mo_octet 5 = .ok (.aload_n 0, 1) := by decide +kernel
theorem d_Mo_octet_6 : decode b_Mo_octet 6 = .ok (.getfield 390, 3) := by decide +kernel
theorem d_Mo_octet_9 : decode b_Mo_octet 9 = .ok (.ireturn, 1) := by decide +kernel
theorem d_Mo_octet_10 : decode b_Mo_octet 10 = .ok (.iload_n 1, 1) := by decide +kernel
theorem d_Mo_octet_11 : decode b_Mo_octet 11 = .ok (.ifCond .lt 11, 3) := by decide +kernel
theorem d_Mo_octet_14 : decode b_Mo_octet 14 = .ok (.iload_n 1, 1) := by decide +kernel
theorem d_Mo_octet_15 : decode b_Mo_octet 15 = .ok (.aload_n 0, 1) := by decide +kernel
theorem d_Mo_octet_16 : decode b_Mo_octet 16 = .ok (.getfield 390, 3) := by decide +kernel
theorem d_Mo_octet_19 : decode b_Mo_octet 19 = .ok (.if_icmp .lt 8, 3) := by decide +kernel
theorem d_Mo_octet_22 : decode b_Mo_octet 22 = .ok (.bipush (-2), 2) := by decide +kernel
theorem d_Mo_octet_24 : decode b_Mo_octet 24 = .ok (.goto 17, 3) := by decide +kernel
theorem d_Mo_octet_41 : decode b_Mo_octet 41 = .ok (.ireturn, 1) := by decide +kernel
theorem d_Mo_pay_0 : decode b_Mo_pay 0 = .ok (.aload_n 0, 1) := by decide +kernel
theorem d_Mo_pay_1 : decode b_Mo_pay 1 = .ok (.getfield 363, 3) := by decide +kernel
theorem d_Mo_pay_4 : decode b_Mo_pay 4 = .ok (.istore_n 1, 1) := by decide +kernel
theorem d_Mo_pay_5 : decode b_Mo_pay 5 = .ok (.aload_n 0, 1) := by decide +kernel
theorem d_Mo_pay_6 : decode b_Mo_pay 6 = .ok (.iconst 0, 1) := by decide +kernel
theorem d_Mo_pay_7 : decode b_Mo_pay 7 = .ok (.putfield 363, 3) := by decide +kernel
theorem d_Mo_pay_10 : decode b_Mo_pay 10 = .ok (.aload_n 0, 1) := by decide +kernel
theorem d_Mo_pay_11 : decode b_Mo_pay 11 = .ok (.ldc_w 305, 3) := by decide +kernel
theorem d_Mo_pay_14 : decode b_Mo_pay 14 = .ok (.iload_n 1, 1) := by decide +kernel
theorem d_Mo_pay_15 : decode b_Mo_pay 15 = .ok (.invokevirtual 360, 3) := by decide +kernel
theorem d_Mo_pay_18 : decode b_Mo_pay 18 = .ok (.ireturn, 1) := by decide +kernel
theorem d_Mo_pooled_0 : decode b_Mo_pooled 0 = .ok (.iload_n 2, 1) := by decide +kernel
theorem d_Mo_pooled_1 : decode b_Mo_pooled 1 = .ok (.ifCond .lt 8, 3) := by decide +kernel
theorem d_Mo_pooled_4 : decode b_Mo_pooled 4 = .ok (.iload_n 2, 1) := by decide +kernel
theorem d_Mo_pooled_5 : decode b_Mo_pooled 5 = .ok (.iconst 3, 1) := by decide +kernel
theorem d_Mo_pooled_6 : decode b_Mo_pooled 6 = .ok (.if_icmp .le 5, 3) := by decide +kernel
theorem d_Mo_pooled_9 : decode b_Mo_pooled 9 = .ok (.iconst (-1), 1) := by decide +kernel
theorem d_Mo_pooled_10 : decode b_Mo_pooled 10 = .ok (.ireturn, 1) := by decide +kernel
theorem d_Mo_pooled_11 : decode b_Mo_pooled 11 = .ok (.iload_n 1, 1) := by decide +kernel
theorem d_Mo_pooled_12 : decode b_Mo_pooled 12 = .ok (.ifCond .lt 11, 3) := by decide +kernel
theorem d_Mo_pooled_15 : decode b_Mo_pooled 15 = .ok (.iload_n 1, 1) := by decide +kernel
theorem d_Mo_pooled_16 : decode b_Mo_pooled 16 = .ok (.aload_n 0, 1) := by decide +kernel
theorem d_Mo_pooled_17 : decode b_Mo_pooled 17 = .ok (.getfield 346, 3) := by decide +kernel
theorem d_Mo_pooled_20 : decode b_Mo_pooled 20 = .ok (.if_icmp .lt 6, 3) := by decide +kernel
theorem d_Mo_pooled_23 : decode b_Mo_pooled 23 = .ok (.bipush (-2), 2) := by decide +kernel
theorem d_Mo_pooled_25 : decode b_Mo_pooled 25 = .ok (.ireturn, 1) := by decide +kernel
theorem d_Mo_put_0 : decode b_Mo_put 0 = .ok (.bipush 24, 2) := by decide +kernel
theorem d_Mo_put_2 : decode b_Mo_put 2 = .ok (.istore_n 2, 1) := by decide +kernel
theorem d_Mo_put_3 : decode b_Mo_put 3 = .ok (.iload_n 2, 1) := by decide +kernel
theorem d_Mo_put_4 : decode b_Mo_put 4 = .ok (.ifCond .lt 36, 3) := by decide +kernel
theorem d_Mo_put_7 : decode b_Mo_put 7 = .ok (.aload_n 0, 1) := by decide +kernel
theorem d_Mo_put_8 : decode b_Mo_put 8 = .ok (.getfield 10, 3) := by decide +kernel
theorem d_Mo_put_11 : decode b_Mo_put 11 = .ok (.ldc_w 305, 3) := by decide +kernel
theorem d_Mo_put_14 : decode b_Mo_put 14 = .ok (.aload_n 0, 1) := by decide +kernel
theorem d_Mo_put_15 : decode b_Mo_put 15 = .ok (.getfield 363, 3) := by decide +kernel
theorem d_Mo_put_18 : decode b_Mo_put 18 = .ok (.iadd, 1) := by decide +kernel
theorem d_Mo_put_19 : decode b_Mo_put 19 = .ok (.iload_n 1, 1) := by decide +kernel
theorem d_Mo_put_20 : decode b_Mo_put 20 = .ok (.iload_n 2, 1) := by decide +kernel
theorem d_Mo_put_21 : decode b_Mo_put 21 = .ok (.ishr, 1) := by decide +kernel
theorem d_Mo_put_22 : decode b_Mo_put 22 = .ok (.i2b, 1) := by decide +kernel
theorem d_Mo_put_23 : decode b_Mo_put 23 = .ok (.bastore, 1) := by decide +kernel
theorem d_Mo_put_24 : decode b_Mo_put 24 = .ok (.aload_n 0, 1) := by decide +kernel
theorem d_Mo_put_25 : decode b_Mo_put 25 = .ok (.dup, 1) := by decide +kernel
theorem d_Mo_put_26 : decode b_Mo_put 26 = .ok (.getfield 363, 3) := by decide +kernel
theorem d_Mo_put_29 : decode b_Mo_put 29 = .ok (.iconst 1, 1) := by decide +kernel
theorem d_Mo_put_30 : decode b_Mo_put 30 = .ok (.iadd, 1) := by decide +kernel
theorem d_Mo_put_31 : decode b_Mo_put 31 = .ok (.putfield 363, 3) := by decide +kernel
theorem d_Mo_put_34 : decode b_Mo_put 34 = .ok (.iinc 2 (-8), 3) := by decide +kernel
theorem d_Mo_put_37 : decode b_Mo_put 37 = .ok (.goto (-34), 3) := by decide +kernel
theorem d_Mo_put_40 : decode b_Mo_put 40 = .ok (.return_, 1) := by decide +kernel
theorem d_Mo_read_0 : decode b_Mo_read 0 = .ok (.iload_n 1, 1) := by decide +kernel
theorem d_Mo_read_1 : decode b_Mo_read 1 = .ok (.istore_n 3, 1) := by decide +kernel
theorem d_Mo_read_2 : decode b_Mo_read 2 = .ok (.iload_n 3, 1) := by decide +kernel
theorem d_Mo_read_3 : decode b_Mo_read 3 = .ok (.iconst 5, 1) := by decide +kernel
theorem d_Mo_read_4 : decode b_Mo_read 4 = .ok (.iadd, 1) := by decide +kernel
theorem d_Mo_read_5 : decode b_Mo_read 5 = .ok (.iload_n 2, 1) := by decide +kernel
theorem d_Mo_read_6 : decode b_Mo_read 6 = .ok (.if_icmp .le 5, 3) := by decide +kernel
theorem d_Mo_read_9 : decode b_Mo_read 9 = .ok (.iconst (-1), 1) := by decide +kernel
theorem d_Mo_read_10 : decode b_Mo_read 10 = .ok (.ireturn, 1) := by decide +kernel
theorem d_Mo_reward_0 : decode b_Mo_reward 0 = .ok (.iload_n 0, 1) := by decide +kernel
theorem d_Mo_reward_1 : decode b_Mo_reward 1 = .ok (.sipush 320, 3) := by decide +kernel
theorem d_Mo_reward_4 : decode b_Mo_reward 4 = .ok (.if_icmp .lt 7, 3) := by decide +kernel
theorem d_Mo_reward_11 : decode b_Mo_reward 11 = .ok (.ldc 203, 2) := by decide +kernel
theorem d_Mo_reward_13 : decode b_Mo_reward 13 = .ok (.iload_n 0, 1) := by decide +kernel
theorem d_Mo_reward_14 : decode b_Mo_reward 14 = .ok (.bipush 16, 2) := by decide +kernel
theorem d_Mo_reward_16 : decode b_Mo_reward 16 = .ok (.idiv, 1) := by decide +kernel
theorem d_Mo_reward_17 : decode b_Mo_reward 17 = .ok (.ishr, 1) := by decide +kernel
theorem d_Mo_reward_18 : decode b_Mo_reward 18 = .ok (.ireturn, 1) := by decide +kernel
theorem d_Mo_root_0 : decode b_Mo_root 0 = .ok (.iload_n 1, 1) := by decide +kernel
theorem d_Mo_root_1 : decode b_Mo_root 1 = .ok (.istore_n 2, 1) := by decide +kernel
theorem d_Mo_root_2 : decode b_Mo_root 2 = .ok (.iload_n 2, 1) := by decide +kernel
theorem d_Mo_root_3 : decode b_Mo_root 3 = .ok (.iconst 1, 1) := by decide +kernel
theorem d_Mo_root_4 : decode b_Mo_root 4 = .ok (.if_icmp .le 125, 3) := by decide +kernel
theorem d_Mo_root_129 : decode b_Mo_root 129 = .ok (.return_, 1) := by decide +kernel
theorem d_Mo_round_0 : decode b_Mo_round 0 = .ok (.bipush 16, 2) := by decide +kernel
theorem d_Mo_round_2 : decode b_Mo_round 2 = .ok (.istore_n 1, 1) := by decide +kernel
theorem d_Mo_round_3 : decode b_Mo_round 3 = .ok (.iload_n 1, 1) := by decide +kernel
theorem d_Mo_round_4 : decode b_Mo_round 4 = .ok (.bipush 64, 2) := by decide +kernel
theorem d_Mo_round_6 : decode b_Mo_round 6 = .ok (.if_icmp .ge 110, 3) := by decide +kernel
theorem d_Mo_round_9 : decode b_Mo_round 9 = .ok (.aload_n 0, 1) := by decide +kernel
theorem d_Mo_round_10 : decode b_Mo_round 10 = .ok (.getfield 97, 3) := by decide +kernel
theorem d_Mo_round_13 : decode b_Mo_round 13 = .ok (.iload_n 1, 1) := by decide +kernel
theorem d_Mo_round_14 : decode b_Mo_round 14 = .ok (.bipush 15, 2) := by decide +kernel
theorem d_Mo_round_16 : decode b_Mo_round 16 = .ok (.isub, 1) := by decide +kernel
theorem d_Mo_round_17 : decode b_Mo_round 17 = .ok (.iaload, 1) := by decide +kernel
theorem d_Mo_round_18 : decode b_Mo_round 18 = .ok (.istore_n 2, 1) := by decide +kernel
theorem d_Mo_round_19 : decode b_Mo_round 19 = .ok (.aload_n 0, 1) := by decide +kernel
theorem d_Mo_round_20 : decode b_Mo_round 20 = .ok (.getfield 97, 3) := by decide +kernel
theorem d_Mo_round_23 : decode b_Mo_round 23 = .ok (.iload_n 1, 1) := by decide +kernel
theorem d_Mo_round_24 : decode b_Mo_round 24 = .ok (.iconst 2, 1) := by decide +kernel
theorem d_Mo_round_25 : decode b_Mo_round 25 = .ok (.isub, 1) := by decide +kernel
theorem d_Mo_round_26 : decode b_Mo_round 26 = .ok (.iaload, 1) := by decide +kernel
theorem d_Mo_round_27 : decode b_Mo_round 27 = .ok (.istore_n 3, 1) := by decide +kernel
theorem d_Mo_round_28 : decode b_Mo_round 28 = .ok (.iload_n 2, 1) := by decide +kernel
theorem d_Mo_round_29 : decode b_Mo_round 29 = .ok (.bipush 7, 2) := by decide +kernel
theorem d_Mo_round_31 : decode b_Mo_round 31 = .ok (.iushr, 1) := by decide +kernel
theorem d_Mo_round_32 : decode b_Mo_round 32 = .ok (.iload_n 2, 1) := by decide +kernel
theorem d_Mo_round_33 : decode b_Mo_round 33 = .ok (.bipush 25, 2) := by decide +kernel
theorem d_Mo_round_35 : decode b_Mo_round 35 = .ok (.ishl, 1) := by decide +kernel
theorem d_Mo_round_36 : decode b_Mo_round 36 = .ok (.ior, 1) := by decide +kernel
theorem d_Mo_round_37 : decode b_Mo_round 37 = .ok (.iload_n 2, 1) := by decide +kernel
theorem d_Mo_round_38 : decode b_Mo_round 38 = .ok (.bipush 18, 2) := by decide +kernel
theorem d_Mo_round_40 : decode b_Mo_round 40 = .ok (.iushr, 1) := by decide +kernel
theorem d_Mo_round_41 : decode b_Mo_round 41 = .ok (.iload_n 2, 1) := by decide +kernel
theorem d_Mo_round_42 : decode b_Mo_round 42 = .ok (.bipush 14, 2) := by decide +kernel
theorem d_Mo_round_44 : decode b_Mo_round 44 = .ok (.ishl, 1) := by decide +kernel
theorem d_Mo_round_45 : decode b_Mo_round 45 = .ok (.ior, 1) := by decide +kernel
theorem d_Mo_round_46 : decode b_Mo_round 46 = .ok (.ixor, 1) := by decide +kernel
theorem d_Mo_round_47 : decode b_Mo_round 47 = .ok (.iload_n 2, 1) := by decide +kernel
theorem d_Mo_round_48 : decode b_Mo_round 48 = .ok (.iconst 3, 1) := by decide +kernel
theorem d_Mo_round_49 : decode b_Mo_round 49 = .ok (.iushr, 1) := by decide +kernel
theorem d_Mo_round_50 : decode b_Mo_round 50 = .ok (.ixor, 1) := by decide +kernel
theorem d_Mo_round_51 : decode b_Mo_round 51 = .ok (.istore 4, 2) := by decide +kernel
theorem d_Mo_round_53 : decode b_Mo_round 53 = .ok (.iload_n 3, 1) := by decide +kernel
theorem d_Mo_round_54 : decode b_Mo_round 54 = .ok (.bipush 17, 2) := by decide +kernel
theorem d_Mo_round_56 : decode b_Mo_round 56 = .ok (.iushr, 1) := by decide +kernel
theorem d_Mo_round_57 : decode b_Mo_round 57 = .ok (.iload_n 3, 1) := by decide +kernel
theorem d_Mo_round_58 : decode b_Mo_round 58 = .ok (.bipush 15, 2) := by decide +kernel
