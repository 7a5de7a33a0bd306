theorem d_Sha_mix_284 : decode b_Sha_mix 284 = .ok (.iload_n 1, 1) := by decide +kernel
theorem d_Sha_mix_285 : decode b_Sha_mix 285 = .ok (.bipush 10, 2) := by decide +kernel
theorem d_Sha_mix_287 : decode b_Sha_mix 287 = .ok (.ishl, 1) := by decide +kernel
theorem d_Sha_mix_288 : decode b_Sha_mix 288 = .ok (.ior, 1) := by decide +kernel
theorem d_Sha_mix_289 : decode b_Sha_mix 289 = .ok (.ixor, 1) := by decide +kernel
theorem d_Sha_mix_290 : decode b_Sha_mix 290 = .ok (.istore 12, 2) := by decide +kernel
theorem d_Sha_mix_292 : decode b_Sha_mix 292 = .ok (.iload 12, 2) := by decide +kernel
theorem d_Sha_mix_294 : decode b_Sha_mix 294 = .ok (.iload_n 1, 1) := by decide +kernel
theorem d_Sha_mix_295 : decode b_Sha_mix 295 = .ok (.iload_n 2, 1) := by decide +kernel
theorem d_Sha_mix_296 : decode b_Sha_mix 296 = .ok (.iand, 1) := by decide +kernel
theorem d_Sha_mix_297 : decode b_Sha_mix 297 = .ok (.iload_n 1, 1) := by decide +kernel
theorem d_Sha_mix_298 : decode b_Sha_mix 298 = .ok (.iload_n 3, 1) := by decide +kernel
theorem d_Sha_mix_299 : decode b_Sha_mix 299 = .ok (.iand, 1) := by decide +kernel
theorem d_Sha_mix_300 : decode b_Sha_mix 300 = .ok (.ixor, 1) := by decide +kernel
theorem d_Sha_mix_301 : decode b_Sha_mix 301 = .ok (.iload_n 2, 1) := by decide +kernel
theorem d_Sha_mix_302 : decode b_Sha_mix 302 = .ok (.iload_n 3, 1) := by decide +kernel
theorem d_Sha_mix_303 : decode b_Sha_mix 303 = .ok (.iand, 1) := by decide +kernel
theorem d_Sha_mix_304 : decode b_Sha_mix 304 = .ok (.ixor, 1) := by decide +kernel
theorem d_Sha_mix_305 : decode b_Sha_mix 305 = .ok (.iadd, 1) := by decide +kernel
theorem d_Sha_mix_306 : decode b_Sha_mix 306 = .ok (.istore 13, 2) := by decide +kernel
theorem d_Sha_mix_308 : decode b_Sha_mix 308 = .ok (.iload 7, 2) := by decide +kernel
theorem d_Sha_mix_310 : decode b_Sha_mix 310 = .ok (.istore 8, 2) := by decide +kernel
theorem d_Sha_mix_312 : decode b_Sha_mix 312 = .ok (.iload 6, 2) := by decide +kernel
theorem d_Sha_mix_314 : decode b_Sha_mix 314 = .ok (.istore 7, 2) := by decide +kernel
theorem d_Sha_mix_316 : decode b_Sha_mix 316 = .ok (.iload 5, 2) := by decide +kernel
theorem d_Sha_mix_318 : decode b_Sha_mix 318 = .ok (.istore 6, 2) := by decide +kernel
theorem d_Sha_mix_320 : decode b_Sha_mix 320 = .ok (.iload 4, 2) := by decide +kernel
theorem d_Sha_mix_322 : decode b_Sha_mix 322 = .ok (.iload 11, 2) := by decide +kernel
theorem d_Sha_mix_324 : decode b_Sha_mix 324 = .ok (.iadd, 1) := by decide +kernel
theorem d_Sha_mix_325 : decode b_Sha_mix 325 = .ok (.istore 5, 2) := by decide +kernel
theorem d_Sha_mix_327 : decode b_Sha_mix 327 = .ok (.iload_n 3, 1) := by decide +kernel
theorem d_Sha_mix_328 : decode b_Sha_mix 328 = .ok (.istore 4, 2) := by decide +kernel
theorem d_Sha_mix_330 : decode b_Sha_mix 330 = .ok (.iload_n 2, 1) := by decide +kernel
theorem d_Sha_mix_331 : decode b_Sha_mix 331 = .ok (.istore_n 3, 1) := by decide +kernel
theorem d_Sha_mix_332 : decode b_Sha_mix 332 = .ok (.iload_n 1, 1) := by decide +kernel
theorem d_Sha_mix_333 : decode b_Sha_mix 333 = .ok (.istore_n 2, 1) := by decide +kernel
theorem d_Sha_mix_334 : decode b_Sha_mix 334 = .ok (.iload 11, 2) := by decide +kernel
theorem d_Sha_mix_336 : decode b_Sha_mix 336 = .ok (.iload 13, 2) := by decide +kernel
theorem d_Sha_mix_338 : decode b_Sha_mix 338 = .ok (.iadd, 1) := by decide +kernel
theorem d_Sha_mix_339 : decode b_Sha_mix 339 = .ok (.istore_n 1, 1) := by decide +kernel
theorem d_Sha_mix_340 : decode b_Sha_mix 340 = .ok (.iinc 9 1, 3) := by decide +kernel
theorem d_Sha_mix_343 : decode b_Sha_mix 343 = .ok (.goto (-161), 3) := by decide +kernel
theorem d_Sha_mix_346 : decode b_Sha_mix 346 = .ok (.aload_n 0, 1) := by decide +kernel
theorem d_Sha_mix_347 : decode b_Sha_mix 347 = .ok (.getfield 15, 3) := by decide +kernel
theorem d_Sha_mix_350 : decode b_Sha_mix 350 = .ok (.iconst 0, 1) := by decide +kernel
theorem d_Sha_mix_351 : decode b_Sha_mix 351 = .ok (.dup2, 1) := by decide +kernel
theorem d_Sha_mix_352 : decode b_Sha_mix 352 = .ok (.iaload, 1) := by decide +kernel
theorem d_Sha_mix_353 : decode b_Sha_mix 353 = .ok (.iload_n 1, 1) := by decide +kernel
theorem d_Sha_mix_354 : decode b_Sha_mix 354 = .ok (.iadd, 1) := by decide +kernel
theorem d_Sha_mix_355 : decode b_Sha_mix 355 = .ok (.iastore, 1) := by decide +kernel
theorem d_Sha_mix_356 : decode b_Sha_mix 356 = .ok (.aload_n 0, 1) := by decide +kernel
theorem d_Sha_mix_357 : decode b_Sha_mix 357 = .ok (.getfield 15, 3) := by decide +kernel
theorem d_Sha_mix_360 : decode b_Sha_mix 360 = .ok (.iconst 1, 1) := by decide +kernel
theorem d_Sha_mix_361 : decode b_Sha_mix 361 = .ok (.dup2, 1) := by decide +kernel
theorem d_Sha_mix_362 : decode b_Sha_mix 362 = .ok (.iaload, 1) := by decide +kernel
theorem d_Sha_mix_363 : decode b_Sha_mix 363 = .ok (.iload_n 2, 1) := by decide +kernel
theorem d_Sha_mix_364 : decode b_Sha_mix 364 = .ok (.iadd, 1) := by decide +kernel
theorem d_Sha_mix_365 : decode b_Sha_mix 365 = .ok (.iastore, 1) := by decide +kernel
theorem d_Sha_mix_366 : decode b_Sha_mix 366 = .ok (.aload_n 0, 1) := by decide +kernel
theorem d_Sha_mix_367 : decode b_Sha_mix 367 = .ok (.getfield 15, 3) := by decide +kernel
theorem d_Sha_mix_370 : decode b_Sha_mix 370 = .ok (.iconst 2, 1) := by decide +kernel
theorem d_Sha_mix_371 : decode b_Sha_mix 371 = .ok (.dup2, 1) := by decide +kernel
theorem d_Sha_mix_372 : decode b_Sha_mix 372 = .ok (.iaload, 1) := by decide +kernel
theorem d_Sha_mix_373 : decode b_Sha_mix 373 = .ok (.iload_n 3, 1) := by decide +kernel
theorem d_Sha_mix_374 : decode b_Sha_mix 374 = .ok (.iadd, 1) := by decide +kernel
theorem d_Sha_mix_375 : decode b_Sha_mix 375 = .ok (.iastore, 1) := by decide +kernel
theorem d_Sha_mix_376 : decode b_Sha_mix 376 = .ok (.aload_n 0, 1) := by decide +kernel
theorem d_Sha_mix_377 : decode b_Sha_mix 377 = .ok (.getfield 15, 3) := by decide +kernel
theorem d_Sha_mix_380 : decode b_Sha_mix 380 = .ok (.iconst 3, 1) := by decide +kernel
theorem d_Sha_mix_381 : decode b_Sha_mix 381 = .ok (.dup2, 1) := by decide +kernel
theorem d_Sha_mix_382 : decode b_Sha_mix 382 = .ok (.iaload, 1) := by decide +kernel
theorem d_Sha_mix_383 : decode b_Sha_mix 383 = .ok (.iload 4, 2) := by decide +kernel
theorem d_Sha_mix_385 : decode b_Sha_mix 385 = .ok (.iadd, 1) := by decide +kernel
theorem d_Sha_mix_386 : decode b_Sha_mix 386 = .ok (.iastore, 1) := by decide +kernel
theorem d_Sha_mix_387 : decode b_Sha_mix 387 = .ok (.aload_n 0, 1) := by decide +kernel
theorem d_Sha_mix_388 : decode b_Sha_mix 388 = .ok (.getfield 15, 3) := by decide +kernel
theorem d_Sha_mix_391 : decode b_Sha_mix 391 = .ok (.iconst 4, 1) := by decide +kernel
theorem d_Sha_mix_392 : decode b_Sha_mix 392 = .ok (.dup2, 1) := by decide +kernel
theorem d_Sha_mix_393 : decode b_Sha_mix 393 = .ok (.iaload, 1) := by decide +kernel
theorem d_Sha_mix_394 : decode b_Sha_mix 394 = .ok (.iload 5, 2) := by decide +kernel
theorem d_Sha_mix_396 : decode b_Sha_mix 396 = .ok (.iadd, 1) := by decide +kernel
theorem d_Sha_mix_397 : decode b_Sha_mix 397 = .ok (.iastore, 1) := by decide +kernel
theorem d_Sha_mix_398 : decode b_Sha_mix 398 = .ok (.aload_n 0, 1) := by decide +kernel
theorem d_Sha_mix_399 : decode b_Sha_mix 399 = .ok (.getfield 15, 3) := by decide +kernel
theorem d_Sha_mix_402 : decode b_Sha_mix 402 = .ok (.iconst 5, 1) := by decide +kernel
theorem d_Sha_mix_403 : decode b_Sha_mix 403 = .ok (.dup2, 1) := by decide +kernel
theorem d_Sha_mix_404 : decode b_Sha_mix 404 = .ok (.iaload, 1) := by decide +kernel
theorem d_Sha_mix_405 : decode b_Sha_mix 405 = .ok (.iload 6, 2) := by decide +kernel
theorem d_Sha_mix_407 : decode b_Sha_mix 407 = .ok (.iadd, 1) := by decide +kernel
theorem d_Sha_mix_408 : decode b_Sha_mix 408 = .ok (.iastore, 1) := by decide +kernel
theorem d_Sha_mix_409 : decode b_Sha_mix 409 = .ok (.aload_n 0, 1) := by decide +kernel
theorem d_Sha_mix_410 : decode b_Sha_mix 410 = .ok (.getfield 15, 3) := by decide +kernel
theorem d_Sha_mix_413 : decode b_Sha_mix 413 = .ok (.bipush 6, 2) := by decide +kernel
theorem d_Sha_mix_415 : decode b_Sha_mix 415 = .ok (.dup2, 1) := by decide +kernel
theorem d_Sha_mix_416 : decode b_Sha_mix 416 = .ok (.iaload, 1) := by decide +kernel
theorem d_Sha_mix_417 : decode b_Sha_mix 417 = .ok (.iload 7, 2) := by decide +kernel
theorem d_Sha_mix_419 : decode b_Sha_mix 419 = .ok (.iadd, 1) := by decide +kernel
theorem d_Sha_mix_420 : decode b_Sha_mix 420 = .ok (.iastore, 1) := by decide +kernel
theorem d_Sha_mix_421 : decode b_Sha_mix 421 = .ok (.aload_n 0, 1) := by decide +kernel
theorem d_Sha_mix_422 : decode b_Sha_mix 422 = .ok (.getfield 15, 3) := by decide +kernel
theorem d_Sha_mix_425 : decode b_Sha_mix 425 = .ok (.bipush 7, 2) := by decide +kernel
theorem d_Sha_mix_427 : decode b_Sha_mix 427 = .ok (.dup2, 1) := by decide +kernel
theorem d_Sha_mix_428 : decode b_Sha_mix 428 = .ok (.iaload, 1) := by decide +kernel
theorem d_Sha_mix_429 : decode b_Sha_mix 429 = .ok (.iload 8, 2) := by decide +kernel
theorem d_Sha_mix_431 : decode b_Sha_mix 431 = .ok (.iadd, 1) := by decide +kernel
theorem d_Sha_mix_432 : decode b_Sha_mix 432 = .ok (.iastore, 1) := by decide +kernel
theorem d_Sha_mix_433 : decode b_Sha_mix 433 = .ok (.return_, 1) := by decide +kernel
theorem d_View_init_0 : decode b_View_init 0 = .ok (.aload_n 0, 1) := by decide +kernel
theorem d_View_init_1 : decode b_View_init 1 = .ok (.invokespecial 1, 3) := by decide +kernel
theorem d_View_init_4 : decode b_View_init 4 = .ok (.return_, 1) := by decide +kernel
theorem d_law_0 : decode code 0 = .ok (.new 7, 3) := by decide +kernel
theorem d_law_3 : decode code 3 = .ok (.dup, 1) := by decide +kernel
theorem d_law_4 : decode code 4 = .ok (.invokespecial 9, 3) := by decide +kernel
theorem d_law_7 : decode code 7 = .ok (.astore_n 1, 1) := by decide +kernel
theorem d_law_8 : decode code 8 = .ok (.new 10, 3) := by decide +kernel
theorem d_law_11 : decode code 11 = .ok (.dup, 1) := by decide +kernel
theorem d_law_12 : decode code 12 = .ok (.invokespecial 12, 3) := by decide +kernel
theorem d_law_15 : decode code 15 = .ok (.astore_n 2, 1) := by decide +kernel
theorem d_law_16 : decode code 16 = .ok (.iconst 0, 1) := by decide +kernel
theorem d_law_17 : decode code 17 = .ok (.istore_n 3, 1) := by decide +kernel
theorem d_law_18 : decode code 18 = .ok (.iload_n 3, 1) := by decide +kernel
theorem d_law_19 : decode code 19 = .ok (.aload_n 0, 1) := by decide +kernel
theorem d_law_20 : decode code 20 = .ok (.arraylength, 1) := by decide +kernel
theorem d_law_21 : decode code 21 = .ok (.bipush 6, 2) := by decide +kernel
theorem d_law_23 : decode code 23 = .ok (.isub, 1) := by decide +kernel
theorem d_law_24 : decode code 24 = .ok (.if_icmp .gt 672, 3) := by decide +kernel
theorem d_law_27 : decode code 27 = .ok (.aload_n 0, 1) := by decide +kernel
theorem d_law_28 : decode code 28 = .ok (.iload_n 3, 1) := by decide +kernel
theorem d_law_29 : decode code 29 = .ok (.iaload, 1) := by decide +kernel
theorem d_law_30 : decode code 30 = .ok (.bipush 31, 2) := by decide +kernel
theorem d_law_32 : decode code 32 = .ok (.iand, 1) := by decide +kernel
theorem d_law_33 : decode code 33 = .ok (.tableswitch 657 0 18 #[91, 154, 177, 210, 223, 236, 305, 328, 391, 424, 447, 460, 473, 497, 530, 563, 577, 610, 633], 91) := by decide +kernel
theorem d_law_124 : decode code 124 = .ok (.aload_n 1, 1) := by decide +kernel
theorem d_law_125 : decode code 125 = .ok (.aload_n 0, 1) := by decide +kernel
theorem d_law_126 : decode code 126 = .ok (.iload_n 3, 1) := by decide +kernel
theorem d_law_127 : decode code 127 = .ok (.iconst 1, 1) := by decide +kernel
theorem d_law_128 : decode code 128 = .ok (.iadd, 1) := by decide +kernel
theorem d_law_129 : decode code 129 = .ok (.iaload, 1) := by decide +kernel
theorem d_law_130 : decode code 130 = .ok (.aload_n 0, 1) := by decide +kernel
theorem d_law_131 : decode code 131 = .ok (.iload_n 3, 1) := by decide +kernel
theorem d_law_132 : decode code 132 = .ok (.iconst 2, 1) := by decide +kernel
theorem d_law_133 : decode code 133 = .ok (.iadd, 1) := by decide +kernel
theorem d_law_134 : decode code 134 = .ok (.iaload, 1) := by decide +kernel
theorem d_law_135 : decode code 135 = .ok (.aload_n 0, 1) := by decide +kernel
theorem d_law_136 : decode code 136 = .ok (.iload_n 3, 1) := by decide +kernel
theorem d_law_137 : decode code 137 = .ok (.iconst 3, 1) := by decide +kernel
theorem d_law_138 : decode code 138 = .ok (.iadd, 1) := by decide +kernel
theorem d_law_139 : decode code 139 = .ok (.iaload, 1) := by decide +kernel
theorem d_law_140 : decode code 140 = .ok (.aload_n 0, 1) := by decide +kernel
theorem d_law_141 : decode code 141 = .ok (.iload_n 3, 1) := by decide +kernel
theorem d_law_142 : decode code 142 = .ok (.iconst 4, 1) := by decide +kernel
theorem d_law_143 : decode code 143 = .ok (.iadd, 1) := by decide +kernel
theorem d_law_144 : decode code 144 = .ok (.iaload, 1) := by decide +kernel
theorem d_law_145 : decode code 145 = .ok (.aload_n 0, 1) := by decide +kernel
theorem d_law_146 : decode code 146 = .ok (.iload_n 3, 1) := by decide +kernel
theorem d_law_147 : decode code 147 = .ok (.iconst 5, 1) := by decide +kernel
theorem d_law_148 : decode code 148 = .ok (.iadd, 1) := by decide +kernel
theorem d_law_149 : decode code 149 = .ok (.iaload, 1) := by decide +kernel
theorem d_law_150 : decode code 150 = .ok (.invokevirtual 13, 3) := by decide +kernel
theorem d_law_153 : decode code 153 = .ok (.aload_n 2, 1) := by decide +kernel
theorem d_law_154 : decode code 154 = .ok (.aload_n 0, 1) := by decide +kernel
theorem d_law_155 : decode code 155 = .ok (.iload_n 3, 1) := by decide +kernel
theorem d_law_156 : decode code 156 = .ok (.iconst 1, 1) := by decide +kernel
theorem d_law_157 : decode code 157 = .ok (.iadd, 1) := by decide +kernel
theorem d_law_158 : decode code 158 = .ok (.iaload, 1) := by decide +kernel
theorem d_law_159 : decode code 159 = .ok (.aload_n 0, 1) := by decide +kernel
theorem d_law_160 : decode code 160 = .ok (.iload_n 3, 1) := by decide +kernel
theorem d_law_161 : decode code 161 = .ok (.iconst 2, 1) := by decide +kernel
theorem d_law_162 : decode code 162 = .ok (.iadd, 1) := by decide +kernel
theorem d_law_163 : decode code 163 = .ok (.iaload, 1) := by decide +kernel
theorem d_law_164 : decode code 164 = .ok (.aload_n 0, 1) := by decide +kernel
theorem d_law_165 : decode code 165 = .ok (.iload_n 3, 1) := by decide +kernel
theorem d_law_166 : decode code 166 = .ok (.iconst 3, 1) := by decide +kernel
theorem d_law_167 : decode code 167 = .ok (.iadd, 1) := by decide +kernel
theorem d_law_168 : decode code 168 = .ok (.iaload, 1) := by decide +kernel
theorem d_law_169 : decode code 169 = .ok (.aload_n 0, 1) := by decide +kernel
theorem d_law_170 : decode code 170 = .ok (.iload_n 3, 1) := by decide +kernel
theorem d_law_171 : decode code 171 = .ok (.iconst 4, 1) := by decide +kernel
theorem d_law_172 : decode code 172 = .ok (.iadd, 1) := by decide +kernel
theorem d_law_173 : decode code 173 = .ok (.iaload, 1) := by decide +kernel
theorem d_law_174 : decode code 174 = .ok (.aload_n 0, 1) := by decide +kernel
theorem d_law_175 : decode code 175 = .ok (.iload_n 3, 1) := by decide +kernel
theorem d_law_176 : decode code 176 = .ok (.iconst 5, 1) := by decide +kernel
theorem d_law_177 : decode code 177 = .ok (.iadd, 1) := by decide +kernel
theorem d_law_178 : decode code 178 = .ok (.iaload, 1) := by decide +kernel
theorem d_law_179 : decode code 179 = .ok (.invokevirtual 17, 3) := by decide +kernel
theorem d_law_182 : decode code 182 = .ok (.if_icmp .eq 508, 3) := by decide +kernel
theorem d_law_187 : decode code 187 = .ok (.aload_n 1, 1) := by decide +kernel
theorem d_law_188 : decode code 188 = .ok (.aload_n 0, 1) := by decide +kernel
theorem d_law_189 : decode code 189 = .ok (.iload_n 3, 1) := by decide +kernel
theorem d_law_190 : decode code 190 = .ok (.iconst 1, 1) := by decide +kernel
theorem d_law_191 : decode code 191 = .ok (.iadd, 1) := by decide +kernel
theorem d_law_192 : decode code 192 = .ok (.iaload, 1) := by decide +kernel
theorem d_law_193 : decode code 193 = .ok (.invokevirtual 18, 3) := by decide +kernel
theorem d_law_196 : decode code 196 = .ok (.aload_n 2, 1) := by decide +kernel
theorem d_law_197 : decode code 197 = .ok (.aload_n 0, 1) := by decide +kernel
theorem d_law_198 : decode code 198 = .ok (.iload_n 3, 1) := by decide +kernel
theorem d_law_199 : decode code 199 = .ok (.iconst 1, 1) := by decide +kernel
theorem d_law_200 : decode code 200 = .ok (.iadd, 1) := by decide +kernel
theorem d_law_201 : decode code 201 = .ok (.iaload, 1) := by decide +kernel
theorem d_law_202 : decode code 202 = .ok (.invokevirtual 22, 3) := by decide +kernel
theorem d_law_205 : decode code 205 = .ok (.if_icmp .eq 485, 3) := by decide +kernel
theorem d_law_210 : decode code 210 = .ok (.aload_n 1, 1) := by decide +kernel
theorem d_law_211 : decode code 211 = .ok (.aload_n 0, 1) := by decide +kernel
theorem d_law_212 : decode code 212 = .ok (.iload_n 3, 1) := by decide +kernel
theorem d_law_213 : decode code 213 = .ok (.iconst 1, 1) := by decide +kernel
theorem d_law_214 : decode code 214 = .ok (.iadd, 1) := by decide +kernel
theorem d_law_215 : decode code 215 = .ok (.iaload, 1) := by decide +kernel
theorem d_law_216 : decode code 216 = .ok (.aload_n 0, 1) := by decide +kernel
theorem d_law_217 : decode code 217 = .ok (.iload_n 3, 1) := by decide +kernel
theorem d_law_218 : decode code 218 = .ok (.iconst 2, 1) := by decide +kernel
theorem d_law_219 : decode code 219 = .ok (.iadd, 1) := by decide +kernel
theorem d_law_220 : decode code 220 = .ok (.iaload, 1) := by decide +kernel
theorem d_law_221 : decode code 221 = .ok (.invokevirtual 23, 3) := by decide +kernel
theorem d_law_224 : decode code 224 = .ok (.aload_n 2, 1) := by decide +kernel
theorem d_law_225 : decode code 225 = .ok (.aload_n 0, 1) := by decide +kernel
theorem d_law_226 : decode code 226 = .ok (.iload_n 3, 1) := by decide +kernel
theorem d_law_227 : decode code 227 = .ok (.iconst 1, 1) := by decide +kernel
theorem d_law_228 : decode code 228 = .ok (.iadd, 1) := by decide +kernel
theorem d_law_229 : decode code 229 = .ok (.iaload, 1) := by decide +kernel
theorem d_law_230 : decode code 230 = .ok (.aload_n 0, 1) := by decide +kernel
theorem d_law_231 : decode code 231 = .ok (.iload_n 3, 1) := by decide +kernel
theorem d_law_232 : decode code 232 = .ok (.iconst 2, 1) := by decide +kernel
theorem d_law_233 : decode code 233 = .ok (.iadd, 1) := by decide +kernel
theorem d_law_234 : decode code 234 = .ok (.iaload, 1) := by decide +kernel
theorem d_law_235 : decode code 235 = .ok (.invokevirtual 27, 3) := by decide +kernel
theorem d_law_238 : decode code 238 = .ok (.if_icmp .eq 452, 3) := by decide +kernel
theorem d_law_243 : decode code 243 = .ok (.aload_n 1, 1) := by decide +kernel
theorem d_law_244 : decode code 244 = .ok (.invokevirtual 28, 3) := by decide +kernel
theorem d_law_247 : decode code 247 = .ok (.aload_n 2, 1) := by decide +kernel
theorem d_law_248 : decode code 248 = .ok (.invokevirtual 32, 3) := by decide +kernel
theorem d_law_251 : decode code 251 = .ok (.if_icmp .eq 439, 3) := by decide +kernel
theorem d_law_256 : decode code 256 = .ok (.aload_n 1, 1) := by decide +kernel
theorem d_law_257 : decode code 257 = .ok (.invokevirtual 33, 3) := by decide +kernel
theorem d_law_260 : decode code 260 = .ok (.aload_n 2, 1) := by decide +kernel
theorem d_law_261 : decode code 261 = .ok (.invokevirtual 36, 3) := by decide +kernel
theorem d_law_264 : decode code 264 = .ok (.if_icmp .eq 426, 3) := by decide +kernel
theorem d_law_269 : decode code 269 = .ok (.aload_n 1, 1) := by decide +kernel
theorem d_law_270 : decode code 270 = .ok (.aload_n 0, 1) := by decide +kernel
theorem d_law_271 : decode code 271 = .ok (.iload_n 3, 1) := by decide +kernel
theorem d_law_272 : decode code 272 = .ok (.iconst 1, 1) := by decide +kernel
theorem d_law_273 : decode code 273 = .ok (.iadd, 1) := by decide +kernel
theorem d_law_274 : decode code 274 = .ok (.iaload, 1) := by decide +kernel
theorem d_law_275 : decode code 275 = .ok (.aload_n 0, 1) := by decide +kernel
theorem d_law_276 : decode code 276 = .ok (.iload_n 3, 1) := by decide +kernel
theorem d_law_277 : decode code 277 = .ok (.iconst 2, 1) := by decide +kernel
theorem d_law_278 : decode code 278 = .ok (.iadd, 1) := by decide +kernel
theorem d_law_279 : decode code 279 = .ok (.iaload, 1) := by decide +kernel
theorem d_law_280 : decode code 280 = .ok (.aload_n 0, 1) := by decide +kernel
theorem d_law_281 : decode code 281 = .ok (.iload_n 3, 1) := by decide +kernel
theorem d_law_282 : decode code 282 = .ok (.iconst 3, 1) := by decide +kernel
theorem d_law_283 : decode code 283 = .ok (.iadd, 1) := by decide +kernel
theorem d_law_284 : decode code 284 = .ok (.iaload, 1) := by decide +kernel
theorem d_law_285 : decode code 285 = .ok (.aload_n 0, 1) := by decide +kernel
theorem d_law_286 : decode code 286 = .ok (.iload_n 3, 1) := by decide +kernel
theorem d_law_287 : decode code 287 = .ok (.iconst 4, 1) := by decide +kernel
theorem d_law_288 : decode code 288 = .ok (.iadd, 1) := by decide +kernel
theorem d_law_289 : decode code 289 = .ok (.iaload, 1) := by decide +kernel
theorem d_law_290 : decode code 290 = .ok (.ifCond .eq 7, 3) := by decide +kernel
theorem d_law_293 : decode code 293 = .ok (.iconst 1, 1) := by decide +kernel
theorem d_law_294 : decode code 294 = .ok (.goto 4, 3) := by decide +kernel
theorem d_law_297 : decode code 297 = .ok (.iconst 0, 1) := by decide +kernel
theorem d_law_298 : decode code 298 = .ok (.invokevirtual 37, 3) := by decide +kernel
theorem d_law_301 : decode code 301 = .ok (.aload_n 2, 1) := by decide +kernel
theorem d_law_302 : decode code 302 = .ok (.aload_n 0, 1) := by decide +kernel
theorem d_law_303 : decode code 303 = .ok (.iload_n 3, 1) := by decide +kernel
theorem d_law_304 : decode code 304 = .ok (.iconst 1, 1) := by decide +kernel
theorem d_law_305 : decode code 305 = .ok (.iadd, 1) := by decide +kernel
theorem d_law_306 : decode code 306 = .ok (.iaload, 1) := by decide +kernel
theorem d_law_307 : decode code 307 = .ok (.aload_n 0, 1) := by decide +kernel
theorem d_law_308 : decode code 308 = .ok (.iload_n 3, 1) := by decide +kernel
theorem d_law_309 : decode code 309 = .ok (.iconst 2, 1) := by decide +kernel
theorem d_law_310 : decode code 310 = .ok (.iadd, 1) := by decide +kernel
theorem d_law_311 : decode code 311 = .ok (.iaload, 1) := by decide +kernel
theorem d_law_312 : decode code 312 = .ok (.aload_n 0, 1) := by decide +kernel
theorem d_law_313 : decode code 313 = .ok (.iload_n 3, 1) := by decide +kernel
theorem d_law_314 : decode code 314 = .ok (.iconst 3, 1) := by decide +kernel
theorem d_law_315 : decode code 315 = .ok (.iadd, 1) := by decide +kernel
theorem d_law_316 : decode code 316 = .ok (.iaload, 1) := by decide +kernel
theorem d_law_317 : decode code 317 = .ok (.aload_n 0, 1) := by decide +kernel
theorem d_law_318 : decode code 318 = .ok (.iload_n 3, 1) := by decide +kernel
theorem d_law_319 : decode code 319 = .ok (.iconst 4, 1) := by decide +kernel
theorem d_law_320 : decode code 320 = .ok (.iadd, 1) := by decide +kernel
theorem d_law_321 : decode code 321 = .ok (.iaload, 1) := by decide +kernel
theorem d_law_322 : decode code 322 = .ok (.ifCond .eq 7, 3) := by decide +kernel
theorem d_law_325 : decode code 325 = .ok (.iconst 1, 1) := by decide +kernel
theorem d_law_326 : decode code 326 = .ok (.goto 4, 3) := by decide +kernel
theorem d_law_329 : decode code 329 = .ok (.iconst 0, 1) := by decide +kernel
theorem d_law_330 : decode code 330 = .ok (.invokevirtual 41, 3) := by decide +kernel
theorem d_law_333 : decode code 333 = .ok (.if_icmp .eq 357, 3) := by decide +kernel
theorem d_law_338 : decode code 338 = .ok (.aload_n 1, 1) := by decide +kernel
theorem d_law_339 : decode code 339 = .ok (.aload_n 0, 1) := by decide +kernel
theorem d_law_340 : decode code 340 = .ok (.iload_n 3, 1) := by decide +kernel
theorem d_law_341 : decode code 341 = .ok (.iconst 1, 1) := by decide +kernel
theorem d_law_342 : decode code 342 = .ok (.iadd, 1) := by decide +kernel
theorem d_law_343 : decode code 343 = .ok (.iaload, 1) := by decide +kernel
theorem d_law_344 : decode code 344 = .ok (.invokevirtual 42, 3) := by decide +kernel
theorem d_law_347 : decode code 347 = .ok (.aload_n 2, 1) := by decide +kernel
theorem d_law_348 : decode code 348 = .ok (.aload_n 0, 1) := by decide +kernel
theorem d_law_349 : decode code 349 = .ok (.iload_n 3, 1) := by decide +kernel
theorem d_law_350 : decode code 350 = .ok (.iconst 1, 1) := by decide +kernel
theorem d_law_351 : decode code 351 = .ok (.iadd, 1) := by decide +kernel
theorem d_law_352 : decode code 352 = .ok (.iaload, 1) := by decide +kernel
theorem d_law_353 : decode code 353 = .ok (.invokevirtual 45, 3) := by decide +kernel
theorem d_law_356 : decode code 356 = .ok (.if_icmp .eq 334, 3) := by decide +kernel
theorem d_law_361 : decode code 361 = .ok (.aload_n 1, 1) := by decide +kernel
theorem d_law_362 : decode code 362 = .ok (.aload_n 0, 1) := by decide +kernel
theorem d_law_363 : decode code 363 = .ok (.iload_n 3, 1) := by decide +kernel
theorem d_law_364 : decode code 364 = .ok (.iconst 1, 1) := by decide +kernel
theorem d_law_365 : decode code 365 = .ok (.iadd, 1) := by decide +kernel
theorem d_law_366 : decode code 366 = .ok (.iaload, 1) := by decide +kernel
theorem d_law_367 : decode code 367 = .ok (.aload_n 0, 1) := by decide +kernel
theorem d_law_368 : decode code 368 = .ok (.iload_n 3, 1) := by decide +kernel
theorem d_law_369 : decode code 369 = .ok (.iconst 2, 1) := by decide +kernel
theorem d_law_370 : decode code 370 = .ok (.iadd, 1) := by decide +kernel
theorem d_law_371 : decode code 371 = .ok (.iaload, 1) := by decide +kernel
theorem d_law_372 : decode code 372 = .ok (.aload_n 0, 1) := by decide +kernel
theorem d_law_373 : decode code 373 = .ok (.iload_n 3, 1) := by decide +kernel
theorem d_law_374 : decode code 374 = .ok (.iconst 3, 1) := by decide +kernel
theorem d_law_375 : decode code 375 = .ok (.iadd, 1) := by decide +kernel
theorem d_law_376 : decode code 376 = .ok (.iaload, 1) := by decide +kernel
theorem d_law_377 : decode code 377 = .ok (.aload_n 0, 1) := by decide +kernel
theorem d_law_378 : decode code 378 = .ok (.iload_n 3, 1) := by decide +kernel
theorem d_law_379 : decode code 379 = .ok (.iconst 4, 1) := by decide +kernel
theorem d_law_380 : decode code 380 = .ok (.iadd, 1) := by decide +kernel
theorem d_law_381 : decode code 381 = .ok (.iaload, 1) := by decide +kernel
theorem d_law_382 : decode code 382 = .ok (.aload_n 0, 1) := by decide +kernel
theorem d_law_383 : decode code 383 = .ok (.iload_n 3, 1) := by decide +kernel
theorem d_law_384 : decode code 384 = .ok (.iconst 5, 1) := by decide +kernel
theorem d_law_385 : decode code 385 = .ok (.iadd, 1) := by decide +kernel
theorem d_law_386 : decode code 386 = .ok (.iaload, 1) := by decide +kernel
theorem d_law_387 : decode code 387 = .ok (.invokevirtual 46, 3) := by decide +kernel
theorem d_law_390 : decode code 390 = .ok (.aload_n 2, 1) := by decide +kernel
theorem d_law_391 : decode code 391 = .ok (.aload_n 0, 1) := by decide +kernel
theorem d_law_392 : decode code 392 = .ok (.iload_n 3, 1) := by decide +kernel
theorem d_law_393 : decode code 393 = .ok (.iconst 1, 1) := by decide +kernel
theorem d_law_394 : decode code 394 = .ok (.iadd, 1) := by decide +kernel
theorem d_law_395 : decode code 395 = .ok (.iaload, 1) := by decide +kernel
theorem d_law_396 : decode code 396 = .ok (.aload_n 0, 1) := by decide +kernel
theorem d_law_397 : decode code 397 = .ok (.iload_n 3, 1) := by decide +kernel
theorem d_law_398 : decode code 398 = .ok (.iconst 2, 1) := by decide +kernel
theorem d_law_399 : decode code 399 = .ok (.iadd, 1) := by decide +kernel
theorem d_law_400 : decode code 400 = .ok (.iaload, 1) := by decide +kernel
theorem d_law_401 : decode code 401 = .ok (.aload_n 0, 1) := by decide +kernel
theorem d_law_402 : decode code 402 = .ok (.iload_n 3, 1) := by decide +kernel
theorem d_law_403 : decode code 403 = .ok (.iconst 3, 1) := by decide +kernel
theorem d_law_404 : decode code 404 = .ok (.iadd, 1) := by decide +kernel
theorem d_law_405 : decode code 405 = .ok (.iaload, 1) := by decide +kernel
theorem d_law_406 : decode code 406 = .ok (.aload_n 0, 1) := by decide +kernel
theorem d_law_407 : decode code 407 = .ok (.iload_n 3, 1) := by decide +kernel
theorem d_law_408 : decode code 408 = .ok (.iconst 4, 1) := by decide +kernel
theorem d_law_409 : decode code 409 = .ok (.iadd, 1) := by decide +kernel
theorem d_law_410 : decode code 410 = .ok (.iaload, 1) := by decide +kernel
theorem d_law_411 : decode code 411 = .ok (.aload_n 0, 1) := by decide +kernel
theorem d_law_412 : decode code 412 = .ok (.iload_n 3, 1) := by decide +kernel
theorem d_law_413 : decode code 413 = .ok (.iconst 5, 1) := by decide +kernel
theorem d_law_414 : decode code 414 = .ok (.iadd, 1) := by decide +kernel
theorem d_law_415 : decode code 415 = .ok (.iaload, 1) := by decide +kernel
theorem d_law_416 : decode code 416 = .ok (.invokevirtual 49, 3) := by decide +kernel
theorem d_law_419 : decode code 419 = .ok (.if_icmp .eq 271, 3) := by decide +kernel
theorem d_law_424 : decode code 424 = .ok (.aload_n 1, 1) := by decide +kernel
theorem d_law_425 : decode code 425 = .ok (.aload_n 0, 1) := by decide +kernel
theorem d_law_426 : decode code 426 = .ok (.iload_n 3, 1) := by decide +kernel
theorem d_law_427 : decode code 427 = .ok (.iconst 1, 1) := by decide +kernel
theorem d_law_428 : decode code 428 = .ok (.iadd, 1) := by decide +kernel
theorem d_law_429 : decode code 429 = .ok (.iaload, 1) := by decide +kernel
theorem d_law_430 : decode code 430 = .ok (.aload_n 0, 1) := by decide +kernel
theorem d_law_431 : decode code 431 = .ok (.iload_n 3, 1) := by decide +kernel
theorem d_law_432 : decode code 432 = .ok (.iconst 2, 1) := by decide +kernel
theorem d_law_433 : decode code 433 = .ok (.iadd, 1) := by decide +kernel
theorem d_law_434 : decode code 434 = .ok (.iaload, 1) := by decide +kernel
theorem d_law_435 : decode code 435 = .ok (.invokevirtual 50, 3) := by decide +kernel
theorem d_law_438 : decode code 438 = .ok (.aload_n 2, 1) := by decide +kernel
theorem d_law_439 : decode code 439 = .ok (.aload_n 0, 1) := by decide +kernel
theorem d_law_440 : decode code 440 = .ok (.iload_n 3, 1) := by decide +kernel
theorem d_law_441 : decode code 441 = .ok (.iconst 1, 1) := by decide +kernel
theorem d_law_442 : decode code 442 = .ok (.iadd, 1) := by decide +kernel
theorem d_law_443 : decode code 443 = .ok (.iaload, 1) := by decide +kernel
theorem d_law_444 : decode code 444 = .ok (.aload_n 0, 1) := by decide +kernel
theorem d_law_445 : decode code 445 = .ok (.iload_n 3, 1) := by decide +kernel
theorem d_law_446 : decode code 446 = .ok (.iconst 2, 1) := by decide +kernel
theorem d_law_447 : decode code 447 = .ok (.iadd, 1) := by decide +kernel
theorem d_law_448 : decode code 448 = .ok (.iaload, 1) := by decide +kernel
theorem d_law_449 : decode code 449 = .ok (.invokevirtual 53, 3) := by decide +kernel
theorem d_law_452 : decode code 452 = .ok (.if_icmp .eq 238, 3) := by decide +kernel
theorem d_law_457 : decode code 457 = .ok (.aload_n 1, 1) := by decide +kernel
theorem d_law_458 : decode code 458 = .ok (.aload_n 0, 1) := by decide +kernel
theorem d_law_459 : decode code 459 = .ok (.iload_n 3, 1) := by decide +kernel
theorem d_law_460 : decode code 460 = .ok (.iconst 1, 1) := by decide +kernel
theorem d_law_461 : decode code 461 = .ok (.iadd, 1) := by decide +kernel
theorem d_law_462 : decode code 462 = .ok (.iaload, 1) := by decide +kernel
theorem d_law_463 : decode code 463 = .ok (.invokevirtual 54, 3) := by decide +kernel
theorem d_law_466 : decode code 466 = .ok (.aload_n 2, 1) := by decide +kernel
theorem d_law_467 : decode code 467 = .ok (.aload_n 0, 1) := by decide +kernel
theorem d_law_468 : decode code 468 = .ok (.iload_n 3, 1) := by decide +kernel
theorem d_law_469 : decode code 469 = .ok (.iconst 1, 1) := by decide +kernel
theorem d_law_470 : decode code 470 = .ok (.iadd, 1) := by decide +kernel
theorem d_law_471 : decode code 471 = .ok (.iaload, 1) := by decide +kernel
theorem d_law_472 : decode code 472 = .ok (.invokevirtual 57, 3) := by decide +kernel
theorem d_law_475 : decode code 475 = .ok (.if_icmp .eq 215, 3) := by decide +kernel
theorem d_law_480 : decode code 480 = .ok (.aload_n 1, 1) := by decide +kernel
theorem d_law_481 : decode code 481 = .ok (.invokevirtual 58, 3) := by decide +kernel
theorem d_law_484 : decode code 484 = .ok (.aload_n 2, 1) := by decide +kernel
theorem d_law_485 : decode code 485 = .ok (.invokevirtual 61, 3) := by decide +kernel
theorem d_law_488 : decode code 488 = .ok (.if_icmp .eq 202, 3) := by decide +kernel
theorem d_law_493 : decode code 493 = .ok (.aload_n 1, 1) := by decide +kernel
theorem d_law_494 : decode code 494 = .ok (.invokevirtual 62, 3) := by decide +kernel
theorem d_law_497 : decode code 497 = .ok (.aload_n 2, 1) := by decide +kernel
theorem d_law_498 : decode code 498 = .ok (.invokevirtual 65, 3) := by decide +kernel
theorem d_law_501 : decode code 501 = .ok (.if_icmp .eq 189, 3) := by decide +kernel
theorem d_law_506 : decode code 506 = .ok (.aload_n 1, 1) := by decide +kernel
theorem d_law_507 : decode code 507 = .ok (.aload_n 0, 1) := by decide +kernel
theorem d_law_508 : decode code 508 = .ok (.iload_n 3, 1) := by decide +kernel
theorem d_law_509 : decode code 509 = .ok (.iconst 1, 1) := by decide +kernel
theorem d_law_510 : decode code 510 = .ok (.iadd, 1) := by decide +kernel
theorem d_law_511 : decode code 511 = .ok (.iaload, 1) := by decide +kernel
theorem d_law_512 : decode code 512 = .ok (.invokevirtual 66, 3) := by decide +kernel
theorem d_law_515 : decode code 515 = .ok (.aload_n 2, 1) := by decide +kernel
theorem d_law_516 : decode code 516 = .ok (.aload_n 0, 1) := by decide +kernel
theorem d_law_517 : decode code 517 = .ok (.iload_n 3, 1) := by decide +kernel
theorem d_law_518 : decode code 518 = .ok (.iconst 1, 1) := by decide +kernel
theorem d_law_519 : decode code 519 = .ok (.iadd, 1) := by decide +kernel
theorem d_law_520 : decode code 520 = .ok (.iaload, 1) := by decide +kernel
theorem d_law_521 : decode code 521 = .ok (.invokevirtual 70, 3) := by decide +kernel
theorem d_law_524 : decode code 524 = .ok (.lcmp, 1) := by decide +kernel
theorem d_law_525 : decode code 525 = .ok (.ifCond .eq 165, 3) := by decide +kernel
theorem d_law_530 : decode code 530 = .ok (.aload_n 1, 1) := by decide +kernel
theorem d_law_531 : decode code 531 = .ok (.aload_n 0, 1) := by decide +kernel
theorem d_law_532 : decode code 532 = .ok (.iload_n 3, 1) := by decide +kernel
theorem d_law_533 : decode code 533 = .ok (.iconst 1, 1) := by decide +kernel
theorem d_law_534 : decode code 534 = .ok (.iadd, 1) := by decide +kernel
theorem d_law_535 : decode code 535 = .ok (.iaload, 1) := by decide +kernel
theorem d_law_536 : decode code 536 = .ok (.aload_n 0, 1) := by decide +kernel
theorem d_law_537 : decode code 537 = .ok (.iload_n 3, 1) := by decide +kernel
theorem d_law_538 : decode code 538 = .ok (.iconst 2, 1) := by decide +kernel
theorem d_law_539 : decode code 539 = .ok (.iadd, 1) := by decide +kernel
theorem d_law_540 : decode code 540 = .ok (.iaload, 1) := by decide +kernel
theorem d_law_541 : decode code 541 = .ok (.invokevirtual 71, 3) := by decide +kernel
theorem d_law_544 : decode code 544 = .ok (.aload_n 2, 1) := by decide +kernel
theorem d_law_545 : decode code 545 = .ok (.aload_n 0, 1) := by decide +kernel
theorem d_law_546 : decode code 546 = .ok (.iload_n 3, 1) := by decide +kernel
theorem d_law_547 : decode code 547 = .ok (.iconst 1, 1) := by decide +kernel
theorem d_law_548 : decode code 548 = .ok (.iadd, 1) := by decide +kernel
theorem d_law_549 : decode code 549 = .ok (.iaload, 1) := by decide +kernel
theorem d_law_550 : decode code 550 = .ok (.aload_n 0, 1) := by decide +kernel
theorem d_law_551 : decode code 551 = .ok (.iload_n 3, 1) := by decide +kernel
theorem d_law_552 : decode code 552 = .ok (.iconst 2, 1) := by decide +kernel
theorem d_law_553 : decode code 553 = .ok (.iadd, 1) := by decide +kernel
theorem d_law_554 : decode code 554 = .ok (.iaload, 1) := by decide +kernel
theorem d_law_555 : decode code 555 = .ok (.invokevirtual 74, 3) := by decide +kernel
theorem d_law_558 : decode code 558 = .ok (.if_icmp .eq 132, 3) := by decide +kernel
theorem d_law_563 : decode code 563 = .ok (.aload_n 1, 1) := by decide +kernel
theorem d_law_564 : decode code 564 = .ok (.aload_n 0, 1) := by decide +kernel
theorem d_law_565 : decode code 565 = .ok (.iload_n 3, 1) := by decide +kernel
theorem d_law_566 : decode code 566 = .ok (.iconst 1, 1) := by decide +kernel
theorem d_law_567 : decode code 567 = .ok (.iadd, 1) := by decide +kernel
theorem d_law_568 : decode code 568 = .ok (.iaload, 1) := by decide +kernel
theorem d_law_569 : decode code 569 = .ok (.aload_n 0, 1) := by decide +kernel
theorem d_law_570 : decode code 570 = .ok (.iload_n 3, 1) := by decide +kernel
theorem d_law_571 : decode code 571 = .ok (.iconst 2, 1) := by decide +kernel
theorem d_law_572 : decode code 572 = .ok (.iadd, 1) := by decide +kernel
theorem d_law_573 : decode code 573 = .ok (.iaload, 1) := by decide +kernel
theorem d_law_574 : decode code 574 = .ok (.invokevirtual 75, 3) := by decide +kernel
theorem d_law_577 : decode code 577 = .ok (.aload_n 2, 1) := by decide +kernel
theorem d_law_578 : decode code 578 = .ok (.aload_n 0, 1) := by decide +kernel
theorem d_law_579 : decode code 579 = .ok (.iload_n 3, 1) := by decide +kernel
theorem d_law_580 : decode code 580 = .ok (.iconst 1, 1) := by decide +kernel
theorem d_law_581 : decode code 581 = .ok (.iadd, 1) := by decide +kernel
theorem d_law_582 : decode code 582 = .ok (.iaload, 1) := by decide +kernel
theorem d_law_583 : decode code 583 = .ok (.aload_n 0, 1) := by decide +kernel
theorem d_law_584 : decode code 584 = .ok (.iload_n 3, 1) := by decide +kernel
theorem d_law_585 : decode code 585 = .ok (.iconst 2, 1) := by decide +kernel
theorem d_law_586 : decode code 586 = .ok (.iadd, 1) := by decide +kernel
theorem d_law_587 : decode code 587 = .ok (.iaload, 1) := by decide +kernel
theorem d_law_588 : decode code 588 = .ok (.invokevirtual 78, 3) := by decide +kernel
theorem d_law_591 : decode code 591 = .ok (.if_icmp .eq 99, 3) := by decide +kernel
theorem d_law_596 : decode code 596 = .ok (.aload_n 1, 1) := by decide +kernel
theorem d_law_597 : decode code 597 = .ok (.invokevirtual 79, 3) := by decide +kernel
theorem d_law_600 : decode code 600 = .ok (.aload_n 2, 1) := by decide +kernel
theorem d_law_601 : decode code 601 = .ok (.invokevirtual 83, 3) := by decide +kernel
theorem d_law_604 : decode code 604 = .ok (.lcmp, 1) := by decide +kernel
theorem d_law_605 : decode code 605 = .ok (.ifCond .eq 85, 3) := by decide +kernel
theorem d_law_610 : decode code 610 = .ok (.aload_n 1, 1) := by decide +kernel
theorem d_law_611 : decode code 611 = .ok (.aload_n 0, 1) := by decide +kernel
theorem d_law_612 : decode code 612 = .ok (.iload_n 3, 1) := by decide +kernel
theorem d_law_613 : decode code 613 = .ok (.iconst 1, 1) := by decide +kernel
theorem d_law_614 : decode code 614 = .ok (.iadd, 1) := by decide +kernel
theorem d_law_615 : decode code 615 = .ok (.iaload, 1) := by decide +kernel
theorem d_law_616 : decode code 616 = .ok (.aload_n 0, 1) := by decide +kernel
theorem d_law_617 : decode code 617 = .ok (.iload_n 3, 1) := by decide +kernel
theorem d_law_618 : decode code 618 = .ok (.iconst 2, 1) := by decide +kernel
theorem d_law_619 : decode code 619 = .ok (.iadd, 1) := by decide +kernel
theorem d_law_620 : decode code 620 = .ok (.iaload, 1) := by decide +kernel
theorem d_law_621 : decode code 621 = .ok (.invokevirtual 84, 3) := by decide +kernel
theorem d_law_624 : decode code 624 = .ok (.aload_n 2, 1) := by decide +kernel
theorem d_law_625 : decode code 625 = .ok (.aload_n 0, 1) := by decide +kernel
theorem d_law_626 : decode code 626 = .ok (.iload_n 3, 1) := by decide +kernel
theorem d_law_627 : decode code 627 = .ok (.iconst 1, 1) := by decide +kernel
theorem d_law_628 : decode code 628 = .ok (.iadd, 1) := by decide +kernel
theorem d_law_629 : decode code 629 = .ok (.iaload, 1) := by decide +kernel
theorem d_law_630 : decode code 630 = .ok (.aload_n 0, 1) := by decide +kernel
theorem d_law_631 : decode code 631 = .ok (.iload_n 3, 1) := by decide +kernel
theorem d_law_632 : decode code 632 = .ok (.iconst 2, 1) := by decide +kernel
theorem d_law_633 : decode code 633 = .ok (.iadd, 1) := by decide +kernel
theorem d_law_634 : decode code 634 = .ok (.iaload, 1) := by decide +kernel
theorem d_law_635 : decode code 635 = .ok (.invokevirtual 87, 3) := by decide +kernel
theorem d_law_638 : decode code 638 = .ok (.if_icmp .eq 52, 3) := by decide +kernel
theorem d_law_643 : decode code 643 = .ok (.aload_n 1, 1) := by decide +kernel
theorem d_law_644 : decode code 644 = .ok (.aload_n 0, 1) := by decide +kernel
theorem d_law_645 : decode code 645 = .ok (.iload_n 3, 1) := by decide +kernel
theorem d_law_646 : decode code 646 = .ok (.iconst 1, 1) := by decide +kernel
theorem d_law_647 : decode code 647 = .ok (.iadd, 1) := by decide +kernel
theorem d_law_648 : decode code 648 = .ok (.iaload, 1) := by decide +kernel
theorem d_law_649 : decode code 649 = .ok (.invokevirtual 88, 3) := by decide +kernel
theorem d_law_652 : decode code 652 = .ok (.aload_n 2, 1) := by decide +kernel
theorem d_law_653 : decode code 653 = .ok (.aload_n 0, 1) := by decide +kernel
theorem d_law_654 : decode code 654 = .ok (.iload_n 3, 1) := by decide +kernel
theorem d_law_655 : decode code 655 = .ok (.iconst 1, 1) := by decide +kernel
theorem d_law_656 : decode code 656 = .ok (.iadd, 1) := by decide +kernel
theorem d_law_657 : decode code 657 = .ok (.iaload, 1) := by decide +kernel
theorem d_law_658 : decode code 658 = .ok (.invokevirtual 91, 3) := by decide +kernel
theorem d_law_661 : decode code 661 = .ok (.if_icmp .eq 29, 3) := by decide +kernel
theorem d_law_666 : decode code 666 = .ok (.aload_n 1, 1) := by decide +kernel
theorem d_law_667 : decode code 667 = .ok (.aload_n 0, 1) := by decide +kernel
theorem d_law_668 : decode code 668 = .ok (.iload_n 3, 1) := by decide +kernel
theorem d_law_669 : decode code 669 = .ok (.iconst 1, 1) := by decide +kernel
theorem d_law_670 : decode code 670 = .ok (.iadd, 1) := by decide +kernel
theorem d_law_671 : decode code 671 = .ok (.iaload, 1) := by decide +kernel
theorem d_law_672 : decode code 672 = .ok (.invokevirtual 92, 3) := by decide +kernel
theorem d_law_675 : decode code 675 = .ok (.aload_n 2, 1) := by decide +kernel
theorem d_law_676 : decode code 676 = .ok (.aload_n 0, 1) := by decide +kernel
theorem d_law_677 : decode code 677 = .ok (.iload_n 3, 1) := by decide +kernel
theorem d_law_678 : decode code 678 = .ok (.iconst 1, 1) := by decide +kernel
theorem d_law_679 : decode code 679 = .ok (.iadd, 1) := by decide +kernel
theorem d_law_680 : decode code 680 = .ok (.iaload, 1) := by decide +kernel
theorem d_law_681 : decode code 681 = .ok (.invokevirtual 95, 3) := by decide +kernel
theorem d_law_684 : decode code 684 = .ok (.lcmp, 1) := by decide +kernel
theorem d_law_685 : decode code 685 = .ok (.ifCond .eq 5, 3) := by decide +kernel
theorem d_law_690 : decode code 690 = .ok (.iinc 3 6, 3) := by decide +kernel
theorem d_law_693 : decode code 693 = .ok (.goto (-675), 3) := by decide +kernel
theorem d_law_696 : decode code 696 = .ok (.iconst 1, 1) := by decide +kernel
theorem d_law_697 : decode code 697 = .ok (.ireturn, 1) := by decide +kernel
