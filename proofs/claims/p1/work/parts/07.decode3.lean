theorem d_Mo_round_60 : decode b_Mo_round 60 = .ok (.ishl, 1) := by decide +kernel
theorem d_Mo_round_61 : decode b_Mo_round 61 = .ok (.ior, 1) := by decide +kernel
theorem d_Mo_round_62 : decode b_Mo_round 62 = .ok (.iload_n 3, 1) := by decide +kernel
theorem d_Mo_round_63 : decode b_Mo_round 63 = .ok (.bipush 19, 2) := by decide +kernel
theorem d_Mo_round_65 : decode b_Mo_round 65 = .ok (.iushr, 1) := by decide +kernel
theorem d_Mo_round_66 : decode b_Mo_round 66 = .ok (.iload_n 3, 1) := by decide +kernel
theorem d_Mo_round_67 : decode b_Mo_round 67 = .ok (.bipush 13, 2) := by decide +kernel
theorem d_Mo_round_69 : decode b_Mo_round 69 = .ok (.ishl, 1) := by decide +kernel
theorem d_Mo_round_70 : decode b_Mo_round 70 = .ok (.ior, 1) := by decide +kernel
theorem d_Mo_round_71 : decode b_Mo_round 71 = .ok (.ixor, 1) := by decide +kernel
theorem d_Mo_round_72 : decode b_Mo_round 72 = .ok (.iload_n 3, 1) := by decide +kernel
theorem d_Mo_round_73 : decode b_Mo_round 73 = .ok (.bipush 10, 2) := by decide +kernel
theorem d_Mo_round_75 : decode b_Mo_round 75 = .ok (.iushr, 1) := by decide +kernel
theorem d_Mo_round_76 : decode b_Mo_round 76 = .ok (.ixor, 1) := by decide +kernel
theorem d_Mo_round_77 : decode b_Mo_round 77 = .ok (.istore 5, 2) := by decide +kernel
theorem d_Mo_round_79 : decode b_Mo_round 79 = .ok (.aload_n 0, 1) := by decide +kernel
theorem d_Mo_round_80 : decode b_Mo_round 80 = .ok (.getfield 97, 3) := by decide +kernel
theorem d_Mo_round_83 : decode b_Mo_round 83 = .ok (.iload_n 1, 1) := by decide +kernel
theorem d_Mo_round_84 : decode b_Mo_round 84 = .ok (.aload_n 0, 1) := by decide +kernel
theorem d_Mo_round_85 : decode b_Mo_round 85 = .ok (.getfield 97, 3) := by decide +kernel
theorem d_Mo_round_88 : decode b_Mo_round 88 = .ok (.iload_n 1, 1) := by decide +kernel
theorem d_Mo_round_89 : decode b_Mo_round 89 = .ok (.bipush 16, 2) := by decide +kernel
theorem d_Mo_round_91 : decode b_Mo_round 91 = .ok (.isub, 1) := by decide +kernel
theorem d_Mo_round_92 : decode b_Mo_round 92 = .ok (.iaload, 1) := by decide +kernel
theorem d_Mo_round_93 : decode b_Mo_round 93 = .ok (.iload 4, 2) := by decide +kernel
theorem d_Mo_round_95 : decode b_Mo_round 95 = .ok (.iadd, 1) := by decide +kernel
theorem d_Mo_round_96 : decode b_Mo_round 96 = .ok (.aload_n 0, 1) := by decide +kernel
theorem d_Mo_round_97 : decode b_Mo_round 97 = .ok (.getfield 97, 3) := by decide +kernel
theorem d_Mo_round_100 : decode b_Mo_round 100 = .ok (.iload_n 1, 1) := by decide +kernel
theorem d_Mo_round_101 : decode b_Mo_round 101 = .ok (.bipush 7, 2) := by decide +kernel
theorem d_Mo_round_103 : decode b_Mo_round 103 = .ok (.isub, 1) := by decide +kernel
theorem d_Mo_round_104 : decode b_Mo_round 104 = .ok (.iaload, 1) := by decide +kernel
theorem d_Mo_round_105 : decode b_Mo_round 105 = .ok (.iadd, 1) := by decide +kernel
theorem d_Mo_round_106 : decode b_Mo_round 106 = .ok (.iload 5, 2) := by decide +kernel
theorem d_Mo_round_108 : decode b_Mo_round 108 = .ok (.iadd, 1) := by decide +kernel
theorem d_Mo_round_109 : decode b_Mo_round 109 = .ok (.iastore, 1) := by decide +kernel
theorem d_Mo_round_110 : decode b_Mo_round 110 = .ok (.iinc 1 1, 3) := by decide +kernel
theorem d_Mo_round_113 : decode b_Mo_round 113 = .ok (.goto (-110), 3) := by decide +kernel
theorem d_Mo_round_116 : decode b_Mo_round 116 = .ok (.aload_n 0, 1) := by decide +kernel
theorem d_Mo_round_117 : decode b_Mo_round 117 = .ok (.getfield 100, 3) := by decide +kernel
theorem d_Mo_round_120 : decode b_Mo_round 120 = .ok (.iconst 0, 1) := by decide +kernel
theorem d_Mo_round_121 : decode b_Mo_round 121 = .ok (.iaload, 1) := by decide +kernel
theorem d_Mo_round_122 : decode b_Mo_round 122 = .ok (.istore_n 1, 1) := by decide +kernel
theorem d_Mo_round_123 : decode b_Mo_round 123 = .ok (.aload_n 0, 1) := by decide +kernel
theorem d_Mo_round_124 : decode b_Mo_round 124 = .ok (.getfield 100, 3) := by decide +kernel
theorem d_Mo_round_127 : decode b_Mo_round 127 = .ok (.iconst 1, 1) := by decide +kernel
theorem d_Mo_round_128 : decode b_Mo_round 128 = .ok (.iaload, 1) := by decide +kernel
theorem d_Mo_round_129 : decode b_Mo_round 129 = .ok (.istore_n 2, 1) := by decide +kernel
theorem d_Mo_round_130 : decode b_Mo_round 130 = .ok (.aload_n 0, 1) := by decide +kernel
theorem d_Mo_round_131 : decode b_Mo_round 131 = .ok (.getfield 100, 3) := by decide +kernel
theorem d_Mo_round_134 : decode b_Mo_round 134 = .ok (.iconst 2, 1) := by decide +kernel
theorem d_Mo_round_135 : decode b_Mo_round 135 = .ok (.iaload, 1) := by decide +kernel
theorem d_Mo_round_136 : decode b_Mo_round 136 = .ok (.istore_n 3, 1) := by decide +kernel
theorem d_Mo_round_137 : decode b_Mo_round 137 = .ok (.aload_n 0, 1) := by decide +kernel
theorem d_Mo_round_138 : decode b_Mo_round 138 = .ok (.getfield 100, 3) := by decide +kernel
theorem d_Mo_round_141 : decode b_Mo_round 141 = .ok (.iconst 3, 1) := by decide +kernel
theorem d_Mo_round_142 : decode b_Mo_round 142 = .ok (.iaload, 1) := by decide +kernel
theorem d_Mo_round_143 : decode b_Mo_round 143 = .ok (.istore 4, 2) := by decide +kernel
theorem d_Mo_round_145 : decode b_Mo_round 145 = .ok (.aload_n 0, 1) := by decide +kernel
theorem d_Mo_round_146 : decode b_Mo_round 146 = .ok (.getfield 100, 3) := by decide +kernel
theorem d_Mo_round_149 : decode b_Mo_round 149 = .ok (.iconst 4, 1) := by decide +kernel
theorem d_Mo_round_150 : decode b_Mo_round 150 = .ok (.iaload, 1) := by decide +kernel
theorem d_Mo_round_151 : decode b_Mo_round 151 = .ok (.istore 5, 2) := by decide +kernel
theorem d_Mo_round_153 : decode b_Mo_round 153 = .ok (.aload_n 0, 1) := by decide +kernel
theorem d_Mo_round_154 : decode b_Mo_round 154 = .ok (.getfield 100, 3) := by decide +kernel
theorem d_Mo_round_157 : decode b_Mo_round 157 = .ok (.iconst 5, 1) := by decide +kernel
theorem d_Mo_round_158 : decode b_Mo_round 158 = .ok (.iaload, 1) := by decide +kernel
theorem d_Mo_round_159 : decode b_Mo_round 159 = .ok (.istore 6, 2) := by decide +kernel
theorem d_Mo_round_161 : decode b_Mo_round 161 = .ok (.aload_n 0, 1) := by decide +kernel
theorem d_Mo_round_162 : decode b_Mo_round 162 = .ok (.getfield 100, 3) := by decide +kernel
theorem d_Mo_round_165 : decode b_Mo_round 165 = .ok (.bipush 6, 2) := by decide +kernel
theorem d_Mo_round_167 : decode b_Mo_round 167 = .ok (.iaload, 1) := by decide +kernel
theorem d_Mo_round_168 : decode b_Mo_round 168 = .ok (.istore 7, 2) := by decide +kernel
theorem d_Mo_round_170 : decode b_Mo_round 170 = .ok (.aload_n 0, 1) := by decide +kernel
theorem d_Mo_round_171 : decode b_Mo_round 171 = .ok (.getfield 100, 3) := by decide +kernel
theorem d_Mo_round_174 : decode b_Mo_round 174 = .ok (.bipush 7, 2) := by decide +kernel
theorem d_Mo_round_176 : decode b_Mo_round 176 = .ok (.iaload, 1) := by decide +kernel
theorem d_Mo_round_177 : decode b_Mo_round 177 = .ok (.istore 8, 2) := by decide +kernel
theorem d_Mo_round_179 : decode b_Mo_round 179 = .ok (.iconst 0, 1) := by decide +kernel
theorem d_Mo_round_180 : decode b_Mo_round 180 = .ok (.istore 9, 2) := by decide +kernel
theorem d_Mo_round_182 : decode b_Mo_round 182 = .ok (.iload 9, 2) := by decide +kernel
theorem d_Mo_round_184 : decode b_Mo_round 184 = .ok (.bipush 64, 2) := by decide +kernel
theorem d_Mo_round_186 : decode b_Mo_round 186 = .ok (.if_icmp .ge 152, 3) := by decide +kernel
theorem d_Mo_round_189 : decode b_Mo_round 189 = .ok (.iload 8, 2) := by decide +kernel
theorem d_Mo_round_191 : decode b_Mo_round 191 = .ok (.iload 5, 2) := by decide +kernel
theorem d_Mo_round_193 : decode b_Mo_round 193 = .ok (.bipush 6, 2) := by decide +kernel
theorem d_Mo_round_195 : decode b_Mo_round 195 = .ok (.iushr, 1) := by decide +kernel
theorem d_Mo_round_196 : decode b_Mo_round 196 = .ok (.iload 5, 2) := by decide +kernel
theorem d_Mo_round_198 : decode b_Mo_round 198 = .ok (.bipush 26, 2) := by decide +kernel
theorem d_Mo_round_200 : decode b_Mo_round 200 = .ok (.ishl, 1) := by decide +kernel
theorem d_Mo_round_201 : decode b_Mo_round 201 = .ok (.ior, 1) := by decide +kernel
theorem d_Mo_round_202 : decode b_Mo_round 202 = .ok (.iload 5, 2) := by decide +kernel
theorem d_Mo_round_204 : decode b_Mo_round 204 = .ok (.bipush 11, 2) := by decide +kernel
theorem d_Mo_round_206 : decode b_Mo_round 206 = .ok (.iushr, 1) := by decide +kernel
theorem d_Mo_round_207 : decode b_Mo_round 207 = .ok (.iload 5, 2) := by decide +kernel
theorem d_Mo_round_209 : decode b_Mo_round 209 = .ok (.bipush 21, 2) := by decide +kernel
theorem d_Mo_round_211 : decode b_Mo_round 211 = .ok (.ishl, 1) := by decide +kernel
theorem d_Mo_round_212 : decode b_Mo_round 212 = .ok (.ior, 1) := by decide +kernel
theorem d_Mo_round_213 : decode b_Mo_round 213 = .ok (.ixor, 1) := by decide +kernel
theorem d_Mo_round_214 : decode b_Mo_round 214 = .ok (.iload 5, 2) := by decide +kernel
theorem d_Mo_round_216 : decode b_Mo_round 216 = .ok (.bipush 25, 2) := by decide +kernel
theorem d_Mo_round_218 : decode b_Mo_round 218 = .ok (.iushr, 1) := by decide +kernel
theorem d_Mo_round_219 : decode b_Mo_round 219 = .ok (.iload 5, 2) := by decide +kernel
theorem d_Mo_round_221 : decode b_Mo_round 221 = .ok (.bipush 7, 2) := by decide +kernel
theorem d_Mo_round_223 : decode b_Mo_round 223 = .ok (.ishl, 1) := by decide +kernel
theorem d_Mo_round_224 : decode b_Mo_round 224 = .ok (.ior, 1) := by decide +kernel
theorem d_Mo_round_225 : decode b_Mo_round 225 = .ok (.ixor, 1) := by decide +kernel
theorem d_Mo_round_226 : decode b_Mo_round 226 = .ok (.iadd, 1) := by decide +kernel
theorem d_Mo_round_227 : decode b_Mo_round 227 = .ok (.iload 5, 2) := by decide +kernel
theorem d_Mo_round_229 : decode b_Mo_round 229 = .ok (.iload 6, 2) := by decide +kernel
theorem d_Mo_round_231 : decode b_Mo_round 231 = .ok (.iand, 1) := by decide +kernel
theorem d_Mo_round_232 : decode b_Mo_round 232 = .ok (.iload 5, 2) := by decide +kernel
theorem d_Mo_round_234 : decode b_Mo_round 234 = .ok (.iconst (-1), 1) := by decide +kernel
theorem d_Mo_round_235 : decode b_Mo_round 235 = .ok (.ixor, 1) := by decide +kernel
theorem d_Mo_round_236 : decode b_Mo_round 236 = .ok (.iload 7, 2) := by decide +kernel
theorem d_Mo_round_238 : decode b_Mo_round 238 = .ok (.iand, 1) := by decide +kernel
theorem d_Mo_round_239 : decode b_Mo_round 239 = .ok (.ixor, 1) := by decide +kernel
theorem d_Mo_round_240 : decode b_Mo_round 240 = .ok (.iadd, 1) := by decide +kernel
theorem d_Mo_round_241 : decode b_Mo_round 241 = .ok (.getstatic 150, 3) := by decide +kernel
theorem d_Mo_round_244 : decode b_Mo_round 244 = .ok (.iload 9, 2) := by decide +kernel
theorem d_Mo_round_246 : decode b_Mo_round 246 = .ok (.iaload, 1) := by decide +kernel
theorem d_Mo_round_247 : decode b_Mo_round 247 = .ok (.iadd, 1) := by decide +kernel
theorem d_Mo_round_248 : decode b_Mo_round 248 = .ok (.aload_n 0, 1) := by decide +kernel
theorem d_Mo_round_249 : decode b_Mo_round 249 = .ok (.getfield 97, 3) := by decide +kernel
theorem d_Mo_round_252 : decode b_Mo_round 252 = .ok (.iload 9, 2) := by decide +kernel
theorem d_Mo_round_254 : decode b_Mo_round 254 = .ok (.iaload, 1) := by decide +kernel
theorem d_Mo_round_255 : decode b_Mo_round 255 = .ok (.iadd, 1) := by decide +kernel
theorem d_Mo_round_256 : decode b_Mo_round 256 = .ok (.istore 10, 2) := by decide +kernel
theorem d_Mo_round_258 : decode b_Mo_round 258 = .ok (.iload_n 1, 1) := by decide +kernel
theorem d_Mo_round_259 : decode b_Mo_round 259 = .ok (.iconst 2, 1) := by decide +kernel
theorem d_Mo_round_260 : decode b_Mo_round 260 = .ok (.iushr, 1) := by decide +kernel
theorem d_Mo_round_261 : decode b_Mo_round 261 = .ok (.iload_n 1, 1) := by decide +kernel
theorem d_Mo_round_262 : decode b_Mo_round 262 = .ok (.bipush 30, 2) := by decide +kernel
theorem d_Mo_round_264 : decode b_Mo_round 264 = .ok (.ishl, 1) := by decide +kernel
theorem d_Mo_round_265 : decode b_Mo_round 265 = .ok (.ior, 1) := by decide +kernel
theorem d_Mo_round_266 : decode b_Mo_round 266 = .ok (.iload_n 1, 1) := by decide +kernel
theorem d_Mo_round_267 : decode b_Mo_round 267 = .ok (.bipush 13, 2) := by decide +kernel
theorem d_Mo_round_269 : decode b_Mo_round 269 = .ok (.iushr, 1) := by decide +kernel
theorem d_Mo_round_270 : decode b_Mo_round 270 = .ok (.iload_n 1, 1) := by decide +kernel
theorem d_Mo_round_271 : decode b_Mo_round 271 = .ok (.bipush 19, 2) := by decide +kernel
theorem d_Mo_round_273 : decode b_Mo_round 273 = .ok (.ishl, 1) := by decide +kernel
theorem d_Mo_round_274 : decode b_Mo_round 274 = .ok (.ior, 1) := by decide +kernel
theorem d_Mo_round_275 : decode b_Mo_round 275 = .ok (.ixor, 1) := by decide +kernel
theorem d_Mo_round_276 : decode b_Mo_round 276 = .ok (.iload_n 1, 1) := by decide +kernel
theorem d_Mo_round_277 : decode b_Mo_round 277 = .ok (.bipush 22, 2) := by decide +kernel
theorem d_Mo_round_279 : decode b_Mo_round 279 = .ok (.iushr, 1) := by decide +kernel
theorem d_Mo_round_280 : decode b_Mo_round 280 = .ok (.iload_n 1, 1) := by decide +kernel
theorem d_Mo_round_281 : decode b_Mo_round 281 = .ok (.bipush 10, 2) := by decide +kernel
theorem d_Mo_round_283 : decode b_Mo_round 283 = .ok (.ishl, 1) := by decide +kernel
theorem d_Mo_round_284 : decode b_Mo_round 284 = .ok (.ior, 1) := by decide +kernel
theorem d_Mo_round_285 : decode b_Mo_round 285 = .ok (.ixor, 1) := by decide +kernel
theorem d_Mo_round_286 : decode b_Mo_round 286 = .ok (.iload_n 1, 1) := by decide +kernel
theorem d_Mo_round_287 : decode b_Mo_round 287 = .ok (.iload_n 2, 1) := by decide +kernel
theorem d_Mo_round_288 : decode b_Mo_round 288 = .ok (.iand, 1) := by decide +kernel
theorem d_Mo_round_289 : decode b_Mo_round 289 = .ok (.iload_n 1, 1) := by decide +kernel
theorem d_Mo_round_290 : decode b_Mo_round 290 = .ok (.iload_n 3, 1) := by decide +kernel
theorem d_Mo_round_291 : decode b_Mo_round 291 = .ok (.iand, 1) := by decide +kernel
theorem d_Mo_round_292 : decode b_Mo_round 292 = .ok (.ixor, 1) := by decide +kernel
theorem d_Mo_round_293 : decode b_Mo_round 293 = .ok (.iload_n 2, 1) := by decide +kernel
theorem d_Mo_round_294 : decode b_Mo_round 294 = .ok (.iload_n 3, 1) := by decide +kernel
theorem d_Mo_round_295 : decode b_Mo_round 295 = .ok (.iand, 1) := by decide +kernel
theorem d_Mo_round_296 : decode b_Mo_round 296 = .ok (.ixor, 1) := by decide +kernel
theorem d_Mo_round_297 : decode b_Mo_round 297 = .ok (.iadd, 1) := by decide +kernel
theorem d_Mo_round_298 : decode b_Mo_round 298 = .ok (.istore 11, 2) := by decide +kernel
theorem d_Mo_round_300 : decode b_Mo_round 300 = .ok (.iload 7, 2) := by decide +kernel
theorem d_Mo_round_302 : decode b_Mo_round 302 = .ok (.istore 8, 2) := by decide +kernel
theorem d_Mo_round_304 : decode b_Mo_round 304 = .ok (.iload 6, 2) := by decide +kernel
theorem d_Mo_round_306 : decode b_Mo_round 306 = .ok (.istore 7, 2) := by decide +kernel
theorem d_Mo_round_308 : decode b_Mo_round 308 = .ok (.iload 5, 2) := by decide +kernel
theorem d_Mo_round_310 : decode b_Mo_round 310 = .ok (.istore 6, 2) := by decide +kernel
theorem d_Mo_round_312 : decode b_Mo_round 312 = .ok (.iload 4, 2) := by decide +kernel
theorem d_Mo_round_314 : decode b_Mo_round 314 = .ok (.iload 10, 2) := by decide +kernel
theorem d_Mo_round_316 : decode b_Mo_round 316 = .ok (.iadd, 1) := by decide +kernel
theorem d_Mo_round_317 : decode b_Mo_round 317 = .ok (.istore 5, 2) := by decide +kernel
theorem d_Mo_round_319 : decode b_Mo_round 319 = .ok (.iload_n 3, 1) := by decide +kernel
theorem d_Mo_round_320 : decode b_Mo_round 320 = .ok (.istore 4, 2) := by decide +kernel
theorem d_Mo_round_322 : decode b_Mo_round 322 = .ok (.iload_n 2, 1) := by decide +kernel
theorem d_Mo_round_323 : decode b_Mo_round 323 = .ok (.istore_n 3, 1) := by decide +kernel
theorem d_Mo_round_324 : decode b_Mo_round 324 = .ok (.iload_n 1, 1) := by decide +kernel
theorem d_Mo_round_325 : decode b_Mo_round 325 = .ok (.istore_n 2, 1) := by decide +kernel
theorem d_Mo_round_326 : decode b_Mo_round 326 = .ok (.iload 10, 2) := by decide +kernel
theorem d_Mo_round_328 : decode b_Mo_round 328 = .ok (.iload 11, 2) := by decide +kernel
theorem d_Mo_round_330 : decode b_Mo_round 330 = .ok (.iadd, 1) := by decide +kernel
theorem d_Mo_round_331 : decode b_Mo_round 331 = .ok (.istore_n 1, 1) := by decide +kernel
theorem d_Mo_round_332 : decode b_Mo_round 332 = .ok (.iinc 9 1, 3) := by decide +kernel
theorem d_Mo_round_335 : decode b_Mo_round 335 = .ok (.goto (-153), 3) := by decide +kernel
theorem d_Mo_round_338 : decode b_Mo_round 338 = .ok (.aload_n 0, 1) := by decide +kernel
theorem d_Mo_round_339 : decode b_Mo_round 339 = .ok (.getfield 100, 3) := by decide +kernel
theorem d_Mo_round_342 : decode b_Mo_round 342 = .ok (.iconst 0, 1) := by decide +kernel
theorem d_Mo_round_343 : decode b_Mo_round 343 = .ok (.dup2, 1) := by decide +kernel
theorem d_Mo_round_344 : decode b_Mo_round 344 = .ok (.iaload, 1) := by decide +kernel
theorem d_Mo_round_345 : decode b_Mo_round 345 = .ok (.iload_n 1, 1) := by decide +kernel
theorem d_Mo_round_346 : decode b_Mo_round 346 = .ok (.iadd, 1) := by decide +kernel
theorem d_Mo_round_347 : decode b_Mo_round 347 = .ok (.iastore, 1) := by decide +kernel
theorem d_Mo_round_348 : decode b_Mo_round 348 = .ok (.aload_n 0, 1) := by decide +kernel
theorem d_Mo_round_349 : decode b_Mo_round 349 = .ok (.getfield 100, 3) := by decide +kernel
theorem d_Mo_round_352 : decode b_Mo_round 352 = .ok (.iconst 1, 1) := by decide +kernel
theorem d_Mo_round_353 : decode b_Mo_round 353 = .ok (.dup2, 1) := by decide +kernel
theorem d_Mo_round_354 : decode b_Mo_round 354 = .ok (.iaload, 1) := by decide +kernel
theorem d_Mo_round_355 : decode b_Mo_round 355 = .ok (.iload_n 2, 1) := by decide +kernel
theorem d_Mo_round_356 : decode b_Mo_round 356 = .ok (.iadd, 1) := by decide +kernel
theorem d_Mo_round_357 : decode b_Mo_round 357 = .ok (.iastore, 1) := by decide +kernel
theorem d_Mo_round_358 : decode b_Mo_round 358 = .ok (.aload_n 0, 1) := by decide +kernel
theorem d_Mo_round_359 : decode b_Mo_round 359 = .ok (.getfield 100, 3) := by decide +kernel
theorem d_Mo_round_362 : decode b_Mo_round 362 = .ok (.iconst 2, 1) := by decide +kernel
theorem d_Mo_round_363 : decode b_Mo_round 363 = .ok (.dup2, 1) := by decide +kernel
theorem d_Mo_round_364 : decode b_Mo_round 364 = .ok (.iaload, 1) := by decide +kernel
theorem d_Mo_round_365 : decode b_Mo_round 365 = .ok (.iload_n 3, 1) := by decide +kernel
theorem d_Mo_round_366 : decode b_Mo_round 366 = .ok (.iadd, 1) := by decide +kernel
theorem d_Mo_round_367 : decode b_Mo_round 367 = .ok (.iastore, 1) := by decide +kernel
theorem d_Mo_round_368 : decode b_Mo_round 368 = .ok (.aload_n 0, 1) := by decide +kernel
theorem d_Mo_round_369 : decode b_Mo_round 369 = .ok (.getfield 100, 3) := by decide +kernel
theorem d_Mo_round_372 : decode b_Mo_round 372 = .ok (.iconst 3, 1) := by decide +kernel
theorem d_Mo_round_373 : decode b_Mo_round 373 = .ok (.dup2, 1) := by decide +kernel
theorem d_Mo_round_374 : decode b_Mo_round 374 = .ok (.iaload, 1) := by decide +kernel
theorem d_Mo_round_375 : decode b_Mo_round 375 = .ok (.iload 4, 2) := by decide +kernel
theorem d_Mo_round_377 : decode b_Mo_round 377 = .ok (.iadd, 1) := by decide +kernel
theorem d_Mo_round_378 : decode b_Mo_round 378 = .ok (.iastore, 1) := by decide +kernel
theorem d_Mo_round_379 : decode b_Mo_round 379 = .ok (.aload_n 0, 1) := by decide +kernel
theorem d_Mo_round_380 : decode b_Mo_round 380 = .ok (.getfield 100, 3) := by decide +kernel
theorem d_Mo_round_383 : decode b_Mo_round 383 = .ok (.iconst 4, 1) := by decide +kernel
theorem d_Mo_round_384 : decode b_Mo_round 384 = .ok (.dup2, 1) := by decide +kernel
theorem d_Mo_round_385 : decode b_Mo_round 385 = .ok (.iaload, 1) := by decide +kernel
theorem d_Mo_round_386 : decode b_Mo_round 386 = .ok (.iload 5, 2) := by decide +kernel
theorem d_Mo_round_388 : decode b_Mo_round 388 = .ok (.iadd, 1) := by decide +kernel
theorem d_Mo_round_389 : decode b_Mo_round 389 = .ok (.iastore, 1) := by decide +kernel
theorem d_Mo_round_390 : decode b_Mo_round 390 = .ok (.aload_n 0, 1) := by decide +kernel
theorem d_Mo_round_391 : decode b_Mo_round 391 = .ok (.getfield 100, 3) := by decide +kernel
theorem d_Mo_round_394 : decode b_Mo_round 394 = .ok (.iconst 5, 1) := by decide +kernel
theorem d_Mo_round_395 : decode b_Mo_round 395 = .ok (.dup2, 1) := by decide +kernel
theorem d_Mo_round_396 : decode b_Mo_round 396 = .ok (.iaload, 1) := by decide +kernel
theorem d_Mo_round_397 : decode b_Mo_round 397 = .ok (.iload 6, 2) := by decide +kernel
theorem d_Mo_round_399 : decode b_Mo_round 399 = .ok (.iadd, 1) := by decide +kernel
theorem d_Mo_round_400 : decode b_Mo_round 400 = .ok (.iastore, 1) := by decide +kernel
theorem d_Mo_round_401 : decode b_Mo_round 401 = .ok (.aload_n 0, 1) := by decide +kernel
theorem d_Mo_round_402 : decode b_Mo_round 402 = .ok (.getfield 100, 3) := by decide +kernel
theorem d_Mo_round_405 : decode b_Mo_round 405 = .ok (.bipush 6, 2) := by decide +kernel
theorem d_Mo_round_407 : decode b_Mo_round 407 = .ok (.dup2, 1) := by decide +kernel
theorem d_Mo_round_408 : decode b_Mo_round 408 = .ok (.iaload, 1) := by decide +kernel
theorem d_Mo_round_409 : decode b_Mo_round 409 = .ok (.iload 7, 2) := by decide +kernel
theorem d_Mo_round_411 : decode b_Mo_round 411 = .ok (.iadd, 1) := by decide +kernel
theorem d_Mo_round_412 : decode b_Mo_round 412 = .ok (.iastore, 1) := by decide +kernel
theorem d_Mo_round_413 : decode b_Mo_round 413 = .ok (.aload_n 0, 1) := by decide +kernel
theorem d_Mo_round_414 : decode b_Mo_round 414 = .ok (.getfield 100, 3) := by decide +kernel
theorem d_Mo_round_417 : decode b_Mo_round 417 = .ok (.bipush 7, 2) := by decide +kernel
theorem d_Mo_round_419 : decode b_Mo_round 419 = .ok (.dup2, 1) := by decide +kernel
theorem d_Mo_round_420 : decode b_Mo_round 420 = .ok (.iaload, 1) := by decide +kernel
theorem d_Mo_round_421 : decode b_Mo_round 421 = .ok (.iload 8, 2) := by decide +kernel
theorem d_Mo_round_423 : decode b_Mo_round 423 = .ok (.iadd, 1) := by decide +kernel
theorem d_Mo_round_424 : decode b_Mo_round 424 = .ok (.iastore, 1) := by decide +kernel
theorem d_Mo_round_425 : decode b_Mo_round 425 = .ok (.return_, 1) := by decide +kernel
theorem d_Mo_script_0 : decode b_Mo_script 0 = .ok (.aload_n 0, 1) := by decide +kernel
theorem d_Mo_script_1 : decode b_Mo_script 1 = .ok (.getfield 393, 3) := by decide +kernel
theorem d_Mo_script_4 : decode b_Mo_script 4 = .ok (.iconst 2, 1) := by decide +kernel
theorem d_Mo_script_5 : decode b_Mo_script 5 = .ok (.if_icmp .ne 12, 3) := by decide +kernel
theorem d_Mo_script_17 : decode b_Mo_script 17 = .ok (.iconst (-1), 1) := by decide +kernel
theorem d_Mo_script_18 : decode b_Mo_script 18 = .ok (.ireturn, 1) := by decide +kernel
theorem d_Mo_send_0 : decode b_Mo_send 0 = .ok (.aload_n 0, 1) := by decide +kernel
theorem d_Mo_send_1 : decode b_Mo_send 1 = .ok (.getfield 393, 3) := by decide +kernel
theorem d_Mo_send_4 : decode b_Mo_send 4 = .ok (.ifCond .ne 5, 3) := by decide +kernel
theorem d_Mo_send_7 : decode b_Mo_send 7 = .ok (.iconst (-1), 1) := by decide +kernel
theorem d_Mo_send_8 : decode b_Mo_send 8 = .ok (.ireturn, 1) := by decide +kernel
theorem d_Mo_setNumber_0 : decode b_Mo_setNumber 0 = .ok (.iconst 0, 1) := by decide +kernel
theorem d_Mo_setNumber_1 : decode b_Mo_setNumber 1 = .ok (.istore_n 3, 1) := by decide +kernel
theorem d_Mo_setNumber_2 : decode b_Mo_setNumber 2 = .ok (.iload_n 3, 1) := by decide +kernel
theorem d_Mo_setNumber_3 : decode b_Mo_setNumber 3 = .ok (.iconst 4, 1) := by decide +kernel
theorem d_Mo_setNumber_4 : decode b_Mo_setNumber 4 = .ok (.if_icmp .ge 27, 3) := by decide +kernel
theorem d_Mo_setNumber_7 : decode b_Mo_setNumber 7 = .ok (.aload_n 0, 1) := by decide +kernel
theorem d_Mo_setNumber_8 : decode b_Mo_setNumber 8 = .ok (.getfield 10, 3) := by decide +kernel
theorem d_Mo_setNumber_11 : decode b_Mo_setNumber 11 = .ok (.iload_n 1, 1) := by decide +kernel
theorem d_Mo_setNumber_12 : decode b_Mo_setNumber 12 = .ok (.iload_n 3, 1) := by decide +kernel
theorem d_Mo_setNumber_13 : decode b_Mo_setNumber 13 = .ok (.iadd, 1) := by decide +kernel
theorem d_Mo_setNumber_14 : decode b_Mo_setNumber 14 = .ok (.iload_n 2, 1) := by decide +kernel
theorem d_Mo_setNumber_15 : decode b_Mo_setNumber 15 = .ok (.bipush 24, 2) := by decide +kernel
theorem d_Mo_setNumber_17 : decode b_Mo_setNumber 17 = .ok (.bipush 8, 2) := by decide +kernel
theorem d_Mo_setNumber_19 : decode b_Mo_setNumber 19 = .ok (.iload_n 3, 1) := by decide +kernel
theorem d_Mo_setNumber_20 : decode b_Mo_setNumber 20 = .ok (.imul, 1) := by decide +kernel
theorem d_Mo_setNumber_21 : decode b_Mo_setNumber 21 = .ok (.isub, 1) := by decide +kernel
theorem d_Mo_setNumber_22 : decode b_Mo_setNumber 22 = .ok (.ishr, 1) := by decide +kernel
theorem d_Mo_setNumber_23 : decode b_Mo_setNumber 23 = .ok (.i2b, 1) := by decide +kernel
theorem d_Mo_setNumber_24 : decode b_Mo_setNumber 24 = .ok (.bastore, 1) := by decide +kernel
theorem d_Mo_setNumber_25 : decode b_Mo_setNumber 25 = .ok (.iinc 3 1, 3) := by decide +kernel
theorem d_Mo_setNumber_28 : decode b_Mo_setNumber 28 = .ok (.goto (-26), 3) := by decide +kernel
theorem d_Mo_setNumber_31 : decode b_Mo_setNumber 31 = .ok (.return_, 1) := by decide +kernel
theorem d_Mo_sha_0 : decode b_Mo_sha 0 = .ok (.iconst 0, 1) := by decide +kernel
theorem d_Mo_sha_1 : decode b_Mo_sha 1 = .ok (.istore 6, 2) := by decide +kernel
theorem d_Mo_sha_3 : decode b_Mo_sha 3 = .ok (.iload 6, 2) := by decide +kernel
theorem d_Mo_sha_5 : decode b_Mo_sha 5 = .ok (.bipush 8, 2) := by decide +kernel
theorem d_Mo_sha_7 : decode b_Mo_sha 7 = .ok (.if_icmp .ge 22, 3) := by decide +kernel
theorem d_Mo_sha_10 : decode b_Mo_sha 10 = .ok (.aload_n 0, 1) := by decide +kernel
theorem d_Mo_sha_11 : decode b_Mo_sha 11 = .ok (.getfield 100, 3) := by decide +kernel
theorem d_Mo_sha_14 : decode b_Mo_sha 14 = .ok (.iload 6, 2) := by decide +kernel
theorem d_Mo_sha_16 : decode b_Mo_sha 16 = .ok (.getstatic 153, 3) := by decide +kernel
theorem d_Mo_sha_19 : decode b_Mo_sha 19 = .ok (.iload 6, 2) := by decide +kernel
theorem d_Mo_sha_21 : decode b_Mo_sha 21 = .ok (.iaload, 1) := by decide +kernel
theorem d_Mo_sha_22 : decode b_Mo_sha 22 = .ok (.iastore, 1) := by decide +kernel
theorem d_Mo_sha_23 : decode b_Mo_sha 23 = .ok (.iinc 6 1, 3) := by decide +kernel
theorem d_Mo_sha_26 : decode b_Mo_sha 26 = .ok (.goto (-23), 3) := by decide +kernel
theorem d_Mo_sha_29 : decode b_Mo_sha 29 = .ok (.iload_n 3, 1) := by decide +kernel
theorem d_Mo_sha_30 : decode b_Mo_sha 30 = .ok (.bipush 9, 2) := by decide +kernel
theorem d_Mo_sha_32 : decode b_Mo_sha 32 = .ok (.iadd, 1) := by decide +kernel
theorem d_Mo_sha_33 : decode b_Mo_sha 33 = .ok (.bipush 63, 2) := by decide +kernel
theorem d_Mo_sha_35 : decode b_Mo_sha 35 = .ok (.iadd, 1) := by decide +kernel
theorem d_Mo_sha_36 : decode b_Mo_sha 36 = .ok (.bipush 64, 2) := by decide +kernel
theorem d_Mo_sha_38 : decode b_Mo_sha 38 = .ok (.idiv, 1) := by decide +kernel
theorem d_Mo_sha_39 : decode b_Mo_sha 39 = .ok (.bipush 64, 2) := by decide +kernel
theorem d_Mo_sha_41 : decode b_Mo_sha 41 = .ok (.imul, 1) := by decide +kernel
theorem d_Mo_sha_42 : decode b_Mo_sha 42 = .ok (.istore 6, 2) := by decide +kernel
theorem d_Mo_sha_44 : decode b_Mo_sha 44 = .ok (.iconst 0, 1) := by decide +kernel
theorem d_Mo_sha_45 : decode b_Mo_sha 45 = .ok (.istore 7, 2) := by decide +kernel
theorem d_Mo_sha_47 : decode b_Mo_sha 47 = .ok (.iload 7, 2) := by decide +kernel
theorem d_Mo_sha_49 : decode b_Mo_sha 49 = .ok (.iload 6, 2) := by decide +kernel
theorem d_Mo_sha_51 : decode b_Mo_sha 51 = .ok (.if_icmp .ge 146, 3) := by decide +kernel
theorem d_Mo_sha_54 : decode b_Mo_sha 54 = .ok (.iconst 0, 1) := by decide +kernel
theorem d_Mo_sha_55 : decode b_Mo_sha 55 = .ok (.istore 8, 2) := by decide +kernel
theorem d_Mo_sha_57 : decode b_Mo_sha 57 = .ok (.iload 8, 2) := by decide +kernel
theorem d_Mo_sha_59 : decode b_Mo_sha 59 = .ok (.bipush 16, 2) := by decide +kernel
theorem d_Mo_sha_61 : decode b_Mo_sha 61 = .ok (.if_icmp .ge 126, 3) := by decide +kernel
theorem d_Mo_sha_64 : decode b_Mo_sha 64 = .ok (.iconst 0, 1) := by decide +kernel
theorem d_Mo_sha_65 : decode b_Mo_sha 65 = .ok (.istore 9, 2) := by decide +kernel
theorem d_Mo_sha_67 : decode b_Mo_sha 67 = .ok (.iconst 0, 1) := by decide +kernel
theorem d_Mo_sha_68 : decode b_Mo_sha 68 = .ok (.istore 10, 2) := by decide +kernel
theorem d_Mo_sha_70 : decode b_Mo_sha 70 = .ok (.iload 10, 2) := by decide +kernel
theorem d_Mo_sha_72 : decode b_Mo_sha 72 = .ok (.iconst 4, 1) := by decide +kernel
theorem d_Mo_sha_73 : decode b_Mo_sha 73 = .ok (.if_icmp .ge 99, 3) := by decide +kernel
theorem d_Mo_sha_76 : decode b_Mo_sha 76 = .ok (.iload 7, 2) := by decide +kernel
theorem d_Mo_sha_78 : decode b_Mo_sha 78 = .ok (.iconst 4, 1) := by decide +kernel
theorem d_Mo_sha_79 : decode b_Mo_sha 79 = .ok (.iload 8, 2) := by decide +kernel
theorem d_Mo_sha_81 : decode b_Mo_sha 81 = .ok (.imul, 1) := by decide +kernel
theorem d_Mo_sha_82 : decode b_Mo_sha 82 = .ok (.iadd, 1) := by decide +kernel
theorem d_Mo_sha_83 : decode b_Mo_sha 83 = .ok (.iload 10, 2) := by decide +kernel
theorem d_Mo_sha_85 : decode b_Mo_sha 85 = .ok (.iadd, 1) := by decide +kernel
theorem d_Mo_sha_86 : decode b_Mo_sha 86 = .ok (.istore 11, 2) := by decide +kernel
theorem d_Mo_sha_88 : decode b_Mo_sha 88 = .ok (.iload 11, 2) := by decide +kernel
theorem d_Mo_sha_90 : decode b_Mo_sha 90 = .ok (.iload_n 3, 1) := by decide +kernel
theorem d_Mo_sha_91 : decode b_Mo_sha 91 = .ok (.if_icmp .ge 16, 3) := by decide +kernel
theorem d_Mo_sha_94 : decode b_Mo_sha 94 = .ok (.aload_n 1, 1) := by decide +kernel
theorem d_Mo_sha_95 : decode b_Mo_sha 95 = .ok (.iload_n 2, 1) := by decide +kernel
theorem d_Mo_sha_96 : decode b_Mo_sha 96 = .ok (.iload 11, 2) := by decide +kernel
theorem d_Mo_sha_98 : decode b_Mo_sha 98 = .ok (.iadd, 1) := by decide +kernel
theorem d_Mo_sha_99 : decode b_Mo_sha 99 = .ok (.baload, 1) := by decide +kernel
theorem d_Mo_sha_100 : decode b_Mo_sha 100 = .ok (.sipush 255, 3) := by decide +kernel
theorem d_Mo_sha_103 : decode b_Mo_sha 103 = .ok (.iand, 1) := by decide +kernel
theorem d_Mo_sha_104 : decode b_Mo_sha 104 = .ok (.goto 16, 3) := by decide +kernel
theorem d_Mo_sha_107 : decode b_Mo_sha 107 = .ok (.iload 11, 2) := by decide +kernel
theorem d_Mo_sha_109 : decode b_Mo_sha 109 = .ok (.iload_n 3, 1) := by decide +kernel
theorem d_Mo_sha_110 : decode b_Mo_sha 110 = .ok (.if_icmp .ne 9, 3) := by decide +kernel
theorem d_Mo_sha_113 : decode b_Mo_sha 113 = .ok (.sipush 128, 3) := by decide +kernel
theorem d_Mo_sha_116 : decode b_Mo_sha 116 = .ok (.goto 4, 3) := by decide +kernel
theorem d_Mo_sha_119 : decode b_Mo_sha 119 = .ok (.iconst 0, 1) := by decide +kernel
theorem d_Mo_sha_120 : decode b_Mo_sha 120 = .ok (.istore 12, 2) := by decide +kernel
theorem d_Mo_sha_122 : decode b_Mo_sha 122 = .ok (.iload 11, 2) := by decide +kernel
theorem d_Mo_sha_124 : decode b_Mo_sha 124 = .ok (.iload 6, 2) := by decide +kernel
theorem d_Mo_sha_126 : decode b_Mo_sha 126 = .ok (.bipush 8, 2) := by decide +kernel
theorem d_Mo_sha_128 : decode b_Mo_sha 128 = .ok (.isub, 1) := by decide +kernel
theorem d_Mo_sha_129 : decode b_Mo_sha 129 = .ok (.if_icmp .lt 27, 3) := by decide +kernel
theorem d_Mo_sha_132 : decode b_Mo_sha 132 = .ok (.iload_n 3, 1) := by decide +kernel
theorem d_Mo_sha_133 : decode b_Mo_sha 133 = .ok (.i2l, 1) := by decide +kernel
theorem d_Mo_sha_134 : decode b_Mo_sha 134 = .ok (.ldc2_w 156, 3) := by decide +kernel
theorem d_Mo_sha_137 : decode b_Mo_sha 137 = .ok (.lmul, 1) := by decide +kernel
theorem d_Mo_sha_138 : decode b_Mo_sha 138 = .ok (.bipush 8, 2) := by decide +kernel
theorem d_Mo_sha_140 : decode b_Mo_sha 140 = .ok (.iload 6, 2) := by decide +kernel
theorem d_Mo_sha_142 : decode b_Mo_sha 142 = .ok (.iconst 1, 1) := by decide +kernel
theorem d_Mo_sha_143 : decode b_Mo_sha 143 = .ok (.isub, 1) := by decide +kernel
theorem d_Mo_sha_144 : decode b_Mo_sha 144 = .ok (.iload 11, 2) := by decide +kernel
theorem d_Mo_sha_146 : decode b_Mo_sha 146 = .ok (.isub, 1) := by decide +kernel
theorem d_Mo_sha_147 : decode b_Mo_sha 147 = .ok (.imul, 1) := by decide +kernel
theorem d_Mo_sha_148 : decode b_Mo_sha 148 = .ok (.lushr, 1) := by decide +kernel
theorem d_Mo_sha_149 : decode b_Mo_sha 149 = .ok (.l2i, 1) := by decide +kernel
theorem d_Mo_sha_150 : decode b_Mo_sha 150 = .ok (.sipush 255, 3) := by decide +kernel
theorem d_Mo_sha_153 : decode b_Mo_sha 153 = .ok (.iand, 1) := by decide +kernel
theorem d_Mo_sha_154 : decode b_Mo_sha 154 = .ok (.istore 12, 2) := by decide +kernel
theorem d_Mo_sha_156 : decode b_Mo_sha 156 = .ok (.iload 9, 2) := by decide +kernel
theorem d_Mo_sha_158 : decode b_Mo_sha 158 = .ok (.bipush 8, 2) := by decide +kernel
theorem d_Mo_sha_160 : decode b_Mo_sha 160 = .ok (.ishl, 1) := by decide +kernel
theorem d_Mo_sha_161 : decode b_Mo_sha 161 = .ok (.iload 12, 2) := by decide +kernel
theorem d_Mo_sha_163 : decode b_Mo_sha 163 = .ok (.ior, 1) := by decide +kernel
theorem d_Mo_sha_164 : decode b_Mo_sha 164 = .ok (.istore 9, 2) := by decide +kernel
theorem d_Mo_sha_166 : decode b_Mo_sha 166 = .ok (.iinc 10 1, 3) := by decide +kernel
theorem d_Mo_sha_169 : decode b_Mo_sha 169 = .ok (.goto (-99), 3) := by decide +kernel
theorem d_Mo_sha_172 : decode b_Mo_sha 172 = .ok (.aload_n 0, 1) := by decide +kernel
theorem d_Mo_sha_173 : decode b_Mo_sha 173 = .ok (.getfield 97, 3) := by decide +kernel
theorem d_Mo_sha_176 : decode b_Mo_sha 176 = .ok (.iload 8, 2) := by decide +kernel
theorem d_Mo_sha_178 : decode b_Mo_sha 178 = .ok (.iload 9, 2) := by decide +kernel
theorem d_Mo_sha_180 : decode b_Mo_sha 180 = .ok (.iastore, 1) := by decide +kernel
theorem d_Mo_sha_181 : decode b_Mo_sha 181 = .ok (.iinc 8 1, 3) := by decide +kernel
theorem d_Mo_sha_184 : decode b_Mo_sha 184 = .ok (.goto (-127), 3) := by decide +kernel
theorem d_Mo_sha_187 : decode b_Mo_sha 187 = .ok (.aload_n 0, 1) := by decide +kernel
theorem d_Mo_sha_188 : decode b_Mo_sha 188 = .ok (.invokevirtual 158, 3) := by decide +kernel
theorem d_Mo_sha_191 : decode b_Mo_sha 191 = .ok (.iinc 7 64, 3) := by decide +kernel
theorem d_Mo_sha_194 : decode b_Mo_sha 194 = .ok (.goto (-147), 3) := by decide +kernel
theorem d_Mo_sha_197 : decode b_Mo_sha 197 = .ok (.iconst 0, 1) := by decide +kernel
theorem d_Mo_sha_198 : decode b_Mo_sha 198 = .ok (.istore 7, 2) := by decide +kernel
theorem d_Mo_sha_200 : decode b_Mo_sha 200 = .ok (.iload 7, 2) := by decide +kernel
theorem d_Mo_sha_202 : decode b_Mo_sha 202 = .ok (.bipush 32, 2) := by decide +kernel
theorem d_Mo_sha_204 : decode b_Mo_sha 204 = .ok (.if_icmp .ge 38, 3) := by decide +kernel
theorem d_Mo_sha_207 : decode b_Mo_sha 207 = .ok (.aload 4, 2) := by decide +kernel
theorem d_Mo_sha_209 : decode b_Mo_sha 209 = .ok (.iload 5, 2) := by decide +kernel
theorem d_Mo_sha_211 : decode b_Mo_sha 211 = .ok (.iload 7, 2) := by decide +kernel
theorem d_Mo_sha_213 : decode b_Mo_sha 213 = .ok (.iadd, 1) := by decide +kernel
theorem d_Mo_sha_214 : decode b_Mo_sha 214 = .ok (.aload_n 0, 1) := by decide +kernel
theorem d_Mo_sha_215 : decode b_Mo_sha 215 = .ok (.getfield 100, 3) := by decide +kernel
theorem d_Mo_sha_218 : decode b_Mo_sha 218 = .ok (.iload 7, 2) := by decide +kernel
theorem d_Mo_sha_220 : decode b_Mo_sha 220 = .ok (.iconst 4, 1) := by decide +kernel
theorem d_Mo_sha_221 : decode b_Mo_sha 221 = .ok (.idiv, 1) := by decide +kernel
theorem d_Mo_sha_222 : decode b_Mo_sha 222 = .ok (.iaload, 1) := by decide +kernel
theorem d_Mo_sha_223 : decode b_Mo_sha 223 = .ok (.bipush 24, 2) := by decide +kernel
theorem d_Mo_sha_225 : decode b_Mo_sha 225 = .ok (.bipush 8, 2) := by decide +kernel
theorem d_Mo_sha_227 : decode b_Mo_sha 227 = .ok (.iload 7, 2) := by decide +kernel
theorem d_Mo_sha_229 : decode b_Mo_sha 229 = .ok (.iconst 4, 1) := by decide +kernel
theorem d_Mo_sha_230 : decode b_Mo_sha 230 = .ok (.irem, 1) := by decide +kernel
theorem d_Mo_sha_231 : decode b_Mo_sha 231 = .ok (.imul, 1) := by decide +kernel
theorem d_Mo_sha_232 : decode b_Mo_sha 232 = .ok (.isub, 1) := by decide +kernel
theorem d_Mo_sha_233 : decode b_Mo_sha 233 = .ok (.iushr, 1) := by decide +kernel
theorem d_Mo_sha_234 : decode b_Mo_sha 234 = .ok (.i2b, 1) := by decide +kernel
theorem d_Mo_sha_235 : decode b_Mo_sha 235 = .ok (.bastore, 1) := by decide +kernel
theorem d_Mo_sha_236 : decode b_Mo_sha 236 = .ok (.iinc 7 1, 3) := by decide +kernel
theorem d_Mo_sha_239 : decode b_Mo_sha 239 = .ok (.goto (-39), 3) := by decide +kernel
theorem d_Mo_sha_242 : decode b_Mo_sha 242 = .ok (.return_, 1) := by decide +kernel
theorem d_Mo_sign_0 : decode b_Mo_sign 0 = .ok (.aload_n 0, 1) := by decide +kernel
theorem d_Mo_sign_1 : decode b_Mo_sign 1 = .ok (.getfield 393, 3) := by decide +kernel
theorem d_Mo_sign_4 : decode b_Mo_sign 4 = .ok (.iconst 2, 1) := by decide +kernel
theorem d_Mo_sign_5 : decode b_Mo_sign 5 = .ok (.if_icmp .eq 5, 3) := by decide +kernel
theorem d_Mo_sign_8 : decode b_Mo_sign 8 = .ok (.iconst (-1), 1) := by decide +kernel
theorem d_Mo_sign_9 : decode b_Mo_sign 9 = .ok (.ireturn, 1) := by decide +kernel
theorem d_Mo_spend_0 : decode b_Mo_spend 0 = .ok (.iload_n 2, 1) := by decide +kernel
theorem d_Mo_spend_1 : decode b_Mo_spend 1 = .ok (.iconst 1, 1) := by decide +kernel
theorem d_Mo_spend_2 : decode b_Mo_spend 2 = .ok (.if_icmp .lt 36, 3) := by decide +kernel
theorem d_Mo_spend_5 : decode b_Mo_spend 5 = .ok (.iload_n 2, 1) := by decide +kernel
theorem d_Mo_spend_6 : decode b_Mo_spend 6 = .ok (.bipush 8, 2) := by decide +kernel
theorem d_Mo_spend_8 : decode b_Mo_spend 8 = .ok (.if_icmp .gt 30, 3) := by decide +kernel
theorem d_Mo_spend_11 : decode b_Mo_spend 11 = .ok (.iload_n 1, 1) := by decide +kernel
theorem d_Mo_spend_12 : decode b_Mo_spend 12 = .ok (.ifCond .lt 26, 3) := by decide +kernel
theorem d_Mo_spend_15 : decode b_Mo_spend 15 = .ok (.iload_n 1, 1) := by decide +kernel
theorem d_Mo_spend_16 : decode b_Mo_spend 16 = .ok (.aload_n 0, 1) := by decide +kernel
theorem d_Mo_spend_17 : decode b_Mo_spend 17 = .ok (.getfield 130, 3) := by decide +kernel
theorem d_Mo_spend_20 : decode b_Mo_spend 20 = .ok (.getfield 232, 3) := by decide +kernel
theorem d_Mo_spend_23 : decode b_Mo_spend 23 = .ok (.iload_n 2, 1) := by decide +kernel
theorem d_Mo_spend_24 : decode b_Mo_spend 24 = .ok (.isub, 1) := by decide +kernel
theorem d_Mo_spend_25 : decode b_Mo_spend 25 = .ok (.if_icmp .gt 13, 3) := by decide +kernel
theorem d_Mo_spend_38 : decode b_Mo_spend 38 = .ok (.iconst (-1), 1) := by decide +kernel
theorem d_Mo_spend_39 : decode b_Mo_spend 39 = .ok (.ireturn, 1) := by decide +kernel
theorem d_Mo_standard_0 : decode b_Mo_standard 0 = .ok (.aload_n 0, 1) := by decide +kernel
theorem d_Mo_standard_1 : decode b_Mo_standard 1 = .ok (.getfield 10, 3) := by decide +kernel
theorem d_Mo_standard_4 : decode b_Mo_standard 4 = .ok (.iload_n 1, 1) := by decide +kernel
theorem d_Mo_standard_5 : decode b_Mo_standard 5 = .ok (.bipush 6, 2) := by decide +kernel
theorem d_Mo_standard_7 : decode b_Mo_standard 7 = .ok (.bastore, 1) := by decide +kernel
theorem d_Mo_standard_8 : decode b_Mo_standard 8 = .ok (.aload_n 0, 1) := by decide +kernel
theorem d_Mo_standard_9 : decode b_Mo_standard 9 = .ok (.getfield 10, 3) := by decide +kernel
theorem d_Mo_standard_12 : decode b_Mo_standard 12 = .ok (.iload_n 1, 1) := by decide +kernel
theorem d_Mo_standard_13 : decode b_Mo_standard 13 = .ok (.iconst 1, 1) := by decide +kernel
theorem d_Mo_standard_14 : decode b_Mo_standard 14 = .ok (.iadd, 1) := by decide +kernel
theorem d_Mo_standard_15 : decode b_Mo_standard 15 = .ok (.iconst 4, 1) := by decide +kernel
theorem d_Mo_standard_16 : decode b_Mo_standard 16 = .ok (.bastore, 1) := by decide +kernel
theorem d_Mo_standard_17 : decode b_Mo_standard 17 = .ok (.aload_n 0, 1) := by decide +kernel
theorem d_Mo_standard_18 : decode b_Mo_standard 18 = .ok (.iload_n 1, 1) := by decide +kernel
theorem d_Mo_standard_19 : decode b_Mo_standard 19 = .ok (.iconst 2, 1) := by decide +kernel
theorem d_Mo_standard_20 : decode b_Mo_standard 20 = .ok (.iadd, 1) := by decide +kernel
theorem d_Mo_standard_21 : decode b_Mo_standard 21 = .ok (.iload_n 2, 1) := by decide +kernel
theorem d_Mo_standard_22 : decode b_Mo_standard 22 = .ok (.invokevirtual 371, 3) := by decide +kernel
theorem d_Mo_standard_25 : decode b_Mo_standard 25 = .ok (.aload_n 0, 1) := by decide +kernel
theorem d_Mo_standard_26 : decode b_Mo_standard 26 = .ok (.getfield 10, 3) := by decide +kernel
theorem d_Mo_standard_29 : decode b_Mo_standard 29 = .ok (.iload_n 1, 1) := by decide +kernel
theorem d_Mo_standard_30 : decode b_Mo_standard 30 = .ok (.bipush 6, 2) := by decide +kernel
theorem d_Mo_standard_32 : decode b_Mo_standard 32 = .ok (.iadd, 1) := by decide +kernel
theorem d_Mo_standard_33 : decode b_Mo_standard 33 = .ok (.bipush 95, 2) := by decide +kernel
theorem d_Mo_standard_35 : decode b_Mo_standard 35 = .ok (.bastore, 1) := by decide +kernel
theorem d_Mo_standard_36 : decode b_Mo_standard 36 = .ok (.iload_n 1, 1) := by decide +kernel
theorem d_Mo_standard_37 : decode b_Mo_standard 37 = .ok (.bipush 7, 2) := by decide +kernel
theorem d_Mo_standard_39 : decode b_Mo_standard 39 = .ok (.iadd, 1) := by decide +kernel
theorem d_Mo_standard_40 : decode b_Mo_standard 40 = .ok (.ireturn, 1) := by decide +kernel
theorem d_Mo_stored_0 : decode b_Mo_stored 0 = .ok (.iload_n 2, 1) := by decide +kernel
theorem d_Mo_stored_1 : decode b_Mo_stored 1 = .ok (.ifCond .lt 8, 3) := by decide +kernel
theorem d_Mo_stored_4 : decode b_Mo_stored 4 = .ok (.iload_n 2, 1) := by decide +kernel
theorem d_Mo_stored_5 : decode b_Mo_stored 5 = .ok (.iconst 5, 1) := by decide +kernel
theorem d_Mo_stored_6 : decode b_Mo_stored 6 = .ok (.if_icmp .le 5, 3) := by decide +kernel
theorem d_Mo_stored_9 : decode b_Mo_stored 9 = .ok (.iconst (-1), 1) := by decide +kernel
theorem d_Mo_stored_10 : decode b_Mo_stored 10 = .ok (.ireturn, 1) := by decide +kernel
theorem d_Mo_stored_11 : decode b_Mo_stored 11 = .ok (.iload_n 1, 1) := by decide +kernel
theorem d_Mo_stored_12 : decode b_Mo_stored 12 = .ok (.ifCond .lt 11, 3) := by decide +kernel
theorem d_Mo_stored_15 : decode b_Mo_stored 15 = .ok (.iload_n 1, 1) := by decide +kernel
theorem d_Mo_stored_16 : decode b_Mo_stored 16 = .ok (.aload_n 0, 1) := by decide +kernel
theorem d_Mo_stored_17 : decode b_Mo_stored 17 = .ok (.getfield 53, 3) := by decide +kernel
theorem d_Mo_stored_20 : decode b_Mo_stored 20 = .ok (.if_icmp .lt 6, 3) := by decide +kernel
theorem d_Mo_stored_23 : decode b_Mo_stored 23 = .ok (.bipush (-2), 2) := by decide +kernel
theorem d_Mo_stored_25 : decode b_Mo_stored 25 = .ok (.ireturn, 1) := by decide +kernel
theorem d_Mo_stored_26 : decode b_Mo_stored 26 = .ok (.iload_n 2, 1) := by decide +kernel
theorem d_Mo_stored_27 : decode b_Mo_stored 27 = .ok (.tableswitch 68 0 4 #[33, 40, 47, 54, 61], 33) := by decide +kernel
theorem d_Mo_stored_60 : decode b_Mo_stored 60 = .ok (.aload_n 0, 1) := by decide +kernel
theorem d_Mo_stored_61 : decode b_Mo_stored 61 = .ok (.getfield 24, 3) := by decide +kernel
theorem d_Mo_stored_64 : decode b_Mo_stored 64 = .ok (.iload_n 1, 1) := by decide +kernel
theorem d_Mo_stored_65 : decode b_Mo_stored 65 = .ok (.iaload, 1) := by decide +kernel
theorem d_Mo_stored_66 : decode b_Mo_stored 66 = .ok (.ireturn, 1) := by decide +kernel
theorem d_Mo_stored_67 : decode b_Mo_stored 67 = .ok (.aload_n 0, 1) := by decide +kernel
theorem d_Mo_stored_68 : decode b_Mo_stored 68 = .ok (.getfield 21, 3) := by decide +kernel
theorem d_Mo_stored_71 : decode b_Mo_stored 71 = .ok (.iload_n 1, 1) := by decide +kernel
theorem d_Mo_stored_72 : decode b_Mo_stored 72 = .ok (.iaload, 1) := by decide +kernel
theorem d_Mo_stored_73 : decode b_Mo_stored 73 = .ok (.ireturn, 1) := by decide +kernel
theorem d_Mo_stored_74 : decode b_Mo_stored 74 = .ok (.aload_n 0, 1) := by decide +kernel
theorem d_Mo_stored_75 : decode b_Mo_stored 75 = .ok (.getfield 27, 3) := by decide +kernel
theorem d_Mo_stored_78 : decode b_Mo_stored 78 = .ok (.iload_n 1, 1) := by decide +kernel
theorem d_Mo_stored_79 : decode b_Mo_stored 79 = .ok (.iaload, 1) := by decide +kernel
theorem d_Mo_stored_80 : decode b_Mo_stored 80 = .ok (.ireturn, 1) := by decide +kernel
theorem d_Mo_stored_81 : decode b_Mo_stored 81 = .ok (.aload_n 0, 1) := by decide +kernel
theorem d_Mo_stored_82 : decode b_Mo_stored 82 = .ok (.getfield 30, 3) := by decide +kernel
theorem d_Mo_stored_85 : decode b_Mo_stored 85 = .ok (.iload_n 1, 1) := by decide +kernel
theorem d_Mo_stored_86 : decode b_Mo_stored 86 = .ok (.iaload, 1) := by decide +kernel
theorem d_Mo_stored_87 : decode b_Mo_stored 87 = .ok (.ireturn, 1) := by decide +kernel
theorem d_Mo_stored_88 : decode b_Mo_stored 88 = .ok (.aload_n 0, 1) := by decide +kernel
theorem d_Mo_stored_89 : decode b_Mo_stored 89 = .ok (.getfield 47, 3) := by decide +kernel
theorem d_Mo_stored_92 : decode b_Mo_stored 92 = .ok (.iload_n 1, 1) := by decide +kernel
theorem d_Mo_stored_93 : decode b_Mo_stored 93 = .ok (.iaload, 1) := by decide +kernel
theorem d_Mo_stored_94 : decode b_Mo_stored 94 = .ok (.ireturn, 1) := by decide +kernel
theorem d_Mo_stored_95 : decode b_Mo_stored 95 = .ok (.aload_n 0, 1) := by decide +kernel
theorem d_Mo_stored_96 : decode b_Mo_stored 96 = .ok (.getfield 24, 3) := by decide +kernel
theorem d_Mo_stored_99 : decode b_Mo_stored 99 = .ok (.iload_n 1, 1) := by decide +kernel
theorem d_Mo_stored_100 : decode b_Mo_stored 100 = .ok (.iaload, 1) := by decide +kernel
theorem d_Mo_stored_101 : decode b_Mo_stored 101 = .ok (.aload_n 0, 1) := by decide +kernel
theorem d_Mo_stored_102 : decode b_Mo_stored 102 = .ok (.getfield 24, 3) := by decide +kernel
theorem d_Mo_stored_105 : decode b_Mo_stored 105 = .ok (.aload_n 0, 1) := by decide +kernel
theorem d_Mo_stored_106 : decode b_Mo_stored 106 = .ok (.getfield 328, 3) := by decide +kernel
theorem d_Mo_stored_109 : decode b_Mo_stored 109 = .ok (.iaload, 1) := by decide +kernel
theorem d_Mo_stored_110 : decode b_Mo_stored 110 = .ok (.if_icmp .gt 19, 3) := by decide +kernel
theorem d_Mo_stored_113 : decode b_Mo_stored 113 = .ok (.aload_n 0, 1) := by decide +kernel
theorem d_Mo_stored_114 : decode b_Mo_stored 114 = .ok (.iload_n 1, 1) := by decide +kernel
theorem d_Mo_stored_115 : decode b_Mo_stored 115 = .ok (.aload_n 0, 1) := by decide +kernel
theorem d_Mo_stored_116 : decode b_Mo_stored 116 = .ok (.getfield 328, 3) := by decide +kernel
theorem d_Mo_stored_119 : decode b_Mo_stored 119 = .ok (.invokevirtual 357, 3) := by decide +kernel
theorem d_Mo_stored_122 : decode b_Mo_stored 122 = .ok (.ifCond .eq 7, 3) := by decide +kernel
theorem d_Mo_stored_125 : decode b_Mo_stored 125 = .ok (.iconst 1, 1) := by decide +kernel
theorem d_Mo_stored_126 : decode b_Mo_stored 126 = .ok (.goto 4, 3) := by decide +kernel
theorem d_Mo_stored_130 : decode b_Mo_stored 130 = .ok (.ireturn, 1) := by decide +kernel
theorem d_Mo_tip_0 : decode b_Mo_tip 0 = .ok (.iload_n 1, 1) := by decide +kernel
theorem d_Mo_tip_1 : decode b_Mo_tip 1 = .ok (.tableswitch 103 0 3 #[31, 42, 48, 58], 31) := by decide +kernel
theorem d_Mo_tip_32 : decode b_Mo_tip 32 = .ok (.aload_n 0, 1) := by decide +kernel
theorem d_Mo_tip_33 : decode b_Mo_tip 33 = .ok (.getfield 24, 3) := by decide +kernel
theorem d_Mo_tip_36 : decode b_Mo_tip 36 = .ok (.aload_n 0, 1) := by decide +kernel
theorem d_Mo_tip_37 : decode b_Mo_tip 37 = .ok (.getfield 328, 3) := by decide +kernel
theorem d_Mo_tip_40 : decode b_Mo_tip 40 = .ok (.iaload, 1) := by decide +kernel
theorem d_Mo_tip_41 : decode b_Mo_tip 41 = .ok (.i2l, 1) := by decide +kernel
theorem d_Mo_tip_42 : decode b_Mo_tip 42 = .ok (.lreturn, 1) := by decide +kernel
theorem d_Mo_tip_43 : decode b_Mo_tip 43 = .ok (.aload_n 0, 1) := by decide +kernel
theorem d_Mo_tip_44 : decode b_Mo_tip 44 = .ok (.getfield 328, 3) := by decide +kernel
theorem d_Mo_tip_47 : decode b_Mo_tip 47 = .ok (.i2l, 1) := by decide +kernel
theorem d_Mo_tip_48 : decode b_Mo_tip 48 = .ok (.lreturn, 1) := by decide +kernel
theorem d_Mo_tip_49 : decode b_Mo_tip 49 = .ok (.aload_n 0, 1) := by decide +kernel
theorem d_Mo_tip_50 : decode b_Mo_tip 50 = .ok (.getfield 33, 3) := by decide +kernel
theorem d_Mo_tip_53 : decode b_Mo_tip 53 = .ok (.aload_n 0, 1) := by decide +kernel
theorem d_Mo_tip_54 : decode b_Mo_tip 54 = .ok (.getfield 328, 3) := by decide +kernel
theorem d_Mo_tip_57 : decode b_Mo_tip 57 = .ok (.laload, 1) := by decide +kernel
theorem d_Mo_tip_58 : decode b_Mo_tip 58 = .ok (.lreturn, 1) := by decide +kernel
theorem d_Mo_tip_59 : decode b_Mo_tip 59 = .ok (.lconst 0, 1) := by decide +kernel
theorem d_Mo_tip_60 : decode b_Mo_tip 60 = .ok (.lstore_n 2, 1) := by decide +kernel
theorem d_Mo_tip_61 : decode b_Mo_tip 61 = .ok (.iconst 0, 1) := by decide +kernel
theorem d_Mo_tip_62 : decode b_Mo_tip 62 = .ok (.istore 4, 2) := by decide +kernel
theorem d_Mo_tip_64 : decode b_Mo_tip 64 = .ok (.iload 4, 2) := by decide +kernel
theorem d_Mo_tip_66 : decode b_Mo_tip 66 = .ok (.iconst 4, 1) := by decide +kernel
theorem d_Mo_tip_67 : decode b_Mo_tip 67 = .ok (.if_icmp .ge 35, 3) := by decide +kernel
theorem d_Mo_tip_70 : decode b_Mo_tip 70 = .ok (.lload_n 2, 1) := by decide +kernel
theorem d_Mo_tip_71 : decode b_Mo_tip 71 = .ok (.bipush 8, 2) := by decide +kernel
