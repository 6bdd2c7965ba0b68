theorem dX12_init_0 : decode cX12_init 0 = .ok (.aload_n 0, 1) := by decide +kernel
theorem dX12_init_1 : decode cX12_init 1 = .ok (.invokespecial 1, 3) := by decide +kernel
theorem dX12_init_4 : decode cX12_init 4 = .ok (.aload_n 0, 1) := by decide +kernel
theorem dX12_init_5 : decode cX12_init 5 = .ok (.bipush 16, 2) := by decide +kernel
theorem dX12_init_7 : decode cX12_init 7 = .ok (.newarray .int, 2) := by decide +kernel
theorem dX12_init_9 : decode cX12_init 9 = .ok (.putfield 7, 3) := by decide +kernel
theorem dX12_init_12 : decode cX12_init 12 = .ok (.aload_n 0, 1) := by decide +kernel
theorem dX12_init_13 : decode cX12_init 13 = .ok (.iconst 3, 1) := by decide +kernel
theorem dX12_init_14 : decode cX12_init 14 = .ok (.newarray .int, 2) := by decide +kernel
theorem dX12_init_16 : decode cX12_init 16 = .ok (.putfield 13, 3) := by decide +kernel
theorem dX12_init_19 : decode cX12_init 19 = .ok (.aload_n 0, 1) := by decide +kernel
theorem dX12_init_20 : decode cX12_init 20 = .ok (.iconst 5, 1) := by decide +kernel
theorem dX12_init_21 : decode cX12_init 21 = .ok (.newarray .int, 2) := by decide +kernel
theorem dX12_init_23 : decode cX12_init 23 = .ok (.putfield 16, 3) := by decide +kernel
theorem dX12_init_26 : decode cX12_init 26 = .ok (.aload_n 0, 1) := by decide +kernel
theorem dX12_init_27 : decode cX12_init 27 = .ok (.iconst 5, 1) := by decide +kernel
theorem dX12_init_28 : decode cX12_init 28 = .ok (.newarray .boolean, 2) := by decide +kernel
theorem dX12_init_30 : decode cX12_init 30 = .ok (.putfield 19, 3) := by decide +kernel
theorem dX12_init_33 : decode cX12_init 33 = .ok (.aload_n 0, 1) := by decide +kernel
theorem dX12_init_34 : decode cX12_init 34 = .ok (.sipush 288, 3) := by decide +kernel
theorem dX12_init_37 : decode cX12_init 37 = .ok (.newarray .int, 2) := by decide +kernel
theorem dX12_init_39 : decode cX12_init 39 = .ok (.putfield 23, 3) := by decide +kernel
theorem dX12_init_42 : decode cX12_init 42 = .ok (.aload_n 0, 1) := by decide +kernel
theorem dX12_init_43 : decode cX12_init 43 = .ok (.bipush 72, 2) := by decide +kernel
theorem dX12_init_45 : decode cX12_init 45 = .ok (.newarray .int, 2) := by decide +kernel
theorem dX12_init_47 : decode cX12_init 47 = .ok (.putfield 26, 3) := by decide +kernel
theorem dX12_init_50 : decode cX12_init 50 = .ok (.aload_n 0, 1) := by decide +kernel
theorem dX12_init_51 : decode cX12_init 51 = .ok (.sipush 216, 3) := by decide +kernel
theorem dX12_init_54 : decode cX12_init 54 = .ok (.newarray .int, 2) := by decide +kernel
theorem dX12_init_56 : decode cX12_init 56 = .ok (.putfield 29, 3) := by decide +kernel
theorem dX12_init_59 : decode cX12_init 59 = .ok (.aload_n 0, 1) := by decide +kernel
theorem dX12_init_60 : decode cX12_init 60 = .ok (.bipush 72, 2) := by decide +kernel
theorem dX12_init_62 : decode cX12_init 62 = .ok (.newarray .int, 2) := by decide +kernel
theorem dX12_init_64 : decode cX12_init 64 = .ok (.putfield 32, 3) := by decide +kernel
theorem dX12_init_67 : decode cX12_init 67 = .ok (.aload_n 0, 1) := by decide +kernel
theorem dX12_init_68 : decode cX12_init 68 = .ok (.iconst 3, 1) := by decide +kernel
theorem dX12_init_69 : decode cX12_init 69 = .ok (.newarray .int, 2) := by decide +kernel
theorem dX12_init_71 : decode cX12_init 71 = .ok (.putfield 35, 3) := by decide +kernel
theorem dX12_init_74 : decode cX12_init 74 = .ok (.aload_n 0, 1) := by decide +kernel
theorem dX12_init_75 : decode cX12_init 75 = .ok (.bipush 108, 2) := by decide +kernel
theorem dX12_init_77 : decode cX12_init 77 = .ok (.newarray .int, 2) := by decide +kernel
theorem dX12_init_79 : decode cX12_init 79 = .ok (.putfield 38, 3) := by decide +kernel
theorem dX12_init_82 : decode cX12_init 82 = .ok (.aload_n 0, 1) := by decide +kernel
theorem dX12_init_83 : decode cX12_init 83 = .ok (.iconst 3, 1) := by decide +kernel
theorem dX12_init_84 : decode cX12_init 84 = .ok (.newarray .int, 2) := by decide +kernel
theorem dX12_init_86 : decode cX12_init 86 = .ok (.putfield 41, 3) := by decide +kernel
theorem dX12_init_89 : decode cX12_init 89 = .ok (.aload_n 0, 1) := by decide +kernel
theorem dX12_init_90 : decode cX12_init 90 = .ok (.sipush 183, 3) := by decide +kernel
theorem dX12_init_93 : decode cX12_init 93 = .ok (.newarray .boolean, 2) := by decide +kernel
theorem dX12_init_95 : decode cX12_init 95 = .ok (.putfield 44, 3) := by decide +kernel
theorem dX12_init_98 : decode cX12_init 98 = .ok (.aload_n 0, 1) := by decide +kernel
theorem dX12_init_99 : decode cX12_init 99 = .ok (.bipush 61, 2) := by decide +kernel
theorem dX12_init_101 : decode cX12_init 101 = .ok (.newarray .boolean, 2) := by decide +kernel
theorem dX12_init_103 : decode cX12_init 103 = .ok (.putfield 47, 3) := by decide +kernel
theorem dX12_init_106 : decode cX12_init 106 = .ok (.aload_n 0, 1) := by decide +kernel
theorem dX12_init_107 : decode cX12_init 107 = .ok (.bipush 40, 2) := by decide +kernel
theorem dX12_init_109 : decode cX12_init 109 = .ok (.newarray .int, 2) := by decide +kernel
theorem dX12_init_111 : decode cX12_init 111 = .ok (.putfield 50, 3) := by decide +kernel
theorem dX12_init_114 : decode cX12_init 114 = .ok (.aload_n 0, 1) := by decide +kernel
theorem dX12_init_115 : decode cX12_init 115 = .ok (.bipush 40, 2) := by decide +kernel
theorem dX12_init_117 : decode cX12_init 117 = .ok (.newarray .int, 2) := by decide +kernel
theorem dX12_init_119 : decode cX12_init 119 = .ok (.putfield 53, 3) := by decide +kernel
theorem dX12_init_122 : decode cX12_init 122 = .ok (.aload_n 0, 1) := by decide +kernel
theorem dX12_init_123 : decode cX12_init 123 = .ok (.bipush 40, 2) := by decide +kernel
theorem dX12_init_125 : decode cX12_init 125 = .ok (.newarray .int, 2) := by decide +kernel
theorem dX12_init_127 : decode cX12_init 127 = .ok (.putfield 56, 3) := by decide +kernel
theorem dX12_init_130 : decode cX12_init 130 = .ok (.aload_n 0, 1) := by decide +kernel
theorem dX12_init_131 : decode cX12_init 131 = .ok (.bipush 120, 2) := by decide +kernel
theorem dX12_init_133 : decode cX12_init 133 = .ok (.newarray .int, 2) := by decide +kernel
theorem dX12_init_135 : decode cX12_init 135 = .ok (.putfield 59, 3) := by decide +kernel
theorem dX12_init_138 : decode cX12_init 138 = .ok (.aload_n 0, 1) := by decide +kernel
theorem dX12_init_139 : decode cX12_init 139 = .ok (.bipush 60, 2) := by decide +kernel
theorem dX12_init_141 : decode cX12_init 141 = .ok (.newarray .int, 2) := by decide +kernel
theorem dX12_init_143 : decode cX12_init 143 = .ok (.putfield 62, 3) := by decide +kernel
theorem dX12_init_146 : decode cX12_init 146 = .ok (.aload_n 0, 1) := by decide +kernel
theorem dX12_init_147 : decode cX12_init 147 = .ok (.bipush 60, 2) := by decide +kernel
theorem dX12_init_149 : decode cX12_init 149 = .ok (.newarray .int, 2) := by decide +kernel
theorem dX12_init_151 : decode cX12_init 151 = .ok (.putfield 65, 3) := by decide +kernel
theorem dX12_init_154 : decode cX12_init 154 = .ok (.aload_n 0, 1) := by decide +kernel
theorem dX12_init_155 : decode cX12_init 155 = .ok (.bipush 60, 2) := by decide +kernel
theorem dX12_init_157 : decode cX12_init 157 = .ok (.newarray .int, 2) := by decide +kernel
theorem dX12_init_159 : decode cX12_init 159 = .ok (.putfield 68, 3) := by decide +kernel
theorem dX12_init_162 : decode cX12_init 162 = .ok (.aload_n 0, 1) := by decide +kernel
theorem dX12_init_163 : decode cX12_init 163 = .ok (.bipush 60, 2) := by decide +kernel
theorem dX12_init_165 : decode cX12_init 165 = .ok (.newarray .int, 2) := by decide +kernel
theorem dX12_init_167 : decode cX12_init 167 = .ok (.putfield 71, 3) := by decide +kernel
theorem dX12_init_170 : decode cX12_init 170 = .ok (.aload_n 0, 1) := by decide +kernel
theorem dX12_init_171 : decode cX12_init 171 = .ok (.sipush 480, 3) := by decide +kernel
theorem dX12_init_174 : decode cX12_init 174 = .ok (.newarray .int, 2) := by decide +kernel
theorem dX12_init_176 : decode cX12_init 176 = .ok (.putfield 74, 3) := by decide +kernel
theorem dX12_init_179 : decode cX12_init 179 = .ok (.aload_n 0, 1) := by decide +kernel
theorem dX12_init_180 : decode cX12_init 180 = .ok (.bipush 6, 2) := by decide +kernel
theorem dX12_init_182 : decode cX12_init 182 = .ok (.newarray .int, 2) := by decide +kernel
theorem dX12_init_184 : decode cX12_init 184 = .ok (.putfield 77, 3) := by decide +kernel
theorem dX12_init_187 : decode cX12_init 187 = .ok (.aload_n 0, 1) := by decide +kernel
theorem dX12_init_188 : decode cX12_init 188 = .ok (.sipush 153, 3) := by decide +kernel
theorem dX12_init_191 : decode cX12_init 191 = .ok (.newarray .int, 2) := by decide +kernel
theorem dX12_init_193 : decode cX12_init 193 = .ok (.putfield 80, 3) := by decide +kernel
theorem dX12_init_196 : decode cX12_init 196 = .ok (.aload_n 0, 1) := by decide +kernel
theorem dX12_init_197 : decode cX12_init 197 = .ok (.bipush 60, 2) := by decide +kernel
theorem dX12_init_199 : decode cX12_init 199 = .ok (.newarray .int, 2) := by decide +kernel
theorem dX12_init_201 : decode cX12_init 201 = .ok (.putfield 83, 3) := by decide +kernel
theorem dX12_init_204 : decode cX12_init 204 = .ok (.aload_n 0, 1) := by decide +kernel
theorem dX12_init_205 : decode cX12_init 205 = .ok (.bipush 60, 2) := by decide +kernel
theorem dX12_init_207 : decode cX12_init 207 = .ok (.newarray .int, 2) := by decide +kernel
theorem dX12_init_209 : decode cX12_init 209 = .ok (.putfield 86, 3) := by decide +kernel
theorem dX12_init_212 : decode cX12_init 212 = .ok (.aload_n 0, 1) := by decide +kernel
theorem dX12_init_213 : decode cX12_init 213 = .ok (.bipush 60, 2) := by decide +kernel
theorem dX12_init_215 : decode cX12_init 215 = .ok (.newarray .int, 2) := by decide +kernel
theorem dX12_init_217 : decode cX12_init 217 = .ok (.putfield 89, 3) := by decide +kernel
theorem dX12_init_220 : decode cX12_init 220 = .ok (.aload_n 0, 1) := by decide +kernel
theorem dX12_init_221 : decode cX12_init 221 = .ok (.sipush 340, 3) := by decide +kernel
theorem dX12_init_224 : decode cX12_init 224 = .ok (.newarray .int, 2) := by decide +kernel
theorem dX12_init_226 : decode cX12_init 226 = .ok (.putfield 92, 3) := by decide +kernel
theorem dX12_init_229 : decode cX12_init 229 = .ok (.aload_n 0, 1) := by decide +kernel
theorem dX12_init_230 : decode cX12_init 230 = .ok (.sipush 340, 3) := by decide +kernel
theorem dX12_init_233 : decode cX12_init 233 = .ok (.newarray .long, 2) := by decide +kernel
theorem dX12_init_235 : decode cX12_init 235 = .ok (.putfield 95, 3) := by decide +kernel
theorem dX12_init_238 : decode cX12_init 238 = .ok (.aload_n 0, 1) := by decide +kernel
theorem dX12_init_239 : decode cX12_init 239 = .ok (.sipush 340, 3) := by decide +kernel
theorem dX12_init_242 : decode cX12_init 242 = .ok (.newarray .int, 2) := by decide +kernel
theorem dX12_init_244 : decode cX12_init 244 = .ok (.putfield 99, 3) := by decide +kernel
theorem dX12_init_247 : decode cX12_init 247 = .ok (.aload_n 0, 1) := by decide +kernel
theorem dX12_init_248 : decode cX12_init 248 = .ok (.iconst 4, 1) := by decide +kernel
theorem dX12_init_249 : decode cX12_init 249 = .ok (.newarray .int, 2) := by decide +kernel
theorem dX12_init_251 : decode cX12_init 251 = .ok (.putfield 102, 3) := by decide +kernel
theorem dX12_init_254 : decode cX12_init 254 = .ok (.aload_n 0, 1) := by decide +kernel
theorem dX12_init_255 : decode cX12_init 255 = .ok (.iconst 4, 1) := by decide +kernel
theorem dX12_init_256 : decode cX12_init 256 = .ok (.newarray .int, 2) := by decide +kernel
theorem dX12_init_258 : decode cX12_init 258 = .ok (.putfield 105, 3) := by decide +kernel
theorem dX12_init_261 : decode cX12_init 261 = .ok (.aload_n 0, 1) := by decide +kernel
theorem dX12_init_262 : decode cX12_init 262 = .ok (.sipush 9600, 3) := by decide +kernel
theorem dX12_init_265 : decode cX12_init 265 = .ok (.newarray .int, 2) := by decide +kernel
theorem dX12_init_267 : decode cX12_init 267 = .ok (.putfield 108, 3) := by decide +kernel
theorem dX12_init_270 : decode cX12_init 270 = .ok (.aload_n 0, 1) := by decide +kernel
theorem dX12_init_271 : decode cX12_init 271 = .ok (.bipush 40, 2) := by decide +kernel
theorem dX12_init_273 : decode cX12_init 273 = .ok (.newarray .int, 2) := by decide +kernel
theorem dX12_init_275 : decode cX12_init 275 = .ok (.putfield 111, 3) := by decide +kernel
theorem dX12_init_278 : decode cX12_init 278 = .ok (.aload_n 0, 1) := by decide +kernel
theorem dX12_init_279 : decode cX12_init 279 = .ok (.bipush 40, 2) := by decide +kernel
theorem dX12_init_281 : decode cX12_init 281 = .ok (.newarray .int, 2) := by decide +kernel
theorem dX12_init_283 : decode cX12_init 283 = .ok (.putfield 114, 3) := by decide +kernel
theorem dX12_init_286 : decode cX12_init 286 = .ok (.aload_n 0, 1) := by decide +kernel
theorem dX12_init_287 : decode cX12_init 287 = .ok (.bipush 40, 2) := by decide +kernel
theorem dX12_init_289 : decode cX12_init 289 = .ok (.newarray .int, 2) := by decide +kernel
theorem dX12_init_291 : decode cX12_init 291 = .ok (.putfield 117, 3) := by decide +kernel
theorem dX12_init_294 : decode cX12_init 294 = .ok (.aload_n 0, 1) := by decide +kernel
theorem dX12_init_295 : decode cX12_init 295 = .ok (.sipush 300, 3) := by decide +kernel
theorem dX12_init_298 : decode cX12_init 298 = .ok (.newarray .long, 2) := by decide +kernel
theorem dX12_init_300 : decode cX12_init 300 = .ok (.putfield 120, 3) := by decide +kernel
theorem dX12_init_303 : decode cX12_init 303 = .ok (.aload_n 0, 1) := by decide +kernel
theorem dX12_init_304 : decode cX12_init 304 = .ok (.iconst 5, 1) := by decide +kernel
theorem dX12_init_305 : decode cX12_init 305 = .ok (.newarray .int, 2) := by decide +kernel
theorem dX12_init_307 : decode cX12_init 307 = .ok (.putfield 123, 3) := by decide +kernel
theorem dX12_init_310 : decode cX12_init 310 = .ok (.aload_n 0, 1) := by decide +kernel
theorem dX12_init_311 : decode cX12_init 311 = .ok (.bipush 60, 2) := by decide +kernel
theorem dX12_init_313 : decode cX12_init 313 = .ok (.newarray .int, 2) := by decide +kernel
theorem dX12_init_315 : decode cX12_init 315 = .ok (.putfield 126, 3) := by decide +kernel
theorem dX12_init_318 : decode cX12_init 318 = .ok (.aload_n 0, 1) := by decide +kernel
theorem dX12_init_319 : decode cX12_init 319 = .ok (.bipush 60, 2) := by decide +kernel
theorem dX12_init_321 : decode cX12_init 321 = .ok (.newarray .int, 2) := by decide +kernel
theorem dX12_init_323 : decode cX12_init 323 = .ok (.putfield 129, 3) := by decide +kernel
theorem dX12_init_326 : decode cX12_init 326 = .ok (.aload_n 0, 1) := by decide +kernel
theorem dX12_init_327 : decode cX12_init 327 = .ok (.bipush 60, 2) := by decide +kernel
theorem dX12_init_329 : decode cX12_init 329 = .ok (.newarray .int, 2) := by decide +kernel
theorem dX12_init_331 : decode cX12_init 331 = .ok (.putfield 132, 3) := by decide +kernel
theorem dX12_init_334 : decode cX12_init 334 = .ok (.aload_n 0, 1) := by decide +kernel
theorem dX12_init_335 : decode cX12_init 335 = .ok (.sipush 900, 3) := by decide +kernel
theorem dX12_init_338 : decode cX12_init 338 = .ok (.putfield 135, 3) := by decide +kernel
theorem dX12_init_341 : decode cX12_init 341 = .ok (.aload_n 0, 1) := by decide +kernel
theorem dX12_init_342 : decode cX12_init 342 = .ok (.iconst 4, 1) := by decide +kernel
theorem dX12_init_343 : decode cX12_init 343 = .ok (.newarray .int, 2) := by decide +kernel
theorem dX12_init_345 : decode cX12_init 345 = .ok (.putfield 139, 3) := by decide +kernel
theorem dX12_init_348 : decode cX12_init 348 = .ok (.aload_n 0, 1) := by decide +kernel
theorem dX12_init_349 : decode cX12_init 349 = .ok (.iconst 1, 1) := by decide +kernel
theorem dX12_init_350 : decode cX12_init 350 = .ok (.putfield 142, 3) := by decide +kernel
theorem dX12_init_353 : decode cX12_init 353 = .ok (.aload_n 0, 1) := by decide +kernel
theorem dX12_init_354 : decode cX12_init 354 = .ok (.bipush 7, 2) := by decide +kernel
theorem dX12_init_356 : decode cX12_init 356 = .ok (.newarray .int, 2) := by decide +kernel
theorem dX12_init_358 : decode cX12_init 358 = .ok (.putfield 145, 3) := by decide +kernel
theorem dX12_init_361 : decode cX12_init 361 = .ok (.aload_n 0, 1) := by decide +kernel
theorem dX12_init_362 : decode cX12_init 362 = .ok (.bipush 7, 2) := by decide +kernel
theorem dX12_init_364 : decode cX12_init 364 = .ok (.newarray .int, 2) := by decide +kernel
theorem dX12_init_366 : decode cX12_init 366 = .ok (.putfield 148, 3) := by decide +kernel
theorem dX12_init_369 : decode cX12_init 369 = .ok (.aload_n 0, 1) := by decide +kernel
theorem dX12_init_370 : decode cX12_init 370 = .ok (.bipush 7, 2) := by decide +kernel
theorem dX12_init_372 : decode cX12_init 372 = .ok (.newarray .int, 2) := by decide +kernel
theorem dX12_init_374 : decode cX12_init 374 = .ok (.putfield 151, 3) := by decide +kernel
theorem dX12_init_377 : decode cX12_init 377 = .ok (.aload_n 0, 1) := by decide +kernel
theorem dX12_init_378 : decode cX12_init 378 = .ok (.bipush 49, 2) := by decide +kernel
theorem dX12_init_380 : decode cX12_init 380 = .ok (.newarray .int, 2) := by decide +kernel
theorem dX12_init_382 : decode cX12_init 382 = .ok (.putfield 154, 3) := by decide +kernel
theorem dX12_init_385 : decode cX12_init 385 = .ok (.aload_n 0, 1) := by decide +kernel
theorem dX12_init_386 : decode cX12_init 386 = .ok (.iconst 5, 1) := by decide +kernel
theorem dX12_init_387 : decode cX12_init 387 = .ok (.putfield 157, 3) := by decide +kernel
theorem dX12_init_390 : decode cX12_init 390 = .ok (.aload_n 0, 1) := by decide +kernel
theorem dX12_init_391 : decode cX12_init 391 = .ok (.bipush 7, 2) := by decide +kernel
theorem dX12_init_393 : decode cX12_init 393 = .ok (.newarray .int, 2) := by decide +kernel
theorem dX12_init_395 : decode cX12_init 395 = .ok (.putfield 160, 3) := by decide +kernel
theorem dX12_init_398 : decode cX12_init 398 = .ok (.aload_n 0, 1) := by decide +kernel
theorem dX12_init_399 : decode cX12_init 399 = .ok (.bipush 120, 2) := by decide +kernel
theorem dX12_init_401 : decode cX12_init 401 = .ok (.newarray .int, 2) := by decide +kernel
theorem dX12_init_403 : decode cX12_init 403 = .ok (.putfield 163, 3) := by decide +kernel
theorem dX12_init_406 : decode cX12_init 406 = .ok (.aload_n 0, 1) := by decide +kernel
theorem dX12_init_407 : decode cX12_init 407 = .ok (.bipush 120, 2) := by decide +kernel
theorem dX12_init_409 : decode cX12_init 409 = .ok (.newarray .int, 2) := by decide +kernel
theorem dX12_init_411 : decode cX12_init 411 = .ok (.putfield 166, 3) := by decide +kernel
theorem dX12_init_414 : decode cX12_init 414 = .ok (.aload_n 0, 1) := by decide +kernel
theorem dX12_init_415 : decode cX12_init 415 = .ok (.bipush 120, 2) := by decide +kernel
theorem dX12_init_417 : decode cX12_init 417 = .ok (.newarray .int, 2) := by decide +kernel
theorem dX12_init_419 : decode cX12_init 419 = .ok (.putfield 169, 3) := by decide +kernel
theorem dX12_init_422 : decode cX12_init 422 = .ok (.aload_n 0, 1) := by decide +kernel
theorem dX12_init_423 : decode cX12_init 423 = .ok (.getfield 77, 3) := by decide +kernel
theorem dX12_init_426 : decode cX12_init 426 = .ok (.iconst 0, 1) := by decide +kernel
theorem dX12_init_427 : decode cX12_init 427 = .ok (.iconst 3, 1) := by decide +kernel
theorem dX12_init_428 : decode cX12_init 428 = .ok (.iastore, 1) := by decide +kernel
theorem dX12_init_429 : decode cX12_init 429 = .ok (.aload_n 0, 1) := by decide +kernel
theorem dX12_init_430 : decode cX12_init 430 = .ok (.getfield 77, 3) := by decide +kernel
theorem dX12_init_433 : decode cX12_init 433 = .ok (.iconst 1, 1) := by decide +kernel
theorem dX12_init_434 : decode cX12_init 434 = .ok (.iconst 3, 1) := by decide +kernel
theorem dX12_init_435 : decode cX12_init 435 = .ok (.iastore, 1) := by decide +kernel
theorem dX12_init_436 : decode cX12_init 436 = .ok (.aload_n 0, 1) := by decide +kernel
theorem dX12_init_437 : decode cX12_init 437 = .ok (.getfield 77, 3) := by decide +kernel
theorem dX12_init_440 : decode cX12_init 440 = .ok (.iconst 2, 1) := by decide +kernel
theorem dX12_init_441 : decode cX12_init 441 = .ok (.iconst 4, 1) := by decide +kernel
theorem dX12_init_442 : decode cX12_init 442 = .ok (.iastore, 1) := by decide +kernel
theorem dX12_init_443 : decode cX12_init 443 = .ok (.aload_n 0, 1) := by decide +kernel
theorem dX12_init_444 : decode cX12_init 444 = .ok (.getfield 77, 3) := by decide +kernel
theorem dX12_init_447 : decode cX12_init 447 = .ok (.iconst 3, 1) := by decide +kernel
theorem dX12_init_448 : decode cX12_init 448 = .ok (.iconst 3, 1) := by decide +kernel
theorem dX12_init_449 : decode cX12_init 449 = .ok (.iastore, 1) := by decide +kernel
theorem dX12_init_450 : decode cX12_init 450 = .ok (.aload_n 0, 1) := by decide +kernel
theorem dX12_init_451 : decode cX12_init 451 = .ok (.getfield 77, 3) := by decide +kernel
theorem dX12_init_454 : decode cX12_init 454 = .ok (.iconst 4, 1) := by decide +kernel
theorem dX12_init_455 : decode cX12_init 455 = .ok (.bipush 6, 2) := by decide +kernel
theorem dX12_init_457 : decode cX12_init 457 = .ok (.iastore, 1) := by decide +kernel
theorem dX12_init_458 : decode cX12_init 458 = .ok (.aload_n 0, 1) := by decide +kernel
theorem dX12_init_459 : decode cX12_init 459 = .ok (.getfield 77, 3) := by decide +kernel
theorem dX12_init_462 : decode cX12_init 462 = .ok (.iconst 5, 1) := by decide +kernel
theorem dX12_init_463 : decode cX12_init 463 = .ok (.iconst 5, 1) := by decide +kernel
theorem dX12_init_464 : decode cX12_init 464 = .ok (.iastore, 1) := by decide +kernel
theorem dX12_init_465 : decode cX12_init 465 = .ok (.iconst 0, 1) := by decide +kernel
theorem dX12_init_466 : decode cX12_init 466 = .ok (.istore_n 1, 1) := by decide +kernel
theorem dX12_init_467 : decode cX12_init 467 = .ok (.iload_n 1, 1) := by decide +kernel
theorem dX12_init_468 : decode cX12_init 468 = .ok (.iconst 4, 1) := by decide +kernel
theorem dX12_init_469 : decode cX12_init 469 = .ok (.if_icmp .ge 17, 3) := by decide +kernel
theorem dX12_init_472 : decode cX12_init 472 = .ok (.aload_n 0, 1) := by decide +kernel
theorem dX12_init_473 : decode cX12_init 473 = .ok (.getfield 139, 3) := by decide +kernel
theorem dX12_init_476 : decode cX12_init 476 = .ok (.iload_n 1, 1) := by decide +kernel
theorem dX12_init_477 : decode cX12_init 477 = .ok (.bipush 100, 2) := by decide +kernel
theorem dX12_init_479 : decode cX12_init 479 = .ok (.iastore, 1) := by decide +kernel
theorem dX12_init_480 : decode cX12_init 480 = .ok (.iinc 1 1, 3) := by decide +kernel
theorem dX12_init_483 : decode cX12_init 483 = .ok (.goto (-16), 3) := by decide +kernel
theorem dX12_init_486 : decode cX12_init 486 = .ok (.aload_n 0, 1) := by decide +kernel
theorem dX12_init_487 : decode cX12_init 487 = .ok (.iconst 4, 1) := by decide +kernel
theorem dX12_init_488 : decode cX12_init 488 = .ok (.invokevirtual 172, 3) := by decide +kernel
theorem dX12_init_491 : decode cX12_init 491 = .ok (.return_, 1) := by decide +kernel
theorem dX12_in_0 : decode cX12_in 0 = .ok (.lload_n 0, 1) := by decide +kernel
theorem dX12_in_1 : decode cX12_in 1 = .ok (.lload_n 2, 1) := by decide +kernel
theorem dX12_in_2 : decode cX12_in 2 = .ok (.lcmp, 1) := by decide +kernel
theorem dX12_in_3 : decode cX12_in 3 = .ok (.ifCond .lt 14, 3) := by decide +kernel
theorem dX12_in_6 : decode cX12_in 6 = .ok (.lload_n 0, 1) := by decide +kernel
theorem dX12_in_7 : decode cX12_in 7 = .ok (.lload 4, 2) := by decide +kernel
theorem dX12_in_9 : decode cX12_in 9 = .ok (.lcmp, 1) := by decide +kernel
theorem dX12_in_10 : decode cX12_in 10 = .ok (.ifCond .gt 7, 3) := by decide +kernel
theorem dX12_in_13 : decode cX12_in 13 = .ok (.iconst 1, 1) := by decide +kernel
theorem dX12_in_14 : decode cX12_in 14 = .ok (.goto 4, 3) := by decide +kernel
theorem dX12_in_17 : decode cX12_in 17 = .ok (.iconst 0, 1) := by decide +kernel
theorem dX12_in_18 : decode cX12_in 18 = .ok (.ireturn, 1) := by decide +kernel
theorem dX12_size_0 : decode cX12_size 0 = .ok (.iload_n 0, 1) := by decide +kernel
theorem dX12_size_1 : decode cX12_size 1 = .ok (.ifCond .ge 8, 3) := by decide +kernel
theorem dX12_size_4 : decode cX12_size 4 = .ok (.iload_n 0, 1) := by decide +kernel
theorem dX12_size_5 : decode cX12_size 5 = .ok (.ineg, 1) := by decide +kernel
theorem dX12_size_6 : decode cX12_size 6 = .ok (.goto 4, 3) := by decide +kernel
theorem dX12_size_9 : decode cX12_size 9 = .ok (.iload_n 0, 1) := by decide +kernel
theorem dX12_size_10 : decode cX12_size 10 = .ok (.ireturn, 1) := by decide +kernel
theorem dX12_key_0 : decode cX12_key 0 = .ok (.iload_n 1, 1) := by decide +kernel
theorem dX12_key_1 : decode cX12_key 1 = .ok (.i2l, 1) := by decide +kernel
theorem dX12_key_2 : decode cX12_key 2 = .ok (.lconst 0, 1) := by decide +kernel
theorem dX12_key_3 : decode cX12_key 3 = .ok (.ldc2_w 176, 3) := by decide +kernel
theorem dX12_key_6 : decode cX12_key 6 = .ok (.invokestatic 178, 3) := by decide +kernel
theorem dX12_key_9 : decode cX12_key 9 = .ok (.ifCond .ne 6, 3) := by decide +kernel
theorem dX12_key_12 : decode cX12_key 12 = .ok (.bipush (-2), 2) := by decide +kernel
theorem dX12_key_14 : decode cX12_key 14 = .ok (.ireturn, 1) := by decide +kernel
theorem dX12_key_15 : decode cX12_key 15 = .ok (.aload_n 0, 1) := by decide +kernel
theorem dX12_key_16 : decode cX12_key 16 = .ok (.getfield 182, 3) := by decide +kernel
theorem dX12_key_19 : decode cX12_key 19 = .ok (.bipush 16, 2) := by decide +kernel
theorem dX12_key_21 : decode cX12_key 21 = .ok (.if_icmp .ne 6, 3) := by decide +kernel
theorem dX12_key_24 : decode cX12_key 24 = .ok (.bipush (-4), 2) := by decide +kernel
theorem dX12_key_26 : decode cX12_key 26 = .ok (.ireturn, 1) := by decide +kernel
theorem dX12_key_27 : decode cX12_key 27 = .ok (.aload_n 0, 1) := by decide +kernel
theorem dX12_key_28 : decode cX12_key 28 = .ok (.getfield 7, 3) := by decide +kernel
theorem dX12_key_31 : decode cX12_key 31 = .ok (.aload_n 0, 1) := by decide +kernel
theorem dX12_key_32 : decode cX12_key 32 = .ok (.getfield 182, 3) := by decide +kernel
theorem dX12_key_35 : decode cX12_key 35 = .ok (.iload_n 1, 1) := by decide +kernel
theorem dX12_key_36 : decode cX12_key 36 = .ok (.iastore, 1) := by decide +kernel
theorem dX12_key_37 : decode cX12_key 37 = .ok (.aload_n 0, 1) := by decide +kernel
theorem dX12_key_38 : decode cX12_key 38 = .ok (.dup, 1) := by decide +kernel
theorem dX12_key_39 : decode cX12_key 39 = .ok (.getfield 182, 3) := by decide +kernel
theorem dX12_key_42 : decode cX12_key 42 = .ok (.iconst 1, 1) := by decide +kernel
theorem dX12_key_43 : decode cX12_key 43 = .ok (.iadd, 1) := by decide +kernel
theorem dX12_key_44 : decode cX12_key 44 = .ok (.putfield 182, 3) := by decide +kernel
theorem dX12_key_47 : decode cX12_key 47 = .ok (.aload_n 0, 1) := by decide +kernel
theorem dX12_key_48 : decode cX12_key 48 = .ok (.getfield 182, 3) := by decide +kernel
theorem dX12_key_51 : decode cX12_key 51 = .ok (.ireturn, 1) := by decide +kernel
theorem dX12_letter_0 : decode cX12_letter 0 = .ok (.iload_n 1, 1) := by decide +kernel
theorem dX12_letter_1 : decode cX12_letter 1 = .ok (.i2l, 1) := by decide +kernel
theorem dX12_letter_2 : decode cX12_letter 2 = .ok (.lconst 1, 1) := by decide +kernel
theorem dX12_letter_3 : decode cX12_letter 3 = .ok (.ldc2_w 185, 3) := by decide +kernel
theorem dX12_letter_6 : decode cX12_letter 6 = .ok (.invokestatic 178, 3) := by decide +kernel
theorem dX12_letter_9 : decode cX12_letter 9 = .ok (.ifCond .ne 6, 3) := by decide +kernel
theorem dX12_letter_12 : decode cX12_letter 12 = .ok (.bipush (-2), 2) := by decide +kernel
theorem dX12_letter_14 : decode cX12_letter 14 = .ok (.ireturn, 1) := by decide +kernel
theorem dX12_letter_15 : decode cX12_letter 15 = .ok (.aload_n 0, 1) := by decide +kernel
theorem dX12_letter_16 : decode cX12_letter 16 = .ok (.getfield 187, 3) := by decide +kernel
theorem dX12_letter_19 : decode cX12_letter 19 = .ok (.iconst 3, 1) := by decide +kernel
theorem dX12_letter_20 : decode cX12_letter 20 = .ok (.if_icmp .ne 6, 3) := by decide +kernel
theorem dX12_letter_23 : decode cX12_letter 23 = .ok (.bipush (-4), 2) := by decide +kernel
theorem dX12_letter_25 : decode cX12_letter 25 = .ok (.ireturn, 1) := by decide +kernel
theorem dX12_letter_26 : decode cX12_letter 26 = .ok (.aload_n 0, 1) := by decide +kernel
theorem dX12_letter_27 : decode cX12_letter 27 = .ok (.getfield 13, 3) := by decide +kernel
theorem dX12_letter_30 : decode cX12_letter 30 = .ok (.aload_n 0, 1) := by decide +kernel
theorem dX12_letter_31 : decode cX12_letter 31 = .ok (.getfield 187, 3) := by decide +kernel
theorem dX12_letter_34 : decode cX12_letter 34 = .ok (.iload_n 1, 1) := by decide +kernel
theorem dX12_letter_35 : decode cX12_letter 35 = .ok (.iastore, 1) := by decide +kernel
theorem dX12_letter_36 : decode cX12_letter 36 = .ok (.aload_n 0, 1) := by decide +kernel
theorem dX12_letter_37 : decode cX12_letter 37 = .ok (.dup, 1) := by decide +kernel
theorem dX12_letter_38 : decode cX12_letter 38 = .ok (.getfield 187, 3) := by decide +kernel
theorem dX12_letter_41 : decode cX12_letter 41 = .ok (.iconst 1, 1) := by decide +kernel
theorem dX12_letter_42 : decode cX12_letter 42 = .ok (.iadd, 1) := by decide +kernel
theorem dX12_letter_43 : decode cX12_letter 43 = .ok (.putfield 187, 3) := by decide +kernel
theorem dX12_letter_46 : decode cX12_letter 46 = .ok (.aload_n 0, 1) := by decide +kernel
theorem dX12_letter_47 : decode cX12_letter 47 = .ok (.getfield 187, 3) := by decide +kernel
theorem dX12_letter_50 : decode cX12_letter 50 = .ok (.ireturn, 1) := by decide +kernel
theorem dX12_wipe_0 : decode cX12_wipe 0 = .ok (.iload_n 1, 1) := by decide +kernel
theorem dX12_wipe_1 : decode cX12_wipe 1 = .ok (.ifCond .ne 10, 3) := by decide +kernel
theorem dX12_wipe_4 : decode cX12_wipe 4 = .ok (.aload_n 0, 1) := by decide +kernel
theorem dX12_wipe_5 : decode cX12_wipe 5 = .ok (.getfield 182, 3) := by decide +kernel
theorem dX12_wipe_8 : decode cX12_wipe 8 = .ok (.goto 29, 3) := by decide +kernel
theorem dX12_wipe_11 : decode cX12_wipe 11 = .ok (.iload_n 1, 1) := by decide +kernel
theorem dX12_wipe_12 : decode cX12_wipe 12 = .ok (.iconst 1, 1) := by decide +kernel
theorem dX12_wipe_13 : decode cX12_wipe 13 = .ok (.if_icmp .ne 10, 3) := by decide +kernel
theorem dX12_wipe_16 : decode cX12_wipe 16 = .ok (.aload_n 0, 1) := by decide +kernel
theorem dX12_wipe_17 : decode cX12_wipe 17 = .ok (.getfield 187, 3) := by decide +kernel
theorem dX12_wipe_20 : decode cX12_wipe 20 = .ok (.goto 17, 3) := by decide +kernel
theorem dX12_wipe_23 : decode cX12_wipe 23 = .ok (.iload_n 1, 1) := by decide +kernel
theorem dX12_wipe_24 : decode cX12_wipe 24 = .ok (.iconst 2, 1) := by decide +kernel
theorem dX12_wipe_25 : decode cX12_wipe 25 = .ok (.if_icmp .ne 10, 3) := by decide +kernel
theorem dX12_wipe_28 : decode cX12_wipe 28 = .ok (.aload_n 0, 1) := by decide +kernel
theorem dX12_wipe_29 : decode cX12_wipe 29 = .ok (.getfield 190, 3) := by decide +kernel
theorem dX12_wipe_32 : decode cX12_wipe 32 = .ok (.goto 5, 3) := by decide +kernel
theorem dX12_wipe_35 : decode cX12_wipe 35 = .ok (.bipush (-2), 2) := by decide +kernel
theorem dX12_wipe_37 : decode cX12_wipe 37 = .ok (.istore_n 2, 1) := by decide +kernel
theorem dX12_wipe_38 : decode cX12_wipe 38 = .ok (.iload_n 1, 1) := by decide +kernel
theorem dX12_wipe_39 : decode cX12_wipe 39 = .ok (.ifCond .ne 11, 3) := by decide +kernel
theorem dX12_wipe_42 : decode cX12_wipe 42 = .ok (.aload_n 0, 1) := by decide +kernel
theorem dX12_wipe_43 : decode cX12_wipe 43 = .ok (.iconst 0, 1) := by decide +kernel
theorem dX12_wipe_44 : decode cX12_wipe 44 = .ok (.putfield 182, 3) := by decide +kernel
theorem dX12_wipe_47 : decode cX12_wipe 47 = .ok (.goto 26, 3) := by decide +kernel
theorem dX12_wipe_50 : decode cX12_wipe 50 = .ok (.iload_n 1, 1) := by decide +kernel
theorem dX12_wipe_51 : decode cX12_wipe 51 = .ok (.iconst 1, 1) := by decide +kernel
theorem dX12_wipe_52 : decode cX12_wipe 52 = .ok (.if_icmp .ne 11, 3) := by decide +kernel
theorem dX12_wipe_55 : decode cX12_wipe 55 = .ok (.aload_n 0, 1) := by decide +kernel
theorem dX12_wipe_56 : decode cX12_wipe 56 = .ok (.iconst 0, 1) := by decide +kernel
theorem dX12_wipe_57 : decode cX12_wipe 57 = .ok (.putfield 187, 3) := by decide +kernel
theorem dX12_wipe_60 : decode cX12_wipe 60 = .ok (.goto 13, 3) := by decide +kernel
theorem dX12_wipe_63 : decode cX12_wipe 63 = .ok (.iload_n 1, 1) := by decide +kernel
theorem dX12_wipe_64 : decode cX12_wipe 64 = .ok (.iconst 2, 1) := by decide +kernel
theorem dX12_wipe_65 : decode cX12_wipe 65 = .ok (.if_icmp .ne 8, 3) := by decide +kernel
theorem dX12_wipe_68 : decode cX12_wipe 68 = .ok (.aload_n 0, 1) := by decide +kernel
theorem dX12_wipe_69 : decode cX12_wipe 69 = .ok (.iconst 0, 1) := by decide +kernel
theorem dX12_wipe_70 : decode cX12_wipe 70 = .ok (.putfield 190, 3) := by decide +kernel
theorem dX12_wipe_73 : decode cX12_wipe 73 = .ok (.iload_n 2, 1) := by decide +kernel
theorem dX12_wipe_74 : decode cX12_wipe 74 = .ok (.ireturn, 1) := by decide +kernel
theorem dX12_isTongue_0 : decode cX12_isTongue 0 = .ok (.iload_n 0, 1) := by decide +kernel
theorem dX12_isTongue_1 : decode cX12_isTongue 1 = .ok (.i2l, 1) := by decide +kernel
theorem dX12_isTongue_2 : decode cX12_isTongue 2 = .ok (.lconst 0, 1) := by decide +kernel
theorem dX12_isTongue_3 : decode cX12_isTongue 3 = .ok (.ldc2_w 193, 3) := by decide +kernel
theorem dX12_isTongue_6 : decode cX12_isTongue 6 = .ok (.invokestatic 178, 3) := by decide +kernel
theorem dX12_isTongue_9 : decode cX12_isTongue 9 = .ok (.ireturn, 1) := by decide +kernel
theorem dX12_rule_0 : decode cX12_rule 0 = .ok (.iload_n 1, 1) := by decide +kernel
theorem dX12_rule_1 : decode cX12_rule 1 = .ok (.invokestatic 195, 3) := by decide +kernel
theorem dX12_rule_4 : decode cX12_rule 4 = .ok (.ifCond .ne 5, 3) := by decide +kernel
theorem dX12_rule_7 : decode cX12_rule 7 = .ok (.iconst (-1), 1) := by decide +kernel
theorem dX12_rule_8 : decode cX12_rule 8 = .ok (.ireturn, 1) := by decide +kernel
theorem dX12_rule_9 : decode cX12_rule 9 = .ok (.aload_n 0, 1) := by decide +kernel
theorem dX12_rule_10 : decode cX12_rule 10 = .ok (.getfield 35, 3) := by decide +kernel
theorem dX12_rule_13 : decode cX12_rule 13 = .ok (.iload_n 1, 1) := by decide +kernel
theorem dX12_rule_14 : decode cX12_rule 14 = .ok (.iaload, 1) := by decide +kernel
theorem dX12_rule_15 : decode cX12_rule 15 = .ok (.bipush 24, 2) := by decide +kernel
theorem dX12_rule_17 : decode cX12_rule 17 = .ok (.if_icmp .ne 6, 3) := by decide +kernel
theorem dX12_rule_20 : decode cX12_rule 20 = .ok (.bipush (-4), 2) := by decide +kernel
theorem dX12_rule_22 : decode cX12_rule 22 = .ok (.ireturn, 1) := by decide +kernel
theorem dX12_rule_23 : decode cX12_rule 23 = .ok (.aload_n 0, 1) := by decide +kernel
theorem dX12_rule_24 : decode cX12_rule 24 = .ok (.getfield 182, 3) := by decide +kernel
theorem dX12_rule_27 : decode cX12_rule 27 = .ok (.ifCond .eq 18, 3) := by decide +kernel
theorem dX12_rule_30 : decode cX12_rule 30 = .ok (.aload_n 0, 1) := by decide +kernel
theorem dX12_rule_31 : decode cX12_rule 31 = .ok (.getfield 187, 3) := by decide +kernel
theorem dX12_rule_34 : decode cX12_rule 34 = .ok (.ifCond .eq 11, 3) := by decide +kernel
theorem dX12_rule_37 : decode cX12_rule 37 = .ok (.aload_n 0, 1) := by decide +kernel
theorem dX12_rule_38 : decode cX12_rule 38 = .ok (.getfield 182, 3) := by decide +kernel
theorem dX12_rule_41 : decode cX12_rule 41 = .ok (.iconst 4, 1) := by decide +kernel
theorem dX12_rule_42 : decode cX12_rule 42 = .ok (.if_icmp .le 6, 3) := by decide +kernel
theorem dX12_rule_45 : decode cX12_rule 45 = .ok (.bipush (-5), 2) := by decide +kernel
theorem dX12_rule_47 : decode cX12_rule 47 = .ok (.ireturn, 1) := by decide +kernel
theorem dX12_rule_48 : decode cX12_rule 48 = .ok (.bipush 24, 2) := by decide +kernel
theorem dX12_rule_50 : decode cX12_rule 50 = .ok (.iload_n 1, 1) := by decide +kernel
theorem dX12_rule_51 : decode cX12_rule 51 = .ok (.imul, 1) := by decide +kernel
theorem dX12_rule_52 : decode cX12_rule 52 = .ok (.aload_n 0, 1) := by decide +kernel
theorem dX12_rule_53 : decode cX12_rule 53 = .ok (.getfield 35, 3) := by decide +kernel
theorem dX12_rule_56 : decode cX12_rule 56 = .ok (.iload_n 1, 1) := by decide +kernel
theorem dX12_rule_57 : decode cX12_rule 57 = .ok (.iaload, 1) := by decide +kernel
theorem dX12_rule_58 : decode cX12_rule 58 = .ok (.iadd, 1) := by decide +kernel
theorem dX12_rule_59 : decode cX12_rule 59 = .ok (.istore_n 2, 1) := by decide +kernel
theorem dX12_rule_60 : decode cX12_rule 60 = .ok (.iconst 0, 1) := by decide +kernel
theorem dX12_rule_61 : decode cX12_rule 61 = .ok (.istore_n 3, 1) := by decide +kernel
theorem dX12_rule_62 : decode cX12_rule 62 = .ok (.iload_n 3, 1) := by decide +kernel
theorem dX12_rule_63 : decode cX12_rule 63 = .ok (.aload_n 0, 1) := by decide +kernel
theorem dX12_rule_64 : decode cX12_rule 64 = .ok (.getfield 182, 3) := by decide +kernel
theorem dX12_rule_67 : decode cX12_rule 67 = .ok (.if_icmp .ge 25, 3) := by decide +kernel
theorem dX12_rule_70 : decode cX12_rule 70 = .ok (.aload_n 0, 1) := by decide +kernel
theorem dX12_rule_71 : decode cX12_rule 71 = .ok (.getfield 23, 3) := by decide +kernel
theorem dX12_rule_74 : decode cX12_rule 74 = .ok (.iconst 4, 1) := by decide +kernel
theorem dX12_rule_75 : decode cX12_rule 75 = .ok (.iload_n 2, 1) := by decide +kernel
theorem dX12_rule_76 : decode cX12_rule 76 = .ok (.imul, 1) := by decide +kernel
theorem dX12_rule_77 : decode cX12_rule 77 = .ok (.iload_n 3, 1) := by decide +kernel
theorem dX12_rule_78 : decode cX12_rule 78 = .ok (.iadd, 1) := by decide +kernel
theorem dX12_rule_79 : decode cX12_rule 79 = .ok (.aload_n 0, 1) := by decide +kernel
theorem dX12_rule_80 : decode cX12_rule 80 = .ok (.getfield 7, 3) := by decide +kernel
theorem dX12_rule_83 : decode cX12_rule 83 = .ok (.iload_n 3, 1) := by decide +kernel
theorem dX12_rule_84 : decode cX12_rule 84 = .ok (.iaload, 1) := by decide +kernel
theorem dX12_rule_85 : decode cX12_rule 85 = .ok (.iastore, 1) := by decide +kernel
theorem dX12_rule_86 : decode cX12_rule 86 = .ok (.iinc 3 1, 3) := by decide +kernel
theorem dX12_rule_89 : decode cX12_rule 89 = .ok (.goto (-27), 3) := by decide +kernel
theorem dX12_rule_92 : decode cX12_rule 92 = .ok (.iconst 0, 1) := by decide +kernel
theorem dX12_rule_93 : decode cX12_rule 93 = .ok (.istore_n 3, 1) := by decide +kernel
theorem dX12_rule_94 : decode cX12_rule 94 = .ok (.iload_n 3, 1) := by decide +kernel
theorem dX12_rule_95 : decode cX12_rule 95 = .ok (.aload_n 0, 1) := by decide +kernel
theorem dX12_rule_96 : decode cX12_rule 96 = .ok (.getfield 187, 3) := by decide +kernel
theorem dX12_rule_99 : decode cX12_rule 99 = .ok (.if_icmp .ge 25, 3) := by decide +kernel
theorem dX12_rule_102 : decode cX12_rule 102 = .ok (.aload_n 0, 1) := by decide +kernel
theorem dX12_rule_103 : decode cX12_rule 103 = .ok (.getfield 29, 3) := by decide +kernel
theorem dX12_rule_106 : decode cX12_rule 106 = .ok (.iconst 3, 1) := by decide +kernel
theorem dX12_rule_107 : decode cX12_rule 107 = .ok (.iload_n 2, 1) := by decide +kernel
theorem dX12_rule_108 : decode cX12_rule 108 = .ok (.imul, 1) := by decide +kernel
theorem dX12_rule_109 : decode cX12_rule 109 = .ok (.iload_n 3, 1) := by decide +kernel
theorem dX12_rule_110 : decode cX12_rule 110 = .ok (.iadd, 1) := by decide +kernel
theorem dX12_rule_111 : decode cX12_rule 111 = .ok (.aload_n 0, 1) := by decide +kernel
theorem dX12_rule_112 : decode cX12_rule 112 = .ok (.getfield 13, 3) := by decide +kernel
theorem dX12_rule_115 : decode cX12_rule 115 = .ok (.iload_n 3, 1) := by decide +kernel
theorem dX12_rule_116 : decode cX12_rule 116 = .ok (.iaload, 1) := by decide +kernel
theorem dX12_rule_117 : decode cX12_rule 117 = .ok (.iastore, 1) := by decide +kernel
theorem dX12_rule_118 : decode cX12_rule 118 = .ok (.iinc 3 1, 3) := by decide +kernel
theorem dX12_rule_121 : decode cX12_rule 121 = .ok (.goto (-27), 3) := by decide +kernel
theorem dX12_rule_124 : decode cX12_rule 124 = .ok (.aload_n 0, 1) := by decide +kernel
theorem dX12_rule_125 : decode cX12_rule 125 = .ok (.getfield 26, 3) := by decide +kernel
theorem dX12_rule_128 : decode cX12_rule 128 = .ok (.iload_n 2, 1) := by decide +kernel
theorem dX12_rule_129 : decode cX12_rule 129 = .ok (.aload_n 0, 1) := by decide +kernel
theorem dX12_rule_130 : decode cX12_rule 130 = .ok (.getfield 182, 3) := by decide +kernel
theorem dX12_rule_133 : decode cX12_rule 133 = .ok (.iastore, 1) := by decide +kernel
theorem dX12_rule_134 : decode cX12_rule 134 = .ok (.aload_n 0, 1) := by decide +kernel
theorem dX12_rule_135 : decode cX12_rule 135 = .ok (.getfield 32, 3) := by decide +kernel
theorem dX12_rule_138 : decode cX12_rule 138 = .ok (.iload_n 2, 1) := by decide +kernel
theorem dX12_rule_139 : decode cX12_rule 139 = .ok (.aload_n 0, 1) := by decide +kernel
theorem dX12_rule_140 : decode cX12_rule 140 = .ok (.getfield 187, 3) := by decide +kernel
theorem dX12_rule_143 : decode cX12_rule 143 = .ok (.iastore, 1) := by decide +kernel
theorem dX12_rule_144 : decode cX12_rule 144 = .ok (.aload_n 0, 1) := by decide +kernel
theorem dX12_rule_145 : decode cX12_rule 145 = .ok (.iconst 0, 1) := by decide +kernel
theorem dX12_rule_146 : decode cX12_rule 146 = .ok (.putfield 182, 3) := by decide +kernel
theorem dX12_rule_149 : decode cX12_rule 149 = .ok (.aload_n 0, 1) := by decide +kernel
theorem dX12_rule_150 : decode cX12_rule 150 = .ok (.iconst 0, 1) := by decide +kernel
theorem dX12_rule_151 : decode cX12_rule 151 = .ok (.putfield 187, 3) := by decide +kernel
theorem dX12_rule_154 : decode cX12_rule 154 = .ok (.aload_n 0, 1) := by decide +kernel
theorem dX12_rule_155 : decode cX12_rule 155 = .ok (.getfield 35, 3) := by decide +kernel
theorem dX12_rule_158 : decode cX12_rule 158 = .ok (.iload_n 1, 1) := by decide +kernel
theorem dX12_rule_159 : decode cX12_rule 159 = .ok (.dup2, 1) := by decide +kernel
theorem dX12_rule_160 : decode cX12_rule 160 = .ok (.iaload, 1) := by decide +kernel
theorem dX12_rule_161 : decode cX12_rule 161 = .ok (.iconst 1, 1) := by decide +kernel
theorem dX12_rule_162 : decode cX12_rule 162 = .ok (.iadd, 1) := by decide +kernel
theorem dX12_rule_163 : decode cX12_rule 163 = .ok (.iastore, 1) := by decide +kernel
theorem dX12_rule_164 : decode cX12_rule 164 = .ok (.aload_n 0, 1) := by decide +kernel
theorem dX12_rule_165 : decode cX12_rule 165 = .ok (.getfield 35, 3) := by decide +kernel
theorem dX12_rule_168 : decode cX12_rule 168 = .ok (.iload_n 1, 1) := by decide +kernel
theorem dX12_rule_169 : decode cX12_rule 169 = .ok (.iaload, 1) := by decide +kernel
theorem dX12_rule_170 : decode cX12_rule 170 = .ok (.iconst 1, 1) := by decide +kernel
theorem dX12_rule_171 : decode cX12_rule 171 = .ok (.isub, 1) := by decide +kernel
theorem dX12_rule_172 : decode cX12_rule 172 = .ok (.ireturn, 1) := by decide +kernel
theorem dX12_isLetter_0 : decode cX12_isLetter 0 = .ok (.iload_n 0, 1) := by decide +kernel
theorem dX12_isLetter_1 : decode cX12_isLetter 1 = .ok (.i2l, 1) := by decide +kernel
theorem dX12_isLetter_2 : decode cX12_isLetter 2 = .ok (.lconst 1, 1) := by decide +kernel
theorem dX12_isLetter_3 : decode cX12_isLetter 3 = .ok (.ldc2_w 185, 3) := by decide +kernel
theorem dX12_isLetter_6 : decode cX12_isLetter 6 = .ok (.invokestatic 178, 3) := by decide +kernel
theorem dX12_isLetter_9 : decode cX12_isLetter 9 = .ok (.ireturn, 1) := by decide +kernel
theorem dX12_join_0 : decode cX12_join 0 = .ok (.iload_n 1, 1) := by decide +kernel
theorem dX12_join_1 : decode cX12_join 1 = .ok (.invokestatic 195, 3) := by decide +kernel
theorem dX12_join_4 : decode cX12_join 4 = .ok (.ifCond .ne 5, 3) := by decide +kernel
theorem dX12_join_7 : decode cX12_join 7 = .ok (.iconst (-1), 1) := by decide +kernel
theorem dX12_join_8 : decode cX12_join 8 = .ok (.ireturn, 1) := by decide +kernel
theorem dX12_join_9 : decode cX12_join 9 = .ok (.iload_n 2, 1) := by decide +kernel
theorem dX12_join_10 : decode cX12_join 10 = .ok (.invokestatic 199, 3) := by decide +kernel
theorem dX12_join_13 : decode cX12_join 13 = .ok (.ifCond .eq 18, 3) := by decide +kernel
theorem dX12_join_16 : decode cX12_join 16 = .ok (.iload_n 3, 1) := by decide +kernel
theorem dX12_join_17 : decode cX12_join 17 = .ok (.invokestatic 199, 3) := by decide +kernel
theorem dX12_join_20 : decode cX12_join 20 = .ok (.ifCond .eq 11, 3) := by decide +kernel
theorem dX12_join_23 : decode cX12_join 23 = .ok (.iload 4, 2) := by decide +kernel
theorem dX12_join_25 : decode cX12_join 25 = .ok (.invokestatic 199, 3) := by decide +kernel
theorem dX12_join_28 : decode cX12_join 28 = .ok (.ifCond .ne 6, 3) := by decide +kernel
theorem dX12_join_31 : decode cX12_join 31 = .ok (.bipush (-2), 2) := by decide +kernel
theorem dX12_join_33 : decode cX12_join 33 = .ok (.ireturn, 1) := by decide +kernel
theorem dX12_join_34 : decode cX12_join 34 = .ok (.aload_n 0, 1) := by decide +kernel
theorem dX12_join_35 : decode cX12_join 35 = .ok (.getfield 41, 3) := by decide +kernel
theorem dX12_join_38 : decode cX12_join 38 = .ok (.iload_n 1, 1) := by decide +kernel
theorem dX12_join_39 : decode cX12_join 39 = .ok (.iaload, 1) := by decide +kernel
theorem dX12_join_40 : decode cX12_join 40 = .ok (.bipush 12, 2) := by decide +kernel
theorem dX12_join_42 : decode cX12_join 42 = .ok (.if_icmp .ne 6, 3) := by decide +kernel
theorem dX12_join_45 : decode cX12_join 45 = .ok (.bipush (-4), 2) := by decide +kernel
theorem dX12_join_47 : decode cX12_join 47 = .ok (.ireturn, 1) := by decide +kernel
theorem dX12_join_48 : decode cX12_join 48 = .ok (.iconst 3, 1) := by decide +kernel
theorem dX12_join_49 : decode cX12_join 49 = .ok (.bipush 12, 2) := by decide +kernel
theorem dX12_join_51 : decode cX12_join 51 = .ok (.iload_n 1, 1) := by decide +kernel
theorem dX12_join_52 : decode cX12_join 52 = .ok (.imul, 1) := by decide +kernel
theorem dX12_join_53 : decode cX12_join 53 = .ok (.aload_n 0, 1) := by decide +kernel
theorem dX12_join_54 : decode cX12_join 54 = .ok (.getfield 41, 3) := by decide +kernel
theorem dX12_join_57 : decode cX12_join 57 = .ok (.iload_n 1, 1) := by decide +kernel
theorem dX12_join_58 : decode cX12_join 58 = .ok (.iaload, 1) := by decide +kernel
theorem dX12_join_59 : decode cX12_join 59 = .ok (.iadd, 1) := by decide +kernel
theorem dX12_join_60 : decode cX12_join 60 = .ok (.imul, 1) := by decide +kernel
theorem dX12_join_61 : decode cX12_join 61 = .ok (.istore 5, 2) := by decide +kernel
theorem dX12_join_63 : decode cX12_join 63 = .ok (.aload_n 0, 1) := by decide +kernel
theorem dX12_join_64 : decode cX12_join 64 = .ok (.getfield 38, 3) := by decide +kernel
theorem dX12_join_67 : decode cX12_join 67 = .ok (.iload 5, 2) := by decide +kernel
theorem dX12_join_69 : decode cX12_join 69 = .ok (.iload_n 2, 1) := by decide +kernel
theorem dX12_join_70 : decode cX12_join 70 = .ok (.iastore, 1) := by decide +kernel
theorem dX12_join_71 : decode cX12_join 71 = .ok (.aload_n 0, 1) := by decide +kernel
theorem dX12_join_72 : decode cX12_join 72 = .ok (.getfield 38, 3) := by decide +kernel
theorem dX12_join_75 : decode cX12_join 75 = .ok (.iload 5, 2) := by decide +kernel
theorem dX12_join_77 : decode cX12_join 77 = .ok (.iconst 1, 1) := by decide +kernel
theorem dX12_join_78 : decode cX12_join 78 = .ok (.iadd, 1) := by decide +kernel
theorem dX12_join_79 : decode cX12_join 79 = .ok (.iload_n 3, 1) := by decide +kernel
theorem dX12_join_80 : decode cX12_join 80 = .ok (.iastore, 1) := by decide +kernel
theorem dX12_join_81 : decode cX12_join 81 = .ok (.aload_n 0, 1) := by decide +kernel
theorem dX12_join_82 : decode cX12_join 82 = .ok (.getfield 38, 3) := by decide +kernel
theorem dX12_join_85 : decode cX12_join 85 = .ok (.iload 5, 2) := by decide +kernel
theorem dX12_join_87 : decode cX12_join 87 = .ok (.iconst 2, 1) := by decide +kernel
theorem dX12_join_88 : decode cX12_join 88 = .ok (.iadd, 1) := by decide +kernel
theorem dX12_join_89 : decode cX12_join 89 = .ok (.iload 4, 2) := by decide +kernel
theorem dX12_join_91 : decode cX12_join 91 = .ok (.iastore, 1) := by decide +kernel
theorem dX12_join_92 : decode cX12_join 92 = .ok (.aload_n 0, 1) := by decide +kernel
theorem dX12_join_93 : decode cX12_join 93 = .ok (.getfield 41, 3) := by decide +kernel
theorem dX12_join_96 : decode cX12_join 96 = .ok (.iload_n 1, 1) := by decide +kernel
theorem dX12_join_97 : decode cX12_join 97 = .ok (.dup2, 1) := by decide +kernel
theorem dX12_join_98 : decode cX12_join 98 = .ok (.iaload, 1) := by decide +kernel
theorem dX12_join_99 : decode cX12_join 99 = .ok (.iconst 1, 1) := by decide +kernel
theorem dX12_join_100 : decode cX12_join 100 = .ok (.iadd, 1) := by decide +kernel
theorem dX12_join_101 : decode cX12_join 101 = .ok (.iastore, 1) := by decide +kernel
theorem dX12_join_102 : decode cX12_join 102 = .ok (.aload_n 0, 1) := by decide +kernel
theorem dX12_join_103 : decode cX12_join 103 = .ok (.getfield 41, 3) := by decide +kernel
theorem dX12_join_106 : decode cX12_join 106 = .ok (.iload_n 1, 1) := by decide +kernel
theorem dX12_join_107 : decode cX12_join 107 = .ok (.iaload, 1) := by decide +kernel
theorem dX12_join_108 : decode cX12_join 108 = .ok (.ireturn, 1) := by decide +kernel
theorem dX12_own_0 : decode cX12_own 0 = .ok (.iload_n 1, 1) := by decide +kernel
theorem dX12_own_1 : decode cX12_own 1 = .ok (.invokestatic 195, 3) := by decide +kernel
theorem dX12_own_4 : decode cX12_own 4 = .ok (.ifCond .ne 5, 3) := by decide +kernel
theorem dX12_own_7 : decode cX12_own 7 = .ok (.iconst (-1), 1) := by decide +kernel
theorem dX12_own_8 : decode cX12_own 8 = .ok (.ireturn, 1) := by decide +kernel
theorem dX12_own_9 : decode cX12_own 9 = .ok (.iload_n 2, 1) := by decide +kernel
theorem dX12_own_10 : decode cX12_own 10 = .ok (.invokestatic 199, 3) := by decide +kernel
theorem dX12_own_13 : decode cX12_own 13 = .ok (.ifCond .ne 6, 3) := by decide +kernel
theorem dX12_own_16 : decode cX12_own 16 = .ok (.bipush (-2), 2) := by decide +kernel
theorem dX12_own_18 : decode cX12_own 18 = .ok (.ireturn, 1) := by decide +kernel
theorem dX12_own_19 : decode cX12_own 19 = .ok (.aload_n 0, 1) := by decide +kernel
theorem dX12_own_20 : decode cX12_own 20 = .ok (.getfield 44, 3) := by decide +kernel
theorem dX12_own_23 : decode cX12_own 23 = .ok (.bipush 61, 2) := by decide +kernel
theorem dX12_own_25 : decode cX12_own 25 = .ok (.iload_n 1, 1) := by decide +kernel
theorem dX12_own_26 : decode cX12_own 26 = .ok (.imul, 1) := by decide +kernel
theorem dX12_own_27 : decode cX12_own 27 = .ok (.iload_n 2, 1) := by decide +kernel
theorem dX12_own_28 : decode cX12_own 28 = .ok (.iadd, 1) := by decide +kernel
theorem dX12_own_29 : decode cX12_own 29 = .ok (.baload, 1) := by decide +kernel
theorem dX12_own_30 : decode cX12_own 30 = .ok (.ifCond .eq 7, 3) := by decide +kernel
theorem dX12_own_33 : decode cX12_own 33 = .ok (.iconst 1, 1) := by decide +kernel
theorem dX12_own_34 : decode cX12_own 34 = .ok (.goto 4, 3) := by decide +kernel
theorem dX12_own_37 : decode cX12_own 37 = .ok (.iconst 0, 1) := by decide +kernel
theorem dX12_own_38 : decode cX12_own 38 = .ok (.istore 4, 2) := by decide +kernel
theorem dX12_own_40 : decode cX12_own 40 = .ok (.aload_n 0, 1) := by decide +kernel
theorem dX12_own_41 : decode cX12_own 41 = .ok (.getfield 44, 3) := by decide +kernel
theorem dX12_own_44 : decode cX12_own 44 = .ok (.bipush 61, 2) := by decide +kernel
theorem dX12_own_46 : decode cX12_own 46 = .ok (.iload_n 1, 1) := by decide +kernel
theorem dX12_own_47 : decode cX12_own 47 = .ok (.imul, 1) := by decide +kernel
theorem dX12_own_48 : decode cX12_own 48 = .ok (.iload_n 2, 1) := by decide +kernel
theorem dX12_own_49 : decode cX12_own 49 = .ok (.iadd, 1) := by decide +kernel
theorem dX12_own_50 : decode cX12_own 50 = .ok (.iload_n 3, 1) := by decide +kernel
theorem dX12_own_51 : decode cX12_own 51 = .ok (.bastore, 1) := by decide +kernel
theorem dX12_own_52 : decode cX12_own 52 = .ok (.iload 4, 2) := by decide +kernel
theorem dX12_own_54 : decode cX12_own 54 = .ok (.ireturn, 1) := by decide +kernel
theorem dX12_haveSameKeys_0 : decode cX12_haveSameKeys 0 = .ok (.aload_n 0, 1) := by decide +kernel
theorem dX12_haveSameKeys_1 : decode cX12_haveSameKeys 1 = .ok (.getfield 26, 3) := by decide +kernel
theorem dX12_haveSameKeys_4 : decode cX12_haveSameKeys 4 = .ok (.iload_n 1, 1) := by decide +kernel
theorem dX12_haveSameKeys_5 : decode cX12_haveSameKeys 5 = .ok (.iaload, 1) := by decide +kernel
theorem dX12_haveSameKeys_6 : decode cX12_haveSameKeys 6 = .ok (.aload_n 0, 1) := by decide +kernel
theorem dX12_haveSameKeys_7 : decode cX12_haveSameKeys 7 = .ok (.getfield 26, 3) := by decide +kernel
theorem dX12_haveSameKeys_10 : decode cX12_haveSameKeys 10 = .ok (.iload_n 2, 1) := by decide +kernel
theorem dX12_haveSameKeys_11 : decode cX12_haveSameKeys 11 = .ok (.iaload, 1) := by decide +kernel
theorem dX12_haveSameKeys_12 : decode cX12_haveSameKeys 12 = .ok (.if_icmp .ne 7, 3) := by decide +kernel
theorem dX12_haveSameKeys_15 : decode cX12_haveSameKeys 15 = .ok (.iconst 1, 1) := by decide +kernel
theorem dX12_haveSameKeys_16 : decode cX12_haveSameKeys 16 = .ok (.goto 4, 3) := by decide +kernel
theorem dX12_haveSameKeys_19 : decode cX12_haveSameKeys 19 = .ok (.iconst 0, 1) := by decide +kernel
theorem dX12_haveSameKeys_20 : decode cX12_haveSameKeys 20 = .ok (.istore_n 3, 1) := by decide +kernel
theorem dX12_haveSameKeys_21 : decode cX12_haveSameKeys 21 = .ok (.iconst 0, 1) := by decide +kernel
theorem dX12_haveSameKeys_22 : decode cX12_haveSameKeys 22 = .ok (.istore 4, 2) := by decide +kernel
theorem dX12_haveSameKeys_24 : decode cX12_haveSameKeys 24 = .ok (.iload 4, 2) := by decide +kernel
theorem dX12_haveSameKeys_26 : decode cX12_haveSameKeys 26 = .ok (.aload_n 0, 1) := by decide +kernel
theorem dX12_haveSameKeys_27 : decode cX12_haveSameKeys 27 = .ok (.getfield 26, 3) := by decide +kernel
theorem dX12_haveSameKeys_30 : decode cX12_haveSameKeys 30 = .ok (.iload_n 1, 1) := by decide +kernel
theorem dX12_haveSameKeys_31 : decode cX12_haveSameKeys 31 = .ok (.iaload, 1) := by decide +kernel
theorem dX12_haveSameKeys_32 : decode cX12_haveSameKeys 32 = .ok (.if_icmp .ge 44, 3) := by decide +kernel
theorem dX12_haveSameKeys_35 : decode cX12_haveSameKeys 35 = .ok (.iload_n 3, 1) := by decide +kernel
theorem dX12_haveSameKeys_36 : decode cX12_haveSameKeys 36 = .ok (.ifCond .eq 40, 3) := by decide +kernel
theorem dX12_haveSameKeys_39 : decode cX12_haveSameKeys 39 = .ok (.aload_n 0, 1) := by decide +kernel
theorem dX12_haveSameKeys_40 : decode cX12_haveSameKeys 40 = .ok (.getfield 23, 3) := by decide +kernel
theorem dX12_haveSameKeys_43 : decode cX12_haveSameKeys 43 = .ok (.iconst 4, 1) := by decide +kernel
theorem dX12_haveSameKeys_44 : decode cX12_haveSameKeys 44 = .ok (.iload_n 1, 1) := by decide +kernel
theorem dX12_haveSameKeys_45 : decode cX12_haveSameKeys 45 = .ok (.imul, 1) := by decide +kernel
theorem dX12_haveSameKeys_46 : decode cX12_haveSameKeys 46 = .ok (.iload 4, 2) := by decide +kernel
theorem dX12_haveSameKeys_48 : decode cX12_haveSameKeys 48 = .ok (.iadd, 1) := by decide +kernel
theorem dX12_haveSameKeys_49 : decode cX12_haveSameKeys 49 = .ok (.iaload, 1) := by decide +kernel
theorem dX12_haveSameKeys_50 : decode cX12_haveSameKeys 50 = .ok (.aload_n 0, 1) := by decide +kernel
theorem dX12_haveSameKeys_51 : decode cX12_haveSameKeys 51 = .ok (.getfield 23, 3) := by decide +kernel
theorem dX12_haveSameKeys_54 : decode cX12_haveSameKeys 54 = .ok (.iconst 4, 1) := by decide +kernel
theorem dX12_haveSameKeys_55 : decode cX12_haveSameKeys 55 = .ok (.iload_n 2, 1) := by decide +kernel
theorem dX12_haveSameKeys_56 : decode cX12_haveSameKeys 56 = .ok (.imul, 1) := by decide +kernel
theorem dX12_haveSameKeys_57 : decode cX12_haveSameKeys 57 = .ok (.iload 4, 2) := by decide +kernel
theorem dX12_haveSameKeys_59 : decode cX12_haveSameKeys 59 = .ok (.iadd, 1) := by decide +kernel
theorem dX12_haveSameKeys_60 : decode cX12_haveSameKeys 60 = .ok (.iaload, 1) := by decide +kernel
theorem dX12_haveSameKeys_61 : decode cX12_haveSameKeys 61 = .ok (.if_icmp .ne 7, 3) := by decide +kernel
theorem dX12_haveSameKeys_64 : decode cX12_haveSameKeys 64 = .ok (.iconst 1, 1) := by decide +kernel
theorem dX12_haveSameKeys_65 : decode cX12_haveSameKeys 65 = .ok (.goto 4, 3) := by decide +kernel
theorem dX12_haveSameKeys_68 : decode cX12_haveSameKeys 68 = .ok (.iconst 0, 1) := by decide +kernel
theorem dX12_haveSameKeys_69 : decode cX12_haveSameKeys 69 = .ok (.istore_n 3, 1) := by decide +kernel
theorem dX12_haveSameKeys_70 : decode cX12_haveSameKeys 70 = .ok (.iinc 4 1, 3) := by decide +kernel
theorem dX12_haveSameKeys_73 : decode cX12_haveSameKeys 73 = .ok (.goto (-49), 3) := by decide +kernel
theorem dX12_haveSameKeys_76 : decode cX12_haveSameKeys 76 = .ok (.iload_n 3, 1) := by decide +kernel
theorem dX12_haveSameKeys_77 : decode cX12_haveSameKeys 77 = .ok (.ireturn, 1) := by decide +kernel
theorem dX12_haveSameLetters_0 : decode cX12_haveSameLetters 0 = .ok (.aload_n 0, 1) := by decide +kernel
theorem dX12_haveSameLetters_1 : decode cX12_haveSameLetters 1 = .ok (.getfield 32, 3) := by decide +kernel
theorem dX12_haveSameLetters_4 : decode cX12_haveSameLetters 4 = .ok (.iload_n 1, 1) := by decide +kernel
theorem dX12_haveSameLetters_5 : decode cX12_haveSameLetters 5 = .ok (.iaload, 1) := by decide +kernel
theorem dX12_haveSameLetters_6 : decode cX12_haveSameLetters 6 = .ok (.aload_n 0, 1) := by decide +kernel
theorem dX12_haveSameLetters_7 : decode cX12_haveSameLetters 7 = .ok (.getfield 32, 3) := by decide +kernel
theorem dX12_haveSameLetters_10 : decode cX12_haveSameLetters 10 = .ok (.iload_n 2, 1) := by decide +kernel
theorem dX12_haveSameLetters_11 : decode cX12_haveSameLetters 11 = .ok (.iaload, 1) := by decide +kernel
theorem dX12_haveSameLetters_12 : decode cX12_haveSameLetters 12 = .ok (.if_icmp .ne 7, 3) := by decide +kernel
theorem dX12_haveSameLetters_15 : decode cX12_haveSameLetters 15 = .ok (.iconst 1, 1) := by decide +kernel
theorem dX12_haveSameLetters_16 : decode cX12_haveSameLetters 16 = .ok (.goto 4, 3) := by decide +kernel
theorem dX12_haveSameLetters_19 : decode cX12_haveSameLetters 19 = .ok (.iconst 0, 1) := by decide +kernel
theorem dX12_haveSameLetters_20 : decode cX12_haveSameLetters 20 = .ok (.istore_n 3, 1) := by decide +kernel
theorem dX12_haveSameLetters_21 : decode cX12_haveSameLetters 21 = .ok (.iconst 0, 1) := by decide +kernel
theorem dX12_haveSameLetters_22 : decode cX12_haveSameLetters 22 = .ok (.istore 4, 2) := by decide +kernel
theorem dX12_haveSameLetters_24 : decode cX12_haveSameLetters 24 = .ok (.iload 4, 2) := by decide +kernel
theorem dX12_haveSameLetters_26 : decode cX12_haveSameLetters 26 = .ok (.aload_n 0, 1) := by decide +kernel
theorem dX12_haveSameLetters_27 : decode cX12_haveSameLetters 27 = .ok (.getfield 32, 3) := by decide +kernel
theorem dX12_haveSameLetters_30 : decode cX12_haveSameLetters 30 = .ok (.iload_n 1, 1) := by decide +kernel
theorem dX12_haveSameLetters_31 : decode cX12_haveSameLetters 31 = .ok (.iaload, 1) := by decide +kernel
theorem dX12_haveSameLetters_32 : decode cX12_haveSameLetters 32 = .ok (.if_icmp .ge 44, 3) := by decide +kernel
theorem dX12_haveSameLetters_35 : decode cX12_haveSameLetters 35 = .ok (.iload_n 3, 1) := by decide +kernel
theorem dX12_haveSameLetters_36 : decode cX12_haveSameLetters 36 = .ok (.ifCond .eq 40, 3) := by decide +kernel
theorem dX12_haveSameLetters_39 : decode cX12_haveSameLetters 39 = .ok (.aload_n 0, 1) := by decide +kernel
theorem dX12_haveSameLetters_40 : decode cX12_haveSameLetters 40 = .ok (.getfield 29, 3) := by decide +kernel
theorem dX12_haveSameLetters_43 : decode cX12_haveSameLetters 43 = .ok (.iconst 3, 1) := by decide +kernel
theorem dX12_haveSameLetters_44 : decode cX12_haveSameLetters 44 = .ok (.iload_n 1, 1) := by decide +kernel
theorem dX12_haveSameLetters_45 : decode cX12_haveSameLetters 45 = .ok (.imul, 1) := by decide +kernel
theorem dX12_haveSameLetters_46 : decode cX12_haveSameLetters 46 = .ok (.iload 4, 2) := by decide +kernel
theorem dX12_haveSameLetters_48 : decode cX12_haveSameLetters 48 = .ok (.iadd, 1) := by decide +kernel
theorem dX12_haveSameLetters_49 : decode cX12_haveSameLetters 49 = .ok (.iaload, 1) := by decide +kernel
theorem dX12_haveSameLetters_50 : decode cX12_haveSameLetters 50 = .ok (.aload_n 0, 1) := by decide +kernel
theorem dX12_haveSameLetters_51 : decode cX12_haveSameLetters 51 = .ok (.getfield 29, 3) := by decide +kernel
theorem dX12_haveSameLetters_54 : decode cX12_haveSameLetters 54 = .ok (.iconst 3, 1) := by decide +kernel
theorem dX12_haveSameLetters_55 : decode cX12_haveSameLetters 55 = .ok (.iload_n 2, 1) := by decide +kernel
theorem dX12_haveSameLetters_56 : decode cX12_haveSameLetters 56 = .ok (.imul, 1) := by decide +kernel
theorem dX12_haveSameLetters_57 : decode cX12_haveSameLetters 57 = .ok (.iload 4, 2) := by decide +kernel
theorem dX12_haveSameLetters_59 : decode cX12_haveSameLetters 59 = .ok (.iadd, 1) := by decide +kernel
theorem dX12_haveSameLetters_60 : decode cX12_haveSameLetters 60 = .ok (.iaload, 1) := by decide +kernel
theorem dX12_haveSameLetters_61 : decode cX12_haveSameLetters 61 = .ok (.if_icmp .ne 7, 3) := by decide +kernel
theorem dX12_haveSameLetters_64 : decode cX12_haveSameLetters 64 = .ok (.iconst 1, 1) := by decide +kernel
theorem dX12_haveSameLetters_65 : decode cX12_haveSameLetters 65 = .ok (.goto 4, 3) := by decide +kernel
theorem dX12_haveSameLetters_68 : decode cX12_haveSameLetters 68 = .ok (.iconst 0, 1) := by decide +kernel
theorem dX12_haveSameLetters_69 : decode cX12_haveSameLetters 69 = .ok (.istore_n 3, 1) := by decide +kernel
theorem dX12_haveSameLetters_70 : decode cX12_haveSameLetters 70 = .ok (.iinc 4 1, 3) := by decide +kernel
theorem dX12_haveSameLetters_73 : decode cX12_haveSameLetters 73 = .ok (.goto (-49), 3) := by decide +kernel
theorem dX12_haveSameLetters_76 : decode cX12_haveSameLetters 76 = .ok (.iload_n 3, 1) := by decide +kernel
theorem dX12_haveSameLetters_77 : decode cX12_haveSameLetters 77 = .ok (.ireturn, 1) := by decide +kernel
theorem dX12_quarrel_0 : decode cX12_quarrel 0 = .ok (.iload_n 1, 1) := by decide +kernel
theorem dX12_quarrel_1 : decode cX12_quarrel 1 = .ok (.invokestatic 195, 3) := by decide +kernel
theorem dX12_quarrel_4 : decode cX12_quarrel 4 = .ok (.ifCond .ne 5, 3) := by decide +kernel
theorem dX12_quarrel_7 : decode cX12_quarrel 7 = .ok (.iconst (-1), 1) := by decide +kernel
theorem dX12_quarrel_8 : decode cX12_quarrel 8 = .ok (.ireturn, 1) := by decide +kernel
theorem dX12_quarrel_9 : decode cX12_quarrel 9 = .ok (.iconst 0, 1) := by decide +kernel
theorem dX12_quarrel_10 : decode cX12_quarrel 10 = .ok (.istore_n 3, 1) := by decide +kernel
theorem dX12_quarrel_11 : decode cX12_quarrel 11 = .ok (.bipush 24, 2) := by decide +kernel
theorem dX12_quarrel_13 : decode cX12_quarrel 13 = .ok (.iload_n 1, 1) := by decide +kernel
theorem dX12_quarrel_14 : decode cX12_quarrel 14 = .ok (.imul, 1) := by decide +kernel
theorem dX12_quarrel_15 : decode cX12_quarrel 15 = .ok (.istore 4, 2) := by decide +kernel
theorem dX12_quarrel_17 : decode cX12_quarrel 17 = .ok (.iconst 0, 1) := by decide +kernel
theorem dX12_quarrel_18 : decode cX12_quarrel 18 = .ok (.istore 5, 2) := by decide +kernel
theorem dX12_quarrel_20 : decode cX12_quarrel 20 = .ok (.iload 5, 2) := by decide +kernel
theorem dX12_quarrel_22 : decode cX12_quarrel 22 = .ok (.aload_n 0, 1) := by decide +kernel
theorem dX12_quarrel_23 : decode cX12_quarrel 23 = .ok (.getfield 35, 3) := by decide +kernel
theorem dX12_quarrel_26 : decode cX12_quarrel 26 = .ok (.iload_n 1, 1) := by decide +kernel
theorem dX12_quarrel_27 : decode cX12_quarrel 27 = .ok (.iaload, 1) := by decide +kernel
theorem dX12_quarrel_28 : decode cX12_quarrel 28 = .ok (.if_icmp .ge 83, 3) := by decide +kernel
theorem dX12_quarrel_31 : decode cX12_quarrel 31 = .ok (.iload 5, 2) := by decide +kernel
theorem dX12_quarrel_33 : decode cX12_quarrel 33 = .ok (.iconst 1, 1) := by decide +kernel
theorem dX12_quarrel_34 : decode cX12_quarrel 34 = .ok (.iadd, 1) := by decide +kernel
theorem dX12_quarrel_35 : decode cX12_quarrel 35 = .ok (.istore 6, 2) := by decide +kernel
theorem dX12_quarrel_37 : decode cX12_quarrel 37 = .ok (.iload 6, 2) := by decide +kernel
theorem dX12_quarrel_39 : decode cX12_quarrel 39 = .ok (.aload_n 0, 1) := by decide +kernel
theorem dX12_quarrel_40 : decode cX12_quarrel 40 = .ok (.getfield 35, 3) := by decide +kernel
theorem dX12_quarrel_43 : decode cX12_quarrel 43 = .ok (.iload_n 1, 1) := by decide +kernel
theorem dX12_quarrel_44 : decode cX12_quarrel 44 = .ok (.iaload, 1) := by decide +kernel
theorem dX12_quarrel_45 : decode cX12_quarrel 45 = .ok (.if_icmp .ge 60, 3) := by decide +kernel
theorem dX12_quarrel_48 : decode cX12_quarrel 48 = .ok (.aload_n 0, 1) := by decide +kernel
theorem dX12_quarrel_49 : decode cX12_quarrel 49 = .ok (.iload 4, 2) := by decide +kernel
theorem dX12_quarrel_51 : decode cX12_quarrel 51 = .ok (.iload 5, 2) := by decide +kernel
theorem dX12_quarrel_53 : decode cX12_quarrel 53 = .ok (.iadd, 1) := by decide +kernel
theorem dX12_quarrel_54 : decode cX12_quarrel 54 = .ok (.iload 4, 2) := by decide +kernel
theorem dX12_quarrel_56 : decode cX12_quarrel 56 = .ok (.iload 6, 2) := by decide +kernel
theorem dX12_quarrel_58 : decode cX12_quarrel 58 = .ok (.iadd, 1) := by decide +kernel
theorem dX12_quarrel_59 : decode cX12_quarrel 59 = .ok (.invokevirtual 202, 3) := by decide +kernel
theorem dX12_quarrel_62 : decode cX12_quarrel 62 = .ok (.ifCond .eq 37, 3) := by decide +kernel
theorem dX12_quarrel_65 : decode cX12_quarrel 65 = .ok (.aload_n 0, 1) := by decide +kernel
theorem dX12_quarrel_66 : decode cX12_quarrel 66 = .ok (.iload 4, 2) := by decide +kernel
theorem dX12_quarrel_68 : decode cX12_quarrel 68 = .ok (.iload 5, 2) := by decide +kernel
theorem dX12_quarrel_70 : decode cX12_quarrel 70 = .ok (.iadd, 1) := by decide +kernel
theorem dX12_quarrel_71 : decode cX12_quarrel 71 = .ok (.iload 4, 2) := by decide +kernel
theorem dX12_quarrel_73 : decode cX12_quarrel 73 = .ok (.iload 6, 2) := by decide +kernel
theorem dX12_quarrel_75 : decode cX12_quarrel 75 = .ok (.iadd, 1) := by decide +kernel
theorem dX12_quarrel_76 : decode cX12_quarrel 76 = .ok (.invokevirtual 206, 3) := by decide +kernel
theorem dX12_quarrel_79 : decode cX12_quarrel 79 = .ok (.ifCond .ne 20, 3) := by decide +kernel
theorem dX12_quarrel_82 : decode cX12_quarrel 82 = .ok (.iload_n 3, 1) := by decide +kernel
theorem dX12_quarrel_83 : decode cX12_quarrel 83 = .ok (.iload_n 2, 1) := by decide +kernel
theorem dX12_quarrel_84 : decode cX12_quarrel 84 = .ok (.if_icmp .ne 12, 3) := by decide +kernel
theorem dX12_quarrel_87 : decode cX12_quarrel 87 = .ok (.bipush 100, 2) := by decide +kernel
theorem dX12_quarrel_89 : decode cX12_quarrel 89 = .ok (.iload 5, 2) := by decide +kernel
theorem dX12_quarrel_91 : decode cX12_quarrel 91 = .ok (.imul, 1) := by decide +kernel
theorem dX12_quarrel_92 : decode cX12_quarrel 92 = .ok (.iload 6, 2) := by decide +kernel
theorem dX12_quarrel_94 : decode cX12_quarrel 94 = .ok (.iadd, 1) := by decide +kernel
theorem dX12_quarrel_95 : decode cX12_quarrel 95 = .ok (.ireturn, 1) := by decide +kernel
theorem dX12_quarrel_96 : decode cX12_quarrel 96 = .ok (.iinc 3 1, 3) := by decide +kernel
theorem dX12_quarrel_99 : decode cX12_quarrel 99 = .ok (.iinc 6 1, 3) := by decide +kernel
theorem dX12_quarrel_102 : decode cX12_quarrel 102 = .ok (.goto (-65), 3) := by decide +kernel
theorem dX12_quarrel_105 : decode cX12_quarrel 105 = .ok (.iinc 5 1, 3) := by decide +kernel
theorem dX12_quarrel_108 : decode cX12_quarrel 108 = .ok (.goto (-88), 3) := by decide +kernel
theorem dX12_quarrel_111 : decode cX12_quarrel 111 = .ok (.iload_n 2, 1) := by decide +kernel
theorem dX12_quarrel_112 : decode cX12_quarrel 112 = .ok (.iconst (-1), 1) := by decide +kernel
theorem dX12_quarrel_113 : decode cX12_quarrel 113 = .ok (.if_icmp .ne 7, 3) := by decide +kernel
theorem dX12_quarrel_116 : decode cX12_quarrel 116 = .ok (.iload_n 3, 1) := by decide +kernel
theorem dX12_quarrel_117 : decode cX12_quarrel 117 = .ok (.goto 5, 3) := by decide +kernel
theorem dX12_quarrel_120 : decode cX12_quarrel 120 = .ok (.bipush (-6), 2) := by decide +kernel
theorem dX12_quarrel_122 : decode cX12_quarrel 122 = .ok (.ireturn, 1) := by decide +kernel
theorem dX12_isIdle_0 : decode cX12_isIdle 0 = .ok (.iconst 0, 1) := by decide +kernel
theorem dX12_isIdle_1 : decode cX12_isIdle 1 = .ok (.istore_n 3, 1) := by decide +kernel
theorem dX12_isIdle_2 : decode cX12_isIdle 2 = .ok (.iconst 0, 1) := by decide +kernel
theorem dX12_isIdle_3 : decode cX12_isIdle 3 = .ok (.istore 4, 2) := by decide +kernel
theorem dX12_isIdle_5 : decode cX12_isIdle 5 = .ok (.iload 4, 2) := by decide +kernel
theorem dX12_isIdle_7 : decode cX12_isIdle 7 = .ok (.iload_n 2, 1) := by decide +kernel
theorem dX12_isIdle_8 : decode cX12_isIdle 8 = .ok (.if_icmp .ge 39, 3) := by decide +kernel
theorem dX12_isIdle_11 : decode cX12_isIdle 11 = .ok (.iload_n 3, 1) := by decide +kernel
theorem dX12_isIdle_12 : decode cX12_isIdle 12 = .ok (.ifCond .ne 23, 3) := by decide +kernel
theorem dX12_isIdle_15 : decode cX12_isIdle 15 = .ok (.aload_n 0, 1) := by decide +kernel
theorem dX12_isIdle_16 : decode cX12_isIdle 16 = .ok (.bipush 24, 2) := by decide +kernel
theorem dX12_isIdle_18 : decode cX12_isIdle 18 = .ok (.iload_n 1, 1) := by decide +kernel
theorem dX12_isIdle_19 : decode cX12_isIdle 19 = .ok (.imul, 1) := by decide +kernel
theorem dX12_isIdle_20 : decode cX12_isIdle 20 = .ok (.iload 4, 2) := by decide +kernel
theorem dX12_isIdle_22 : decode cX12_isIdle 22 = .ok (.iadd, 1) := by decide +kernel
theorem dX12_isIdle_23 : decode cX12_isIdle 23 = .ok (.bipush 24, 2) := by decide +kernel
theorem dX12_isIdle_25 : decode cX12_isIdle 25 = .ok (.iload_n 1, 1) := by decide +kernel
theorem dX12_isIdle_26 : decode cX12_isIdle 26 = .ok (.imul, 1) := by decide +kernel
theorem dX12_isIdle_27 : decode cX12_isIdle 27 = .ok (.iload_n 2, 1) := by decide +kernel
theorem dX12_isIdle_28 : decode cX12_isIdle 28 = .ok (.iadd, 1) := by decide +kernel
theorem dX12_isIdle_29 : decode cX12_isIdle 29 = .ok (.invokevirtual 202, 3) := by decide +kernel
theorem dX12_isIdle_32 : decode cX12_isIdle 32 = .ok (.ifCond .eq 7, 3) := by decide +kernel
theorem dX12_isIdle_35 : decode cX12_isIdle 35 = .ok (.iconst 1, 1) := by decide +kernel
theorem dX12_isIdle_36 : decode cX12_isIdle 36 = .ok (.goto 4, 3) := by decide +kernel
theorem dX12_isIdle_39 : decode cX12_isIdle 39 = .ok (.iconst 0, 1) := by decide +kernel
theorem dX12_isIdle_40 : decode cX12_isIdle 40 = .ok (.istore_n 3, 1) := by decide +kernel
theorem dX12_isIdle_41 : decode cX12_isIdle 41 = .ok (.iinc 4 1, 3) := by decide +kernel
theorem dX12_isIdle_44 : decode cX12_isIdle 44 = .ok (.goto (-39), 3) := by decide +kernel
theorem dX12_isIdle_47 : decode cX12_isIdle 47 = .ok (.iload_n 3, 1) := by decide +kernel
theorem dX12_isIdle_48 : decode cX12_isIdle 48 = .ok (.ireturn, 1) := by decide +kernel
theorem dX12_idle_0 : decode cX12_idle 0 = .ok (.iload_n 1, 1) := by decide +kernel
theorem dX12_idle_1 : decode cX12_idle 1 = .ok (.invokestatic 195, 3) := by decide +kernel
theorem dX12_idle_4 : decode cX12_idle 4 = .ok (.ifCond .ne 5, 3) := by decide +kernel
theorem dX12_idle_7 : decode cX12_idle 7 = .ok (.iconst (-1), 1) := by decide +kernel
theorem dX12_idle_8 : decode cX12_idle 8 = .ok (.ireturn, 1) := by decide +kernel
theorem dX12_idle_9 : decode cX12_idle 9 = .ok (.iload_n 2, 1) := by decide +kernel
theorem dX12_idle_10 : decode cX12_idle 10 = .ok (.i2l, 1) := by decide +kernel
theorem dX12_idle_11 : decode cX12_idle 11 = .ok (.lconst 0, 1) := by decide +kernel
theorem dX12_idle_12 : decode cX12_idle 12 = .ok (.lconst 1, 1) := by decide +kernel
theorem dX12_idle_13 : decode cX12_idle 13 = .ok (.invokestatic 178, 3) := by decide +kernel
theorem dX12_idle_16 : decode cX12_idle 16 = .ok (.ifCond .ne 6, 3) := by decide +kernel
theorem dX12_idle_19 : decode cX12_idle 19 = .ok (.bipush (-2), 2) := by decide +kernel
theorem dX12_idle_21 : decode cX12_idle 21 = .ok (.ireturn, 1) := by decide +kernel
theorem dX12_idle_22 : decode cX12_idle 22 = .ok (.iconst 0, 1) := by decide +kernel
theorem dX12_idle_23 : decode cX12_idle 23 = .ok (.istore_n 3, 1) := by decide +kernel
theorem dX12_idle_24 : decode cX12_idle 24 = .ok (.iconst 0, 1) := by decide +kernel
theorem dX12_idle_25 : decode cX12_idle 25 = .ok (.istore 4, 2) := by decide +kernel
theorem dX12_idle_27 : decode cX12_idle 27 = .ok (.iconst 0, 1) := by decide +kernel
theorem dX12_idle_28 : decode cX12_idle 28 = .ok (.istore 5, 2) := by decide +kernel
theorem dX12_idle_30 : decode cX12_idle 30 = .ok (.iload 5, 2) := by decide +kernel
theorem dX12_idle_32 : decode cX12_idle 32 = .ok (.aload_n 0, 1) := by decide +kernel
theorem dX12_idle_33 : decode cX12_idle 33 = .ok (.getfield 35, 3) := by decide +kernel
theorem dX12_idle_36 : decode cX12_idle 36 = .ok (.iload_n 1, 1) := by decide +kernel
theorem dX12_idle_37 : decode cX12_idle 37 = .ok (.iaload, 1) := by decide +kernel
theorem dX12_idle_38 : decode cX12_idle 38 = .ok (.if_icmp .ge 80, 3) := by decide +kernel
theorem dX12_idle_41 : decode cX12_idle 41 = .ok (.iload_n 3, 1) := by decide +kernel
theorem dX12_idle_42 : decode cX12_idle 42 = .ok (.aload_n 0, 1) := by decide +kernel
theorem dX12_idle_43 : decode cX12_idle 43 = .ok (.iload_n 1, 1) := by decide +kernel
theorem dX12_idle_44 : decode cX12_idle 44 = .ok (.iload 5, 2) := by decide +kernel
theorem dX12_idle_46 : decode cX12_idle 46 = .ok (.invokevirtual 209, 3) := by decide +kernel
theorem dX12_idle_49 : decode cX12_idle 49 = .ok (.ifCond .eq 10, 3) := by decide +kernel
theorem dX12_idle_52 : decode cX12_idle 52 = .ok (.iconst 1, 1) := by decide +kernel
theorem dX12_idle_53 : decode cX12_idle 53 = .ok (.iload 5, 2) := by decide +kernel
theorem dX12_idle_55 : decode cX12_idle 55 = .ok (.ishl, 1) := by decide +kernel
theorem dX12_idle_56 : decode cX12_idle 56 = .ok (.goto 4, 3) := by decide +kernel
theorem dX12_idle_59 : decode cX12_idle 59 = .ok (.iconst 0, 1) := by decide +kernel
theorem dX12_idle_60 : decode cX12_idle 60 = .ok (.ior, 1) := by decide +kernel
theorem dX12_idle_61 : decode cX12_idle 61 = .ok (.istore_n 3, 1) := by decide +kernel
theorem dX12_idle_62 : decode cX12_idle 62 = .ok (.iconst 0, 1) := by decide +kernel
theorem dX12_idle_63 : decode cX12_idle 63 = .ok (.istore 6, 2) := by decide +kernel
theorem dX12_idle_65 : decode cX12_idle 65 = .ok (.iload 6, 2) := by decide +kernel
theorem dX12_idle_67 : decode cX12_idle 67 = .ok (.aload_n 0, 1) := by decide +kernel
theorem dX12_idle_68 : decode cX12_idle 68 = .ok (.getfield 26, 3) := by decide +kernel
theorem dX12_idle_71 : decode cX12_idle 71 = .ok (.bipush 24, 2) := by decide +kernel
theorem dX12_idle_73 : decode cX12_idle 73 = .ok (.iload_n 1, 1) := by decide +kernel
theorem dX12_idle_74 : decode cX12_idle 74 = .ok (.imul, 1) := by decide +kernel
theorem dX12_idle_75 : decode cX12_idle 75 = .ok (.iload 5, 2) := by decide +kernel
theorem dX12_idle_77 : decode cX12_idle 77 = .ok (.iadd, 1) := by decide +kernel
theorem dX12_idle_78 : decode cX12_idle 78 = .ok (.iaload, 1) := by decide +kernel
theorem dX12_idle_79 : decode cX12_idle 79 = .ok (.if_icmp .ge 33, 3) := by decide +kernel
theorem dX12_idle_82 : decode cX12_idle 82 = .ok (.iload 4, 2) := by decide +kernel
theorem dX12_idle_84 : decode cX12_idle 84 = .ok (.iconst 1, 1) := by decide +kernel
theorem dX12_idle_85 : decode cX12_idle 85 = .ok (.aload_n 0, 1) := by decide +kernel
theorem dX12_idle_86 : decode cX12_idle 86 = .ok (.getfield 23, 3) := by decide +kernel
theorem dX12_idle_89 : decode cX12_idle 89 = .ok (.iconst 4, 1) := by decide +kernel
theorem dX12_idle_90 : decode cX12_idle 90 = .ok (.bipush 24, 2) := by decide +kernel
theorem dX12_idle_92 : decode cX12_idle 92 = .ok (.iload_n 1, 1) := by decide +kernel
theorem dX12_idle_93 : decode cX12_idle 93 = .ok (.imul, 1) := by decide +kernel
theorem dX12_idle_94 : decode cX12_idle 94 = .ok (.iload 5, 2) := by decide +kernel
theorem dX12_idle_96 : decode cX12_idle 96 = .ok (.iadd, 1) := by decide +kernel
theorem dX12_idle_97 : decode cX12_idle 97 = .ok (.imul, 1) := by decide +kernel
theorem dX12_idle_98 : decode cX12_idle 98 = .ok (.iload 6, 2) := by decide +kernel
theorem dX12_idle_100 : decode cX12_idle 100 = .ok (.iadd, 1) := by decide +kernel
theorem dX12_idle_101 : decode cX12_idle 101 = .ok (.iaload, 1) := by decide +kernel
theorem dX12_idle_102 : decode cX12_idle 102 = .ok (.ishl, 1) := by decide +kernel
theorem dX12_idle_103 : decode cX12_idle 103 = .ok (.ior, 1) := by decide +kernel
theorem dX12_idle_104 : decode cX12_idle 104 = .ok (.istore 4, 2) := by decide +kernel
theorem dX12_idle_106 : decode cX12_idle 106 = .ok (.iinc 6 1, 3) := by decide +kernel
theorem dX12_idle_109 : decode cX12_idle 109 = .ok (.goto (-44), 3) := by decide +kernel
theorem dX12_idle_112 : decode cX12_idle 112 = .ok (.iinc 5 1, 3) := by decide +kernel
theorem dX12_idle_115 : decode cX12_idle 115 = .ok (.goto (-85), 3) := by decide +kernel
theorem dX12_idle_118 : decode cX12_idle 118 = .ok (.iload_n 2, 1) := by decide +kernel
theorem dX12_idle_119 : decode cX12_idle 119 = .ok (.ifCond .ne 7, 3) := by decide +kernel
theorem dX12_idle_122 : decode cX12_idle 122 = .ok (.iload_n 3, 1) := by decide +kernel
theorem dX12_idle_123 : decode cX12_idle 123 = .ok (.goto 11, 3) := by decide +kernel
theorem dX12_idle_126 : decode cX12_idle 126 = .ok (.sipush 4095, 3) := by decide +kernel
theorem dX12_idle_129 : decode cX12_idle 129 = .ok (.iload 4, 2) := by decide +kernel
theorem dX12_idle_131 : decode cX12_idle 131 = .ok (.iconst (-1), 1) := by decide +kernel
theorem dX12_idle_132 : decode cX12_idle 132 = .ok (.ixor, 1) := by decide +kernel
theorem dX12_idle_133 : decode cX12_idle 133 = .ok (.iand, 1) := by decide +kernel
theorem dX12_idle_134 : decode cX12_idle 134 = .ok (.ireturn, 1) := by decide +kernel
theorem dX12_findMade_0 : decode cX12_findMade 0 = .ok (.iconst 0, 1) := by decide +kernel
theorem dX12_findMade_1 : decode cX12_findMade 1 = .ok (.istore_n 2, 1) := by decide +kernel
theorem dX12_findMade_2 : decode cX12_findMade 2 = .ok (.iload_n 2, 1) := by decide +kernel
theorem dX12_findMade_3 : decode cX12_findMade 3 = .ok (.bipush 61, 2) := by decide +kernel
theorem dX12_findMade_5 : decode cX12_findMade 5 = .ok (.if_icmp .ge 16, 3) := by decide +kernel
theorem dX12_findMade_8 : decode cX12_findMade 8 = .ok (.aload_n 0, 1) := by decide +kernel
theorem dX12_findMade_9 : decode cX12_findMade 9 = .ok (.getfield 47, 3) := by decide +kernel
theorem dX12_findMade_12 : decode cX12_findMade 12 = .ok (.iload_n 2, 1) := by decide +kernel
theorem dX12_findMade_13 : decode cX12_findMade 13 = .ok (.iconst 0, 1) := by decide +kernel
theorem dX12_findMade_14 : decode cX12_findMade 14 = .ok (.bastore, 1) := by decide +kernel
theorem dX12_findMade_15 : decode cX12_findMade 15 = .ok (.iinc 2 1, 3) := by decide +kernel
theorem dX12_findMade_18 : decode cX12_findMade 18 = .ok (.goto (-16), 3) := by decide +kernel
theorem dX12_findMade_21 : decode cX12_findMade 21 = .ok (.iconst 0, 1) := by decide +kernel
theorem dX12_findMade_22 : decode cX12_findMade 22 = .ok (.istore_n 2, 1) := by decide +kernel
theorem dX12_findMade_23 : decode cX12_findMade 23 = .ok (.iload_n 2, 1) := by decide +kernel
theorem dX12_findMade_24 : decode cX12_findMade 24 = .ok (.aload_n 0, 1) := by decide +kernel
theorem dX12_findMade_25 : decode cX12_findMade 25 = .ok (.getfield 35, 3) := by decide +kernel
theorem dX12_findMade_28 : decode cX12_findMade 28 = .ok (.iload_n 1, 1) := by decide +kernel
theorem dX12_findMade_29 : decode cX12_findMade 29 = .ok (.iaload, 1) := by decide +kernel
theorem dX12_findMade_30 : decode cX12_findMade 30 = .ok (.if_icmp .ge 62, 3) := by decide +kernel
theorem dX12_findMade_33 : decode cX12_findMade 33 = .ok (.bipush 24, 2) := by decide +kernel
theorem dX12_findMade_35 : decode cX12_findMade 35 = .ok (.iload_n 1, 1) := by decide +kernel
theorem dX12_findMade_36 : decode cX12_findMade 36 = .ok (.imul, 1) := by decide +kernel
theorem dX12_findMade_37 : decode cX12_findMade 37 = .ok (.iload_n 2, 1) := by decide +kernel
theorem dX12_findMade_38 : decode cX12_findMade 38 = .ok (.iadd, 1) := by decide +kernel
theorem dX12_findMade_39 : decode cX12_findMade 39 = .ok (.istore_n 3, 1) := by decide +kernel
theorem dX12_findMade_40 : decode cX12_findMade 40 = .ok (.iconst 0, 1) := by decide +kernel
theorem dX12_findMade_41 : decode cX12_findMade 41 = .ok (.istore 4, 2) := by decide +kernel
theorem dX12_findMade_43 : decode cX12_findMade 43 = .ok (.iload 4, 2) := by decide +kernel
theorem dX12_findMade_45 : decode cX12_findMade 45 = .ok (.aload_n 0, 1) := by decide +kernel
theorem dX12_findMade_46 : decode cX12_findMade 46 = .ok (.getfield 32, 3) := by decide +kernel
theorem dX12_findMade_49 : decode cX12_findMade 49 = .ok (.iload_n 3, 1) := by decide +kernel
theorem dX12_findMade_50 : decode cX12_findMade 50 = .ok (.iaload, 1) := by decide +kernel
theorem dX12_findMade_51 : decode cX12_findMade 51 = .ok (.if_icmp .ge 35, 3) := by decide +kernel
theorem dX12_findMade_54 : decode cX12_findMade 54 = .ok (.aload_n 0, 1) := by decide +kernel
theorem dX12_findMade_55 : decode cX12_findMade 55 = .ok (.iload_n 1, 1) := by decide +kernel
theorem dX12_findMade_56 : decode cX12_findMade 56 = .ok (.iload_n 2, 1) := by decide +kernel
theorem dX12_findMade_57 : decode cX12_findMade 57 = .ok (.invokevirtual 209, 3) := by decide +kernel
theorem dX12_findMade_60 : decode cX12_findMade 60 = .ok (.ifCond .ne 26, 3) := by decide +kernel
theorem dX12_findMade_63 : decode cX12_findMade 63 = .ok (.aload_n 0, 1) := by decide +kernel
theorem dX12_findMade_64 : decode cX12_findMade 64 = .ok (.getfield 47, 3) := by decide +kernel
theorem dX12_findMade_67 : decode cX12_findMade 67 = .ok (.aload_n 0, 1) := by decide +kernel
theorem dX12_findMade_68 : decode cX12_findMade 68 = .ok (.getfield 29, 3) := by decide +kernel
theorem dX12_findMade_71 : decode cX12_findMade 71 = .ok (.iconst 3, 1) := by decide +kernel
theorem dX12_findMade_72 : decode cX12_findMade 72 = .ok (.iload_n 3, 1) := by decide +kernel
theorem dX12_findMade_73 : decode cX12_findMade 73 = .ok (.imul, 1) := by decide +kernel
theorem dX12_findMade_74 : decode cX12_findMade 74 = .ok (.iload 4, 2) := by decide +kernel
theorem dX12_findMade_76 : decode cX12_findMade 76 = .ok (.iadd, 1) := by decide +kernel
theorem dX12_findMade_77 : decode cX12_findMade 77 = .ok (.iaload, 1) := by decide +kernel
theorem dX12_findMade_78 : decode cX12_findMade 78 = .ok (.iconst 1, 1) := by decide +kernel
theorem dX12_findMade_79 : decode cX12_findMade 79 = .ok (.bastore, 1) := by decide +kernel
theorem dX12_findMade_80 : decode cX12_findMade 80 = .ok (.iinc 4 1, 3) := by decide +kernel
theorem dX12_findMade_83 : decode cX12_findMade 83 = .ok (.goto (-40), 3) := by decide +kernel
theorem dX12_findMade_86 : decode cX12_findMade 86 = .ok (.iinc 2 1, 3) := by decide +kernel
theorem dX12_findMade_89 : decode cX12_findMade 89 = .ok (.goto (-66), 3) := by decide +kernel
theorem dX12_findMade_92 : decode cX12_findMade 92 = .ok (.iconst 0, 1) := by decide +kernel
theorem dX12_findMade_93 : decode cX12_findMade 93 = .ok (.istore_n 2, 1) := by decide +kernel
theorem dX12_findMade_94 : decode cX12_findMade 94 = .ok (.iload_n 2, 1) := by decide +kernel
theorem dX12_findMade_95 : decode cX12_findMade 95 = .ok (.bipush 12, 2) := by decide +kernel
theorem dX12_findMade_97 : decode cX12_findMade 97 = .ok (.if_icmp .ge 105, 3) := by decide +kernel
theorem dX12_findMade_100 : decode cX12_findMade 100 = .ok (.iconst 0, 1) := by decide +kernel
theorem dX12_findMade_101 : decode cX12_findMade 101 = .ok (.istore_n 3, 1) := by decide +kernel
theorem dX12_findMade_102 : decode cX12_findMade 102 = .ok (.iload_n 3, 1) := by decide +kernel
theorem dX12_findMade_103 : decode cX12_findMade 103 = .ok (.aload_n 0, 1) := by decide +kernel
theorem dX12_findMade_104 : decode cX12_findMade 104 = .ok (.getfield 41, 3) := by decide +kernel
theorem dX12_findMade_107 : decode cX12_findMade 107 = .ok (.iload_n 1, 1) := by decide +kernel
theorem dX12_findMade_108 : decode cX12_findMade 108 = .ok (.iaload, 1) := by decide +kernel
theorem dX12_findMade_109 : decode cX12_findMade 109 = .ok (.if_icmp .ge 87, 3) := by decide +kernel
theorem dX12_findMade_112 : decode cX12_findMade 112 = .ok (.iconst 3, 1) := by decide +kernel
theorem dX12_findMade_113 : decode cX12_findMade 113 = .ok (.bipush 12, 2) := by decide +kernel
theorem dX12_findMade_115 : decode cX12_findMade 115 = .ok (.iload_n 1, 1) := by decide +kernel
theorem dX12_findMade_116 : decode cX12_findMade 116 = .ok (.imul, 1) := by decide +kernel
theorem dX12_findMade_117 : decode cX12_findMade 117 = .ok (.iload_n 3, 1) := by decide +kernel
theorem dX12_findMade_118 : decode cX12_findMade 118 = .ok (.iadd, 1) := by decide +kernel
theorem dX12_findMade_119 : decode cX12_findMade 119 = .ok (.imul, 1) := by decide +kernel
theorem dX12_findMade_120 : decode cX12_findMade 120 = .ok (.istore 4, 2) := by decide +kernel
theorem dX12_findMade_122 : decode cX12_findMade 122 = .ok (.aload_n 0, 1) := by decide +kernel
theorem dX12_findMade_123 : decode cX12_findMade 123 = .ok (.getfield 47, 3) := by decide +kernel
theorem dX12_findMade_126 : decode cX12_findMade 126 = .ok (.aload_n 0, 1) := by decide +kernel
theorem dX12_findMade_127 : decode cX12_findMade 127 = .ok (.getfield 38, 3) := by decide +kernel
theorem dX12_findMade_130 : decode cX12_findMade 130 = .ok (.iload 4, 2) := by decide +kernel
theorem dX12_findMade_132 : decode cX12_findMade 132 = .ok (.iconst 2, 1) := by decide +kernel
theorem dX12_findMade_133 : decode cX12_findMade 133 = .ok (.iadd, 1) := by decide +kernel
theorem dX12_findMade_134 : decode cX12_findMade 134 = .ok (.iaload, 1) := by decide +kernel
theorem dX12_findMade_135 : decode cX12_findMade 135 = .ok (.aload_n 0, 1) := by decide +kernel
theorem dX12_findMade_136 : decode cX12_findMade 136 = .ok (.getfield 47, 3) := by decide +kernel
theorem dX12_findMade_139 : decode cX12_findMade 139 = .ok (.aload_n 0, 1) := by decide +kernel
theorem dX12_findMade_140 : decode cX12_findMade 140 = .ok (.getfield 38, 3) := by decide +kernel
theorem dX12_findMade_143 : decode cX12_findMade 143 = .ok (.iload 4, 2) := by decide +kernel
theorem dX12_findMade_145 : decode cX12_findMade 145 = .ok (.iconst 2, 1) := by decide +kernel
theorem dX12_findMade_146 : decode cX12_findMade 146 = .ok (.iadd, 1) := by decide +kernel
theorem dX12_findMade_147 : decode cX12_findMade 147 = .ok (.iaload, 1) := by decide +kernel
theorem dX12_findMade_148 : decode cX12_findMade 148 = .ok (.baload, 1) := by decide +kernel
theorem dX12_findMade_149 : decode cX12_findMade 149 = .ok (.ifCond .ne 35, 3) := by decide +kernel
theorem dX12_findMade_152 : decode cX12_findMade 152 = .ok (.aload_n 0, 1) := by decide +kernel
theorem dX12_findMade_153 : decode cX12_findMade 153 = .ok (.getfield 47, 3) := by decide +kernel
theorem dX12_findMade_156 : decode cX12_findMade 156 = .ok (.aload_n 0, 1) := by decide +kernel
theorem dX12_findMade_157 : decode cX12_findMade 157 = .ok (.getfield 38, 3) := by decide +kernel
theorem dX12_findMade_160 : decode cX12_findMade 160 = .ok (.iload 4, 2) := by decide +kernel
theorem dX12_findMade_162 : decode cX12_findMade 162 = .ok (.iaload, 1) := by decide +kernel
theorem dX12_findMade_163 : decode cX12_findMade 163 = .ok (.baload, 1) := by decide +kernel
theorem dX12_findMade_164 : decode cX12_findMade 164 = .ok (.ifCond .eq 24, 3) := by decide +kernel
theorem dX12_findMade_167 : decode cX12_findMade 167 = .ok (.aload_n 0, 1) := by decide +kernel
theorem dX12_findMade_168 : decode cX12_findMade 168 = .ok (.getfield 47, 3) := by decide +kernel
theorem dX12_findMade_171 : decode cX12_findMade 171 = .ok (.aload_n 0, 1) := by decide +kernel
theorem dX12_findMade_172 : decode cX12_findMade 172 = .ok (.getfield 38, 3) := by decide +kernel
theorem dX12_findMade_175 : decode cX12_findMade 175 = .ok (.iload 4, 2) := by decide +kernel
theorem dX12_findMade_177 : decode cX12_findMade 177 = .ok (.iconst 1, 1) := by decide +kernel
theorem dX12_findMade_178 : decode cX12_findMade 178 = .ok (.iadd, 1) := by decide +kernel
theorem dX12_findMade_179 : decode cX12_findMade 179 = .ok (.iaload, 1) := by decide +kernel
theorem dX12_findMade_180 : decode cX12_findMade 180 = .ok (.baload, 1) := by decide +kernel
theorem dX12_findMade_181 : decode cX12_findMade 181 = .ok (.ifCond .eq 7, 3) := by decide +kernel
theorem dX12_findMade_184 : decode cX12_findMade 184 = .ok (.iconst 1, 1) := by decide +kernel
theorem dX12_findMade_185 : decode cX12_findMade 185 = .ok (.goto 4, 3) := by decide +kernel
theorem dX12_findMade_188 : decode cX12_findMade 188 = .ok (.iconst 0, 1) := by decide +kernel
theorem dX12_findMade_189 : decode cX12_findMade 189 = .ok (.bastore, 1) := by decide +kernel
theorem dX12_findMade_190 : decode cX12_findMade 190 = .ok (.iinc 3 1, 3) := by decide +kernel
theorem dX12_findMade_193 : decode cX12_findMade 193 = .ok (.goto (-91), 3) := by decide +kernel
theorem dX12_findMade_196 : decode cX12_findMade 196 = .ok (.iinc 2 1, 3) := by decide +kernel
theorem dX12_findMade_199 : decode cX12_findMade 199 = .ok (.goto (-105), 3) := by decide +kernel
theorem dX12_findMade_202 : decode cX12_findMade 202 = .ok (.return_, 1) := by decide +kernel
theorem dX12_missing_0 : decode cX12_missing 0 = .ok (.iload_n 1, 1) := by decide +kernel
theorem dX12_missing_1 : decode cX12_missing 1 = .ok (.invokestatic 195, 3) := by decide +kernel
theorem dX12_missing_4 : decode cX12_missing 4 = .ok (.ifCond .ne 5, 3) := by decide +kernel
theorem dX12_missing_7 : decode cX12_missing 7 = .ok (.iconst (-1), 1) := by decide +kernel
theorem dX12_missing_8 : decode cX12_missing 8 = .ok (.ireturn, 1) := by decide +kernel
theorem dX12_missing_9 : decode cX12_missing 9 = .ok (.aload_n 0, 1) := by decide +kernel
theorem dX12_missing_10 : decode cX12_missing 10 = .ok (.iload_n 1, 1) := by decide +kernel
theorem dX12_missing_11 : decode cX12_missing 11 = .ok (.invokevirtual 212, 3) := by decide +kernel
theorem dX12_missing_14 : decode cX12_missing 14 = .ok (.iconst 0, 1) := by decide +kernel
theorem dX12_missing_15 : decode cX12_missing 15 = .ok (.istore_n 3, 1) := by decide +kernel
theorem dX12_missing_16 : decode cX12_missing 16 = .ok (.iconst 1, 1) := by decide +kernel
theorem dX12_missing_17 : decode cX12_missing 17 = .ok (.istore 4, 2) := by decide +kernel
theorem dX12_missing_19 : decode cX12_missing 19 = .ok (.iload 4, 2) := by decide +kernel
theorem dX12_missing_21 : decode cX12_missing 21 = .ok (.bipush 60, 2) := by decide +kernel
theorem dX12_missing_23 : decode cX12_missing 23 = .ok (.if_icmp .gt 45, 3) := by decide +kernel
theorem dX12_missing_26 : decode cX12_missing 26 = .ok (.aload_n 0, 1) := by decide +kernel
theorem dX12_missing_27 : decode cX12_missing 27 = .ok (.getfield 44, 3) := by decide +kernel
theorem dX12_missing_30 : decode cX12_missing 30 = .ok (.bipush 61, 2) := by decide +kernel
theorem dX12_missing_32 : decode cX12_missing 32 = .ok (.iload_n 1, 1) := by decide +kernel
theorem dX12_missing_33 : decode cX12_missing 33 = .ok (.imul, 1) := by decide +kernel
theorem dX12_missing_34 : decode cX12_missing 34 = .ok (.iload 4, 2) := by decide +kernel
theorem dX12_missing_36 : decode cX12_missing 36 = .ok (.iadd, 1) := by decide +kernel
theorem dX12_missing_37 : decode cX12_missing 37 = .ok (.baload, 1) := by decide +kernel
theorem dX12_missing_38 : decode cX12_missing 38 = .ok (.ifCond .eq 24, 3) := by decide +kernel
theorem dX12_missing_41 : decode cX12_missing 41 = .ok (.aload_n 0, 1) := by decide +kernel
theorem dX12_missing_42 : decode cX12_missing 42 = .ok (.getfield 47, 3) := by decide +kernel
theorem dX12_missing_45 : decode cX12_missing 45 = .ok (.iload 4, 2) := by decide +kernel
theorem dX12_missing_47 : decode cX12_missing 47 = .ok (.baload, 1) := by decide +kernel
theorem dX12_missing_48 : decode cX12_missing 48 = .ok (.ifCond .ne 14, 3) := by decide +kernel
theorem dX12_missing_51 : decode cX12_missing 51 = .ok (.iload_n 3, 1) := by decide +kernel
theorem dX12_missing_52 : decode cX12_missing 52 = .ok (.iload_n 2, 1) := by decide +kernel
theorem dX12_missing_53 : decode cX12_missing 53 = .ok (.if_icmp .ne 6, 3) := by decide +kernel
theorem dX12_missing_56 : decode cX12_missing 56 = .ok (.iload 4, 2) := by decide +kernel
theorem dX12_missing_58 : decode cX12_missing 58 = .ok (.ireturn, 1) := by decide +kernel
theorem dX12_missing_59 : decode cX12_missing 59 = .ok (.iinc 3 1, 3) := by decide +kernel
theorem dX12_missing_62 : decode cX12_missing 62 = .ok (.iinc 4 1, 3) := by decide +kernel
theorem dX12_missing_65 : decode cX12_missing 65 = .ok (.goto (-46), 3) := by decide +kernel
theorem dX12_missing_68 : decode cX12_missing 68 = .ok (.iload_n 2, 1) := by decide +kernel
theorem dX12_missing_69 : decode cX12_missing 69 = .ok (.iconst (-1), 1) := by decide +kernel
theorem dX12_missing_70 : decode cX12_missing 70 = .ok (.if_icmp .ne 7, 3) := by decide +kernel
theorem dX12_missing_73 : decode cX12_missing 73 = .ok (.iload_n 3, 1) := by decide +kernel
theorem dX12_missing_74 : decode cX12_missing 74 = .ok (.goto 5, 3) := by decide +kernel
theorem dX12_missing_77 : decode cX12_missing 77 = .ok (.bipush (-6), 2) := by decide +kernel
theorem dX12_missing_79 : decode cX12_missing 79 = .ok (.ireturn, 1) := by decide +kernel
theorem dX12_speak_0 : decode cX12_speak 0 = .ok (.iload_n 1, 1) := by decide +kernel
theorem dX12_speak_1 : decode cX12_speak 1 = .ok (.invokestatic 195, 3) := by decide +kernel
theorem dX12_speak_4 : decode cX12_speak 4 = .ok (.ifCond .ne 5, 3) := by decide +kernel
theorem dX12_speak_7 : decode cX12_speak 7 = .ok (.iconst (-1), 1) := by decide +kernel
theorem dX12_speak_8 : decode cX12_speak 8 = .ok (.ireturn, 1) := by decide +kernel
theorem dX12_speak_9 : decode cX12_speak 9 = .ok (.aload_n 0, 1) := by decide +kernel
theorem dX12_speak_10 : decode cX12_speak 10 = .ok (.getfield 215, 3) := by decide +kernel
theorem dX12_speak_13 : decode cX12_speak 13 = .ok (.istore_n 2, 1) := by decide +kernel
theorem dX12_speak_14 : decode cX12_speak 14 = .ok (.aload_n 0, 1) := by decide +kernel
theorem dX12_speak_15 : decode cX12_speak 15 = .ok (.iload_n 1, 1) := by decide +kernel
theorem dX12_speak_16 : decode cX12_speak 16 = .ok (.putfield 215, 3) := by decide +kernel
theorem dX12_speak_19 : decode cX12_speak 19 = .ok (.iload_n 2, 1) := by decide +kernel
theorem dX12_speak_20 : decode cX12_speak 20 = .ok (.ireturn, 1) := by decide +kernel
theorem dX12_isKey_0 : decode cX12_isKey 0 = .ok (.iload_n 0, 1) := by decide +kernel
theorem dX12_isKey_1 : decode cX12_isKey 1 = .ok (.i2l, 1) := by decide +kernel
theorem dX12_isKey_2 : decode cX12_isKey 2 = .ok (.lconst 0, 1) := by decide +kernel
theorem dX12_isKey_3 : decode cX12_isKey 3 = .ok (.ldc2_w 176, 3) := by decide +kernel
theorem dX12_isKey_6 : decode cX12_isKey 6 = .ok (.invokestatic 178, 3) := by decide +kernel
theorem dX12_isKey_9 : decode cX12_isKey 9 = .ok (.ireturn, 1) := by decide +kernel
theorem dX12_strike_0 : decode cX12_strike 0 = .ok (.iload_n 1, 1) := by decide +kernel
theorem dX12_strike_1 : decode cX12_strike 1 = .ok (.i2l, 1) := by decide +kernel
theorem dX12_strike_2 : decode cX12_strike 2 = .ok (.lconst 0, 1) := by decide +kernel
theorem dX12_strike_3 : decode cX12_strike 3 = .ok (.aload_n 0, 1) := by decide +kernel
theorem dX12_strike_4 : decode cX12_strike 4 = .ok (.getfield 218, 3) := by decide +kernel
theorem dX12_strike_7 : decode cX12_strike 7 = .ok (.i2l, 1) := by decide +kernel
theorem dX12_strike_8 : decode cX12_strike 8 = .ok (.invokestatic 178, 3) := by decide +kernel
theorem dX12_strike_11 : decode cX12_strike 11 = .ok (.ifCond .eq 10, 3) := by decide +kernel
theorem dX12_strike_14 : decode cX12_strike 14 = .ok (.iload_n 2, 1) := by decide +kernel
theorem dX12_strike_15 : decode cX12_strike 15 = .ok (.invokestatic 221, 3) := by decide +kernel
theorem dX12_strike_18 : decode cX12_strike 18 = .ok (.ifCond .ne 6, 3) := by decide +kernel
theorem dX12_strike_21 : decode cX12_strike 21 = .ok (.bipush (-2), 2) := by decide +kernel
theorem dX12_strike_23 : decode cX12_strike 23 = .ok (.ireturn, 1) := by decide +kernel
theorem dX12_strike_24 : decode cX12_strike 24 = .ok (.aload_n 0, 1) := by decide +kernel
theorem dX12_strike_25 : decode cX12_strike 25 = .ok (.getfield 218, 3) := by decide +kernel
theorem dX12_strike_28 : decode cX12_strike 28 = .ok (.bipush 40, 2) := by decide +kernel
theorem dX12_strike_30 : decode cX12_strike 30 = .ok (.if_icmp .ne 6, 3) := by decide +kernel
theorem dX12_strike_33 : decode cX12_strike 33 = .ok (.bipush (-4), 2) := by decide +kernel
theorem dX12_strike_35 : decode cX12_strike 35 = .ok (.ireturn, 1) := by decide +kernel
theorem dX12_strike_36 : decode cX12_strike 36 = .ok (.aload_n 0, 1) := by decide +kernel
theorem dX12_strike_37 : decode cX12_strike 37 = .ok (.getfield 218, 3) := by decide +kernel
theorem dX12_strike_40 : decode cX12_strike 40 = .ok (.istore_n 3, 1) := by decide +kernel
theorem dX12_strike_41 : decode cX12_strike 41 = .ok (.iload_n 3, 1) := by decide +kernel
theorem dX12_strike_42 : decode cX12_strike 42 = .ok (.iload_n 1, 1) := by decide +kernel
theorem dX12_strike_43 : decode cX12_strike 43 = .ok (.if_icmp .le 23, 3) := by decide +kernel
theorem dX12_strike_46 : decode cX12_strike 46 = .ok (.aload_n 0, 1) := by decide +kernel
theorem dX12_strike_47 : decode cX12_strike 47 = .ok (.getfield 50, 3) := by decide +kernel
theorem dX12_strike_50 : decode cX12_strike 50 = .ok (.iload_n 3, 1) := by decide +kernel
theorem dX12_strike_51 : decode cX12_strike 51 = .ok (.aload_n 0, 1) := by decide +kernel
theorem dX12_strike_52 : decode cX12_strike 52 = .ok (.getfield 50, 3) := by decide +kernel
theorem dX12_strike_55 : decode cX12_strike 55 = .ok (.iload_n 3, 1) := by decide +kernel
theorem dX12_strike_56 : decode cX12_strike 56 = .ok (.iconst 1, 1) := by decide +kernel
theorem dX12_strike_57 : decode cX12_strike 57 = .ok (.isub, 1) := by decide +kernel
theorem dX12_strike_58 : decode cX12_strike 58 = .ok (.iaload, 1) := by decide +kernel
theorem dX12_strike_59 : decode cX12_strike 59 = .ok (.iastore, 1) := by decide +kernel
theorem dX12_strike_60 : decode cX12_strike 60 = .ok (.iinc 3 (-1), 3) := by decide +kernel
theorem dX12_strike_63 : decode cX12_strike 63 = .ok (.goto (-22), 3) := by decide +kernel
theorem dX12_strike_66 : decode cX12_strike 66 = .ok (.aload_n 0, 1) := by decide +kernel
theorem dX12_strike_67 : decode cX12_strike 67 = .ok (.getfield 50, 3) := by decide +kernel
theorem dX12_strike_70 : decode cX12_strike 70 = .ok (.iload_n 1, 1) := by decide +kernel
theorem dX12_strike_71 : decode cX12_strike 71 = .ok (.iload_n 2, 1) := by decide +kernel
theorem dX12_strike_72 : decode cX12_strike 72 = .ok (.iastore, 1) := by decide +kernel
theorem dX12_strike_73 : decode cX12_strike 73 = .ok (.aload_n 0, 1) := by decide +kernel
theorem dX12_strike_74 : decode cX12_strike 74 = .ok (.dup, 1) := by decide +kernel
theorem dX12_strike_75 : decode cX12_strike 75 = .ok (.getfield 218, 3) := by decide +kernel
theorem dX12_strike_78 : decode cX12_strike 78 = .ok (.iconst 1, 1) := by decide +kernel
theorem dX12_strike_79 : decode cX12_strike 79 = .ok (.iadd, 1) := by decide +kernel
theorem dX12_strike_80 : decode cX12_strike 80 = .ok (.putfield 218, 3) := by decide +kernel
theorem dX12_strike_83 : decode cX12_strike 83 = .ok (.aload_n 0, 1) := by decide +kernel
theorem dX12_strike_84 : decode cX12_strike 84 = .ok (.getfield 218, 3) := by decide +kernel
theorem dX12_strike_87 : decode cX12_strike 87 = .ok (.ireturn, 1) := by decide +kernel
theorem dX12_change_0 : decode cX12_change 0 = .ok (.iload_n 1, 1) := by decide +kernel
theorem dX12_change_1 : decode cX12_change 1 = .ok (.i2l, 1) := by decide +kernel
theorem dX12_change_2 : decode cX12_change 2 = .ok (.lconst 0, 1) := by decide +kernel
theorem dX12_change_3 : decode cX12_change 3 = .ok (.aload_n 0, 1) := by decide +kernel
theorem dX12_change_4 : decode cX12_change 4 = .ok (.getfield 218, 3) := by decide +kernel
theorem dX12_change_7 : decode cX12_change 7 = .ok (.iconst 1, 1) := by decide +kernel
theorem dX12_change_8 : decode cX12_change 8 = .ok (.isub, 1) := by decide +kernel
theorem dX12_change_9 : decode cX12_change 9 = .ok (.i2l, 1) := by decide +kernel
theorem dX12_change_10 : decode cX12_change 10 = .ok (.invokestatic 178, 3) := by decide +kernel
theorem dX12_change_13 : decode cX12_change 13 = .ok (.ifCond .eq 10, 3) := by decide +kernel
theorem dX12_change_16 : decode cX12_change 16 = .ok (.iload_n 2, 1) := by decide +kernel
theorem dX12_change_17 : decode cX12_change 17 = .ok (.invokestatic 221, 3) := by decide +kernel
theorem dX12_change_20 : decode cX12_change 20 = .ok (.ifCond .ne 6, 3) := by decide +kernel
theorem dX12_change_23 : decode cX12_change 23 = .ok (.bipush (-2), 2) := by decide +kernel
theorem dX12_change_25 : decode cX12_change 25 = .ok (.ireturn, 1) := by decide +kernel
theorem dX12_change_26 : decode cX12_change 26 = .ok (.aload_n 0, 1) := by decide +kernel
theorem dX12_change_27 : decode cX12_change 27 = .ok (.getfield 50, 3) := by decide +kernel
theorem dX12_change_30 : decode cX12_change 30 = .ok (.iload_n 1, 1) := by decide +kernel
theorem dX12_change_31 : decode cX12_change 31 = .ok (.iaload, 1) := by decide +kernel
theorem dX12_change_32 : decode cX12_change 32 = .ok (.istore_n 3, 1) := by decide +kernel
theorem dX12_change_33 : decode cX12_change 33 = .ok (.aload_n 0, 1) := by decide +kernel
theorem dX12_change_34 : decode cX12_change 34 = .ok (.getfield 50, 3) := by decide +kernel
theorem dX12_change_37 : decode cX12_change 37 = .ok (.iload_n 1, 1) := by decide +kernel
theorem dX12_change_38 : decode cX12_change 38 = .ok (.iload_n 2, 1) := by decide +kernel
theorem dX12_change_39 : decode cX12_change 39 = .ok (.iastore, 1) := by decide +kernel
theorem dX12_change_40 : decode cX12_change 40 = .ok (.iload_n 3, 1) := by decide +kernel
theorem dX12_change_41 : decode cX12_change 41 = .ok (.ireturn, 1) := by decide +kernel
theorem dX12_back_0 : decode cX12_back 0 = .ok (.iload_n 1, 1) := by decide +kernel
theorem dX12_back_1 : decode cX12_back 1 = .ok (.i2l, 1) := by decide +kernel
theorem dX12_back_2 : decode cX12_back 2 = .ok (.lconst 0, 1) := by decide +kernel
theorem dX12_back_3 : decode cX12_back 3 = .ok (.aload_n 0, 1) := by decide +kernel
theorem dX12_back_4 : decode cX12_back 4 = .ok (.getfield 218, 3) := by decide +kernel
theorem dX12_back_7 : decode cX12_back 7 = .ok (.iconst 1, 1) := by decide +kernel
theorem dX12_back_8 : decode cX12_back 8 = .ok (.isub, 1) := by decide +kernel
theorem dX12_back_9 : decode cX12_back 9 = .ok (.i2l, 1) := by decide +kernel
theorem dX12_back_10 : decode cX12_back 10 = .ok (.invokestatic 178, 3) := by decide +kernel
theorem dX12_back_13 : decode cX12_back 13 = .ok (.ifCond .ne 6, 3) := by decide +kernel
theorem dX12_back_16 : decode cX12_back 16 = .ok (.bipush (-2), 2) := by decide +kernel
theorem dX12_back_18 : decode cX12_back 18 = .ok (.ireturn, 1) := by decide +kernel
theorem dX12_back_19 : decode cX12_back 19 = .ok (.aload_n 0, 1) := by decide +kernel
theorem dX12_back_20 : decode cX12_back 20 = .ok (.getfield 50, 3) := by decide +kernel
theorem dX12_back_23 : decode cX12_back 23 = .ok (.iload_n 1, 1) := by decide +kernel
theorem dX12_back_24 : decode cX12_back 24 = .ok (.iaload, 1) := by decide +kernel
theorem dX12_back_25 : decode cX12_back 25 = .ok (.istore_n 2, 1) := by decide +kernel
theorem dX12_back_26 : decode cX12_back 26 = .ok (.iload_n 1, 1) := by decide +kernel
theorem dX12_back_27 : decode cX12_back 27 = .ok (.istore_n 3, 1) := by decide +kernel
theorem dX12_back_28 : decode cX12_back 28 = .ok (.iload_n 3, 1) := by decide +kernel
theorem dX12_back_29 : decode cX12_back 29 = .ok (.iconst 1, 1) := by decide +kernel
theorem dX12_back_30 : decode cX12_back 30 = .ok (.iadd, 1) := by decide +kernel
theorem dX12_back_31 : decode cX12_back 31 = .ok (.aload_n 0, 1) := by decide +kernel
theorem dX12_back_32 : decode cX12_back 32 = .ok (.getfield 218, 3) := by decide +kernel
theorem dX12_back_35 : decode cX12_back 35 = .ok (.if_icmp .ge 23, 3) := by decide +kernel
theorem dX12_back_38 : decode cX12_back 38 = .ok (.aload_n 0, 1) := by decide +kernel
theorem dX12_back_39 : decode cX12_back 39 = .ok (.getfield 50, 3) := by decide +kernel
theorem dX12_back_42 : decode cX12_back 42 = .ok (.iload_n 3, 1) := by decide +kernel
theorem dX12_back_43 : decode cX12_back 43 = .ok (.aload_n 0, 1) := by decide +kernel
theorem dX12_back_44 : decode cX12_back 44 = .ok (.getfield 50, 3) := by decide +kernel
theorem dX12_back_47 : decode cX12_back 47 = .ok (.iload_n 3, 1) := by decide +kernel
theorem dX12_back_48 : decode cX12_back 48 = .ok (.iconst 1, 1) := by decide +kernel
theorem dX12_back_49 : decode cX12_back 49 = .ok (.iadd, 1) := by decide +kernel
theorem dX12_back_50 : decode cX12_back 50 = .ok (.iaload, 1) := by decide +kernel
theorem dX12_back_51 : decode cX12_back 51 = .ok (.iastore, 1) := by decide +kernel
theorem dX12_back_52 : decode cX12_back 52 = .ok (.iinc 3 1, 3) := by decide +kernel
theorem dX12_back_55 : decode cX12_back 55 = .ok (.goto (-27), 3) := by decide +kernel
theorem dX12_back_58 : decode cX12_back 58 = .ok (.aload_n 0, 1) := by decide +kernel
theorem dX12_back_59 : decode cX12_back 59 = .ok (.dup, 1) := by decide +kernel
theorem dX12_back_60 : decode cX12_back 60 = .ok (.getfield 218, 3) := by decide +kernel
theorem dX12_back_63 : decode cX12_back 63 = .ok (.iconst 1, 1) := by decide +kernel
theorem dX12_back_64 : decode cX12_back 64 = .ok (.isub, 1) := by decide +kernel
theorem dX12_back_65 : decode cX12_back 65 = .ok (.putfield 218, 3) := by decide +kernel
theorem dX12_back_68 : decode cX12_back 68 = .ok (.iload_n 2, 1) := by decide +kernel
theorem dX12_back_69 : decode cX12_back 69 = .ok (.ireturn, 1) := by decide +kernel
theorem dX12_ruleAt_0 : decode cX12_ruleAt 0 = .ok (.iconst (-1), 1) := by decide +kernel
theorem dX12_ruleAt_1 : decode cX12_ruleAt 1 = .ok (.istore_n 2, 1) := by decide +kernel
theorem dX12_ruleAt_2 : decode cX12_ruleAt 2 = .ok (.iconst 0, 1) := by decide +kernel
theorem dX12_ruleAt_3 : decode cX12_ruleAt 3 = .ok (.istore_n 3, 1) := by decide +kernel
theorem dX12_ruleAt_4 : decode cX12_ruleAt 4 = .ok (.iconst 0, 1) := by decide +kernel
theorem dX12_ruleAt_5 : decode cX12_ruleAt 5 = .ok (.istore 4, 2) := by decide +kernel
theorem dX12_ruleAt_7 : decode cX12_ruleAt 7 = .ok (.iload 4, 2) := by decide +kernel
theorem dX12_ruleAt_9 : decode cX12_ruleAt 9 = .ok (.aload_n 0, 1) := by decide +kernel
theorem dX12_ruleAt_10 : decode cX12_ruleAt 10 = .ok (.getfield 35, 3) := by decide +kernel
theorem dX12_ruleAt_13 : decode cX12_ruleAt 13 = .ok (.aload_n 0, 1) := by decide +kernel
theorem dX12_ruleAt_14 : decode cX12_ruleAt 14 = .ok (.getfield 215, 3) := by decide +kernel
theorem dX12_ruleAt_17 : decode cX12_ruleAt 17 = .ok (.iaload, 1) := by decide +kernel
theorem dX12_ruleAt_18 : decode cX12_ruleAt 18 = .ok (.if_icmp .ge 128, 3) := by decide +kernel
theorem dX12_ruleAt_21 : decode cX12_ruleAt 21 = .ok (.bipush 24, 2) := by decide +kernel
theorem dX12_ruleAt_23 : decode cX12_ruleAt 23 = .ok (.aload_n 0, 1) := by decide +kernel
theorem dX12_ruleAt_24 : decode cX12_ruleAt 24 = .ok (.getfield 215, 3) := by decide +kernel
theorem dX12_ruleAt_27 : decode cX12_ruleAt 27 = .ok (.imul, 1) := by decide +kernel
theorem dX12_ruleAt_28 : decode cX12_ruleAt 28 = .ok (.iload 4, 2) := by decide +kernel
theorem dX12_ruleAt_30 : decode cX12_ruleAt 30 = .ok (.iadd, 1) := by decide +kernel
theorem dX12_ruleAt_31 : decode cX12_ruleAt 31 = .ok (.istore 5, 2) := by decide +kernel
theorem dX12_ruleAt_33 : decode cX12_ruleAt 33 = .ok (.iload_n 1, 1) := by decide +kernel
theorem dX12_ruleAt_34 : decode cX12_ruleAt 34 = .ok (.aload_n 0, 1) := by decide +kernel
theorem dX12_ruleAt_35 : decode cX12_ruleAt 35 = .ok (.getfield 26, 3) := by decide +kernel
theorem dX12_ruleAt_38 : decode cX12_ruleAt 38 = .ok (.iload 5, 2) := by decide +kernel
theorem dX12_ruleAt_40 : decode cX12_ruleAt 40 = .ok (.iaload, 1) := by decide +kernel
theorem dX12_ruleAt_41 : decode cX12_ruleAt 41 = .ok (.iadd, 1) := by decide +kernel
theorem dX12_ruleAt_42 : decode cX12_ruleAt 42 = .ok (.aload_n 0, 1) := by decide +kernel
theorem dX12_ruleAt_43 : decode cX12_ruleAt 43 = .ok (.getfield 218, 3) := by decide +kernel
theorem dX12_ruleAt_46 : decode cX12_ruleAt 46 = .ok (.if_icmp .gt 7, 3) := by decide +kernel
theorem dX12_ruleAt_49 : decode cX12_ruleAt 49 = .ok (.iconst 1, 1) := by decide +kernel
theorem dX12_ruleAt_50 : decode cX12_ruleAt 50 = .ok (.goto 4, 3) := by decide +kernel
theorem dX12_ruleAt_53 : decode cX12_ruleAt 53 = .ok (.iconst 0, 1) := by decide +kernel
theorem dX12_ruleAt_54 : decode cX12_ruleAt 54 = .ok (.istore 6, 2) := by decide +kernel
theorem dX12_ruleAt_56 : decode cX12_ruleAt 56 = .ok (.iconst 0, 1) := by decide +kernel
theorem dX12_ruleAt_57 : decode cX12_ruleAt 57 = .ok (.istore 7, 2) := by decide +kernel
theorem dX12_ruleAt_59 : decode cX12_ruleAt 59 = .ok (.iload 7, 2) := by decide +kernel
theorem dX12_ruleAt_61 : decode cX12_ruleAt 61 = .ok (.aload_n 0, 1) := by decide +kernel
theorem dX12_ruleAt_62 : decode cX12_ruleAt 62 = .ok (.getfield 26, 3) := by decide +kernel
theorem dX12_ruleAt_65 : decode cX12_ruleAt 65 = .ok (.iload 5, 2) := by decide +kernel
theorem dX12_ruleAt_67 : decode cX12_ruleAt 67 = .ok (.iaload, 1) := by decide +kernel
theorem dX12_ruleAt_68 : decode cX12_ruleAt 68 = .ok (.if_icmp .ge 45, 3) := by decide +kernel
theorem dX12_ruleAt_71 : decode cX12_ruleAt 71 = .ok (.iload 6, 2) := by decide +kernel
theorem dX12_ruleAt_73 : decode cX12_ruleAt 73 = .ok (.ifCond .eq 40, 3) := by decide +kernel
theorem dX12_ruleAt_76 : decode cX12_ruleAt 76 = .ok (.aload_n 0, 1) := by decide +kernel
theorem dX12_ruleAt_77 : decode cX12_ruleAt 77 = .ok (.getfield 23, 3) := by decide +kernel
theorem dX12_ruleAt_80 : decode cX12_ruleAt 80 = .ok (.iconst 4, 1) := by decide +kernel
theorem dX12_ruleAt_81 : decode cX12_ruleAt 81 = .ok (.iload 5, 2) := by decide +kernel
theorem dX12_ruleAt_83 : decode cX12_ruleAt 83 = .ok (.imul, 1) := by decide +kernel
theorem dX12_ruleAt_84 : decode cX12_ruleAt 84 = .ok (.iload 7, 2) := by decide +kernel
theorem dX12_ruleAt_86 : decode cX12_ruleAt 86 = .ok (.iadd, 1) := by decide +kernel
theorem dX12_ruleAt_87 : decode cX12_ruleAt 87 = .ok (.iaload, 1) := by decide +kernel
theorem dX12_ruleAt_88 : decode cX12_ruleAt 88 = .ok (.aload_n 0, 1) := by decide +kernel
theorem dX12_ruleAt_89 : decode cX12_ruleAt 89 = .ok (.getfield 50, 3) := by decide +kernel
theorem dX12_ruleAt_92 : decode cX12_ruleAt 92 = .ok (.iload_n 1, 1) := by decide +kernel
theorem dX12_ruleAt_93 : decode cX12_ruleAt 93 = .ok (.iload 7, 2) := by decide +kernel
theorem dX12_ruleAt_95 : decode cX12_ruleAt 95 = .ok (.iadd, 1) := by decide +kernel
theorem dX12_ruleAt_96 : decode cX12_ruleAt 96 = .ok (.iaload, 1) := by decide +kernel
theorem dX12_ruleAt_97 : decode cX12_ruleAt 97 = .ok (.if_icmp .ne 7, 3) := by decide +kernel
theorem dX12_ruleAt_100 : decode cX12_ruleAt 100 = .ok (.iconst 1, 1) := by decide +kernel
theorem dX12_ruleAt_101 : decode cX12_ruleAt 101 = .ok (.goto 4, 3) := by decide +kernel
theorem dX12_ruleAt_104 : decode cX12_ruleAt 104 = .ok (.iconst 0, 1) := by decide +kernel
theorem dX12_ruleAt_105 : decode cX12_ruleAt 105 = .ok (.istore 6, 2) := by decide +kernel
theorem dX12_ruleAt_107 : decode cX12_ruleAt 107 = .ok (.iinc 7 1, 3) := by decide +kernel
theorem dX12_ruleAt_110 : decode cX12_ruleAt 110 = .ok (.goto (-51), 3) := by decide +kernel
theorem dX12_ruleAt_113 : decode cX12_ruleAt 113 = .ok (.iload 6, 2) := by decide +kernel
theorem dX12_ruleAt_115 : decode cX12_ruleAt 115 = .ok (.ifCond .eq 25, 3) := by decide +kernel
theorem dX12_ruleAt_118 : decode cX12_ruleAt 118 = .ok (.aload_n 0, 1) := by decide +kernel
theorem dX12_ruleAt_119 : decode cX12_ruleAt 119 = .ok (.getfield 26, 3) := by decide +kernel
theorem dX12_ruleAt_122 : decode cX12_ruleAt 122 = .ok (.iload 5, 2) := by decide +kernel
theorem dX12_ruleAt_124 : decode cX12_ruleAt 124 = .ok (.iaload, 1) := by decide +kernel
theorem dX12_ruleAt_125 : decode cX12_ruleAt 125 = .ok (.iload_n 3, 1) := by decide +kernel
theorem dX12_ruleAt_126 : decode cX12_ruleAt 126 = .ok (.if_icmp .le 14, 3) := by decide +kernel
theorem dX12_ruleAt_129 : decode cX12_ruleAt 129 = .ok (.iload 4, 2) := by decide +kernel
theorem dX12_ruleAt_131 : decode cX12_ruleAt 131 = .ok (.istore_n 2, 1) := by decide +kernel
theorem dX12_ruleAt_132 : decode cX12_ruleAt 132 = .ok (.aload_n 0, 1) := by decide +kernel
theorem dX12_ruleAt_133 : decode cX12_ruleAt 133 = .ok (.getfield 26, 3) := by decide +kernel
theorem dX12_ruleAt_136 : decode cX12_ruleAt 136 = .ok (.iload 5, 2) := by decide +kernel
theorem dX12_ruleAt_138 : decode cX12_ruleAt 138 = .ok (.iaload, 1) := by decide +kernel
theorem dX12_ruleAt_139 : decode cX12_ruleAt 139 = .ok (.istore_n 3, 1) := by decide +kernel
theorem dX12_ruleAt_140 : decode cX12_ruleAt 140 = .ok (.iinc 4 1, 3) := by decide +kernel
theorem dX12_ruleAt_143 : decode cX12_ruleAt 143 = .ok (.goto (-136), 3) := by decide +kernel
theorem dX12_ruleAt_146 : decode cX12_ruleAt 146 = .ok (.iload_n 2, 1) := by decide +kernel
theorem dX12_ruleAt_147 : decode cX12_ruleAt 147 = .ok (.ireturn, 1) := by decide +kernel
theorem dX12_joinOf_0 : decode cX12_joinOf 0 = .ok (.iconst 0, 1) := by decide +kernel
theorem dX12_joinOf_1 : decode cX12_joinOf 1 = .ok (.istore_n 3, 1) := by decide +kernel
theorem dX12_joinOf_2 : decode cX12_joinOf 2 = .ok (.iload_n 3, 1) := by decide +kernel
theorem dX12_joinOf_3 : decode cX12_joinOf 3 = .ok (.aload_n 0, 1) := by decide +kernel
theorem dX12_joinOf_4 : decode cX12_joinOf 4 = .ok (.getfield 41, 3) := by decide +kernel
theorem dX12_joinOf_7 : decode cX12_joinOf 7 = .ok (.aload_n 0, 1) := by decide +kernel
theorem dX12_joinOf_8 : decode cX12_joinOf 8 = .ok (.getfield 215, 3) := by decide +kernel
theorem dX12_joinOf_11 : decode cX12_joinOf 11 = .ok (.iaload, 1) := by decide +kernel
theorem dX12_joinOf_12 : decode cX12_joinOf 12 = .ok (.if_icmp .ge 56, 3) := by decide +kernel
theorem dX12_joinOf_15 : decode cX12_joinOf 15 = .ok (.iconst 3, 1) := by decide +kernel
theorem dX12_joinOf_16 : decode cX12_joinOf 16 = .ok (.bipush 12, 2) := by decide +kernel
theorem dX12_joinOf_18 : decode cX12_joinOf 18 = .ok (.aload_n 0, 1) := by decide +kernel
theorem dX12_joinOf_19 : decode cX12_joinOf 19 = .ok (.getfield 215, 3) := by decide +kernel
theorem dX12_joinOf_22 : decode cX12_joinOf 22 = .ok (.imul, 1) := by decide +kernel
theorem dX12_joinOf_23 : decode cX12_joinOf 23 = .ok (.iload_n 3, 1) := by decide +kernel
theorem dX12_joinOf_24 : decode cX12_joinOf 24 = .ok (.iadd, 1) := by decide +kernel
theorem dX12_joinOf_25 : decode cX12_joinOf 25 = .ok (.imul, 1) := by decide +kernel
theorem dX12_joinOf_26 : decode cX12_joinOf 26 = .ok (.istore 4, 2) := by decide +kernel
theorem dX12_joinOf_28 : decode cX12_joinOf 28 = .ok (.aload_n 0, 1) := by decide +kernel
theorem dX12_joinOf_29 : decode cX12_joinOf 29 = .ok (.getfield 38, 3) := by decide +kernel
theorem dX12_joinOf_32 : decode cX12_joinOf 32 = .ok (.iload 4, 2) := by decide +kernel
theorem dX12_joinOf_34 : decode cX12_joinOf 34 = .ok (.iaload, 1) := by decide +kernel
theorem dX12_joinOf_35 : decode cX12_joinOf 35 = .ok (.iload_n 1, 1) := by decide +kernel
theorem dX12_joinOf_36 : decode cX12_joinOf 36 = .ok (.if_icmp .ne 26, 3) := by decide +kernel
theorem dX12_joinOf_39 : decode cX12_joinOf 39 = .ok (.aload_n 0, 1) := by decide +kernel
theorem dX12_joinOf_40 : decode cX12_joinOf 40 = .ok (.getfield 38, 3) := by decide +kernel
theorem dX12_joinOf_43 : decode cX12_joinOf 43 = .ok (.iload 4, 2) := by decide +kernel
theorem dX12_joinOf_45 : decode cX12_joinOf 45 = .ok (.iconst 1, 1) := by decide +kernel
theorem dX12_joinOf_46 : decode cX12_joinOf 46 = .ok (.iadd, 1) := by decide +kernel
theorem dX12_joinOf_47 : decode cX12_joinOf 47 = .ok (.iaload, 1) := by decide +kernel
theorem dX12_joinOf_48 : decode cX12_joinOf 48 = .ok (.iload_n 2, 1) := by decide +kernel
theorem dX12_joinOf_49 : decode cX12_joinOf 49 = .ok (.if_icmp .ne 13, 3) := by decide +kernel
theorem dX12_joinOf_52 : decode cX12_joinOf 52 = .ok (.aload_n 0, 1) := by decide +kernel
theorem dX12_joinOf_53 : decode cX12_joinOf 53 = .ok (.getfield 38, 3) := by decide +kernel
theorem dX12_joinOf_56 : decode cX12_joinOf 56 = .ok (.iload 4, 2) := by decide +kernel
theorem dX12_joinOf_58 : decode cX12_joinOf 58 = .ok (.iconst 2, 1) := by decide +kernel
theorem dX12_joinOf_59 : decode cX12_joinOf 59 = .ok (.iadd, 1) := by decide +kernel
theorem dX12_joinOf_60 : decode cX12_joinOf 60 = .ok (.iaload, 1) := by decide +kernel
theorem dX12_joinOf_61 : decode cX12_joinOf 61 = .ok (.ireturn, 1) := by decide +kernel
theorem dX12_joinOf_62 : decode cX12_joinOf 62 = .ok (.iinc 3 1, 3) := by decide +kernel
theorem dX12_joinOf_65 : decode cX12_joinOf 65 = .ok (.goto (-63), 3) := by decide +kernel
theorem dX12_joinOf_68 : decode cX12_joinOf 68 = .ok (.iconst 0, 1) := by decide +kernel
theorem dX12_joinOf_69 : decode cX12_joinOf 69 = .ok (.ireturn, 1) := by decide +kernel
theorem dX12_come_0 : decode cX12_come 0 = .ok (.iload_n 1, 1) := by decide +kernel
theorem dX12_come_1 : decode cX12_come 1 = .ok (.istore_n 2, 1) := by decide +kernel
theorem dX12_come_2 : decode cX12_come 2 = .ok (.iconst 1, 1) := by decide +kernel
theorem dX12_come_3 : decode cX12_come 3 = .ok (.istore_n 3, 1) := by decide +kernel
theorem dX12_come_4 : decode cX12_come 4 = .ok (.iload_n 3, 1) := by decide +kernel
theorem dX12_come_5 : decode cX12_come 5 = .ok (.ifCond .eq 77, 3) := by decide +kernel
theorem dX12_come_8 : decode cX12_come 8 = .ok (.aload_n 0, 1) := by decide +kernel
theorem dX12_come_9 : decode cX12_come 9 = .ok (.getfield 224, 3) := by decide +kernel
theorem dX12_come_12 : decode cX12_come 12 = .ok (.ifCond .le 36, 3) := by decide +kernel
theorem dX12_come_15 : decode cX12_come 15 = .ok (.aload_n 0, 1) := by decide +kernel
theorem dX12_come_16 : decode cX12_come 16 = .ok (.getfield 59, 3) := by decide +kernel
theorem dX12_come_19 : decode cX12_come 19 = .ok (.aload_n 0, 1) := by decide +kernel
theorem dX12_come_20 : decode cX12_come 20 = .ok (.getfield 224, 3) := by decide +kernel
theorem dX12_come_23 : decode cX12_come 23 = .ok (.iconst 1, 1) := by decide +kernel
theorem dX12_come_24 : decode cX12_come 24 = .ok (.isub, 1) := by decide +kernel
theorem dX12_come_25 : decode cX12_come 25 = .ok (.iaload, 1) := by decide +kernel
theorem dX12_come_26 : decode cX12_come 26 = .ok (.ifCond .le 22, 3) := by decide +kernel
theorem dX12_come_29 : decode cX12_come 29 = .ok (.aload_n 0, 1) := by decide +kernel
theorem dX12_come_30 : decode cX12_come 30 = .ok (.aload_n 0, 1) := by decide +kernel
theorem dX12_come_31 : decode cX12_come 31 = .ok (.getfield 59, 3) := by decide +kernel
theorem dX12_come_34 : decode cX12_come 34 = .ok (.aload_n 0, 1) := by decide +kernel
theorem dX12_come_35 : decode cX12_come 35 = .ok (.getfield 224, 3) := by decide +kernel
theorem dX12_come_38 : decode cX12_come 38 = .ok (.iconst 1, 1) := by decide +kernel
theorem dX12_come_39 : decode cX12_come 39 = .ok (.isub, 1) := by decide +kernel
theorem dX12_come_40 : decode cX12_come 40 = .ok (.iaload, 1) := by decide +kernel
theorem dX12_come_41 : decode cX12_come 41 = .ok (.iload_n 2, 1) := by decide +kernel
theorem dX12_come_42 : decode cX12_come 42 = .ok (.invokevirtual 227, 3) := by decide +kernel
theorem dX12_come_45 : decode cX12_come 45 = .ok (.goto 4, 3) := by decide +kernel
theorem dX12_come_48 : decode cX12_come 48 = .ok (.iconst 0, 1) := by decide +kernel
theorem dX12_come_49 : decode cX12_come 49 = .ok (.istore 4, 2) := by decide +kernel
theorem dX12_come_51 : decode cX12_come 51 = .ok (.iload 4, 2) := by decide +kernel
theorem dX12_come_53 : decode cX12_come 53 = .ok (.ifCond .le 7, 3) := by decide +kernel
theorem dX12_come_56 : decode cX12_come 56 = .ok (.iconst 1, 1) := by decide +kernel
theorem dX12_come_57 : decode cX12_come 57 = .ok (.goto 4, 3) := by decide +kernel
theorem dX12_come_60 : decode cX12_come 60 = .ok (.iconst 0, 1) := by decide +kernel
theorem dX12_come_61 : decode cX12_come 61 = .ok (.istore_n 3, 1) := by decide +kernel
theorem dX12_come_62 : decode cX12_come 62 = .ok (.iload_n 3, 1) := by decide +kernel
theorem dX12_come_63 : decode cX12_come 63 = .ok (.ifCond .eq 16, 3) := by decide +kernel
theorem dX12_come_66 : decode cX12_come 66 = .ok (.aload_n 0, 1) := by decide +kernel
theorem dX12_come_67 : decode cX12_come 67 = .ok (.dup, 1) := by decide +kernel
theorem dX12_come_68 : decode cX12_come 68 = .ok (.getfield 224, 3) := by decide +kernel
theorem dX12_come_71 : decode cX12_come 71 = .ok (.iconst 1, 1) := by decide +kernel
theorem dX12_come_72 : decode cX12_come 72 = .ok (.isub, 1) := by decide +kernel
theorem dX12_come_73 : decode cX12_come 73 = .ok (.putfield 224, 3) := by decide +kernel
theorem dX12_come_76 : decode cX12_come 76 = .ok (.iload 4, 2) := by decide +kernel
theorem dX12_come_78 : decode cX12_come 78 = .ok (.istore_n 2, 1) := by decide +kernel
theorem dX12_come_79 : decode cX12_come 79 = .ok (.goto (-75), 3) := by decide +kernel
theorem dX12_come_82 : decode cX12_come 82 = .ok (.aload_n 0, 1) := by decide +kernel
theorem dX12_come_83 : decode cX12_come 83 = .ok (.getfield 59, 3) := by decide +kernel
theorem dX12_come_86 : decode cX12_come 86 = .ok (.aload_n 0, 1) := by decide +kernel
theorem dX12_come_87 : decode cX12_come 87 = .ok (.getfield 224, 3) := by decide +kernel
theorem dX12_come_90 : decode cX12_come 90 = .ok (.iload_n 2, 1) := by decide +kernel
theorem dX12_come_91 : decode cX12_come 91 = .ok (.iastore, 1) := by decide +kernel
theorem dX12_come_92 : decode cX12_come 92 = .ok (.aload_n 0, 1) := by decide +kernel
theorem dX12_come_93 : decode cX12_come 93 = .ok (.dup, 1) := by decide +kernel
theorem dX12_come_94 : decode cX12_come 94 = .ok (.getfield 224, 3) := by decide +kernel
theorem dX12_come_97 : decode cX12_come 97 = .ok (.iconst 1, 1) := by decide +kernel
theorem dX12_come_98 : decode cX12_come 98 = .ok (.iadd, 1) := by decide +kernel
theorem dX12_come_99 : decode cX12_come 99 = .ok (.putfield 224, 3) := by decide +kernel
theorem dX12_come_102 : decode cX12_come 102 = .ok (.return_, 1) := by decide +kernel
theorem dX12_walk_0 : decode cX12_walk 0 = .ok (.aload_n 0, 1) := by decide +kernel
theorem dX12_walk_1 : decode cX12_walk 1 = .ok (.iconst 0, 1) := by decide +kernel
theorem dX12_walk_2 : decode cX12_walk 2 = .ok (.putfield 231, 3) := by decide +kernel
theorem dX12_walk_5 : decode cX12_walk 5 = .ok (.aload_n 0, 1) := by decide +kernel
theorem dX12_walk_6 : decode cX12_walk 6 = .ok (.iconst 0, 1) := by decide +kernel
theorem dX12_walk_7 : decode cX12_walk 7 = .ok (.putfield 224, 3) := by decide +kernel
theorem dX12_walk_10 : decode cX12_walk 10 = .ok (.iconst 0, 1) := by decide +kernel
theorem dX12_walk_11 : decode cX12_walk 11 = .ok (.istore_n 1, 1) := by decide +kernel
theorem dX12_walk_12 : decode cX12_walk 12 = .ok (.iload_n 1, 1) := by decide +kernel
theorem dX12_walk_13 : decode cX12_walk 13 = .ok (.aload_n 0, 1) := by decide +kernel
theorem dX12_walk_14 : decode cX12_walk 14 = .ok (.getfield 218, 3) := by decide +kernel
theorem dX12_walk_17 : decode cX12_walk 17 = .ok (.if_icmp .ge 133, 3) := by decide +kernel
theorem dX12_walk_20 : decode cX12_walk 20 = .ok (.aload_n 0, 1) := by decide +kernel
theorem dX12_walk_21 : decode cX12_walk 21 = .ok (.iload_n 1, 1) := by decide +kernel
theorem dX12_walk_22 : decode cX12_walk 22 = .ok (.invokevirtual 234, 3) := by decide +kernel
theorem dX12_walk_25 : decode cX12_walk 25 = .ok (.istore_n 2, 1) := by decide +kernel
theorem dX12_walk_26 : decode cX12_walk 26 = .ok (.aload_n 0, 1) := by decide +kernel
theorem dX12_walk_27 : decode cX12_walk 27 = .ok (.getfield 53, 3) := by decide +kernel
theorem dX12_walk_30 : decode cX12_walk 30 = .ok (.aload_n 0, 1) := by decide +kernel
theorem dX12_walk_31 : decode cX12_walk 31 = .ok (.getfield 231, 3) := by decide +kernel
theorem dX12_walk_34 : decode cX12_walk 34 = .ok (.iload_n 2, 1) := by decide +kernel
theorem dX12_walk_35 : decode cX12_walk 35 = .ok (.iastore, 1) := by decide +kernel
theorem dX12_walk_36 : decode cX12_walk 36 = .ok (.aload_n 0, 1) := by decide +kernel
theorem dX12_walk_37 : decode cX12_walk 37 = .ok (.getfield 56, 3) := by decide +kernel
theorem dX12_walk_40 : decode cX12_walk 40 = .ok (.aload_n 0, 1) := by decide +kernel
theorem dX12_walk_41 : decode cX12_walk 41 = .ok (.getfield 231, 3) := by decide +kernel
theorem dX12_walk_44 : decode cX12_walk 44 = .ok (.iload_n 1, 1) := by decide +kernel
theorem dX12_walk_45 : decode cX12_walk 45 = .ok (.iastore, 1) := by decide +kernel
theorem dX12_walk_46 : decode cX12_walk 46 = .ok (.aload_n 0, 1) := by decide +kernel
theorem dX12_walk_47 : decode cX12_walk 47 = .ok (.dup, 1) := by decide +kernel
theorem dX12_walk_48 : decode cX12_walk 48 = .ok (.getfield 231, 3) := by decide +kernel
theorem dX12_walk_51 : decode cX12_walk 51 = .ok (.iconst 1, 1) := by decide +kernel
theorem dX12_walk_52 : decode cX12_walk 52 = .ok (.iadd, 1) := by decide +kernel
theorem dX12_walk_53 : decode cX12_walk 53 = .ok (.putfield 231, 3) := by decide +kernel
theorem dX12_walk_56 : decode cX12_walk 56 = .ok (.iload_n 2, 1) := by decide +kernel
theorem dX12_walk_57 : decode cX12_walk 57 = .ok (.ifCond .ge 36, 3) := by decide +kernel
theorem dX12_walk_60 : decode cX12_walk 60 = .ok (.aload_n 0, 1) := by decide +kernel
theorem dX12_walk_61 : decode cX12_walk 61 = .ok (.getfield 59, 3) := by decide +kernel
theorem dX12_walk_64 : decode cX12_walk 64 = .ok (.aload_n 0, 1) := by decide +kernel
theorem dX12_walk_65 : decode cX12_walk 65 = .ok (.getfield 224, 3) := by decide +kernel
theorem dX12_walk_68 : decode cX12_walk 68 = .ok (.iconst (-1), 1) := by decide +kernel
theorem dX12_walk_69 : decode cX12_walk 69 = .ok (.aload_n 0, 1) := by decide +kernel
theorem dX12_walk_70 : decode cX12_walk 70 = .ok (.getfield 50, 3) := by decide +kernel
theorem dX12_walk_73 : decode cX12_walk 73 = .ok (.iload_n 1, 1) := by decide +kernel
theorem dX12_walk_74 : decode cX12_walk 74 = .ok (.iaload, 1) := by decide +kernel
theorem dX12_walk_75 : decode cX12_walk 75 = .ok (.isub, 1) := by decide +kernel
theorem dX12_walk_76 : decode cX12_walk 76 = .ok (.iastore, 1) := by decide +kernel
theorem dX12_walk_77 : decode cX12_walk 77 = .ok (.aload_n 0, 1) := by decide +kernel
theorem dX12_walk_78 : decode cX12_walk 78 = .ok (.dup, 1) := by decide +kernel
theorem dX12_walk_79 : decode cX12_walk 79 = .ok (.getfield 224, 3) := by decide +kernel
theorem dX12_walk_82 : decode cX12_walk 82 = .ok (.iconst 1, 1) := by decide +kernel
theorem dX12_walk_83 : decode cX12_walk 83 = .ok (.iadd, 1) := by decide +kernel
theorem dX12_walk_84 : decode cX12_walk 84 = .ok (.putfield 224, 3) := by decide +kernel
theorem dX12_walk_87 : decode cX12_walk 87 = .ok (.iinc 1 1, 3) := by decide +kernel
theorem dX12_walk_90 : decode cX12_walk 90 = .ok (.goto 57, 3) := by decide +kernel
theorem dX12_walk_93 : decode cX12_walk 93 = .ok (.bipush 24, 2) := by decide +kernel
theorem dX12_walk_95 : decode cX12_walk 95 = .ok (.aload_n 0, 1) := by decide +kernel
theorem dX12_walk_96 : decode cX12_walk 96 = .ok (.getfield 215, 3) := by decide +kernel
theorem dX12_walk_99 : decode cX12_walk 99 = .ok (.imul, 1) := by decide +kernel
theorem dX12_walk_100 : decode cX12_walk 100 = .ok (.iload_n 2, 1) := by decide +kernel
theorem dX12_walk_101 : decode cX12_walk 101 = .ok (.iadd, 1) := by decide +kernel
theorem dX12_walk_102 : decode cX12_walk 102 = .ok (.istore_n 3, 1) := by decide +kernel
theorem dX12_walk_103 : decode cX12_walk 103 = .ok (.iconst 0, 1) := by decide +kernel
theorem dX12_walk_104 : decode cX12_walk 104 = .ok (.istore 4, 2) := by decide +kernel
theorem dX12_walk_106 : decode cX12_walk 106 = .ok (.iload 4, 2) := by decide +kernel
theorem dX12_walk_108 : decode cX12_walk 108 = .ok (.aload_n 0, 1) := by decide +kernel
theorem dX12_walk_109 : decode cX12_walk 109 = .ok (.getfield 32, 3) := by decide +kernel
theorem dX12_walk_112 : decode cX12_walk 112 = .ok (.iload_n 3, 1) := by decide +kernel
theorem dX12_walk_113 : decode cX12_walk 113 = .ok (.iaload, 1) := by decide +kernel
theorem dX12_walk_114 : decode cX12_walk 114 = .ok (.if_icmp .ge 24, 3) := by decide +kernel
theorem dX12_walk_117 : decode cX12_walk 117 = .ok (.aload_n 0, 1) := by decide +kernel
theorem dX12_walk_118 : decode cX12_walk 118 = .ok (.aload_n 0, 1) := by decide +kernel
theorem dX12_walk_119 : decode cX12_walk 119 = .ok (.getfield 29, 3) := by decide +kernel
theorem dX12_walk_122 : decode cX12_walk 122 = .ok (.iconst 3, 1) := by decide +kernel
theorem dX12_walk_123 : decode cX12_walk 123 = .ok (.iload_n 3, 1) := by decide +kernel
theorem dX12_walk_124 : decode cX12_walk 124 = .ok (.imul, 1) := by decide +kernel
theorem dX12_walk_125 : decode cX12_walk 125 = .ok (.iload 4, 2) := by decide +kernel
theorem dX12_walk_127 : decode cX12_walk 127 = .ok (.iadd, 1) := by decide +kernel
theorem dX12_walk_128 : decode cX12_walk 128 = .ok (.iaload, 1) := by decide +kernel
theorem dX12_walk_129 : decode cX12_walk 129 = .ok (.invokevirtual 238, 3) := by decide +kernel
theorem dX12_walk_132 : decode cX12_walk 132 = .ok (.iinc 4 1, 3) := by decide +kernel
theorem dX12_walk_135 : decode cX12_walk 135 = .ok (.goto (-29), 3) := by decide +kernel
theorem dX12_walk_138 : decode cX12_walk 138 = .ok (.iload_n 1, 1) := by decide +kernel
theorem dX12_walk_139 : decode cX12_walk 139 = .ok (.aload_n 0, 1) := by decide +kernel
theorem dX12_walk_140 : decode cX12_walk 140 = .ok (.getfield 26, 3) := by decide +kernel
theorem dX12_walk_143 : decode cX12_walk 143 = .ok (.iload_n 3, 1) := by decide +kernel
theorem dX12_walk_144 : decode cX12_walk 144 = .ok (.iaload, 1) := by decide +kernel
theorem dX12_walk_145 : decode cX12_walk 145 = .ok (.iadd, 1) := by decide +kernel
theorem dX12_walk_146 : decode cX12_walk 146 = .ok (.istore_n 1, 1) := by decide +kernel
theorem dX12_walk_147 : decode cX12_walk 147 = .ok (.goto (-135), 3) := by decide +kernel
theorem dX12_walk_150 : decode cX12_walk 150 = .ok (.return_, 1) := by decide +kernel
theorem dX12_stands_0 : decode cX12_stands 0 = .ok (.iload_n 1, 1) := by decide +kernel
theorem dX12_stands_1 : decode cX12_stands 1 = .ok (.iconst (-1), 1) := by decide +kernel
theorem dX12_stands_2 : decode cX12_stands 2 = .ok (.if_icmp .ge 7, 3) := by decide +kernel
theorem dX12_stands_5 : decode cX12_stands 5 = .ok (.sipush (-1002), 3) := by decide +kernel
theorem dX12_stands_8 : decode cX12_stands 8 = .ok (.ireturn, 1) := by decide +kernel
theorem dX12_stands_9 : decode cX12_stands 9 = .ok (.aload_n 0, 1) := by decide +kernel
theorem dX12_stands_10 : decode cX12_stands 10 = .ok (.invokevirtual 241, 3) := by decide +kernel
theorem dX12_stands_13 : decode cX12_stands 13 = .ok (.iload_n 1, 1) := by decide +kernel
theorem dX12_stands_14 : decode cX12_stands 14 = .ok (.iconst (-1), 1) := by decide +kernel
theorem dX12_stands_15 : decode cX12_stands 15 = .ok (.if_icmp .ne 10, 3) := by decide +kernel
theorem dX12_stands_18 : decode cX12_stands 18 = .ok (.aload_n 0, 1) := by decide +kernel
theorem dX12_stands_19 : decode cX12_stands 19 = .ok (.getfield 224, 3) := by decide +kernel
theorem dX12_stands_22 : decode cX12_stands 22 = .ok (.goto 23, 3) := by decide +kernel
theorem dX12_stands_25 : decode cX12_stands 25 = .ok (.iload_n 1, 1) := by decide +kernel
theorem dX12_stands_26 : decode cX12_stands 26 = .ok (.aload_n 0, 1) := by decide +kernel
theorem dX12_stands_27 : decode cX12_stands 27 = .ok (.getfield 224, 3) := by decide +kernel
theorem dX12_stands_30 : decode cX12_stands 30 = .ok (.if_icmp .ge 12, 3) := by decide +kernel
theorem dX12_stands_33 : decode cX12_stands 33 = .ok (.aload_n 0, 1) := by decide +kernel
theorem dX12_stands_34 : decode cX12_stands 34 = .ok (.getfield 59, 3) := by decide +kernel
theorem dX12_stands_37 : decode cX12_stands 37 = .ok (.iload_n 1, 1) := by decide +kernel
theorem dX12_stands_38 : decode cX12_stands 38 = .ok (.iaload, 1) := by decide +kernel
theorem dX12_stands_39 : decode cX12_stands 39 = .ok (.goto 6, 3) := by decide +kernel
theorem dX12_stands_42 : decode cX12_stands 42 = .ok (.sipush (-1006), 3) := by decide +kernel
theorem dX12_stands_45 : decode cX12_stands 45 = .ok (.ireturn, 1) := by decide +kernel
theorem dX12_piece_0 : decode cX12_piece 0 = .ok (.aload_n 0, 1) := by decide +kernel
theorem dX12_piece_1 : decode cX12_piece 1 = .ok (.invokevirtual 241, 3) := by decide +kernel
theorem dX12_piece_4 : decode cX12_piece 4 = .ok (.iload_n 1, 1) := by decide +kernel
theorem dX12_piece_5 : decode cX12_piece 5 = .ok (.iconst (-1), 1) := by decide +kernel
theorem dX12_piece_6 : decode cX12_piece 6 = .ok (.if_icmp .ne 8, 3) := by decide +kernel
theorem dX12_piece_9 : decode cX12_piece 9 = .ok (.aload_n 0, 1) := by decide +kernel
theorem dX12_piece_10 : decode cX12_piece 10 = .ok (.getfield 231, 3) := by decide +kernel
theorem dX12_piece_13 : decode cX12_piece 13 = .ok (.ireturn, 1) := by decide +kernel
theorem dX12_piece_14 : decode cX12_piece 14 = .ok (.iload_n 1, 1) := by decide +kernel
theorem dX12_piece_15 : decode cX12_piece 15 = .ok (.i2l, 1) := by decide +kernel
theorem dX12_piece_16 : decode cX12_piece 16 = .ok (.lconst 0, 1) := by decide +kernel
theorem dX12_piece_17 : decode cX12_piece 17 = .ok (.aload_n 0, 1) := by decide +kernel
theorem dX12_piece_18 : decode cX12_piece 18 = .ok (.getfield 231, 3) := by decide +kernel
theorem dX12_piece_21 : decode cX12_piece 21 = .ok (.iconst 1, 1) := by decide +kernel
theorem dX12_piece_22 : decode cX12_piece 22 = .ok (.isub, 1) := by decide +kernel
theorem dX12_piece_23 : decode cX12_piece 23 = .ok (.i2l, 1) := by decide +kernel
theorem dX12_piece_24 : decode cX12_piece 24 = .ok (.invokestatic 178, 3) := by decide +kernel
theorem dX12_piece_27 : decode cX12_piece 27 = .ok (.ifCond .eq 36, 3) := by decide +kernel
theorem dX12_piece_30 : decode cX12_piece 30 = .ok (.bipush 100, 2) := by decide +kernel
theorem dX12_piece_32 : decode cX12_piece 32 = .ok (.aload_n 0, 1) := by decide +kernel
theorem dX12_piece_33 : decode cX12_piece 33 = .ok (.getfield 53, 3) := by decide +kernel
theorem dX12_piece_36 : decode cX12_piece 36 = .ok (.iload_n 1, 1) := by decide +kernel
theorem dX12_piece_37 : decode cX12_piece 37 = .ok (.iaload, 1) := by decide +kernel
theorem dX12_piece_38 : decode cX12_piece 38 = .ok (.ifCond .ge 8, 3) := by decide +kernel
theorem dX12_piece_41 : decode cX12_piece 41 = .ok (.bipush 99, 2) := by decide +kernel
theorem dX12_piece_43 : decode cX12_piece 43 = .ok (.goto 9, 3) := by decide +kernel
theorem dX12_piece_46 : decode cX12_piece 46 = .ok (.aload_n 0, 1) := by decide +kernel
theorem dX12_piece_47 : decode cX12_piece 47 = .ok (.getfield 53, 3) := by decide +kernel
theorem dX12_piece_50 : decode cX12_piece 50 = .ok (.iload_n 1, 1) := by decide +kernel
theorem dX12_piece_51 : decode cX12_piece 51 = .ok (.iaload, 1) := by decide +kernel
theorem dX12_piece_52 : decode cX12_piece 52 = .ok (.imul, 1) := by decide +kernel
theorem dX12_piece_53 : decode cX12_piece 53 = .ok (.aload_n 0, 1) := by decide +kernel
theorem dX12_piece_54 : decode cX12_piece 54 = .ok (.getfield 56, 3) := by decide +kernel
theorem dX12_piece_57 : decode cX12_piece 57 = .ok (.iload_n 1, 1) := by decide +kernel
theorem dX12_piece_58 : decode cX12_piece 58 = .ok (.iaload, 1) := by decide +kernel
theorem dX12_piece_59 : decode cX12_piece 59 = .ok (.iadd, 1) := by decide +kernel
theorem dX12_piece_60 : decode cX12_piece 60 = .ok (.goto 5, 3) := by decide +kernel
theorem dX12_piece_63 : decode cX12_piece 63 = .ok (.bipush (-6), 2) := by decide +kernel
theorem dX12_piece_65 : decode cX12_piece 65 = .ok (.ireturn, 1) := by decide +kernel
theorem dX12_could_0 : decode cX12_could 0 = .ok (.aload_n 0, 1) := by decide +kernel
theorem dX12_could_1 : decode cX12_could 1 = .ok (.invokevirtual 241, 3) := by decide +kernel
theorem dX12_could_4 : decode cX12_could 4 = .ok (.aload_n 0, 1) := by decide +kernel
theorem dX12_could_5 : decode cX12_could 5 = .ok (.getfield 231, 3) := by decide +kernel
theorem dX12_could_8 : decode cX12_could 8 = .ok (.ifCond .ne 7, 3) := by decide +kernel
theorem dX12_could_11 : decode cX12_could 11 = .ok (.iconst 0, 1) := by decide +kernel
theorem dX12_could_12 : decode cX12_could 12 = .ok (.goto 14, 3) := by decide +kernel
theorem dX12_could_15 : decode cX12_could 15 = .ok (.aload_n 0, 1) := by decide +kernel
theorem dX12_could_16 : decode cX12_could 16 = .ok (.getfield 56, 3) := by decide +kernel
theorem dX12_could_19 : decode cX12_could 19 = .ok (.aload_n 0, 1) := by decide +kernel
theorem dX12_could_20 : decode cX12_could 20 = .ok (.getfield 231, 3) := by decide +kernel
theorem dX12_could_23 : decode cX12_could 23 = .ok (.iconst 1, 1) := by decide +kernel
theorem dX12_could_24 : decode cX12_could 24 = .ok (.isub, 1) := by decide +kernel
theorem dX12_could_25 : decode cX12_could 25 = .ok (.iaload, 1) := by decide +kernel
theorem dX12_could_26 : decode cX12_could 26 = .ok (.istore_n 1, 1) := by decide +kernel
theorem dX12_could_27 : decode cX12_could 27 = .ok (.aload_n 0, 1) := by decide +kernel
theorem dX12_could_28 : decode cX12_could 28 = .ok (.getfield 218, 3) := by decide +kernel
theorem dX12_could_31 : decode cX12_could 31 = .ok (.iload_n 1, 1) := by decide +kernel
theorem dX12_could_32 : decode cX12_could 32 = .ok (.isub, 1) := by decide +kernel
theorem dX12_could_33 : decode cX12_could 33 = .ok (.istore_n 2, 1) := by decide +kernel
theorem dX12_could_34 : decode cX12_could 34 = .ok (.iconst 0, 1) := by decide +kernel
theorem dX12_could_35 : decode cX12_could 35 = .ok (.istore_n 3, 1) := by decide +kernel
theorem dX12_could_36 : decode cX12_could 36 = .ok (.iconst 0, 1) := by decide +kernel
theorem dX12_could_37 : decode cX12_could 37 = .ok (.istore 4, 2) := by decide +kernel
theorem dX12_could_39 : decode cX12_could 39 = .ok (.iload 4, 2) := by decide +kernel
theorem dX12_could_41 : decode cX12_could 41 = .ok (.aload_n 0, 1) := by decide +kernel
theorem dX12_could_42 : decode cX12_could 42 = .ok (.getfield 35, 3) := by decide +kernel
theorem dX12_could_45 : decode cX12_could 45 = .ok (.aload_n 0, 1) := by decide +kernel
theorem dX12_could_46 : decode cX12_could 46 = .ok (.getfield 215, 3) := by decide +kernel
theorem dX12_could_49 : decode cX12_could 49 = .ok (.iaload, 1) := by decide +kernel
theorem dX12_could_50 : decode cX12_could 50 = .ok (.if_icmp .ge 115, 3) := by decide +kernel
theorem dX12_could_53 : decode cX12_could 53 = .ok (.bipush 24, 2) := by decide +kernel
theorem dX12_could_55 : decode cX12_could 55 = .ok (.aload_n 0, 1) := by decide +kernel
theorem dX12_could_56 : decode cX12_could 56 = .ok (.getfield 215, 3) := by decide +kernel
theorem dX12_could_59 : decode cX12_could 59 = .ok (.imul, 1) := by decide +kernel
theorem dX12_could_60 : decode cX12_could 60 = .ok (.iload 4, 2) := by decide +kernel
theorem dX12_could_62 : decode cX12_could 62 = .ok (.iadd, 1) := by decide +kernel
theorem dX12_could_63 : decode cX12_could 63 = .ok (.istore 5, 2) := by decide +kernel
theorem dX12_could_65 : decode cX12_could 65 = .ok (.aload_n 0, 1) := by decide +kernel
theorem dX12_could_66 : decode cX12_could 66 = .ok (.getfield 26, 3) := by decide +kernel
theorem dX12_could_69 : decode cX12_could 69 = .ok (.iload 5, 2) := by decide +kernel
theorem dX12_could_71 : decode cX12_could 71 = .ok (.iaload, 1) := by decide +kernel
theorem dX12_could_72 : decode cX12_could 72 = .ok (.iload_n 2, 1) := by decide +kernel
theorem dX12_could_73 : decode cX12_could 73 = .ok (.if_icmp .le 7, 3) := by decide +kernel
theorem dX12_could_76 : decode cX12_could 76 = .ok (.iconst 1, 1) := by decide +kernel
theorem dX12_could_77 : decode cX12_could 77 = .ok (.goto 4, 3) := by decide +kernel
theorem dX12_could_80 : decode cX12_could 80 = .ok (.iconst 0, 1) := by decide +kernel
theorem dX12_could_81 : decode cX12_could 81 = .ok (.istore 6, 2) := by decide +kernel
theorem dX12_could_83 : decode cX12_could 83 = .ok (.iconst 0, 1) := by decide +kernel
theorem dX12_could_84 : decode cX12_could 84 = .ok (.istore 7, 2) := by decide +kernel
theorem dX12_could_86 : decode cX12_could 86 = .ok (.iload 7, 2) := by decide +kernel
theorem dX12_could_88 : decode cX12_could 88 = .ok (.iload_n 2, 1) := by decide +kernel
theorem dX12_could_89 : decode cX12_could 89 = .ok (.if_icmp .ge 45, 3) := by decide +kernel
theorem dX12_could_92 : decode cX12_could 92 = .ok (.iload 6, 2) := by decide +kernel
theorem dX12_could_94 : decode cX12_could 94 = .ok (.ifCond .eq 40, 3) := by decide +kernel
theorem dX12_could_97 : decode cX12_could 97 = .ok (.aload_n 0, 1) := by decide +kernel
theorem dX12_could_98 : decode cX12_could 98 = .ok (.getfield 23, 3) := by decide +kernel
theorem dX12_could_101 : decode cX12_could 101 = .ok (.iconst 4, 1) := by decide +kernel
theorem dX12_could_102 : decode cX12_could 102 = .ok (.iload 5, 2) := by decide +kernel
theorem dX12_could_104 : decode cX12_could 104 = .ok (.imul, 1) := by decide +kernel
theorem dX12_could_105 : decode cX12_could 105 = .ok (.iload 7, 2) := by decide +kernel
theorem dX12_could_107 : decode cX12_could 107 = .ok (.iadd, 1) := by decide +kernel
theorem dX12_could_108 : decode cX12_could 108 = .ok (.iaload, 1) := by decide +kernel
theorem dX12_could_109 : decode cX12_could 109 = .ok (.aload_n 0, 1) := by decide +kernel
theorem dX12_could_110 : decode cX12_could 110 = .ok (.getfield 50, 3) := by decide +kernel
theorem dX12_could_113 : decode cX12_could 113 = .ok (.iload_n 1, 1) := by decide +kernel
theorem dX12_could_114 : decode cX12_could 114 = .ok (.iload 7, 2) := by decide +kernel
theorem dX12_could_116 : decode cX12_could 116 = .ok (.iadd, 1) := by decide +kernel
theorem dX12_could_117 : decode cX12_could 117 = .ok (.iaload, 1) := by decide +kernel
theorem dX12_could_118 : decode cX12_could 118 = .ok (.if_icmp .ne 7, 3) := by decide +kernel
theorem dX12_could_121 : decode cX12_could 121 = .ok (.iconst 1, 1) := by decide +kernel
theorem dX12_could_122 : decode cX12_could 122 = .ok (.goto 4, 3) := by decide +kernel
theorem dX12_could_125 : decode cX12_could 125 = .ok (.iconst 0, 1) := by decide +kernel
theorem dX12_could_126 : decode cX12_could 126 = .ok (.istore 6, 2) := by decide +kernel
theorem dX12_could_128 : decode cX12_could 128 = .ok (.iinc 7 1, 3) := by decide +kernel
theorem dX12_could_131 : decode cX12_could 131 = .ok (.goto (-45), 3) := by decide +kernel
theorem dX12_could_134 : decode cX12_could 134 = .ok (.iload_n 3, 1) := by decide +kernel
theorem dX12_could_135 : decode cX12_could 135 = .ok (.iload 6, 2) := by decide +kernel
theorem dX12_could_137 : decode cX12_could 137 = .ok (.ifCond .eq 19, 3) := by decide +kernel
theorem dX12_could_140 : decode cX12_could 140 = .ok (.iconst 1, 1) := by decide +kernel
theorem dX12_could_141 : decode cX12_could 141 = .ok (.aload_n 0, 1) := by decide +kernel
theorem dX12_could_142 : decode cX12_could 142 = .ok (.getfield 23, 3) := by decide +kernel
theorem dX12_could_145 : decode cX12_could 145 = .ok (.iconst 4, 1) := by decide +kernel
theorem dX12_could_146 : decode cX12_could 146 = .ok (.iload 5, 2) := by decide +kernel
theorem dX12_could_148 : decode cX12_could 148 = .ok (.imul, 1) := by decide +kernel
theorem dX12_could_149 : decode cX12_could 149 = .ok (.iload_n 2, 1) := by decide +kernel
theorem dX12_could_150 : decode cX12_could 150 = .ok (.iadd, 1) := by decide +kernel
theorem dX12_could_151 : decode cX12_could 151 = .ok (.iaload, 1) := by decide +kernel
theorem dX12_could_152 : decode cX12_could 152 = .ok (.ishl, 1) := by decide +kernel
theorem dX12_could_153 : decode cX12_could 153 = .ok (.goto 4, 3) := by decide +kernel
theorem dX12_could_156 : decode cX12_could 156 = .ok (.iconst 0, 1) := by decide +kernel
theorem dX12_could_157 : decode cX12_could 157 = .ok (.ior, 1) := by decide +kernel
theorem dX12_could_158 : decode cX12_could 158 = .ok (.istore_n 3, 1) := by decide +kernel
theorem dX12_could_159 : decode cX12_could 159 = .ok (.iinc 4 1, 3) := by decide +kernel
theorem dX12_could_162 : decode cX12_could 162 = .ok (.goto (-123), 3) := by decide +kernel
theorem dX12_could_165 : decode cX12_could 165 = .ok (.iload_n 3, 1) := by decide +kernel
theorem dX12_could_166 : decode cX12_could 166 = .ok (.ireturn, 1) := by decide +kernel
theorem dX12_isWord_0 : decode cX12_isWord 0 = .ok (.iload_n 1, 1) := by decide +kernel
theorem dX12_isWord_1 : decode cX12_isWord 1 = .ok (.i2l, 1) := by decide +kernel
theorem dX12_isWord_2 : decode cX12_isWord 2 = .ok (.lconst 0, 1) := by decide +kernel
theorem dX12_isWord_3 : decode cX12_isWord 3 = .ok (.aload_n 0, 1) := by decide +kernel
theorem dX12_isWord_4 : decode cX12_isWord 4 = .ok (.getfield 244, 3) := by decide +kernel
theorem dX12_isWord_7 : decode cX12_isWord 7 = .ok (.iconst 1, 1) := by decide +kernel
theorem dX12_isWord_8 : decode cX12_isWord 8 = .ok (.isub, 1) := by decide +kernel
theorem dX12_isWord_9 : decode cX12_isWord 9 = .ok (.i2l, 1) := by decide +kernel
theorem dX12_isWord_10 : decode cX12_isWord 10 = .ok (.invokestatic 178, 3) := by decide +kernel
theorem dX12_isWord_13 : decode cX12_isWord 13 = .ok (.ireturn, 1) := by decide +kernel
theorem dX12_word_0 : decode cX12_word 0 = .ok (.iload_n 1, 1) := by decide +kernel
theorem dX12_word_1 : decode cX12_word 1 = .ok (.invokestatic 195, 3) := by decide +kernel
theorem dX12_word_4 : decode cX12_word 4 = .ok (.ifCond .ne 5, 3) := by decide +kernel
theorem dX12_word_7 : decode cX12_word 7 = .ok (.iconst (-1), 1) := by decide +kernel
theorem dX12_word_8 : decode cX12_word 8 = .ok (.ireturn, 1) := by decide +kernel
theorem dX12_word_9 : decode cX12_word 9 = .ok (.iload_n 2, 1) := by decide +kernel
theorem dX12_word_10 : decode cX12_word 10 = .ok (.i2l, 1) := by decide +kernel
theorem dX12_word_11 : decode cX12_word 11 = .ok (.lconst 1, 1) := by decide +kernel
theorem dX12_word_12 : decode cX12_word 12 = .ok (.ldc2_w 247, 3) := by decide +kernel
theorem dX12_word_15 : decode cX12_word 15 = .ok (.invokestatic 178, 3) := by decide +kernel
theorem dX12_word_18 : decode cX12_word 18 = .ok (.ifCond .eq 15, 3) := by decide +kernel
theorem dX12_word_21 : decode cX12_word 21 = .ok (.iload_n 3, 1) := by decide +kernel
theorem dX12_word_22 : decode cX12_word 22 = .ok (.i2l, 1) := by decide +kernel
theorem dX12_word_23 : decode cX12_word 23 = .ok (.lconst 1, 1) := by decide +kernel
theorem dX12_word_24 : decode cX12_word 24 = .ok (.ldc2_w 249, 3) := by decide +kernel
theorem dX12_word_27 : decode cX12_word 27 = .ok (.invokestatic 178, 3) := by decide +kernel
theorem dX12_word_30 : decode cX12_word 30 = .ok (.ifCond .ne 6, 3) := by decide +kernel
theorem dX12_word_33 : decode cX12_word 33 = .ok (.bipush (-2), 2) := by decide +kernel
theorem dX12_word_35 : decode cX12_word 35 = .ok (.ireturn, 1) := by decide +kernel
theorem dX12_word_36 : decode cX12_word 36 = .ok (.aload_n 0, 1) := by decide +kernel
theorem dX12_word_37 : decode cX12_word 37 = .ok (.getfield 244, 3) := by decide +kernel
theorem dX12_word_40 : decode cX12_word 40 = .ok (.bipush 60, 2) := by decide +kernel
theorem dX12_word_42 : decode cX12_word 42 = .ok (.if_icmp .ne 6, 3) := by decide +kernel
theorem dX12_word_45 : decode cX12_word 45 = .ok (.bipush (-4), 2) := by decide +kernel
theorem dX12_word_47 : decode cX12_word 47 = .ok (.ireturn, 1) := by decide +kernel
theorem dX12_word_48 : decode cX12_word 48 = .ok (.aload_n 0, 1) := by decide +kernel
theorem dX12_word_49 : decode cX12_word 49 = .ok (.getfield 182, 3) := by decide +kernel
theorem dX12_word_52 : decode cX12_word 52 = .ok (.ifCond .eq 12, 3) := by decide +kernel
theorem dX12_word_55 : decode cX12_word 55 = .ok (.aload_n 0, 1) := by decide +kernel
theorem dX12_word_56 : decode cX12_word 56 = .ok (.getfield 182, 3) := by decide +kernel
theorem dX12_word_59 : decode cX12_word 59 = .ok (.bipush 8, 2) := by decide +kernel
theorem dX12_word_61 : decode cX12_word 61 = .ok (.if_icmp .le 6, 3) := by decide +kernel
theorem dX12_word_64 : decode cX12_word 64 = .ok (.bipush (-5), 2) := by decide +kernel
theorem dX12_word_66 : decode cX12_word 66 = .ok (.ireturn, 1) := by decide +kernel
theorem dX12_word_67 : decode cX12_word 67 = .ok (.aload_n 0, 1) := by decide +kernel
theorem dX12_word_68 : decode cX12_word 68 = .ok (.getfield 62, 3) := by decide +kernel
theorem dX12_word_71 : decode cX12_word 71 = .ok (.aload_n 0, 1) := by decide +kernel
theorem dX12_word_72 : decode cX12_word 72 = .ok (.getfield 244, 3) := by decide +kernel
theorem dX12_word_75 : decode cX12_word 75 = .ok (.iload_n 1, 1) := by decide +kernel
theorem dX12_word_76 : decode cX12_word 76 = .ok (.iastore, 1) := by decide +kernel
theorem dX12_word_77 : decode cX12_word 77 = .ok (.aload_n 0, 1) := by decide +kernel
theorem dX12_word_78 : decode cX12_word 78 = .ok (.getfield 65, 3) := by decide +kernel
theorem dX12_word_81 : decode cX12_word 81 = .ok (.aload_n 0, 1) := by decide +kernel
theorem dX12_word_82 : decode cX12_word 82 = .ok (.getfield 244, 3) := by decide +kernel
theorem dX12_word_85 : decode cX12_word 85 = .ok (.iload_n 2, 1) := by decide +kernel
theorem dX12_word_86 : decode cX12_word 86 = .ok (.iastore, 1) := by decide +kernel
theorem dX12_word_87 : decode cX12_word 87 = .ok (.aload_n 0, 1) := by decide +kernel
theorem dX12_word_88 : decode cX12_word 88 = .ok (.getfield 68, 3) := by decide +kernel
theorem dX12_word_91 : decode cX12_word 91 = .ok (.aload_n 0, 1) := by decide +kernel
theorem dX12_word_92 : decode cX12_word 92 = .ok (.getfield 244, 3) := by decide +kernel
theorem dX12_word_95 : decode cX12_word 95 = .ok (.iload_n 3, 1) := by decide +kernel
theorem dX12_word_96 : decode cX12_word 96 = .ok (.iastore, 1) := by decide +kernel
theorem dX12_word_97 : decode cX12_word 97 = .ok (.aload_n 0, 1) := by decide +kernel
theorem dX12_word_98 : decode cX12_word 98 = .ok (.getfield 71, 3) := by decide +kernel
theorem dX12_word_101 : decode cX12_word 101 = .ok (.aload_n 0, 1) := by decide +kernel
theorem dX12_word_102 : decode cX12_word 102 = .ok (.getfield 244, 3) := by decide +kernel
theorem dX12_word_105 : decode cX12_word 105 = .ok (.aload_n 0, 1) := by decide +kernel
theorem dX12_word_106 : decode cX12_word 106 = .ok (.getfield 182, 3) := by decide +kernel
theorem dX12_word_109 : decode cX12_word 109 = .ok (.iastore, 1) := by decide +kernel
theorem dX12_word_110 : decode cX12_word 110 = .ok (.iconst 0, 1) := by decide +kernel
theorem dX12_word_111 : decode cX12_word 111 = .ok (.istore 4, 2) := by decide +kernel
theorem dX12_word_113 : decode cX12_word 113 = .ok (.iload 4, 2) := by decide +kernel
theorem dX12_word_115 : decode cX12_word 115 = .ok (.aload_n 0, 1) := by decide +kernel
theorem dX12_word_116 : decode cX12_word 116 = .ok (.getfield 182, 3) := by decide +kernel
theorem dX12_word_119 : decode cX12_word 119 = .ok (.if_icmp .ge 31, 3) := by decide +kernel
theorem dX12_word_122 : decode cX12_word 122 = .ok (.aload_n 0, 1) := by decide +kernel
theorem dX12_word_123 : decode cX12_word 123 = .ok (.getfield 74, 3) := by decide +kernel
theorem dX12_word_126 : decode cX12_word 126 = .ok (.bipush 8, 2) := by decide +kernel
theorem dX12_word_128 : decode cX12_word 128 = .ok (.aload_n 0, 1) := by decide +kernel
theorem dX12_word_129 : decode cX12_word 129 = .ok (.getfield 244, 3) := by decide +kernel
theorem dX12_word_132 : decode cX12_word 132 = .ok (.imul, 1) := by decide +kernel
theorem dX12_word_133 : decode cX12_word 133 = .ok (.iload 4, 2) := by decide +kernel
theorem dX12_word_135 : decode cX12_word 135 = .ok (.iadd, 1) := by decide +kernel
theorem dX12_word_136 : decode cX12_word 136 = .ok (.aload_n 0, 1) := by decide +kernel
theorem dX12_word_137 : decode cX12_word 137 = .ok (.getfield 7, 3) := by decide +kernel
theorem dX12_word_140 : decode cX12_word 140 = .ok (.iload 4, 2) := by decide +kernel
theorem dX12_word_142 : decode cX12_word 142 = .ok (.iaload, 1) := by decide +kernel
theorem dX12_word_143 : decode cX12_word 143 = .ok (.iastore, 1) := by decide +kernel
theorem dX12_word_144 : decode cX12_word 144 = .ok (.iinc 4 1, 3) := by decide +kernel
theorem dX12_word_147 : decode cX12_word 147 = .ok (.goto (-34), 3) := by decide +kernel
theorem dX12_word_150 : decode cX12_word 150 = .ok (.aload_n 0, 1) := by decide +kernel
theorem dX12_word_151 : decode cX12_word 151 = .ok (.iconst 0, 1) := by decide +kernel
theorem dX12_word_152 : decode cX12_word 152 = .ok (.putfield 182, 3) := by decide +kernel
theorem dX12_word_155 : decode cX12_word 155 = .ok (.aload_n 0, 1) := by decide +kernel
theorem dX12_word_156 : decode cX12_word 156 = .ok (.dup, 1) := by decide +kernel
theorem dX12_word_157 : decode cX12_word 157 = .ok (.getfield 244, 3) := by decide +kernel
theorem dX12_word_160 : decode cX12_word 160 = .ok (.iconst 1, 1) := by decide +kernel
theorem dX12_word_161 : decode cX12_word 161 = .ok (.iadd, 1) := by decide +kernel
theorem dX12_word_162 : decode cX12_word 162 = .ok (.putfield 244, 3) := by decide +kernel
theorem dX12_word_165 : decode cX12_word 165 = .ok (.aload_n 0, 1) := by decide +kernel
theorem dX12_word_166 : decode cX12_word 166 = .ok (.getfield 244, 3) := by decide +kernel
theorem dX12_word_169 : decode cX12_word 169 = .ok (.iconst 1, 1) := by decide +kernel
theorem dX12_word_170 : decode cX12_word 170 = .ok (.isub, 1) := by decide +kernel
theorem dX12_word_171 : decode cX12_word 171 = .ok (.ireturn, 1) := by decide +kernel
theorem dX12_ofWord_0 : decode cX12_ofWord 0 = .ok (.aload_n 0, 1) := by decide +kernel
theorem dX12_ofWord_1 : decode cX12_ofWord 1 = .ok (.iload_n 1, 1) := by decide +kernel
theorem dX12_ofWord_2 : decode cX12_ofWord 2 = .ok (.invokevirtual 251, 3) := by decide +kernel
theorem dX12_ofWord_5 : decode cX12_ofWord 5 = .ok (.ifCond .ne 5, 3) := by decide +kernel
theorem dX12_ofWord_8 : decode cX12_ofWord 8 = .ok (.iconst (-1), 1) := by decide +kernel
theorem dX12_ofWord_9 : decode cX12_ofWord 9 = .ok (.ireturn, 1) := by decide +kernel
theorem dX12_ofWord_10 : decode cX12_ofWord 10 = .ok (.iload_n 2, 1) := by decide +kernel
theorem dX12_ofWord_11 : decode cX12_ofWord 11 = .ok (.tableswitch 57 0 3 #[29, 36, 43, 50], 29) := by decide +kernel
theorem dX12_ofWord_40 : decode cX12_ofWord 40 = .ok (.aload_n 0, 1) := by decide +kernel
theorem dX12_ofWord_41 : decode cX12_ofWord 41 = .ok (.getfield 62, 3) := by decide +kernel
theorem dX12_ofWord_44 : decode cX12_ofWord 44 = .ok (.iload_n 1, 1) := by decide +kernel
theorem dX12_ofWord_45 : decode cX12_ofWord 45 = .ok (.iaload, 1) := by decide +kernel
theorem dX12_ofWord_46 : decode cX12_ofWord 46 = .ok (.ireturn, 1) := by decide +kernel
theorem dX12_ofWord_47 : decode cX12_ofWord 47 = .ok (.aload_n 0, 1) := by decide +kernel
theorem dX12_ofWord_48 : decode cX12_ofWord 48 = .ok (.getfield 65, 3) := by decide +kernel
theorem dX12_ofWord_51 : decode cX12_ofWord 51 = .ok (.iload_n 1, 1) := by decide +kernel
theorem dX12_ofWord_52 : decode cX12_ofWord 52 = .ok (.iaload, 1) := by decide +kernel
theorem dX12_ofWord_53 : decode cX12_ofWord 53 = .ok (.ireturn, 1) := by decide +kernel
theorem dX12_ofWord_54 : decode cX12_ofWord 54 = .ok (.aload_n 0, 1) := by decide +kernel
theorem dX12_ofWord_55 : decode cX12_ofWord 55 = .ok (.getfield 68, 3) := by decide +kernel
theorem dX12_ofWord_58 : decode cX12_ofWord 58 = .ok (.iload_n 1, 1) := by decide +kernel
theorem dX12_ofWord_59 : decode cX12_ofWord 59 = .ok (.iaload, 1) := by decide +kernel
theorem dX12_ofWord_60 : decode cX12_ofWord 60 = .ok (.ireturn, 1) := by decide +kernel
theorem dX12_ofWord_61 : decode cX12_ofWord 61 = .ok (.aload_n 0, 1) := by decide +kernel
theorem dX12_ofWord_62 : decode cX12_ofWord 62 = .ok (.getfield 71, 3) := by decide +kernel
theorem dX12_ofWord_65 : decode cX12_ofWord 65 = .ok (.iload_n 1, 1) := by decide +kernel
theorem dX12_ofWord_66 : decode cX12_ofWord 66 = .ok (.iaload, 1) := by decide +kernel
theorem dX12_ofWord_67 : decode cX12_ofWord 67 = .ok (.ireturn, 1) := by decide +kernel
theorem dX12_ofWord_68 : decode cX12_ofWord 68 = .ok (.iload_n 2, 1) := by decide +kernel
theorem dX12_ofWord_69 : decode cX12_ofWord 69 = .ok (.bipush 10, 2) := by decide +kernel
theorem dX12_ofWord_71 : decode cX12_ofWord 71 = .ok (.if_icmp .ge 8, 3) := by decide +kernel
theorem dX12_ofWord_74 : decode cX12_ofWord 74 = .ok (.bipush (-2), 2) := by decide +kernel
theorem dX12_ofWord_76 : decode cX12_ofWord 76 = .ok (.goto 35, 3) := by decide +kernel
theorem dX12_ofWord_79 : decode cX12_ofWord 79 = .ok (.iload_n 2, 1) := by decide +kernel
theorem dX12_ofWord_80 : decode cX12_ofWord 80 = .ok (.bipush 10, 2) := by decide +kernel
theorem dX12_ofWord_82 : decode cX12_ofWord 82 = .ok (.isub, 1) := by decide +kernel
theorem dX12_ofWord_83 : decode cX12_ofWord 83 = .ok (.aload_n 0, 1) := by decide +kernel
theorem dX12_ofWord_84 : decode cX12_ofWord 84 = .ok (.getfield 71, 3) := by decide +kernel
theorem dX12_ofWord_87 : decode cX12_ofWord 87 = .ok (.iload_n 1, 1) := by decide +kernel
theorem dX12_ofWord_88 : decode cX12_ofWord 88 = .ok (.iaload, 1) := by decide +kernel
theorem dX12_ofWord_89 : decode cX12_ofWord 89 = .ok (.if_icmp .ge 20, 3) := by decide +kernel
theorem dX12_ofWord_92 : decode cX12_ofWord 92 = .ok (.aload_n 0, 1) := by decide +kernel
theorem dX12_ofWord_93 : decode cX12_ofWord 93 = .ok (.getfield 74, 3) := by decide +kernel
theorem dX12_ofWord_96 : decode cX12_ofWord 96 = .ok (.bipush 8, 2) := by decide +kernel
theorem dX12_ofWord_98 : decode cX12_ofWord 98 = .ok (.iload_n 1, 1) := by decide +kernel
theorem dX12_ofWord_99 : decode cX12_ofWord 99 = .ok (.imul, 1) := by decide +kernel
theorem dX12_ofWord_100 : decode cX12_ofWord 100 = .ok (.iload_n 2, 1) := by decide +kernel
theorem dX12_ofWord_101 : decode cX12_ofWord 101 = .ok (.iadd, 1) := by decide +kernel
theorem dX12_ofWord_102 : decode cX12_ofWord 102 = .ok (.bipush 10, 2) := by decide +kernel
theorem dX12_ofWord_104 : decode cX12_ofWord 104 = .ok (.isub, 1) := by decide +kernel
theorem dX12_ofWord_105 : decode cX12_ofWord 105 = .ok (.iaload, 1) := by decide +kernel
theorem dX12_ofWord_106 : decode cX12_ofWord 106 = .ok (.goto 5, 3) := by decide +kernel
theorem dX12_ofWord_109 : decode cX12_ofWord 109 = .ok (.bipush (-6), 2) := by decide +kernel
theorem dX12_ofWord_111 : decode cX12_ofWord 111 = .ok (.ireturn, 1) := by decide +kernel
theorem dX12_count_0 : decode cX12_count 0 = .ok (.aload_n 0, 1) := by decide +kernel
theorem dX12_count_1 : decode cX12_count 1 = .ok (.iload_n 1, 1) := by decide +kernel
theorem dX12_count_2 : decode cX12_count 2 = .ok (.invokevirtual 251, 3) := by decide +kernel
theorem dX12_count_5 : decode cX12_count 5 = .ok (.ifCond .ne 5, 3) := by decide +kernel
theorem dX12_count_8 : decode cX12_count 8 = .ok (.iconst (-1), 1) := by decide +kernel
theorem dX12_count_9 : decode cX12_count 9 = .ok (.ireturn, 1) := by decide +kernel
theorem dX12_count_10 : decode cX12_count 10 = .ok (.iload_n 2, 1) := by decide +kernel
theorem dX12_count_11 : decode cX12_count 11 = .ok (.i2l, 1) := by decide +kernel
theorem dX12_count_12 : decode cX12_count 12 = .ok (.lconst 1, 1) := by decide +kernel
theorem dX12_count_13 : decode cX12_count 13 = .ok (.ldc2_w 249, 3) := by decide +kernel
theorem dX12_count_16 : decode cX12_count 16 = .ok (.invokestatic 178, 3) := by decide +kernel
theorem dX12_count_19 : decode cX12_count 19 = .ok (.ifCond .ne 6, 3) := by decide +kernel
theorem dX12_count_22 : decode cX12_count 22 = .ok (.bipush (-2), 2) := by decide +kernel
theorem dX12_count_24 : decode cX12_count 24 = .ok (.ireturn, 1) := by decide +kernel
theorem dX12_count_25 : decode cX12_count 25 = .ok (.aload_n 0, 1) := by decide +kernel
theorem dX12_count_26 : decode cX12_count 26 = .ok (.getfield 68, 3) := by decide +kernel
theorem dX12_count_29 : decode cX12_count 29 = .ok (.iload_n 1, 1) := by decide +kernel
theorem dX12_count_30 : decode cX12_count 30 = .ok (.iaload, 1) := by decide +kernel
theorem dX12_count_31 : decode cX12_count 31 = .ok (.istore_n 3, 1) := by decide +kernel
theorem dX12_count_32 : decode cX12_count 32 = .ok (.aload_n 0, 1) := by decide +kernel
theorem dX12_count_33 : decode cX12_count 33 = .ok (.getfield 68, 3) := by decide +kernel
theorem dX12_count_36 : decode cX12_count 36 = .ok (.iload_n 1, 1) := by decide +kernel
theorem dX12_count_37 : decode cX12_count 37 = .ok (.iload_n 2, 1) := by decide +kernel
theorem dX12_count_38 : decode cX12_count 38 = .ok (.iastore, 1) := by decide +kernel
theorem dX12_count_39 : decode cX12_count 39 = .ok (.iload_n 3, 1) := by decide +kernel
theorem dX12_count_40 : decode cX12_count 40 = .ok (.ireturn, 1) := by decide +kernel
theorem dX12_price_0 : decode cX12_price 0 = .ok (.iload_n 1, 1) := by decide +kernel
theorem dX12_price_1 : decode cX12_price 1 = .ok (.i2l, 1) := by decide +kernel
theorem dX12_price_2 : decode cX12_price 2 = .ok (.lconst 0, 1) := by decide +kernel
theorem dX12_price_3 : decode cX12_price 3 = .ok (.ldc2_w 254, 3) := by decide +kernel
theorem dX12_price_6 : decode cX12_price 6 = .ok (.invokestatic 178, 3) := by decide +kernel
theorem dX12_price_9 : decode cX12_price 9 = .ok (.ifCond .eq 24, 3) := by decide +kernel
theorem dX12_price_12 : decode cX12_price 12 = .ok (.iload_n 2, 1) := by decide +kernel
theorem dX12_price_13 : decode cX12_price 13 = .ok (.i2l, 1) := by decide +kernel
theorem dX12_price_14 : decode cX12_price 14 = .ok (.iload_n 1, 1) := by decide +kernel
theorem dX12_price_15 : decode cX12_price 15 = .ok (.iconst 5, 1) := by decide +kernel
theorem dX12_price_16 : decode cX12_price 16 = .ok (.if_icmp .ne 7, 3) := by decide +kernel
theorem dX12_price_19 : decode cX12_price 19 = .ok (.lconst 0, 1) := by decide +kernel
theorem dX12_price_20 : decode cX12_price 20 = .ok (.goto 4, 3) := by decide +kernel
theorem dX12_price_23 : decode cX12_price 23 = .ok (.lconst 1, 1) := by decide +kernel
theorem dX12_price_24 : decode cX12_price 24 = .ok (.ldc2_w 256, 3) := by decide +kernel
theorem dX12_price_27 : decode cX12_price 27 = .ok (.invokestatic 178, 3) := by decide +kernel
theorem dX12_price_30 : decode cX12_price 30 = .ok (.ifCond .ne 6, 3) := by decide +kernel
theorem dX12_price_33 : decode cX12_price 33 = .ok (.bipush (-2), 2) := by decide +kernel
theorem dX12_price_35 : decode cX12_price 35 = .ok (.ireturn, 1) := by decide +kernel
theorem dX12_price_36 : decode cX12_price 36 = .ok (.aload_n 0, 1) := by decide +kernel
theorem dX12_price_37 : decode cX12_price 37 = .ok (.getfield 77, 3) := by decide +kernel
theorem dX12_price_40 : decode cX12_price 40 = .ok (.iload_n 1, 1) := by decide +kernel
theorem dX12_price_41 : decode cX12_price 41 = .ok (.iaload, 1) := by decide +kernel
theorem dX12_price_42 : decode cX12_price 42 = .ok (.istore_n 3, 1) := by decide +kernel
theorem dX12_price_43 : decode cX12_price 43 = .ok (.aload_n 0, 1) := by decide +kernel
theorem dX12_price_44 : decode cX12_price 44 = .ok (.getfield 77, 3) := by decide +kernel
theorem dX12_price_47 : decode cX12_price 47 = .ok (.iload_n 1, 1) := by decide +kernel
theorem dX12_price_48 : decode cX12_price 48 = .ok (.iload_n 2, 1) := by decide +kernel
theorem dX12_price_49 : decode cX12_price 49 = .ok (.iastore, 1) := by decide +kernel
theorem dX12_price_50 : decode cX12_price 50 = .ok (.iload_n 3, 1) := by decide +kernel
theorem dX12_price_51 : decode cX12_price 51 = .ok (.ireturn, 1) := by decide +kernel
theorem dX12_areBeside_0 : decode cX12_areBeside 0 = .ok (.iload_n 0, 1) := by decide +kernel
theorem dX12_areBeside_1 : decode cX12_areBeside 1 = .ok (.iload_n 1, 1) := by decide +kernel
theorem dX12_areBeside_2 : decode cX12_areBeside 2 = .ok (.if_icmp .eq 35, 3) := by decide +kernel
theorem dX12_areBeside_5 : decode cX12_areBeside 5 = .ok (.iload_n 0, 1) := by decide +kernel
theorem dX12_areBeside_6 : decode cX12_areBeside 6 = .ok (.iconst 4, 1) := by decide +kernel
theorem dX12_areBeside_7 : decode cX12_areBeside 7 = .ok (.idiv, 1) := by decide +kernel
theorem dX12_areBeside_8 : decode cX12_areBeside 8 = .ok (.iload_n 1, 1) := by decide +kernel
theorem dX12_areBeside_9 : decode cX12_areBeside 9 = .ok (.iconst 4, 1) := by decide +kernel
theorem dX12_areBeside_10 : decode cX12_areBeside 10 = .ok (.idiv, 1) := by decide +kernel
theorem dX12_areBeside_11 : decode cX12_areBeside 11 = .ok (.isub, 1) := by decide +kernel
theorem dX12_areBeside_12 : decode cX12_areBeside 12 = .ok (.invokestatic 258, 3) := by decide +kernel
theorem dX12_areBeside_15 : decode cX12_areBeside 15 = .ok (.iconst 2, 1) := by decide +kernel
theorem dX12_areBeside_16 : decode cX12_areBeside 16 = .ok (.if_icmp .ge 21, 3) := by decide +kernel
theorem dX12_areBeside_19 : decode cX12_areBeside 19 = .ok (.iload_n 0, 1) := by decide +kernel
theorem dX12_areBeside_20 : decode cX12_areBeside 20 = .ok (.iconst 4, 1) := by decide +kernel
theorem dX12_areBeside_21 : decode cX12_areBeside 21 = .ok (.irem, 1) := by decide +kernel
theorem dX12_areBeside_22 : decode cX12_areBeside 22 = .ok (.iload_n 1, 1) := by decide +kernel
theorem dX12_areBeside_23 : decode cX12_areBeside 23 = .ok (.iconst 4, 1) := by decide +kernel
theorem dX12_areBeside_24 : decode cX12_areBeside 24 = .ok (.irem, 1) := by decide +kernel
theorem dX12_areBeside_25 : decode cX12_areBeside 25 = .ok (.isub, 1) := by decide +kernel
theorem dX12_areBeside_26 : decode cX12_areBeside 26 = .ok (.invokestatic 258, 3) := by decide +kernel
theorem dX12_areBeside_29 : decode cX12_areBeside 29 = .ok (.iconst 2, 1) := by decide +kernel
theorem dX12_areBeside_30 : decode cX12_areBeside 30 = .ok (.if_icmp .ge 7, 3) := by decide +kernel
theorem dX12_areBeside_33 : decode cX12_areBeside 33 = .ok (.iconst 1, 1) := by decide +kernel
theorem dX12_areBeside_34 : decode cX12_areBeside 34 = .ok (.goto 4, 3) := by decide +kernel
theorem dX12_areBeside_37 : decode cX12_areBeside 37 = .ok (.iconst 0, 1) := by decide +kernel
theorem dX12_areBeside_38 : decode cX12_areBeside 38 = .ok (.ireturn, 1) := by decide +kernel
theorem dX12_lesser_0 : decode cX12_lesser 0 = .ok (.iload_n 0, 1) := by decide +kernel
theorem dX12_lesser_1 : decode cX12_lesser 1 = .ok (.iload_n 1, 1) := by decide +kernel
theorem dX12_lesser_2 : decode cX12_lesser 2 = .ok (.if_icmp .ge 7, 3) := by decide +kernel
theorem dX12_lesser_5 : decode cX12_lesser 5 = .ok (.iload_n 0, 1) := by decide +kernel
theorem dX12_lesser_6 : decode cX12_lesser 6 = .ok (.goto 4, 3) := by decide +kernel
theorem dX12_lesser_9 : decode cX12_lesser 9 = .ok (.iload_n 1, 1) := by decide +kernel
theorem dX12_lesser_10 : decode cX12_lesser 10 = .ok (.ireturn, 1) := by decide +kernel
theorem dX12_priceOf_0 : decode cX12_priceOf 0 = .ok (.iconst 0, 1) := by decide +kernel
theorem dX12_priceOf_1 : decode cX12_priceOf 1 = .ok (.istore 4, 2) := by decide +kernel
theorem dX12_priceOf_3 : decode cX12_priceOf 3 = .ok (.iload 4, 2) := by decide +kernel
theorem dX12_priceOf_5 : decode cX12_priceOf 5 = .ok (.iload_n 3, 1) := by decide +kernel
theorem dX12_priceOf_6 : decode cX12_priceOf 6 = .ok (.if_icmp .gt 64, 3) := by decide +kernel
theorem dX12_priceOf_9 : decode cX12_priceOf 9 = .ok (.iconst 0, 1) := by decide +kernel
theorem dX12_priceOf_10 : decode cX12_priceOf 10 = .ok (.istore 5, 2) := by decide +kernel
theorem dX12_priceOf_12 : decode cX12_priceOf 12 = .ok (.iload 5, 2) := by decide +kernel
theorem dX12_priceOf_14 : decode cX12_priceOf 14 = .ok (.aload_n 0, 1) := by decide +kernel
theorem dX12_priceOf_15 : decode cX12_priceOf 15 = .ok (.getfield 71, 3) := by decide +kernel
theorem dX12_priceOf_18 : decode cX12_priceOf 18 = .ok (.iload_n 1, 1) := by decide +kernel
theorem dX12_priceOf_19 : decode cX12_priceOf 19 = .ok (.iaload, 1) := by decide +kernel
theorem dX12_priceOf_20 : decode cX12_priceOf 20 = .ok (.if_icmp .gt 44, 3) := by decide +kernel
theorem dX12_priceOf_23 : decode cX12_priceOf 23 = .ok (.aload_n 0, 1) := by decide +kernel
theorem dX12_priceOf_24 : decode cX12_priceOf 24 = .ok (.getfield 80, 3) := by decide +kernel
theorem dX12_priceOf_27 : decode cX12_priceOf 27 = .ok (.bipush 9, 2) := by decide +kernel
theorem dX12_priceOf_29 : decode cX12_priceOf 29 = .ok (.iload 4, 2) := by decide +kernel
theorem dX12_priceOf_31 : decode cX12_priceOf 31 = .ok (.imul, 1) := by decide +kernel
theorem dX12_priceOf_32 : decode cX12_priceOf 32 = .ok (.iload 5, 2) := by decide +kernel
theorem dX12_priceOf_34 : decode cX12_priceOf 34 = .ok (.iadd, 1) := by decide +kernel
theorem dX12_priceOf_35 : decode cX12_priceOf 35 = .ok (.iload 4, 2) := by decide +kernel
theorem dX12_priceOf_37 : decode cX12_priceOf 37 = .ok (.iload 5, 2) := by decide +kernel
theorem dX12_priceOf_39 : decode cX12_priceOf 39 = .ok (.iadd, 1) := by decide +kernel
theorem dX12_priceOf_40 : decode cX12_priceOf 40 = .ok (.ifCond .ne 7, 3) := by decide +kernel
theorem dX12_priceOf_43 : decode cX12_priceOf 43 = .ok (.iconst 0, 1) := by decide +kernel
theorem dX12_priceOf_44 : decode cX12_priceOf 44 = .ok (.goto 13, 3) := by decide +kernel
theorem dX12_priceOf_47 : decode cX12_priceOf 47 = .ok (.aload_n 0, 1) := by decide +kernel
theorem dX12_priceOf_48 : decode cX12_priceOf 48 = .ok (.iload_n 1, 1) := by decide +kernel
theorem dX12_priceOf_49 : decode cX12_priceOf 49 = .ok (.iload_n 2, 1) := by decide +kernel
theorem dX12_priceOf_50 : decode cX12_priceOf 50 = .ok (.iload 4, 2) := by decide +kernel
theorem dX12_priceOf_52 : decode cX12_priceOf 52 = .ok (.iload 5, 2) := by decide +kernel
theorem dX12_priceOf_54 : decode cX12_priceOf 54 = .ok (.invokevirtual 261, 3) := by decide +kernel
theorem dX12_priceOf_57 : decode cX12_priceOf 57 = .ok (.iastore, 1) := by decide +kernel
theorem dX12_priceOf_58 : decode cX12_priceOf 58 = .ok (.iinc 5 1, 3) := by decide +kernel
theorem dX12_priceOf_61 : decode cX12_priceOf 61 = .ok (.goto (-49), 3) := by decide +kernel
theorem dX12_priceOf_64 : decode cX12_priceOf 64 = .ok (.iinc 4 1, 3) := by decide +kernel
theorem dX12_priceOf_67 : decode cX12_priceOf 67 = .ok (.goto (-64), 3) := by decide +kernel
theorem dX12_priceOf_70 : decode cX12_priceOf 70 = .ok (.aload_n 0, 1) := by decide +kernel
theorem dX12_priceOf_71 : decode cX12_priceOf 71 = .ok (.getfield 80, 3) := by decide +kernel
theorem dX12_priceOf_74 : decode cX12_priceOf 74 = .ok (.bipush 9, 2) := by decide +kernel
theorem dX12_priceOf_76 : decode cX12_priceOf 76 = .ok (.iload_n 3, 1) := by decide +kernel
theorem dX12_priceOf_77 : decode cX12_priceOf 77 = .ok (.imul, 1) := by decide +kernel
theorem dX12_priceOf_78 : decode cX12_priceOf 78 = .ok (.aload_n 0, 1) := by decide +kernel
theorem dX12_priceOf_79 : decode cX12_priceOf 79 = .ok (.getfield 71, 3) := by decide +kernel
theorem dX12_priceOf_82 : decode cX12_priceOf 82 = .ok (.iload_n 1, 1) := by decide +kernel
theorem dX12_priceOf_83 : decode cX12_priceOf 83 = .ok (.iaload, 1) := by decide +kernel
theorem dX12_priceOf_84 : decode cX12_priceOf 84 = .ok (.iadd, 1) := by decide +kernel
theorem dX12_priceOf_85 : decode cX12_priceOf 85 = .ok (.iaload, 1) := by decide +kernel
theorem dX12_priceOf_86 : decode cX12_priceOf 86 = .ok (.ireturn, 1) := by decide +kernel
theorem dX12_cheapest_0 : decode cX12_cheapest 0 = .ok (.ldc_w 265, 3) := by decide +kernel
theorem dX12_cheapest_3 : decode cX12_cheapest 3 = .ok (.istore 5, 2) := by decide +kernel
theorem dX12_cheapest_5 : decode cX12_cheapest 5 = .ok (.iload_n 3, 1) := by decide +kernel
theorem dX12_cheapest_6 : decode cX12_cheapest 6 = .ok (.ifCond .le 16, 3) := by decide +kernel
theorem dX12_cheapest_9 : decode cX12_cheapest 9 = .ok (.aload_n 0, 1) := by decide +kernel
theorem dX12_cheapest_10 : decode cX12_cheapest 10 = .ok (.getfield 7, 3) := by decide +kernel
theorem dX12_cheapest_13 : decode cX12_cheapest 13 = .ok (.iload_n 2, 1) := by decide +kernel
theorem dX12_cheapest_14 : decode cX12_cheapest 14 = .ok (.iload_n 3, 1) := by decide +kernel
theorem dX12_cheapest_15 : decode cX12_cheapest 15 = .ok (.iadd, 1) := by decide +kernel
theorem dX12_cheapest_16 : decode cX12_cheapest 16 = .ok (.iconst 1, 1) := by decide +kernel
theorem dX12_cheapest_17 : decode cX12_cheapest 17 = .ok (.isub, 1) := by decide +kernel
theorem dX12_cheapest_18 : decode cX12_cheapest 18 = .ok (.iaload, 1) := by decide +kernel
theorem dX12_cheapest_19 : decode cX12_cheapest 19 = .ok (.goto 4, 3) := by decide +kernel
theorem dX12_cheapest_22 : decode cX12_cheapest 22 = .ok (.iconst (-1), 1) := by decide +kernel
theorem dX12_cheapest_23 : decode cX12_cheapest 23 = .ok (.istore 6, 2) := by decide +kernel
theorem dX12_cheapest_25 : decode cX12_cheapest 25 = .ok (.iload 4, 2) := by decide +kernel
theorem dX12_cheapest_27 : decode cX12_cheapest 27 = .ok (.ifCond .le 20, 3) := by decide +kernel
theorem dX12_cheapest_30 : decode cX12_cheapest 30 = .ok (.aload_n 0, 1) := by decide +kernel
theorem dX12_cheapest_31 : decode cX12_cheapest 31 = .ok (.getfield 74, 3) := by decide +kernel
theorem dX12_cheapest_34 : decode cX12_cheapest 34 = .ok (.bipush 8, 2) := by decide +kernel
theorem dX12_cheapest_36 : decode cX12_cheapest 36 = .ok (.iload_n 1, 1) := by decide +kernel
theorem dX12_cheapest_37 : decode cX12_cheapest 37 = .ok (.imul, 1) := by decide +kernel
theorem dX12_cheapest_38 : decode cX12_cheapest 38 = .ok (.iload 4, 2) := by decide +kernel
theorem dX12_cheapest_40 : decode cX12_cheapest 40 = .ok (.iadd, 1) := by decide +kernel
theorem dX12_cheapest_41 : decode cX12_cheapest 41 = .ok (.iconst 1, 1) := by decide +kernel
theorem dX12_cheapest_42 : decode cX12_cheapest 42 = .ok (.isub, 1) := by decide +kernel
theorem dX12_cheapest_43 : decode cX12_cheapest 43 = .ok (.iaload, 1) := by decide +kernel
theorem dX12_cheapest_44 : decode cX12_cheapest 44 = .ok (.goto 4, 3) := by decide +kernel
theorem dX12_cheapest_47 : decode cX12_cheapest 47 = .ok (.iconst (-1), 1) := by decide +kernel
theorem dX12_cheapest_48 : decode cX12_cheapest 48 = .ok (.istore 7, 2) := by decide +kernel
theorem dX12_cheapest_50 : decode cX12_cheapest 50 = .ok (.iload_n 3, 1) := by decide +kernel
theorem dX12_cheapest_51 : decode cX12_cheapest 51 = .ok (.iconst 1, 1) := by decide +kernel
theorem dX12_cheapest_52 : decode cX12_cheapest 52 = .ok (.if_icmp .le 16, 3) := by decide +kernel
theorem dX12_cheapest_55 : decode cX12_cheapest 55 = .ok (.aload_n 0, 1) := by decide +kernel
theorem dX12_cheapest_56 : decode cX12_cheapest 56 = .ok (.getfield 7, 3) := by decide +kernel
theorem dX12_cheapest_59 : decode cX12_cheapest 59 = .ok (.iload_n 2, 1) := by decide +kernel
theorem dX12_cheapest_60 : decode cX12_cheapest 60 = .ok (.iload_n 3, 1) := by decide +kernel
theorem dX12_cheapest_61 : decode cX12_cheapest 61 = .ok (.iadd, 1) := by decide +kernel
theorem dX12_cheapest_62 : decode cX12_cheapest 62 = .ok (.iconst 2, 1) := by decide +kernel
theorem dX12_cheapest_63 : decode cX12_cheapest 63 = .ok (.isub, 1) := by decide +kernel
theorem dX12_cheapest_64 : decode cX12_cheapest 64 = .ok (.iaload, 1) := by decide +kernel
theorem dX12_cheapest_65 : decode cX12_cheapest 65 = .ok (.goto 4, 3) := by decide +kernel
theorem dX12_cheapest_68 : decode cX12_cheapest 68 = .ok (.iconst (-1), 1) := by decide +kernel
theorem dX12_cheapest_69 : decode cX12_cheapest 69 = .ok (.istore 8, 2) := by decide +kernel
theorem dX12_cheapest_71 : decode cX12_cheapest 71 = .ok (.iload_n 3, 1) := by decide +kernel
theorem dX12_cheapest_72 : decode cX12_cheapest 72 = .ok (.ifCond .le 47, 3) := by decide +kernel
theorem dX12_cheapest_75 : decode cX12_cheapest 75 = .ok (.iload 5, 2) := by decide +kernel
theorem dX12_cheapest_77 : decode cX12_cheapest 77 = .ok (.aload_n 0, 1) := by decide +kernel
theorem dX12_cheapest_78 : decode cX12_cheapest 78 = .ok (.getfield 80, 3) := by decide +kernel
theorem dX12_cheapest_81 : decode cX12_cheapest 81 = .ok (.bipush 9, 2) := by decide +kernel
theorem dX12_cheapest_83 : decode cX12_cheapest 83 = .ok (.iload_n 3, 1) := by decide +kernel
theorem dX12_cheapest_84 : decode cX12_cheapest 84 = .ok (.iconst 1, 1) := by decide +kernel
theorem dX12_cheapest_85 : decode cX12_cheapest 85 = .ok (.isub, 1) := by decide +kernel
theorem dX12_cheapest_86 : decode cX12_cheapest 86 = .ok (.imul, 1) := by decide +kernel
theorem dX12_cheapest_87 : decode cX12_cheapest 87 = .ok (.iload 4, 2) := by decide +kernel
theorem dX12_cheapest_89 : decode cX12_cheapest 89 = .ok (.iadd, 1) := by decide +kernel
theorem dX12_cheapest_90 : decode cX12_cheapest 90 = .ok (.iaload, 1) := by decide +kernel
theorem dX12_cheapest_91 : decode cX12_cheapest 91 = .ok (.iload 8, 2) := by decide +kernel
theorem dX12_cheapest_93 : decode cX12_cheapest 93 = .ok (.iload 6, 2) := by decide +kernel
theorem dX12_cheapest_95 : decode cX12_cheapest 95 = .ok (.if_icmp .ne 12, 3) := by decide +kernel
theorem dX12_cheapest_98 : decode cX12_cheapest 98 = .ok (.aload_n 0, 1) := by decide +kernel
theorem dX12_cheapest_99 : decode cX12_cheapest 99 = .ok (.getfield 77, 3) := by decide +kernel
theorem dX12_cheapest_102 : decode cX12_cheapest 102 = .ok (.iconst 1, 1) := by decide +kernel
theorem dX12_cheapest_103 : decode cX12_cheapest 103 = .ok (.iaload, 1) := by decide +kernel
theorem dX12_cheapest_104 : decode cX12_cheapest 104 = .ok (.goto 9, 3) := by decide +kernel
theorem dX12_cheapest_107 : decode cX12_cheapest 107 = .ok (.aload_n 0, 1) := by decide +kernel
theorem dX12_cheapest_108 : decode cX12_cheapest 108 = .ok (.getfield 77, 3) := by decide +kernel
theorem dX12_cheapest_111 : decode cX12_cheapest 111 = .ok (.iconst 4, 1) := by decide +kernel
theorem dX12_cheapest_112 : decode cX12_cheapest 112 = .ok (.iaload, 1) := by decide +kernel
theorem dX12_cheapest_113 : decode cX12_cheapest 113 = .ok (.iadd, 1) := by decide +kernel
theorem dX12_cheapest_114 : decode cX12_cheapest 114 = .ok (.invokestatic 266, 3) := by decide +kernel
theorem dX12_cheapest_117 : decode cX12_cheapest 117 = .ok (.istore 5, 2) := by decide +kernel
theorem dX12_cheapest_119 : decode cX12_cheapest 119 = .ok (.iload 4, 2) := by decide +kernel
theorem dX12_cheapest_121 : decode cX12_cheapest 121 = .ok (.ifCond .le 31, 3) := by decide +kernel
theorem dX12_cheapest_124 : decode cX12_cheapest 124 = .ok (.iload 5, 2) := by decide +kernel
theorem dX12_cheapest_126 : decode cX12_cheapest 126 = .ok (.aload_n 0, 1) := by decide +kernel
theorem dX12_cheapest_127 : decode cX12_cheapest 127 = .ok (.getfield 80, 3) := by decide +kernel
theorem dX12_cheapest_130 : decode cX12_cheapest 130 = .ok (.bipush 9, 2) := by decide +kernel
theorem dX12_cheapest_132 : decode cX12_cheapest 132 = .ok (.iload_n 3, 1) := by decide +kernel
theorem dX12_cheapest_133 : decode cX12_cheapest 133 = .ok (.imul, 1) := by decide +kernel
theorem dX12_cheapest_134 : decode cX12_cheapest 134 = .ok (.iload 4, 2) := by decide +kernel
theorem dX12_cheapest_136 : decode cX12_cheapest 136 = .ok (.iadd, 1) := by decide +kernel
theorem dX12_cheapest_137 : decode cX12_cheapest 137 = .ok (.iconst 1, 1) := by decide +kernel
theorem dX12_cheapest_138 : decode cX12_cheapest 138 = .ok (.isub, 1) := by decide +kernel
theorem dX12_cheapest_139 : decode cX12_cheapest 139 = .ok (.iaload, 1) := by decide +kernel
theorem dX12_cheapest_140 : decode cX12_cheapest 140 = .ok (.aload_n 0, 1) := by decide +kernel
theorem dX12_cheapest_141 : decode cX12_cheapest 141 = .ok (.getfield 77, 3) := by decide +kernel
theorem dX12_cheapest_144 : decode cX12_cheapest 144 = .ok (.iconst 2, 1) := by decide +kernel
theorem dX12_cheapest_145 : decode cX12_cheapest 145 = .ok (.iaload, 1) := by decide +kernel
theorem dX12_cheapest_146 : decode cX12_cheapest 146 = .ok (.iadd, 1) := by decide +kernel
theorem dX12_cheapest_147 : decode cX12_cheapest 147 = .ok (.invokestatic 266, 3) := by decide +kernel
theorem dX12_cheapest_150 : decode cX12_cheapest 150 = .ok (.istore 5, 2) := by decide +kernel
theorem dX12_cheapest_152 : decode cX12_cheapest 152 = .ok (.iload_n 3, 1) := by decide +kernel
theorem dX12_cheapest_153 : decode cX12_cheapest 153 = .ok (.ifCond .le 72, 3) := by decide +kernel
theorem dX12_cheapest_156 : decode cX12_cheapest 156 = .ok (.iload 4, 2) := by decide +kernel
theorem dX12_cheapest_158 : decode cX12_cheapest 158 = .ok (.ifCond .le 67, 3) := by decide +kernel
theorem dX12_cheapest_161 : decode cX12_cheapest 161 = .ok (.iload 6, 2) := by decide +kernel
theorem dX12_cheapest_163 : decode cX12_cheapest 163 = .ok (.iload 7, 2) := by decide +kernel
theorem dX12_cheapest_165 : decode cX12_cheapest 165 = .ok (.if_icmp .ne 7, 3) := by decide +kernel
theorem dX12_cheapest_168 : decode cX12_cheapest 168 = .ok (.iconst 0, 1) := by decide +kernel
theorem dX12_cheapest_169 : decode cX12_cheapest 169 = .ok (.goto 28, 3) := by decide +kernel
theorem dX12_cheapest_172 : decode cX12_cheapest 172 = .ok (.iload 6, 2) := by decide +kernel
theorem dX12_cheapest_174 : decode cX12_cheapest 174 = .ok (.iload 7, 2) := by decide +kernel
theorem dX12_cheapest_176 : decode cX12_cheapest 176 = .ok (.invokestatic 269, 3) := by decide +kernel
theorem dX12_cheapest_179 : decode cX12_cheapest 179 = .ok (.ifCond .eq 12, 3) := by decide +kernel
theorem dX12_cheapest_182 : decode cX12_cheapest 182 = .ok (.aload_n 0, 1) := by decide +kernel
theorem dX12_cheapest_183 : decode cX12_cheapest 183 = .ok (.getfield 77, 3) := by decide +kernel
theorem dX12_cheapest_186 : decode cX12_cheapest 186 = .ok (.iconst 0, 1) := by decide +kernel
theorem dX12_cheapest_187 : decode cX12_cheapest 187 = .ok (.iaload, 1) := by decide +kernel
theorem dX12_cheapest_188 : decode cX12_cheapest 188 = .ok (.goto 9, 3) := by decide +kernel
theorem dX12_cheapest_191 : decode cX12_cheapest 191 = .ok (.aload_n 0, 1) := by decide +kernel
theorem dX12_cheapest_192 : decode cX12_cheapest 192 = .ok (.getfield 77, 3) := by decide +kernel
theorem dX12_cheapest_195 : decode cX12_cheapest 195 = .ok (.iconst 4, 1) := by decide +kernel
theorem dX12_cheapest_196 : decode cX12_cheapest 196 = .ok (.iaload, 1) := by decide +kernel
theorem dX12_cheapest_197 : decode cX12_cheapest 197 = .ok (.istore 9, 2) := by decide +kernel
theorem dX12_cheapest_199 : decode cX12_cheapest 199 = .ok (.iload 5, 2) := by decide +kernel
theorem dX12_cheapest_201 : decode cX12_cheapest 201 = .ok (.aload_n 0, 1) := by decide +kernel
theorem dX12_cheapest_202 : decode cX12_cheapest 202 = .ok (.getfield 80, 3) := by decide +kernel
theorem dX12_cheapest_205 : decode cX12_cheapest 205 = .ok (.bipush 9, 2) := by decide +kernel
theorem dX12_cheapest_207 : decode cX12_cheapest 207 = .ok (.iload_n 3, 1) := by decide +kernel
theorem dX12_cheapest_208 : decode cX12_cheapest 208 = .ok (.iconst 1, 1) := by decide +kernel
theorem dX12_cheapest_209 : decode cX12_cheapest 209 = .ok (.isub, 1) := by decide +kernel
theorem dX12_cheapest_210 : decode cX12_cheapest 210 = .ok (.imul, 1) := by decide +kernel
theorem dX12_cheapest_211 : decode cX12_cheapest 211 = .ok (.iload 4, 2) := by decide +kernel
theorem dX12_cheapest_213 : decode cX12_cheapest 213 = .ok (.iadd, 1) := by decide +kernel
theorem dX12_cheapest_214 : decode cX12_cheapest 214 = .ok (.iconst 1, 1) := by decide +kernel
theorem dX12_cheapest_215 : decode cX12_cheapest 215 = .ok (.isub, 1) := by decide +kernel
theorem dX12_cheapest_216 : decode cX12_cheapest 216 = .ok (.iaload, 1) := by decide +kernel
theorem dX12_cheapest_217 : decode cX12_cheapest 217 = .ok (.iload 9, 2) := by decide +kernel
theorem dX12_cheapest_219 : decode cX12_cheapest 219 = .ok (.iadd, 1) := by decide +kernel
theorem dX12_cheapest_220 : decode cX12_cheapest 220 = .ok (.invokestatic 266, 3) := by decide +kernel
theorem dX12_cheapest_223 : decode cX12_cheapest 223 = .ok (.istore 5, 2) := by decide +kernel
theorem dX12_cheapest_225 : decode cX12_cheapest 225 = .ok (.iload_n 3, 1) := by decide +kernel
theorem dX12_cheapest_226 : decode cX12_cheapest 226 = .ok (.iconst 1, 1) := by decide +kernel
theorem dX12_cheapest_227 : decode cX12_cheapest 227 = .ok (.if_icmp .le 72, 3) := by decide +kernel
theorem dX12_cheapest_230 : decode cX12_cheapest 230 = .ok (.iload 4, 2) := by decide +kernel
theorem dX12_cheapest_232 : decode cX12_cheapest 232 = .ok (.iconst 1, 1) := by decide +kernel
theorem dX12_cheapest_233 : decode cX12_cheapest 233 = .ok (.if_icmp .le 66, 3) := by decide +kernel
theorem dX12_cheapest_236 : decode cX12_cheapest 236 = .ok (.iload 8, 2) := by decide +kernel
theorem dX12_cheapest_238 : decode cX12_cheapest 238 = .ok (.iload 6, 2) := by decide +kernel
theorem dX12_cheapest_240 : decode cX12_cheapest 240 = .ok (.if_icmp .eq 59, 3) := by decide +kernel
theorem dX12_cheapest_243 : decode cX12_cheapest 243 = .ok (.iload 8, 2) := by decide +kernel
theorem dX12_cheapest_245 : decode cX12_cheapest 245 = .ok (.iload 7, 2) := by decide +kernel
theorem dX12_cheapest_247 : decode cX12_cheapest 247 = .ok (.if_icmp .ne 52, 3) := by decide +kernel
theorem dX12_cheapest_250 : decode cX12_cheapest 250 = .ok (.iload 6, 2) := by decide +kernel
theorem dX12_cheapest_252 : decode cX12_cheapest 252 = .ok (.aload_n 0, 1) := by decide +kernel
theorem dX12_cheapest_253 : decode cX12_cheapest 253 = .ok (.getfield 74, 3) := by decide +kernel
theorem dX12_cheapest_256 : decode cX12_cheapest 256 = .ok (.bipush 8, 2) := by decide +kernel
theorem dX12_cheapest_258 : decode cX12_cheapest 258 = .ok (.iload_n 1, 1) := by decide +kernel
theorem dX12_cheapest_259 : decode cX12_cheapest 259 = .ok (.imul, 1) := by decide +kernel
theorem dX12_cheapest_260 : decode cX12_cheapest 260 = .ok (.iload 4, 2) := by decide +kernel
theorem dX12_cheapest_262 : decode cX12_cheapest 262 = .ok (.iadd, 1) := by decide +kernel
theorem dX12_cheapest_263 : decode cX12_cheapest 263 = .ok (.iconst 2, 1) := by decide +kernel
theorem dX12_cheapest_264 : decode cX12_cheapest 264 = .ok (.isub, 1) := by decide +kernel
theorem dX12_cheapest_265 : decode cX12_cheapest 265 = .ok (.iaload, 1) := by decide +kernel
theorem dX12_cheapest_266 : decode cX12_cheapest 266 = .ok (.if_icmp .ne 33, 3) := by decide +kernel
theorem dX12_cheapest_269 : decode cX12_cheapest 269 = .ok (.iload 5, 2) := by decide +kernel
theorem dX12_cheapest_271 : decode cX12_cheapest 271 = .ok (.aload_n 0, 1) := by decide +kernel
theorem dX12_cheapest_272 : decode cX12_cheapest 272 = .ok (.getfield 80, 3) := by decide +kernel
theorem dX12_cheapest_275 : decode cX12_cheapest 275 = .ok (.bipush 9, 2) := by decide +kernel
theorem dX12_cheapest_277 : decode cX12_cheapest 277 = .ok (.iload_n 3, 1) := by decide +kernel
theorem dX12_cheapest_278 : decode cX12_cheapest 278 = .ok (.iconst 2, 1) := by decide +kernel
theorem dX12_cheapest_279 : decode cX12_cheapest 279 = .ok (.isub, 1) := by decide +kernel
theorem dX12_cheapest_280 : decode cX12_cheapest 280 = .ok (.imul, 1) := by decide +kernel
theorem dX12_cheapest_281 : decode cX12_cheapest 281 = .ok (.iload 4, 2) := by decide +kernel
theorem dX12_cheapest_283 : decode cX12_cheapest 283 = .ok (.iadd, 1) := by decide +kernel
theorem dX12_cheapest_284 : decode cX12_cheapest 284 = .ok (.iconst 2, 1) := by decide +kernel
theorem dX12_cheapest_285 : decode cX12_cheapest 285 = .ok (.isub, 1) := by decide +kernel
theorem dX12_cheapest_286 : decode cX12_cheapest 286 = .ok (.iaload, 1) := by decide +kernel
theorem dX12_cheapest_287 : decode cX12_cheapest 287 = .ok (.aload_n 0, 1) := by decide +kernel
theorem dX12_cheapest_288 : decode cX12_cheapest 288 = .ok (.getfield 77, 3) := by decide +kernel
theorem dX12_cheapest_291 : decode cX12_cheapest 291 = .ok (.iconst 3, 1) := by decide +kernel
theorem dX12_cheapest_292 : decode cX12_cheapest 292 = .ok (.iaload, 1) := by decide +kernel
theorem dX12_cheapest_293 : decode cX12_cheapest 293 = .ok (.iadd, 1) := by decide +kernel
theorem dX12_cheapest_294 : decode cX12_cheapest 294 = .ok (.invokestatic 266, 3) := by decide +kernel
theorem dX12_cheapest_297 : decode cX12_cheapest 297 = .ok (.istore 5, 2) := by decide +kernel
theorem dX12_cheapest_299 : decode cX12_cheapest 299 = .ok (.iload 5, 2) := by decide +kernel
theorem dX12_cheapest_301 : decode cX12_cheapest 301 = .ok (.ireturn, 1) := by decide +kernel
theorem dX12_slip_0 : decode cX12_slip 0 = .ok (.aload_n 0, 1) := by decide +kernel
theorem dX12_slip_1 : decode cX12_slip 1 = .ok (.iload_n 1, 1) := by decide +kernel
theorem dX12_slip_2 : decode cX12_slip 2 = .ok (.invokevirtual 251, 3) := by decide +kernel
theorem dX12_slip_5 : decode cX12_slip 5 = .ok (.ifCond .ne 5, 3) := by decide +kernel
theorem dX12_slip_8 : decode cX12_slip 8 = .ok (.iconst (-1), 1) := by decide +kernel
theorem dX12_slip_9 : decode cX12_slip 9 = .ok (.ireturn, 1) := by decide +kernel
theorem dX12_slip_10 : decode cX12_slip 10 = .ok (.aload_n 0, 1) := by decide +kernel
theorem dX12_slip_11 : decode cX12_slip 11 = .ok (.getfield 182, 3) := by decide +kernel
theorem dX12_slip_14 : decode cX12_slip 14 = .ok (.ifCond .ne 8, 3) := by decide +kernel
theorem dX12_slip_17 : decode cX12_slip 17 = .ok (.bipush (-3), 2) := by decide +kernel
theorem dX12_slip_19 : decode cX12_slip 19 = .ok (.goto 13, 3) := by decide +kernel
theorem dX12_slip_22 : decode cX12_slip 22 = .ok (.aload_n 0, 1) := by decide +kernel
theorem dX12_slip_23 : decode cX12_slip 23 = .ok (.iload_n 1, 1) := by decide +kernel
theorem dX12_slip_24 : decode cX12_slip 24 = .ok (.iconst 0, 1) := by decide +kernel
theorem dX12_slip_25 : decode cX12_slip 25 = .ok (.aload_n 0, 1) := by decide +kernel
theorem dX12_slip_26 : decode cX12_slip 26 = .ok (.getfield 182, 3) := by decide +kernel
theorem dX12_slip_29 : decode cX12_slip 29 = .ok (.invokevirtual 272, 3) := by decide +kernel
theorem dX12_slip_32 : decode cX12_slip 32 = .ok (.ireturn, 1) := by decide +kernel
theorem dX12_isAhead_0 : decode cX12_isAhead 0 = .ok (.aload_n 0, 1) := by decide +kernel
theorem dX12_isAhead_1 : decode cX12_isAhead 1 = .ok (.getfield 86, 3) := by decide +kernel
theorem dX12_isAhead_4 : decode cX12_isAhead 4 = .ok (.iload_n 1, 1) := by decide +kernel
theorem dX12_isAhead_5 : decode cX12_isAhead 5 = .ok (.iaload, 1) := by decide +kernel
theorem dX12_isAhead_6 : decode cX12_isAhead 6 = .ok (.aload_n 0, 1) := by decide +kernel
theorem dX12_isAhead_7 : decode cX12_isAhead 7 = .ok (.getfield 86, 3) := by decide +kernel
theorem dX12_isAhead_10 : decode cX12_isAhead 10 = .ok (.iload_n 2, 1) := by decide +kernel
theorem dX12_isAhead_11 : decode cX12_isAhead 11 = .ok (.iaload, 1) := by decide +kernel
theorem dX12_isAhead_12 : decode cX12_isAhead 12 = .ok (.if_icmp .eq 24, 3) := by decide +kernel
theorem dX12_isAhead_15 : decode cX12_isAhead 15 = .ok (.aload_n 0, 1) := by decide +kernel
theorem dX12_isAhead_16 : decode cX12_isAhead 16 = .ok (.getfield 86, 3) := by decide +kernel
theorem dX12_isAhead_19 : decode cX12_isAhead 19 = .ok (.iload_n 1, 1) := by decide +kernel
theorem dX12_isAhead_20 : decode cX12_isAhead 20 = .ok (.iaload, 1) := by decide +kernel
theorem dX12_isAhead_21 : decode cX12_isAhead 21 = .ok (.aload_n 0, 1) := by decide +kernel
theorem dX12_isAhead_22 : decode cX12_isAhead 22 = .ok (.getfield 86, 3) := by decide +kernel
theorem dX12_isAhead_25 : decode cX12_isAhead 25 = .ok (.iload_n 2, 1) := by decide +kernel
theorem dX12_isAhead_26 : decode cX12_isAhead 26 = .ok (.iaload, 1) := by decide +kernel
theorem dX12_isAhead_27 : decode cX12_isAhead 27 = .ok (.if_icmp .ge 7, 3) := by decide +kernel
theorem dX12_isAhead_30 : decode cX12_isAhead 30 = .ok (.iconst 1, 1) := by decide +kernel
theorem dX12_isAhead_31 : decode cX12_isAhead 31 = .ok (.goto 4, 3) := by decide +kernel
theorem dX12_isAhead_34 : decode cX12_isAhead 34 = .ok (.iconst 0, 1) := by decide +kernel
theorem dX12_isAhead_35 : decode cX12_isAhead 35 = .ok (.ireturn, 1) := by decide +kernel
theorem dX12_isAhead_36 : decode cX12_isAhead 36 = .ok (.aload_n 0, 1) := by decide +kernel
theorem dX12_isAhead_37 : decode cX12_isAhead 37 = .ok (.getfield 89, 3) := by decide +kernel
theorem dX12_isAhead_40 : decode cX12_isAhead 40 = .ok (.iload_n 1, 1) := by decide +kernel
theorem dX12_isAhead_41 : decode cX12_isAhead 41 = .ok (.iaload, 1) := by decide +kernel
theorem dX12_isAhead_42 : decode cX12_isAhead 42 = .ok (.aload_n 0, 1) := by decide +kernel
theorem dX12_isAhead_43 : decode cX12_isAhead 43 = .ok (.getfield 89, 3) := by decide +kernel
theorem dX12_isAhead_46 : decode cX12_isAhead 46 = .ok (.iload_n 2, 1) := by decide +kernel
theorem dX12_isAhead_47 : decode cX12_isAhead 47 = .ok (.iaload, 1) := by decide +kernel
theorem dX12_isAhead_48 : decode cX12_isAhead 48 = .ok (.if_icmp .gt 23, 3) := by decide +kernel
theorem dX12_isAhead_51 : decode cX12_isAhead 51 = .ok (.aload_n 0, 1) := by decide +kernel
theorem dX12_isAhead_52 : decode cX12_isAhead 52 = .ok (.getfield 89, 3) := by decide +kernel
theorem dX12_isAhead_55 : decode cX12_isAhead 55 = .ok (.iload_n 1, 1) := by decide +kernel
theorem dX12_isAhead_56 : decode cX12_isAhead 56 = .ok (.iaload, 1) := by decide +kernel
theorem dX12_isAhead_57 : decode cX12_isAhead 57 = .ok (.aload_n 0, 1) := by decide +kernel
theorem dX12_isAhead_58 : decode cX12_isAhead 58 = .ok (.getfield 89, 3) := by decide +kernel
theorem dX12_isAhead_61 : decode cX12_isAhead 61 = .ok (.iload_n 2, 1) := by decide +kernel
theorem dX12_isAhead_62 : decode cX12_isAhead 62 = .ok (.iaload, 1) := by decide +kernel
theorem dX12_isAhead_63 : decode cX12_isAhead 63 = .ok (.if_icmp .ne 12, 3) := by decide +kernel
theorem dX12_isAhead_66 : decode cX12_isAhead 66 = .ok (.iload_n 1, 1) := by decide +kernel
theorem dX12_isAhead_67 : decode cX12_isAhead 67 = .ok (.iload_n 2, 1) := by decide +kernel
theorem dX12_isAhead_68 : decode cX12_isAhead 68 = .ok (.if_icmp .ge 7, 3) := by decide +kernel
theorem dX12_isAhead_71 : decode cX12_isAhead 71 = .ok (.iconst 1, 1) := by decide +kernel
theorem dX12_isAhead_72 : decode cX12_isAhead 72 = .ok (.goto 4, 3) := by decide +kernel
theorem dX12_isAhead_75 : decode cX12_isAhead 75 = .ok (.iconst 0, 1) := by decide +kernel
theorem dX12_isAhead_76 : decode cX12_isAhead 76 = .ok (.ireturn, 1) := by decide +kernel
theorem dX12_findGuesses_0 : decode cX12_findGuesses 0 = .ok (.aload_n 0, 1) := by decide +kernel
theorem dX12_findGuesses_1 : decode cX12_findGuesses 1 = .ok (.iconst 0, 1) := by decide +kernel
theorem dX12_findGuesses_2 : decode cX12_findGuesses 2 = .ok (.putfield 276, 3) := by decide +kernel
theorem dX12_findGuesses_5 : decode cX12_findGuesses 5 = .ok (.iconst 0, 1) := by decide +kernel
theorem dX12_findGuesses_6 : decode cX12_findGuesses 6 = .ok (.istore 5, 2) := by decide +kernel
theorem dX12_findGuesses_8 : decode cX12_findGuesses 8 = .ok (.iload 5, 2) := by decide +kernel
theorem dX12_findGuesses_10 : decode cX12_findGuesses 10 = .ok (.aload_n 0, 1) := by decide +kernel
theorem dX12_findGuesses_11 : decode cX12_findGuesses 11 = .ok (.getfield 244, 3) := by decide +kernel
theorem dX12_findGuesses_14 : decode cX12_findGuesses 14 = .ok (.if_icmp .ge 165, 3) := by decide +kernel
theorem dX12_findGuesses_17 : decode cX12_findGuesses 17 = .ok (.aload_n 0, 1) := by decide +kernel
theorem dX12_findGuesses_18 : decode cX12_findGuesses 18 = .ok (.getfield 86, 3) := by decide +kernel
theorem dX12_findGuesses_21 : decode cX12_findGuesses 21 = .ok (.iload 5, 2) := by decide +kernel
theorem dX12_findGuesses_23 : decode cX12_findGuesses 23 = .ok (.aload_n 0, 1) := by decide +kernel
theorem dX12_findGuesses_24 : decode cX12_findGuesses 24 = .ok (.iload 5, 2) := by decide +kernel
theorem dX12_findGuesses_26 : decode cX12_findGuesses 26 = .ok (.iconst 0, 1) := by decide +kernel
theorem dX12_findGuesses_27 : decode cX12_findGuesses 27 = .ok (.aload_n 0, 1) := by decide +kernel
theorem dX12_findGuesses_28 : decode cX12_findGuesses 28 = .ok (.getfield 182, 3) := by decide +kernel
theorem dX12_findGuesses_31 : decode cX12_findGuesses 31 = .ok (.invokevirtual 272, 3) := by decide +kernel
theorem dX12_findGuesses_34 : decode cX12_findGuesses 34 = .ok (.iastore, 1) := by decide +kernel
theorem dX12_findGuesses_35 : decode cX12_findGuesses 35 = .ok (.aload_n 0, 1) := by decide +kernel
theorem dX12_findGuesses_36 : decode cX12_findGuesses 36 = .ok (.getfield 89, 3) := by decide +kernel
theorem dX12_findGuesses_39 : decode cX12_findGuesses 39 = .ok (.iload 5, 2) := by decide +kernel
theorem dX12_findGuesses_41 : decode cX12_findGuesses 41 = .ok (.iload_n 1, 1) := by decide +kernel
theorem dX12_findGuesses_42 : decode cX12_findGuesses 42 = .ok (.ifCond .ge 13, 3) := by decide +kernel
theorem dX12_findGuesses_45 : decode cX12_findGuesses 45 = .ok (.aload_n 0, 1) := by decide +kernel
theorem dX12_findGuesses_46 : decode cX12_findGuesses 46 = .ok (.getfield 68, 3) := by decide +kernel
theorem dX12_findGuesses_49 : decode cX12_findGuesses 49 = .ok (.iload 5, 2) := by decide +kernel
theorem dX12_findGuesses_51 : decode cX12_findGuesses 51 = .ok (.iaload, 1) := by decide +kernel
theorem dX12_findGuesses_52 : decode cX12_findGuesses 52 = .ok (.goto 23, 3) := by decide +kernel
theorem dX12_findGuesses_55 : decode cX12_findGuesses 55 = .ok (.sipush 1000, 3) := by decide +kernel
theorem dX12_findGuesses_58 : decode cX12_findGuesses 58 = .ok (.aload_n 0, 1) := by decide +kernel
theorem dX12_findGuesses_59 : decode cX12_findGuesses 59 = .ok (.getfield 68, 3) := by decide +kernel
theorem dX12_findGuesses_62 : decode cX12_findGuesses 62 = .ok (.iload 5, 2) := by decide +kernel
theorem dX12_findGuesses_64 : decode cX12_findGuesses 64 = .ok (.iaload, 1) := by decide +kernel
theorem dX12_findGuesses_65 : decode cX12_findGuesses 65 = .ok (.imul, 1) := by decide +kernel
theorem dX12_findGuesses_66 : decode cX12_findGuesses 66 = .ok (.aload_n 0, 1) := by decide +kernel
theorem dX12_findGuesses_67 : decode cX12_findGuesses 67 = .ok (.iload_n 1, 1) := by decide +kernel
theorem dX12_findGuesses_68 : decode cX12_findGuesses 68 = .ok (.iload 5, 2) := by decide +kernel
theorem dX12_findGuesses_70 : decode cX12_findGuesses 70 = .ok (.iload_n 2, 1) := by decide +kernel
theorem dX12_findGuesses_71 : decode cX12_findGuesses 71 = .ok (.invokevirtual 279, 3) := by decide +kernel
theorem dX12_findGuesses_74 : decode cX12_findGuesses 74 = .ok (.iadd, 1) := by decide +kernel
theorem dX12_findGuesses_75 : decode cX12_findGuesses 75 = .ok (.iastore, 1) := by decide +kernel
theorem dX12_findGuesses_76 : decode cX12_findGuesses 76 = .ok (.iload_n 3, 1) := by decide +kernel
theorem dX12_findGuesses_77 : decode cX12_findGuesses 77 = .ok (.aload_n 0, 1) := by decide +kernel
theorem dX12_findGuesses_78 : decode cX12_findGuesses 78 = .ok (.getfield 62, 3) := by decide +kernel
theorem dX12_findGuesses_81 : decode cX12_findGuesses 81 = .ok (.iload 5, 2) := by decide +kernel
theorem dX12_findGuesses_83 : decode cX12_findGuesses 83 = .ok (.iaload, 1) := by decide +kernel
theorem dX12_findGuesses_84 : decode cX12_findGuesses 84 = .ok (.ishr, 1) := by decide +kernel
theorem dX12_findGuesses_85 : decode cX12_findGuesses 85 = .ok (.iconst 1, 1) := by decide +kernel
theorem dX12_findGuesses_86 : decode cX12_findGuesses 86 = .ok (.iand, 1) := by decide +kernel
theorem dX12_findGuesses_87 : decode cX12_findGuesses 87 = .ok (.iconst 1, 1) := by decide +kernel
theorem dX12_findGuesses_88 : decode cX12_findGuesses 88 = .ok (.if_icmp .ne 85, 3) := by decide +kernel
theorem dX12_findGuesses_91 : decode cX12_findGuesses 91 = .ok (.aload_n 0, 1) := by decide +kernel
theorem dX12_findGuesses_92 : decode cX12_findGuesses 92 = .ok (.getfield 86, 3) := by decide +kernel
theorem dX12_findGuesses_95 : decode cX12_findGuesses 95 = .ok (.iload 5, 2) := by decide +kernel
theorem dX12_findGuesses_97 : decode cX12_findGuesses 97 = .ok (.iaload, 1) := by decide +kernel
theorem dX12_findGuesses_98 : decode cX12_findGuesses 98 = .ok (.iload 4, 2) := by decide +kernel
theorem dX12_findGuesses_100 : decode cX12_findGuesses 100 = .ok (.if_icmp .gt 73, 3) := by decide +kernel
theorem dX12_findGuesses_103 : decode cX12_findGuesses 103 = .ok (.aload_n 0, 1) := by decide +kernel
theorem dX12_findGuesses_104 : decode cX12_findGuesses 104 = .ok (.getfield 276, 3) := by decide +kernel
theorem dX12_findGuesses_107 : decode cX12_findGuesses 107 = .ok (.istore 6, 2) := by decide +kernel
theorem dX12_findGuesses_109 : decode cX12_findGuesses 109 = .ok (.iload 6, 2) := by decide +kernel
theorem dX12_findGuesses_111 : decode cX12_findGuesses 111 = .ok (.ifCond .le 43, 3) := by decide +kernel
theorem dX12_findGuesses_114 : decode cX12_findGuesses 114 = .ok (.aload_n 0, 1) := by decide +kernel
theorem dX12_findGuesses_115 : decode cX12_findGuesses 115 = .ok (.iload 5, 2) := by decide +kernel
theorem dX12_findGuesses_117 : decode cX12_findGuesses 117 = .ok (.aload_n 0, 1) := by decide +kernel
theorem dX12_findGuesses_118 : decode cX12_findGuesses 118 = .ok (.getfield 83, 3) := by decide +kernel
theorem dX12_findGuesses_121 : decode cX12_findGuesses 121 = .ok (.iload 6, 2) := by decide +kernel
theorem dX12_findGuesses_123 : decode cX12_findGuesses 123 = .ok (.iconst 1, 1) := by decide +kernel
theorem dX12_findGuesses_124 : decode cX12_findGuesses 124 = .ok (.isub, 1) := by decide +kernel
theorem dX12_findGuesses_125 : decode cX12_findGuesses 125 = .ok (.iaload, 1) := by decide +kernel
theorem dX12_findGuesses_126 : decode cX12_findGuesses 126 = .ok (.invokevirtual 282, 3) := by decide +kernel
theorem dX12_findGuesses_129 : decode cX12_findGuesses 129 = .ok (.ifCond .eq 25, 3) := by decide +kernel
theorem dX12_findGuesses_132 : decode cX12_findGuesses 132 = .ok (.aload_n 0, 1) := by decide +kernel
theorem dX12_findGuesses_133 : decode cX12_findGuesses 133 = .ok (.getfield 83, 3) := by decide +kernel
theorem dX12_findGuesses_136 : decode cX12_findGuesses 136 = .ok (.iload 6, 2) := by decide +kernel
theorem dX12_findGuesses_138 : decode cX12_findGuesses 138 = .ok (.aload_n 0, 1) := by decide +kernel
theorem dX12_findGuesses_139 : decode cX12_findGuesses 139 = .ok (.getfield 83, 3) := by decide +kernel
theorem dX12_findGuesses_142 : decode cX12_findGuesses 142 = .ok (.iload 6, 2) := by decide +kernel
theorem dX12_findGuesses_144 : decode cX12_findGuesses 144 = .ok (.iconst 1, 1) := by decide +kernel
theorem dX12_findGuesses_145 : decode cX12_findGuesses 145 = .ok (.isub, 1) := by decide +kernel
theorem dX12_findGuesses_146 : decode cX12_findGuesses 146 = .ok (.iaload, 1) := by decide +kernel
theorem dX12_findGuesses_147 : decode cX12_findGuesses 147 = .ok (.iastore, 1) := by decide +kernel
theorem dX12_findGuesses_148 : decode cX12_findGuesses 148 = .ok (.iinc 6 (-1), 3) := by decide +kernel
theorem dX12_findGuesses_151 : decode cX12_findGuesses 151 = .ok (.goto (-42), 3) := by decide +kernel
theorem dX12_findGuesses_154 : decode cX12_findGuesses 154 = .ok (.aload_n 0, 1) := by decide +kernel
theorem dX12_findGuesses_155 : decode cX12_findGuesses 155 = .ok (.getfield 83, 3) := by decide +kernel
theorem dX12_findGuesses_158 : decode cX12_findGuesses 158 = .ok (.iload 6, 2) := by decide +kernel
theorem dX12_findGuesses_160 : decode cX12_findGuesses 160 = .ok (.iload 5, 2) := by decide +kernel
theorem dX12_findGuesses_162 : decode cX12_findGuesses 162 = .ok (.iastore, 1) := by decide +kernel
theorem dX12_findGuesses_163 : decode cX12_findGuesses 163 = .ok (.aload_n 0, 1) := by decide +kernel
theorem dX12_findGuesses_164 : decode cX12_findGuesses 164 = .ok (.dup, 1) := by decide +kernel
theorem dX12_findGuesses_165 : decode cX12_findGuesses 165 = .ok (.getfield 276, 3) := by decide +kernel
theorem dX12_findGuesses_168 : decode cX12_findGuesses 168 = .ok (.iconst 1, 1) := by decide +kernel
theorem dX12_findGuesses_169 : decode cX12_findGuesses 169 = .ok (.iadd, 1) := by decide +kernel
theorem dX12_findGuesses_170 : decode cX12_findGuesses 170 = .ok (.putfield 276, 3) := by decide +kernel
theorem dX12_findGuesses_173 : decode cX12_findGuesses 173 = .ok (.iinc 5 1, 3) := by decide +kernel
theorem dX12_findGuesses_176 : decode cX12_findGuesses 176 = .ok (.goto (-168), 3) := by decide +kernel
theorem dX12_findGuesses_179 : decode cX12_findGuesses 179 = .ok (.return_, 1) := by decide +kernel
theorem dX12_areTongues_0 : decode cX12_areTongues 0 = .ok (.iload_n 0, 1) := by decide +kernel
theorem dX12_areTongues_1 : decode cX12_areTongues 1 = .ok (.i2l, 1) := by decide +kernel
theorem dX12_areTongues_2 : decode cX12_areTongues 2 = .ok (.lconst 1, 1) := by decide +kernel
theorem dX12_areTongues_3 : decode cX12_areTongues 3 = .ok (.ldc2_w 285, 3) := by decide +kernel
theorem dX12_areTongues_6 : decode cX12_areTongues 6 = .ok (.invokestatic 178, 3) := by decide +kernel
theorem dX12_areTongues_9 : decode cX12_areTongues 9 = .ok (.ireturn, 1) := by decide +kernel
theorem dX12_guess_0 : decode cX12_guess 0 = .ok (.iload_n 1, 1) := by decide +kernel
theorem dX12_guess_1 : decode cX12_guess 1 = .ok (.invokestatic 287, 3) := by decide +kernel
theorem dX12_guess_4 : decode cX12_guess 4 = .ok (.ifCond .eq 15, 3) := by decide +kernel
theorem dX12_guess_7 : decode cX12_guess 7 = .ok (.iload_n 2, 1) := by decide +kernel
theorem dX12_guess_8 : decode cX12_guess 8 = .ok (.i2l, 1) := by decide +kernel
theorem dX12_guess_9 : decode cX12_guess 9 = .ok (.lconst 0, 1) := by decide +kernel
theorem dX12_guess_10 : decode cX12_guess 10 = .ok (.ldc2_w 185, 3) := by decide +kernel
theorem dX12_guess_13 : decode cX12_guess 13 = .ok (.invokestatic 178, 3) := by decide +kernel
theorem dX12_guess_16 : decode cX12_guess 16 = .ok (.ifCond .ne 6, 3) := by decide +kernel
theorem dX12_guess_19 : decode cX12_guess 19 = .ok (.bipush (-2), 2) := by decide +kernel
theorem dX12_guess_21 : decode cX12_guess 21 = .ok (.ireturn, 1) := by decide +kernel
theorem dX12_guess_22 : decode cX12_guess 22 = .ok (.aload_n 0, 1) := by decide +kernel
theorem dX12_guess_23 : decode cX12_guess 23 = .ok (.getfield 182, 3) := by decide +kernel
theorem dX12_guess_26 : decode cX12_guess 26 = .ok (.ifCond .ne 6, 3) := by decide +kernel
theorem dX12_guess_29 : decode cX12_guess 29 = .ok (.bipush (-3), 2) := by decide +kernel
theorem dX12_guess_31 : decode cX12_guess 31 = .ok (.ireturn, 1) := by decide +kernel
theorem dX12_guess_32 : decode cX12_guess 32 = .ok (.aload_n 0, 1) := by decide +kernel
theorem dX12_guess_33 : decode cX12_guess 33 = .ok (.iconst (-1), 1) := by decide +kernel
theorem dX12_guess_34 : decode cX12_guess 34 = .ok (.iconst 0, 1) := by decide +kernel
theorem dX12_guess_35 : decode cX12_guess 35 = .ok (.iload_n 1, 1) := by decide +kernel
theorem dX12_guess_36 : decode cX12_guess 36 = .ok (.iload_n 2, 1) := by decide +kernel
theorem dX12_guess_37 : decode cX12_guess 37 = .ok (.invokevirtual 290, 3) := by decide +kernel
theorem dX12_guess_40 : decode cX12_guess 40 = .ok (.iload_n 3, 1) := by decide +kernel
theorem dX12_guess_41 : decode cX12_guess 41 = .ok (.iconst (-1), 1) := by decide +kernel
theorem dX12_guess_42 : decode cX12_guess 42 = .ok (.if_icmp .ne 10, 3) := by decide +kernel
theorem dX12_guess_45 : decode cX12_guess 45 = .ok (.aload_n 0, 1) := by decide +kernel
theorem dX12_guess_46 : decode cX12_guess 46 = .ok (.getfield 276, 3) := by decide +kernel
theorem dX12_guess_49 : decode cX12_guess 49 = .ok (.goto 30, 3) := by decide +kernel
theorem dX12_guess_52 : decode cX12_guess 52 = .ok (.iload_n 3, 1) := by decide +kernel
theorem dX12_guess_53 : decode cX12_guess 53 = .ok (.i2l, 1) := by decide +kernel
theorem dX12_guess_54 : decode cX12_guess 54 = .ok (.lconst 0, 1) := by decide +kernel
theorem dX12_guess_55 : decode cX12_guess 55 = .ok (.aload_n 0, 1) := by decide +kernel
theorem dX12_guess_56 : decode cX12_guess 56 = .ok (.getfield 276, 3) := by decide +kernel
theorem dX12_guess_59 : decode cX12_guess 59 = .ok (.iconst 1, 1) := by decide +kernel
theorem dX12_guess_60 : decode cX12_guess 60 = .ok (.isub, 1) := by decide +kernel
theorem dX12_guess_61 : decode cX12_guess 61 = .ok (.i2l, 1) := by decide +kernel
theorem dX12_guess_62 : decode cX12_guess 62 = .ok (.invokestatic 178, 3) := by decide +kernel
theorem dX12_guess_65 : decode cX12_guess 65 = .ok (.ifCond .eq 12, 3) := by decide +kernel
theorem dX12_guess_68 : decode cX12_guess 68 = .ok (.aload_n 0, 1) := by decide +kernel
theorem dX12_guess_69 : decode cX12_guess 69 = .ok (.getfield 83, 3) := by decide +kernel
theorem dX12_guess_72 : decode cX12_guess 72 = .ok (.iload_n 3, 1) := by decide +kernel
theorem dX12_guess_73 : decode cX12_guess 73 = .ok (.iaload, 1) := by decide +kernel
theorem dX12_guess_74 : decode cX12_guess 74 = .ok (.goto 5, 3) := by decide +kernel
theorem dX12_guess_77 : decode cX12_guess 77 = .ok (.bipush (-6), 2) := by decide +kernel
theorem dX12_guess_79 : decode cX12_guess 79 = .ok (.ireturn, 1) := by decide +kernel
theorem dX12_placeOf_0 : decode cX12_placeOf 0 = .ok (.bipush 20, 2) := by decide +kernel
theorem dX12_placeOf_2 : decode cX12_placeOf 2 = .ok (.iload_n 0, 1) := by decide +kernel
theorem dX12_placeOf_3 : decode cX12_placeOf 3 = .ok (.imul, 1) := by decide +kernel
theorem dX12_placeOf_4 : decode cX12_placeOf 4 = .ok (.iconst 4, 1) := by decide +kernel
theorem dX12_placeOf_5 : decode cX12_placeOf 5 = .ok (.iload_n 1, 1) := by decide +kernel
theorem dX12_placeOf_6 : decode cX12_placeOf 6 = .ok (.imul, 1) := by decide +kernel
theorem dX12_placeOf_7 : decode cX12_placeOf 7 = .ok (.iadd, 1) := by decide +kernel
theorem dX12_placeOf_8 : decode cX12_placeOf 8 = .ok (.iload_n 2, 1) := by decide +kernel
theorem dX12_placeOf_9 : decode cX12_placeOf 9 = .ok (.iadd, 1) := by decide +kernel
theorem dX12_placeOf_10 : decode cX12_placeOf 10 = .ok (.ireturn, 1) := by decide +kernel
theorem dX12_priceAt_0 : decode cX12_priceAt 0 = .ok (.aload_n 0, 1) := by decide +kernel
theorem dX12_priceAt_1 : decode cX12_priceAt 1 = .ok (.getfield 108, 3) := by decide +kernel
theorem dX12_priceAt_4 : decode cX12_priceAt 4 = .ok (.sipush 160, 3) := by decide +kernel
theorem dX12_priceAt_7 : decode cX12_priceAt 7 = .ok (.iload_n 1, 1) := by decide +kernel
theorem dX12_priceAt_8 : decode cX12_priceAt 8 = .ok (.imul, 1) := by decide +kernel
theorem dX12_priceAt_9 : decode cX12_priceAt 9 = .ok (.bipush 10, 2) := by decide +kernel
theorem dX12_priceAt_11 : decode cX12_priceAt 11 = .ok (.iload_n 2, 1) := by decide +kernel
theorem dX12_priceAt_12 : decode cX12_priceAt 12 = .ok (.imul, 1) := by decide +kernel
theorem dX12_priceAt_13 : decode cX12_priceAt 13 = .ok (.iadd, 1) := by decide +kernel
theorem dX12_priceAt_14 : decode cX12_priceAt 14 = .ok (.iload_n 3, 1) := by decide +kernel
theorem dX12_priceAt_15 : decode cX12_priceAt 15 = .ok (.iadd, 1) := by decide +kernel
theorem dX12_priceAt_16 : decode cX12_priceAt 16 = .ok (.iconst 1, 1) := by decide +kernel
theorem dX12_priceAt_17 : decode cX12_priceAt 17 = .ok (.isub, 1) := by decide +kernel
theorem dX12_priceAt_18 : decode cX12_priceAt 18 = .ok (.iaload, 1) := by decide +kernel
theorem dX12_priceAt_19 : decode cX12_priceAt 19 = .ok (.ireturn, 1) := by decide +kernel
theorem dX12_findPrices_0 : decode cX12_findPrices 0 = .ok (.iconst 0, 1) := by decide +kernel
theorem dX12_findPrices_1 : decode cX12_findPrices 1 = .ok (.istore_n 2, 1) := by decide +kernel
theorem dX12_findPrices_2 : decode cX12_findPrices 2 = .ok (.iload_n 2, 1) := by decide +kernel
theorem dX12_findPrices_3 : decode cX12_findPrices 3 = .ok (.aload_n 0, 1) := by decide +kernel
theorem dX12_findPrices_4 : decode cX12_findPrices 4 = .ok (.getfield 244, 3) := by decide +kernel
theorem dX12_findPrices_7 : decode cX12_findPrices 7 = .ok (.if_icmp .ge 94, 3) := by decide +kernel
theorem dX12_findPrices_10 : decode cX12_findPrices 10 = .ok (.iconst 0, 1) := by decide +kernel
theorem dX12_findPrices_11 : decode cX12_findPrices 11 = .ok (.istore_n 3, 1) := by decide +kernel
theorem dX12_findPrices_12 : decode cX12_findPrices 12 = .ok (.iload_n 3, 1) := by decide +kernel
theorem dX12_findPrices_13 : decode cX12_findPrices 13 = .ok (.aload_n 0, 1) := by decide +kernel
theorem dX12_findPrices_14 : decode cX12_findPrices 14 = .ok (.getfield 182, 3) := by decide +kernel
theorem dX12_findPrices_17 : decode cX12_findPrices 17 = .ok (.if_icmp .ge 78, 3) := by decide +kernel
theorem dX12_findPrices_20 : decode cX12_findPrices 20 = .ok (.iload_n 1, 1) := by decide +kernel
theorem dX12_findPrices_21 : decode cX12_findPrices 21 = .ok (.aload_n 0, 1) := by decide +kernel
theorem dX12_findPrices_22 : decode cX12_findPrices 22 = .ok (.getfield 62, 3) := by decide +kernel
theorem dX12_findPrices_25 : decode cX12_findPrices 25 = .ok (.iload_n 2, 1) := by decide +kernel
theorem dX12_findPrices_26 : decode cX12_findPrices 26 = .ok (.iaload, 1) := by decide +kernel
theorem dX12_findPrices_27 : decode cX12_findPrices 27 = .ok (.ishr, 1) := by decide +kernel
theorem dX12_findPrices_28 : decode cX12_findPrices 28 = .ok (.iconst 1, 1) := by decide +kernel
theorem dX12_findPrices_29 : decode cX12_findPrices 29 = .ok (.iand, 1) := by decide +kernel
theorem dX12_findPrices_30 : decode cX12_findPrices 30 = .ok (.iconst 1, 1) := by decide +kernel
theorem dX12_findPrices_31 : decode cX12_findPrices 31 = .ok (.if_icmp .ne 64, 3) := by decide +kernel
theorem dX12_findPrices_34 : decode cX12_findPrices 34 = .ok (.iconst 1, 1) := by decide +kernel
theorem dX12_findPrices_35 : decode cX12_findPrices 35 = .ok (.istore 4, 2) := by decide +kernel
theorem dX12_findPrices_37 : decode cX12_findPrices 37 = .ok (.iload 4, 2) := by decide +kernel
theorem dX12_findPrices_39 : decode cX12_findPrices 39 = .ok (.bipush 10, 2) := by decide +kernel
theorem dX12_findPrices_41 : decode cX12_findPrices 41 = .ok (.if_icmp .gt 48, 3) := by decide +kernel
theorem dX12_findPrices_44 : decode cX12_findPrices 44 = .ok (.iload_n 3, 1) := by decide +kernel
theorem dX12_findPrices_45 : decode cX12_findPrices 45 = .ok (.iload 4, 2) := by decide +kernel
theorem dX12_findPrices_47 : decode cX12_findPrices 47 = .ok (.iadd, 1) := by decide +kernel
theorem dX12_findPrices_48 : decode cX12_findPrices 48 = .ok (.aload_n 0, 1) := by decide +kernel
theorem dX12_findPrices_49 : decode cX12_findPrices 49 = .ok (.getfield 182, 3) := by decide +kernel
theorem dX12_findPrices_52 : decode cX12_findPrices 52 = .ok (.if_icmp .gt 37, 3) := by decide +kernel
theorem dX12_findPrices_55 : decode cX12_findPrices 55 = .ok (.aload_n 0, 1) := by decide +kernel
theorem dX12_findPrices_56 : decode cX12_findPrices 56 = .ok (.getfield 108, 3) := by decide +kernel
theorem dX12_findPrices_59 : decode cX12_findPrices 59 = .ok (.sipush 160, 3) := by decide +kernel
theorem dX12_findPrices_62 : decode cX12_findPrices 62 = .ok (.iload_n 2, 1) := by decide +kernel
theorem dX12_findPrices_63 : decode cX12_findPrices 63 = .ok (.imul, 1) := by decide +kernel
theorem dX12_findPrices_64 : decode cX12_findPrices 64 = .ok (.bipush 10, 2) := by decide +kernel
theorem dX12_findPrices_66 : decode cX12_findPrices 66 = .ok (.iload_n 3, 1) := by decide +kernel
theorem dX12_findPrices_67 : decode cX12_findPrices 67 = .ok (.imul, 1) := by decide +kernel
theorem dX12_findPrices_68 : decode cX12_findPrices 68 = .ok (.iadd, 1) := by decide +kernel
theorem dX12_findPrices_69 : decode cX12_findPrices 69 = .ok (.iload 4, 2) := by decide +kernel
theorem dX12_findPrices_71 : decode cX12_findPrices 71 = .ok (.iadd, 1) := by decide +kernel
theorem dX12_findPrices_72 : decode cX12_findPrices 72 = .ok (.iconst 1, 1) := by decide +kernel
theorem dX12_findPrices_73 : decode cX12_findPrices 73 = .ok (.isub, 1) := by decide +kernel
theorem dX12_findPrices_74 : decode cX12_findPrices 74 = .ok (.aload_n 0, 1) := by decide +kernel
theorem dX12_findPrices_75 : decode cX12_findPrices 75 = .ok (.iload_n 2, 1) := by decide +kernel
theorem dX12_findPrices_76 : decode cX12_findPrices 76 = .ok (.iload_n 3, 1) := by decide +kernel
theorem dX12_findPrices_77 : decode cX12_findPrices 77 = .ok (.iload 4, 2) := by decide +kernel
theorem dX12_findPrices_79 : decode cX12_findPrices 79 = .ok (.invokevirtual 272, 3) := by decide +kernel
theorem dX12_findPrices_82 : decode cX12_findPrices 82 = .ok (.iastore, 1) := by decide +kernel
theorem dX12_findPrices_83 : decode cX12_findPrices 83 = .ok (.iinc 4 1, 3) := by decide +kernel
theorem dX12_findPrices_86 : decode cX12_findPrices 86 = .ok (.goto (-49), 3) := by decide +kernel
theorem dX12_findPrices_89 : decode cX12_findPrices 89 = .ok (.iinc 3 1, 3) := by decide +kernel
theorem dX12_findPrices_92 : decode cX12_findPrices 92 = .ok (.goto (-80), 3) := by decide +kernel
theorem dX12_findPrices_95 : decode cX12_findPrices 95 = .ok (.iinc 2 1, 3) := by decide +kernel
theorem dX12_findPrices_98 : decode cX12_findPrices 98 = .ok (.goto (-96), 3) := by decide +kernel
theorem dX12_findPrices_101 : decode cX12_findPrices 101 = .ok (.return_, 1) := by decide +kernel
theorem dX12_sumBy_0 : decode cX12_sumBy 0 = .ok (.aload_n 0, 1) := by decide +kernel
theorem dX12_sumBy_1 : decode cX12_sumBy 1 = .ok (.getfield 92, 3) := by decide +kernel
theorem dX12_sumBy_4 : decode cX12_sumBy 4 = .ok (.iload_n 1, 1) := by decide +kernel
theorem dX12_sumBy_5 : decode cX12_sumBy 5 = .ok (.iload 5, 2) := by decide +kernel
theorem dX12_sumBy_7 : decode cX12_sumBy 7 = .ok (.iadd, 1) := by decide +kernel
theorem dX12_sumBy_8 : decode cX12_sumBy 8 = .ok (.iload_n 2, 1) := by decide +kernel
theorem dX12_sumBy_9 : decode cX12_sumBy 9 = .ok (.iconst 1, 1) := by decide +kernel
theorem dX12_sumBy_10 : decode cX12_sumBy 10 = .ok (.isub, 1) := by decide +kernel
theorem dX12_sumBy_11 : decode cX12_sumBy 11 = .ok (.aload_n 0, 1) := by decide +kernel
theorem dX12_sumBy_12 : decode cX12_sumBy 12 = .ok (.getfield 62, 3) := by decide +kernel
theorem dX12_sumBy_15 : decode cX12_sumBy 15 = .ok (.iload 4, 2) := by decide +kernel
theorem dX12_sumBy_17 : decode cX12_sumBy 17 = .ok (.iaload, 1) := by decide +kernel
theorem dX12_sumBy_18 : decode cX12_sumBy 18 = .ok (.invokestatic 294, 3) := by decide +kernel
theorem dX12_sumBy_21 : decode cX12_sumBy 21 = .ok (.iaload, 1) := by decide +kernel
theorem dX12_sumBy_22 : decode cX12_sumBy 22 = .ok (.istore 6, 2) := by decide +kernel
theorem dX12_sumBy_24 : decode cX12_sumBy 24 = .ok (.iload_n 3, 1) := by decide +kernel
theorem dX12_sumBy_25 : decode cX12_sumBy 25 = .ok (.iconst 3, 1) := by decide +kernel
theorem dX12_sumBy_26 : decode cX12_sumBy 26 = .ok (.if_icmp .ge 23, 3) := by decide +kernel
theorem dX12_sumBy_29 : decode cX12_sumBy 29 = .ok (.iload_n 3, 1) := by decide +kernel
theorem dX12_sumBy_30 : decode cX12_sumBy 30 = .ok (.aload_n 0, 1) := by decide +kernel
theorem dX12_sumBy_31 : decode cX12_sumBy 31 = .ok (.getfield 62, 3) := by decide +kernel
theorem dX12_sumBy_34 : decode cX12_sumBy 34 = .ok (.iload 4, 2) := by decide +kernel
theorem dX12_sumBy_36 : decode cX12_sumBy 36 = .ok (.iaload, 1) := by decide +kernel
theorem dX12_sumBy_37 : decode cX12_sumBy 37 = .ok (.if_icmp .eq 12, 3) := by decide +kernel
theorem dX12_sumBy_40 : decode cX12_sumBy 40 = .ok (.aload_n 0, 1) := by decide +kernel
theorem dX12_sumBy_41 : decode cX12_sumBy 41 = .ok (.getfield 77, 3) := by decide +kernel
theorem dX12_sumBy_44 : decode cX12_sumBy 44 = .ok (.iconst 5, 1) := by decide +kernel
theorem dX12_sumBy_45 : decode cX12_sumBy 45 = .ok (.iaload, 1) := by decide +kernel
theorem dX12_sumBy_46 : decode cX12_sumBy 46 = .ok (.goto 4, 3) := by decide +kernel
theorem dX12_sumBy_49 : decode cX12_sumBy 49 = .ok (.iconst 0, 1) := by decide +kernel
theorem dX12_sumBy_50 : decode cX12_sumBy 50 = .ok (.istore 7, 2) := by decide +kernel
theorem dX12_sumBy_52 : decode cX12_sumBy 52 = .ok (.iload 6, 2) := by decide +kernel
theorem dX12_sumBy_54 : decode cX12_sumBy 54 = .ok (.ldc_w 265, 3) := by decide +kernel
theorem dX12_sumBy_57 : decode cX12_sumBy 57 = .ok (.if_icmp .ne 9, 3) := by decide +kernel
theorem dX12_sumBy_60 : decode cX12_sumBy 60 = .ok (.ldc_w 265, 3) := by decide +kernel
theorem dX12_sumBy_63 : decode cX12_sumBy 63 = .ok (.goto 18, 3) := by decide +kernel
theorem dX12_sumBy_66 : decode cX12_sumBy 66 = .ok (.iload 6, 2) := by decide +kernel
theorem dX12_sumBy_68 : decode cX12_sumBy 68 = .ok (.iload 7, 2) := by decide +kernel
theorem dX12_sumBy_70 : decode cX12_sumBy 70 = .ok (.iadd, 1) := by decide +kernel
theorem dX12_sumBy_71 : decode cX12_sumBy 71 = .ok (.aload_n 0, 1) := by decide +kernel
theorem dX12_sumBy_72 : decode cX12_sumBy 72 = .ok (.iload 4, 2) := by decide +kernel
theorem dX12_sumBy_74 : decode cX12_sumBy 74 = .ok (.iload_n 1, 1) := by decide +kernel
theorem dX12_sumBy_75 : decode cX12_sumBy 75 = .ok (.iload 5, 2) := by decide +kernel
theorem dX12_sumBy_77 : decode cX12_sumBy 77 = .ok (.invokevirtual 297, 3) := by decide +kernel
theorem dX12_sumBy_80 : decode cX12_sumBy 80 = .ok (.iadd, 1) := by decide +kernel
theorem dX12_sumBy_81 : decode cX12_sumBy 81 = .ok (.ireturn, 1) := by decide +kernel
theorem dX12_productBy_0 : decode cX12_productBy 0 = .ok (.aload_n 0, 1) := by decide +kernel
theorem dX12_productBy_1 : decode cX12_productBy 1 = .ok (.getfield 95, 3) := by decide +kernel
theorem dX12_productBy_4 : decode cX12_productBy 4 = .ok (.iload_n 1, 1) := by decide +kernel
theorem dX12_productBy_5 : decode cX12_productBy 5 = .ok (.iload 4, 2) := by decide +kernel
theorem dX12_productBy_7 : decode cX12_productBy 7 = .ok (.iadd, 1) := by decide +kernel
theorem dX12_productBy_8 : decode cX12_productBy 8 = .ok (.iload_n 2, 1) := by decide +kernel
theorem dX12_productBy_9 : decode cX12_productBy 9 = .ok (.iconst 1, 1) := by decide +kernel
theorem dX12_productBy_10 : decode cX12_productBy 10 = .ok (.isub, 1) := by decide +kernel
theorem dX12_productBy_11 : decode cX12_productBy 11 = .ok (.aload_n 0, 1) := by decide +kernel
theorem dX12_productBy_12 : decode cX12_productBy 12 = .ok (.getfield 62, 3) := by decide +kernel
theorem dX12_productBy_15 : decode cX12_productBy 15 = .ok (.iload_n 3, 1) := by decide +kernel
theorem dX12_productBy_16 : decode cX12_productBy 16 = .ok (.iaload, 1) := by decide +kernel
theorem dX12_productBy_17 : decode cX12_productBy 17 = .ok (.invokestatic 294, 3) := by decide +kernel
theorem dX12_productBy_20 : decode cX12_productBy 20 = .ok (.laload, 1) := by decide +kernel
theorem dX12_productBy_21 : decode cX12_productBy 21 = .ok (.aload_n 0, 1) := by decide +kernel
theorem dX12_productBy_22 : decode cX12_productBy 22 = .ok (.getfield 68, 3) := by decide +kernel
theorem dX12_productBy_25 : decode cX12_productBy 25 = .ok (.iload_n 3, 1) := by decide +kernel
theorem dX12_productBy_26 : decode cX12_productBy 26 = .ok (.iaload, 1) := by decide +kernel
theorem dX12_productBy_27 : decode cX12_productBy 27 = .ok (.i2l, 1) := by decide +kernel
theorem dX12_productBy_28 : decode cX12_productBy 28 = .ok (.lmul, 1) := by decide +kernel
theorem dX12_productBy_29 : decode cX12_productBy 29 = .ok (.lreturn, 1) := by decide +kernel
theorem dX12_manyBy_0 : decode cX12_manyBy 0 = .ok (.aload_n 0, 1) := by decide +kernel
theorem dX12_manyBy_1 : decode cX12_manyBy 1 = .ok (.getfield 99, 3) := by decide +kernel
theorem dX12_manyBy_4 : decode cX12_manyBy 4 = .ok (.iload_n 1, 1) := by decide +kernel
theorem dX12_manyBy_5 : decode cX12_manyBy 5 = .ok (.iload 4, 2) := by decide +kernel
theorem dX12_manyBy_7 : decode cX12_manyBy 7 = .ok (.iadd, 1) := by decide +kernel
theorem dX12_manyBy_8 : decode cX12_manyBy 8 = .ok (.iload_n 2, 1) := by decide +kernel
theorem dX12_manyBy_9 : decode cX12_manyBy 9 = .ok (.iconst 1, 1) := by decide +kernel
theorem dX12_manyBy_10 : decode cX12_manyBy 10 = .ok (.isub, 1) := by decide +kernel
theorem dX12_manyBy_11 : decode cX12_manyBy 11 = .ok (.aload_n 0, 1) := by decide +kernel
theorem dX12_manyBy_12 : decode cX12_manyBy 12 = .ok (.getfield 62, 3) := by decide +kernel
theorem dX12_manyBy_15 : decode cX12_manyBy 15 = .ok (.iload_n 3, 1) := by decide +kernel
theorem dX12_manyBy_16 : decode cX12_manyBy 16 = .ok (.iaload, 1) := by decide +kernel
theorem dX12_manyBy_17 : decode cX12_manyBy 17 = .ok (.invokestatic 294, 3) := by decide +kernel
theorem dX12_manyBy_20 : decode cX12_manyBy 20 = .ok (.iaload, 1) := by decide +kernel
theorem dX12_manyBy_21 : decode cX12_manyBy 21 = .ok (.iconst 1, 1) := by decide +kernel
theorem dX12_manyBy_22 : decode cX12_manyBy 22 = .ok (.iadd, 1) := by decide +kernel
theorem dX12_manyBy_23 : decode cX12_manyBy 23 = .ok (.ireturn, 1) := by decide +kernel
theorem dX12_findPart_0 : decode cX12_findPart 0 = .ok (.iload_n 1, 1) := by decide +kernel
theorem dX12_findPart_1 : decode cX12_findPart 1 = .ok (.iload_n 2, 1) := by decide +kernel
theorem dX12_findPart_2 : decode cX12_findPart 2 = .ok (.iload_n 3, 1) := by decide +kernel
theorem dX12_findPart_3 : decode cX12_findPart 3 = .ok (.invokestatic 294, 3) := by decide +kernel
theorem dX12_findPart_6 : decode cX12_findPart 6 = .ok (.istore 5, 2) := by decide +kernel
theorem dX12_findPart_8 : decode cX12_findPart 8 = .ok (.aload_n 0, 1) := by decide +kernel
theorem dX12_findPart_9 : decode cX12_findPart 9 = .ok (.getfield 92, 3) := by decide +kernel
theorem dX12_findPart_12 : decode cX12_findPart 12 = .ok (.iload 5, 2) := by decide +kernel
theorem dX12_findPart_14 : decode cX12_findPart 14 = .ok (.ldc_w 265, 3) := by decide +kernel
theorem dX12_findPart_17 : decode cX12_findPart 17 = .ok (.iastore, 1) := by decide +kernel
theorem dX12_findPart_18 : decode cX12_findPart 18 = .ok (.aload_n 0, 1) := by decide +kernel
theorem dX12_findPart_19 : decode cX12_findPart 19 = .ok (.getfield 95, 3) := by decide +kernel
theorem dX12_findPart_22 : decode cX12_findPart 22 = .ok (.iload 5, 2) := by decide +kernel
theorem dX12_findPart_24 : decode cX12_findPart 24 = .ok (.lconst 0, 1) := by decide +kernel
theorem dX12_findPart_25 : decode cX12_findPart 25 = .ok (.lastore, 1) := by decide +kernel
theorem dX12_findPart_26 : decode cX12_findPart 26 = .ok (.aload_n 0, 1) := by decide +kernel
theorem dX12_findPart_27 : decode cX12_findPart 27 = .ok (.getfield 99, 3) := by decide +kernel
theorem dX12_findPart_30 : decode cX12_findPart 30 = .ok (.iload 5, 2) := by decide +kernel
theorem dX12_findPart_32 : decode cX12_findPart 32 = .ok (.iconst 0, 1) := by decide +kernel
theorem dX12_findPart_33 : decode cX12_findPart 33 = .ok (.iastore, 1) := by decide +kernel
theorem dX12_findPart_34 : decode cX12_findPart 34 = .ok (.iconst 0, 1) := by decide +kernel
theorem dX12_findPart_35 : decode cX12_findPart 35 = .ok (.istore 6, 2) := by decide +kernel
theorem dX12_findPart_37 : decode cX12_findPart 37 = .ok (.iload 6, 2) := by decide +kernel
theorem dX12_findPart_39 : decode cX12_findPart 39 = .ok (.aload_n 0, 1) := by decide +kernel
theorem dX12_findPart_40 : decode cX12_findPart 40 = .ok (.getfield 244, 3) := by decide +kernel
theorem dX12_findPart_43 : decode cX12_findPart 43 = .ok (.if_icmp .ge 210, 3) := by decide +kernel
theorem dX12_findPart_46 : decode cX12_findPart 46 = .ok (.iconst 1, 1) := by decide +kernel
theorem dX12_findPart_47 : decode cX12_findPart 47 = .ok (.istore 7, 2) := by decide +kernel
theorem dX12_findPart_49 : decode cX12_findPart 49 = .ok (.iload 7, 2) := by decide +kernel
theorem dX12_findPart_51 : decode cX12_findPart 51 = .ok (.bipush 10, 2) := by decide +kernel
theorem dX12_findPart_53 : decode cX12_findPart 53 = .ok (.if_icmp .gt 194, 3) := by decide +kernel
theorem dX12_findPart_56 : decode cX12_findPart 56 = .ok (.iload_n 1, 1) := by decide +kernel
theorem dX12_findPart_57 : decode cX12_findPart 57 = .ok (.iload 7, 2) := by decide +kernel
theorem dX12_findPart_59 : decode cX12_findPart 59 = .ok (.iadd, 1) := by decide +kernel
theorem dX12_findPart_60 : decode cX12_findPart 60 = .ok (.aload_n 0, 1) := by decide +kernel
theorem dX12_findPart_61 : decode cX12_findPart 61 = .ok (.getfield 182, 3) := by decide +kernel
theorem dX12_findPart_64 : decode cX12_findPart 64 = .ok (.if_icmp .gt 183, 3) := by decide +kernel
theorem dX12_findPart_67 : decode cX12_findPart 67 = .ok (.iload 4, 2) := by decide +kernel
theorem dX12_findPart_69 : decode cX12_findPart 69 = .ok (.aload_n 0, 1) := by decide +kernel
theorem dX12_findPart_70 : decode cX12_findPart 70 = .ok (.getfield 62, 3) := by decide +kernel
theorem dX12_findPart_73 : decode cX12_findPart 73 = .ok (.iload 6, 2) := by decide +kernel
theorem dX12_findPart_75 : decode cX12_findPart 75 = .ok (.iaload, 1) := by decide +kernel
theorem dX12_findPart_76 : decode cX12_findPart 76 = .ok (.ishr, 1) := by decide +kernel
theorem dX12_findPart_77 : decode cX12_findPart 77 = .ok (.iconst 1, 1) := by decide +kernel
theorem dX12_findPart_78 : decode cX12_findPart 78 = .ok (.iand, 1) := by decide +kernel
theorem dX12_findPart_79 : decode cX12_findPart 79 = .ok (.iconst 1, 1) := by decide +kernel
theorem dX12_findPart_80 : decode cX12_findPart 80 = .ok (.if_icmp .ne 167, 3) := by decide +kernel
theorem dX12_findPart_83 : decode cX12_findPart 83 = .ok (.aload_n 0, 1) := by decide +kernel
theorem dX12_findPart_84 : decode cX12_findPart 84 = .ok (.iload_n 1, 1) := by decide +kernel
theorem dX12_findPart_85 : decode cX12_findPart 85 = .ok (.iload_n 2, 1) := by decide +kernel
theorem dX12_findPart_86 : decode cX12_findPart 86 = .ok (.iload_n 3, 1) := by decide +kernel
theorem dX12_findPart_87 : decode cX12_findPart 87 = .ok (.iload 6, 2) := by decide +kernel
theorem dX12_findPart_89 : decode cX12_findPart 89 = .ok (.iload 7, 2) := by decide +kernel
theorem dX12_findPart_91 : decode cX12_findPart 91 = .ok (.invokevirtual 300, 3) := by decide +kernel
theorem dX12_findPart_94 : decode cX12_findPart 94 = .ok (.istore 8, 2) := by decide +kernel
theorem dX12_findPart_96 : decode cX12_findPart 96 = .ok (.aload_n 0, 1) := by decide +kernel
theorem dX12_findPart_97 : decode cX12_findPart 97 = .ok (.iload_n 1, 1) := by decide +kernel
theorem dX12_findPart_98 : decode cX12_findPart 98 = .ok (.iload_n 2, 1) := by decide +kernel
theorem dX12_findPart_99 : decode cX12_findPart 99 = .ok (.iload 6, 2) := by decide +kernel
theorem dX12_findPart_101 : decode cX12_findPart 101 = .ok (.iload 7, 2) := by decide +kernel
theorem dX12_findPart_103 : decode cX12_findPart 103 = .ok (.invokevirtual 304, 3) := by decide +kernel
theorem dX12_findPart_106 : decode cX12_findPart 106 = .ok (.lstore 9, 2) := by decide +kernel
theorem dX12_findPart_108 : decode cX12_findPart 108 = .ok (.aload_n 0, 1) := by decide +kernel
theorem dX12_findPart_109 : decode cX12_findPart 109 = .ok (.iload_n 1, 1) := by decide +kernel
theorem dX12_findPart_110 : decode cX12_findPart 110 = .ok (.iload_n 2, 1) := by decide +kernel
theorem dX12_findPart_111 : decode cX12_findPart 111 = .ok (.iload 6, 2) := by decide +kernel
theorem dX12_findPart_113 : decode cX12_findPart 113 = .ok (.iload 7, 2) := by decide +kernel
theorem dX12_findPart_115 : decode cX12_findPart 115 = .ok (.invokevirtual 308, 3) := by decide +kernel
theorem dX12_findPart_118 : decode cX12_findPart 118 = .ok (.istore 11, 2) := by decide +kernel
theorem dX12_findPart_120 : decode cX12_findPart 120 = .ok (.iload 8, 2) := by decide +kernel
theorem dX12_findPart_122 : decode cX12_findPart 122 = .ok (.aload_n 0, 1) := by decide +kernel
theorem dX12_findPart_123 : decode cX12_findPart 123 = .ok (.getfield 92, 3) := by decide +kernel
theorem dX12_findPart_126 : decode cX12_findPart 126 = .ok (.iload 5, 2) := by decide +kernel
theorem dX12_findPart_128 : decode cX12_findPart 128 = .ok (.iaload, 1) := by decide +kernel
theorem dX12_findPart_129 : decode cX12_findPart 129 = .ok (.if_icmp .ge 7, 3) := by decide +kernel
theorem dX12_findPart_132 : decode cX12_findPart 132 = .ok (.iconst 1, 1) := by decide +kernel
theorem dX12_findPart_133 : decode cX12_findPart 133 = .ok (.goto 4, 3) := by decide +kernel
theorem dX12_findPart_136 : decode cX12_findPart 136 = .ok (.iconst 0, 1) := by decide +kernel
theorem dX12_findPart_137 : decode cX12_findPart 137 = .ok (.istore 12, 2) := by decide +kernel
theorem dX12_findPart_139 : decode cX12_findPart 139 = .ok (.iload 8, 2) := by decide +kernel
theorem dX12_findPart_141 : decode cX12_findPart 141 = .ok (.aload_n 0, 1) := by decide +kernel
theorem dX12_findPart_142 : decode cX12_findPart 142 = .ok (.getfield 92, 3) := by decide +kernel
theorem dX12_findPart_145 : decode cX12_findPart 145 = .ok (.iload 5, 2) := by decide +kernel
theorem dX12_findPart_147 : decode cX12_findPart 147 = .ok (.iaload, 1) := by decide +kernel
theorem dX12_findPart_148 : decode cX12_findPart 148 = .ok (.if_icmp .ne 15, 3) := by decide +kernel
theorem dX12_findPart_151 : decode cX12_findPart 151 = .ok (.iload 8, 2) := by decide +kernel
theorem dX12_findPart_153 : decode cX12_findPart 153 = .ok (.ldc_w 265, 3) := by decide +kernel
theorem dX12_findPart_156 : decode cX12_findPart 156 = .ok (.if_icmp .ge 7, 3) := by decide +kernel
theorem dX12_findPart_159 : decode cX12_findPart 159 = .ok (.iconst 1, 1) := by decide +kernel
theorem dX12_findPart_160 : decode cX12_findPart 160 = .ok (.goto 4, 3) := by decide +kernel
theorem dX12_findPart_163 : decode cX12_findPart 163 = .ok (.iconst 0, 1) := by decide +kernel
theorem dX12_findPart_164 : decode cX12_findPart 164 = .ok (.istore 13, 2) := by decide +kernel
theorem dX12_findPart_166 : decode cX12_findPart 166 = .ok (.iload 12, 2) := by decide +kernel
theorem dX12_findPart_168 : decode cX12_findPart 168 = .ok (.ifCond .ne 46, 3) := by decide +kernel
theorem dX12_findPart_171 : decode cX12_findPart 171 = .ok (.iload 13, 2) := by decide +kernel
theorem dX12_findPart_173 : decode cX12_findPart 173 = .ok (.ifCond .eq 68, 3) := by decide +kernel
theorem dX12_findPart_176 : decode cX12_findPart 176 = .ok (.lload 9, 2) := by decide +kernel
theorem dX12_findPart_178 : decode cX12_findPart 178 = .ok (.aload_n 0, 1) := by decide +kernel
theorem dX12_findPart_179 : decode cX12_findPart 179 = .ok (.getfield 95, 3) := by decide +kernel
theorem dX12_findPart_182 : decode cX12_findPart 182 = .ok (.iload 5, 2) := by decide +kernel
theorem dX12_findPart_184 : decode cX12_findPart 184 = .ok (.laload, 1) := by decide +kernel
theorem dX12_findPart_185 : decode cX12_findPart 185 = .ok (.lcmp, 1) := by decide +kernel
theorem dX12_findPart_186 : decode cX12_findPart 186 = .ok (.ifCond .gt 28, 3) := by decide +kernel
theorem dX12_findPart_189 : decode cX12_findPart 189 = .ok (.lload 9, 2) := by decide +kernel
theorem dX12_findPart_191 : decode cX12_findPart 191 = .ok (.aload_n 0, 1) := by decide +kernel
theorem dX12_findPart_192 : decode cX12_findPart 192 = .ok (.getfield 95, 3) := by decide +kernel
theorem dX12_findPart_195 : decode cX12_findPart 195 = .ok (.iload 5, 2) := by decide +kernel
theorem dX12_findPart_197 : decode cX12_findPart 197 = .ok (.laload, 1) := by decide +kernel
theorem dX12_findPart_198 : decode cX12_findPart 198 = .ok (.lcmp, 1) := by decide +kernel
theorem dX12_findPart_199 : decode cX12_findPart 199 = .ok (.ifCond .ne 42, 3) := by decide +kernel
theorem dX12_findPart_202 : decode cX12_findPart 202 = .ok (.iload 11, 2) := by decide +kernel
theorem dX12_findPart_204 : decode cX12_findPart 204 = .ok (.aload_n 0, 1) := by decide +kernel
theorem dX12_findPart_205 : decode cX12_findPart 205 = .ok (.getfield 99, 3) := by decide +kernel
theorem dX12_findPart_208 : decode cX12_findPart 208 = .ok (.iload 5, 2) := by decide +kernel
theorem dX12_findPart_210 : decode cX12_findPart 210 = .ok (.iaload, 1) := by decide +kernel
theorem dX12_findPart_211 : decode cX12_findPart 211 = .ok (.if_icmp .ge 30, 3) := by decide +kernel
theorem dX12_findPart_214 : decode cX12_findPart 214 = .ok (.aload_n 0, 1) := by decide +kernel
theorem dX12_findPart_215 : decode cX12_findPart 215 = .ok (.getfield 92, 3) := by decide +kernel
theorem dX12_findPart_218 : decode cX12_findPart 218 = .ok (.iload 5, 2) := by decide +kernel
theorem dX12_findPart_220 : decode cX12_findPart 220 = .ok (.iload 8, 2) := by decide +kernel
theorem dX12_findPart_222 : decode cX12_findPart 222 = .ok (.iastore, 1) := by decide +kernel
theorem dX12_findPart_223 : decode cX12_findPart 223 = .ok (.aload_n 0, 1) := by decide +kernel
theorem dX12_findPart_224 : decode cX12_findPart 224 = .ok (.getfield 95, 3) := by decide +kernel
theorem dX12_findPart_227 : decode cX12_findPart 227 = .ok (.iload 5, 2) := by decide +kernel
theorem dX12_findPart_229 : decode cX12_findPart 229 = .ok (.lload 9, 2) := by decide +kernel
theorem dX12_findPart_231 : decode cX12_findPart 231 = .ok (.lastore, 1) := by decide +kernel
theorem dX12_findPart_232 : decode cX12_findPart 232 = .ok (.aload_n 0, 1) := by decide +kernel
theorem dX12_findPart_233 : decode cX12_findPart 233 = .ok (.getfield 99, 3) := by decide +kernel
theorem dX12_findPart_236 : decode cX12_findPart 236 = .ok (.iload 5, 2) := by decide +kernel
theorem dX12_findPart_238 : decode cX12_findPart 238 = .ok (.iload 11, 2) := by decide +kernel
theorem dX12_findPart_240 : decode cX12_findPart 240 = .ok (.iastore, 1) := by decide +kernel
theorem dX12_findPart_241 : decode cX12_findPart 241 = .ok (.iinc 7 1, 3) := by decide +kernel
theorem dX12_findPart_244 : decode cX12_findPart 244 = .ok (.goto (-195), 3) := by decide +kernel
theorem dX12_findPart_247 : decode cX12_findPart 247 = .ok (.iinc 6 1, 3) := by decide +kernel
theorem dX12_findPart_250 : decode cX12_findPart 250 = .ok (.goto (-213), 3) := by decide +kernel
theorem dX12_findPart_253 : decode cX12_findPart 253 = .ok (.return_, 1) := by decide +kernel
theorem dX12_findParts_0 : decode cX12_findParts 0 = .ok (.aload_n 0, 1) := by decide +kernel
theorem dX12_findParts_1 : decode cX12_findParts 1 = .ok (.iload_n 1, 1) := by decide +kernel
theorem dX12_findParts_2 : decode cX12_findParts 2 = .ok (.invokevirtual 311, 3) := by decide +kernel
theorem dX12_findParts_5 : decode cX12_findParts 5 = .ok (.aload_n 0, 1) := by decide +kernel
theorem dX12_findParts_6 : decode cX12_findParts 6 = .ok (.getfield 182, 3) := by decide +kernel
theorem dX12_findParts_9 : decode cX12_findParts 9 = .ok (.istore_n 2, 1) := by decide +kernel
theorem dX12_findParts_10 : decode cX12_findParts 10 = .ok (.iload_n 2, 1) := by decide +kernel
theorem dX12_findParts_11 : decode cX12_findParts 11 = .ok (.ifCond .lt 105, 3) := by decide +kernel
theorem dX12_findParts_14 : decode cX12_findParts 14 = .ok (.iconst 0, 1) := by decide +kernel
theorem dX12_findParts_15 : decode cX12_findParts 15 = .ok (.istore_n 3, 1) := by decide +kernel
theorem dX12_findParts_16 : decode cX12_findParts 16 = .ok (.iload_n 3, 1) := by decide +kernel
theorem dX12_findParts_17 : decode cX12_findParts 17 = .ok (.iconst 5, 1) := by decide +kernel
theorem dX12_findParts_18 : decode cX12_findParts 18 = .ok (.if_icmp .ge 92, 3) := by decide +kernel
theorem dX12_findParts_21 : decode cX12_findParts 21 = .ok (.iconst 0, 1) := by decide +kernel
theorem dX12_findParts_22 : decode cX12_findParts 22 = .ok (.istore 4, 2) := by decide +kernel
theorem dX12_findParts_24 : decode cX12_findParts 24 = .ok (.iload 4, 2) := by decide +kernel
theorem dX12_findParts_26 : decode cX12_findParts 26 = .ok (.iconst 4, 1) := by decide +kernel
theorem dX12_findParts_27 : decode cX12_findParts 27 = .ok (.if_icmp .ge 77, 3) := by decide +kernel
theorem dX12_findParts_30 : decode cX12_findParts 30 = .ok (.iload_n 2, 1) := by decide +kernel
theorem dX12_findParts_31 : decode cX12_findParts 31 = .ok (.iload_n 3, 1) := by decide +kernel
theorem dX12_findParts_32 : decode cX12_findParts 32 = .ok (.iload 4, 2) := by decide +kernel
theorem dX12_findParts_34 : decode cX12_findParts 34 = .ok (.invokestatic 294, 3) := by decide +kernel
theorem dX12_findParts_37 : decode cX12_findParts 37 = .ok (.istore 5, 2) := by decide +kernel
theorem dX12_findParts_39 : decode cX12_findParts 39 = .ok (.aload_n 0, 1) := by decide +kernel
theorem dX12_findParts_40 : decode cX12_findParts 40 = .ok (.getfield 92, 3) := by decide +kernel
theorem dX12_findParts_43 : decode cX12_findParts 43 = .ok (.iload 5, 2) := by decide +kernel
theorem dX12_findParts_45 : decode cX12_findParts 45 = .ok (.iload_n 2, 1) := by decide +kernel
theorem dX12_findParts_46 : decode cX12_findParts 46 = .ok (.aload_n 0, 1) := by decide +kernel
theorem dX12_findParts_47 : decode cX12_findParts 47 = .ok (.getfield 182, 3) := by decide +kernel
theorem dX12_findParts_50 : decode cX12_findParts 50 = .ok (.if_icmp .ne 7, 3) := by decide +kernel
theorem dX12_findParts_53 : decode cX12_findParts 53 = .ok (.iconst 0, 1) := by decide +kernel
theorem dX12_findParts_54 : decode cX12_findParts 54 = .ok (.goto 6, 3) := by decide +kernel
theorem dX12_findParts_57 : decode cX12_findParts 57 = .ok (.ldc_w 265, 3) := by decide +kernel
theorem dX12_findParts_60 : decode cX12_findParts 60 = .ok (.iastore, 1) := by decide +kernel
theorem dX12_findParts_61 : decode cX12_findParts 61 = .ok (.aload_n 0, 1) := by decide +kernel
theorem dX12_findParts_62 : decode cX12_findParts 62 = .ok (.getfield 95, 3) := by decide +kernel
theorem dX12_findParts_65 : decode cX12_findParts 65 = .ok (.iload 5, 2) := by decide +kernel
theorem dX12_findParts_67 : decode cX12_findParts 67 = .ok (.lconst 1, 1) := by decide +kernel
theorem dX12_findParts_68 : decode cX12_findParts 68 = .ok (.lastore, 1) := by decide +kernel
theorem dX12_findParts_69 : decode cX12_findParts 69 = .ok (.aload_n 0, 1) := by decide +kernel
theorem dX12_findParts_70 : decode cX12_findParts 70 = .ok (.getfield 99, 3) := by decide +kernel
theorem dX12_findParts_73 : decode cX12_findParts 73 = .ok (.iload 5, 2) := by decide +kernel
theorem dX12_findParts_75 : decode cX12_findParts 75 = .ok (.iconst 0, 1) := by decide +kernel
theorem dX12_findParts_76 : decode cX12_findParts 76 = .ok (.iastore, 1) := by decide +kernel
theorem dX12_findParts_77 : decode cX12_findParts 77 = .ok (.iload_n 2, 1) := by decide +kernel
theorem dX12_findParts_78 : decode cX12_findParts 78 = .ok (.aload_n 0, 1) := by decide +kernel
theorem dX12_findParts_79 : decode cX12_findParts 79 = .ok (.getfield 182, 3) := by decide +kernel
theorem dX12_findParts_82 : decode cX12_findParts 82 = .ok (.if_icmp .ge 16, 3) := by decide +kernel
theorem dX12_findParts_85 : decode cX12_findParts 85 = .ok (.iload_n 3, 1) := by decide +kernel
theorem dX12_findParts_86 : decode cX12_findParts 86 = .ok (.ifCond .le 12, 3) := by decide +kernel
theorem dX12_findParts_89 : decode cX12_findParts 89 = .ok (.aload_n 0, 1) := by decide +kernel
theorem dX12_findParts_90 : decode cX12_findParts 90 = .ok (.iload_n 2, 1) := by decide +kernel
theorem dX12_findParts_91 : decode cX12_findParts 91 = .ok (.iload_n 3, 1) := by decide +kernel
theorem dX12_findParts_92 : decode cX12_findParts 92 = .ok (.iload 4, 2) := by decide +kernel
theorem dX12_findParts_94 : decode cX12_findParts 94 = .ok (.iload_n 1, 1) := by decide +kernel
theorem dX12_findParts_95 : decode cX12_findParts 95 = .ok (.invokevirtual 314, 3) := by decide +kernel
theorem dX12_findParts_98 : decode cX12_findParts 98 = .ok (.iinc 4 1, 3) := by decide +kernel
theorem dX12_findParts_101 : decode cX12_findParts 101 = .ok (.goto (-77), 3) := by decide +kernel
theorem dX12_findParts_104 : decode cX12_findParts 104 = .ok (.iinc 3 1, 3) := by decide +kernel
theorem dX12_findParts_107 : decode cX12_findParts 107 = .ok (.goto (-91), 3) := by decide +kernel
theorem dX12_findParts_110 : decode cX12_findParts 110 = .ok (.iinc 2 (-1), 3) := by decide +kernel
theorem dX12_findParts_113 : decode cX12_findParts 113 = .ok (.goto (-103), 3) := by decide +kernel
theorem dX12_findParts_116 : decode cX12_findParts 116 = .ok (.return_, 1) := by decide +kernel
theorem dX12_isBestPart_0 : decode cX12_isBestPart 0 = .ok (.iload_n 1, 1) := by decide +kernel
theorem dX12_isBestPart_1 : decode cX12_isBestPart 1 = .ok (.iload_n 2, 1) := by decide +kernel
theorem dX12_isBestPart_2 : decode cX12_isBestPart 2 = .ok (.iload_n 3, 1) := by decide +kernel
theorem dX12_isBestPart_3 : decode cX12_isBestPart 3 = .ok (.invokestatic 294, 3) := by decide +kernel
theorem dX12_isBestPart_6 : decode cX12_isBestPart 6 = .ok (.istore 6, 2) := by decide +kernel
theorem dX12_isBestPart_8 : decode cX12_isBestPart 8 = .ok (.aload_n 0, 1) := by decide +kernel
theorem dX12_isBestPart_9 : decode cX12_isBestPart 9 = .ok (.iload_n 1, 1) := by decide +kernel
theorem dX12_isBestPart_10 : decode cX12_isBestPart 10 = .ok (.iload_n 2, 1) := by decide +kernel
theorem dX12_isBestPart_11 : decode cX12_isBestPart 11 = .ok (.iload_n 3, 1) := by decide +kernel
theorem dX12_isBestPart_12 : decode cX12_isBestPart 12 = .ok (.iload 4, 2) := by decide +kernel
theorem dX12_isBestPart_14 : decode cX12_isBestPart 14 = .ok (.iload 5, 2) := by decide +kernel
theorem dX12_isBestPart_16 : decode cX12_isBestPart 16 = .ok (.invokevirtual 300, 3) := by decide +kernel
theorem dX12_isBestPart_19 : decode cX12_isBestPart 19 = .ok (.aload_n 0, 1) := by decide +kernel
theorem dX12_isBestPart_20 : decode cX12_isBestPart 20 = .ok (.getfield 92, 3) := by decide +kernel
theorem dX12_isBestPart_23 : decode cX12_isBestPart 23 = .ok (.iload 6, 2) := by decide +kernel
theorem dX12_isBestPart_25 : decode cX12_isBestPart 25 = .ok (.iaload, 1) := by decide +kernel
theorem dX12_isBestPart_26 : decode cX12_isBestPart 26 = .ok (.if_icmp .ne 48, 3) := by decide +kernel
theorem dX12_isBestPart_29 : decode cX12_isBestPart 29 = .ok (.aload_n 0, 1) := by decide +kernel
theorem dX12_isBestPart_30 : decode cX12_isBestPart 30 = .ok (.iload_n 1, 1) := by decide +kernel
theorem dX12_isBestPart_31 : decode cX12_isBestPart 31 = .ok (.iload_n 2, 1) := by decide +kernel
theorem dX12_isBestPart_32 : decode cX12_isBestPart 32 = .ok (.iload 4, 2) := by decide +kernel
theorem dX12_isBestPart_34 : decode cX12_isBestPart 34 = .ok (.iload 5, 2) := by decide +kernel
theorem dX12_isBestPart_36 : decode cX12_isBestPart 36 = .ok (.invokevirtual 304, 3) := by decide +kernel
theorem dX12_isBestPart_39 : decode cX12_isBestPart 39 = .ok (.aload_n 0, 1) := by decide +kernel
theorem dX12_isBestPart_40 : decode cX12_isBestPart 40 = .ok (.getfield 95, 3) := by decide +kernel
theorem dX12_isBestPart_43 : decode cX12_isBestPart 43 = .ok (.iload 6, 2) := by decide +kernel
theorem dX12_isBestPart_45 : decode cX12_isBestPart 45 = .ok (.laload, 1) := by decide +kernel
theorem dX12_isBestPart_46 : decode cX12_isBestPart 46 = .ok (.lcmp, 1) := by decide +kernel
theorem dX12_isBestPart_47 : decode cX12_isBestPart 47 = .ok (.ifCond .ne 27, 3) := by decide +kernel
theorem dX12_isBestPart_50 : decode cX12_isBestPart 50 = .ok (.aload_n 0, 1) := by decide +kernel
theorem dX12_isBestPart_51 : decode cX12_isBestPart 51 = .ok (.iload_n 1, 1) := by decide +kernel
theorem dX12_isBestPart_52 : decode cX12_isBestPart 52 = .ok (.iload_n 2, 1) := by decide +kernel
theorem dX12_isBestPart_53 : decode cX12_isBestPart 53 = .ok (.iload 4, 2) := by decide +kernel
theorem dX12_isBestPart_55 : decode cX12_isBestPart 55 = .ok (.iload 5, 2) := by decide +kernel
theorem dX12_isBestPart_57 : decode cX12_isBestPart 57 = .ok (.invokevirtual 308, 3) := by decide +kernel
theorem dX12_isBestPart_60 : decode cX12_isBestPart 60 = .ok (.aload_n 0, 1) := by decide +kernel
theorem dX12_isBestPart_61 : decode cX12_isBestPart 61 = .ok (.getfield 99, 3) := by decide +kernel
theorem dX12_isBestPart_64 : decode cX12_isBestPart 64 = .ok (.iload 6, 2) := by decide +kernel
theorem dX12_isBestPart_66 : decode cX12_isBestPart 66 = .ok (.iaload, 1) := by decide +kernel
theorem dX12_isBestPart_67 : decode cX12_isBestPart 67 = .ok (.if_icmp .ne 7, 3) := by decide +kernel
theorem dX12_isBestPart_70 : decode cX12_isBestPart 70 = .ok (.iconst 1, 1) := by decide +kernel
theorem dX12_isBestPart_71 : decode cX12_isBestPart 71 = .ok (.goto 4, 3) := by decide +kernel
theorem dX12_isBestPart_74 : decode cX12_isBestPart 74 = .ok (.iconst 0, 1) := by decide +kernel
theorem dX12_isBestPart_75 : decode cX12_isBestPart 75 = .ok (.ireturn, 1) := by decide +kernel
theorem dX12_layParts_0 : decode cX12_layParts 0 = .ok (.iconst 0, 1) := by decide +kernel
theorem dX12_layParts_1 : decode cX12_layParts 1 = .ok (.istore_n 2, 1) := by decide +kernel
theorem dX12_layParts_2 : decode cX12_layParts 2 = .ok (.iconst 4, 1) := by decide +kernel
theorem dX12_layParts_3 : decode cX12_layParts 3 = .ok (.istore_n 3, 1) := by decide +kernel
theorem dX12_layParts_4 : decode cX12_layParts 4 = .ok (.iconst 3, 1) := by decide +kernel
theorem dX12_layParts_5 : decode cX12_layParts 5 = .ok (.istore 4, 2) := by decide +kernel
theorem dX12_layParts_7 : decode cX12_layParts 7 = .ok (.iconst 0, 1) := by decide +kernel
theorem dX12_layParts_8 : decode cX12_layParts 8 = .ok (.istore 5, 2) := by decide +kernel
theorem dX12_layParts_10 : decode cX12_layParts 10 = .ok (.iload_n 2, 1) := by decide +kernel
theorem dX12_layParts_11 : decode cX12_layParts 11 = .ok (.aload_n 0, 1) := by decide +kernel
theorem dX12_layParts_12 : decode cX12_layParts 12 = .ok (.getfield 182, 3) := by decide +kernel
theorem dX12_layParts_15 : decode cX12_layParts 15 = .ok (.if_icmp .ge 145, 3) := by decide +kernel
theorem dX12_layParts_18 : decode cX12_layParts 18 = .ok (.iconst 0, 1) := by decide +kernel
theorem dX12_layParts_19 : decode cX12_layParts 19 = .ok (.istore 6, 2) := by decide +kernel
theorem dX12_layParts_21 : decode cX12_layParts 21 = .ok (.iconst 0, 1) := by decide +kernel
theorem dX12_layParts_22 : decode cX12_layParts 22 = .ok (.istore 7, 2) := by decide +kernel
theorem dX12_layParts_24 : decode cX12_layParts 24 = .ok (.iload 7, 2) := by decide +kernel
theorem dX12_layParts_26 : decode cX12_layParts 26 = .ok (.aload_n 0, 1) := by decide +kernel
theorem dX12_layParts_27 : decode cX12_layParts 27 = .ok (.getfield 244, 3) := by decide +kernel
theorem dX12_layParts_30 : decode cX12_layParts 30 = .ok (.if_icmp .ge 97, 3) := by decide +kernel
theorem dX12_layParts_33 : decode cX12_layParts 33 = .ok (.iload 6, 2) := by decide +kernel
theorem dX12_layParts_35 : decode cX12_layParts 35 = .ok (.ifCond .ne 92, 3) := by decide +kernel
theorem dX12_layParts_38 : decode cX12_layParts 38 = .ok (.iconst 1, 1) := by decide +kernel
theorem dX12_layParts_39 : decode cX12_layParts 39 = .ok (.istore 8, 2) := by decide +kernel
theorem dX12_layParts_41 : decode cX12_layParts 41 = .ok (.iload 8, 2) := by decide +kernel
theorem dX12_layParts_43 : decode cX12_layParts 43 = .ok (.bipush 10, 2) := by decide +kernel
theorem dX12_layParts_45 : decode cX12_layParts 45 = .ok (.if_icmp .gt 76, 3) := by decide +kernel
theorem dX12_layParts_48 : decode cX12_layParts 48 = .ok (.iload_n 2, 1) := by decide +kernel
theorem dX12_layParts_49 : decode cX12_layParts 49 = .ok (.iload 8, 2) := by decide +kernel
theorem dX12_layParts_51 : decode cX12_layParts 51 = .ok (.iadd, 1) := by decide +kernel
theorem dX12_layParts_52 : decode cX12_layParts 52 = .ok (.aload_n 0, 1) := by decide +kernel
theorem dX12_layParts_53 : decode cX12_layParts 53 = .ok (.getfield 182, 3) := by decide +kernel
theorem dX12_layParts_56 : decode cX12_layParts 56 = .ok (.if_icmp .gt 65, 3) := by decide +kernel
theorem dX12_layParts_59 : decode cX12_layParts 59 = .ok (.iload_n 1, 1) := by decide +kernel
theorem dX12_layParts_60 : decode cX12_layParts 60 = .ok (.aload_n 0, 1) := by decide +kernel
theorem dX12_layParts_61 : decode cX12_layParts 61 = .ok (.getfield 62, 3) := by decide +kernel
theorem dX12_layParts_64 : decode cX12_layParts 64 = .ok (.iload 7, 2) := by decide +kernel
theorem dX12_layParts_66 : decode cX12_layParts 66 = .ok (.iaload, 1) := by decide +kernel
theorem dX12_layParts_67 : decode cX12_layParts 67 = .ok (.ishr, 1) := by decide +kernel
theorem dX12_layParts_68 : decode cX12_layParts 68 = .ok (.iconst 1, 1) := by decide +kernel
theorem dX12_layParts_69 : decode cX12_layParts 69 = .ok (.iand, 1) := by decide +kernel
theorem dX12_layParts_70 : decode cX12_layParts 70 = .ok (.iconst 1, 1) := by decide +kernel
theorem dX12_layParts_71 : decode cX12_layParts 71 = .ok (.if_icmp .ne 50, 3) := by decide +kernel
theorem dX12_layParts_74 : decode cX12_layParts 74 = .ok (.iload 6, 2) := by decide +kernel
theorem dX12_layParts_76 : decode cX12_layParts 76 = .ok (.ifCond .ne 45, 3) := by decide +kernel
theorem dX12_layParts_79 : decode cX12_layParts 79 = .ok (.aload_n 0, 1) := by decide +kernel
theorem dX12_layParts_80 : decode cX12_layParts 80 = .ok (.iload_n 2, 1) := by decide +kernel
theorem dX12_layParts_81 : decode cX12_layParts 81 = .ok (.iload_n 3, 1) := by decide +kernel
theorem dX12_layParts_82 : decode cX12_layParts 82 = .ok (.iload 4, 2) := by decide +kernel
theorem dX12_layParts_84 : decode cX12_layParts 84 = .ok (.iload 7, 2) := by decide +kernel
theorem dX12_layParts_86 : decode cX12_layParts 86 = .ok (.iload 8, 2) := by decide +kernel
theorem dX12_layParts_88 : decode cX12_layParts 88 = .ok (.invokevirtual 317, 3) := by decide +kernel
theorem dX12_layParts_91 : decode cX12_layParts 91 = .ok (.ifCond .eq 24, 3) := by decide +kernel
theorem dX12_layParts_94 : decode cX12_layParts 94 = .ok (.aload_n 0, 1) := by decide +kernel
theorem dX12_layParts_95 : decode cX12_layParts 95 = .ok (.getfield 102, 3) := by decide +kernel
theorem dX12_layParts_98 : decode cX12_layParts 98 = .ok (.iload 5, 2) := by decide +kernel
theorem dX12_layParts_100 : decode cX12_layParts 100 = .ok (.iload 7, 2) := by decide +kernel
theorem dX12_layParts_102 : decode cX12_layParts 102 = .ok (.iastore, 1) := by decide +kernel
theorem dX12_layParts_103 : decode cX12_layParts 103 = .ok (.aload_n 0, 1) := by decide +kernel
theorem dX12_layParts_104 : decode cX12_layParts 104 = .ok (.getfield 105, 3) := by decide +kernel
theorem dX12_layParts_107 : decode cX12_layParts 107 = .ok (.iload 5, 2) := by decide +kernel
theorem dX12_layParts_109 : decode cX12_layParts 109 = .ok (.iload 8, 2) := by decide +kernel
theorem dX12_layParts_111 : decode cX12_layParts 111 = .ok (.iastore, 1) := by decide +kernel
theorem dX12_layParts_112 : decode cX12_layParts 112 = .ok (.iconst 1, 1) := by decide +kernel
theorem dX12_layParts_113 : decode cX12_layParts 113 = .ok (.istore 6, 2) := by decide +kernel
theorem dX12_layParts_115 : decode cX12_layParts 115 = .ok (.iinc 8 1, 3) := by decide +kernel
theorem dX12_layParts_118 : decode cX12_layParts 118 = .ok (.goto (-77), 3) := by decide +kernel
theorem dX12_layParts_121 : decode cX12_layParts 121 = .ok (.iinc 7 1, 3) := by decide +kernel
theorem dX12_layParts_124 : decode cX12_layParts 124 = .ok (.goto (-100), 3) := by decide +kernel
theorem dX12_layParts_127 : decode cX12_layParts 127 = .ok (.iload_n 2, 1) := by decide +kernel
theorem dX12_layParts_128 : decode cX12_layParts 128 = .ok (.aload_n 0, 1) := by decide +kernel
theorem dX12_layParts_129 : decode cX12_layParts 129 = .ok (.getfield 105, 3) := by decide +kernel
theorem dX12_layParts_132 : decode cX12_layParts 132 = .ok (.iload 5, 2) := by decide +kernel
theorem dX12_layParts_134 : decode cX12_layParts 134 = .ok (.iaload, 1) := by decide +kernel
theorem dX12_layParts_135 : decode cX12_layParts 135 = .ok (.iadd, 1) := by decide +kernel
theorem dX12_layParts_136 : decode cX12_layParts 136 = .ok (.istore_n 2, 1) := by decide +kernel
theorem dX12_layParts_137 : decode cX12_layParts 137 = .ok (.aload_n 0, 1) := by decide +kernel
theorem dX12_layParts_138 : decode cX12_layParts 138 = .ok (.getfield 62, 3) := by decide +kernel
theorem dX12_layParts_141 : decode cX12_layParts 141 = .ok (.aload_n 0, 1) := by decide +kernel
theorem dX12_layParts_142 : decode cX12_layParts 142 = .ok (.getfield 102, 3) := by decide +kernel
theorem dX12_layParts_145 : decode cX12_layParts 145 = .ok (.iload 5, 2) := by decide +kernel
theorem dX12_layParts_147 : decode cX12_layParts 147 = .ok (.iaload, 1) := by decide +kernel
theorem dX12_layParts_148 : decode cX12_layParts 148 = .ok (.iaload, 1) := by decide +kernel
theorem dX12_layParts_149 : decode cX12_layParts 149 = .ok (.istore 4, 2) := by decide +kernel
theorem dX12_layParts_151 : decode cX12_layParts 151 = .ok (.iinc 3 (-1), 3) := by decide +kernel
theorem dX12_layParts_154 : decode cX12_layParts 154 = .ok (.iinc 5 1, 3) := by decide +kernel
theorem dX12_layParts_157 : decode cX12_layParts 157 = .ok (.goto (-147), 3) := by decide +kernel
theorem dX12_layParts_160 : decode cX12_layParts 160 = .ok (.iload 5, 2) := by decide +kernel
theorem dX12_layParts_162 : decode cX12_layParts 162 = .ok (.ireturn, 1) := by decide +kernel
theorem dX12_whyNoParts_0 : decode cX12_whyNoParts 0 = .ok (.iload_n 1, 1) := by decide +kernel
theorem dX12_whyNoParts_1 : decode cX12_whyNoParts 1 = .ok (.invokestatic 287, 3) := by decide +kernel
theorem dX12_whyNoParts_4 : decode cX12_whyNoParts 4 = .ok (.ifCond .ne 6, 3) := by decide +kernel
theorem dX12_whyNoParts_7 : decode cX12_whyNoParts 7 = .ok (.bipush (-2), 2) := by decide +kernel
theorem dX12_whyNoParts_9 : decode cX12_whyNoParts 9 = .ok (.ireturn, 1) := by decide +kernel
theorem dX12_whyNoParts_10 : decode cX12_whyNoParts 10 = .ok (.aload_n 0, 1) := by decide +kernel
theorem dX12_whyNoParts_11 : decode cX12_whyNoParts 11 = .ok (.getfield 182, 3) := by decide +kernel
theorem dX12_whyNoParts_14 : decode cX12_whyNoParts 14 = .ok (.ifCond .ne 6, 3) := by decide +kernel
theorem dX12_whyNoParts_17 : decode cX12_whyNoParts 17 = .ok (.bipush (-3), 2) := by decide +kernel
theorem dX12_whyNoParts_19 : decode cX12_whyNoParts 19 = .ok (.ireturn, 1) := by decide +kernel
theorem dX12_whyNoParts_20 : decode cX12_whyNoParts 20 = .ok (.aload_n 0, 1) := by decide +kernel
theorem dX12_whyNoParts_21 : decode cX12_whyNoParts 21 = .ok (.iload_n 1, 1) := by decide +kernel
theorem dX12_whyNoParts_22 : decode cX12_whyNoParts 22 = .ok (.invokevirtual 321, 3) := by decide +kernel
theorem dX12_whyNoParts_25 : decode cX12_whyNoParts 25 = .ok (.aload_n 0, 1) := by decide +kernel
theorem dX12_whyNoParts_26 : decode cX12_whyNoParts 26 = .ok (.getfield 92, 3) := by decide +kernel
theorem dX12_whyNoParts_29 : decode cX12_whyNoParts 29 = .ok (.iconst 0, 1) := by decide +kernel
theorem dX12_whyNoParts_30 : decode cX12_whyNoParts 30 = .ok (.iconst 4, 1) := by decide +kernel
theorem dX12_whyNoParts_31 : decode cX12_whyNoParts 31 = .ok (.iconst 3, 1) := by decide +kernel
theorem dX12_whyNoParts_32 : decode cX12_whyNoParts 32 = .ok (.invokestatic 294, 3) := by decide +kernel
theorem dX12_whyNoParts_35 : decode cX12_whyNoParts 35 = .ok (.iaload, 1) := by decide +kernel
theorem dX12_whyNoParts_36 : decode cX12_whyNoParts 36 = .ok (.ldc_w 265, 3) := by decide +kernel
theorem dX12_whyNoParts_39 : decode cX12_whyNoParts 39 = .ok (.if_icmp .ne 8, 3) := by decide +kernel
theorem dX12_whyNoParts_42 : decode cX12_whyNoParts 42 = .ok (.bipush (-5), 2) := by decide +kernel
theorem dX12_whyNoParts_44 : decode cX12_whyNoParts 44 = .ok (.goto 4, 3) := by decide +kernel
theorem dX12_whyNoParts_47 : decode cX12_whyNoParts 47 = .ok (.iconst 0, 1) := by decide +kernel
theorem dX12_whyNoParts_48 : decode cX12_whyNoParts 48 = .ok (.ireturn, 1) := by decide +kernel
theorem dX12_part_0 : decode cX12_part 0 = .ok (.aload_n 0, 1) := by decide +kernel
theorem dX12_part_1 : decode cX12_part 1 = .ok (.iload_n 1, 1) := by decide +kernel
theorem dX12_part_2 : decode cX12_part 2 = .ok (.invokevirtual 324, 3) := by decide +kernel
theorem dX12_part_5 : decode cX12_part 5 = .ok (.istore_n 3, 1) := by decide +kernel
theorem dX12_part_6 : decode cX12_part 6 = .ok (.iload_n 3, 1) := by decide +kernel
theorem dX12_part_7 : decode cX12_part 7 = .ok (.ifCond .ge 5, 3) := by decide +kernel
theorem dX12_part_10 : decode cX12_part 10 = .ok (.iload_n 3, 1) := by decide +kernel
theorem dX12_part_11 : decode cX12_part 11 = .ok (.ireturn, 1) := by decide +kernel
theorem dX12_part_12 : decode cX12_part 12 = .ok (.iload_n 2, 1) := by decide +kernel
theorem dX12_part_13 : decode cX12_part 13 = .ok (.iconst (-1), 1) := by decide +kernel
theorem dX12_part_14 : decode cX12_part 14 = .ok (.if_icmp .ne 15, 3) := by decide +kernel
theorem dX12_part_17 : decode cX12_part 17 = .ok (.aload_n 0, 1) := by decide +kernel
theorem dX12_part_18 : decode cX12_part 18 = .ok (.getfield 92, 3) := by decide +kernel
theorem dX12_part_21 : decode cX12_part 21 = .ok (.iconst 0, 1) := by decide +kernel
theorem dX12_part_22 : decode cX12_part 22 = .ok (.iconst 4, 1) := by decide +kernel
theorem dX12_part_23 : decode cX12_part 23 = .ok (.iconst 3, 1) := by decide +kernel
theorem dX12_part_24 : decode cX12_part 24 = .ok (.invokestatic 294, 3) := by decide +kernel
theorem dX12_part_27 : decode cX12_part 27 = .ok (.iaload, 1) := by decide +kernel
theorem dX12_part_28 : decode cX12_part 28 = .ok (.ireturn, 1) := by decide +kernel
theorem dX12_part_29 : decode cX12_part 29 = .ok (.aload_n 0, 1) := by decide +kernel
theorem dX12_part_30 : decode cX12_part 30 = .ok (.iload_n 1, 1) := by decide +kernel
theorem dX12_part_31 : decode cX12_part 31 = .ok (.invokevirtual 327, 3) := by decide +kernel
theorem dX12_part_34 : decode cX12_part 34 = .ok (.istore 4, 2) := by decide +kernel
theorem dX12_part_36 : decode cX12_part 36 = .ok (.iload_n 2, 1) := by decide +kernel
theorem dX12_part_37 : decode cX12_part 37 = .ok (.bipush (-2), 2) := by decide +kernel
theorem dX12_part_39 : decode cX12_part 39 = .ok (.if_icmp .ne 8, 3) := by decide +kernel
theorem dX12_part_42 : decode cX12_part 42 = .ok (.iload 4, 2) := by decide +kernel
theorem dX12_part_44 : decode cX12_part 44 = .ok (.goto 28, 3) := by decide +kernel
theorem dX12_part_47 : decode cX12_part 47 = .ok (.iload_n 2, 1) := by decide +kernel
theorem dX12_part_48 : decode cX12_part 48 = .ok (.i2l, 1) := by decide +kernel
theorem dX12_part_49 : decode cX12_part 49 = .ok (.lconst 0, 1) := by decide +kernel
theorem dX12_part_50 : decode cX12_part 50 = .ok (.iload 4, 2) := by decide +kernel
theorem dX12_part_52 : decode cX12_part 52 = .ok (.iconst 1, 1) := by decide +kernel
theorem dX12_part_53 : decode cX12_part 53 = .ok (.isub, 1) := by decide +kernel
theorem dX12_part_54 : decode cX12_part 54 = .ok (.i2l, 1) := by decide +kernel
theorem dX12_part_55 : decode cX12_part 55 = .ok (.invokestatic 178, 3) := by decide +kernel
theorem dX12_part_58 : decode cX12_part 58 = .ok (.ifCond .eq 12, 3) := by decide +kernel
theorem dX12_part_61 : decode cX12_part 61 = .ok (.aload_n 0, 1) := by decide +kernel
theorem dX12_part_62 : decode cX12_part 62 = .ok (.getfield 102, 3) := by decide +kernel
theorem dX12_part_65 : decode cX12_part 65 = .ok (.iload_n 2, 1) := by decide +kernel
theorem dX12_part_66 : decode cX12_part 66 = .ok (.iaload, 1) := by decide +kernel
theorem dX12_part_67 : decode cX12_part 67 = .ok (.goto 5, 3) := by decide +kernel
theorem dX12_part_70 : decode cX12_part 70 = .ok (.bipush (-6), 2) := by decide +kernel
theorem dX12_part_72 : decode cX12_part 72 = .ok (.ireturn, 1) := by decide +kernel
theorem dX12_pieceOf_0 : decode cX12_pieceOf 0 = .ok (.aload_n 0, 1) := by decide +kernel
theorem dX12_pieceOf_1 : decode cX12_pieceOf 1 = .ok (.iload_n 1, 1) := by decide +kernel
theorem dX12_pieceOf_2 : decode cX12_pieceOf 2 = .ok (.invokevirtual 324, 3) := by decide +kernel
theorem dX12_pieceOf_5 : decode cX12_pieceOf 5 = .ok (.istore_n 3, 1) := by decide +kernel
theorem dX12_pieceOf_6 : decode cX12_pieceOf 6 = .ok (.iload_n 3, 1) := by decide +kernel
theorem dX12_pieceOf_7 : decode cX12_pieceOf 7 = .ok (.ifCond .ge 5, 3) := by decide +kernel
theorem dX12_pieceOf_10 : decode cX12_pieceOf 10 = .ok (.iload_n 3, 1) := by decide +kernel
theorem dX12_pieceOf_11 : decode cX12_pieceOf 11 = .ok (.ireturn, 1) := by decide +kernel
theorem dX12_pieceOf_12 : decode cX12_pieceOf 12 = .ok (.aload_n 0, 1) := by decide +kernel
theorem dX12_pieceOf_13 : decode cX12_pieceOf 13 = .ok (.iload_n 1, 1) := by decide +kernel
theorem dX12_pieceOf_14 : decode cX12_pieceOf 14 = .ok (.invokevirtual 327, 3) := by decide +kernel
theorem dX12_pieceOf_17 : decode cX12_pieceOf 17 = .ok (.istore 4, 2) := by decide +kernel
theorem dX12_pieceOf_19 : decode cX12_pieceOf 19 = .ok (.iload_n 2, 1) := by decide +kernel
theorem dX12_pieceOf_20 : decode cX12_pieceOf 20 = .ok (.i2l, 1) := by decide +kernel
theorem dX12_pieceOf_21 : decode cX12_pieceOf 21 = .ok (.lconst 0, 1) := by decide +kernel
theorem dX12_pieceOf_22 : decode cX12_pieceOf 22 = .ok (.iload 4, 2) := by decide +kernel
theorem dX12_pieceOf_24 : decode cX12_pieceOf 24 = .ok (.iconst 1, 1) := by decide +kernel
theorem dX12_pieceOf_25 : decode cX12_pieceOf 25 = .ok (.isub, 1) := by decide +kernel
theorem dX12_pieceOf_26 : decode cX12_pieceOf 26 = .ok (.i2l, 1) := by decide +kernel
theorem dX12_pieceOf_27 : decode cX12_pieceOf 27 = .ok (.invokestatic 178, 3) := by decide +kernel
theorem dX12_pieceOf_30 : decode cX12_pieceOf 30 = .ok (.ifCond .eq 12, 3) := by decide +kernel
theorem dX12_pieceOf_33 : decode cX12_pieceOf 33 = .ok (.aload_n 0, 1) := by decide +kernel
theorem dX12_pieceOf_34 : decode cX12_pieceOf 34 = .ok (.getfield 105, 3) := by decide +kernel
theorem dX12_pieceOf_37 : decode cX12_pieceOf 37 = .ok (.iload_n 2, 1) := by decide +kernel
theorem dX12_pieceOf_38 : decode cX12_pieceOf 38 = .ok (.iaload, 1) := by decide +kernel
theorem dX12_pieceOf_39 : decode cX12_pieceOf 39 = .ok (.goto 5, 3) := by decide +kernel
theorem dX12_pieceOf_42 : decode cX12_pieceOf 42 = .ok (.bipush (-6), 2) := by decide +kernel
theorem dX12_pieceOf_44 : decode cX12_pieceOf 44 = .ok (.ireturn, 1) := by decide +kernel
theorem dX12_bothAt_0 : decode cX12_bothAt 0 = .ok (.iconst 0, 1) := by decide +kernel
theorem dX12_bothAt_1 : decode cX12_bothAt 1 = .ok (.istore_n 3, 1) := by decide +kernel
theorem dX12_bothAt_2 : decode cX12_bothAt 2 = .ok (.iload_n 3, 1) := by decide +kernel
theorem dX12_bothAt_3 : decode cX12_bothAt 3 = .ok (.aload_n 0, 1) := by decide +kernel
theorem dX12_bothAt_4 : decode cX12_bothAt 4 = .ok (.getfield 330, 3) := by decide +kernel
theorem dX12_bothAt_7 : decode cX12_bothAt 7 = .ok (.if_icmp .ge 31, 3) := by decide +kernel
theorem dX12_bothAt_10 : decode cX12_bothAt 10 = .ok (.aload_n 0, 1) := by decide +kernel
theorem dX12_bothAt_11 : decode cX12_bothAt 11 = .ok (.getfield 111, 3) := by decide +kernel
theorem dX12_bothAt_14 : decode cX12_bothAt 14 = .ok (.iload_n 3, 1) := by decide +kernel
theorem dX12_bothAt_15 : decode cX12_bothAt 15 = .ok (.iaload, 1) := by decide +kernel
theorem dX12_bothAt_16 : decode cX12_bothAt 16 = .ok (.iload_n 1, 1) := by decide +kernel
theorem dX12_bothAt_17 : decode cX12_bothAt 17 = .ok (.if_icmp .ne 15, 3) := by decide +kernel
theorem dX12_bothAt_20 : decode cX12_bothAt 20 = .ok (.aload_n 0, 1) := by decide +kernel
theorem dX12_bothAt_21 : decode cX12_bothAt 21 = .ok (.getfield 114, 3) := by decide +kernel
theorem dX12_bothAt_24 : decode cX12_bothAt 24 = .ok (.iload_n 3, 1) := by decide +kernel
theorem dX12_bothAt_25 : decode cX12_bothAt 25 = .ok (.iaload, 1) := by decide +kernel
theorem dX12_bothAt_26 : decode cX12_bothAt 26 = .ok (.iload_n 2, 1) := by decide +kernel
theorem dX12_bothAt_27 : decode cX12_bothAt 27 = .ok (.if_icmp .ne 5, 3) := by decide +kernel
theorem dX12_bothAt_30 : decode cX12_bothAt 30 = .ok (.iload_n 3, 1) := by decide +kernel
theorem dX12_bothAt_31 : decode cX12_bothAt 31 = .ok (.ireturn, 1) := by decide +kernel
theorem dX12_bothAt_32 : decode cX12_bothAt 32 = .ok (.iinc 3 1, 3) := by decide +kernel
theorem dX12_bothAt_35 : decode cX12_bothAt 35 = .ok (.goto (-33), 3) := by decide +kernel
theorem dX12_bothAt_38 : decode cX12_bothAt 38 = .ok (.iconst (-1), 1) := by decide +kernel
theorem dX12_bothAt_39 : decode cX12_bothAt 39 = .ok (.ireturn, 1) := by decide +kernel
theorem dX12_bothOf_0 : decode cX12_bothOf 0 = .ok (.aload_n 0, 1) := by decide +kernel
theorem dX12_bothOf_1 : decode cX12_bothOf 1 = .ok (.iload_n 1, 1) := by decide +kernel
theorem dX12_bothOf_2 : decode cX12_bothOf 2 = .ok (.iload_n 2, 1) := by decide +kernel
theorem dX12_bothOf_3 : decode cX12_bothOf 3 = .ok (.invokevirtual 333, 3) := by decide +kernel
theorem dX12_bothOf_6 : decode cX12_bothOf 6 = .ok (.istore_n 3, 1) := by decide +kernel
theorem dX12_bothOf_7 : decode cX12_bothOf 7 = .ok (.iload_n 3, 1) := by decide +kernel
theorem dX12_bothOf_8 : decode cX12_bothOf 8 = .ok (.ifCond .ge 7, 3) := by decide +kernel
theorem dX12_bothOf_11 : decode cX12_bothOf 11 = .ok (.iconst 0, 1) := by decide +kernel
theorem dX12_bothOf_12 : decode cX12_bothOf 12 = .ok (.goto 9, 3) := by decide +kernel
theorem dX12_bothOf_15 : decode cX12_bothOf 15 = .ok (.aload_n 0, 1) := by decide +kernel
theorem dX12_bothOf_16 : decode cX12_bothOf 16 = .ok (.getfield 117, 3) := by decide +kernel
theorem dX12_bothOf_19 : decode cX12_bothOf 19 = .ok (.iload_n 3, 1) := by decide +kernel
theorem dX12_bothOf_20 : decode cX12_bothOf 20 = .ok (.iaload, 1) := by decide +kernel
theorem dX12_bothOf_21 : decode cX12_bothOf 21 = .ok (.ireturn, 1) := by decide +kernel
theorem dX12_both_0 : decode cX12_both 0 = .ok (.aload_n 0, 1) := by decide +kernel
theorem dX12_both_1 : decode cX12_both 1 = .ok (.iload_n 1, 1) := by decide +kernel
theorem dX12_both_2 : decode cX12_both 2 = .ok (.invokevirtual 251, 3) := by decide +kernel
theorem dX12_both_5 : decode cX12_both 5 = .ok (.ifCond .eq 11, 3) := by decide +kernel
theorem dX12_both_8 : decode cX12_both 8 = .ok (.aload_n 0, 1) := by decide +kernel
theorem dX12_both_9 : decode cX12_both 9 = .ok (.iload_n 2, 1) := by decide +kernel
theorem dX12_both_10 : decode cX12_both 10 = .ok (.invokevirtual 251, 3) := by decide +kernel
theorem dX12_both_13 : decode cX12_both 13 = .ok (.ifCond .ne 5, 3) := by decide +kernel
theorem dX12_both_16 : decode cX12_both 16 = .ok (.iconst (-1), 1) := by decide +kernel
theorem dX12_both_17 : decode cX12_both 17 = .ok (.ireturn, 1) := by decide +kernel
theorem dX12_both_18 : decode cX12_both 18 = .ok (.iload_n 3, 1) := by decide +kernel
theorem dX12_both_19 : decode cX12_both 19 = .ok (.i2l, 1) := by decide +kernel
theorem dX12_both_20 : decode cX12_both 20 = .ok (.lconst 0, 1) := by decide +kernel
theorem dX12_both_21 : decode cX12_both 21 = .ok (.ldc2_w 249, 3) := by decide +kernel
theorem dX12_both_24 : decode cX12_both 24 = .ok (.invokestatic 178, 3) := by decide +kernel
theorem dX12_both_27 : decode cX12_both 27 = .ok (.ifCond .ne 6, 3) := by decide +kernel
theorem dX12_both_30 : decode cX12_both 30 = .ok (.bipush (-2), 2) := by decide +kernel
theorem dX12_both_32 : decode cX12_both 32 = .ok (.ireturn, 1) := by decide +kernel
theorem dX12_both_33 : decode cX12_both 33 = .ok (.aload_n 0, 1) := by decide +kernel
theorem dX12_both_34 : decode cX12_both 34 = .ok (.iload_n 1, 1) := by decide +kernel
theorem dX12_both_35 : decode cX12_both 35 = .ok (.iload_n 2, 1) := by decide +kernel
theorem dX12_both_36 : decode cX12_both 36 = .ok (.invokevirtual 333, 3) := by decide +kernel
theorem dX12_both_39 : decode cX12_both 39 = .ok (.istore 4, 2) := by decide +kernel
theorem dX12_both_41 : decode cX12_both 41 = .ok (.iload 4, 2) := by decide +kernel
theorem dX12_both_43 : decode cX12_both 43 = .ok (.ifCond .ge 19, 3) := by decide +kernel
theorem dX12_both_46 : decode cX12_both 46 = .ok (.iload_n 3, 1) := by decide +kernel
theorem dX12_both_47 : decode cX12_both 47 = .ok (.ifCond .le 15, 3) := by decide +kernel
theorem dX12_both_50 : decode cX12_both 50 = .ok (.aload_n 0, 1) := by decide +kernel
theorem dX12_both_51 : decode cX12_both 51 = .ok (.getfield 330, 3) := by decide +kernel
theorem dX12_both_54 : decode cX12_both 54 = .ok (.bipush 40, 2) := by decide +kernel
theorem dX12_both_56 : decode cX12_both 56 = .ok (.if_icmp .ne 6, 3) := by decide +kernel
theorem dX12_both_59 : decode cX12_both 59 = .ok (.bipush (-4), 2) := by decide +kernel
theorem dX12_both_61 : decode cX12_both 61 = .ok (.ireturn, 1) := by decide +kernel
theorem dX12_both_62 : decode cX12_both 62 = .ok (.aload_n 0, 1) := by decide +kernel
theorem dX12_both_63 : decode cX12_both 63 = .ok (.iload_n 1, 1) := by decide +kernel
theorem dX12_both_64 : decode cX12_both 64 = .ok (.iload_n 2, 1) := by decide +kernel
theorem dX12_both_65 : decode cX12_both 65 = .ok (.invokevirtual 336, 3) := by decide +kernel
theorem dX12_both_68 : decode cX12_both 68 = .ok (.istore 5, 2) := by decide +kernel
theorem dX12_both_70 : decode cX12_both 70 = .ok (.iload 4, 2) := by decide +kernel
theorem dX12_both_72 : decode cX12_both 72 = .ok (.ifCond .ge 39, 3) := by decide +kernel
theorem dX12_both_75 : decode cX12_both 75 = .ok (.iload_n 3, 1) := by decide +kernel
theorem dX12_both_76 : decode cX12_both 76 = .ok (.ifCond .le 35, 3) := by decide +kernel
theorem dX12_both_79 : decode cX12_both 79 = .ok (.aload_n 0, 1) := by decide +kernel
theorem dX12_both_80 : decode cX12_both 80 = .ok (.getfield 330, 3) := by decide +kernel
theorem dX12_both_83 : decode cX12_both 83 = .ok (.istore 4, 2) := by decide +kernel
theorem dX12_both_85 : decode cX12_both 85 = .ok (.aload_n 0, 1) := by decide +kernel
theorem dX12_both_86 : decode cX12_both 86 = .ok (.getfield 111, 3) := by decide +kernel
theorem dX12_both_89 : decode cX12_both 89 = .ok (.iload 4, 2) := by decide +kernel
theorem dX12_both_91 : decode cX12_both 91 = .ok (.iload_n 1, 1) := by decide +kernel
theorem dX12_both_92 : decode cX12_both 92 = .ok (.iastore, 1) := by decide +kernel
theorem dX12_both_93 : decode cX12_both 93 = .ok (.aload_n 0, 1) := by decide +kernel
theorem dX12_both_94 : decode cX12_both 94 = .ok (.getfield 114, 3) := by decide +kernel
theorem dX12_both_97 : decode cX12_both 97 = .ok (.iload 4, 2) := by decide +kernel
theorem dX12_both_99 : decode cX12_both 99 = .ok (.iload_n 2, 1) := by decide +kernel
theorem dX12_both_100 : decode cX12_both 100 = .ok (.iastore, 1) := by decide +kernel
theorem dX12_both_101 : decode cX12_both 101 = .ok (.aload_n 0, 1) := by decide +kernel
theorem dX12_both_102 : decode cX12_both 102 = .ok (.dup, 1) := by decide +kernel
theorem dX12_both_103 : decode cX12_both 103 = .ok (.getfield 330, 3) := by decide +kernel
theorem dX12_both_106 : decode cX12_both 106 = .ok (.iconst 1, 1) := by decide +kernel
theorem dX12_both_107 : decode cX12_both 107 = .ok (.iadd, 1) := by decide +kernel
theorem dX12_both_108 : decode cX12_both 108 = .ok (.putfield 330, 3) := by decide +kernel
theorem dX12_both_111 : decode cX12_both 111 = .ok (.iload 4, 2) := by decide +kernel
theorem dX12_both_113 : decode cX12_both 113 = .ok (.ifCond .lt 73, 3) := by decide +kernel
theorem dX12_both_116 : decode cX12_both 116 = .ok (.aload_n 0, 1) := by decide +kernel
theorem dX12_both_117 : decode cX12_both 117 = .ok (.getfield 117, 3) := by decide +kernel
theorem dX12_both_120 : decode cX12_both 120 = .ok (.iload 4, 2) := by decide +kernel
theorem dX12_both_122 : decode cX12_both 122 = .ok (.iload_n 3, 1) := by decide +kernel
theorem dX12_both_123 : decode cX12_both 123 = .ok (.iastore, 1) := by decide +kernel
theorem dX12_both_124 : decode cX12_both 124 = .ok (.iload_n 3, 1) := by decide +kernel
theorem dX12_both_125 : decode cX12_both 125 = .ok (.ifCond .ne 61, 3) := by decide +kernel
theorem dX12_both_128 : decode cX12_both 128 = .ok (.aload_n 0, 1) := by decide +kernel
theorem dX12_both_129 : decode cX12_both 129 = .ok (.dup, 1) := by decide +kernel
theorem dX12_both_130 : decode cX12_both 130 = .ok (.getfield 330, 3) := by decide +kernel
theorem dX12_both_133 : decode cX12_both 133 = .ok (.iconst 1, 1) := by decide +kernel
theorem dX12_both_134 : decode cX12_both 134 = .ok (.isub, 1) := by decide +kernel
theorem dX12_both_135 : decode cX12_both 135 = .ok (.putfield 330, 3) := by decide +kernel
theorem dX12_both_138 : decode cX12_both 138 = .ok (.aload_n 0, 1) := by decide +kernel
theorem dX12_both_139 : decode cX12_both 139 = .ok (.getfield 111, 3) := by decide +kernel
theorem dX12_both_142 : decode cX12_both 142 = .ok (.iload 4, 2) := by decide +kernel
theorem dX12_both_144 : decode cX12_both 144 = .ok (.aload_n 0, 1) := by decide +kernel
theorem dX12_both_145 : decode cX12_both 145 = .ok (.getfield 111, 3) := by decide +kernel
theorem dX12_both_148 : decode cX12_both 148 = .ok (.aload_n 0, 1) := by decide +kernel
theorem dX12_both_149 : decode cX12_both 149 = .ok (.getfield 330, 3) := by decide +kernel
theorem dX12_both_152 : decode cX12_both 152 = .ok (.iaload, 1) := by decide +kernel
theorem dX12_both_153 : decode cX12_both 153 = .ok (.iastore, 1) := by decide +kernel
theorem dX12_both_154 : decode cX12_both 154 = .ok (.aload_n 0, 1) := by decide +kernel
theorem dX12_both_155 : decode cX12_both 155 = .ok (.getfield 114, 3) := by decide +kernel
theorem dX12_both_158 : decode cX12_both 158 = .ok (.iload 4, 2) := by decide +kernel
theorem dX12_both_160 : decode cX12_both 160 = .ok (.aload_n 0, 1) := by decide +kernel
theorem dX12_both_161 : decode cX12_both 161 = .ok (.getfield 114, 3) := by decide +kernel
theorem dX12_both_164 : decode cX12_both 164 = .ok (.aload_n 0, 1) := by decide +kernel
theorem dX12_both_165 : decode cX12_both 165 = .ok (.getfield 330, 3) := by decide +kernel
theorem dX12_both_168 : decode cX12_both 168 = .ok (.iaload, 1) := by decide +kernel
theorem dX12_both_169 : decode cX12_both 169 = .ok (.iastore, 1) := by decide +kernel
theorem dX12_both_170 : decode cX12_both 170 = .ok (.aload_n 0, 1) := by decide +kernel
theorem dX12_both_171 : decode cX12_both 171 = .ok (.getfield 117, 3) := by decide +kernel
theorem dX12_both_174 : decode cX12_both 174 = .ok (.iload 4, 2) := by decide +kernel
theorem dX12_both_176 : decode cX12_both 176 = .ok (.aload_n 0, 1) := by decide +kernel
theorem dX12_both_177 : decode cX12_both 177 = .ok (.getfield 117, 3) := by decide +kernel
theorem dX12_both_180 : decode cX12_both 180 = .ok (.aload_n 0, 1) := by decide +kernel
theorem dX12_both_181 : decode cX12_both 181 = .ok (.getfield 330, 3) := by decide +kernel
theorem dX12_both_184 : decode cX12_both 184 = .ok (.iaload, 1) := by decide +kernel
theorem dX12_both_185 : decode cX12_both 185 = .ok (.iastore, 1) := by decide +kernel
theorem dX12_both_186 : decode cX12_both 186 = .ok (.iload 5, 2) := by decide +kernel
theorem dX12_both_188 : decode cX12_both 188 = .ok (.ireturn, 1) := by decide +kernel
theorem dX12_say_0 : decode cX12_say 0 = .ok (.aload_n 0, 1) := by decide +kernel
theorem dX12_say_1 : decode cX12_say 1 = .ok (.iload_n 1, 1) := by decide +kernel
theorem dX12_say_2 : decode cX12_say 2 = .ok (.invokevirtual 251, 3) := by decide +kernel
theorem dX12_say_5 : decode cX12_say 5 = .ok (.ifCond .ne 5, 3) := by decide +kernel
theorem dX12_say_8 : decode cX12_say 8 = .ok (.iconst (-1), 1) := by decide +kernel
theorem dX12_say_9 : decode cX12_say 9 = .ok (.ireturn, 1) := by decide +kernel
theorem dX12_say_10 : decode cX12_say 10 = .ok (.aload_n 0, 1) := by decide +kernel
theorem dX12_say_11 : decode cX12_say 11 = .ok (.getfield 190, 3) := by decide +kernel
theorem dX12_say_14 : decode cX12_say 14 = .ok (.iconst 5, 1) := by decide +kernel
theorem dX12_say_15 : decode cX12_say 15 = .ok (.if_icmp .ne 6, 3) := by decide +kernel
theorem dX12_say_18 : decode cX12_say 18 = .ok (.bipush (-4), 2) := by decide +kernel
theorem dX12_say_20 : decode cX12_say 20 = .ok (.ireturn, 1) := by decide +kernel
theorem dX12_say_21 : decode cX12_say 21 = .ok (.aload_n 0, 1) := by decide +kernel
theorem dX12_say_22 : decode cX12_say 22 = .ok (.getfield 16, 3) := by decide +kernel
theorem dX12_say_25 : decode cX12_say 25 = .ok (.aload_n 0, 1) := by decide +kernel
theorem dX12_say_26 : decode cX12_say 26 = .ok (.getfield 190, 3) := by decide +kernel
theorem dX12_say_29 : decode cX12_say 29 = .ok (.iload_n 1, 1) := by decide +kernel
theorem dX12_say_30 : decode cX12_say 30 = .ok (.iastore, 1) := by decide +kernel
theorem dX12_say_31 : decode cX12_say 31 = .ok (.aload_n 0, 1) := by decide +kernel
theorem dX12_say_32 : decode cX12_say 32 = .ok (.getfield 19, 3) := by decide +kernel
theorem dX12_say_35 : decode cX12_say 35 = .ok (.aload_n 0, 1) := by decide +kernel
theorem dX12_say_36 : decode cX12_say 36 = .ok (.getfield 190, 3) := by decide +kernel
theorem dX12_say_39 : decode cX12_say 39 = .ok (.iload_n 2, 1) := by decide +kernel
theorem dX12_say_40 : decode cX12_say 40 = .ok (.bastore, 1) := by decide +kernel
theorem dX12_say_41 : decode cX12_say 41 = .ok (.aload_n 0, 1) := by decide +kernel
theorem dX12_say_42 : decode cX12_say 42 = .ok (.dup, 1) := by decide +kernel
theorem dX12_say_43 : decode cX12_say 43 = .ok (.getfield 190, 3) := by decide +kernel
theorem dX12_say_46 : decode cX12_say 46 = .ok (.iconst 1, 1) := by decide +kernel
theorem dX12_say_47 : decode cX12_say 47 = .ok (.iadd, 1) := by decide +kernel
theorem dX12_say_48 : decode cX12_say 48 = .ok (.putfield 190, 3) := by decide +kernel
theorem dX12_say_51 : decode cX12_say 51 = .ok (.aload_n 0, 1) := by decide +kernel
theorem dX12_say_52 : decode cX12_say 52 = .ok (.getfield 190, 3) := by decide +kernel
theorem dX12_say_55 : decode cX12_say 55 = .ok (.ireturn, 1) := by decide +kernel
theorem dX12_soundsAs_0 : decode cX12_soundsAs 0 = .ok (.aload_n 0, 1) := by decide +kernel
theorem dX12_soundsAs_1 : decode cX12_soundsAs 1 = .ok (.getfield 16, 3) := by decide +kernel
theorem dX12_soundsAs_4 : decode cX12_soundsAs 4 = .ok (.iload_n 2, 1) := by decide +kernel
theorem dX12_soundsAs_5 : decode cX12_soundsAs 5 = .ok (.iaload, 1) := by decide +kernel
theorem dX12_soundsAs_6 : decode cX12_soundsAs 6 = .ok (.istore_n 3, 1) := by decide +kernel
theorem dX12_soundsAs_7 : decode cX12_soundsAs 7 = .ok (.aload_n 0, 1) := by decide +kernel
theorem dX12_soundsAs_8 : decode cX12_soundsAs 8 = .ok (.getfield 19, 3) := by decide +kernel
theorem dX12_soundsAs_11 : decode cX12_soundsAs 11 = .ok (.iload_n 2, 1) := by decide +kernel
theorem dX12_soundsAs_12 : decode cX12_soundsAs 12 = .ok (.baload, 1) := by decide +kernel
theorem dX12_soundsAs_13 : decode cX12_soundsAs 13 = .ok (.ifCond .eq 14, 3) := by decide +kernel
theorem dX12_soundsAs_16 : decode cX12_soundsAs 16 = .ok (.iload_n 1, 1) := by decide +kernel
theorem dX12_soundsAs_17 : decode cX12_soundsAs 17 = .ok (.iload_n 3, 1) := by decide +kernel
theorem dX12_soundsAs_18 : decode cX12_soundsAs 18 = .ok (.if_icmp .ne 7, 3) := by decide +kernel
theorem dX12_soundsAs_21 : decode cX12_soundsAs 21 = .ok (.iconst 1, 1) := by decide +kernel
theorem dX12_soundsAs_22 : decode cX12_soundsAs 22 = .ok (.goto 4, 3) := by decide +kernel
theorem dX12_soundsAs_25 : decode cX12_soundsAs 25 = .ok (.iconst 0, 1) := by decide +kernel
theorem dX12_soundsAs_26 : decode cX12_soundsAs 26 = .ok (.ireturn, 1) := by decide +kernel
theorem dX12_soundsAs_27 : decode cX12_soundsAs 27 = .ok (.aload_n 0, 1) := by decide +kernel
theorem dX12_soundsAs_28 : decode cX12_soundsAs 28 = .ok (.getfield 62, 3) := by decide +kernel
theorem dX12_soundsAs_31 : decode cX12_soundsAs 31 = .ok (.iload_n 1, 1) := by decide +kernel
theorem dX12_soundsAs_32 : decode cX12_soundsAs 32 = .ok (.iaload, 1) := by decide +kernel
theorem dX12_soundsAs_33 : decode cX12_soundsAs 33 = .ok (.aload_n 0, 1) := by decide +kernel
theorem dX12_soundsAs_34 : decode cX12_soundsAs 34 = .ok (.getfield 62, 3) := by decide +kernel
theorem dX12_soundsAs_37 : decode cX12_soundsAs 37 = .ok (.iload_n 3, 1) := by decide +kernel
theorem dX12_soundsAs_38 : decode cX12_soundsAs 38 = .ok (.iaload, 1) := by decide +kernel
theorem dX12_soundsAs_39 : decode cX12_soundsAs 39 = .ok (.if_icmp .ne 22, 3) := by decide +kernel
theorem dX12_soundsAs_42 : decode cX12_soundsAs 42 = .ok (.aload_n 0, 1) := by decide +kernel
theorem dX12_soundsAs_43 : decode cX12_soundsAs 43 = .ok (.getfield 71, 3) := by decide +kernel
theorem dX12_soundsAs_46 : decode cX12_soundsAs 46 = .ok (.iload_n 1, 1) := by decide +kernel
theorem dX12_soundsAs_47 : decode cX12_soundsAs 47 = .ok (.iaload, 1) := by decide +kernel
theorem dX12_soundsAs_48 : decode cX12_soundsAs 48 = .ok (.aload_n 0, 1) := by decide +kernel
theorem dX12_soundsAs_49 : decode cX12_soundsAs 49 = .ok (.getfield 71, 3) := by decide +kernel
theorem dX12_soundsAs_52 : decode cX12_soundsAs 52 = .ok (.iload_n 3, 1) := by decide +kernel
theorem dX12_soundsAs_53 : decode cX12_soundsAs 53 = .ok (.iaload, 1) := by decide +kernel
theorem dX12_soundsAs_54 : decode cX12_soundsAs 54 = .ok (.if_icmp .ne 7, 3) := by decide +kernel
theorem dX12_soundsAs_57 : decode cX12_soundsAs 57 = .ok (.iconst 1, 1) := by decide +kernel
theorem dX12_soundsAs_58 : decode cX12_soundsAs 58 = .ok (.goto 4, 3) := by decide +kernel
theorem dX12_soundsAs_61 : decode cX12_soundsAs 61 = .ok (.iconst 0, 1) := by decide +kernel
theorem dX12_soundsAs_62 : decode cX12_soundsAs 62 = .ok (.istore 4, 2) := by decide +kernel
theorem dX12_soundsAs_64 : decode cX12_soundsAs 64 = .ok (.iconst 0, 1) := by decide +kernel
theorem dX12_soundsAs_65 : decode cX12_soundsAs 65 = .ok (.istore 5, 2) := by decide +kernel
theorem dX12_soundsAs_67 : decode cX12_soundsAs 67 = .ok (.iload 5, 2) := by decide +kernel
theorem dX12_soundsAs_69 : decode cX12_soundsAs 69 = .ok (.aload_n 0, 1) := by decide +kernel
theorem dX12_soundsAs_70 : decode cX12_soundsAs 70 = .ok (.getfield 71, 3) := by decide +kernel
theorem dX12_soundsAs_73 : decode cX12_soundsAs 73 = .ok (.iload_n 3, 1) := by decide +kernel
theorem dX12_soundsAs_74 : decode cX12_soundsAs 74 = .ok (.iaload, 1) := by decide +kernel
theorem dX12_soundsAs_75 : decode cX12_soundsAs 75 = .ok (.if_icmp .ge 48, 3) := by decide +kernel
theorem dX12_soundsAs_78 : decode cX12_soundsAs 78 = .ok (.iload 4, 2) := by decide +kernel
theorem dX12_soundsAs_80 : decode cX12_soundsAs 80 = .ok (.ifCond .eq 43, 3) := by decide +kernel
theorem dX12_soundsAs_83 : decode cX12_soundsAs 83 = .ok (.aload_n 0, 1) := by decide +kernel
theorem dX12_soundsAs_84 : decode cX12_soundsAs 84 = .ok (.getfield 74, 3) := by decide +kernel
theorem dX12_soundsAs_87 : decode cX12_soundsAs 87 = .ok (.bipush 8, 2) := by decide +kernel
theorem dX12_soundsAs_89 : decode cX12_soundsAs 89 = .ok (.iload_n 1, 1) := by decide +kernel
theorem dX12_soundsAs_90 : decode cX12_soundsAs 90 = .ok (.imul, 1) := by decide +kernel
theorem dX12_soundsAs_91 : decode cX12_soundsAs 91 = .ok (.iload 5, 2) := by decide +kernel
theorem dX12_soundsAs_93 : decode cX12_soundsAs 93 = .ok (.iadd, 1) := by decide +kernel
theorem dX12_soundsAs_94 : decode cX12_soundsAs 94 = .ok (.iaload, 1) := by decide +kernel
theorem dX12_soundsAs_95 : decode cX12_soundsAs 95 = .ok (.aload_n 0, 1) := by decide +kernel
theorem dX12_soundsAs_96 : decode cX12_soundsAs 96 = .ok (.getfield 74, 3) := by decide +kernel
theorem dX12_soundsAs_99 : decode cX12_soundsAs 99 = .ok (.bipush 8, 2) := by decide +kernel
theorem dX12_soundsAs_101 : decode cX12_soundsAs 101 = .ok (.iload_n 3, 1) := by decide +kernel
theorem dX12_soundsAs_102 : decode cX12_soundsAs 102 = .ok (.imul, 1) := by decide +kernel
theorem dX12_soundsAs_103 : decode cX12_soundsAs 103 = .ok (.iload 5, 2) := by decide +kernel
theorem dX12_soundsAs_105 : decode cX12_soundsAs 105 = .ok (.iadd, 1) := by decide +kernel
theorem dX12_soundsAs_106 : decode cX12_soundsAs 106 = .ok (.iaload, 1) := by decide +kernel
theorem dX12_soundsAs_107 : decode cX12_soundsAs 107 = .ok (.if_icmp .ne 7, 3) := by decide +kernel
theorem dX12_soundsAs_110 : decode cX12_soundsAs 110 = .ok (.iconst 1, 1) := by decide +kernel
theorem dX12_soundsAs_111 : decode cX12_soundsAs 111 = .ok (.goto 4, 3) := by decide +kernel
theorem dX12_soundsAs_114 : decode cX12_soundsAs 114 = .ok (.iconst 0, 1) := by decide +kernel
theorem dX12_soundsAs_115 : decode cX12_soundsAs 115 = .ok (.istore 4, 2) := by decide +kernel
theorem dX12_soundsAs_117 : decode cX12_soundsAs 117 = .ok (.iinc 5 1, 3) := by decide +kernel
theorem dX12_soundsAs_120 : decode cX12_soundsAs 120 = .ok (.goto (-53), 3) := by decide +kernel
theorem dX12_soundsAs_123 : decode cX12_soundsAs 123 = .ok (.iload 4, 2) := by decide +kernel
theorem dX12_soundsAs_125 : decode cX12_soundsAs 125 = .ok (.ireturn, 1) := by decide +kernel
theorem dX12_onBy_0 : decode cX12_onBy 0 = .ok (.aload_n 0, 1) := by decide +kernel
theorem dX12_onBy_1 : decode cX12_onBy 1 = .ok (.getfield 68, 3) := by decide +kernel
theorem dX12_onBy_4 : decode cX12_onBy 4 = .ok (.iload_n 2, 1) := by decide +kernel
theorem dX12_onBy_5 : decode cX12_onBy 5 = .ok (.iaload, 1) := by decide +kernel
theorem dX12_onBy_6 : decode cX12_onBy 6 = .ok (.i2l, 1) := by decide +kernel
theorem dX12_onBy_7 : decode cX12_onBy 7 = .ok (.aload_n 0, 1) := by decide +kernel
theorem dX12_onBy_8 : decode cX12_onBy 8 = .ok (.iload_n 2, 1) := by decide +kernel
theorem dX12_onBy_9 : decode cX12_onBy 9 = .ok (.iload_n 3, 1) := by decide +kernel
theorem dX12_onBy_10 : decode cX12_onBy 10 = .ok (.invokevirtual 336, 3) := by decide +kernel
theorem dX12_onBy_13 : decode cX12_onBy 13 = .ok (.i2l, 1) := by decide +kernel
theorem dX12_onBy_14 : decode cX12_onBy 14 = .ok (.lconst 1, 1) := by decide +kernel
theorem dX12_onBy_15 : decode cX12_onBy 15 = .ok (.ladd, 1) := by decide +kernel
theorem dX12_onBy_16 : decode cX12_onBy 16 = .ok (.lmul, 1) := by decide +kernel
theorem dX12_onBy_17 : decode cX12_onBy 17 = .ok (.aload_n 0, 1) := by decide +kernel
theorem dX12_onBy_18 : decode cX12_onBy 18 = .ok (.getfield 120, 3) := by decide +kernel
theorem dX12_onBy_21 : decode cX12_onBy 21 = .ok (.bipush 60, 2) := by decide +kernel
theorem dX12_onBy_23 : decode cX12_onBy 23 = .ok (.iload_n 1, 1) := by decide +kernel
theorem dX12_onBy_24 : decode cX12_onBy 24 = .ok (.iconst 1, 1) := by decide +kernel
theorem dX12_onBy_25 : decode cX12_onBy 25 = .ok (.iadd, 1) := by decide +kernel
theorem dX12_onBy_26 : decode cX12_onBy 26 = .ok (.imul, 1) := by decide +kernel
theorem dX12_onBy_27 : decode cX12_onBy 27 = .ok (.iload_n 3, 1) := by decide +kernel
theorem dX12_onBy_28 : decode cX12_onBy 28 = .ok (.iadd, 1) := by decide +kernel
theorem dX12_onBy_29 : decode cX12_onBy 29 = .ok (.laload, 1) := by decide +kernel
theorem dX12_onBy_30 : decode cX12_onBy 30 = .ok (.lmul, 1) := by decide +kernel
theorem dX12_onBy_31 : decode cX12_onBy 31 = .ok (.lreturn, 1) := by decide +kernel
theorem dX12_findChosen_0 : decode cX12_findChosen 0 = .ok (.aload_n 0, 1) := by decide +kernel
theorem dX12_findChosen_1 : decode cX12_findChosen 1 = .ok (.getfield 190, 3) := by decide +kernel
theorem dX12_findChosen_4 : decode cX12_findChosen 4 = .ok (.iconst 1, 1) := by decide +kernel
theorem dX12_findChosen_5 : decode cX12_findChosen 5 = .ok (.isub, 1) := by decide +kernel
theorem dX12_findChosen_6 : decode cX12_findChosen 6 = .ok (.istore_n 1, 1) := by decide +kernel
theorem dX12_findChosen_7 : decode cX12_findChosen 7 = .ok (.iload_n 1, 1) := by decide +kernel
theorem dX12_findChosen_8 : decode cX12_findChosen 8 = .ok (.ifCond .lt 145, 3) := by decide +kernel
theorem dX12_findChosen_11 : decode cX12_findChosen 11 = .ok (.iconst 0, 1) := by decide +kernel
theorem dX12_findChosen_12 : decode cX12_findChosen 12 = .ok (.istore_n 2, 1) := by decide +kernel
theorem dX12_findChosen_13 : decode cX12_findChosen 13 = .ok (.iload_n 2, 1) := by decide +kernel
theorem dX12_findChosen_14 : decode cX12_findChosen 14 = .ok (.aload_n 0, 1) := by decide +kernel
theorem dX12_findChosen_15 : decode cX12_findChosen 15 = .ok (.getfield 244, 3) := by decide +kernel
theorem dX12_findChosen_18 : decode cX12_findChosen 18 = .ok (.if_icmp .ge 129, 3) := by decide +kernel
theorem dX12_findChosen_21 : decode cX12_findChosen 21 = .ok (.iload_n 1, 1) := by decide +kernel
theorem dX12_findChosen_22 : decode cX12_findChosen 22 = .ok (.aload_n 0, 1) := by decide +kernel
theorem dX12_findChosen_23 : decode cX12_findChosen 23 = .ok (.getfield 190, 3) := by decide +kernel
theorem dX12_findChosen_26 : decode cX12_findChosen 26 = .ok (.iconst 1, 1) := by decide +kernel
theorem dX12_findChosen_27 : decode cX12_findChosen 27 = .ok (.isub, 1) := by decide +kernel
theorem dX12_findChosen_28 : decode cX12_findChosen 28 = .ok (.if_icmp .ne 22, 3) := by decide +kernel
theorem dX12_findChosen_31 : decode cX12_findChosen 31 = .ok (.aload_n 0, 1) := by decide +kernel
theorem dX12_findChosen_32 : decode cX12_findChosen 32 = .ok (.iload_n 2, 1) := by decide +kernel
theorem dX12_findChosen_33 : decode cX12_findChosen 33 = .ok (.iload_n 1, 1) := by decide +kernel
theorem dX12_findChosen_34 : decode cX12_findChosen 34 = .ok (.invokevirtual 339, 3) := by decide +kernel
theorem dX12_findChosen_37 : decode cX12_findChosen 37 = .ok (.ifCond .eq 13, 3) := by decide +kernel
theorem dX12_findChosen_40 : decode cX12_findChosen 40 = .ok (.aload_n 0, 1) := by decide +kernel
theorem dX12_findChosen_41 : decode cX12_findChosen 41 = .ok (.getfield 68, 3) := by decide +kernel
theorem dX12_findChosen_44 : decode cX12_findChosen 44 = .ok (.iload_n 2, 1) := by decide +kernel
theorem dX12_findChosen_45 : decode cX12_findChosen 45 = .ok (.iaload, 1) := by decide +kernel
theorem dX12_findChosen_46 : decode cX12_findChosen 46 = .ok (.i2l, 1) := by decide +kernel
theorem dX12_findChosen_47 : decode cX12_findChosen 47 = .ok (.goto 4, 3) := by decide +kernel
theorem dX12_findChosen_50 : decode cX12_findChosen 50 = .ok (.lconst 0, 1) := by decide +kernel
theorem dX12_findChosen_51 : decode cX12_findChosen 51 = .ok (.lstore_n 3, 1) := by decide +kernel
theorem dX12_findChosen_52 : decode cX12_findChosen 52 = .ok (.iconst 0, 1) := by decide +kernel
theorem dX12_findChosen_53 : decode cX12_findChosen 53 = .ok (.istore 5, 2) := by decide +kernel
theorem dX12_findChosen_55 : decode cX12_findChosen 55 = .ok (.iload 5, 2) := by decide +kernel
theorem dX12_findChosen_57 : decode cX12_findChosen 57 = .ok (.aload_n 0, 1) := by decide +kernel
theorem dX12_findChosen_58 : decode cX12_findChosen 58 = .ok (.getfield 244, 3) := by decide +kernel
theorem dX12_findChosen_61 : decode cX12_findChosen 61 = .ok (.if_icmp .ge 68, 3) := by decide +kernel
theorem dX12_findChosen_64 : decode cX12_findChosen 64 = .ok (.iload_n 1, 1) := by decide +kernel
theorem dX12_findChosen_65 : decode cX12_findChosen 65 = .ok (.aload_n 0, 1) := by decide +kernel
theorem dX12_findChosen_66 : decode cX12_findChosen 66 = .ok (.getfield 190, 3) := by decide +kernel
theorem dX12_findChosen_69 : decode cX12_findChosen 69 = .ok (.iconst 1, 1) := by decide +kernel
theorem dX12_findChosen_70 : decode cX12_findChosen 70 = .ok (.isub, 1) := by decide +kernel
theorem dX12_findChosen_71 : decode cX12_findChosen 71 = .ok (.if_icmp .ge 58, 3) := by decide +kernel
theorem dX12_findChosen_74 : decode cX12_findChosen 74 = .ok (.aload_n 0, 1) := by decide +kernel
theorem dX12_findChosen_75 : decode cX12_findChosen 75 = .ok (.iload_n 2, 1) := by decide +kernel
theorem dX12_findChosen_76 : decode cX12_findChosen 76 = .ok (.iload_n 1, 1) := by decide +kernel
theorem dX12_findChosen_77 : decode cX12_findChosen 77 = .ok (.invokevirtual 339, 3) := by decide +kernel
theorem dX12_findChosen_80 : decode cX12_findChosen 80 = .ok (.ifCond .eq 49, 3) := by decide +kernel
theorem dX12_findChosen_83 : decode cX12_findChosen 83 = .ok (.aload_n 0, 1) := by decide +kernel
theorem dX12_findChosen_84 : decode cX12_findChosen 84 = .ok (.iload 5, 2) := by decide +kernel
theorem dX12_findChosen_86 : decode cX12_findChosen 86 = .ok (.iload_n 1, 1) := by decide +kernel
theorem dX12_findChosen_87 : decode cX12_findChosen 87 = .ok (.iconst 1, 1) := by decide +kernel
theorem dX12_findChosen_88 : decode cX12_findChosen 88 = .ok (.iadd, 1) := by decide +kernel
theorem dX12_findChosen_89 : decode cX12_findChosen 89 = .ok (.invokevirtual 339, 3) := by decide +kernel
theorem dX12_findChosen_92 : decode cX12_findChosen 92 = .ok (.ifCond .eq 14, 3) := by decide +kernel
theorem dX12_findChosen_95 : decode cX12_findChosen 95 = .ok (.aload_n 0, 1) := by decide +kernel
theorem dX12_findChosen_96 : decode cX12_findChosen 96 = .ok (.iload_n 1, 1) := by decide +kernel
theorem dX12_findChosen_97 : decode cX12_findChosen 97 = .ok (.iload_n 2, 1) := by decide +kernel
theorem dX12_findChosen_98 : decode cX12_findChosen 98 = .ok (.iload 5, 2) := by decide +kernel
theorem dX12_findChosen_100 : decode cX12_findChosen 100 = .ok (.invokevirtual 342, 3) := by decide +kernel
theorem dX12_findChosen_103 : decode cX12_findChosen 103 = .ok (.goto 4, 3) := by decide +kernel
theorem dX12_findChosen_106 : decode cX12_findChosen 106 = .ok (.lconst 0, 1) := by decide +kernel
theorem dX12_findChosen_107 : decode cX12_findChosen 107 = .ok (.lstore 6, 2) := by decide +kernel
theorem dX12_findChosen_109 : decode cX12_findChosen 109 = .ok (.lload 6, 2) := by decide +kernel
theorem dX12_findChosen_111 : decode cX12_findChosen 111 = .ok (.lload_n 3, 1) := by decide +kernel
theorem dX12_findChosen_112 : decode cX12_findChosen 112 = .ok (.lcmp, 1) := by decide +kernel
theorem dX12_findChosen_113 : decode cX12_findChosen 113 = .ok (.ifCond .le 8, 3) := by decide +kernel
theorem dX12_findChosen_116 : decode cX12_findChosen 116 = .ok (.lload 6, 2) := by decide +kernel
theorem dX12_findChosen_118 : decode cX12_findChosen 118 = .ok (.goto 4, 3) := by decide +kernel
theorem dX12_findChosen_121 : decode cX12_findChosen 121 = .ok (.lload_n 3, 1) := by decide +kernel
theorem dX12_findChosen_122 : decode cX12_findChosen 122 = .ok (.lstore_n 3, 1) := by decide +kernel
theorem dX12_findChosen_123 : decode cX12_findChosen 123 = .ok (.iinc 5 1, 3) := by decide +kernel
theorem dX12_findChosen_126 : decode cX12_findChosen 126 = .ok (.goto (-71), 3) := by decide +kernel
theorem dX12_findChosen_129 : decode cX12_findChosen 129 = .ok (.aload_n 0, 1) := by decide +kernel
theorem dX12_findChosen_130 : decode cX12_findChosen 130 = .ok (.getfield 120, 3) := by decide +kernel
theorem dX12_findChosen_133 : decode cX12_findChosen 133 = .ok (.bipush 60, 2) := by decide +kernel
theorem dX12_findChosen_135 : decode cX12_findChosen 135 = .ok (.iload_n 1, 1) := by decide +kernel
theorem dX12_findChosen_136 : decode cX12_findChosen 136 = .ok (.imul, 1) := by decide +kernel
theorem dX12_findChosen_137 : decode cX12_findChosen 137 = .ok (.iload_n 2, 1) := by decide +kernel
theorem dX12_findChosen_138 : decode cX12_findChosen 138 = .ok (.iadd, 1) := by decide +kernel
theorem dX12_findChosen_139 : decode cX12_findChosen 139 = .ok (.lload_n 3, 1) := by decide +kernel
theorem dX12_findChosen_140 : decode cX12_findChosen 140 = .ok (.lastore, 1) := by decide +kernel
theorem dX12_findChosen_141 : decode cX12_findChosen 141 = .ok (.iinc 2 1, 3) := by decide +kernel
theorem dX12_findChosen_144 : decode cX12_findChosen 144 = .ok (.goto (-131), 3) := by decide +kernel
theorem dX12_findChosen_147 : decode cX12_findChosen 147 = .ok (.iinc 1 (-1), 3) := by decide +kernel
theorem dX12_findChosen_150 : decode cX12_findChosen 150 = .ok (.goto (-143), 3) := by decide +kernel
theorem dX12_findChosen_153 : decode cX12_findChosen 153 = .ok (.lconst 0, 1) := by decide +kernel
theorem dX12_findChosen_154 : decode cX12_findChosen 154 = .ok (.lstore_n 1, 1) := by decide +kernel
theorem dX12_findChosen_155 : decode cX12_findChosen 155 = .ok (.iconst 0, 1) := by decide +kernel
theorem dX12_findChosen_156 : decode cX12_findChosen 156 = .ok (.istore_n 3, 1) := by decide +kernel
theorem dX12_findChosen_157 : decode cX12_findChosen 157 = .ok (.iload_n 3, 1) := by decide +kernel
theorem dX12_findChosen_158 : decode cX12_findChosen 158 = .ok (.aload_n 0, 1) := by decide +kernel
theorem dX12_findChosen_159 : decode cX12_findChosen 159 = .ok (.getfield 244, 3) := by decide +kernel
theorem dX12_findChosen_162 : decode cX12_findChosen 162 = .ok (.if_icmp .ge 38, 3) := by decide +kernel
theorem dX12_findChosen_165 : decode cX12_findChosen 165 = .ok (.aload_n 0, 1) := by decide +kernel
theorem dX12_findChosen_166 : decode cX12_findChosen 166 = .ok (.getfield 190, 3) := by decide +kernel
theorem dX12_findChosen_169 : decode cX12_findChosen 169 = .ok (.ifCond .le 31, 3) := by decide +kernel
theorem dX12_findChosen_172 : decode cX12_findChosen 172 = .ok (.aload_n 0, 1) := by decide +kernel
theorem dX12_findChosen_173 : decode cX12_findChosen 173 = .ok (.getfield 120, 3) := by decide +kernel
theorem dX12_findChosen_176 : decode cX12_findChosen 176 = .ok (.iload_n 3, 1) := by decide +kernel
theorem dX12_findChosen_177 : decode cX12_findChosen 177 = .ok (.laload, 1) := by decide +kernel
theorem dX12_findChosen_178 : decode cX12_findChosen 178 = .ok (.lload_n 1, 1) := by decide +kernel
theorem dX12_findChosen_179 : decode cX12_findChosen 179 = .ok (.lcmp, 1) := by decide +kernel
theorem dX12_findChosen_180 : decode cX12_findChosen 180 = .ok (.ifCond .le 12, 3) := by decide +kernel
theorem dX12_findChosen_183 : decode cX12_findChosen 183 = .ok (.aload_n 0, 1) := by decide +kernel
theorem dX12_findChosen_184 : decode cX12_findChosen 184 = .ok (.getfield 120, 3) := by decide +kernel
theorem dX12_findChosen_187 : decode cX12_findChosen 187 = .ok (.iload_n 3, 1) := by decide +kernel
theorem dX12_findChosen_188 : decode cX12_findChosen 188 = .ok (.laload, 1) := by decide +kernel
theorem dX12_findChosen_189 : decode cX12_findChosen 189 = .ok (.goto 4, 3) := by decide +kernel
theorem dX12_findChosen_192 : decode cX12_findChosen 192 = .ok (.lload_n 1, 1) := by decide +kernel
theorem dX12_findChosen_193 : decode cX12_findChosen 193 = .ok (.lstore_n 1, 1) := by decide +kernel
theorem dX12_findChosen_194 : decode cX12_findChosen 194 = .ok (.iinc 3 1, 3) := by decide +kernel
theorem dX12_findChosen_197 : decode cX12_findChosen 197 = .ok (.goto (-40), 3) := by decide +kernel
theorem dX12_findChosen_200 : decode cX12_findChosen 200 = .ok (.lload_n 1, 1) := by decide +kernel
theorem dX12_findChosen_201 : decode cX12_findChosen 201 = .ok (.lreturn, 1) := by decide +kernel
theorem dX12_layChosen_0 : decode cX12_layChosen 0 = .ok (.aload_n 0, 1) := by decide +kernel
theorem dX12_layChosen_1 : decode cX12_layChosen 1 = .ok (.invokevirtual 346, 3) := by decide +kernel
theorem dX12_layChosen_4 : decode cX12_layChosen 4 = .ok (.lstore_n 1, 1) := by decide +kernel
theorem dX12_layChosen_5 : decode cX12_layChosen 5 = .ok (.iconst 0, 1) := by decide +kernel
theorem dX12_layChosen_6 : decode cX12_layChosen 6 = .ok (.istore_n 3, 1) := by decide +kernel
theorem dX12_layChosen_7 : decode cX12_layChosen 7 = .ok (.iload_n 3, 1) := by decide +kernel
theorem dX12_layChosen_8 : decode cX12_layChosen 8 = .ok (.aload_n 0, 1) := by decide +kernel
theorem dX12_layChosen_9 : decode cX12_layChosen 9 = .ok (.getfield 190, 3) := by decide +kernel
theorem dX12_layChosen_12 : decode cX12_layChosen 12 = .ok (.if_icmp .ge 119, 3) := by decide +kernel
theorem dX12_layChosen_15 : decode cX12_layChosen 15 = .ok (.iconst (-1), 1) := by decide +kernel
theorem dX12_layChosen_16 : decode cX12_layChosen 16 = .ok (.istore 4, 2) := by decide +kernel
theorem dX12_layChosen_18 : decode cX12_layChosen 18 = .ok (.iconst 0, 1) := by decide +kernel
theorem dX12_layChosen_19 : decode cX12_layChosen 19 = .ok (.istore 5, 2) := by decide +kernel
theorem dX12_layChosen_21 : decode cX12_layChosen 21 = .ok (.iload 5, 2) := by decide +kernel
theorem dX12_layChosen_23 : decode cX12_layChosen 23 = .ok (.aload_n 0, 1) := by decide +kernel
theorem dX12_layChosen_24 : decode cX12_layChosen 24 = .ok (.getfield 244, 3) := by decide +kernel
theorem dX12_layChosen_27 : decode cX12_layChosen 27 = .ok (.if_icmp .ge 77, 3) := by decide +kernel
theorem dX12_layChosen_30 : decode cX12_layChosen 30 = .ok (.iload 4, 2) := by decide +kernel
theorem dX12_layChosen_32 : decode cX12_layChosen 32 = .ok (.ifCond .ge 72, 3) := by decide +kernel
theorem dX12_layChosen_35 : decode cX12_layChosen 35 = .ok (.iload_n 3, 1) := by decide +kernel
theorem dX12_layChosen_36 : decode cX12_layChosen 36 = .ok (.ifCond .ne 13, 3) := by decide +kernel
theorem dX12_layChosen_39 : decode cX12_layChosen 39 = .ok (.aload_n 0, 1) := by decide +kernel
theorem dX12_layChosen_40 : decode cX12_layChosen 40 = .ok (.getfield 120, 3) := by decide +kernel
theorem dX12_layChosen_43 : decode cX12_layChosen 43 = .ok (.iload 5, 2) := by decide +kernel
theorem dX12_layChosen_45 : decode cX12_layChosen 45 = .ok (.laload, 1) := by decide +kernel
theorem dX12_layChosen_46 : decode cX12_layChosen 46 = .ok (.goto 34, 3) := by decide +kernel
theorem dX12_layChosen_49 : decode cX12_layChosen 49 = .ok (.aload_n 0, 1) := by decide +kernel
theorem dX12_layChosen_50 : decode cX12_layChosen 50 = .ok (.iload 5, 2) := by decide +kernel
theorem dX12_layChosen_52 : decode cX12_layChosen 52 = .ok (.iload_n 3, 1) := by decide +kernel
theorem dX12_layChosen_53 : decode cX12_layChosen 53 = .ok (.invokevirtual 339, 3) := by decide +kernel
theorem dX12_layChosen_56 : decode cX12_layChosen 56 = .ok (.ifCond .eq 23, 3) := by decide +kernel
theorem dX12_layChosen_59 : decode cX12_layChosen 59 = .ok (.aload_n 0, 1) := by decide +kernel
theorem dX12_layChosen_60 : decode cX12_layChosen 60 = .ok (.iload_n 3, 1) := by decide +kernel
theorem dX12_layChosen_61 : decode cX12_layChosen 61 = .ok (.iconst 1, 1) := by decide +kernel
theorem dX12_layChosen_62 : decode cX12_layChosen 62 = .ok (.isub, 1) := by decide +kernel
theorem dX12_layChosen_63 : decode cX12_layChosen 63 = .ok (.aload_n 0, 1) := by decide +kernel
theorem dX12_layChosen_64 : decode cX12_layChosen 64 = .ok (.getfield 123, 3) := by decide +kernel
theorem dX12_layChosen_67 : decode cX12_layChosen 67 = .ok (.iload_n 3, 1) := by decide +kernel
theorem dX12_layChosen_68 : decode cX12_layChosen 68 = .ok (.iconst 1, 1) := by decide +kernel
theorem dX12_layChosen_69 : decode cX12_layChosen 69 = .ok (.isub, 1) := by decide +kernel
theorem dX12_layChosen_70 : decode cX12_layChosen 70 = .ok (.iaload, 1) := by decide +kernel
theorem dX12_layChosen_71 : decode cX12_layChosen 71 = .ok (.iload 5, 2) := by decide +kernel
theorem dX12_layChosen_73 : decode cX12_layChosen 73 = .ok (.invokevirtual 342, 3) := by decide +kernel
theorem dX12_layChosen_76 : decode cX12_layChosen 76 = .ok (.goto 4, 3) := by decide +kernel
theorem dX12_layChosen_79 : decode cX12_layChosen 79 = .ok (.lconst 0, 1) := by decide +kernel
theorem dX12_layChosen_80 : decode cX12_layChosen 80 = .ok (.lstore 6, 2) := by decide +kernel
theorem dX12_layChosen_82 : decode cX12_layChosen 82 = .ok (.lload 6, 2) := by decide +kernel
theorem dX12_layChosen_84 : decode cX12_layChosen 84 = .ok (.lload_n 1, 1) := by decide +kernel
theorem dX12_layChosen_85 : decode cX12_layChosen 85 = .ok (.lcmp, 1) := by decide +kernel
theorem dX12_layChosen_86 : decode cX12_layChosen 86 = .ok (.ifCond .ne 8, 3) := by decide +kernel
theorem dX12_layChosen_89 : decode cX12_layChosen 89 = .ok (.iload 5, 2) := by decide +kernel
theorem dX12_layChosen_91 : decode cX12_layChosen 91 = .ok (.goto 5, 3) := by decide +kernel
theorem dX12_layChosen_94 : decode cX12_layChosen 94 = .ok (.iload 4, 2) := by decide +kernel
theorem dX12_layChosen_96 : decode cX12_layChosen 96 = .ok (.istore 4, 2) := by decide +kernel
theorem dX12_layChosen_98 : decode cX12_layChosen 98 = .ok (.iinc 5 1, 3) := by decide +kernel
theorem dX12_layChosen_101 : decode cX12_layChosen 101 = .ok (.goto (-80), 3) := by decide +kernel
theorem dX12_layChosen_104 : decode cX12_layChosen 104 = .ok (.aload_n 0, 1) := by decide +kernel
theorem dX12_layChosen_105 : decode cX12_layChosen 105 = .ok (.getfield 123, 3) := by decide +kernel
theorem dX12_layChosen_108 : decode cX12_layChosen 108 = .ok (.iload_n 3, 1) := by decide +kernel
theorem dX12_layChosen_109 : decode cX12_layChosen 109 = .ok (.iload 4, 2) := by decide +kernel
theorem dX12_layChosen_111 : decode cX12_layChosen 111 = .ok (.iastore, 1) := by decide +kernel
theorem dX12_layChosen_112 : decode cX12_layChosen 112 = .ok (.aload_n 0, 1) := by decide +kernel
theorem dX12_layChosen_113 : decode cX12_layChosen 113 = .ok (.getfield 120, 3) := by decide +kernel
theorem dX12_layChosen_116 : decode cX12_layChosen 116 = .ok (.bipush 60, 2) := by decide +kernel
theorem dX12_layChosen_118 : decode cX12_layChosen 118 = .ok (.iload_n 3, 1) := by decide +kernel
theorem dX12_layChosen_119 : decode cX12_layChosen 119 = .ok (.imul, 1) := by decide +kernel
theorem dX12_layChosen_120 : decode cX12_layChosen 120 = .ok (.iload 4, 2) := by decide +kernel
theorem dX12_layChosen_122 : decode cX12_layChosen 122 = .ok (.iadd, 1) := by decide +kernel
theorem dX12_layChosen_123 : decode cX12_layChosen 123 = .ok (.laload, 1) := by decide +kernel
theorem dX12_layChosen_124 : decode cX12_layChosen 124 = .ok (.lstore_n 1, 1) := by decide +kernel
theorem dX12_layChosen_125 : decode cX12_layChosen 125 = .ok (.iinc 3 1, 3) := by decide +kernel
theorem dX12_layChosen_128 : decode cX12_layChosen 128 = .ok (.goto (-121), 3) := by decide +kernel
theorem dX12_layChosen_131 : decode cX12_layChosen 131 = .ok (.return_, 1) := by decide +kernel
theorem dX12_chosen_0 : decode cX12_chosen 0 = .ok (.iload_n 1, 1) := by decide +kernel
theorem dX12_chosen_1 : decode cX12_chosen 1 = .ok (.i2l, 1) := by decide +kernel
theorem dX12_chosen_2 : decode cX12_chosen 2 = .ok (.lconst 0, 1) := by decide +kernel
theorem dX12_chosen_3 : decode cX12_chosen 3 = .ok (.aload_n 0, 1) := by decide +kernel
theorem dX12_chosen_4 : decode cX12_chosen 4 = .ok (.getfield 190, 3) := by decide +kernel
theorem dX12_chosen_7 : decode cX12_chosen 7 = .ok (.iconst 1, 1) := by decide +kernel
theorem dX12_chosen_8 : decode cX12_chosen 8 = .ok (.isub, 1) := by decide +kernel
theorem dX12_chosen_9 : decode cX12_chosen 9 = .ok (.i2l, 1) := by decide +kernel
theorem dX12_chosen_10 : decode cX12_chosen 10 = .ok (.invokestatic 178, 3) := by decide +kernel
theorem dX12_chosen_13 : decode cX12_chosen 13 = .ok (.ifCond .ne 6, 3) := by decide +kernel
theorem dX12_chosen_16 : decode cX12_chosen 16 = .ok (.bipush (-6), 2) := by decide +kernel
theorem dX12_chosen_18 : decode cX12_chosen 18 = .ok (.ireturn, 1) := by decide +kernel
theorem dX12_chosen_19 : decode cX12_chosen 19 = .ok (.aload_n 0, 1) := by decide +kernel
theorem dX12_chosen_20 : decode cX12_chosen 20 = .ok (.invokevirtual 350, 3) := by decide +kernel
theorem dX12_chosen_23 : decode cX12_chosen 23 = .ok (.aload_n 0, 1) := by decide +kernel
theorem dX12_chosen_24 : decode cX12_chosen 24 = .ok (.getfield 123, 3) := by decide +kernel
theorem dX12_chosen_27 : decode cX12_chosen 27 = .ok (.iload_n 1, 1) := by decide +kernel
theorem dX12_chosen_28 : decode cX12_chosen 28 = .ok (.iaload, 1) := by decide +kernel
theorem dX12_chosen_29 : decode cX12_chosen 29 = .ok (.ireturn, 1) := by decide +kernel
theorem dX12_product_0 : decode cX12_product 0 = .ok (.aload_n 0, 1) := by decide +kernel
theorem dX12_product_1 : decode cX12_product 1 = .ok (.invokevirtual 346, 3) := by decide +kernel
theorem dX12_product_4 : decode cX12_product 4 = .ok (.lreturn, 1) := by decide +kernel
theorem dX12_isHand_0 : decode cX12_isHand 0 = .ok (.iload_n 0, 1) := by decide +kernel
theorem dX12_isHand_1 : decode cX12_isHand 1 = .ok (.i2l, 1) := by decide +kernel
theorem dX12_isHand_2 : decode cX12_isHand 2 = .ok (.lconst 0, 1) := by decide +kernel
theorem dX12_isHand_3 : decode cX12_isHand 3 = .ok (.ldc2_w 353, 3) := by decide +kernel
theorem dX12_isHand_6 : decode cX12_isHand 6 = .ok (.invokestatic 178, 3) := by decide +kernel
theorem dX12_isHand_9 : decode cX12_isHand 9 = .ok (.ireturn, 1) := by decide +kernel
theorem dX12_learn_0 : decode cX12_learn 0 = .ok (.iload_n 1, 1) := by decide +kernel
theorem dX12_learn_1 : decode cX12_learn 1 = .ok (.invokestatic 355, 3) := by decide +kernel
theorem dX12_learn_4 : decode cX12_learn 4 = .ok (.ifCond .eq 11, 3) := by decide +kernel
theorem dX12_learn_7 : decode cX12_learn 7 = .ok (.aload_n 0, 1) := by decide +kernel
theorem dX12_learn_8 : decode cX12_learn 8 = .ok (.iload_n 2, 1) := by decide +kernel
theorem dX12_learn_9 : decode cX12_learn 9 = .ok (.invokevirtual 251, 3) := by decide +kernel
theorem dX12_learn_12 : decode cX12_learn 12 = .ok (.ifCond .ne 5, 3) := by decide +kernel
theorem dX12_learn_15 : decode cX12_learn 15 = .ok (.iconst (-1), 1) := by decide +kernel
theorem dX12_learn_16 : decode cX12_learn 16 = .ok (.ireturn, 1) := by decide +kernel
theorem dX12_learn_17 : decode cX12_learn 17 = .ok (.iload_n 3, 1) := by decide +kernel
theorem dX12_learn_18 : decode cX12_learn 18 = .ok (.i2l, 1) := by decide +kernel
theorem dX12_learn_19 : decode cX12_learn 19 = .ok (.lconst 0, 1) := by decide +kernel
theorem dX12_learn_20 : decode cX12_learn 20 = .ok (.ldc2_w 358, 3) := by decide +kernel
theorem dX12_learn_23 : decode cX12_learn 23 = .ok (.invokestatic 178, 3) := by decide +kernel
theorem dX12_learn_26 : decode cX12_learn 26 = .ok (.ifCond .ne 6, 3) := by decide +kernel
theorem dX12_learn_29 : decode cX12_learn 29 = .ok (.bipush (-2), 2) := by decide +kernel
theorem dX12_learn_31 : decode cX12_learn 31 = .ok (.ireturn, 1) := by decide +kernel
theorem dX12_learn_32 : decode cX12_learn 32 = .ok (.aload_n 0, 1) := by decide +kernel
theorem dX12_learn_33 : decode cX12_learn 33 = .ok (.getfield 360, 3) := by decide +kernel
theorem dX12_learn_36 : decode cX12_learn 36 = .ok (.bipush 60, 2) := by decide +kernel
theorem dX12_learn_38 : decode cX12_learn 38 = .ok (.if_icmp .ne 6, 3) := by decide +kernel
theorem dX12_learn_41 : decode cX12_learn 41 = .ok (.bipush (-4), 2) := by decide +kernel
theorem dX12_learn_43 : decode cX12_learn 43 = .ok (.ireturn, 1) := by decide +kernel
theorem dX12_learn_44 : decode cX12_learn 44 = .ok (.iconst 0, 1) := by decide +kernel
theorem dX12_learn_45 : decode cX12_learn 45 = .ok (.istore 4, 2) := by decide +kernel
theorem dX12_learn_47 : decode cX12_learn 47 = .ok (.iload 4, 2) := by decide +kernel
theorem dX12_learn_49 : decode cX12_learn 49 = .ok (.aload_n 0, 1) := by decide +kernel
theorem dX12_learn_50 : decode cX12_learn 50 = .ok (.getfield 360, 3) := by decide +kernel
theorem dX12_learn_53 : decode cX12_learn 53 = .ok (.if_icmp .ge 34, 3) := by decide +kernel
theorem dX12_learn_56 : decode cX12_learn 56 = .ok (.aload_n 0, 1) := by decide +kernel
theorem dX12_learn_57 : decode cX12_learn 57 = .ok (.getfield 126, 3) := by decide +kernel
theorem dX12_learn_60 : decode cX12_learn 60 = .ok (.iload 4, 2) := by decide +kernel
theorem dX12_learn_62 : decode cX12_learn 62 = .ok (.iaload, 1) := by decide +kernel
theorem dX12_learn_63 : decode cX12_learn 63 = .ok (.iload_n 1, 1) := by decide +kernel
theorem dX12_learn_64 : decode cX12_learn 64 = .ok (.if_icmp .ne 17, 3) := by decide +kernel
theorem dX12_learn_67 : decode cX12_learn 67 = .ok (.aload_n 0, 1) := by decide +kernel
theorem dX12_learn_68 : decode cX12_learn 68 = .ok (.getfield 132, 3) := by decide +kernel
theorem dX12_learn_71 : decode cX12_learn 71 = .ok (.iload 4, 2) := by decide +kernel
theorem dX12_learn_73 : decode cX12_learn 73 = .ok (.iaload, 1) := by decide +kernel
theorem dX12_learn_74 : decode cX12_learn 74 = .ok (.iload_n 3, 1) := by decide +kernel
theorem dX12_learn_75 : decode cX12_learn 75 = .ok (.if_icmp .le 6, 3) := by decide +kernel
theorem dX12_learn_78 : decode cX12_learn 78 = .ok (.bipush (-5), 2) := by decide +kernel
theorem dX12_learn_80 : decode cX12_learn 80 = .ok (.ireturn, 1) := by decide +kernel
theorem dX12_learn_81 : decode cX12_learn 81 = .ok (.iinc 4 1, 3) := by decide +kernel
theorem dX12_learn_84 : decode cX12_learn 84 = .ok (.goto (-37), 3) := by decide +kernel
theorem dX12_learn_87 : decode cX12_learn 87 = .ok (.aload_n 0, 1) := by decide +kernel
theorem dX12_learn_88 : decode cX12_learn 88 = .ok (.getfield 126, 3) := by decide +kernel
theorem dX12_learn_91 : decode cX12_learn 91 = .ok (.aload_n 0, 1) := by decide +kernel
theorem dX12_learn_92 : decode cX12_learn 92 = .ok (.getfield 360, 3) := by decide +kernel
theorem dX12_learn_95 : decode cX12_learn 95 = .ok (.iload_n 1, 1) := by decide +kernel
theorem dX12_learn_96 : decode cX12_learn 96 = .ok (.iastore, 1) := by decide +kernel
theorem dX12_learn_97 : decode cX12_learn 97 = .ok (.aload_n 0, 1) := by decide +kernel
theorem dX12_learn_98 : decode cX12_learn 98 = .ok (.getfield 129, 3) := by decide +kernel
theorem dX12_learn_101 : decode cX12_learn 101 = .ok (.aload_n 0, 1) := by decide +kernel
theorem dX12_learn_102 : decode cX12_learn 102 = .ok (.getfield 360, 3) := by decide +kernel
theorem dX12_learn_105 : decode cX12_learn 105 = .ok (.iload_n 2, 1) := by decide +kernel
theorem dX12_learn_106 : decode cX12_learn 106 = .ok (.iastore, 1) := by decide +kernel
theorem dX12_learn_107 : decode cX12_learn 107 = .ok (.aload_n 0, 1) := by decide +kernel
theorem dX12_learn_108 : decode cX12_learn 108 = .ok (.getfield 132, 3) := by decide +kernel
theorem dX12_learn_111 : decode cX12_learn 111 = .ok (.aload_n 0, 1) := by decide +kernel
theorem dX12_learn_112 : decode cX12_learn 112 = .ok (.getfield 360, 3) := by decide +kernel
theorem dX12_learn_115 : decode cX12_learn 115 = .ok (.iload_n 3, 1) := by decide +kernel
theorem dX12_learn_116 : decode cX12_learn 116 = .ok (.iastore, 1) := by decide +kernel
theorem dX12_learn_117 : decode cX12_learn 117 = .ok (.aload_n 0, 1) := by decide +kernel
theorem dX12_learn_118 : decode cX12_learn 118 = .ok (.dup, 1) := by decide +kernel
theorem dX12_learn_119 : decode cX12_learn 119 = .ok (.getfield 360, 3) := by decide +kernel
theorem dX12_learn_122 : decode cX12_learn 122 = .ok (.iconst 1, 1) := by decide +kernel
theorem dX12_learn_123 : decode cX12_learn 123 = .ok (.iadd, 1) := by decide +kernel
theorem dX12_learn_124 : decode cX12_learn 124 = .ok (.putfield 360, 3) := by decide +kernel
theorem dX12_learn_127 : decode cX12_learn 127 = .ok (.aload_n 0, 1) := by decide +kernel
theorem dX12_learn_128 : decode cX12_learn 128 = .ok (.getfield 360, 3) := by decide +kernel
theorem dX12_learn_131 : decode cX12_learn 131 = .ok (.ireturn, 1) := by decide +kernel
theorem dX12_worthOf_0 : decode cX12_worthOf 0 = .ok (.iconst 0, 1) := by decide +kernel
theorem dX12_worthOf_1 : decode cX12_worthOf 1 = .ok (.istore 4, 2) := by decide +kernel
theorem dX12_worthOf_3 : decode cX12_worthOf 3 = .ok (.iconst 0, 1) := by decide +kernel
theorem dX12_worthOf_4 : decode cX12_worthOf 4 = .ok (.istore 5, 2) := by decide +kernel
theorem dX12_worthOf_6 : decode cX12_worthOf 6 = .ok (.iload 5, 2) := by decide +kernel
theorem dX12_worthOf_8 : decode cX12_worthOf 8 = .ok (.aload_n 0, 1) := by decide +kernel
theorem dX12_worthOf_9 : decode cX12_worthOf 9 = .ok (.getfield 360, 3) := by decide +kernel
theorem dX12_worthOf_12 : decode cX12_worthOf 12 = .ok (.if_icmp .ge 103, 3) := by decide +kernel
theorem dX12_worthOf_15 : decode cX12_worthOf 15 = .ok (.aload_n 0, 1) := by decide +kernel
theorem dX12_worthOf_16 : decode cX12_worthOf 16 = .ok (.getfield 126, 3) := by decide +kernel
theorem dX12_worthOf_19 : decode cX12_worthOf 19 = .ok (.iload 5, 2) := by decide +kernel
theorem dX12_worthOf_21 : decode cX12_worthOf 21 = .ok (.iaload, 1) := by decide +kernel
theorem dX12_worthOf_22 : decode cX12_worthOf 22 = .ok (.iload_n 1, 1) := by decide +kernel
theorem dX12_worthOf_23 : decode cX12_worthOf 23 = .ok (.if_icmp .ne 86, 3) := by decide +kernel
theorem dX12_worthOf_26 : decode cX12_worthOf 26 = .ok (.aload_n 0, 1) := by decide +kernel
theorem dX12_worthOf_27 : decode cX12_worthOf 27 = .ok (.getfield 129, 3) := by decide +kernel
theorem dX12_worthOf_30 : decode cX12_worthOf 30 = .ok (.iload 5, 2) := by decide +kernel
theorem dX12_worthOf_32 : decode cX12_worthOf 32 = .ok (.iaload, 1) := by decide +kernel
theorem dX12_worthOf_33 : decode cX12_worthOf 33 = .ok (.iload_n 2, 1) := by decide +kernel
theorem dX12_worthOf_34 : decode cX12_worthOf 34 = .ok (.if_icmp .ne 75, 3) := by decide +kernel
theorem dX12_worthOf_37 : decode cX12_worthOf 37 = .ok (.aload_n 0, 1) := by decide +kernel
theorem dX12_worthOf_38 : decode cX12_worthOf 38 = .ok (.getfield 132, 3) := by decide +kernel
theorem dX12_worthOf_41 : decode cX12_worthOf 41 = .ok (.iload 5, 2) := by decide +kernel
theorem dX12_worthOf_43 : decode cX12_worthOf 43 = .ok (.iaload, 1) := by decide +kernel
theorem dX12_worthOf_44 : decode cX12_worthOf 44 = .ok (.iload_n 3, 1) := by decide +kernel
theorem dX12_worthOf_45 : decode cX12_worthOf 45 = .ok (.if_icmp .gt 64, 3) := by decide +kernel
theorem dX12_worthOf_48 : decode cX12_worthOf 48 = .ok (.sipush 1000, 3) := by decide +kernel
theorem dX12_worthOf_51 : decode cX12_worthOf 51 = .ok (.istore 6, 2) := by decide +kernel
theorem dX12_worthOf_53 : decode cX12_worthOf 53 = .ok (.aload_n 0, 1) := by decide +kernel
theorem dX12_worthOf_54 : decode cX12_worthOf 54 = .ok (.getfield 132, 3) := by decide +kernel
theorem dX12_worthOf_57 : decode cX12_worthOf 57 = .ok (.iload 5, 2) := by decide +kernel
theorem dX12_worthOf_59 : decode cX12_worthOf 59 = .ok (.iaload, 1) := by decide +kernel
theorem dX12_worthOf_60 : decode cX12_worthOf 60 = .ok (.istore 7, 2) := by decide +kernel
theorem dX12_worthOf_62 : decode cX12_worthOf 62 = .ok (.iload 7, 2) := by decide +kernel
theorem dX12_worthOf_64 : decode cX12_worthOf 64 = .ok (.iload_n 3, 1) := by decide +kernel
theorem dX12_worthOf_65 : decode cX12_worthOf 65 = .ok (.if_icmp .ge 37, 3) := by decide +kernel
theorem dX12_worthOf_68 : decode cX12_worthOf 68 = .ok (.iload 6, 2) := by decide +kernel
theorem dX12_worthOf_70 : decode cX12_worthOf 70 = .ok (.ifCond .le 32, 3) := by decide +kernel
theorem dX12_worthOf_73 : decode cX12_worthOf 73 = .ok (.aload_n 0, 1) := by decide +kernel
theorem dX12_worthOf_74 : decode cX12_worthOf 74 = .ok (.getfield 135, 3) := by decide +kernel
theorem dX12_worthOf_77 : decode cX12_worthOf 77 = .ok (.sipush 1000, 3) := by decide +kernel
theorem dX12_worthOf_80 : decode cX12_worthOf 80 = .ok (.if_icmp .ge 22, 3) := by decide +kernel
theorem dX12_worthOf_83 : decode cX12_worthOf 83 = .ok (.iload 6, 2) := by decide +kernel
theorem dX12_worthOf_85 : decode cX12_worthOf 85 = .ok (.aload_n 0, 1) := by decide +kernel
theorem dX12_worthOf_86 : decode cX12_worthOf 86 = .ok (.getfield 135, 3) := by decide +kernel
theorem dX12_worthOf_89 : decode cX12_worthOf 89 = .ok (.imul, 1) := by decide +kernel
theorem dX12_worthOf_90 : decode cX12_worthOf 90 = .ok (.sipush 1000, 3) := by decide +kernel
theorem dX12_worthOf_93 : decode cX12_worthOf 93 = .ok (.idiv, 1) := by decide +kernel
theorem dX12_worthOf_94 : decode cX12_worthOf 94 = .ok (.istore 6, 2) := by decide +kernel
theorem dX12_worthOf_96 : decode cX12_worthOf 96 = .ok (.iinc 7 1, 3) := by decide +kernel
theorem dX12_worthOf_99 : decode cX12_worthOf 99 = .ok (.goto (-37), 3) := by decide +kernel
theorem dX12_worthOf_102 : decode cX12_worthOf 102 = .ok (.iload 4, 2) := by decide +kernel
theorem dX12_worthOf_104 : decode cX12_worthOf 104 = .ok (.iload 6, 2) := by decide +kernel
theorem dX12_worthOf_106 : decode cX12_worthOf 106 = .ok (.iadd, 1) := by decide +kernel
theorem dX12_worthOf_107 : decode cX12_worthOf 107 = .ok (.istore 4, 2) := by decide +kernel
theorem dX12_worthOf_109 : decode cX12_worthOf 109 = .ok (.iinc 5 1, 3) := by decide +kernel
theorem dX12_worthOf_112 : decode cX12_worthOf 112 = .ok (.goto (-106), 3) := by decide +kernel
theorem dX12_worthOf_115 : decode cX12_worthOf 115 = .ok (.iload 4, 2) := by decide +kernel
theorem dX12_worthOf_117 : decode cX12_worthOf 117 = .ok (.ireturn, 1) := by decide +kernel
theorem dX12_worth_0 : decode cX12_worth 0 = .ok (.iload_n 1, 1) := by decide +kernel
theorem dX12_worth_1 : decode cX12_worth 1 = .ok (.invokestatic 355, 3) := by decide +kernel
theorem dX12_worth_4 : decode cX12_worth 4 = .ok (.ifCond .eq 11, 3) := by decide +kernel
theorem dX12_worth_7 : decode cX12_worth 7 = .ok (.aload_n 0, 1) := by decide +kernel
theorem dX12_worth_8 : decode cX12_worth 8 = .ok (.iload_n 2, 1) := by decide +kernel
theorem dX12_worth_9 : decode cX12_worth 9 = .ok (.invokevirtual 251, 3) := by decide +kernel
theorem dX12_worth_12 : decode cX12_worth 12 = .ok (.ifCond .ne 5, 3) := by decide +kernel
theorem dX12_worth_15 : decode cX12_worth 15 = .ok (.iconst (-1), 1) := by decide +kernel
theorem dX12_worth_16 : decode cX12_worth 16 = .ok (.ireturn, 1) := by decide +kernel
theorem dX12_worth_17 : decode cX12_worth 17 = .ok (.iload_n 3, 1) := by decide +kernel
theorem dX12_worth_18 : decode cX12_worth 18 = .ok (.i2l, 1) := by decide +kernel
theorem dX12_worth_19 : decode cX12_worth 19 = .ok (.lconst 0, 1) := by decide +kernel
theorem dX12_worth_20 : decode cX12_worth 20 = .ok (.ldc2_w 358, 3) := by decide +kernel
theorem dX12_worth_23 : decode cX12_worth 23 = .ok (.invokestatic 178, 3) := by decide +kernel
theorem dX12_worth_26 : decode cX12_worth 26 = .ok (.ifCond .eq 13, 3) := by decide +kernel
theorem dX12_worth_29 : decode cX12_worth 29 = .ok (.aload_n 0, 1) := by decide +kernel
theorem dX12_worth_30 : decode cX12_worth 30 = .ok (.iload_n 1, 1) := by decide +kernel
theorem dX12_worth_31 : decode cX12_worth 31 = .ok (.iload_n 2, 1) := by decide +kernel
theorem dX12_worth_32 : decode cX12_worth 32 = .ok (.iload_n 3, 1) := by decide +kernel
theorem dX12_worth_33 : decode cX12_worth 33 = .ok (.invokevirtual 279, 3) := by decide +kernel
theorem dX12_worth_36 : decode cX12_worth 36 = .ok (.goto 5, 3) := by decide +kernel
theorem dX12_worth_39 : decode cX12_worth 39 = .ok (.bipush (-2), 2) := by decide +kernel
theorem dX12_worth_41 : decode cX12_worth 41 = .ok (.ireturn, 1) := by decide +kernel
theorem dX12_forget_0 : decode cX12_forget 0 = .ok (.iload_n 1, 1) := by decide +kernel
theorem dX12_forget_1 : decode cX12_forget 1 = .ok (.invokestatic 355, 3) := by decide +kernel
theorem dX12_forget_4 : decode cX12_forget 4 = .ok (.ifCond .eq 16, 3) := by decide +kernel
theorem dX12_forget_7 : decode cX12_forget 7 = .ok (.iload_n 2, 1) := by decide +kernel
theorem dX12_forget_8 : decode cX12_forget 8 = .ok (.iconst (-1), 1) := by decide +kernel
theorem dX12_forget_9 : decode cX12_forget 9 = .ok (.if_icmp .eq 13, 3) := by decide +kernel
theorem dX12_forget_12 : decode cX12_forget 12 = .ok (.aload_n 0, 1) := by decide +kernel
theorem dX12_forget_13 : decode cX12_forget 13 = .ok (.iload_n 2, 1) := by decide +kernel
theorem dX12_forget_14 : decode cX12_forget 14 = .ok (.invokevirtual 251, 3) := by decide +kernel
theorem dX12_forget_17 : decode cX12_forget 17 = .ok (.ifCond .ne 5, 3) := by decide +kernel
theorem dX12_forget_20 : decode cX12_forget 20 = .ok (.iconst (-1), 1) := by decide +kernel
theorem dX12_forget_21 : decode cX12_forget 21 = .ok (.ireturn, 1) := by decide +kernel
theorem dX12_forget_22 : decode cX12_forget 22 = .ok (.iconst 0, 1) := by decide +kernel
theorem dX12_forget_23 : decode cX12_forget 23 = .ok (.istore_n 3, 1) := by decide +kernel
theorem dX12_forget_24 : decode cX12_forget 24 = .ok (.iconst 0, 1) := by decide +kernel
theorem dX12_forget_25 : decode cX12_forget 25 = .ok (.istore 4, 2) := by decide +kernel
theorem dX12_forget_27 : decode cX12_forget 27 = .ok (.iload 4, 2) := by decide +kernel
theorem dX12_forget_29 : decode cX12_forget 29 = .ok (.aload_n 0, 1) := by decide +kernel
theorem dX12_forget_30 : decode cX12_forget 30 = .ok (.getfield 360, 3) := by decide +kernel
theorem dX12_forget_33 : decode cX12_forget 33 = .ok (.if_icmp .ge 90, 3) := by decide +kernel
theorem dX12_forget_36 : decode cX12_forget 36 = .ok (.aload_n 0, 1) := by decide +kernel
theorem dX12_forget_37 : decode cX12_forget 37 = .ok (.getfield 126, 3) := by decide +kernel
theorem dX12_forget_40 : decode cX12_forget 40 = .ok (.iload 4, 2) := by decide +kernel
theorem dX12_forget_42 : decode cX12_forget 42 = .ok (.iaload, 1) := by decide +kernel
theorem dX12_forget_43 : decode cX12_forget 43 = .ok (.iload_n 1, 1) := by decide +kernel
theorem dX12_forget_44 : decode cX12_forget 44 = .ok (.if_icmp .ne 23, 3) := by decide +kernel
theorem dX12_forget_47 : decode cX12_forget 47 = .ok (.iload_n 2, 1) := by decide +kernel
theorem dX12_forget_48 : decode cX12_forget 48 = .ok (.iconst (-1), 1) := by decide +kernel
theorem dX12_forget_49 : decode cX12_forget 49 = .ok (.if_icmp .eq 14, 3) := by decide +kernel
theorem dX12_forget_52 : decode cX12_forget 52 = .ok (.aload_n 0, 1) := by decide +kernel
theorem dX12_forget_53 : decode cX12_forget 53 = .ok (.getfield 129, 3) := by decide +kernel
theorem dX12_forget_56 : decode cX12_forget 56 = .ok (.iload 4, 2) := by decide +kernel
theorem dX12_forget_58 : decode cX12_forget 58 = .ok (.iaload, 1) := by decide +kernel
theorem dX12_forget_59 : decode cX12_forget 59 = .ok (.iload_n 2, 1) := by decide +kernel
theorem dX12_forget_60 : decode cX12_forget 60 = .ok (.if_icmp .ne 7, 3) := by decide +kernel
theorem dX12_forget_63 : decode cX12_forget 63 = .ok (.iconst 1, 1) := by decide +kernel
theorem dX12_forget_64 : decode cX12_forget 64 = .ok (.goto 4, 3) := by decide +kernel
theorem dX12_forget_67 : decode cX12_forget 67 = .ok (.iconst 0, 1) := by decide +kernel
theorem dX12_forget_68 : decode cX12_forget 68 = .ok (.istore 5, 2) := by decide +kernel
theorem dX12_forget_70 : decode cX12_forget 70 = .ok (.iload 5, 2) := by decide +kernel
theorem dX12_forget_72 : decode cX12_forget 72 = .ok (.ifCond .ne 45, 3) := by decide +kernel
theorem dX12_forget_75 : decode cX12_forget 75 = .ok (.aload_n 0, 1) := by decide +kernel
theorem dX12_forget_76 : decode cX12_forget 76 = .ok (.getfield 126, 3) := by decide +kernel
theorem dX12_forget_79 : decode cX12_forget 79 = .ok (.iload_n 3, 1) := by decide +kernel
theorem dX12_forget_80 : decode cX12_forget 80 = .ok (.aload_n 0, 1) := by decide +kernel
theorem dX12_forget_81 : decode cX12_forget 81 = .ok (.getfield 126, 3) := by decide +kernel
theorem dX12_forget_84 : decode cX12_forget 84 = .ok (.iload 4, 2) := by decide +kernel
theorem dX12_forget_86 : decode cX12_forget 86 = .ok (.iaload, 1) := by decide +kernel
theorem dX12_forget_87 : decode cX12_forget 87 = .ok (.iastore, 1) := by decide +kernel
theorem dX12_forget_88 : decode cX12_forget 88 = .ok (.aload_n 0, 1) := by decide +kernel
theorem dX12_forget_89 : decode cX12_forget 89 = .ok (.getfield 129, 3) := by decide +kernel
theorem dX12_forget_92 : decode cX12_forget 92 = .ok (.iload_n 3, 1) := by decide +kernel
theorem dX12_forget_93 : decode cX12_forget 93 = .ok (.aload_n 0, 1) := by decide +kernel
theorem dX12_forget_94 : decode cX12_forget 94 = .ok (.getfield 129, 3) := by decide +kernel
theorem dX12_forget_97 : decode cX12_forget 97 = .ok (.iload 4, 2) := by decide +kernel
theorem dX12_forget_99 : decode cX12_forget 99 = .ok (.iaload, 1) := by decide +kernel
theorem dX12_forget_100 : decode cX12_forget 100 = .ok (.iastore, 1) := by decide +kernel
theorem dX12_forget_101 : decode cX12_forget 101 = .ok (.aload_n 0, 1) := by decide +kernel
theorem dX12_forget_102 : decode cX12_forget 102 = .ok (.getfield 132, 3) := by decide +kernel
theorem dX12_forget_105 : decode cX12_forget 105 = .ok (.iload_n 3, 1) := by decide +kernel
theorem dX12_forget_106 : decode cX12_forget 106 = .ok (.aload_n 0, 1) := by decide +kernel
theorem dX12_forget_107 : decode cX12_forget 107 = .ok (.getfield 132, 3) := by decide +kernel
theorem dX12_forget_110 : decode cX12_forget 110 = .ok (.iload 4, 2) := by decide +kernel
theorem dX12_forget_112 : decode cX12_forget 112 = .ok (.iaload, 1) := by decide +kernel
theorem dX12_forget_113 : decode cX12_forget 113 = .ok (.iastore, 1) := by decide +kernel
theorem dX12_forget_114 : decode cX12_forget 114 = .ok (.iinc 3 1, 3) := by decide +kernel
theorem dX12_forget_117 : decode cX12_forget 117 = .ok (.iinc 4 1, 3) := by decide +kernel
theorem dX12_forget_120 : decode cX12_forget 120 = .ok (.goto (-93), 3) := by decide +kernel
theorem dX12_forget_123 : decode cX12_forget 123 = .ok (.aload_n 0, 1) := by decide +kernel
theorem dX12_forget_124 : decode cX12_forget 124 = .ok (.getfield 360, 3) := by decide +kernel
theorem dX12_forget_127 : decode cX12_forget 127 = .ok (.iload_n 3, 1) := by decide +kernel
theorem dX12_forget_128 : decode cX12_forget 128 = .ok (.isub, 1) := by decide +kernel
theorem dX12_forget_129 : decode cX12_forget 129 = .ok (.istore 4, 2) := by decide +kernel
theorem dX12_forget_131 : decode cX12_forget 131 = .ok (.aload_n 0, 1) := by decide +kernel
theorem dX12_forget_132 : decode cX12_forget 132 = .ok (.iload_n 3, 1) := by decide +kernel
theorem dX12_forget_133 : decode cX12_forget 133 = .ok (.putfield 360, 3) := by decide +kernel
theorem dX12_forget_136 : decode cX12_forget 136 = .ok (.iload 4, 2) := by decide +kernel
theorem dX12_forget_138 : decode cX12_forget 138 = .ok (.ireturn, 1) := by decide +kernel
theorem dX12_fade_0 : decode cX12_fade 0 = .ok (.iload_n 1, 1) := by decide +kernel
theorem dX12_fade_1 : decode cX12_fade 1 = .ok (.i2l, 1) := by decide +kernel
theorem dX12_fade_2 : decode cX12_fade 2 = .ok (.lconst 0, 1) := by decide +kernel
theorem dX12_fade_3 : decode cX12_fade 3 = .ok (.ldc2_w 363, 3) := by decide +kernel
theorem dX12_fade_6 : decode cX12_fade 6 = .ok (.invokestatic 178, 3) := by decide +kernel
theorem dX12_fade_9 : decode cX12_fade 9 = .ok (.ifCond .ne 6, 3) := by decide +kernel
theorem dX12_fade_12 : decode cX12_fade 12 = .ok (.bipush (-2), 2) := by decide +kernel
theorem dX12_fade_14 : decode cX12_fade 14 = .ok (.ireturn, 1) := by decide +kernel
theorem dX12_fade_15 : decode cX12_fade 15 = .ok (.aload_n 0, 1) := by decide +kernel
theorem dX12_fade_16 : decode cX12_fade 16 = .ok (.getfield 135, 3) := by decide +kernel
theorem dX12_fade_19 : decode cX12_fade 19 = .ok (.istore_n 2, 1) := by decide +kernel
theorem dX12_fade_20 : decode cX12_fade 20 = .ok (.aload_n 0, 1) := by decide +kernel
theorem dX12_fade_21 : decode cX12_fade 21 = .ok (.iload_n 1, 1) := by decide +kernel
theorem dX12_fade_22 : decode cX12_fade 22 = .ok (.putfield 135, 3) := by decide +kernel
theorem dX12_fade_25 : decode cX12_fade 25 = .ok (.iload_n 2, 1) := by decide +kernel
theorem dX12_fade_26 : decode cX12_fade 26 = .ok (.ireturn, 1) := by decide +kernel
theorem dX12_mine_0 : decode cX12_mine 0 = .ok (.iload_n 1, 1) := by decide +kernel
theorem dX12_mine_1 : decode cX12_mine 1 = .ok (.invokestatic 355, 3) := by decide +kernel
theorem dX12_mine_4 : decode cX12_mine 4 = .ok (.ifCond .ne 5, 3) := by decide +kernel
theorem dX12_mine_7 : decode cX12_mine 7 = .ok (.iconst (-1), 1) := by decide +kernel
theorem dX12_mine_8 : decode cX12_mine 8 = .ok (.ireturn, 1) := by decide +kernel
theorem dX12_mine_9 : decode cX12_mine 9 = .ok (.iload_n 2, 1) := by decide +kernel
theorem dX12_mine_10 : decode cX12_mine 10 = .ok (.i2l, 1) := by decide +kernel
theorem dX12_mine_11 : decode cX12_mine 11 = .ok (.lconst 0, 1) := by decide +kernel
theorem dX12_mine_12 : decode cX12_mine 12 = .ok (.ldc2_w 358, 3) := by decide +kernel
theorem dX12_mine_15 : decode cX12_mine 15 = .ok (.invokestatic 178, 3) := by decide +kernel
theorem dX12_mine_18 : decode cX12_mine 18 = .ok (.ifCond .eq 23, 3) := by decide +kernel
theorem dX12_mine_21 : decode cX12_mine 21 = .ok (.iload_n 3, 1) := by decide +kernel
theorem dX12_mine_22 : decode cX12_mine 22 = .ok (.invokestatic 287, 3) := by decide +kernel
theorem dX12_mine_25 : decode cX12_mine 25 = .ok (.ifCond .eq 16, 3) := by decide +kernel
theorem dX12_mine_28 : decode cX12_mine 28 = .ok (.iload 4, 2) := by decide +kernel
theorem dX12_mine_30 : decode cX12_mine 30 = .ok (.i2l, 1) := by decide +kernel
theorem dX12_mine_31 : decode cX12_mine 31 = .ok (.lconst 0, 1) := by decide +kernel
theorem dX12_mine_32 : decode cX12_mine 32 = .ok (.ldc2_w 185, 3) := by decide +kernel
theorem dX12_mine_35 : decode cX12_mine 35 = .ok (.invokestatic 178, 3) := by decide +kernel
theorem dX12_mine_38 : decode cX12_mine 38 = .ok (.ifCond .ne 6, 3) := by decide +kernel
theorem dX12_mine_41 : decode cX12_mine 41 = .ok (.bipush (-2), 2) := by decide +kernel
theorem dX12_mine_43 : decode cX12_mine 43 = .ok (.ireturn, 1) := by decide +kernel
theorem dX12_mine_44 : decode cX12_mine 44 = .ok (.aload_n 0, 1) := by decide +kernel
theorem dX12_mine_45 : decode cX12_mine 45 = .ok (.getfield 182, 3) := by decide +kernel
theorem dX12_mine_48 : decode cX12_mine 48 = .ok (.ifCond .ne 6, 3) := by decide +kernel
theorem dX12_mine_51 : decode cX12_mine 51 = .ok (.bipush (-3), 2) := by decide +kernel
theorem dX12_mine_53 : decode cX12_mine 53 = .ok (.ireturn, 1) := by decide +kernel
theorem dX12_mine_54 : decode cX12_mine 54 = .ok (.aload_n 0, 1) := by decide +kernel
theorem dX12_mine_55 : decode cX12_mine 55 = .ok (.iload_n 1, 1) := by decide +kernel
theorem dX12_mine_56 : decode cX12_mine 56 = .ok (.iload_n 2, 1) := by decide +kernel
theorem dX12_mine_57 : decode cX12_mine 57 = .ok (.iload_n 3, 1) := by decide +kernel
theorem dX12_mine_58 : decode cX12_mine 58 = .ok (.iload 4, 2) := by decide +kernel
theorem dX12_mine_60 : decode cX12_mine 60 = .ok (.invokevirtual 290, 3) := by decide +kernel
theorem dX12_mine_63 : decode cX12_mine 63 = .ok (.iload 5, 2) := by decide +kernel
theorem dX12_mine_65 : decode cX12_mine 65 = .ok (.iconst (-1), 1) := by decide +kernel
theorem dX12_mine_66 : decode cX12_mine 66 = .ok (.if_icmp .ne 10, 3) := by decide +kernel
theorem dX12_mine_69 : decode cX12_mine 69 = .ok (.aload_n 0, 1) := by decide +kernel
theorem dX12_mine_70 : decode cX12_mine 70 = .ok (.getfield 276, 3) := by decide +kernel
theorem dX12_mine_73 : decode cX12_mine 73 = .ok (.goto 32, 3) := by decide +kernel
theorem dX12_mine_76 : decode cX12_mine 76 = .ok (.iload 5, 2) := by decide +kernel
theorem dX12_mine_78 : decode cX12_mine 78 = .ok (.i2l, 1) := by decide +kernel
theorem dX12_mine_79 : decode cX12_mine 79 = .ok (.lconst 0, 1) := by decide +kernel
theorem dX12_mine_80 : decode cX12_mine 80 = .ok (.aload_n 0, 1) := by decide +kernel
theorem dX12_mine_81 : decode cX12_mine 81 = .ok (.getfield 276, 3) := by decide +kernel
theorem dX12_mine_84 : decode cX12_mine 84 = .ok (.iconst 1, 1) := by decide +kernel
theorem dX12_mine_85 : decode cX12_mine 85 = .ok (.isub, 1) := by decide +kernel
theorem dX12_mine_86 : decode cX12_mine 86 = .ok (.i2l, 1) := by decide +kernel
theorem dX12_mine_87 : decode cX12_mine 87 = .ok (.invokestatic 178, 3) := by decide +kernel
theorem dX12_mine_90 : decode cX12_mine 90 = .ok (.ifCond .eq 13, 3) := by decide +kernel
theorem dX12_mine_93 : decode cX12_mine 93 = .ok (.aload_n 0, 1) := by decide +kernel
theorem dX12_mine_94 : decode cX12_mine 94 = .ok (.getfield 83, 3) := by decide +kernel
theorem dX12_mine_97 : decode cX12_mine 97 = .ok (.iload 5, 2) := by decide +kernel
theorem dX12_mine_99 : decode cX12_mine 99 = .ok (.iaload, 1) := by decide +kernel
theorem dX12_mine_100 : decode cX12_mine 100 = .ok (.goto 5, 3) := by decide +kernel
theorem dX12_mine_103 : decode cX12_mine 103 = .ok (.bipush (-6), 2) := by decide +kernel
theorem dX12_mine_105 : decode cX12_mine 105 = .ok (.ireturn, 1) := by decide +kernel
theorem dX12_budget_0 : decode cX12_budget 0 = .ok (.iload_n 1, 1) := by decide +kernel
theorem dX12_budget_1 : decode cX12_budget 1 = .ok (.invokestatic 355, 3) := by decide +kernel
theorem dX12_budget_4 : decode cX12_budget 4 = .ok (.ifCond .ne 5, 3) := by decide +kernel
theorem dX12_budget_7 : decode cX12_budget 7 = .ok (.iconst (-1), 1) := by decide +kernel
theorem dX12_budget_8 : decode cX12_budget 8 = .ok (.ireturn, 1) := by decide +kernel
theorem dX12_budget_9 : decode cX12_budget 9 = .ok (.iload_n 2, 1) := by decide +kernel
theorem dX12_budget_10 : decode cX12_budget 10 = .ok (.i2l, 1) := by decide +kernel
theorem dX12_budget_11 : decode cX12_budget 11 = .ok (.lconst 0, 1) := by decide +kernel
theorem dX12_budget_12 : decode cX12_budget 12 = .ok (.ldc2_w 363, 3) := by decide +kernel
theorem dX12_budget_15 : decode cX12_budget 15 = .ok (.invokestatic 178, 3) := by decide +kernel
theorem dX12_budget_18 : decode cX12_budget 18 = .ok (.ifCond .ne 6, 3) := by decide +kernel
theorem dX12_budget_21 : decode cX12_budget 21 = .ok (.bipush (-2), 2) := by decide +kernel
theorem dX12_budget_23 : decode cX12_budget 23 = .ok (.ireturn, 1) := by decide +kernel
theorem dX12_budget_24 : decode cX12_budget 24 = .ok (.aload_n 0, 1) := by decide +kernel
theorem dX12_budget_25 : decode cX12_budget 25 = .ok (.getfield 139, 3) := by decide +kernel
theorem dX12_budget_28 : decode cX12_budget 28 = .ok (.iload_n 1, 1) := by decide +kernel
theorem dX12_budget_29 : decode cX12_budget 29 = .ok (.iaload, 1) := by decide +kernel
theorem dX12_budget_30 : decode cX12_budget 30 = .ok (.istore_n 3, 1) := by decide +kernel
theorem dX12_budget_31 : decode cX12_budget 31 = .ok (.aload_n 0, 1) := by decide +kernel
theorem dX12_budget_32 : decode cX12_budget 32 = .ok (.getfield 139, 3) := by decide +kernel
theorem dX12_budget_35 : decode cX12_budget 35 = .ok (.iload_n 1, 1) := by decide +kernel
theorem dX12_budget_36 : decode cX12_budget 36 = .ok (.iload_n 2, 1) := by decide +kernel
theorem dX12_budget_37 : decode cX12_budget 37 = .ok (.iastore, 1) := by decide +kernel
theorem dX12_budget_38 : decode cX12_budget 38 = .ok (.iload_n 3, 1) := by decide +kernel
theorem dX12_budget_39 : decode cX12_budget 39 = .ok (.ireturn, 1) := by decide +kernel
theorem dX12_seed_0 : decode cX12_seed 0 = .ok (.iload_n 1, 1) := by decide +kernel
theorem dX12_seed_1 : decode cX12_seed 1 = .ok (.i2l, 1) := by decide +kernel
theorem dX12_seed_2 : decode cX12_seed 2 = .ok (.lconst 1, 1) := by decide +kernel
theorem dX12_seed_3 : decode cX12_seed 3 = .ok (.ldc2_w 365, 3) := by decide +kernel
theorem dX12_seed_6 : decode cX12_seed 6 = .ok (.invokestatic 178, 3) := by decide +kernel
theorem dX12_seed_9 : decode cX12_seed 9 = .ok (.ifCond .ne 6, 3) := by decide +kernel
theorem dX12_seed_12 : decode cX12_seed 12 = .ok (.bipush (-2), 2) := by decide +kernel
theorem dX12_seed_14 : decode cX12_seed 14 = .ok (.ireturn, 1) := by decide +kernel
theorem dX12_seed_15 : decode cX12_seed 15 = .ok (.aload_n 0, 1) := by decide +kernel
theorem dX12_seed_16 : decode cX12_seed 16 = .ok (.getfield 142, 3) := by decide +kernel
theorem dX12_seed_19 : decode cX12_seed 19 = .ok (.istore_n 2, 1) := by decide +kernel
theorem dX12_seed_20 : decode cX12_seed 20 = .ok (.aload_n 0, 1) := by decide +kernel
theorem dX12_seed_21 : decode cX12_seed 21 = .ok (.iload_n 1, 1) := by decide +kernel
theorem dX12_seed_22 : decode cX12_seed 22 = .ok (.putfield 142, 3) := by decide +kernel
theorem dX12_seed_25 : decode cX12_seed 25 = .ok (.iload_n 2, 1) := by decide +kernel
theorem dX12_seed_26 : decode cX12_seed 26 = .ok (.ireturn, 1) := by decide +kernel
theorem dX12_share_0 : decode cX12_share 0 = .ok (.aload_n 0, 1) := by decide +kernel
theorem dX12_share_1 : decode cX12_share 1 = .ok (.iload_n 1, 1) := by decide +kernel
theorem dX12_share_2 : decode cX12_share 2 = .ok (.invokevirtual 251, 3) := by decide +kernel
theorem dX12_share_5 : decode cX12_share 5 = .ok (.ifCond .ne 7, 3) := by decide +kernel
theorem dX12_share_8 : decode cX12_share 8 = .ok (.ldc_w 367, 3) := by decide +kernel
theorem dX12_share_11 : decode cX12_share 11 = .ok (.ireturn, 1) := by decide +kernel
theorem dX12_share_12 : decode cX12_share 12 = .ok (.iload_n 2, 1) := by decide +kernel
theorem dX12_share_13 : decode cX12_share 13 = .ok (.i2l, 1) := by decide +kernel
theorem dX12_share_14 : decode cX12_share 14 = .ok (.lconst 1, 1) := by decide +kernel
theorem dX12_share_15 : decode cX12_share 15 = .ok (.ldc2_w 249, 3) := by decide +kernel
theorem dX12_share_18 : decode cX12_share 18 = .ok (.invokestatic 178, 3) := by decide +kernel
theorem dX12_share_21 : decode cX12_share 21 = .ok (.ifCond .eq 15, 3) := by decide +kernel
theorem dX12_share_24 : decode cX12_share 24 = .ok (.iload_n 3, 1) := by decide +kernel
theorem dX12_share_25 : decode cX12_share 25 = .ok (.i2l, 1) := by decide +kernel
theorem dX12_share_26 : decode cX12_share 26 = .ok (.lconst 0, 1) := by decide +kernel
theorem dX12_share_27 : decode cX12_share 27 = .ok (.ldc2_w 358, 3) := by decide +kernel
theorem dX12_share_30 : decode cX12_share 30 = .ok (.invokestatic 178, 3) := by decide +kernel
theorem dX12_share_33 : decode cX12_share 33 = .ok (.ifCond .ne 7, 3) := by decide +kernel
theorem dX12_share_36 : decode cX12_share 36 = .ok (.ldc_w 368, 3) := by decide +kernel
theorem dX12_share_39 : decode cX12_share 39 = .ok (.ireturn, 1) := by decide +kernel
theorem dX12_share_40 : decode cX12_share 40 = .ok (.iconst 0, 1) := by decide +kernel
theorem dX12_share_41 : decode cX12_share 41 = .ok (.istore 4, 2) := by decide +kernel
theorem dX12_share_43 : decode cX12_share 43 = .ok (.iconst 0, 1) := by decide +kernel
theorem dX12_share_44 : decode cX12_share 44 = .ok (.istore 5, 2) := by decide +kernel
theorem dX12_share_46 : decode cX12_share 46 = .ok (.iload 5, 2) := by decide +kernel
theorem dX12_share_48 : decode cX12_share 48 = .ok (.iconst 4, 1) := by decide +kernel
theorem dX12_share_49 : decode cX12_share 49 = .ok (.if_icmp .ge 30, 3) := by decide +kernel
theorem dX12_share_52 : decode cX12_share 52 = .ok (.iload 4, 2) := by decide +kernel
theorem dX12_share_54 : decode cX12_share 54 = .ok (.aload_n 0, 1) := by decide +kernel
theorem dX12_share_55 : decode cX12_share 55 = .ok (.getfield 139, 3) := by decide +kernel
theorem dX12_share_58 : decode cX12_share 58 = .ok (.iload 5, 2) := by decide +kernel
theorem dX12_share_60 : decode cX12_share 60 = .ok (.iaload, 1) := by decide +kernel
theorem dX12_share_61 : decode cX12_share 61 = .ok (.iload_n 2, 1) := by decide +kernel
theorem dX12_share_62 : decode cX12_share 62 = .ok (.if_icmp .lt 7, 3) := by decide +kernel
theorem dX12_share_65 : decode cX12_share 65 = .ok (.iconst 1, 1) := by decide +kernel
theorem dX12_share_66 : decode cX12_share 66 = .ok (.goto 4, 3) := by decide +kernel
theorem dX12_share_69 : decode cX12_share 69 = .ok (.iconst 0, 1) := by decide +kernel
theorem dX12_share_70 : decode cX12_share 70 = .ok (.iadd, 1) := by decide +kernel
theorem dX12_share_71 : decode cX12_share 71 = .ok (.istore 4, 2) := by decide +kernel
theorem dX12_share_73 : decode cX12_share 73 = .ok (.iinc 5 1, 3) := by decide +kernel
theorem dX12_share_76 : decode cX12_share 76 = .ok (.goto (-30), 3) := by decide +kernel
theorem dX12_share_79 : decode cX12_share 79 = .ok (.iload 4, 2) := by decide +kernel
theorem dX12_share_81 : decode cX12_share 81 = .ok (.iconst 2, 1) := by decide +kernel
theorem dX12_share_82 : decode cX12_share 82 = .ok (.if_icmp .ge 7, 3) := by decide +kernel
theorem dX12_share_85 : decode cX12_share 85 = .ok (.ldc_w 369, 3) := by decide +kernel
theorem dX12_share_88 : decode cX12_share 88 = .ok (.ireturn, 1) := by decide +kernel
theorem dX12_share_89 : decode cX12_share 89 = .ok (.iconst 0, 1) := by decide +kernel
theorem dX12_share_90 : decode cX12_share 90 = .ok (.istore 5, 2) := by decide +kernel
theorem dX12_share_92 : decode cX12_share 92 = .ok (.iconst 0, 1) := by decide +kernel
theorem dX12_share_93 : decode cX12_share 93 = .ok (.istore 6, 2) := by decide +kernel
theorem dX12_share_95 : decode cX12_share 95 = .ok (.iload 6, 2) := by decide +kernel
theorem dX12_share_97 : decode cX12_share 97 = .ok (.iconst 4, 1) := by decide +kernel
theorem dX12_share_98 : decode cX12_share 98 = .ok (.if_icmp .ge 50, 3) := by decide +kernel
theorem dX12_share_101 : decode cX12_share 101 = .ok (.aload_n 0, 1) := by decide +kernel
theorem dX12_share_102 : decode cX12_share 102 = .ok (.getfield 139, 3) := by decide +kernel
theorem dX12_share_105 : decode cX12_share 105 = .ok (.iload 6, 2) := by decide +kernel
theorem dX12_share_107 : decode cX12_share 107 = .ok (.iaload, 1) := by decide +kernel
theorem dX12_share_108 : decode cX12_share 108 = .ok (.iload_n 2, 1) := by decide +kernel
theorem dX12_share_109 : decode cX12_share 109 = .ok (.if_icmp .lt 33, 3) := by decide +kernel
theorem dX12_share_112 : decode cX12_share 112 = .ok (.iload 5, 2) := by decide +kernel
theorem dX12_share_114 : decode cX12_share 114 = .ok (.sipush 5000, 3) := by decide +kernel
theorem dX12_share_117 : decode cX12_share 117 = .ok (.aload_n 0, 1) := by decide +kernel
theorem dX12_share_118 : decode cX12_share 118 = .ok (.iload 6, 2) := by decide +kernel
theorem dX12_share_120 : decode cX12_share 120 = .ok (.iload_n 1, 1) := by decide +kernel
theorem dX12_share_121 : decode cX12_share 121 = .ok (.iload_n 3, 1) := by decide +kernel
theorem dX12_share_122 : decode cX12_share 122 = .ok (.invokevirtual 279, 3) := by decide +kernel
theorem dX12_share_125 : decode cX12_share 125 = .ok (.invokestatic 266, 3) := by decide +kernel
theorem dX12_share_128 : decode cX12_share 128 = .ok (.iadd, 1) := by decide +kernel
theorem dX12_share_129 : decode cX12_share 129 = .ok (.istore 5, 2) := by decide +kernel
theorem dX12_share_131 : decode cX12_share 131 = .ok (.aload_n 0, 1) := by decide +kernel
theorem dX12_share_132 : decode cX12_share 132 = .ok (.getfield 139, 3) := by decide +kernel
theorem dX12_share_135 : decode cX12_share 135 = .ok (.iload 6, 2) := by decide +kernel
theorem dX12_share_137 : decode cX12_share 137 = .ok (.dup2, 1) := by decide +kernel
theorem dX12_share_138 : decode cX12_share 138 = .ok (.iaload, 1) := by decide +kernel
theorem dX12_share_139 : decode cX12_share 139 = .ok (.iload_n 2, 1) := by decide +kernel
theorem dX12_share_140 : decode cX12_share 140 = .ok (.isub, 1) := by decide +kernel
theorem dX12_share_141 : decode cX12_share 141 = .ok (.iastore, 1) := by decide +kernel
theorem dX12_share_142 : decode cX12_share 142 = .ok (.iinc 6 1, 3) := by decide +kernel
theorem dX12_share_145 : decode cX12_share 145 = .ok (.goto (-50), 3) := by decide +kernel
theorem dX12_share_148 : decode cX12_share 148 = .ok (.aload_n 0, 1) := by decide +kernel
theorem dX12_share_149 : decode cX12_share 149 = .ok (.aload_n 0, 1) := by decide +kernel
theorem dX12_share_150 : decode cX12_share 150 = .ok (.getfield 142, 3) := by decide +kernel
theorem dX12_share_153 : decode cX12_share 153 = .ok (.i2l, 1) := by decide +kernel
theorem dX12_share_154 : decode cX12_share 154 = .ok (.ldc2_w 370, 3) := by decide +kernel
theorem dX12_share_157 : decode cX12_share 157 = .ok (.lmul, 1) := by decide +kernel
theorem dX12_share_158 : decode cX12_share 158 = .ok (.ldc2_w 372, 3) := by decide +kernel
theorem dX12_share_161 : decode cX12_share 161 = .ok (.lrem, 1) := by decide +kernel
theorem dX12_share_162 : decode cX12_share 162 = .ok (.l2i, 1) := by decide +kernel
theorem dX12_share_163 : decode cX12_share 163 = .ok (.putfield 142, 3) := by decide +kernel
theorem dX12_share_166 : decode cX12_share 166 = .ok (.iload 5, 2) := by decide +kernel
theorem dX12_share_168 : decode cX12_share 168 = .ok (.aload_n 0, 1) := by decide +kernel
theorem dX12_share_169 : decode cX12_share 169 = .ok (.getfield 142, 3) := by decide +kernel
theorem dX12_share_172 : decode cX12_share 172 = .ok (.sipush 2001, 3) := by decide +kernel
theorem dX12_share_175 : decode cX12_share 175 = .ok (.irem, 1) := by decide +kernel
theorem dX12_share_176 : decode cX12_share 176 = .ok (.sipush 1000, 3) := by decide +kernel
theorem dX12_share_179 : decode cX12_share 179 = .ok (.isub, 1) := by decide +kernel
theorem dX12_share_180 : decode cX12_share 180 = .ok (.bipush 100, 2) := by decide +kernel
theorem dX12_share_182 : decode cX12_share 182 = .ok (.imul, 1) := by decide +kernel
theorem dX12_share_183 : decode cX12_share 183 = .ok (.iload_n 2, 1) := by decide +kernel
theorem dX12_share_184 : decode cX12_share 184 = .ok (.idiv, 1) := by decide +kernel
theorem dX12_share_185 : decode cX12_share 185 = .ok (.iadd, 1) := by decide +kernel
theorem dX12_share_186 : decode cX12_share 186 = .ok (.ireturn, 1) := by decide +kernel
theorem dX12_clearLayout_0 : decode cX12_clearLayout 0 = .ok (.aload_n 0, 1) := by decide +kernel
theorem dX12_clearLayout_1 : decode cX12_clearLayout 1 = .ok (.iload_n 1, 1) := by decide +kernel
theorem dX12_clearLayout_2 : decode cX12_clearLayout 2 = .ok (.putfield 374, 3) := by decide +kernel
theorem dX12_clearLayout_5 : decode cX12_clearLayout 5 = .ok (.iconst 0, 1) := by decide +kernel
theorem dX12_clearLayout_6 : decode cX12_clearLayout 6 = .ok (.istore_n 2, 1) := by decide +kernel
theorem dX12_clearLayout_7 : decode cX12_clearLayout 7 = .ok (.iload_n 2, 1) := by decide +kernel
theorem dX12_clearLayout_8 : decode cX12_clearLayout 8 = .ok (.bipush 7, 2) := by decide +kernel
theorem dX12_clearLayout_10 : decode cX12_clearLayout 10 = .ok (.if_icmp .ge 30, 3) := by decide +kernel
theorem dX12_clearLayout_13 : decode cX12_clearLayout 13 = .ok (.aload_n 0, 1) := by decide +kernel
theorem dX12_clearLayout_14 : decode cX12_clearLayout 14 = .ok (.getfield 145, 3) := by decide +kernel
theorem dX12_clearLayout_17 : decode cX12_clearLayout 17 = .ok (.iload_n 2, 1) := by decide +kernel
theorem dX12_clearLayout_18 : decode cX12_clearLayout 18 = .ok (.iconst 1, 1) := by decide +kernel
theorem dX12_clearLayout_19 : decode cX12_clearLayout 19 = .ok (.iastore, 1) := by decide +kernel
theorem dX12_clearLayout_20 : decode cX12_clearLayout 20 = .ok (.aload_n 0, 1) := by decide +kernel
theorem dX12_clearLayout_21 : decode cX12_clearLayout 21 = .ok (.getfield 148, 3) := by decide +kernel
theorem dX12_clearLayout_24 : decode cX12_clearLayout 24 = .ok (.iload_n 2, 1) := by decide +kernel
theorem dX12_clearLayout_25 : decode cX12_clearLayout 25 = .ok (.iconst 0, 1) := by decide +kernel
theorem dX12_clearLayout_26 : decode cX12_clearLayout 26 = .ok (.iastore, 1) := by decide +kernel
theorem dX12_clearLayout_27 : decode cX12_clearLayout 27 = .ok (.aload_n 0, 1) := by decide +kernel
theorem dX12_clearLayout_28 : decode cX12_clearLayout 28 = .ok (.getfield 151, 3) := by decide +kernel
theorem dX12_clearLayout_31 : decode cX12_clearLayout 31 = .ok (.iload_n 2, 1) := by decide +kernel
theorem dX12_clearLayout_32 : decode cX12_clearLayout 32 = .ok (.iconst 0, 1) := by decide +kernel
theorem dX12_clearLayout_33 : decode cX12_clearLayout 33 = .ok (.iastore, 1) := by decide +kernel
theorem dX12_clearLayout_34 : decode cX12_clearLayout 34 = .ok (.iinc 2 1, 3) := by decide +kernel
theorem dX12_clearLayout_37 : decode cX12_clearLayout 37 = .ok (.goto (-30), 3) := by decide +kernel
theorem dX12_clearLayout_40 : decode cX12_clearLayout 40 = .ok (.iconst 0, 1) := by decide +kernel
theorem dX12_clearLayout_41 : decode cX12_clearLayout 41 = .ok (.istore_n 2, 1) := by decide +kernel
theorem dX12_clearLayout_42 : decode cX12_clearLayout 42 = .ok (.iload_n 2, 1) := by decide +kernel
theorem dX12_clearLayout_43 : decode cX12_clearLayout 43 = .ok (.bipush 49, 2) := by decide +kernel
theorem dX12_clearLayout_45 : decode cX12_clearLayout 45 = .ok (.if_icmp .ge 16, 3) := by decide +kernel
theorem dX12_clearLayout_48 : decode cX12_clearLayout 48 = .ok (.aload_n 0, 1) := by decide +kernel
theorem dX12_clearLayout_49 : decode cX12_clearLayout 49 = .ok (.getfield 154, 3) := by decide +kernel
theorem dX12_clearLayout_52 : decode cX12_clearLayout 52 = .ok (.iload_n 2, 1) := by decide +kernel
theorem dX12_clearLayout_53 : decode cX12_clearLayout 53 = .ok (.iconst 0, 1) := by decide +kernel
theorem dX12_clearLayout_54 : decode cX12_clearLayout 54 = .ok (.iastore, 1) := by decide +kernel
theorem dX12_clearLayout_55 : decode cX12_clearLayout 55 = .ok (.iinc 2 1, 3) := by decide +kernel
theorem dX12_clearLayout_58 : decode cX12_clearLayout 58 = .ok (.goto (-16), 3) := by decide +kernel
theorem dX12_clearLayout_61 : decode cX12_clearLayout 61 = .ok (.return_, 1) := by decide +kernel
theorem dX12_symbols_0 : decode cX12_symbols 0 = .ok (.iload_n 1, 1) := by decide +kernel
theorem dX12_symbols_1 : decode cX12_symbols 1 = .ok (.i2l, 1) := by decide +kernel
theorem dX12_symbols_2 : decode cX12_symbols 2 = .ok (.ldc2_w 193, 3) := by decide +kernel
theorem dX12_symbols_5 : decode cX12_symbols 5 = .ok (.ldc2_w 285, 3) := by decide +kernel
theorem dX12_symbols_8 : decode cX12_symbols 8 = .ok (.invokestatic 178, 3) := by decide +kernel
theorem dX12_symbols_11 : decode cX12_symbols 11 = .ok (.ifCond .ne 6, 3) := by decide +kernel
theorem dX12_symbols_14 : decode cX12_symbols 14 = .ok (.bipush (-2), 2) := by decide +kernel
theorem dX12_symbols_16 : decode cX12_symbols 16 = .ok (.ireturn, 1) := by decide +kernel
theorem dX12_symbols_17 : decode cX12_symbols 17 = .ok (.aload_n 0, 1) := by decide +kernel
theorem dX12_symbols_18 : decode cX12_symbols 18 = .ok (.getfield 374, 3) := by decide +kernel
theorem dX12_symbols_21 : decode cX12_symbols 21 = .ok (.istore_n 2, 1) := by decide +kernel
theorem dX12_symbols_22 : decode cX12_symbols 22 = .ok (.aload_n 0, 1) := by decide +kernel
theorem dX12_symbols_23 : decode cX12_symbols 23 = .ok (.iload_n 1, 1) := by decide +kernel
theorem dX12_symbols_24 : decode cX12_symbols 24 = .ok (.invokevirtual 172, 3) := by decide +kernel
theorem dX12_symbols_27 : decode cX12_symbols 27 = .ok (.iload_n 2, 1) := by decide +kernel
theorem dX12_symbols_28 : decode cX12_symbols 28 = .ok (.ireturn, 1) := by decide +kernel
theorem dX12_isSymbol_0 : decode cX12_isSymbol 0 = .ok (.iload_n 1, 1) := by decide +kernel
theorem dX12_isSymbol_1 : decode cX12_isSymbol 1 = .ok (.i2l, 1) := by decide +kernel
theorem dX12_isSymbol_2 : decode cX12_isSymbol 2 = .ok (.lconst 0, 1) := by decide +kernel
theorem dX12_isSymbol_3 : decode cX12_isSymbol 3 = .ok (.aload_n 0, 1) := by decide +kernel
theorem dX12_isSymbol_4 : decode cX12_isSymbol 4 = .ok (.getfield 374, 3) := by decide +kernel
theorem dX12_isSymbol_7 : decode cX12_isSymbol 7 = .ok (.iconst 1, 1) := by decide +kernel
theorem dX12_isSymbol_8 : decode cX12_isSymbol 8 = .ok (.isub, 1) := by decide +kernel
theorem dX12_isSymbol_9 : decode cX12_isSymbol 9 = .ok (.i2l, 1) := by decide +kernel
theorem dX12_isSymbol_10 : decode cX12_isSymbol 10 = .ok (.invokestatic 178, 3) := by decide +kernel
theorem dX12_isSymbol_13 : decode cX12_isSymbol 13 = .ok (.ireturn, 1) := by decide +kernel
theorem dX12_set_0 : decode cX12_set 0 = .ok (.aload_n 0, 1) := by decide +kernel
theorem dX12_set_1 : decode cX12_set 1 = .ok (.iload_n 2, 1) := by decide +kernel
theorem dX12_set_2 : decode cX12_set 2 = .ok (.invokevirtual 377, 3) := by decide +kernel
theorem dX12_set_5 : decode cX12_set 5 = .ok (.ifCond .ne 5, 3) := by decide +kernel
theorem dX12_set_8 : decode cX12_set 8 = .ok (.iconst (-1), 1) := by decide +kernel
theorem dX12_set_9 : decode cX12_set 9 = .ok (.ireturn, 1) := by decide +kernel
theorem dX12_set_10 : decode cX12_set 10 = .ok (.iload_n 1, 1) := by decide +kernel
theorem dX12_set_11 : decode cX12_set 11 = .ok (.i2l, 1) := by decide +kernel
theorem dX12_set_12 : decode cX12_set 12 = .ok (.lconst 0, 1) := by decide +kernel
theorem dX12_set_13 : decode cX12_set 13 = .ok (.ldc2_w 193, 3) := by decide +kernel
theorem dX12_set_16 : decode cX12_set 16 = .ok (.invokestatic 178, 3) := by decide +kernel
theorem dX12_set_19 : decode cX12_set 19 = .ok (.ifCond .eq 36, 3) := by decide +kernel
theorem dX12_set_22 : decode cX12_set 22 = .ok (.iload_n 3, 1) := by decide +kernel
theorem dX12_set_23 : decode cX12_set 23 = .ok (.i2l, 1) := by decide +kernel
theorem dX12_set_24 : decode cX12_set 24 = .ok (.lconst 0, 1) := by decide +kernel
theorem dX12_set_25 : decode cX12_set 25 = .ok (.iload_n 1, 1) := by decide +kernel
theorem dX12_set_26 : decode cX12_set 26 = .ok (.ifCond .ne 9, 3) := by decide +kernel
theorem dX12_set_29 : decode cX12_set 29 = .ok (.ldc2_w 256, 3) := by decide +kernel
theorem dX12_set_32 : decode cX12_set 32 = .ok (.goto 17, 3) := by decide +kernel
theorem dX12_set_35 : decode cX12_set 35 = .ok (.iload_n 1, 1) := by decide +kernel
theorem dX12_set_36 : decode cX12_set 36 = .ok (.iconst 1, 1) := by decide +kernel
theorem dX12_set_37 : decode cX12_set 37 = .ok (.if_icmp .ne 9, 3) := by decide +kernel
theorem dX12_set_40 : decode cX12_set 40 = .ok (.ldc2_w 380, 3) := by decide +kernel
theorem dX12_set_43 : decode cX12_set 43 = .ok (.goto 6, 3) := by decide +kernel
theorem dX12_set_46 : decode cX12_set 46 = .ok (.ldc2_w 382, 3) := by decide +kernel
theorem dX12_set_49 : decode cX12_set 49 = .ok (.invokestatic 178, 3) := by decide +kernel
theorem dX12_set_52 : decode cX12_set 52 = .ok (.ifCond .ne 6, 3) := by decide +kernel
theorem dX12_set_55 : decode cX12_set 55 = .ok (.bipush (-2), 2) := by decide +kernel
theorem dX12_set_57 : decode cX12_set 57 = .ok (.ireturn, 1) := by decide +kernel
theorem dX12_set_58 : decode cX12_set 58 = .ok (.iload_n 1, 1) := by decide +kernel
theorem dX12_set_59 : decode cX12_set 59 = .ok (.ifCond .ne 12, 3) := by decide +kernel
theorem dX12_set_62 : decode cX12_set 62 = .ok (.aload_n 0, 1) := by decide +kernel
theorem dX12_set_63 : decode cX12_set 63 = .ok (.getfield 145, 3) := by decide +kernel
theorem dX12_set_66 : decode cX12_set 66 = .ok (.iload_n 2, 1) := by decide +kernel
theorem dX12_set_67 : decode cX12_set 67 = .ok (.iaload, 1) := by decide +kernel
theorem dX12_set_68 : decode cX12_set 68 = .ok (.goto 23, 3) := by decide +kernel
theorem dX12_set_71 : decode cX12_set 71 = .ok (.iload_n 1, 1) := by decide +kernel
theorem dX12_set_72 : decode cX12_set 72 = .ok (.iconst 1, 1) := by decide +kernel
theorem dX12_set_73 : decode cX12_set 73 = .ok (.if_icmp .ne 12, 3) := by decide +kernel
theorem dX12_set_76 : decode cX12_set 76 = .ok (.aload_n 0, 1) := by decide +kernel
theorem dX12_set_77 : decode cX12_set 77 = .ok (.getfield 148, 3) := by decide +kernel
theorem dX12_set_80 : decode cX12_set 80 = .ok (.iload_n 2, 1) := by decide +kernel
theorem dX12_set_81 : decode cX12_set 81 = .ok (.iaload, 1) := by decide +kernel
theorem dX12_set_82 : decode cX12_set 82 = .ok (.goto 9, 3) := by decide +kernel
theorem dX12_set_85 : decode cX12_set 85 = .ok (.aload_n 0, 1) := by decide +kernel
theorem dX12_set_86 : decode cX12_set 86 = .ok (.getfield 151, 3) := by decide +kernel
theorem dX12_set_89 : decode cX12_set 89 = .ok (.iload_n 2, 1) := by decide +kernel
theorem dX12_set_90 : decode cX12_set 90 = .ok (.iaload, 1) := by decide +kernel
theorem dX12_set_91 : decode cX12_set 91 = .ok (.istore 4, 2) := by decide +kernel
theorem dX12_set_93 : decode cX12_set 93 = .ok (.iload_n 1, 1) := by decide +kernel
theorem dX12_set_94 : decode cX12_set 94 = .ok (.ifCond .ne 13, 3) := by decide +kernel
theorem dX12_set_97 : decode cX12_set 97 = .ok (.aload_n 0, 1) := by decide +kernel
theorem dX12_set_98 : decode cX12_set 98 = .ok (.getfield 145, 3) := by decide +kernel
theorem dX12_set_101 : decode cX12_set 101 = .ok (.iload_n 2, 1) := by decide +kernel
theorem dX12_set_102 : decode cX12_set 102 = .ok (.iload_n 3, 1) := by decide +kernel
theorem dX12_set_103 : decode cX12_set 103 = .ok (.iastore, 1) := by decide +kernel
theorem dX12_set_104 : decode cX12_set 104 = .ok (.goto 25, 3) := by decide +kernel
theorem dX12_set_107 : decode cX12_set 107 = .ok (.iload_n 1, 1) := by decide +kernel
theorem dX12_set_108 : decode cX12_set 108 = .ok (.iconst 1, 1) := by decide +kernel
theorem dX12_set_109 : decode cX12_set 109 = .ok (.if_icmp .ne 13, 3) := by decide +kernel
theorem dX12_set_112 : decode cX12_set 112 = .ok (.aload_n 0, 1) := by decide +kernel
theorem dX12_set_113 : decode cX12_set 113 = .ok (.getfield 148, 3) := by decide +kernel
theorem dX12_set_116 : decode cX12_set 116 = .ok (.iload_n 2, 1) := by decide +kernel
theorem dX12_set_117 : decode cX12_set 117 = .ok (.iload_n 3, 1) := by decide +kernel
theorem dX12_set_118 : decode cX12_set 118 = .ok (.iastore, 1) := by decide +kernel
theorem dX12_set_119 : decode cX12_set 119 = .ok (.goto 10, 3) := by decide +kernel
theorem dX12_set_122 : decode cX12_set 122 = .ok (.aload_n 0, 1) := by decide +kernel
theorem dX12_set_123 : decode cX12_set 123 = .ok (.getfield 151, 3) := by decide +kernel
theorem dX12_set_126 : decode cX12_set 126 = .ok (.iload_n 2, 1) := by decide +kernel
theorem dX12_set_127 : decode cX12_set 127 = .ok (.iload_n 3, 1) := by decide +kernel
theorem dX12_set_128 : decode cX12_set 128 = .ok (.iastore, 1) := by decide +kernel
theorem dX12_set_129 : decode cX12_set 129 = .ok (.iload 4, 2) := by decide +kernel
theorem dX12_set_131 : decode cX12_set 131 = .ok (.ireturn, 1) := by decide +kernel
theorem dX12_pair_0 : decode cX12_pair 0 = .ok (.aload_n 0, 1) := by decide +kernel
theorem dX12_pair_1 : decode cX12_pair 1 = .ok (.iload_n 1, 1) := by decide +kernel
theorem dX12_pair_2 : decode cX12_pair 2 = .ok (.invokevirtual 377, 3) := by decide +kernel
theorem dX12_pair_5 : decode cX12_pair 5 = .ok (.ifCond .eq 11, 3) := by decide +kernel
theorem dX12_pair_8 : decode cX12_pair 8 = .ok (.aload_n 0, 1) := by decide +kernel
theorem dX12_pair_9 : decode cX12_pair 9 = .ok (.iload_n 2, 1) := by decide +kernel
theorem dX12_pair_10 : decode cX12_pair 10 = .ok (.invokevirtual 377, 3) := by decide +kernel
theorem dX12_pair_13 : decode cX12_pair 13 = .ok (.ifCond .ne 5, 3) := by decide +kernel
theorem dX12_pair_16 : decode cX12_pair 16 = .ok (.iconst (-1), 1) := by decide +kernel
theorem dX12_pair_17 : decode cX12_pair 17 = .ok (.ireturn, 1) := by decide +kernel
theorem dX12_pair_18 : decode cX12_pair 18 = .ok (.iload_n 3, 1) := by decide +kernel
theorem dX12_pair_19 : decode cX12_pair 19 = .ok (.i2l, 1) := by decide +kernel
theorem dX12_pair_20 : decode cX12_pair 20 = .ok (.lconst 0, 1) := by decide +kernel
theorem dX12_pair_21 : decode cX12_pair 21 = .ok (.ldc2_w 384, 3) := by decide +kernel
theorem dX12_pair_24 : decode cX12_pair 24 = .ok (.invokestatic 178, 3) := by decide +kernel
theorem dX12_pair_27 : decode cX12_pair 27 = .ok (.ifCond .ne 6, 3) := by decide +kernel
theorem dX12_pair_30 : decode cX12_pair 30 = .ok (.bipush (-2), 2) := by decide +kernel
theorem dX12_pair_32 : decode cX12_pair 32 = .ok (.ireturn, 1) := by decide +kernel
theorem dX12_pair_33 : decode cX12_pair 33 = .ok (.aload_n 0, 1) := by decide +kernel
theorem dX12_pair_34 : decode cX12_pair 34 = .ok (.getfield 154, 3) := by decide +kernel
theorem dX12_pair_37 : decode cX12_pair 37 = .ok (.bipush 7, 2) := by decide +kernel
theorem dX12_pair_39 : decode cX12_pair 39 = .ok (.iload_n 1, 1) := by decide +kernel
theorem dX12_pair_40 : decode cX12_pair 40 = .ok (.imul, 1) := by decide +kernel
theorem dX12_pair_41 : decode cX12_pair 41 = .ok (.iload_n 2, 1) := by decide +kernel
theorem dX12_pair_42 : decode cX12_pair 42 = .ok (.iadd, 1) := by decide +kernel
theorem dX12_pair_43 : decode cX12_pair 43 = .ok (.iaload, 1) := by decide +kernel
theorem dX12_pair_44 : decode cX12_pair 44 = .ok (.istore 4, 2) := by decide +kernel
theorem dX12_pair_46 : decode cX12_pair 46 = .ok (.aload_n 0, 1) := by decide +kernel
theorem dX12_pair_47 : decode cX12_pair 47 = .ok (.getfield 154, 3) := by decide +kernel
theorem dX12_pair_50 : decode cX12_pair 50 = .ok (.bipush 7, 2) := by decide +kernel
theorem dX12_pair_52 : decode cX12_pair 52 = .ok (.iload_n 1, 1) := by decide +kernel
theorem dX12_pair_53 : decode cX12_pair 53 = .ok (.imul, 1) := by decide +kernel
theorem dX12_pair_54 : decode cX12_pair 54 = .ok (.iload_n 2, 1) := by decide +kernel
theorem dX12_pair_55 : decode cX12_pair 55 = .ok (.iadd, 1) := by decide +kernel
theorem dX12_pair_56 : decode cX12_pair 56 = .ok (.iload_n 3, 1) := by decide +kernel
theorem dX12_pair_57 : decode cX12_pair 57 = .ok (.iastore, 1) := by decide +kernel
theorem dX12_pair_58 : decode cX12_pair 58 = .ok (.iload 4, 2) := by decide +kernel
theorem dX12_pair_60 : decode cX12_pair 60 = .ok (.ireturn, 1) := by decide +kernel
theorem dX12_same_0 : decode cX12_same 0 = .ok (.iload_n 1, 1) := by decide +kernel
theorem dX12_same_1 : decode cX12_same 1 = .ok (.i2l, 1) := by decide +kernel
theorem dX12_same_2 : decode cX12_same 2 = .ok (.lconst 0, 1) := by decide +kernel
theorem dX12_same_3 : decode cX12_same 3 = .ok (.ldc2_w 256, 3) := by decide +kernel
theorem dX12_same_6 : decode cX12_same 6 = .ok (.invokestatic 178, 3) := by decide +kernel
theorem dX12_same_9 : decode cX12_same 9 = .ok (.ifCond .ne 6, 3) := by decide +kernel
theorem dX12_same_12 : decode cX12_same 12 = .ok (.bipush (-2), 2) := by decide +kernel
theorem dX12_same_14 : decode cX12_same 14 = .ok (.ireturn, 1) := by decide +kernel
theorem dX12_same_15 : decode cX12_same 15 = .ok (.aload_n 0, 1) := by decide +kernel
theorem dX12_same_16 : decode cX12_same 16 = .ok (.getfield 157, 3) := by decide +kernel
theorem dX12_same_19 : decode cX12_same 19 = .ok (.istore_n 2, 1) := by decide +kernel
theorem dX12_same_20 : decode cX12_same 20 = .ok (.aload_n 0, 1) := by decide +kernel
theorem dX12_same_21 : decode cX12_same 21 = .ok (.iload_n 1, 1) := by decide +kernel
theorem dX12_same_22 : decode cX12_same 22 = .ok (.putfield 157, 3) := by decide +kernel
theorem dX12_same_25 : decode cX12_same 25 = .ok (.iload_n 2, 1) := by decide +kernel
theorem dX12_same_26 : decode cX12_same 26 = .ok (.ireturn, 1) := by decide +kernel
theorem dX12_lay_0 : decode cX12_lay 0 = .ok (.iload_n 1, 1) := by decide +kernel
theorem dX12_lay_1 : decode cX12_lay 1 = .ok (.ifCond .ge 9, 3) := by decide +kernel
theorem dX12_lay_4 : decode cX12_lay 4 = .ok (.ldc_w 386, 3) := by decide +kernel
theorem dX12_lay_7 : decode cX12_lay 7 = .ok (.goto 4, 3) := by decide +kernel
theorem dX12_lay_10 : decode cX12_lay 10 = .ok (.iload_n 1, 1) := by decide +kernel
theorem dX12_lay_11 : decode cX12_lay 11 = .ok (.istore_n 2, 1) := by decide +kernel
theorem dX12_lay_12 : decode cX12_lay 12 = .ok (.iconst 0, 1) := by decide +kernel
theorem dX12_lay_13 : decode cX12_lay 13 = .ok (.istore_n 3, 1) := by decide +kernel
theorem dX12_lay_14 : decode cX12_lay 14 = .ok (.aload_n 0, 1) := by decide +kernel
theorem dX12_lay_15 : decode cX12_lay 15 = .ok (.getfield 374, 3) := by decide +kernel
theorem dX12_lay_18 : decode cX12_lay 18 = .ok (.iconst 1, 1) := by decide +kernel
theorem dX12_lay_19 : decode cX12_lay 19 = .ok (.isub, 1) := by decide +kernel
theorem dX12_lay_20 : decode cX12_lay 20 = .ok (.istore 4, 2) := by decide +kernel
theorem dX12_lay_22 : decode cX12_lay 22 = .ok (.iload 4, 2) := by decide +kernel
theorem dX12_lay_24 : decode cX12_lay 24 = .ok (.ifCond .lt 25, 3) := by decide +kernel
theorem dX12_lay_27 : decode cX12_lay 27 = .ok (.aload_n 0, 1) := by decide +kernel
theorem dX12_lay_28 : decode cX12_lay 28 = .ok (.getfield 160, 3) := by decide +kernel
theorem dX12_lay_31 : decode cX12_lay 31 = .ok (.iload 4, 2) := by decide +kernel
theorem dX12_lay_33 : decode cX12_lay 33 = .ok (.iload_n 2, 1) := by decide +kernel
theorem dX12_lay_34 : decode cX12_lay 34 = .ok (.bipush 10, 2) := by decide +kernel
theorem dX12_lay_36 : decode cX12_lay 36 = .ok (.irem, 1) := by decide +kernel
theorem dX12_lay_37 : decode cX12_lay 37 = .ok (.iastore, 1) := by decide +kernel
theorem dX12_lay_38 : decode cX12_lay 38 = .ok (.iload_n 2, 1) := by decide +kernel
theorem dX12_lay_39 : decode cX12_lay 39 = .ok (.bipush 10, 2) := by decide +kernel
theorem dX12_lay_41 : decode cX12_lay 41 = .ok (.idiv, 1) := by decide +kernel
theorem dX12_lay_42 : decode cX12_lay 42 = .ok (.istore_n 2, 1) := by decide +kernel
theorem dX12_lay_43 : decode cX12_lay 43 = .ok (.iinc 4 (-1), 3) := by decide +kernel
theorem dX12_lay_46 : decode cX12_lay 46 = .ok (.goto (-24), 3) := by decide +kernel
theorem dX12_lay_49 : decode cX12_lay 49 = .ok (.iconst 0, 1) := by decide +kernel
theorem dX12_lay_50 : decode cX12_lay 50 = .ok (.istore 4, 2) := by decide +kernel
theorem dX12_lay_52 : decode cX12_lay 52 = .ok (.iload 4, 2) := by decide +kernel
theorem dX12_lay_54 : decode cX12_lay 54 = .ok (.aload_n 0, 1) := by decide +kernel
theorem dX12_lay_55 : decode cX12_lay 55 = .ok (.getfield 374, 3) := by decide +kernel
theorem dX12_lay_58 : decode cX12_lay 58 = .ok (.if_icmp .ge 52, 3) := by decide +kernel
theorem dX12_lay_61 : decode cX12_lay 61 = .ok (.aload_n 0, 1) := by decide +kernel
theorem dX12_lay_62 : decode cX12_lay 62 = .ok (.aload_n 0, 1) := by decide +kernel
theorem dX12_lay_63 : decode cX12_lay 63 = .ok (.getfield 160, 3) := by decide +kernel
theorem dX12_lay_66 : decode cX12_lay 66 = .ok (.iload 4, 2) := by decide +kernel
theorem dX12_lay_68 : decode cX12_lay 68 = .ok (.iaload, 1) := by decide +kernel
theorem dX12_lay_69 : decode cX12_lay 69 = .ok (.invokevirtual 377, 3) := by decide +kernel
theorem dX12_lay_72 : decode cX12_lay 72 = .ok (.ifCond .eq 18, 3) := by decide +kernel
theorem dX12_lay_75 : decode cX12_lay 75 = .ok (.iload_n 3, 1) := by decide +kernel
theorem dX12_lay_76 : decode cX12_lay 76 = .ok (.aload_n 0, 1) := by decide +kernel
theorem dX12_lay_77 : decode cX12_lay 77 = .ok (.getfield 160, 3) := by decide +kernel
theorem dX12_lay_80 : decode cX12_lay 80 = .ok (.iload 4, 2) := by decide +kernel
theorem dX12_lay_82 : decode cX12_lay 82 = .ok (.iaload, 1) := by decide +kernel
theorem dX12_lay_83 : decode cX12_lay 83 = .ok (.ishr, 1) := by decide +kernel
theorem dX12_lay_84 : decode cX12_lay 84 = .ok (.iconst 1, 1) := by decide +kernel
theorem dX12_lay_85 : decode cX12_lay 85 = .ok (.iand, 1) := by decide +kernel
theorem dX12_lay_86 : decode cX12_lay 86 = .ok (.iconst 1, 1) := by decide +kernel
theorem dX12_lay_87 : decode cX12_lay 87 = .ok (.if_icmp .ne 5, 3) := by decide +kernel
theorem dX12_lay_90 : decode cX12_lay 90 = .ok (.iconst 0, 1) := by decide +kernel
theorem dX12_lay_91 : decode cX12_lay 91 = .ok (.ireturn, 1) := by decide +kernel
theorem dX12_lay_92 : decode cX12_lay 92 = .ok (.iload_n 3, 1) := by decide +kernel
theorem dX12_lay_93 : decode cX12_lay 93 = .ok (.iconst 1, 1) := by decide +kernel
theorem dX12_lay_94 : decode cX12_lay 94 = .ok (.aload_n 0, 1) := by decide +kernel
theorem dX12_lay_95 : decode cX12_lay 95 = .ok (.getfield 160, 3) := by decide +kernel
theorem dX12_lay_98 : decode cX12_lay 98 = .ok (.iload 4, 2) := by decide +kernel
theorem dX12_lay_100 : decode cX12_lay 100 = .ok (.iaload, 1) := by decide +kernel
theorem dX12_lay_101 : decode cX12_lay 101 = .ok (.ishl, 1) := by decide +kernel
theorem dX12_lay_102 : decode cX12_lay 102 = .ok (.ior, 1) := by decide +kernel
theorem dX12_lay_103 : decode cX12_lay 103 = .ok (.istore_n 3, 1) := by decide +kernel
theorem dX12_lay_104 : decode cX12_lay 104 = .ok (.iinc 4 1, 3) := by decide +kernel
theorem dX12_lay_107 : decode cX12_lay 107 = .ok (.goto (-55), 3) := by decide +kernel
theorem dX12_lay_110 : decode cX12_lay 110 = .ok (.iload_n 2, 1) := by decide +kernel
theorem dX12_lay_111 : decode cX12_lay 111 = .ok (.ifCond .ne 7, 3) := by decide +kernel
theorem dX12_lay_114 : decode cX12_lay 114 = .ok (.iconst 1, 1) := by decide +kernel
theorem dX12_lay_115 : decode cX12_lay 115 = .ok (.goto 4, 3) := by decide +kernel
theorem dX12_lay_118 : decode cX12_lay 118 = .ok (.iconst 0, 1) := by decide +kernel
theorem dX12_lay_119 : decode cX12_lay 119 = .ok (.ireturn, 1) := by decide +kernel
theorem dX12_digits_0 : decode cX12_digits 0 = .ok (.iconst 0, 1) := by decide +kernel
theorem dX12_digits_1 : decode cX12_digits 1 = .ok (.istore_n 1, 1) := by decide +kernel
theorem dX12_digits_2 : decode cX12_digits 2 = .ok (.iconst 0, 1) := by decide +kernel
theorem dX12_digits_3 : decode cX12_digits 3 = .ok (.istore_n 2, 1) := by decide +kernel
theorem dX12_digits_4 : decode cX12_digits 4 = .ok (.iload_n 2, 1) := by decide +kernel
theorem dX12_digits_5 : decode cX12_digits 5 = .ok (.aload_n 0, 1) := by decide +kernel
theorem dX12_digits_6 : decode cX12_digits 6 = .ok (.getfield 374, 3) := by decide +kernel
theorem dX12_digits_9 : decode cX12_digits 9 = .ok (.if_icmp .ge 21, 3) := by decide +kernel
theorem dX12_digits_12 : decode cX12_digits 12 = .ok (.bipush 10, 2) := by decide +kernel
theorem dX12_digits_14 : decode cX12_digits 14 = .ok (.iload_n 1, 1) := by decide +kernel
theorem dX12_digits_15 : decode cX12_digits 15 = .ok (.imul, 1) := by decide +kernel
theorem dX12_digits_16 : decode cX12_digits 16 = .ok (.aload_n 0, 1) := by decide +kernel
theorem dX12_digits_17 : decode cX12_digits 17 = .ok (.getfield 160, 3) := by decide +kernel
theorem dX12_digits_20 : decode cX12_digits 20 = .ok (.iload_n 2, 1) := by decide +kernel
theorem dX12_digits_21 : decode cX12_digits 21 = .ok (.iaload, 1) := by decide +kernel
theorem dX12_digits_22 : decode cX12_digits 22 = .ok (.iadd, 1) := by decide +kernel
theorem dX12_digits_23 : decode cX12_digits 23 = .ok (.istore_n 1, 1) := by decide +kernel
theorem dX12_digits_24 : decode cX12_digits 24 = .ok (.iinc 2 1, 3) := by decide +kernel
theorem dX12_digits_27 : decode cX12_digits 27 = .ok (.goto (-23), 3) := by decide +kernel
theorem dX12_digits_30 : decode cX12_digits 30 = .ok (.iload_n 1, 1) := by decide +kernel
theorem dX12_digits_31 : decode cX12_digits 31 = .ok (.ireturn, 1) := by decide +kernel
theorem dX12_costOf_0 : decode cX12_costOf 0 = .ok (.iconst 0, 1) := by decide +kernel
theorem dX12_costOf_1 : decode cX12_costOf 1 = .ok (.istore_n 1, 1) := by decide +kernel
theorem dX12_costOf_2 : decode cX12_costOf 2 = .ok (.iconst 0, 1) := by decide +kernel
theorem dX12_costOf_3 : decode cX12_costOf 3 = .ok (.istore_n 2, 1) := by decide +kernel
theorem dX12_costOf_4 : decode cX12_costOf 4 = .ok (.iload_n 2, 1) := by decide +kernel
theorem dX12_costOf_5 : decode cX12_costOf 5 = .ok (.aload_n 0, 1) := by decide +kernel
theorem dX12_costOf_6 : decode cX12_costOf 6 = .ok (.getfield 374, 3) := by decide +kernel
theorem dX12_costOf_9 : decode cX12_costOf 9 = .ok (.if_icmp .ge 124, 3) := by decide +kernel
theorem dX12_costOf_12 : decode cX12_costOf 12 = .ok (.iload_n 1, 1) := by decide +kernel
theorem dX12_costOf_13 : decode cX12_costOf 13 = .ok (.aload_n 0, 1) := by decide +kernel
theorem dX12_costOf_14 : decode cX12_costOf 14 = .ok (.getfield 151, 3) := by decide +kernel
theorem dX12_costOf_17 : decode cX12_costOf 17 = .ok (.iload_n 2, 1) := by decide +kernel
theorem dX12_costOf_18 : decode cX12_costOf 18 = .ok (.iaload, 1) := by decide +kernel
theorem dX12_costOf_19 : decode cX12_costOf 19 = .ok (.aload_n 0, 1) := by decide +kernel
theorem dX12_costOf_20 : decode cX12_costOf 20 = .ok (.getfield 145, 3) := by decide +kernel
theorem dX12_costOf_23 : decode cX12_costOf 23 = .ok (.aload_n 0, 1) := by decide +kernel
theorem dX12_costOf_24 : decode cX12_costOf 24 = .ok (.getfield 160, 3) := by decide +kernel
theorem dX12_costOf_27 : decode cX12_costOf 27 = .ok (.iload_n 2, 1) := by decide +kernel
theorem dX12_costOf_28 : decode cX12_costOf 28 = .ok (.iaload, 1) := by decide +kernel
theorem dX12_costOf_29 : decode cX12_costOf 29 = .ok (.iaload, 1) := by decide +kernel
theorem dX12_costOf_30 : decode cX12_costOf 30 = .ok (.imul, 1) := by decide +kernel
theorem dX12_costOf_31 : decode cX12_costOf 31 = .ok (.iadd, 1) := by decide +kernel
theorem dX12_costOf_32 : decode cX12_costOf 32 = .ok (.istore_n 1, 1) := by decide +kernel
theorem dX12_costOf_33 : decode cX12_costOf 33 = .ok (.iconst 0, 1) := by decide +kernel
theorem dX12_costOf_34 : decode cX12_costOf 34 = .ok (.istore_n 3, 1) := by decide +kernel
theorem dX12_costOf_35 : decode cX12_costOf 35 = .ok (.iload_n 3, 1) := by decide +kernel
theorem dX12_costOf_36 : decode cX12_costOf 36 = .ok (.aload_n 0, 1) := by decide +kernel
theorem dX12_costOf_37 : decode cX12_costOf 37 = .ok (.getfield 374, 3) := by decide +kernel
theorem dX12_costOf_40 : decode cX12_costOf 40 = .ok (.if_icmp .ge 87, 3) := by decide +kernel
theorem dX12_costOf_43 : decode cX12_costOf 43 = .ok (.aload_n 0, 1) := by decide +kernel
theorem dX12_costOf_44 : decode cX12_costOf 44 = .ok (.getfield 160, 3) := by decide +kernel
theorem dX12_costOf_47 : decode cX12_costOf 47 = .ok (.iload_n 2, 1) := by decide +kernel
theorem dX12_costOf_48 : decode cX12_costOf 48 = .ok (.iaload, 1) := by decide +kernel
theorem dX12_costOf_49 : decode cX12_costOf 49 = .ok (.aload_n 0, 1) := by decide +kernel
theorem dX12_costOf_50 : decode cX12_costOf 50 = .ok (.getfield 160, 3) := by decide +kernel
theorem dX12_costOf_53 : decode cX12_costOf 53 = .ok (.iload_n 3, 1) := by decide +kernel
theorem dX12_costOf_54 : decode cX12_costOf 54 = .ok (.iaload, 1) := by decide +kernel
theorem dX12_costOf_55 : decode cX12_costOf 55 = .ok (.isub, 1) := by decide +kernel
theorem dX12_costOf_56 : decode cX12_costOf 56 = .ok (.invokestatic 258, 3) := by decide +kernel
theorem dX12_costOf_59 : decode cX12_costOf 59 = .ok (.aload_n 0, 1) := by decide +kernel
theorem dX12_costOf_60 : decode cX12_costOf 60 = .ok (.getfield 148, 3) := by decide +kernel
theorem dX12_costOf_63 : decode cX12_costOf 63 = .ok (.aload_n 0, 1) := by decide +kernel
theorem dX12_costOf_64 : decode cX12_costOf 64 = .ok (.getfield 160, 3) := by decide +kernel
theorem dX12_costOf_67 : decode cX12_costOf 67 = .ok (.iload_n 2, 1) := by decide +kernel
theorem dX12_costOf_68 : decode cX12_costOf 68 = .ok (.iaload, 1) := by decide +kernel
theorem dX12_costOf_69 : decode cX12_costOf 69 = .ok (.iaload, 1) := by decide +kernel
theorem dX12_costOf_70 : decode cX12_costOf 70 = .ok (.aload_n 0, 1) := by decide +kernel
theorem dX12_costOf_71 : decode cX12_costOf 71 = .ok (.getfield 148, 3) := by decide +kernel
theorem dX12_costOf_74 : decode cX12_costOf 74 = .ok (.aload_n 0, 1) := by decide +kernel
theorem dX12_costOf_75 : decode cX12_costOf 75 = .ok (.getfield 160, 3) := by decide +kernel
theorem dX12_costOf_78 : decode cX12_costOf 78 = .ok (.iload_n 3, 1) := by decide +kernel
theorem dX12_costOf_79 : decode cX12_costOf 79 = .ok (.iaload, 1) := by decide +kernel
theorem dX12_costOf_80 : decode cX12_costOf 80 = .ok (.iaload, 1) := by decide +kernel
theorem dX12_costOf_81 : decode cX12_costOf 81 = .ok (.if_icmp .ne 10, 3) := by decide +kernel
theorem dX12_costOf_84 : decode cX12_costOf 84 = .ok (.aload_n 0, 1) := by decide +kernel
theorem dX12_costOf_85 : decode cX12_costOf 85 = .ok (.getfield 157, 3) := by decide +kernel
theorem dX12_costOf_88 : decode cX12_costOf 88 = .ok (.goto 4, 3) := by decide +kernel
theorem dX12_costOf_91 : decode cX12_costOf 91 = .ok (.iconst 0, 1) := by decide +kernel
theorem dX12_costOf_92 : decode cX12_costOf 92 = .ok (.iadd, 1) := by decide +kernel
theorem dX12_costOf_93 : decode cX12_costOf 93 = .ok (.istore 4, 2) := by decide +kernel
theorem dX12_costOf_95 : decode cX12_costOf 95 = .ok (.iload_n 1, 1) := by decide +kernel
theorem dX12_costOf_96 : decode cX12_costOf 96 = .ok (.iload_n 2, 1) := by decide +kernel
theorem dX12_costOf_97 : decode cX12_costOf 97 = .ok (.iload_n 3, 1) := by decide +kernel
theorem dX12_costOf_98 : decode cX12_costOf 98 = .ok (.if_icmp .ne 7, 3) := by decide +kernel
theorem dX12_costOf_101 : decode cX12_costOf 101 = .ok (.iconst 0, 1) := by decide +kernel
theorem dX12_costOf_102 : decode cX12_costOf 102 = .ok (.goto 17, 3) := by decide +kernel
theorem dX12_costOf_105 : decode cX12_costOf 105 = .ok (.aload_n 0, 1) := by decide +kernel
theorem dX12_costOf_106 : decode cX12_costOf 106 = .ok (.getfield 154, 3) := by decide +kernel
theorem dX12_costOf_109 : decode cX12_costOf 109 = .ok (.bipush 7, 2) := by decide +kernel
theorem dX12_costOf_111 : decode cX12_costOf 111 = .ok (.iload_n 2, 1) := by decide +kernel
theorem dX12_costOf_112 : decode cX12_costOf 112 = .ok (.imul, 1) := by decide +kernel
theorem dX12_costOf_113 : decode cX12_costOf 113 = .ok (.iload_n 3, 1) := by decide +kernel
theorem dX12_costOf_114 : decode cX12_costOf 114 = .ok (.iadd, 1) := by decide +kernel
theorem dX12_costOf_115 : decode cX12_costOf 115 = .ok (.iaload, 1) := by decide +kernel
theorem dX12_costOf_116 : decode cX12_costOf 116 = .ok (.iload 4, 2) := by decide +kernel
theorem dX12_costOf_118 : decode cX12_costOf 118 = .ok (.imul, 1) := by decide +kernel
theorem dX12_costOf_119 : decode cX12_costOf 119 = .ok (.iadd, 1) := by decide +kernel
theorem dX12_costOf_120 : decode cX12_costOf 120 = .ok (.istore_n 1, 1) := by decide +kernel
theorem dX12_costOf_121 : decode cX12_costOf 121 = .ok (.iinc 3 1, 3) := by decide +kernel
theorem dX12_costOf_124 : decode cX12_costOf 124 = .ok (.goto (-89), 3) := by decide +kernel
theorem dX12_costOf_127 : decode cX12_costOf 127 = .ok (.iinc 2 1, 3) := by decide +kernel
theorem dX12_costOf_130 : decode cX12_costOf 130 = .ok (.goto (-126), 3) := by decide +kernel
theorem dX12_costOf_133 : decode cX12_costOf 133 = .ok (.iload_n 1, 1) := by decide +kernel
theorem dX12_costOf_134 : decode cX12_costOf 134 = .ok (.ireturn, 1) := by decide +kernel
theorem dX12_cost_0 : decode cX12_cost 0 = .ok (.aload_n 0, 1) := by decide +kernel
theorem dX12_cost_1 : decode cX12_cost 1 = .ok (.iload_n 1, 1) := by decide +kernel
theorem dX12_cost_2 : decode cX12_cost 2 = .ok (.invokevirtual 387, 3) := by decide +kernel
theorem dX12_cost_5 : decode cX12_cost 5 = .ok (.ifCond .eq 10, 3) := by decide +kernel
theorem dX12_cost_8 : decode cX12_cost 8 = .ok (.aload_n 0, 1) := by decide +kernel
theorem dX12_cost_9 : decode cX12_cost 9 = .ok (.invokevirtual 390, 3) := by decide +kernel
theorem dX12_cost_12 : decode cX12_cost 12 = .ok (.goto 5, 3) := by decide +kernel
theorem dX12_cost_15 : decode cX12_cost 15 = .ok (.bipush (-2), 2) := by decide +kernel
theorem dX12_cost_17 : decode cX12_cost 17 = .ok (.ireturn, 1) := by decide +kernel
theorem dX12_next_0 : decode cX12_next 0 = .ok (.aload_n 0, 1) := by decide +kernel
theorem dX12_next_1 : decode cX12_next 1 = .ok (.getfield 374, 3) := by decide +kernel
theorem dX12_next_4 : decode cX12_next 4 = .ok (.iconst 2, 1) := by decide +kernel
theorem dX12_next_5 : decode cX12_next 5 = .ok (.isub, 1) := by decide +kernel
theorem dX12_next_6 : decode cX12_next 6 = .ok (.istore_n 1, 1) := by decide +kernel
theorem dX12_next_7 : decode cX12_next 7 = .ok (.iload_n 1, 1) := by decide +kernel
theorem dX12_next_8 : decode cX12_next 8 = .ok (.ifCond .lt 26, 3) := by decide +kernel
theorem dX12_next_11 : decode cX12_next 11 = .ok (.aload_n 0, 1) := by decide +kernel
theorem dX12_next_12 : decode cX12_next 12 = .ok (.getfield 160, 3) := by decide +kernel
theorem dX12_next_15 : decode cX12_next 15 = .ok (.iload_n 1, 1) := by decide +kernel
theorem dX12_next_16 : decode cX12_next 16 = .ok (.iaload, 1) := by decide +kernel
theorem dX12_next_17 : decode cX12_next 17 = .ok (.aload_n 0, 1) := by decide +kernel
theorem dX12_next_18 : decode cX12_next 18 = .ok (.getfield 160, 3) := by decide +kernel
theorem dX12_next_21 : decode cX12_next 21 = .ok (.iload_n 1, 1) := by decide +kernel
theorem dX12_next_22 : decode cX12_next 22 = .ok (.iconst 1, 1) := by decide +kernel
theorem dX12_next_23 : decode cX12_next 23 = .ok (.iadd, 1) := by decide +kernel
theorem dX12_next_24 : decode cX12_next 24 = .ok (.iaload, 1) := by decide +kernel
theorem dX12_next_25 : decode cX12_next 25 = .ok (.if_icmp .le 9, 3) := by decide +kernel
theorem dX12_next_28 : decode cX12_next 28 = .ok (.iinc 1 (-1), 3) := by decide +kernel
theorem dX12_next_31 : decode cX12_next 31 = .ok (.goto (-24), 3) := by decide +kernel
theorem dX12_next_34 : decode cX12_next 34 = .ok (.iload_n 1, 1) := by decide +kernel
theorem dX12_next_35 : decode cX12_next 35 = .ok (.ifCond .ge 5, 3) := by decide +kernel
theorem dX12_next_38 : decode cX12_next 38 = .ok (.iconst 0, 1) := by decide +kernel
theorem dX12_next_39 : decode cX12_next 39 = .ok (.ireturn, 1) := by decide +kernel
theorem dX12_next_40 : decode cX12_next 40 = .ok (.aload_n 0, 1) := by decide +kernel
theorem dX12_next_41 : decode cX12_next 41 = .ok (.getfield 374, 3) := by decide +kernel
theorem dX12_next_44 : decode cX12_next 44 = .ok (.iconst 1, 1) := by decide +kernel
theorem dX12_next_45 : decode cX12_next 45 = .ok (.isub, 1) := by decide +kernel
theorem dX12_next_46 : decode cX12_next 46 = .ok (.istore_n 2, 1) := by decide +kernel
theorem dX12_next_47 : decode cX12_next 47 = .ok (.aload_n 0, 1) := by decide +kernel
theorem dX12_next_48 : decode cX12_next 48 = .ok (.getfield 160, 3) := by decide +kernel
theorem dX12_next_51 : decode cX12_next 51 = .ok (.iload_n 2, 1) := by decide +kernel
theorem dX12_next_52 : decode cX12_next 52 = .ok (.iaload, 1) := by decide +kernel
theorem dX12_next_53 : decode cX12_next 53 = .ok (.aload_n 0, 1) := by decide +kernel
theorem dX12_next_54 : decode cX12_next 54 = .ok (.getfield 160, 3) := by decide +kernel
theorem dX12_next_57 : decode cX12_next 57 = .ok (.iload_n 1, 1) := by decide +kernel
theorem dX12_next_58 : decode cX12_next 58 = .ok (.iaload, 1) := by decide +kernel
theorem dX12_next_59 : decode cX12_next 59 = .ok (.if_icmp .ge 9, 3) := by decide +kernel
theorem dX12_next_62 : decode cX12_next 62 = .ok (.iinc 2 (-1), 3) := by decide +kernel
theorem dX12_next_65 : decode cX12_next 65 = .ok (.goto (-18), 3) := by decide +kernel
theorem dX12_next_68 : decode cX12_next 68 = .ok (.aload_n 0, 1) := by decide +kernel
theorem dX12_next_69 : decode cX12_next 69 = .ok (.iload_n 1, 1) := by decide +kernel
theorem dX12_next_70 : decode cX12_next 70 = .ok (.iload_n 2, 1) := by decide +kernel
theorem dX12_next_71 : decode cX12_next 71 = .ok (.invokevirtual 394, 3) := by decide +kernel
theorem dX12_next_74 : decode cX12_next 74 = .ok (.iload_n 1, 1) := by decide +kernel
theorem dX12_next_75 : decode cX12_next 75 = .ok (.iconst 1, 1) := by decide +kernel
theorem dX12_next_76 : decode cX12_next 76 = .ok (.iadd, 1) := by decide +kernel
theorem dX12_next_77 : decode cX12_next 77 = .ok (.istore_n 3, 1) := by decide +kernel
theorem dX12_next_78 : decode cX12_next 78 = .ok (.aload_n 0, 1) := by decide +kernel
theorem dX12_next_79 : decode cX12_next 79 = .ok (.getfield 374, 3) := by decide +kernel
theorem dX12_next_82 : decode cX12_next 82 = .ok (.iconst 1, 1) := by decide +kernel
theorem dX12_next_83 : decode cX12_next 83 = .ok (.isub, 1) := by decide +kernel
theorem dX12_next_84 : decode cX12_next 84 = .ok (.istore 4, 2) := by decide +kernel
theorem dX12_next_86 : decode cX12_next 86 = .ok (.iload_n 3, 1) := by decide +kernel
theorem dX12_next_87 : decode cX12_next 87 = .ok (.iload 4, 2) := by decide +kernel
theorem dX12_next_89 : decode cX12_next 89 = .ok (.if_icmp .ge 19, 3) := by decide +kernel
theorem dX12_next_92 : decode cX12_next 92 = .ok (.aload_n 0, 1) := by decide +kernel
theorem dX12_next_93 : decode cX12_next 93 = .ok (.iload_n 3, 1) := by decide +kernel
theorem dX12_next_94 : decode cX12_next 94 = .ok (.iload 4, 2) := by decide +kernel
theorem dX12_next_96 : decode cX12_next 96 = .ok (.invokevirtual 394, 3) := by decide +kernel
theorem dX12_next_99 : decode cX12_next 99 = .ok (.iinc 3 1, 3) := by decide +kernel
theorem dX12_next_102 : decode cX12_next 102 = .ok (.iinc 4 (-1), 3) := by decide +kernel
theorem dX12_next_105 : decode cX12_next 105 = .ok (.goto (-19), 3) := by decide +kernel
theorem dX12_next_108 : decode cX12_next 108 = .ok (.iconst 1, 1) := by decide +kernel
theorem dX12_next_109 : decode cX12_next 109 = .ok (.ireturn, 1) := by decide +kernel
theorem dX12_exchange_0 : decode cX12_exchange 0 = .ok (.aload_n 0, 1) := by decide +kernel
theorem dX12_exchange_1 : decode cX12_exchange 1 = .ok (.getfield 160, 3) := by decide +kernel
theorem dX12_exchange_4 : decode cX12_exchange 4 = .ok (.iload_n 1, 1) := by decide +kernel
theorem dX12_exchange_5 : decode cX12_exchange 5 = .ok (.iaload, 1) := by decide +kernel
theorem dX12_exchange_6 : decode cX12_exchange 6 = .ok (.istore_n 3, 1) := by decide +kernel
theorem dX12_exchange_7 : decode cX12_exchange 7 = .ok (.aload_n 0, 1) := by decide +kernel
theorem dX12_exchange_8 : decode cX12_exchange 8 = .ok (.getfield 160, 3) := by decide +kernel
theorem dX12_exchange_11 : decode cX12_exchange 11 = .ok (.iload_n 1, 1) := by decide +kernel
theorem dX12_exchange_12 : decode cX12_exchange 12 = .ok (.aload_n 0, 1) := by decide +kernel
theorem dX12_exchange_13 : decode cX12_exchange 13 = .ok (.getfield 160, 3) := by decide +kernel
theorem dX12_exchange_16 : decode cX12_exchange 16 = .ok (.iload_n 2, 1) := by decide +kernel
theorem dX12_exchange_17 : decode cX12_exchange 17 = .ok (.iaload, 1) := by decide +kernel
theorem dX12_exchange_18 : decode cX12_exchange 18 = .ok (.iastore, 1) := by decide +kernel
theorem dX12_exchange_19 : decode cX12_exchange 19 = .ok (.aload_n 0, 1) := by decide +kernel
theorem dX12_exchange_20 : decode cX12_exchange 20 = .ok (.getfield 160, 3) := by decide +kernel
theorem dX12_exchange_23 : decode cX12_exchange 23 = .ok (.iload_n 2, 1) := by decide +kernel
theorem dX12_exchange_24 : decode cX12_exchange 24 = .ok (.iload_n 3, 1) := by decide +kernel
theorem dX12_exchange_25 : decode cX12_exchange 25 = .ok (.iastore, 1) := by decide +kernel
theorem dX12_exchange_26 : decode cX12_exchange 26 = .ok (.return_, 1) := by decide +kernel
theorem dX12_layFirst_0 : decode cX12_layFirst 0 = .ok (.iconst 0, 1) := by decide +kernel
theorem dX12_layFirst_1 : decode cX12_layFirst 1 = .ok (.istore_n 1, 1) := by decide +kernel
theorem dX12_layFirst_2 : decode cX12_layFirst 2 = .ok (.iload_n 1, 1) := by decide +kernel
theorem dX12_layFirst_3 : decode cX12_layFirst 3 = .ok (.aload_n 0, 1) := by decide +kernel
theorem dX12_layFirst_4 : decode cX12_layFirst 4 = .ok (.getfield 374, 3) := by decide +kernel
theorem dX12_layFirst_7 : decode cX12_layFirst 7 = .ok (.if_icmp .ge 16, 3) := by decide +kernel
theorem dX12_layFirst_10 : decode cX12_layFirst 10 = .ok (.aload_n 0, 1) := by decide +kernel
theorem dX12_layFirst_11 : decode cX12_layFirst 11 = .ok (.getfield 160, 3) := by decide +kernel
theorem dX12_layFirst_14 : decode cX12_layFirst 14 = .ok (.iload_n 1, 1) := by decide +kernel
theorem dX12_layFirst_15 : decode cX12_layFirst 15 = .ok (.iload_n 1, 1) := by decide +kernel
theorem dX12_layFirst_16 : decode cX12_layFirst 16 = .ok (.iastore, 1) := by decide +kernel
theorem dX12_layFirst_17 : decode cX12_layFirst 17 = .ok (.iinc 1 1, 3) := by decide +kernel
theorem dX12_layFirst_20 : decode cX12_layFirst 20 = .ok (.goto (-18), 3) := by decide +kernel
theorem dX12_layFirst_23 : decode cX12_layFirst 23 = .ok (.return_, 1) := by decide +kernel
theorem dX12_best_0 : decode cX12_best 0 = .ok (.aload_n 0, 1) := by decide +kernel
theorem dX12_best_1 : decode cX12_best 1 = .ok (.invokevirtual 398, 3) := by decide +kernel
theorem dX12_best_4 : decode cX12_best 4 = .ok (.aload_n 0, 1) := by decide +kernel
theorem dX12_best_5 : decode cX12_best 5 = .ok (.invokevirtual 390, 3) := by decide +kernel
theorem dX12_best_8 : decode cX12_best 8 = .ok (.istore_n 1, 1) := by decide +kernel
theorem dX12_best_9 : decode cX12_best 9 = .ok (.aload_n 0, 1) := by decide +kernel
theorem dX12_best_10 : decode cX12_best 10 = .ok (.invokevirtual 401, 3) := by decide +kernel
theorem dX12_best_13 : decode cX12_best 13 = .ok (.istore_n 2, 1) := by decide +kernel
theorem dX12_best_14 : decode cX12_best 14 = .ok (.aload_n 0, 1) := by decide +kernel
theorem dX12_best_15 : decode cX12_best 15 = .ok (.invokevirtual 404, 3) := by decide +kernel
theorem dX12_best_18 : decode cX12_best 18 = .ok (.ifCond .eq 24, 3) := by decide +kernel
theorem dX12_best_21 : decode cX12_best 21 = .ok (.aload_n 0, 1) := by decide +kernel
theorem dX12_best_22 : decode cX12_best 22 = .ok (.invokevirtual 390, 3) := by decide +kernel
theorem dX12_best_25 : decode cX12_best 25 = .ok (.iload_n 1, 1) := by decide +kernel
theorem dX12_best_26 : decode cX12_best 26 = .ok (.if_icmp .ge (-12), 3) := by decide +kernel
theorem dX12_best_29 : decode cX12_best 29 = .ok (.aload_n 0, 1) := by decide +kernel
theorem dX12_best_30 : decode cX12_best 30 = .ok (.invokevirtual 390, 3) := by decide +kernel
theorem dX12_best_33 : decode cX12_best 33 = .ok (.istore_n 1, 1) := by decide +kernel
theorem dX12_best_34 : decode cX12_best 34 = .ok (.aload_n 0, 1) := by decide +kernel
theorem dX12_best_35 : decode cX12_best 35 = .ok (.invokevirtual 401, 3) := by decide +kernel
theorem dX12_best_38 : decode cX12_best 38 = .ok (.istore_n 2, 1) := by decide +kernel
theorem dX12_best_39 : decode cX12_best 39 = .ok (.goto (-25), 3) := by decide +kernel
theorem dX12_best_42 : decode cX12_best 42 = .ok (.iload_n 2, 1) := by decide +kernel
theorem dX12_best_43 : decode cX12_best 43 = .ok (.ireturn, 1) := by decide +kernel
theorem dX12_bound_0 : decode cX12_bound 0 = .ok (.iconst 0, 1) := by decide +kernel
theorem dX12_bound_1 : decode cX12_bound 1 = .ok (.istore_n 1, 1) := by decide +kernel
theorem dX12_bound_2 : decode cX12_bound 2 = .ok (.iconst 0, 1) := by decide +kernel
theorem dX12_bound_3 : decode cX12_bound 3 = .ok (.istore_n 2, 1) := by decide +kernel
theorem dX12_bound_4 : decode cX12_bound 4 = .ok (.iconst 0, 1) := by decide +kernel
theorem dX12_bound_5 : decode cX12_bound 5 = .ok (.istore_n 3, 1) := by decide +kernel
theorem dX12_bound_6 : decode cX12_bound 6 = .ok (.iconst 0, 1) := by decide +kernel
theorem dX12_bound_7 : decode cX12_bound 7 = .ok (.istore 4, 2) := by decide +kernel
theorem dX12_bound_9 : decode cX12_bound 9 = .ok (.iload 4, 2) := by decide +kernel
theorem dX12_bound_11 : decode cX12_bound 11 = .ok (.aload_n 0, 1) := by decide +kernel
theorem dX12_bound_12 : decode cX12_bound 12 = .ok (.getfield 374, 3) := by decide +kernel
theorem dX12_bound_15 : decode cX12_bound 15 = .ok (.if_icmp .ge 145, 3) := by decide +kernel
theorem dX12_bound_18 : decode cX12_bound 18 = .ok (.iconst (-1), 1) := by decide +kernel
theorem dX12_bound_19 : decode cX12_bound 19 = .ok (.istore 5, 2) := by decide +kernel
theorem dX12_bound_21 : decode cX12_bound 21 = .ok (.iconst (-1), 1) := by decide +kernel
theorem dX12_bound_22 : decode cX12_bound 22 = .ok (.istore 6, 2) := by decide +kernel
theorem dX12_bound_24 : decode cX12_bound 24 = .ok (.iconst 0, 1) := by decide +kernel
theorem dX12_bound_25 : decode cX12_bound 25 = .ok (.istore 7, 2) := by decide +kernel
theorem dX12_bound_27 : decode cX12_bound 27 = .ok (.iload 7, 2) := by decide +kernel
theorem dX12_bound_29 : decode cX12_bound 29 = .ok (.aload_n 0, 1) := by decide +kernel
theorem dX12_bound_30 : decode cX12_bound 30 = .ok (.getfield 374, 3) := by decide +kernel
theorem dX12_bound_33 : decode cX12_bound 33 = .ok (.if_icmp .ge 89, 3) := by decide +kernel
theorem dX12_bound_36 : decode cX12_bound 36 = .ok (.iload_n 2, 1) := by decide +kernel
theorem dX12_bound_37 : decode cX12_bound 37 = .ok (.iload 7, 2) := by decide +kernel
theorem dX12_bound_39 : decode cX12_bound 39 = .ok (.ishr, 1) := by decide +kernel
theorem dX12_bound_40 : decode cX12_bound 40 = .ok (.iconst 1, 1) := by decide +kernel
theorem dX12_bound_41 : decode cX12_bound 41 = .ok (.iand, 1) := by decide +kernel
theorem dX12_bound_42 : decode cX12_bound 42 = .ok (.ifCond .ne 30, 3) := by decide +kernel
theorem dX12_bound_45 : decode cX12_bound 45 = .ok (.iload 5, 2) := by decide +kernel
theorem dX12_bound_47 : decode cX12_bound 47 = .ok (.ifCond .lt 20, 3) := by decide +kernel
theorem dX12_bound_50 : decode cX12_bound 50 = .ok (.aload_n 0, 1) := by decide +kernel
theorem dX12_bound_51 : decode cX12_bound 51 = .ok (.getfield 151, 3) := by decide +kernel
theorem dX12_bound_54 : decode cX12_bound 54 = .ok (.iload 7, 2) := by decide +kernel
theorem dX12_bound_56 : decode cX12_bound 56 = .ok (.iaload, 1) := by decide +kernel
theorem dX12_bound_57 : decode cX12_bound 57 = .ok (.aload_n 0, 1) := by decide +kernel
theorem dX12_bound_58 : decode cX12_bound 58 = .ok (.getfield 151, 3) := by decide +kernel
theorem dX12_bound_61 : decode cX12_bound 61 = .ok (.iload 5, 2) := by decide +kernel
theorem dX12_bound_63 : decode cX12_bound 63 = .ok (.iaload, 1) := by decide +kernel
theorem dX12_bound_64 : decode cX12_bound 64 = .ok (.if_icmp .le 8, 3) := by decide +kernel
theorem dX12_bound_67 : decode cX12_bound 67 = .ok (.iload 7, 2) := by decide +kernel
theorem dX12_bound_69 : decode cX12_bound 69 = .ok (.goto 5, 3) := by decide +kernel
theorem dX12_bound_72 : decode cX12_bound 72 = .ok (.iload 5, 2) := by decide +kernel
theorem dX12_bound_74 : decode cX12_bound 74 = .ok (.istore 5, 2) := by decide +kernel
theorem dX12_bound_76 : decode cX12_bound 76 = .ok (.iload_n 3, 1) := by decide +kernel
theorem dX12_bound_77 : decode cX12_bound 77 = .ok (.iload 7, 2) := by decide +kernel
theorem dX12_bound_79 : decode cX12_bound 79 = .ok (.ishr, 1) := by decide +kernel
theorem dX12_bound_80 : decode cX12_bound 80 = .ok (.iconst 1, 1) := by decide +kernel
theorem dX12_bound_81 : decode cX12_bound 81 = .ok (.iand, 1) := by decide +kernel
theorem dX12_bound_82 : decode cX12_bound 82 = .ok (.ifCond .ne 30, 3) := by decide +kernel
theorem dX12_bound_85 : decode cX12_bound 85 = .ok (.iload 6, 2) := by decide +kernel
theorem dX12_bound_87 : decode cX12_bound 87 = .ok (.ifCond .lt 20, 3) := by decide +kernel
theorem dX12_bound_90 : decode cX12_bound 90 = .ok (.aload_n 0, 1) := by decide +kernel
theorem dX12_bound_91 : decode cX12_bound 91 = .ok (.getfield 145, 3) := by decide +kernel
theorem dX12_bound_94 : decode cX12_bound 94 = .ok (.iload 7, 2) := by decide +kernel
theorem dX12_bound_96 : decode cX12_bound 96 = .ok (.iaload, 1) := by decide +kernel
theorem dX12_bound_97 : decode cX12_bound 97 = .ok (.aload_n 0, 1) := by decide +kernel
theorem dX12_bound_98 : decode cX12_bound 98 = .ok (.getfield 145, 3) := by decide +kernel
theorem dX12_bound_101 : decode cX12_bound 101 = .ok (.iload 6, 2) := by decide +kernel
theorem dX12_bound_103 : decode cX12_bound 103 = .ok (.iaload, 1) := by decide +kernel
theorem dX12_bound_104 : decode cX12_bound 104 = .ok (.if_icmp .ge 8, 3) := by decide +kernel
theorem dX12_bound_107 : decode cX12_bound 107 = .ok (.iload 7, 2) := by decide +kernel
theorem dX12_bound_109 : decode cX12_bound 109 = .ok (.goto 5, 3) := by decide +kernel
theorem dX12_bound_112 : decode cX12_bound 112 = .ok (.iload 6, 2) := by decide +kernel
theorem dX12_bound_114 : decode cX12_bound 114 = .ok (.istore 6, 2) := by decide +kernel
theorem dX12_bound_116 : decode cX12_bound 116 = .ok (.iinc 7 1, 3) := by decide +kernel
theorem dX12_bound_119 : decode cX12_bound 119 = .ok (.goto (-92), 3) := by decide +kernel
theorem dX12_bound_122 : decode cX12_bound 122 = .ok (.iload_n 2, 1) := by decide +kernel
theorem dX12_bound_123 : decode cX12_bound 123 = .ok (.iconst 1, 1) := by decide +kernel
theorem dX12_bound_124 : decode cX12_bound 124 = .ok (.iload 5, 2) := by decide +kernel
theorem dX12_bound_126 : decode cX12_bound 126 = .ok (.ishl, 1) := by decide +kernel
theorem dX12_bound_127 : decode cX12_bound 127 = .ok (.ior, 1) := by decide +kernel
theorem dX12_bound_128 : decode cX12_bound 128 = .ok (.istore_n 2, 1) := by decide +kernel
theorem dX12_bound_129 : decode cX12_bound 129 = .ok (.iload_n 3, 1) := by decide +kernel
theorem dX12_bound_130 : decode cX12_bound 130 = .ok (.iconst 1, 1) := by decide +kernel
theorem dX12_bound_131 : decode cX12_bound 131 = .ok (.iload 6, 2) := by decide +kernel
theorem dX12_bound_133 : decode cX12_bound 133 = .ok (.ishl, 1) := by decide +kernel
theorem dX12_bound_134 : decode cX12_bound 134 = .ok (.ior, 1) := by decide +kernel
theorem dX12_bound_135 : decode cX12_bound 135 = .ok (.istore_n 3, 1) := by decide +kernel
theorem dX12_bound_136 : decode cX12_bound 136 = .ok (.iload_n 1, 1) := by decide +kernel
theorem dX12_bound_137 : decode cX12_bound 137 = .ok (.aload_n 0, 1) := by decide +kernel
theorem dX12_bound_138 : decode cX12_bound 138 = .ok (.getfield 151, 3) := by decide +kernel
theorem dX12_bound_141 : decode cX12_bound 141 = .ok (.iload 5, 2) := by decide +kernel
theorem dX12_bound_143 : decode cX12_bound 143 = .ok (.iaload, 1) := by decide +kernel
theorem dX12_bound_144 : decode cX12_bound 144 = .ok (.aload_n 0, 1) := by decide +kernel
theorem dX12_bound_145 : decode cX12_bound 145 = .ok (.getfield 145, 3) := by decide +kernel
theorem dX12_bound_148 : decode cX12_bound 148 = .ok (.iload 6, 2) := by decide +kernel
theorem dX12_bound_150 : decode cX12_bound 150 = .ok (.iaload, 1) := by decide +kernel
theorem dX12_bound_151 : decode cX12_bound 151 = .ok (.imul, 1) := by decide +kernel
theorem dX12_bound_152 : decode cX12_bound 152 = .ok (.iadd, 1) := by decide +kernel
theorem dX12_bound_153 : decode cX12_bound 153 = .ok (.istore_n 1, 1) := by decide +kernel
theorem dX12_bound_154 : decode cX12_bound 154 = .ok (.iinc 4 1, 3) := by decide +kernel
theorem dX12_bound_157 : decode cX12_bound 157 = .ok (.goto (-148), 3) := by decide +kernel
theorem dX12_bound_160 : decode cX12_bound 160 = .ok (.iconst 0, 1) := by decide +kernel
theorem dX12_bound_161 : decode cX12_bound 161 = .ok (.istore 4, 2) := by decide +kernel
theorem dX12_bound_163 : decode cX12_bound 163 = .ok (.iload 4, 2) := by decide +kernel
theorem dX12_bound_165 : decode cX12_bound 165 = .ok (.aload_n 0, 1) := by decide +kernel
theorem dX12_bound_166 : decode cX12_bound 166 = .ok (.getfield 374, 3) := by decide +kernel
theorem dX12_bound_169 : decode cX12_bound 169 = .ok (.if_icmp .ge 54, 3) := by decide +kernel
theorem dX12_bound_172 : decode cX12_bound 172 = .ok (.iconst 0, 1) := by decide +kernel
theorem dX12_bound_173 : decode cX12_bound 173 = .ok (.istore 5, 2) := by decide +kernel
theorem dX12_bound_175 : decode cX12_bound 175 = .ok (.iload 5, 2) := by decide +kernel
theorem dX12_bound_177 : decode cX12_bound 177 = .ok (.aload_n 0, 1) := by decide +kernel
theorem dX12_bound_178 : decode cX12_bound 178 = .ok (.getfield 374, 3) := by decide +kernel
theorem dX12_bound_181 : decode cX12_bound 181 = .ok (.if_icmp .ge 36, 3) := by decide +kernel
theorem dX12_bound_184 : decode cX12_bound 184 = .ok (.iload_n 1, 1) := by decide +kernel
theorem dX12_bound_185 : decode cX12_bound 185 = .ok (.iload 4, 2) := by decide +kernel
theorem dX12_bound_187 : decode cX12_bound 187 = .ok (.iload 5, 2) := by decide +kernel
theorem dX12_bound_189 : decode cX12_bound 189 = .ok (.if_icmp .ne 7, 3) := by decide +kernel
theorem dX12_bound_192 : decode cX12_bound 192 = .ok (.iconst 0, 1) := by decide +kernel
theorem dX12_bound_193 : decode cX12_bound 193 = .ok (.goto 16, 3) := by decide +kernel
theorem dX12_bound_196 : decode cX12_bound 196 = .ok (.aload_n 0, 1) := by decide +kernel
theorem dX12_bound_197 : decode cX12_bound 197 = .ok (.getfield 154, 3) := by decide +kernel
theorem dX12_bound_200 : decode cX12_bound 200 = .ok (.bipush 7, 2) := by decide +kernel
theorem dX12_bound_202 : decode cX12_bound 202 = .ok (.iload 4, 2) := by decide +kernel
theorem dX12_bound_204 : decode cX12_bound 204 = .ok (.imul, 1) := by decide +kernel
theorem dX12_bound_205 : decode cX12_bound 205 = .ok (.iload 5, 2) := by decide +kernel
theorem dX12_bound_207 : decode cX12_bound 207 = .ok (.iadd, 1) := by decide +kernel
theorem dX12_bound_208 : decode cX12_bound 208 = .ok (.iaload, 1) := by decide +kernel
theorem dX12_bound_209 : decode cX12_bound 209 = .ok (.iadd, 1) := by decide +kernel
theorem dX12_bound_210 : decode cX12_bound 210 = .ok (.istore_n 1, 1) := by decide +kernel
theorem dX12_bound_211 : decode cX12_bound 211 = .ok (.iinc 5 1, 3) := by decide +kernel
theorem dX12_bound_214 : decode cX12_bound 214 = .ok (.goto (-39), 3) := by decide +kernel
theorem dX12_bound_217 : decode cX12_bound 217 = .ok (.iinc 4 1, 3) := by decide +kernel
theorem dX12_bound_220 : decode cX12_bound 220 = .ok (.goto (-57), 3) := by decide +kernel
theorem dX12_bound_223 : decode cX12_bound 223 = .ok (.iload_n 1, 1) := by decide +kernel
theorem dX12_bound_224 : decode cX12_bound 224 = .ok (.ireturn, 1) := by decide +kernel
theorem dX12_better_0 : decode cX12_better 0 = .ok (.iload_n 2, 1) := by decide +kernel
theorem dX12_better_1 : decode cX12_better 1 = .ok (.i2l, 1) := by decide +kernel
theorem dX12_better_2 : decode cX12_better 2 = .ok (.lconst 0, 1) := by decide +kernel
theorem dX12_better_3 : decode cX12_better 3 = .ok (.lconst 1, 1) := by decide +kernel
theorem dX12_better_4 : decode cX12_better 4 = .ok (.invokestatic 178, 3) := by decide +kernel
theorem dX12_better_7 : decode cX12_better 7 = .ok (.ifCond .eq 11, 3) := by decide +kernel
theorem dX12_better_10 : decode cX12_better 10 = .ok (.aload_n 0, 1) := by decide +kernel
theorem dX12_better_11 : decode cX12_better 11 = .ok (.iload_n 1, 1) := by decide +kernel
theorem dX12_better_12 : decode cX12_better 12 = .ok (.invokevirtual 387, 3) := by decide +kernel
theorem dX12_better_15 : decode cX12_better 15 = .ok (.ifCond .ne 6, 3) := by decide +kernel
theorem dX12_better_18 : decode cX12_better 18 = .ok (.bipush (-2), 2) := by decide +kernel
theorem dX12_better_20 : decode cX12_better 20 = .ok (.ireturn, 1) := by decide +kernel
theorem dX12_better_21 : decode cX12_better 21 = .ok (.iconst 0, 1) := by decide +kernel
theorem dX12_better_22 : decode cX12_better 22 = .ok (.istore_n 3, 1) := by decide +kernel
theorem dX12_better_23 : decode cX12_better 23 = .ok (.iconst 1, 1) := by decide +kernel
theorem dX12_better_24 : decode cX12_better 24 = .ok (.istore 4, 2) := by decide +kernel
theorem dX12_better_26 : decode cX12_better 26 = .ok (.iload 4, 2) := by decide +kernel
theorem dX12_better_28 : decode cX12_better 28 = .ok (.ifCond .eq 124, 3) := by decide +kernel
theorem dX12_better_31 : decode cX12_better 31 = .ok (.aload_n 0, 1) := by decide +kernel
theorem dX12_better_32 : decode cX12_better 32 = .ok (.invokevirtual 390, 3) := by decide +kernel
theorem dX12_better_35 : decode cX12_better 35 = .ok (.istore 5, 2) := by decide +kernel
theorem dX12_better_37 : decode cX12_better 37 = .ok (.iconst (-1), 1) := by decide +kernel
theorem dX12_better_38 : decode cX12_better 38 = .ok (.istore 6, 2) := by decide +kernel
theorem dX12_better_40 : decode cX12_better 40 = .ok (.iconst (-1), 1) := by decide +kernel
theorem dX12_better_41 : decode cX12_better 41 = .ok (.istore 7, 2) := by decide +kernel
theorem dX12_better_43 : decode cX12_better 43 = .ok (.iconst 0, 1) := by decide +kernel
theorem dX12_better_44 : decode cX12_better 44 = .ok (.istore 8, 2) := by decide +kernel
theorem dX12_better_46 : decode cX12_better 46 = .ok (.iload 8, 2) := by decide +kernel
theorem dX12_better_48 : decode cX12_better 48 = .ok (.aload_n 0, 1) := by decide +kernel
theorem dX12_better_49 : decode cX12_better 49 = .ok (.getfield 374, 3) := by decide +kernel
theorem dX12_better_52 : decode cX12_better 52 = .ok (.if_icmp .ge 69, 3) := by decide +kernel
theorem dX12_better_55 : decode cX12_better 55 = .ok (.iload 8, 2) := by decide +kernel
theorem dX12_better_57 : decode cX12_better 57 = .ok (.iconst 1, 1) := by decide +kernel
theorem dX12_better_58 : decode cX12_better 58 = .ok (.iadd, 1) := by decide +kernel
theorem dX12_better_59 : decode cX12_better 59 = .ok (.istore 9, 2) := by decide +kernel
theorem dX12_better_61 : decode cX12_better 61 = .ok (.iload 9, 2) := by decide +kernel
theorem dX12_better_63 : decode cX12_better 63 = .ok (.aload_n 0, 1) := by decide +kernel
theorem dX12_better_64 : decode cX12_better 64 = .ok (.getfield 374, 3) := by decide +kernel
theorem dX12_better_67 : decode cX12_better 67 = .ok (.if_icmp .ge 48, 3) := by decide +kernel
theorem dX12_better_70 : decode cX12_better 70 = .ok (.aload_n 0, 1) := by decide +kernel
theorem dX12_better_71 : decode cX12_better 71 = .ok (.iload 8, 2) := by decide +kernel
theorem dX12_better_73 : decode cX12_better 73 = .ok (.iload 9, 2) := by decide +kernel
theorem dX12_better_75 : decode cX12_better 75 = .ok (.invokevirtual 394, 3) := by decide +kernel
theorem dX12_better_78 : decode cX12_better 78 = .ok (.aload_n 0, 1) := by decide +kernel
theorem dX12_better_79 : decode cX12_better 79 = .ok (.invokevirtual 390, 3) := by decide +kernel
theorem dX12_better_82 : decode cX12_better 82 = .ok (.iload 5, 2) := by decide +kernel
theorem dX12_better_84 : decode cX12_better 84 = .ok (.if_icmp .ge 17, 3) := by decide +kernel
theorem dX12_better_87 : decode cX12_better 87 = .ok (.aload_n 0, 1) := by decide +kernel
theorem dX12_better_88 : decode cX12_better 88 = .ok (.invokevirtual 390, 3) := by decide +kernel
theorem dX12_better_91 : decode cX12_better 91 = .ok (.istore 5, 2) := by decide +kernel
theorem dX12_better_93 : decode cX12_better 93 = .ok (.iload 8, 2) := by decide +kernel
theorem dX12_better_95 : decode cX12_better 95 = .ok (.istore 6, 2) := by decide +kernel
theorem dX12_better_97 : decode cX12_better 97 = .ok (.iload 9, 2) := by decide +kernel
theorem dX12_better_99 : decode cX12_better 99 = .ok (.istore 7, 2) := by decide +kernel
theorem dX12_better_101 : decode cX12_better 101 = .ok (.aload_n 0, 1) := by decide +kernel
theorem dX12_better_102 : decode cX12_better 102 = .ok (.iload 8, 2) := by decide +kernel
theorem dX12_better_104 : decode cX12_better 104 = .ok (.iload 9, 2) := by decide +kernel
theorem dX12_better_106 : decode cX12_better 106 = .ok (.invokevirtual 394, 3) := by decide +kernel
theorem dX12_better_109 : decode cX12_better 109 = .ok (.iinc 9 1, 3) := by decide +kernel
theorem dX12_better_112 : decode cX12_better 112 = .ok (.goto (-51), 3) := by decide +kernel
theorem dX12_better_115 : decode cX12_better 115 = .ok (.iinc 8 1, 3) := by decide +kernel
theorem dX12_better_118 : decode cX12_better 118 = .ok (.goto (-72), 3) := by decide +kernel
theorem dX12_better_121 : decode cX12_better 121 = .ok (.iload 6, 2) := by decide +kernel
theorem dX12_better_123 : decode cX12_better 123 = .ok (.ifCond .lt 7, 3) := by decide +kernel
theorem dX12_better_126 : decode cX12_better 126 = .ok (.iconst 1, 1) := by decide +kernel
theorem dX12_better_127 : decode cX12_better 127 = .ok (.goto 4, 3) := by decide +kernel
theorem dX12_better_130 : decode cX12_better 130 = .ok (.iconst 0, 1) := by decide +kernel
theorem dX12_better_131 : decode cX12_better 131 = .ok (.istore 4, 2) := by decide +kernel
theorem dX12_better_133 : decode cX12_better 133 = .ok (.iload 4, 2) := by decide +kernel
theorem dX12_better_135 : decode cX12_better 135 = .ok (.ifCond .eq 14, 3) := by decide +kernel
theorem dX12_better_138 : decode cX12_better 138 = .ok (.aload_n 0, 1) := by decide +kernel
theorem dX12_better_139 : decode cX12_better 139 = .ok (.iload 6, 2) := by decide +kernel
theorem dX12_better_141 : decode cX12_better 141 = .ok (.iload 7, 2) := by decide +kernel
theorem dX12_better_143 : decode cX12_better 143 = .ok (.invokevirtual 394, 3) := by decide +kernel
theorem dX12_better_146 : decode cX12_better 146 = .ok (.iinc 3 1, 3) := by decide +kernel
theorem dX12_better_149 : decode cX12_better 149 = .ok (.goto (-123), 3) := by decide +kernel
theorem dX12_better_152 : decode cX12_better 152 = .ok (.iload_n 2, 1) := by decide +kernel
theorem dX12_better_153 : decode cX12_better 153 = .ok (.ifCond .ne 10, 3) := by decide +kernel
theorem dX12_better_156 : decode cX12_better 156 = .ok (.aload_n 0, 1) := by decide +kernel
theorem dX12_better_157 : decode cX12_better 157 = .ok (.invokevirtual 401, 3) := by decide +kernel
theorem dX12_better_160 : decode cX12_better 160 = .ok (.goto 4, 3) := by decide +kernel
theorem dX12_better_163 : decode cX12_better 163 = .ok (.iload_n 3, 1) := by decide +kernel
theorem dX12_better_164 : decode cX12_better 164 = .ok (.ireturn, 1) := by decide +kernel
theorem dX12_findLayouts_0 : decode cX12_findLayouts 0 = .ok (.aload_n 0, 1) := by decide +kernel
theorem dX12_findLayouts_1 : decode cX12_findLayouts 1 = .ok (.iconst 0, 1) := by decide +kernel
theorem dX12_findLayouts_2 : decode cX12_findLayouts 2 = .ok (.putfield 408, 3) := by decide +kernel
theorem dX12_findLayouts_5 : decode cX12_findLayouts 5 = .ok (.aload_n 0, 1) := by decide +kernel
theorem dX12_findLayouts_6 : decode cX12_findLayouts 6 = .ok (.invokevirtual 398, 3) := by decide +kernel
theorem dX12_findLayouts_9 : decode cX12_findLayouts 9 = .ok (.iconst 1, 1) := by decide +kernel
theorem dX12_findLayouts_10 : decode cX12_findLayouts 10 = .ok (.istore_n 1, 1) := by decide +kernel
theorem dX12_findLayouts_11 : decode cX12_findLayouts 11 = .ok (.iload_n 1, 1) := by decide +kernel
theorem dX12_findLayouts_12 : decode cX12_findLayouts 12 = .ok (.ifCond .eq 47, 3) := by decide +kernel
theorem dX12_findLayouts_15 : decode cX12_findLayouts 15 = .ok (.aload_n 0, 1) := by decide +kernel
theorem dX12_findLayouts_16 : decode cX12_findLayouts 16 = .ok (.getfield 163, 3) := by decide +kernel
theorem dX12_findLayouts_19 : decode cX12_findLayouts 19 = .ok (.aload_n 0, 1) := by decide +kernel
theorem dX12_findLayouts_20 : decode cX12_findLayouts 20 = .ok (.getfield 408, 3) := by decide +kernel
theorem dX12_findLayouts_23 : decode cX12_findLayouts 23 = .ok (.aload_n 0, 1) := by decide +kernel
theorem dX12_findLayouts_24 : decode cX12_findLayouts 24 = .ok (.invokevirtual 401, 3) := by decide +kernel
theorem dX12_findLayouts_27 : decode cX12_findLayouts 27 = .ok (.iastore, 1) := by decide +kernel
theorem dX12_findLayouts_28 : decode cX12_findLayouts 28 = .ok (.aload_n 0, 1) := by decide +kernel
theorem dX12_findLayouts_29 : decode cX12_findLayouts 29 = .ok (.getfield 166, 3) := by decide +kernel
theorem dX12_findLayouts_32 : decode cX12_findLayouts 32 = .ok (.aload_n 0, 1) := by decide +kernel
theorem dX12_findLayouts_33 : decode cX12_findLayouts 33 = .ok (.getfield 408, 3) := by decide +kernel
theorem dX12_findLayouts_36 : decode cX12_findLayouts 36 = .ok (.aload_n 0, 1) := by decide +kernel
theorem dX12_findLayouts_37 : decode cX12_findLayouts 37 = .ok (.invokevirtual 390, 3) := by decide +kernel
theorem dX12_findLayouts_40 : decode cX12_findLayouts 40 = .ok (.iastore, 1) := by decide +kernel
theorem dX12_findLayouts_41 : decode cX12_findLayouts 41 = .ok (.aload_n 0, 1) := by decide +kernel
theorem dX12_findLayouts_42 : decode cX12_findLayouts 42 = .ok (.dup, 1) := by decide +kernel
theorem dX12_findLayouts_43 : decode cX12_findLayouts 43 = .ok (.getfield 408, 3) := by decide +kernel
theorem dX12_findLayouts_46 : decode cX12_findLayouts 46 = .ok (.iconst 1, 1) := by decide +kernel
theorem dX12_findLayouts_47 : decode cX12_findLayouts 47 = .ok (.iadd, 1) := by decide +kernel
theorem dX12_findLayouts_48 : decode cX12_findLayouts 48 = .ok (.putfield 408, 3) := by decide +kernel
theorem dX12_findLayouts_51 : decode cX12_findLayouts 51 = .ok (.aload_n 0, 1) := by decide +kernel
theorem dX12_findLayouts_52 : decode cX12_findLayouts 52 = .ok (.invokevirtual 404, 3) := by decide +kernel
theorem dX12_findLayouts_55 : decode cX12_findLayouts 55 = .ok (.istore_n 1, 1) := by decide +kernel
theorem dX12_findLayouts_56 : decode cX12_findLayouts 56 = .ok (.goto (-45), 3) := by decide +kernel
theorem dX12_findLayouts_59 : decode cX12_findLayouts 59 = .ok (.return_, 1) := by decide +kernel
theorem dX12_areOneApart_0 : decode cX12_areOneApart 0 = .ok (.aload_n 0, 1) := by decide +kernel
theorem dX12_areOneApart_1 : decode cX12_areOneApart 1 = .ok (.getfield 163, 3) := by decide +kernel
theorem dX12_areOneApart_4 : decode cX12_areOneApart 4 = .ok (.iload_n 1, 1) := by decide +kernel
theorem dX12_areOneApart_5 : decode cX12_areOneApart 5 = .ok (.iaload, 1) := by decide +kernel
theorem dX12_areOneApart_6 : decode cX12_areOneApart 6 = .ok (.istore_n 3, 1) := by decide +kernel
theorem dX12_areOneApart_7 : decode cX12_areOneApart 7 = .ok (.aload_n 0, 1) := by decide +kernel
theorem dX12_areOneApart_8 : decode cX12_areOneApart 8 = .ok (.getfield 163, 3) := by decide +kernel
theorem dX12_areOneApart_11 : decode cX12_areOneApart 11 = .ok (.iload_n 2, 1) := by decide +kernel
theorem dX12_areOneApart_12 : decode cX12_areOneApart 12 = .ok (.iaload, 1) := by decide +kernel
theorem dX12_areOneApart_13 : decode cX12_areOneApart 13 = .ok (.istore 4, 2) := by decide +kernel
theorem dX12_areOneApart_15 : decode cX12_areOneApart 15 = .ok (.iconst 0, 1) := by decide +kernel
theorem dX12_areOneApart_16 : decode cX12_areOneApart 16 = .ok (.istore 5, 2) := by decide +kernel
theorem dX12_areOneApart_18 : decode cX12_areOneApart 18 = .ok (.iconst 0, 1) := by decide +kernel
theorem dX12_areOneApart_19 : decode cX12_areOneApart 19 = .ok (.istore 6, 2) := by decide +kernel
theorem dX12_areOneApart_21 : decode cX12_areOneApart 21 = .ok (.iload 6, 2) := by decide +kernel
theorem dX12_areOneApart_23 : decode cX12_areOneApart 23 = .ok (.aload_n 0, 1) := by decide +kernel
theorem dX12_areOneApart_24 : decode cX12_areOneApart 24 = .ok (.getfield 374, 3) := by decide +kernel
theorem dX12_areOneApart_27 : decode cX12_areOneApart 27 = .ok (.if_icmp .ge 43, 3) := by decide +kernel
theorem dX12_areOneApart_30 : decode cX12_areOneApart 30 = .ok (.iload 5, 2) := by decide +kernel
theorem dX12_areOneApart_32 : decode cX12_areOneApart 32 = .ok (.iload_n 3, 1) := by decide +kernel
theorem dX12_areOneApart_33 : decode cX12_areOneApart 33 = .ok (.bipush 10, 2) := by decide +kernel
theorem dX12_areOneApart_35 : decode cX12_areOneApart 35 = .ok (.irem, 1) := by decide +kernel
theorem dX12_areOneApart_36 : decode cX12_areOneApart 36 = .ok (.iload 4, 2) := by decide +kernel
theorem dX12_areOneApart_38 : decode cX12_areOneApart 38 = .ok (.bipush 10, 2) := by decide +kernel
theorem dX12_areOneApart_40 : decode cX12_areOneApart 40 = .ok (.irem, 1) := by decide +kernel
theorem dX12_areOneApart_41 : decode cX12_areOneApart 41 = .ok (.if_icmp .ne 7, 3) := by decide +kernel
theorem dX12_areOneApart_44 : decode cX12_areOneApart 44 = .ok (.iconst 0, 1) := by decide +kernel
theorem dX12_areOneApart_45 : decode cX12_areOneApart 45 = .ok (.goto 4, 3) := by decide +kernel
theorem dX12_areOneApart_48 : decode cX12_areOneApart 48 = .ok (.iconst 1, 1) := by decide +kernel
theorem dX12_areOneApart_49 : decode cX12_areOneApart 49 = .ok (.iadd, 1) := by decide +kernel
theorem dX12_areOneApart_50 : decode cX12_areOneApart 50 = .ok (.istore 5, 2) := by decide +kernel
theorem dX12_areOneApart_52 : decode cX12_areOneApart 52 = .ok (.iload_n 3, 1) := by decide +kernel
theorem dX12_areOneApart_53 : decode cX12_areOneApart 53 = .ok (.bipush 10, 2) := by decide +kernel
theorem dX12_areOneApart_55 : decode cX12_areOneApart 55 = .ok (.idiv, 1) := by decide +kernel
theorem dX12_areOneApart_56 : decode cX12_areOneApart 56 = .ok (.istore_n 3, 1) := by decide +kernel
theorem dX12_areOneApart_57 : decode cX12_areOneApart 57 = .ok (.iload 4, 2) := by decide +kernel
theorem dX12_areOneApart_59 : decode cX12_areOneApart 59 = .ok (.bipush 10, 2) := by decide +kernel
theorem dX12_areOneApart_61 : decode cX12_areOneApart 61 = .ok (.idiv, 1) := by decide +kernel
theorem dX12_areOneApart_62 : decode cX12_areOneApart 62 = .ok (.istore 4, 2) := by decide +kernel
theorem dX12_areOneApart_64 : decode cX12_areOneApart 64 = .ok (.iinc 6 1, 3) := by decide +kernel
theorem dX12_areOneApart_67 : decode cX12_areOneApart 67 = .ok (.goto (-46), 3) := by decide +kernel
theorem dX12_areOneApart_70 : decode cX12_areOneApart 70 = .ok (.iload 5, 2) := by decide +kernel
theorem dX12_areOneApart_72 : decode cX12_areOneApart 72 = .ok (.iconst 2, 1) := by decide +kernel
theorem dX12_areOneApart_73 : decode cX12_areOneApart 73 = .ok (.if_icmp .ne 7, 3) := by decide +kernel
theorem dX12_areOneApart_76 : decode cX12_areOneApart 76 = .ok (.iconst 1, 1) := by decide +kernel
theorem dX12_areOneApart_77 : decode cX12_areOneApart 77 = .ok (.goto 4, 3) := by decide +kernel
theorem dX12_areOneApart_80 : decode cX12_areOneApart 80 = .ok (.iconst 0, 1) := by decide +kernel
theorem dX12_areOneApart_81 : decode cX12_areOneApart 81 = .ok (.ireturn, 1) := by decide +kernel
theorem dX12_findSteps_0 : decode cX12_findSteps 0 = .ok (.iconst 0, 1) := by decide +kernel
theorem dX12_findSteps_1 : decode cX12_findSteps 1 = .ok (.istore_n 3, 1) := by decide +kernel
theorem dX12_findSteps_2 : decode cX12_findSteps 2 = .ok (.iload_n 3, 1) := by decide +kernel
theorem dX12_findSteps_3 : decode cX12_findSteps 3 = .ok (.aload_n 0, 1) := by decide +kernel
theorem dX12_findSteps_4 : decode cX12_findSteps 4 = .ok (.getfield 408, 3) := by decide +kernel
theorem dX12_findSteps_7 : decode cX12_findSteps 7 = .ok (.if_icmp .ge 37, 3) := by decide +kernel
theorem dX12_findSteps_10 : decode cX12_findSteps 10 = .ok (.aload_n 0, 1) := by decide +kernel
theorem dX12_findSteps_11 : decode cX12_findSteps 11 = .ok (.getfield 169, 3) := by decide +kernel
theorem dX12_findSteps_14 : decode cX12_findSteps 14 = .ok (.iload_n 3, 1) := by decide +kernel
theorem dX12_findSteps_15 : decode cX12_findSteps 15 = .ok (.iload_n 3, 1) := by decide +kernel
theorem dX12_findSteps_16 : decode cX12_findSteps 16 = .ok (.iload_n 1, 1) := by decide +kernel
theorem dX12_findSteps_17 : decode cX12_findSteps 17 = .ok (.if_icmp .ne 17, 3) := by decide +kernel
theorem dX12_findSteps_20 : decode cX12_findSteps 20 = .ok (.aload_n 0, 1) := by decide +kernel
theorem dX12_findSteps_21 : decode cX12_findSteps 21 = .ok (.getfield 166, 3) := by decide +kernel
theorem dX12_findSteps_24 : decode cX12_findSteps 24 = .ok (.iload_n 3, 1) := by decide +kernel
theorem dX12_findSteps_25 : decode cX12_findSteps 25 = .ok (.iaload, 1) := by decide +kernel
theorem dX12_findSteps_26 : decode cX12_findSteps 26 = .ok (.iload_n 2, 1) := by decide +kernel
theorem dX12_findSteps_27 : decode cX12_findSteps 27 = .ok (.if_icmp .gt 7, 3) := by decide +kernel
theorem dX12_findSteps_30 : decode cX12_findSteps 30 = .ok (.iconst 0, 1) := by decide +kernel
theorem dX12_findSteps_31 : decode cX12_findSteps 31 = .ok (.goto 6, 3) := by decide +kernel
theorem dX12_findSteps_34 : decode cX12_findSteps 34 = .ok (.ldc_w 265, 3) := by decide +kernel
theorem dX12_findSteps_37 : decode cX12_findSteps 37 = .ok (.iastore, 1) := by decide +kernel
theorem dX12_findSteps_38 : decode cX12_findSteps 38 = .ok (.iinc 3 1, 3) := by decide +kernel
theorem dX12_findSteps_41 : decode cX12_findSteps 41 = .ok (.goto (-39), 3) := by decide +kernel
theorem dX12_findSteps_44 : decode cX12_findSteps 44 = .ok (.iconst 1, 1) := by decide +kernel
theorem dX12_findSteps_45 : decode cX12_findSteps 45 = .ok (.istore_n 3, 1) := by decide +kernel
theorem dX12_findSteps_46 : decode cX12_findSteps 46 = .ok (.iconst 0, 1) := by decide +kernel
theorem dX12_findSteps_47 : decode cX12_findSteps 47 = .ok (.istore 4, 2) := by decide +kernel
theorem dX12_findSteps_49 : decode cX12_findSteps 49 = .ok (.iload_n 3, 1) := by decide +kernel
theorem dX12_findSteps_50 : decode cX12_findSteps 50 = .ok (.ifCond .eq 107, 3) := by decide +kernel
theorem dX12_findSteps_53 : decode cX12_findSteps 53 = .ok (.iconst 0, 1) := by decide +kernel
theorem dX12_findSteps_54 : decode cX12_findSteps 54 = .ok (.istore_n 3, 1) := by decide +kernel
theorem dX12_findSteps_55 : decode cX12_findSteps 55 = .ok (.iconst 0, 1) := by decide +kernel
theorem dX12_findSteps_56 : decode cX12_findSteps 56 = .ok (.istore 5, 2) := by decide +kernel
theorem dX12_findSteps_58 : decode cX12_findSteps 58 = .ok (.iload 5, 2) := by decide +kernel
theorem dX12_findSteps_60 : decode cX12_findSteps 60 = .ok (.aload_n 0, 1) := by decide +kernel
theorem dX12_findSteps_61 : decode cX12_findSteps 61 = .ok (.getfield 408, 3) := by decide +kernel
theorem dX12_findSteps_64 : decode cX12_findSteps 64 = .ok (.if_icmp .ge 87, 3) := by decide +kernel
theorem dX12_findSteps_67 : decode cX12_findSteps 67 = .ok (.iconst 0, 1) := by decide +kernel
theorem dX12_findSteps_68 : decode cX12_findSteps 68 = .ok (.istore 6, 2) := by decide +kernel
theorem dX12_findSteps_70 : decode cX12_findSteps 70 = .ok (.iload 6, 2) := by decide +kernel
theorem dX12_findSteps_72 : decode cX12_findSteps 72 = .ok (.aload_n 0, 1) := by decide +kernel
theorem dX12_findSteps_73 : decode cX12_findSteps 73 = .ok (.getfield 408, 3) := by decide +kernel
theorem dX12_findSteps_76 : decode cX12_findSteps 76 = .ok (.if_icmp .ge 69, 3) := by decide +kernel
theorem dX12_findSteps_79 : decode cX12_findSteps 79 = .ok (.aload_n 0, 1) := by decide +kernel
theorem dX12_findSteps_80 : decode cX12_findSteps 80 = .ok (.getfield 169, 3) := by decide +kernel
theorem dX12_findSteps_83 : decode cX12_findSteps 83 = .ok (.iload 5, 2) := by decide +kernel
theorem dX12_findSteps_85 : decode cX12_findSteps 85 = .ok (.iaload, 1) := by decide +kernel
theorem dX12_findSteps_86 : decode cX12_findSteps 86 = .ok (.iload 4, 2) := by decide +kernel
theorem dX12_findSteps_88 : decode cX12_findSteps 88 = .ok (.if_icmp .ne 57, 3) := by decide +kernel
theorem dX12_findSteps_91 : decode cX12_findSteps 91 = .ok (.aload_n 0, 1) := by decide +kernel
theorem dX12_findSteps_92 : decode cX12_findSteps 92 = .ok (.getfield 169, 3) := by decide +kernel
theorem dX12_findSteps_95 : decode cX12_findSteps 95 = .ok (.iload 6, 2) := by decide +kernel
theorem dX12_findSteps_97 : decode cX12_findSteps 97 = .ok (.iaload, 1) := by decide +kernel
theorem dX12_findSteps_98 : decode cX12_findSteps 98 = .ok (.ldc_w 265, 3) := by decide +kernel
theorem dX12_findSteps_101 : decode cX12_findSteps 101 = .ok (.if_icmp .ne 38, 3) := by decide +kernel
theorem dX12_findSteps_104 : decode cX12_findSteps 104 = .ok (.aload_n 0, 1) := by decide +kernel
theorem dX12_findSteps_105 : decode cX12_findSteps 105 = .ok (.getfield 166, 3) := by decide +kernel
theorem dX12_findSteps_108 : decode cX12_findSteps 108 = .ok (.iload 6, 2) := by decide +kernel
theorem dX12_findSteps_110 : decode cX12_findSteps 110 = .ok (.iaload, 1) := by decide +kernel
theorem dX12_findSteps_111 : decode cX12_findSteps 111 = .ok (.iload_n 2, 1) := by decide +kernel
theorem dX12_findSteps_112 : decode cX12_findSteps 112 = .ok (.if_icmp .gt 27, 3) := by decide +kernel
theorem dX12_findSteps_115 : decode cX12_findSteps 115 = .ok (.aload_n 0, 1) := by decide +kernel
theorem dX12_findSteps_116 : decode cX12_findSteps 116 = .ok (.iload 5, 2) := by decide +kernel
theorem dX12_findSteps_118 : decode cX12_findSteps 118 = .ok (.iload 6, 2) := by decide +kernel
theorem dX12_findSteps_120 : decode cX12_findSteps 120 = .ok (.invokevirtual 411, 3) := by decide +kernel
theorem dX12_findSteps_123 : decode cX12_findSteps 123 = .ok (.ifCond .eq 16, 3) := by decide +kernel
theorem dX12_findSteps_126 : decode cX12_findSteps 126 = .ok (.aload_n 0, 1) := by decide +kernel
theorem dX12_findSteps_127 : decode cX12_findSteps 127 = .ok (.getfield 169, 3) := by decide +kernel
theorem dX12_findSteps_130 : decode cX12_findSteps 130 = .ok (.iload 6, 2) := by decide +kernel
theorem dX12_findSteps_132 : decode cX12_findSteps 132 = .ok (.iload 4, 2) := by decide +kernel
theorem dX12_findSteps_134 : decode cX12_findSteps 134 = .ok (.iconst 1, 1) := by decide +kernel
theorem dX12_findSteps_135 : decode cX12_findSteps 135 = .ok (.iadd, 1) := by decide +kernel
theorem dX12_findSteps_136 : decode cX12_findSteps 136 = .ok (.iastore, 1) := by decide +kernel
theorem dX12_findSteps_137 : decode cX12_findSteps 137 = .ok (.iconst 1, 1) := by decide +kernel
theorem dX12_findSteps_138 : decode cX12_findSteps 138 = .ok (.istore_n 3, 1) := by decide +kernel
theorem dX12_findSteps_139 : decode cX12_findSteps 139 = .ok (.iinc 6 1, 3) := by decide +kernel
theorem dX12_findSteps_142 : decode cX12_findSteps 142 = .ok (.goto (-72), 3) := by decide +kernel
theorem dX12_findSteps_145 : decode cX12_findSteps 145 = .ok (.iinc 5 1, 3) := by decide +kernel
theorem dX12_findSteps_148 : decode cX12_findSteps 148 = .ok (.goto (-90), 3) := by decide +kernel
theorem dX12_findSteps_151 : decode cX12_findSteps 151 = .ok (.iinc 4 1, 3) := by decide +kernel
theorem dX12_findSteps_154 : decode cX12_findSteps 154 = .ok (.goto (-105), 3) := by decide +kernel
theorem dX12_findSteps_157 : decode cX12_findSteps 157 = .ok (.return_, 1) := by decide +kernel
theorem dX12_indexOf_0 : decode cX12_indexOf 0 = .ok (.iconst 0, 1) := by decide +kernel
theorem dX12_indexOf_1 : decode cX12_indexOf 1 = .ok (.istore_n 2, 1) := by decide +kernel
theorem dX12_indexOf_2 : decode cX12_indexOf 2 = .ok (.aload_n 0, 1) := by decide +kernel
theorem dX12_indexOf_3 : decode cX12_indexOf 3 = .ok (.getfield 163, 3) := by decide +kernel
theorem dX12_indexOf_6 : decode cX12_indexOf 6 = .ok (.iload_n 2, 1) := by decide +kernel
theorem dX12_indexOf_7 : decode cX12_indexOf 7 = .ok (.iaload, 1) := by decide +kernel
theorem dX12_indexOf_8 : decode cX12_indexOf 8 = .ok (.iload_n 1, 1) := by decide +kernel
theorem dX12_indexOf_9 : decode cX12_indexOf 9 = .ok (.if_icmp .eq 9, 3) := by decide +kernel
theorem dX12_indexOf_12 : decode cX12_indexOf 12 = .ok (.iinc 2 1, 3) := by decide +kernel
theorem dX12_indexOf_15 : decode cX12_indexOf 15 = .ok (.goto (-13), 3) := by decide +kernel
theorem dX12_indexOf_18 : decode cX12_indexOf 18 = .ok (.iload_n 2, 1) := by decide +kernel
theorem dX12_indexOf_19 : decode cX12_indexOf 19 = .ok (.ireturn, 1) := by decide +kernel
theorem dX12_leastMost_0 : decode cX12_leastMost 0 = .ok (.aload_n 0, 1) := by decide +kernel
theorem dX12_leastMost_1 : decode cX12_leastMost 1 = .ok (.getfield 166, 3) := by decide +kernel
theorem dX12_leastMost_4 : decode cX12_leastMost 4 = .ok (.iload_n 1, 1) := by decide +kernel
theorem dX12_leastMost_5 : decode cX12_leastMost 5 = .ok (.iaload, 1) := by decide +kernel
theorem dX12_leastMost_6 : decode cX12_leastMost 6 = .ok (.aload_n 0, 1) := by decide +kernel
theorem dX12_leastMost_7 : decode cX12_leastMost 7 = .ok (.getfield 166, 3) := by decide +kernel
theorem dX12_leastMost_10 : decode cX12_leastMost 10 = .ok (.iload_n 2, 1) := by decide +kernel
theorem dX12_leastMost_11 : decode cX12_leastMost 11 = .ok (.iaload, 1) := by decide +kernel
theorem dX12_leastMost_12 : decode cX12_leastMost 12 = .ok (.if_icmp .le 12, 3) := by decide +kernel
theorem dX12_leastMost_15 : decode cX12_leastMost 15 = .ok (.aload_n 0, 1) := by decide +kernel
theorem dX12_leastMost_16 : decode cX12_leastMost 16 = .ok (.getfield 166, 3) := by decide +kernel
theorem dX12_leastMost_19 : decode cX12_leastMost 19 = .ok (.iload_n 1, 1) := by decide +kernel
theorem dX12_leastMost_20 : decode cX12_leastMost 20 = .ok (.iaload, 1) := by decide +kernel
theorem dX12_leastMost_21 : decode cX12_leastMost 21 = .ok (.goto 9, 3) := by decide +kernel
theorem dX12_leastMost_24 : decode cX12_leastMost 24 = .ok (.aload_n 0, 1) := by decide +kernel
theorem dX12_leastMost_25 : decode cX12_leastMost 25 = .ok (.getfield 166, 3) := by decide +kernel
theorem dX12_leastMost_28 : decode cX12_leastMost 28 = .ok (.iload_n 2, 1) := by decide +kernel
theorem dX12_leastMost_29 : decode cX12_leastMost 29 = .ok (.iaload, 1) := by decide +kernel
theorem dX12_leastMost_30 : decode cX12_leastMost 30 = .ok (.istore_n 3, 1) := by decide +kernel
theorem dX12_leastMost_31 : decode cX12_leastMost 31 = .ok (.aload_n 0, 1) := by decide +kernel
theorem dX12_leastMost_32 : decode cX12_leastMost 32 = .ok (.iload_n 2, 1) := by decide +kernel
theorem dX12_leastMost_33 : decode cX12_leastMost 33 = .ok (.iload_n 3, 1) := by decide +kernel
theorem dX12_leastMost_34 : decode cX12_leastMost 34 = .ok (.invokevirtual 414, 3) := by decide +kernel
theorem dX12_leastMost_37 : decode cX12_leastMost 37 = .ok (.aload_n 0, 1) := by decide +kernel
theorem dX12_leastMost_38 : decode cX12_leastMost 38 = .ok (.getfield 169, 3) := by decide +kernel
theorem dX12_leastMost_41 : decode cX12_leastMost 41 = .ok (.iload_n 1, 1) := by decide +kernel
theorem dX12_leastMost_42 : decode cX12_leastMost 42 = .ok (.iaload, 1) := by decide +kernel
theorem dX12_leastMost_43 : decode cX12_leastMost 43 = .ok (.ldc_w 265, 3) := by decide +kernel
theorem dX12_leastMost_46 : decode cX12_leastMost 46 = .ok (.if_icmp .ne 75, 3) := by decide +kernel
theorem dX12_leastMost_49 : decode cX12_leastMost 49 = .ok (.ldc_w 265, 3) := by decide +kernel
theorem dX12_leastMost_52 : decode cX12_leastMost 52 = .ok (.istore 4, 2) := by decide +kernel
theorem dX12_leastMost_54 : decode cX12_leastMost 54 = .ok (.iconst 0, 1) := by decide +kernel
theorem dX12_leastMost_55 : decode cX12_leastMost 55 = .ok (.istore 5, 2) := by decide +kernel
theorem dX12_leastMost_57 : decode cX12_leastMost 57 = .ok (.iload 5, 2) := by decide +kernel
theorem dX12_leastMost_59 : decode cX12_leastMost 59 = .ok (.aload_n 0, 1) := by decide +kernel
theorem dX12_leastMost_60 : decode cX12_leastMost 60 = .ok (.getfield 408, 3) := by decide +kernel
theorem dX12_leastMost_63 : decode cX12_leastMost 63 = .ok (.if_icmp .ge 46, 3) := by decide +kernel
theorem dX12_leastMost_66 : decode cX12_leastMost 66 = .ok (.aload_n 0, 1) := by decide +kernel
theorem dX12_leastMost_67 : decode cX12_leastMost 67 = .ok (.getfield 166, 3) := by decide +kernel
theorem dX12_leastMost_70 : decode cX12_leastMost 70 = .ok (.iload 5, 2) := by decide +kernel
theorem dX12_leastMost_72 : decode cX12_leastMost 72 = .ok (.iaload, 1) := by decide +kernel
theorem dX12_leastMost_73 : decode cX12_leastMost 73 = .ok (.iload_n 3, 1) := by decide +kernel
theorem dX12_leastMost_74 : decode cX12_leastMost 74 = .ok (.if_icmp .le 25, 3) := by decide +kernel
theorem dX12_leastMost_77 : decode cX12_leastMost 77 = .ok (.aload_n 0, 1) := by decide +kernel
theorem dX12_leastMost_78 : decode cX12_leastMost 78 = .ok (.getfield 166, 3) := by decide +kernel
theorem dX12_leastMost_81 : decode cX12_leastMost 81 = .ok (.iload 5, 2) := by decide +kernel
theorem dX12_leastMost_83 : decode cX12_leastMost 83 = .ok (.iaload, 1) := by decide +kernel
theorem dX12_leastMost_84 : decode cX12_leastMost 84 = .ok (.iload 4, 2) := by decide +kernel
theorem dX12_leastMost_86 : decode cX12_leastMost 86 = .ok (.if_icmp .ge 13, 3) := by decide +kernel
theorem dX12_leastMost_89 : decode cX12_leastMost 89 = .ok (.aload_n 0, 1) := by decide +kernel
theorem dX12_leastMost_90 : decode cX12_leastMost 90 = .ok (.getfield 166, 3) := by decide +kernel
theorem dX12_leastMost_93 : decode cX12_leastMost 93 = .ok (.iload 5, 2) := by decide +kernel
theorem dX12_leastMost_95 : decode cX12_leastMost 95 = .ok (.iaload, 1) := by decide +kernel
theorem dX12_leastMost_96 : decode cX12_leastMost 96 = .ok (.goto 5, 3) := by decide +kernel
theorem dX12_leastMost_99 : decode cX12_leastMost 99 = .ok (.iload 4, 2) := by decide +kernel
theorem dX12_leastMost_101 : decode cX12_leastMost 101 = .ok (.istore 4, 2) := by decide +kernel
theorem dX12_leastMost_103 : decode cX12_leastMost 103 = .ok (.iinc 5 1, 3) := by decide +kernel
theorem dX12_leastMost_106 : decode cX12_leastMost 106 = .ok (.goto (-49), 3) := by decide +kernel
theorem dX12_leastMost_109 : decode cX12_leastMost 109 = .ok (.iload 4, 2) := by decide +kernel
theorem dX12_leastMost_111 : decode cX12_leastMost 111 = .ok (.istore_n 3, 1) := by decide +kernel
theorem dX12_leastMost_112 : decode cX12_leastMost 112 = .ok (.aload_n 0, 1) := by decide +kernel
theorem dX12_leastMost_113 : decode cX12_leastMost 113 = .ok (.iload_n 2, 1) := by decide +kernel
theorem dX12_leastMost_114 : decode cX12_leastMost 114 = .ok (.iload_n 3, 1) := by decide +kernel
theorem dX12_leastMost_115 : decode cX12_leastMost 115 = .ok (.invokevirtual 414, 3) := by decide +kernel
theorem dX12_leastMost_118 : decode cX12_leastMost 118 = .ok (.goto (-81), 3) := by decide +kernel
theorem dX12_leastMost_121 : decode cX12_leastMost 121 = .ok (.iload_n 3, 1) := by decide +kernel
theorem dX12_leastMost_122 : decode cX12_leastMost 122 = .ok (.ireturn, 1) := by decide +kernel
theorem dX12_way_0 : decode cX12_way 0 = .ok (.aload_n 0, 1) := by decide +kernel
theorem dX12_way_1 : decode cX12_way 1 = .ok (.iload_n 1, 1) := by decide +kernel
theorem dX12_way_2 : decode cX12_way 2 = .ok (.invokevirtual 387, 3) := by decide +kernel
theorem dX12_way_5 : decode cX12_way 5 = .ok (.ifCond .eq 11, 3) := by decide +kernel
theorem dX12_way_8 : decode cX12_way 8 = .ok (.aload_n 0, 1) := by decide +kernel
theorem dX12_way_9 : decode cX12_way 9 = .ok (.iload_n 2, 1) := by decide +kernel
theorem dX12_way_10 : decode cX12_way 10 = .ok (.invokevirtual 387, 3) := by decide +kernel
theorem dX12_way_13 : decode cX12_way 13 = .ok (.ifCond .ne 6, 3) := by decide +kernel
theorem dX12_way_16 : decode cX12_way 16 = .ok (.bipush (-2), 2) := by decide +kernel
theorem dX12_way_18 : decode cX12_way 18 = .ok (.ireturn, 1) := by decide +kernel
theorem dX12_way_19 : decode cX12_way 19 = .ok (.aload_n 0, 1) := by decide +kernel
theorem dX12_way_20 : decode cX12_way 20 = .ok (.getfield 374, 3) := by decide +kernel
theorem dX12_way_23 : decode cX12_way 23 = .ok (.iconst 5, 1) := by decide +kernel
theorem dX12_way_24 : decode cX12_way 24 = .ok (.if_icmp .le 6, 3) := by decide +kernel
theorem dX12_way_27 : decode cX12_way 27 = .ok (.bipush (-3), 2) := by decide +kernel
theorem dX12_way_29 : decode cX12_way 29 = .ok (.ireturn, 1) := by decide +kernel
theorem dX12_way_30 : decode cX12_way 30 = .ok (.aload_n 0, 1) := by decide +kernel
theorem dX12_way_31 : decode cX12_way 31 = .ok (.invokevirtual 417, 3) := by decide +kernel
theorem dX12_way_34 : decode cX12_way 34 = .ok (.aload_n 0, 1) := by decide +kernel
theorem dX12_way_35 : decode cX12_way 35 = .ok (.iload_n 1, 1) := by decide +kernel
theorem dX12_way_36 : decode cX12_way 36 = .ok (.invokevirtual 420, 3) := by decide +kernel
theorem dX12_way_39 : decode cX12_way 39 = .ok (.istore 4, 2) := by decide +kernel
theorem dX12_way_41 : decode cX12_way 41 = .ok (.aload_n 0, 1) := by decide +kernel
theorem dX12_way_42 : decode cX12_way 42 = .ok (.iload 4, 2) := by decide +kernel
theorem dX12_way_44 : decode cX12_way 44 = .ok (.aload_n 0, 1) := by decide +kernel
theorem dX12_way_45 : decode cX12_way 45 = .ok (.iload_n 2, 1) := by decide +kernel
theorem dX12_way_46 : decode cX12_way 46 = .ok (.invokevirtual 420, 3) := by decide +kernel
theorem dX12_way_49 : decode cX12_way 49 = .ok (.invokevirtual 423, 3) := by decide +kernel
theorem dX12_way_52 : decode cX12_way 52 = .ok (.istore 5, 2) := by decide +kernel
theorem dX12_way_54 : decode cX12_way 54 = .ok (.iload_n 3, 1) := by decide +kernel
theorem dX12_way_55 : decode cX12_way 55 = .ok (.iconst (-1), 1) := by decide +kernel
theorem dX12_way_56 : decode cX12_way 56 = .ok (.if_icmp .ne 6, 3) := by decide +kernel
theorem dX12_way_59 : decode cX12_way 59 = .ok (.iload 5, 2) := by decide +kernel
theorem dX12_way_61 : decode cX12_way 61 = .ok (.ireturn, 1) := by decide +kernel
theorem dX12_way_62 : decode cX12_way 62 = .ok (.iload_n 3, 1) := by decide +kernel
theorem dX12_way_63 : decode cX12_way 63 = .ok (.bipush (-2), 2) := by decide +kernel
theorem dX12_way_65 : decode cX12_way 65 = .ok (.if_icmp .ne 11, 3) := by decide +kernel
theorem dX12_way_68 : decode cX12_way 68 = .ok (.aload_n 0, 1) := by decide +kernel
theorem dX12_way_69 : decode cX12_way 69 = .ok (.getfield 169, 3) := by decide +kernel
theorem dX12_way_72 : decode cX12_way 72 = .ok (.iload 4, 2) := by decide +kernel
theorem dX12_way_74 : decode cX12_way 74 = .ok (.iaload, 1) := by decide +kernel
theorem dX12_way_75 : decode cX12_way 75 = .ok (.ireturn, 1) := by decide +kernel
theorem dX12_way_76 : decode cX12_way 76 = .ok (.iload_n 3, 1) := by decide +kernel
theorem dX12_way_77 : decode cX12_way 77 = .ok (.i2l, 1) := by decide +kernel
theorem dX12_way_78 : decode cX12_way 78 = .ok (.lconst 0, 1) := by decide +kernel
theorem dX12_way_79 : decode cX12_way 79 = .ok (.aload_n 0, 1) := by decide +kernel
theorem dX12_way_80 : decode cX12_way 80 = .ok (.getfield 169, 3) := by decide +kernel
theorem dX12_way_83 : decode cX12_way 83 = .ok (.iload 4, 2) := by decide +kernel
theorem dX12_way_85 : decode cX12_way 85 = .ok (.iaload, 1) := by decide +kernel
theorem dX12_way_86 : decode cX12_way 86 = .ok (.i2l, 1) := by decide +kernel
theorem dX12_way_87 : decode cX12_way 87 = .ok (.invokestatic 178, 3) := by decide +kernel
theorem dX12_way_90 : decode cX12_way 90 = .ok (.ifCond .ne 6, 3) := by decide +kernel
theorem dX12_way_93 : decode cX12_way 93 = .ok (.bipush (-6), 2) := by decide +kernel
theorem dX12_way_95 : decode cX12_way 95 = .ok (.ireturn, 1) := by decide +kernel
theorem dX12_way_96 : decode cX12_way 96 = .ok (.iconst 0, 1) := by decide +kernel
theorem dX12_way_97 : decode cX12_way 97 = .ok (.istore 6, 2) := by decide +kernel
theorem dX12_way_99 : decode cX12_way 99 = .ok (.iload 6, 2) := by decide +kernel
theorem dX12_way_101 : decode cX12_way 101 = .ok (.iload_n 3, 1) := by decide +kernel
theorem dX12_way_102 : decode cX12_way 102 = .ok (.if_icmp .ge 52, 3) := by decide +kernel
theorem dX12_way_105 : decode cX12_way 105 = .ok (.iconst 0, 1) := by decide +kernel
theorem dX12_way_106 : decode cX12_way 106 = .ok (.istore 7, 2) := by decide +kernel
theorem dX12_way_108 : decode cX12_way 108 = .ok (.aload_n 0, 1) := by decide +kernel
theorem dX12_way_109 : decode cX12_way 109 = .ok (.getfield 169, 3) := by decide +kernel
theorem dX12_way_112 : decode cX12_way 112 = .ok (.iload 7, 2) := by decide +kernel
theorem dX12_way_114 : decode cX12_way 114 = .ok (.iaload, 1) := by decide +kernel
theorem dX12_way_115 : decode cX12_way 115 = .ok (.aload_n 0, 1) := by decide +kernel
theorem dX12_way_116 : decode cX12_way 116 = .ok (.getfield 169, 3) := by decide +kernel
theorem dX12_way_119 : decode cX12_way 119 = .ok (.iload 4, 2) := by decide +kernel
theorem dX12_way_121 : decode cX12_way 121 = .ok (.iaload, 1) := by decide +kernel
theorem dX12_way_122 : decode cX12_way 122 = .ok (.iconst 1, 1) := by decide +kernel
theorem dX12_way_123 : decode cX12_way 123 = .ok (.isub, 1) := by decide +kernel
theorem dX12_way_124 : decode cX12_way 124 = .ok (.if_icmp .ne 14, 3) := by decide +kernel
theorem dX12_way_127 : decode cX12_way 127 = .ok (.aload_n 0, 1) := by decide +kernel
theorem dX12_way_128 : decode cX12_way 128 = .ok (.iload 4, 2) := by decide +kernel
theorem dX12_way_130 : decode cX12_way 130 = .ok (.iload 7, 2) := by decide +kernel
theorem dX12_way_132 : decode cX12_way 132 = .ok (.invokevirtual 411, 3) := by decide +kernel
theorem dX12_way_135 : decode cX12_way 135 = .ok (.ifCond .ne 9, 3) := by decide +kernel
theorem dX12_way_138 : decode cX12_way 138 = .ok (.iinc 7 1, 3) := by decide +kernel
theorem dX12_way_141 : decode cX12_way 141 = .ok (.goto (-33), 3) := by decide +kernel
theorem dX12_way_144 : decode cX12_way 144 = .ok (.iload 7, 2) := by decide +kernel
theorem dX12_way_146 : decode cX12_way 146 = .ok (.istore 4, 2) := by decide +kernel
theorem dX12_way_148 : decode cX12_way 148 = .ok (.iinc 6 1, 3) := by decide +kernel
theorem dX12_way_151 : decode cX12_way 151 = .ok (.goto (-52), 3) := by decide +kernel
theorem dX12_way_154 : decode cX12_way 154 = .ok (.aload_n 0, 1) := by decide +kernel
theorem dX12_way_155 : decode cX12_way 155 = .ok (.getfield 163, 3) := by decide +kernel
theorem dX12_way_158 : decode cX12_way 158 = .ok (.iload 4, 2) := by decide +kernel
theorem dX12_way_160 : decode cX12_way 160 = .ok (.iaload, 1) := by decide +kernel
theorem dX12_way_161 : decode cX12_way 161 = .ok (.ireturn, 1) := by decide +kernel
theorem dX12_told_0 : decode cX12_told 0 = .ok (.iload_n 1, 1) := by decide +kernel
theorem dX12_told_1 : decode cX12_told 1 = .ok (.i2l, 1) := by decide +kernel
theorem dX12_told_2 : decode cX12_told 2 = .ok (.ldc2_w 426, 3) := by decide +kernel
theorem dX12_told_5 : decode cX12_told 5 = .ok (.ldc2_w 428, 3) := by decide +kernel
theorem dX12_told_8 : decode cX12_told 8 = .ok (.invokestatic 178, 3) := by decide +kernel
theorem dX12_told_11 : decode cX12_told 11 = .ok (.ifCond .eq 13, 3) := by decide +kernel
theorem dX12_told_14 : decode cX12_told 14 = .ok (.aload_n 0, 1) := by decide +kernel
theorem dX12_told_15 : decode cX12_told 15 = .ok (.getfield 35, 3) := by decide +kernel
theorem dX12_told_18 : decode cX12_told 18 = .ok (.iload_n 1, 1) := by decide +kernel
theorem dX12_told_19 : decode cX12_told 19 = .ok (.bipush 10, 2) := by decide +kernel
theorem dX12_told_21 : decode cX12_told 21 = .ok (.isub, 1) := by decide +kernel
theorem dX12_told_22 : decode cX12_told 22 = .ok (.iaload, 1) := by decide +kernel
theorem dX12_told_23 : decode cX12_told 23 = .ok (.ireturn, 1) := by decide +kernel
theorem dX12_told_24 : decode cX12_told 24 = .ok (.iload_n 1, 1) := by decide +kernel
theorem dX12_told_25 : decode cX12_told 25 = .ok (.i2l, 1) := by decide +kernel
theorem dX12_told_26 : decode cX12_told 26 = .ok (.ldc2_w 256, 3) := by decide +kernel
theorem dX12_told_29 : decode cX12_told 29 = .ok (.ldc2_w 430, 3) := by decide +kernel
theorem dX12_told_32 : decode cX12_told 32 = .ok (.invokestatic 178, 3) := by decide +kernel
theorem dX12_told_35 : decode cX12_told 35 = .ok (.ifCond .eq 13, 3) := by decide +kernel
theorem dX12_told_38 : decode cX12_told 38 = .ok (.aload_n 0, 1) := by decide +kernel
theorem dX12_told_39 : decode cX12_told 39 = .ok (.getfield 41, 3) := by decide +kernel
theorem dX12_told_42 : decode cX12_told 42 = .ok (.iload_n 1, 1) := by decide +kernel
theorem dX12_told_43 : decode cX12_told 43 = .ok (.bipush 20, 2) := by decide +kernel
theorem dX12_told_45 : decode cX12_told 45 = .ok (.isub, 1) := by decide +kernel
theorem dX12_told_46 : decode cX12_told 46 = .ok (.iaload, 1) := by decide +kernel
theorem dX12_told_47 : decode cX12_told 47 = .ok (.ireturn, 1) := by decide +kernel
theorem dX12_told_48 : decode cX12_told 48 = .ok (.iload_n 1, 1) := by decide +kernel
theorem dX12_told_49 : decode cX12_told 49 = .ok (.i2l, 1) := by decide +kernel
theorem dX12_told_50 : decode cX12_told 50 = .ok (.ldc2_w 432, 3) := by decide +kernel
theorem dX12_told_53 : decode cX12_told 53 = .ok (.ldc2_w 434, 3) := by decide +kernel
theorem dX12_told_56 : decode cX12_told 56 = .ok (.invokestatic 178, 3) := by decide +kernel
theorem dX12_told_59 : decode cX12_told 59 = .ok (.ifCond .eq 13, 3) := by decide +kernel
theorem dX12_told_62 : decode cX12_told 62 = .ok (.aload_n 0, 1) := by decide +kernel
theorem dX12_told_63 : decode cX12_told 63 = .ok (.getfield 139, 3) := by decide +kernel
theorem dX12_told_66 : decode cX12_told 66 = .ok (.iload_n 1, 1) := by decide +kernel
theorem dX12_told_67 : decode cX12_told 67 = .ok (.bipush 30, 2) := by decide +kernel
theorem dX12_told_69 : decode cX12_told 69 = .ok (.isub, 1) := by decide +kernel
theorem dX12_told_70 : decode cX12_told 70 = .ok (.iaload, 1) := by decide +kernel
theorem dX12_told_71 : decode cX12_told 71 = .ok (.ireturn, 1) := by decide +kernel
theorem dX12_told_72 : decode cX12_told 72 = .ok (.iload_n 1, 1) := by decide +kernel
theorem dX12_told_73 : decode cX12_told 73 = .ok (.tableswitch 96 0 8 #[51, 56, 61, 66, 71, 76, 81, 86, 91], 51) := by decide +kernel
theorem dX12_told_124 : decode cX12_told 124 = .ok (.aload_n 0, 1) := by decide +kernel
theorem dX12_told_125 : decode cX12_told 125 = .ok (.getfield 182, 3) := by decide +kernel
theorem dX12_told_128 : decode cX12_told 128 = .ok (.ireturn, 1) := by decide +kernel
theorem dX12_told_129 : decode cX12_told 129 = .ok (.aload_n 0, 1) := by decide +kernel
theorem dX12_told_130 : decode cX12_told 130 = .ok (.getfield 187, 3) := by decide +kernel
theorem dX12_told_133 : decode cX12_told 133 = .ok (.ireturn, 1) := by decide +kernel
theorem dX12_told_134 : decode cX12_told 134 = .ok (.aload_n 0, 1) := by decide +kernel
theorem dX12_told_135 : decode cX12_told 135 = .ok (.getfield 190, 3) := by decide +kernel
theorem dX12_told_138 : decode cX12_told 138 = .ok (.ireturn, 1) := by decide +kernel
theorem dX12_told_139 : decode cX12_told 139 = .ok (.aload_n 0, 1) := by decide +kernel
theorem dX12_told_140 : decode cX12_told 140 = .ok (.getfield 215, 3) := by decide +kernel
theorem dX12_told_143 : decode cX12_told 143 = .ok (.ireturn, 1) := by decide +kernel
theorem dX12_told_144 : decode cX12_told 144 = .ok (.aload_n 0, 1) := by decide +kernel
theorem dX12_told_145 : decode cX12_told 145 = .ok (.getfield 218, 3) := by decide +kernel
theorem dX12_told_148 : decode cX12_told 148 = .ok (.ireturn, 1) := by decide +kernel
theorem dX12_told_149 : decode cX12_told 149 = .ok (.aload_n 0, 1) := by decide +kernel
theorem dX12_told_150 : decode cX12_told 150 = .ok (.getfield 244, 3) := by decide +kernel
theorem dX12_told_153 : decode cX12_told 153 = .ok (.ireturn, 1) := by decide +kernel
theorem dX12_told_154 : decode cX12_told 154 = .ok (.aload_n 0, 1) := by decide +kernel
theorem dX12_told_155 : decode cX12_told 155 = .ok (.getfield 330, 3) := by decide +kernel
theorem dX12_told_158 : decode cX12_told 158 = .ok (.ireturn, 1) := by decide +kernel
theorem dX12_told_159 : decode cX12_told 159 = .ok (.aload_n 0, 1) := by decide +kernel
theorem dX12_told_160 : decode cX12_told 160 = .ok (.getfield 360, 3) := by decide +kernel
theorem dX12_told_163 : decode cX12_told 163 = .ok (.ireturn, 1) := by decide +kernel
theorem dX12_told_164 : decode cX12_told 164 = .ok (.aload_n 0, 1) := by decide +kernel
theorem dX12_told_165 : decode cX12_told 165 = .ok (.getfield 374, 3) := by decide +kernel
theorem dX12_told_168 : decode cX12_told 168 = .ok (.ireturn, 1) := by decide +kernel
theorem dX12_told_169 : decode cX12_told 169 = .ok (.bipush (-2), 2) := by decide +kernel
theorem dX12_told_171 : decode cX12_told 171 = .ok (.ireturn, 1) := by decide +kernel
