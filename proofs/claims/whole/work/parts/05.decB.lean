theorem dX12_init_0 : decode cX12_init 0 = .ok (.aload_n 0, 1) := by decide +kernel
theorem dX12_init_1 : decode cX12_init 1 = .ok (.invokespecial 1, 3) := by decide +kernel
theorem dX12_init_4 : decode cX12_init 4 = .ok (.aload_n 0, 1) := by decide +kernel
theorem dX12_init_5 : decode cX12_init 5 = .ok (.sipush 800, 3) := by decide +kernel
theorem dX12_init_8 : decode cX12_init 8 = .ok (.newarray .int, 2) := by decide +kernel
theorem dX12_init_10 : decode cX12_init 10 = .ok (.putfield 7, 3) := by decide +kernel
theorem dX12_init_13 : decode cX12_init 13 = .ok (.aload_n 0, 1) := by decide +kernel
theorem dX12_init_14 : decode cX12_init 14 = .ok (.iconst (-1), 1) := by decide +kernel
theorem dX12_init_15 : decode cX12_init 15 = .ok (.putfield 13, 3) := by decide +kernel
theorem dX12_init_18 : decode cX12_init 18 = .ok (.aload_n 0, 1) := by decide +kernel
theorem dX12_init_19 : decode cX12_init 19 = .ok (.iconst 5, 1) := by decide +kernel
theorem dX12_init_20 : decode cX12_init 20 = .ok (.newarray .long, 2) := by decide +kernel
theorem dX12_init_22 : decode cX12_init 22 = .ok (.putfield 17, 3) := by decide +kernel
theorem dX12_init_25 : decode cX12_init 25 = .ok (.aload_n 0, 1) := by decide +kernel
theorem dX12_init_26 : decode cX12_init 26 = .ok (.iconst 5, 1) := by decide +kernel
theorem dX12_init_27 : decode cX12_init 27 = .ok (.newarray .long, 2) := by decide +kernel
theorem dX12_init_29 : decode cX12_init 29 = .ok (.putfield 21, 3) := by decide +kernel
theorem dX12_init_32 : decode cX12_init 32 = .ok (.aload_n 0, 1) := by decide +kernel
theorem dX12_init_33 : decode cX12_init 33 = .ok (.iconst 5, 1) := by decide +kernel
theorem dX12_init_34 : decode cX12_init 34 = .ok (.newarray .int, 2) := by decide +kernel
theorem dX12_init_36 : decode cX12_init 36 = .ok (.putfield 24, 3) := by decide +kernel
theorem dX12_init_39 : decode cX12_init 39 = .ok (.aload_n 0, 1) := by decide +kernel
theorem dX12_init_40 : decode cX12_init 40 = .ok (.bipush 40, 2) := by decide +kernel
theorem dX12_init_42 : decode cX12_init 42 = .ok (.newarray .int, 2) := by decide +kernel
theorem dX12_init_44 : decode cX12_init 44 = .ok (.putfield 27, 3) := by decide +kernel
theorem dX12_init_47 : decode cX12_init 47 = .ok (.aload_n 0, 1) := by decide +kernel
theorem dX12_init_48 : decode cX12_init 48 = .ok (.iconst 5, 1) := by decide +kernel
theorem dX12_init_49 : decode cX12_init 49 = .ok (.newarray .int, 2) := by decide +kernel
theorem dX12_init_51 : decode cX12_init 51 = .ok (.putfield 30, 3) := by decide +kernel
theorem dX12_init_54 : decode cX12_init 54 = .ok (.aload_n 0, 1) := by decide +kernel
theorem dX12_init_55 : decode cX12_init 55 = .ok (.iconst 5, 1) := by decide +kernel
theorem dX12_init_56 : decode cX12_init 56 = .ok (.newarray .int, 2) := by decide +kernel
theorem dX12_init_58 : decode cX12_init 58 = .ok (.putfield 33, 3) := by decide +kernel
theorem dX12_init_61 : decode cX12_init 61 = .ok (.aload_n 0, 1) := by decide +kernel
theorem dX12_init_62 : decode cX12_init 62 = .ok (.bipush 40, 2) := by decide +kernel
theorem dX12_init_64 : decode cX12_init 64 = .ok (.newarray .int, 2) := by decide +kernel
theorem dX12_init_66 : decode cX12_init 66 = .ok (.putfield 36, 3) := by decide +kernel
theorem dX12_init_69 : decode cX12_init 69 = .ok (.aload_n 0, 1) := by decide +kernel
theorem dX12_init_70 : decode cX12_init 70 = .ok (.iconst 5, 1) := by decide +kernel
theorem dX12_init_71 : decode cX12_init 71 = .ok (.newarray .int, 2) := by decide +kernel
theorem dX12_init_73 : decode cX12_init 73 = .ok (.putfield 39, 3) := by decide +kernel
theorem dX12_init_76 : decode cX12_init 76 = .ok (.aload_n 0, 1) := by decide +kernel
theorem dX12_init_77 : decode cX12_init 77 = .ok (.sipush 300, 3) := by decide +kernel
theorem dX12_init_80 : decode cX12_init 80 = .ok (.newarray .boolean, 2) := by decide +kernel
theorem dX12_init_82 : decode cX12_init 82 = .ok (.putfield 42, 3) := by decide +kernel
theorem dX12_init_85 : decode cX12_init 85 = .ok (.aload_n 0, 1) := by decide +kernel
theorem dX12_init_86 : decode cX12_init 86 = .ok (.sipush 300, 3) := by decide +kernel
theorem dX12_init_89 : decode cX12_init 89 = .ok (.newarray .boolean, 2) := by decide +kernel
theorem dX12_init_91 : decode cX12_init 91 = .ok (.putfield 46, 3) := by decide +kernel
theorem dX12_init_94 : decode cX12_init 94 = .ok (.aload_n 0, 1) := by decide +kernel
theorem dX12_init_95 : decode cX12_init 95 = .ok (.sipush 300, 3) := by decide +kernel
theorem dX12_init_98 : decode cX12_init 98 = .ok (.newarray .boolean, 2) := by decide +kernel
theorem dX12_init_100 : decode cX12_init 100 = .ok (.putfield 49, 3) := by decide +kernel
theorem dX12_init_103 : decode cX12_init 103 = .ok (.aload_n 0, 1) := by decide +kernel
theorem dX12_init_104 : decode cX12_init 104 = .ok (.bipush 60, 2) := by decide +kernel
theorem dX12_init_106 : decode cX12_init 106 = .ok (.newarray .boolean, 2) := by decide +kernel
theorem dX12_init_108 : decode cX12_init 108 = .ok (.putfield 52, 3) := by decide +kernel
theorem dX12_init_111 : decode cX12_init 111 = .ok (.aload_n 0, 1) := by decide +kernel
theorem dX12_init_112 : decode cX12_init 112 = .ok (.bipush 60, 2) := by decide +kernel
theorem dX12_init_114 : decode cX12_init 114 = .ok (.newarray .boolean, 2) := by decide +kernel
theorem dX12_init_116 : decode cX12_init 116 = .ok (.putfield 55, 3) := by decide +kernel
theorem dX12_init_119 : decode cX12_init 119 = .ok (.aload_n 0, 1) := by decide +kernel
theorem dX12_init_120 : decode cX12_init 120 = .ok (.sipush 300, 3) := by decide +kernel
theorem dX12_init_123 : decode cX12_init 123 = .ok (.newarray .boolean, 2) := by decide +kernel
theorem dX12_init_125 : decode cX12_init 125 = .ok (.putfield 58, 3) := by decide +kernel
theorem dX12_init_128 : decode cX12_init 128 = .ok (.aload_n 0, 1) := by decide +kernel
theorem dX12_init_129 : decode cX12_init 129 = .ok (.sipush 300, 3) := by decide +kernel
theorem dX12_init_132 : decode cX12_init 132 = .ok (.newarray .boolean, 2) := by decide +kernel
theorem dX12_init_134 : decode cX12_init 134 = .ok (.putfield 61, 3) := by decide +kernel
theorem dX12_init_137 : decode cX12_init 137 = .ok (.aload_n 0, 1) := by decide +kernel
theorem dX12_init_138 : decode cX12_init 138 = .ok (.sipush 300, 3) := by decide +kernel
theorem dX12_init_141 : decode cX12_init 141 = .ok (.newarray .boolean, 2) := by decide +kernel
theorem dX12_init_143 : decode cX12_init 143 = .ok (.putfield 64, 3) := by decide +kernel
theorem dX12_init_146 : decode cX12_init 146 = .ok (.aload_n 0, 1) := by decide +kernel
theorem dX12_init_147 : decode cX12_init 147 = .ok (.bipush 60, 2) := by decide +kernel
theorem dX12_init_149 : decode cX12_init 149 = .ok (.newarray .boolean, 2) := by decide +kernel
theorem dX12_init_151 : decode cX12_init 151 = .ok (.putfield 67, 3) := by decide +kernel
theorem dX12_init_154 : decode cX12_init 154 = .ok (.aload_n 0, 1) := by decide +kernel
theorem dX12_init_155 : decode cX12_init 155 = .ok (.bipush 60, 2) := by decide +kernel
theorem dX12_init_157 : decode cX12_init 157 = .ok (.newarray .boolean, 2) := by decide +kernel
theorem dX12_init_159 : decode cX12_init 159 = .ok (.putfield 70, 3) := by decide +kernel
theorem dX12_init_162 : decode cX12_init 162 = .ok (.aload_n 0, 1) := by decide +kernel
theorem dX12_init_163 : decode cX12_init 163 = .ok (.sipush 300, 3) := by decide +kernel
theorem dX12_init_166 : decode cX12_init 166 = .ok (.newarray .int, 2) := by decide +kernel
theorem dX12_init_168 : decode cX12_init 168 = .ok (.putfield 73, 3) := by decide +kernel
theorem dX12_init_171 : decode cX12_init 171 = .ok (.aload_n 0, 1) := by decide +kernel
theorem dX12_init_172 : decode cX12_init 172 = .ok (.sipush 300, 3) := by decide +kernel
theorem dX12_init_175 : decode cX12_init 175 = .ok (.newarray .int, 2) := by decide +kernel
theorem dX12_init_177 : decode cX12_init 177 = .ok (.putfield 76, 3) := by decide +kernel
theorem dX12_init_180 : decode cX12_init 180 = .ok (.aload_n 0, 1) := by decide +kernel
theorem dX12_init_181 : decode cX12_init 181 = .ok (.sipush 300, 3) := by decide +kernel
theorem dX12_init_184 : decode cX12_init 184 = .ok (.newarray .int, 2) := by decide +kernel
theorem dX12_init_186 : decode cX12_init 186 = .ok (.putfield 79, 3) := by decide +kernel
theorem dX12_init_189 : decode cX12_init 189 = .ok (.aload_n 0, 1) := by decide +kernel
theorem dX12_init_190 : decode cX12_init 190 = .ok (.sipush 300, 3) := by decide +kernel
theorem dX12_init_193 : decode cX12_init 193 = .ok (.newarray .int, 2) := by decide +kernel
theorem dX12_init_195 : decode cX12_init 195 = .ok (.putfield 82, 3) := by decide +kernel
theorem dX12_init_198 : decode cX12_init 198 = .ok (.aload_n 0, 1) := by decide +kernel
theorem dX12_init_199 : decode cX12_init 199 = .ok (.sipush 300, 3) := by decide +kernel
theorem dX12_init_202 : decode cX12_init 202 = .ok (.newarray .int, 2) := by decide +kernel
theorem dX12_init_204 : decode cX12_init 204 = .ok (.putfield 85, 3) := by decide +kernel
theorem dX12_init_207 : decode cX12_init 207 = .ok (.aload_n 0, 1) := by decide +kernel
theorem dX12_init_208 : decode cX12_init 208 = .ok (.sipush 300, 3) := by decide +kernel
theorem dX12_init_211 : decode cX12_init 211 = .ok (.newarray .int, 2) := by decide +kernel
theorem dX12_init_213 : decode cX12_init 213 = .ok (.putfield 88, 3) := by decide +kernel
theorem dX12_init_216 : decode cX12_init 216 = .ok (.aload_n 0, 1) := by decide +kernel
theorem dX12_init_217 : decode cX12_init 217 = .ok (.sipush 300, 3) := by decide +kernel
theorem dX12_init_220 : decode cX12_init 220 = .ok (.newarray .boolean, 2) := by decide +kernel
theorem dX12_init_222 : decode cX12_init 222 = .ok (.putfield 91, 3) := by decide +kernel
theorem dX12_init_225 : decode cX12_init 225 = .ok (.aload_n 0, 1) := by decide +kernel
theorem dX12_init_226 : decode cX12_init 226 = .ok (.bipush 60, 2) := by decide +kernel
theorem dX12_init_228 : decode cX12_init 228 = .ok (.newarray .boolean, 2) := by decide +kernel
theorem dX12_init_230 : decode cX12_init 230 = .ok (.putfield 94, 3) := by decide +kernel
theorem dX12_init_233 : decode cX12_init 233 = .ok (.aload_n 0, 1) := by decide +kernel
theorem dX12_init_234 : decode cX12_init 234 = .ok (.bipush 10, 2) := by decide +kernel
theorem dX12_init_236 : decode cX12_init 236 = .ok (.newarray .boolean, 2) := by decide +kernel
theorem dX12_init_238 : decode cX12_init 238 = .ok (.putfield 97, 3) := by decide +kernel
theorem dX12_init_241 : decode cX12_init 241 = .ok (.aload_n 0, 1) := by decide +kernel
theorem dX12_init_242 : decode cX12_init 242 = .ok (.sipush 240, 3) := by decide +kernel
theorem dX12_init_245 : decode cX12_init 245 = .ok (.newarray .int, 2) := by decide +kernel
theorem dX12_init_247 : decode cX12_init 247 = .ok (.putfield 100, 3) := by decide +kernel
theorem dX12_init_250 : decode cX12_init 250 = .ok (.aload_n 0, 1) := by decide +kernel
theorem dX12_init_251 : decode cX12_init 251 = .ok (.sipush 300, 3) := by decide +kernel
theorem dX12_init_254 : decode cX12_init 254 = .ok (.newarray .int, 2) := by decide +kernel
theorem dX12_init_256 : decode cX12_init 256 = .ok (.putfield 103, 3) := by decide +kernel
theorem dX12_init_259 : decode cX12_init 259 = .ok (.aload_n 0, 1) := by decide +kernel
theorem dX12_init_260 : decode cX12_init 260 = .ok (.sipush 300, 3) := by decide +kernel
theorem dX12_init_263 : decode cX12_init 263 = .ok (.newarray .int, 2) := by decide +kernel
theorem dX12_init_265 : decode cX12_init 265 = .ok (.putfield 106, 3) := by decide +kernel
theorem dX12_init_268 : decode cX12_init 268 = .ok (.aload_n 0, 1) := by decide +kernel
theorem dX12_init_269 : decode cX12_init 269 = .ok (.sipush 700, 3) := by decide +kernel
theorem dX12_init_272 : decode cX12_init 272 = .ok (.newarray .int, 2) := by decide +kernel
theorem dX12_init_274 : decode cX12_init 274 = .ok (.putfield 109, 3) := by decide +kernel
theorem dX12_init_277 : decode cX12_init 277 = .ok (.aload_n 0, 1) := by decide +kernel
theorem dX12_init_278 : decode cX12_init 278 = .ok (.sipush 700, 3) := by decide +kernel
theorem dX12_init_281 : decode cX12_init 281 = .ok (.newarray .int, 2) := by decide +kernel
theorem dX12_init_283 : decode cX12_init 283 = .ok (.putfield 112, 3) := by decide +kernel
theorem dX12_init_286 : decode cX12_init 286 = .ok (.aload_n 0, 1) := by decide +kernel
theorem dX12_init_287 : decode cX12_init 287 = .ok (.sipush 700, 3) := by decide +kernel
theorem dX12_init_290 : decode cX12_init 290 = .ok (.newarray .int, 2) := by decide +kernel
theorem dX12_init_292 : decode cX12_init 292 = .ok (.putfield 115, 3) := by decide +kernel
theorem dX12_init_295 : decode cX12_init 295 = .ok (.aload_n 0, 1) := by decide +kernel
theorem dX12_init_296 : decode cX12_init 296 = .ok (.sipush 700, 3) := by decide +kernel
theorem dX12_init_299 : decode cX12_init 299 = .ok (.newarray .int, 2) := by decide +kernel
theorem dX12_init_301 : decode cX12_init 301 = .ok (.putfield 118, 3) := by decide +kernel
theorem dX12_init_304 : decode cX12_init 304 = .ok (.aload_n 0, 1) := by decide +kernel
theorem dX12_init_305 : decode cX12_init 305 = .ok (.bipush 10, 2) := by decide +kernel
theorem dX12_init_307 : decode cX12_init 307 = .ok (.newarray .int, 2) := by decide +kernel
theorem dX12_init_309 : decode cX12_init 309 = .ok (.putfield 121, 3) := by decide +kernel
theorem dX12_init_312 : decode cX12_init 312 = .ok (.aload_n 0, 1) := by decide +kernel
theorem dX12_init_313 : decode cX12_init 313 = .ok (.bipush 10, 2) := by decide +kernel
theorem dX12_init_315 : decode cX12_init 315 = .ok (.newarray .int, 2) := by decide +kernel
theorem dX12_init_317 : decode cX12_init 317 = .ok (.putfield 124, 3) := by decide +kernel
theorem dX12_init_320 : decode cX12_init 320 = .ok (.aload_n 0, 1) := by decide +kernel
theorem dX12_init_321 : decode cX12_init 321 = .ok (.bipush 60, 2) := by decide +kernel
theorem dX12_init_323 : decode cX12_init 323 = .ok (.newarray .int, 2) := by decide +kernel
theorem dX12_init_325 : decode cX12_init 325 = .ok (.putfield 127, 3) := by decide +kernel
theorem dX12_init_328 : decode cX12_init 328 = .ok (.aload_n 0, 1) := by decide +kernel
theorem dX12_init_329 : decode cX12_init 329 = .ok (.bipush 60, 2) := by decide +kernel
theorem dX12_init_331 : decode cX12_init 331 = .ok (.newarray .int, 2) := by decide +kernel
theorem dX12_init_333 : decode cX12_init 333 = .ok (.putfield 130, 3) := by decide +kernel
theorem dX12_init_336 : decode cX12_init 336 = .ok (.aload_n 0, 1) := by decide +kernel
theorem dX12_init_337 : decode cX12_init 337 = .ok (.sipush 600, 3) := by decide +kernel
theorem dX12_init_340 : decode cX12_init 340 = .ok (.newarray .int, 2) := by decide +kernel
theorem dX12_init_342 : decode cX12_init 342 = .ok (.putfield 133, 3) := by decide +kernel
theorem dX12_init_345 : decode cX12_init 345 = .ok (.aload_n 0, 1) := by decide +kernel
theorem dX12_init_346 : decode cX12_init 346 = .ok (.sipush 600, 3) := by decide +kernel
theorem dX12_init_349 : decode cX12_init 349 = .ok (.newarray .int, 2) := by decide +kernel
theorem dX12_init_351 : decode cX12_init 351 = .ok (.putfield 136, 3) := by decide +kernel
theorem dX12_init_354 : decode cX12_init 354 = .ok (.aload_n 0, 1) := by decide +kernel
theorem dX12_init_355 : decode cX12_init 355 = .ok (.bipush 7, 2) := by decide +kernel
theorem dX12_init_357 : decode cX12_init 357 = .ok (.newarray .int, 2) := by decide +kernel
theorem dX12_init_359 : decode cX12_init 359 = .ok (.putfield 139, 3) := by decide +kernel
theorem dX12_init_362 : decode cX12_init 362 = .ok (.aload_n 0, 1) := by decide +kernel
theorem dX12_init_363 : decode cX12_init 363 = .ok (.sipush 600, 3) := by decide +kernel
theorem dX12_init_366 : decode cX12_init 366 = .ok (.newarray .int, 2) := by decide +kernel
theorem dX12_init_368 : decode cX12_init 368 = .ok (.putfield 142, 3) := by decide +kernel
theorem dX12_init_371 : decode cX12_init 371 = .ok (.aload_n 0, 1) := by decide +kernel
theorem dX12_init_372 : decode cX12_init 372 = .ok (.sipush 600, 3) := by decide +kernel
theorem dX12_init_375 : decode cX12_init 375 = .ok (.newarray .int, 2) := by decide +kernel
theorem dX12_init_377 : decode cX12_init 377 = .ok (.putfield 145, 3) := by decide +kernel
theorem dX12_init_380 : decode cX12_init 380 = .ok (.aload_n 0, 1) := by decide +kernel
theorem dX12_init_381 : decode cX12_init 381 = .ok (.bipush 7, 2) := by decide +kernel
theorem dX12_init_383 : decode cX12_init 383 = .ok (.newarray .int, 2) := by decide +kernel
theorem dX12_init_385 : decode cX12_init 385 = .ok (.putfield 148, 3) := by decide +kernel
theorem dX12_init_388 : decode cX12_init 388 = .ok (.aload_n 0, 1) := by decide +kernel
theorem dX12_init_389 : decode cX12_init 389 = .ok (.sipush 600, 3) := by decide +kernel
theorem dX12_init_392 : decode cX12_init 392 = .ok (.newarray .int, 2) := by decide +kernel
theorem dX12_init_394 : decode cX12_init 394 = .ok (.putfield 151, 3) := by decide +kernel
theorem dX12_init_397 : decode cX12_init 397 = .ok (.aload_n 0, 1) := by decide +kernel
theorem dX12_init_398 : decode cX12_init 398 = .ok (.bipush 70, 2) := by decide +kernel
theorem dX12_init_400 : decode cX12_init 400 = .ok (.newarray .int, 2) := by decide +kernel
theorem dX12_init_402 : decode cX12_init 402 = .ok (.putfield 154, 3) := by decide +kernel
theorem dX12_init_405 : decode cX12_init 405 = .ok (.aload_n 0, 1) := by decide +kernel
theorem dX12_init_406 : decode cX12_init 406 = .ok (.bipush 6, 2) := by decide +kernel
theorem dX12_init_408 : decode cX12_init 408 = .ok (.newarray .boolean, 2) := by decide +kernel
theorem dX12_init_410 : decode cX12_init 410 = .ok (.putfield 157, 3) := by decide +kernel
theorem dX12_init_413 : decode cX12_init 413 = .ok (.aload_n 0, 1) := by decide +kernel
theorem dX12_init_414 : decode cX12_init 414 = .ok (.bipush 6, 2) := by decide +kernel
theorem dX12_init_416 : decode cX12_init 416 = .ok (.newarray .boolean, 2) := by decide +kernel
theorem dX12_init_418 : decode cX12_init 418 = .ok (.putfield 160, 3) := by decide +kernel
theorem dX12_init_421 : decode cX12_init 421 = .ok (.aload_n 0, 1) := by decide +kernel
theorem dX12_init_422 : decode cX12_init 422 = .ok (.sipush 3600, 3) := by decide +kernel
theorem dX12_init_425 : decode cX12_init 425 = .ok (.newarray .long, 2) := by decide +kernel
theorem dX12_init_427 : decode cX12_init 427 = .ok (.putfield 163, 3) := by decide +kernel
theorem dX12_init_430 : decode cX12_init 430 = .ok (.return_, 1) := by decide +kernel
theorem dX12_feed_0 : decode cX12_feed 0 = .ok (.aload_n 0, 1) := by decide +kernel
theorem dX12_feed_1 : decode cX12_feed 1 = .ok (.getfield 166, 3) := by decide +kernel
theorem dX12_feed_4 : decode cX12_feed 4 = .ok (.bipush 20, 2) := by decide +kernel
theorem dX12_feed_6 : decode cX12_feed 6 = .ok (.iadd, 1) := by decide +kernel
theorem dX12_feed_7 : decode cX12_feed 7 = .ok (.sipush 800, 3) := by decide +kernel
theorem dX12_feed_10 : decode cX12_feed 10 = .ok (.if_icmp .le 5, 3) := by decide +kernel
theorem dX12_feed_13 : decode cX12_feed 13 = .ok (.iconst (-1), 1) := by decide +kernel
theorem dX12_feed_14 : decode cX12_feed 14 = .ok (.ireturn, 1) := by decide +kernel
theorem dX12_feed_15 : decode cX12_feed 15 = .ok (.aload_n 0, 1) := by decide +kernel
theorem dX12_feed_16 : decode cX12_feed 16 = .ok (.iload_n 1, 1) := by decide +kernel
theorem dX12_feed_17 : decode cX12_feed 17 = .ok (.invokevirtual 169, 3) := by decide +kernel
theorem dX12_feed_20 : decode cX12_feed 20 = .ok (.aload_n 0, 1) := by decide +kernel
theorem dX12_feed_21 : decode cX12_feed 21 = .ok (.iload_n 2, 1) := by decide +kernel
theorem dX12_feed_22 : decode cX12_feed 22 = .ok (.invokevirtual 169, 3) := by decide +kernel
theorem dX12_feed_25 : decode cX12_feed 25 = .ok (.aload_n 0, 1) := by decide +kernel
theorem dX12_feed_26 : decode cX12_feed 26 = .ok (.iload_n 3, 1) := by decide +kernel
theorem dX12_feed_27 : decode cX12_feed 27 = .ok (.invokevirtual 169, 3) := by decide +kernel
theorem dX12_feed_30 : decode cX12_feed 30 = .ok (.aload_n 0, 1) := by decide +kernel
theorem dX12_feed_31 : decode cX12_feed 31 = .ok (.iload 4, 2) := by decide +kernel
theorem dX12_feed_33 : decode cX12_feed 33 = .ok (.invokevirtual 169, 3) := by decide +kernel
theorem dX12_feed_36 : decode cX12_feed 36 = .ok (.aload_n 0, 1) := by decide +kernel
theorem dX12_feed_37 : decode cX12_feed 37 = .ok (.iload 5, 2) := by decide +kernel
theorem dX12_feed_39 : decode cX12_feed 39 = .ok (.invokevirtual 169, 3) := by decide +kernel
theorem dX12_feed_42 : decode cX12_feed 42 = .ok (.aload_n 0, 1) := by decide +kernel
theorem dX12_feed_43 : decode cX12_feed 43 = .ok (.getfield 166, 3) := by decide +kernel
theorem dX12_feed_46 : decode cX12_feed 46 = .ok (.ireturn, 1) := by decide +kernel
theorem dX12_four_0 : decode cX12_four 0 = .ok (.bipush 24, 2) := by decide +kernel
theorem dX12_four_2 : decode cX12_four 2 = .ok (.istore_n 2, 1) := by decide +kernel
theorem dX12_four_3 : decode cX12_four 3 = .ok (.iload_n 2, 1) := by decide +kernel
theorem dX12_four_4 : decode cX12_four 4 = .ok (.ifCond .lt 35, 3) := by decide +kernel
theorem dX12_four_7 : decode cX12_four 7 = .ok (.aload_n 0, 1) := by decide +kernel
theorem dX12_four_8 : decode cX12_four 8 = .ok (.getfield 7, 3) := by decide +kernel
theorem dX12_four_11 : decode cX12_four 11 = .ok (.aload_n 0, 1) := by decide +kernel
theorem dX12_four_12 : decode cX12_four 12 = .ok (.getfield 166, 3) := by decide +kernel
theorem dX12_four_15 : decode cX12_four 15 = .ok (.iload_n 1, 1) := by decide +kernel
theorem dX12_four_16 : decode cX12_four 16 = .ok (.iload_n 2, 1) := by decide +kernel
theorem dX12_four_17 : decode cX12_four 17 = .ok (.ishr, 1) := by decide +kernel
theorem dX12_four_18 : decode cX12_four 18 = .ok (.sipush 255, 3) := by decide +kernel
theorem dX12_four_21 : decode cX12_four 21 = .ok (.iand, 1) := by decide +kernel
theorem dX12_four_22 : decode cX12_four 22 = .ok (.iastore, 1) := by decide +kernel
theorem dX12_four_23 : decode cX12_four 23 = .ok (.aload_n 0, 1) := by decide +kernel
theorem dX12_four_24 : decode cX12_four 24 = .ok (.dup, 1) := by decide +kernel
theorem dX12_four_25 : decode cX12_four 25 = .ok (.getfield 166, 3) := by decide +kernel
theorem dX12_four_28 : decode cX12_four 28 = .ok (.iconst 1, 1) := by decide +kernel
theorem dX12_four_29 : decode cX12_four 29 = .ok (.iadd, 1) := by decide +kernel
theorem dX12_four_30 : decode cX12_four 30 = .ok (.putfield 166, 3) := by decide +kernel
theorem dX12_four_33 : decode cX12_four 33 = .ok (.iinc 2 (-8), 3) := by decide +kernel
theorem dX12_four_36 : decode cX12_four 36 = .ok (.goto (-33), 3) := by decide +kernel
theorem dX12_four_39 : decode cX12_four 39 = .ok (.return_, 1) := by decide +kernel
theorem dX12_end_0 : decode cX12_end 0 = .ok (.iload_n 1, 1) := by decide +kernel
theorem dX12_end_1 : decode cX12_end 1 = .ok (.ifCond .lt 11, 3) := by decide +kernel
theorem dX12_end_4 : decode cX12_end 4 = .ok (.iload_n 1, 1) := by decide +kernel
theorem dX12_end_5 : decode cX12_end 5 = .ok (.aload_n 0, 1) := by decide +kernel
theorem dX12_end_6 : decode cX12_end 6 = .ok (.getfield 166, 3) := by decide +kernel
theorem dX12_end_9 : decode cX12_end 9 = .ok (.if_icmp .le 5, 3) := by decide +kernel
theorem dX12_end_12 : decode cX12_end 12 = .ok (.iconst (-1), 1) := by decide +kernel
theorem dX12_end_13 : decode cX12_end 13 = .ok (.ireturn, 1) := by decide +kernel
theorem dX12_end_14 : decode cX12_end 14 = .ok (.aload_n 0, 1) := by decide +kernel
theorem dX12_end_15 : decode cX12_end 15 = .ok (.iload_n 1, 1) := by decide +kernel
theorem dX12_end_16 : decode cX12_end 16 = .ok (.putfield 166, 3) := by decide +kernel
theorem dX12_end_19 : decode cX12_end 19 = .ok (.iload_n 1, 1) := by decide +kernel
theorem dX12_end_20 : decode cX12_end 20 = .ok (.ireturn, 1) := by decide +kernel
theorem dX12_here_0 : decode cX12_here 0 = .ok (.aload_n 0, 1) := by decide +kernel
theorem dX12_here_1 : decode cX12_here 1 = .ok (.getfield 173, 3) := by decide +kernel
theorem dX12_here_4 : decode cX12_here 4 = .ok (.iload_n 1, 1) := by decide +kernel
theorem dX12_here_5 : decode cX12_here 5 = .ok (.iadd, 1) := by decide +kernel
theorem dX12_here_6 : decode cX12_here 6 = .ok (.aload_n 0, 1) := by decide +kernel
theorem dX12_here_7 : decode cX12_here 7 = .ok (.getfield 176, 3) := by decide +kernel
theorem dX12_here_10 : decode cX12_here 10 = .ok (.if_icmp .ge 17, 3) := by decide +kernel
theorem dX12_here_13 : decode cX12_here 13 = .ok (.aload_n 0, 1) := by decide +kernel
theorem dX12_here_14 : decode cX12_here 14 = .ok (.getfield 7, 3) := by decide +kernel
theorem dX12_here_17 : decode cX12_here 17 = .ok (.aload_n 0, 1) := by decide +kernel
theorem dX12_here_18 : decode cX12_here 18 = .ok (.getfield 173, 3) := by decide +kernel
theorem dX12_here_21 : decode cX12_here 21 = .ok (.iload_n 1, 1) := by decide +kernel
theorem dX12_here_22 : decode cX12_here 22 = .ok (.iadd, 1) := by decide +kernel
theorem dX12_here_23 : decode cX12_here 23 = .ok (.iaload, 1) := by decide +kernel
theorem dX12_here_24 : decode cX12_here 24 = .ok (.goto 4, 3) := by decide +kernel
theorem dX12_here_27 : decode cX12_here 27 = .ok (.iconst (-1), 1) := by decide +kernel
theorem dX12_here_28 : decode cX12_here 28 = .ok (.ireturn, 1) := by decide +kernel
theorem dX12_isLetter_0 : decode cX12_isLetter 0 = .ok (.iload_n 0, 1) := by decide +kernel
theorem dX12_isLetter_1 : decode cX12_isLetter 1 = .ok (.bipush 97, 2) := by decide +kernel
theorem dX12_isLetter_3 : decode cX12_isLetter 3 = .ok (.if_icmp .lt 13, 3) := by decide +kernel
theorem dX12_isLetter_6 : decode cX12_isLetter 6 = .ok (.iload_n 0, 1) := by decide +kernel
theorem dX12_isLetter_7 : decode cX12_isLetter 7 = .ok (.bipush 122, 2) := by decide +kernel
theorem dX12_isLetter_9 : decode cX12_isLetter 9 = .ok (.if_icmp .gt 7, 3) := by decide +kernel
theorem dX12_isLetter_12 : decode cX12_isLetter 12 = .ok (.iconst 1, 1) := by decide +kernel
theorem dX12_isLetter_13 : decode cX12_isLetter 13 = .ok (.goto 4, 3) := by decide +kernel
theorem dX12_isLetter_16 : decode cX12_isLetter 16 = .ok (.iconst 0, 1) := by decide +kernel
theorem dX12_isLetter_17 : decode cX12_isLetter 17 = .ok (.ireturn, 1) := by decide +kernel
theorem dX12_isDigit_0 : decode cX12_isDigit 0 = .ok (.iload_n 0, 1) := by decide +kernel
theorem dX12_isDigit_1 : decode cX12_isDigit 1 = .ok (.bipush 48, 2) := by decide +kernel
theorem dX12_isDigit_3 : decode cX12_isDigit 3 = .ok (.if_icmp .lt 13, 3) := by decide +kernel
theorem dX12_isDigit_6 : decode cX12_isDigit 6 = .ok (.iload_n 0, 1) := by decide +kernel
theorem dX12_isDigit_7 : decode cX12_isDigit 7 = .ok (.bipush 57, 2) := by decide +kernel
theorem dX12_isDigit_9 : decode cX12_isDigit 9 = .ok (.if_icmp .gt 7, 3) := by decide +kernel
theorem dX12_isDigit_12 : decode cX12_isDigit 12 = .ok (.iconst 1, 1) := by decide +kernel
theorem dX12_isDigit_13 : decode cX12_isDigit 13 = .ok (.goto 4, 3) := by decide +kernel
theorem dX12_isDigit_16 : decode cX12_isDigit 16 = .ok (.iconst 0, 1) := by decide +kernel
theorem dX12_isDigit_17 : decode cX12_isDigit 17 = .ok (.ireturn, 1) := by decide +kernel
theorem dX12_isSign_0 : decode cX12_isSign 0 = .ok (.iload_n 1, 1) := by decide +kernel
theorem dX12_isSign_1 : decode cX12_isSign 1 = .ok (.bipush 59, 2) := by decide +kernel
theorem dX12_isSign_3 : decode cX12_isSign 3 = .ok (.if_icmp .eq 58, 3) := by decide +kernel
theorem dX12_isSign_6 : decode cX12_isSign 6 = .ok (.iload_n 1, 1) := by decide +kernel
theorem dX12_isSign_7 : decode cX12_isSign 7 = .ok (.bipush 45, 2) := by decide +kernel
theorem dX12_isSign_9 : decode cX12_isSign 9 = .ok (.if_icmp .eq 52, 3) := by decide +kernel
theorem dX12_isSign_12 : decode cX12_isSign 12 = .ok (.aload_n 0, 1) := by decide +kernel
theorem dX12_isSign_13 : decode cX12_isSign 13 = .ok (.getfield 179, 3) := by decide +kernel
theorem dX12_isSign_16 : decode cX12_isSign 16 = .ok (.ifCond .eq 49, 3) := by decide +kernel
theorem dX12_isSign_19 : decode cX12_isSign 19 = .ok (.iload_n 1, 1) := by decide +kernel
theorem dX12_isSign_20 : decode cX12_isSign 20 = .ok (.bipush 40, 2) := by decide +kernel
theorem dX12_isSign_22 : decode cX12_isSign 22 = .ok (.if_icmp .eq 39, 3) := by decide +kernel
theorem dX12_isSign_25 : decode cX12_isSign 25 = .ok (.iload_n 1, 1) := by decide +kernel
theorem dX12_isSign_26 : decode cX12_isSign 26 = .ok (.bipush 41, 2) := by decide +kernel
theorem dX12_isSign_28 : decode cX12_isSign 28 = .ok (.if_icmp .eq 33, 3) := by decide +kernel
theorem dX12_isSign_31 : decode cX12_isSign 31 = .ok (.iload_n 1, 1) := by decide +kernel
theorem dX12_isSign_32 : decode cX12_isSign 32 = .ok (.bipush 60, 2) := by decide +kernel
theorem dX12_isSign_34 : decode cX12_isSign 34 = .ok (.if_icmp .eq 27, 3) := by decide +kernel
theorem dX12_isSign_37 : decode cX12_isSign 37 = .ok (.iload_n 1, 1) := by decide +kernel
theorem dX12_isSign_38 : decode cX12_isSign 38 = .ok (.bipush 62, 2) := by decide +kernel
theorem dX12_isSign_40 : decode cX12_isSign 40 = .ok (.if_icmp .eq 21, 3) := by decide +kernel
theorem dX12_isSign_43 : decode cX12_isSign 43 = .ok (.iload_n 1, 1) := by decide +kernel
theorem dX12_isSign_44 : decode cX12_isSign 44 = .ok (.bipush 61, 2) := by decide +kernel
theorem dX12_isSign_46 : decode cX12_isSign 46 = .ok (.if_icmp .eq 15, 3) := by decide +kernel
theorem dX12_isSign_49 : decode cX12_isSign 49 = .ok (.iload_n 1, 1) := by decide +kernel
theorem dX12_isSign_50 : decode cX12_isSign 50 = .ok (.bipush 43, 2) := by decide +kernel
theorem dX12_isSign_52 : decode cX12_isSign 52 = .ok (.if_icmp .eq 9, 3) := by decide +kernel
theorem dX12_isSign_55 : decode cX12_isSign 55 = .ok (.iload_n 1, 1) := by decide +kernel
theorem dX12_isSign_56 : decode cX12_isSign 56 = .ok (.bipush 42, 2) := by decide +kernel
theorem dX12_isSign_58 : decode cX12_isSign 58 = .ok (.if_icmp .ne 7, 3) := by decide +kernel
theorem dX12_isSign_61 : decode cX12_isSign 61 = .ok (.iconst 1, 1) := by decide +kernel
theorem dX12_isSign_62 : decode cX12_isSign 62 = .ok (.goto 4, 3) := by decide +kernel
theorem dX12_isSign_65 : decode cX12_isSign 65 = .ok (.iconst 0, 1) := by decide +kernel
theorem dX12_isSign_66 : decode cX12_isSign 66 = .ok (.ireturn, 1) := by decide +kernel
theorem dX12_token_0 : decode cX12_token 0 = .ok (.aload_n 0, 1) := by decide +kernel
theorem dX12_token_1 : decode cX12_token 1 = .ok (.iconst 0, 1) := by decide +kernel
theorem dX12_token_2 : decode cX12_token 2 = .ok (.invokevirtual 183, 3) := by decide +kernel
theorem dX12_token_5 : decode cX12_token 5 = .ok (.bipush 32, 2) := by decide +kernel
theorem dX12_token_7 : decode cX12_token 7 = .ok (.if_icmp .eq 13, 3) := by decide +kernel
theorem dX12_token_10 : decode cX12_token 10 = .ok (.aload_n 0, 1) := by decide +kernel
theorem dX12_token_11 : decode cX12_token 11 = .ok (.iconst 0, 1) := by decide +kernel
theorem dX12_token_12 : decode cX12_token 12 = .ok (.invokevirtual 183, 3) := by decide +kernel
theorem dX12_token_15 : decode cX12_token 15 = .ok (.bipush 10, 2) := by decide +kernel
theorem dX12_token_17 : decode cX12_token 17 = .ok (.if_icmp .ne 16, 3) := by decide +kernel
theorem dX12_token_20 : decode cX12_token 20 = .ok (.aload_n 0, 1) := by decide +kernel
theorem dX12_token_21 : decode cX12_token 21 = .ok (.dup, 1) := by decide +kernel
theorem dX12_token_22 : decode cX12_token 22 = .ok (.getfield 173, 3) := by decide +kernel
theorem dX12_token_25 : decode cX12_token 25 = .ok (.iconst 1, 1) := by decide +kernel
theorem dX12_token_26 : decode cX12_token 26 = .ok (.iadd, 1) := by decide +kernel
theorem dX12_token_27 : decode cX12_token 27 = .ok (.putfield 173, 3) := by decide +kernel
theorem dX12_token_30 : decode cX12_token 30 = .ok (.goto (-30), 3) := by decide +kernel
theorem dX12_token_33 : decode cX12_token 33 = .ok (.aload_n 0, 1) := by decide +kernel
theorem dX12_token_34 : decode cX12_token 34 = .ok (.aload_n 0, 1) := by decide +kernel
theorem dX12_token_35 : decode cX12_token 35 = .ok (.getfield 173, 3) := by decide +kernel
theorem dX12_token_38 : decode cX12_token 38 = .ok (.putfield 187, 3) := by decide +kernel
theorem dX12_token_41 : decode cX12_token 41 = .ok (.aload_n 0, 1) := by decide +kernel
theorem dX12_token_42 : decode cX12_token 42 = .ok (.iconst 0, 1) := by decide +kernel
theorem dX12_token_43 : decode cX12_token 43 = .ok (.invokevirtual 183, 3) := by decide +kernel
theorem dX12_token_46 : decode cX12_token 46 = .ok (.istore_n 1, 1) := by decide +kernel
theorem dX12_token_47 : decode cX12_token 47 = .ok (.iconst 0, 1) := by decide +kernel
theorem dX12_token_48 : decode cX12_token 48 = .ok (.istore_n 2, 1) := by decide +kernel
theorem dX12_token_49 : decode cX12_token 49 = .ok (.aload_n 0, 1) := by decide +kernel
theorem dX12_token_50 : decode cX12_token 50 = .ok (.lconst 0, 1) := by decide +kernel
theorem dX12_token_51 : decode cX12_token 51 = .ok (.putfield 190, 3) := by decide +kernel
theorem dX12_token_54 : decode cX12_token 54 = .ok (.aload_n 0, 1) := by decide +kernel
theorem dX12_token_55 : decode cX12_token 55 = .ok (.iconst 0, 1) := by decide +kernel
theorem dX12_token_56 : decode cX12_token 56 = .ok (.putfield 194, 3) := by decide +kernel
theorem dX12_token_59 : decode cX12_token 59 = .ok (.iload_n 1, 1) := by decide +kernel
theorem dX12_token_60 : decode cX12_token 60 = .ok (.ifCond .ge 11, 3) := by decide +kernel
theorem dX12_token_63 : decode cX12_token 63 = .ok (.aload_n 0, 1) := by decide +kernel
theorem dX12_token_64 : decode cX12_token 64 = .ok (.iconst 0, 1) := by decide +kernel
theorem dX12_token_65 : decode cX12_token 65 = .ok (.putfield 197, 3) := by decide +kernel
theorem dX12_token_68 : decode cX12_token 68 = .ok (.goto 165, 3) := by decide +kernel
theorem dX12_token_71 : decode cX12_token 71 = .ok (.iload_n 1, 1) := by decide +kernel
theorem dX12_token_72 : decode cX12_token 72 = .ok (.invokestatic 200, 3) := by decide +kernel
theorem dX12_token_75 : decode cX12_token 75 = .ok (.ifCond .eq 62, 3) := by decide +kernel
theorem dX12_token_78 : decode cX12_token 78 = .ok (.aload_n 0, 1) := by decide +kernel
theorem dX12_token_79 : decode cX12_token 79 = .ok (.iload_n 2, 1) := by decide +kernel
theorem dX12_token_80 : decode cX12_token 80 = .ok (.invokevirtual 183, 3) := by decide +kernel
theorem dX12_token_83 : decode cX12_token 83 = .ok (.invokestatic 200, 3) := by decide +kernel
theorem dX12_token_86 : decode cX12_token 86 = .ok (.ifCond .eq 33, 3) := by decide +kernel
theorem dX12_token_89 : decode cX12_token 89 = .ok (.iload_n 2, 1) := by decide +kernel
theorem dX12_token_90 : decode cX12_token 90 = .ok (.bipush 8, 2) := by decide +kernel
theorem dX12_token_92 : decode cX12_token 92 = .ok (.if_icmp .ge 21, 3) := by decide +kernel
theorem dX12_token_95 : decode cX12_token 95 = .ok (.aload_n 0, 1) := by decide +kernel
theorem dX12_token_96 : decode cX12_token 96 = .ok (.aload_n 0, 1) := by decide +kernel
theorem dX12_token_97 : decode cX12_token 97 = .ok (.getfield 190, 3) := by decide +kernel
theorem dX12_token_100 : decode cX12_token 100 = .ok (.bipush 8, 2) := by decide +kernel
theorem dX12_token_102 : decode cX12_token 102 = .ok (.lshl, 1) := by decide +kernel
theorem dX12_token_103 : decode cX12_token 103 = .ok (.aload_n 0, 1) := by decide +kernel
theorem dX12_token_104 : decode cX12_token 104 = .ok (.iload_n 2, 1) := by decide +kernel
theorem dX12_token_105 : decode cX12_token 105 = .ok (.invokevirtual 183, 3) := by decide +kernel
theorem dX12_token_108 : decode cX12_token 108 = .ok (.i2l, 1) := by decide +kernel
theorem dX12_token_109 : decode cX12_token 109 = .ok (.lor, 1) := by decide +kernel
theorem dX12_token_110 : decode cX12_token 110 = .ok (.putfield 190, 3) := by decide +kernel
theorem dX12_token_113 : decode cX12_token 113 = .ok (.iinc 2 1, 3) := by decide +kernel
theorem dX12_token_116 : decode cX12_token 116 = .ok (.goto (-38), 3) := by decide +kernel
theorem dX12_token_119 : decode cX12_token 119 = .ok (.aload_n 0, 1) := by decide +kernel
theorem dX12_token_120 : decode cX12_token 120 = .ok (.iload_n 2, 1) := by decide +kernel
theorem dX12_token_121 : decode cX12_token 121 = .ok (.bipush 8, 2) := by decide +kernel
theorem dX12_token_123 : decode cX12_token 123 = .ok (.if_icmp .le 7, 3) := by decide +kernel
theorem dX12_token_126 : decode cX12_token 126 = .ok (.iconst 3, 1) := by decide +kernel
theorem dX12_token_127 : decode cX12_token 127 = .ok (.goto 4, 3) := by decide +kernel
theorem dX12_token_130 : decode cX12_token 130 = .ok (.iconst 1, 1) := by decide +kernel
theorem dX12_token_131 : decode cX12_token 131 = .ok (.putfield 197, 3) := by decide +kernel
theorem dX12_token_134 : decode cX12_token 134 = .ok (.goto 99, 3) := by decide +kernel
theorem dX12_token_137 : decode cX12_token 137 = .ok (.iload_n 1, 1) := by decide +kernel
theorem dX12_token_138 : decode cX12_token 138 = .ok (.invokestatic 204, 3) := by decide +kernel
theorem dX12_token_141 : decode cX12_token 141 = .ok (.ifCond .eq 73, 3) := by decide +kernel
theorem dX12_token_144 : decode cX12_token 144 = .ok (.aload_n 0, 1) := by decide +kernel
theorem dX12_token_145 : decode cX12_token 145 = .ok (.iload_n 2, 1) := by decide +kernel
theorem dX12_token_146 : decode cX12_token 146 = .ok (.invokevirtual 183, 3) := by decide +kernel
theorem dX12_token_149 : decode cX12_token 149 = .ok (.invokestatic 204, 3) := by decide +kernel
theorem dX12_token_152 : decode cX12_token 152 = .ok (.ifCond .eq 34, 3) := by decide +kernel
theorem dX12_token_155 : decode cX12_token 155 = .ok (.iload_n 2, 1) := by decide +kernel
theorem dX12_token_156 : decode cX12_token 156 = .ok (.iconst 4, 1) := by decide +kernel
theorem dX12_token_157 : decode cX12_token 157 = .ok (.if_icmp .ge 23, 3) := by decide +kernel
theorem dX12_token_160 : decode cX12_token 160 = .ok (.aload_n 0, 1) := by decide +kernel
theorem dX12_token_161 : decode cX12_token 161 = .ok (.bipush 10, 2) := by decide +kernel
theorem dX12_token_163 : decode cX12_token 163 = .ok (.aload_n 0, 1) := by decide +kernel
theorem dX12_token_164 : decode cX12_token 164 = .ok (.getfield 194, 3) := by decide +kernel
theorem dX12_token_167 : decode cX12_token 167 = .ok (.imul, 1) := by decide +kernel
theorem dX12_token_168 : decode cX12_token 168 = .ok (.aload_n 0, 1) := by decide +kernel
theorem dX12_token_169 : decode cX12_token 169 = .ok (.iload_n 2, 1) := by decide +kernel
theorem dX12_token_170 : decode cX12_token 170 = .ok (.invokevirtual 183, 3) := by decide +kernel
theorem dX12_token_173 : decode cX12_token 173 = .ok (.iadd, 1) := by decide +kernel
theorem dX12_token_174 : decode cX12_token 174 = .ok (.bipush 48, 2) := by decide +kernel
theorem dX12_token_176 : decode cX12_token 176 = .ok (.isub, 1) := by decide +kernel
theorem dX12_token_177 : decode cX12_token 177 = .ok (.putfield 194, 3) := by decide +kernel
theorem dX12_token_180 : decode cX12_token 180 = .ok (.iinc 2 1, 3) := by decide +kernel
theorem dX12_token_183 : decode cX12_token 183 = .ok (.goto (-39), 3) := by decide +kernel
theorem dX12_token_186 : decode cX12_token 186 = .ok (.aload_n 0, 1) := by decide +kernel
theorem dX12_token_187 : decode cX12_token 187 = .ok (.iload_n 2, 1) := by decide +kernel
theorem dX12_token_188 : decode cX12_token 188 = .ok (.iconst 4, 1) := by decide +kernel
theorem dX12_token_189 : decode cX12_token 189 = .ok (.if_icmp .gt 14, 3) := by decide +kernel
theorem dX12_token_192 : decode cX12_token 192 = .ok (.aload_n 0, 1) := by decide +kernel
theorem dX12_token_193 : decode cX12_token 193 = .ok (.iload_n 2, 1) := by decide +kernel
theorem dX12_token_194 : decode cX12_token 194 = .ok (.invokevirtual 183, 3) := by decide +kernel
theorem dX12_token_197 : decode cX12_token 197 = .ok (.invokestatic 200, 3) := by decide +kernel
theorem dX12_token_200 : decode cX12_token 200 = .ok (.ifCond .eq 7, 3) := by decide +kernel
theorem dX12_token_203 : decode cX12_token 203 = .ok (.iconst 3, 1) := by decide +kernel
theorem dX12_token_204 : decode cX12_token 204 = .ok (.goto 4, 3) := by decide +kernel
theorem dX12_token_207 : decode cX12_token 207 = .ok (.iconst 2, 1) := by decide +kernel
theorem dX12_token_208 : decode cX12_token 208 = .ok (.putfield 197, 3) := by decide +kernel
theorem dX12_token_211 : decode cX12_token 211 = .ok (.goto 22, 3) := by decide +kernel
theorem dX12_token_214 : decode cX12_token 214 = .ok (.iconst 1, 1) := by decide +kernel
theorem dX12_token_215 : decode cX12_token 215 = .ok (.istore_n 2, 1) := by decide +kernel
theorem dX12_token_216 : decode cX12_token 216 = .ok (.aload_n 0, 1) := by decide +kernel
theorem dX12_token_217 : decode cX12_token 217 = .ok (.aload_n 0, 1) := by decide +kernel
theorem dX12_token_218 : decode cX12_token 218 = .ok (.iload_n 1, 1) := by decide +kernel
theorem dX12_token_219 : decode cX12_token 219 = .ok (.invokevirtual 207, 3) := by decide +kernel
theorem dX12_token_222 : decode cX12_token 222 = .ok (.ifCond .eq 7, 3) := by decide +kernel
theorem dX12_token_225 : decode cX12_token 225 = .ok (.iload_n 1, 1) := by decide +kernel
theorem dX12_token_226 : decode cX12_token 226 = .ok (.goto 4, 3) := by decide +kernel
theorem dX12_token_229 : decode cX12_token 229 = .ok (.iconst 3, 1) := by decide +kernel
theorem dX12_token_230 : decode cX12_token 230 = .ok (.putfield 197, 3) := by decide +kernel
theorem dX12_token_233 : decode cX12_token 233 = .ok (.aload_n 0, 1) := by decide +kernel
theorem dX12_token_234 : decode cX12_token 234 = .ok (.getfield 197, 3) := by decide +kernel
theorem dX12_token_237 : decode cX12_token 237 = .ok (.iconst 3, 1) := by decide +kernel
theorem dX12_token_238 : decode cX12_token 238 = .ok (.if_icmp .eq 13, 3) := by decide +kernel
theorem dX12_token_241 : decode cX12_token 241 = .ok (.aload_n 0, 1) := by decide +kernel
theorem dX12_token_242 : decode cX12_token 242 = .ok (.dup, 1) := by decide +kernel
theorem dX12_token_243 : decode cX12_token 243 = .ok (.getfield 173, 3) := by decide +kernel
theorem dX12_token_246 : decode cX12_token 246 = .ok (.iload_n 2, 1) := by decide +kernel
theorem dX12_token_247 : decode cX12_token 247 = .ok (.iadd, 1) := by decide +kernel
theorem dX12_token_248 : decode cX12_token 248 = .ok (.putfield 173, 3) := by decide +kernel
theorem dX12_token_251 : decode cX12_token 251 = .ok (.return_, 1) := by decide +kernel
theorem dX12_spoil_0 : decode cX12_spoil 0 = .ok (.aload_n 0, 1) := by decide +kernel
theorem dX12_spoil_1 : decode cX12_spoil 1 = .ok (.getfield 210, 3) := by decide +kernel
theorem dX12_spoil_4 : decode cX12_spoil 4 = .ok (.ifCond .le 4, 3) := by decide +kernel
theorem dX12_spoil_7 : decode cX12_spoil 7 = .ok (.return_, 1) := by decide +kernel
theorem dX12_spoil_8 : decode cX12_spoil 8 = .ok (.aload_n 0, 1) := by decide +kernel
theorem dX12_spoil_9 : decode cX12_spoil 9 = .ok (.aload_n 0, 1) := by decide +kernel
theorem dX12_spoil_10 : decode cX12_spoil 10 = .ok (.getfield 197, 3) := by decide +kernel
theorem dX12_spoil_13 : decode cX12_spoil 13 = .ok (.iconst 3, 1) := by decide +kernel
theorem dX12_spoil_14 : decode cX12_spoil 14 = .ok (.if_icmp .ne 7, 3) := by decide +kernel
theorem dX12_spoil_17 : decode cX12_spoil 17 = .ok (.iconst 1, 1) := by decide +kernel
theorem dX12_spoil_18 : decode cX12_spoil 18 = .ok (.goto 4, 3) := by decide +kernel
theorem dX12_spoil_21 : decode cX12_spoil 21 = .ok (.iload_n 1, 1) := by decide +kernel
theorem dX12_spoil_22 : decode cX12_spoil 22 = .ok (.putfield 210, 3) := by decide +kernel
theorem dX12_spoil_25 : decode cX12_spoil 25 = .ok (.aload_n 0, 1) := by decide +kernel
theorem dX12_spoil_26 : decode cX12_spoil 26 = .ok (.aload_n 0, 1) := by decide +kernel
theorem dX12_spoil_27 : decode cX12_spoil 27 = .ok (.getfield 187, 3) := by decide +kernel
theorem dX12_spoil_30 : decode cX12_spoil 30 = .ok (.putfield 13, 3) := by decide +kernel
theorem dX12_spoil_33 : decode cX12_spoil 33 = .ok (.return_, 1) := by decide +kernel
theorem dX12_start_0 : decode cX12_start 0 = .ok (.aload_n 0, 1) := by decide +kernel
theorem dX12_start_1 : decode cX12_start 1 = .ok (.iload_n 1, 1) := by decide +kernel
theorem dX12_start_2 : decode cX12_start 2 = .ok (.putfield 179, 3) := by decide +kernel
theorem dX12_start_5 : decode cX12_start 5 = .ok (.aload_n 0, 1) := by decide +kernel
theorem dX12_start_6 : decode cX12_start 6 = .ok (.aload_n 0, 1) := by decide +kernel
theorem dX12_start_7 : decode cX12_start 7 = .ok (.getfield 166, 3) := by decide +kernel
theorem dX12_start_10 : decode cX12_start 10 = .ok (.putfield 176, 3) := by decide +kernel
theorem dX12_start_13 : decode cX12_start 13 = .ok (.aload_n 0, 1) := by decide +kernel
theorem dX12_start_14 : decode cX12_start 14 = .ok (.iconst 0, 1) := by decide +kernel
theorem dX12_start_15 : decode cX12_start 15 = .ok (.putfield 166, 3) := by decide +kernel
theorem dX12_start_18 : decode cX12_start 18 = .ok (.aload_n 0, 1) := by decide +kernel
theorem dX12_start_19 : decode cX12_start 19 = .ok (.iconst 0, 1) := by decide +kernel
theorem dX12_start_20 : decode cX12_start 20 = .ok (.putfield 173, 3) := by decide +kernel
theorem dX12_start_23 : decode cX12_start 23 = .ok (.aload_n 0, 1) := by decide +kernel
theorem dX12_start_24 : decode cX12_start 24 = .ok (.iconst 0, 1) := by decide +kernel
theorem dX12_start_25 : decode cX12_start 25 = .ok (.putfield 210, 3) := by decide +kernel
theorem dX12_start_28 : decode cX12_start 28 = .ok (.aload_n 0, 1) := by decide +kernel
theorem dX12_start_29 : decode cX12_start 29 = .ok (.iconst (-1), 1) := by decide +kernel
theorem dX12_start_30 : decode cX12_start 30 = .ok (.putfield 13, 3) := by decide +kernel
theorem dX12_start_33 : decode cX12_start 33 = .ok (.aload_n 0, 1) := by decide +kernel
theorem dX12_start_34 : decode cX12_start 34 = .ok (.invokevirtual 213, 3) := by decide +kernel
theorem dX12_start_37 : decode cX12_start 37 = .ok (.return_, 1) := by decide +kernel
theorem dX12_isWord_0 : decode cX12_isWord 0 = .ok (.aload_n 0, 1) := by decide +kernel
theorem dX12_isWord_1 : decode cX12_isWord 1 = .ok (.getfield 197, 3) := by decide +kernel
theorem dX12_isWord_4 : decode cX12_isWord 4 = .ok (.iconst 1, 1) := by decide +kernel
theorem dX12_isWord_5 : decode cX12_isWord 5 = .ok (.if_icmp .ne 16, 3) := by decide +kernel
theorem dX12_isWord_8 : decode cX12_isWord 8 = .ok (.aload_n 0, 1) := by decide +kernel
theorem dX12_isWord_9 : decode cX12_isWord 9 = .ok (.getfield 190, 3) := by decide +kernel
theorem dX12_isWord_12 : decode cX12_isWord 12 = .ok (.lload_n 1, 1) := by decide +kernel
theorem dX12_isWord_13 : decode cX12_isWord 13 = .ok (.lcmp, 1) := by decide +kernel
theorem dX12_isWord_14 : decode cX12_isWord 14 = .ok (.ifCond .ne 7, 3) := by decide +kernel
theorem dX12_isWord_17 : decode cX12_isWord 17 = .ok (.iconst 1, 1) := by decide +kernel
theorem dX12_isWord_18 : decode cX12_isWord 18 = .ok (.goto 4, 3) := by decide +kernel
theorem dX12_isWord_21 : decode cX12_isWord 21 = .ok (.iconst 0, 1) := by decide +kernel
theorem dX12_isWord_22 : decode cX12_isWord 22 = .ok (.ireturn, 1) := by decide +kernel
theorem dX12_isName_0 : decode cX12_isName 0 = .ok (.aload_n 0, 1) := by decide +kernel
theorem dX12_isName_1 : decode cX12_isName 1 = .ok (.getfield 197, 3) := by decide +kernel
theorem dX12_isName_4 : decode cX12_isName 4 = .ok (.iconst 1, 1) := by decide +kernel
theorem dX12_isName_5 : decode cX12_isName 5 = .ok (.if_icmp .eq 5, 3) := by decide +kernel
theorem dX12_isName_8 : decode cX12_isName 8 = .ok (.iconst 0, 1) := by decide +kernel
theorem dX12_isName_9 : decode cX12_isName 9 = .ok (.ireturn, 1) := by decide +kernel
theorem dX12_isName_10 : decode cX12_isName 10 = .ok (.aload_n 0, 1) := by decide +kernel
theorem dX12_isName_11 : decode cX12_isName 11 = .ok (.getfield 190, 3) := by decide +kernel
theorem dX12_isName_14 : decode cX12_isName 14 = .ok (.ldc2_w 216, 3) := by decide +kernel
theorem dX12_isName_17 : decode cX12_isName 17 = .ok (.lcmp, 1) := by decide +kernel
theorem dX12_isName_18 : decode cX12_isName 18 = .ok (.ifCond .eq 146, 3) := by decide +kernel
theorem dX12_isName_21 : decode cX12_isName 21 = .ok (.aload_n 0, 1) := by decide +kernel
theorem dX12_isName_22 : decode cX12_isName 22 = .ok (.getfield 190, 3) := by decide +kernel
theorem dX12_isName_25 : decode cX12_isName 25 = .ok (.ldc2_w 218, 3) := by decide +kernel
theorem dX12_isName_28 : decode cX12_isName 28 = .ok (.lcmp, 1) := by decide +kernel
theorem dX12_isName_29 : decode cX12_isName 29 = .ok (.ifCond .eq 135, 3) := by decide +kernel
theorem dX12_isName_32 : decode cX12_isName 32 = .ok (.aload_n 0, 1) := by decide +kernel
theorem dX12_isName_33 : decode cX12_isName 33 = .ok (.getfield 190, 3) := by decide +kernel
theorem dX12_isName_36 : decode cX12_isName 36 = .ok (.ldc2_w 220, 3) := by decide +kernel
theorem dX12_isName_39 : decode cX12_isName 39 = .ok (.lcmp, 1) := by decide +kernel
theorem dX12_isName_40 : decode cX12_isName 40 = .ok (.ifCond .eq 124, 3) := by decide +kernel
theorem dX12_isName_43 : decode cX12_isName 43 = .ok (.aload_n 0, 1) := by decide +kernel
theorem dX12_isName_44 : decode cX12_isName 44 = .ok (.getfield 190, 3) := by decide +kernel
theorem dX12_isName_47 : decode cX12_isName 47 = .ok (.ldc2_w 222, 3) := by decide +kernel
theorem dX12_isName_50 : decode cX12_isName 50 = .ok (.lcmp, 1) := by decide +kernel
theorem dX12_isName_51 : decode cX12_isName 51 = .ok (.ifCond .eq 113, 3) := by decide +kernel
theorem dX12_isName_54 : decode cX12_isName 54 = .ok (.aload_n 0, 1) := by decide +kernel
theorem dX12_isName_55 : decode cX12_isName 55 = .ok (.getfield 190, 3) := by decide +kernel
theorem dX12_isName_58 : decode cX12_isName 58 = .ok (.ldc2_w 224, 3) := by decide +kernel
theorem dX12_isName_61 : decode cX12_isName 61 = .ok (.lcmp, 1) := by decide +kernel
theorem dX12_isName_62 : decode cX12_isName 62 = .ok (.ifCond .eq 102, 3) := by decide +kernel
theorem dX12_isName_65 : decode cX12_isName 65 = .ok (.aload_n 0, 1) := by decide +kernel
theorem dX12_isName_66 : decode cX12_isName 66 = .ok (.getfield 190, 3) := by decide +kernel
theorem dX12_isName_69 : decode cX12_isName 69 = .ok (.ldc2_w 226, 3) := by decide +kernel
theorem dX12_isName_72 : decode cX12_isName 72 = .ok (.lcmp, 1) := by decide +kernel
theorem dX12_isName_73 : decode cX12_isName 73 = .ok (.ifCond .eq 91, 3) := by decide +kernel
theorem dX12_isName_76 : decode cX12_isName 76 = .ok (.aload_n 0, 1) := by decide +kernel
theorem dX12_isName_77 : decode cX12_isName 77 = .ok (.getfield 190, 3) := by decide +kernel
theorem dX12_isName_80 : decode cX12_isName 80 = .ok (.ldc2_w 228, 3) := by decide +kernel
theorem dX12_isName_83 : decode cX12_isName 83 = .ok (.lcmp, 1) := by decide +kernel
theorem dX12_isName_84 : decode cX12_isName 84 = .ok (.ifCond .eq 80, 3) := by decide +kernel
theorem dX12_isName_87 : decode cX12_isName 87 = .ok (.aload_n 0, 1) := by decide +kernel
theorem dX12_isName_88 : decode cX12_isName 88 = .ok (.getfield 190, 3) := by decide +kernel
theorem dX12_isName_91 : decode cX12_isName 91 = .ok (.ldc2_w 230, 3) := by decide +kernel
theorem dX12_isName_94 : decode cX12_isName 94 = .ok (.lcmp, 1) := by decide +kernel
theorem dX12_isName_95 : decode cX12_isName 95 = .ok (.ifCond .eq 69, 3) := by decide +kernel
theorem dX12_isName_98 : decode cX12_isName 98 = .ok (.aload_n 0, 1) := by decide +kernel
theorem dX12_isName_99 : decode cX12_isName 99 = .ok (.getfield 190, 3) := by decide +kernel
theorem dX12_isName_102 : decode cX12_isName 102 = .ok (.ldc2_w 232, 3) := by decide +kernel
theorem dX12_isName_105 : decode cX12_isName 105 = .ok (.lcmp, 1) := by decide +kernel
theorem dX12_isName_106 : decode cX12_isName 106 = .ok (.ifCond .eq 58, 3) := by decide +kernel
theorem dX12_isName_109 : decode cX12_isName 109 = .ok (.aload_n 0, 1) := by decide +kernel
theorem dX12_isName_110 : decode cX12_isName 110 = .ok (.getfield 190, 3) := by decide +kernel
theorem dX12_isName_113 : decode cX12_isName 113 = .ok (.ldc2_w 234, 3) := by decide +kernel
theorem dX12_isName_116 : decode cX12_isName 116 = .ok (.lcmp, 1) := by decide +kernel
theorem dX12_isName_117 : decode cX12_isName 117 = .ok (.ifCond .eq 47, 3) := by decide +kernel
theorem dX12_isName_120 : decode cX12_isName 120 = .ok (.aload_n 0, 1) := by decide +kernel
theorem dX12_isName_121 : decode cX12_isName 121 = .ok (.getfield 190, 3) := by decide +kernel
theorem dX12_isName_124 : decode cX12_isName 124 = .ok (.ldc2_w 236, 3) := by decide +kernel
theorem dX12_isName_127 : decode cX12_isName 127 = .ok (.lcmp, 1) := by decide +kernel
theorem dX12_isName_128 : decode cX12_isName 128 = .ok (.ifCond .eq 36, 3) := by decide +kernel
theorem dX12_isName_131 : decode cX12_isName 131 = .ok (.aload_n 0, 1) := by decide +kernel
theorem dX12_isName_132 : decode cX12_isName 132 = .ok (.getfield 190, 3) := by decide +kernel
theorem dX12_isName_135 : decode cX12_isName 135 = .ok (.ldc2_w 238, 3) := by decide +kernel
theorem dX12_isName_138 : decode cX12_isName 138 = .ok (.lcmp, 1) := by decide +kernel
theorem dX12_isName_139 : decode cX12_isName 139 = .ok (.ifCond .eq 25, 3) := by decide +kernel
theorem dX12_isName_142 : decode cX12_isName 142 = .ok (.aload_n 0, 1) := by decide +kernel
theorem dX12_isName_143 : decode cX12_isName 143 = .ok (.getfield 190, 3) := by decide +kernel
theorem dX12_isName_146 : decode cX12_isName 146 = .ok (.ldc2_w 240, 3) := by decide +kernel
theorem dX12_isName_149 : decode cX12_isName 149 = .ok (.lcmp, 1) := by decide +kernel
theorem dX12_isName_150 : decode cX12_isName 150 = .ok (.ifCond .eq 14, 3) := by decide +kernel
theorem dX12_isName_153 : decode cX12_isName 153 = .ok (.aload_n 0, 1) := by decide +kernel
theorem dX12_isName_154 : decode cX12_isName 154 = .ok (.getfield 190, 3) := by decide +kernel
theorem dX12_isName_157 : decode cX12_isName 157 = .ok (.ldc2_w 242, 3) := by decide +kernel
theorem dX12_isName_160 : decode cX12_isName 160 = .ok (.lcmp, 1) := by decide +kernel
theorem dX12_isName_161 : decode cX12_isName 161 = .ok (.ifCond .ne 7, 3) := by decide +kernel
theorem dX12_isName_164 : decode cX12_isName 164 = .ok (.iconst 1, 1) := by decide +kernel
theorem dX12_isName_165 : decode cX12_isName 165 = .ok (.goto 4, 3) := by decide +kernel
theorem dX12_isName_168 : decode cX12_isName 168 = .ok (.iconst 0, 1) := by decide +kernel
theorem dX12_isName_169 : decode cX12_isName 169 = .ok (.istore_n 1, 1) := by decide +kernel
theorem dX12_isName_170 : decode cX12_isName 170 = .ok (.iload_n 1, 1) := by decide +kernel
theorem dX12_isName_171 : decode cX12_isName 171 = .ok (.ifCond .ne 139, 3) := by decide +kernel
theorem dX12_isName_174 : decode cX12_isName 174 = .ok (.aload_n 0, 1) := by decide +kernel
theorem dX12_isName_175 : decode cX12_isName 175 = .ok (.getfield 190, 3) := by decide +kernel
theorem dX12_isName_178 : decode cX12_isName 178 = .ok (.ldc2_w 244, 3) := by decide +kernel
theorem dX12_isName_181 : decode cX12_isName 181 = .ok (.lcmp, 1) := by decide +kernel
theorem dX12_isName_182 : decode cX12_isName 182 = .ok (.ifCond .eq 128, 3) := by decide +kernel
theorem dX12_isName_185 : decode cX12_isName 185 = .ok (.aload_n 0, 1) := by decide +kernel
theorem dX12_isName_186 : decode cX12_isName 186 = .ok (.getfield 190, 3) := by decide +kernel
theorem dX12_isName_189 : decode cX12_isName 189 = .ok (.ldc2_w 246, 3) := by decide +kernel
theorem dX12_isName_192 : decode cX12_isName 192 = .ok (.lcmp, 1) := by decide +kernel
theorem dX12_isName_193 : decode cX12_isName 193 = .ok (.ifCond .eq 117, 3) := by decide +kernel
theorem dX12_isName_196 : decode cX12_isName 196 = .ok (.aload_n 0, 1) := by decide +kernel
theorem dX12_isName_197 : decode cX12_isName 197 = .ok (.getfield 190, 3) := by decide +kernel
theorem dX12_isName_200 : decode cX12_isName 200 = .ok (.ldc2_w 248, 3) := by decide +kernel
theorem dX12_isName_203 : decode cX12_isName 203 = .ok (.lcmp, 1) := by decide +kernel
theorem dX12_isName_204 : decode cX12_isName 204 = .ok (.ifCond .eq 106, 3) := by decide +kernel
theorem dX12_isName_207 : decode cX12_isName 207 = .ok (.aload_n 0, 1) := by decide +kernel
theorem dX12_isName_208 : decode cX12_isName 208 = .ok (.getfield 190, 3) := by decide +kernel
theorem dX12_isName_211 : decode cX12_isName 211 = .ok (.ldc2_w 250, 3) := by decide +kernel
theorem dX12_isName_214 : decode cX12_isName 214 = .ok (.lcmp, 1) := by decide +kernel
theorem dX12_isName_215 : decode cX12_isName 215 = .ok (.ifCond .eq 95, 3) := by decide +kernel
theorem dX12_isName_218 : decode cX12_isName 218 = .ok (.aload_n 0, 1) := by decide +kernel
theorem dX12_isName_219 : decode cX12_isName 219 = .ok (.getfield 190, 3) := by decide +kernel
theorem dX12_isName_222 : decode cX12_isName 222 = .ok (.ldc2_w 252, 3) := by decide +kernel
theorem dX12_isName_225 : decode cX12_isName 225 = .ok (.lcmp, 1) := by decide +kernel
theorem dX12_isName_226 : decode cX12_isName 226 = .ok (.ifCond .eq 84, 3) := by decide +kernel
theorem dX12_isName_229 : decode cX12_isName 229 = .ok (.aload_n 0, 1) := by decide +kernel
theorem dX12_isName_230 : decode cX12_isName 230 = .ok (.getfield 190, 3) := by decide +kernel
theorem dX12_isName_233 : decode cX12_isName 233 = .ok (.ldc2_w 254, 3) := by decide +kernel
theorem dX12_isName_236 : decode cX12_isName 236 = .ok (.lcmp, 1) := by decide +kernel
theorem dX12_isName_237 : decode cX12_isName 237 = .ok (.ifCond .eq 73, 3) := by decide +kernel
theorem dX12_isName_240 : decode cX12_isName 240 = .ok (.aload_n 0, 1) := by decide +kernel
theorem dX12_isName_241 : decode cX12_isName 241 = .ok (.getfield 190, 3) := by decide +kernel
theorem dX12_isName_244 : decode cX12_isName 244 = .ok (.ldc2_w 256, 3) := by decide +kernel
theorem dX12_isName_247 : decode cX12_isName 247 = .ok (.lcmp, 1) := by decide +kernel
theorem dX12_isName_248 : decode cX12_isName 248 = .ok (.ifCond .eq 62, 3) := by decide +kernel
theorem dX12_isName_251 : decode cX12_isName 251 = .ok (.aload_n 0, 1) := by decide +kernel
theorem dX12_isName_252 : decode cX12_isName 252 = .ok (.getfield 190, 3) := by decide +kernel
theorem dX12_isName_255 : decode cX12_isName 255 = .ok (.ldc2_w 258, 3) := by decide +kernel
theorem dX12_isName_258 : decode cX12_isName 258 = .ok (.lcmp, 1) := by decide +kernel
theorem dX12_isName_259 : decode cX12_isName 259 = .ok (.ifCond .eq 51, 3) := by decide +kernel
theorem dX12_isName_262 : decode cX12_isName 262 = .ok (.aload_n 0, 1) := by decide +kernel
theorem dX12_isName_263 : decode cX12_isName 263 = .ok (.getfield 190, 3) := by decide +kernel
theorem dX12_isName_266 : decode cX12_isName 266 = .ok (.ldc2_w 260, 3) := by decide +kernel
theorem dX12_isName_269 : decode cX12_isName 269 = .ok (.lcmp, 1) := by decide +kernel
theorem dX12_isName_270 : decode cX12_isName 270 = .ok (.ifCond .eq 40, 3) := by decide +kernel
theorem dX12_isName_273 : decode cX12_isName 273 = .ok (.aload_n 0, 1) := by decide +kernel
theorem dX12_isName_274 : decode cX12_isName 274 = .ok (.getfield 190, 3) := by decide +kernel
theorem dX12_isName_277 : decode cX12_isName 277 = .ok (.ldc2_w 262, 3) := by decide +kernel
theorem dX12_isName_280 : decode cX12_isName 280 = .ok (.lcmp, 1) := by decide +kernel
theorem dX12_isName_281 : decode cX12_isName 281 = .ok (.ifCond .eq 29, 3) := by decide +kernel
theorem dX12_isName_284 : decode cX12_isName 284 = .ok (.aload_n 0, 1) := by decide +kernel
theorem dX12_isName_285 : decode cX12_isName 285 = .ok (.getfield 190, 3) := by decide +kernel
theorem dX12_isName_288 : decode cX12_isName 288 = .ok (.ldc2_w 264, 3) := by decide +kernel
theorem dX12_isName_291 : decode cX12_isName 291 = .ok (.lcmp, 1) := by decide +kernel
theorem dX12_isName_292 : decode cX12_isName 292 = .ok (.ifCond .eq 18, 3) := by decide +kernel
theorem dX12_isName_295 : decode cX12_isName 295 = .ok (.aload_n 0, 1) := by decide +kernel
theorem dX12_isName_296 : decode cX12_isName 296 = .ok (.getfield 190, 3) := by decide +kernel
theorem dX12_isName_299 : decode cX12_isName 299 = .ok (.ldc2_w 266, 3) := by decide +kernel
theorem dX12_isName_302 : decode cX12_isName 302 = .ok (.lcmp, 1) := by decide +kernel
theorem dX12_isName_303 : decode cX12_isName 303 = .ok (.ifCond .eq 7, 3) := by decide +kernel
theorem dX12_isName_306 : decode cX12_isName 306 = .ok (.iconst 1, 1) := by decide +kernel
theorem dX12_isName_307 : decode cX12_isName 307 = .ok (.goto 4, 3) := by decide +kernel
theorem dX12_isName_310 : decode cX12_isName 310 = .ok (.iconst 0, 1) := by decide +kernel
theorem dX12_isName_311 : decode cX12_isName 311 = .ok (.ireturn, 1) := by decide +kernel
theorem dX12_want_0 : decode cX12_want 0 = .ok (.aload_n 0, 1) := by decide +kernel
theorem dX12_want_1 : decode cX12_want 1 = .ok (.getfield 210, 3) := by decide +kernel
theorem dX12_want_4 : decode cX12_want 4 = .ok (.ifCond .le 4, 3) := by decide +kernel
theorem dX12_want_7 : decode cX12_want 7 = .ok (.return_, 1) := by decide +kernel
theorem dX12_want_8 : decode cX12_want 8 = .ok (.aload_n 0, 1) := by decide +kernel
theorem dX12_want_9 : decode cX12_want 9 = .ok (.lload_n 1, 1) := by decide +kernel
theorem dX12_want_10 : decode cX12_want 10 = .ok (.invokevirtual 268, 3) := by decide +kernel
theorem dX12_want_13 : decode cX12_want 13 = .ok (.ifCond .ne 11, 3) := by decide +kernel
theorem dX12_want_16 : decode cX12_want 16 = .ok (.aload_n 0, 1) := by decide +kernel
theorem dX12_want_17 : decode cX12_want 17 = .ok (.iconst 2, 1) := by decide +kernel
theorem dX12_want_18 : decode cX12_want 18 = .ok (.invokevirtual 272, 3) := by decide +kernel
theorem dX12_want_21 : decode cX12_want 21 = .ok (.goto 7, 3) := by decide +kernel
theorem dX12_want_24 : decode cX12_want 24 = .ok (.aload_n 0, 1) := by decide +kernel
theorem dX12_want_25 : decode cX12_want 25 = .ok (.invokevirtual 213, 3) := by decide +kernel
theorem dX12_want_28 : decode cX12_want 28 = .ok (.return_, 1) := by decide +kernel
theorem dX12_told_0 : decode cX12_told 0 = .ok (.aload_n 0, 1) := by decide +kernel
theorem dX12_told_1 : decode cX12_told 1 = .ok (.getfield 210, 3) := by decide +kernel
theorem dX12_told_4 : decode cX12_told 4 = .ok (.ifCond .le 5, 3) := by decide +kernel
theorem dX12_told_7 : decode cX12_told 7 = .ok (.iconst 0, 1) := by decide +kernel
theorem dX12_told_8 : decode cX12_told 8 = .ok (.ireturn, 1) := by decide +kernel
theorem dX12_told_9 : decode cX12_told 9 = .ok (.aload_n 0, 1) := by decide +kernel
theorem dX12_told_10 : decode cX12_told 10 = .ok (.getfield 197, 3) := by decide +kernel
theorem dX12_told_13 : decode cX12_told 13 = .ok (.iconst 2, 1) := by decide +kernel
theorem dX12_told_14 : decode cX12_told 14 = .ok (.if_icmp .eq 11, 3) := by decide +kernel
theorem dX12_told_17 : decode cX12_told 17 = .ok (.aload_n 0, 1) := by decide +kernel
theorem dX12_told_18 : decode cX12_told 18 = .ok (.iconst 2, 1) := by decide +kernel
theorem dX12_told_19 : decode cX12_told 19 = .ok (.invokevirtual 272, 3) := by decide +kernel
theorem dX12_told_22 : decode cX12_told 22 = .ok (.goto 24, 3) := by decide +kernel
theorem dX12_told_25 : decode cX12_told 25 = .ok (.aload_n 0, 1) := by decide +kernel
theorem dX12_told_26 : decode cX12_told 26 = .ok (.getfield 194, 3) := by decide +kernel
theorem dX12_told_29 : decode cX12_told 29 = .ok (.iload_n 1, 1) := by decide +kernel
theorem dX12_told_30 : decode cX12_told 30 = .ok (.if_icmp .lt 11, 3) := by decide +kernel
theorem dX12_told_33 : decode cX12_told 33 = .ok (.aload_n 0, 1) := by decide +kernel
theorem dX12_told_34 : decode cX12_told 34 = .ok (.getfield 194, 3) := by decide +kernel
theorem dX12_told_37 : decode cX12_told 37 = .ok (.iload_n 2, 1) := by decide +kernel
theorem dX12_told_38 : decode cX12_told 38 = .ok (.if_icmp .le 8, 3) := by decide +kernel
theorem dX12_told_41 : decode cX12_told 41 = .ok (.aload_n 0, 1) := by decide +kernel
theorem dX12_told_42 : decode cX12_told 42 = .ok (.iconst 4, 1) := by decide +kernel
theorem dX12_told_43 : decode cX12_told 43 = .ok (.invokevirtual 272, 3) := by decide +kernel
theorem dX12_told_46 : decode cX12_told 46 = .ok (.aload_n 0, 1) := by decide +kernel
theorem dX12_told_47 : decode cX12_told 47 = .ok (.getfield 194, 3) := by decide +kernel
theorem dX12_told_50 : decode cX12_told 50 = .ok (.istore_n 3, 1) := by decide +kernel
theorem dX12_told_51 : decode cX12_told 51 = .ok (.aload_n 0, 1) := by decide +kernel
theorem dX12_told_52 : decode cX12_told 52 = .ok (.getfield 210, 3) := by decide +kernel
theorem dX12_told_55 : decode cX12_told 55 = .ok (.ifCond .ne 7, 3) := by decide +kernel
theorem dX12_told_58 : decode cX12_told 58 = .ok (.aload_n 0, 1) := by decide +kernel
theorem dX12_told_59 : decode cX12_told 59 = .ok (.invokevirtual 213, 3) := by decide +kernel
theorem dX12_told_62 : decode cX12_told 62 = .ok (.iload_n 3, 1) := by decide +kernel
theorem dX12_told_63 : decode cX12_told 63 = .ok (.ireturn, 1) := by decide +kernel
theorem dX12_signed_0 : decode cX12_signed 0 = .ok (.aload_n 0, 1) := by decide +kernel
theorem dX12_signed_1 : decode cX12_signed 1 = .ok (.getfield 210, 3) := by decide +kernel
theorem dX12_signed_4 : decode cX12_signed 4 = .ok (.ifCond .le 5, 3) := by decide +kernel
theorem dX12_signed_7 : decode cX12_signed 7 = .ok (.iconst 0, 1) := by decide +kernel
theorem dX12_signed_8 : decode cX12_signed 8 = .ok (.ireturn, 1) := by decide +kernel
theorem dX12_signed_9 : decode cX12_signed 9 = .ok (.aload_n 0, 1) := by decide +kernel
theorem dX12_signed_10 : decode cX12_signed 10 = .ok (.getfield 187, 3) := by decide +kernel
theorem dX12_signed_13 : decode cX12_signed 13 = .ok (.istore_n 3, 1) := by decide +kernel
theorem dX12_signed_14 : decode cX12_signed 14 = .ok (.aload_n 0, 1) := by decide +kernel
theorem dX12_signed_15 : decode cX12_signed 15 = .ok (.getfield 197, 3) := by decide +kernel
theorem dX12_signed_18 : decode cX12_signed 18 = .ok (.bipush 45, 2) := by decide +kernel
theorem dX12_signed_20 : decode cX12_signed 20 = .ok (.if_icmp .ne 7, 3) := by decide +kernel
theorem dX12_signed_23 : decode cX12_signed 23 = .ok (.iconst 1, 1) := by decide +kernel
theorem dX12_signed_24 : decode cX12_signed 24 = .ok (.goto 4, 3) := by decide +kernel
theorem dX12_signed_27 : decode cX12_signed 27 = .ok (.iconst 0, 1) := by decide +kernel
theorem dX12_signed_28 : decode cX12_signed 28 = .ok (.istore 4, 2) := by decide +kernel
theorem dX12_signed_30 : decode cX12_signed 30 = .ok (.iload 4, 2) := by decide +kernel
theorem dX12_signed_32 : decode cX12_signed 32 = .ok (.ifCond .eq 7, 3) := by decide +kernel
theorem dX12_signed_35 : decode cX12_signed 35 = .ok (.aload_n 0, 1) := by decide +kernel
theorem dX12_signed_36 : decode cX12_signed 36 = .ok (.invokevirtual 213, 3) := by decide +kernel
theorem dX12_signed_39 : decode cX12_signed 39 = .ok (.aload_n 0, 1) := by decide +kernel
theorem dX12_signed_40 : decode cX12_signed 40 = .ok (.getfield 197, 3) := by decide +kernel
theorem dX12_signed_43 : decode cX12_signed 43 = .ok (.iconst 2, 1) := by decide +kernel
theorem dX12_signed_44 : decode cX12_signed 44 = .ok (.if_icmp .eq 10, 3) := by decide +kernel
theorem dX12_signed_47 : decode cX12_signed 47 = .ok (.aload_n 0, 1) := by decide +kernel
theorem dX12_signed_48 : decode cX12_signed 48 = .ok (.iconst 2, 1) := by decide +kernel
theorem dX12_signed_49 : decode cX12_signed 49 = .ok (.invokevirtual 272, 3) := by decide +kernel
theorem dX12_signed_52 : decode cX12_signed 52 = .ok (.iconst 0, 1) := by decide +kernel
theorem dX12_signed_53 : decode cX12_signed 53 = .ok (.ireturn, 1) := by decide +kernel
theorem dX12_signed_54 : decode cX12_signed 54 = .ok (.iload 4, 2) := by decide +kernel
theorem dX12_signed_56 : decode cX12_signed 56 = .ok (.ifCond .eq 11, 3) := by decide +kernel
theorem dX12_signed_59 : decode cX12_signed 59 = .ok (.aload_n 0, 1) := by decide +kernel
theorem dX12_signed_60 : decode cX12_signed 60 = .ok (.getfield 194, 3) := by decide +kernel
theorem dX12_signed_63 : decode cX12_signed 63 = .ok (.ineg, 1) := by decide +kernel
theorem dX12_signed_64 : decode cX12_signed 64 = .ok (.goto 7, 3) := by decide +kernel
theorem dX12_signed_67 : decode cX12_signed 67 = .ok (.aload_n 0, 1) := by decide +kernel
theorem dX12_signed_68 : decode cX12_signed 68 = .ok (.getfield 194, 3) := by decide +kernel
theorem dX12_signed_71 : decode cX12_signed 71 = .ok (.istore 5, 2) := by decide +kernel
theorem dX12_signed_73 : decode cX12_signed 73 = .ok (.iload 5, 2) := by decide +kernel
theorem dX12_signed_75 : decode cX12_signed 75 = .ok (.iload_n 1, 1) := by decide +kernel
theorem dX12_signed_76 : decode cX12_signed 76 = .ok (.if_icmp .lt 9, 3) := by decide +kernel
theorem dX12_signed_79 : decode cX12_signed 79 = .ok (.iload 5, 2) := by decide +kernel
theorem dX12_signed_81 : decode cX12_signed 81 = .ok (.iload_n 2, 1) := by decide +kernel
theorem dX12_signed_82 : decode cX12_signed 82 = .ok (.if_icmp .le 16, 3) := by decide +kernel
theorem dX12_signed_85 : decode cX12_signed 85 = .ok (.aload_n 0, 1) := by decide +kernel
theorem dX12_signed_86 : decode cX12_signed 86 = .ok (.iconst 4, 1) := by decide +kernel
theorem dX12_signed_87 : decode cX12_signed 87 = .ok (.putfield 210, 3) := by decide +kernel
theorem dX12_signed_90 : decode cX12_signed 90 = .ok (.aload_n 0, 1) := by decide +kernel
theorem dX12_signed_91 : decode cX12_signed 91 = .ok (.iload_n 3, 1) := by decide +kernel
theorem dX12_signed_92 : decode cX12_signed 92 = .ok (.putfield 13, 3) := by decide +kernel
theorem dX12_signed_95 : decode cX12_signed 95 = .ok (.goto 7, 3) := by decide +kernel
theorem dX12_signed_98 : decode cX12_signed 98 = .ok (.aload_n 0, 1) := by decide +kernel
theorem dX12_signed_99 : decode cX12_signed 99 = .ok (.invokevirtual 213, 3) := by decide +kernel
theorem dX12_signed_102 : decode cX12_signed 102 = .ok (.iload 5, 2) := by decide +kernel
theorem dX12_signed_104 : decode cX12_signed 104 = .ok (.ireturn, 1) := by decide +kernel
theorem dX12_boxOf_0 : decode cX12_boxOf 0 = .ok (.iconst (-1), 1) := by decide +kernel
theorem dX12_boxOf_1 : decode cX12_boxOf 1 = .ok (.istore_n 3, 1) := by decide +kernel
theorem dX12_boxOf_2 : decode cX12_boxOf 2 = .ok (.iconst 0, 1) := by decide +kernel
theorem dX12_boxOf_3 : decode cX12_boxOf 3 = .ok (.istore 4, 2) := by decide +kernel
theorem dX12_boxOf_5 : decode cX12_boxOf 5 = .ok (.iload 4, 2) := by decide +kernel
theorem dX12_boxOf_7 : decode cX12_boxOf 7 = .ok (.aload_n 0, 1) := by decide +kernel
theorem dX12_boxOf_8 : decode cX12_boxOf 8 = .ok (.getfield 275, 3) := by decide +kernel
theorem dX12_boxOf_11 : decode cX12_boxOf 11 = .ok (.if_icmp .ge 28, 3) := by decide +kernel
theorem dX12_boxOf_14 : decode cX12_boxOf 14 = .ok (.aload_n 0, 1) := by decide +kernel
theorem dX12_boxOf_15 : decode cX12_boxOf 15 = .ok (.getfield 17, 3) := by decide +kernel
theorem dX12_boxOf_18 : decode cX12_boxOf 18 = .ok (.iload 4, 2) := by decide +kernel
theorem dX12_boxOf_20 : decode cX12_boxOf 20 = .ok (.laload, 1) := by decide +kernel
theorem dX12_boxOf_21 : decode cX12_boxOf 21 = .ok (.lload_n 1, 1) := by decide +kernel
theorem dX12_boxOf_22 : decode cX12_boxOf 22 = .ok (.lcmp, 1) := by decide +kernel
theorem dX12_boxOf_23 : decode cX12_boxOf 23 = .ok (.ifCond .ne 8, 3) := by decide +kernel
theorem dX12_boxOf_26 : decode cX12_boxOf 26 = .ok (.iload 4, 2) := by decide +kernel
theorem dX12_boxOf_28 : decode cX12_boxOf 28 = .ok (.goto 4, 3) := by decide +kernel
theorem dX12_boxOf_31 : decode cX12_boxOf 31 = .ok (.iload_n 3, 1) := by decide +kernel
theorem dX12_boxOf_32 : decode cX12_boxOf 32 = .ok (.istore_n 3, 1) := by decide +kernel
theorem dX12_boxOf_33 : decode cX12_boxOf 33 = .ok (.iinc 4 1, 3) := by decide +kernel
theorem dX12_boxOf_36 : decode cX12_boxOf 36 = .ok (.goto (-31), 3) := by decide +kernel
theorem dX12_boxOf_39 : decode cX12_boxOf 39 = .ok (.iload_n 3, 1) := by decide +kernel
theorem dX12_boxOf_40 : decode cX12_boxOf 40 = .ok (.ireturn, 1) := by decide +kernel
theorem dX12_readRange_0 : decode cX12_readRange 0 = .ok (.aload_n 0, 1) := by decide +kernel
theorem dX12_readRange_1 : decode cX12_readRange 1 = .ok (.lload_n 3, 1) := by decide +kernel
theorem dX12_readRange_2 : decode cX12_readRange 2 = .ok (.invokevirtual 278, 3) := by decide +kernel
theorem dX12_readRange_5 : decode cX12_readRange 5 = .ok (.iload 7, 2) := by decide +kernel
theorem dX12_readRange_7 : decode cX12_readRange 7 = .ok (.ifCond .eq 14, 3) := by decide +kernel
theorem dX12_readRange_10 : decode cX12_readRange 10 = .ok (.aload_n 0, 1) := by decide +kernel
theorem dX12_readRange_11 : decode cX12_readRange 11 = .ok (.iload 5, 2) := by decide +kernel
theorem dX12_readRange_13 : decode cX12_readRange 13 = .ok (.iload 6, 2) := by decide +kernel
theorem dX12_readRange_15 : decode cX12_readRange 15 = .ok (.invokevirtual 282, 3) := by decide +kernel
theorem dX12_readRange_18 : decode cX12_readRange 18 = .ok (.goto 11, 3) := by decide +kernel
theorem dX12_readRange_21 : decode cX12_readRange 21 = .ok (.aload_n 0, 1) := by decide +kernel
theorem dX12_readRange_22 : decode cX12_readRange 22 = .ok (.iload 5, 2) := by decide +kernel
theorem dX12_readRange_24 : decode cX12_readRange 24 = .ok (.iload 6, 2) := by decide +kernel
theorem dX12_readRange_26 : decode cX12_readRange 26 = .ok (.invokevirtual 286, 3) := by decide +kernel
theorem dX12_readRange_29 : decode cX12_readRange 29 = .ok (.istore 8, 2) := by decide +kernel
theorem dX12_readRange_31 : decode cX12_readRange 31 = .ok (.aload_n 0, 1) := by decide +kernel
theorem dX12_readRange_32 : decode cX12_readRange 32 = .ok (.ldc2_w 228, 3) := by decide +kernel
theorem dX12_readRange_35 : decode cX12_readRange 35 = .ok (.invokevirtual 278, 3) := by decide +kernel
theorem dX12_readRange_38 : decode cX12_readRange 38 = .ok (.iload 7, 2) := by decide +kernel
theorem dX12_readRange_40 : decode cX12_readRange 40 = .ok (.ifCond .eq 14, 3) := by decide +kernel
theorem dX12_readRange_43 : decode cX12_readRange 43 = .ok (.aload_n 0, 1) := by decide +kernel
theorem dX12_readRange_44 : decode cX12_readRange 44 = .ok (.iload 8, 2) := by decide +kernel
theorem dX12_readRange_46 : decode cX12_readRange 46 = .ok (.iload 6, 2) := by decide +kernel
theorem dX12_readRange_48 : decode cX12_readRange 48 = .ok (.invokevirtual 282, 3) := by decide +kernel
theorem dX12_readRange_51 : decode cX12_readRange 51 = .ok (.goto 11, 3) := by decide +kernel
theorem dX12_readRange_54 : decode cX12_readRange 54 = .ok (.aload_n 0, 1) := by decide +kernel
theorem dX12_readRange_55 : decode cX12_readRange 55 = .ok (.iload 8, 2) := by decide +kernel
theorem dX12_readRange_57 : decode cX12_readRange 57 = .ok (.iload 6, 2) := by decide +kernel
theorem dX12_readRange_59 : decode cX12_readRange 59 = .ok (.invokevirtual 286, 3) := by decide +kernel
theorem dX12_readRange_62 : decode cX12_readRange 62 = .ok (.istore 9, 2) := by decide +kernel
theorem dX12_readRange_64 : decode cX12_readRange 64 = .ok (.aload_n 0, 1) := by decide +kernel
theorem dX12_readRange_65 : decode cX12_readRange 65 = .ok (.getfield 27, 3) := by decide +kernel
theorem dX12_readRange_68 : decode cX12_readRange 68 = .ok (.bipush 8, 2) := by decide +kernel
theorem dX12_readRange_70 : decode cX12_readRange 70 = .ok (.iload_n 1, 1) := by decide +kernel
theorem dX12_readRange_71 : decode cX12_readRange 71 = .ok (.imul, 1) := by decide +kernel
theorem dX12_readRange_72 : decode cX12_readRange 72 = .ok (.iconst 2, 1) := by decide +kernel
theorem dX12_readRange_73 : decode cX12_readRange 73 = .ok (.iload_n 2, 1) := by decide +kernel
theorem dX12_readRange_74 : decode cX12_readRange 74 = .ok (.imul, 1) := by decide +kernel
theorem dX12_readRange_75 : decode cX12_readRange 75 = .ok (.iadd, 1) := by decide +kernel
theorem dX12_readRange_76 : decode cX12_readRange 76 = .ok (.iload 8, 2) := by decide +kernel
theorem dX12_readRange_78 : decode cX12_readRange 78 = .ok (.iastore, 1) := by decide +kernel
theorem dX12_readRange_79 : decode cX12_readRange 79 = .ok (.aload_n 0, 1) := by decide +kernel
theorem dX12_readRange_80 : decode cX12_readRange 80 = .ok (.getfield 27, 3) := by decide +kernel
theorem dX12_readRange_83 : decode cX12_readRange 83 = .ok (.bipush 8, 2) := by decide +kernel
theorem dX12_readRange_85 : decode cX12_readRange 85 = .ok (.iload_n 1, 1) := by decide +kernel
theorem dX12_readRange_86 : decode cX12_readRange 86 = .ok (.imul, 1) := by decide +kernel
theorem dX12_readRange_87 : decode cX12_readRange 87 = .ok (.iconst 2, 1) := by decide +kernel
theorem dX12_readRange_88 : decode cX12_readRange 88 = .ok (.iload_n 2, 1) := by decide +kernel
theorem dX12_readRange_89 : decode cX12_readRange 89 = .ok (.imul, 1) := by decide +kernel
theorem dX12_readRange_90 : decode cX12_readRange 90 = .ok (.iadd, 1) := by decide +kernel
theorem dX12_readRange_91 : decode cX12_readRange 91 = .ok (.iconst 1, 1) := by decide +kernel
theorem dX12_readRange_92 : decode cX12_readRange 92 = .ok (.iadd, 1) := by decide +kernel
theorem dX12_readRange_93 : decode cX12_readRange 93 = .ok (.iload 9, 2) := by decide +kernel
theorem dX12_readRange_95 : decode cX12_readRange 95 = .ok (.iastore, 1) := by decide +kernel
theorem dX12_readRange_96 : decode cX12_readRange 96 = .ok (.return_, 1) := by decide +kernel
theorem dX12_readBox_0 : decode cX12_readBox 0 = .ok (.aload_n 0, 1) := by decide +kernel
theorem dX12_readBox_1 : decode cX12_readBox 1 = .ok (.invokevirtual 213, 3) := by decide +kernel
theorem dX12_readBox_4 : decode cX12_readBox 4 = .ok (.aload_n 0, 1) := by decide +kernel
theorem dX12_readBox_5 : decode cX12_readBox 5 = .ok (.getfield 275, 3) := by decide +kernel
theorem dX12_readBox_8 : decode cX12_readBox 8 = .ok (.istore_n 1, 1) := by decide +kernel
theorem dX12_readBox_9 : decode cX12_readBox 9 = .ok (.aload_n 0, 1) := by decide +kernel
theorem dX12_readBox_10 : decode cX12_readBox 10 = .ok (.invokevirtual 289, 3) := by decide +kernel
theorem dX12_readBox_13 : decode cX12_readBox 13 = .ok (.ifCond .ne 11, 3) := by decide +kernel
theorem dX12_readBox_16 : decode cX12_readBox 16 = .ok (.aload_n 0, 1) := by decide +kernel
theorem dX12_readBox_17 : decode cX12_readBox 17 = .ok (.iconst 2, 1) := by decide +kernel
theorem dX12_readBox_18 : decode cX12_readBox 18 = .ok (.invokevirtual 272, 3) := by decide +kernel
theorem dX12_readBox_21 : decode cX12_readBox 21 = .ok (.goto 19, 3) := by decide +kernel
theorem dX12_readBox_24 : decode cX12_readBox 24 = .ok (.aload_n 0, 1) := by decide +kernel
theorem dX12_readBox_25 : decode cX12_readBox 25 = .ok (.aload_n 0, 1) := by decide +kernel
theorem dX12_readBox_26 : decode cX12_readBox 26 = .ok (.getfield 190, 3) := by decide +kernel
theorem dX12_readBox_29 : decode cX12_readBox 29 = .ok (.invokevirtual 293, 3) := by decide +kernel
theorem dX12_readBox_32 : decode cX12_readBox 32 = .ok (.ifCond .lt 8, 3) := by decide +kernel
theorem dX12_readBox_35 : decode cX12_readBox 35 = .ok (.aload_n 0, 1) := by decide +kernel
theorem dX12_readBox_36 : decode cX12_readBox 36 = .ok (.iconst 3, 1) := by decide +kernel
theorem dX12_readBox_37 : decode cX12_readBox 37 = .ok (.invokevirtual 272, 3) := by decide +kernel
theorem dX12_readBox_40 : decode cX12_readBox 40 = .ok (.aload_n 0, 1) := by decide +kernel
theorem dX12_readBox_41 : decode cX12_readBox 41 = .ok (.getfield 17, 3) := by decide +kernel
theorem dX12_readBox_44 : decode cX12_readBox 44 = .ok (.iload_n 1, 1) := by decide +kernel
theorem dX12_readBox_45 : decode cX12_readBox 45 = .ok (.aload_n 0, 1) := by decide +kernel
theorem dX12_readBox_46 : decode cX12_readBox 46 = .ok (.getfield 190, 3) := by decide +kernel
theorem dX12_readBox_49 : decode cX12_readBox 49 = .ok (.lastore, 1) := by decide +kernel
theorem dX12_readBox_50 : decode cX12_readBox 50 = .ok (.aload_n 0, 1) := by decide +kernel
theorem dX12_readBox_51 : decode cX12_readBox 51 = .ok (.getfield 210, 3) := by decide +kernel
theorem dX12_readBox_54 : decode cX12_readBox 54 = .ok (.ifCond .le 4, 3) := by decide +kernel
theorem dX12_readBox_57 : decode cX12_readBox 57 = .ok (.return_, 1) := by decide +kernel
theorem dX12_readBox_58 : decode cX12_readBox 58 = .ok (.aload_n 0, 1) := by decide +kernel
theorem dX12_readBox_59 : decode cX12_readBox 59 = .ok (.invokevirtual 213, 3) := by decide +kernel
theorem dX12_readBox_62 : decode cX12_readBox 62 = .ok (.aload_n 0, 1) := by decide +kernel
theorem dX12_readBox_63 : decode cX12_readBox 63 = .ok (.getfield 24, 3) := by decide +kernel
theorem dX12_readBox_66 : decode cX12_readBox 66 = .ok (.iload_n 1, 1) := by decide +kernel
theorem dX12_readBox_67 : decode cX12_readBox 67 = .ok (.aload_n 0, 1) := by decide +kernel
theorem dX12_readBox_68 : decode cX12_readBox 68 = .ok (.ldc2_w 218, 3) := by decide +kernel
theorem dX12_readBox_71 : decode cX12_readBox 71 = .ok (.invokevirtual 268, 3) := by decide +kernel
theorem dX12_readBox_74 : decode cX12_readBox 74 = .ok (.ifCond .eq 7, 3) := by decide +kernel
theorem dX12_readBox_77 : decode cX12_readBox 77 = .ok (.iconst 0, 1) := by decide +kernel
theorem dX12_readBox_78 : decode cX12_readBox 78 = .ok (.goto 46, 3) := by decide +kernel
theorem dX12_readBox_81 : decode cX12_readBox 81 = .ok (.aload_n 0, 1) := by decide +kernel
theorem dX12_readBox_82 : decode cX12_readBox 82 = .ok (.ldc2_w 220, 3) := by decide +kernel
theorem dX12_readBox_85 : decode cX12_readBox 85 = .ok (.invokevirtual 268, 3) := by decide +kernel
theorem dX12_readBox_88 : decode cX12_readBox 88 = .ok (.ifCond .eq 7, 3) := by decide +kernel
theorem dX12_readBox_91 : decode cX12_readBox 91 = .ok (.iconst 1, 1) := by decide +kernel
theorem dX12_readBox_92 : decode cX12_readBox 92 = .ok (.goto 32, 3) := by decide +kernel
theorem dX12_readBox_95 : decode cX12_readBox 95 = .ok (.aload_n 0, 1) := by decide +kernel
theorem dX12_readBox_96 : decode cX12_readBox 96 = .ok (.ldc2_w 222, 3) := by decide +kernel
theorem dX12_readBox_99 : decode cX12_readBox 99 = .ok (.invokevirtual 268, 3) := by decide +kernel
theorem dX12_readBox_102 : decode cX12_readBox 102 = .ok (.ifCond .eq 7, 3) := by decide +kernel
theorem dX12_readBox_105 : decode cX12_readBox 105 = .ok (.iconst 2, 1) := by decide +kernel
theorem dX12_readBox_106 : decode cX12_readBox 106 = .ok (.goto 18, 3) := by decide +kernel
theorem dX12_readBox_109 : decode cX12_readBox 109 = .ok (.aload_n 0, 1) := by decide +kernel
theorem dX12_readBox_110 : decode cX12_readBox 110 = .ok (.ldc2_w 224, 3) := by decide +kernel
theorem dX12_readBox_113 : decode cX12_readBox 113 = .ok (.invokevirtual 268, 3) := by decide +kernel
theorem dX12_readBox_116 : decode cX12_readBox 116 = .ok (.ifCond .eq 7, 3) := by decide +kernel
theorem dX12_readBox_119 : decode cX12_readBox 119 = .ok (.iconst 3, 1) := by decide +kernel
theorem dX12_readBox_120 : decode cX12_readBox 120 = .ok (.goto 4, 3) := by decide +kernel
theorem dX12_readBox_123 : decode cX12_readBox 123 = .ok (.iconst (-1), 1) := by decide +kernel
theorem dX12_readBox_124 : decode cX12_readBox 124 = .ok (.iastore, 1) := by decide +kernel
theorem dX12_readBox_125 : decode cX12_readBox 125 = .ok (.aload_n 0, 1) := by decide +kernel
theorem dX12_readBox_126 : decode cX12_readBox 126 = .ok (.getfield 24, 3) := by decide +kernel
theorem dX12_readBox_129 : decode cX12_readBox 129 = .ok (.iload_n 1, 1) := by decide +kernel
theorem dX12_readBox_130 : decode cX12_readBox 130 = .ok (.iaload, 1) := by decide +kernel
theorem dX12_readBox_131 : decode cX12_readBox 131 = .ok (.ifCond .ge 8, 3) := by decide +kernel
theorem dX12_readBox_134 : decode cX12_readBox 134 = .ok (.aload_n 0, 1) := by decide +kernel
theorem dX12_readBox_135 : decode cX12_readBox 135 = .ok (.iconst 2, 1) := by decide +kernel
theorem dX12_readBox_136 : decode cX12_readBox 136 = .ok (.invokevirtual 272, 3) := by decide +kernel
theorem dX12_readBox_139 : decode cX12_readBox 139 = .ok (.aload_n 0, 1) := by decide +kernel
theorem dX12_readBox_140 : decode cX12_readBox 140 = .ok (.getfield 210, 3) := by decide +kernel
theorem dX12_readBox_143 : decode cX12_readBox 143 = .ok (.ifCond .le 4, 3) := by decide +kernel
theorem dX12_readBox_146 : decode cX12_readBox 146 = .ok (.return_, 1) := by decide +kernel
theorem dX12_readBox_147 : decode cX12_readBox 147 = .ok (.aload_n 0, 1) := by decide +kernel
theorem dX12_readBox_148 : decode cX12_readBox 148 = .ok (.invokevirtual 213, 3) := by decide +kernel
theorem dX12_readBox_151 : decode cX12_readBox 151 = .ok (.aload_n 0, 1) := by decide +kernel
theorem dX12_readBox_152 : decode cX12_readBox 152 = .ok (.iload_n 1, 1) := by decide +kernel
theorem dX12_readBox_153 : decode cX12_readBox 153 = .ok (.iconst 0, 1) := by decide +kernel
theorem dX12_readBox_154 : decode cX12_readBox 154 = .ok (.ldc2_w 226, 3) := by decide +kernel
theorem dX12_readBox_157 : decode cX12_readBox 157 = .ok (.bipush (-5), 2) := by decide +kernel
theorem dX12_readBox_159 : decode cX12_readBox 159 = .ok (.iconst 5, 1) := by decide +kernel
theorem dX12_readBox_160 : decode cX12_readBox 160 = .ok (.iconst 1, 1) := by decide +kernel
theorem dX12_readBox_161 : decode cX12_readBox 161 = .ok (.invokevirtual 297, 3) := by decide +kernel
theorem dX12_readBox_164 : decode cX12_readBox 164 = .ok (.aload_n 0, 1) := by decide +kernel
theorem dX12_readBox_165 : decode cX12_readBox 165 = .ok (.iload_n 1, 1) := by decide +kernel
theorem dX12_readBox_166 : decode cX12_readBox 166 = .ok (.iconst 1, 1) := by decide +kernel
theorem dX12_readBox_167 : decode cX12_readBox 167 = .ok (.ldc2_w 230, 3) := by decide +kernel
theorem dX12_readBox_170 : decode cX12_readBox 170 = .ok (.aload_n 0, 1) := by decide +kernel
theorem dX12_readBox_171 : decode cX12_readBox 171 = .ok (.getfield 24, 3) := by decide +kernel
theorem dX12_readBox_174 : decode cX12_readBox 174 = .ok (.iload_n 1, 1) := by decide +kernel
theorem dX12_readBox_175 : decode cX12_readBox 175 = .ok (.iaload, 1) := by decide +kernel
theorem dX12_readBox_176 : decode cX12_readBox 176 = .ok (.iconst 3, 1) := by decide +kernel
theorem dX12_readBox_177 : decode cX12_readBox 177 = .ok (.if_icmp .ne 8, 3) := by decide +kernel
theorem dX12_readBox_180 : decode cX12_readBox 180 = .ok (.bipush 10, 2) := by decide +kernel
theorem dX12_readBox_182 : decode cX12_readBox 182 = .ok (.goto 5, 3) := by decide +kernel
theorem dX12_readBox_185 : decode cX12_readBox 185 = .ok (.bipush 8, 2) := by decide +kernel
theorem dX12_readBox_187 : decode cX12_readBox 187 = .ok (.aload_n 0, 1) := by decide +kernel
theorem dX12_readBox_188 : decode cX12_readBox 188 = .ok (.getfield 24, 3) := by decide +kernel
theorem dX12_readBox_191 : decode cX12_readBox 191 = .ok (.iload_n 1, 1) := by decide +kernel
theorem dX12_readBox_192 : decode cX12_readBox 192 = .ok (.iaload, 1) := by decide +kernel
theorem dX12_readBox_193 : decode cX12_readBox 193 = .ok (.iconst 3, 1) := by decide +kernel
theorem dX12_readBox_194 : decode cX12_readBox 194 = .ok (.if_icmp .ne 8, 3) := by decide +kernel
theorem dX12_readBox_197 : decode cX12_readBox 197 = .ok (.bipush 10, 2) := by decide +kernel
theorem dX12_readBox_199 : decode cX12_readBox 199 = .ok (.goto 5, 3) := by decide +kernel
theorem dX12_readBox_202 : decode cX12_readBox 202 = .ok (.bipush 12, 2) := by decide +kernel
theorem dX12_readBox_204 : decode cX12_readBox 204 = .ok (.iconst 0, 1) := by decide +kernel
theorem dX12_readBox_205 : decode cX12_readBox 205 = .ok (.invokevirtual 297, 3) := by decide +kernel
theorem dX12_readBox_208 : decode cX12_readBox 208 = .ok (.aload_n 0, 1) := by decide +kernel
theorem dX12_readBox_209 : decode cX12_readBox 209 = .ok (.iload_n 1, 1) := by decide +kernel
theorem dX12_readBox_210 : decode cX12_readBox 210 = .ok (.iconst 2, 1) := by decide +kernel
theorem dX12_readBox_211 : decode cX12_readBox 211 = .ok (.ldc2_w 232, 3) := by decide +kernel
theorem dX12_readBox_214 : decode cX12_readBox 214 = .ok (.iconst 0, 1) := by decide +kernel
theorem dX12_readBox_215 : decode cX12_readBox 215 = .ok (.iconst 2, 1) := by decide +kernel
theorem dX12_readBox_216 : decode cX12_readBox 216 = .ok (.iconst 0, 1) := by decide +kernel
theorem dX12_readBox_217 : decode cX12_readBox 217 = .ok (.invokevirtual 297, 3) := by decide +kernel
theorem dX12_readBox_220 : decode cX12_readBox 220 = .ok (.aload_n 0, 1) := by decide +kernel
theorem dX12_readBox_221 : decode cX12_readBox 221 = .ok (.iload_n 1, 1) := by decide +kernel
theorem dX12_readBox_222 : decode cX12_readBox 222 = .ok (.iconst 3, 1) := by decide +kernel
theorem dX12_readBox_223 : decode cX12_readBox 223 = .ok (.ldc2_w 234, 3) := by decide +kernel
theorem dX12_readBox_226 : decode cX12_readBox 226 = .ok (.iconst 0, 1) := by decide +kernel
theorem dX12_readBox_227 : decode cX12_readBox 227 = .ok (.iconst 3, 1) := by decide +kernel
theorem dX12_readBox_228 : decode cX12_readBox 228 = .ok (.iconst 0, 1) := by decide +kernel
theorem dX12_readBox_229 : decode cX12_readBox 229 = .ok (.invokevirtual 297, 3) := by decide +kernel
theorem dX12_readBox_232 : decode cX12_readBox 232 = .ok (.aload_n 0, 1) := by decide +kernel
theorem dX12_readBox_233 : decode cX12_readBox 233 = .ok (.ldc2_w 236, 3) := by decide +kernel
theorem dX12_readBox_236 : decode cX12_readBox 236 = .ok (.invokevirtual 278, 3) := by decide +kernel
theorem dX12_readBox_239 : decode cX12_readBox 239 = .ok (.aload_n 0, 1) := by decide +kernel
theorem dX12_readBox_240 : decode cX12_readBox 240 = .ok (.getfield 30, 3) := by decide +kernel
theorem dX12_readBox_243 : decode cX12_readBox 243 = .ok (.iload_n 1, 1) := by decide +kernel
theorem dX12_readBox_244 : decode cX12_readBox 244 = .ok (.aload_n 0, 1) := by decide +kernel
theorem dX12_readBox_245 : decode cX12_readBox 245 = .ok (.iconst 0, 1) := by decide +kernel
theorem dX12_readBox_246 : decode cX12_readBox 246 = .ok (.bipush 9, 2) := by decide +kernel
theorem dX12_readBox_248 : decode cX12_readBox 248 = .ok (.invokevirtual 286, 3) := by decide +kernel
theorem dX12_readBox_251 : decode cX12_readBox 251 = .ok (.iastore, 1) := by decide +kernel
theorem dX12_readBox_252 : decode cX12_readBox 252 = .ok (.aload_n 0, 1) := by decide +kernel
theorem dX12_readBox_253 : decode cX12_readBox 253 = .ok (.getfield 210, 3) := by decide +kernel
theorem dX12_readBox_256 : decode cX12_readBox 256 = .ok (.ifCond .ne 13, 3) := by decide +kernel
theorem dX12_readBox_259 : decode cX12_readBox 259 = .ok (.aload_n 0, 1) := by decide +kernel
theorem dX12_readBox_260 : decode cX12_readBox 260 = .ok (.dup, 1) := by decide +kernel
theorem dX12_readBox_261 : decode cX12_readBox 261 = .ok (.getfield 275, 3) := by decide +kernel
theorem dX12_readBox_264 : decode cX12_readBox 264 = .ok (.iconst 1, 1) := by decide +kernel
theorem dX12_readBox_265 : decode cX12_readBox 265 = .ok (.iadd, 1) := by decide +kernel
theorem dX12_readBox_266 : decode cX12_readBox 266 = .ok (.putfield 275, 3) := by decide +kernel
theorem dX12_readBox_269 : decode cX12_readBox 269 = .ok (.return_, 1) := by decide +kernel
theorem dX12_oldBox_0 : decode cX12_oldBox 0 = .ok (.aload_n 0, 1) := by decide +kernel
theorem dX12_oldBox_1 : decode cX12_oldBox 1 = .ok (.invokevirtual 213, 3) := by decide +kernel
theorem dX12_oldBox_4 : decode cX12_oldBox 4 = .ok (.aload_n 0, 1) := by decide +kernel
theorem dX12_oldBox_5 : decode cX12_oldBox 5 = .ok (.aload_n 0, 1) := by decide +kernel
theorem dX12_oldBox_6 : decode cX12_oldBox 6 = .ok (.getfield 190, 3) := by decide +kernel
theorem dX12_oldBox_9 : decode cX12_oldBox 9 = .ok (.invokevirtual 293, 3) := by decide +kernel
theorem dX12_oldBox_12 : decode cX12_oldBox 12 = .ok (.istore_n 1, 1) := by decide +kernel
theorem dX12_oldBox_13 : decode cX12_oldBox 13 = .ok (.aload_n 0, 1) := by decide +kernel
theorem dX12_oldBox_14 : decode cX12_oldBox 14 = .ok (.invokevirtual 289, 3) := by decide +kernel
theorem dX12_oldBox_17 : decode cX12_oldBox 17 = .ok (.ifCond .ne 11, 3) := by decide +kernel
theorem dX12_oldBox_20 : decode cX12_oldBox 20 = .ok (.aload_n 0, 1) := by decide +kernel
theorem dX12_oldBox_21 : decode cX12_oldBox 21 = .ok (.iconst 2, 1) := by decide +kernel
theorem dX12_oldBox_22 : decode cX12_oldBox 22 = .ok (.invokevirtual 272, 3) := by decide +kernel
theorem dX12_oldBox_25 : decode cX12_oldBox 25 = .ok (.goto 12, 3) := by decide +kernel
theorem dX12_oldBox_28 : decode cX12_oldBox 28 = .ok (.iload_n 1, 1) := by decide +kernel
theorem dX12_oldBox_29 : decode cX12_oldBox 29 = .ok (.ifCond .ge 8, 3) := by decide +kernel
theorem dX12_oldBox_32 : decode cX12_oldBox 32 = .ok (.aload_n 0, 1) := by decide +kernel
theorem dX12_oldBox_33 : decode cX12_oldBox 33 = .ok (.iconst 5, 1) := by decide +kernel
theorem dX12_oldBox_34 : decode cX12_oldBox 34 = .ok (.invokevirtual 272, 3) := by decide +kernel
theorem dX12_oldBox_37 : decode cX12_oldBox 37 = .ok (.aload_n 0, 1) := by decide +kernel
theorem dX12_oldBox_38 : decode cX12_oldBox 38 = .ok (.getfield 210, 3) := by decide +kernel
theorem dX12_oldBox_41 : decode cX12_oldBox 41 = .ok (.ifCond .ne 7, 3) := by decide +kernel
theorem dX12_oldBox_44 : decode cX12_oldBox 44 = .ok (.aload_n 0, 1) := by decide +kernel
theorem dX12_oldBox_45 : decode cX12_oldBox 45 = .ok (.invokevirtual 213, 3) := by decide +kernel
theorem dX12_oldBox_48 : decode cX12_oldBox 48 = .ok (.iload_n 1, 1) := by decide +kernel
theorem dX12_oldBox_49 : decode cX12_oldBox 49 = .ok (.ireturn, 1) := by decide +kernel
theorem dX12_readOther_0 : decode cX12_readOther 0 = .ok (.aload_n 0, 1) := by decide +kernel
theorem dX12_readOther_1 : decode cX12_readOther 1 = .ok (.ldc2_w 238, 3) := by decide +kernel
theorem dX12_readOther_4 : decode cX12_readOther 4 = .ok (.invokevirtual 268, 3) := by decide +kernel
theorem dX12_readOther_7 : decode cX12_readOther 7 = .ok (.istore_n 1, 1) := by decide +kernel
theorem dX12_readOther_8 : decode cX12_readOther 8 = .ok (.aload_n 0, 1) := by decide +kernel
theorem dX12_readOther_9 : decode cX12_readOther 9 = .ok (.ldc2_w 240, 3) := by decide +kernel
theorem dX12_readOther_12 : decode cX12_readOther 12 = .ok (.invokevirtual 268, 3) := by decide +kernel
theorem dX12_readOther_15 : decode cX12_readOther 15 = .ok (.istore_n 2, 1) := by decide +kernel
theorem dX12_readOther_16 : decode cX12_readOther 16 = .ok (.aload_n 0, 1) := by decide +kernel
theorem dX12_readOther_17 : decode cX12_readOther 17 = .ok (.ldc2_w 244, 3) := by decide +kernel
theorem dX12_readOther_20 : decode cX12_readOther 20 = .ok (.invokevirtual 268, 3) := by decide +kernel
theorem dX12_readOther_23 : decode cX12_readOther 23 = .ok (.istore_n 3, 1) := by decide +kernel
theorem dX12_readOther_24 : decode cX12_readOther 24 = .ok (.aload_n 0, 1) := by decide +kernel
theorem dX12_readOther_25 : decode cX12_readOther 25 = .ok (.ldc2_w 246, 3) := by decide +kernel
theorem dX12_readOther_28 : decode cX12_readOther 28 = .ok (.invokevirtual 268, 3) := by decide +kernel
theorem dX12_readOther_31 : decode cX12_readOther 31 = .ok (.istore 4, 2) := by decide +kernel
theorem dX12_readOther_33 : decode cX12_readOther 33 = .ok (.iconst 0, 1) := by decide +kernel
theorem dX12_readOther_34 : decode cX12_readOther 34 = .ok (.istore 5, 2) := by decide +kernel
theorem dX12_readOther_36 : decode cX12_readOther 36 = .ok (.iload_n 1, 1) := by decide +kernel
theorem dX12_readOther_37 : decode cX12_readOther 37 = .ok (.ifCond .ne 11, 3) := by decide +kernel
theorem dX12_readOther_40 : decode cX12_readOther 40 = .ok (.iload_n 2, 1) := by decide +kernel
theorem dX12_readOther_41 : decode cX12_readOther 41 = .ok (.ifCond .ne 7, 3) := by decide +kernel
theorem dX12_readOther_44 : decode cX12_readOther 44 = .ok (.iload_n 3, 1) := by decide +kernel
theorem dX12_readOther_45 : decode cX12_readOther 45 = .ok (.ifCond .eq 12, 3) := by decide +kernel
theorem dX12_readOther_48 : decode cX12_readOther 48 = .ok (.aload_n 0, 1) := by decide +kernel
theorem dX12_readOther_49 : decode cX12_readOther 49 = .ok (.invokevirtual 301, 3) := by decide +kernel
theorem dX12_readOther_52 : decode cX12_readOther 52 = .ok (.istore 5, 2) := by decide +kernel
theorem dX12_readOther_54 : decode cX12_readOther 54 = .ok (.goto 7, 3) := by decide +kernel
theorem dX12_readOther_57 : decode cX12_readOther 57 = .ok (.aload_n 0, 1) := by decide +kernel
theorem dX12_readOther_58 : decode cX12_readOther 58 = .ok (.invokevirtual 213, 3) := by decide +kernel
theorem dX12_readOther_61 : decode cX12_readOther 61 = .ok (.iload_n 1, 1) := by decide +kernel
theorem dX12_readOther_62 : decode cX12_readOther 62 = .ok (.ifCond .ne 7, 3) := by decide +kernel
theorem dX12_readOther_65 : decode cX12_readOther 65 = .ok (.iload_n 2, 1) := by decide +kernel
theorem dX12_readOther_66 : decode cX12_readOther 66 = .ok (.ifCond .eq 10, 3) := by decide +kernel
theorem dX12_readOther_69 : decode cX12_readOther 69 = .ok (.aload_n 0, 1) := by decide +kernel
theorem dX12_readOther_70 : decode cX12_readOther 70 = .ok (.ldc2_w 242, 3) := by decide +kernel
theorem dX12_readOther_73 : decode cX12_readOther 73 = .ok (.invokevirtual 278, 3) := by decide +kernel
theorem dX12_readOther_76 : decode cX12_readOther 76 = .ok (.aload_n 0, 1) := by decide +kernel
theorem dX12_readOther_77 : decode cX12_readOther 77 = .ok (.iload_n 1, 1) := by decide +kernel
theorem dX12_readOther_78 : decode cX12_readOther 78 = .ok (.ifCond .ne 7, 3) := by decide +kernel
theorem dX12_readOther_81 : decode cX12_readOther 81 = .ok (.iload_n 2, 1) := by decide +kernel
theorem dX12_readOther_82 : decode cX12_readOther 82 = .ok (.ifCond .eq 7, 3) := by decide +kernel
theorem dX12_readOther_85 : decode cX12_readOther 85 = .ok (.iconst 1, 1) := by decide +kernel
theorem dX12_readOther_86 : decode cX12_readOther 86 = .ok (.goto 4, 3) := by decide +kernel
theorem dX12_readOther_89 : decode cX12_readOther 89 = .ok (.iconst 0, 1) := by decide +kernel
theorem dX12_readOther_90 : decode cX12_readOther 90 = .ok (.bipush 59, 2) := by decide +kernel
theorem dX12_readOther_92 : decode cX12_readOther 92 = .ok (.invokevirtual 286, 3) := by decide +kernel
theorem dX12_readOther_95 : decode cX12_readOther 95 = .ok (.istore 6, 2) := by decide +kernel
theorem dX12_readOther_97 : decode cX12_readOther 97 = .ok (.aload_n 0, 1) := by decide +kernel
theorem dX12_readOther_98 : decode cX12_readOther 98 = .ok (.getfield 210, 3) := by decide +kernel
theorem dX12_readOther_101 : decode cX12_readOther 101 = .ok (.ifCond .le 4, 3) := by decide +kernel
theorem dX12_readOther_104 : decode cX12_readOther 104 = .ok (.return_, 1) := by decide +kernel
theorem dX12_readOther_105 : decode cX12_readOther 105 = .ok (.iload_n 1, 1) := by decide +kernel
theorem dX12_readOther_106 : decode cX12_readOther 106 = .ok (.ifCond .eq 17, 3) := by decide +kernel
theorem dX12_readOther_109 : decode cX12_readOther 109 = .ok (.aload_n 0, 1) := by decide +kernel
theorem dX12_readOther_110 : decode cX12_readOther 110 = .ok (.getfield 42, 3) := by decide +kernel
theorem dX12_readOther_113 : decode cX12_readOther 113 = .ok (.bipush 60, 2) := by decide +kernel
theorem dX12_readOther_115 : decode cX12_readOther 115 = .ok (.iload 5, 2) := by decide +kernel
theorem dX12_readOther_117 : decode cX12_readOther 117 = .ok (.imul, 1) := by decide +kernel
theorem dX12_readOther_118 : decode cX12_readOther 118 = .ok (.iload 6, 2) := by decide +kernel
theorem dX12_readOther_120 : decode cX12_readOther 120 = .ok (.iadd, 1) := by decide +kernel
theorem dX12_readOther_121 : decode cX12_readOther 121 = .ok (.iconst 1, 1) := by decide +kernel
theorem dX12_readOther_122 : decode cX12_readOther 122 = .ok (.bastore, 1) := by decide +kernel
theorem dX12_readOther_123 : decode cX12_readOther 123 = .ok (.iload_n 2, 1) := by decide +kernel
theorem dX12_readOther_124 : decode cX12_readOther 124 = .ok (.ifCond .eq 17, 3) := by decide +kernel
theorem dX12_readOther_127 : decode cX12_readOther 127 = .ok (.aload_n 0, 1) := by decide +kernel
theorem dX12_readOther_128 : decode cX12_readOther 128 = .ok (.getfield 46, 3) := by decide +kernel
theorem dX12_readOther_131 : decode cX12_readOther 131 = .ok (.bipush 60, 2) := by decide +kernel
theorem dX12_readOther_133 : decode cX12_readOther 133 = .ok (.iload 5, 2) := by decide +kernel
theorem dX12_readOther_135 : decode cX12_readOther 135 = .ok (.imul, 1) := by decide +kernel
theorem dX12_readOther_136 : decode cX12_readOther 136 = .ok (.iload 6, 2) := by decide +kernel
theorem dX12_readOther_138 : decode cX12_readOther 138 = .ok (.iadd, 1) := by decide +kernel
theorem dX12_readOther_139 : decode cX12_readOther 139 = .ok (.iconst 1, 1) := by decide +kernel
theorem dX12_readOther_140 : decode cX12_readOther 140 = .ok (.bastore, 1) := by decide +kernel
theorem dX12_readOther_141 : decode cX12_readOther 141 = .ok (.aload_n 0, 1) := by decide +kernel
theorem dX12_readOther_142 : decode cX12_readOther 142 = .ok (.dup, 1) := by decide +kernel
theorem dX12_readOther_143 : decode cX12_readOther 143 = .ok (.getfield 305, 3) := by decide +kernel
theorem dX12_readOther_146 : decode cX12_readOther 146 = .ok (.iconst 1, 1) := by decide +kernel
theorem dX12_readOther_147 : decode cX12_readOther 147 = .ok (.iadd, 1) := by decide +kernel
theorem dX12_readOther_148 : decode cX12_readOther 148 = .ok (.putfield 305, 3) := by decide +kernel
theorem dX12_readOther_151 : decode cX12_readOther 151 = .ok (.iload_n 1, 1) := by decide +kernel
theorem dX12_readOther_152 : decode cX12_readOther 152 = .ok (.ifCond .ne 7, 3) := by decide +kernel
theorem dX12_readOther_155 : decode cX12_readOther 155 = .ok (.iload_n 2, 1) := by decide +kernel
theorem dX12_readOther_156 : decode cX12_readOther 156 = .ok (.ifCond .eq 4, 3) := by decide +kernel
theorem dX12_readOther_159 : decode cX12_readOther 159 = .ok (.return_, 1) := by decide +kernel
theorem dX12_readOther_160 : decode cX12_readOther 160 = .ok (.aload_n 0, 1) := by decide +kernel
theorem dX12_readOther_161 : decode cX12_readOther 161 = .ok (.ldc2_w 228, 3) := by decide +kernel
theorem dX12_readOther_164 : decode cX12_readOther 164 = .ok (.invokevirtual 278, 3) := by decide +kernel
theorem dX12_readOther_167 : decode cX12_readOther 167 = .ok (.aload_n 0, 1) := by decide +kernel
theorem dX12_readOther_168 : decode cX12_readOther 168 = .ok (.iload 6, 2) := by decide +kernel
theorem dX12_readOther_170 : decode cX12_readOther 170 = .ok (.bipush 59, 2) := by decide +kernel
theorem dX12_readOther_172 : decode cX12_readOther 172 = .ok (.invokevirtual 286, 3) := by decide +kernel
theorem dX12_readOther_175 : decode cX12_readOther 175 = .ok (.istore 7, 2) := by decide +kernel
theorem dX12_readOther_177 : decode cX12_readOther 177 = .ok (.iload 6, 2) := by decide +kernel
theorem dX12_readOther_179 : decode cX12_readOther 179 = .ok (.istore 8, 2) := by decide +kernel
theorem dX12_readOther_181 : decode cX12_readOther 181 = .ok (.iload 8, 2) := by decide +kernel
theorem dX12_readOther_183 : decode cX12_readOther 183 = .ok (.iload 7, 2) := by decide +kernel
theorem dX12_readOther_185 : decode cX12_readOther 185 = .ok (.if_icmp .gt 61, 3) := by decide +kernel
theorem dX12_readOther_188 : decode cX12_readOther 188 = .ok (.aload_n 0, 1) := by decide +kernel
theorem dX12_readOther_189 : decode cX12_readOther 189 = .ok (.getfield 210, 3) := by decide +kernel
theorem dX12_readOther_192 : decode cX12_readOther 192 = .ok (.ifCond .ne 54, 3) := by decide +kernel
theorem dX12_readOther_195 : decode cX12_readOther 195 = .ok (.iload_n 3, 1) := by decide +kernel
theorem dX12_readOther_196 : decode cX12_readOther 196 = .ok (.ifCond .eq 20, 3) := by decide +kernel
theorem dX12_readOther_199 : decode cX12_readOther 199 = .ok (.aload_n 0, 1) := by decide +kernel
theorem dX12_readOther_200 : decode cX12_readOther 200 = .ok (.getfield 49, 3) := by decide +kernel
theorem dX12_readOther_203 : decode cX12_readOther 203 = .ok (.bipush 60, 2) := by decide +kernel
theorem dX12_readOther_205 : decode cX12_readOther 205 = .ok (.iload 5, 2) := by decide +kernel
theorem dX12_readOther_207 : decode cX12_readOther 207 = .ok (.imul, 1) := by decide +kernel
theorem dX12_readOther_208 : decode cX12_readOther 208 = .ok (.iload 8, 2) := by decide +kernel
theorem dX12_readOther_210 : decode cX12_readOther 210 = .ok (.iadd, 1) := by decide +kernel
theorem dX12_readOther_211 : decode cX12_readOther 211 = .ok (.iconst 1, 1) := by decide +kernel
theorem dX12_readOther_212 : decode cX12_readOther 212 = .ok (.bastore, 1) := by decide +kernel
theorem dX12_readOther_213 : decode cX12_readOther 213 = .ok (.goto 27, 3) := by decide +kernel
theorem dX12_readOther_216 : decode cX12_readOther 216 = .ok (.iload 4, 2) := by decide +kernel
theorem dX12_readOther_218 : decode cX12_readOther 218 = .ok (.ifCond .eq 14, 3) := by decide +kernel
theorem dX12_readOther_221 : decode cX12_readOther 221 = .ok (.aload_n 0, 1) := by decide +kernel
theorem dX12_readOther_222 : decode cX12_readOther 222 = .ok (.getfield 52, 3) := by decide +kernel
theorem dX12_readOther_225 : decode cX12_readOther 225 = .ok (.iload 8, 2) := by decide +kernel
theorem dX12_readOther_227 : decode cX12_readOther 227 = .ok (.iconst 1, 1) := by decide +kernel
theorem dX12_readOther_228 : decode cX12_readOther 228 = .ok (.bastore, 1) := by decide +kernel
theorem dX12_readOther_229 : decode cX12_readOther 229 = .ok (.goto 11, 3) := by decide +kernel
theorem dX12_readOther_232 : decode cX12_readOther 232 = .ok (.aload_n 0, 1) := by decide +kernel
theorem dX12_readOther_233 : decode cX12_readOther 233 = .ok (.getfield 55, 3) := by decide +kernel
theorem dX12_readOther_236 : decode cX12_readOther 236 = .ok (.iload 8, 2) := by decide +kernel
theorem dX12_readOther_238 : decode cX12_readOther 238 = .ok (.iconst 1, 1) := by decide +kernel
theorem dX12_readOther_239 : decode cX12_readOther 239 = .ok (.bastore, 1) := by decide +kernel
theorem dX12_readOther_240 : decode cX12_readOther 240 = .ok (.iinc 8 1, 3) := by decide +kernel
theorem dX12_readOther_243 : decode cX12_readOther 243 = .ok (.goto (-62), 3) := by decide +kernel
theorem dX12_readOther_246 : decode cX12_readOther 246 = .ok (.return_, 1) := by decide +kernel
theorem dX12_isOther_0 : decode cX12_isOther 0 = .ok (.aload_n 0, 1) := by decide +kernel
theorem dX12_isOther_1 : decode cX12_isOther 1 = .ok (.ldc2_w 238, 3) := by decide +kernel
theorem dX12_isOther_4 : decode cX12_isOther 4 = .ok (.invokevirtual 268, 3) := by decide +kernel
theorem dX12_isOther_7 : decode cX12_isOther 7 = .ok (.ifCond .ne 43, 3) := by decide +kernel
theorem dX12_isOther_10 : decode cX12_isOther 10 = .ok (.aload_n 0, 1) := by decide +kernel
theorem dX12_isOther_11 : decode cX12_isOther 11 = .ok (.ldc2_w 240, 3) := by decide +kernel
theorem dX12_isOther_14 : decode cX12_isOther 14 = .ok (.invokevirtual 268, 3) := by decide +kernel
theorem dX12_isOther_17 : decode cX12_isOther 17 = .ok (.ifCond .ne 33, 3) := by decide +kernel
theorem dX12_isOther_20 : decode cX12_isOther 20 = .ok (.aload_n 0, 1) := by decide +kernel
theorem dX12_isOther_21 : decode cX12_isOther 21 = .ok (.ldc2_w 244, 3) := by decide +kernel
theorem dX12_isOther_24 : decode cX12_isOther 24 = .ok (.invokevirtual 268, 3) := by decide +kernel
theorem dX12_isOther_27 : decode cX12_isOther 27 = .ok (.ifCond .ne 23, 3) := by decide +kernel
theorem dX12_isOther_30 : decode cX12_isOther 30 = .ok (.aload_n 0, 1) := by decide +kernel
theorem dX12_isOther_31 : decode cX12_isOther 31 = .ok (.ldc2_w 246, 3) := by decide +kernel
theorem dX12_isOther_34 : decode cX12_isOther 34 = .ok (.invokevirtual 268, 3) := by decide +kernel
theorem dX12_isOther_37 : decode cX12_isOther 37 = .ok (.ifCond .ne 13, 3) := by decide +kernel
theorem dX12_isOther_40 : decode cX12_isOther 40 = .ok (.aload_n 0, 1) := by decide +kernel
theorem dX12_isOther_41 : decode cX12_isOther 41 = .ok (.ldc2_w 248, 3) := by decide +kernel
theorem dX12_isOther_44 : decode cX12_isOther 44 = .ok (.invokevirtual 268, 3) := by decide +kernel
theorem dX12_isOther_47 : decode cX12_isOther 47 = .ok (.ifCond .eq 7, 3) := by decide +kernel
theorem dX12_isOther_50 : decode cX12_isOther 50 = .ok (.iconst 1, 1) := by decide +kernel
theorem dX12_isOther_51 : decode cX12_isOther 51 = .ok (.goto 4, 3) := by decide +kernel
theorem dX12_isOther_54 : decode cX12_isOther 54 = .ok (.iconst 0, 1) := by decide +kernel
theorem dX12_isOther_55 : decode cX12_isOther 55 = .ok (.ireturn, 1) := by decide +kernel
theorem dX12_hill_0 : decode cX12_hill 0 = .ok (.aload_n 0, 1) := by decide +kernel
theorem dX12_hill_1 : decode cX12_hill 1 = .ok (.iconst 0, 1) := by decide +kernel
theorem dX12_hill_2 : decode cX12_hill 2 = .ok (.putfield 275, 3) := by decide +kernel
theorem dX12_hill_5 : decode cX12_hill 5 = .ok (.aload_n 0, 1) := by decide +kernel
theorem dX12_hill_6 : decode cX12_hill 6 = .ok (.iconst 0, 1) := by decide +kernel
theorem dX12_hill_7 : decode cX12_hill 7 = .ok (.putfield 305, 3) := by decide +kernel
theorem dX12_hill_10 : decode cX12_hill 10 = .ok (.iconst 0, 1) := by decide +kernel
theorem dX12_hill_11 : decode cX12_hill 11 = .ok (.istore_n 1, 1) := by decide +kernel
theorem dX12_hill_12 : decode cX12_hill 12 = .ok (.iload_n 1, 1) := by decide +kernel
theorem dX12_hill_13 : decode cX12_hill 13 = .ok (.sipush 300, 3) := by decide +kernel
theorem dX12_hill_16 : decode cX12_hill 16 = .ok (.if_icmp .ge 30, 3) := by decide +kernel
theorem dX12_hill_19 : decode cX12_hill 19 = .ok (.aload_n 0, 1) := by decide +kernel
theorem dX12_hill_20 : decode cX12_hill 20 = .ok (.getfield 42, 3) := by decide +kernel
theorem dX12_hill_23 : decode cX12_hill 23 = .ok (.iload_n 1, 1) := by decide +kernel
theorem dX12_hill_24 : decode cX12_hill 24 = .ok (.iconst 0, 1) := by decide +kernel
theorem dX12_hill_25 : decode cX12_hill 25 = .ok (.bastore, 1) := by decide +kernel
theorem dX12_hill_26 : decode cX12_hill 26 = .ok (.aload_n 0, 1) := by decide +kernel
theorem dX12_hill_27 : decode cX12_hill 27 = .ok (.getfield 46, 3) := by decide +kernel
theorem dX12_hill_30 : decode cX12_hill 30 = .ok (.iload_n 1, 1) := by decide +kernel
theorem dX12_hill_31 : decode cX12_hill 31 = .ok (.iconst 0, 1) := by decide +kernel
theorem dX12_hill_32 : decode cX12_hill 32 = .ok (.bastore, 1) := by decide +kernel
theorem dX12_hill_33 : decode cX12_hill 33 = .ok (.aload_n 0, 1) := by decide +kernel
theorem dX12_hill_34 : decode cX12_hill 34 = .ok (.getfield 49, 3) := by decide +kernel
theorem dX12_hill_37 : decode cX12_hill 37 = .ok (.iload_n 1, 1) := by decide +kernel
theorem dX12_hill_38 : decode cX12_hill 38 = .ok (.iconst 0, 1) := by decide +kernel
theorem dX12_hill_39 : decode cX12_hill 39 = .ok (.bastore, 1) := by decide +kernel
theorem dX12_hill_40 : decode cX12_hill 40 = .ok (.iinc 1 1, 3) := by decide +kernel
theorem dX12_hill_43 : decode cX12_hill 43 = .ok (.goto (-31), 3) := by decide +kernel
theorem dX12_hill_46 : decode cX12_hill 46 = .ok (.iconst 0, 1) := by decide +kernel
theorem dX12_hill_47 : decode cX12_hill 47 = .ok (.istore_n 1, 1) := by decide +kernel
theorem dX12_hill_48 : decode cX12_hill 48 = .ok (.iload_n 1, 1) := by decide +kernel
theorem dX12_hill_49 : decode cX12_hill 49 = .ok (.bipush 60, 2) := by decide +kernel
theorem dX12_hill_51 : decode cX12_hill 51 = .ok (.if_icmp .ge 23, 3) := by decide +kernel
theorem dX12_hill_54 : decode cX12_hill 54 = .ok (.aload_n 0, 1) := by decide +kernel
theorem dX12_hill_55 : decode cX12_hill 55 = .ok (.getfield 52, 3) := by decide +kernel
theorem dX12_hill_58 : decode cX12_hill 58 = .ok (.iload_n 1, 1) := by decide +kernel
theorem dX12_hill_59 : decode cX12_hill 59 = .ok (.iconst 0, 1) := by decide +kernel
theorem dX12_hill_60 : decode cX12_hill 60 = .ok (.bastore, 1) := by decide +kernel
theorem dX12_hill_61 : decode cX12_hill 61 = .ok (.aload_n 0, 1) := by decide +kernel
theorem dX12_hill_62 : decode cX12_hill 62 = .ok (.getfield 55, 3) := by decide +kernel
theorem dX12_hill_65 : decode cX12_hill 65 = .ok (.iload_n 1, 1) := by decide +kernel
theorem dX12_hill_66 : decode cX12_hill 66 = .ok (.iconst 0, 1) := by decide +kernel
theorem dX12_hill_67 : decode cX12_hill 67 = .ok (.bastore, 1) := by decide +kernel
theorem dX12_hill_68 : decode cX12_hill 68 = .ok (.iinc 1 1, 3) := by decide +kernel
theorem dX12_hill_71 : decode cX12_hill 71 = .ok (.goto (-23), 3) := by decide +kernel
theorem dX12_hill_74 : decode cX12_hill 74 = .ok (.aload_n 0, 1) := by decide +kernel
theorem dX12_hill_75 : decode cX12_hill 75 = .ok (.iconst 0, 1) := by decide +kernel
theorem dX12_hill_76 : decode cX12_hill 76 = .ok (.invokevirtual 308, 3) := by decide +kernel
theorem dX12_hill_79 : decode cX12_hill 79 = .ok (.aload_n 0, 1) := by decide +kernel
theorem dX12_hill_80 : decode cX12_hill 80 = .ok (.getfield 210, 3) := by decide +kernel
theorem dX12_hill_83 : decode cX12_hill 83 = .ok (.ifCond .ne 98, 3) := by decide +kernel
theorem dX12_hill_86 : decode cX12_hill 86 = .ok (.aload_n 0, 1) := by decide +kernel
theorem dX12_hill_87 : decode cX12_hill 87 = .ok (.getfield 197, 3) := by decide +kernel
theorem dX12_hill_90 : decode cX12_hill 90 = .ok (.ifCond .eq 91, 3) := by decide +kernel
theorem dX12_hill_93 : decode cX12_hill 93 = .ok (.aload_n 0, 1) := by decide +kernel
theorem dX12_hill_94 : decode cX12_hill 94 = .ok (.ldc2_w 216, 3) := by decide +kernel
theorem dX12_hill_97 : decode cX12_hill 97 = .ok (.invokevirtual 268, 3) := by decide +kernel
theorem dX12_hill_100 : decode cX12_hill 100 = .ok (.ifCond .eq 18, 3) := by decide +kernel
theorem dX12_hill_103 : decode cX12_hill 103 = .ok (.aload_n 0, 1) := by decide +kernel
theorem dX12_hill_104 : decode cX12_hill 104 = .ok (.getfield 275, 3) := by decide +kernel
theorem dX12_hill_107 : decode cX12_hill 107 = .ok (.iconst 5, 1) := by decide +kernel
theorem dX12_hill_108 : decode cX12_hill 108 = .ok (.if_icmp .ge 10, 3) := by decide +kernel
theorem dX12_hill_111 : decode cX12_hill 111 = .ok (.aload_n 0, 1) := by decide +kernel
theorem dX12_hill_112 : decode cX12_hill 112 = .ok (.invokevirtual 312, 3) := by decide +kernel
theorem dX12_hill_115 : decode cX12_hill 115 = .ok (.goto 31, 3) := by decide +kernel
theorem dX12_hill_118 : decode cX12_hill 118 = .ok (.aload_n 0, 1) := by decide +kernel
theorem dX12_hill_119 : decode cX12_hill 119 = .ok (.invokevirtual 315, 3) := by decide +kernel
theorem dX12_hill_122 : decode cX12_hill 122 = .ok (.ifCond .eq 19, 3) := by decide +kernel
theorem dX12_hill_125 : decode cX12_hill 125 = .ok (.aload_n 0, 1) := by decide +kernel
theorem dX12_hill_126 : decode cX12_hill 126 = .ok (.getfield 305, 3) := by decide +kernel
theorem dX12_hill_129 : decode cX12_hill 129 = .ok (.bipush 16, 2) := by decide +kernel
theorem dX12_hill_131 : decode cX12_hill 131 = .ok (.if_icmp .ge 10, 3) := by decide +kernel
theorem dX12_hill_134 : decode cX12_hill 134 = .ok (.aload_n 0, 1) := by decide +kernel
theorem dX12_hill_135 : decode cX12_hill 135 = .ok (.invokevirtual 318, 3) := by decide +kernel
theorem dX12_hill_138 : decode cX12_hill 138 = .ok (.goto 8, 3) := by decide +kernel
theorem dX12_hill_141 : decode cX12_hill 141 = .ok (.aload_n 0, 1) := by decide +kernel
theorem dX12_hill_142 : decode cX12_hill 142 = .ok (.iconst 2, 1) := by decide +kernel
theorem dX12_hill_143 : decode cX12_hill 143 = .ok (.invokevirtual 272, 3) := by decide +kernel
theorem dX12_hill_146 : decode cX12_hill 146 = .ok (.aload_n 0, 1) := by decide +kernel
theorem dX12_hill_147 : decode cX12_hill 147 = .ok (.getfield 210, 3) := by decide +kernel
theorem dX12_hill_150 : decode cX12_hill 150 = .ok (.ifCond .ne 17, 3) := by decide +kernel
theorem dX12_hill_153 : decode cX12_hill 153 = .ok (.aload_n 0, 1) := by decide +kernel
theorem dX12_hill_154 : decode cX12_hill 154 = .ok (.getfield 197, 3) := by decide +kernel
theorem dX12_hill_157 : decode cX12_hill 157 = .ok (.bipush 59, 2) := by decide +kernel
theorem dX12_hill_159 : decode cX12_hill 159 = .ok (.if_icmp .eq 8, 3) := by decide +kernel
theorem dX12_hill_162 : decode cX12_hill 162 = .ok (.aload_n 0, 1) := by decide +kernel
theorem dX12_hill_163 : decode cX12_hill 163 = .ok (.iconst 2, 1) := by decide +kernel
theorem dX12_hill_164 : decode cX12_hill 164 = .ok (.invokevirtual 272, 3) := by decide +kernel
theorem dX12_hill_167 : decode cX12_hill 167 = .ok (.aload_n 0, 1) := by decide +kernel
theorem dX12_hill_168 : decode cX12_hill 168 = .ok (.getfield 210, 3) := by decide +kernel
theorem dX12_hill_171 : decode cX12_hill 171 = .ok (.ifCond .ne (-92), 3) := by decide +kernel
theorem dX12_hill_174 : decode cX12_hill 174 = .ok (.aload_n 0, 1) := by decide +kernel
theorem dX12_hill_175 : decode cX12_hill 175 = .ok (.invokevirtual 213, 3) := by decide +kernel
theorem dX12_hill_178 : decode cX12_hill 178 = .ok (.goto (-99), 3) := by decide +kernel
theorem dX12_hill_181 : decode cX12_hill 181 = .ok (.aload_n 0, 1) := by decide +kernel
theorem dX12_hill_182 : decode cX12_hill 182 = .ok (.getfield 210, 3) := by decide +kernel
theorem dX12_hill_185 : decode cX12_hill 185 = .ok (.ifCond .le 5, 3) := by decide +kernel
theorem dX12_hill_188 : decode cX12_hill 188 = .ok (.iconst (-1), 1) := by decide +kernel
theorem dX12_hill_189 : decode cX12_hill 189 = .ok (.ireturn, 1) := by decide +kernel
theorem dX12_hill_190 : decode cX12_hill 190 = .ok (.iconst 0, 1) := by decide +kernel
theorem dX12_hill_191 : decode cX12_hill 191 = .ok (.istore_n 1, 1) := by decide +kernel
theorem dX12_hill_192 : decode cX12_hill 192 = .ok (.iload_n 1, 1) := by decide +kernel
theorem dX12_hill_193 : decode cX12_hill 193 = .ok (.iconst 5, 1) := by decide +kernel
theorem dX12_hill_194 : decode cX12_hill 194 = .ok (.if_icmp .ge 45, 3) := by decide +kernel
theorem dX12_hill_197 : decode cX12_hill 197 = .ok (.aload_n 0, 1) := by decide +kernel
theorem dX12_hill_198 : decode cX12_hill 198 = .ok (.getfield 21, 3) := by decide +kernel
theorem dX12_hill_201 : decode cX12_hill 201 = .ok (.iload_n 1, 1) := by decide +kernel
theorem dX12_hill_202 : decode cX12_hill 202 = .ok (.aload_n 0, 1) := by decide +kernel
theorem dX12_hill_203 : decode cX12_hill 203 = .ok (.getfield 17, 3) := by decide +kernel
theorem dX12_hill_206 : decode cX12_hill 206 = .ok (.iload_n 1, 1) := by decide +kernel
theorem dX12_hill_207 : decode cX12_hill 207 = .ok (.laload, 1) := by decide +kernel
theorem dX12_hill_208 : decode cX12_hill 208 = .ok (.lastore, 1) := by decide +kernel
theorem dX12_hill_209 : decode cX12_hill 209 = .ok (.aload_n 0, 1) := by decide +kernel
theorem dX12_hill_210 : decode cX12_hill 210 = .ok (.getfield 33, 3) := by decide +kernel
theorem dX12_hill_213 : decode cX12_hill 213 = .ok (.iload_n 1, 1) := by decide +kernel
theorem dX12_hill_214 : decode cX12_hill 214 = .ok (.aload_n 0, 1) := by decide +kernel
theorem dX12_hill_215 : decode cX12_hill 215 = .ok (.getfield 24, 3) := by decide +kernel
theorem dX12_hill_218 : decode cX12_hill 218 = .ok (.iload_n 1, 1) := by decide +kernel
theorem dX12_hill_219 : decode cX12_hill 219 = .ok (.iaload, 1) := by decide +kernel
theorem dX12_hill_220 : decode cX12_hill 220 = .ok (.iastore, 1) := by decide +kernel
theorem dX12_hill_221 : decode cX12_hill 221 = .ok (.aload_n 0, 1) := by decide +kernel
theorem dX12_hill_222 : decode cX12_hill 222 = .ok (.getfield 39, 3) := by decide +kernel
theorem dX12_hill_225 : decode cX12_hill 225 = .ok (.iload_n 1, 1) := by decide +kernel
theorem dX12_hill_226 : decode cX12_hill 226 = .ok (.aload_n 0, 1) := by decide +kernel
theorem dX12_hill_227 : decode cX12_hill 227 = .ok (.getfield 30, 3) := by decide +kernel
theorem dX12_hill_230 : decode cX12_hill 230 = .ok (.iload_n 1, 1) := by decide +kernel
theorem dX12_hill_231 : decode cX12_hill 231 = .ok (.iaload, 1) := by decide +kernel
theorem dX12_hill_232 : decode cX12_hill 232 = .ok (.iastore, 1) := by decide +kernel
theorem dX12_hill_233 : decode cX12_hill 233 = .ok (.iinc 1 1, 3) := by decide +kernel
theorem dX12_hill_236 : decode cX12_hill 236 = .ok (.goto (-44), 3) := by decide +kernel
theorem dX12_hill_239 : decode cX12_hill 239 = .ok (.iconst 0, 1) := by decide +kernel
theorem dX12_hill_240 : decode cX12_hill 240 = .ok (.istore_n 1, 1) := by decide +kernel
theorem dX12_hill_241 : decode cX12_hill 241 = .ok (.iload_n 1, 1) := by decide +kernel
theorem dX12_hill_242 : decode cX12_hill 242 = .ok (.bipush 40, 2) := by decide +kernel
theorem dX12_hill_244 : decode cX12_hill 244 = .ok (.if_icmp .ge 21, 3) := by decide +kernel
theorem dX12_hill_247 : decode cX12_hill 247 = .ok (.aload_n 0, 1) := by decide +kernel
theorem dX12_hill_248 : decode cX12_hill 248 = .ok (.getfield 36, 3) := by decide +kernel
theorem dX12_hill_251 : decode cX12_hill 251 = .ok (.iload_n 1, 1) := by decide +kernel
theorem dX12_hill_252 : decode cX12_hill 252 = .ok (.aload_n 0, 1) := by decide +kernel
theorem dX12_hill_253 : decode cX12_hill 253 = .ok (.getfield 27, 3) := by decide +kernel
theorem dX12_hill_256 : decode cX12_hill 256 = .ok (.iload_n 1, 1) := by decide +kernel
theorem dX12_hill_257 : decode cX12_hill 257 = .ok (.iaload, 1) := by decide +kernel
theorem dX12_hill_258 : decode cX12_hill 258 = .ok (.iastore, 1) := by decide +kernel
theorem dX12_hill_259 : decode cX12_hill 259 = .ok (.iinc 1 1, 3) := by decide +kernel
theorem dX12_hill_262 : decode cX12_hill 262 = .ok (.goto (-21), 3) := by decide +kernel
theorem dX12_hill_265 : decode cX12_hill 265 = .ok (.iconst 0, 1) := by decide +kernel
theorem dX12_hill_266 : decode cX12_hill 266 = .ok (.istore_n 1, 1) := by decide +kernel
theorem dX12_hill_267 : decode cX12_hill 267 = .ok (.iload_n 1, 1) := by decide +kernel
theorem dX12_hill_268 : decode cX12_hill 268 = .ok (.sipush 300, 3) := by decide +kernel
theorem dX12_hill_271 : decode cX12_hill 271 = .ok (.if_icmp .ge 45, 3) := by decide +kernel
theorem dX12_hill_274 : decode cX12_hill 274 = .ok (.aload_n 0, 1) := by decide +kernel
theorem dX12_hill_275 : decode cX12_hill 275 = .ok (.getfield 58, 3) := by decide +kernel
theorem dX12_hill_278 : decode cX12_hill 278 = .ok (.iload_n 1, 1) := by decide +kernel
theorem dX12_hill_279 : decode cX12_hill 279 = .ok (.aload_n 0, 1) := by decide +kernel
theorem dX12_hill_280 : decode cX12_hill 280 = .ok (.getfield 42, 3) := by decide +kernel
theorem dX12_hill_283 : decode cX12_hill 283 = .ok (.iload_n 1, 1) := by decide +kernel
theorem dX12_hill_284 : decode cX12_hill 284 = .ok (.baload, 1) := by decide +kernel
theorem dX12_hill_285 : decode cX12_hill 285 = .ok (.bastore, 1) := by decide +kernel
theorem dX12_hill_286 : decode cX12_hill 286 = .ok (.aload_n 0, 1) := by decide +kernel
theorem dX12_hill_287 : decode cX12_hill 287 = .ok (.getfield 61, 3) := by decide +kernel
theorem dX12_hill_290 : decode cX12_hill 290 = .ok (.iload_n 1, 1) := by decide +kernel
theorem dX12_hill_291 : decode cX12_hill 291 = .ok (.aload_n 0, 1) := by decide +kernel
theorem dX12_hill_292 : decode cX12_hill 292 = .ok (.getfield 46, 3) := by decide +kernel
theorem dX12_hill_295 : decode cX12_hill 295 = .ok (.iload_n 1, 1) := by decide +kernel
theorem dX12_hill_296 : decode cX12_hill 296 = .ok (.baload, 1) := by decide +kernel
theorem dX12_hill_297 : decode cX12_hill 297 = .ok (.bastore, 1) := by decide +kernel
theorem dX12_hill_298 : decode cX12_hill 298 = .ok (.aload_n 0, 1) := by decide +kernel
theorem dX12_hill_299 : decode cX12_hill 299 = .ok (.getfield 64, 3) := by decide +kernel
theorem dX12_hill_302 : decode cX12_hill 302 = .ok (.iload_n 1, 1) := by decide +kernel
theorem dX12_hill_303 : decode cX12_hill 303 = .ok (.aload_n 0, 1) := by decide +kernel
theorem dX12_hill_304 : decode cX12_hill 304 = .ok (.getfield 49, 3) := by decide +kernel
theorem dX12_hill_307 : decode cX12_hill 307 = .ok (.iload_n 1, 1) := by decide +kernel
theorem dX12_hill_308 : decode cX12_hill 308 = .ok (.baload, 1) := by decide +kernel
theorem dX12_hill_309 : decode cX12_hill 309 = .ok (.bastore, 1) := by decide +kernel
theorem dX12_hill_310 : decode cX12_hill 310 = .ok (.iinc 1 1, 3) := by decide +kernel
theorem dX12_hill_313 : decode cX12_hill 313 = .ok (.goto (-46), 3) := by decide +kernel
theorem dX12_hill_316 : decode cX12_hill 316 = .ok (.iconst 0, 1) := by decide +kernel
theorem dX12_hill_317 : decode cX12_hill 317 = .ok (.istore_n 1, 1) := by decide +kernel
theorem dX12_hill_318 : decode cX12_hill 318 = .ok (.iload_n 1, 1) := by decide +kernel
theorem dX12_hill_319 : decode cX12_hill 319 = .ok (.bipush 60, 2) := by decide +kernel
theorem dX12_hill_321 : decode cX12_hill 321 = .ok (.if_icmp .ge 40, 3) := by decide +kernel
theorem dX12_hill_324 : decode cX12_hill 324 = .ok (.aload_n 0, 1) := by decide +kernel
theorem dX12_hill_325 : decode cX12_hill 325 = .ok (.getfield 67, 3) := by decide +kernel
theorem dX12_hill_328 : decode cX12_hill 328 = .ok (.iload_n 1, 1) := by decide +kernel
theorem dX12_hill_329 : decode cX12_hill 329 = .ok (.aload_n 0, 1) := by decide +kernel
theorem dX12_hill_330 : decode cX12_hill 330 = .ok (.getfield 52, 3) := by decide +kernel
theorem dX12_hill_333 : decode cX12_hill 333 = .ok (.iload_n 1, 1) := by decide +kernel
theorem dX12_hill_334 : decode cX12_hill 334 = .ok (.baload, 1) := by decide +kernel
theorem dX12_hill_335 : decode cX12_hill 335 = .ok (.bastore, 1) := by decide +kernel
theorem dX12_hill_336 : decode cX12_hill 336 = .ok (.aload_n 0, 1) := by decide +kernel
theorem dX12_hill_337 : decode cX12_hill 337 = .ok (.getfield 70, 3) := by decide +kernel
theorem dX12_hill_340 : decode cX12_hill 340 = .ok (.iload_n 1, 1) := by decide +kernel
theorem dX12_hill_341 : decode cX12_hill 341 = .ok (.aload_n 0, 1) := by decide +kernel
theorem dX12_hill_342 : decode cX12_hill 342 = .ok (.getfield 55, 3) := by decide +kernel
theorem dX12_hill_345 : decode cX12_hill 345 = .ok (.iload_n 1, 1) := by decide +kernel
theorem dX12_hill_346 : decode cX12_hill 346 = .ok (.baload, 1) := by decide +kernel
theorem dX12_hill_347 : decode cX12_hill 347 = .ok (.bastore, 1) := by decide +kernel
theorem dX12_hill_348 : decode cX12_hill 348 = .ok (.aload_n 0, 1) := by decide +kernel
theorem dX12_hill_349 : decode cX12_hill 349 = .ok (.getfield 94, 3) := by decide +kernel
theorem dX12_hill_352 : decode cX12_hill 352 = .ok (.iload_n 1, 1) := by decide +kernel
theorem dX12_hill_353 : decode cX12_hill 353 = .ok (.iconst 0, 1) := by decide +kernel
theorem dX12_hill_354 : decode cX12_hill 354 = .ok (.bastore, 1) := by decide +kernel
theorem dX12_hill_355 : decode cX12_hill 355 = .ok (.iinc 1 1, 3) := by decide +kernel
theorem dX12_hill_358 : decode cX12_hill 358 = .ok (.goto (-40), 3) := by decide +kernel
theorem dX12_hill_361 : decode cX12_hill 361 = .ok (.aload_n 0, 1) := by decide +kernel
theorem dX12_hill_362 : decode cX12_hill 362 = .ok (.aload_n 0, 1) := by decide +kernel
theorem dX12_hill_363 : decode cX12_hill 363 = .ok (.getfield 275, 3) := by decide +kernel
theorem dX12_hill_366 : decode cX12_hill 366 = .ok (.putfield 321, 3) := by decide +kernel
theorem dX12_hill_369 : decode cX12_hill 369 = .ok (.aload_n 0, 1) := by decide +kernel
theorem dX12_hill_370 : decode cX12_hill 370 = .ok (.aload_n 0, 1) := by decide +kernel
theorem dX12_hill_371 : decode cX12_hill 371 = .ok (.getfield 305, 3) := by decide +kernel
theorem dX12_hill_374 : decode cX12_hill 374 = .ok (.putfield 324, 3) := by decide +kernel
theorem dX12_hill_377 : decode cX12_hill 377 = .ok (.aload_n 0, 1) := by decide +kernel
theorem dX12_hill_378 : decode cX12_hill 378 = .ok (.iconst 0, 1) := by decide +kernel
theorem dX12_hill_379 : decode cX12_hill 379 = .ok (.putfield 327, 3) := by decide +kernel
theorem dX12_hill_382 : decode cX12_hill 382 = .ok (.aload_n 0, 1) := by decide +kernel
theorem dX12_hill_383 : decode cX12_hill 383 = .ok (.iconst 0, 1) := by decide +kernel
theorem dX12_hill_384 : decode cX12_hill 384 = .ok (.putfield 330, 3) := by decide +kernel
theorem dX12_hill_387 : decode cX12_hill 387 = .ok (.iconst 0, 1) := by decide +kernel
theorem dX12_hill_388 : decode cX12_hill 388 = .ok (.istore_n 1, 1) := by decide +kernel
theorem dX12_hill_389 : decode cX12_hill 389 = .ok (.iload_n 1, 1) := by decide +kernel
theorem dX12_hill_390 : decode cX12_hill 390 = .ok (.bipush 10, 2) := by decide +kernel
theorem dX12_hill_392 : decode cX12_hill 392 = .ok (.if_icmp .ge 16, 3) := by decide +kernel
theorem dX12_hill_395 : decode cX12_hill 395 = .ok (.aload_n 0, 1) := by decide +kernel
theorem dX12_hill_396 : decode cX12_hill 396 = .ok (.getfield 97, 3) := by decide +kernel
theorem dX12_hill_399 : decode cX12_hill 399 = .ok (.iload_n 1, 1) := by decide +kernel
theorem dX12_hill_400 : decode cX12_hill 400 = .ok (.iconst 0, 1) := by decide +kernel
theorem dX12_hill_401 : decode cX12_hill 401 = .ok (.bastore, 1) := by decide +kernel
theorem dX12_hill_402 : decode cX12_hill 402 = .ok (.iinc 1 1, 3) := by decide +kernel
theorem dX12_hill_405 : decode cX12_hill 405 = .ok (.goto (-16), 3) := by decide +kernel
theorem dX12_hill_408 : decode cX12_hill 408 = .ok (.aload_n 0, 1) := by decide +kernel
theorem dX12_hill_409 : decode cX12_hill 409 = .ok (.getfield 321, 3) := by decide +kernel
theorem dX12_hill_412 : decode cX12_hill 412 = .ok (.aload_n 0, 1) := by decide +kernel
theorem dX12_hill_413 : decode cX12_hill 413 = .ok (.getfield 324, 3) := by decide +kernel
theorem dX12_hill_416 : decode cX12_hill 416 = .ok (.iadd, 1) := by decide +kernel
theorem dX12_hill_417 : decode cX12_hill 417 = .ok (.ireturn, 1) := by decide +kernel
theorem dX12_fault_0 : decode cX12_fault 0 = .ok (.iload_n 1, 1) := by decide +kernel
theorem dX12_fault_1 : decode cX12_fault 1 = .ok (.ifCond .ne 10, 3) := by decide +kernel
theorem dX12_fault_4 : decode cX12_fault 4 = .ok (.aload_n 0, 1) := by decide +kernel
theorem dX12_fault_5 : decode cX12_fault 5 = .ok (.getfield 210, 3) := by decide +kernel
theorem dX12_fault_8 : decode cX12_fault 8 = .ok (.goto 16, 3) := by decide +kernel
theorem dX12_fault_11 : decode cX12_fault 11 = .ok (.iload_n 1, 1) := by decide +kernel
theorem dX12_fault_12 : decode cX12_fault 12 = .ok (.iconst 1, 1) := by decide +kernel
theorem dX12_fault_13 : decode cX12_fault 13 = .ok (.if_icmp .ne 10, 3) := by decide +kernel
theorem dX12_fault_16 : decode cX12_fault 16 = .ok (.aload_n 0, 1) := by decide +kernel
theorem dX12_fault_17 : decode cX12_fault 17 = .ok (.getfield 13, 3) := by decide +kernel
theorem dX12_fault_20 : decode cX12_fault 20 = .ok (.goto 4, 3) := by decide +kernel
theorem dX12_fault_23 : decode cX12_fault 23 = .ok (.iconst (-1), 1) := by decide +kernel
theorem dX12_fault_24 : decode cX12_fault 24 = .ok (.ireturn, 1) := by decide +kernel
theorem dX12_isDay_0 : decode cX12_isDay 0 = .ok (.iload_n 0, 1) := by decide +kernel
theorem dX12_isDay_1 : decode cX12_isDay 1 = .ok (.ifCond .lt 13, 3) := by decide +kernel
theorem dX12_isDay_4 : decode cX12_isDay 4 = .ok (.iload_n 0, 1) := by decide +kernel
theorem dX12_isDay_5 : decode cX12_isDay 5 = .ok (.bipush 60, 2) := by decide +kernel
theorem dX12_isDay_7 : decode cX12_isDay 7 = .ok (.if_icmp .ge 7, 3) := by decide +kernel
theorem dX12_isDay_10 : decode cX12_isDay 10 = .ok (.iconst 1, 1) := by decide +kernel
theorem dX12_isDay_11 : decode cX12_isDay 11 = .ok (.goto 4, 3) := by decide +kernel
theorem dX12_isDay_14 : decode cX12_isDay 14 = .ok (.iconst 0, 1) := by decide +kernel
theorem dX12_isDay_15 : decode cX12_isDay 15 = .ok (.ireturn, 1) := by decide +kernel
theorem dX12_isBox_0 : decode cX12_isBox 0 = .ok (.iload_n 1, 1) := by decide +kernel
theorem dX12_isBox_1 : decode cX12_isBox 1 = .ok (.ifCond .lt 15, 3) := by decide +kernel
theorem dX12_isBox_4 : decode cX12_isBox 4 = .ok (.iload_n 1, 1) := by decide +kernel
theorem dX12_isBox_5 : decode cX12_isBox 5 = .ok (.aload_n 0, 1) := by decide +kernel
theorem dX12_isBox_6 : decode cX12_isBox 6 = .ok (.getfield 321, 3) := by decide +kernel
theorem dX12_isBox_9 : decode cX12_isBox 9 = .ok (.if_icmp .ge 7, 3) := by decide +kernel
theorem dX12_isBox_12 : decode cX12_isBox 12 = .ok (.iconst 1, 1) := by decide +kernel
theorem dX12_isBox_13 : decode cX12_isBox 13 = .ok (.goto 4, 3) := by decide +kernel
theorem dX12_isBox_16 : decode cX12_isBox 16 = .ok (.iconst 0, 1) := by decide +kernel
theorem dX12_isBox_17 : decode cX12_isBox 17 = .ok (.ireturn, 1) := by decide +kernel
theorem dX12_leastOf_0 : decode cX12_leastOf 0 = .ok (.iload_n 0, 1) := by decide +kernel
theorem dX12_leastOf_1 : decode cX12_leastOf 1 = .ok (.ifCond .ne 8, 3) := by decide +kernel
theorem dX12_leastOf_4 : decode cX12_leastOf 4 = .ok (.bipush (-20), 2) := by decide +kernel
theorem dX12_leastOf_6 : decode cX12_leastOf 6 = .ok (.goto 4, 3) := by decide +kernel
theorem dX12_leastOf_9 : decode cX12_leastOf 9 = .ok (.iconst 0, 1) := by decide +kernel
theorem dX12_leastOf_10 : decode cX12_leastOf 10 = .ok (.ireturn, 1) := by decide +kernel
theorem dX12_mostOf_0 : decode cX12_mostOf 0 = .ok (.iload_n 0, 1) := by decide +kernel
theorem dX12_mostOf_1 : decode cX12_mostOf 1 = .ok (.ifCond .ne 8, 3) := by decide +kernel
theorem dX12_mostOf_4 : decode cX12_mostOf 4 = .ok (.bipush 40, 2) := by decide +kernel
theorem dX12_mostOf_6 : decode cX12_mostOf 6 = .ok (.goto 25, 3) := by decide +kernel
theorem dX12_mostOf_9 : decode cX12_mostOf 9 = .ok (.iload_n 0, 1) := by decide +kernel
theorem dX12_mostOf_10 : decode cX12_mostOf 10 = .ok (.iconst 1, 1) := by decide +kernel
theorem dX12_mostOf_11 : decode cX12_mostOf 11 = .ok (.if_icmp .ne 8, 3) := by decide +kernel
theorem dX12_mostOf_14 : decode cX12_mostOf 14 = .ok (.bipush 100, 2) := by decide +kernel
theorem dX12_mostOf_16 : decode cX12_mostOf 16 = .ok (.goto 15, 3) := by decide +kernel
theorem dX12_mostOf_19 : decode cX12_mostOf 19 = .ok (.iload_n 0, 1) := by decide +kernel
theorem dX12_mostOf_20 : decode cX12_mostOf 20 = .ok (.iconst 2, 1) := by decide +kernel
theorem dX12_mostOf_21 : decode cX12_mostOf 21 = .ok (.if_icmp .ne 8, 3) := by decide +kernel
theorem dX12_mostOf_24 : decode cX12_mostOf 24 = .ok (.bipush 99, 2) := by decide +kernel
theorem dX12_mostOf_26 : decode cX12_mostOf 26 = .ok (.goto 5, 3) := by decide +kernel
theorem dX12_mostOf_29 : decode cX12_mostOf 29 = .ok (.bipush 15, 2) := by decide +kernel
theorem dX12_mostOf_31 : decode cX12_mostOf 31 = .ok (.ireturn, 1) := by decide +kernel
theorem dX12_share_0 : decode cX12_share 0 = .ok (.iload_n 1, 1) := by decide +kernel
theorem dX12_share_1 : decode cX12_share 1 = .ok (.invokestatic 333, 3) := by decide +kernel
theorem dX12_share_4 : decode cX12_share 4 = .ok (.ifCond .eq 13, 3) := by decide +kernel
theorem dX12_share_7 : decode cX12_share 7 = .ok (.aload_n 0, 1) := by decide +kernel
theorem dX12_share_8 : decode cX12_share 8 = .ok (.getfield 94, 3) := by decide +kernel
theorem dX12_share_11 : decode cX12_share 11 = .ok (.iload_n 1, 1) := by decide +kernel
theorem dX12_share_12 : decode cX12_share 12 = .ok (.baload, 1) := by decide +kernel
theorem dX12_share_13 : decode cX12_share 13 = .ok (.iload_n 2, 1) := by decide +kernel
theorem dX12_share_14 : decode cX12_share 14 = .ok (.if_icmp .ne 5, 3) := by decide +kernel
theorem dX12_share_17 : decode cX12_share 17 = .ok (.iconst 0, 1) := by decide +kernel
theorem dX12_share_18 : decode cX12_share 18 = .ok (.ireturn, 1) := by decide +kernel
theorem dX12_share_19 : decode cX12_share 19 = .ok (.aload_n 0, 1) := by decide +kernel
theorem dX12_share_20 : decode cX12_share 20 = .ok (.getfield 94, 3) := by decide +kernel
theorem dX12_share_23 : decode cX12_share 23 = .ok (.iload_n 1, 1) := by decide +kernel
theorem dX12_share_24 : decode cX12_share 24 = .ok (.iload_n 2, 1) := by decide +kernel
theorem dX12_share_25 : decode cX12_share 25 = .ok (.bastore, 1) := by decide +kernel
theorem dX12_share_26 : decode cX12_share 26 = .ok (.iconst 1, 1) := by decide +kernel
theorem dX12_share_27 : decode cX12_share 27 = .ok (.ireturn, 1) := by decide +kernel
theorem dX12_add_0 : decode cX12_add 0 = .ok (.aload_n 0, 1) := by decide +kernel
theorem dX12_add_1 : decode cX12_add 1 = .ok (.getfield 91, 3) := by decide +kernel
theorem dX12_add_4 : decode cX12_add 4 = .ok (.aload_n 0, 1) := by decide +kernel
theorem dX12_add_5 : decode cX12_add 5 = .ok (.getfield 327, 3) := by decide +kernel
theorem dX12_add_8 : decode cX12_add 8 = .ok (.iload_n 1, 1) := by decide +kernel
theorem dX12_add_9 : decode cX12_add 9 = .ok (.bastore, 1) := by decide +kernel
theorem dX12_add_10 : decode cX12_add 10 = .ok (.aload_n 0, 1) := by decide +kernel
theorem dX12_add_11 : decode cX12_add 11 = .ok (.getfield 73, 3) := by decide +kernel
theorem dX12_add_14 : decode cX12_add 14 = .ok (.aload_n 0, 1) := by decide +kernel
theorem dX12_add_15 : decode cX12_add 15 = .ok (.getfield 327, 3) := by decide +kernel
theorem dX12_add_18 : decode cX12_add 18 = .ok (.iload_n 2, 1) := by decide +kernel
theorem dX12_add_19 : decode cX12_add 19 = .ok (.iastore, 1) := by decide +kernel
theorem dX12_add_20 : decode cX12_add 20 = .ok (.aload_n 0, 1) := by decide +kernel
theorem dX12_add_21 : decode cX12_add 21 = .ok (.getfield 76, 3) := by decide +kernel
theorem dX12_add_24 : decode cX12_add 24 = .ok (.aload_n 0, 1) := by decide +kernel
theorem dX12_add_25 : decode cX12_add 25 = .ok (.getfield 327, 3) := by decide +kernel
theorem dX12_add_28 : decode cX12_add 28 = .ok (.iload_n 3, 1) := by decide +kernel
theorem dX12_add_29 : decode cX12_add 29 = .ok (.iastore, 1) := by decide +kernel
theorem dX12_add_30 : decode cX12_add 30 = .ok (.aload_n 0, 1) := by decide +kernel
theorem dX12_add_31 : decode cX12_add 31 = .ok (.getfield 79, 3) := by decide +kernel
theorem dX12_add_34 : decode cX12_add 34 = .ok (.aload_n 0, 1) := by decide +kernel
theorem dX12_add_35 : decode cX12_add 35 = .ok (.getfield 327, 3) := by decide +kernel
theorem dX12_add_38 : decode cX12_add 38 = .ok (.iload 4, 2) := by decide +kernel
theorem dX12_add_40 : decode cX12_add 40 = .ok (.iastore, 1) := by decide +kernel
theorem dX12_add_41 : decode cX12_add 41 = .ok (.aload_n 0, 1) := by decide +kernel
theorem dX12_add_42 : decode cX12_add 42 = .ok (.getfield 82, 3) := by decide +kernel
theorem dX12_add_45 : decode cX12_add 45 = .ok (.aload_n 0, 1) := by decide +kernel
theorem dX12_add_46 : decode cX12_add 46 = .ok (.getfield 327, 3) := by decide +kernel
theorem dX12_add_49 : decode cX12_add 49 = .ok (.iload 5, 2) := by decide +kernel
theorem dX12_add_51 : decode cX12_add 51 = .ok (.iastore, 1) := by decide +kernel
theorem dX12_add_52 : decode cX12_add 52 = .ok (.aload_n 0, 1) := by decide +kernel
theorem dX12_add_53 : decode cX12_add 53 = .ok (.getfield 85, 3) := by decide +kernel
theorem dX12_add_56 : decode cX12_add 56 = .ok (.aload_n 0, 1) := by decide +kernel
theorem dX12_add_57 : decode cX12_add 57 = .ok (.getfield 327, 3) := by decide +kernel
theorem dX12_add_60 : decode cX12_add 60 = .ok (.aload_n 0, 1) := by decide +kernel
theorem dX12_add_61 : decode cX12_add 61 = .ok (.getfield 336, 3) := by decide +kernel
theorem dX12_add_64 : decode cX12_add 64 = .ok (.iastore, 1) := by decide +kernel
theorem dX12_add_65 : decode cX12_add 65 = .ok (.aload_n 0, 1) := by decide +kernel
theorem dX12_add_66 : decode cX12_add 66 = .ok (.getfield 88, 3) := by decide +kernel
theorem dX12_add_69 : decode cX12_add 69 = .ok (.aload_n 0, 1) := by decide +kernel
theorem dX12_add_70 : decode cX12_add 70 = .ok (.getfield 327, 3) := by decide +kernel
theorem dX12_add_73 : decode cX12_add 73 = .ok (.iconst (-1), 1) := by decide +kernel
theorem dX12_add_74 : decode cX12_add 74 = .ok (.iastore, 1) := by decide +kernel
theorem dX12_add_75 : decode cX12_add 75 = .ok (.aload_n 0, 1) := by decide +kernel
theorem dX12_add_76 : decode cX12_add 76 = .ok (.dup, 1) := by decide +kernel
theorem dX12_add_77 : decode cX12_add 77 = .ok (.getfield 327, 3) := by decide +kernel
theorem dX12_add_80 : decode cX12_add 80 = .ok (.iconst 1, 1) := by decide +kernel
theorem dX12_add_81 : decode cX12_add 81 = .ok (.iadd, 1) := by decide +kernel
theorem dX12_add_82 : decode cX12_add 82 = .ok (.putfield 327, 3) := by decide +kernel
theorem dX12_add_85 : decode cX12_add 85 = .ok (.aload_n 0, 1) := by decide +kernel
theorem dX12_add_86 : decode cX12_add 86 = .ok (.getfield 327, 3) := by decide +kernel
theorem dX12_add_89 : decode cX12_add 89 = .ok (.iconst 1, 1) := by decide +kernel
theorem dX12_add_90 : decode cX12_add 90 = .ok (.isub, 1) := by decide +kernel
theorem dX12_add_91 : decode cX12_add 91 = .ok (.ireturn, 1) := by decide +kernel
theorem dX12_far_0 : decode cX12_far 0 = .ok (.iload_n 1, 1) := by decide +kernel
theorem dX12_far_1 : decode cX12_far 1 = .ok (.ifCond .lt 41, 3) := by decide +kernel
theorem dX12_far_4 : decode cX12_far 4 = .ok (.iload_n 1, 1) := by decide +kernel
theorem dX12_far_5 : decode cX12_far 5 = .ok (.iconst 3, 1) := by decide +kernel
theorem dX12_far_6 : decode cX12_far 6 = .ok (.if_icmp .gt 36, 3) := by decide +kernel
theorem dX12_far_9 : decode cX12_far 9 = .ok (.iload_n 2, 1) := by decide +kernel
theorem dX12_far_10 : decode cX12_far 10 = .ok (.invokestatic 333, 3) := by decide +kernel
theorem dX12_far_13 : decode cX12_far 13 = .ok (.ifCond .eq 29, 3) := by decide +kernel
theorem dX12_far_16 : decode cX12_far 16 = .ok (.iload_n 3, 1) := by decide +kernel
theorem dX12_far_17 : decode cX12_far 17 = .ok (.iload_n 1, 1) := by decide +kernel
theorem dX12_far_18 : decode cX12_far 18 = .ok (.invokestatic 339, 3) := by decide +kernel
theorem dX12_far_21 : decode cX12_far 21 = .ok (.if_icmp .lt 21, 3) := by decide +kernel
theorem dX12_far_24 : decode cX12_far 24 = .ok (.iload_n 3, 1) := by decide +kernel
theorem dX12_far_25 : decode cX12_far 25 = .ok (.iload_n 1, 1) := by decide +kernel
theorem dX12_far_26 : decode cX12_far 26 = .ok (.invokestatic 342, 3) := by decide +kernel
theorem dX12_far_29 : decode cX12_far 29 = .ok (.if_icmp .gt 13, 3) := by decide +kernel
theorem dX12_far_32 : decode cX12_far 32 = .ok (.aload_n 0, 1) := by decide +kernel
theorem dX12_far_33 : decode cX12_far 33 = .ok (.getfield 327, 3) := by decide +kernel
theorem dX12_far_36 : decode cX12_far 36 = .ok (.sipush 300, 3) := by decide +kernel
theorem dX12_far_39 : decode cX12_far 39 = .ok (.if_icmp .ne 5, 3) := by decide +kernel
theorem dX12_far_42 : decode cX12_far 42 = .ok (.iconst (-1), 1) := by decide +kernel
theorem dX12_far_43 : decode cX12_far 43 = .ok (.ireturn, 1) := by decide +kernel
theorem dX12_far_44 : decode cX12_far 44 = .ok (.aload_n 0, 1) := by decide +kernel
theorem dX12_far_45 : decode cX12_far 45 = .ok (.iconst 1, 1) := by decide +kernel
theorem dX12_far_46 : decode cX12_far 46 = .ok (.iload_n 1, 1) := by decide +kernel
theorem dX12_far_47 : decode cX12_far 47 = .ok (.iload_n 2, 1) := by decide +kernel
theorem dX12_far_48 : decode cX12_far 48 = .ok (.iconst 0, 1) := by decide +kernel
theorem dX12_far_49 : decode cX12_far 49 = .ok (.iload_n 3, 1) := by decide +kernel
theorem dX12_far_50 : decode cX12_far 50 = .ok (.invokevirtual 345, 3) := by decide +kernel
theorem dX12_far_53 : decode cX12_far 53 = .ok (.ireturn, 1) := by decide +kernel
theorem dX12_read_0 : decode cX12_read 0 = .ok (.aload_n 0, 1) := by decide +kernel
theorem dX12_read_1 : decode cX12_read 1 = .ok (.iload_n 1, 1) := by decide +kernel
theorem dX12_read_2 : decode cX12_read 2 = .ok (.invokevirtual 349, 3) := by decide +kernel
theorem dX12_read_5 : decode cX12_read 5 = .ok (.ifCond .eq 30, 3) := by decide +kernel
theorem dX12_read_8 : decode cX12_read 8 = .ok (.iload_n 2, 1) := by decide +kernel
theorem dX12_read_9 : decode cX12_read 9 = .ok (.invokestatic 333, 3) := by decide +kernel
theorem dX12_read_12 : decode cX12_read 12 = .ok (.ifCond .eq 23, 3) := by decide +kernel
theorem dX12_read_15 : decode cX12_read 15 = .ok (.iload_n 3, 1) := by decide +kernel
theorem dX12_read_16 : decode cX12_read 16 = .ok (.ifCond .lt 19, 3) := by decide +kernel
theorem dX12_read_19 : decode cX12_read 19 = .ok (.iload_n 3, 1) := by decide +kernel
theorem dX12_read_20 : decode cX12_read 20 = .ok (.bipush 10, 2) := by decide +kernel
theorem dX12_read_22 : decode cX12_read 22 = .ok (.if_icmp .ge 13, 3) := by decide +kernel
theorem dX12_read_25 : decode cX12_read 25 = .ok (.aload_n 0, 1) := by decide +kernel
theorem dX12_read_26 : decode cX12_read 26 = .ok (.getfield 327, 3) := by decide +kernel
theorem dX12_read_29 : decode cX12_read 29 = .ok (.sipush 300, 3) := by decide +kernel
theorem dX12_read_32 : decode cX12_read 32 = .ok (.if_icmp .ne 5, 3) := by decide +kernel
theorem dX12_read_35 : decode cX12_read 35 = .ok (.iconst (-1), 1) := by decide +kernel
theorem dX12_read_36 : decode cX12_read 36 = .ok (.ireturn, 1) := by decide +kernel
theorem dX12_read_37 : decode cX12_read 37 = .ok (.aload_n 0, 1) := by decide +kernel
theorem dX12_read_38 : decode cX12_read 38 = .ok (.getfield 33, 3) := by decide +kernel
theorem dX12_read_41 : decode cX12_read 41 = .ok (.iload_n 1, 1) := by decide +kernel
theorem dX12_read_42 : decode cX12_read 42 = .ok (.iaload, 1) := by decide +kernel
theorem dX12_read_43 : decode cX12_read 43 = .ok (.iconst 3, 1) := by decide +kernel
theorem dX12_read_44 : decode cX12_read 44 = .ok (.if_icmp .ne 7, 3) := by decide +kernel
theorem dX12_read_47 : decode cX12_read 47 = .ok (.iconst 1, 1) := by decide +kernel
theorem dX12_read_48 : decode cX12_read 48 = .ok (.goto 4, 3) := by decide +kernel
theorem dX12_read_51 : decode cX12_read 51 = .ok (.iconst 0, 1) := by decide +kernel
theorem dX12_read_52 : decode cX12_read 52 = .ok (.istore 5, 2) := by decide +kernel
theorem dX12_read_54 : decode cX12_read 54 = .ok (.iload 4, 2) := by decide +kernel
theorem dX12_read_56 : decode cX12_read 56 = .ok (.iload 5, 2) := by decide +kernel
theorem dX12_read_58 : decode cX12_read 58 = .ok (.ifCond .eq 7, 3) := by decide +kernel
theorem dX12_read_61 : decode cX12_read 61 = .ok (.iconst 0, 1) := by decide +kernel
theorem dX12_read_62 : decode cX12_read 62 = .ok (.goto 6, 3) := by decide +kernel
theorem dX12_read_65 : decode cX12_read 65 = .ok (.sipush (-999), 3) := by decide +kernel
theorem dX12_read_68 : decode cX12_read 68 = .ok (.if_icmp .lt 21, 3) := by decide +kernel
theorem dX12_read_71 : decode cX12_read 71 = .ok (.iload 4, 2) := by decide +kernel
theorem dX12_read_73 : decode cX12_read 73 = .ok (.iload 5, 2) := by decide +kernel
theorem dX12_read_75 : decode cX12_read 75 = .ok (.ifCond .eq 8, 3) := by decide +kernel
theorem dX12_read_78 : decode cX12_read 78 = .ok (.bipush 15, 2) := by decide +kernel
theorem dX12_read_80 : decode cX12_read 80 = .ok (.goto 6, 3) := by decide +kernel
theorem dX12_read_83 : decode cX12_read 83 = .ok (.sipush 999, 3) := by decide +kernel
theorem dX12_read_86 : decode cX12_read 86 = .ok (.if_icmp .le 7, 3) := by decide +kernel
theorem dX12_read_89 : decode cX12_read 89 = .ok (.iconst (-1), 1) := by decide +kernel
theorem dX12_read_90 : decode cX12_read 90 = .ok (.goto 13, 3) := by decide +kernel
theorem dX12_read_93 : decode cX12_read 93 = .ok (.aload_n 0, 1) := by decide +kernel
theorem dX12_read_94 : decode cX12_read 94 = .ok (.iconst 0, 1) := by decide +kernel
theorem dX12_read_95 : decode cX12_read 95 = .ok (.iload_n 1, 1) := by decide +kernel
theorem dX12_read_96 : decode cX12_read 96 = .ok (.iload_n 2, 1) := by decide +kernel
theorem dX12_read_97 : decode cX12_read 97 = .ok (.iload_n 3, 1) := by decide +kernel
theorem dX12_read_98 : decode cX12_read 98 = .ok (.iload 4, 2) := by decide +kernel
theorem dX12_read_100 : decode cX12_read 100 = .ok (.invokevirtual 345, 3) := by decide +kernel
theorem dX12_read_103 : decode cX12_read 103 = .ok (.ireturn, 1) := by decide +kernel
theorem dX12_doubt_0 : decode cX12_doubt 0 = .ok (.iload_n 1, 1) := by decide +kernel
theorem dX12_doubt_1 : decode cX12_doubt 1 = .ok (.ifCond .lt 19, 3) := by decide +kernel
theorem dX12_doubt_4 : decode cX12_doubt 4 = .ok (.iload_n 1, 1) := by decide +kernel
theorem dX12_doubt_5 : decode cX12_doubt 5 = .ok (.bipush 10, 2) := by decide +kernel
theorem dX12_doubt_7 : decode cX12_doubt 7 = .ok (.if_icmp .ge 13, 3) := by decide +kernel
theorem dX12_doubt_10 : decode cX12_doubt 10 = .ok (.aload_n 0, 1) := by decide +kernel
theorem dX12_doubt_11 : decode cX12_doubt 11 = .ok (.getfield 97, 3) := by decide +kernel
theorem dX12_doubt_14 : decode cX12_doubt 14 = .ok (.iload_n 1, 1) := by decide +kernel
theorem dX12_doubt_15 : decode cX12_doubt 15 = .ok (.baload, 1) := by decide +kernel
theorem dX12_doubt_16 : decode cX12_doubt 16 = .ok (.iload_n 2, 1) := by decide +kernel
theorem dX12_doubt_17 : decode cX12_doubt 17 = .ok (.if_icmp .ne 5, 3) := by decide +kernel
theorem dX12_doubt_20 : decode cX12_doubt 20 = .ok (.iconst 0, 1) := by decide +kernel
theorem dX12_doubt_21 : decode cX12_doubt 21 = .ok (.ireturn, 1) := by decide +kernel
theorem dX12_doubt_22 : decode cX12_doubt 22 = .ok (.aload_n 0, 1) := by decide +kernel
theorem dX12_doubt_23 : decode cX12_doubt 23 = .ok (.getfield 97, 3) := by decide +kernel
theorem dX12_doubt_26 : decode cX12_doubt 26 = .ok (.iload_n 1, 1) := by decide +kernel
theorem dX12_doubt_27 : decode cX12_doubt 27 = .ok (.iload_n 2, 1) := by decide +kernel
theorem dX12_doubt_28 : decode cX12_doubt 28 = .ok (.bastore, 1) := by decide +kernel
theorem dX12_doubt_29 : decode cX12_doubt 29 = .ok (.iconst 1, 1) := by decide +kernel
theorem dX12_doubt_30 : decode cX12_doubt 30 = .ok (.ireturn, 1) := by decide +kernel
theorem dX12_untell_0 : decode cX12_untell 0 = .ok (.iload_n 1, 1) := by decide +kernel
theorem dX12_untell_1 : decode cX12_untell 1 = .ok (.ifCond .lt 20, 3) := by decide +kernel
theorem dX12_untell_4 : decode cX12_untell 4 = .ok (.iload_n 1, 1) := by decide +kernel
theorem dX12_untell_5 : decode cX12_untell 5 = .ok (.aload_n 0, 1) := by decide +kernel
theorem dX12_untell_6 : decode cX12_untell 6 = .ok (.getfield 327, 3) := by decide +kernel
theorem dX12_untell_9 : decode cX12_untell 9 = .ok (.if_icmp .ge 12, 3) := by decide +kernel
theorem dX12_untell_12 : decode cX12_untell 12 = .ok (.aload_n 0, 1) := by decide +kernel
theorem dX12_untell_13 : decode cX12_untell 13 = .ok (.getfield 88, 3) := by decide +kernel
theorem dX12_untell_16 : decode cX12_untell 16 = .ok (.iload_n 1, 1) := by decide +kernel
theorem dX12_untell_17 : decode cX12_untell 17 = .ok (.iaload, 1) := by decide +kernel
theorem dX12_untell_18 : decode cX12_untell 18 = .ok (.ifCond .lt 5, 3) := by decide +kernel
theorem dX12_untell_21 : decode cX12_untell 21 = .ok (.iconst 0, 1) := by decide +kernel
theorem dX12_untell_22 : decode cX12_untell 22 = .ok (.ireturn, 1) := by decide +kernel
theorem dX12_untell_23 : decode cX12_untell 23 = .ok (.aload_n 0, 1) := by decide +kernel
theorem dX12_untell_24 : decode cX12_untell 24 = .ok (.getfield 88, 3) := by decide +kernel
theorem dX12_untell_27 : decode cX12_untell 27 = .ok (.iload_n 1, 1) := by decide +kernel
theorem dX12_untell_28 : decode cX12_untell 28 = .ok (.aload_n 0, 1) := by decide +kernel
theorem dX12_untell_29 : decode cX12_untell 29 = .ok (.getfield 336, 3) := by decide +kernel
theorem dX12_untell_32 : decode cX12_untell 32 = .ok (.iastore, 1) := by decide +kernel
theorem dX12_untell_33 : decode cX12_untell 33 = .ok (.iconst 1, 1) := by decide +kernel
theorem dX12_untell_34 : decode cX12_untell 34 = .ok (.ireturn, 1) := by decide +kernel
theorem dX12_later_0 : decode cX12_later 0 = .ok (.iload_n 1, 1) := by decide +kernel
theorem dX12_later_1 : decode cX12_later 1 = .ok (.ifCond .lt 22, 3) := by decide +kernel
theorem dX12_later_4 : decode cX12_later 4 = .ok (.iload_n 1, 1) := by decide +kernel
theorem dX12_later_5 : decode cX12_later 5 = .ok (.sipush 1000, 3) := by decide +kernel
theorem dX12_later_8 : decode cX12_later 8 = .ok (.if_icmp .gt 15, 3) := by decide +kernel
theorem dX12_later_11 : decode cX12_later 11 = .ok (.aload_n 0, 1) := by decide +kernel
theorem dX12_later_12 : decode cX12_later 12 = .ok (.getfield 336, 3) := by decide +kernel
theorem dX12_later_15 : decode cX12_later 15 = .ok (.iload_n 1, 1) := by decide +kernel
theorem dX12_later_16 : decode cX12_later 16 = .ok (.iadd, 1) := by decide +kernel
theorem dX12_later_17 : decode cX12_later 17 = .ok (.ldc_w 352, 3) := by decide +kernel
theorem dX12_later_20 : decode cX12_later 20 = .ok (.if_icmp .le 5, 3) := by decide +kernel
theorem dX12_later_23 : decode cX12_later 23 = .ok (.iconst (-1), 1) := by decide +kernel
theorem dX12_later_24 : decode cX12_later 24 = .ok (.ireturn, 1) := by decide +kernel
theorem dX12_later_25 : decode cX12_later 25 = .ok (.aload_n 0, 1) := by decide +kernel
theorem dX12_later_26 : decode cX12_later 26 = .ok (.dup, 1) := by decide +kernel
theorem dX12_later_27 : decode cX12_later 27 = .ok (.getfield 336, 3) := by decide +kernel
theorem dX12_later_30 : decode cX12_later 30 = .ok (.iload_n 1, 1) := by decide +kernel
theorem dX12_later_31 : decode cX12_later 31 = .ok (.iadd, 1) := by decide +kernel
theorem dX12_later_32 : decode cX12_later 32 = .ok (.putfield 336, 3) := by decide +kernel
theorem dX12_later_35 : decode cX12_later 35 = .ok (.aload_n 0, 1) := by decide +kernel
theorem dX12_later_36 : decode cX12_later 36 = .ok (.getfield 336, 3) := by decide +kernel
theorem dX12_later_39 : decode cX12_later 39 = .ok (.ireturn, 1) := by decide +kernel
theorem dX12_layOut_0 : decode cX12_layOut 0 = .ok (.iconst 0, 1) := by decide +kernel
theorem dX12_layOut_1 : decode cX12_layOut 1 = .ok (.istore_n 2, 1) := by decide +kernel
theorem dX12_layOut_2 : decode cX12_layOut 2 = .ok (.iload_n 2, 1) := by decide +kernel
theorem dX12_layOut_3 : decode cX12_layOut 3 = .ok (.sipush 240, 3) := by decide +kernel
theorem dX12_layOut_6 : decode cX12_layOut 6 = .ok (.if_icmp .ge 18, 3) := by decide +kernel
theorem dX12_layOut_9 : decode cX12_layOut 9 = .ok (.aload_n 0, 1) := by decide +kernel
theorem dX12_layOut_10 : decode cX12_layOut 10 = .ok (.getfield 100, 3) := by decide +kernel
theorem dX12_layOut_13 : decode cX12_layOut 13 = .ok (.iload_n 2, 1) := by decide +kernel
theorem dX12_layOut_14 : decode cX12_layOut 14 = .ok (.ldc_w 353, 3) := by decide +kernel
theorem dX12_layOut_17 : decode cX12_layOut 17 = .ok (.iastore, 1) := by decide +kernel
theorem dX12_layOut_18 : decode cX12_layOut 18 = .ok (.iinc 2 1, 3) := by decide +kernel
theorem dX12_layOut_21 : decode cX12_layOut 21 = .ok (.goto (-19), 3) := by decide +kernel
theorem dX12_layOut_24 : decode cX12_layOut 24 = .ok (.iconst 0, 1) := by decide +kernel
theorem dX12_layOut_25 : decode cX12_layOut 25 = .ok (.istore_n 2, 1) := by decide +kernel
theorem dX12_layOut_26 : decode cX12_layOut 26 = .ok (.iload_n 2, 1) := by decide +kernel
theorem dX12_layOut_27 : decode cX12_layOut 27 = .ok (.sipush 300, 3) := by decide +kernel
theorem dX12_layOut_30 : decode cX12_layOut 30 = .ok (.if_icmp .ge 18, 3) := by decide +kernel
theorem dX12_layOut_33 : decode cX12_layOut 33 = .ok (.aload_n 0, 1) := by decide +kernel
theorem dX12_layOut_34 : decode cX12_layOut 34 = .ok (.getfield 103, 3) := by decide +kernel
theorem dX12_layOut_37 : decode cX12_layOut 37 = .ok (.iload_n 2, 1) := by decide +kernel
theorem dX12_layOut_38 : decode cX12_layOut 38 = .ok (.ldc_w 353, 3) := by decide +kernel
theorem dX12_layOut_41 : decode cX12_layOut 41 = .ok (.iastore, 1) := by decide +kernel
theorem dX12_layOut_42 : decode cX12_layOut 42 = .ok (.iinc 2 1, 3) := by decide +kernel
theorem dX12_layOut_45 : decode cX12_layOut 45 = .ok (.goto (-19), 3) := by decide +kernel
theorem dX12_layOut_48 : decode cX12_layOut 48 = .ok (.iconst 0, 1) := by decide +kernel
theorem dX12_layOut_49 : decode cX12_layOut 49 = .ok (.istore_n 2, 1) := by decide +kernel
theorem dX12_layOut_50 : decode cX12_layOut 50 = .ok (.iload_n 2, 1) := by decide +kernel
theorem dX12_layOut_51 : decode cX12_layOut 51 = .ok (.aload_n 0, 1) := by decide +kernel
theorem dX12_layOut_52 : decode cX12_layOut 52 = .ok (.getfield 327, 3) := by decide +kernel
theorem dX12_layOut_55 : decode cX12_layOut 55 = .ok (.if_icmp .ge 152, 3) := by decide +kernel
theorem dX12_layOut_58 : decode cX12_layOut 58 = .ok (.aload_n 0, 1) := by decide +kernel
theorem dX12_layOut_59 : decode cX12_layOut 59 = .ok (.getfield 85, 3) := by decide +kernel
theorem dX12_layOut_62 : decode cX12_layOut 62 = .ok (.iload_n 2, 1) := by decide +kernel
theorem dX12_layOut_63 : decode cX12_layOut 63 = .ok (.iaload, 1) := by decide +kernel
theorem dX12_layOut_64 : decode cX12_layOut 64 = .ok (.iload_n 1, 1) := by decide +kernel
theorem dX12_layOut_65 : decode cX12_layOut 65 = .ok (.if_icmp .gt 136, 3) := by decide +kernel
theorem dX12_layOut_68 : decode cX12_layOut 68 = .ok (.aload_n 0, 1) := by decide +kernel
theorem dX12_layOut_69 : decode cX12_layOut 69 = .ok (.getfield 88, 3) := by decide +kernel
theorem dX12_layOut_72 : decode cX12_layOut 72 = .ok (.iload_n 2, 1) := by decide +kernel
theorem dX12_layOut_73 : decode cX12_layOut 73 = .ok (.iaload, 1) := by decide +kernel
theorem dX12_layOut_74 : decode cX12_layOut 74 = .ok (.ifCond .lt 16, 3) := by decide +kernel
theorem dX12_layOut_77 : decode cX12_layOut 77 = .ok (.aload_n 0, 1) := by decide +kernel
theorem dX12_layOut_78 : decode cX12_layOut 78 = .ok (.getfield 88, 3) := by decide +kernel
theorem dX12_layOut_81 : decode cX12_layOut 81 = .ok (.iload_n 2, 1) := by decide +kernel
theorem dX12_layOut_82 : decode cX12_layOut 82 = .ok (.iaload, 1) := by decide +kernel
theorem dX12_layOut_83 : decode cX12_layOut 83 = .ok (.iload_n 1, 1) := by decide +kernel
theorem dX12_layOut_84 : decode cX12_layOut 84 = .ok (.if_icmp .gt 6, 3) := by decide +kernel
theorem dX12_layOut_87 : decode cX12_layOut 87 = .ok (.goto 114, 3) := by decide +kernel
theorem dX12_layOut_90 : decode cX12_layOut 90 = .ok (.bipush 60, 2) := by decide +kernel
theorem dX12_layOut_92 : decode cX12_layOut 92 = .ok (.aload_n 0, 1) := by decide +kernel
theorem dX12_layOut_93 : decode cX12_layOut 93 = .ok (.getfield 73, 3) := by decide +kernel
theorem dX12_layOut_96 : decode cX12_layOut 96 = .ok (.iload_n 2, 1) := by decide +kernel
theorem dX12_layOut_97 : decode cX12_layOut 97 = .ok (.iaload, 1) := by decide +kernel
theorem dX12_layOut_98 : decode cX12_layOut 98 = .ok (.imul, 1) := by decide +kernel
theorem dX12_layOut_99 : decode cX12_layOut 99 = .ok (.aload_n 0, 1) := by decide +kernel
theorem dX12_layOut_100 : decode cX12_layOut 100 = .ok (.getfield 76, 3) := by decide +kernel
theorem dX12_layOut_103 : decode cX12_layOut 103 = .ok (.iload_n 2, 1) := by decide +kernel
theorem dX12_layOut_104 : decode cX12_layOut 104 = .ok (.iaload, 1) := by decide +kernel
theorem dX12_layOut_105 : decode cX12_layOut 105 = .ok (.iadd, 1) := by decide +kernel
theorem dX12_layOut_106 : decode cX12_layOut 106 = .ok (.istore_n 3, 1) := by decide +kernel
theorem dX12_layOut_107 : decode cX12_layOut 107 = .ok (.aload_n 0, 1) := by decide +kernel
theorem dX12_layOut_108 : decode cX12_layOut 108 = .ok (.getfield 91, 3) := by decide +kernel
theorem dX12_layOut_111 : decode cX12_layOut 111 = .ok (.iload_n 2, 1) := by decide +kernel
theorem dX12_layOut_112 : decode cX12_layOut 112 = .ok (.baload, 1) := by decide +kernel
theorem dX12_layOut_113 : decode cX12_layOut 113 = .ok (.ifCond .eq 15, 3) := by decide +kernel
theorem dX12_layOut_116 : decode cX12_layOut 116 = .ok (.aload_n 0, 1) := by decide +kernel
theorem dX12_layOut_117 : decode cX12_layOut 117 = .ok (.getfield 100, 3) := by decide +kernel
theorem dX12_layOut_120 : decode cX12_layOut 120 = .ok (.iload_n 3, 1) := by decide +kernel
theorem dX12_layOut_121 : decode cX12_layOut 121 = .ok (.aload_n 0, 1) := by decide +kernel
theorem dX12_layOut_122 : decode cX12_layOut 122 = .ok (.getfield 82, 3) := by decide +kernel
theorem dX12_layOut_125 : decode cX12_layOut 125 = .ok (.iload_n 2, 1) := by decide +kernel
theorem dX12_layOut_126 : decode cX12_layOut 126 = .ok (.iaload, 1) := by decide +kernel
theorem dX12_layOut_127 : decode cX12_layOut 127 = .ok (.iastore, 1) := by decide +kernel
theorem dX12_layOut_128 : decode cX12_layOut 128 = .ok (.aload_n 0, 1) := by decide +kernel
theorem dX12_layOut_129 : decode cX12_layOut 129 = .ok (.getfield 91, 3) := by decide +kernel
theorem dX12_layOut_132 : decode cX12_layOut 132 = .ok (.iload_n 2, 1) := by decide +kernel
theorem dX12_layOut_133 : decode cX12_layOut 133 = .ok (.baload, 1) := by decide +kernel
theorem dX12_layOut_134 : decode cX12_layOut 134 = .ok (.ifCond .ne 67, 3) := by decide +kernel
theorem dX12_layOut_137 : decode cX12_layOut 137 = .ok (.aload_n 0, 1) := by decide +kernel
theorem dX12_layOut_138 : decode cX12_layOut 138 = .ok (.getfield 67, 3) := by decide +kernel
theorem dX12_layOut_141 : decode cX12_layOut 141 = .ok (.aload_n 0, 1) := by decide +kernel
theorem dX12_layOut_142 : decode cX12_layOut 142 = .ok (.getfield 76, 3) := by decide +kernel
theorem dX12_layOut_145 : decode cX12_layOut 145 = .ok (.iload_n 2, 1) := by decide +kernel
theorem dX12_layOut_146 : decode cX12_layOut 146 = .ok (.iaload, 1) := by decide +kernel
theorem dX12_layOut_147 : decode cX12_layOut 147 = .ok (.baload, 1) := by decide +kernel
theorem dX12_layOut_148 : decode cX12_layOut 148 = .ok (.ifCond .ne 53, 3) := by decide +kernel
theorem dX12_layOut_151 : decode cX12_layOut 151 = .ok (.aload_n 0, 1) := by decide +kernel
theorem dX12_layOut_152 : decode cX12_layOut 152 = .ok (.getfield 64, 3) := by decide +kernel
theorem dX12_layOut_155 : decode cX12_layOut 155 = .ok (.iload_n 3, 1) := by decide +kernel
theorem dX12_layOut_156 : decode cX12_layOut 156 = .ok (.baload, 1) := by decide +kernel
theorem dX12_layOut_157 : decode cX12_layOut 157 = .ok (.ifCond .ne 44, 3) := by decide +kernel
theorem dX12_layOut_160 : decode cX12_layOut 160 = .ok (.aload_n 0, 1) := by decide +kernel
theorem dX12_layOut_161 : decode cX12_layOut 161 = .ok (.getfield 97, 3) := by decide +kernel
theorem dX12_layOut_164 : decode cX12_layOut 164 = .ok (.aload_n 0, 1) := by decide +kernel
theorem dX12_layOut_165 : decode cX12_layOut 165 = .ok (.getfield 79, 3) := by decide +kernel
theorem dX12_layOut_168 : decode cX12_layOut 168 = .ok (.iload_n 2, 1) := by decide +kernel
theorem dX12_layOut_169 : decode cX12_layOut 169 = .ok (.iaload, 1) := by decide +kernel
theorem dX12_layOut_170 : decode cX12_layOut 170 = .ok (.baload, 1) := by decide +kernel
theorem dX12_layOut_171 : decode cX12_layOut 171 = .ok (.ifCond .eq 6, 3) := by decide +kernel
theorem dX12_layOut_174 : decode cX12_layOut 174 = .ok (.goto 27, 3) := by decide +kernel
theorem dX12_layOut_177 : decode cX12_layOut 177 = .ok (.aload_n 0, 1) := by decide +kernel
theorem dX12_layOut_178 : decode cX12_layOut 178 = .ok (.getfield 103, 3) := by decide +kernel
theorem dX12_layOut_181 : decode cX12_layOut 181 = .ok (.iload_n 3, 1) := by decide +kernel
theorem dX12_layOut_182 : decode cX12_layOut 182 = .ok (.aload_n 0, 1) := by decide +kernel
theorem dX12_layOut_183 : decode cX12_layOut 183 = .ok (.getfield 82, 3) := by decide +kernel
theorem dX12_layOut_186 : decode cX12_layOut 186 = .ok (.iload_n 2, 1) := by decide +kernel
theorem dX12_layOut_187 : decode cX12_layOut 187 = .ok (.iaload, 1) := by decide +kernel
theorem dX12_layOut_188 : decode cX12_layOut 188 = .ok (.iastore, 1) := by decide +kernel
theorem dX12_layOut_189 : decode cX12_layOut 189 = .ok (.aload_n 0, 1) := by decide +kernel
theorem dX12_layOut_190 : decode cX12_layOut 190 = .ok (.getfield 106, 3) := by decide +kernel
theorem dX12_layOut_193 : decode cX12_layOut 193 = .ok (.iload_n 3, 1) := by decide +kernel
theorem dX12_layOut_194 : decode cX12_layOut 194 = .ok (.aload_n 0, 1) := by decide +kernel
theorem dX12_layOut_195 : decode cX12_layOut 195 = .ok (.getfield 79, 3) := by decide +kernel
theorem dX12_layOut_198 : decode cX12_layOut 198 = .ok (.iload_n 2, 1) := by decide +kernel
theorem dX12_layOut_199 : decode cX12_layOut 199 = .ok (.iaload, 1) := by decide +kernel
theorem dX12_layOut_200 : decode cX12_layOut 200 = .ok (.iastore, 1) := by decide +kernel
theorem dX12_layOut_201 : decode cX12_layOut 201 = .ok (.iinc 2 1, 3) := by decide +kernel
theorem dX12_layOut_204 : decode cX12_layOut 204 = .ok (.goto (-154), 3) := by decide +kernel
theorem dX12_layOut_207 : decode cX12_layOut 207 = .ok (.return_, 1) := by decide +kernel
theorem dX12_farOf_0 : decode cX12_farOf 0 = .ok (.iload_n 1, 1) := by decide +kernel
theorem dX12_farOf_1 : decode cX12_farOf 1 = .ok (.ifCond .lt 15, 3) := by decide +kernel
theorem dX12_farOf_4 : decode cX12_farOf 4 = .ok (.iload_n 1, 1) := by decide +kernel
theorem dX12_farOf_5 : decode cX12_farOf 5 = .ok (.iconst 3, 1) := by decide +kernel
theorem dX12_farOf_6 : decode cX12_farOf 6 = .ok (.if_icmp .gt 10, 3) := by decide +kernel
theorem dX12_farOf_9 : decode cX12_farOf 9 = .ok (.iload_n 2, 1) := by decide +kernel
theorem dX12_farOf_10 : decode cX12_farOf 10 = .ok (.invokestatic 333, 3) := by decide +kernel
theorem dX12_farOf_13 : decode cX12_farOf 13 = .ok (.ifCond .ne 7, 3) := by decide +kernel
theorem dX12_farOf_16 : decode cX12_farOf 16 = .ok (.ldc_w 353, 3) := by decide +kernel
theorem dX12_farOf_19 : decode cX12_farOf 19 = .ok (.ireturn, 1) := by decide +kernel
theorem dX12_farOf_20 : decode cX12_farOf 20 = .ok (.aload_n 0, 1) := by decide +kernel
theorem dX12_farOf_21 : decode cX12_farOf 21 = .ok (.iload_n 3, 1) := by decide +kernel
theorem dX12_farOf_22 : decode cX12_farOf 22 = .ok (.invokevirtual 354, 3) := by decide +kernel
theorem dX12_farOf_25 : decode cX12_farOf 25 = .ok (.aload_n 0, 1) := by decide +kernel
theorem dX12_farOf_26 : decode cX12_farOf 26 = .ok (.getfield 100, 3) := by decide +kernel
theorem dX12_farOf_29 : decode cX12_farOf 29 = .ok (.bipush 60, 2) := by decide +kernel
theorem dX12_farOf_31 : decode cX12_farOf 31 = .ok (.iload_n 1, 1) := by decide +kernel
theorem dX12_farOf_32 : decode cX12_farOf 32 = .ok (.imul, 1) := by decide +kernel
theorem dX12_farOf_33 : decode cX12_farOf 33 = .ok (.iload_n 2, 1) := by decide +kernel
theorem dX12_farOf_34 : decode cX12_farOf 34 = .ok (.iadd, 1) := by decide +kernel
theorem dX12_farOf_35 : decode cX12_farOf 35 = .ok (.iaload, 1) := by decide +kernel
theorem dX12_farOf_36 : decode cX12_farOf 36 = .ok (.ireturn, 1) := by decide +kernel
theorem dX12_isPlace_0 : decode cX12_isPlace 0 = .ok (.aload_n 0, 1) := by decide +kernel
theorem dX12_isPlace_1 : decode cX12_isPlace 1 = .ok (.iload_n 1, 1) := by decide +kernel
theorem dX12_isPlace_2 : decode cX12_isPlace 2 = .ok (.invokevirtual 349, 3) := by decide +kernel
theorem dX12_isPlace_5 : decode cX12_isPlace 5 = .ok (.ifCond .eq 14, 3) := by decide +kernel
theorem dX12_isPlace_8 : decode cX12_isPlace 8 = .ok (.iload_n 2, 1) := by decide +kernel
theorem dX12_isPlace_9 : decode cX12_isPlace 9 = .ok (.invokestatic 333, 3) := by decide +kernel
theorem dX12_isPlace_12 : decode cX12_isPlace 12 = .ok (.ifCond .eq 7, 3) := by decide +kernel
theorem dX12_isPlace_15 : decode cX12_isPlace 15 = .ok (.iconst 1, 1) := by decide +kernel
theorem dX12_isPlace_16 : decode cX12_isPlace 16 = .ok (.goto 4, 3) := by decide +kernel
theorem dX12_isPlace_19 : decode cX12_isPlace 19 = .ok (.iconst 0, 1) := by decide +kernel
theorem dX12_isPlace_20 : decode cX12_isPlace 20 = .ok (.ireturn, 1) := by decide +kernel
theorem dX12_reading_0 : decode cX12_reading 0 = .ok (.aload_n 0, 1) := by decide +kernel
theorem dX12_reading_1 : decode cX12_reading 1 = .ok (.iload_n 1, 1) := by decide +kernel
theorem dX12_reading_2 : decode cX12_reading 2 = .ok (.iload_n 2, 1) := by decide +kernel
theorem dX12_reading_3 : decode cX12_reading 3 = .ok (.invokevirtual 357, 3) := by decide +kernel
theorem dX12_reading_6 : decode cX12_reading 6 = .ok (.ifCond .ne 7, 3) := by decide +kernel
theorem dX12_reading_9 : decode cX12_reading 9 = .ok (.ldc_w 353, 3) := by decide +kernel
theorem dX12_reading_12 : decode cX12_reading 12 = .ok (.ireturn, 1) := by decide +kernel
theorem dX12_reading_13 : decode cX12_reading 13 = .ok (.aload_n 0, 1) := by decide +kernel
theorem dX12_reading_14 : decode cX12_reading 14 = .ok (.iload_n 3, 1) := by decide +kernel
theorem dX12_reading_15 : decode cX12_reading 15 = .ok (.invokevirtual 354, 3) := by decide +kernel
theorem dX12_reading_18 : decode cX12_reading 18 = .ok (.aload_n 0, 1) := by decide +kernel
theorem dX12_reading_19 : decode cX12_reading 19 = .ok (.getfield 103, 3) := by decide +kernel
theorem dX12_reading_22 : decode cX12_reading 22 = .ok (.bipush 60, 2) := by decide +kernel
theorem dX12_reading_24 : decode cX12_reading 24 = .ok (.iload_n 1, 1) := by decide +kernel
theorem dX12_reading_25 : decode cX12_reading 25 = .ok (.imul, 1) := by decide +kernel
theorem dX12_reading_26 : decode cX12_reading 26 = .ok (.iload_n 2, 1) := by decide +kernel
theorem dX12_reading_27 : decode cX12_reading 27 = .ok (.iadd, 1) := by decide +kernel
theorem dX12_reading_28 : decode cX12_reading 28 = .ok (.iaload, 1) := by decide +kernel
theorem dX12_reading_29 : decode cX12_reading 29 = .ok (.ireturn, 1) := by decide +kernel
theorem dX12_down_0 : decode cX12_down 0 = .ok (.iload_n 0, 1) := by decide +kernel
theorem dX12_down_1 : decode cX12_down 1 = .ok (.ifCond .ge 14, 3) := by decide +kernel
theorem dX12_down_4 : decode cX12_down 4 = .ok (.iload_n 1, 1) := by decide +kernel
theorem dX12_down_5 : decode cX12_down 5 = .ok (.iconst 1, 1) := by decide +kernel
theorem dX12_down_6 : decode cX12_down 6 = .ok (.isub, 1) := by decide +kernel
theorem dX12_down_7 : decode cX12_down 7 = .ok (.iload_n 0, 1) := by decide +kernel
theorem dX12_down_8 : decode cX12_down 8 = .ok (.isub, 1) := by decide +kernel
theorem dX12_down_9 : decode cX12_down 9 = .ok (.iload_n 1, 1) := by decide +kernel
theorem dX12_down_10 : decode cX12_down 10 = .ok (.idiv, 1) := by decide +kernel
theorem dX12_down_11 : decode cX12_down 11 = .ok (.ineg, 1) := by decide +kernel
theorem dX12_down_12 : decode cX12_down 12 = .ok (.goto 6, 3) := by decide +kernel
theorem dX12_down_15 : decode cX12_down 15 = .ok (.iload_n 0, 1) := by decide +kernel
theorem dX12_down_16 : decode cX12_down 16 = .ok (.iload_n 1, 1) := by decide +kernel
theorem dX12_down_17 : decode cX12_down 17 = .ok (.idiv, 1) := by decide +kernel
theorem dX12_down_18 : decode cX12_down 18 = .ok (.ireturn, 1) := by decide +kernel
theorem dX12_round_0 : decode cX12_round 0 = .ok (.iload_n 0, 1) := by decide +kernel
theorem dX12_round_1 : decode cX12_round 1 = .ok (.bipush 16, 2) := by decide +kernel
theorem dX12_round_3 : decode cX12_round 3 = .ok (.iload_n 0, 1) := by decide +kernel
theorem dX12_round_4 : decode cX12_round 4 = .ok (.bipush 16, 2) := by decide +kernel
theorem dX12_round_6 : decode cX12_round 6 = .ok (.invokestatic 361, 3) := by decide +kernel
theorem dX12_round_9 : decode cX12_round 9 = .ok (.imul, 1) := by decide +kernel
theorem dX12_round_10 : decode cX12_round 10 = .ok (.isub, 1) := by decide +kernel
theorem dX12_round_11 : decode cX12_round 11 = .ok (.ireturn, 1) := by decide +kernel
theorem dX12_stretchFrom_0 : decode cX12_stretchFrom 0 = .ok (.iload_n 2, 1) := by decide +kernel
theorem dX12_stretchFrom_1 : decode cX12_stretchFrom 1 = .ok (.istore_n 3, 1) := by decide +kernel
theorem dX12_stretchFrom_2 : decode cX12_stretchFrom 2 = .ok (.iload_n 3, 1) := by decide +kernel
theorem dX12_stretchFrom_3 : decode cX12_stretchFrom 3 = .ok (.ifCond .le 23, 3) := by decide +kernel
theorem dX12_stretchFrom_6 : decode cX12_stretchFrom 6 = .ok (.aload_n 0, 1) := by decide +kernel
theorem dX12_stretchFrom_7 : decode cX12_stretchFrom 7 = .ok (.getfield 58, 3) := by decide +kernel
theorem dX12_stretchFrom_10 : decode cX12_stretchFrom 10 = .ok (.bipush 60, 2) := by decide +kernel
theorem dX12_stretchFrom_12 : decode cX12_stretchFrom 12 = .ok (.iload_n 1, 1) := by decide +kernel
theorem dX12_stretchFrom_13 : decode cX12_stretchFrom 13 = .ok (.imul, 1) := by decide +kernel
theorem dX12_stretchFrom_14 : decode cX12_stretchFrom 14 = .ok (.iload_n 3, 1) := by decide +kernel
theorem dX12_stretchFrom_15 : decode cX12_stretchFrom 15 = .ok (.iadd, 1) := by decide +kernel
theorem dX12_stretchFrom_16 : decode cX12_stretchFrom 16 = .ok (.baload, 1) := by decide +kernel
theorem dX12_stretchFrom_17 : decode cX12_stretchFrom 17 = .ok (.ifCond .ne 9, 3) := by decide +kernel
theorem dX12_stretchFrom_20 : decode cX12_stretchFrom 20 = .ok (.iinc 3 (-1), 3) := by decide +kernel
theorem dX12_stretchFrom_23 : decode cX12_stretchFrom 23 = .ok (.goto (-21), 3) := by decide +kernel
theorem dX12_stretchFrom_26 : decode cX12_stretchFrom 26 = .ok (.iload_n 3, 1) := by decide +kernel
theorem dX12_stretchFrom_27 : decode cX12_stretchFrom 27 = .ok (.ireturn, 1) := by decide +kernel
theorem dX12_stretchTo_0 : decode cX12_stretchTo 0 = .ok (.iload_n 2, 1) := by decide +kernel
theorem dX12_stretchTo_1 : decode cX12_stretchTo 1 = .ok (.istore_n 3, 1) := by decide +kernel
theorem dX12_stretchTo_2 : decode cX12_stretchTo 2 = .ok (.iload_n 3, 1) := by decide +kernel
theorem dX12_stretchTo_3 : decode cX12_stretchTo 3 = .ok (.iconst 1, 1) := by decide +kernel
theorem dX12_stretchTo_4 : decode cX12_stretchTo 4 = .ok (.iadd, 1) := by decide +kernel
theorem dX12_stretchTo_5 : decode cX12_stretchTo 5 = .ok (.bipush 60, 2) := by decide +kernel
theorem dX12_stretchTo_7 : decode cX12_stretchTo 7 = .ok (.if_icmp .ge 25, 3) := by decide +kernel
theorem dX12_stretchTo_10 : decode cX12_stretchTo 10 = .ok (.aload_n 0, 1) := by decide +kernel
theorem dX12_stretchTo_11 : decode cX12_stretchTo 11 = .ok (.getfield 58, 3) := by decide +kernel
theorem dX12_stretchTo_14 : decode cX12_stretchTo 14 = .ok (.bipush 60, 2) := by decide +kernel
theorem dX12_stretchTo_16 : decode cX12_stretchTo 16 = .ok (.iload_n 1, 1) := by decide +kernel
theorem dX12_stretchTo_17 : decode cX12_stretchTo 17 = .ok (.imul, 1) := by decide +kernel
theorem dX12_stretchTo_18 : decode cX12_stretchTo 18 = .ok (.iload_n 3, 1) := by decide +kernel
theorem dX12_stretchTo_19 : decode cX12_stretchTo 19 = .ok (.iadd, 1) := by decide +kernel
theorem dX12_stretchTo_20 : decode cX12_stretchTo 20 = .ok (.iconst 1, 1) := by decide +kernel
theorem dX12_stretchTo_21 : decode cX12_stretchTo 21 = .ok (.iadd, 1) := by decide +kernel
theorem dX12_stretchTo_22 : decode cX12_stretchTo 22 = .ok (.baload, 1) := by decide +kernel
theorem dX12_stretchTo_23 : decode cX12_stretchTo 23 = .ok (.ifCond .ne 9, 3) := by decide +kernel
theorem dX12_stretchTo_26 : decode cX12_stretchTo 26 = .ok (.iinc 3 1, 3) := by decide +kernel
theorem dX12_stretchTo_29 : decode cX12_stretchTo 29 = .ok (.goto (-27), 3) := by decide +kernel
theorem dX12_stretchTo_32 : decode cX12_stretchTo 32 = .ok (.iload_n 3, 1) := by decide +kernel
theorem dX12_stretchTo_33 : decode cX12_stretchTo 33 = .ok (.ireturn, 1) := by decide +kernel
theorem dX12_ageOf_0 : decode cX12_ageOf 0 = .ok (.aload_n 0, 1) := by decide +kernel
theorem dX12_ageOf_1 : decode cX12_ageOf 1 = .ok (.iload_n 1, 1) := by decide +kernel
theorem dX12_ageOf_2 : decode cX12_ageOf 2 = .ok (.iload_n 2, 1) := by decide +kernel
theorem dX12_ageOf_3 : decode cX12_ageOf 3 = .ok (.invokevirtual 364, 3) := by decide +kernel
theorem dX12_ageOf_6 : decode cX12_ageOf 6 = .ok (.istore_n 3, 1) := by decide +kernel
theorem dX12_ageOf_7 : decode cX12_ageOf 7 = .ok (.iload_n 2, 1) := by decide +kernel
theorem dX12_ageOf_8 : decode cX12_ageOf 8 = .ok (.istore 4, 2) := by decide +kernel
theorem dX12_ageOf_10 : decode cX12_ageOf 10 = .ok (.iload 4, 2) := by decide +kernel
theorem dX12_ageOf_12 : decode cX12_ageOf 12 = .ok (.iload_n 3, 1) := by decide +kernel
theorem dX12_ageOf_13 : decode cX12_ageOf 13 = .ok (.if_icmp .le 24, 3) := by decide +kernel
theorem dX12_ageOf_16 : decode cX12_ageOf 16 = .ok (.aload_n 0, 1) := by decide +kernel
theorem dX12_ageOf_17 : decode cX12_ageOf 17 = .ok (.getfield 61, 3) := by decide +kernel
theorem dX12_ageOf_20 : decode cX12_ageOf 20 = .ok (.bipush 60, 2) := by decide +kernel
theorem dX12_ageOf_22 : decode cX12_ageOf 22 = .ok (.iload_n 1, 1) := by decide +kernel
theorem dX12_ageOf_23 : decode cX12_ageOf 23 = .ok (.imul, 1) := by decide +kernel
theorem dX12_ageOf_24 : decode cX12_ageOf 24 = .ok (.iload 4, 2) := by decide +kernel
theorem dX12_ageOf_26 : decode cX12_ageOf 26 = .ok (.iadd, 1) := by decide +kernel
theorem dX12_ageOf_27 : decode cX12_ageOf 27 = .ok (.baload, 1) := by decide +kernel
theorem dX12_ageOf_28 : decode cX12_ageOf 28 = .ok (.ifCond .ne 9, 3) := by decide +kernel
theorem dX12_ageOf_31 : decode cX12_ageOf 31 = .ok (.iinc 4 (-1), 3) := by decide +kernel
theorem dX12_ageOf_34 : decode cX12_ageOf 34 = .ok (.goto (-24), 3) := by decide +kernel
theorem dX12_ageOf_37 : decode cX12_ageOf 37 = .ok (.iload_n 2, 1) := by decide +kernel
theorem dX12_ageOf_38 : decode cX12_ageOf 38 = .ok (.iload 4, 2) := by decide +kernel
theorem dX12_ageOf_40 : decode cX12_ageOf 40 = .ok (.isub, 1) := by decide +kernel
theorem dX12_ageOf_41 : decode cX12_ageOf 41 = .ok (.ireturn, 1) := by decide +kernel
theorem dX12_showsBy_0 : decode cX12_showsBy 0 = .ok (.iload_n 3, 1) := by decide +kernel
theorem dX12_showsBy_1 : decode cX12_showsBy 1 = .ok (.iload 4, 2) := by decide +kernel
theorem dX12_showsBy_3 : decode cX12_showsBy 3 = .ok (.iload 6, 2) := by decide +kernel
theorem dX12_showsBy_5 : decode cX12_showsBy 5 = .ok (.imul, 1) := by decide +kernel
theorem dX12_showsBy_6 : decode cX12_showsBy 6 = .ok (.bipush 10, 2) := by decide +kernel
theorem dX12_showsBy_8 : decode cX12_showsBy 8 = .ok (.invokestatic 361, 3) := by decide +kernel
theorem dX12_showsBy_11 : decode cX12_showsBy 11 = .ok (.iadd, 1) := by decide +kernel
theorem dX12_showsBy_12 : decode cX12_showsBy 12 = .ok (.iload 5, 2) := by decide +kernel
theorem dX12_showsBy_14 : decode cX12_showsBy 14 = .ok (.aload_n 0, 1) := by decide +kernel
theorem dX12_showsBy_15 : decode cX12_showsBy 15 = .ok (.iload_n 1, 1) := by decide +kernel
theorem dX12_showsBy_16 : decode cX12_showsBy 16 = .ok (.iload_n 2, 1) := by decide +kernel
theorem dX12_showsBy_17 : decode cX12_showsBy 17 = .ok (.invokevirtual 367, 3) := by decide +kernel
theorem dX12_showsBy_20 : decode cX12_showsBy 20 = .ok (.imul, 1) := by decide +kernel
theorem dX12_showsBy_21 : decode cX12_showsBy 21 = .ok (.bipush 10, 2) := by decide +kernel
theorem dX12_showsBy_23 : decode cX12_showsBy 23 = .ok (.invokestatic 361, 3) := by decide +kernel
theorem dX12_showsBy_26 : decode cX12_showsBy 26 = .ok (.iadd, 1) := by decide +kernel
theorem dX12_showsBy_27 : decode cX12_showsBy 27 = .ok (.istore 7, 2) := by decide +kernel
theorem dX12_showsBy_29 : decode cX12_showsBy 29 = .ok (.aload_n 0, 1) := by decide +kernel
theorem dX12_showsBy_30 : decode cX12_showsBy 30 = .ok (.getfield 33, 3) := by decide +kernel
theorem dX12_showsBy_33 : decode cX12_showsBy 33 = .ok (.iload_n 1, 1) := by decide +kernel
theorem dX12_showsBy_34 : decode cX12_showsBy 34 = .ok (.iaload, 1) := by decide +kernel
theorem dX12_showsBy_35 : decode cX12_showsBy 35 = .ok (.iconst 3, 1) := by decide +kernel
theorem dX12_showsBy_36 : decode cX12_showsBy 36 = .ok (.if_icmp .ne 11, 3) := by decide +kernel
theorem dX12_showsBy_39 : decode cX12_showsBy 39 = .ok (.iload 7, 2) := by decide +kernel
theorem dX12_showsBy_41 : decode cX12_showsBy 41 = .ok (.invokestatic 370, 3) := by decide +kernel
theorem dX12_showsBy_44 : decode cX12_showsBy 44 = .ok (.goto 5, 3) := by decide +kernel
theorem dX12_showsBy_47 : decode cX12_showsBy 47 = .ok (.iload 7, 2) := by decide +kernel
theorem dX12_showsBy_49 : decode cX12_showsBy 49 = .ok (.ireturn, 1) := by decide +kernel
theorem dX12_showsOn_0 : decode cX12_showsOn 0 = .ok (.iload_n 2, 1) := by decide +kernel
theorem dX12_showsOn_1 : decode cX12_showsOn 1 = .ok (.iload 5, 2) := by decide +kernel
theorem dX12_showsOn_3 : decode cX12_showsOn 3 = .ok (.isub, 1) := by decide +kernel
theorem dX12_showsOn_4 : decode cX12_showsOn 4 = .ok (.ifCond .ge 9, 3) := by decide +kernel
theorem dX12_showsOn_7 : decode cX12_showsOn 7 = .ok (.ldc_w 353, 3) := by decide +kernel
theorem dX12_showsOn_10 : decode cX12_showsOn 10 = .ok (.goto 22, 3) := by decide +kernel
theorem dX12_showsOn_13 : decode cX12_showsOn 13 = .ok (.aload_n 0, 1) := by decide +kernel
theorem dX12_showsOn_14 : decode cX12_showsOn 14 = .ok (.getfield 100, 3) := by decide +kernel
theorem dX12_showsOn_17 : decode cX12_showsOn 17 = .ok (.bipush 60, 2) := by decide +kernel
theorem dX12_showsOn_19 : decode cX12_showsOn 19 = .ok (.aload_n 0, 1) := by decide +kernel
theorem dX12_showsOn_20 : decode cX12_showsOn 20 = .ok (.getfield 33, 3) := by decide +kernel
theorem dX12_showsOn_23 : decode cX12_showsOn 23 = .ok (.iload_n 1, 1) := by decide +kernel
theorem dX12_showsOn_24 : decode cX12_showsOn 24 = .ok (.iaload, 1) := by decide +kernel
theorem dX12_showsOn_25 : decode cX12_showsOn 25 = .ok (.imul, 1) := by decide +kernel
theorem dX12_showsOn_26 : decode cX12_showsOn 26 = .ok (.iload_n 2, 1) := by decide +kernel
theorem dX12_showsOn_27 : decode cX12_showsOn 27 = .ok (.iadd, 1) := by decide +kernel
theorem dX12_showsOn_28 : decode cX12_showsOn 28 = .ok (.iload 5, 2) := by decide +kernel
theorem dX12_showsOn_30 : decode cX12_showsOn 30 = .ok (.isub, 1) := by decide +kernel
theorem dX12_showsOn_31 : decode cX12_showsOn 31 = .ok (.iaload, 1) := by decide +kernel
theorem dX12_showsOn_32 : decode cX12_showsOn 32 = .ok (.istore 7, 2) := by decide +kernel
theorem dX12_showsOn_34 : decode cX12_showsOn 34 = .ok (.iload 7, 2) := by decide +kernel
theorem dX12_showsOn_36 : decode cX12_showsOn 36 = .ok (.ldc_w 353, 3) := by decide +kernel
theorem dX12_showsOn_39 : decode cX12_showsOn 39 = .ok (.if_icmp .ne 9, 3) := by decide +kernel
theorem dX12_showsOn_42 : decode cX12_showsOn 42 = .ok (.ldc_w 353, 3) := by decide +kernel
theorem dX12_showsOn_45 : decode cX12_showsOn 45 = .ok (.goto 16, 3) := by decide +kernel
theorem dX12_showsOn_48 : decode cX12_showsOn 48 = .ok (.aload_n 0, 1) := by decide +kernel
theorem dX12_showsOn_49 : decode cX12_showsOn 49 = .ok (.iload_n 1, 1) := by decide +kernel
theorem dX12_showsOn_50 : decode cX12_showsOn 50 = .ok (.iload_n 2, 1) := by decide +kernel
theorem dX12_showsOn_51 : decode cX12_showsOn 51 = .ok (.iload_n 3, 1) := by decide +kernel
theorem dX12_showsOn_52 : decode cX12_showsOn 52 = .ok (.iload 4, 2) := by decide +kernel
theorem dX12_showsOn_54 : decode cX12_showsOn 54 = .ok (.iload 6, 2) := by decide +kernel
theorem dX12_showsOn_56 : decode cX12_showsOn 56 = .ok (.iload 7, 2) := by decide +kernel
theorem dX12_showsOn_58 : decode cX12_showsOn 58 = .ok (.invokevirtual 373, 3) := by decide +kernel
theorem dX12_showsOn_61 : decode cX12_showsOn 61 = .ok (.ireturn, 1) := by decide +kernel
theorem dX12_fits_0 : decode cX12_fits 0 = .ok (.iload_n 3, 1) := by decide +kernel
theorem dX12_fits_1 : decode cX12_fits 1 = .ok (.iload_n 2, 1) := by decide +kernel
theorem dX12_fits_2 : decode cX12_fits 2 = .ok (.isub, 1) := by decide +kernel
theorem dX12_fits_3 : decode cX12_fits 3 = .ok (.istore 4, 2) := by decide +kernel
theorem dX12_fits_5 : decode cX12_fits 5 = .ok (.aload_n 0, 1) := by decide +kernel
theorem dX12_fits_6 : decode cX12_fits 6 = .ok (.getfield 33, 3) := by decide +kernel
theorem dX12_fits_9 : decode cX12_fits 9 = .ok (.iload_n 1, 1) := by decide +kernel
theorem dX12_fits_10 : decode cX12_fits 10 = .ok (.iaload, 1) := by decide +kernel
theorem dX12_fits_11 : decode cX12_fits 11 = .ok (.iconst 3, 1) := by decide +kernel
theorem dX12_fits_12 : decode cX12_fits 12 = .ok (.if_icmp .ne 32, 3) := by decide +kernel
theorem dX12_fits_15 : decode cX12_fits 15 = .ok (.iload 4, 2) := by decide +kernel
theorem dX12_fits_17 : decode cX12_fits 17 = .ok (.invokestatic 370, 3) := by decide +kernel
theorem dX12_fits_20 : decode cX12_fits 20 = .ok (.istore 4, 2) := by decide +kernel
theorem dX12_fits_22 : decode cX12_fits 22 = .ok (.iload 4, 2) := by decide +kernel
theorem dX12_fits_24 : decode cX12_fits 24 = .ok (.bipush 16, 2) := by decide +kernel
theorem dX12_fits_26 : decode cX12_fits 26 = .ok (.iload 4, 2) := by decide +kernel
theorem dX12_fits_28 : decode cX12_fits 28 = .ok (.isub, 1) := by decide +kernel
theorem dX12_fits_29 : decode cX12_fits 29 = .ok (.if_icmp .le 11, 3) := by decide +kernel
theorem dX12_fits_32 : decode cX12_fits 32 = .ok (.bipush 16, 2) := by decide +kernel
theorem dX12_fits_34 : decode cX12_fits 34 = .ok (.iload 4, 2) := by decide +kernel
theorem dX12_fits_36 : decode cX12_fits 36 = .ok (.isub, 1) := by decide +kernel
theorem dX12_fits_37 : decode cX12_fits 37 = .ok (.goto 5, 3) := by decide +kernel
theorem dX12_fits_40 : decode cX12_fits 40 = .ok (.iload 4, 2) := by decide +kernel
theorem dX12_fits_42 : decode cX12_fits 42 = .ok (.istore 4, 2) := by decide +kernel
theorem dX12_fits_44 : decode cX12_fits 44 = .ok (.iload 4, 2) := by decide +kernel
theorem dX12_fits_46 : decode cX12_fits 46 = .ok (.ifCond .ge 9, 3) := by decide +kernel
theorem dX12_fits_49 : decode cX12_fits 49 = .ok (.iload 4, 2) := by decide +kernel
theorem dX12_fits_51 : decode cX12_fits 51 = .ok (.ineg, 1) := by decide +kernel
theorem dX12_fits_52 : decode cX12_fits 52 = .ok (.goto 5, 3) := by decide +kernel
theorem dX12_fits_55 : decode cX12_fits 55 = .ok (.iload 4, 2) := by decide +kernel
theorem dX12_fits_57 : decode cX12_fits 57 = .ok (.aload_n 0, 1) := by decide +kernel
theorem dX12_fits_58 : decode cX12_fits 58 = .ok (.getfield 39, 3) := by decide +kernel
theorem dX12_fits_61 : decode cX12_fits 61 = .ok (.iload_n 1, 1) := by decide +kernel
theorem dX12_fits_62 : decode cX12_fits 62 = .ok (.iaload, 1) := by decide +kernel
theorem dX12_fits_63 : decode cX12_fits 63 = .ok (.if_icmp .gt 7, 3) := by decide +kernel
theorem dX12_fits_66 : decode cX12_fits 66 = .ok (.iconst 1, 1) := by decide +kernel
theorem dX12_fits_67 : decode cX12_fits 67 = .ok (.goto 4, 3) := by decide +kernel
theorem dX12_fits_70 : decode cX12_fits 70 = .ok (.iconst 0, 1) := by decide +kernel
theorem dX12_fits_71 : decode cX12_fits 71 = .ok (.ireturn, 1) := by decide +kernel
theorem dX12_seekLaws_0 : decode cX12_seekLaws 0 = .ok (.aload_n 0, 1) := by decide +kernel
theorem dX12_seekLaws_1 : decode cX12_seekLaws 1 = .ok (.iconst 0, 1) := by decide +kernel
theorem dX12_seekLaws_2 : decode cX12_seekLaws 2 = .ok (.putfield 377, 3) := by decide +kernel
theorem dX12_seekLaws_5 : decode cX12_seekLaws 5 = .ok (.aload_n 0, 1) := by decide +kernel
theorem dX12_seekLaws_6 : decode cX12_seekLaws 6 = .ok (.iconst 0, 1) := by decide +kernel
theorem dX12_seekLaws_7 : decode cX12_seekLaws 7 = .ok (.putfield 380, 3) := by decide +kernel
theorem dX12_seekLaws_10 : decode cX12_seekLaws 10 = .ok (.aload_n 0, 1) := by decide +kernel
theorem dX12_seekLaws_11 : decode cX12_seekLaws 11 = .ok (.iconst (-1), 1) := by decide +kernel
theorem dX12_seekLaws_12 : decode cX12_seekLaws 12 = .ok (.putfield 383, 3) := by decide +kernel
theorem dX12_seekLaws_15 : decode cX12_seekLaws 15 = .ok (.iconst 0, 1) := by decide +kernel
theorem dX12_seekLaws_16 : decode cX12_seekLaws 16 = .ok (.istore_n 3, 1) := by decide +kernel
theorem dX12_seekLaws_17 : decode cX12_seekLaws 17 = .ok (.aload_n 0, 1) := by decide +kernel
theorem dX12_seekLaws_18 : decode cX12_seekLaws 18 = .ok (.iload_n 1, 1) := by decide +kernel
theorem dX12_seekLaws_19 : decode cX12_seekLaws 19 = .ok (.iload_n 2, 1) := by decide +kernel
theorem dX12_seekLaws_20 : decode cX12_seekLaws 20 = .ok (.invokevirtual 364, 3) := by decide +kernel
theorem dX12_seekLaws_23 : decode cX12_seekLaws 23 = .ok (.istore 4, 2) := by decide +kernel
theorem dX12_seekLaws_25 : decode cX12_seekLaws 25 = .ok (.aload_n 0, 1) := by decide +kernel
theorem dX12_seekLaws_26 : decode cX12_seekLaws 26 = .ok (.iload_n 1, 1) := by decide +kernel
theorem dX12_seekLaws_27 : decode cX12_seekLaws 27 = .ok (.iload_n 2, 1) := by decide +kernel
theorem dX12_seekLaws_28 : decode cX12_seekLaws 28 = .ok (.invokevirtual 386, 3) := by decide +kernel
theorem dX12_seekLaws_31 : decode cX12_seekLaws 31 = .ok (.istore 5, 2) := by decide +kernel
theorem dX12_seekLaws_33 : decode cX12_seekLaws 33 = .ok (.bipush 8, 2) := by decide +kernel
theorem dX12_seekLaws_35 : decode cX12_seekLaws 35 = .ok (.iload_n 1, 1) := by decide +kernel
theorem dX12_seekLaws_36 : decode cX12_seekLaws 36 = .ok (.imul, 1) := by decide +kernel
theorem dX12_seekLaws_37 : decode cX12_seekLaws 37 = .ok (.istore 6, 2) := by decide +kernel
theorem dX12_seekLaws_39 : decode cX12_seekLaws 39 = .ok (.aload_n 0, 1) := by decide +kernel
theorem dX12_seekLaws_40 : decode cX12_seekLaws 40 = .ok (.getfield 36, 3) := by decide +kernel
theorem dX12_seekLaws_43 : decode cX12_seekLaws 43 = .ok (.iload 6, 2) := by decide +kernel
theorem dX12_seekLaws_45 : decode cX12_seekLaws 45 = .ok (.iaload, 1) := by decide +kernel
theorem dX12_seekLaws_46 : decode cX12_seekLaws 46 = .ok (.istore 7, 2) := by decide +kernel
theorem dX12_seekLaws_48 : decode cX12_seekLaws 48 = .ok (.iload 7, 2) := by decide +kernel
theorem dX12_seekLaws_50 : decode cX12_seekLaws 50 = .ok (.aload_n 0, 1) := by decide +kernel
theorem dX12_seekLaws_51 : decode cX12_seekLaws 51 = .ok (.getfield 36, 3) := by decide +kernel
theorem dX12_seekLaws_54 : decode cX12_seekLaws 54 = .ok (.iload 6, 2) := by decide +kernel
theorem dX12_seekLaws_56 : decode cX12_seekLaws 56 = .ok (.iconst 1, 1) := by decide +kernel
theorem dX12_seekLaws_57 : decode cX12_seekLaws 57 = .ok (.iadd, 1) := by decide +kernel
theorem dX12_seekLaws_58 : decode cX12_seekLaws 58 = .ok (.iaload, 1) := by decide +kernel
theorem dX12_seekLaws_59 : decode cX12_seekLaws 59 = .ok (.if_icmp .gt 349, 3) := by decide +kernel
theorem dX12_seekLaws_62 : decode cX12_seekLaws 62 = .ok (.aload_n 0, 1) := by decide +kernel
theorem dX12_seekLaws_63 : decode cX12_seekLaws 63 = .ok (.getfield 36, 3) := by decide +kernel
theorem dX12_seekLaws_66 : decode cX12_seekLaws 66 = .ok (.iload 6, 2) := by decide +kernel
theorem dX12_seekLaws_68 : decode cX12_seekLaws 68 = .ok (.iconst 2, 1) := by decide +kernel
theorem dX12_seekLaws_69 : decode cX12_seekLaws 69 = .ok (.iadd, 1) := by decide +kernel
theorem dX12_seekLaws_70 : decode cX12_seekLaws 70 = .ok (.iaload, 1) := by decide +kernel
theorem dX12_seekLaws_71 : decode cX12_seekLaws 71 = .ok (.istore 8, 2) := by decide +kernel
theorem dX12_seekLaws_73 : decode cX12_seekLaws 73 = .ok (.iload 8, 2) := by decide +kernel
theorem dX12_seekLaws_75 : decode cX12_seekLaws 75 = .ok (.aload_n 0, 1) := by decide +kernel
theorem dX12_seekLaws_76 : decode cX12_seekLaws 76 = .ok (.getfield 36, 3) := by decide +kernel
theorem dX12_seekLaws_79 : decode cX12_seekLaws 79 = .ok (.iload 6, 2) := by decide +kernel
theorem dX12_seekLaws_81 : decode cX12_seekLaws 81 = .ok (.iconst 3, 1) := by decide +kernel
theorem dX12_seekLaws_82 : decode cX12_seekLaws 82 = .ok (.iadd, 1) := by decide +kernel
theorem dX12_seekLaws_83 : decode cX12_seekLaws 83 = .ok (.iaload, 1) := by decide +kernel
theorem dX12_seekLaws_84 : decode cX12_seekLaws 84 = .ok (.if_icmp .gt 318, 3) := by decide +kernel
theorem dX12_seekLaws_87 : decode cX12_seekLaws 87 = .ok (.aload_n 0, 1) := by decide +kernel
theorem dX12_seekLaws_88 : decode cX12_seekLaws 88 = .ok (.getfield 36, 3) := by decide +kernel
theorem dX12_seekLaws_91 : decode cX12_seekLaws 91 = .ok (.iload 6, 2) := by decide +kernel
theorem dX12_seekLaws_93 : decode cX12_seekLaws 93 = .ok (.iconst 4, 1) := by decide +kernel
theorem dX12_seekLaws_94 : decode cX12_seekLaws 94 = .ok (.iadd, 1) := by decide +kernel
theorem dX12_seekLaws_95 : decode cX12_seekLaws 95 = .ok (.iaload, 1) := by decide +kernel
theorem dX12_seekLaws_96 : decode cX12_seekLaws 96 = .ok (.istore 9, 2) := by decide +kernel
theorem dX12_seekLaws_98 : decode cX12_seekLaws 98 = .ok (.iload 9, 2) := by decide +kernel
theorem dX12_seekLaws_100 : decode cX12_seekLaws 100 = .ok (.aload_n 0, 1) := by decide +kernel
theorem dX12_seekLaws_101 : decode cX12_seekLaws 101 = .ok (.getfield 36, 3) := by decide +kernel
theorem dX12_seekLaws_104 : decode cX12_seekLaws 104 = .ok (.iload 6, 2) := by decide +kernel
theorem dX12_seekLaws_106 : decode cX12_seekLaws 106 = .ok (.iconst 5, 1) := by decide +kernel
theorem dX12_seekLaws_107 : decode cX12_seekLaws 107 = .ok (.iadd, 1) := by decide +kernel
theorem dX12_seekLaws_108 : decode cX12_seekLaws 108 = .ok (.iaload, 1) := by decide +kernel
theorem dX12_seekLaws_109 : decode cX12_seekLaws 109 = .ok (.if_icmp .gt 287, 3) := by decide +kernel
theorem dX12_seekLaws_112 : decode cX12_seekLaws 112 = .ok (.aload_n 0, 1) := by decide +kernel
theorem dX12_seekLaws_113 : decode cX12_seekLaws 113 = .ok (.getfield 36, 3) := by decide +kernel
theorem dX12_seekLaws_116 : decode cX12_seekLaws 116 = .ok (.iload 6, 2) := by decide +kernel
theorem dX12_seekLaws_118 : decode cX12_seekLaws 118 = .ok (.bipush 6, 2) := by decide +kernel
theorem dX12_seekLaws_120 : decode cX12_seekLaws 120 = .ok (.iadd, 1) := by decide +kernel
theorem dX12_seekLaws_121 : decode cX12_seekLaws 121 = .ok (.iaload, 1) := by decide +kernel
theorem dX12_seekLaws_122 : decode cX12_seekLaws 122 = .ok (.istore 10, 2) := by decide +kernel
theorem dX12_seekLaws_124 : decode cX12_seekLaws 124 = .ok (.iload 10, 2) := by decide +kernel
theorem dX12_seekLaws_126 : decode cX12_seekLaws 126 = .ok (.aload_n 0, 1) := by decide +kernel
theorem dX12_seekLaws_127 : decode cX12_seekLaws 127 = .ok (.getfield 36, 3) := by decide +kernel
theorem dX12_seekLaws_130 : decode cX12_seekLaws 130 = .ok (.iload 6, 2) := by decide +kernel
theorem dX12_seekLaws_132 : decode cX12_seekLaws 132 = .ok (.bipush 7, 2) := by decide +kernel
theorem dX12_seekLaws_134 : decode cX12_seekLaws 134 = .ok (.iadd, 1) := by decide +kernel
theorem dX12_seekLaws_135 : decode cX12_seekLaws 135 = .ok (.iaload, 1) := by decide +kernel
theorem dX12_seekLaws_136 : decode cX12_seekLaws 136 = .ok (.if_icmp .gt 254, 3) := by decide +kernel
theorem dX12_seekLaws_139 : decode cX12_seekLaws 139 = .ok (.iconst 0, 1) := by decide +kernel
theorem dX12_seekLaws_140 : decode cX12_seekLaws 140 = .ok (.istore 11, 2) := by decide +kernel
theorem dX12_seekLaws_142 : decode cX12_seekLaws 142 = .ok (.iconst (-1), 1) := by decide +kernel
theorem dX12_seekLaws_143 : decode cX12_seekLaws 143 = .ok (.istore 12, 2) := by decide +kernel
theorem dX12_seekLaws_145 : decode cX12_seekLaws 145 = .ok (.iload 4, 2) := by decide +kernel
theorem dX12_seekLaws_147 : decode cX12_seekLaws 147 = .ok (.istore 13, 2) := by decide +kernel
theorem dX12_seekLaws_149 : decode cX12_seekLaws 149 = .ok (.iload 13, 2) := by decide +kernel
theorem dX12_seekLaws_151 : decode cX12_seekLaws 151 = .ok (.iload 5, 2) := by decide +kernel
theorem dX12_seekLaws_153 : decode cX12_seekLaws 153 = .ok (.if_icmp .gt 101, 3) := by decide +kernel
theorem dX12_seekLaws_156 : decode cX12_seekLaws 156 = .ok (.aload_n 0, 1) := by decide +kernel
theorem dX12_seekLaws_157 : decode cX12_seekLaws 157 = .ok (.getfield 103, 3) := by decide +kernel
theorem dX12_seekLaws_160 : decode cX12_seekLaws 160 = .ok (.bipush 60, 2) := by decide +kernel
theorem dX12_seekLaws_162 : decode cX12_seekLaws 162 = .ok (.iload_n 1, 1) := by decide +kernel
theorem dX12_seekLaws_163 : decode cX12_seekLaws 163 = .ok (.imul, 1) := by decide +kernel
theorem dX12_seekLaws_164 : decode cX12_seekLaws 164 = .ok (.iload 13, 2) := by decide +kernel
theorem dX12_seekLaws_166 : decode cX12_seekLaws 166 = .ok (.iadd, 1) := by decide +kernel
theorem dX12_seekLaws_167 : decode cX12_seekLaws 167 = .ok (.iaload, 1) := by decide +kernel
theorem dX12_seekLaws_168 : decode cX12_seekLaws 168 = .ok (.istore 14, 2) := by decide +kernel
theorem dX12_seekLaws_170 : decode cX12_seekLaws 170 = .ok (.aload_n 0, 1) := by decide +kernel
theorem dX12_seekLaws_171 : decode cX12_seekLaws 171 = .ok (.getfield 94, 3) := by decide +kernel
theorem dX12_seekLaws_174 : decode cX12_seekLaws 174 = .ok (.iload 13, 2) := by decide +kernel
theorem dX12_seekLaws_176 : decode cX12_seekLaws 176 = .ok (.baload, 1) := by decide +kernel
theorem dX12_seekLaws_177 : decode cX12_seekLaws 177 = .ok (.ifCond .eq 71, 3) := by decide +kernel
theorem dX12_seekLaws_180 : decode cX12_seekLaws 180 = .ok (.iload 14, 2) := by decide +kernel
theorem dX12_seekLaws_182 : decode cX12_seekLaws 182 = .ok (.ldc_w 353, 3) := by decide +kernel
theorem dX12_seekLaws_185 : decode cX12_seekLaws 185 = .ok (.if_icmp .ne 6, 3) := by decide +kernel
theorem dX12_seekLaws_188 : decode cX12_seekLaws 188 = .ok (.goto 60, 3) := by decide +kernel
theorem dX12_seekLaws_191 : decode cX12_seekLaws 191 = .ok (.aload_n 0, 1) := by decide +kernel
theorem dX12_seekLaws_192 : decode cX12_seekLaws 192 = .ok (.iload_n 1, 1) := by decide +kernel
theorem dX12_seekLaws_193 : decode cX12_seekLaws 193 = .ok (.iload 13, 2) := by decide +kernel
theorem dX12_seekLaws_195 : decode cX12_seekLaws 195 = .ok (.iload 7, 2) := by decide +kernel
theorem dX12_seekLaws_197 : decode cX12_seekLaws 197 = .ok (.iload 8, 2) := by decide +kernel
theorem dX12_seekLaws_199 : decode cX12_seekLaws 199 = .ok (.iload 9, 2) := by decide +kernel
theorem dX12_seekLaws_201 : decode cX12_seekLaws 201 = .ok (.iload 10, 2) := by decide +kernel
theorem dX12_seekLaws_203 : decode cX12_seekLaws 203 = .ok (.invokevirtual 389, 3) := by decide +kernel
theorem dX12_seekLaws_206 : decode cX12_seekLaws 206 = .ok (.istore 15, 2) := by decide +kernel
theorem dX12_seekLaws_208 : decode cX12_seekLaws 208 = .ok (.iload 15, 2) := by decide +kernel
theorem dX12_seekLaws_210 : decode cX12_seekLaws 210 = .ok (.ldc_w 353, 3) := by decide +kernel
theorem dX12_seekLaws_213 : decode cX12_seekLaws 213 = .ok (.if_icmp .eq 35, 3) := by decide +kernel
theorem dX12_seekLaws_216 : decode cX12_seekLaws 216 = .ok (.aload_n 0, 1) := by decide +kernel
theorem dX12_seekLaws_217 : decode cX12_seekLaws 217 = .ok (.iload_n 1, 1) := by decide +kernel
theorem dX12_seekLaws_218 : decode cX12_seekLaws 218 = .ok (.iload 15, 2) := by decide +kernel
theorem dX12_seekLaws_220 : decode cX12_seekLaws 220 = .ok (.iload 14, 2) := by decide +kernel
theorem dX12_seekLaws_222 : decode cX12_seekLaws 222 = .ok (.invokevirtual 392, 3) := by decide +kernel
theorem dX12_seekLaws_225 : decode cX12_seekLaws 225 = .ok (.ifCond .eq 6, 3) := by decide +kernel
theorem dX12_seekLaws_228 : decode cX12_seekLaws 228 = .ok (.goto 20, 3) := by decide +kernel
theorem dX12_seekLaws_231 : decode cX12_seekLaws 231 = .ok (.iinc 11 1, 3) := by decide +kernel
theorem dX12_seekLaws_234 : decode cX12_seekLaws 234 = .ok (.iload 12, 2) := by decide +kernel
theorem dX12_seekLaws_236 : decode cX12_seekLaws 236 = .ok (.ifCond .ge 8, 3) := by decide +kernel
theorem dX12_seekLaws_239 : decode cX12_seekLaws 239 = .ok (.iload 13, 2) := by decide +kernel
theorem dX12_seekLaws_241 : decode cX12_seekLaws 241 = .ok (.goto 5, 3) := by decide +kernel
theorem dX12_seekLaws_244 : decode cX12_seekLaws 244 = .ok (.iload 12, 2) := by decide +kernel
theorem dX12_seekLaws_246 : decode cX12_seekLaws 246 = .ok (.istore 12, 2) := by decide +kernel
theorem dX12_seekLaws_248 : decode cX12_seekLaws 248 = .ok (.iinc 13 1, 3) := by decide +kernel
theorem dX12_seekLaws_251 : decode cX12_seekLaws 251 = .ok (.goto (-102), 3) := by decide +kernel
theorem dX12_seekLaws_254 : decode cX12_seekLaws 254 = .ok (.iload_n 3, 1) := by decide +kernel
theorem dX12_seekLaws_255 : decode cX12_seekLaws 255 = .ok (.ifCond .ne 8, 3) := by decide +kernel
theorem dX12_seekLaws_258 : decode cX12_seekLaws 258 = .ok (.iload 12, 2) := by decide +kernel
theorem dX12_seekLaws_260 : decode cX12_seekLaws 260 = .ok (.ifCond .ge 7, 3) := by decide +kernel
theorem dX12_seekLaws_263 : decode cX12_seekLaws 263 = .ok (.iconst 1, 1) := by decide +kernel
theorem dX12_seekLaws_264 : decode cX12_seekLaws 264 = .ok (.goto 4, 3) := by decide +kernel
theorem dX12_seekLaws_267 : decode cX12_seekLaws 267 = .ok (.iconst 0, 1) := by decide +kernel
theorem dX12_seekLaws_268 : decode cX12_seekLaws 268 = .ok (.istore_n 3, 1) := by decide +kernel
theorem dX12_seekLaws_269 : decode cX12_seekLaws 269 = .ok (.aload_n 0, 1) := by decide +kernel
theorem dX12_seekLaws_270 : decode cX12_seekLaws 270 = .ok (.iload 12, 2) := by decide +kernel
theorem dX12_seekLaws_272 : decode cX12_seekLaws 272 = .ok (.aload_n 0, 1) := by decide +kernel
theorem dX12_seekLaws_273 : decode cX12_seekLaws 273 = .ok (.getfield 383, 3) := by decide +kernel
theorem dX12_seekLaws_276 : decode cX12_seekLaws 276 = .ok (.if_icmp .le 8, 3) := by decide +kernel
theorem dX12_seekLaws_279 : decode cX12_seekLaws 279 = .ok (.iload 12, 2) := by decide +kernel
theorem dX12_seekLaws_281 : decode cX12_seekLaws 281 = .ok (.goto 7, 3) := by decide +kernel
theorem dX12_seekLaws_284 : decode cX12_seekLaws 284 = .ok (.aload_n 0, 1) := by decide +kernel
theorem dX12_seekLaws_285 : decode cX12_seekLaws 285 = .ok (.getfield 383, 3) := by decide +kernel
theorem dX12_seekLaws_288 : decode cX12_seekLaws 288 = .ok (.putfield 383, 3) := by decide +kernel
theorem dX12_seekLaws_291 : decode cX12_seekLaws 291 = .ok (.aload_n 0, 1) := by decide +kernel
theorem dX12_seekLaws_292 : decode cX12_seekLaws 292 = .ok (.getfield 377, 3) := by decide +kernel
theorem dX12_seekLaws_295 : decode cX12_seekLaws 295 = .ok (.ifCond .le 15, 3) := by decide +kernel
theorem dX12_seekLaws_298 : decode cX12_seekLaws 298 = .ok (.iload 11, 2) := by decide +kernel
theorem dX12_seekLaws_300 : decode cX12_seekLaws 300 = .ok (.aload_n 0, 1) := by decide +kernel
theorem dX12_seekLaws_301 : decode cX12_seekLaws 301 = .ok (.getfield 380, 3) := by decide +kernel
theorem dX12_seekLaws_304 : decode cX12_seekLaws 304 = .ok (.if_icmp .le 6, 3) := by decide +kernel
theorem dX12_seekLaws_307 : decode cX12_seekLaws 307 = .ok (.goto 77, 3) := by decide +kernel
theorem dX12_seekLaws_310 : decode cX12_seekLaws 310 = .ok (.iload 11, 2) := by decide +kernel
theorem dX12_seekLaws_312 : decode cX12_seekLaws 312 = .ok (.aload_n 0, 1) := by decide +kernel
theorem dX12_seekLaws_313 : decode cX12_seekLaws 313 = .ok (.getfield 380, 3) := by decide +kernel
theorem dX12_seekLaws_316 : decode cX12_seekLaws 316 = .ok (.if_icmp .ge 8, 3) := by decide +kernel
theorem dX12_seekLaws_319 : decode cX12_seekLaws 319 = .ok (.aload_n 0, 1) := by decide +kernel
theorem dX12_seekLaws_320 : decode cX12_seekLaws 320 = .ok (.iconst 0, 1) := by decide +kernel
theorem dX12_seekLaws_321 : decode cX12_seekLaws 321 = .ok (.putfield 377, 3) := by decide +kernel
theorem dX12_seekLaws_324 : decode cX12_seekLaws 324 = .ok (.aload_n 0, 1) := by decide +kernel
theorem dX12_seekLaws_325 : decode cX12_seekLaws 325 = .ok (.iload 11, 2) := by decide +kernel
theorem dX12_seekLaws_327 : decode cX12_seekLaws 327 = .ok (.putfield 380, 3) := by decide +kernel
theorem dX12_seekLaws_330 : decode cX12_seekLaws 330 = .ok (.aload_n 0, 1) := by decide +kernel
theorem dX12_seekLaws_331 : decode cX12_seekLaws 331 = .ok (.getfield 109, 3) := by decide +kernel
theorem dX12_seekLaws_334 : decode cX12_seekLaws 334 = .ok (.aload_n 0, 1) := by decide +kernel
theorem dX12_seekLaws_335 : decode cX12_seekLaws 335 = .ok (.getfield 377, 3) := by decide +kernel
theorem dX12_seekLaws_338 : decode cX12_seekLaws 338 = .ok (.iload 7, 2) := by decide +kernel
theorem dX12_seekLaws_340 : decode cX12_seekLaws 340 = .ok (.iastore, 1) := by decide +kernel
theorem dX12_seekLaws_341 : decode cX12_seekLaws 341 = .ok (.aload_n 0, 1) := by decide +kernel
theorem dX12_seekLaws_342 : decode cX12_seekLaws 342 = .ok (.getfield 112, 3) := by decide +kernel
theorem dX12_seekLaws_345 : decode cX12_seekLaws 345 = .ok (.aload_n 0, 1) := by decide +kernel
theorem dX12_seekLaws_346 : decode cX12_seekLaws 346 = .ok (.getfield 377, 3) := by decide +kernel
theorem dX12_seekLaws_349 : decode cX12_seekLaws 349 = .ok (.iload 8, 2) := by decide +kernel
theorem dX12_seekLaws_351 : decode cX12_seekLaws 351 = .ok (.iastore, 1) := by decide +kernel
theorem dX12_seekLaws_352 : decode cX12_seekLaws 352 = .ok (.aload_n 0, 1) := by decide +kernel
theorem dX12_seekLaws_353 : decode cX12_seekLaws 353 = .ok (.getfield 115, 3) := by decide +kernel
theorem dX12_seekLaws_356 : decode cX12_seekLaws 356 = .ok (.aload_n 0, 1) := by decide +kernel
theorem dX12_seekLaws_357 : decode cX12_seekLaws 357 = .ok (.getfield 377, 3) := by decide +kernel
theorem dX12_seekLaws_360 : decode cX12_seekLaws 360 = .ok (.iload 9, 2) := by decide +kernel
theorem dX12_seekLaws_362 : decode cX12_seekLaws 362 = .ok (.iastore, 1) := by decide +kernel
theorem dX12_seekLaws_363 : decode cX12_seekLaws 363 = .ok (.aload_n 0, 1) := by decide +kernel
theorem dX12_seekLaws_364 : decode cX12_seekLaws 364 = .ok (.getfield 118, 3) := by decide +kernel
theorem dX12_seekLaws_367 : decode cX12_seekLaws 367 = .ok (.aload_n 0, 1) := by decide +kernel
theorem dX12_seekLaws_368 : decode cX12_seekLaws 368 = .ok (.getfield 377, 3) := by decide +kernel
theorem dX12_seekLaws_371 : decode cX12_seekLaws 371 = .ok (.iload 10, 2) := by decide +kernel
theorem dX12_seekLaws_373 : decode cX12_seekLaws 373 = .ok (.iastore, 1) := by decide +kernel
theorem dX12_seekLaws_374 : decode cX12_seekLaws 374 = .ok (.aload_n 0, 1) := by decide +kernel
theorem dX12_seekLaws_375 : decode cX12_seekLaws 375 = .ok (.dup, 1) := by decide +kernel
theorem dX12_seekLaws_376 : decode cX12_seekLaws 376 = .ok (.getfield 377, 3) := by decide +kernel
theorem dX12_seekLaws_379 : decode cX12_seekLaws 379 = .ok (.iconst 1, 1) := by decide +kernel
theorem dX12_seekLaws_380 : decode cX12_seekLaws 380 = .ok (.iadd, 1) := by decide +kernel
theorem dX12_seekLaws_381 : decode cX12_seekLaws 381 = .ok (.putfield 377, 3) := by decide +kernel
theorem dX12_seekLaws_384 : decode cX12_seekLaws 384 = .ok (.iinc 10 1, 3) := by decide +kernel
theorem dX12_seekLaws_387 : decode cX12_seekLaws 387 = .ok (.goto (-263), 3) := by decide +kernel
theorem dX12_seekLaws_390 : decode cX12_seekLaws 390 = .ok (.iinc 9 1, 3) := by decide +kernel
theorem dX12_seekLaws_393 : decode cX12_seekLaws 393 = .ok (.goto (-295), 3) := by decide +kernel
theorem dX12_seekLaws_396 : decode cX12_seekLaws 396 = .ok (.iinc 8 1, 3) := by decide +kernel
theorem dX12_seekLaws_399 : decode cX12_seekLaws 399 = .ok (.goto (-326), 3) := by decide +kernel
theorem dX12_seekLaws_402 : decode cX12_seekLaws 402 = .ok (.iinc 7 1, 3) := by decide +kernel
theorem dX12_seekLaws_405 : decode cX12_seekLaws 405 = .ok (.goto (-357), 3) := by decide +kernel
theorem dX12_seekLaws_408 : decode cX12_seekLaws 408 = .ok (.iload_n 3, 1) := by decide +kernel
theorem dX12_seekLaws_409 : decode cX12_seekLaws 409 = .ok (.ifCond .eq 8, 3) := by decide +kernel
theorem dX12_seekLaws_412 : decode cX12_seekLaws 412 = .ok (.aload_n 0, 1) := by decide +kernel
theorem dX12_seekLaws_413 : decode cX12_seekLaws 413 = .ok (.iconst (-1), 1) := by decide +kernel
theorem dX12_seekLaws_414 : decode cX12_seekLaws 414 = .ok (.putfield 383, 3) := by decide +kernel
theorem dX12_seekLaws_417 : decode cX12_seekLaws 417 = .ok (.return_, 1) := by decide +kernel
theorem dX12_laws_0 : decode cX12_laws 0 = .ok (.aload_n 0, 1) := by decide +kernel
theorem dX12_laws_1 : decode cX12_laws 1 = .ok (.iload_n 1, 1) := by decide +kernel
theorem dX12_laws_2 : decode cX12_laws 2 = .ok (.iload_n 2, 1) := by decide +kernel
theorem dX12_laws_3 : decode cX12_laws 3 = .ok (.invokevirtual 357, 3) := by decide +kernel
theorem dX12_laws_6 : decode cX12_laws 6 = .ok (.ifCond .ne 5, 3) := by decide +kernel
theorem dX12_laws_9 : decode cX12_laws 9 = .ok (.iconst (-1), 1) := by decide +kernel
theorem dX12_laws_10 : decode cX12_laws 10 = .ok (.ireturn, 1) := by decide +kernel
theorem dX12_laws_11 : decode cX12_laws 11 = .ok (.aload_n 0, 1) := by decide +kernel
theorem dX12_laws_12 : decode cX12_laws 12 = .ok (.iload_n 3, 1) := by decide +kernel
theorem dX12_laws_13 : decode cX12_laws 13 = .ok (.invokevirtual 354, 3) := by decide +kernel
theorem dX12_laws_16 : decode cX12_laws 16 = .ok (.aload_n 0, 1) := by decide +kernel
theorem dX12_laws_17 : decode cX12_laws 17 = .ok (.iload_n 1, 1) := by decide +kernel
theorem dX12_laws_18 : decode cX12_laws 18 = .ok (.iload_n 2, 1) := by decide +kernel
theorem dX12_laws_19 : decode cX12_laws 19 = .ok (.invokevirtual 396, 3) := by decide +kernel
theorem dX12_laws_22 : decode cX12_laws 22 = .ok (.aload_n 0, 1) := by decide +kernel
theorem dX12_laws_23 : decode cX12_laws 23 = .ok (.getfield 377, 3) := by decide +kernel
theorem dX12_laws_26 : decode cX12_laws 26 = .ok (.ireturn, 1) := by decide +kernel
theorem dX12_law_0 : decode cX12_law 0 = .ok (.aload_n 0, 1) := by decide +kernel
theorem dX12_law_1 : decode cX12_law 1 = .ok (.iload_n 1, 1) := by decide +kernel
theorem dX12_law_2 : decode cX12_law 2 = .ok (.iload_n 2, 1) := by decide +kernel
theorem dX12_law_3 : decode cX12_law 3 = .ok (.invokevirtual 357, 3) := by decide +kernel
theorem dX12_law_6 : decode cX12_law 6 = .ok (.ifCond .ne 7, 3) := by decide +kernel
theorem dX12_law_9 : decode cX12_law 9 = .ok (.ldc_w 353, 3) := by decide +kernel
theorem dX12_law_12 : decode cX12_law 12 = .ok (.ireturn, 1) := by decide +kernel
theorem dX12_law_13 : decode cX12_law 13 = .ok (.aload_n 0, 1) := by decide +kernel
theorem dX12_law_14 : decode cX12_law 14 = .ok (.iload 5, 2) := by decide +kernel
theorem dX12_law_16 : decode cX12_law 16 = .ok (.invokevirtual 354, 3) := by decide +kernel
theorem dX12_law_19 : decode cX12_law 19 = .ok (.aload_n 0, 1) := by decide +kernel
theorem dX12_law_20 : decode cX12_law 20 = .ok (.iload_n 1, 1) := by decide +kernel
theorem dX12_law_21 : decode cX12_law 21 = .ok (.iload_n 2, 1) := by decide +kernel
theorem dX12_law_22 : decode cX12_law 22 = .ok (.invokevirtual 396, 3) := by decide +kernel
theorem dX12_law_25 : decode cX12_law 25 = .ok (.iload_n 3, 1) := by decide +kernel
theorem dX12_law_26 : decode cX12_law 26 = .ok (.ifCond .lt 11, 3) := by decide +kernel
theorem dX12_law_29 : decode cX12_law 29 = .ok (.iload_n 3, 1) := by decide +kernel
theorem dX12_law_30 : decode cX12_law 30 = .ok (.aload_n 0, 1) := by decide +kernel
theorem dX12_law_31 : decode cX12_law 31 = .ok (.getfield 377, 3) := by decide +kernel
theorem dX12_law_34 : decode cX12_law 34 = .ok (.if_icmp .lt 7, 3) := by decide +kernel
theorem dX12_law_37 : decode cX12_law 37 = .ok (.ldc_w 353, 3) := by decide +kernel
theorem dX12_law_40 : decode cX12_law 40 = .ok (.ireturn, 1) := by decide +kernel
theorem dX12_law_41 : decode cX12_law 41 = .ok (.iload 4, 2) := by decide +kernel
theorem dX12_law_43 : decode cX12_law 43 = .ok (.ifCond .ne 12, 3) := by decide +kernel
theorem dX12_law_46 : decode cX12_law 46 = .ok (.aload_n 0, 1) := by decide +kernel
theorem dX12_law_47 : decode cX12_law 47 = .ok (.getfield 109, 3) := by decide +kernel
theorem dX12_law_50 : decode cX12_law 50 = .ok (.iload_n 3, 1) := by decide +kernel
theorem dX12_law_51 : decode cX12_law 51 = .ok (.iaload, 1) := by decide +kernel
theorem dX12_law_52 : decode cX12_law 52 = .ok (.goto 51, 3) := by decide +kernel
theorem dX12_law_55 : decode cX12_law 55 = .ok (.iload 4, 2) := by decide +kernel
theorem dX12_law_57 : decode cX12_law 57 = .ok (.iconst 1, 1) := by decide +kernel
theorem dX12_law_58 : decode cX12_law 58 = .ok (.if_icmp .ne 12, 3) := by decide +kernel
theorem dX12_law_61 : decode cX12_law 61 = .ok (.aload_n 0, 1) := by decide +kernel
theorem dX12_law_62 : decode cX12_law 62 = .ok (.getfield 112, 3) := by decide +kernel
theorem dX12_law_65 : decode cX12_law 65 = .ok (.iload_n 3, 1) := by decide +kernel
theorem dX12_law_66 : decode cX12_law 66 = .ok (.iaload, 1) := by decide +kernel
theorem dX12_law_67 : decode cX12_law 67 = .ok (.goto 36, 3) := by decide +kernel
theorem dX12_law_70 : decode cX12_law 70 = .ok (.iload 4, 2) := by decide +kernel
theorem dX12_law_72 : decode cX12_law 72 = .ok (.iconst 2, 1) := by decide +kernel
theorem dX12_law_73 : decode cX12_law 73 = .ok (.if_icmp .ne 12, 3) := by decide +kernel
theorem dX12_law_76 : decode cX12_law 76 = .ok (.aload_n 0, 1) := by decide +kernel
theorem dX12_law_77 : decode cX12_law 77 = .ok (.getfield 115, 3) := by decide +kernel
theorem dX12_law_80 : decode cX12_law 80 = .ok (.iload_n 3, 1) := by decide +kernel
theorem dX12_law_81 : decode cX12_law 81 = .ok (.iaload, 1) := by decide +kernel
theorem dX12_law_82 : decode cX12_law 82 = .ok (.goto 21, 3) := by decide +kernel
theorem dX12_law_85 : decode cX12_law 85 = .ok (.iload 4, 2) := by decide +kernel
theorem dX12_law_87 : decode cX12_law 87 = .ok (.iconst 3, 1) := by decide +kernel
theorem dX12_law_88 : decode cX12_law 88 = .ok (.if_icmp .ne 12, 3) := by decide +kernel
theorem dX12_law_91 : decode cX12_law 91 = .ok (.aload_n 0, 1) := by decide +kernel
theorem dX12_law_92 : decode cX12_law 92 = .ok (.getfield 118, 3) := by decide +kernel
theorem dX12_law_95 : decode cX12_law 95 = .ok (.iload_n 3, 1) := by decide +kernel
theorem dX12_law_96 : decode cX12_law 96 = .ok (.iaload, 1) := by decide +kernel
theorem dX12_law_97 : decode cX12_law 97 = .ok (.goto 6, 3) := by decide +kernel
theorem dX12_law_100 : decode cX12_law 100 = .ok (.ldc_w 353, 3) := by decide +kernel
theorem dX12_law_103 : decode cX12_law 103 = .ok (.ireturn, 1) := by decide +kernel
theorem dX12_misses_0 : decode cX12_misses 0 = .ok (.aload_n 0, 1) := by decide +kernel
theorem dX12_misses_1 : decode cX12_misses 1 = .ok (.iload_n 1, 1) := by decide +kernel
theorem dX12_misses_2 : decode cX12_misses 2 = .ok (.iload_n 2, 1) := by decide +kernel
theorem dX12_misses_3 : decode cX12_misses 3 = .ok (.invokevirtual 357, 3) := by decide +kernel
theorem dX12_misses_6 : decode cX12_misses 6 = .ok (.ifCond .ne 5, 3) := by decide +kernel
theorem dX12_misses_9 : decode cX12_misses 9 = .ok (.iconst (-1), 1) := by decide +kernel
theorem dX12_misses_10 : decode cX12_misses 10 = .ok (.ireturn, 1) := by decide +kernel
theorem dX12_misses_11 : decode cX12_misses 11 = .ok (.aload_n 0, 1) := by decide +kernel
theorem dX12_misses_12 : decode cX12_misses 12 = .ok (.iload_n 3, 1) := by decide +kernel
theorem dX12_misses_13 : decode cX12_misses 13 = .ok (.invokevirtual 354, 3) := by decide +kernel
theorem dX12_misses_16 : decode cX12_misses 16 = .ok (.aload_n 0, 1) := by decide +kernel
theorem dX12_misses_17 : decode cX12_misses 17 = .ok (.iload_n 1, 1) := by decide +kernel
theorem dX12_misses_18 : decode cX12_misses 18 = .ok (.iload_n 2, 1) := by decide +kernel
theorem dX12_misses_19 : decode cX12_misses 19 = .ok (.invokevirtual 396, 3) := by decide +kernel
theorem dX12_misses_22 : decode cX12_misses 22 = .ok (.aload_n 0, 1) := by decide +kernel
theorem dX12_misses_23 : decode cX12_misses 23 = .ok (.getfield 380, 3) := by decide +kernel
theorem dX12_misses_26 : decode cX12_misses 26 = .ok (.ireturn, 1) := by decide +kernel
theorem dX12_showsFirst_0 : decode cX12_showsFirst 0 = .ok (.aload_n 0, 1) := by decide +kernel
theorem dX12_showsFirst_1 : decode cX12_showsFirst 1 = .ok (.iload_n 1, 1) := by decide +kernel
theorem dX12_showsFirst_2 : decode cX12_showsFirst 2 = .ok (.iload_n 2, 1) := by decide +kernel
theorem dX12_showsFirst_3 : decode cX12_showsFirst 3 = .ok (.invokevirtual 396, 3) := by decide +kernel
theorem dX12_showsFirst_6 : decode cX12_showsFirst 6 = .ok (.aload_n 0, 1) := by decide +kernel
theorem dX12_showsFirst_7 : decode cX12_showsFirst 7 = .ok (.iload_n 1, 1) := by decide +kernel
theorem dX12_showsFirst_8 : decode cX12_showsFirst 8 = .ok (.iload_n 2, 1) := by decide +kernel
theorem dX12_showsFirst_9 : decode cX12_showsFirst 9 = .ok (.aload_n 0, 1) := by decide +kernel
theorem dX12_showsFirst_10 : decode cX12_showsFirst 10 = .ok (.getfield 109, 3) := by decide +kernel
theorem dX12_showsFirst_13 : decode cX12_showsFirst 13 = .ok (.iconst 0, 1) := by decide +kernel
theorem dX12_showsFirst_14 : decode cX12_showsFirst 14 = .ok (.iaload, 1) := by decide +kernel
theorem dX12_showsFirst_15 : decode cX12_showsFirst 15 = .ok (.aload_n 0, 1) := by decide +kernel
theorem dX12_showsFirst_16 : decode cX12_showsFirst 16 = .ok (.getfield 112, 3) := by decide +kernel
theorem dX12_showsFirst_19 : decode cX12_showsFirst 19 = .ok (.iconst 0, 1) := by decide +kernel
theorem dX12_showsFirst_20 : decode cX12_showsFirst 20 = .ok (.iaload, 1) := by decide +kernel
theorem dX12_showsFirst_21 : decode cX12_showsFirst 21 = .ok (.aload_n 0, 1) := by decide +kernel
theorem dX12_showsFirst_22 : decode cX12_showsFirst 22 = .ok (.getfield 115, 3) := by decide +kernel
theorem dX12_showsFirst_25 : decode cX12_showsFirst 25 = .ok (.iconst 0, 1) := by decide +kernel
theorem dX12_showsFirst_26 : decode cX12_showsFirst 26 = .ok (.iaload, 1) := by decide +kernel
theorem dX12_showsFirst_27 : decode cX12_showsFirst 27 = .ok (.aload_n 0, 1) := by decide +kernel
theorem dX12_showsFirst_28 : decode cX12_showsFirst 28 = .ok (.getfield 118, 3) := by decide +kernel
theorem dX12_showsFirst_31 : decode cX12_showsFirst 31 = .ok (.iconst 0, 1) := by decide +kernel
theorem dX12_showsFirst_32 : decode cX12_showsFirst 32 = .ok (.iaload, 1) := by decide +kernel
theorem dX12_showsFirst_33 : decode cX12_showsFirst 33 = .ok (.invokevirtual 389, 3) := by decide +kernel
theorem dX12_showsFirst_36 : decode cX12_showsFirst 36 = .ok (.ireturn, 1) := by decide +kernel
theorem dX12_shows_0 : decode cX12_shows 0 = .ok (.aload_n 0, 1) := by decide +kernel
theorem dX12_shows_1 : decode cX12_shows 1 = .ok (.iload_n 1, 1) := by decide +kernel
theorem dX12_shows_2 : decode cX12_shows 2 = .ok (.iload_n 2, 1) := by decide +kernel
theorem dX12_shows_3 : decode cX12_shows 3 = .ok (.invokevirtual 357, 3) := by decide +kernel
theorem dX12_shows_6 : decode cX12_shows 6 = .ok (.ifCond .ne 7, 3) := by decide +kernel
theorem dX12_shows_9 : decode cX12_shows 9 = .ok (.ldc_w 353, 3) := by decide +kernel
theorem dX12_shows_12 : decode cX12_shows 12 = .ok (.ireturn, 1) := by decide +kernel
theorem dX12_shows_13 : decode cX12_shows 13 = .ok (.aload_n 0, 1) := by decide +kernel
theorem dX12_shows_14 : decode cX12_shows 14 = .ok (.iload_n 3, 1) := by decide +kernel
theorem dX12_shows_15 : decode cX12_shows 15 = .ok (.invokevirtual 354, 3) := by decide +kernel
theorem dX12_shows_18 : decode cX12_shows 18 = .ok (.aload_n 0, 1) := by decide +kernel
theorem dX12_shows_19 : decode cX12_shows 19 = .ok (.iload_n 1, 1) := by decide +kernel
theorem dX12_shows_20 : decode cX12_shows 20 = .ok (.iload_n 2, 1) := by decide +kernel
theorem dX12_shows_21 : decode cX12_shows 21 = .ok (.invokevirtual 400, 3) := by decide +kernel
theorem dX12_shows_24 : decode cX12_shows 24 = .ok (.ireturn, 1) := by decide +kernel
theorem dX12_frost_0 : decode cX12_frost 0 = .ok (.aload_n 0, 1) := by decide +kernel
theorem dX12_frost_1 : decode cX12_frost 1 = .ok (.iload_n 1, 1) := by decide +kernel
theorem dX12_frost_2 : decode cX12_frost 2 = .ok (.iload_n 2, 1) := by decide +kernel
theorem dX12_frost_3 : decode cX12_frost 3 = .ok (.invokevirtual 357, 3) := by decide +kernel
theorem dX12_frost_6 : decode cX12_frost 6 = .ok (.ifCond .ne 5, 3) := by decide +kernel
theorem dX12_frost_9 : decode cX12_frost 9 = .ok (.iconst (-1), 1) := by decide +kernel
theorem dX12_frost_10 : decode cX12_frost 10 = .ok (.ireturn, 1) := by decide +kernel
theorem dX12_frost_11 : decode cX12_frost 11 = .ok (.aload_n 0, 1) := by decide +kernel
theorem dX12_frost_12 : decode cX12_frost 12 = .ok (.iload_n 3, 1) := by decide +kernel
theorem dX12_frost_13 : decode cX12_frost 13 = .ok (.invokevirtual 354, 3) := by decide +kernel
theorem dX12_frost_16 : decode cX12_frost 16 = .ok (.aload_n 0, 1) := by decide +kernel
theorem dX12_frost_17 : decode cX12_frost 17 = .ok (.iload_n 1, 1) := by decide +kernel
theorem dX12_frost_18 : decode cX12_frost 18 = .ok (.iload_n 2, 1) := by decide +kernel
theorem dX12_frost_19 : decode cX12_frost 19 = .ok (.invokevirtual 396, 3) := by decide +kernel
theorem dX12_frost_22 : decode cX12_frost 22 = .ok (.aload_n 0, 1) := by decide +kernel
theorem dX12_frost_23 : decode cX12_frost 23 = .ok (.getfield 383, 3) := by decide +kernel
theorem dX12_frost_26 : decode cX12_frost 26 = .ok (.ireturn, 1) := by decide +kernel
theorem dX12_shown_0 : decode cX12_shown 0 = .ok (.aload_n 0, 1) := by decide +kernel
theorem dX12_shown_1 : decode cX12_shown 1 = .ok (.iload_n 1, 1) := by decide +kernel
theorem dX12_shown_2 : decode cX12_shown 2 = .ok (.iload_n 2, 1) := by decide +kernel
theorem dX12_shown_3 : decode cX12_shown 3 = .ok (.invokevirtual 357, 3) := by decide +kernel
theorem dX12_shown_6 : decode cX12_shown 6 = .ok (.ifCond .ne 7, 3) := by decide +kernel
theorem dX12_shown_9 : decode cX12_shown 9 = .ok (.ldc_w 353, 3) := by decide +kernel
theorem dX12_shown_12 : decode cX12_shown 12 = .ok (.ireturn, 1) := by decide +kernel
theorem dX12_shown_13 : decode cX12_shown 13 = .ok (.aload_n 0, 1) := by decide +kernel
theorem dX12_shown_14 : decode cX12_shown 14 = .ok (.iload 4, 2) := by decide +kernel
theorem dX12_shown_16 : decode cX12_shown 16 = .ok (.invokevirtual 354, 3) := by decide +kernel
theorem dX12_shown_19 : decode cX12_shown 19 = .ok (.aload_n 0, 1) := by decide +kernel
theorem dX12_shown_20 : decode cX12_shown 20 = .ok (.iload_n 1, 1) := by decide +kernel
theorem dX12_shown_21 : decode cX12_shown 21 = .ok (.iload_n 2, 1) := by decide +kernel
theorem dX12_shown_22 : decode cX12_shown 22 = .ok (.invokevirtual 396, 3) := by decide +kernel
theorem dX12_shown_25 : decode cX12_shown 25 = .ok (.ldc_w 353, 3) := by decide +kernel
theorem dX12_shown_28 : decode cX12_shown 28 = .ok (.istore 5, 2) := by decide +kernel
theorem dX12_shown_30 : decode cX12_shown 30 = .ok (.iconst 0, 1) := by decide +kernel
theorem dX12_shown_31 : decode cX12_shown 31 = .ok (.istore 6, 2) := by decide +kernel
theorem dX12_shown_33 : decode cX12_shown 33 = .ok (.iload 6, 2) := by decide +kernel
theorem dX12_shown_35 : decode cX12_shown 35 = .ok (.aload_n 0, 1) := by decide +kernel
theorem dX12_shown_36 : decode cX12_shown 36 = .ok (.getfield 377, 3) := by decide +kernel
theorem dX12_shown_39 : decode cX12_shown 39 = .ok (.if_icmp .ge 86, 3) := by decide +kernel
theorem dX12_shown_42 : decode cX12_shown 42 = .ok (.aload_n 0, 1) := by decide +kernel
theorem dX12_shown_43 : decode cX12_shown 43 = .ok (.iload_n 1, 1) := by decide +kernel
theorem dX12_shown_44 : decode cX12_shown 44 = .ok (.iload_n 2, 1) := by decide +kernel
theorem dX12_shown_45 : decode cX12_shown 45 = .ok (.aload_n 0, 1) := by decide +kernel
theorem dX12_shown_46 : decode cX12_shown 46 = .ok (.getfield 109, 3) := by decide +kernel
theorem dX12_shown_49 : decode cX12_shown 49 = .ok (.iload 6, 2) := by decide +kernel
theorem dX12_shown_51 : decode cX12_shown 51 = .ok (.iaload, 1) := by decide +kernel
theorem dX12_shown_52 : decode cX12_shown 52 = .ok (.aload_n 0, 1) := by decide +kernel
theorem dX12_shown_53 : decode cX12_shown 53 = .ok (.getfield 112, 3) := by decide +kernel
theorem dX12_shown_56 : decode cX12_shown 56 = .ok (.iload 6, 2) := by decide +kernel
theorem dX12_shown_58 : decode cX12_shown 58 = .ok (.iaload, 1) := by decide +kernel
theorem dX12_shown_59 : decode cX12_shown 59 = .ok (.aload_n 0, 1) := by decide +kernel
theorem dX12_shown_60 : decode cX12_shown 60 = .ok (.getfield 115, 3) := by decide +kernel
theorem dX12_shown_63 : decode cX12_shown 63 = .ok (.iload 6, 2) := by decide +kernel
theorem dX12_shown_65 : decode cX12_shown 65 = .ok (.iaload, 1) := by decide +kernel
theorem dX12_shown_66 : decode cX12_shown 66 = .ok (.aload_n 0, 1) := by decide +kernel
theorem dX12_shown_67 : decode cX12_shown 67 = .ok (.getfield 118, 3) := by decide +kernel
theorem dX12_shown_70 : decode cX12_shown 70 = .ok (.iload 6, 2) := by decide +kernel
theorem dX12_shown_72 : decode cX12_shown 72 = .ok (.iaload, 1) := by decide +kernel
theorem dX12_shown_73 : decode cX12_shown 73 = .ok (.invokevirtual 389, 3) := by decide +kernel
theorem dX12_shown_76 : decode cX12_shown 76 = .ok (.istore 7, 2) := by decide +kernel
theorem dX12_shown_78 : decode cX12_shown 78 = .ok (.iload 7, 2) := by decide +kernel
theorem dX12_shown_80 : decode cX12_shown 80 = .ok (.ldc_w 353, 3) := by decide +kernel
theorem dX12_shown_83 : decode cX12_shown 83 = .ok (.if_icmp .eq 36, 3) := by decide +kernel
theorem dX12_shown_86 : decode cX12_shown 86 = .ok (.iload 5, 2) := by decide +kernel
theorem dX12_shown_88 : decode cX12_shown 88 = .ok (.ldc_w 353, 3) := by decide +kernel
theorem dX12_shown_91 : decode cX12_shown 91 = .ok (.if_icmp .eq 24, 3) := by decide +kernel
theorem dX12_shown_94 : decode cX12_shown 94 = .ok (.iload_n 3, 1) := by decide +kernel
theorem dX12_shown_95 : decode cX12_shown 95 = .ok (.ifCond .eq 13, 3) := by decide +kernel
theorem dX12_shown_98 : decode cX12_shown 98 = .ok (.iload 7, 2) := by decide +kernel
theorem dX12_shown_100 : decode cX12_shown 100 = .ok (.iload 5, 2) := by decide +kernel
theorem dX12_shown_102 : decode cX12_shown 102 = .ok (.if_icmp .le 17, 3) := by decide +kernel
theorem dX12_shown_105 : decode cX12_shown 105 = .ok (.goto 10, 3) := by decide +kernel
theorem dX12_shown_108 : decode cX12_shown 108 = .ok (.iload 7, 2) := by decide +kernel
theorem dX12_shown_110 : decode cX12_shown 110 = .ok (.iload 5, 2) := by decide +kernel
theorem dX12_shown_112 : decode cX12_shown 112 = .ok (.if_icmp .ge 7, 3) := by decide +kernel
theorem dX12_shown_115 : decode cX12_shown 115 = .ok (.iload 7, 2) := by decide +kernel
theorem dX12_shown_117 : decode cX12_shown 117 = .ok (.istore 5, 2) := by decide +kernel
theorem dX12_shown_119 : decode cX12_shown 119 = .ok (.iinc 6 1, 3) := by decide +kernel
theorem dX12_shown_122 : decode cX12_shown 122 = .ok (.goto (-89), 3) := by decide +kernel
theorem dX12_shown_125 : decode cX12_shown 125 = .ok (.iload 5, 2) := by decide +kernel
theorem dX12_shown_127 : decode cX12_shown 127 = .ok (.ireturn, 1) := by decide +kernel
theorem dX12_isRow_0 : decode cX12_isRow 0 = .ok (.iconst 0, 1) := by decide +kernel
theorem dX12_isRow_1 : decode cX12_isRow 1 = .ok (.istore 5, 2) := by decide +kernel
theorem dX12_isRow_3 : decode cX12_isRow 3 = .ok (.iload 5, 2) := by decide +kernel
theorem dX12_isRow_5 : decode cX12_isRow 5 = .ok (.aload_n 0, 1) := by decide +kernel
theorem dX12_isRow_6 : decode cX12_isRow 6 = .ok (.getfield 321, 3) := by decide +kernel
theorem dX12_isRow_9 : decode cX12_isRow 9 = .ok (.if_icmp .ge 83, 3) := by decide +kernel
theorem dX12_isRow_12 : decode cX12_isRow 12 = .ok (.aload_n 0, 1) := by decide +kernel
theorem dX12_isRow_13 : decode cX12_isRow 13 = .ok (.getfield 103, 3) := by decide +kernel
theorem dX12_isRow_16 : decode cX12_isRow 16 = .ok (.bipush 60, 2) := by decide +kernel
theorem dX12_isRow_18 : decode cX12_isRow 18 = .ok (.iload 5, 2) := by decide +kernel
theorem dX12_isRow_20 : decode cX12_isRow 20 = .ok (.imul, 1) := by decide +kernel
theorem dX12_isRow_21 : decode cX12_isRow 21 = .ok (.iload_n 2, 1) := by decide +kernel
theorem dX12_isRow_22 : decode cX12_isRow 22 = .ok (.iadd, 1) := by decide +kernel
theorem dX12_isRow_23 : decode cX12_isRow 23 = .ok (.iaload, 1) := by decide +kernel
theorem dX12_isRow_24 : decode cX12_isRow 24 = .ok (.istore 6, 2) := by decide +kernel
theorem dX12_isRow_26 : decode cX12_isRow 26 = .ok (.iload 5, 2) := by decide +kernel
theorem dX12_isRow_28 : decode cX12_isRow 28 = .ok (.iload_n 1, 1) := by decide +kernel
theorem dX12_isRow_29 : decode cX12_isRow 29 = .ok (.if_icmp .eq 57, 3) := by decide +kernel
theorem dX12_isRow_32 : decode cX12_isRow 32 = .ok (.iload 6, 2) := by decide +kernel
theorem dX12_isRow_34 : decode cX12_isRow 34 = .ok (.ldc_w 353, 3) := by decide +kernel
theorem dX12_isRow_37 : decode cX12_isRow 37 = .ok (.if_icmp .eq 49, 3) := by decide +kernel
theorem dX12_isRow_40 : decode cX12_isRow 40 = .ok (.aload_n 0, 1) := by decide +kernel
theorem dX12_isRow_41 : decode cX12_isRow 41 = .ok (.iload_n 1, 1) := by decide +kernel
theorem dX12_isRow_42 : decode cX12_isRow 42 = .ok (.iload_n 3, 1) := by decide +kernel
theorem dX12_isRow_43 : decode cX12_isRow 43 = .ok (.iload 6, 2) := by decide +kernel
theorem dX12_isRow_45 : decode cX12_isRow 45 = .ok (.invokevirtual 392, 3) := by decide +kernel
theorem dX12_isRow_48 : decode cX12_isRow 48 = .ok (.ifCond .ne 6, 3) := by decide +kernel
theorem dX12_isRow_51 : decode cX12_isRow 51 = .ok (.goto 35, 3) := by decide +kernel
theorem dX12_isRow_54 : decode cX12_isRow 54 = .ok (.aload_n 0, 1) := by decide +kernel
theorem dX12_isRow_55 : decode cX12_isRow 55 = .ok (.iload 5, 2) := by decide +kernel
theorem dX12_isRow_57 : decode cX12_isRow 57 = .ok (.iload_n 2, 1) := by decide +kernel
theorem dX12_isRow_58 : decode cX12_isRow 58 = .ok (.invokevirtual 400, 3) := by decide +kernel
theorem dX12_isRow_61 : decode cX12_isRow 61 = .ok (.istore 7, 2) := by decide +kernel
theorem dX12_isRow_63 : decode cX12_isRow 63 = .ok (.iload 7, 2) := by decide +kernel
theorem dX12_isRow_65 : decode cX12_isRow 65 = .ok (.ldc_w 353, 3) := by decide +kernel
theorem dX12_isRow_68 : decode cX12_isRow 68 = .ok (.if_icmp .eq 18, 3) := by decide +kernel
theorem dX12_isRow_71 : decode cX12_isRow 71 = .ok (.aload_n 0, 1) := by decide +kernel
theorem dX12_isRow_72 : decode cX12_isRow 72 = .ok (.iload 5, 2) := by decide +kernel
theorem dX12_isRow_74 : decode cX12_isRow 74 = .ok (.iload 7, 2) := by decide +kernel
theorem dX12_isRow_76 : decode cX12_isRow 76 = .ok (.iload 4, 2) := by decide +kernel
theorem dX12_isRow_78 : decode cX12_isRow 78 = .ok (.invokevirtual 392, 3) := by decide +kernel
theorem dX12_isRow_81 : decode cX12_isRow 81 = .ok (.ifCond .eq 5, 3) := by decide +kernel
theorem dX12_isRow_84 : decode cX12_isRow 84 = .ok (.iconst 1, 1) := by decide +kernel
theorem dX12_isRow_85 : decode cX12_isRow 85 = .ok (.ireturn, 1) := by decide +kernel
theorem dX12_isRow_86 : decode cX12_isRow 86 = .ok (.iinc 5 1, 3) := by decide +kernel
theorem dX12_isRow_89 : decode cX12_isRow 89 = .ok (.goto (-86), 3) := by decide +kernel
theorem dX12_isRow_92 : decode cX12_isRow 92 = .ok (.iconst 0, 1) := by decide +kernel
theorem dX12_isRow_93 : decode cX12_isRow 93 = .ok (.ireturn, 1) := by decide +kernel
theorem dX12_wrongOn_0 : decode cX12_wrongOn 0 = .ok (.aload_n 0, 1) := by decide +kernel
theorem dX12_wrongOn_1 : decode cX12_wrongOn 1 = .ok (.getfield 103, 3) := by decide +kernel
theorem dX12_wrongOn_4 : decode cX12_wrongOn 4 = .ok (.bipush 60, 2) := by decide +kernel
theorem dX12_wrongOn_6 : decode cX12_wrongOn 6 = .ok (.iload_n 1, 1) := by decide +kernel
theorem dX12_wrongOn_7 : decode cX12_wrongOn 7 = .ok (.imul, 1) := by decide +kernel
theorem dX12_wrongOn_8 : decode cX12_wrongOn 8 = .ok (.iload_n 2, 1) := by decide +kernel
theorem dX12_wrongOn_9 : decode cX12_wrongOn 9 = .ok (.iadd, 1) := by decide +kernel
theorem dX12_wrongOn_10 : decode cX12_wrongOn 10 = .ok (.iaload, 1) := by decide +kernel
theorem dX12_wrongOn_11 : decode cX12_wrongOn 11 = .ok (.istore_n 3, 1) := by decide +kernel
theorem dX12_wrongOn_12 : decode cX12_wrongOn 12 = .ok (.aload_n 0, 1) := by decide +kernel
theorem dX12_wrongOn_13 : decode cX12_wrongOn 13 = .ok (.iload_n 1, 1) := by decide +kernel
theorem dX12_wrongOn_14 : decode cX12_wrongOn 14 = .ok (.iload_n 2, 1) := by decide +kernel
theorem dX12_wrongOn_15 : decode cX12_wrongOn 15 = .ok (.invokevirtual 400, 3) := by decide +kernel
theorem dX12_wrongOn_18 : decode cX12_wrongOn 18 = .ok (.istore 4, 2) := by decide +kernel
theorem dX12_wrongOn_20 : decode cX12_wrongOn 20 = .ok (.iload_n 3, 1) := by decide +kernel
theorem dX12_wrongOn_21 : decode cX12_wrongOn 21 = .ok (.ldc_w 353, 3) := by decide +kernel
theorem dX12_wrongOn_24 : decode cX12_wrongOn 24 = .ok (.if_icmp .eq 11, 3) := by decide +kernel
theorem dX12_wrongOn_27 : decode cX12_wrongOn 27 = .ok (.iload 4, 2) := by decide +kernel
theorem dX12_wrongOn_29 : decode cX12_wrongOn 29 = .ok (.ldc_w 353, 3) := by decide +kernel
theorem dX12_wrongOn_32 : decode cX12_wrongOn 32 = .ok (.if_icmp .ne 5, 3) := by decide +kernel
theorem dX12_wrongOn_35 : decode cX12_wrongOn 35 = .ok (.iconst (-1), 1) := by decide +kernel
theorem dX12_wrongOn_36 : decode cX12_wrongOn 36 = .ok (.ireturn, 1) := by decide +kernel
theorem dX12_wrongOn_37 : decode cX12_wrongOn 37 = .ok (.aload_n 0, 1) := by decide +kernel
theorem dX12_wrongOn_38 : decode cX12_wrongOn 38 = .ok (.iload_n 1, 1) := by decide +kernel
theorem dX12_wrongOn_39 : decode cX12_wrongOn 39 = .ok (.iload 4, 2) := by decide +kernel
theorem dX12_wrongOn_41 : decode cX12_wrongOn 41 = .ok (.iload_n 3, 1) := by decide +kernel
theorem dX12_wrongOn_42 : decode cX12_wrongOn 42 = .ok (.invokevirtual 392, 3) := by decide +kernel
theorem dX12_wrongOn_45 : decode cX12_wrongOn 45 = .ok (.ifCond .eq 5, 3) := by decide +kernel
theorem dX12_wrongOn_48 : decode cX12_wrongOn 48 = .ok (.iconst 0, 1) := by decide +kernel
theorem dX12_wrongOn_49 : decode cX12_wrongOn 49 = .ok (.ireturn, 1) := by decide +kernel
theorem dX12_wrongOn_50 : decode cX12_wrongOn 50 = .ok (.aload_n 0, 1) := by decide +kernel
theorem dX12_wrongOn_51 : decode cX12_wrongOn 51 = .ok (.getfield 33, 3) := by decide +kernel
theorem dX12_wrongOn_54 : decode cX12_wrongOn 54 = .ok (.iload_n 1, 1) := by decide +kernel
theorem dX12_wrongOn_55 : decode cX12_wrongOn 55 = .ok (.iaload, 1) := by decide +kernel
theorem dX12_wrongOn_56 : decode cX12_wrongOn 56 = .ok (.iconst 3, 1) := by decide +kernel
theorem dX12_wrongOn_57 : decode cX12_wrongOn 57 = .ok (.if_icmp .ne 19, 3) := by decide +kernel
theorem dX12_wrongOn_60 : decode cX12_wrongOn 60 = .ok (.aload_n 0, 1) := by decide +kernel
theorem dX12_wrongOn_61 : decode cX12_wrongOn 61 = .ok (.iload_n 1, 1) := by decide +kernel
theorem dX12_wrongOn_62 : decode cX12_wrongOn 62 = .ok (.iload 4, 2) := by decide +kernel
theorem dX12_wrongOn_64 : decode cX12_wrongOn 64 = .ok (.iload_n 3, 1) := by decide +kernel
theorem dX12_wrongOn_65 : decode cX12_wrongOn 65 = .ok (.bipush 8, 2) := by decide +kernel
theorem dX12_wrongOn_67 : decode cX12_wrongOn 67 = .ok (.iadd, 1) := by decide +kernel
theorem dX12_wrongOn_68 : decode cX12_wrongOn 68 = .ok (.invokevirtual 392, 3) := by decide +kernel
theorem dX12_wrongOn_71 : decode cX12_wrongOn 71 = .ok (.ifCond .eq 5, 3) := by decide +kernel
theorem dX12_wrongOn_74 : decode cX12_wrongOn 74 = .ok (.iconst 1, 1) := by decide +kernel
theorem dX12_wrongOn_75 : decode cX12_wrongOn 75 = .ok (.ireturn, 1) := by decide +kernel
theorem dX12_wrongOn_76 : decode cX12_wrongOn 76 = .ok (.iload_n 2, 1) := by decide +kernel
theorem dX12_wrongOn_77 : decode cX12_wrongOn 77 = .ok (.ifCond .le 22, 3) := by decide +kernel
theorem dX12_wrongOn_80 : decode cX12_wrongOn 80 = .ok (.aload_n 0, 1) := by decide +kernel
theorem dX12_wrongOn_81 : decode cX12_wrongOn 81 = .ok (.getfield 103, 3) := by decide +kernel
theorem dX12_wrongOn_84 : decode cX12_wrongOn 84 = .ok (.bipush 60, 2) := by decide +kernel
theorem dX12_wrongOn_86 : decode cX12_wrongOn 86 = .ok (.iload_n 1, 1) := by decide +kernel
theorem dX12_wrongOn_87 : decode cX12_wrongOn 87 = .ok (.imul, 1) := by decide +kernel
theorem dX12_wrongOn_88 : decode cX12_wrongOn 88 = .ok (.iload_n 2, 1) := by decide +kernel
theorem dX12_wrongOn_89 : decode cX12_wrongOn 89 = .ok (.iadd, 1) := by decide +kernel
theorem dX12_wrongOn_90 : decode cX12_wrongOn 90 = .ok (.iconst 1, 1) := by decide +kernel
theorem dX12_wrongOn_91 : decode cX12_wrongOn 91 = .ok (.isub, 1) := by decide +kernel
theorem dX12_wrongOn_92 : decode cX12_wrongOn 92 = .ok (.iaload, 1) := by decide +kernel
theorem dX12_wrongOn_93 : decode cX12_wrongOn 93 = .ok (.iload_n 3, 1) := by decide +kernel
theorem dX12_wrongOn_94 : decode cX12_wrongOn 94 = .ok (.if_icmp .ne 5, 3) := by decide +kernel
theorem dX12_wrongOn_97 : decode cX12_wrongOn 97 = .ok (.iconst 2, 1) := by decide +kernel
theorem dX12_wrongOn_98 : decode cX12_wrongOn 98 = .ok (.ireturn, 1) := by decide +kernel
theorem dX12_wrongOn_99 : decode cX12_wrongOn 99 = .ok (.aload_n 0, 1) := by decide +kernel
theorem dX12_wrongOn_100 : decode cX12_wrongOn 100 = .ok (.iload_n 1, 1) := by decide +kernel
theorem dX12_wrongOn_101 : decode cX12_wrongOn 101 = .ok (.iload_n 2, 1) := by decide +kernel
theorem dX12_wrongOn_102 : decode cX12_wrongOn 102 = .ok (.iload 4, 2) := by decide +kernel
theorem dX12_wrongOn_104 : decode cX12_wrongOn 104 = .ok (.iload_n 3, 1) := by decide +kernel
theorem dX12_wrongOn_105 : decode cX12_wrongOn 105 = .ok (.invokevirtual 403, 3) := by decide +kernel
theorem dX12_wrongOn_108 : decode cX12_wrongOn 108 = .ok (.ifCond .eq 5, 3) := by decide +kernel
theorem dX12_wrongOn_111 : decode cX12_wrongOn 111 = .ok (.iconst 3, 1) := by decide +kernel
theorem dX12_wrongOn_112 : decode cX12_wrongOn 112 = .ok (.ireturn, 1) := by decide +kernel
theorem dX12_wrongOn_113 : decode cX12_wrongOn 113 = .ok (.aload_n 0, 1) := by decide +kernel
theorem dX12_wrongOn_114 : decode cX12_wrongOn 114 = .ok (.getfield 33, 3) := by decide +kernel
theorem dX12_wrongOn_117 : decode cX12_wrongOn 117 = .ok (.iload_n 1, 1) := by decide +kernel
theorem dX12_wrongOn_118 : decode cX12_wrongOn 118 = .ok (.iaload, 1) := by decide +kernel
theorem dX12_wrongOn_119 : decode cX12_wrongOn 119 = .ok (.iconst 2, 1) := by decide +kernel
theorem dX12_wrongOn_120 : decode cX12_wrongOn 120 = .ok (.if_icmp .ne 26, 3) := by decide +kernel
theorem dX12_wrongOn_123 : decode cX12_wrongOn 123 = .ok (.iload_n 3, 1) := by decide +kernel
theorem dX12_wrongOn_124 : decode cX12_wrongOn 124 = .ok (.iload 4, 2) := by decide +kernel
theorem dX12_wrongOn_126 : decode cX12_wrongOn 126 = .ok (.if_icmp .ge 20, 3) := by decide +kernel
theorem dX12_wrongOn_129 : decode cX12_wrongOn 129 = .ok (.aload_n 0, 1) := by decide +kernel
theorem dX12_wrongOn_130 : decode cX12_wrongOn 130 = .ok (.iload_n 1, 1) := by decide +kernel
theorem dX12_wrongOn_131 : decode cX12_wrongOn 131 = .ok (.iload 4, 2) := by decide +kernel
theorem dX12_wrongOn_133 : decode cX12_wrongOn 133 = .ok (.iconst 2, 1) := by decide +kernel
theorem dX12_wrongOn_134 : decode cX12_wrongOn 134 = .ok (.iload_n 3, 1) := by decide +kernel
theorem dX12_wrongOn_135 : decode cX12_wrongOn 135 = .ok (.imul, 1) := by decide +kernel
theorem dX12_wrongOn_136 : decode cX12_wrongOn 136 = .ok (.invokevirtual 392, 3) := by decide +kernel
theorem dX12_wrongOn_139 : decode cX12_wrongOn 139 = .ok (.ifCond .eq 7, 3) := by decide +kernel
theorem dX12_wrongOn_142 : decode cX12_wrongOn 142 = .ok (.iconst 4, 1) := by decide +kernel
theorem dX12_wrongOn_143 : decode cX12_wrongOn 143 = .ok (.goto 4, 3) := by decide +kernel
theorem dX12_wrongOn_146 : decode cX12_wrongOn 146 = .ok (.iconst 5, 1) := by decide +kernel
theorem dX12_wrongOn_147 : decode cX12_wrongOn 147 = .ok (.ireturn, 1) := by decide +kernel
theorem dX12_wrong_0 : decode cX12_wrong 0 = .ok (.aload_n 0, 1) := by decide +kernel
theorem dX12_wrong_1 : decode cX12_wrong 1 = .ok (.iload_n 1, 1) := by decide +kernel
theorem dX12_wrong_2 : decode cX12_wrong 2 = .ok (.iload_n 2, 1) := by decide +kernel
theorem dX12_wrong_3 : decode cX12_wrong 3 = .ok (.invokevirtual 357, 3) := by decide +kernel
theorem dX12_wrong_6 : decode cX12_wrong 6 = .ok (.ifCond .ne 5, 3) := by decide +kernel
theorem dX12_wrong_9 : decode cX12_wrong 9 = .ok (.iconst (-1), 1) := by decide +kernel
theorem dX12_wrong_10 : decode cX12_wrong 10 = .ok (.ireturn, 1) := by decide +kernel
theorem dX12_wrong_11 : decode cX12_wrong 11 = .ok (.aload_n 0, 1) := by decide +kernel
theorem dX12_wrong_12 : decode cX12_wrong 12 = .ok (.iload_n 3, 1) := by decide +kernel
theorem dX12_wrong_13 : decode cX12_wrong 13 = .ok (.invokevirtual 354, 3) := by decide +kernel
theorem dX12_wrong_16 : decode cX12_wrong 16 = .ok (.aload_n 0, 1) := by decide +kernel
theorem dX12_wrong_17 : decode cX12_wrong 17 = .ok (.iload_n 1, 1) := by decide +kernel
theorem dX12_wrong_18 : decode cX12_wrong 18 = .ok (.iload_n 2, 1) := by decide +kernel
theorem dX12_wrong_19 : decode cX12_wrong 19 = .ok (.invokevirtual 407, 3) := by decide +kernel
theorem dX12_wrong_22 : decode cX12_wrong 22 = .ok (.ireturn, 1) := by decide +kernel
theorem dX12_habit_0 : decode cX12_habit 0 = .ok (.iload_n 1, 1) := by decide +kernel
theorem dX12_habit_1 : decode cX12_habit 1 = .ok (.ifCond .lt 8, 3) := by decide +kernel
theorem dX12_habit_4 : decode cX12_habit 4 = .ok (.iload_n 1, 1) := by decide +kernel
theorem dX12_habit_5 : decode cX12_habit 5 = .ok (.iconst 1, 1) := by decide +kernel
theorem dX12_habit_6 : decode cX12_habit 6 = .ok (.if_icmp .le 5, 3) := by decide +kernel
theorem dX12_habit_9 : decode cX12_habit 9 = .ok (.iconst (-1), 1) := by decide +kernel
theorem dX12_habit_10 : decode cX12_habit 10 = .ok (.ireturn, 1) := by decide +kernel
theorem dX12_habit_11 : decode cX12_habit 11 = .ok (.aload_n 0, 1) := by decide +kernel
theorem dX12_habit_12 : decode cX12_habit 12 = .ok (.iload_n 2, 1) := by decide +kernel
theorem dX12_habit_13 : decode cX12_habit 13 = .ok (.invokevirtual 354, 3) := by decide +kernel
theorem dX12_habit_16 : decode cX12_habit 16 = .ok (.iconst 0, 1) := by decide +kernel
theorem dX12_habit_17 : decode cX12_habit 17 = .ok (.istore_n 3, 1) := by decide +kernel
theorem dX12_habit_18 : decode cX12_habit 18 = .ok (.iload_n 3, 1) := by decide +kernel
theorem dX12_habit_19 : decode cX12_habit 19 = .ok (.bipush 10, 2) := by decide +kernel
theorem dX12_habit_21 : decode cX12_habit 21 = .ok (.if_icmp .ge 23, 3) := by decide +kernel
theorem dX12_habit_24 : decode cX12_habit 24 = .ok (.aload_n 0, 1) := by decide +kernel
theorem dX12_habit_25 : decode cX12_habit 25 = .ok (.getfield 121, 3) := by decide +kernel
theorem dX12_habit_28 : decode cX12_habit 28 = .ok (.iload_n 3, 1) := by decide +kernel
theorem dX12_habit_29 : decode cX12_habit 29 = .ok (.iconst 0, 1) := by decide +kernel
theorem dX12_habit_30 : decode cX12_habit 30 = .ok (.iastore, 1) := by decide +kernel
theorem dX12_habit_31 : decode cX12_habit 31 = .ok (.aload_n 0, 1) := by decide +kernel
theorem dX12_habit_32 : decode cX12_habit 32 = .ok (.getfield 124, 3) := by decide +kernel
theorem dX12_habit_35 : decode cX12_habit 35 = .ok (.iload_n 3, 1) := by decide +kernel
theorem dX12_habit_36 : decode cX12_habit 36 = .ok (.iconst 0, 1) := by decide +kernel
theorem dX12_habit_37 : decode cX12_habit 37 = .ok (.iastore, 1) := by decide +kernel
theorem dX12_habit_38 : decode cX12_habit 38 = .ok (.iinc 3 1, 3) := by decide +kernel
theorem dX12_habit_41 : decode cX12_habit 41 = .ok (.goto (-23), 3) := by decide +kernel
theorem dX12_habit_44 : decode cX12_habit 44 = .ok (.iconst 0, 1) := by decide +kernel
theorem dX12_habit_45 : decode cX12_habit 45 = .ok (.istore_n 3, 1) := by decide +kernel
theorem dX12_habit_46 : decode cX12_habit 46 = .ok (.iload_n 3, 1) := by decide +kernel
theorem dX12_habit_47 : decode cX12_habit 47 = .ok (.aload_n 0, 1) := by decide +kernel
theorem dX12_habit_48 : decode cX12_habit 48 = .ok (.getfield 321, 3) := by decide +kernel
theorem dX12_habit_51 : decode cX12_habit 51 = .ok (.if_icmp .ge 115, 3) := by decide +kernel
theorem dX12_habit_54 : decode cX12_habit 54 = .ok (.iconst 0, 1) := by decide +kernel
theorem dX12_habit_55 : decode cX12_habit 55 = .ok (.istore 4, 2) := by decide +kernel
theorem dX12_habit_57 : decode cX12_habit 57 = .ok (.iload 4, 2) := by decide +kernel
theorem dX12_habit_59 : decode cX12_habit 59 = .ok (.bipush 60, 2) := by decide +kernel
theorem dX12_habit_61 : decode cX12_habit 61 = .ok (.if_icmp .ge 99, 3) := by decide +kernel
theorem dX12_habit_64 : decode cX12_habit 64 = .ok (.aload_n 0, 1) := by decide +kernel
theorem dX12_habit_65 : decode cX12_habit 65 = .ok (.getfield 103, 3) := by decide +kernel
theorem dX12_habit_68 : decode cX12_habit 68 = .ok (.bipush 60, 2) := by decide +kernel
theorem dX12_habit_70 : decode cX12_habit 70 = .ok (.iload_n 3, 1) := by decide +kernel
theorem dX12_habit_71 : decode cX12_habit 71 = .ok (.imul, 1) := by decide +kernel
theorem dX12_habit_72 : decode cX12_habit 72 = .ok (.iload 4, 2) := by decide +kernel
theorem dX12_habit_74 : decode cX12_habit 74 = .ok (.iadd, 1) := by decide +kernel
theorem dX12_habit_75 : decode cX12_habit 75 = .ok (.iaload, 1) := by decide +kernel
theorem dX12_habit_76 : decode cX12_habit 76 = .ok (.ldc_w 353, 3) := by decide +kernel
theorem dX12_habit_79 : decode cX12_habit 79 = .ok (.if_icmp .ne 7, 3) := by decide +kernel
theorem dX12_habit_82 : decode cX12_habit 82 = .ok (.iconst (-1), 1) := by decide +kernel
theorem dX12_habit_83 : decode cX12_habit 83 = .ok (.goto 10, 3) := by decide +kernel
theorem dX12_habit_86 : decode cX12_habit 86 = .ok (.aload_n 0, 1) := by decide +kernel
theorem dX12_habit_87 : decode cX12_habit 87 = .ok (.iload_n 3, 1) := by decide +kernel
theorem dX12_habit_88 : decode cX12_habit 88 = .ok (.iload 4, 2) := by decide +kernel
theorem dX12_habit_90 : decode cX12_habit 90 = .ok (.invokevirtual 407, 3) := by decide +kernel
theorem dX12_habit_93 : decode cX12_habit 93 = .ok (.istore 5, 2) := by decide +kernel
theorem dX12_habit_95 : decode cX12_habit 95 = .ok (.iload 5, 2) := by decide +kernel
theorem dX12_habit_97 : decode cX12_habit 97 = .ok (.ifCond .ge 6, 3) := by decide +kernel
theorem dX12_habit_100 : decode cX12_habit 100 = .ok (.goto 54, 3) := by decide +kernel
theorem dX12_habit_103 : decode cX12_habit 103 = .ok (.aload_n 0, 1) := by decide +kernel
theorem dX12_habit_104 : decode cX12_habit 104 = .ok (.getfield 121, 3) := by decide +kernel
theorem dX12_habit_107 : decode cX12_habit 107 = .ok (.aload_n 0, 1) := by decide +kernel
theorem dX12_habit_108 : decode cX12_habit 108 = .ok (.getfield 106, 3) := by decide +kernel
theorem dX12_habit_111 : decode cX12_habit 111 = .ok (.bipush 60, 2) := by decide +kernel
theorem dX12_habit_113 : decode cX12_habit 113 = .ok (.iload_n 3, 1) := by decide +kernel
theorem dX12_habit_114 : decode cX12_habit 114 = .ok (.imul, 1) := by decide +kernel
theorem dX12_habit_115 : decode cX12_habit 115 = .ok (.iload 4, 2) := by decide +kernel
theorem dX12_habit_117 : decode cX12_habit 117 = .ok (.iadd, 1) := by decide +kernel
theorem dX12_habit_118 : decode cX12_habit 118 = .ok (.iaload, 1) := by decide +kernel
theorem dX12_habit_119 : decode cX12_habit 119 = .ok (.dup2, 1) := by decide +kernel
theorem dX12_habit_120 : decode cX12_habit 120 = .ok (.iaload, 1) := by decide +kernel
theorem dX12_habit_121 : decode cX12_habit 121 = .ok (.iconst 1, 1) := by decide +kernel
theorem dX12_habit_122 : decode cX12_habit 122 = .ok (.iadd, 1) := by decide +kernel
theorem dX12_habit_123 : decode cX12_habit 123 = .ok (.iastore, 1) := by decide +kernel
theorem dX12_habit_124 : decode cX12_habit 124 = .ok (.aload_n 0, 1) := by decide +kernel
theorem dX12_habit_125 : decode cX12_habit 125 = .ok (.getfield 124, 3) := by decide +kernel
theorem dX12_habit_128 : decode cX12_habit 128 = .ok (.aload_n 0, 1) := by decide +kernel
theorem dX12_habit_129 : decode cX12_habit 129 = .ok (.getfield 106, 3) := by decide +kernel
theorem dX12_habit_132 : decode cX12_habit 132 = .ok (.bipush 60, 2) := by decide +kernel
theorem dX12_habit_134 : decode cX12_habit 134 = .ok (.iload_n 3, 1) := by decide +kernel
theorem dX12_habit_135 : decode cX12_habit 135 = .ok (.imul, 1) := by decide +kernel
theorem dX12_habit_136 : decode cX12_habit 136 = .ok (.iload 4, 2) := by decide +kernel
theorem dX12_habit_138 : decode cX12_habit 138 = .ok (.iadd, 1) := by decide +kernel
theorem dX12_habit_139 : decode cX12_habit 139 = .ok (.iaload, 1) := by decide +kernel
theorem dX12_habit_140 : decode cX12_habit 140 = .ok (.dup2, 1) := by decide +kernel
theorem dX12_habit_141 : decode cX12_habit 141 = .ok (.iaload, 1) := by decide +kernel
theorem dX12_habit_142 : decode cX12_habit 142 = .ok (.iload 5, 2) := by decide +kernel
theorem dX12_habit_144 : decode cX12_habit 144 = .ok (.ifCond .le 7, 3) := by decide +kernel
theorem dX12_habit_147 : decode cX12_habit 147 = .ok (.iconst 1, 1) := by decide +kernel
theorem dX12_habit_148 : decode cX12_habit 148 = .ok (.goto 4, 3) := by decide +kernel
theorem dX12_habit_151 : decode cX12_habit 151 = .ok (.iconst 0, 1) := by decide +kernel
theorem dX12_habit_152 : decode cX12_habit 152 = .ok (.iadd, 1) := by decide +kernel
theorem dX12_habit_153 : decode cX12_habit 153 = .ok (.iastore, 1) := by decide +kernel
theorem dX12_habit_154 : decode cX12_habit 154 = .ok (.iinc 4 1, 3) := by decide +kernel
theorem dX12_habit_157 : decode cX12_habit 157 = .ok (.goto (-100), 3) := by decide +kernel
theorem dX12_habit_160 : decode cX12_habit 160 = .ok (.iinc 3 1, 3) := by decide +kernel
theorem dX12_habit_163 : decode cX12_habit 163 = .ok (.goto (-117), 3) := by decide +kernel
theorem dX12_habit_166 : decode cX12_habit 166 = .ok (.iconst (-1), 1) := by decide +kernel
theorem dX12_habit_167 : decode cX12_habit 167 = .ok (.istore_n 3, 1) := by decide +kernel
theorem dX12_habit_168 : decode cX12_habit 168 = .ok (.iconst 0, 1) := by decide +kernel
theorem dX12_habit_169 : decode cX12_habit 169 = .ok (.istore 4, 2) := by decide +kernel
theorem dX12_habit_171 : decode cX12_habit 171 = .ok (.iload 4, 2) := by decide +kernel
theorem dX12_habit_173 : decode cX12_habit 173 = .ok (.bipush 10, 2) := by decide +kernel
theorem dX12_habit_175 : decode cX12_habit 175 = .ok (.if_icmp .ge 57, 3) := by decide +kernel
theorem dX12_habit_178 : decode cX12_habit 178 = .ok (.aload_n 0, 1) := by decide +kernel
theorem dX12_habit_179 : decode cX12_habit 179 = .ok (.getfield 121, 3) := by decide +kernel
theorem dX12_habit_182 : decode cX12_habit 182 = .ok (.iload 4, 2) := by decide +kernel
theorem dX12_habit_184 : decode cX12_habit 184 = .ok (.iaload, 1) := by decide +kernel
theorem dX12_habit_185 : decode cX12_habit 185 = .ok (.ifCond .le 41, 3) := by decide +kernel
theorem dX12_habit_188 : decode cX12_habit 188 = .ok (.iload_n 3, 1) := by decide +kernel
theorem dX12_habit_189 : decode cX12_habit 189 = .ok (.ifCond .lt 34, 3) := by decide +kernel
theorem dX12_habit_192 : decode cX12_habit 192 = .ok (.aload_n 0, 1) := by decide +kernel
theorem dX12_habit_193 : decode cX12_habit 193 = .ok (.getfield 124, 3) := by decide +kernel
theorem dX12_habit_196 : decode cX12_habit 196 = .ok (.iload 4, 2) := by decide +kernel
theorem dX12_habit_198 : decode cX12_habit 198 = .ok (.iaload, 1) := by decide +kernel
theorem dX12_habit_199 : decode cX12_habit 199 = .ok (.aload_n 0, 1) := by decide +kernel
theorem dX12_habit_200 : decode cX12_habit 200 = .ok (.getfield 121, 3) := by decide +kernel
theorem dX12_habit_203 : decode cX12_habit 203 = .ok (.iload_n 3, 1) := by decide +kernel
theorem dX12_habit_204 : decode cX12_habit 204 = .ok (.iaload, 1) := by decide +kernel
theorem dX12_habit_205 : decode cX12_habit 205 = .ok (.imul, 1) := by decide +kernel
theorem dX12_habit_206 : decode cX12_habit 206 = .ok (.aload_n 0, 1) := by decide +kernel
theorem dX12_habit_207 : decode cX12_habit 207 = .ok (.getfield 124, 3) := by decide +kernel
theorem dX12_habit_210 : decode cX12_habit 210 = .ok (.iload_n 3, 1) := by decide +kernel
theorem dX12_habit_211 : decode cX12_habit 211 = .ok (.iaload, 1) := by decide +kernel
theorem dX12_habit_212 : decode cX12_habit 212 = .ok (.aload_n 0, 1) := by decide +kernel
theorem dX12_habit_213 : decode cX12_habit 213 = .ok (.getfield 121, 3) := by decide +kernel
theorem dX12_habit_216 : decode cX12_habit 216 = .ok (.iload 4, 2) := by decide +kernel
theorem dX12_habit_218 : decode cX12_habit 218 = .ok (.iaload, 1) := by decide +kernel
theorem dX12_habit_219 : decode cX12_habit 219 = .ok (.imul, 1) := by decide +kernel
theorem dX12_habit_220 : decode cX12_habit 220 = .ok (.if_icmp .le 6, 3) := by decide +kernel
theorem dX12_habit_223 : decode cX12_habit 223 = .ok (.iload 4, 2) := by decide +kernel
theorem dX12_habit_225 : decode cX12_habit 225 = .ok (.istore_n 3, 1) := by decide +kernel
theorem dX12_habit_226 : decode cX12_habit 226 = .ok (.iinc 4 1, 3) := by decide +kernel
theorem dX12_habit_229 : decode cX12_habit 229 = .ok (.goto (-58), 3) := by decide +kernel
theorem dX12_habit_232 : decode cX12_habit 232 = .ok (.iload_n 3, 1) := by decide +kernel
theorem dX12_habit_233 : decode cX12_habit 233 = .ok (.ifCond .ge 7, 3) := by decide +kernel
theorem dX12_habit_236 : decode cX12_habit 236 = .ok (.iconst (-1), 1) := by decide +kernel
theorem dX12_habit_237 : decode cX12_habit 237 = .ok (.goto 17, 3) := by decide +kernel
theorem dX12_habit_240 : decode cX12_habit 240 = .ok (.iload_n 1, 1) := by decide +kernel
theorem dX12_habit_241 : decode cX12_habit 241 = .ok (.ifCond .ne 7, 3) := by decide +kernel
theorem dX12_habit_244 : decode cX12_habit 244 = .ok (.iload_n 3, 1) := by decide +kernel
theorem dX12_habit_245 : decode cX12_habit 245 = .ok (.goto 9, 3) := by decide +kernel
theorem dX12_habit_248 : decode cX12_habit 248 = .ok (.aload_n 0, 1) := by decide +kernel
theorem dX12_habit_249 : decode cX12_habit 249 = .ok (.getfield 124, 3) := by decide +kernel
theorem dX12_habit_252 : decode cX12_habit 252 = .ok (.iload_n 3, 1) := by decide +kernel
theorem dX12_habit_253 : decode cX12_habit 253 = .ok (.iaload, 1) := by decide +kernel
theorem dX12_habit_254 : decode cX12_habit 254 = .ok (.ireturn, 1) := by decide +kernel
theorem dX12_seekRight_0 : decode cX12_seekRight 0 = .ok (.aload_n 0, 1) := by decide +kernel
theorem dX12_seekRight_1 : decode cX12_seekRight 1 = .ok (.ldc_w 353, 3) := by decide +kernel
theorem dX12_seekRight_4 : decode cX12_seekRight 4 = .ok (.putfield 410, 3) := by decide +kernel
theorem dX12_seekRight_7 : decode cX12_seekRight 7 = .ok (.aload_n 0, 1) := by decide +kernel
theorem dX12_seekRight_8 : decode cX12_seekRight 8 = .ok (.ldc_w 353, 3) := by decide +kernel
theorem dX12_seekRight_11 : decode cX12_seekRight 11 = .ok (.putfield 413, 3) := by decide +kernel
theorem dX12_seekRight_14 : decode cX12_seekRight 14 = .ok (.iconst 0, 1) := by decide +kernel
theorem dX12_seekRight_15 : decode cX12_seekRight 15 = .ok (.istore_n 3, 1) := by decide +kernel
theorem dX12_seekRight_16 : decode cX12_seekRight 16 = .ok (.iload_n 3, 1) := by decide +kernel
theorem dX12_seekRight_17 : decode cX12_seekRight 17 = .ok (.iconst 2, 1) := by decide +kernel
theorem dX12_seekRight_18 : decode cX12_seekRight 18 = .ok (.if_icmp .gt 219, 3) := by decide +kernel
theorem dX12_seekRight_21 : decode cX12_seekRight 21 = .ok (.iload_n 2, 1) := by decide +kernel
theorem dX12_seekRight_22 : decode cX12_seekRight 22 = .ok (.iload_n 3, 1) := by decide +kernel
theorem dX12_seekRight_23 : decode cX12_seekRight 23 = .ok (.iadd, 1) := by decide +kernel
theorem dX12_seekRight_24 : decode cX12_seekRight 24 = .ok (.bipush 60, 2) := by decide +kernel
theorem dX12_seekRight_26 : decode cX12_seekRight 26 = .ok (.if_icmp .ge 211, 3) := by decide +kernel
theorem dX12_seekRight_29 : decode cX12_seekRight 29 = .ok (.aload_n 0, 1) := by decide +kernel
theorem dX12_seekRight_30 : decode cX12_seekRight 30 = .ok (.getfield 103, 3) := by decide +kernel
theorem dX12_seekRight_33 : decode cX12_seekRight 33 = .ok (.bipush 60, 2) := by decide +kernel
theorem dX12_seekRight_35 : decode cX12_seekRight 35 = .ok (.iload_n 1, 1) := by decide +kernel
theorem dX12_seekRight_36 : decode cX12_seekRight 36 = .ok (.imul, 1) := by decide +kernel
theorem dX12_seekRight_37 : decode cX12_seekRight 37 = .ok (.iload_n 2, 1) := by decide +kernel
theorem dX12_seekRight_38 : decode cX12_seekRight 38 = .ok (.iadd, 1) := by decide +kernel
theorem dX12_seekRight_39 : decode cX12_seekRight 39 = .ok (.iload_n 3, 1) := by decide +kernel
theorem dX12_seekRight_40 : decode cX12_seekRight 40 = .ok (.iadd, 1) := by decide +kernel
theorem dX12_seekRight_41 : decode cX12_seekRight 41 = .ok (.iaload, 1) := by decide +kernel
theorem dX12_seekRight_42 : decode cX12_seekRight 42 = .ok (.istore 4, 2) := by decide +kernel
theorem dX12_seekRight_44 : decode cX12_seekRight 44 = .ok (.iload 4, 2) := by decide +kernel
theorem dX12_seekRight_46 : decode cX12_seekRight 46 = .ok (.ldc_w 353, 3) := by decide +kernel
theorem dX12_seekRight_49 : decode cX12_seekRight 49 = .ok (.if_icmp .ne 6, 3) := by decide +kernel
theorem dX12_seekRight_52 : decode cX12_seekRight 52 = .ok (.goto 179, 3) := by decide +kernel
theorem dX12_seekRight_55 : decode cX12_seekRight 55 = .ok (.aload_n 0, 1) := by decide +kernel
theorem dX12_seekRight_56 : decode cX12_seekRight 56 = .ok (.iload_n 1, 1) := by decide +kernel
theorem dX12_seekRight_57 : decode cX12_seekRight 57 = .ok (.iload_n 2, 1) := by decide +kernel
theorem dX12_seekRight_58 : decode cX12_seekRight 58 = .ok (.iload_n 3, 1) := by decide +kernel
theorem dX12_seekRight_59 : decode cX12_seekRight 59 = .ok (.iadd, 1) := by decide +kernel
theorem dX12_seekRight_60 : decode cX12_seekRight 60 = .ok (.invokevirtual 396, 3) := by decide +kernel
theorem dX12_seekRight_63 : decode cX12_seekRight 63 = .ok (.iconst 0, 1) := by decide +kernel
theorem dX12_seekRight_64 : decode cX12_seekRight 64 = .ok (.istore 5, 2) := by decide +kernel
theorem dX12_seekRight_66 : decode cX12_seekRight 66 = .ok (.iload 5, 2) := by decide +kernel
theorem dX12_seekRight_68 : decode cX12_seekRight 68 = .ok (.aload_n 0, 1) := by decide +kernel
theorem dX12_seekRight_69 : decode cX12_seekRight 69 = .ok (.getfield 377, 3) := by decide +kernel
theorem dX12_seekRight_72 : decode cX12_seekRight 72 = .ok (.if_icmp .ge 159, 3) := by decide +kernel
theorem dX12_seekRight_75 : decode cX12_seekRight 75 = .ok (.aload_n 0, 1) := by decide +kernel
theorem dX12_seekRight_76 : decode cX12_seekRight 76 = .ok (.getfield 33, 3) := by decide +kernel
theorem dX12_seekRight_79 : decode cX12_seekRight 79 = .ok (.iload_n 1, 1) := by decide +kernel
theorem dX12_seekRight_80 : decode cX12_seekRight 80 = .ok (.iaload, 1) := by decide +kernel
theorem dX12_seekRight_81 : decode cX12_seekRight 81 = .ok (.invokestatic 339, 3) := by decide +kernel
theorem dX12_seekRight_84 : decode cX12_seekRight 84 = .ok (.istore 6, 2) := by decide +kernel
theorem dX12_seekRight_86 : decode cX12_seekRight 86 = .ok (.iload 6, 2) := by decide +kernel
theorem dX12_seekRight_88 : decode cX12_seekRight 88 = .ok (.aload_n 0, 1) := by decide +kernel
theorem dX12_seekRight_89 : decode cX12_seekRight 89 = .ok (.getfield 33, 3) := by decide +kernel
theorem dX12_seekRight_92 : decode cX12_seekRight 92 = .ok (.iload_n 1, 1) := by decide +kernel
theorem dX12_seekRight_93 : decode cX12_seekRight 93 = .ok (.iaload, 1) := by decide +kernel
theorem dX12_seekRight_94 : decode cX12_seekRight 94 = .ok (.invokestatic 342, 3) := by decide +kernel
theorem dX12_seekRight_97 : decode cX12_seekRight 97 = .ok (.if_icmp .gt 128, 3) := by decide +kernel
theorem dX12_seekRight_100 : decode cX12_seekRight 100 = .ok (.aload_n 0, 1) := by decide +kernel
theorem dX12_seekRight_101 : decode cX12_seekRight 101 = .ok (.getfield 115, 3) := by decide +kernel
theorem dX12_seekRight_104 : decode cX12_seekRight 104 = .ok (.iload 5, 2) := by decide +kernel
theorem dX12_seekRight_106 : decode cX12_seekRight 106 = .ok (.iaload, 1) := by decide +kernel
theorem dX12_seekRight_107 : decode cX12_seekRight 107 = .ok (.iload_n 3, 1) := by decide +kernel
theorem dX12_seekRight_108 : decode cX12_seekRight 108 = .ok (.if_icmp .ne 117, 3) := by decide +kernel
theorem dX12_seekRight_111 : decode cX12_seekRight 111 = .ok (.aload_n 0, 1) := by decide +kernel
theorem dX12_seekRight_112 : decode cX12_seekRight 112 = .ok (.iload_n 1, 1) := by decide +kernel
theorem dX12_seekRight_113 : decode cX12_seekRight 113 = .ok (.aload_n 0, 1) := by decide +kernel
theorem dX12_seekRight_114 : decode cX12_seekRight 114 = .ok (.iload_n 1, 1) := by decide +kernel
theorem dX12_seekRight_115 : decode cX12_seekRight 115 = .ok (.iload_n 2, 1) := by decide +kernel
theorem dX12_seekRight_116 : decode cX12_seekRight 116 = .ok (.iload_n 3, 1) := by decide +kernel
theorem dX12_seekRight_117 : decode cX12_seekRight 117 = .ok (.iadd, 1) := by decide +kernel
theorem dX12_seekRight_118 : decode cX12_seekRight 118 = .ok (.aload_n 0, 1) := by decide +kernel
theorem dX12_seekRight_119 : decode cX12_seekRight 119 = .ok (.getfield 109, 3) := by decide +kernel
theorem dX12_seekRight_122 : decode cX12_seekRight 122 = .ok (.iload 5, 2) := by decide +kernel
theorem dX12_seekRight_124 : decode cX12_seekRight 124 = .ok (.iaload, 1) := by decide +kernel
theorem dX12_seekRight_125 : decode cX12_seekRight 125 = .ok (.aload_n 0, 1) := by decide +kernel
theorem dX12_seekRight_126 : decode cX12_seekRight 126 = .ok (.getfield 112, 3) := by decide +kernel
theorem dX12_seekRight_129 : decode cX12_seekRight 129 = .ok (.iload 5, 2) := by decide +kernel
theorem dX12_seekRight_131 : decode cX12_seekRight 131 = .ok (.iaload, 1) := by decide +kernel
theorem dX12_seekRight_132 : decode cX12_seekRight 132 = .ok (.aload_n 0, 1) := by decide +kernel
theorem dX12_seekRight_133 : decode cX12_seekRight 133 = .ok (.getfield 118, 3) := by decide +kernel
theorem dX12_seekRight_136 : decode cX12_seekRight 136 = .ok (.iload 5, 2) := by decide +kernel
theorem dX12_seekRight_138 : decode cX12_seekRight 138 = .ok (.iaload, 1) := by decide +kernel
theorem dX12_seekRight_139 : decode cX12_seekRight 139 = .ok (.iload 6, 2) := by decide +kernel
theorem dX12_seekRight_141 : decode cX12_seekRight 141 = .ok (.invokevirtual 373, 3) := by decide +kernel
theorem dX12_seekRight_144 : decode cX12_seekRight 144 = .ok (.iload 4, 2) := by decide +kernel
theorem dX12_seekRight_146 : decode cX12_seekRight 146 = .ok (.invokevirtual 392, 3) := by decide +kernel
theorem dX12_seekRight_149 : decode cX12_seekRight 149 = .ok (.ifCond .ne 6, 3) := by decide +kernel
theorem dX12_seekRight_152 : decode cX12_seekRight 152 = .ok (.goto 67, 3) := by decide +kernel
theorem dX12_seekRight_155 : decode cX12_seekRight 155 = .ok (.aload_n 0, 1) := by decide +kernel
theorem dX12_seekRight_156 : decode cX12_seekRight 156 = .ok (.aload_n 0, 1) := by decide +kernel
theorem dX12_seekRight_157 : decode cX12_seekRight 157 = .ok (.getfield 410, 3) := by decide +kernel
theorem dX12_seekRight_160 : decode cX12_seekRight 160 = .ok (.ldc_w 353, 3) := by decide +kernel
theorem dX12_seekRight_163 : decode cX12_seekRight 163 = .ok (.if_icmp .eq 12, 3) := by decide +kernel
theorem dX12_seekRight_166 : decode cX12_seekRight 166 = .ok (.iload 6, 2) := by decide +kernel
theorem dX12_seekRight_168 : decode cX12_seekRight 168 = .ok (.aload_n 0, 1) := by decide +kernel
theorem dX12_seekRight_169 : decode cX12_seekRight 169 = .ok (.getfield 410, 3) := by decide +kernel
theorem dX12_seekRight_172 : decode cX12_seekRight 172 = .ok (.if_icmp .ge 8, 3) := by decide +kernel
theorem dX12_seekRight_175 : decode cX12_seekRight 175 = .ok (.iload 6, 2) := by decide +kernel
theorem dX12_seekRight_177 : decode cX12_seekRight 177 = .ok (.goto 7, 3) := by decide +kernel
theorem dX12_seekRight_180 : decode cX12_seekRight 180 = .ok (.aload_n 0, 1) := by decide +kernel
theorem dX12_seekRight_181 : decode cX12_seekRight 181 = .ok (.getfield 410, 3) := by decide +kernel
theorem dX12_seekRight_184 : decode cX12_seekRight 184 = .ok (.putfield 410, 3) := by decide +kernel
theorem dX12_seekRight_187 : decode cX12_seekRight 187 = .ok (.aload_n 0, 1) := by decide +kernel
theorem dX12_seekRight_188 : decode cX12_seekRight 188 = .ok (.aload_n 0, 1) := by decide +kernel
theorem dX12_seekRight_189 : decode cX12_seekRight 189 = .ok (.getfield 413, 3) := by decide +kernel
theorem dX12_seekRight_192 : decode cX12_seekRight 192 = .ok (.ldc_w 353, 3) := by decide +kernel
theorem dX12_seekRight_195 : decode cX12_seekRight 195 = .ok (.if_icmp .eq 12, 3) := by decide +kernel
theorem dX12_seekRight_198 : decode cX12_seekRight 198 = .ok (.iload 6, 2) := by decide +kernel
theorem dX12_seekRight_200 : decode cX12_seekRight 200 = .ok (.aload_n 0, 1) := by decide +kernel
theorem dX12_seekRight_201 : decode cX12_seekRight 201 = .ok (.getfield 413, 3) := by decide +kernel
theorem dX12_seekRight_204 : decode cX12_seekRight 204 = .ok (.if_icmp .le 8, 3) := by decide +kernel
theorem dX12_seekRight_207 : decode cX12_seekRight 207 = .ok (.iload 6, 2) := by decide +kernel
theorem dX12_seekRight_209 : decode cX12_seekRight 209 = .ok (.goto 7, 3) := by decide +kernel
theorem dX12_seekRight_212 : decode cX12_seekRight 212 = .ok (.aload_n 0, 1) := by decide +kernel
theorem dX12_seekRight_213 : decode cX12_seekRight 213 = .ok (.getfield 413, 3) := by decide +kernel
theorem dX12_seekRight_216 : decode cX12_seekRight 216 = .ok (.putfield 413, 3) := by decide +kernel
theorem dX12_seekRight_219 : decode cX12_seekRight 219 = .ok (.iinc 6 1, 3) := by decide +kernel
theorem dX12_seekRight_222 : decode cX12_seekRight 222 = .ok (.goto (-136), 3) := by decide +kernel
theorem dX12_seekRight_225 : decode cX12_seekRight 225 = .ok (.iinc 5 1, 3) := by decide +kernel
theorem dX12_seekRight_228 : decode cX12_seekRight 228 = .ok (.goto (-162), 3) := by decide +kernel
theorem dX12_seekRight_231 : decode cX12_seekRight 231 = .ok (.iinc 3 1, 3) := by decide +kernel
theorem dX12_seekRight_234 : decode cX12_seekRight 234 = .ok (.goto (-218), 3) := by decide +kernel
theorem dX12_seekRight_237 : decode cX12_seekRight 237 = .ok (.return_, 1) := by decide +kernel
theorem dX12_right_0 : decode cX12_right 0 = .ok (.aload_n 0, 1) := by decide +kernel
theorem dX12_right_1 : decode cX12_right 1 = .ok (.iload_n 1, 1) := by decide +kernel
theorem dX12_right_2 : decode cX12_right 2 = .ok (.iload_n 2, 1) := by decide +kernel
theorem dX12_right_3 : decode cX12_right 3 = .ok (.invokevirtual 357, 3) := by decide +kernel
theorem dX12_right_6 : decode cX12_right 6 = .ok (.ifCond .ne 7, 3) := by decide +kernel
theorem dX12_right_9 : decode cX12_right 9 = .ok (.ldc_w 353, 3) := by decide +kernel
theorem dX12_right_12 : decode cX12_right 12 = .ok (.ireturn, 1) := by decide +kernel
theorem dX12_right_13 : decode cX12_right 13 = .ok (.aload_n 0, 1) := by decide +kernel
theorem dX12_right_14 : decode cX12_right 14 = .ok (.iload 4, 2) := by decide +kernel
theorem dX12_right_16 : decode cX12_right 16 = .ok (.invokevirtual 354, 3) := by decide +kernel
theorem dX12_right_19 : decode cX12_right 19 = .ok (.aload_n 0, 1) := by decide +kernel
theorem dX12_right_20 : decode cX12_right 20 = .ok (.iload_n 1, 1) := by decide +kernel
theorem dX12_right_21 : decode cX12_right 21 = .ok (.iload_n 2, 1) := by decide +kernel
theorem dX12_right_22 : decode cX12_right 22 = .ok (.invokevirtual 416, 3) := by decide +kernel
theorem dX12_right_25 : decode cX12_right 25 = .ok (.iload_n 3, 1) := by decide +kernel
theorem dX12_right_26 : decode cX12_right 26 = .ok (.ifCond .eq 10, 3) := by decide +kernel
theorem dX12_right_29 : decode cX12_right 29 = .ok (.aload_n 0, 1) := by decide +kernel
theorem dX12_right_30 : decode cX12_right 30 = .ok (.getfield 413, 3) := by decide +kernel
theorem dX12_right_33 : decode cX12_right 33 = .ok (.goto 7, 3) := by decide +kernel
theorem dX12_right_36 : decode cX12_right 36 = .ok (.aload_n 0, 1) := by decide +kernel
theorem dX12_right_37 : decode cX12_right 37 = .ok (.getfield 410, 3) := by decide +kernel
theorem dX12_right_40 : decode cX12_right 40 = .ok (.ireturn, 1) := by decide +kernel
theorem dX12_sum_0 : decode cX12_sum 0 = .ok (.aload_n 0, 1) := by decide +kernel
theorem dX12_sum_1 : decode cX12_sum 1 = .ok (.iload_n 1, 1) := by decide +kernel
theorem dX12_sum_2 : decode cX12_sum 2 = .ok (.invokevirtual 349, 3) := by decide +kernel
theorem dX12_sum_5 : decode cX12_sum 5 = .ok (.ifCond .eq 33, 3) := by decide +kernel
theorem dX12_sum_8 : decode cX12_sum 8 = .ok (.iload_n 2, 1) := by decide +kernel
theorem dX12_sum_9 : decode cX12_sum 9 = .ok (.invokestatic 333, 3) := by decide +kernel
theorem dX12_sum_12 : decode cX12_sum 12 = .ok (.ifCond .eq 26, 3) := by decide +kernel
theorem dX12_sum_15 : decode cX12_sum 15 = .ok (.iload_n 3, 1) := by decide +kernel
theorem dX12_sum_16 : decode cX12_sum 16 = .ok (.invokestatic 333, 3) := by decide +kernel
theorem dX12_sum_19 : decode cX12_sum 19 = .ok (.ifCond .eq 19, 3) := by decide +kernel
theorem dX12_sum_22 : decode cX12_sum 22 = .ok (.iload_n 3, 1) := by decide +kernel
theorem dX12_sum_23 : decode cX12_sum 23 = .ok (.iload_n 2, 1) := by decide +kernel
theorem dX12_sum_24 : decode cX12_sum 24 = .ok (.if_icmp .lt 14, 3) := by decide +kernel
theorem dX12_sum_27 : decode cX12_sum 27 = .ok (.iload 4, 2) := by decide +kernel
theorem dX12_sum_29 : decode cX12_sum 29 = .ok (.ifCond .lt 9, 3) := by decide +kernel
theorem dX12_sum_32 : decode cX12_sum 32 = .ok (.iload 4, 2) := by decide +kernel
theorem dX12_sum_34 : decode cX12_sum 34 = .ok (.iconst 2, 1) := by decide +kernel
theorem dX12_sum_35 : decode cX12_sum 35 = .ok (.if_icmp .le 7, 3) := by decide +kernel
theorem dX12_sum_38 : decode cX12_sum 38 = .ok (.ldc_w 353, 3) := by decide +kernel
theorem dX12_sum_41 : decode cX12_sum 41 = .ok (.ireturn, 1) := by decide +kernel
theorem dX12_sum_42 : decode cX12_sum 42 = .ok (.aload_n 0, 1) := by decide +kernel
theorem dX12_sum_43 : decode cX12_sum 43 = .ok (.iload 5, 2) := by decide +kernel
theorem dX12_sum_45 : decode cX12_sum 45 = .ok (.invokevirtual 354, 3) := by decide +kernel
theorem dX12_sum_48 : decode cX12_sum 48 = .ok (.iconst 0, 1) := by decide +kernel
theorem dX12_sum_49 : decode cX12_sum 49 = .ok (.istore 6, 2) := by decide +kernel
theorem dX12_sum_51 : decode cX12_sum 51 = .ok (.iconst 0, 1) := by decide +kernel
theorem dX12_sum_52 : decode cX12_sum 52 = .ok (.istore 7, 2) := by decide +kernel
theorem dX12_sum_54 : decode cX12_sum 54 = .ok (.iconst 0, 1) := by decide +kernel
theorem dX12_sum_55 : decode cX12_sum 55 = .ok (.istore 8, 2) := by decide +kernel
theorem dX12_sum_57 : decode cX12_sum 57 = .ok (.iload_n 2, 1) := by decide +kernel
theorem dX12_sum_58 : decode cX12_sum 58 = .ok (.istore 9, 2) := by decide +kernel
theorem dX12_sum_60 : decode cX12_sum 60 = .ok (.iload 9, 2) := by decide +kernel
theorem dX12_sum_62 : decode cX12_sum 62 = .ok (.iload_n 3, 1) := by decide +kernel
theorem dX12_sum_63 : decode cX12_sum 63 = .ok (.if_icmp .gt 82, 3) := by decide +kernel
theorem dX12_sum_66 : decode cX12_sum 66 = .ok (.aload_n 0, 1) := by decide +kernel
theorem dX12_sum_67 : decode cX12_sum 67 = .ok (.iload_n 1, 1) := by decide +kernel
theorem dX12_sum_68 : decode cX12_sum 68 = .ok (.iload 9, 2) := by decide +kernel
theorem dX12_sum_70 : decode cX12_sum 70 = .ok (.invokevirtual 416, 3) := by decide +kernel
theorem dX12_sum_73 : decode cX12_sum 73 = .ok (.iload 8, 2) := by decide +kernel
theorem dX12_sum_75 : decode cX12_sum 75 = .ok (.aload_n 0, 1) := by decide +kernel
theorem dX12_sum_76 : decode cX12_sum 76 = .ok (.getfield 410, 3) := by decide +kernel
theorem dX12_sum_79 : decode cX12_sum 79 = .ok (.ldc_w 353, 3) := by decide +kernel
theorem dX12_sum_82 : decode cX12_sum 82 = .ok (.if_icmp .ne 7, 3) := by decide +kernel
theorem dX12_sum_85 : decode cX12_sum 85 = .ok (.iconst 1, 1) := by decide +kernel
theorem dX12_sum_86 : decode cX12_sum 86 = .ok (.goto 4, 3) := by decide +kernel
theorem dX12_sum_89 : decode cX12_sum 89 = .ok (.iconst 0, 1) := by decide +kernel
theorem dX12_sum_90 : decode cX12_sum 90 = .ok (.iadd, 1) := by decide +kernel
theorem dX12_sum_91 : decode cX12_sum 91 = .ok (.istore 8, 2) := by decide +kernel
theorem dX12_sum_93 : decode cX12_sum 93 = .ok (.iload 6, 2) := by decide +kernel
theorem dX12_sum_95 : decode cX12_sum 95 = .ok (.aload_n 0, 1) := by decide +kernel
theorem dX12_sum_96 : decode cX12_sum 96 = .ok (.getfield 410, 3) := by decide +kernel
theorem dX12_sum_99 : decode cX12_sum 99 = .ok (.ldc_w 353, 3) := by decide +kernel
theorem dX12_sum_102 : decode cX12_sum 102 = .ok (.if_icmp .ne 7, 3) := by decide +kernel
theorem dX12_sum_105 : decode cX12_sum 105 = .ok (.iconst 0, 1) := by decide +kernel
theorem dX12_sum_106 : decode cX12_sum 106 = .ok (.goto 7, 3) := by decide +kernel
theorem dX12_sum_109 : decode cX12_sum 109 = .ok (.aload_n 0, 1) := by decide +kernel
theorem dX12_sum_110 : decode cX12_sum 110 = .ok (.getfield 410, 3) := by decide +kernel
theorem dX12_sum_113 : decode cX12_sum 113 = .ok (.iadd, 1) := by decide +kernel
theorem dX12_sum_114 : decode cX12_sum 114 = .ok (.istore 6, 2) := by decide +kernel
theorem dX12_sum_116 : decode cX12_sum 116 = .ok (.iload 7, 2) := by decide +kernel
theorem dX12_sum_118 : decode cX12_sum 118 = .ok (.aload_n 0, 1) := by decide +kernel
theorem dX12_sum_119 : decode cX12_sum 119 = .ok (.getfield 413, 3) := by decide +kernel
theorem dX12_sum_122 : decode cX12_sum 122 = .ok (.ldc_w 353, 3) := by decide +kernel
theorem dX12_sum_125 : decode cX12_sum 125 = .ok (.if_icmp .ne 7, 3) := by decide +kernel
theorem dX12_sum_128 : decode cX12_sum 128 = .ok (.iconst 0, 1) := by decide +kernel
theorem dX12_sum_129 : decode cX12_sum 129 = .ok (.goto 7, 3) := by decide +kernel
theorem dX12_sum_132 : decode cX12_sum 132 = .ok (.aload_n 0, 1) := by decide +kernel
theorem dX12_sum_133 : decode cX12_sum 133 = .ok (.getfield 413, 3) := by decide +kernel
theorem dX12_sum_136 : decode cX12_sum 136 = .ok (.iadd, 1) := by decide +kernel
theorem dX12_sum_137 : decode cX12_sum 137 = .ok (.istore 7, 2) := by decide +kernel
theorem dX12_sum_139 : decode cX12_sum 139 = .ok (.iinc 9 1, 3) := by decide +kernel
theorem dX12_sum_142 : decode cX12_sum 142 = .ok (.goto (-82), 3) := by decide +kernel
theorem dX12_sum_145 : decode cX12_sum 145 = .ok (.iload 4, 2) := by decide +kernel
theorem dX12_sum_147 : decode cX12_sum 147 = .ok (.ifCond .ne 8, 3) := by decide +kernel
theorem dX12_sum_150 : decode cX12_sum 150 = .ok (.iload 6, 2) := by decide +kernel
theorem dX12_sum_152 : decode cX12_sum 152 = .ok (.goto 16, 3) := by decide +kernel
theorem dX12_sum_155 : decode cX12_sum 155 = .ok (.iload 4, 2) := by decide +kernel
theorem dX12_sum_157 : decode cX12_sum 157 = .ok (.iconst 1, 1) := by decide +kernel
theorem dX12_sum_158 : decode cX12_sum 158 = .ok (.if_icmp .ne 8, 3) := by decide +kernel
theorem dX12_sum_161 : decode cX12_sum 161 = .ok (.iload 7, 2) := by decide +kernel
theorem dX12_sum_163 : decode cX12_sum 163 = .ok (.goto 5, 3) := by decide +kernel
theorem dX12_sum_166 : decode cX12_sum 166 = .ok (.iload 8, 2) := by decide +kernel
theorem dX12_sum_168 : decode cX12_sum 168 = .ok (.ireturn, 1) := by decide +kernel
theorem dX12_sure_0 : decode cX12_sure 0 = .ok (.aload_n 0, 1) := by decide +kernel
theorem dX12_sure_1 : decode cX12_sure 1 = .ok (.iload_n 1, 1) := by decide +kernel
theorem dX12_sure_2 : decode cX12_sure 2 = .ok (.invokevirtual 349, 3) := by decide +kernel
theorem dX12_sure_5 : decode cX12_sure 5 = .ok (.ifCond .eq 22, 3) := by decide +kernel
theorem dX12_sure_8 : decode cX12_sure 8 = .ok (.iload_n 2, 1) := by decide +kernel
theorem dX12_sure_9 : decode cX12_sure 9 = .ok (.invokestatic 333, 3) := by decide +kernel
theorem dX12_sure_12 : decode cX12_sure 12 = .ok (.ifCond .eq 15, 3) := by decide +kernel
theorem dX12_sure_15 : decode cX12_sure 15 = .ok (.iload_n 3, 1) := by decide +kernel
theorem dX12_sure_16 : decode cX12_sure 16 = .ok (.invokestatic 333, 3) := by decide +kernel
theorem dX12_sure_19 : decode cX12_sure 19 = .ok (.ifCond .eq 8, 3) := by decide +kernel
theorem dX12_sure_22 : decode cX12_sure 22 = .ok (.iload_n 3, 1) := by decide +kernel
theorem dX12_sure_23 : decode cX12_sure 23 = .ok (.iload_n 2, 1) := by decide +kernel
theorem dX12_sure_24 : decode cX12_sure 24 = .ok (.if_icmp .ge 5, 3) := by decide +kernel
theorem dX12_sure_27 : decode cX12_sure 27 = .ok (.iconst (-1), 1) := by decide +kernel
theorem dX12_sure_28 : decode cX12_sure 28 = .ok (.ireturn, 1) := by decide +kernel
theorem dX12_sure_29 : decode cX12_sure 29 = .ok (.aload_n 0, 1) := by decide +kernel
theorem dX12_sure_30 : decode cX12_sure 30 = .ok (.iload 4, 2) := by decide +kernel
theorem dX12_sure_32 : decode cX12_sure 32 = .ok (.invokevirtual 354, 3) := by decide +kernel
theorem dX12_sure_35 : decode cX12_sure 35 = .ok (.iload_n 2, 1) := by decide +kernel
theorem dX12_sure_36 : decode cX12_sure 36 = .ok (.istore 5, 2) := by decide +kernel
theorem dX12_sure_38 : decode cX12_sure 38 = .ok (.iload 5, 2) := by decide +kernel
theorem dX12_sure_40 : decode cX12_sure 40 = .ok (.iload_n 3, 1) := by decide +kernel
theorem dX12_sure_41 : decode cX12_sure 41 = .ok (.if_icmp .gt 38, 3) := by decide +kernel
theorem dX12_sure_44 : decode cX12_sure 44 = .ok (.aload_n 0, 1) := by decide +kernel
theorem dX12_sure_45 : decode cX12_sure 45 = .ok (.iload_n 1, 1) := by decide +kernel
theorem dX12_sure_46 : decode cX12_sure 46 = .ok (.iload 5, 2) := by decide +kernel
theorem dX12_sure_48 : decode cX12_sure 48 = .ok (.invokevirtual 416, 3) := by decide +kernel
theorem dX12_sure_51 : decode cX12_sure 51 = .ok (.aload_n 0, 1) := by decide +kernel
theorem dX12_sure_52 : decode cX12_sure 52 = .ok (.getfield 127, 3) := by decide +kernel
theorem dX12_sure_55 : decode cX12_sure 55 = .ok (.iload 5, 2) := by decide +kernel
theorem dX12_sure_57 : decode cX12_sure 57 = .ok (.aload_n 0, 1) := by decide +kernel
theorem dX12_sure_58 : decode cX12_sure 58 = .ok (.getfield 410, 3) := by decide +kernel
theorem dX12_sure_61 : decode cX12_sure 61 = .ok (.iastore, 1) := by decide +kernel
theorem dX12_sure_62 : decode cX12_sure 62 = .ok (.aload_n 0, 1) := by decide +kernel
theorem dX12_sure_63 : decode cX12_sure 63 = .ok (.getfield 130, 3) := by decide +kernel
theorem dX12_sure_66 : decode cX12_sure 66 = .ok (.iload 5, 2) := by decide +kernel
theorem dX12_sure_68 : decode cX12_sure 68 = .ok (.aload_n 0, 1) := by decide +kernel
theorem dX12_sure_69 : decode cX12_sure 69 = .ok (.getfield 413, 3) := by decide +kernel
theorem dX12_sure_72 : decode cX12_sure 72 = .ok (.iastore, 1) := by decide +kernel
theorem dX12_sure_73 : decode cX12_sure 73 = .ok (.iinc 5 1, 3) := by decide +kernel
theorem dX12_sure_76 : decode cX12_sure 76 = .ok (.goto (-38), 3) := by decide +kernel
theorem dX12_sure_79 : decode cX12_sure 79 = .ok (.iload_n 2, 1) := by decide +kernel
theorem dX12_sure_80 : decode cX12_sure 80 = .ok (.istore 5, 2) := by decide +kernel
theorem dX12_sure_82 : decode cX12_sure 82 = .ok (.iload 5, 2) := by decide +kernel
theorem dX12_sure_84 : decode cX12_sure 84 = .ok (.iload_n 3, 1) := by decide +kernel
theorem dX12_sure_85 : decode cX12_sure 85 = .ok (.if_icmp .gt 115, 3) := by decide +kernel
theorem dX12_sure_88 : decode cX12_sure 88 = .ok (.aload_n 0, 1) := by decide +kernel
theorem dX12_sure_89 : decode cX12_sure 89 = .ok (.getfield 127, 3) := by decide +kernel
theorem dX12_sure_92 : decode cX12_sure 92 = .ok (.iload 5, 2) := by decide +kernel
theorem dX12_sure_94 : decode cX12_sure 94 = .ok (.iaload, 1) := by decide +kernel
theorem dX12_sure_95 : decode cX12_sure 95 = .ok (.ldc_w 353, 3) := by decide +kernel
theorem dX12_sure_98 : decode cX12_sure 98 = .ok (.if_icmp .eq 7, 3) := by decide +kernel
theorem dX12_sure_101 : decode cX12_sure 101 = .ok (.iconst 1, 1) := by decide +kernel
theorem dX12_sure_102 : decode cX12_sure 102 = .ok (.goto 4, 3) := by decide +kernel
theorem dX12_sure_105 : decode cX12_sure 105 = .ok (.iconst 0, 1) := by decide +kernel
theorem dX12_sure_106 : decode cX12_sure 106 = .ok (.istore 6, 2) := by decide +kernel
theorem dX12_sure_108 : decode cX12_sure 108 = .ok (.iconst 0, 1) := by decide +kernel
theorem dX12_sure_109 : decode cX12_sure 109 = .ok (.istore 7, 2) := by decide +kernel
theorem dX12_sure_111 : decode cX12_sure 111 = .ok (.iload_n 2, 1) := by decide +kernel
theorem dX12_sure_112 : decode cX12_sure 112 = .ok (.istore 8, 2) := by decide +kernel
theorem dX12_sure_114 : decode cX12_sure 114 = .ok (.iload 8, 2) := by decide +kernel
theorem dX12_sure_116 : decode cX12_sure 116 = .ok (.iload_n 3, 1) := by decide +kernel
theorem dX12_sure_117 : decode cX12_sure 117 = .ok (.if_icmp .gt 64, 3) := by decide +kernel
theorem dX12_sure_120 : decode cX12_sure 120 = .ok (.iload 8, 2) := by decide +kernel
theorem dX12_sure_122 : decode cX12_sure 122 = .ok (.iload 5, 2) := by decide +kernel
theorem dX12_sure_124 : decode cX12_sure 124 = .ok (.if_icmp .eq 51, 3) := by decide +kernel
theorem dX12_sure_127 : decode cX12_sure 127 = .ok (.aload_n 0, 1) := by decide +kernel
theorem dX12_sure_128 : decode cX12_sure 128 = .ok (.getfield 130, 3) := by decide +kernel
theorem dX12_sure_131 : decode cX12_sure 131 = .ok (.iload 8, 2) := by decide +kernel
theorem dX12_sure_133 : decode cX12_sure 133 = .ok (.iaload, 1) := by decide +kernel
theorem dX12_sure_134 : decode cX12_sure 134 = .ok (.ldc_w 353, 3) := by decide +kernel
theorem dX12_sure_137 : decode cX12_sure 137 = .ok (.if_icmp .ne 6, 3) := by decide +kernel
theorem dX12_sure_140 : decode cX12_sure 140 = .ok (.goto 35, 3) := by decide +kernel
theorem dX12_sure_143 : decode cX12_sure 143 = .ok (.iinc 7 1, 3) := by decide +kernel
theorem dX12_sure_146 : decode cX12_sure 146 = .ok (.iload 6, 2) := by decide +kernel
theorem dX12_sure_148 : decode cX12_sure 148 = .ok (.ifCond .eq 24, 3) := by decide +kernel
theorem dX12_sure_151 : decode cX12_sure 151 = .ok (.aload_n 0, 1) := by decide +kernel
theorem dX12_sure_152 : decode cX12_sure 152 = .ok (.getfield 127, 3) := by decide +kernel
theorem dX12_sure_155 : decode cX12_sure 155 = .ok (.iload 5, 2) := by decide +kernel
theorem dX12_sure_157 : decode cX12_sure 157 = .ok (.iaload, 1) := by decide +kernel
theorem dX12_sure_158 : decode cX12_sure 158 = .ok (.aload_n 0, 1) := by decide +kernel
theorem dX12_sure_159 : decode cX12_sure 159 = .ok (.getfield 130, 3) := by decide +kernel
theorem dX12_sure_162 : decode cX12_sure 162 = .ok (.iload 8, 2) := by decide +kernel
theorem dX12_sure_164 : decode cX12_sure 164 = .ok (.iaload, 1) := by decide +kernel
theorem dX12_sure_165 : decode cX12_sure 165 = .ok (.if_icmp .lt 7, 3) := by decide +kernel
theorem dX12_sure_168 : decode cX12_sure 168 = .ok (.iconst 1, 1) := by decide +kernel
theorem dX12_sure_169 : decode cX12_sure 169 = .ok (.goto 4, 3) := by decide +kernel
theorem dX12_sure_172 : decode cX12_sure 172 = .ok (.iconst 0, 1) := by decide +kernel
theorem dX12_sure_173 : decode cX12_sure 173 = .ok (.istore 6, 2) := by decide +kernel
theorem dX12_sure_175 : decode cX12_sure 175 = .ok (.iinc 8 1, 3) := by decide +kernel
theorem dX12_sure_178 : decode cX12_sure 178 = .ok (.goto (-64), 3) := by decide +kernel
theorem dX12_sure_181 : decode cX12_sure 181 = .ok (.iload 6, 2) := by decide +kernel
theorem dX12_sure_183 : decode cX12_sure 183 = .ok (.ifCond .eq 11, 3) := by decide +kernel
theorem dX12_sure_186 : decode cX12_sure 186 = .ok (.iload 7, 2) := by decide +kernel
theorem dX12_sure_188 : decode cX12_sure 188 = .ok (.ifCond .le 6, 3) := by decide +kernel
theorem dX12_sure_191 : decode cX12_sure 191 = .ok (.iload 5, 2) := by decide +kernel
theorem dX12_sure_193 : decode cX12_sure 193 = .ok (.ireturn, 1) := by decide +kernel
theorem dX12_sure_194 : decode cX12_sure 194 = .ok (.iinc 5 1, 3) := by decide +kernel
theorem dX12_sure_197 : decode cX12_sure 197 = .ok (.goto (-115), 3) := by decide +kernel
theorem dX12_sure_200 : decode cX12_sure 200 = .ok (.iconst (-1), 1) := by decide +kernel
theorem dX12_sure_201 : decode cX12_sure 201 = .ok (.ireturn, 1) := by decide +kernel
theorem dX12_meets_0 : decode cX12_meets 0 = .ok (.aload_n 0, 1) := by decide +kernel
theorem dX12_meets_1 : decode cX12_meets 1 = .ok (.getfield 127, 3) := by decide +kernel
theorem dX12_meets_4 : decode cX12_meets 4 = .ok (.iload_n 1, 1) := by decide +kernel
theorem dX12_meets_5 : decode cX12_meets 5 = .ok (.iaload, 1) := by decide +kernel
theorem dX12_meets_6 : decode cX12_meets 6 = .ok (.aload_n 0, 1) := by decide +kernel
theorem dX12_meets_7 : decode cX12_meets 7 = .ok (.getfield 130, 3) := by decide +kernel
theorem dX12_meets_10 : decode cX12_meets 10 = .ok (.iload_n 2, 1) := by decide +kernel
theorem dX12_meets_11 : decode cX12_meets 11 = .ok (.iaload, 1) := by decide +kernel
theorem dX12_meets_12 : decode cX12_meets 12 = .ok (.if_icmp .gt 22, 3) := by decide +kernel
theorem dX12_meets_15 : decode cX12_meets 15 = .ok (.aload_n 0, 1) := by decide +kernel
theorem dX12_meets_16 : decode cX12_meets 16 = .ok (.getfield 127, 3) := by decide +kernel
theorem dX12_meets_19 : decode cX12_meets 19 = .ok (.iload_n 2, 1) := by decide +kernel
theorem dX12_meets_20 : decode cX12_meets 20 = .ok (.iaload, 1) := by decide +kernel
theorem dX12_meets_21 : decode cX12_meets 21 = .ok (.aload_n 0, 1) := by decide +kernel
theorem dX12_meets_22 : decode cX12_meets 22 = .ok (.getfield 130, 3) := by decide +kernel
theorem dX12_meets_25 : decode cX12_meets 25 = .ok (.iload_n 1, 1) := by decide +kernel
theorem dX12_meets_26 : decode cX12_meets 26 = .ok (.iaload, 1) := by decide +kernel
theorem dX12_meets_27 : decode cX12_meets 27 = .ok (.if_icmp .gt 7, 3) := by decide +kernel
theorem dX12_meets_30 : decode cX12_meets 30 = .ok (.iconst 1, 1) := by decide +kernel
theorem dX12_meets_31 : decode cX12_meets 31 = .ok (.goto 4, 3) := by decide +kernel
theorem dX12_meets_34 : decode cX12_meets 34 = .ok (.iconst 0, 1) := by decide +kernel
theorem dX12_meets_35 : decode cX12_meets 35 = .ok (.ireturn, 1) := by decide +kernel
theorem dX12_lies_0 : decode cX12_lies 0 = .ok (.iload_n 1, 1) := by decide +kernel
theorem dX12_lies_1 : decode cX12_lies 1 = .ok (.ifCond .lt 15, 3) := by decide +kernel
theorem dX12_lies_4 : decode cX12_lies 4 = .ok (.iload_n 1, 1) := by decide +kernel
theorem dX12_lies_5 : decode cX12_lies 5 = .ok (.iconst 3, 1) := by decide +kernel
theorem dX12_lies_6 : decode cX12_lies 6 = .ok (.if_icmp .gt 10, 3) := by decide +kernel
theorem dX12_lies_9 : decode cX12_lies 9 = .ok (.iload_n 2, 1) := by decide +kernel
theorem dX12_lies_10 : decode cX12_lies 10 = .ok (.invokestatic 333, 3) := by decide +kernel
theorem dX12_lies_13 : decode cX12_lies 13 = .ok (.ifCond .ne 5, 3) := by decide +kernel
theorem dX12_lies_16 : decode cX12_lies 16 = .ok (.iconst (-1), 1) := by decide +kernel
theorem dX12_lies_17 : decode cX12_lies 17 = .ok (.ireturn, 1) := by decide +kernel
theorem dX12_lies_18 : decode cX12_lies 18 = .ok (.aload_n 0, 1) := by decide +kernel
theorem dX12_lies_19 : decode cX12_lies 19 = .ok (.iload_n 3, 1) := by decide +kernel
theorem dX12_lies_20 : decode cX12_lies 20 = .ok (.invokevirtual 354, 3) := by decide +kernel
theorem dX12_lies_23 : decode cX12_lies 23 = .ok (.iconst 0, 1) := by decide +kernel
theorem dX12_lies_24 : decode cX12_lies 24 = .ok (.istore 4, 2) := by decide +kernel
theorem dX12_lies_26 : decode cX12_lies 26 = .ok (.iload 4, 2) := by decide +kernel
theorem dX12_lies_28 : decode cX12_lies 28 = .ok (.aload_n 0, 1) := by decide +kernel
theorem dX12_lies_29 : decode cX12_lies 29 = .ok (.getfield 321, 3) := by decide +kernel
theorem dX12_lies_32 : decode cX12_lies 32 = .ok (.if_icmp .ge 62, 3) := by decide +kernel
theorem dX12_lies_35 : decode cX12_lies 35 = .ok (.aload_n 0, 1) := by decide +kernel
theorem dX12_lies_36 : decode cX12_lies 36 = .ok (.getfield 127, 3) := by decide +kernel
theorem dX12_lies_39 : decode cX12_lies 39 = .ok (.iload 4, 2) := by decide +kernel
theorem dX12_lies_41 : decode cX12_lies 41 = .ok (.ldc_w 353, 3) := by decide +kernel
theorem dX12_lies_44 : decode cX12_lies 44 = .ok (.iastore, 1) := by decide +kernel
theorem dX12_lies_45 : decode cX12_lies 45 = .ok (.aload_n 0, 1) := by decide +kernel
theorem dX12_lies_46 : decode cX12_lies 46 = .ok (.getfield 33, 3) := by decide +kernel
theorem dX12_lies_49 : decode cX12_lies 49 = .ok (.iload 4, 2) := by decide +kernel
theorem dX12_lies_51 : decode cX12_lies 51 = .ok (.iaload, 1) := by decide +kernel
theorem dX12_lies_52 : decode cX12_lies 52 = .ok (.iload_n 1, 1) := by decide +kernel
theorem dX12_lies_53 : decode cX12_lies 53 = .ok (.if_icmp .eq 6, 3) := by decide +kernel
theorem dX12_lies_56 : decode cX12_lies 56 = .ok (.goto 32, 3) := by decide +kernel
theorem dX12_lies_59 : decode cX12_lies 59 = .ok (.aload_n 0, 1) := by decide +kernel
theorem dX12_lies_60 : decode cX12_lies 60 = .ok (.iload 4, 2) := by decide +kernel
theorem dX12_lies_62 : decode cX12_lies 62 = .ok (.iload_n 2, 1) := by decide +kernel
theorem dX12_lies_63 : decode cX12_lies 63 = .ok (.invokevirtual 416, 3) := by decide +kernel
theorem dX12_lies_66 : decode cX12_lies 66 = .ok (.aload_n 0, 1) := by decide +kernel
theorem dX12_lies_67 : decode cX12_lies 67 = .ok (.getfield 127, 3) := by decide +kernel
theorem dX12_lies_70 : decode cX12_lies 70 = .ok (.iload 4, 2) := by decide +kernel
theorem dX12_lies_72 : decode cX12_lies 72 = .ok (.aload_n 0, 1) := by decide +kernel
theorem dX12_lies_73 : decode cX12_lies 73 = .ok (.getfield 410, 3) := by decide +kernel
theorem dX12_lies_76 : decode cX12_lies 76 = .ok (.iastore, 1) := by decide +kernel
theorem dX12_lies_77 : decode cX12_lies 77 = .ok (.aload_n 0, 1) := by decide +kernel
theorem dX12_lies_78 : decode cX12_lies 78 = .ok (.getfield 130, 3) := by decide +kernel
theorem dX12_lies_81 : decode cX12_lies 81 = .ok (.iload 4, 2) := by decide +kernel
theorem dX12_lies_83 : decode cX12_lies 83 = .ok (.aload_n 0, 1) := by decide +kernel
theorem dX12_lies_84 : decode cX12_lies 84 = .ok (.getfield 413, 3) := by decide +kernel
theorem dX12_lies_87 : decode cX12_lies 87 = .ok (.iastore, 1) := by decide +kernel
theorem dX12_lies_88 : decode cX12_lies 88 = .ok (.iinc 4 1, 3) := by decide +kernel
theorem dX12_lies_91 : decode cX12_lies 91 = .ok (.goto (-65), 3) := by decide +kernel
theorem dX12_lies_94 : decode cX12_lies 94 = .ok (.iconst 0, 1) := by decide +kernel
theorem dX12_lies_95 : decode cX12_lies 95 = .ok (.istore 4, 2) := by decide +kernel
theorem dX12_lies_97 : decode cX12_lies 97 = .ok (.iload 4, 2) := by decide +kernel
theorem dX12_lies_99 : decode cX12_lies 99 = .ok (.aload_n 0, 1) := by decide +kernel
theorem dX12_lies_100 : decode cX12_lies 100 = .ok (.getfield 321, 3) := by decide +kernel
theorem dX12_lies_103 : decode cX12_lies 103 = .ok (.if_icmp .ge 140, 3) := by decide +kernel
theorem dX12_lies_106 : decode cX12_lies 106 = .ok (.iconst 0, 1) := by decide +kernel
theorem dX12_lies_107 : decode cX12_lies 107 = .ok (.istore 5, 2) := by decide +kernel
theorem dX12_lies_109 : decode cX12_lies 109 = .ok (.iload 5, 2) := by decide +kernel
theorem dX12_lies_111 : decode cX12_lies 111 = .ok (.aload_n 0, 1) := by decide +kernel
theorem dX12_lies_112 : decode cX12_lies 112 = .ok (.getfield 321, 3) := by decide +kernel
theorem dX12_lies_115 : decode cX12_lies 115 = .ok (.if_icmp .ge 122, 3) := by decide +kernel
theorem dX12_lies_118 : decode cX12_lies 118 = .ok (.aload_n 0, 1) := by decide +kernel
theorem dX12_lies_119 : decode cX12_lies 119 = .ok (.getfield 127, 3) := by decide +kernel
theorem dX12_lies_122 : decode cX12_lies 122 = .ok (.iload 4, 2) := by decide +kernel
theorem dX12_lies_124 : decode cX12_lies 124 = .ok (.iaload, 1) := by decide +kernel
theorem dX12_lies_125 : decode cX12_lies 125 = .ok (.ldc_w 353, 3) := by decide +kernel
theorem dX12_lies_128 : decode cX12_lies 128 = .ok (.if_icmp .eq 109, 3) := by decide +kernel
theorem dX12_lies_131 : decode cX12_lies 131 = .ok (.iload 5, 2) := by decide +kernel
theorem dX12_lies_133 : decode cX12_lies 133 = .ok (.iconst 1, 1) := by decide +kernel
theorem dX12_lies_134 : decode cX12_lies 134 = .ok (.iadd, 1) := by decide +kernel
theorem dX12_lies_135 : decode cX12_lies 135 = .ok (.istore 6, 2) := by decide +kernel
theorem dX12_lies_137 : decode cX12_lies 137 = .ok (.iload 6, 2) := by decide +kernel
theorem dX12_lies_139 : decode cX12_lies 139 = .ok (.aload_n 0, 1) := by decide +kernel
theorem dX12_lies_140 : decode cX12_lies 140 = .ok (.getfield 321, 3) := by decide +kernel
theorem dX12_lies_143 : decode cX12_lies 143 = .ok (.if_icmp .ge 88, 3) := by decide +kernel
theorem dX12_lies_146 : decode cX12_lies 146 = .ok (.iload 5, 2) := by decide +kernel
theorem dX12_lies_148 : decode cX12_lies 148 = .ok (.iload 4, 2) := by decide +kernel
theorem dX12_lies_150 : decode cX12_lies 150 = .ok (.if_icmp .eq 75, 3) := by decide +kernel
theorem dX12_lies_153 : decode cX12_lies 153 = .ok (.iload 6, 2) := by decide +kernel
theorem dX12_lies_155 : decode cX12_lies 155 = .ok (.iload 4, 2) := by decide +kernel
theorem dX12_lies_157 : decode cX12_lies 157 = .ok (.if_icmp .eq 68, 3) := by decide +kernel
theorem dX12_lies_160 : decode cX12_lies 160 = .ok (.aload_n 0, 1) := by decide +kernel
theorem dX12_lies_161 : decode cX12_lies 161 = .ok (.getfield 127, 3) := by decide +kernel
theorem dX12_lies_164 : decode cX12_lies 164 = .ok (.iload 5, 2) := by decide +kernel
theorem dX12_lies_166 : decode cX12_lies 166 = .ok (.iaload, 1) := by decide +kernel
theorem dX12_lies_167 : decode cX12_lies 167 = .ok (.ldc_w 353, 3) := by decide +kernel
theorem dX12_lies_170 : decode cX12_lies 170 = .ok (.if_icmp .eq 55, 3) := by decide +kernel
theorem dX12_lies_173 : decode cX12_lies 173 = .ok (.aload_n 0, 1) := by decide +kernel
theorem dX12_lies_174 : decode cX12_lies 174 = .ok (.getfield 127, 3) := by decide +kernel
theorem dX12_lies_177 : decode cX12_lies 177 = .ok (.iload 6, 2) := by decide +kernel
theorem dX12_lies_179 : decode cX12_lies 179 = .ok (.iaload, 1) := by decide +kernel
theorem dX12_lies_180 : decode cX12_lies 180 = .ok (.ldc_w 353, 3) := by decide +kernel
theorem dX12_lies_183 : decode cX12_lies 183 = .ok (.if_icmp .ne 6, 3) := by decide +kernel
theorem dX12_lies_186 : decode cX12_lies 186 = .ok (.goto 39, 3) := by decide +kernel
theorem dX12_lies_189 : decode cX12_lies 189 = .ok (.aload_n 0, 1) := by decide +kernel
theorem dX12_lies_190 : decode cX12_lies 190 = .ok (.iload 5, 2) := by decide +kernel
theorem dX12_lies_192 : decode cX12_lies 192 = .ok (.iload 6, 2) := by decide +kernel
theorem dX12_lies_194 : decode cX12_lies 194 = .ok (.invokevirtual 419, 3) := by decide +kernel
theorem dX12_lies_197 : decode cX12_lies 197 = .ok (.ifCond .eq 28, 3) := by decide +kernel
theorem dX12_lies_200 : decode cX12_lies 200 = .ok (.aload_n 0, 1) := by decide +kernel
theorem dX12_lies_201 : decode cX12_lies 201 = .ok (.iload 4, 2) := by decide +kernel
theorem dX12_lies_203 : decode cX12_lies 203 = .ok (.iload 5, 2) := by decide +kernel
theorem dX12_lies_205 : decode cX12_lies 205 = .ok (.invokevirtual 419, 3) := by decide +kernel
theorem dX12_lies_208 : decode cX12_lies 208 = .ok (.ifCond .ne 17, 3) := by decide +kernel
theorem dX12_lies_211 : decode cX12_lies 211 = .ok (.aload_n 0, 1) := by decide +kernel
theorem dX12_lies_212 : decode cX12_lies 212 = .ok (.iload 4, 2) := by decide +kernel
theorem dX12_lies_214 : decode cX12_lies 214 = .ok (.iload 6, 2) := by decide +kernel
theorem dX12_lies_216 : decode cX12_lies 216 = .ok (.invokevirtual 419, 3) := by decide +kernel
theorem dX12_lies_219 : decode cX12_lies 219 = .ok (.ifCond .ne 6, 3) := by decide +kernel
theorem dX12_lies_222 : decode cX12_lies 222 = .ok (.iload 4, 2) := by decide +kernel
theorem dX12_lies_224 : decode cX12_lies 224 = .ok (.ireturn, 1) := by decide +kernel
theorem dX12_lies_225 : decode cX12_lies 225 = .ok (.iinc 6 1, 3) := by decide +kernel
theorem dX12_lies_228 : decode cX12_lies 228 = .ok (.goto (-91), 3) := by decide +kernel
theorem dX12_lies_231 : decode cX12_lies 231 = .ok (.iinc 5 1, 3) := by decide +kernel
theorem dX12_lies_234 : decode cX12_lies 234 = .ok (.goto (-125), 3) := by decide +kernel
theorem dX12_lies_237 : decode cX12_lies 237 = .ok (.iinc 4 1, 3) := by decide +kernel
theorem dX12_lies_240 : decode cX12_lies 240 = .ok (.goto (-143), 3) := by decide +kernel
theorem dX12_lies_243 : decode cX12_lies 243 = .ok (.iconst (-1), 1) := by decide +kernel
theorem dX12_lies_244 : decode cX12_lies 244 = .ok (.ireturn, 1) := by decide +kernel
theorem dX12_next_0 : decode cX12_next 0 = .ok (.aload_n 0, 1) := by decide +kernel
theorem dX12_next_1 : decode cX12_next 1 = .ok (.iload_n 1, 1) := by decide +kernel
theorem dX12_next_2 : decode cX12_next 2 = .ok (.invokevirtual 354, 3) := by decide +kernel
theorem dX12_next_5 : decode cX12_next 5 = .ok (.iconst (-1), 1) := by decide +kernel
theorem dX12_next_6 : decode cX12_next 6 = .ok (.istore_n 2, 1) := by decide +kernel
theorem dX12_next_7 : decode cX12_next 7 = .ok (.iconst 0, 1) := by decide +kernel
theorem dX12_next_8 : decode cX12_next 8 = .ok (.istore_n 3, 1) := by decide +kernel
theorem dX12_next_9 : decode cX12_next 9 = .ok (.iconst 0, 1) := by decide +kernel
theorem dX12_next_10 : decode cX12_next 10 = .ok (.istore 4, 2) := by decide +kernel
theorem dX12_next_12 : decode cX12_next 12 = .ok (.iload 4, 2) := by decide +kernel
theorem dX12_next_14 : decode cX12_next 14 = .ok (.aload_n 0, 1) := by decide +kernel
theorem dX12_next_15 : decode cX12_next 15 = .ok (.getfield 321, 3) := by decide +kernel
theorem dX12_next_18 : decode cX12_next 18 = .ok (.if_icmp .ge 36, 3) := by decide +kernel
theorem dX12_next_21 : decode cX12_next 21 = .ok (.aload_n 0, 1) := by decide +kernel
theorem dX12_next_22 : decode cX12_next 22 = .ok (.iload 4, 2) := by decide +kernel
theorem dX12_next_24 : decode cX12_next 24 = .ok (.bipush 59, 2) := by decide +kernel
theorem dX12_next_26 : decode cX12_next 26 = .ok (.invokevirtual 396, 3) := by decide +kernel
theorem dX12_next_29 : decode cX12_next 29 = .ok (.aload_n 0, 1) := by decide +kernel
theorem dX12_next_30 : decode cX12_next 30 = .ok (.getfield 377, 3) := by decide +kernel
theorem dX12_next_33 : decode cX12_next 33 = .ok (.iload_n 3, 1) := by decide +kernel
theorem dX12_next_34 : decode cX12_next 34 = .ok (.if_icmp .gt 6, 3) := by decide +kernel
theorem dX12_next_37 : decode cX12_next 37 = .ok (.goto 11, 3) := by decide +kernel
theorem dX12_next_40 : decode cX12_next 40 = .ok (.iload 4, 2) := by decide +kernel
theorem dX12_next_42 : decode cX12_next 42 = .ok (.istore_n 2, 1) := by decide +kernel
theorem dX12_next_43 : decode cX12_next 43 = .ok (.aload_n 0, 1) := by decide +kernel
theorem dX12_next_44 : decode cX12_next 44 = .ok (.getfield 377, 3) := by decide +kernel
theorem dX12_next_47 : decode cX12_next 47 = .ok (.istore_n 3, 1) := by decide +kernel
theorem dX12_next_48 : decode cX12_next 48 = .ok (.iinc 4 1, 3) := by decide +kernel
theorem dX12_next_51 : decode cX12_next 51 = .ok (.goto (-39), 3) := by decide +kernel
theorem dX12_next_54 : decode cX12_next 54 = .ok (.iload_n 2, 1) := by decide +kernel
theorem dX12_next_55 : decode cX12_next 55 = .ok (.ireturn, 1) := by decide +kernel
theorem dX12_note_0 : decode cX12_note 0 = .ok (.aload_n 0, 1) := by decide +kernel
theorem dX12_note_1 : decode cX12_note 1 = .ok (.getfield 133, 3) := by decide +kernel
theorem dX12_note_4 : decode cX12_note 4 = .ok (.aload_n 0, 1) := by decide +kernel
theorem dX12_note_5 : decode cX12_note 5 = .ok (.getfield 422, 3) := by decide +kernel
theorem dX12_note_8 : decode cX12_note 8 = .ok (.iload_n 1, 1) := by decide +kernel
theorem dX12_note_9 : decode cX12_note 9 = .ok (.iastore, 1) := by decide +kernel
theorem dX12_note_10 : decode cX12_note 10 = .ok (.aload_n 0, 1) := by decide +kernel
theorem dX12_note_11 : decode cX12_note 11 = .ok (.getfield 136, 3) := by decide +kernel
theorem dX12_note_14 : decode cX12_note 14 = .ok (.aload_n 0, 1) := by decide +kernel
theorem dX12_note_15 : decode cX12_note 15 = .ok (.getfield 422, 3) := by decide +kernel
theorem dX12_note_18 : decode cX12_note 18 = .ok (.iload_n 2, 1) := by decide +kernel
theorem dX12_note_19 : decode cX12_note 19 = .ok (.iastore, 1) := by decide +kernel
theorem dX12_note_20 : decode cX12_note 20 = .ok (.aload_n 0, 1) := by decide +kernel
theorem dX12_note_21 : decode cX12_note 21 = .ok (.dup, 1) := by decide +kernel
theorem dX12_note_22 : decode cX12_note 22 = .ok (.getfield 422, 3) := by decide +kernel
theorem dX12_note_25 : decode cX12_note 25 = .ok (.iconst 1, 1) := by decide +kernel
theorem dX12_note_26 : decode cX12_note 26 = .ok (.iadd, 1) := by decide +kernel
theorem dX12_note_27 : decode cX12_note 27 = .ok (.putfield 422, 3) := by decide +kernel
theorem dX12_note_30 : decode cX12_note 30 = .ok (.return_, 1) := by decide +kernel
theorem dX12_upper_0 : decode cX12_upper 0 = .ok (.aload_n 0, 1) := by decide +kernel
theorem dX12_upper_1 : decode cX12_upper 1 = .ok (.getfield 425, 3) := by decide +kernel
theorem dX12_upper_4 : decode cX12_upper 4 = .ok (.ifCond .ne 8, 3) := by decide +kernel
theorem dX12_upper_7 : decode cX12_upper 7 = .ok (.bipush 30, 2) := by decide +kernel
theorem dX12_upper_9 : decode cX12_upper 9 = .ok (.goto 14, 3) := by decide +kernel
theorem dX12_upper_12 : decode cX12_upper 12 = .ok (.aload_n 0, 1) := by decide +kernel
theorem dX12_upper_13 : decode cX12_upper 13 = .ok (.getfield 151, 3) := by decide +kernel
theorem dX12_upper_16 : decode cX12_upper 16 = .ok (.aload_n 0, 1) := by decide +kernel
theorem dX12_upper_17 : decode cX12_upper 17 = .ok (.getfield 425, 3) := by decide +kernel
theorem dX12_upper_20 : decode cX12_upper 20 = .ok (.iconst 1, 1) := by decide +kernel
theorem dX12_upper_21 : decode cX12_upper 21 = .ok (.isub, 1) := by decide +kernel
theorem dX12_upper_22 : decode cX12_upper 22 = .ok (.iaload, 1) := by decide +kernel
theorem dX12_upper_23 : decode cX12_upper 23 = .ok (.ireturn, 1) := by decide +kernel
theorem dX12_hold_0 : decode cX12_hold 0 = .ok (.aload_n 0, 1) := by decide +kernel
theorem dX12_hold_1 : decode cX12_hold 1 = .ok (.getfield 151, 3) := by decide +kernel
theorem dX12_hold_4 : decode cX12_hold 4 = .ok (.aload_n 0, 1) := by decide +kernel
theorem dX12_hold_5 : decode cX12_hold 5 = .ok (.getfield 425, 3) := by decide +kernel
theorem dX12_hold_8 : decode cX12_hold 8 = .ok (.iload_n 1, 1) := by decide +kernel
theorem dX12_hold_9 : decode cX12_hold 9 = .ok (.iastore, 1) := by decide +kernel
theorem dX12_hold_10 : decode cX12_hold 10 = .ok (.aload_n 0, 1) := by decide +kernel
theorem dX12_hold_11 : decode cX12_hold 11 = .ok (.dup, 1) := by decide +kernel
theorem dX12_hold_12 : decode cX12_hold 12 = .ok (.getfield 425, 3) := by decide +kernel
theorem dX12_hold_15 : decode cX12_hold 15 = .ok (.iconst 1, 1) := by decide +kernel
theorem dX12_hold_16 : decode cX12_hold 16 = .ok (.iadd, 1) := by decide +kernel
theorem dX12_hold_17 : decode cX12_hold 17 = .ok (.putfield 425, 3) := by decide +kernel
theorem dX12_hold_20 : decode cX12_hold 20 = .ok (.iload_n 1, 1) := by decide +kernel
theorem dX12_hold_21 : decode cX12_hold 21 = .ok (.bipush 30, 2) := by decide +kernel
theorem dX12_hold_23 : decode cX12_hold 23 = .ok (.if_icmp .eq 9, 3) := by decide +kernel
theorem dX12_hold_26 : decode cX12_hold 26 = .ok (.iload_n 1, 1) := by decide +kernel
theorem dX12_hold_27 : decode cX12_hold 27 = .ok (.bipush 22, 2) := by decide +kernel
theorem dX12_hold_29 : decode cX12_hold 29 = .ok (.if_icmp .ne 13, 3) := by decide +kernel
theorem dX12_hold_32 : decode cX12_hold 32 = .ok (.aload_n 0, 1) := by decide +kernel
theorem dX12_hold_33 : decode cX12_hold 33 = .ok (.dup, 1) := by decide +kernel
theorem dX12_hold_34 : decode cX12_hold 34 = .ok (.getfield 428, 3) := by decide +kernel
theorem dX12_hold_37 : decode cX12_hold 37 = .ok (.iconst 1, 1) := by decide +kernel
theorem dX12_hold_38 : decode cX12_hold 38 = .ok (.iadd, 1) := by decide +kernel
theorem dX12_hold_39 : decode cX12_hold 39 = .ok (.putfield 428, 3) := by decide +kernel
theorem dX12_hold_42 : decode cX12_hold 42 = .ok (.return_, 1) := by decide +kernel
theorem dX12_pop_0 : decode cX12_pop 0 = .ok (.aload_n 0, 1) := by decide +kernel
theorem dX12_pop_1 : decode cX12_pop 1 = .ok (.dup, 1) := by decide +kernel
theorem dX12_pop_2 : decode cX12_pop 2 = .ok (.getfield 425, 3) := by decide +kernel
theorem dX12_pop_5 : decode cX12_pop 5 = .ok (.iconst 1, 1) := by decide +kernel
theorem dX12_pop_6 : decode cX12_pop 6 = .ok (.isub, 1) := by decide +kernel
theorem dX12_pop_7 : decode cX12_pop 7 = .ok (.putfield 425, 3) := by decide +kernel
theorem dX12_pop_10 : decode cX12_pop 10 = .ok (.aload_n 0, 1) := by decide +kernel
theorem dX12_pop_11 : decode cX12_pop 11 = .ok (.getfield 151, 3) := by decide +kernel
theorem dX12_pop_14 : decode cX12_pop 14 = .ok (.aload_n 0, 1) := by decide +kernel
theorem dX12_pop_15 : decode cX12_pop 15 = .ok (.getfield 425, 3) := by decide +kernel
theorem dX12_pop_18 : decode cX12_pop 18 = .ok (.iaload, 1) := by decide +kernel
theorem dX12_pop_19 : decode cX12_pop 19 = .ok (.bipush 22, 2) := by decide +kernel
theorem dX12_pop_21 : decode cX12_pop 21 = .ok (.if_icmp .ne 13, 3) := by decide +kernel
theorem dX12_pop_24 : decode cX12_pop 24 = .ok (.aload_n 0, 1) := by decide +kernel
theorem dX12_pop_25 : decode cX12_pop 25 = .ok (.dup, 1) := by decide +kernel
theorem dX12_pop_26 : decode cX12_pop 26 = .ok (.getfield 428, 3) := by decide +kernel
theorem dX12_pop_29 : decode cX12_pop 29 = .ok (.iconst 1, 1) := by decide +kernel
theorem dX12_pop_30 : decode cX12_pop 30 = .ok (.isub, 1) := by decide +kernel
theorem dX12_pop_31 : decode cX12_pop 31 = .ok (.putfield 428, 3) := by decide +kernel
theorem dX12_pop_34 : decode cX12_pop 34 = .ok (.aload_n 0, 1) := by decide +kernel
theorem dX12_pop_35 : decode cX12_pop 35 = .ok (.aload_n 0, 1) := by decide +kernel
theorem dX12_pop_36 : decode cX12_pop 36 = .ok (.getfield 151, 3) := by decide +kernel
theorem dX12_pop_39 : decode cX12_pop 39 = .ok (.aload_n 0, 1) := by decide +kernel
theorem dX12_pop_40 : decode cX12_pop 40 = .ok (.getfield 425, 3) := by decide +kernel
theorem dX12_pop_43 : decode cX12_pop 43 = .ok (.iaload, 1) := by decide +kernel
theorem dX12_pop_44 : decode cX12_pop 44 = .ok (.iconst 0, 1) := by decide +kernel
theorem dX12_pop_45 : decode cX12_pop 45 = .ok (.invokevirtual 431, 3) := by decide +kernel
theorem dX12_pop_48 : decode cX12_pop 48 = .ok (.return_, 1) := by decide +kernel
theorem dX12_settle_0 : decode cX12_settle 0 = .ok (.aload_n 0, 1) := by decide +kernel
theorem dX12_settle_1 : decode cX12_settle 1 = .ok (.invokevirtual 434, 3) := by decide +kernel
theorem dX12_settle_4 : decode cX12_settle 4 = .ok (.bipush 30, 2) := by decide +kernel
theorem dX12_settle_6 : decode cX12_settle 6 = .ok (.if_icmp .eq 18, 3) := by decide +kernel
theorem dX12_settle_9 : decode cX12_settle 9 = .ok (.aload_n 0, 1) := by decide +kernel
theorem dX12_settle_10 : decode cX12_settle 10 = .ok (.invokevirtual 434, 3) := by decide +kernel
theorem dX12_settle_13 : decode cX12_settle 13 = .ok (.iload_n 1, 1) := by decide +kernel
theorem dX12_settle_14 : decode cX12_settle 14 = .ok (.if_icmp .lt 10, 3) := by decide +kernel
theorem dX12_settle_17 : decode cX12_settle 17 = .ok (.aload_n 0, 1) := by decide +kernel
theorem dX12_settle_18 : decode cX12_settle 18 = .ok (.invokevirtual 437, 3) := by decide +kernel
theorem dX12_settle_21 : decode cX12_settle 21 = .ok (.goto (-21), 3) := by decide +kernel
theorem dX12_settle_24 : decode cX12_settle 24 = .ok (.return_, 1) := by decide +kernel
theorem dX12_isOpen_0 : decode cX12_isOpen 0 = .ok (.iconst 0, 1) := by decide +kernel
theorem dX12_isOpen_1 : decode cX12_isOpen 1 = .ok (.istore_n 1, 1) := by decide +kernel
theorem dX12_isOpen_2 : decode cX12_isOpen 2 = .ok (.iconst 0, 1) := by decide +kernel
theorem dX12_isOpen_3 : decode cX12_isOpen 3 = .ok (.istore_n 2, 1) := by decide +kernel
theorem dX12_isOpen_4 : decode cX12_isOpen 4 = .ok (.iload_n 2, 1) := by decide +kernel
theorem dX12_isOpen_5 : decode cX12_isOpen 5 = .ok (.aload_n 0, 1) := by decide +kernel
theorem dX12_isOpen_6 : decode cX12_isOpen 6 = .ok (.getfield 425, 3) := by decide +kernel
theorem dX12_isOpen_9 : decode cX12_isOpen 9 = .ok (.if_icmp .ge 30, 3) := by decide +kernel
theorem dX12_isOpen_12 : decode cX12_isOpen 12 = .ok (.iload_n 1, 1) := by decide +kernel
theorem dX12_isOpen_13 : decode cX12_isOpen 13 = .ok (.ifCond .ne 14, 3) := by decide +kernel
theorem dX12_isOpen_16 : decode cX12_isOpen 16 = .ok (.aload_n 0, 1) := by decide +kernel
theorem dX12_isOpen_17 : decode cX12_isOpen 17 = .ok (.getfield 151, 3) := by decide +kernel
theorem dX12_isOpen_20 : decode cX12_isOpen 20 = .ok (.iload_n 2, 1) := by decide +kernel
theorem dX12_isOpen_21 : decode cX12_isOpen 21 = .ok (.iaload, 1) := by decide +kernel
theorem dX12_isOpen_22 : decode cX12_isOpen 22 = .ok (.bipush 30, 2) := by decide +kernel
theorem dX12_isOpen_24 : decode cX12_isOpen 24 = .ok (.if_icmp .ne 7, 3) := by decide +kernel
theorem dX12_isOpen_27 : decode cX12_isOpen 27 = .ok (.iconst 1, 1) := by decide +kernel
theorem dX12_isOpen_28 : decode cX12_isOpen 28 = .ok (.goto 4, 3) := by decide +kernel
theorem dX12_isOpen_31 : decode cX12_isOpen 31 = .ok (.iconst 0, 1) := by decide +kernel
theorem dX12_isOpen_32 : decode cX12_isOpen 32 = .ok (.istore_n 1, 1) := by decide +kernel
theorem dX12_isOpen_33 : decode cX12_isOpen 33 = .ok (.iinc 2 1, 3) := by decide +kernel
theorem dX12_isOpen_36 : decode cX12_isOpen 36 = .ok (.goto (-32), 3) := by decide +kernel
theorem dX12_isOpen_39 : decode cX12_isOpen 39 = .ok (.iload_n 1, 1) := by decide +kernel
theorem dX12_isOpen_40 : decode cX12_isOpen 40 = .ok (.ireturn, 1) := by decide +kernel
theorem dX12_rank_0 : decode cX12_rank 0 = .ok (.iload_n 0, 1) := by decide +kernel
theorem dX12_rank_1 : decode cX12_rank 1 = .ok (.bipush 27, 2) := by decide +kernel
theorem dX12_rank_3 : decode cX12_rank 3 = .ok (.if_icmp .ne 8, 3) := by decide +kernel
theorem dX12_rank_6 : decode cX12_rank 6 = .ok (.bipush 26, 2) := by decide +kernel
theorem dX12_rank_8 : decode cX12_rank 8 = .ok (.goto 21, 3) := by decide +kernel
theorem dX12_rank_11 : decode cX12_rank 11 = .ok (.iload_n 0, 1) := by decide +kernel
theorem dX12_rank_12 : decode cX12_rank 12 = .ok (.bipush 24, 2) := by decide +kernel
theorem dX12_rank_14 : decode cX12_rank 14 = .ok (.if_icmp .eq 9, 3) := by decide +kernel
theorem dX12_rank_17 : decode cX12_rank 17 = .ok (.iload_n 0, 1) := by decide +kernel
theorem dX12_rank_18 : decode cX12_rank 18 = .ok (.bipush 25, 2) := by decide +kernel
theorem dX12_rank_20 : decode cX12_rank 20 = .ok (.if_icmp .ne 8, 3) := by decide +kernel
theorem dX12_rank_23 : decode cX12_rank 23 = .ok (.bipush 23, 2) := by decide +kernel
theorem dX12_rank_25 : decode cX12_rank 25 = .ok (.goto 4, 3) := by decide +kernel
theorem dX12_rank_28 : decode cX12_rank 28 = .ok (.iload_n 0, 1) := by decide +kernel
theorem dX12_rank_29 : decode cX12_rank 29 = .ok (.ireturn, 1) := by decide +kernel
theorem dX12_named_0 : decode cX12_named 0 = .ok (.iconst (-1), 1) := by decide +kernel
theorem dX12_named_1 : decode cX12_named 1 = .ok (.istore_n 1, 1) := by decide +kernel
theorem dX12_named_2 : decode cX12_named 2 = .ok (.iconst 0, 1) := by decide +kernel
theorem dX12_named_3 : decode cX12_named 3 = .ok (.istore_n 2, 1) := by decide +kernel
theorem dX12_named_4 : decode cX12_named 4 = .ok (.iload_n 2, 1) := by decide +kernel
theorem dX12_named_5 : decode cX12_named 5 = .ok (.aload_n 0, 1) := by decide +kernel
theorem dX12_named_6 : decode cX12_named 6 = .ok (.getfield 321, 3) := by decide +kernel
theorem dX12_named_9 : decode cX12_named 9 = .ok (.if_icmp .ge 29, 3) := by decide +kernel
theorem dX12_named_12 : decode cX12_named 12 = .ok (.aload_n 0, 1) := by decide +kernel
theorem dX12_named_13 : decode cX12_named 13 = .ok (.getfield 21, 3) := by decide +kernel
theorem dX12_named_16 : decode cX12_named 16 = .ok (.iload_n 2, 1) := by decide +kernel
theorem dX12_named_17 : decode cX12_named 17 = .ok (.laload, 1) := by decide +kernel
theorem dX12_named_18 : decode cX12_named 18 = .ok (.aload_n 0, 1) := by decide +kernel
theorem dX12_named_19 : decode cX12_named 19 = .ok (.getfield 190, 3) := by decide +kernel
theorem dX12_named_22 : decode cX12_named 22 = .ok (.lcmp, 1) := by decide +kernel
theorem dX12_named_23 : decode cX12_named 23 = .ok (.ifCond .ne 7, 3) := by decide +kernel
theorem dX12_named_26 : decode cX12_named 26 = .ok (.iload_n 2, 1) := by decide +kernel
theorem dX12_named_27 : decode cX12_named 27 = .ok (.goto 4, 3) := by decide +kernel
theorem dX12_named_30 : decode cX12_named 30 = .ok (.iload_n 1, 1) := by decide +kernel
theorem dX12_named_31 : decode cX12_named 31 = .ok (.istore_n 1, 1) := by decide +kernel
theorem dX12_named_32 : decode cX12_named 32 = .ok (.iinc 2 1, 3) := by decide +kernel
theorem dX12_named_35 : decode cX12_named 35 = .ok (.goto (-31), 3) := by decide +kernel
theorem dX12_named_38 : decode cX12_named 38 = .ok (.iload_n 1, 1) := by decide +kernel
theorem dX12_named_39 : decode cX12_named 39 = .ok (.ireturn, 1) := by decide +kernel
theorem dX12_operand_0 : decode cX12_operand 0 = .ok (.iload_n 1, 1) := by decide +kernel
theorem dX12_operand_1 : decode cX12_operand 1 = .ok (.ifCond .ne 17, 3) := by decide +kernel
theorem dX12_operand_4 : decode cX12_operand 4 = .ok (.aload_n 0, 1) := by decide +kernel
theorem dX12_operand_5 : decode cX12_operand 5 = .ok (.ldc2_w 266, 3) := by decide +kernel
theorem dX12_operand_8 : decode cX12_operand 8 = .ok (.invokevirtual 268, 3) := by decide +kernel
theorem dX12_operand_11 : decode cX12_operand 11 = .ok (.ifCond .eq 7, 3) := by decide +kernel
theorem dX12_operand_14 : decode cX12_operand 14 = .ok (.iconst 1, 1) := by decide +kernel
theorem dX12_operand_15 : decode cX12_operand 15 = .ok (.goto 4, 3) := by decide +kernel
theorem dX12_operand_18 : decode cX12_operand 18 = .ok (.iconst 0, 1) := by decide +kernel
theorem dX12_operand_19 : decode cX12_operand 19 = .ok (.istore_n 2, 1) := by decide +kernel
theorem dX12_operand_20 : decode cX12_operand 20 = .ok (.aload_n 0, 1) := by decide +kernel
theorem dX12_operand_21 : decode cX12_operand 21 = .ok (.invokevirtual 289, 3) := by decide +kernel
theorem dX12_operand_24 : decode cX12_operand 24 = .ok (.istore_n 3, 1) := by decide +kernel
theorem dX12_operand_25 : decode cX12_operand 25 = .ok (.aload_n 0, 1) := by decide +kernel
theorem dX12_operand_26 : decode cX12_operand 26 = .ok (.getfield 197, 3) := by decide +kernel
theorem dX12_operand_29 : decode cX12_operand 29 = .ok (.iconst 2, 1) := by decide +kernel
theorem dX12_operand_30 : decode cX12_operand 30 = .ok (.if_icmp .eq 36, 3) := by decide +kernel
theorem dX12_operand_33 : decode cX12_operand 33 = .ok (.aload_n 0, 1) := by decide +kernel
theorem dX12_operand_34 : decode cX12_operand 34 = .ok (.getfield 197, 3) := by decide +kernel
theorem dX12_operand_37 : decode cX12_operand 37 = .ok (.bipush 40, 2) := by decide +kernel
theorem dX12_operand_39 : decode cX12_operand 39 = .ok (.if_icmp .eq 27, 3) := by decide +kernel
theorem dX12_operand_42 : decode cX12_operand 42 = .ok (.iload_n 3, 1) := by decide +kernel
theorem dX12_operand_43 : decode cX12_operand 43 = .ok (.ifCond .ne 23, 3) := by decide +kernel
theorem dX12_operand_46 : decode cX12_operand 46 = .ok (.aload_n 0, 1) := by decide +kernel
theorem dX12_operand_47 : decode cX12_operand 47 = .ok (.ldc2_w 258, 3) := by decide +kernel
theorem dX12_operand_50 : decode cX12_operand 50 = .ok (.invokevirtual 268, 3) := by decide +kernel
theorem dX12_operand_53 : decode cX12_operand 53 = .ok (.ifCond .ne 13, 3) := by decide +kernel
theorem dX12_operand_56 : decode cX12_operand 56 = .ok (.aload_n 0, 1) := by decide +kernel
theorem dX12_operand_57 : decode cX12_operand 57 = .ok (.ldc2_w 260, 3) := by decide +kernel
theorem dX12_operand_60 : decode cX12_operand 60 = .ok (.invokevirtual 268, 3) := by decide +kernel
theorem dX12_operand_63 : decode cX12_operand 63 = .ok (.ifCond .eq 7, 3) := by decide +kernel
theorem dX12_operand_66 : decode cX12_operand 66 = .ok (.iconst 1, 1) := by decide +kernel
theorem dX12_operand_67 : decode cX12_operand 67 = .ok (.goto 4, 3) := by decide +kernel
theorem dX12_operand_70 : decode cX12_operand 70 = .ok (.iconst 0, 1) := by decide +kernel
theorem dX12_operand_71 : decode cX12_operand 71 = .ok (.istore 4, 2) := by decide +kernel
theorem dX12_operand_73 : decode cX12_operand 73 = .ok (.iload_n 2, 1) := by decide +kernel
theorem dX12_operand_74 : decode cX12_operand 74 = .ok (.ifCond .ne 8, 3) := by decide +kernel
theorem dX12_operand_77 : decode cX12_operand 77 = .ok (.iload 4, 2) := by decide +kernel
theorem dX12_operand_79 : decode cX12_operand 79 = .ok (.ifCond .eq 39, 3) := by decide +kernel
theorem dX12_operand_82 : decode cX12_operand 82 = .ok (.iload 4, 2) := by decide +kernel
theorem dX12_operand_84 : decode cX12_operand 84 = .ok (.ifCond .eq 12, 3) := by decide +kernel
theorem dX12_operand_87 : decode cX12_operand 87 = .ok (.aload_n 0, 1) := by decide +kernel
theorem dX12_operand_88 : decode cX12_operand 88 = .ok (.getfield 440, 3) := by decide +kernel
theorem dX12_operand_91 : decode cX12_operand 91 = .ok (.bipush 60, 2) := by decide +kernel
theorem dX12_operand_93 : decode cX12_operand 93 = .ok (.if_icmp .eq 25, 3) := by decide +kernel
theorem dX12_operand_96 : decode cX12_operand 96 = .ok (.iload_n 2, 1) := by decide +kernel
theorem dX12_operand_97 : decode cX12_operand 97 = .ok (.ifCond .ne 12, 3) := by decide +kernel
theorem dX12_operand_100 : decode cX12_operand 100 = .ok (.aload_n 0, 1) := by decide +kernel
theorem dX12_operand_101 : decode cX12_operand 101 = .ok (.getfield 197, 3) := by decide +kernel
theorem dX12_operand_104 : decode cX12_operand 104 = .ok (.bipush 40, 2) := by decide +kernel
theorem dX12_operand_106 : decode cX12_operand 106 = .ok (.if_icmp .ne 20, 3) := by decide +kernel
theorem dX12_operand_109 : decode cX12_operand 109 = .ok (.aload_n 0, 1) := by decide +kernel
theorem dX12_operand_110 : decode cX12_operand 110 = .ok (.getfield 428, 3) := by decide +kernel
theorem dX12_operand_113 : decode cX12_operand 113 = .ok (.bipush 7, 2) := by decide +kernel
theorem dX12_operand_115 : decode cX12_operand 115 = .ok (.if_icmp .lt 11, 3) := by decide +kernel
theorem dX12_operand_118 : decode cX12_operand 118 = .ok (.aload_n 0, 1) := by decide +kernel
theorem dX12_operand_119 : decode cX12_operand 119 = .ok (.iconst 2, 1) := by decide +kernel
theorem dX12_operand_120 : decode cX12_operand 120 = .ok (.invokevirtual 272, 3) := by decide +kernel
theorem dX12_operand_123 : decode cX12_operand 123 = .ok (.goto 19, 3) := by decide +kernel
theorem dX12_operand_126 : decode cX12_operand 126 = .ok (.iload_n 3, 1) := by decide +kernel
theorem dX12_operand_127 : decode cX12_operand 127 = .ok (.ifCond .eq 15, 3) := by decide +kernel
theorem dX12_operand_130 : decode cX12_operand 130 = .ok (.aload_n 0, 1) := by decide +kernel
theorem dX12_operand_131 : decode cX12_operand 131 = .ok (.invokevirtual 443, 3) := by decide +kernel
theorem dX12_operand_134 : decode cX12_operand 134 = .ok (.ifCond .ge 8, 3) := by decide +kernel
theorem dX12_operand_137 : decode cX12_operand 137 = .ok (.aload_n 0, 1) := by decide +kernel
theorem dX12_operand_138 : decode cX12_operand 138 = .ok (.iconst 5, 1) := by decide +kernel
theorem dX12_operand_139 : decode cX12_operand 139 = .ok (.invokevirtual 272, 3) := by decide +kernel
theorem dX12_operand_142 : decode cX12_operand 142 = .ok (.aload_n 0, 1) := by decide +kernel
theorem dX12_operand_143 : decode cX12_operand 143 = .ok (.getfield 210, 3) := by decide +kernel
theorem dX12_operand_146 : decode cX12_operand 146 = .ok (.ifCond .le 5, 3) := by decide +kernel
theorem dX12_operand_149 : decode cX12_operand 149 = .ok (.iload_n 1, 1) := by decide +kernel
theorem dX12_operand_150 : decode cX12_operand 150 = .ok (.ireturn, 1) := by decide +kernel
theorem dX12_operand_151 : decode cX12_operand 151 = .ok (.iload_n 2, 1) := by decide +kernel
theorem dX12_operand_152 : decode cX12_operand 152 = .ok (.ifCond .eq 15, 3) := by decide +kernel
theorem dX12_operand_155 : decode cX12_operand 155 = .ok (.aload_n 0, 1) := by decide +kernel
theorem dX12_operand_156 : decode cX12_operand 156 = .ok (.bipush 22, 2) := by decide +kernel
theorem dX12_operand_158 : decode cX12_operand 158 = .ok (.invokevirtual 446, 3) := by decide +kernel
theorem dX12_operand_161 : decode cX12_operand 161 = .ok (.aload_n 0, 1) := by decide +kernel
theorem dX12_operand_162 : decode cX12_operand 162 = .ok (.invokevirtual 213, 3) := by decide +kernel
theorem dX12_operand_165 : decode cX12_operand 165 = .ok (.iconst 0, 1) := by decide +kernel
theorem dX12_operand_166 : decode cX12_operand 166 = .ok (.ireturn, 1) := by decide +kernel
theorem dX12_operand_167 : decode cX12_operand 167 = .ok (.aload_n 0, 1) := by decide +kernel
theorem dX12_operand_168 : decode cX12_operand 168 = .ok (.dup, 1) := by decide +kernel
theorem dX12_operand_169 : decode cX12_operand 169 = .ok (.getfield 440, 3) := by decide +kernel
theorem dX12_operand_172 : decode cX12_operand 172 = .ok (.iconst 1, 1) := by decide +kernel
theorem dX12_operand_173 : decode cX12_operand 173 = .ok (.iadd, 1) := by decide +kernel
theorem dX12_operand_174 : decode cX12_operand 174 = .ok (.putfield 440, 3) := by decide +kernel
theorem dX12_operand_177 : decode cX12_operand 177 = .ok (.aload_n 0, 1) := by decide +kernel
theorem dX12_operand_178 : decode cX12_operand 178 = .ok (.getfield 197, 3) := by decide +kernel
theorem dX12_operand_181 : decode cX12_operand 181 = .ok (.bipush 40, 2) := by decide +kernel
theorem dX12_operand_183 : decode cX12_operand 183 = .ok (.if_icmp .ne 15, 3) := by decide +kernel
theorem dX12_operand_186 : decode cX12_operand 186 = .ok (.aload_n 0, 1) := by decide +kernel
theorem dX12_operand_187 : decode cX12_operand 187 = .ok (.bipush 30, 2) := by decide +kernel
theorem dX12_operand_189 : decode cX12_operand 189 = .ok (.invokevirtual 446, 3) := by decide +kernel
theorem dX12_operand_192 : decode cX12_operand 192 = .ok (.aload_n 0, 1) := by decide +kernel
theorem dX12_operand_193 : decode cX12_operand 193 = .ok (.invokevirtual 213, 3) := by decide +kernel
theorem dX12_operand_196 : decode cX12_operand 196 = .ok (.iconst 0, 1) := by decide +kernel
theorem dX12_operand_197 : decode cX12_operand 197 = .ok (.ireturn, 1) := by decide +kernel
theorem dX12_operand_198 : decode cX12_operand 198 = .ok (.aload_n 0, 1) := by decide +kernel
theorem dX12_operand_199 : decode cX12_operand 199 = .ok (.ldc2_w 258, 3) := by decide +kernel
theorem dX12_operand_202 : decode cX12_operand 202 = .ok (.invokevirtual 268, 3) := by decide +kernel
theorem dX12_operand_205 : decode cX12_operand 205 = .ok (.ifCond .eq 46, 3) := by decide +kernel
theorem dX12_operand_208 : decode cX12_operand 208 = .ok (.aload_n 0, 1) := by decide +kernel
theorem dX12_operand_209 : decode cX12_operand 209 = .ok (.invokevirtual 213, 3) := by decide +kernel
theorem dX12_operand_212 : decode cX12_operand 212 = .ok (.aload_n 0, 1) := by decide +kernel
theorem dX12_operand_213 : decode cX12_operand 213 = .ok (.invokevirtual 289, 3) := by decide +kernel
theorem dX12_operand_216 : decode cX12_operand 216 = .ok (.ifCond .ne 11, 3) := by decide +kernel
theorem dX12_operand_219 : decode cX12_operand 219 = .ok (.aload_n 0, 1) := by decide +kernel
theorem dX12_operand_220 : decode cX12_operand 220 = .ok (.iconst 2, 1) := by decide +kernel
theorem dX12_operand_221 : decode cX12_operand 221 = .ok (.invokevirtual 272, 3) := by decide +kernel
theorem dX12_operand_224 : decode cX12_operand 224 = .ok (.goto 15, 3) := by decide +kernel
theorem dX12_operand_227 : decode cX12_operand 227 = .ok (.aload_n 0, 1) := by decide +kernel
theorem dX12_operand_228 : decode cX12_operand 228 = .ok (.invokevirtual 443, 3) := by decide +kernel
theorem dX12_operand_231 : decode cX12_operand 231 = .ok (.ifCond .ge 8, 3) := by decide +kernel
theorem dX12_operand_234 : decode cX12_operand 234 = .ok (.aload_n 0, 1) := by decide +kernel
theorem dX12_operand_235 : decode cX12_operand 235 = .ok (.iconst 5, 1) := by decide +kernel
theorem dX12_operand_236 : decode cX12_operand 236 = .ok (.invokevirtual 272, 3) := by decide +kernel
theorem dX12_operand_239 : decode cX12_operand 239 = .ok (.aload_n 0, 1) := by decide +kernel
theorem dX12_operand_240 : decode cX12_operand 240 = .ok (.iconst 2, 1) := by decide +kernel
theorem dX12_operand_241 : decode cX12_operand 241 = .ok (.aload_n 0, 1) := by decide +kernel
theorem dX12_operand_242 : decode cX12_operand 242 = .ok (.invokevirtual 443, 3) := by decide +kernel
theorem dX12_operand_245 : decode cX12_operand 245 = .ok (.invokevirtual 431, 3) := by decide +kernel
theorem dX12_operand_248 : decode cX12_operand 248 = .ok (.goto 43, 3) := by decide +kernel
theorem dX12_operand_251 : decode cX12_operand 251 = .ok (.aload_n 0, 1) := by decide +kernel
theorem dX12_operand_252 : decode cX12_operand 252 = .ok (.iload_n 3, 1) := by decide +kernel
theorem dX12_operand_253 : decode cX12_operand 253 = .ok (.ifCond .eq 7, 3) := by decide +kernel
theorem dX12_operand_256 : decode cX12_operand 256 = .ok (.iconst 1, 1) := by decide +kernel
theorem dX12_operand_257 : decode cX12_operand 257 = .ok (.goto 16, 3) := by decide +kernel
theorem dX12_operand_260 : decode cX12_operand 260 = .ok (.aload_n 0, 1) := by decide +kernel
theorem dX12_operand_261 : decode cX12_operand 261 = .ok (.getfield 197, 3) := by decide +kernel
theorem dX12_operand_264 : decode cX12_operand 264 = .ok (.iconst 2, 1) := by decide +kernel
theorem dX12_operand_265 : decode cX12_operand 265 = .ok (.if_icmp .ne 7, 3) := by decide +kernel
theorem dX12_operand_268 : decode cX12_operand 268 = .ok (.iconst 0, 1) := by decide +kernel
theorem dX12_operand_269 : decode cX12_operand 269 = .ok (.goto 4, 3) := by decide +kernel
theorem dX12_operand_272 : decode cX12_operand 272 = .ok (.iconst 3, 1) := by decide +kernel
theorem dX12_operand_273 : decode cX12_operand 273 = .ok (.iload_n 3, 1) := by decide +kernel
theorem dX12_operand_274 : decode cX12_operand 274 = .ok (.ifCond .eq 10, 3) := by decide +kernel
theorem dX12_operand_277 : decode cX12_operand 277 = .ok (.aload_n 0, 1) := by decide +kernel
theorem dX12_operand_278 : decode cX12_operand 278 = .ok (.invokevirtual 443, 3) := by decide +kernel
theorem dX12_operand_281 : decode cX12_operand 281 = .ok (.goto 7, 3) := by decide +kernel
theorem dX12_operand_284 : decode cX12_operand 284 = .ok (.aload_n 0, 1) := by decide +kernel
theorem dX12_operand_285 : decode cX12_operand 285 = .ok (.getfield 194, 3) := by decide +kernel
theorem dX12_operand_288 : decode cX12_operand 288 = .ok (.invokevirtual 431, 3) := by decide +kernel
theorem dX12_operand_291 : decode cX12_operand 291 = .ok (.aload_n 0, 1) := by decide +kernel
theorem dX12_operand_292 : decode cX12_operand 292 = .ok (.getfield 210, 3) := by decide +kernel
theorem dX12_operand_295 : decode cX12_operand 295 = .ok (.ifCond .ne 7, 3) := by decide +kernel
theorem dX12_operand_298 : decode cX12_operand 298 = .ok (.aload_n 0, 1) := by decide +kernel
theorem dX12_operand_299 : decode cX12_operand 299 = .ok (.invokevirtual 213, 3) := by decide +kernel
theorem dX12_operand_302 : decode cX12_operand 302 = .ok (.iconst 2, 1) := by decide +kernel
theorem dX12_operand_303 : decode cX12_operand 303 = .ok (.ireturn, 1) := by decide +kernel
theorem dX12_sign_0 : decode cX12_sign 0 = .ok (.aload_n 0, 1) := by decide +kernel
theorem dX12_sign_1 : decode cX12_sign 1 = .ok (.getfield 197, 3) := by decide +kernel
theorem dX12_sign_4 : decode cX12_sign 4 = .ok (.bipush 43, 2) := by decide +kernel
theorem dX12_sign_6 : decode cX12_sign 6 = .ok (.if_icmp .ne 8, 3) := by decide +kernel
theorem dX12_sign_9 : decode cX12_sign 9 = .ok (.bipush 26, 2) := by decide +kernel
theorem dX12_sign_11 : decode cX12_sign 11 = .ok (.goto 104, 3) := by decide +kernel
theorem dX12_sign_14 : decode cX12_sign 14 = .ok (.aload_n 0, 1) := by decide +kernel
theorem dX12_sign_15 : decode cX12_sign 15 = .ok (.getfield 197, 3) := by decide +kernel
theorem dX12_sign_18 : decode cX12_sign 18 = .ok (.bipush 45, 2) := by decide +kernel
theorem dX12_sign_20 : decode cX12_sign 20 = .ok (.if_icmp .ne 8, 3) := by decide +kernel
theorem dX12_sign_23 : decode cX12_sign 23 = .ok (.bipush 27, 2) := by decide +kernel
theorem dX12_sign_25 : decode cX12_sign 25 = .ok (.goto 90, 3) := by decide +kernel
theorem dX12_sign_28 : decode cX12_sign 28 = .ok (.aload_n 0, 1) := by decide +kernel
theorem dX12_sign_29 : decode cX12_sign 29 = .ok (.getfield 197, 3) := by decide +kernel
theorem dX12_sign_32 : decode cX12_sign 32 = .ok (.bipush 42, 2) := by decide +kernel
theorem dX12_sign_34 : decode cX12_sign 34 = .ok (.if_icmp .ne 8, 3) := by decide +kernel
theorem dX12_sign_37 : decode cX12_sign 37 = .ok (.bipush 28, 2) := by decide +kernel
theorem dX12_sign_39 : decode cX12_sign 39 = .ok (.goto 76, 3) := by decide +kernel
theorem dX12_sign_42 : decode cX12_sign 42 = .ok (.aload_n 0, 1) := by decide +kernel
theorem dX12_sign_43 : decode cX12_sign 43 = .ok (.getfield 197, 3) := by decide +kernel
theorem dX12_sign_46 : decode cX12_sign 46 = .ok (.bipush 61, 2) := by decide +kernel
theorem dX12_sign_48 : decode cX12_sign 48 = .ok (.if_icmp .ne 8, 3) := by decide +kernel
theorem dX12_sign_51 : decode cX12_sign 51 = .ok (.bipush 23, 2) := by decide +kernel
theorem dX12_sign_53 : decode cX12_sign 53 = .ok (.goto 62, 3) := by decide +kernel
theorem dX12_sign_56 : decode cX12_sign 56 = .ok (.aload_n 0, 1) := by decide +kernel
theorem dX12_sign_57 : decode cX12_sign 57 = .ok (.getfield 197, 3) := by decide +kernel
theorem dX12_sign_60 : decode cX12_sign 60 = .ok (.bipush 60, 2) := by decide +kernel
theorem dX12_sign_62 : decode cX12_sign 62 = .ok (.if_icmp .ne 8, 3) := by decide +kernel
theorem dX12_sign_65 : decode cX12_sign 65 = .ok (.bipush 24, 2) := by decide +kernel
theorem dX12_sign_67 : decode cX12_sign 67 = .ok (.goto 48, 3) := by decide +kernel
theorem dX12_sign_70 : decode cX12_sign 70 = .ok (.aload_n 0, 1) := by decide +kernel
theorem dX12_sign_71 : decode cX12_sign 71 = .ok (.getfield 197, 3) := by decide +kernel
theorem dX12_sign_74 : decode cX12_sign 74 = .ok (.bipush 62, 2) := by decide +kernel
theorem dX12_sign_76 : decode cX12_sign 76 = .ok (.if_icmp .ne 8, 3) := by decide +kernel
theorem dX12_sign_79 : decode cX12_sign 79 = .ok (.bipush 25, 2) := by decide +kernel
theorem dX12_sign_81 : decode cX12_sign 81 = .ok (.goto 34, 3) := by decide +kernel
theorem dX12_sign_84 : decode cX12_sign 84 = .ok (.aload_n 0, 1) := by decide +kernel
theorem dX12_sign_85 : decode cX12_sign 85 = .ok (.ldc2_w 262, 3) := by decide +kernel
theorem dX12_sign_88 : decode cX12_sign 88 = .ok (.invokevirtual 268, 3) := by decide +kernel
theorem dX12_sign_91 : decode cX12_sign 91 = .ok (.ifCond .eq 8, 3) := by decide +kernel
theorem dX12_sign_94 : decode cX12_sign 94 = .ok (.bipush 21, 2) := by decide +kernel
theorem dX12_sign_96 : decode cX12_sign 96 = .ok (.goto 19, 3) := by decide +kernel
theorem dX12_sign_99 : decode cX12_sign 99 = .ok (.aload_n 0, 1) := by decide +kernel
theorem dX12_sign_100 : decode cX12_sign 100 = .ok (.ldc2_w 264, 3) := by decide +kernel
theorem dX12_sign_103 : decode cX12_sign 103 = .ok (.invokevirtual 268, 3) := by decide +kernel
theorem dX12_sign_106 : decode cX12_sign 106 = .ok (.ifCond .eq 8, 3) := by decide +kernel
theorem dX12_sign_109 : decode cX12_sign 109 = .ok (.bipush 20, 2) := by decide +kernel
theorem dX12_sign_111 : decode cX12_sign 111 = .ok (.goto 4, 3) := by decide +kernel
theorem dX12_sign_114 : decode cX12_sign 114 = .ok (.iconst (-1), 1) := by decide +kernel
theorem dX12_sign_115 : decode cX12_sign 115 = .ok (.istore_n 1, 1) := by decide +kernel
theorem dX12_sign_116 : decode cX12_sign 116 = .ok (.aload_n 0, 1) := by decide +kernel
theorem dX12_sign_117 : decode cX12_sign 117 = .ok (.getfield 197, 3) := by decide +kernel
theorem dX12_sign_120 : decode cX12_sign 120 = .ok (.bipush 41, 2) := by decide +kernel
theorem dX12_sign_122 : decode cX12_sign 122 = .ok (.if_icmp .ne 41, 3) := by decide +kernel
theorem dX12_sign_125 : decode cX12_sign 125 = .ok (.aload_n 0, 1) := by decide +kernel
theorem dX12_sign_126 : decode cX12_sign 126 = .ok (.invokevirtual 449, 3) := by decide +kernel
theorem dX12_sign_129 : decode cX12_sign 129 = .ok (.ifCond .eq 34, 3) := by decide +kernel
theorem dX12_sign_132 : decode cX12_sign 132 = .ok (.aload_n 0, 1) := by decide +kernel
theorem dX12_sign_133 : decode cX12_sign 133 = .ok (.iconst 0, 1) := by decide +kernel
theorem dX12_sign_134 : decode cX12_sign 134 = .ok (.invokevirtual 452, 3) := by decide +kernel
theorem dX12_sign_137 : decode cX12_sign 137 = .ok (.aload_n 0, 1) := by decide +kernel
theorem dX12_sign_138 : decode cX12_sign 138 = .ok (.dup, 1) := by decide +kernel
theorem dX12_sign_139 : decode cX12_sign 139 = .ok (.getfield 425, 3) := by decide +kernel
theorem dX12_sign_142 : decode cX12_sign 142 = .ok (.iconst 1, 1) := by decide +kernel
theorem dX12_sign_143 : decode cX12_sign 143 = .ok (.isub, 1) := by decide +kernel
theorem dX12_sign_144 : decode cX12_sign 144 = .ok (.putfield 425, 3) := by decide +kernel
theorem dX12_sign_147 : decode cX12_sign 147 = .ok (.aload_n 0, 1) := by decide +kernel
theorem dX12_sign_148 : decode cX12_sign 148 = .ok (.dup, 1) := by decide +kernel
theorem dX12_sign_149 : decode cX12_sign 149 = .ok (.getfield 428, 3) := by decide +kernel
theorem dX12_sign_152 : decode cX12_sign 152 = .ok (.iconst 1, 1) := by decide +kernel
theorem dX12_sign_153 : decode cX12_sign 153 = .ok (.isub, 1) := by decide +kernel
theorem dX12_sign_154 : decode cX12_sign 154 = .ok (.putfield 428, 3) := by decide +kernel
theorem dX12_sign_157 : decode cX12_sign 157 = .ok (.aload_n 0, 1) := by decide +kernel
theorem dX12_sign_158 : decode cX12_sign 158 = .ok (.invokevirtual 213, 3) := by decide +kernel
theorem dX12_sign_161 : decode cX12_sign 161 = .ok (.iconst 2, 1) := by decide +kernel
theorem dX12_sign_162 : decode cX12_sign 162 = .ok (.ireturn, 1) := by decide +kernel
theorem dX12_sign_163 : decode cX12_sign 163 = .ok (.iload_n 1, 1) := by decide +kernel
theorem dX12_sign_164 : decode cX12_sign 164 = .ok (.ifCond .ge 10, 3) := by decide +kernel
theorem dX12_sign_167 : decode cX12_sign 167 = .ok (.aload_n 0, 1) := by decide +kernel
theorem dX12_sign_168 : decode cX12_sign 168 = .ok (.iconst 2, 1) := by decide +kernel
theorem dX12_sign_169 : decode cX12_sign 169 = .ok (.invokevirtual 272, 3) := by decide +kernel
theorem dX12_sign_172 : decode cX12_sign 172 = .ok (.iconst 2, 1) := by decide +kernel
theorem dX12_sign_173 : decode cX12_sign 173 = .ok (.ireturn, 1) := by decide +kernel
theorem dX12_sign_174 : decode cX12_sign 174 = .ok (.iload_n 1, 1) := by decide +kernel
theorem dX12_sign_175 : decode cX12_sign 175 = .ok (.invokestatic 455, 3) := by decide +kernel
theorem dX12_sign_178 : decode cX12_sign 178 = .ok (.bipush 23, 2) := by decide +kernel
theorem dX12_sign_180 : decode cX12_sign 180 = .ok (.if_icmp .ne 29, 3) := by decide +kernel
theorem dX12_sign_183 : decode cX12_sign 183 = .ok (.aload_n 0, 1) := by decide +kernel
theorem dX12_sign_184 : decode cX12_sign 184 = .ok (.bipush 26, 2) := by decide +kernel
theorem dX12_sign_186 : decode cX12_sign 186 = .ok (.invokevirtual 452, 3) := by decide +kernel
theorem dX12_sign_189 : decode cX12_sign 189 = .ok (.aload_n 0, 1) := by decide +kernel
theorem dX12_sign_190 : decode cX12_sign 190 = .ok (.invokevirtual 434, 3) := by decide +kernel
theorem dX12_sign_193 : decode cX12_sign 193 = .ok (.invokestatic 455, 3) := by decide +kernel
theorem dX12_sign_196 : decode cX12_sign 196 = .ok (.bipush 23, 2) := by decide +kernel
theorem dX12_sign_198 : decode cX12_sign 198 = .ok (.if_icmp .ne 19, 3) := by decide +kernel
theorem dX12_sign_201 : decode cX12_sign 201 = .ok (.aload_n 0, 1) := by decide +kernel
theorem dX12_sign_202 : decode cX12_sign 202 = .ok (.iconst 2, 1) := by decide +kernel
theorem dX12_sign_203 : decode cX12_sign 203 = .ok (.invokevirtual 272, 3) := by decide +kernel
theorem dX12_sign_206 : decode cX12_sign 206 = .ok (.goto 11, 3) := by decide +kernel
theorem dX12_sign_209 : decode cX12_sign 209 = .ok (.aload_n 0, 1) := by decide +kernel
theorem dX12_sign_210 : decode cX12_sign 210 = .ok (.iload_n 1, 1) := by decide +kernel
theorem dX12_sign_211 : decode cX12_sign 211 = .ok (.invokestatic 455, 3) := by decide +kernel
theorem dX12_sign_214 : decode cX12_sign 214 = .ok (.invokevirtual 452, 3) := by decide +kernel
theorem dX12_sign_217 : decode cX12_sign 217 = .ok (.aload_n 0, 1) := by decide +kernel
theorem dX12_sign_218 : decode cX12_sign 218 = .ok (.getfield 210, 3) := by decide +kernel
theorem dX12_sign_221 : decode cX12_sign 221 = .ok (.ifCond .le 5, 3) := by decide +kernel
theorem dX12_sign_224 : decode cX12_sign 224 = .ok (.iconst 2, 1) := by decide +kernel
theorem dX12_sign_225 : decode cX12_sign 225 = .ok (.ireturn, 1) := by decide +kernel
theorem dX12_sign_226 : decode cX12_sign 226 = .ok (.aload_n 0, 1) := by decide +kernel
theorem dX12_sign_227 : decode cX12_sign 227 = .ok (.iload_n 1, 1) := by decide +kernel
theorem dX12_sign_228 : decode cX12_sign 228 = .ok (.invokevirtual 446, 3) := by decide +kernel
theorem dX12_sign_231 : decode cX12_sign 231 = .ok (.aload_n 0, 1) := by decide +kernel
theorem dX12_sign_232 : decode cX12_sign 232 = .ok (.invokevirtual 213, 3) := by decide +kernel
theorem dX12_sign_235 : decode cX12_sign 235 = .ok (.iload_n 1, 1) := by decide +kernel
theorem dX12_sign_236 : decode cX12_sign 236 = .ok (.bipush 21, 2) := by decide +kernel
theorem dX12_sign_238 : decode cX12_sign 238 = .ok (.if_icmp .eq 9, 3) := by decide +kernel
theorem dX12_sign_241 : decode cX12_sign 241 = .ok (.iload_n 1, 1) := by decide +kernel
theorem dX12_sign_242 : decode cX12_sign 242 = .ok (.bipush 20, 2) := by decide +kernel
theorem dX12_sign_244 : decode cX12_sign 244 = .ok (.if_icmp .ne 7, 3) := by decide +kernel
theorem dX12_sign_247 : decode cX12_sign 247 = .ok (.iconst 0, 1) := by decide +kernel
theorem dX12_sign_248 : decode cX12_sign 248 = .ok (.goto 4, 3) := by decide +kernel
theorem dX12_sign_251 : decode cX12_sign 251 = .ok (.iconst 1, 1) := by decide +kernel
theorem dX12_sign_252 : decode cX12_sign 252 = .ok (.ireturn, 1) := by decide +kernel
theorem dX12_readRule_0 : decode cX12_readRule 0 = .ok (.aload_n 0, 1) := by decide +kernel
theorem dX12_readRule_1 : decode cX12_readRule 1 = .ok (.getfield 458, 3) := by decide +kernel
theorem dX12_readRule_4 : decode cX12_readRule 4 = .ok (.bipush 6, 2) := by decide +kernel
theorem dX12_readRule_6 : decode cX12_readRule 6 = .ok (.if_icmp .ne 8, 3) := by decide +kernel
theorem dX12_readRule_9 : decode cX12_readRule 9 = .ok (.aload_n 0, 1) := by decide +kernel
theorem dX12_readRule_10 : decode cX12_readRule 10 = .ok (.iconst 2, 1) := by decide +kernel
theorem dX12_readRule_11 : decode cX12_readRule 11 = .ok (.invokevirtual 272, 3) := by decide +kernel
theorem dX12_readRule_14 : decode cX12_readRule 14 = .ok (.aload_n 0, 1) := by decide +kernel
theorem dX12_readRule_15 : decode cX12_readRule 15 = .ok (.ldc2_w 250, 3) := by decide +kernel
theorem dX12_readRule_18 : decode cX12_readRule 18 = .ok (.invokevirtual 278, 3) := by decide +kernel
theorem dX12_readRule_21 : decode cX12_readRule 21 = .ok (.aload_n 0, 1) := by decide +kernel
theorem dX12_readRule_22 : decode cX12_readRule 22 = .ok (.getfield 210, 3) := by decide +kernel
theorem dX12_readRule_25 : decode cX12_readRule 25 = .ok (.ifCond .le 4, 3) := by decide +kernel
theorem dX12_readRule_28 : decode cX12_readRule 28 = .ok (.return_, 1) := by decide +kernel
theorem dX12_readRule_29 : decode cX12_readRule 29 = .ok (.aload_n 0, 1) := by decide +kernel
theorem dX12_readRule_30 : decode cX12_readRule 30 = .ok (.getfield 139, 3) := by decide +kernel
theorem dX12_readRule_33 : decode cX12_readRule 33 = .ok (.aload_n 0, 1) := by decide +kernel
theorem dX12_readRule_34 : decode cX12_readRule 34 = .ok (.getfield 458, 3) := by decide +kernel
theorem dX12_readRule_37 : decode cX12_readRule 37 = .ok (.aload_n 0, 1) := by decide +kernel
theorem dX12_readRule_38 : decode cX12_readRule 38 = .ok (.getfield 422, 3) := by decide +kernel
theorem dX12_readRule_41 : decode cX12_readRule 41 = .ok (.iastore, 1) := by decide +kernel
theorem dX12_readRule_42 : decode cX12_readRule 42 = .ok (.aload_n 0, 1) := by decide +kernel
theorem dX12_readRule_43 : decode cX12_readRule 43 = .ok (.iconst 0, 1) := by decide +kernel
theorem dX12_readRule_44 : decode cX12_readRule 44 = .ok (.putfield 425, 3) := by decide +kernel
theorem dX12_readRule_47 : decode cX12_readRule 47 = .ok (.aload_n 0, 1) := by decide +kernel
theorem dX12_readRule_48 : decode cX12_readRule 48 = .ok (.iconst 0, 1) := by decide +kernel
theorem dX12_readRule_49 : decode cX12_readRule 49 = .ok (.putfield 428, 3) := by decide +kernel
theorem dX12_readRule_52 : decode cX12_readRule 52 = .ok (.iconst 0, 1) := by decide +kernel
theorem dX12_readRule_53 : decode cX12_readRule 53 = .ok (.istore_n 1, 1) := by decide +kernel
theorem dX12_readRule_54 : decode cX12_readRule 54 = .ok (.aload_n 0, 1) := by decide +kernel
theorem dX12_readRule_55 : decode cX12_readRule 55 = .ok (.getfield 210, 3) := by decide +kernel
theorem dX12_readRule_58 : decode cX12_readRule 58 = .ok (.ifCond .ne 46, 3) := by decide +kernel
theorem dX12_readRule_61 : decode cX12_readRule 61 = .ok (.iload_n 1, 1) := by decide +kernel
theorem dX12_readRule_62 : decode cX12_readRule 62 = .ok (.iconst 2, 1) := by decide +kernel
theorem dX12_readRule_63 : decode cX12_readRule 63 = .ok (.if_icmp .ne 20, 3) := by decide +kernel
theorem dX12_readRule_66 : decode cX12_readRule 66 = .ok (.aload_n 0, 1) := by decide +kernel
theorem dX12_readRule_67 : decode cX12_readRule 67 = .ok (.ldc2_w 252, 3) := by decide +kernel
theorem dX12_readRule_70 : decode cX12_readRule 70 = .ok (.invokevirtual 268, 3) := by decide +kernel
theorem dX12_readRule_73 : decode cX12_readRule 73 = .ok (.ifCond .eq 10, 3) := by decide +kernel
theorem dX12_readRule_76 : decode cX12_readRule 76 = .ok (.aload_n 0, 1) := by decide +kernel
theorem dX12_readRule_77 : decode cX12_readRule 77 = .ok (.invokevirtual 449, 3) := by decide +kernel
theorem dX12_readRule_80 : decode cX12_readRule 80 = .ok (.ifCond .eq 24, 3) := by decide +kernel
theorem dX12_readRule_83 : decode cX12_readRule 83 = .ok (.iload_n 1, 1) := by decide +kernel
theorem dX12_readRule_84 : decode cX12_readRule 84 = .ok (.iconst 2, 1) := by decide +kernel
theorem dX12_readRule_85 : decode cX12_readRule 85 = .ok (.if_icmp .ne 10, 3) := by decide +kernel
theorem dX12_readRule_88 : decode cX12_readRule 88 = .ok (.aload_n 0, 1) := by decide +kernel
theorem dX12_readRule_89 : decode cX12_readRule 89 = .ok (.invokevirtual 461, 3) := by decide +kernel
theorem dX12_readRule_92 : decode cX12_readRule 92 = .ok (.goto 8, 3) := by decide +kernel
theorem dX12_readRule_95 : decode cX12_readRule 95 = .ok (.aload_n 0, 1) := by decide +kernel
theorem dX12_readRule_96 : decode cX12_readRule 96 = .ok (.iload_n 1, 1) := by decide +kernel
theorem dX12_readRule_97 : decode cX12_readRule 97 = .ok (.invokevirtual 464, 3) := by decide +kernel
theorem dX12_readRule_100 : decode cX12_readRule 100 = .ok (.istore_n 1, 1) := by decide +kernel
theorem dX12_readRule_101 : decode cX12_readRule 101 = .ok (.goto (-47), 3) := by decide +kernel
theorem dX12_readRule_104 : decode cX12_readRule 104 = .ok (.aload_n 0, 1) := by decide +kernel
theorem dX12_readRule_105 : decode cX12_readRule 105 = .ok (.getfield 210, 3) := by decide +kernel
theorem dX12_readRule_108 : decode cX12_readRule 108 = .ok (.ifCond .le 4, 3) := by decide +kernel
theorem dX12_readRule_111 : decode cX12_readRule 111 = .ok (.return_, 1) := by decide +kernel
theorem dX12_readRule_112 : decode cX12_readRule 112 = .ok (.aload_n 0, 1) := by decide +kernel
theorem dX12_readRule_113 : decode cX12_readRule 113 = .ok (.iconst 0, 1) := by decide +kernel
theorem dX12_readRule_114 : decode cX12_readRule 114 = .ok (.invokevirtual 452, 3) := by decide +kernel
theorem dX12_readRule_117 : decode cX12_readRule 117 = .ok (.aload_n 0, 1) := by decide +kernel
theorem dX12_readRule_118 : decode cX12_readRule 118 = .ok (.invokevirtual 213, 3) := by decide +kernel
theorem dX12_readRule_121 : decode cX12_readRule 121 = .ok (.aload_n 0, 1) := by decide +kernel
theorem dX12_readRule_122 : decode cX12_readRule 122 = .ok (.getfield 157, 3) := by decide +kernel
theorem dX12_readRule_125 : decode cX12_readRule 125 = .ok (.aload_n 0, 1) := by decide +kernel
theorem dX12_readRule_126 : decode cX12_readRule 126 = .ok (.getfield 458, 3) := by decide +kernel
theorem dX12_readRule_129 : decode cX12_readRule 129 = .ok (.aload_n 0, 1) := by decide +kernel
theorem dX12_readRule_130 : decode cX12_readRule 130 = .ok (.ldc2_w 254, 3) := by decide +kernel
theorem dX12_readRule_133 : decode cX12_readRule 133 = .ok (.invokevirtual 268, 3) := by decide +kernel
theorem dX12_readRule_136 : decode cX12_readRule 136 = .ok (.bastore, 1) := by decide +kernel
theorem dX12_readRule_137 : decode cX12_readRule 137 = .ok (.aload_n 0, 1) := by decide +kernel
theorem dX12_readRule_138 : decode cX12_readRule 138 = .ok (.ldc2_w 254, 3) := by decide +kernel
theorem dX12_readRule_141 : decode cX12_readRule 141 = .ok (.invokevirtual 268, 3) := by decide +kernel
theorem dX12_readRule_144 : decode cX12_readRule 144 = .ok (.ifCond .ne 18, 3) := by decide +kernel
theorem dX12_readRule_147 : decode cX12_readRule 147 = .ok (.aload_n 0, 1) := by decide +kernel
theorem dX12_readRule_148 : decode cX12_readRule 148 = .ok (.ldc2_w 256, 3) := by decide +kernel
theorem dX12_readRule_151 : decode cX12_readRule 151 = .ok (.invokevirtual 268, 3) := by decide +kernel
theorem dX12_readRule_154 : decode cX12_readRule 154 = .ok (.ifCond .ne 8, 3) := by decide +kernel
theorem dX12_readRule_157 : decode cX12_readRule 157 = .ok (.aload_n 0, 1) := by decide +kernel
theorem dX12_readRule_158 : decode cX12_readRule 158 = .ok (.iconst 2, 1) := by decide +kernel
theorem dX12_readRule_159 : decode cX12_readRule 159 = .ok (.invokevirtual 272, 3) := by decide +kernel
theorem dX12_readRule_162 : decode cX12_readRule 162 = .ok (.aload_n 0, 1) := by decide +kernel
theorem dX12_readRule_163 : decode cX12_readRule 163 = .ok (.getfield 210, 3) := by decide +kernel
theorem dX12_readRule_166 : decode cX12_readRule 166 = .ok (.ifCond .ne 7, 3) := by decide +kernel
theorem dX12_readRule_169 : decode cX12_readRule 169 = .ok (.aload_n 0, 1) := by decide +kernel
theorem dX12_readRule_170 : decode cX12_readRule 170 = .ok (.invokevirtual 213, 3) := by decide +kernel
theorem dX12_readRule_173 : decode cX12_readRule 173 = .ok (.aload_n 0, 1) := by decide +kernel
theorem dX12_readRule_174 : decode cX12_readRule 174 = .ok (.getfield 210, 3) := by decide +kernel
theorem dX12_readRule_177 : decode cX12_readRule 177 = .ok (.ifCond .ne 17, 3) := by decide +kernel
theorem dX12_readRule_180 : decode cX12_readRule 180 = .ok (.aload_n 0, 1) := by decide +kernel
theorem dX12_readRule_181 : decode cX12_readRule 181 = .ok (.getfield 197, 3) := by decide +kernel
theorem dX12_readRule_184 : decode cX12_readRule 184 = .ok (.bipush 59, 2) := by decide +kernel
theorem dX12_readRule_186 : decode cX12_readRule 186 = .ok (.if_icmp .eq 8, 3) := by decide +kernel
theorem dX12_readRule_189 : decode cX12_readRule 189 = .ok (.aload_n 0, 1) := by decide +kernel
theorem dX12_readRule_190 : decode cX12_readRule 190 = .ok (.iconst 2, 1) := by decide +kernel
theorem dX12_readRule_191 : decode cX12_readRule 191 = .ok (.invokevirtual 272, 3) := by decide +kernel
theorem dX12_readRule_194 : decode cX12_readRule 194 = .ok (.aload_n 0, 1) := by decide +kernel
theorem dX12_readRule_195 : decode cX12_readRule 195 = .ok (.getfield 210, 3) := by decide +kernel
theorem dX12_readRule_198 : decode cX12_readRule 198 = .ok (.ifCond .le 4, 3) := by decide +kernel
theorem dX12_readRule_201 : decode cX12_readRule 201 = .ok (.return_, 1) := by decide +kernel
theorem dX12_readRule_202 : decode cX12_readRule 202 = .ok (.aload_n 0, 1) := by decide +kernel
theorem dX12_readRule_203 : decode cX12_readRule 203 = .ok (.invokevirtual 213, 3) := by decide +kernel
theorem dX12_readRule_206 : decode cX12_readRule 206 = .ok (.aload_n 0, 1) := by decide +kernel
theorem dX12_readRule_207 : decode cX12_readRule 207 = .ok (.dup, 1) := by decide +kernel
theorem dX12_readRule_208 : decode cX12_readRule 208 = .ok (.getfield 458, 3) := by decide +kernel
theorem dX12_readRule_211 : decode cX12_readRule 211 = .ok (.iconst 1, 1) := by decide +kernel
theorem dX12_readRule_212 : decode cX12_readRule 212 = .ok (.iadd, 1) := by decide +kernel
theorem dX12_readRule_213 : decode cX12_readRule 213 = .ok (.putfield 458, 3) := by decide +kernel
theorem dX12_readRule_216 : decode cX12_readRule 216 = .ok (.aload_n 0, 1) := by decide +kernel
theorem dX12_readRule_217 : decode cX12_readRule 217 = .ok (.getfield 139, 3) := by decide +kernel
theorem dX12_readRule_220 : decode cX12_readRule 220 = .ok (.aload_n 0, 1) := by decide +kernel
theorem dX12_readRule_221 : decode cX12_readRule 221 = .ok (.getfield 458, 3) := by decide +kernel
theorem dX12_readRule_224 : decode cX12_readRule 224 = .ok (.aload_n 0, 1) := by decide +kernel
theorem dX12_readRule_225 : decode cX12_readRule 225 = .ok (.getfield 422, 3) := by decide +kernel
theorem dX12_readRule_228 : decode cX12_readRule 228 = .ok (.iastore, 1) := by decide +kernel
theorem dX12_readRule_229 : decode cX12_readRule 229 = .ok (.return_, 1) := by decide +kernel
theorem dX12_rules_0 : decode cX12_rules 0 = .ok (.aload_n 0, 1) := by decide +kernel
theorem dX12_rules_1 : decode cX12_rules 1 = .ok (.getfield 166, 3) := by decide +kernel
theorem dX12_rules_4 : decode cX12_rules 4 = .ok (.sipush 500, 3) := by decide +kernel
theorem dX12_rules_7 : decode cX12_rules 7 = .ok (.if_icmp .le 6, 3) := by decide +kernel
theorem dX12_rules_10 : decode cX12_rules 10 = .ok (.bipush (-2), 2) := by decide +kernel
theorem dX12_rules_12 : decode cX12_rules 12 = .ok (.ireturn, 1) := by decide +kernel
theorem dX12_rules_13 : decode cX12_rules 13 = .ok (.aload_n 0, 1) := by decide +kernel
theorem dX12_rules_14 : decode cX12_rules 14 = .ok (.iconst 0, 1) := by decide +kernel
theorem dX12_rules_15 : decode cX12_rules 15 = .ok (.putfield 422, 3) := by decide +kernel
theorem dX12_rules_18 : decode cX12_rules 18 = .ok (.aload_n 0, 1) := by decide +kernel
theorem dX12_rules_19 : decode cX12_rules 19 = .ok (.iconst 0, 1) := by decide +kernel
theorem dX12_rules_20 : decode cX12_rules 20 = .ok (.putfield 458, 3) := by decide +kernel
theorem dX12_rules_23 : decode cX12_rules 23 = .ok (.aload_n 0, 1) := by decide +kernel
theorem dX12_rules_24 : decode cX12_rules 24 = .ok (.iconst 0, 1) := by decide +kernel
theorem dX12_rules_25 : decode cX12_rules 25 = .ok (.putfield 440, 3) := by decide +kernel
theorem dX12_rules_28 : decode cX12_rules 28 = .ok (.aload_n 0, 1) := by decide +kernel
theorem dX12_rules_29 : decode cX12_rules 29 = .ok (.iconst 1, 1) := by decide +kernel
theorem dX12_rules_30 : decode cX12_rules 30 = .ok (.invokevirtual 308, 3) := by decide +kernel
theorem dX12_rules_33 : decode cX12_rules 33 = .ok (.aload_n 0, 1) := by decide +kernel
theorem dX12_rules_34 : decode cX12_rules 34 = .ok (.getfield 210, 3) := by decide +kernel
theorem dX12_rules_37 : decode cX12_rules 37 = .ok (.ifCond .ne 17, 3) := by decide +kernel
theorem dX12_rules_40 : decode cX12_rules 40 = .ok (.aload_n 0, 1) := by decide +kernel
theorem dX12_rules_41 : decode cX12_rules 41 = .ok (.getfield 197, 3) := by decide +kernel
theorem dX12_rules_44 : decode cX12_rules 44 = .ok (.ifCond .eq 10, 3) := by decide +kernel
theorem dX12_rules_47 : decode cX12_rules 47 = .ok (.aload_n 0, 1) := by decide +kernel
theorem dX12_rules_48 : decode cX12_rules 48 = .ok (.invokevirtual 467, 3) := by decide +kernel
theorem dX12_rules_51 : decode cX12_rules 51 = .ok (.goto (-18), 3) := by decide +kernel
theorem dX12_rules_54 : decode cX12_rules 54 = .ok (.aload_n 0, 1) := by decide +kernel
theorem dX12_rules_55 : decode cX12_rules 55 = .ok (.getfield 210, 3) := by decide +kernel
theorem dX12_rules_58 : decode cX12_rules 58 = .ok (.ifCond .le 5, 3) := by decide +kernel
theorem dX12_rules_61 : decode cX12_rules 61 = .ok (.iconst (-1), 1) := by decide +kernel
theorem dX12_rules_62 : decode cX12_rules 62 = .ok (.ireturn, 1) := by decide +kernel
theorem dX12_rules_63 : decode cX12_rules 63 = .ok (.iconst 0, 1) := by decide +kernel
theorem dX12_rules_64 : decode cX12_rules 64 = .ok (.istore_n 1, 1) := by decide +kernel
theorem dX12_rules_65 : decode cX12_rules 65 = .ok (.iload_n 1, 1) := by decide +kernel
theorem dX12_rules_66 : decode cX12_rules 66 = .ok (.aload_n 0, 1) := by decide +kernel
theorem dX12_rules_67 : decode cX12_rules 67 = .ok (.getfield 422, 3) := by decide +kernel
theorem dX12_rules_70 : decode cX12_rules 70 = .ok (.if_icmp .ge 33, 3) := by decide +kernel
theorem dX12_rules_73 : decode cX12_rules 73 = .ok (.aload_n 0, 1) := by decide +kernel
theorem dX12_rules_74 : decode cX12_rules 74 = .ok (.getfield 142, 3) := by decide +kernel
theorem dX12_rules_77 : decode cX12_rules 77 = .ok (.iload_n 1, 1) := by decide +kernel
theorem dX12_rules_78 : decode cX12_rules 78 = .ok (.aload_n 0, 1) := by decide +kernel
theorem dX12_rules_79 : decode cX12_rules 79 = .ok (.getfield 133, 3) := by decide +kernel
theorem dX12_rules_82 : decode cX12_rules 82 = .ok (.iload_n 1, 1) := by decide +kernel
theorem dX12_rules_83 : decode cX12_rules 83 = .ok (.iaload, 1) := by decide +kernel
theorem dX12_rules_84 : decode cX12_rules 84 = .ok (.iastore, 1) := by decide +kernel
theorem dX12_rules_85 : decode cX12_rules 85 = .ok (.aload_n 0, 1) := by decide +kernel
theorem dX12_rules_86 : decode cX12_rules 86 = .ok (.getfield 145, 3) := by decide +kernel
theorem dX12_rules_89 : decode cX12_rules 89 = .ok (.iload_n 1, 1) := by decide +kernel
theorem dX12_rules_90 : decode cX12_rules 90 = .ok (.aload_n 0, 1) := by decide +kernel
theorem dX12_rules_91 : decode cX12_rules 91 = .ok (.getfield 136, 3) := by decide +kernel
theorem dX12_rules_94 : decode cX12_rules 94 = .ok (.iload_n 1, 1) := by decide +kernel
theorem dX12_rules_95 : decode cX12_rules 95 = .ok (.iaload, 1) := by decide +kernel
theorem dX12_rules_96 : decode cX12_rules 96 = .ok (.iastore, 1) := by decide +kernel
theorem dX12_rules_97 : decode cX12_rules 97 = .ok (.iinc 1 1, 3) := by decide +kernel
theorem dX12_rules_100 : decode cX12_rules 100 = .ok (.goto (-35), 3) := by decide +kernel
theorem dX12_rules_103 : decode cX12_rules 103 = .ok (.iconst 0, 1) := by decide +kernel
theorem dX12_rules_104 : decode cX12_rules 104 = .ok (.istore_n 1, 1) := by decide +kernel
theorem dX12_rules_105 : decode cX12_rules 105 = .ok (.iload_n 1, 1) := by decide +kernel
theorem dX12_rules_106 : decode cX12_rules 106 = .ok (.aload_n 0, 1) := by decide +kernel
theorem dX12_rules_107 : decode cX12_rules 107 = .ok (.getfield 458, 3) := by decide +kernel
theorem dX12_rules_110 : decode cX12_rules 110 = .ok (.if_icmp .ge 49, 3) := by decide +kernel
theorem dX12_rules_113 : decode cX12_rules 113 = .ok (.aload_n 0, 1) := by decide +kernel
theorem dX12_rules_114 : decode cX12_rules 114 = .ok (.getfield 148, 3) := by decide +kernel
theorem dX12_rules_117 : decode cX12_rules 117 = .ok (.iload_n 1, 1) := by decide +kernel
theorem dX12_rules_118 : decode cX12_rules 118 = .ok (.aload_n 0, 1) := by decide +kernel
theorem dX12_rules_119 : decode cX12_rules 119 = .ok (.getfield 139, 3) := by decide +kernel
theorem dX12_rules_122 : decode cX12_rules 122 = .ok (.iload_n 1, 1) := by decide +kernel
theorem dX12_rules_123 : decode cX12_rules 123 = .ok (.iaload, 1) := by decide +kernel
theorem dX12_rules_124 : decode cX12_rules 124 = .ok (.iastore, 1) := by decide +kernel
theorem dX12_rules_125 : decode cX12_rules 125 = .ok (.aload_n 0, 1) := by decide +kernel
theorem dX12_rules_126 : decode cX12_rules 126 = .ok (.getfield 148, 3) := by decide +kernel
theorem dX12_rules_129 : decode cX12_rules 129 = .ok (.iload_n 1, 1) := by decide +kernel
theorem dX12_rules_130 : decode cX12_rules 130 = .ok (.iconst 1, 1) := by decide +kernel
theorem dX12_rules_131 : decode cX12_rules 131 = .ok (.iadd, 1) := by decide +kernel
theorem dX12_rules_132 : decode cX12_rules 132 = .ok (.aload_n 0, 1) := by decide +kernel
theorem dX12_rules_133 : decode cX12_rules 133 = .ok (.getfield 139, 3) := by decide +kernel
theorem dX12_rules_136 : decode cX12_rules 136 = .ok (.iload_n 1, 1) := by decide +kernel
theorem dX12_rules_137 : decode cX12_rules 137 = .ok (.iconst 1, 1) := by decide +kernel
theorem dX12_rules_138 : decode cX12_rules 138 = .ok (.iadd, 1) := by decide +kernel
theorem dX12_rules_139 : decode cX12_rules 139 = .ok (.iaload, 1) := by decide +kernel
theorem dX12_rules_140 : decode cX12_rules 140 = .ok (.iastore, 1) := by decide +kernel
theorem dX12_rules_141 : decode cX12_rules 141 = .ok (.aload_n 0, 1) := by decide +kernel
theorem dX12_rules_142 : decode cX12_rules 142 = .ok (.getfield 160, 3) := by decide +kernel
theorem dX12_rules_145 : decode cX12_rules 145 = .ok (.iload_n 1, 1) := by decide +kernel
theorem dX12_rules_146 : decode cX12_rules 146 = .ok (.aload_n 0, 1) := by decide +kernel
theorem dX12_rules_147 : decode cX12_rules 147 = .ok (.getfield 157, 3) := by decide +kernel
theorem dX12_rules_150 : decode cX12_rules 150 = .ok (.iload_n 1, 1) := by decide +kernel
theorem dX12_rules_151 : decode cX12_rules 151 = .ok (.baload, 1) := by decide +kernel
theorem dX12_rules_152 : decode cX12_rules 152 = .ok (.bastore, 1) := by decide +kernel
theorem dX12_rules_153 : decode cX12_rules 153 = .ok (.iinc 1 1, 3) := by decide +kernel
theorem dX12_rules_156 : decode cX12_rules 156 = .ok (.goto (-51), 3) := by decide +kernel
theorem dX12_rules_159 : decode cX12_rules 159 = .ok (.aload_n 0, 1) := by decide +kernel
theorem dX12_rules_160 : decode cX12_rules 160 = .ok (.aload_n 0, 1) := by decide +kernel
theorem dX12_rules_161 : decode cX12_rules 161 = .ok (.getfield 458, 3) := by decide +kernel
theorem dX12_rules_164 : decode cX12_rules 164 = .ok (.putfield 330, 3) := by decide +kernel
theorem dX12_rules_167 : decode cX12_rules 167 = .ok (.aload_n 0, 1) := by decide +kernel
theorem dX12_rules_168 : decode cX12_rules 168 = .ok (.getfield 330, 3) := by decide +kernel
theorem dX12_rules_171 : decode cX12_rules 171 = .ok (.ireturn, 1) := by decide +kernel
theorem dX12_worked_0 : decode cX12_worked 0 = .ok (.iload_n 0, 1) := by decide +kernel
theorem dX12_worked_1 : decode cX12_worked 1 = .ok (.tableswitch 116 20 27 #[47, 61, 116, 75, 86, 97, 108, 112], 47) := by decide +kernel
theorem dX12_worked_48 : decode cX12_worked 48 = .ok (.iload_n 1, 1) := by decide +kernel
theorem dX12_worked_49 : decode cX12_worked 49 = .ok (.ifCond .ne 7, 3) := by decide +kernel
theorem dX12_worked_52 : decode cX12_worked 52 = .ok (.iload_n 2, 1) := by decide +kernel
theorem dX12_worked_53 : decode cX12_worked 53 = .ok (.ifCond .eq 7, 3) := by decide +kernel
theorem dX12_worked_56 : decode cX12_worked 56 = .ok (.iconst 1, 1) := by decide +kernel
theorem dX12_worked_57 : decode cX12_worked 57 = .ok (.goto 4, 3) := by decide +kernel
theorem dX12_worked_60 : decode cX12_worked 60 = .ok (.iconst 0, 1) := by decide +kernel
theorem dX12_worked_61 : decode cX12_worked 61 = .ok (.ireturn, 1) := by decide +kernel
theorem dX12_worked_62 : decode cX12_worked 62 = .ok (.iload_n 1, 1) := by decide +kernel
theorem dX12_worked_63 : decode cX12_worked 63 = .ok (.ifCond .eq 11, 3) := by decide +kernel
theorem dX12_worked_66 : decode cX12_worked 66 = .ok (.iload_n 2, 1) := by decide +kernel
theorem dX12_worked_67 : decode cX12_worked 67 = .ok (.ifCond .eq 7, 3) := by decide +kernel
theorem dX12_worked_70 : decode cX12_worked 70 = .ok (.iconst 1, 1) := by decide +kernel
theorem dX12_worked_71 : decode cX12_worked 71 = .ok (.goto 4, 3) := by decide +kernel
theorem dX12_worked_74 : decode cX12_worked 74 = .ok (.iconst 0, 1) := by decide +kernel
theorem dX12_worked_75 : decode cX12_worked 75 = .ok (.ireturn, 1) := by decide +kernel
theorem dX12_worked_76 : decode cX12_worked 76 = .ok (.iload_n 1, 1) := by decide +kernel
theorem dX12_worked_77 : decode cX12_worked 77 = .ok (.iload_n 2, 1) := by decide +kernel
theorem dX12_worked_78 : decode cX12_worked 78 = .ok (.if_icmp .ne 7, 3) := by decide +kernel
theorem dX12_worked_81 : decode cX12_worked 81 = .ok (.iconst 1, 1) := by decide +kernel
theorem dX12_worked_82 : decode cX12_worked 82 = .ok (.goto 4, 3) := by decide +kernel
theorem dX12_worked_85 : decode cX12_worked 85 = .ok (.iconst 0, 1) := by decide +kernel
theorem dX12_worked_86 : decode cX12_worked 86 = .ok (.ireturn, 1) := by decide +kernel
theorem dX12_worked_87 : decode cX12_worked 87 = .ok (.iload_n 1, 1) := by decide +kernel
theorem dX12_worked_88 : decode cX12_worked 88 = .ok (.iload_n 2, 1) := by decide +kernel
theorem dX12_worked_89 : decode cX12_worked 89 = .ok (.if_icmp .ge 7, 3) := by decide +kernel
theorem dX12_worked_92 : decode cX12_worked 92 = .ok (.iconst 1, 1) := by decide +kernel
theorem dX12_worked_93 : decode cX12_worked 93 = .ok (.goto 4, 3) := by decide +kernel
theorem dX12_worked_96 : decode cX12_worked 96 = .ok (.iconst 0, 1) := by decide +kernel
theorem dX12_worked_97 : decode cX12_worked 97 = .ok (.ireturn, 1) := by decide +kernel
theorem dX12_worked_98 : decode cX12_worked 98 = .ok (.iload_n 1, 1) := by decide +kernel
theorem dX12_worked_99 : decode cX12_worked 99 = .ok (.iload_n 2, 1) := by decide +kernel
theorem dX12_worked_100 : decode cX12_worked 100 = .ok (.if_icmp .le 7, 3) := by decide +kernel
theorem dX12_worked_103 : decode cX12_worked 103 = .ok (.iconst 1, 1) := by decide +kernel
theorem dX12_worked_104 : decode cX12_worked 104 = .ok (.goto 4, 3) := by decide +kernel
theorem dX12_worked_107 : decode cX12_worked 107 = .ok (.iconst 0, 1) := by decide +kernel
theorem dX12_worked_108 : decode cX12_worked 108 = .ok (.ireturn, 1) := by decide +kernel
theorem dX12_worked_109 : decode cX12_worked 109 = .ok (.iload_n 1, 1) := by decide +kernel
theorem dX12_worked_110 : decode cX12_worked 110 = .ok (.iload_n 2, 1) := by decide +kernel
theorem dX12_worked_111 : decode cX12_worked 111 = .ok (.iadd, 1) := by decide +kernel
theorem dX12_worked_112 : decode cX12_worked 112 = .ok (.ireturn, 1) := by decide +kernel
theorem dX12_worked_113 : decode cX12_worked 113 = .ok (.iload_n 1, 1) := by decide +kernel
theorem dX12_worked_114 : decode cX12_worked 114 = .ok (.iload_n 2, 1) := by decide +kernel
theorem dX12_worked_115 : decode cX12_worked 115 = .ok (.isub, 1) := by decide +kernel
theorem dX12_worked_116 : decode cX12_worked 116 = .ok (.ireturn, 1) := by decide +kernel
theorem dX12_worked_117 : decode cX12_worked 117 = .ok (.iload_n 1, 1) := by decide +kernel
theorem dX12_worked_118 : decode cX12_worked 118 = .ok (.iload_n 2, 1) := by decide +kernel
theorem dX12_worked_119 : decode cX12_worked 119 = .ok (.imul, 1) := by decide +kernel
theorem dX12_worked_120 : decode cX12_worked 120 = .ok (.ireturn, 1) := by decide +kernel
theorem dX12_holds_0 : decode cX12_holds 0 = .ok (.iconst 0, 1) := by decide +kernel
theorem dX12_holds_1 : decode cX12_holds 1 = .ok (.istore_n 3, 1) := by decide +kernel
theorem dX12_holds_2 : decode cX12_holds 2 = .ok (.aload_n 0, 1) := by decide +kernel
theorem dX12_holds_3 : decode cX12_holds 3 = .ok (.getfield 148, 3) := by decide +kernel
theorem dX12_holds_6 : decode cX12_holds 6 = .ok (.iload_n 1, 1) := by decide +kernel
theorem dX12_holds_7 : decode cX12_holds 7 = .ok (.iaload, 1) := by decide +kernel
theorem dX12_holds_8 : decode cX12_holds 8 = .ok (.istore 4, 2) := by decide +kernel
theorem dX12_holds_10 : decode cX12_holds 10 = .ok (.iload 4, 2) := by decide +kernel
theorem dX12_holds_12 : decode cX12_holds 12 = .ok (.aload_n 0, 1) := by decide +kernel
theorem dX12_holds_13 : decode cX12_holds 13 = .ok (.getfield 148, 3) := by decide +kernel
theorem dX12_holds_16 : decode cX12_holds 16 = .ok (.iload_n 1, 1) := by decide +kernel
theorem dX12_holds_17 : decode cX12_holds 17 = .ok (.iconst 1, 1) := by decide +kernel
theorem dX12_holds_18 : decode cX12_holds 18 = .ok (.iadd, 1) := by decide +kernel
theorem dX12_holds_19 : decode cX12_holds 19 = .ok (.iaload, 1) := by decide +kernel
theorem dX12_holds_20 : decode cX12_holds 20 = .ok (.if_icmp .ge 205, 3) := by decide +kernel
theorem dX12_holds_23 : decode cX12_holds 23 = .ok (.aload_n 0, 1) := by decide +kernel
theorem dX12_holds_24 : decode cX12_holds 24 = .ok (.getfield 142, 3) := by decide +kernel
theorem dX12_holds_27 : decode cX12_holds 27 = .ok (.iload 4, 2) := by decide +kernel
theorem dX12_holds_29 : decode cX12_holds 29 = .ok (.iaload, 1) := by decide +kernel
theorem dX12_holds_30 : decode cX12_holds 30 = .ok (.bipush 20, 2) := by decide +kernel
theorem dX12_holds_32 : decode cX12_holds 32 = .ok (.if_icmp .ge 113, 3) := by decide +kernel
theorem dX12_holds_35 : decode cX12_holds 35 = .ok (.aload_n 0, 1) := by decide +kernel
theorem dX12_holds_36 : decode cX12_holds 36 = .ok (.getfield 142, 3) := by decide +kernel
theorem dX12_holds_39 : decode cX12_holds 39 = .ok (.iload 4, 2) := by decide +kernel
theorem dX12_holds_41 : decode cX12_holds 41 = .ok (.iaload, 1) := by decide +kernel
theorem dX12_holds_42 : decode cX12_holds 42 = .ok (.iconst 2, 1) := by decide +kernel
theorem dX12_holds_43 : decode cX12_holds 43 = .ok (.if_icmp .ne 9, 3) := by decide +kernel
theorem dX12_holds_46 : decode cX12_holds 46 = .ok (.iload_n 2, 1) := by decide +kernel
theorem dX12_holds_47 : decode cX12_holds 47 = .ok (.iconst 1, 1) := by decide +kernel
theorem dX12_holds_48 : decode cX12_holds 48 = .ok (.isub, 1) := by decide +kernel
theorem dX12_holds_49 : decode cX12_holds 49 = .ok (.goto 4, 3) := by decide +kernel
theorem dX12_holds_52 : decode cX12_holds 52 = .ok (.iload_n 2, 1) := by decide +kernel
theorem dX12_holds_53 : decode cX12_holds 53 = .ok (.istore 5, 2) := by decide +kernel
theorem dX12_holds_55 : decode cX12_holds 55 = .ok (.aload_n 0, 1) := by decide +kernel
theorem dX12_holds_56 : decode cX12_holds 56 = .ok (.getfield 142, 3) := by decide +kernel
theorem dX12_holds_59 : decode cX12_holds 59 = .ok (.iload 4, 2) := by decide +kernel
theorem dX12_holds_61 : decode cX12_holds 61 = .ok (.iaload, 1) := by decide +kernel
theorem dX12_holds_62 : decode cX12_holds 62 = .ok (.ifCond .ne 13, 3) := by decide +kernel
theorem dX12_holds_65 : decode cX12_holds 65 = .ok (.aload_n 0, 1) := by decide +kernel
theorem dX12_holds_66 : decode cX12_holds 66 = .ok (.getfield 145, 3) := by decide +kernel
theorem dX12_holds_69 : decode cX12_holds 69 = .ok (.iload 4, 2) := by decide +kernel
theorem dX12_holds_71 : decode cX12_holds 71 = .ok (.iaload, 1) := by decide +kernel
theorem dX12_holds_72 : decode cX12_holds 72 = .ok (.goto 47, 3) := by decide +kernel
theorem dX12_holds_75 : decode cX12_holds 75 = .ok (.aload_n 0, 1) := by decide +kernel
theorem dX12_holds_76 : decode cX12_holds 76 = .ok (.getfield 142, 3) := by decide +kernel
theorem dX12_holds_79 : decode cX12_holds 79 = .ok (.iload 4, 2) := by decide +kernel
theorem dX12_holds_81 : decode cX12_holds 81 = .ok (.iaload, 1) := by decide +kernel
theorem dX12_holds_82 : decode cX12_holds 82 = .ok (.iconst 3, 1) := by decide +kernel
theorem dX12_holds_83 : decode cX12_holds 83 = .ok (.if_icmp .ne 7, 3) := by decide +kernel
theorem dX12_holds_86 : decode cX12_holds 86 = .ok (.iload_n 2, 1) := by decide +kernel
theorem dX12_holds_87 : decode cX12_holds 87 = .ok (.goto 32, 3) := by decide +kernel
theorem dX12_holds_90 : decode cX12_holds 90 = .ok (.iload 5, 2) := by decide +kernel
theorem dX12_holds_92 : decode cX12_holds 92 = .ok (.ifCond .ge 9, 3) := by decide +kernel
theorem dX12_holds_95 : decode cX12_holds 95 = .ok (.ldc_w 353, 3) := by decide +kernel
theorem dX12_holds_98 : decode cX12_holds 98 = .ok (.goto 21, 3) := by decide +kernel
theorem dX12_holds_101 : decode cX12_holds 101 = .ok (.aload_n 0, 1) := by decide +kernel
theorem dX12_holds_102 : decode cX12_holds 102 = .ok (.getfield 103, 3) := by decide +kernel
theorem dX12_holds_105 : decode cX12_holds 105 = .ok (.bipush 60, 2) := by decide +kernel
theorem dX12_holds_107 : decode cX12_holds 107 = .ok (.aload_n 0, 1) := by decide +kernel
theorem dX12_holds_108 : decode cX12_holds 108 = .ok (.getfield 145, 3) := by decide +kernel
theorem dX12_holds_111 : decode cX12_holds 111 = .ok (.iload 4, 2) := by decide +kernel
theorem dX12_holds_113 : decode cX12_holds 113 = .ok (.iaload, 1) := by decide +kernel
theorem dX12_holds_114 : decode cX12_holds 114 = .ok (.imul, 1) := by decide +kernel
theorem dX12_holds_115 : decode cX12_holds 115 = .ok (.iload 5, 2) := by decide +kernel
theorem dX12_holds_117 : decode cX12_holds 117 = .ok (.iadd, 1) := by decide +kernel
theorem dX12_holds_118 : decode cX12_holds 118 = .ok (.iaload, 1) := by decide +kernel
theorem dX12_holds_119 : decode cX12_holds 119 = .ok (.istore 6, 2) := by decide +kernel
theorem dX12_holds_121 : decode cX12_holds 121 = .ok (.iload 6, 2) := by decide +kernel
theorem dX12_holds_123 : decode cX12_holds 123 = .ok (.ldc_w 353, 3) := by decide +kernel
theorem dX12_holds_126 : decode cX12_holds 126 = .ok (.if_icmp .ne 5, 3) := by decide +kernel
theorem dX12_holds_129 : decode cX12_holds 129 = .ok (.iconst 0, 1) := by decide +kernel
theorem dX12_holds_130 : decode cX12_holds 130 = .ok (.ireturn, 1) := by decide +kernel
theorem dX12_holds_131 : decode cX12_holds 131 = .ok (.aload_n 0, 1) := by decide +kernel
theorem dX12_holds_132 : decode cX12_holds 132 = .ok (.getfield 154, 3) := by decide +kernel
theorem dX12_holds_135 : decode cX12_holds 135 = .ok (.iload_n 3, 1) := by decide +kernel
theorem dX12_holds_136 : decode cX12_holds 136 = .ok (.iload 6, 2) := by decide +kernel
theorem dX12_holds_138 : decode cX12_holds 138 = .ok (.iastore, 1) := by decide +kernel
theorem dX12_holds_139 : decode cX12_holds 139 = .ok (.iinc 3 1, 3) := by decide +kernel
theorem dX12_holds_142 : decode cX12_holds 142 = .ok (.goto 77, 3) := by decide +kernel
theorem dX12_holds_145 : decode cX12_holds 145 = .ok (.aload_n 0, 1) := by decide +kernel
theorem dX12_holds_146 : decode cX12_holds 146 = .ok (.getfield 142, 3) := by decide +kernel
theorem dX12_holds_149 : decode cX12_holds 149 = .ok (.iload 4, 2) := by decide +kernel
theorem dX12_holds_151 : decode cX12_holds 151 = .ok (.iaload, 1) := by decide +kernel
theorem dX12_holds_152 : decode cX12_holds 152 = .ok (.bipush 22, 2) := by decide +kernel
theorem dX12_holds_154 : decode cX12_holds 154 = .ok (.if_icmp .ne 30, 3) := by decide +kernel
theorem dX12_holds_157 : decode cX12_holds 157 = .ok (.aload_n 0, 1) := by decide +kernel
theorem dX12_holds_158 : decode cX12_holds 158 = .ok (.getfield 154, 3) := by decide +kernel
theorem dX12_holds_161 : decode cX12_holds 161 = .ok (.iload_n 3, 1) := by decide +kernel
theorem dX12_holds_162 : decode cX12_holds 162 = .ok (.iconst 1, 1) := by decide +kernel
theorem dX12_holds_163 : decode cX12_holds 163 = .ok (.isub, 1) := by decide +kernel
theorem dX12_holds_164 : decode cX12_holds 164 = .ok (.aload_n 0, 1) := by decide +kernel
theorem dX12_holds_165 : decode cX12_holds 165 = .ok (.getfield 154, 3) := by decide +kernel
theorem dX12_holds_168 : decode cX12_holds 168 = .ok (.iload_n 3, 1) := by decide +kernel
theorem dX12_holds_169 : decode cX12_holds 169 = .ok (.iconst 1, 1) := by decide +kernel
theorem dX12_holds_170 : decode cX12_holds 170 = .ok (.isub, 1) := by decide +kernel
theorem dX12_holds_171 : decode cX12_holds 171 = .ok (.iaload, 1) := by decide +kernel
theorem dX12_holds_172 : decode cX12_holds 172 = .ok (.ifCond .ne 7, 3) := by decide +kernel
theorem dX12_holds_175 : decode cX12_holds 175 = .ok (.iconst 1, 1) := by decide +kernel
theorem dX12_holds_176 : decode cX12_holds 176 = .ok (.goto 4, 3) := by decide +kernel
theorem dX12_holds_179 : decode cX12_holds 179 = .ok (.iconst 0, 1) := by decide +kernel
theorem dX12_holds_180 : decode cX12_holds 180 = .ok (.iastore, 1) := by decide +kernel
theorem dX12_holds_181 : decode cX12_holds 181 = .ok (.goto 38, 3) := by decide +kernel
theorem dX12_holds_184 : decode cX12_holds 184 = .ok (.iinc 3 (-1), 3) := by decide +kernel
theorem dX12_holds_187 : decode cX12_holds 187 = .ok (.aload_n 0, 1) := by decide +kernel
theorem dX12_holds_188 : decode cX12_holds 188 = .ok (.getfield 154, 3) := by decide +kernel
theorem dX12_holds_191 : decode cX12_holds 191 = .ok (.iload_n 3, 1) := by decide +kernel
theorem dX12_holds_192 : decode cX12_holds 192 = .ok (.iconst 1, 1) := by decide +kernel
theorem dX12_holds_193 : decode cX12_holds 193 = .ok (.isub, 1) := by decide +kernel
theorem dX12_holds_194 : decode cX12_holds 194 = .ok (.aload_n 0, 1) := by decide +kernel
theorem dX12_holds_195 : decode cX12_holds 195 = .ok (.getfield 142, 3) := by decide +kernel
theorem dX12_holds_198 : decode cX12_holds 198 = .ok (.iload 4, 2) := by decide +kernel
theorem dX12_holds_200 : decode cX12_holds 200 = .ok (.iaload, 1) := by decide +kernel
theorem dX12_holds_201 : decode cX12_holds 201 = .ok (.aload_n 0, 1) := by decide +kernel
theorem dX12_holds_202 : decode cX12_holds 202 = .ok (.getfield 154, 3) := by decide +kernel
theorem dX12_holds_205 : decode cX12_holds 205 = .ok (.iload_n 3, 1) := by decide +kernel
theorem dX12_holds_206 : decode cX12_holds 206 = .ok (.iconst 1, 1) := by decide +kernel
theorem dX12_holds_207 : decode cX12_holds 207 = .ok (.isub, 1) := by decide +kernel
theorem dX12_holds_208 : decode cX12_holds 208 = .ok (.iaload, 1) := by decide +kernel
theorem dX12_holds_209 : decode cX12_holds 209 = .ok (.aload_n 0, 1) := by decide +kernel
theorem dX12_holds_210 : decode cX12_holds 210 = .ok (.getfield 154, 3) := by decide +kernel
theorem dX12_holds_213 : decode cX12_holds 213 = .ok (.iload_n 3, 1) := by decide +kernel
theorem dX12_holds_214 : decode cX12_holds 214 = .ok (.iaload, 1) := by decide +kernel
theorem dX12_holds_215 : decode cX12_holds 215 = .ok (.invokestatic 470, 3) := by decide +kernel
theorem dX12_holds_218 : decode cX12_holds 218 = .ok (.iastore, 1) := by decide +kernel
theorem dX12_holds_219 : decode cX12_holds 219 = .ok (.iinc 4 1, 3) := by decide +kernel
theorem dX12_holds_222 : decode cX12_holds 222 = .ok (.goto (-212), 3) := by decide +kernel
theorem dX12_holds_225 : decode cX12_holds 225 = .ok (.aload_n 0, 1) := by decide +kernel
theorem dX12_holds_226 : decode cX12_holds 226 = .ok (.getfield 154, 3) := by decide +kernel
theorem dX12_holds_229 : decode cX12_holds 229 = .ok (.iconst 0, 1) := by decide +kernel
theorem dX12_holds_230 : decode cX12_holds 230 = .ok (.iaload, 1) := by decide +kernel
theorem dX12_holds_231 : decode cX12_holds 231 = .ok (.ifCond .eq 7, 3) := by decide +kernel
theorem dX12_holds_234 : decode cX12_holds 234 = .ok (.iconst 1, 1) := by decide +kernel
theorem dX12_holds_235 : decode cX12_holds 235 = .ok (.goto 4, 3) := by decide +kernel
theorem dX12_holds_238 : decode cX12_holds 238 = .ok (.iconst 0, 1) := by decide +kernel
theorem dX12_holds_239 : decode cX12_holds 239 = .ok (.ireturn, 1) := by decide +kernel
theorem dX12_ruleOn_0 : decode cX12_ruleOn 0 = .ok (.iconst 0, 1) := by decide +kernel
theorem dX12_ruleOn_1 : decode cX12_ruleOn 1 = .ok (.istore_n 2, 1) := by decide +kernel
theorem dX12_ruleOn_2 : decode cX12_ruleOn 2 = .ok (.iload_n 2, 1) := by decide +kernel
theorem dX12_ruleOn_3 : decode cX12_ruleOn 3 = .ok (.aload_n 0, 1) := by decide +kernel
theorem dX12_ruleOn_4 : decode cX12_ruleOn 4 = .ok (.getfield 330, 3) := by decide +kernel
theorem dX12_ruleOn_7 : decode cX12_ruleOn 7 = .ok (.if_icmp .ge 20, 3) := by decide +kernel
theorem dX12_ruleOn_10 : decode cX12_ruleOn 10 = .ok (.aload_n 0, 1) := by decide +kernel
theorem dX12_ruleOn_11 : decode cX12_ruleOn 11 = .ok (.iload_n 2, 1) := by decide +kernel
theorem dX12_ruleOn_12 : decode cX12_ruleOn 12 = .ok (.iload_n 1, 1) := by decide +kernel
theorem dX12_ruleOn_13 : decode cX12_ruleOn 13 = .ok (.invokevirtual 474, 3) := by decide +kernel
theorem dX12_ruleOn_16 : decode cX12_ruleOn 16 = .ok (.ifCond .eq 5, 3) := by decide +kernel
theorem dX12_ruleOn_19 : decode cX12_ruleOn 19 = .ok (.iload_n 2, 1) := by decide +kernel
theorem dX12_ruleOn_20 : decode cX12_ruleOn 20 = .ok (.ireturn, 1) := by decide +kernel
theorem dX12_ruleOn_21 : decode cX12_ruleOn 21 = .ok (.iinc 2 1, 3) := by decide +kernel
theorem dX12_ruleOn_24 : decode cX12_ruleOn 24 = .ok (.goto (-22), 3) := by decide +kernel
theorem dX12_ruleOn_27 : decode cX12_ruleOn 27 = .ok (.iconst (-1), 1) := by decide +kernel
theorem dX12_ruleOn_28 : decode cX12_ruleOn 28 = .ok (.ireturn, 1) := by decide +kernel
theorem dX12_says_0 : decode cX12_says 0 = .ok (.iload_n 1, 1) := by decide +kernel
theorem dX12_says_1 : decode cX12_says 1 = .ok (.invokestatic 333, 3) := by decide +kernel
theorem dX12_says_4 : decode cX12_says 4 = .ok (.ifCond .ne 5, 3) := by decide +kernel
theorem dX12_says_7 : decode cX12_says 7 = .ok (.iconst (-1), 1) := by decide +kernel
theorem dX12_says_8 : decode cX12_says 8 = .ok (.ireturn, 1) := by decide +kernel
theorem dX12_says_9 : decode cX12_says 9 = .ok (.aload_n 0, 1) := by decide +kernel
theorem dX12_says_10 : decode cX12_says 10 = .ok (.iload_n 2, 1) := by decide +kernel
theorem dX12_says_11 : decode cX12_says 11 = .ok (.invokevirtual 354, 3) := by decide +kernel
theorem dX12_says_14 : decode cX12_says 14 = .ok (.aload_n 0, 1) := by decide +kernel
theorem dX12_says_15 : decode cX12_says 15 = .ok (.iload_n 1, 1) := by decide +kernel
theorem dX12_says_16 : decode cX12_says 16 = .ok (.invokevirtual 477, 3) := by decide +kernel
theorem dX12_says_19 : decode cX12_says 19 = .ok (.istore_n 3, 1) := by decide +kernel
theorem dX12_says_20 : decode cX12_says 20 = .ok (.iload_n 3, 1) := by decide +kernel
theorem dX12_says_21 : decode cX12_says 21 = .ok (.ifCond .ge 7, 3) := by decide +kernel
theorem dX12_says_24 : decode cX12_says 24 = .ok (.iconst (-1), 1) := by decide +kernel
theorem dX12_says_25 : decode cX12_says 25 = .ok (.goto 17, 3) := by decide +kernel
theorem dX12_says_28 : decode cX12_says 28 = .ok (.aload_n 0, 1) := by decide +kernel
theorem dX12_says_29 : decode cX12_says 29 = .ok (.getfield 160, 3) := by decide +kernel
theorem dX12_says_32 : decode cX12_says 32 = .ok (.iload_n 3, 1) := by decide +kernel
theorem dX12_says_33 : decode cX12_says 33 = .ok (.baload, 1) := by decide +kernel
theorem dX12_says_34 : decode cX12_says 34 = .ok (.ifCond .eq 7, 3) := by decide +kernel
theorem dX12_says_37 : decode cX12_says 37 = .ok (.iconst 1, 1) := by decide +kernel
theorem dX12_says_38 : decode cX12_says 38 = .ok (.goto 4, 3) := by decide +kernel
theorem dX12_says_41 : decode cX12_says 41 = .ok (.iconst 0, 1) := by decide +kernel
theorem dX12_says_42 : decode cX12_says 42 = .ok (.ireturn, 1) := by decide +kernel
theorem dX12_wetNext_0 : decode cX12_wetNext 0 = .ok (.iload_n 1, 1) := by decide +kernel
theorem dX12_wetNext_1 : decode cX12_wetNext 1 = .ok (.iconst 1, 1) := by decide +kernel
theorem dX12_wetNext_2 : decode cX12_wetNext 2 = .ok (.iadd, 1) := by decide +kernel
theorem dX12_wetNext_3 : decode cX12_wetNext 3 = .ok (.bipush 60, 2) := by decide +kernel
theorem dX12_wetNext_5 : decode cX12_wetNext 5 = .ok (.if_icmp .ge 17, 3) := by decide +kernel
theorem dX12_wetNext_8 : decode cX12_wetNext 8 = .ok (.aload_n 0, 1) := by decide +kernel
theorem dX12_wetNext_9 : decode cX12_wetNext 9 = .ok (.getfield 100, 3) := by decide +kernel
theorem dX12_wetNext_12 : decode cX12_wetNext 12 = .ok (.bipush 120, 2) := by decide +kernel
theorem dX12_wetNext_14 : decode cX12_wetNext 14 = .ok (.iload_n 1, 1) := by decide +kernel
theorem dX12_wetNext_15 : decode cX12_wetNext 15 = .ok (.iadd, 1) := by decide +kernel
theorem dX12_wetNext_16 : decode cX12_wetNext 16 = .ok (.iconst 1, 1) := by decide +kernel
theorem dX12_wetNext_17 : decode cX12_wetNext 17 = .ok (.iadd, 1) := by decide +kernel
theorem dX12_wetNext_18 : decode cX12_wetNext 18 = .ok (.iaload, 1) := by decide +kernel
theorem dX12_wetNext_19 : decode cX12_wetNext 19 = .ok (.goto 6, 3) := by decide +kernel
theorem dX12_wetNext_22 : decode cX12_wetNext 22 = .ok (.ldc_w 353, 3) := by decide +kernel
theorem dX12_wetNext_25 : decode cX12_wetNext 25 = .ok (.istore_n 2, 1) := by decide +kernel
theorem dX12_wetNext_26 : decode cX12_wetNext 26 = .ok (.iload_n 2, 1) := by decide +kernel
theorem dX12_wetNext_27 : decode cX12_wetNext 27 = .ok (.ldc_w 353, 3) := by decide +kernel
theorem dX12_wetNext_30 : decode cX12_wetNext 30 = .ok (.if_icmp .ne 7, 3) := by decide +kernel
theorem dX12_wetNext_33 : decode cX12_wetNext 33 = .ok (.iconst (-1), 1) := by decide +kernel
theorem dX12_wetNext_34 : decode cX12_wetNext 34 = .ok (.goto 12, 3) := by decide +kernel
theorem dX12_wetNext_37 : decode cX12_wetNext 37 = .ok (.iload_n 2, 1) := by decide +kernel
theorem dX12_wetNext_38 : decode cX12_wetNext 38 = .ok (.ifCond .le 7, 3) := by decide +kernel
theorem dX12_wetNext_41 : decode cX12_wetNext 41 = .ok (.iconst 1, 1) := by decide +kernel
theorem dX12_wetNext_42 : decode cX12_wetNext 42 = .ok (.goto 4, 3) := by decide +kernel
theorem dX12_wetNext_45 : decode cX12_wetNext 45 = .ok (.iconst 0, 1) := by decide +kernel
theorem dX12_wetNext_46 : decode cX12_wetNext 46 = .ok (.ireturn, 1) := by decide +kernel
theorem dX12_isTried_0 : decode cX12_isTried 0 = .ok (.aload_n 0, 1) := by decide +kernel
theorem dX12_isTried_1 : decode cX12_isTried 1 = .ok (.getfield 70, 3) := by decide +kernel
theorem dX12_isTried_4 : decode cX12_isTried 4 = .ok (.iload_n 1, 1) := by decide +kernel
theorem dX12_isTried_5 : decode cX12_isTried 5 = .ok (.baload, 1) := by decide +kernel
theorem dX12_isTried_6 : decode cX12_isTried 6 = .ok (.ifCond .ne 23, 3) := by decide +kernel
theorem dX12_isTried_9 : decode cX12_isTried 9 = .ok (.aload_n 0, 1) := by decide +kernel
theorem dX12_isTried_10 : decode cX12_isTried 10 = .ok (.iload_n 1, 1) := by decide +kernel
theorem dX12_isTried_11 : decode cX12_isTried 11 = .ok (.invokevirtual 480, 3) := by decide +kernel
theorem dX12_isTried_14 : decode cX12_isTried 14 = .ok (.ifCond .lt 15, 3) := by decide +kernel
theorem dX12_isTried_17 : decode cX12_isTried 17 = .ok (.aload_n 0, 1) := by decide +kernel
theorem dX12_isTried_18 : decode cX12_isTried 18 = .ok (.iload_n 1, 1) := by decide +kernel
theorem dX12_isTried_19 : decode cX12_isTried 19 = .ok (.invokevirtual 477, 3) := by decide +kernel
theorem dX12_isTried_22 : decode cX12_isTried 22 = .ok (.ifCond .lt 7, 3) := by decide +kernel
theorem dX12_isTried_25 : decode cX12_isTried 25 = .ok (.iconst 1, 1) := by decide +kernel
theorem dX12_isTried_26 : decode cX12_isTried 26 = .ok (.goto 4, 3) := by decide +kernel
theorem dX12_isTried_29 : decode cX12_isTried 29 = .ok (.iconst 0, 1) := by decide +kernel
theorem dX12_isTried_30 : decode cX12_isTried 30 = .ok (.ireturn, 1) := by decide +kernel
theorem dX12_tryAll_0 : decode cX12_tryAll 0 = .ok (.aload_n 0, 1) := by decide +kernel
theorem dX12_tryAll_1 : decode cX12_tryAll 1 = .ok (.iload_n 1, 1) := by decide +kernel
theorem dX12_tryAll_2 : decode cX12_tryAll 2 = .ok (.invokevirtual 354, 3) := by decide +kernel
theorem dX12_tryAll_5 : decode cX12_tryAll 5 = .ok (.aload_n 0, 1) := by decide +kernel
theorem dX12_tryAll_6 : decode cX12_tryAll 6 = .ok (.iconst 0, 1) := by decide +kernel
theorem dX12_tryAll_7 : decode cX12_tryAll 7 = .ok (.putfield 483, 3) := by decide +kernel
theorem dX12_tryAll_10 : decode cX12_tryAll 10 = .ok (.aload_n 0, 1) := by decide +kernel
theorem dX12_tryAll_11 : decode cX12_tryAll 11 = .ok (.iconst 0, 1) := by decide +kernel
theorem dX12_tryAll_12 : decode cX12_tryAll 12 = .ok (.putfield 486, 3) := by decide +kernel
theorem dX12_tryAll_15 : decode cX12_tryAll 15 = .ok (.aload_n 0, 1) := by decide +kernel
theorem dX12_tryAll_16 : decode cX12_tryAll 16 = .ok (.iconst 0, 1) := by decide +kernel
theorem dX12_tryAll_17 : decode cX12_tryAll 17 = .ok (.putfield 489, 3) := by decide +kernel
theorem dX12_tryAll_20 : decode cX12_tryAll 20 = .ok (.aload_n 0, 1) := by decide +kernel
theorem dX12_tryAll_21 : decode cX12_tryAll 21 = .ok (.iconst 0, 1) := by decide +kernel
theorem dX12_tryAll_22 : decode cX12_tryAll 22 = .ok (.putfield 492, 3) := by decide +kernel
theorem dX12_tryAll_25 : decode cX12_tryAll 25 = .ok (.iconst 0, 1) := by decide +kernel
theorem dX12_tryAll_26 : decode cX12_tryAll 26 = .ok (.istore_n 2, 1) := by decide +kernel
theorem dX12_tryAll_27 : decode cX12_tryAll 27 = .ok (.iload_n 2, 1) := by decide +kernel
theorem dX12_tryAll_28 : decode cX12_tryAll 28 = .ok (.bipush 60, 2) := by decide +kernel
theorem dX12_tryAll_30 : decode cX12_tryAll 30 = .ok (.if_icmp .ge 105, 3) := by decide +kernel
theorem dX12_tryAll_33 : decode cX12_tryAll 33 = .ok (.aload_n 0, 1) := by decide +kernel
theorem dX12_tryAll_34 : decode cX12_tryAll 34 = .ok (.iload_n 2, 1) := by decide +kernel
theorem dX12_tryAll_35 : decode cX12_tryAll 35 = .ok (.invokevirtual 495, 3) := by decide +kernel
theorem dX12_tryAll_38 : decode cX12_tryAll 38 = .ok (.ifCond .ne 6, 3) := by decide +kernel
theorem dX12_tryAll_41 : decode cX12_tryAll 41 = .ok (.goto 88, 3) := by decide +kernel
theorem dX12_tryAll_44 : decode cX12_tryAll 44 = .ok (.aload_n 0, 1) := by decide +kernel
theorem dX12_tryAll_45 : decode cX12_tryAll 45 = .ok (.getfield 160, 3) := by decide +kernel
theorem dX12_tryAll_48 : decode cX12_tryAll 48 = .ok (.aload_n 0, 1) := by decide +kernel
theorem dX12_tryAll_49 : decode cX12_tryAll 49 = .ok (.iload_n 2, 1) := by decide +kernel
theorem dX12_tryAll_50 : decode cX12_tryAll 50 = .ok (.invokevirtual 477, 3) := by decide +kernel
theorem dX12_tryAll_53 : decode cX12_tryAll 53 = .ok (.baload, 1) := by decide +kernel
theorem dX12_tryAll_54 : decode cX12_tryAll 54 = .ok (.istore_n 3, 1) := by decide +kernel
theorem dX12_tryAll_55 : decode cX12_tryAll 55 = .ok (.aload_n 0, 1) := by decide +kernel
theorem dX12_tryAll_56 : decode cX12_tryAll 56 = .ok (.dup, 1) := by decide +kernel
theorem dX12_tryAll_57 : decode cX12_tryAll 57 = .ok (.getfield 483, 3) := by decide +kernel
theorem dX12_tryAll_60 : decode cX12_tryAll 60 = .ok (.iconst 1, 1) := by decide +kernel
theorem dX12_tryAll_61 : decode cX12_tryAll 61 = .ok (.iadd, 1) := by decide +kernel
theorem dX12_tryAll_62 : decode cX12_tryAll 62 = .ok (.putfield 483, 3) := by decide +kernel
theorem dX12_tryAll_65 : decode cX12_tryAll 65 = .ok (.aload_n 0, 1) := by decide +kernel
theorem dX12_tryAll_66 : decode cX12_tryAll 66 = .ok (.dup, 1) := by decide +kernel
theorem dX12_tryAll_67 : decode cX12_tryAll 67 = .ok (.getfield 486, 3) := by decide +kernel
theorem dX12_tryAll_70 : decode cX12_tryAll 70 = .ok (.iload_n 3, 1) := by decide +kernel
theorem dX12_tryAll_71 : decode cX12_tryAll 71 = .ok (.aload_n 0, 1) := by decide +kernel
theorem dX12_tryAll_72 : decode cX12_tryAll 72 = .ok (.iload_n 2, 1) := by decide +kernel
theorem dX12_tryAll_73 : decode cX12_tryAll 73 = .ok (.invokevirtual 480, 3) := by decide +kernel
theorem dX12_tryAll_76 : decode cX12_tryAll 76 = .ok (.iconst 1, 1) := by decide +kernel
theorem dX12_tryAll_77 : decode cX12_tryAll 77 = .ok (.if_icmp .ne 7, 3) := by decide +kernel
theorem dX12_tryAll_80 : decode cX12_tryAll 80 = .ok (.iconst 1, 1) := by decide +kernel
theorem dX12_tryAll_81 : decode cX12_tryAll 81 = .ok (.goto 4, 3) := by decide +kernel
theorem dX12_tryAll_84 : decode cX12_tryAll 84 = .ok (.iconst 0, 1) := by decide +kernel
theorem dX12_tryAll_85 : decode cX12_tryAll 85 = .ok (.if_icmp .ne 7, 3) := by decide +kernel
theorem dX12_tryAll_88 : decode cX12_tryAll 88 = .ok (.iconst 1, 1) := by decide +kernel
theorem dX12_tryAll_89 : decode cX12_tryAll 89 = .ok (.goto 4, 3) := by decide +kernel
theorem dX12_tryAll_92 : decode cX12_tryAll 92 = .ok (.iconst 0, 1) := by decide +kernel
theorem dX12_tryAll_93 : decode cX12_tryAll 93 = .ok (.iadd, 1) := by decide +kernel
theorem dX12_tryAll_94 : decode cX12_tryAll 94 = .ok (.putfield 486, 3) := by decide +kernel
theorem dX12_tryAll_97 : decode cX12_tryAll 97 = .ok (.aload_n 0, 1) := by decide +kernel
theorem dX12_tryAll_98 : decode cX12_tryAll 98 = .ok (.dup, 1) := by decide +kernel
theorem dX12_tryAll_99 : decode cX12_tryAll 99 = .ok (.getfield 489, 3) := by decide +kernel
theorem dX12_tryAll_102 : decode cX12_tryAll 102 = .ok (.aload_n 0, 1) := by decide +kernel
theorem dX12_tryAll_103 : decode cX12_tryAll 103 = .ok (.iload_n 2, 1) := by decide +kernel
theorem dX12_tryAll_104 : decode cX12_tryAll 104 = .ok (.invokevirtual 480, 3) := by decide +kernel
theorem dX12_tryAll_107 : decode cX12_tryAll 107 = .ok (.iadd, 1) := by decide +kernel
theorem dX12_tryAll_108 : decode cX12_tryAll 108 = .ok (.putfield 489, 3) := by decide +kernel
theorem dX12_tryAll_111 : decode cX12_tryAll 111 = .ok (.aload_n 0, 1) := by decide +kernel
theorem dX12_tryAll_112 : decode cX12_tryAll 112 = .ok (.dup, 1) := by decide +kernel
theorem dX12_tryAll_113 : decode cX12_tryAll 113 = .ok (.getfield 492, 3) := by decide +kernel
theorem dX12_tryAll_116 : decode cX12_tryAll 116 = .ok (.iload_n 3, 1) := by decide +kernel
theorem dX12_tryAll_117 : decode cX12_tryAll 117 = .ok (.ifCond .eq 7, 3) := by decide +kernel
theorem dX12_tryAll_120 : decode cX12_tryAll 120 = .ok (.iconst 1, 1) := by decide +kernel
theorem dX12_tryAll_121 : decode cX12_tryAll 121 = .ok (.goto 4, 3) := by decide +kernel
theorem dX12_tryAll_124 : decode cX12_tryAll 124 = .ok (.iconst 0, 1) := by decide +kernel
theorem dX12_tryAll_125 : decode cX12_tryAll 125 = .ok (.iadd, 1) := by decide +kernel
theorem dX12_tryAll_126 : decode cX12_tryAll 126 = .ok (.putfield 492, 3) := by decide +kernel
theorem dX12_tryAll_129 : decode cX12_tryAll 129 = .ok (.iinc 2 1, 3) := by decide +kernel
theorem dX12_tryAll_132 : decode cX12_tryAll 132 = .ok (.goto (-105), 3) := by decide +kernel
theorem dX12_tryAll_135 : decode cX12_tryAll 135 = .ok (.return_, 1) := by decide +kernel
theorem dX12_tried_0 : decode cX12_tried 0 = .ok (.iload_n 1, 1) := by decide +kernel
theorem dX12_tried_1 : decode cX12_tried 1 = .ok (.ifCond .lt 8, 3) := by decide +kernel
theorem dX12_tried_4 : decode cX12_tried 4 = .ok (.iload_n 1, 1) := by decide +kernel
theorem dX12_tried_5 : decode cX12_tried 5 = .ok (.iconst 2, 1) := by decide +kernel
theorem dX12_tried_6 : decode cX12_tried 6 = .ok (.if_icmp .le 7, 3) := by decide +kernel
theorem dX12_tried_9 : decode cX12_tried 9 = .ok (.ldc_w 353, 3) := by decide +kernel
theorem dX12_tried_12 : decode cX12_tried 12 = .ok (.ireturn, 1) := by decide +kernel
theorem dX12_tried_13 : decode cX12_tried 13 = .ok (.aload_n 0, 1) := by decide +kernel
theorem dX12_tried_14 : decode cX12_tried 14 = .ok (.iload_n 2, 1) := by decide +kernel
theorem dX12_tried_15 : decode cX12_tried 15 = .ok (.invokevirtual 498, 3) := by decide +kernel
theorem dX12_tried_18 : decode cX12_tried 18 = .ok (.aload_n 0, 1) := by decide +kernel
theorem dX12_tried_19 : decode cX12_tried 19 = .ok (.getfield 483, 3) := by decide +kernel
theorem dX12_tried_22 : decode cX12_tried 22 = .ok (.aload_n 0, 1) := by decide +kernel
theorem dX12_tried_23 : decode cX12_tried 23 = .ok (.getfield 489, 3) := by decide +kernel
theorem dX12_tried_26 : decode cX12_tried 26 = .ok (.isub, 1) := by decide +kernel
theorem dX12_tried_27 : decode cX12_tried 27 = .ok (.istore_n 3, 1) := by decide +kernel
theorem dX12_tried_28 : decode cX12_tried 28 = .ok (.iload_n 1, 1) := by decide +kernel
theorem dX12_tried_29 : decode cX12_tried 29 = .ok (.ifCond .ne 10, 3) := by decide +kernel
theorem dX12_tried_32 : decode cX12_tried 32 = .ok (.aload_n 0, 1) := by decide +kernel
theorem dX12_tried_33 : decode cX12_tried 33 = .ok (.getfield 483, 3) := by decide +kernel
theorem dX12_tried_36 : decode cX12_tried 36 = .ok (.goto 36, 3) := by decide +kernel
theorem dX12_tried_39 : decode cX12_tried 39 = .ok (.iload_n 1, 1) := by decide +kernel
theorem dX12_tried_40 : decode cX12_tried 40 = .ok (.iconst 1, 1) := by decide +kernel
theorem dX12_tried_41 : decode cX12_tried 41 = .ok (.if_icmp .ne 10, 3) := by decide +kernel
theorem dX12_tried_44 : decode cX12_tried 44 = .ok (.aload_n 0, 1) := by decide +kernel
theorem dX12_tried_45 : decode cX12_tried 45 = .ok (.getfield 486, 3) := by decide +kernel
theorem dX12_tried_48 : decode cX12_tried 48 = .ok (.goto 24, 3) := by decide +kernel
theorem dX12_tried_51 : decode cX12_tried 51 = .ok (.aload_n 0, 1) := by decide +kernel
theorem dX12_tried_52 : decode cX12_tried 52 = .ok (.getfield 486, 3) := by decide +kernel
theorem dX12_tried_55 : decode cX12_tried 55 = .ok (.aload_n 0, 1) := by decide +kernel
theorem dX12_tried_56 : decode cX12_tried 56 = .ok (.getfield 489, 3) := by decide +kernel
theorem dX12_tried_59 : decode cX12_tried 59 = .ok (.iload_n 3, 1) := by decide +kernel
theorem dX12_tried_60 : decode cX12_tried 60 = .ok (.if_icmp .le 10, 3) := by decide +kernel
theorem dX12_tried_63 : decode cX12_tried 63 = .ok (.aload_n 0, 1) := by decide +kernel
theorem dX12_tried_64 : decode cX12_tried 64 = .ok (.getfield 489, 3) := by decide +kernel
theorem dX12_tried_67 : decode cX12_tried 67 = .ok (.goto 4, 3) := by decide +kernel
theorem dX12_tried_70 : decode cX12_tried 70 = .ok (.iload_n 3, 1) := by decide +kernel
theorem dX12_tried_71 : decode cX12_tried 71 = .ok (.isub, 1) := by decide +kernel
theorem dX12_tried_72 : decode cX12_tried 72 = .ok (.ireturn, 1) := by decide +kernel
theorem dX12_layChoices_0 : decode cX12_layChoices 0 = .ok (.iconst 0, 1) := by decide +kernel
theorem dX12_layChoices_1 : decode cX12_layChoices 1 = .ok (.istore_n 1, 1) := by decide +kernel
theorem dX12_layChoices_2 : decode cX12_layChoices 2 = .ok (.iload_n 1, 1) := by decide +kernel
theorem dX12_layChoices_3 : decode cX12_layChoices 3 = .ok (.bipush 60, 2) := by decide +kernel
theorem dX12_layChoices_5 : decode cX12_layChoices 5 = .ok (.if_icmp .ge 79, 3) := by decide +kernel
theorem dX12_layChoices_8 : decode cX12_layChoices 8 = .ok (.iconst 0, 1) := by decide +kernel
theorem dX12_layChoices_9 : decode cX12_layChoices 9 = .ok (.istore_n 2, 1) := by decide +kernel
theorem dX12_layChoices_10 : decode cX12_layChoices 10 = .ok (.iload_n 2, 1) := by decide +kernel
theorem dX12_layChoices_11 : decode cX12_layChoices 11 = .ok (.bipush 60, 2) := by decide +kernel
theorem dX12_layChoices_13 : decode cX12_layChoices 13 = .ok (.if_icmp .ge 65, 3) := by decide +kernel
theorem dX12_layChoices_16 : decode cX12_layChoices 16 = .ok (.aload_n 0, 1) := by decide +kernel
theorem dX12_layChoices_17 : decode cX12_layChoices 17 = .ok (.getfield 163, 3) := by decide +kernel
theorem dX12_layChoices_20 : decode cX12_layChoices 20 = .ok (.bipush 60, 2) := by decide +kernel
theorem dX12_layChoices_22 : decode cX12_layChoices 22 = .ok (.iload_n 1, 1) := by decide +kernel
theorem dX12_layChoices_23 : decode cX12_layChoices 23 = .ok (.imul, 1) := by decide +kernel
theorem dX12_layChoices_24 : decode cX12_layChoices 24 = .ok (.iload_n 2, 1) := by decide +kernel
theorem dX12_layChoices_25 : decode cX12_layChoices 25 = .ok (.iadd, 1) := by decide +kernel
theorem dX12_layChoices_26 : decode cX12_layChoices 26 = .ok (.iload_n 2, 1) := by decide +kernel
theorem dX12_layChoices_27 : decode cX12_layChoices 27 = .ok (.ifCond .ne 7, 3) := by decide +kernel
theorem dX12_layChoices_30 : decode cX12_layChoices 30 = .ok (.lconst 1, 1) := by decide +kernel
theorem dX12_layChoices_31 : decode cX12_layChoices 31 = .ok (.goto 40, 3) := by decide +kernel
theorem dX12_layChoices_34 : decode cX12_layChoices 34 = .ok (.iload_n 1, 1) := by decide +kernel
theorem dX12_layChoices_35 : decode cX12_layChoices 35 = .ok (.ifCond .ne 7, 3) := by decide +kernel
theorem dX12_layChoices_38 : decode cX12_layChoices 38 = .ok (.lconst 0, 1) := by decide +kernel
theorem dX12_layChoices_39 : decode cX12_layChoices 39 = .ok (.goto 32, 3) := by decide +kernel
theorem dX12_layChoices_42 : decode cX12_layChoices 42 = .ok (.aload_n 0, 1) := by decide +kernel
theorem dX12_layChoices_43 : decode cX12_layChoices 43 = .ok (.getfield 163, 3) := by decide +kernel
theorem dX12_layChoices_46 : decode cX12_layChoices 46 = .ok (.bipush 60, 2) := by decide +kernel
theorem dX12_layChoices_48 : decode cX12_layChoices 48 = .ok (.iload_n 1, 1) := by decide +kernel
theorem dX12_layChoices_49 : decode cX12_layChoices 49 = .ok (.iconst 1, 1) := by decide +kernel
theorem dX12_layChoices_50 : decode cX12_layChoices 50 = .ok (.isub, 1) := by decide +kernel
theorem dX12_layChoices_51 : decode cX12_layChoices 51 = .ok (.imul, 1) := by decide +kernel
theorem dX12_layChoices_52 : decode cX12_layChoices 52 = .ok (.iload_n 2, 1) := by decide +kernel
theorem dX12_layChoices_53 : decode cX12_layChoices 53 = .ok (.iadd, 1) := by decide +kernel
theorem dX12_layChoices_54 : decode cX12_layChoices 54 = .ok (.iconst 1, 1) := by decide +kernel
theorem dX12_layChoices_55 : decode cX12_layChoices 55 = .ok (.isub, 1) := by decide +kernel
theorem dX12_layChoices_56 : decode cX12_layChoices 56 = .ok (.laload, 1) := by decide +kernel
theorem dX12_layChoices_57 : decode cX12_layChoices 57 = .ok (.aload_n 0, 1) := by decide +kernel
theorem dX12_layChoices_58 : decode cX12_layChoices 58 = .ok (.getfield 163, 3) := by decide +kernel
theorem dX12_layChoices_61 : decode cX12_layChoices 61 = .ok (.bipush 60, 2) := by decide +kernel
theorem dX12_layChoices_63 : decode cX12_layChoices 63 = .ok (.iload_n 1, 1) := by decide +kernel
theorem dX12_layChoices_64 : decode cX12_layChoices 64 = .ok (.iconst 1, 1) := by decide +kernel
theorem dX12_layChoices_65 : decode cX12_layChoices 65 = .ok (.isub, 1) := by decide +kernel
theorem dX12_layChoices_66 : decode cX12_layChoices 66 = .ok (.imul, 1) := by decide +kernel
theorem dX12_layChoices_67 : decode cX12_layChoices 67 = .ok (.iload_n 2, 1) := by decide +kernel
theorem dX12_layChoices_68 : decode cX12_layChoices 68 = .ok (.iadd, 1) := by decide +kernel
theorem dX12_layChoices_69 : decode cX12_layChoices 69 = .ok (.laload, 1) := by decide +kernel
theorem dX12_layChoices_70 : decode cX12_layChoices 70 = .ok (.ladd, 1) := by decide +kernel
theorem dX12_layChoices_71 : decode cX12_layChoices 71 = .ok (.lastore, 1) := by decide +kernel
theorem dX12_layChoices_72 : decode cX12_layChoices 72 = .ok (.iinc 2 1, 3) := by decide +kernel
theorem dX12_layChoices_75 : decode cX12_layChoices 75 = .ok (.goto (-65), 3) := by decide +kernel
theorem dX12_layChoices_78 : decode cX12_layChoices 78 = .ok (.iinc 1 1, 3) := by decide +kernel
theorem dX12_layChoices_81 : decode cX12_layChoices 81 = .ok (.goto (-79), 3) := by decide +kernel
theorem dX12_layChoices_84 : decode cX12_layChoices 84 = .ok (.return_, 1) := by decide +kernel
theorem dX12_common_0 : decode cX12_common 0 = .ok (.lload_n 0, 1) := by decide +kernel
theorem dX12_common_1 : decode cX12_common 1 = .ok (.lstore 4, 2) := by decide +kernel
theorem dX12_common_3 : decode cX12_common 3 = .ok (.lload_n 2, 1) := by decide +kernel
theorem dX12_common_4 : decode cX12_common 4 = .ok (.lstore 6, 2) := by decide +kernel
theorem dX12_common_6 : decode cX12_common 6 = .ok (.lload 6, 2) := by decide +kernel
theorem dX12_common_8 : decode cX12_common 8 = .ok (.lconst 0, 1) := by decide +kernel
theorem dX12_common_9 : decode cX12_common 9 = .ok (.lcmp, 1) := by decide +kernel
theorem dX12_common_10 : decode cX12_common 10 = .ok (.ifCond .le 21, 3) := by decide +kernel
theorem dX12_common_13 : decode cX12_common 13 = .ok (.lload 4, 2) := by decide +kernel
theorem dX12_common_15 : decode cX12_common 15 = .ok (.lload 6, 2) := by decide +kernel
theorem dX12_common_17 : decode cX12_common 17 = .ok (.lrem, 1) := by decide +kernel
theorem dX12_common_18 : decode cX12_common 18 = .ok (.lstore 8, 2) := by decide +kernel
theorem dX12_common_20 : decode cX12_common 20 = .ok (.lload 6, 2) := by decide +kernel
theorem dX12_common_22 : decode cX12_common 22 = .ok (.lstore 4, 2) := by decide +kernel
theorem dX12_common_24 : decode cX12_common 24 = .ok (.lload 8, 2) := by decide +kernel
theorem dX12_common_26 : decode cX12_common 26 = .ok (.lstore 6, 2) := by decide +kernel
theorem dX12_common_28 : decode cX12_common 28 = .ok (.goto (-22), 3) := by decide +kernel
theorem dX12_common_31 : decode cX12_common 31 = .ok (.lload 4, 2) := by decide +kernel
theorem dX12_common_33 : decode cX12_common 33 = .ok (.lreturn, 1) := by decide +kernel
theorem dX12_luck_0 : decode cX12_luck 0 = .ok (.iload_n 1, 1) := by decide +kernel
theorem dX12_luck_1 : decode cX12_luck 1 = .ok (.ifCond .lt 8, 3) := by decide +kernel
theorem dX12_luck_4 : decode cX12_luck 4 = .ok (.iload_n 1, 1) := by decide +kernel
theorem dX12_luck_5 : decode cX12_luck 5 = .ok (.iconst 1, 1) := by decide +kernel
theorem dX12_luck_6 : decode cX12_luck 6 = .ok (.if_icmp .le 7, 3) := by decide +kernel
theorem dX12_luck_9 : decode cX12_luck 9 = .ok (.ldc2_w 501, 3) := by decide +kernel
theorem dX12_luck_12 : decode cX12_luck 12 = .ok (.lreturn, 1) := by decide +kernel
theorem dX12_luck_13 : decode cX12_luck 13 = .ok (.aload_n 0, 1) := by decide +kernel
theorem dX12_luck_14 : decode cX12_luck 14 = .ok (.iload_n 2, 1) := by decide +kernel
theorem dX12_luck_15 : decode cX12_luck 15 = .ok (.invokevirtual 498, 3) := by decide +kernel
theorem dX12_luck_18 : decode cX12_luck 18 = .ok (.aload_n 0, 1) := by decide +kernel
theorem dX12_luck_19 : decode cX12_luck 19 = .ok (.getfield 483, 3) := by decide +kernel
theorem dX12_luck_22 : decode cX12_luck 22 = .ok (.ifCond .ne 7, 3) := by decide +kernel
theorem dX12_luck_25 : decode cX12_luck 25 = .ok (.ldc2_w 501, 3) := by decide +kernel
theorem dX12_luck_28 : decode cX12_luck 28 = .ok (.lreturn, 1) := by decide +kernel
theorem dX12_luck_29 : decode cX12_luck 29 = .ok (.aload_n 0, 1) := by decide +kernel
theorem dX12_luck_30 : decode cX12_luck 30 = .ok (.invokevirtual 503, 3) := by decide +kernel
theorem dX12_luck_33 : decode cX12_luck 33 = .ok (.lconst 0, 1) := by decide +kernel
theorem dX12_luck_34 : decode cX12_luck 34 = .ok (.lstore_n 3, 1) := by decide +kernel
theorem dX12_luck_35 : decode cX12_luck 35 = .ok (.iconst 0, 1) := by decide +kernel
theorem dX12_luck_36 : decode cX12_luck 36 = .ok (.istore 5, 2) := by decide +kernel
theorem dX12_luck_38 : decode cX12_luck 38 = .ok (.iload 5, 2) := by decide +kernel
theorem dX12_luck_40 : decode cX12_luck 40 = .ok (.aload_n 0, 1) := by decide +kernel
theorem dX12_luck_41 : decode cX12_luck 41 = .ok (.getfield 492, 3) := by decide +kernel
theorem dX12_luck_44 : decode cX12_luck 44 = .ok (.if_icmp .gt 109, 3) := by decide +kernel
theorem dX12_luck_47 : decode cX12_luck 47 = .ok (.iload 5, 2) := by decide +kernel
theorem dX12_luck_49 : decode cX12_luck 49 = .ok (.aload_n 0, 1) := by decide +kernel
theorem dX12_luck_50 : decode cX12_luck 50 = .ok (.getfield 489, 3) := by decide +kernel
theorem dX12_luck_53 : decode cX12_luck 53 = .ok (.if_icmp .gt 100, 3) := by decide +kernel
theorem dX12_luck_56 : decode cX12_luck 56 = .ok (.aload_n 0, 1) := by decide +kernel
theorem dX12_luck_57 : decode cX12_luck 57 = .ok (.getfield 489, 3) := by decide +kernel
theorem dX12_luck_60 : decode cX12_luck 60 = .ok (.iload 5, 2) := by decide +kernel
theorem dX12_luck_62 : decode cX12_luck 62 = .ok (.isub, 1) := by decide +kernel
theorem dX12_luck_63 : decode cX12_luck 63 = .ok (.istore 6, 2) := by decide +kernel
theorem dX12_luck_65 : decode cX12_luck 65 = .ok (.iload 6, 2) := by decide +kernel
theorem dX12_luck_67 : decode cX12_luck 67 = .ok (.aload_n 0, 1) := by decide +kernel
theorem dX12_luck_68 : decode cX12_luck 68 = .ok (.getfield 483, 3) := by decide +kernel
theorem dX12_luck_71 : decode cX12_luck 71 = .ok (.aload_n 0, 1) := by decide +kernel
theorem dX12_luck_72 : decode cX12_luck 72 = .ok (.getfield 492, 3) := by decide +kernel
theorem dX12_luck_75 : decode cX12_luck 75 = .ok (.isub, 1) := by decide +kernel
theorem dX12_luck_76 : decode cX12_luck 76 = .ok (.if_icmp .gt 71, 3) := by decide +kernel
theorem dX12_luck_79 : decode cX12_luck 79 = .ok (.iconst 2, 1) := by decide +kernel
theorem dX12_luck_80 : decode cX12_luck 80 = .ok (.iload 5, 2) := by decide +kernel
theorem dX12_luck_82 : decode cX12_luck 82 = .ok (.imul, 1) := by decide +kernel
theorem dX12_luck_83 : decode cX12_luck 83 = .ok (.aload_n 0, 1) := by decide +kernel
theorem dX12_luck_84 : decode cX12_luck 84 = .ok (.getfield 483, 3) := by decide +kernel
theorem dX12_luck_87 : decode cX12_luck 87 = .ok (.iadd, 1) := by decide +kernel
theorem dX12_luck_88 : decode cX12_luck 88 = .ok (.aload_n 0, 1) := by decide +kernel
theorem dX12_luck_89 : decode cX12_luck 89 = .ok (.getfield 492, 3) := by decide +kernel
theorem dX12_luck_92 : decode cX12_luck 92 = .ok (.isub, 1) := by decide +kernel
theorem dX12_luck_93 : decode cX12_luck 93 = .ok (.aload_n 0, 1) := by decide +kernel
theorem dX12_luck_94 : decode cX12_luck 94 = .ok (.getfield 489, 3) := by decide +kernel
theorem dX12_luck_97 : decode cX12_luck 97 = .ok (.isub, 1) := by decide +kernel
theorem dX12_luck_98 : decode cX12_luck 98 = .ok (.aload_n 0, 1) := by decide +kernel
theorem dX12_luck_99 : decode cX12_luck 99 = .ok (.getfield 486, 3) := by decide +kernel
theorem dX12_luck_102 : decode cX12_luck 102 = .ok (.if_icmp .ge 6, 3) := by decide +kernel
theorem dX12_luck_105 : decode cX12_luck 105 = .ok (.goto 42, 3) := by decide +kernel
theorem dX12_luck_108 : decode cX12_luck 108 = .ok (.lload_n 3, 1) := by decide +kernel
theorem dX12_luck_109 : decode cX12_luck 109 = .ok (.aload_n 0, 1) := by decide +kernel
theorem dX12_luck_110 : decode cX12_luck 110 = .ok (.getfield 163, 3) := by decide +kernel
theorem dX12_luck_113 : decode cX12_luck 113 = .ok (.bipush 60, 2) := by decide +kernel
theorem dX12_luck_115 : decode cX12_luck 115 = .ok (.aload_n 0, 1) := by decide +kernel
theorem dX12_luck_116 : decode cX12_luck 116 = .ok (.getfield 492, 3) := by decide +kernel
theorem dX12_luck_119 : decode cX12_luck 119 = .ok (.imul, 1) := by decide +kernel
theorem dX12_luck_120 : decode cX12_luck 120 = .ok (.iload 5, 2) := by decide +kernel
theorem dX12_luck_122 : decode cX12_luck 122 = .ok (.iadd, 1) := by decide +kernel
theorem dX12_luck_123 : decode cX12_luck 123 = .ok (.laload, 1) := by decide +kernel
theorem dX12_luck_124 : decode cX12_luck 124 = .ok (.aload_n 0, 1) := by decide +kernel
theorem dX12_luck_125 : decode cX12_luck 125 = .ok (.getfield 163, 3) := by decide +kernel
theorem dX12_luck_128 : decode cX12_luck 128 = .ok (.bipush 60, 2) := by decide +kernel
theorem dX12_luck_130 : decode cX12_luck 130 = .ok (.aload_n 0, 1) := by decide +kernel
theorem dX12_luck_131 : decode cX12_luck 131 = .ok (.getfield 483, 3) := by decide +kernel
theorem dX12_luck_134 : decode cX12_luck 134 = .ok (.aload_n 0, 1) := by decide +kernel
theorem dX12_luck_135 : decode cX12_luck 135 = .ok (.getfield 492, 3) := by decide +kernel
theorem dX12_luck_138 : decode cX12_luck 138 = .ok (.isub, 1) := by decide +kernel
theorem dX12_luck_139 : decode cX12_luck 139 = .ok (.imul, 1) := by decide +kernel
theorem dX12_luck_140 : decode cX12_luck 140 = .ok (.iload 6, 2) := by decide +kernel
theorem dX12_luck_142 : decode cX12_luck 142 = .ok (.iadd, 1) := by decide +kernel
theorem dX12_luck_143 : decode cX12_luck 143 = .ok (.laload, 1) := by decide +kernel
theorem dX12_luck_144 : decode cX12_luck 144 = .ok (.lmul, 1) := by decide +kernel
theorem dX12_luck_145 : decode cX12_luck 145 = .ok (.ladd, 1) := by decide +kernel
theorem dX12_luck_146 : decode cX12_luck 146 = .ok (.lstore_n 3, 1) := by decide +kernel
theorem dX12_luck_147 : decode cX12_luck 147 = .ok (.iinc 5 1, 3) := by decide +kernel
theorem dX12_luck_150 : decode cX12_luck 150 = .ok (.goto (-112), 3) := by decide +kernel
theorem dX12_luck_153 : decode cX12_luck 153 = .ok (.aload_n 0, 1) := by decide +kernel
theorem dX12_luck_154 : decode cX12_luck 154 = .ok (.getfield 163, 3) := by decide +kernel
theorem dX12_luck_157 : decode cX12_luck 157 = .ok (.bipush 60, 2) := by decide +kernel
theorem dX12_luck_159 : decode cX12_luck 159 = .ok (.aload_n 0, 1) := by decide +kernel
theorem dX12_luck_160 : decode cX12_luck 160 = .ok (.getfield 483, 3) := by decide +kernel
theorem dX12_luck_163 : decode cX12_luck 163 = .ok (.imul, 1) := by decide +kernel
theorem dX12_luck_164 : decode cX12_luck 164 = .ok (.aload_n 0, 1) := by decide +kernel
theorem dX12_luck_165 : decode cX12_luck 165 = .ok (.getfield 489, 3) := by decide +kernel
theorem dX12_luck_168 : decode cX12_luck 168 = .ok (.iadd, 1) := by decide +kernel
theorem dX12_luck_169 : decode cX12_luck 169 = .ok (.laload, 1) := by decide +kernel
theorem dX12_luck_170 : decode cX12_luck 170 = .ok (.lstore 5, 2) := by decide +kernel
theorem dX12_luck_172 : decode cX12_luck 172 = .ok (.lload 5, 2) := by decide +kernel
theorem dX12_luck_174 : decode cX12_luck 174 = .ok (.lload_n 3, 1) := by decide +kernel
theorem dX12_luck_175 : decode cX12_luck 175 = .ok (.invokestatic 506, 3) := by decide +kernel
theorem dX12_luck_178 : decode cX12_luck 178 = .ok (.lstore 7, 2) := by decide +kernel
theorem dX12_luck_180 : decode cX12_luck 180 = .ok (.iload_n 1, 1) := by decide +kernel
theorem dX12_luck_181 : decode cX12_luck 181 = .ok (.ifCond .ne 10, 3) := by decide +kernel
theorem dX12_luck_184 : decode cX12_luck 184 = .ok (.lload_n 3, 1) := by decide +kernel
theorem dX12_luck_185 : decode cX12_luck 185 = .ok (.lload 7, 2) := by decide +kernel
theorem dX12_luck_187 : decode cX12_luck 187 = .ok (.ldiv, 1) := by decide +kernel
theorem dX12_luck_188 : decode cX12_luck 188 = .ok (.goto 8, 3) := by decide +kernel
theorem dX12_luck_191 : decode cX12_luck 191 = .ok (.lload 5, 2) := by decide +kernel
theorem dX12_luck_193 : decode cX12_luck 193 = .ok (.lload 7, 2) := by decide +kernel
theorem dX12_luck_195 : decode cX12_luck 195 = .ok (.ldiv, 1) := by decide +kernel
theorem dX12_luck_196 : decode cX12_luck 196 = .ok (.lreturn, 1) := by decide +kernel
theorem dX12_countRight_0 : decode cX12_countRight 0 = .ok (.iconst 0, 1) := by decide +kernel
theorem dX12_countRight_1 : decode cX12_countRight 1 = .ok (.istore 5, 2) := by decide +kernel
theorem dX12_countRight_3 : decode cX12_countRight 3 = .ok (.iconst 0, 1) := by decide +kernel
theorem dX12_countRight_4 : decode cX12_countRight 4 = .ok (.istore 6, 2) := by decide +kernel
theorem dX12_countRight_6 : decode cX12_countRight 6 = .ok (.iload 6, 2) := by decide +kernel
theorem dX12_countRight_8 : decode cX12_countRight 8 = .ok (.bipush 60, 2) := by decide +kernel
theorem dX12_countRight_10 : decode cX12_countRight 10 = .ok (.if_icmp .ge 116, 3) := by decide +kernel
theorem dX12_countRight_13 : decode cX12_countRight 13 = .ok (.aload_n 0, 1) := by decide +kernel
theorem dX12_countRight_14 : decode cX12_countRight 14 = .ok (.getfield 103, 3) := by decide +kernel
theorem dX12_countRight_17 : decode cX12_countRight 17 = .ok (.bipush 60, 2) := by decide +kernel
theorem dX12_countRight_19 : decode cX12_countRight 19 = .ok (.iload_n 1, 1) := by decide +kernel
theorem dX12_countRight_20 : decode cX12_countRight 20 = .ok (.imul, 1) := by decide +kernel
theorem dX12_countRight_21 : decode cX12_countRight 21 = .ok (.iload 6, 2) := by decide +kernel
theorem dX12_countRight_23 : decode cX12_countRight 23 = .ok (.iadd, 1) := by decide +kernel
theorem dX12_countRight_24 : decode cX12_countRight 24 = .ok (.iaload, 1) := by decide +kernel
theorem dX12_countRight_25 : decode cX12_countRight 25 = .ok (.istore 7, 2) := by decide +kernel
theorem dX12_countRight_27 : decode cX12_countRight 27 = .ok (.aload_n 0, 1) := by decide +kernel
theorem dX12_countRight_28 : decode cX12_countRight 28 = .ok (.getfield 70, 3) := by decide +kernel
theorem dX12_countRight_31 : decode cX12_countRight 31 = .ok (.iload 6, 2) := by decide +kernel
theorem dX12_countRight_33 : decode cX12_countRight 33 = .ok (.baload, 1) := by decide +kernel
theorem dX12_countRight_34 : decode cX12_countRight 34 = .ok (.iload 4, 2) := by decide +kernel
theorem dX12_countRight_36 : decode cX12_countRight 36 = .ok (.if_icmp .ne 84, 3) := by decide +kernel
theorem dX12_countRight_39 : decode cX12_countRight 39 = .ok (.iload 7, 2) := by decide +kernel
theorem dX12_countRight_41 : decode cX12_countRight 41 = .ok (.ldc_w 353, 3) := by decide +kernel
theorem dX12_countRight_44 : decode cX12_countRight 44 = .ok (.if_icmp .eq 76, 3) := by decide +kernel
theorem dX12_countRight_47 : decode cX12_countRight 47 = .ok (.aload_n 0, 1) := by decide +kernel
theorem dX12_countRight_48 : decode cX12_countRight 48 = .ok (.iload 6, 2) := by decide +kernel
theorem dX12_countRight_50 : decode cX12_countRight 50 = .ok (.invokevirtual 480, 3) := by decide +kernel
theorem dX12_countRight_53 : decode cX12_countRight 53 = .ok (.ifCond .ge 6, 3) := by decide +kernel
theorem dX12_countRight_56 : decode cX12_countRight 56 = .ok (.goto 64, 3) := by decide +kernel
theorem dX12_countRight_59 : decode cX12_countRight 59 = .ok (.iload_n 3, 1) := by decide +kernel
theorem dX12_countRight_60 : decode cX12_countRight 60 = .ok (.ifCond .ne 17, 3) := by decide +kernel
theorem dX12_countRight_63 : decode cX12_countRight 63 = .ok (.iload 7, 2) := by decide +kernel
theorem dX12_countRight_65 : decode cX12_countRight 65 = .ok (.iload_n 2, 1) := by decide +kernel
theorem dX12_countRight_66 : decode cX12_countRight 66 = .ok (.if_icmp .le 7, 3) := by decide +kernel
theorem dX12_countRight_69 : decode cX12_countRight 69 = .ok (.iconst 1, 1) := by decide +kernel
theorem dX12_countRight_70 : decode cX12_countRight 70 = .ok (.goto 18, 3) := by decide +kernel
theorem dX12_countRight_73 : decode cX12_countRight 73 = .ok (.iconst 0, 1) := by decide +kernel
theorem dX12_countRight_74 : decode cX12_countRight 74 = .ok (.goto 14, 3) := by decide +kernel
theorem dX12_countRight_77 : decode cX12_countRight 77 = .ok (.iload 7, 2) := by decide +kernel
theorem dX12_countRight_79 : decode cX12_countRight 79 = .ok (.iload_n 2, 1) := by decide +kernel
theorem dX12_countRight_80 : decode cX12_countRight 80 = .ok (.if_icmp .ge 7, 3) := by decide +kernel
theorem dX12_countRight_83 : decode cX12_countRight 83 = .ok (.iconst 1, 1) := by decide +kernel
theorem dX12_countRight_84 : decode cX12_countRight 84 = .ok (.goto 4, 3) := by decide +kernel
theorem dX12_countRight_87 : decode cX12_countRight 87 = .ok (.iconst 0, 1) := by decide +kernel
theorem dX12_countRight_88 : decode cX12_countRight 88 = .ok (.istore 8, 2) := by decide +kernel
theorem dX12_countRight_90 : decode cX12_countRight 90 = .ok (.iload 5, 2) := by decide +kernel
theorem dX12_countRight_92 : decode cX12_countRight 92 = .ok (.iload 8, 2) := by decide +kernel
theorem dX12_countRight_94 : decode cX12_countRight 94 = .ok (.aload_n 0, 1) := by decide +kernel
theorem dX12_countRight_95 : decode cX12_countRight 95 = .ok (.iload 6, 2) := by decide +kernel
theorem dX12_countRight_97 : decode cX12_countRight 97 = .ok (.invokevirtual 480, 3) := by decide +kernel
theorem dX12_countRight_100 : decode cX12_countRight 100 = .ok (.iconst 1, 1) := by decide +kernel
theorem dX12_countRight_101 : decode cX12_countRight 101 = .ok (.if_icmp .ne 7, 3) := by decide +kernel
theorem dX12_countRight_104 : decode cX12_countRight 104 = .ok (.iconst 1, 1) := by decide +kernel
theorem dX12_countRight_105 : decode cX12_countRight 105 = .ok (.goto 4, 3) := by decide +kernel
theorem dX12_countRight_108 : decode cX12_countRight 108 = .ok (.iconst 0, 1) := by decide +kernel
theorem dX12_countRight_109 : decode cX12_countRight 109 = .ok (.if_icmp .ne 7, 3) := by decide +kernel
theorem dX12_countRight_112 : decode cX12_countRight 112 = .ok (.iconst 1, 1) := by decide +kernel
theorem dX12_countRight_113 : decode cX12_countRight 113 = .ok (.goto 4, 3) := by decide +kernel
theorem dX12_countRight_116 : decode cX12_countRight 116 = .ok (.iconst 0, 1) := by decide +kernel
theorem dX12_countRight_117 : decode cX12_countRight 117 = .ok (.iadd, 1) := by decide +kernel
theorem dX12_countRight_118 : decode cX12_countRight 118 = .ok (.istore 5, 2) := by decide +kernel
theorem dX12_countRight_120 : decode cX12_countRight 120 = .ok (.iinc 6 1, 3) := by decide +kernel
theorem dX12_countRight_123 : decode cX12_countRight 123 = .ok (.goto (-117), 3) := by decide +kernel
theorem dX12_countRight_126 : decode cX12_countRight 126 = .ok (.iload 5, 2) := by decide +kernel
theorem dX12_countRight_128 : decode cX12_countRight 128 = .ok (.ireturn, 1) := by decide +kernel
theorem dX12_countDays_0 : decode cX12_countDays 0 = .ok (.iconst 0, 1) := by decide +kernel
theorem dX12_countDays_1 : decode cX12_countDays 1 = .ok (.istore_n 3, 1) := by decide +kernel
theorem dX12_countDays_2 : decode cX12_countDays 2 = .ok (.iconst 0, 1) := by decide +kernel
theorem dX12_countDays_3 : decode cX12_countDays 3 = .ok (.istore 4, 2) := by decide +kernel
theorem dX12_countDays_5 : decode cX12_countDays 5 = .ok (.iload 4, 2) := by decide +kernel
theorem dX12_countDays_7 : decode cX12_countDays 7 = .ok (.bipush 60, 2) := by decide +kernel
theorem dX12_countDays_9 : decode cX12_countDays 9 = .ok (.if_icmp .ge 55, 3) := by decide +kernel
theorem dX12_countDays_12 : decode cX12_countDays 12 = .ok (.iload_n 3, 1) := by decide +kernel
theorem dX12_countDays_13 : decode cX12_countDays 13 = .ok (.aload_n 0, 1) := by decide +kernel
theorem dX12_countDays_14 : decode cX12_countDays 14 = .ok (.getfield 70, 3) := by decide +kernel
theorem dX12_countDays_17 : decode cX12_countDays 17 = .ok (.iload 4, 2) := by decide +kernel
theorem dX12_countDays_19 : decode cX12_countDays 19 = .ok (.baload, 1) := by decide +kernel
theorem dX12_countDays_20 : decode cX12_countDays 20 = .ok (.iload_n 2, 1) := by decide +kernel
theorem dX12_countDays_21 : decode cX12_countDays 21 = .ok (.if_icmp .ne 34, 3) := by decide +kernel
theorem dX12_countDays_24 : decode cX12_countDays 24 = .ok (.aload_n 0, 1) := by decide +kernel
theorem dX12_countDays_25 : decode cX12_countDays 25 = .ok (.getfield 103, 3) := by decide +kernel
theorem dX12_countDays_28 : decode cX12_countDays 28 = .ok (.bipush 60, 2) := by decide +kernel
theorem dX12_countDays_30 : decode cX12_countDays 30 = .ok (.iload_n 1, 1) := by decide +kernel
theorem dX12_countDays_31 : decode cX12_countDays 31 = .ok (.imul, 1) := by decide +kernel
theorem dX12_countDays_32 : decode cX12_countDays 32 = .ok (.iload 4, 2) := by decide +kernel
theorem dX12_countDays_34 : decode cX12_countDays 34 = .ok (.iadd, 1) := by decide +kernel
theorem dX12_countDays_35 : decode cX12_countDays 35 = .ok (.iaload, 1) := by decide +kernel
theorem dX12_countDays_36 : decode cX12_countDays 36 = .ok (.ldc_w 353, 3) := by decide +kernel
theorem dX12_countDays_39 : decode cX12_countDays 39 = .ok (.if_icmp .eq 16, 3) := by decide +kernel
theorem dX12_countDays_42 : decode cX12_countDays 42 = .ok (.aload_n 0, 1) := by decide +kernel
theorem dX12_countDays_43 : decode cX12_countDays 43 = .ok (.iload 4, 2) := by decide +kernel
theorem dX12_countDays_45 : decode cX12_countDays 45 = .ok (.invokevirtual 480, 3) := by decide +kernel
theorem dX12_countDays_48 : decode cX12_countDays 48 = .ok (.ifCond .lt 7, 3) := by decide +kernel
theorem dX12_countDays_51 : decode cX12_countDays 51 = .ok (.iconst 1, 1) := by decide +kernel
theorem dX12_countDays_52 : decode cX12_countDays 52 = .ok (.goto 4, 3) := by decide +kernel
theorem dX12_countDays_55 : decode cX12_countDays 55 = .ok (.iconst 0, 1) := by decide +kernel
theorem dX12_countDays_56 : decode cX12_countDays 56 = .ok (.iadd, 1) := by decide +kernel
theorem dX12_countDays_57 : decode cX12_countDays 57 = .ok (.istore_n 3, 1) := by decide +kernel
theorem dX12_countDays_58 : decode cX12_countDays 58 = .ok (.iinc 4 1, 3) := by decide +kernel
theorem dX12_countDays_61 : decode cX12_countDays 61 = .ok (.goto (-56), 3) := by decide +kernel
theorem dX12_countDays_64 : decode cX12_countDays 64 = .ok (.iload_n 3, 1) := by decide +kernel
theorem dX12_countDays_65 : decode cX12_countDays 65 = .ok (.ireturn, 1) := by decide +kernel
theorem dX12_learnt_0 : decode cX12_learnt 0 = .ok (.aload_n 0, 1) := by decide +kernel
theorem dX12_learnt_1 : decode cX12_learnt 1 = .ok (.iload_n 1, 1) := by decide +kernel
theorem dX12_learnt_2 : decode cX12_learnt 2 = .ok (.invokevirtual 349, 3) := by decide +kernel
theorem dX12_learnt_5 : decode cX12_learnt 5 = .ok (.ifCond .eq 12, 3) := by decide +kernel
theorem dX12_learnt_8 : decode cX12_learnt 8 = .ok (.iload_n 2, 1) := by decide +kernel
theorem dX12_learnt_9 : decode cX12_learnt 9 = .ok (.ifCond .lt 8, 3) := by decide +kernel
theorem dX12_learnt_12 : decode cX12_learnt 12 = .ok (.iload_n 2, 1) := by decide +kernel
theorem dX12_learnt_13 : decode cX12_learnt 13 = .ok (.iconst 4, 1) := by decide +kernel
theorem dX12_learnt_14 : decode cX12_learnt 14 = .ok (.if_icmp .le 7, 3) := by decide +kernel
theorem dX12_learnt_17 : decode cX12_learnt 17 = .ok (.ldc_w 353, 3) := by decide +kernel
theorem dX12_learnt_20 : decode cX12_learnt 20 = .ok (.ireturn, 1) := by decide +kernel
theorem dX12_learnt_21 : decode cX12_learnt 21 = .ok (.aload_n 0, 1) := by decide +kernel
theorem dX12_learnt_22 : decode cX12_learnt 22 = .ok (.iload_n 3, 1) := by decide +kernel
theorem dX12_learnt_23 : decode cX12_learnt 23 = .ok (.invokevirtual 354, 3) := by decide +kernel
theorem dX12_learnt_26 : decode cX12_learnt 26 = .ok (.aload_n 0, 1) := by decide +kernel
theorem dX12_learnt_27 : decode cX12_learnt 27 = .ok (.iload_n 1, 1) := by decide +kernel
theorem dX12_learnt_28 : decode cX12_learnt 28 = .ok (.iconst 1, 1) := by decide +kernel
theorem dX12_learnt_29 : decode cX12_learnt 29 = .ok (.invokevirtual 510, 3) := by decide +kernel
theorem dX12_learnt_32 : decode cX12_learnt 32 = .ok (.ifCond .ne 7, 3) := by decide +kernel
theorem dX12_learnt_35 : decode cX12_learnt 35 = .ok (.ldc_w 353, 3) := by decide +kernel
theorem dX12_learnt_38 : decode cX12_learnt 38 = .ok (.ireturn, 1) := by decide +kernel
theorem dX12_learnt_39 : decode cX12_learnt 39 = .ok (.iconst 0, 1) := by decide +kernel
theorem dX12_learnt_40 : decode cX12_learnt 40 = .ok (.istore 4, 2) := by decide +kernel
theorem dX12_learnt_42 : decode cX12_learnt 42 = .ok (.iconst 0, 1) := by decide +kernel
theorem dX12_learnt_43 : decode cX12_learnt 43 = .ok (.istore 5, 2) := by decide +kernel
theorem dX12_learnt_45 : decode cX12_learnt 45 = .ok (.iconst (-1), 1) := by decide +kernel
theorem dX12_learnt_46 : decode cX12_learnt 46 = .ok (.istore 6, 2) := by decide +kernel
theorem dX12_learnt_48 : decode cX12_learnt 48 = .ok (.iconst 0, 1) := by decide +kernel
theorem dX12_learnt_49 : decode cX12_learnt 49 = .ok (.istore 7, 2) := by decide +kernel
theorem dX12_learnt_51 : decode cX12_learnt 51 = .ok (.iload 7, 2) := by decide +kernel
theorem dX12_learnt_53 : decode cX12_learnt 53 = .ok (.iconst 2, 1) := by decide +kernel
theorem dX12_learnt_54 : decode cX12_learnt 54 = .ok (.if_icmp .ge 60, 3) := by decide +kernel
theorem dX12_learnt_57 : decode cX12_learnt 57 = .ok (.bipush (-50), 2) := by decide +kernel
theorem dX12_learnt_59 : decode cX12_learnt 59 = .ok (.istore 8, 2) := by decide +kernel
theorem dX12_learnt_61 : decode cX12_learnt 61 = .ok (.iload 8, 2) := by decide +kernel
theorem dX12_learnt_63 : decode cX12_learnt 63 = .ok (.bipush 110, 2) := by decide +kernel
theorem dX12_learnt_65 : decode cX12_learnt 65 = .ok (.if_icmp .gt 43, 3) := by decide +kernel
theorem dX12_learnt_68 : decode cX12_learnt 68 = .ok (.aload_n 0, 1) := by decide +kernel
theorem dX12_learnt_69 : decode cX12_learnt 69 = .ok (.iload_n 1, 1) := by decide +kernel
theorem dX12_learnt_70 : decode cX12_learnt 70 = .ok (.iload 8, 2) := by decide +kernel
theorem dX12_learnt_72 : decode cX12_learnt 72 = .ok (.iload 7, 2) := by decide +kernel
theorem dX12_learnt_74 : decode cX12_learnt 74 = .ok (.iconst 1, 1) := by decide +kernel
theorem dX12_learnt_75 : decode cX12_learnt 75 = .ok (.invokevirtual 514, 3) := by decide +kernel
theorem dX12_learnt_78 : decode cX12_learnt 78 = .ok (.istore 9, 2) := by decide +kernel
theorem dX12_learnt_80 : decode cX12_learnt 80 = .ok (.iload 9, 2) := by decide +kernel
theorem dX12_learnt_82 : decode cX12_learnt 82 = .ok (.iload 6, 2) := by decide +kernel
theorem dX12_learnt_84 : decode cX12_learnt 84 = .ok (.if_icmp .gt 6, 3) := by decide +kernel
theorem dX12_learnt_87 : decode cX12_learnt 87 = .ok (.goto 15, 3) := by decide +kernel
theorem dX12_learnt_90 : decode cX12_learnt 90 = .ok (.iload 9, 2) := by decide +kernel
theorem dX12_learnt_92 : decode cX12_learnt 92 = .ok (.istore 6, 2) := by decide +kernel
theorem dX12_learnt_94 : decode cX12_learnt 94 = .ok (.iload 8, 2) := by decide +kernel
theorem dX12_learnt_96 : decode cX12_learnt 96 = .ok (.istore 4, 2) := by decide +kernel
theorem dX12_learnt_98 : decode cX12_learnt 98 = .ok (.iload 7, 2) := by decide +kernel
theorem dX12_learnt_100 : decode cX12_learnt 100 = .ok (.istore 5, 2) := by decide +kernel
theorem dX12_learnt_102 : decode cX12_learnt 102 = .ok (.iinc 8 1, 3) := by decide +kernel
theorem dX12_learnt_105 : decode cX12_learnt 105 = .ok (.goto (-44), 3) := by decide +kernel
theorem dX12_learnt_108 : decode cX12_learnt 108 = .ok (.iinc 7 1, 3) := by decide +kernel
theorem dX12_learnt_111 : decode cX12_learnt 111 = .ok (.goto (-60), 3) := by decide +kernel
theorem dX12_learnt_114 : decode cX12_learnt 114 = .ok (.iload_n 2, 1) := by decide +kernel
theorem dX12_learnt_115 : decode cX12_learnt 115 = .ok (.tableswitch 49 0 3 #[29, 32, 35, 38], 29) := by decide +kernel
theorem dX12_learnt_144 : decode cX12_learnt 144 = .ok (.iload 4, 2) := by decide +kernel
theorem dX12_learnt_146 : decode cX12_learnt 146 = .ok (.ireturn, 1) := by decide +kernel
theorem dX12_learnt_147 : decode cX12_learnt 147 = .ok (.iload 5, 2) := by decide +kernel
theorem dX12_learnt_149 : decode cX12_learnt 149 = .ok (.ireturn, 1) := by decide +kernel
theorem dX12_learnt_150 : decode cX12_learnt 150 = .ok (.iload 6, 2) := by decide +kernel
theorem dX12_learnt_152 : decode cX12_learnt 152 = .ok (.ireturn, 1) := by decide +kernel
theorem dX12_learnt_153 : decode cX12_learnt 153 = .ok (.aload_n 0, 1) := by decide +kernel
theorem dX12_learnt_154 : decode cX12_learnt 154 = .ok (.iload_n 1, 1) := by decide +kernel
theorem dX12_learnt_155 : decode cX12_learnt 155 = .ok (.iload 4, 2) := by decide +kernel
theorem dX12_learnt_157 : decode cX12_learnt 157 = .ok (.iload 5, 2) := by decide +kernel
theorem dX12_learnt_159 : decode cX12_learnt 159 = .ok (.iconst 0, 1) := by decide +kernel
theorem dX12_learnt_160 : decode cX12_learnt 160 = .ok (.invokevirtual 514, 3) := by decide +kernel
theorem dX12_learnt_163 : decode cX12_learnt 163 = .ok (.ireturn, 1) := by decide +kernel
theorem dX12_learnt_164 : decode cX12_learnt 164 = .ok (.aload_n 0, 1) := by decide +kernel
theorem dX12_learnt_165 : decode cX12_learnt 165 = .ok (.iload_n 1, 1) := by decide +kernel
theorem dX12_learnt_166 : decode cX12_learnt 166 = .ok (.iconst 0, 1) := by decide +kernel
theorem dX12_learnt_167 : decode cX12_learnt 167 = .ok (.invokevirtual 510, 3) := by decide +kernel
theorem dX12_learnt_170 : decode cX12_learnt 170 = .ok (.ireturn, 1) := by decide +kernel
theorem dX12_rule_0 : decode cX12_rule 0 = .ok (.iload_n 1, 1) := by decide +kernel
theorem dX12_rule_1 : decode cX12_rule 1 = .ok (.ifCond .lt 20, 3) := by decide +kernel
theorem dX12_rule_4 : decode cX12_rule 4 = .ok (.iload_n 1, 1) := by decide +kernel
theorem dX12_rule_5 : decode cX12_rule 5 = .ok (.aload_n 0, 1) := by decide +kernel
theorem dX12_rule_6 : decode cX12_rule 6 = .ok (.getfield 330, 3) := by decide +kernel
theorem dX12_rule_9 : decode cX12_rule 9 = .ok (.if_icmp .ge 12, 3) := by decide +kernel
theorem dX12_rule_12 : decode cX12_rule 12 = .ok (.iload_n 2, 1) := by decide +kernel
theorem dX12_rule_13 : decode cX12_rule 13 = .ok (.ifCond .lt 8, 3) := by decide +kernel
theorem dX12_rule_16 : decode cX12_rule 16 = .ok (.iload_n 2, 1) := by decide +kernel
theorem dX12_rule_17 : decode cX12_rule 17 = .ok (.iconst 1, 1) := by decide +kernel
theorem dX12_rule_18 : decode cX12_rule 18 = .ok (.if_icmp .le 5, 3) := by decide +kernel
theorem dX12_rule_21 : decode cX12_rule 21 = .ok (.iconst (-1), 1) := by decide +kernel
theorem dX12_rule_22 : decode cX12_rule 22 = .ok (.ireturn, 1) := by decide +kernel
theorem dX12_rule_23 : decode cX12_rule 23 = .ok (.aload_n 0, 1) := by decide +kernel
theorem dX12_rule_24 : decode cX12_rule 24 = .ok (.iload_n 3, 1) := by decide +kernel
theorem dX12_rule_25 : decode cX12_rule 25 = .ok (.invokevirtual 354, 3) := by decide +kernel
theorem dX12_rule_28 : decode cX12_rule 28 = .ok (.iconst 0, 1) := by decide +kernel
theorem dX12_rule_29 : decode cX12_rule 29 = .ok (.istore 4, 2) := by decide +kernel
theorem dX12_rule_31 : decode cX12_rule 31 = .ok (.iconst 0, 1) := by decide +kernel
theorem dX12_rule_32 : decode cX12_rule 32 = .ok (.istore 5, 2) := by decide +kernel
theorem dX12_rule_34 : decode cX12_rule 34 = .ok (.iconst 0, 1) := by decide +kernel
theorem dX12_rule_35 : decode cX12_rule 35 = .ok (.istore 6, 2) := by decide +kernel
theorem dX12_rule_37 : decode cX12_rule 37 = .ok (.iload 6, 2) := by decide +kernel
theorem dX12_rule_39 : decode cX12_rule 39 = .ok (.bipush 60, 2) := by decide +kernel
theorem dX12_rule_41 : decode cX12_rule 41 = .ok (.if_icmp .ge 68, 3) := by decide +kernel
theorem dX12_rule_44 : decode cX12_rule 44 = .ok (.aload_n 0, 1) := by decide +kernel
theorem dX12_rule_45 : decode cX12_rule 45 = .ok (.iload 6, 2) := by decide +kernel
theorem dX12_rule_47 : decode cX12_rule 47 = .ok (.invokevirtual 495, 3) := by decide +kernel
theorem dX12_rule_50 : decode cX12_rule 50 = .ok (.ifCond .eq 53, 3) := by decide +kernel
theorem dX12_rule_53 : decode cX12_rule 53 = .ok (.aload_n 0, 1) := by decide +kernel
theorem dX12_rule_54 : decode cX12_rule 54 = .ok (.iload 6, 2) := by decide +kernel
theorem dX12_rule_56 : decode cX12_rule 56 = .ok (.invokevirtual 477, 3) := by decide +kernel
theorem dX12_rule_59 : decode cX12_rule 59 = .ok (.iload_n 1, 1) := by decide +kernel
theorem dX12_rule_60 : decode cX12_rule 60 = .ok (.if_icmp .eq 6, 3) := by decide +kernel
theorem dX12_rule_63 : decode cX12_rule 63 = .ok (.goto 40, 3) := by decide +kernel
theorem dX12_rule_66 : decode cX12_rule 66 = .ok (.iinc 4 1, 3) := by decide +kernel
theorem dX12_rule_69 : decode cX12_rule 69 = .ok (.iload 5, 2) := by decide +kernel
theorem dX12_rule_71 : decode cX12_rule 71 = .ok (.aload_n 0, 1) := by decide +kernel
theorem dX12_rule_72 : decode cX12_rule 72 = .ok (.getfield 160, 3) := by decide +kernel
theorem dX12_rule_75 : decode cX12_rule 75 = .ok (.iload_n 1, 1) := by decide +kernel
theorem dX12_rule_76 : decode cX12_rule 76 = .ok (.baload, 1) := by decide +kernel
theorem dX12_rule_77 : decode cX12_rule 77 = .ok (.aload_n 0, 1) := by decide +kernel
theorem dX12_rule_78 : decode cX12_rule 78 = .ok (.iload 6, 2) := by decide +kernel
theorem dX12_rule_80 : decode cX12_rule 80 = .ok (.invokevirtual 480, 3) := by decide +kernel
theorem dX12_rule_83 : decode cX12_rule 83 = .ok (.iconst 1, 1) := by decide +kernel
theorem dX12_rule_84 : decode cX12_rule 84 = .ok (.if_icmp .ne 7, 3) := by decide +kernel
theorem dX12_rule_87 : decode cX12_rule 87 = .ok (.iconst 1, 1) := by decide +kernel
theorem dX12_rule_88 : decode cX12_rule 88 = .ok (.goto 4, 3) := by decide +kernel
theorem dX12_rule_91 : decode cX12_rule 91 = .ok (.iconst 0, 1) := by decide +kernel
theorem dX12_rule_92 : decode cX12_rule 92 = .ok (.if_icmp .ne 7, 3) := by decide +kernel
theorem dX12_rule_95 : decode cX12_rule 95 = .ok (.iconst 1, 1) := by decide +kernel
theorem dX12_rule_96 : decode cX12_rule 96 = .ok (.goto 4, 3) := by decide +kernel
theorem dX12_rule_99 : decode cX12_rule 99 = .ok (.iconst 0, 1) := by decide +kernel
theorem dX12_rule_100 : decode cX12_rule 100 = .ok (.iadd, 1) := by decide +kernel
theorem dX12_rule_101 : decode cX12_rule 101 = .ok (.istore 5, 2) := by decide +kernel
theorem dX12_rule_103 : decode cX12_rule 103 = .ok (.iinc 6 1, 3) := by decide +kernel
theorem dX12_rule_106 : decode cX12_rule 106 = .ok (.goto (-69), 3) := by decide +kernel
theorem dX12_rule_109 : decode cX12_rule 109 = .ok (.iload_n 2, 1) := by decide +kernel
theorem dX12_rule_110 : decode cX12_rule 110 = .ok (.ifCond .ne 8, 3) := by decide +kernel
theorem dX12_rule_113 : decode cX12_rule 113 = .ok (.iload 4, 2) := by decide +kernel
theorem dX12_rule_115 : decode cX12_rule 115 = .ok (.goto 5, 3) := by decide +kernel
theorem dX12_rule_118 : decode cX12_rule 118 = .ok (.iload 5, 2) := by decide +kernel
theorem dX12_rule_120 : decode cX12_rule 120 = .ok (.ireturn, 1) := by decide +kernel
theorem dX12_about_0 : decode cX12_about 0 = .ok (.iconst 0, 1) := by decide +kernel
theorem dX12_about_1 : decode cX12_about 1 = .ok (.istore_n 2, 1) := by decide +kernel
theorem dX12_about_2 : decode cX12_about 2 = .ok (.iload_n 1, 1) := by decide +kernel
theorem dX12_about_3 : decode cX12_about 3 = .ok (.tableswitch 143 0 7 #[45, 50, 55, 60, 65, 70, 103, 108], 45) := by decide +kernel
theorem dX12_about_48 : decode cX12_about 48 = .ok (.aload_n 0, 1) := by decide +kernel
theorem dX12_about_49 : decode cX12_about 49 = .ok (.getfield 321, 3) := by decide +kernel
theorem dX12_about_52 : decode cX12_about 52 = .ok (.ireturn, 1) := by decide +kernel
theorem dX12_about_53 : decode cX12_about 53 = .ok (.aload_n 0, 1) := by decide +kernel
theorem dX12_about_54 : decode cX12_about 54 = .ok (.getfield 324, 3) := by decide +kernel
theorem dX12_about_57 : decode cX12_about 57 = .ok (.ireturn, 1) := by decide +kernel
theorem dX12_about_58 : decode cX12_about 58 = .ok (.aload_n 0, 1) := by decide +kernel
theorem dX12_about_59 : decode cX12_about 59 = .ok (.getfield 327, 3) := by decide +kernel
theorem dX12_about_62 : decode cX12_about 62 = .ok (.ireturn, 1) := by decide +kernel
theorem dX12_about_63 : decode cX12_about 63 = .ok (.aload_n 0, 1) := by decide +kernel
theorem dX12_about_64 : decode cX12_about 64 = .ok (.getfield 336, 3) := by decide +kernel
theorem dX12_about_67 : decode cX12_about 67 = .ok (.ireturn, 1) := by decide +kernel
theorem dX12_about_68 : decode cX12_about 68 = .ok (.aload_n 0, 1) := by decide +kernel
theorem dX12_about_69 : decode cX12_about 69 = .ok (.getfield 330, 3) := by decide +kernel
theorem dX12_about_72 : decode cX12_about 72 = .ok (.ireturn, 1) := by decide +kernel
theorem dX12_about_73 : decode cX12_about 73 = .ok (.iconst 0, 1) := by decide +kernel
theorem dX12_about_74 : decode cX12_about 74 = .ok (.istore_n 3, 1) := by decide +kernel
theorem dX12_about_75 : decode cX12_about 75 = .ok (.iload_n 3, 1) := by decide +kernel
theorem dX12_about_76 : decode cX12_about 76 = .ok (.bipush 60, 2) := by decide +kernel
theorem dX12_about_78 : decode cX12_about 78 = .ok (.if_icmp .ge 26, 3) := by decide +kernel
theorem dX12_about_81 : decode cX12_about 81 = .ok (.iload_n 2, 1) := by decide +kernel
theorem dX12_about_82 : decode cX12_about 82 = .ok (.aload_n 0, 1) := by decide +kernel
theorem dX12_about_83 : decode cX12_about 83 = .ok (.getfield 94, 3) := by decide +kernel
theorem dX12_about_86 : decode cX12_about 86 = .ok (.iload_n 3, 1) := by decide +kernel
theorem dX12_about_87 : decode cX12_about 87 = .ok (.baload, 1) := by decide +kernel
theorem dX12_about_88 : decode cX12_about 88 = .ok (.ifCond .eq 7, 3) := by decide +kernel
theorem dX12_about_91 : decode cX12_about 91 = .ok (.iconst 1, 1) := by decide +kernel
theorem dX12_about_92 : decode cX12_about 92 = .ok (.goto 4, 3) := by decide +kernel
theorem dX12_about_95 : decode cX12_about 95 = .ok (.iconst 0, 1) := by decide +kernel
theorem dX12_about_96 : decode cX12_about 96 = .ok (.iadd, 1) := by decide +kernel
theorem dX12_about_97 : decode cX12_about 97 = .ok (.istore_n 2, 1) := by decide +kernel
theorem dX12_about_98 : decode cX12_about 98 = .ok (.iinc 3 1, 3) := by decide +kernel
theorem dX12_about_101 : decode cX12_about 101 = .ok (.goto (-26), 3) := by decide +kernel
theorem dX12_about_104 : decode cX12_about 104 = .ok (.iload_n 2, 1) := by decide +kernel
theorem dX12_about_105 : decode cX12_about 105 = .ok (.ireturn, 1) := by decide +kernel
theorem dX12_about_106 : decode cX12_about 106 = .ok (.aload_n 0, 1) := by decide +kernel
theorem dX12_about_107 : decode cX12_about 107 = .ok (.getfield 166, 3) := by decide +kernel
theorem dX12_about_110 : decode cX12_about 110 = .ok (.ireturn, 1) := by decide +kernel
theorem dX12_about_111 : decode cX12_about 111 = .ok (.iconst 0, 1) := by decide +kernel
theorem dX12_about_112 : decode cX12_about 112 = .ok (.istore_n 3, 1) := by decide +kernel
theorem dX12_about_113 : decode cX12_about 113 = .ok (.iload_n 3, 1) := by decide +kernel
theorem dX12_about_114 : decode cX12_about 114 = .ok (.bipush 10, 2) := by decide +kernel
theorem dX12_about_116 : decode cX12_about 116 = .ok (.if_icmp .ge 28, 3) := by decide +kernel
theorem dX12_about_119 : decode cX12_about 119 = .ok (.iload_n 2, 1) := by decide +kernel
theorem dX12_about_120 : decode cX12_about 120 = .ok (.aload_n 0, 1) := by decide +kernel
theorem dX12_about_121 : decode cX12_about 121 = .ok (.getfield 97, 3) := by decide +kernel
theorem dX12_about_124 : decode cX12_about 124 = .ok (.iload_n 3, 1) := by decide +kernel
theorem dX12_about_125 : decode cX12_about 125 = .ok (.baload, 1) := by decide +kernel
theorem dX12_about_126 : decode cX12_about 126 = .ok (.ifCond .eq 9, 3) := by decide +kernel
theorem dX12_about_129 : decode cX12_about 129 = .ok (.iconst 1, 1) := by decide +kernel
theorem dX12_about_130 : decode cX12_about 130 = .ok (.iload_n 3, 1) := by decide +kernel
theorem dX12_about_131 : decode cX12_about 131 = .ok (.ishl, 1) := by decide +kernel
theorem dX12_about_132 : decode cX12_about 132 = .ok (.goto 4, 3) := by decide +kernel
theorem dX12_about_135 : decode cX12_about 135 = .ok (.iconst 0, 1) := by decide +kernel
theorem dX12_about_136 : decode cX12_about 136 = .ok (.ior, 1) := by decide +kernel
theorem dX12_about_137 : decode cX12_about 137 = .ok (.istore_n 2, 1) := by decide +kernel
theorem dX12_about_138 : decode cX12_about 138 = .ok (.iinc 3 1, 3) := by decide +kernel
theorem dX12_about_141 : decode cX12_about 141 = .ok (.goto (-28), 3) := by decide +kernel
theorem dX12_about_144 : decode cX12_about 144 = .ok (.iload_n 2, 1) := by decide +kernel
theorem dX12_about_145 : decode cX12_about 145 = .ok (.ireturn, 1) := by decide +kernel
theorem dX12_about_146 : decode cX12_about 146 = .ok (.iconst (-1), 1) := by decide +kernel
theorem dX12_about_147 : decode cX12_about 147 = .ok (.ireturn, 1) := by decide +kernel
