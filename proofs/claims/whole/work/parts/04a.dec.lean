theorem dX12_in_0 : decode cX12_in 0 = .ok (.lload_n 0, 1) := by decide +kernel
theorem dX12_in_1 : decode cX12_in 1 = .ok (.lload_n 2, 1) := by decide +kernel
theorem dX12_in_2 : decode cX12_in 2 = .ok (.lcmp, 1) := by decide +kernel
theorem dX12_in_3 : decode cX12_in 3 = .ok (.ifCond .lt 14, 3) := by decide +kernel
theorem dX12_in_6 : decode cX12_in 6 = .ok (.lload_n 0, 1) := by decide +kernel
theorem dX12_in_7 : decode cX12_in 7 = .ok (.lload 4, 2) := by decide +kernel
theorem dX12_in_9 : decode cX12_in 9 = .ok (.lcmp, 1) := by decide +kernel
theorem dX12_in_10 : decode cX12_in 10 = .ok (.ifCond .gt 7, 3) := by decide +kernel
theorem dX12_in_13 : decode cX12_in 13 = .ok (.iconst 1, 1) := by decide +kernel
theorem dX12_in_14 : decode cX12_in 14 = .ok (.goto 4, 3) := by decide +kernel
theorem dX12_in_17 : decode cX12_in 17 = .ok (.iconst 0, 1) := by decide +kernel
theorem dX12_in_18 : decode cX12_in 18 = .ok (.ireturn, 1) := by decide +kernel
theorem dX12_init_0 : decode cX12_init 0 = .ok (.aload_n 0, 1) := by decide +kernel
theorem dX12_init_1 : decode cX12_init 1 = .ok (.invokespecial 1, 3) := by decide +kernel
theorem dX12_init_4 : decode cX12_init 4 = .ok (.aload_n 0, 1) := by decide +kernel
theorem dX12_init_5 : decode cX12_init 5 = .ok (.bipush 120, 2) := by decide +kernel
theorem dX12_init_7 : decode cX12_init 7 = .ok (.newarray .int, 2) := by decide +kernel
theorem dX12_init_9 : decode cX12_init 9 = .ok (.putfield 7, 3) := by decide +kernel
theorem dX12_init_12 : decode cX12_init 12 = .ok (.aload_n 0, 1) := by decide +kernel
theorem dX12_init_13 : decode cX12_init 13 = .ok (.bipush 8, 2) := by decide +kernel
theorem dX12_init_15 : decode cX12_init 15 = .ok (.newarray .int, 2) := by decide +kernel
theorem dX12_init_17 : decode cX12_init 17 = .ok (.putfield 13, 3) := by decide +kernel
theorem dX12_init_20 : decode cX12_init 20 = .ok (.aload_n 0, 1) := by decide +kernel
theorem dX12_init_21 : decode cX12_init 21 = .ok (.bipush 8, 2) := by decide +kernel
theorem dX12_init_23 : decode cX12_init 23 = .ok (.newarray .int, 2) := by decide +kernel
theorem dX12_init_25 : decode cX12_init 25 = .ok (.putfield 16, 3) := by decide +kernel
theorem dX12_init_28 : decode cX12_init 28 = .ok (.aload_n 0, 1) := by decide +kernel
theorem dX12_init_29 : decode cX12_init 29 = .ok (.bipush 8, 2) := by decide +kernel
theorem dX12_init_31 : decode cX12_init 31 = .ok (.newarray .int, 2) := by decide +kernel
theorem dX12_init_33 : decode cX12_init 33 = .ok (.putfield 19, 3) := by decide +kernel
theorem dX12_init_36 : decode cX12_init 36 = .ok (.aload_n 0, 1) := by decide +kernel
theorem dX12_init_37 : decode cX12_init 37 = .ok (.bipush 8, 2) := by decide +kernel
theorem dX12_init_39 : decode cX12_init 39 = .ok (.newarray .int, 2) := by decide +kernel
theorem dX12_init_41 : decode cX12_init 41 = .ok (.putfield 22, 3) := by decide +kernel
theorem dX12_init_44 : decode cX12_init 44 = .ok (.aload_n 0, 1) := by decide +kernel
theorem dX12_init_45 : decode cX12_init 45 = .ok (.sipush 128, 3) := by decide +kernel
theorem dX12_init_48 : decode cX12_init 48 = .ok (.newarray .int, 2) := by decide +kernel
theorem dX12_init_50 : decode cX12_init 50 = .ok (.putfield 25, 3) := by decide +kernel
theorem dX12_init_53 : decode cX12_init 53 = .ok (.aload_n 0, 1) := by decide +kernel
theorem dX12_init_54 : decode cX12_init 54 = .ok (.sipush 128, 3) := by decide +kernel
theorem dX12_init_57 : decode cX12_init 57 = .ok (.newarray .int, 2) := by decide +kernel
theorem dX12_init_59 : decode cX12_init 59 = .ok (.putfield 28, 3) := by decide +kernel
theorem dX12_init_62 : decode cX12_init 62 = .ok (.aload_n 0, 1) := by decide +kernel
theorem dX12_init_63 : decode cX12_init 63 = .ok (.iconst 4, 1) := by decide +kernel
theorem dX12_init_64 : decode cX12_init 64 = .ok (.newarray .int, 2) := by decide +kernel
theorem dX12_init_66 : decode cX12_init 66 = .ok (.putfield 31, 3) := by decide +kernel
theorem dX12_init_69 : decode cX12_init 69 = .ok (.aload_n 0, 1) := by decide +kernel
theorem dX12_init_70 : decode cX12_init 70 = .ok (.bipush 24, 2) := by decide +kernel
theorem dX12_init_72 : decode cX12_init 72 = .ok (.newarray .int, 2) := by decide +kernel
theorem dX12_init_74 : decode cX12_init 74 = .ok (.putfield 34, 3) := by decide +kernel
theorem dX12_init_77 : decode cX12_init 77 = .ok (.aload_n 0, 1) := by decide +kernel
theorem dX12_init_78 : decode cX12_init 78 = .ok (.bipush 24, 2) := by decide +kernel
theorem dX12_init_80 : decode cX12_init 80 = .ok (.newarray .int, 2) := by decide +kernel
theorem dX12_init_82 : decode cX12_init 82 = .ok (.putfield 37, 3) := by decide +kernel
theorem dX12_init_85 : decode cX12_init 85 = .ok (.aload_n 0, 1) := by decide +kernel
theorem dX12_init_86 : decode cX12_init 86 = .ok (.sipush 192, 3) := by decide +kernel
theorem dX12_init_89 : decode cX12_init 89 = .ok (.newarray .int, 2) := by decide +kernel
theorem dX12_init_91 : decode cX12_init 91 = .ok (.putfield 40, 3) := by decide +kernel
theorem dX12_init_94 : decode cX12_init 94 = .ok (.aload_n 0, 1) := by decide +kernel
theorem dX12_init_95 : decode cX12_init 95 = .ok (.sipush 192, 3) := by decide +kernel
theorem dX12_init_98 : decode cX12_init 98 = .ok (.newarray .int, 2) := by decide +kernel
theorem dX12_init_100 : decode cX12_init 100 = .ok (.putfield 43, 3) := by decide +kernel
theorem dX12_init_103 : decode cX12_init 103 = .ok (.aload_n 0, 1) := by decide +kernel
theorem dX12_init_104 : decode cX12_init 104 = .ok (.sipush 192, 3) := by decide +kernel
theorem dX12_init_107 : decode cX12_init 107 = .ok (.newarray .int, 2) := by decide +kernel
theorem dX12_init_109 : decode cX12_init 109 = .ok (.putfield 46, 3) := by decide +kernel
theorem dX12_init_112 : decode cX12_init 112 = .ok (.aload_n 0, 1) := by decide +kernel
theorem dX12_init_113 : decode cX12_init 113 = .ok (.sipush 192, 3) := by decide +kernel
theorem dX12_init_116 : decode cX12_init 116 = .ok (.newarray .int, 2) := by decide +kernel
theorem dX12_init_118 : decode cX12_init 118 = .ok (.putfield 49, 3) := by decide +kernel
theorem dX12_init_121 : decode cX12_init 121 = .ok (.aload_n 0, 1) := by decide +kernel
theorem dX12_init_122 : decode cX12_init 122 = .ok (.sipush 3072, 3) := by decide +kernel
theorem dX12_init_125 : decode cX12_init 125 = .ok (.newarray .int, 2) := by decide +kernel
theorem dX12_init_127 : decode cX12_init 127 = .ok (.putfield 52, 3) := by decide +kernel
theorem dX12_init_130 : decode cX12_init 130 = .ok (.aload_n 0, 1) := by decide +kernel
theorem dX12_init_131 : decode cX12_init 131 = .ok (.bipush 12, 2) := by decide +kernel
theorem dX12_init_133 : decode cX12_init 133 = .ok (.newarray .int, 2) := by decide +kernel
theorem dX12_init_135 : decode cX12_init 135 = .ok (.putfield 55, 3) := by decide +kernel
theorem dX12_init_138 : decode cX12_init 138 = .ok (.aload_n 0, 1) := by decide +kernel
theorem dX12_init_139 : decode cX12_init 139 = .ok (.bipush 12, 2) := by decide +kernel
theorem dX12_init_141 : decode cX12_init 141 = .ok (.newarray .int, 2) := by decide +kernel
theorem dX12_init_143 : decode cX12_init 143 = .ok (.putfield 58, 3) := by decide +kernel
theorem dX12_init_146 : decode cX12_init 146 = .ok (.aload_n 0, 1) := by decide +kernel
theorem dX12_init_147 : decode cX12_init 147 = .ok (.bipush 12, 2) := by decide +kernel
theorem dX12_init_149 : decode cX12_init 149 = .ok (.newarray .int, 2) := by decide +kernel
theorem dX12_init_151 : decode cX12_init 151 = .ok (.putfield 61, 3) := by decide +kernel
theorem dX12_init_154 : decode cX12_init 154 = .ok (.aload_n 0, 1) := by decide +kernel
theorem dX12_init_155 : decode cX12_init 155 = .ok (.bipush 12, 2) := by decide +kernel
theorem dX12_init_157 : decode cX12_init 157 = .ok (.newarray .int, 2) := by decide +kernel
theorem dX12_init_159 : decode cX12_init 159 = .ok (.putfield 64, 3) := by decide +kernel
theorem dX12_init_162 : decode cX12_init 162 = .ok (.aload_n 0, 1) := by decide +kernel
theorem dX12_init_163 : decode cX12_init 163 = .ok (.bipush 12, 2) := by decide +kernel
theorem dX12_init_165 : decode cX12_init 165 = .ok (.newarray .int, 2) := by decide +kernel
theorem dX12_init_167 : decode cX12_init 167 = .ok (.putfield 67, 3) := by decide +kernel
theorem dX12_init_170 : decode cX12_init 170 = .ok (.aload_n 0, 1) := by decide +kernel
theorem dX12_init_171 : decode cX12_init 171 = .ok (.bipush 12, 2) := by decide +kernel
theorem dX12_init_173 : decode cX12_init 173 = .ok (.newarray .int, 2) := by decide +kernel
theorem dX12_init_175 : decode cX12_init 175 = .ok (.putfield 70, 3) := by decide +kernel
theorem dX12_init_178 : decode cX12_init 178 = .ok (.aload_n 0, 1) := by decide +kernel
theorem dX12_init_179 : decode cX12_init 179 = .ok (.ldc 73, 2) := by decide +kernel
theorem dX12_init_181 : decode cX12_init 181 = .ok (.newarray .int, 2) := by decide +kernel
theorem dX12_init_183 : decode cX12_init 183 = .ok (.putfield 74, 3) := by decide +kernel
theorem dX12_init_186 : decode cX12_init 186 = .ok (.aload_n 0, 1) := by decide +kernel
theorem dX12_init_187 : decode cX12_init 187 = .ok (.bipush 40, 2) := by decide +kernel
theorem dX12_init_189 : decode cX12_init 189 = .ok (.newarray .int, 2) := by decide +kernel
theorem dX12_init_191 : decode cX12_init 191 = .ok (.putfield 77, 3) := by decide +kernel
theorem dX12_init_194 : decode cX12_init 194 = .ok (.aload_n 0, 1) := by decide +kernel
theorem dX12_init_195 : decode cX12_init 195 = .ok (.sipush 128, 3) := by decide +kernel
theorem dX12_init_198 : decode cX12_init 198 = .ok (.newarray .boolean, 2) := by decide +kernel
theorem dX12_init_200 : decode cX12_init 200 = .ok (.putfield 80, 3) := by decide +kernel
theorem dX12_init_203 : decode cX12_init 203 = .ok (.aload_n 0, 1) := by decide +kernel
theorem dX12_init_204 : decode cX12_init 204 = .ok (.sipush 256, 3) := by decide +kernel
theorem dX12_init_207 : decode cX12_init 207 = .ok (.newarray .int, 2) := by decide +kernel
theorem dX12_init_209 : decode cX12_init 209 = .ok (.putfield 84, 3) := by decide +kernel
theorem dX12_init_212 : decode cX12_init 212 = .ok (.aload_n 0, 1) := by decide +kernel
theorem dX12_init_213 : decode cX12_init 213 = .ok (.sipush 256, 3) := by decide +kernel
theorem dX12_init_216 : decode cX12_init 216 = .ok (.newarray .int, 2) := by decide +kernel
theorem dX12_init_218 : decode cX12_init 218 = .ok (.putfield 87, 3) := by decide +kernel
theorem dX12_init_221 : decode cX12_init 221 = .ok (.aload_n 0, 1) := by decide +kernel
theorem dX12_init_222 : decode cX12_init 222 = .ok (.bipush 6, 2) := by decide +kernel
theorem dX12_init_224 : decode cX12_init 224 = .ok (.newarray .int, 2) := by decide +kernel
theorem dX12_init_226 : decode cX12_init 226 = .ok (.putfield 90, 3) := by decide +kernel
theorem dX12_init_229 : decode cX12_init 229 = .ok (.aload_n 0, 1) := by decide +kernel
theorem dX12_init_230 : decode cX12_init 230 = .ok (.bipush 6, 2) := by decide +kernel
theorem dX12_init_232 : decode cX12_init 232 = .ok (.newarray .int, 2) := by decide +kernel
theorem dX12_init_234 : decode cX12_init 234 = .ok (.putfield 93, 3) := by decide +kernel
theorem dX12_init_237 : decode cX12_init 237 = .ok (.aload_n 0, 1) := by decide +kernel
theorem dX12_init_238 : decode cX12_init 238 = .ok (.bipush 6, 2) := by decide +kernel
theorem dX12_init_240 : decode cX12_init 240 = .ok (.newarray .int, 2) := by decide +kernel
theorem dX12_init_242 : decode cX12_init 242 = .ok (.putfield 96, 3) := by decide +kernel
theorem dX12_init_245 : decode cX12_init 245 = .ok (.aload_n 0, 1) := by decide +kernel
theorem dX12_init_246 : decode cX12_init 246 = .ok (.bipush 80, 2) := by decide +kernel
theorem dX12_init_248 : decode cX12_init 248 = .ok (.newarray .int, 2) := by decide +kernel
theorem dX12_init_250 : decode cX12_init 250 = .ok (.putfield 99, 3) := by decide +kernel
theorem dX12_init_253 : decode cX12_init 253 = .ok (.aload_n 0, 1) := by decide +kernel
theorem dX12_init_254 : decode cX12_init 254 = .ok (.bipush 80, 2) := by decide +kernel
theorem dX12_init_256 : decode cX12_init 256 = .ok (.newarray .int, 2) := by decide +kernel
theorem dX12_init_258 : decode cX12_init 258 = .ok (.putfield 102, 3) := by decide +kernel
theorem dX12_init_261 : decode cX12_init 261 = .ok (.aload_n 0, 1) := by decide +kernel
theorem dX12_init_262 : decode cX12_init 262 = .ok (.bipush 80, 2) := by decide +kernel
theorem dX12_init_264 : decode cX12_init 264 = .ok (.newarray .int, 2) := by decide +kernel
theorem dX12_init_266 : decode cX12_init 266 = .ok (.putfield 105, 3) := by decide +kernel
theorem dX12_init_269 : decode cX12_init 269 = .ok (.aload_n 0, 1) := by decide +kernel
theorem dX12_init_270 : decode cX12_init 270 = .ok (.bipush 80, 2) := by decide +kernel
theorem dX12_init_272 : decode cX12_init 272 = .ok (.newarray .int, 2) := by decide +kernel
theorem dX12_init_274 : decode cX12_init 274 = .ok (.putfield 108, 3) := by decide +kernel
theorem dX12_init_277 : decode cX12_init 277 = .ok (.aload_n 0, 1) := by decide +kernel
theorem dX12_init_278 : decode cX12_init 278 = .ok (.bipush 80, 2) := by decide +kernel
theorem dX12_init_280 : decode cX12_init 280 = .ok (.newarray .int, 2) := by decide +kernel
theorem dX12_init_282 : decode cX12_init 282 = .ok (.putfield 111, 3) := by decide +kernel
theorem dX12_init_285 : decode cX12_init 285 = .ok (.aload_n 0, 1) := by decide +kernel
theorem dX12_init_286 : decode cX12_init 286 = .ok (.bipush 80, 2) := by decide +kernel
theorem dX12_init_288 : decode cX12_init 288 = .ok (.newarray .int, 2) := by decide +kernel
theorem dX12_init_290 : decode cX12_init 290 = .ok (.putfield 114, 3) := by decide +kernel
theorem dX12_init_293 : decode cX12_init 293 = .ok (.aload_n 0, 1) := by decide +kernel
theorem dX12_init_294 : decode cX12_init 294 = .ok (.bipush 80, 2) := by decide +kernel
theorem dX12_init_296 : decode cX12_init 296 = .ok (.newarray .int, 2) := by decide +kernel
theorem dX12_init_298 : decode cX12_init 298 = .ok (.putfield 117, 3) := by decide +kernel
theorem dX12_init_301 : decode cX12_init 301 = .ok (.aload_n 0, 1) := by decide +kernel
theorem dX12_init_302 : decode cX12_init 302 = .ok (.bipush 80, 2) := by decide +kernel
theorem dX12_init_304 : decode cX12_init 304 = .ok (.newarray .int, 2) := by decide +kernel
theorem dX12_init_306 : decode cX12_init 306 = .ok (.putfield 120, 3) := by decide +kernel
theorem dX12_init_309 : decode cX12_init 309 = .ok (.aload_n 0, 1) := by decide +kernel
theorem dX12_init_310 : decode cX12_init 310 = .ok (.bipush 80, 2) := by decide +kernel
theorem dX12_init_312 : decode cX12_init 312 = .ok (.newarray .int, 2) := by decide +kernel
theorem dX12_init_314 : decode cX12_init 314 = .ok (.putfield 123, 3) := by decide +kernel
theorem dX12_init_317 : decode cX12_init 317 = .ok (.aload_n 0, 1) := by decide +kernel
theorem dX12_init_318 : decode cX12_init 318 = .ok (.bipush 80, 2) := by decide +kernel
theorem dX12_init_320 : decode cX12_init 320 = .ok (.newarray .int, 2) := by decide +kernel
theorem dX12_init_322 : decode cX12_init 322 = .ok (.putfield 126, 3) := by decide +kernel
theorem dX12_init_325 : decode cX12_init 325 = .ok (.aload_n 0, 1) := by decide +kernel
theorem dX12_init_326 : decode cX12_init 326 = .ok (.bipush 80, 2) := by decide +kernel
theorem dX12_init_328 : decode cX12_init 328 = .ok (.newarray .int, 2) := by decide +kernel
theorem dX12_init_330 : decode cX12_init 330 = .ok (.putfield 129, 3) := by decide +kernel
theorem dX12_init_333 : decode cX12_init 333 = .ok (.aload_n 0, 1) := by decide +kernel
theorem dX12_init_334 : decode cX12_init 334 = .ok (.bipush 80, 2) := by decide +kernel
theorem dX12_init_336 : decode cX12_init 336 = .ok (.newarray .int, 2) := by decide +kernel
theorem dX12_init_338 : decode cX12_init 338 = .ok (.putfield 132, 3) := by decide +kernel
theorem dX12_init_341 : decode cX12_init 341 = .ok (.aload_n 0, 1) := by decide +kernel
theorem dX12_init_342 : decode cX12_init 342 = .ok (.bipush 80, 2) := by decide +kernel
theorem dX12_init_344 : decode cX12_init 344 = .ok (.newarray .int, 2) := by decide +kernel
theorem dX12_init_346 : decode cX12_init 346 = .ok (.putfield 135, 3) := by decide +kernel
theorem dX12_init_349 : decode cX12_init 349 = .ok (.aload_n 0, 1) := by decide +kernel
theorem dX12_init_350 : decode cX12_init 350 = .ok (.bipush 80, 2) := by decide +kernel
theorem dX12_init_352 : decode cX12_init 352 = .ok (.newarray .int, 2) := by decide +kernel
theorem dX12_init_354 : decode cX12_init 354 = .ok (.putfield 138, 3) := by decide +kernel
theorem dX12_init_357 : decode cX12_init 357 = .ok (.aload_n 0, 1) := by decide +kernel
theorem dX12_init_358 : decode cX12_init 358 = .ok (.sipush 1600, 3) := by decide +kernel
theorem dX12_init_361 : decode cX12_init 361 = .ok (.newarray .int, 2) := by decide +kernel
theorem dX12_init_363 : decode cX12_init 363 = .ok (.putfield 141, 3) := by decide +kernel
theorem dX12_init_366 : decode cX12_init 366 = .ok (.aload_n 0, 1) := by decide +kernel
theorem dX12_init_367 : decode cX12_init 367 = .ok (.bipush 6, 2) := by decide +kernel
theorem dX12_init_369 : decode cX12_init 369 = .ok (.newarray .int, 2) := by decide +kernel
theorem dX12_init_371 : decode cX12_init 371 = .ok (.putfield 144, 3) := by decide +kernel
theorem dX12_init_374 : decode cX12_init 374 = .ok (.aload_n 0, 1) := by decide +kernel
theorem dX12_init_375 : decode cX12_init 375 = .ok (.bipush 6, 2) := by decide +kernel
theorem dX12_init_377 : decode cX12_init 377 = .ok (.newarray .int, 2) := by decide +kernel
theorem dX12_init_379 : decode cX12_init 379 = .ok (.putfield 147, 3) := by decide +kernel
theorem dX12_init_382 : decode cX12_init 382 = .ok (.aload_n 0, 1) := by decide +kernel
theorem dX12_init_383 : decode cX12_init 383 = .ok (.bipush 6, 2) := by decide +kernel
theorem dX12_init_385 : decode cX12_init 385 = .ok (.newarray .int, 2) := by decide +kernel
theorem dX12_init_387 : decode cX12_init 387 = .ok (.putfield 150, 3) := by decide +kernel
theorem dX12_init_390 : decode cX12_init 390 = .ok (.aload_n 0, 1) := by decide +kernel
theorem dX12_init_391 : decode cX12_init 391 = .ok (.bipush 6, 2) := by decide +kernel
theorem dX12_init_393 : decode cX12_init 393 = .ok (.newarray .int, 2) := by decide +kernel
theorem dX12_init_395 : decode cX12_init 395 = .ok (.putfield 153, 3) := by decide +kernel
theorem dX12_init_398 : decode cX12_init 398 = .ok (.aload_n 0, 1) := by decide +kernel
theorem dX12_init_399 : decode cX12_init 399 = .ok (.bipush 6, 2) := by decide +kernel
theorem dX12_init_401 : decode cX12_init 401 = .ok (.newarray .int, 2) := by decide +kernel
theorem dX12_init_403 : decode cX12_init 403 = .ok (.putfield 156, 3) := by decide +kernel
theorem dX12_init_406 : decode cX12_init 406 = .ok (.aload_n 0, 1) := by decide +kernel
theorem dX12_init_407 : decode cX12_init 407 = .ok (.bipush 6, 2) := by decide +kernel
theorem dX12_init_409 : decode cX12_init 409 = .ok (.newarray .int, 2) := by decide +kernel
theorem dX12_init_411 : decode cX12_init 411 = .ok (.putfield 159, 3) := by decide +kernel
theorem dX12_init_414 : decode cX12_init 414 = .ok (.aload_n 0, 1) := by decide +kernel
theorem dX12_init_415 : decode cX12_init 415 = .ok (.bipush 6, 2) := by decide +kernel
theorem dX12_init_417 : decode cX12_init 417 = .ok (.newarray .int, 2) := by decide +kernel
theorem dX12_init_419 : decode cX12_init 419 = .ok (.putfield 162, 3) := by decide +kernel
theorem dX12_init_422 : decode cX12_init 422 = .ok (.aload_n 0, 1) := by decide +kernel
theorem dX12_init_423 : decode cX12_init 423 = .ok (.bipush 6, 2) := by decide +kernel
theorem dX12_init_425 : decode cX12_init 425 = .ok (.newarray .int, 2) := by decide +kernel
theorem dX12_init_427 : decode cX12_init 427 = .ok (.putfield 165, 3) := by decide +kernel
theorem dX12_init_430 : decode cX12_init 430 = .ok (.aload_n 0, 1) := by decide +kernel
theorem dX12_init_431 : decode cX12_init 431 = .ok (.sipush 800, 3) := by decide +kernel
theorem dX12_init_434 : decode cX12_init 434 = .ok (.newarray .int, 2) := by decide +kernel
theorem dX12_init_436 : decode cX12_init 436 = .ok (.putfield 168, 3) := by decide +kernel
theorem dX12_init_439 : decode cX12_init 439 = .ok (.aload_n 0, 1) := by decide +kernel
theorem dX12_init_440 : decode cX12_init 440 = .ok (.iconst 5, 1) := by decide +kernel
theorem dX12_init_441 : decode cX12_init 441 = .ok (.putfield 171, 3) := by decide +kernel
theorem dX12_init_444 : decode cX12_init 444 = .ok (.aload_n 0, 1) := by decide +kernel
theorem dX12_init_445 : decode cX12_init 445 = .ok (.iconst 4, 1) := by decide +kernel
theorem dX12_init_446 : decode cX12_init 446 = .ok (.newarray .int, 2) := by decide +kernel
theorem dX12_init_448 : decode cX12_init 448 = .ok (.putfield 175, 3) := by decide +kernel
theorem dX12_init_451 : decode cX12_init 451 = .ok (.aload_n 0, 1) := by decide +kernel
theorem dX12_init_452 : decode cX12_init 452 = .ok (.bipush 24, 2) := by decide +kernel
theorem dX12_init_454 : decode cX12_init 454 = .ok (.newarray .int, 2) := by decide +kernel
theorem dX12_init_456 : decode cX12_init 456 = .ok (.putfield 178, 3) := by decide +kernel
theorem dX12_init_459 : decode cX12_init 459 = .ok (.aload_n 0, 1) := by decide +kernel
theorem dX12_init_460 : decode cX12_init 460 = .ok (.bipush 24, 2) := by decide +kernel
theorem dX12_init_462 : decode cX12_init 462 = .ok (.newarray .int, 2) := by decide +kernel
theorem dX12_init_464 : decode cX12_init 464 = .ok (.putfield 181, 3) := by decide +kernel
theorem dX12_init_467 : decode cX12_init 467 = .ok (.aload_n 0, 1) := by decide +kernel
theorem dX12_init_468 : decode cX12_init 468 = .ok (.iconst 4, 1) := by decide +kernel
theorem dX12_init_469 : decode cX12_init 469 = .ok (.newarray .int, 2) := by decide +kernel
theorem dX12_init_471 : decode cX12_init 471 = .ok (.putfield 184, 3) := by decide +kernel
theorem dX12_init_474 : decode cX12_init 474 = .ok (.aload_n 0, 1) := by decide +kernel
theorem dX12_init_475 : decode cX12_init 475 = .ok (.bipush 24, 2) := by decide +kernel
theorem dX12_init_477 : decode cX12_init 477 = .ok (.newarray .int, 2) := by decide +kernel
theorem dX12_init_479 : decode cX12_init 479 = .ok (.putfield 187, 3) := by decide +kernel
theorem dX12_init_482 : decode cX12_init 482 = .ok (.aload_n 0, 1) := by decide +kernel
theorem dX12_init_483 : decode cX12_init 483 = .ok (.bipush 24, 2) := by decide +kernel
theorem dX12_init_485 : decode cX12_init 485 = .ok (.newarray .int, 2) := by decide +kernel
theorem dX12_init_487 : decode cX12_init 487 = .ok (.putfield 190, 3) := by decide +kernel
theorem dX12_init_490 : decode cX12_init 490 = .ok (.aload_n 0, 1) := by decide +kernel
theorem dX12_init_491 : decode cX12_init 491 = .ok (.bipush 6, 2) := by decide +kernel
theorem dX12_init_493 : decode cX12_init 493 = .ok (.newarray .int, 2) := by decide +kernel
theorem dX12_init_495 : decode cX12_init 495 = .ok (.putfield 193, 3) := by decide +kernel
theorem dX12_init_498 : decode cX12_init 498 = .ok (.aload_n 0, 1) := by decide +kernel
theorem dX12_init_499 : decode cX12_init 499 = .ok (.bipush 6, 2) := by decide +kernel
theorem dX12_init_501 : decode cX12_init 501 = .ok (.newarray .int, 2) := by decide +kernel
theorem dX12_init_503 : decode cX12_init 503 = .ok (.putfield 196, 3) := by decide +kernel
theorem dX12_init_506 : decode cX12_init 506 = .ok (.aload_n 0, 1) := by decide +kernel
theorem dX12_init_507 : decode cX12_init 507 = .ok (.bipush 6, 2) := by decide +kernel
theorem dX12_init_509 : decode cX12_init 509 = .ok (.newarray .int, 2) := by decide +kernel
theorem dX12_init_511 : decode cX12_init 511 = .ok (.putfield 199, 3) := by decide +kernel
theorem dX12_init_514 : decode cX12_init 514 = .ok (.aload_n 0, 1) := by decide +kernel
theorem dX12_init_515 : decode cX12_init 515 = .ok (.iconst 4, 1) := by decide +kernel
theorem dX12_init_516 : decode cX12_init 516 = .ok (.newarray .int, 2) := by decide +kernel
theorem dX12_init_518 : decode cX12_init 518 = .ok (.putfield 202, 3) := by decide +kernel
theorem dX12_init_521 : decode cX12_init 521 = .ok (.aload_n 0, 1) := by decide +kernel
theorem dX12_init_522 : decode cX12_init 522 = .ok (.iconst 4, 1) := by decide +kernel
theorem dX12_init_523 : decode cX12_init 523 = .ok (.newarray .int, 2) := by decide +kernel
theorem dX12_init_525 : decode cX12_init 525 = .ok (.putfield 205, 3) := by decide +kernel
theorem dX12_init_528 : decode cX12_init 528 = .ok (.aload_n 0, 1) := by decide +kernel
theorem dX12_init_529 : decode cX12_init 529 = .ok (.bipush 120, 2) := by decide +kernel
theorem dX12_init_531 : decode cX12_init 531 = .ok (.newarray .int, 2) := by decide +kernel
theorem dX12_init_533 : decode cX12_init 533 = .ok (.putfield 208, 3) := by decide +kernel
theorem dX12_init_536 : decode cX12_init 536 = .ok (.iconst 0, 1) := by decide +kernel
theorem dX12_init_537 : decode cX12_init 537 = .ok (.istore_n 1, 1) := by decide +kernel
theorem dX12_init_538 : decode cX12_init 538 = .ok (.iload_n 1, 1) := by decide +kernel
theorem dX12_init_539 : decode cX12_init 539 = .ok (.iconst 4, 1) := by decide +kernel
theorem dX12_init_540 : decode cX12_init 540 = .ok (.if_icmp .ge 16, 3) := by decide +kernel
theorem dX12_init_543 : decode cX12_init 543 = .ok (.aload_n 0, 1) := by decide +kernel
theorem dX12_init_544 : decode cX12_init 544 = .ok (.getfield 202, 3) := by decide +kernel
theorem dX12_init_547 : decode cX12_init 547 = .ok (.iload_n 1, 1) := by decide +kernel
theorem dX12_init_548 : decode cX12_init 548 = .ok (.iconst (-1), 1) := by decide +kernel
theorem dX12_init_549 : decode cX12_init 549 = .ok (.iastore, 1) := by decide +kernel
theorem dX12_init_550 : decode cX12_init 550 = .ok (.iinc 1 1, 3) := by decide +kernel
theorem dX12_init_553 : decode cX12_init 553 = .ok (.goto (-15), 3) := by decide +kernel
theorem dX12_init_556 : decode cX12_init 556 = .ok (.iconst 0, 1) := by decide +kernel
theorem dX12_init_557 : decode cX12_init 557 = .ok (.istore_n 1, 1) := by decide +kernel
theorem dX12_init_558 : decode cX12_init 558 = .ok (.iload_n 1, 1) := by decide +kernel
theorem dX12_init_559 : decode cX12_init 559 = .ok (.bipush 6, 2) := by decide +kernel
theorem dX12_init_561 : decode cX12_init 561 = .ok (.if_icmp .ge 16, 3) := by decide +kernel
theorem dX12_init_564 : decode cX12_init 564 = .ok (.aload_n 0, 1) := by decide +kernel
theorem dX12_init_565 : decode cX12_init 565 = .ok (.getfield 90, 3) := by decide +kernel
theorem dX12_init_568 : decode cX12_init 568 = .ok (.iload_n 1, 1) := by decide +kernel
theorem dX12_init_569 : decode cX12_init 569 = .ok (.iconst 3, 1) := by decide +kernel
theorem dX12_init_570 : decode cX12_init 570 = .ok (.iastore, 1) := by decide +kernel
theorem dX12_init_571 : decode cX12_init 571 = .ok (.iinc 1 1, 3) := by decide +kernel
theorem dX12_init_574 : decode cX12_init 574 = .ok (.goto (-16), 3) := by decide +kernel
theorem dX12_init_577 : decode cX12_init 577 = .ok (.return_, 1) := by decide +kernel
theorem dX12_isDay_0 : decode cX12_isDay 0 = .ok (.iload_n 0, 1) := by decide +kernel
theorem dX12_isDay_1 : decode cX12_isDay 1 = .ok (.i2l, 1) := by decide +kernel
theorem dX12_isDay_2 : decode cX12_isDay 2 = .ok (.lconst 0, 1) := by decide +kernel
theorem dX12_isDay_3 : decode cX12_isDay 3 = .ok (.ldc2_w 211, 3) := by decide +kernel
theorem dX12_isDay_6 : decode cX12_isDay 6 = .ok (.invokestatic 213, 3) := by decide +kernel
theorem dX12_isDay_9 : decode cX12_isDay 9 = .ok (.ireturn, 1) := by decide +kernel
theorem dX12_type_0 : decode cX12_type 0 = .ok (.iload_n 3, 1) := by decide +kernel
theorem dX12_type_1 : decode cX12_type 1 = .ok (.i2l, 1) := by decide +kernel
theorem dX12_type_2 : decode cX12_type 2 = .ok (.lconst 1, 1) := by decide +kernel
theorem dX12_type_3 : decode cX12_type 3 = .ok (.ldc2_w 217, 3) := by decide +kernel
theorem dX12_type_6 : decode cX12_type 6 = .ok (.invokestatic 213, 3) := by decide +kernel
theorem dX12_type_9 : decode cX12_type 9 = .ok (.ifCond .ne 5, 3) := by decide +kernel
theorem dX12_type_12 : decode cX12_type 12 = .ok (.iconst (-1), 1) := by decide +kernel
theorem dX12_type_13 : decode cX12_type 13 = .ok (.ireturn, 1) := by decide +kernel
theorem dX12_type_14 : decode cX12_type 14 = .ok (.iload_n 3, 1) := by decide +kernel
theorem dX12_type_15 : decode cX12_type 15 = .ok (.iconst 1, 1) := by decide +kernel
theorem dX12_type_16 : decode cX12_type 16 = .ok (.isub, 1) := by decide +kernel
theorem dX12_type_17 : decode cX12_type 17 = .ok (.istore 4, 2) := by decide +kernel
theorem dX12_type_19 : decode cX12_type 19 = .ok (.iload 4, 2) := by decide +kernel
theorem dX12_type_21 : decode cX12_type 21 = .ok (.ifCond .lt 34, 3) := by decide +kernel
theorem dX12_type_24 : decode cX12_type 24 = .ok (.lload_n 1, 1) := by decide +kernel
theorem dX12_type_25 : decode cX12_type 25 = .ok (.bipush 8, 2) := by decide +kernel
theorem dX12_type_27 : decode cX12_type 27 = .ok (.iload 4, 2) := by decide +kernel
theorem dX12_type_29 : decode cX12_type 29 = .ok (.imul, 1) := by decide +kernel
theorem dX12_type_30 : decode cX12_type 30 = .ok (.lshr, 1) := by decide +kernel
theorem dX12_type_31 : decode cX12_type 31 = .ok (.ldc2_w 219, 3) := by decide +kernel
theorem dX12_type_34 : decode cX12_type 34 = .ok (.land, 1) := by decide +kernel
theorem dX12_type_35 : decode cX12_type 35 = .ok (.ldc2_w 221, 3) := by decide +kernel
theorem dX12_type_38 : decode cX12_type 38 = .ok (.ldc2_w 223, 3) := by decide +kernel
theorem dX12_type_41 : decode cX12_type 41 = .ok (.invokestatic 213, 3) := by decide +kernel
theorem dX12_type_44 : decode cX12_type 44 = .ok (.ifCond .ne 5, 3) := by decide +kernel
theorem dX12_type_47 : decode cX12_type 47 = .ok (.iconst (-1), 1) := by decide +kernel
theorem dX12_type_48 : decode cX12_type 48 = .ok (.ireturn, 1) := by decide +kernel
theorem dX12_type_49 : decode cX12_type 49 = .ok (.iinc 4 (-1), 3) := by decide +kernel
theorem dX12_type_52 : decode cX12_type 52 = .ok (.goto (-33), 3) := by decide +kernel
theorem dX12_type_55 : decode cX12_type 55 = .ok (.aload_n 0, 1) := by decide +kernel
theorem dX12_type_56 : decode cX12_type 56 = .ok (.getfield 225, 3) := by decide +kernel
theorem dX12_type_59 : decode cX12_type 59 = .ok (.iload_n 3, 1) := by decide +kernel
theorem dX12_type_60 : decode cX12_type 60 = .ok (.iadd, 1) := by decide +kernel
theorem dX12_type_61 : decode cX12_type 61 = .ok (.bipush 120, 2) := by decide +kernel
theorem dX12_type_63 : decode cX12_type 63 = .ok (.if_icmp .le 6, 3) := by decide +kernel
theorem dX12_type_66 : decode cX12_type 66 = .ok (.bipush (-3), 2) := by decide +kernel
theorem dX12_type_68 : decode cX12_type 68 = .ok (.ireturn, 1) := by decide +kernel
theorem dX12_type_69 : decode cX12_type 69 = .ok (.iload_n 3, 1) := by decide +kernel
theorem dX12_type_70 : decode cX12_type 70 = .ok (.iconst 1, 1) := by decide +kernel
theorem dX12_type_71 : decode cX12_type 71 = .ok (.isub, 1) := by decide +kernel
theorem dX12_type_72 : decode cX12_type 72 = .ok (.istore 4, 2) := by decide +kernel
theorem dX12_type_74 : decode cX12_type 74 = .ok (.iload 4, 2) := by decide +kernel
theorem dX12_type_76 : decode cX12_type 76 = .ok (.ifCond .lt 40, 3) := by decide +kernel
theorem dX12_type_79 : decode cX12_type 79 = .ok (.aload_n 0, 1) := by decide +kernel
theorem dX12_type_80 : decode cX12_type 80 = .ok (.getfield 7, 3) := by decide +kernel
theorem dX12_type_83 : decode cX12_type 83 = .ok (.aload_n 0, 1) := by decide +kernel
theorem dX12_type_84 : decode cX12_type 84 = .ok (.getfield 225, 3) := by decide +kernel
theorem dX12_type_87 : decode cX12_type 87 = .ok (.lload_n 1, 1) := by decide +kernel
theorem dX12_type_88 : decode cX12_type 88 = .ok (.bipush 8, 2) := by decide +kernel
theorem dX12_type_90 : decode cX12_type 90 = .ok (.iload 4, 2) := by decide +kernel
theorem dX12_type_92 : decode cX12_type 92 = .ok (.imul, 1) := by decide +kernel
theorem dX12_type_93 : decode cX12_type 93 = .ok (.lshr, 1) := by decide +kernel
theorem dX12_type_94 : decode cX12_type 94 = .ok (.ldc2_w 219, 3) := by decide +kernel
theorem dX12_type_97 : decode cX12_type 97 = .ok (.land, 1) := by decide +kernel
theorem dX12_type_98 : decode cX12_type 98 = .ok (.l2i, 1) := by decide +kernel
theorem dX12_type_99 : decode cX12_type 99 = .ok (.iastore, 1) := by decide +kernel
theorem dX12_type_100 : decode cX12_type 100 = .ok (.aload_n 0, 1) := by decide +kernel
theorem dX12_type_101 : decode cX12_type 101 = .ok (.dup, 1) := by decide +kernel
theorem dX12_type_102 : decode cX12_type 102 = .ok (.getfield 225, 3) := by decide +kernel
theorem dX12_type_105 : decode cX12_type 105 = .ok (.iconst 1, 1) := by decide +kernel
theorem dX12_type_106 : decode cX12_type 106 = .ok (.iadd, 1) := by decide +kernel
theorem dX12_type_107 : decode cX12_type 107 = .ok (.putfield 225, 3) := by decide +kernel
theorem dX12_type_110 : decode cX12_type 110 = .ok (.iinc 4 (-1), 3) := by decide +kernel
theorem dX12_type_113 : decode cX12_type 113 = .ok (.goto (-39), 3) := by decide +kernel
theorem dX12_type_116 : decode cX12_type 116 = .ok (.aload_n 0, 1) := by decide +kernel
theorem dX12_type_117 : decode cX12_type 117 = .ok (.getfield 225, 3) := by decide +kernel
theorem dX12_type_120 : decode cX12_type 120 = .ok (.ireturn, 1) := by decide +kernel
theorem dX12_next_0 : decode cX12_next 0 = .ok (.aload_n 0, 1) := by decide +kernel
theorem dX12_next_1 : decode cX12_next 1 = .ok (.getfield 228, 3) := by decide +kernel
theorem dX12_next_4 : decode cX12_next 4 = .ok (.aload_n 0, 1) := by decide +kernel
theorem dX12_next_5 : decode cX12_next 5 = .ok (.getfield 225, 3) := by decide +kernel
theorem dX12_next_8 : decode cX12_next 8 = .ok (.if_icmp .ge 30, 3) := by decide +kernel
theorem dX12_next_11 : decode cX12_next 11 = .ok (.aload_n 0, 1) := by decide +kernel
theorem dX12_next_12 : decode cX12_next 12 = .ok (.getfield 7, 3) := by decide +kernel
theorem dX12_next_15 : decode cX12_next 15 = .ok (.aload_n 0, 1) := by decide +kernel
theorem dX12_next_16 : decode cX12_next 16 = .ok (.getfield 228, 3) := by decide +kernel
theorem dX12_next_19 : decode cX12_next 19 = .ok (.iaload, 1) := by decide +kernel
theorem dX12_next_20 : decode cX12_next 20 = .ok (.bipush 32, 2) := by decide +kernel
theorem dX12_next_22 : decode cX12_next 22 = .ok (.if_icmp .ne 16, 3) := by decide +kernel
theorem dX12_next_25 : decode cX12_next 25 = .ok (.aload_n 0, 1) := by decide +kernel
theorem dX12_next_26 : decode cX12_next 26 = .ok (.dup, 1) := by decide +kernel
theorem dX12_next_27 : decode cX12_next 27 = .ok (.getfield 228, 3) := by decide +kernel
theorem dX12_next_30 : decode cX12_next 30 = .ok (.iconst 1, 1) := by decide +kernel
theorem dX12_next_31 : decode cX12_next 31 = .ok (.iadd, 1) := by decide +kernel
theorem dX12_next_32 : decode cX12_next 32 = .ok (.putfield 228, 3) := by decide +kernel
theorem dX12_next_35 : decode cX12_next 35 = .ok (.goto (-35), 3) := by decide +kernel
theorem dX12_next_38 : decode cX12_next 38 = .ok (.aload_n 0, 1) := by decide +kernel
theorem dX12_next_39 : decode cX12_next 39 = .ok (.getfield 228, 3) := by decide +kernel
theorem dX12_next_42 : decode cX12_next 42 = .ok (.aload_n 0, 1) := by decide +kernel
theorem dX12_next_43 : decode cX12_next 43 = .ok (.getfield 225, 3) := by decide +kernel
theorem dX12_next_46 : decode cX12_next 46 = .ok (.if_icmp .ge 15, 3) := by decide +kernel
theorem dX12_next_49 : decode cX12_next 49 = .ok (.aload_n 0, 1) := by decide +kernel
theorem dX12_next_50 : decode cX12_next 50 = .ok (.getfield 7, 3) := by decide +kernel
theorem dX12_next_53 : decode cX12_next 53 = .ok (.aload_n 0, 1) := by decide +kernel
theorem dX12_next_54 : decode cX12_next 54 = .ok (.getfield 228, 3) := by decide +kernel
theorem dX12_next_57 : decode cX12_next 57 = .ok (.iaload, 1) := by decide +kernel
theorem dX12_next_58 : decode cX12_next 58 = .ok (.goto 4, 3) := by decide +kernel
theorem dX12_next_61 : decode cX12_next 61 = .ok (.iconst (-1), 1) := by decide +kernel
theorem dX12_next_62 : decode cX12_next 62 = .ok (.ireturn, 1) := by decide +kernel
theorem dX12_fail_0 : decode cX12_fail 0 = .ok (.aload_n 0, 1) := by decide +kernel
theorem dX12_fail_1 : decode cX12_fail 1 = .ok (.aload_n 0, 1) := by decide +kernel
theorem dX12_fail_2 : decode cX12_fail 2 = .ok (.getfield 231, 3) := by decide +kernel
theorem dX12_fail_5 : decode cX12_fail 5 = .ok (.ifCond .eq 10, 3) := by decide +kernel
theorem dX12_fail_8 : decode cX12_fail 8 = .ok (.aload_n 0, 1) := by decide +kernel
theorem dX12_fail_9 : decode cX12_fail 9 = .ok (.getfield 228, 3) := by decide +kernel
theorem dX12_fail_12 : decode cX12_fail 12 = .ok (.goto 4, 3) := by decide +kernel
theorem dX12_fail_15 : decode cX12_fail 15 = .ok (.iload_n 1, 1) := by decide +kernel
theorem dX12_fail_16 : decode cX12_fail 16 = .ok (.putfield 228, 3) := by decide +kernel
theorem dX12_fail_19 : decode cX12_fail 19 = .ok (.aload_n 0, 1) := by decide +kernel
theorem dX12_fail_20 : decode cX12_fail 20 = .ok (.iconst 1, 1) := by decide +kernel
theorem dX12_fail_21 : decode cX12_fail 21 = .ok (.putfield 231, 3) := by decide +kernel
theorem dX12_fail_24 : decode cX12_fail 24 = .ok (.return_, 1) := by decide +kernel
theorem dX12_takes_0 : decode cX12_takes 0 = .ok (.aload_n 0, 1) := by decide +kernel
theorem dX12_takes_1 : decode cX12_takes 1 = .ok (.getfield 231, 3) := by decide +kernel
theorem dX12_takes_4 : decode cX12_takes 4 = .ok (.ifCond .ne 15, 3) := by decide +kernel
theorem dX12_takes_7 : decode cX12_takes 7 = .ok (.aload_n 0, 1) := by decide +kernel
theorem dX12_takes_8 : decode cX12_takes 8 = .ok (.invokevirtual 235, 3) := by decide +kernel
theorem dX12_takes_11 : decode cX12_takes 11 = .ok (.iload_n 1, 1) := by decide +kernel
theorem dX12_takes_12 : decode cX12_takes 12 = .ok (.if_icmp .ne 7, 3) := by decide +kernel
theorem dX12_takes_15 : decode cX12_takes 15 = .ok (.iconst 1, 1) := by decide +kernel
theorem dX12_takes_16 : decode cX12_takes 16 = .ok (.goto 4, 3) := by decide +kernel
theorem dX12_takes_19 : decode cX12_takes 19 = .ok (.iconst 0, 1) := by decide +kernel
theorem dX12_takes_20 : decode cX12_takes 20 = .ok (.istore_n 2, 1) := by decide +kernel
theorem dX12_takes_21 : decode cX12_takes 21 = .ok (.aload_n 0, 1) := by decide +kernel
theorem dX12_takes_22 : decode cX12_takes 22 = .ok (.dup, 1) := by decide +kernel
theorem dX12_takes_23 : decode cX12_takes 23 = .ok (.getfield 228, 3) := by decide +kernel
theorem dX12_takes_26 : decode cX12_takes 26 = .ok (.iload_n 2, 1) := by decide +kernel
theorem dX12_takes_27 : decode cX12_takes 27 = .ok (.ifCond .eq 7, 3) := by decide +kernel
theorem dX12_takes_30 : decode cX12_takes 30 = .ok (.iconst 1, 1) := by decide +kernel
theorem dX12_takes_31 : decode cX12_takes 31 = .ok (.goto 4, 3) := by decide +kernel
theorem dX12_takes_34 : decode cX12_takes 34 = .ok (.iconst 0, 1) := by decide +kernel
theorem dX12_takes_35 : decode cX12_takes 35 = .ok (.iadd, 1) := by decide +kernel
theorem dX12_takes_36 : decode cX12_takes 36 = .ok (.putfield 228, 3) := by decide +kernel
theorem dX12_takes_39 : decode cX12_takes 39 = .ok (.iload_n 2, 1) := by decide +kernel
theorem dX12_takes_40 : decode cX12_takes 40 = .ok (.ireturn, 1) := by decide +kernel
theorem dX12_need_0 : decode cX12_need 0 = .ok (.aload_n 0, 1) := by decide +kernel
theorem dX12_need_1 : decode cX12_need 1 = .ok (.iload_n 1, 1) := by decide +kernel
theorem dX12_need_2 : decode cX12_need 2 = .ok (.invokevirtual 239, 3) := by decide +kernel
theorem dX12_need_5 : decode cX12_need 5 = .ok (.ifCond .ne 11, 3) := by decide +kernel
theorem dX12_need_8 : decode cX12_need 8 = .ok (.aload_n 0, 1) := by decide +kernel
theorem dX12_need_9 : decode cX12_need 9 = .ok (.aload_n 0, 1) := by decide +kernel
theorem dX12_need_10 : decode cX12_need 10 = .ok (.getfield 228, 3) := by decide +kernel
theorem dX12_need_13 : decode cX12_need 13 = .ok (.invokevirtual 243, 3) := by decide +kernel
theorem dX12_need_16 : decode cX12_need 16 = .ok (.return_, 1) := by decide +kernel
theorem dX12_number_0 : decode cX12_number 0 = .ok (.aload_n 0, 1) := by decide +kernel
theorem dX12_number_1 : decode cX12_number 1 = .ok (.getfield 231, 3) := by decide +kernel
theorem dX12_number_4 : decode cX12_number 4 = .ok (.ifCond .eq 7, 3) := by decide +kernel
theorem dX12_number_7 : decode cX12_number 7 = .ok (.iconst (-1), 1) := by decide +kernel
theorem dX12_number_8 : decode cX12_number 8 = .ok (.goto 7, 3) := by decide +kernel
theorem dX12_number_11 : decode cX12_number 11 = .ok (.aload_n 0, 1) := by decide +kernel
theorem dX12_number_12 : decode cX12_number 12 = .ok (.invokevirtual 235, 3) := by decide +kernel
theorem dX12_number_15 : decode cX12_number 15 = .ok (.istore_n 2, 1) := by decide +kernel
theorem dX12_number_16 : decode cX12_number 16 = .ok (.aload_n 0, 1) := by decide +kernel
theorem dX12_number_17 : decode cX12_number 17 = .ok (.getfield 228, 3) := by decide +kernel
theorem dX12_number_20 : decode cX12_number 20 = .ok (.istore_n 3, 1) := by decide +kernel
theorem dX12_number_21 : decode cX12_number 21 = .ok (.iconst 0, 1) := by decide +kernel
theorem dX12_number_22 : decode cX12_number 22 = .ok (.istore 4, 2) := by decide +kernel
theorem dX12_number_24 : decode cX12_number 24 = .ok (.aload_n 0, 1) := by decide +kernel
theorem dX12_number_25 : decode cX12_number 25 = .ok (.getfield 231, 3) := by decide +kernel
theorem dX12_number_28 : decode cX12_number 28 = .ok (.ifCond .ne 80, 3) := by decide +kernel
theorem dX12_number_31 : decode cX12_number 31 = .ok (.aload_n 0, 1) := by decide +kernel
theorem dX12_number_32 : decode cX12_number 32 = .ok (.getfield 228, 3) := by decide +kernel
theorem dX12_number_35 : decode cX12_number 35 = .ok (.aload_n 0, 1) := by decide +kernel
theorem dX12_number_36 : decode cX12_number 36 = .ok (.getfield 225, 3) := by decide +kernel
theorem dX12_number_39 : decode cX12_number 39 = .ok (.if_icmp .ge 69, 3) := by decide +kernel
theorem dX12_number_42 : decode cX12_number 42 = .ok (.aload_n 0, 1) := by decide +kernel
theorem dX12_number_43 : decode cX12_number 43 = .ok (.getfield 7, 3) := by decide +kernel
theorem dX12_number_46 : decode cX12_number 46 = .ok (.aload_n 0, 1) := by decide +kernel
theorem dX12_number_47 : decode cX12_number 47 = .ok (.getfield 228, 3) := by decide +kernel
theorem dX12_number_50 : decode cX12_number 50 = .ok (.iaload, 1) := by decide +kernel
theorem dX12_number_51 : decode cX12_number 51 = .ok (.i2l, 1) := by decide +kernel
theorem dX12_number_52 : decode cX12_number 52 = .ok (.ldc2_w 247, 3) := by decide +kernel
theorem dX12_number_55 : decode cX12_number 55 = .ok (.ldc2_w 249, 3) := by decide +kernel
theorem dX12_number_58 : decode cX12_number 58 = .ok (.invokestatic 213, 3) := by decide +kernel
theorem dX12_number_61 : decode cX12_number 61 = .ok (.ifCond .eq 47, 3) := by decide +kernel
theorem dX12_number_64 : decode cX12_number 64 = .ok (.iload 4, 2) := by decide +kernel
theorem dX12_number_66 : decode cX12_number 66 = .ok (.iload_n 1, 1) := by decide +kernel
theorem dX12_number_67 : decode cX12_number 67 = .ok (.if_icmp .le 8, 3) := by decide +kernel
theorem dX12_number_70 : decode cX12_number 70 = .ok (.iload 4, 2) := by decide +kernel
theorem dX12_number_72 : decode cX12_number 72 = .ok (.goto 21, 3) := by decide +kernel
theorem dX12_number_75 : decode cX12_number 75 = .ok (.bipush 10, 2) := by decide +kernel
theorem dX12_number_77 : decode cX12_number 77 = .ok (.iload 4, 2) := by decide +kernel
theorem dX12_number_79 : decode cX12_number 79 = .ok (.imul, 1) := by decide +kernel
theorem dX12_number_80 : decode cX12_number 80 = .ok (.aload_n 0, 1) := by decide +kernel
theorem dX12_number_81 : decode cX12_number 81 = .ok (.getfield 7, 3) := by decide +kernel
theorem dX12_number_84 : decode cX12_number 84 = .ok (.aload_n 0, 1) := by decide +kernel
theorem dX12_number_85 : decode cX12_number 85 = .ok (.getfield 228, 3) := by decide +kernel
theorem dX12_number_88 : decode cX12_number 88 = .ok (.iaload, 1) := by decide +kernel
theorem dX12_number_89 : decode cX12_number 89 = .ok (.iadd, 1) := by decide +kernel
theorem dX12_number_90 : decode cX12_number 90 = .ok (.bipush 48, 2) := by decide +kernel
theorem dX12_number_92 : decode cX12_number 92 = .ok (.isub, 1) := by decide +kernel
theorem dX12_number_93 : decode cX12_number 93 = .ok (.istore 4, 2) := by decide +kernel
theorem dX12_number_95 : decode cX12_number 95 = .ok (.aload_n 0, 1) := by decide +kernel
theorem dX12_number_96 : decode cX12_number 96 = .ok (.dup, 1) := by decide +kernel
theorem dX12_number_97 : decode cX12_number 97 = .ok (.getfield 228, 3) := by decide +kernel
theorem dX12_number_100 : decode cX12_number 100 = .ok (.iconst 1, 1) := by decide +kernel
theorem dX12_number_101 : decode cX12_number 101 = .ok (.iadd, 1) := by decide +kernel
theorem dX12_number_102 : decode cX12_number 102 = .ok (.putfield 228, 3) := by decide +kernel
theorem dX12_number_105 : decode cX12_number 105 = .ok (.goto (-81), 3) := by decide +kernel
theorem dX12_number_108 : decode cX12_number 108 = .ok (.iload_n 2, 1) := by decide +kernel
theorem dX12_number_109 : decode cX12_number 109 = .ok (.ifCond .lt 17, 3) := by decide +kernel
theorem dX12_number_112 : decode cX12_number 112 = .ok (.aload_n 0, 1) := by decide +kernel
theorem dX12_number_113 : decode cX12_number 113 = .ok (.getfield 228, 3) := by decide +kernel
theorem dX12_number_116 : decode cX12_number 116 = .ok (.iload_n 3, 1) := by decide +kernel
theorem dX12_number_117 : decode cX12_number 117 = .ok (.if_icmp .eq 9, 3) := by decide +kernel
theorem dX12_number_120 : decode cX12_number 120 = .ok (.iload 4, 2) := by decide +kernel
theorem dX12_number_122 : decode cX12_number 122 = .ok (.iload_n 1, 1) := by decide +kernel
theorem dX12_number_123 : decode cX12_number 123 = .ok (.if_icmp .le 8, 3) := by decide +kernel
theorem dX12_number_126 : decode cX12_number 126 = .ok (.aload_n 0, 1) := by decide +kernel
theorem dX12_number_127 : decode cX12_number 127 = .ok (.iload_n 3, 1) := by decide +kernel
theorem dX12_number_128 : decode cX12_number 128 = .ok (.invokevirtual 243, 3) := by decide +kernel
theorem dX12_number_131 : decode cX12_number 131 = .ok (.iload 4, 2) := by decide +kernel
theorem dX12_number_133 : decode cX12_number 133 = .ok (.ireturn, 1) := by decide +kernel
theorem dX12_emit_0 : decode cX12_emit 0 = .ok (.aload_n 0, 1) := by decide +kernel
theorem dX12_emit_1 : decode cX12_emit 1 = .ok (.getfield 25, 3) := by decide +kernel
theorem dX12_emit_4 : decode cX12_emit 4 = .ok (.aload_n 0, 1) := by decide +kernel
theorem dX12_emit_5 : decode cX12_emit 5 = .ok (.getfield 251, 3) := by decide +kernel
theorem dX12_emit_8 : decode cX12_emit 8 = .ok (.iload_n 1, 1) := by decide +kernel
theorem dX12_emit_9 : decode cX12_emit 9 = .ok (.iastore, 1) := by decide +kernel
theorem dX12_emit_10 : decode cX12_emit 10 = .ok (.aload_n 0, 1) := by decide +kernel
theorem dX12_emit_11 : decode cX12_emit 11 = .ok (.dup, 1) := by decide +kernel
theorem dX12_emit_12 : decode cX12_emit 12 = .ok (.getfield 251, 3) := by decide +kernel
theorem dX12_emit_15 : decode cX12_emit 15 = .ok (.iconst 1, 1) := by decide +kernel
theorem dX12_emit_16 : decode cX12_emit 16 = .ok (.iadd, 1) := by decide +kernel
theorem dX12_emit_17 : decode cX12_emit 17 = .ok (.putfield 251, 3) := by decide +kernel
theorem dX12_emit_20 : decode cX12_emit 20 = .ok (.return_, 1) := by decide +kernel
theorem dX12_turnIfTold_0 : decode cX12_turnIfTold 0 = .ok (.aload_n 0, 1) := by decide +kernel
theorem dX12_turnIfTold_1 : decode cX12_turnIfTold 1 = .ok (.getfield 254, 3) := by decide +kernel
theorem dX12_turnIfTold_4 : decode cX12_turnIfTold 4 = .ok (.ifCond .le 35, 3) := by decide +kernel
theorem dX12_turnIfTold_7 : decode cX12_turnIfTold 7 = .ok (.aload_n 0, 1) := by decide +kernel
theorem dX12_turnIfTold_8 : decode cX12_turnIfTold 8 = .ok (.getfield 28, 3) := by decide +kernel
theorem dX12_turnIfTold_11 : decode cX12_turnIfTold 11 = .ok (.aload_n 0, 1) := by decide +kernel
theorem dX12_turnIfTold_12 : decode cX12_turnIfTold 12 = .ok (.getfield 254, 3) := by decide +kernel
theorem dX12_turnIfTold_15 : decode cX12_turnIfTold 15 = .ok (.iconst 1, 1) := by decide +kernel
theorem dX12_turnIfTold_16 : decode cX12_turnIfTold 16 = .ok (.isub, 1) := by decide +kernel
theorem dX12_turnIfTold_17 : decode cX12_turnIfTold 17 = .ok (.iaload, 1) := by decide +kernel
theorem dX12_turnIfTold_18 : decode cX12_turnIfTold 18 = .ok (.bipush (-2), 2) := by decide +kernel
theorem dX12_turnIfTold_20 : decode cX12_turnIfTold 20 = .ok (.if_icmp .ne 19, 3) := by decide +kernel
theorem dX12_turnIfTold_23 : decode cX12_turnIfTold 23 = .ok (.aload_n 0, 1) := by decide +kernel
theorem dX12_turnIfTold_24 : decode cX12_turnIfTold 24 = .ok (.dup, 1) := by decide +kernel
theorem dX12_turnIfTold_25 : decode cX12_turnIfTold 25 = .ok (.getfield 254, 3) := by decide +kernel
theorem dX12_turnIfTold_28 : decode cX12_turnIfTold 28 = .ok (.iconst 1, 1) := by decide +kernel
theorem dX12_turnIfTold_29 : decode cX12_turnIfTold 29 = .ok (.isub, 1) := by decide +kernel
theorem dX12_turnIfTold_30 : decode cX12_turnIfTold 30 = .ok (.putfield 254, 3) := by decide +kernel
theorem dX12_turnIfTold_33 : decode cX12_turnIfTold 33 = .ok (.aload_n 0, 1) := by decide +kernel
theorem dX12_turnIfTold_34 : decode cX12_turnIfTold 34 = .ok (.bipush (-2), 2) := by decide +kernel
theorem dX12_turnIfTold_36 : decode cX12_turnIfTold 36 = .ok (.invokevirtual 257, 3) := by decide +kernel
theorem dX12_turnIfTold_39 : decode cX12_turnIfTold 39 = .ok (.return_, 1) := by decide +kernel
theorem dX12_comeOut_0 : decode cX12_comeOut 0 = .ok (.aload_n 0, 1) := by decide +kernel
theorem dX12_comeOut_1 : decode cX12_comeOut 1 = .ok (.getfield 254, 3) := by decide +kernel
theorem dX12_comeOut_4 : decode cX12_comeOut 4 = .ok (.ifCond .le 66, 3) := by decide +kernel
theorem dX12_comeOut_7 : decode cX12_comeOut 7 = .ok (.aload_n 0, 1) := by decide +kernel
theorem dX12_comeOut_8 : decode cX12_comeOut 8 = .ok (.getfield 28, 3) := by decide +kernel
theorem dX12_comeOut_11 : decode cX12_comeOut 11 = .ok (.aload_n 0, 1) := by decide +kernel
theorem dX12_comeOut_12 : decode cX12_comeOut 12 = .ok (.getfield 254, 3) := by decide +kernel
theorem dX12_comeOut_15 : decode cX12_comeOut 15 = .ok (.iconst 1, 1) := by decide +kernel
theorem dX12_comeOut_16 : decode cX12_comeOut 16 = .ok (.isub, 1) := by decide +kernel
theorem dX12_comeOut_17 : decode cX12_comeOut 17 = .ok (.iaload, 1) := by decide +kernel
theorem dX12_comeOut_18 : decode cX12_comeOut 18 = .ok (.iconst (-1), 1) := by decide +kernel
theorem dX12_comeOut_19 : decode cX12_comeOut 19 = .ok (.if_icmp .eq 51, 3) := by decide +kernel
theorem dX12_comeOut_22 : decode cX12_comeOut 22 = .ok (.iload_n 1, 1) := by decide +kernel
theorem dX12_comeOut_23 : decode cX12_comeOut 23 = .ok (.bipush (-4), 2) := by decide +kernel
theorem dX12_comeOut_25 : decode cX12_comeOut 25 = .ok (.if_icmp .eq 19, 3) := by decide +kernel
theorem dX12_comeOut_28 : decode cX12_comeOut 28 = .ok (.aload_n 0, 1) := by decide +kernel
theorem dX12_comeOut_29 : decode cX12_comeOut 29 = .ok (.getfield 28, 3) := by decide +kernel
theorem dX12_comeOut_32 : decode cX12_comeOut 32 = .ok (.aload_n 0, 1) := by decide +kernel
theorem dX12_comeOut_33 : decode cX12_comeOut 33 = .ok (.getfield 254, 3) := by decide +kernel
theorem dX12_comeOut_36 : decode cX12_comeOut 36 = .ok (.iconst 1, 1) := by decide +kernel
theorem dX12_comeOut_37 : decode cX12_comeOut 37 = .ok (.isub, 1) := by decide +kernel
theorem dX12_comeOut_38 : decode cX12_comeOut 38 = .ok (.iaload, 1) := by decide +kernel
theorem dX12_comeOut_39 : decode cX12_comeOut 39 = .ok (.bipush (-3), 2) := by decide +kernel
theorem dX12_comeOut_41 : decode cX12_comeOut 41 = .ok (.if_icmp .ne 29, 3) := by decide +kernel
theorem dX12_comeOut_44 : decode cX12_comeOut 44 = .ok (.aload_n 0, 1) := by decide +kernel
theorem dX12_comeOut_45 : decode cX12_comeOut 45 = .ok (.dup, 1) := by decide +kernel
theorem dX12_comeOut_46 : decode cX12_comeOut 46 = .ok (.getfield 254, 3) := by decide +kernel
theorem dX12_comeOut_49 : decode cX12_comeOut 49 = .ok (.iconst 1, 1) := by decide +kernel
theorem dX12_comeOut_50 : decode cX12_comeOut 50 = .ok (.isub, 1) := by decide +kernel
theorem dX12_comeOut_51 : decode cX12_comeOut 51 = .ok (.putfield 254, 3) := by decide +kernel
theorem dX12_comeOut_54 : decode cX12_comeOut 54 = .ok (.aload_n 0, 1) := by decide +kernel
theorem dX12_comeOut_55 : decode cX12_comeOut 55 = .ok (.aload_n 0, 1) := by decide +kernel
theorem dX12_comeOut_56 : decode cX12_comeOut 56 = .ok (.getfield 28, 3) := by decide +kernel
theorem dX12_comeOut_59 : decode cX12_comeOut 59 = .ok (.aload_n 0, 1) := by decide +kernel
theorem dX12_comeOut_60 : decode cX12_comeOut 60 = .ok (.getfield 254, 3) := by decide +kernel
theorem dX12_comeOut_63 : decode cX12_comeOut 63 = .ok (.iaload, 1) := by decide +kernel
theorem dX12_comeOut_64 : decode cX12_comeOut 64 = .ok (.invokevirtual 257, 3) := by decide +kernel
theorem dX12_comeOut_67 : decode cX12_comeOut 67 = .ok (.goto (-67), 3) := by decide +kernel
theorem dX12_comeOut_70 : decode cX12_comeOut 70 = .ok (.return_, 1) := by decide +kernel
theorem dX12_readClaim_0 : decode cX12_readClaim 0 = .ok (.iload_n 1, 1) := by decide +kernel
theorem dX12_readClaim_1 : decode cX12_readClaim 1 = .ok (.istore_n 2, 1) := by decide +kernel
theorem dX12_readClaim_2 : decode cX12_readClaim 2 = .ok (.iconst 1, 1) := by decide +kernel
theorem dX12_readClaim_3 : decode cX12_readClaim 3 = .ok (.istore_n 3, 1) := by decide +kernel
theorem dX12_readClaim_4 : decode cX12_readClaim 4 = .ok (.iload_n 3, 1) := by decide +kernel
theorem dX12_readClaim_5 : decode cX12_readClaim 5 = .ok (.ifCond .eq 106, 3) := by decide +kernel
theorem dX12_readClaim_8 : decode cX12_readClaim 8 = .ok (.aload_n 0, 1) := by decide +kernel
theorem dX12_readClaim_9 : decode cX12_readClaim 9 = .ok (.getfield 231, 3) := by decide +kernel
theorem dX12_readClaim_12 : decode cX12_readClaim 12 = .ok (.ifCond .ne 99, 3) := by decide +kernel
theorem dX12_readClaim_15 : decode cX12_readClaim 15 = .ok (.aload_n 0, 1) := by decide +kernel
theorem dX12_readClaim_16 : decode cX12_readClaim 16 = .ok (.invokevirtual 235, 3) := by decide +kernel
theorem dX12_readClaim_19 : decode cX12_readClaim 19 = .ok (.bipush 33, 2) := by decide +kernel
theorem dX12_readClaim_21 : decode cX12_readClaim 21 = .ok (.if_icmp .ne 34, 3) := by decide +kernel
theorem dX12_readClaim_24 : decode cX12_readClaim 24 = .ok (.aload_n 0, 1) := by decide +kernel
theorem dX12_readClaim_25 : decode cX12_readClaim 25 = .ok (.dup, 1) := by decide +kernel
theorem dX12_readClaim_26 : decode cX12_readClaim 26 = .ok (.getfield 228, 3) := by decide +kernel
theorem dX12_readClaim_29 : decode cX12_readClaim 29 = .ok (.iconst 1, 1) := by decide +kernel
theorem dX12_readClaim_30 : decode cX12_readClaim 30 = .ok (.iadd, 1) := by decide +kernel
theorem dX12_readClaim_31 : decode cX12_readClaim 31 = .ok (.putfield 228, 3) := by decide +kernel
theorem dX12_readClaim_34 : decode cX12_readClaim 34 = .ok (.aload_n 0, 1) := by decide +kernel
theorem dX12_readClaim_35 : decode cX12_readClaim 35 = .ok (.getfield 28, 3) := by decide +kernel
theorem dX12_readClaim_38 : decode cX12_readClaim 38 = .ok (.aload_n 0, 1) := by decide +kernel
theorem dX12_readClaim_39 : decode cX12_readClaim 39 = .ok (.getfield 254, 3) := by decide +kernel
theorem dX12_readClaim_42 : decode cX12_readClaim 42 = .ok (.bipush (-2), 2) := by decide +kernel
theorem dX12_readClaim_44 : decode cX12_readClaim 44 = .ok (.iastore, 1) := by decide +kernel
theorem dX12_readClaim_45 : decode cX12_readClaim 45 = .ok (.aload_n 0, 1) := by decide +kernel
theorem dX12_readClaim_46 : decode cX12_readClaim 46 = .ok (.dup, 1) := by decide +kernel
theorem dX12_readClaim_47 : decode cX12_readClaim 47 = .ok (.getfield 254, 3) := by decide +kernel
theorem dX12_readClaim_50 : decode cX12_readClaim 50 = .ok (.iconst 1, 1) := by decide +kernel
theorem dX12_readClaim_51 : decode cX12_readClaim 51 = .ok (.iadd, 1) := by decide +kernel
theorem dX12_readClaim_52 : decode cX12_readClaim 52 = .ok (.putfield 254, 3) := by decide +kernel
theorem dX12_readClaim_55 : decode cX12_readClaim 55 = .ok (.aload_n 0, 1) := by decide +kernel
theorem dX12_readClaim_56 : decode cX12_readClaim 56 = .ok (.invokevirtual 235, 3) := by decide +kernel
theorem dX12_readClaim_59 : decode cX12_readClaim 59 = .ok (.bipush 40, 2) := by decide +kernel
theorem dX12_readClaim_61 : decode cX12_readClaim 61 = .ok (.if_icmp .ne 45, 3) := by decide +kernel
theorem dX12_readClaim_64 : decode cX12_readClaim 64 = .ok (.iload_n 2, 1) := by decide +kernel
theorem dX12_readClaim_65 : decode cX12_readClaim 65 = .ok (.bipush 6, 2) := by decide +kernel
theorem dX12_readClaim_67 : decode cX12_readClaim 67 = .ok (.if_icmp .ge 39, 3) := by decide +kernel
theorem dX12_readClaim_70 : decode cX12_readClaim 70 = .ok (.aload_n 0, 1) := by decide +kernel
theorem dX12_readClaim_71 : decode cX12_readClaim 71 = .ok (.dup, 1) := by decide +kernel
theorem dX12_readClaim_72 : decode cX12_readClaim 72 = .ok (.getfield 228, 3) := by decide +kernel
theorem dX12_readClaim_75 : decode cX12_readClaim 75 = .ok (.iconst 1, 1) := by decide +kernel
theorem dX12_readClaim_76 : decode cX12_readClaim 76 = .ok (.iadd, 1) := by decide +kernel
theorem dX12_readClaim_77 : decode cX12_readClaim 77 = .ok (.putfield 228, 3) := by decide +kernel
theorem dX12_readClaim_80 : decode cX12_readClaim 80 = .ok (.aload_n 0, 1) := by decide +kernel
theorem dX12_readClaim_81 : decode cX12_readClaim 81 = .ok (.getfield 28, 3) := by decide +kernel
theorem dX12_readClaim_84 : decode cX12_readClaim 84 = .ok (.aload_n 0, 1) := by decide +kernel
theorem dX12_readClaim_85 : decode cX12_readClaim 85 = .ok (.getfield 254, 3) := by decide +kernel
theorem dX12_readClaim_88 : decode cX12_readClaim 88 = .ok (.iconst (-1), 1) := by decide +kernel
theorem dX12_readClaim_89 : decode cX12_readClaim 89 = .ok (.iastore, 1) := by decide +kernel
theorem dX12_readClaim_90 : decode cX12_readClaim 90 = .ok (.aload_n 0, 1) := by decide +kernel
theorem dX12_readClaim_91 : decode cX12_readClaim 91 = .ok (.dup, 1) := by decide +kernel
theorem dX12_readClaim_92 : decode cX12_readClaim 92 = .ok (.getfield 254, 3) := by decide +kernel
theorem dX12_readClaim_95 : decode cX12_readClaim 95 = .ok (.iconst 1, 1) := by decide +kernel
theorem dX12_readClaim_96 : decode cX12_readClaim 96 = .ok (.iadd, 1) := by decide +kernel
theorem dX12_readClaim_97 : decode cX12_readClaim 97 = .ok (.putfield 254, 3) := by decide +kernel
theorem dX12_readClaim_100 : decode cX12_readClaim 100 = .ok (.iinc 2 1, 3) := by decide +kernel
theorem dX12_readClaim_103 : decode cX12_readClaim 103 = .ok (.goto (-99), 3) := by decide +kernel
theorem dX12_readClaim_106 : decode cX12_readClaim 106 = .ok (.iconst 0, 1) := by decide +kernel
theorem dX12_readClaim_107 : decode cX12_readClaim 107 = .ok (.istore_n 3, 1) := by decide +kernel
theorem dX12_readClaim_108 : decode cX12_readClaim 108 = .ok (.goto (-104), 3) := by decide +kernel
theorem dX12_readClaim_111 : decode cX12_readClaim 111 = .ok (.aload_n 0, 1) := by decide +kernel
theorem dX12_readClaim_112 : decode cX12_readClaim 112 = .ok (.invokevirtual 235, 3) := by decide +kernel
theorem dX12_readClaim_115 : decode cX12_readClaim 115 = .ok (.istore 4, 2) := by decide +kernel
theorem dX12_readClaim_117 : decode cX12_readClaim 117 = .ok (.iload 4, 2) := by decide +kernel
theorem dX12_readClaim_119 : decode cX12_readClaim 119 = .ok (.i2l, 1) := by decide +kernel
theorem dX12_readClaim_120 : decode cX12_readClaim 120 = .ok (.ldc2_w 260, 3) := by decide +kernel
theorem dX12_readClaim_123 : decode cX12_readClaim 123 = .ok (.ldc2_w 262, 3) := by decide +kernel
theorem dX12_readClaim_126 : decode cX12_readClaim 126 = .ok (.invokestatic 213, 3) := by decide +kernel
theorem dX12_readClaim_129 : decode cX12_readClaim 129 = .ok (.ifCond .ne 13, 3) := by decide +kernel
theorem dX12_readClaim_132 : decode cX12_readClaim 132 = .ok (.aload_n 0, 1) := by decide +kernel
theorem dX12_readClaim_133 : decode cX12_readClaim 133 = .ok (.aload_n 0, 1) := by decide +kernel
theorem dX12_readClaim_134 : decode cX12_readClaim 134 = .ok (.getfield 228, 3) := by decide +kernel
theorem dX12_readClaim_137 : decode cX12_readClaim 137 = .ok (.invokevirtual 243, 3) := by decide +kernel
theorem dX12_readClaim_140 : decode cX12_readClaim 140 = .ok (.iload_n 2, 1) := by decide +kernel
theorem dX12_readClaim_141 : decode cX12_readClaim 141 = .ok (.ireturn, 1) := by decide +kernel
theorem dX12_readClaim_142 : decode cX12_readClaim 142 = .ok (.aload_n 0, 1) := by decide +kernel
theorem dX12_readClaim_143 : decode cX12_readClaim 143 = .ok (.dup, 1) := by decide +kernel
theorem dX12_readClaim_144 : decode cX12_readClaim 144 = .ok (.getfield 228, 3) := by decide +kernel
theorem dX12_readClaim_147 : decode cX12_readClaim 147 = .ok (.iconst 1, 1) := by decide +kernel
theorem dX12_readClaim_148 : decode cX12_readClaim 148 = .ok (.iadd, 1) := by decide +kernel
theorem dX12_readClaim_149 : decode cX12_readClaim 149 = .ok (.putfield 228, 3) := by decide +kernel
theorem dX12_readClaim_152 : decode cX12_readClaim 152 = .ok (.aload_n 0, 1) := by decide +kernel
theorem dX12_readClaim_153 : decode cX12_readClaim 153 = .ok (.dup, 1) := by decide +kernel
theorem dX12_readClaim_154 : decode cX12_readClaim 154 = .ok (.getfield 264, 3) := by decide +kernel
theorem dX12_readClaim_157 : decode cX12_readClaim 157 = .ok (.iconst 1, 1) := by decide +kernel
theorem dX12_readClaim_158 : decode cX12_readClaim 158 = .ok (.iload 4, 2) := by decide +kernel
theorem dX12_readClaim_160 : decode cX12_readClaim 160 = .ok (.bipush 97, 2) := by decide +kernel
theorem dX12_readClaim_162 : decode cX12_readClaim 162 = .ok (.isub, 1) := by decide +kernel
theorem dX12_readClaim_163 : decode cX12_readClaim 163 = .ok (.ishl, 1) := by decide +kernel
theorem dX12_readClaim_164 : decode cX12_readClaim 164 = .ok (.ior, 1) := by decide +kernel
theorem dX12_readClaim_165 : decode cX12_readClaim 165 = .ok (.putfield 264, 3) := by decide +kernel
theorem dX12_readClaim_168 : decode cX12_readClaim 168 = .ok (.aload_n 0, 1) := by decide +kernel
theorem dX12_readClaim_169 : decode cX12_readClaim 169 = .ok (.bipush 62, 2) := by decide +kernel
theorem dX12_readClaim_171 : decode cX12_readClaim 171 = .ok (.invokevirtual 239, 3) := by decide +kernel
theorem dX12_readClaim_174 : decode cX12_readClaim 174 = .ok (.ifCond .eq 28, 3) := by decide +kernel
theorem dX12_readClaim_177 : decode cX12_readClaim 177 = .ok (.aload_n 0, 1) := by decide +kernel
theorem dX12_readClaim_178 : decode cX12_readClaim 178 = .ok (.bipush 8, 2) := by decide +kernel
theorem dX12_readClaim_180 : decode cX12_readClaim 180 = .ok (.bipush 8, 2) := by decide +kernel
theorem dX12_readClaim_182 : decode cX12_readClaim 182 = .ok (.aload_n 0, 1) := by decide +kernel
theorem dX12_readClaim_183 : decode cX12_readClaim 183 = .ok (.bipush 100, 2) := by decide +kernel
theorem dX12_readClaim_185 : decode cX12_readClaim 185 = .ok (.invokevirtual 267, 3) := by decide +kernel
theorem dX12_readClaim_188 : decode cX12_readClaim 188 = .ok (.imul, 1) := by decide +kernel
theorem dX12_readClaim_189 : decode cX12_readClaim 189 = .ok (.iadd, 1) := by decide +kernel
theorem dX12_readClaim_190 : decode cX12_readClaim 190 = .ok (.iload 4, 2) := by decide +kernel
theorem dX12_readClaim_192 : decode cX12_readClaim 192 = .ok (.iadd, 1) := by decide +kernel
theorem dX12_readClaim_193 : decode cX12_readClaim 193 = .ok (.bipush 97, 2) := by decide +kernel
theorem dX12_readClaim_195 : decode cX12_readClaim 195 = .ok (.isub, 1) := by decide +kernel
theorem dX12_readClaim_196 : decode cX12_readClaim 196 = .ok (.invokevirtual 257, 3) := by decide +kernel
theorem dX12_readClaim_199 : decode cX12_readClaim 199 = .ok (.goto 12, 3) := by decide +kernel
theorem dX12_readClaim_202 : decode cX12_readClaim 202 = .ok (.aload_n 0, 1) := by decide +kernel
theorem dX12_readClaim_203 : decode cX12_readClaim 203 = .ok (.iload 4, 2) := by decide +kernel
theorem dX12_readClaim_205 : decode cX12_readClaim 205 = .ok (.bipush 97, 2) := by decide +kernel
theorem dX12_readClaim_207 : decode cX12_readClaim 207 = .ok (.isub, 1) := by decide +kernel
theorem dX12_readClaim_208 : decode cX12_readClaim 208 = .ok (.invokevirtual 257, 3) := by decide +kernel
theorem dX12_readClaim_211 : decode cX12_readClaim 211 = .ok (.aload_n 0, 1) := by decide +kernel
theorem dX12_readClaim_212 : decode cX12_readClaim 212 = .ok (.invokevirtual 271, 3) := by decide +kernel
theorem dX12_readClaim_215 : decode cX12_readClaim 215 = .ok (.iload_n 2, 1) := by decide +kernel
theorem dX12_readClaim_216 : decode cX12_readClaim 216 = .ok (.ireturn, 1) := by decide +kernel
theorem dX12_readLeans_0 : decode cX12_readLeans 0 = .ok (.iconst 0, 1) := by decide +kernel
theorem dX12_readLeans_1 : decode cX12_readLeans 1 = .ok (.istore_n 1, 1) := by decide +kernel
theorem dX12_readLeans_2 : decode cX12_readLeans 2 = .ok (.aload_n 0, 1) := by decide +kernel
theorem dX12_readLeans_3 : decode cX12_readLeans 3 = .ok (.iconst 0, 1) := by decide +kernel
theorem dX12_readLeans_4 : decode cX12_readLeans 4 = .ok (.putfield 254, 3) := by decide +kernel
theorem dX12_readLeans_7 : decode cX12_readLeans 7 = .ok (.iconst 1, 1) := by decide +kernel
theorem dX12_readLeans_8 : decode cX12_readLeans 8 = .ok (.istore_n 2, 1) := by decide +kernel
theorem dX12_readLeans_9 : decode cX12_readLeans 9 = .ok (.iload_n 2, 1) := by decide +kernel
theorem dX12_readLeans_10 : decode cX12_readLeans 10 = .ok (.ifCond .eq 139, 3) := by decide +kernel
theorem dX12_readLeans_13 : decode cX12_readLeans 13 = .ok (.aload_n 0, 1) := by decide +kernel
theorem dX12_readLeans_14 : decode cX12_readLeans 14 = .ok (.getfield 231, 3) := by decide +kernel
theorem dX12_readLeans_17 : decode cX12_readLeans 17 = .ok (.ifCond .ne 132, 3) := by decide +kernel
theorem dX12_readLeans_20 : decode cX12_readLeans 20 = .ok (.aload_n 0, 1) := by decide +kernel
theorem dX12_readLeans_21 : decode cX12_readLeans 21 = .ok (.iload_n 1, 1) := by decide +kernel
theorem dX12_readLeans_22 : decode cX12_readLeans 22 = .ok (.invokevirtual 274, 3) := by decide +kernel
theorem dX12_readLeans_25 : decode cX12_readLeans 25 = .ok (.istore_n 1, 1) := by decide +kernel
theorem dX12_readLeans_26 : decode cX12_readLeans 26 = .ok (.iload_n 1, 1) := by decide +kernel
theorem dX12_readLeans_27 : decode cX12_readLeans 27 = .ok (.ifCond .le 38, 3) := by decide +kernel
theorem dX12_readLeans_30 : decode cX12_readLeans 30 = .ok (.aload_n 0, 1) := by decide +kernel
theorem dX12_readLeans_31 : decode cX12_readLeans 31 = .ok (.bipush 41, 2) := by decide +kernel
theorem dX12_readLeans_33 : decode cX12_readLeans 33 = .ok (.invokevirtual 239, 3) := by decide +kernel
theorem dX12_readLeans_36 : decode cX12_readLeans 36 = .ok (.ifCond .eq 29, 3) := by decide +kernel
theorem dX12_readLeans_39 : decode cX12_readLeans 39 = .ok (.aload_n 0, 1) := by decide +kernel
theorem dX12_readLeans_40 : decode cX12_readLeans 40 = .ok (.bipush (-4), 2) := by decide +kernel
theorem dX12_readLeans_42 : decode cX12_readLeans 42 = .ok (.invokevirtual 277, 3) := by decide +kernel
theorem dX12_readLeans_45 : decode cX12_readLeans 45 = .ok (.aload_n 0, 1) := by decide +kernel
theorem dX12_readLeans_46 : decode cX12_readLeans 46 = .ok (.dup, 1) := by decide +kernel
theorem dX12_readLeans_47 : decode cX12_readLeans 47 = .ok (.getfield 254, 3) := by decide +kernel
theorem dX12_readLeans_50 : decode cX12_readLeans 50 = .ok (.iconst 1, 1) := by decide +kernel
theorem dX12_readLeans_51 : decode cX12_readLeans 51 = .ok (.isub, 1) := by decide +kernel
theorem dX12_readLeans_52 : decode cX12_readLeans 52 = .ok (.putfield 254, 3) := by decide +kernel
theorem dX12_readLeans_55 : decode cX12_readLeans 55 = .ok (.iinc 1 (-1), 3) := by decide +kernel
theorem dX12_readLeans_58 : decode cX12_readLeans 58 = .ok (.aload_n 0, 1) := by decide +kernel
theorem dX12_readLeans_59 : decode cX12_readLeans 59 = .ok (.invokevirtual 271, 3) := by decide +kernel
theorem dX12_readLeans_62 : decode cX12_readLeans 62 = .ok (.goto (-36), 3) := by decide +kernel
theorem dX12_readLeans_65 : decode cX12_readLeans 65 = .ok (.iconst 0, 1) := by decide +kernel
theorem dX12_readLeans_66 : decode cX12_readLeans 66 = .ok (.istore_n 2, 1) := by decide +kernel
theorem dX12_readLeans_67 : decode cX12_readLeans 67 = .ok (.aload_n 0, 1) := by decide +kernel
theorem dX12_readLeans_68 : decode cX12_readLeans 68 = .ok (.bipush 38, 2) := by decide +kernel
theorem dX12_readLeans_70 : decode cX12_readLeans 70 = .ok (.invokevirtual 239, 3) := by decide +kernel
theorem dX12_readLeans_73 : decode cX12_readLeans 73 = .ok (.ifCond .eq 35, 3) := by decide +kernel
theorem dX12_readLeans_76 : decode cX12_readLeans 76 = .ok (.aload_n 0, 1) := by decide +kernel
theorem dX12_readLeans_77 : decode cX12_readLeans 77 = .ok (.bipush (-3), 2) := by decide +kernel
theorem dX12_readLeans_79 : decode cX12_readLeans 79 = .ok (.invokevirtual 277, 3) := by decide +kernel
theorem dX12_readLeans_82 : decode cX12_readLeans 82 = .ok (.aload_n 0, 1) := by decide +kernel
theorem dX12_readLeans_83 : decode cX12_readLeans 83 = .ok (.getfield 28, 3) := by decide +kernel
theorem dX12_readLeans_86 : decode cX12_readLeans 86 = .ok (.aload_n 0, 1) := by decide +kernel
theorem dX12_readLeans_87 : decode cX12_readLeans 87 = .ok (.getfield 254, 3) := by decide +kernel
theorem dX12_readLeans_90 : decode cX12_readLeans 90 = .ok (.bipush (-3), 2) := by decide +kernel
theorem dX12_readLeans_92 : decode cX12_readLeans 92 = .ok (.iastore, 1) := by decide +kernel
theorem dX12_readLeans_93 : decode cX12_readLeans 93 = .ok (.aload_n 0, 1) := by decide +kernel
theorem dX12_readLeans_94 : decode cX12_readLeans 94 = .ok (.dup, 1) := by decide +kernel
theorem dX12_readLeans_95 : decode cX12_readLeans 95 = .ok (.getfield 254, 3) := by decide +kernel
theorem dX12_readLeans_98 : decode cX12_readLeans 98 = .ok (.iconst 1, 1) := by decide +kernel
theorem dX12_readLeans_99 : decode cX12_readLeans 99 = .ok (.iadd, 1) := by decide +kernel
theorem dX12_readLeans_100 : decode cX12_readLeans 100 = .ok (.putfield 254, 3) := by decide +kernel
theorem dX12_readLeans_103 : decode cX12_readLeans 103 = .ok (.iconst 1, 1) := by decide +kernel
theorem dX12_readLeans_104 : decode cX12_readLeans 104 = .ok (.istore_n 2, 1) := by decide +kernel
theorem dX12_readLeans_105 : decode cX12_readLeans 105 = .ok (.goto (-96), 3) := by decide +kernel
theorem dX12_readLeans_108 : decode cX12_readLeans 108 = .ok (.aload_n 0, 1) := by decide +kernel
theorem dX12_readLeans_109 : decode cX12_readLeans 109 = .ok (.bipush 124, 2) := by decide +kernel
theorem dX12_readLeans_111 : decode cX12_readLeans 111 = .ok (.invokevirtual 239, 3) := by decide +kernel
theorem dX12_readLeans_114 : decode cX12_readLeans 114 = .ok (.ifCond .eq (-105), 3) := by decide +kernel
theorem dX12_readLeans_117 : decode cX12_readLeans 117 = .ok (.aload_n 0, 1) := by decide +kernel
theorem dX12_readLeans_118 : decode cX12_readLeans 118 = .ok (.bipush (-4), 2) := by decide +kernel
theorem dX12_readLeans_120 : decode cX12_readLeans 120 = .ok (.invokevirtual 277, 3) := by decide +kernel
theorem dX12_readLeans_123 : decode cX12_readLeans 123 = .ok (.aload_n 0, 1) := by decide +kernel
theorem dX12_readLeans_124 : decode cX12_readLeans 124 = .ok (.getfield 28, 3) := by decide +kernel
theorem dX12_readLeans_127 : decode cX12_readLeans 127 = .ok (.aload_n 0, 1) := by decide +kernel
theorem dX12_readLeans_128 : decode cX12_readLeans 128 = .ok (.getfield 254, 3) := by decide +kernel
theorem dX12_readLeans_131 : decode cX12_readLeans 131 = .ok (.bipush (-4), 2) := by decide +kernel
theorem dX12_readLeans_133 : decode cX12_readLeans 133 = .ok (.iastore, 1) := by decide +kernel
theorem dX12_readLeans_134 : decode cX12_readLeans 134 = .ok (.aload_n 0, 1) := by decide +kernel
theorem dX12_readLeans_135 : decode cX12_readLeans 135 = .ok (.dup, 1) := by decide +kernel
theorem dX12_readLeans_136 : decode cX12_readLeans 136 = .ok (.getfield 254, 3) := by decide +kernel
theorem dX12_readLeans_139 : decode cX12_readLeans 139 = .ok (.iconst 1, 1) := by decide +kernel
theorem dX12_readLeans_140 : decode cX12_readLeans 140 = .ok (.iadd, 1) := by decide +kernel
theorem dX12_readLeans_141 : decode cX12_readLeans 141 = .ok (.putfield 254, 3) := by decide +kernel
theorem dX12_readLeans_144 : decode cX12_readLeans 144 = .ok (.iconst 1, 1) := by decide +kernel
theorem dX12_readLeans_145 : decode cX12_readLeans 145 = .ok (.istore_n 2, 1) := by decide +kernel
theorem dX12_readLeans_146 : decode cX12_readLeans 146 = .ok (.goto (-137), 3) := by decide +kernel
theorem dX12_readLeans_149 : decode cX12_readLeans 149 = .ok (.iload_n 1, 1) := by decide +kernel
theorem dX12_readLeans_150 : decode cX12_readLeans 150 = .ok (.ifCond .le 11, 3) := by decide +kernel
theorem dX12_readLeans_153 : decode cX12_readLeans 153 = .ok (.aload_n 0, 1) := by decide +kernel
theorem dX12_readLeans_154 : decode cX12_readLeans 154 = .ok (.aload_n 0, 1) := by decide +kernel
theorem dX12_readLeans_155 : decode cX12_readLeans 155 = .ok (.getfield 228, 3) := by decide +kernel
theorem dX12_readLeans_158 : decode cX12_readLeans 158 = .ok (.invokevirtual 243, 3) := by decide +kernel
theorem dX12_readLeans_161 : decode cX12_readLeans 161 = .ok (.aload_n 0, 1) := by decide +kernel
theorem dX12_readLeans_162 : decode cX12_readLeans 162 = .ok (.bipush (-4), 2) := by decide +kernel
theorem dX12_readLeans_164 : decode cX12_readLeans 164 = .ok (.invokevirtual 277, 3) := by decide +kernel
theorem dX12_readLeans_167 : decode cX12_readLeans 167 = .ok (.return_, 1) := by decide +kernel
theorem dX12_readLesson_0 : decode cX12_readLesson 0 = .ok (.aload_n 0, 1) := by decide +kernel
theorem dX12_readLesson_1 : decode cX12_readLesson 1 = .ok (.invokevirtual 235, 3) := by decide +kernel
theorem dX12_readLesson_4 : decode cX12_readLesson 4 = .ok (.istore_n 1, 1) := by decide +kernel
theorem dX12_readLesson_5 : decode cX12_readLesson 5 = .ok (.iload_n 1, 1) := by decide +kernel
theorem dX12_readLesson_6 : decode cX12_readLesson 6 = .ok (.bipush 97, 2) := by decide +kernel
theorem dX12_readLesson_8 : decode cX12_readLesson 8 = .ok (.isub, 1) := by decide +kernel
theorem dX12_readLesson_9 : decode cX12_readLesson 9 = .ok (.istore_n 2, 1) := by decide +kernel
theorem dX12_readLesson_10 : decode cX12_readLesson 10 = .ok (.iload_n 2, 1) := by decide +kernel
theorem dX12_readLesson_11 : decode cX12_readLesson 11 = .ok (.i2l, 1) := by decide +kernel
theorem dX12_readLesson_12 : decode cX12_readLesson 12 = .ok (.lconst 0, 1) := by decide +kernel
theorem dX12_readLesson_13 : decode cX12_readLesson 13 = .ok (.ldc2_w 280, 3) := by decide +kernel
theorem dX12_readLesson_16 : decode cX12_readLesson 16 = .ok (.invokestatic 213, 3) := by decide +kernel
theorem dX12_readLesson_19 : decode cX12_readLesson 19 = .ok (.ifCond .eq 15, 3) := by decide +kernel
theorem dX12_readLesson_22 : decode cX12_readLesson 22 = .ok (.aload_n 0, 1) := by decide +kernel
theorem dX12_readLesson_23 : decode cX12_readLesson 23 = .ok (.getfield 282, 3) := by decide +kernel
theorem dX12_readLesson_26 : decode cX12_readLesson 26 = .ok (.iload_n 2, 1) := by decide +kernel
theorem dX12_readLesson_27 : decode cX12_readLesson 27 = .ok (.ishr, 1) := by decide +kernel
theorem dX12_readLesson_28 : decode cX12_readLesson 28 = .ok (.iconst 1, 1) := by decide +kernel
theorem dX12_readLesson_29 : decode cX12_readLesson 29 = .ok (.iand, 1) := by decide +kernel
theorem dX12_readLesson_30 : decode cX12_readLesson 30 = .ok (.iconst 1, 1) := by decide +kernel
theorem dX12_readLesson_31 : decode cX12_readLesson 31 = .ok (.if_icmp .ne 12, 3) := by decide +kernel
theorem dX12_readLesson_34 : decode cX12_readLesson 34 = .ok (.aload_n 0, 1) := by decide +kernel
theorem dX12_readLesson_35 : decode cX12_readLesson 35 = .ok (.aload_n 0, 1) := by decide +kernel
theorem dX12_readLesson_36 : decode cX12_readLesson 36 = .ok (.getfield 228, 3) := by decide +kernel
theorem dX12_readLesson_39 : decode cX12_readLesson 39 = .ok (.invokevirtual 243, 3) := by decide +kernel
theorem dX12_readLesson_42 : decode cX12_readLesson 42 = .ok (.return_, 1) := by decide +kernel
theorem dX12_readLesson_43 : decode cX12_readLesson 43 = .ok (.aload_n 0, 1) := by decide +kernel
theorem dX12_readLesson_44 : decode cX12_readLesson 44 = .ok (.dup, 1) := by decide +kernel
theorem dX12_readLesson_45 : decode cX12_readLesson 45 = .ok (.getfield 228, 3) := by decide +kernel
theorem dX12_readLesson_48 : decode cX12_readLesson 48 = .ok (.iconst 1, 1) := by decide +kernel
theorem dX12_readLesson_49 : decode cX12_readLesson 49 = .ok (.iadd, 1) := by decide +kernel
theorem dX12_readLesson_50 : decode cX12_readLesson 50 = .ok (.putfield 228, 3) := by decide +kernel
theorem dX12_readLesson_53 : decode cX12_readLesson 53 = .ok (.aload_n 0, 1) := by decide +kernel
theorem dX12_readLesson_54 : decode cX12_readLesson 54 = .ok (.bipush 61, 2) := by decide +kernel
theorem dX12_readLesson_56 : decode cX12_readLesson 56 = .ok (.invokevirtual 285, 3) := by decide +kernel
theorem dX12_readLesson_59 : decode cX12_readLesson 59 = .ok (.aload_n 0, 1) := by decide +kernel
theorem dX12_readLesson_60 : decode cX12_readLesson 60 = .ok (.getfield 13, 3) := by decide +kernel
theorem dX12_readLesson_63 : decode cX12_readLesson 63 = .ok (.iload_n 2, 1) := by decide +kernel
theorem dX12_readLesson_64 : decode cX12_readLesson 64 = .ok (.aload_n 0, 1) := by decide +kernel
theorem dX12_readLesson_65 : decode cX12_readLesson 65 = .ok (.bipush 39, 2) := by decide +kernel
theorem dX12_readLesson_67 : decode cX12_readLesson 67 = .ok (.invokevirtual 267, 3) := by decide +kernel
theorem dX12_readLesson_70 : decode cX12_readLesson 70 = .ok (.iastore, 1) := by decide +kernel
theorem dX12_readLesson_71 : decode cX12_readLesson 71 = .ok (.aload_n 0, 1) := by decide +kernel
theorem dX12_readLesson_72 : decode cX12_readLesson 72 = .ok (.bipush 47, 2) := by decide +kernel
theorem dX12_readLesson_74 : decode cX12_readLesson 74 = .ok (.invokevirtual 285, 3) := by decide +kernel
theorem dX12_readLesson_77 : decode cX12_readLesson 77 = .ok (.aload_n 0, 1) := by decide +kernel
theorem dX12_readLesson_78 : decode cX12_readLesson 78 = .ok (.getfield 16, 3) := by decide +kernel
theorem dX12_readLesson_81 : decode cX12_readLesson 81 = .ok (.iload_n 2, 1) := by decide +kernel
theorem dX12_readLesson_82 : decode cX12_readLesson 82 = .ok (.aload_n 0, 1) := by decide +kernel
theorem dX12_readLesson_83 : decode cX12_readLesson 83 = .ok (.bipush 100, 2) := by decide +kernel
theorem dX12_readLesson_85 : decode cX12_readLesson 85 = .ok (.invokevirtual 267, 3) := by decide +kernel
theorem dX12_readLesson_88 : decode cX12_readLesson 88 = .ok (.iastore, 1) := by decide +kernel
theorem dX12_readLesson_89 : decode cX12_readLesson 89 = .ok (.aload_n 0, 1) := by decide +kernel
theorem dX12_readLesson_90 : decode cX12_readLesson 90 = .ok (.dup, 1) := by decide +kernel
theorem dX12_readLesson_91 : decode cX12_readLesson 91 = .ok (.getfield 282, 3) := by decide +kernel
theorem dX12_readLesson_94 : decode cX12_readLesson 94 = .ok (.iconst 1, 1) := by decide +kernel
theorem dX12_readLesson_95 : decode cX12_readLesson 95 = .ok (.iload_n 2, 1) := by decide +kernel
theorem dX12_readLesson_96 : decode cX12_readLesson 96 = .ok (.ishl, 1) := by decide +kernel
theorem dX12_readLesson_97 : decode cX12_readLesson 97 = .ok (.ior, 1) := by decide +kernel
theorem dX12_readLesson_98 : decode cX12_readLesson 98 = .ok (.putfield 282, 3) := by decide +kernel
theorem dX12_readLesson_101 : decode cX12_readLesson 101 = .ok (.aload_n 0, 1) := by decide +kernel
theorem dX12_readLesson_102 : decode cX12_readLesson 102 = .ok (.getfield 19, 3) := by decide +kernel
theorem dX12_readLesson_105 : decode cX12_readLesson 105 = .ok (.iload_n 2, 1) := by decide +kernel
theorem dX12_readLesson_106 : decode cX12_readLesson 106 = .ok (.aload_n 0, 1) := by decide +kernel
theorem dX12_readLesson_107 : decode cX12_readLesson 107 = .ok (.getfield 251, 3) := by decide +kernel
theorem dX12_readLesson_110 : decode cX12_readLesson 110 = .ok (.iastore, 1) := by decide +kernel
theorem dX12_readLesson_111 : decode cX12_readLesson 111 = .ok (.aload_n 0, 1) := by decide +kernel
theorem dX12_readLesson_112 : decode cX12_readLesson 112 = .ok (.bipush 58, 2) := by decide +kernel
theorem dX12_readLesson_114 : decode cX12_readLesson 114 = .ok (.invokevirtual 239, 3) := by decide +kernel
theorem dX12_readLesson_117 : decode cX12_readLesson 117 = .ok (.ifCond .eq 7, 3) := by decide +kernel
theorem dX12_readLesson_120 : decode cX12_readLesson 120 = .ok (.aload_n 0, 1) := by decide +kernel
theorem dX12_readLesson_121 : decode cX12_readLesson 121 = .ok (.invokevirtual 288, 3) := by decide +kernel
theorem dX12_readLesson_124 : decode cX12_readLesson 124 = .ok (.aload_n 0, 1) := by decide +kernel
theorem dX12_readLesson_125 : decode cX12_readLesson 125 = .ok (.getfield 22, 3) := by decide +kernel
theorem dX12_readLesson_128 : decode cX12_readLesson 128 = .ok (.iload_n 2, 1) := by decide +kernel
theorem dX12_readLesson_129 : decode cX12_readLesson 129 = .ok (.aload_n 0, 1) := by decide +kernel
theorem dX12_readLesson_130 : decode cX12_readLesson 130 = .ok (.getfield 251, 3) := by decide +kernel
theorem dX12_readLesson_133 : decode cX12_readLesson 133 = .ok (.iastore, 1) := by decide +kernel
theorem dX12_readLesson_134 : decode cX12_readLesson 134 = .ok (.return_, 1) := by decide +kernel
theorem dX12_readEdition_0 : decode cX12_readEdition 0 = .ok (.aload_n 0, 1) := by decide +kernel
theorem dX12_readEdition_1 : decode cX12_readEdition 1 = .ok (.iconst 0, 1) := by decide +kernel
theorem dX12_readEdition_2 : decode cX12_readEdition 2 = .ok (.putfield 228, 3) := by decide +kernel
theorem dX12_readEdition_5 : decode cX12_readEdition 5 = .ok (.aload_n 0, 1) := by decide +kernel
theorem dX12_readEdition_6 : decode cX12_readEdition 6 = .ok (.iconst 0, 1) := by decide +kernel
theorem dX12_readEdition_7 : decode cX12_readEdition 7 = .ok (.putfield 231, 3) := by decide +kernel
theorem dX12_readEdition_10 : decode cX12_readEdition 10 = .ok (.aload_n 0, 1) := by decide +kernel
theorem dX12_readEdition_11 : decode cX12_readEdition 11 = .ok (.iconst 0, 1) := by decide +kernel
theorem dX12_readEdition_12 : decode cX12_readEdition 12 = .ok (.putfield 251, 3) := by decide +kernel
theorem dX12_readEdition_15 : decode cX12_readEdition 15 = .ok (.aload_n 0, 1) := by decide +kernel
theorem dX12_readEdition_16 : decode cX12_readEdition 16 = .ok (.iconst 0, 1) := by decide +kernel
theorem dX12_readEdition_17 : decode cX12_readEdition 17 = .ok (.putfield 282, 3) := by decide +kernel
theorem dX12_readEdition_20 : decode cX12_readEdition 20 = .ok (.aload_n 0, 1) := by decide +kernel
theorem dX12_readEdition_21 : decode cX12_readEdition 21 = .ok (.iconst 0, 1) := by decide +kernel
theorem dX12_readEdition_22 : decode cX12_readEdition 22 = .ok (.putfield 264, 3) := by decide +kernel
theorem dX12_readEdition_25 : decode cX12_readEdition 25 = .ok (.aload_n 0, 1) := by decide +kernel
theorem dX12_readEdition_26 : decode cX12_readEdition 26 = .ok (.iconst 0, 1) := by decide +kernel
theorem dX12_readEdition_27 : decode cX12_readEdition 27 = .ok (.putfield 291, 3) := by decide +kernel
theorem dX12_readEdition_30 : decode cX12_readEdition 30 = .ok (.iconst 1, 1) := by decide +kernel
theorem dX12_readEdition_31 : decode cX12_readEdition 31 = .ok (.istore_n 1, 1) := by decide +kernel
theorem dX12_readEdition_32 : decode cX12_readEdition 32 = .ok (.iload_n 1, 1) := by decide +kernel
theorem dX12_readEdition_33 : decode cX12_readEdition 33 = .ok (.ifCond .eq 51, 3) := by decide +kernel
theorem dX12_readEdition_36 : decode cX12_readEdition 36 = .ok (.aload_n 0, 1) := by decide +kernel
theorem dX12_readEdition_37 : decode cX12_readEdition 37 = .ok (.getfield 231, 3) := by decide +kernel
theorem dX12_readEdition_40 : decode cX12_readEdition 40 = .ok (.ifCond .ne 44, 3) := by decide +kernel
theorem dX12_readEdition_43 : decode cX12_readEdition 43 = .ok (.aload_n 0, 1) := by decide +kernel
theorem dX12_readEdition_44 : decode cX12_readEdition 44 = .ok (.invokevirtual 294, 3) := by decide +kernel
theorem dX12_readEdition_47 : decode cX12_readEdition 47 = .ok (.aload_n 0, 1) := by decide +kernel
theorem dX12_readEdition_48 : decode cX12_readEdition 48 = .ok (.dup, 1) := by decide +kernel
theorem dX12_readEdition_49 : decode cX12_readEdition 49 = .ok (.getfield 291, 3) := by decide +kernel
theorem dX12_readEdition_52 : decode cX12_readEdition 52 = .ok (.iconst 1, 1) := by decide +kernel
theorem dX12_readEdition_53 : decode cX12_readEdition 53 = .ok (.iadd, 1) := by decide +kernel
theorem dX12_readEdition_54 : decode cX12_readEdition 54 = .ok (.putfield 291, 3) := by decide +kernel
theorem dX12_readEdition_57 : decode cX12_readEdition 57 = .ok (.aload_n 0, 1) := by decide +kernel
theorem dX12_readEdition_58 : decode cX12_readEdition 58 = .ok (.getfield 291, 3) := by decide +kernel
theorem dX12_readEdition_61 : decode cX12_readEdition 61 = .ok (.bipush 8, 2) := by decide +kernel
theorem dX12_readEdition_63 : decode cX12_readEdition 63 = .ok (.if_icmp .ge 16, 3) := by decide +kernel
theorem dX12_readEdition_66 : decode cX12_readEdition 66 = .ok (.aload_n 0, 1) := by decide +kernel
theorem dX12_readEdition_67 : decode cX12_readEdition 67 = .ok (.bipush 59, 2) := by decide +kernel
theorem dX12_readEdition_69 : decode cX12_readEdition 69 = .ok (.invokevirtual 239, 3) := by decide +kernel
theorem dX12_readEdition_72 : decode cX12_readEdition 72 = .ok (.ifCond .eq 7, 3) := by decide +kernel
theorem dX12_readEdition_75 : decode cX12_readEdition 75 = .ok (.iconst 1, 1) := by decide +kernel
theorem dX12_readEdition_76 : decode cX12_readEdition 76 = .ok (.goto 4, 3) := by decide +kernel
theorem dX12_readEdition_79 : decode cX12_readEdition 79 = .ok (.iconst 0, 1) := by decide +kernel
theorem dX12_readEdition_80 : decode cX12_readEdition 80 = .ok (.istore_n 1, 1) := by decide +kernel
theorem dX12_readEdition_81 : decode cX12_readEdition 81 = .ok (.goto (-49), 3) := by decide +kernel
theorem dX12_readEdition_84 : decode cX12_readEdition 84 = .ok (.aload_n 0, 1) := by decide +kernel
theorem dX12_readEdition_85 : decode cX12_readEdition 85 = .ok (.getfield 231, 3) := by decide +kernel
theorem dX12_readEdition_88 : decode cX12_readEdition 88 = .ok (.ifCond .ne 10, 3) := by decide +kernel
theorem dX12_readEdition_91 : decode cX12_readEdition 91 = .ok (.aload_n 0, 1) := by decide +kernel
theorem dX12_readEdition_92 : decode cX12_readEdition 92 = .ok (.invokevirtual 235, 3) := by decide +kernel
theorem dX12_readEdition_95 : decode cX12_readEdition 95 = .ok (.ifCond .ge 17, 3) := by decide +kernel
theorem dX12_readEdition_98 : decode cX12_readEdition 98 = .ok (.aload_n 0, 1) := by decide +kernel
theorem dX12_readEdition_99 : decode cX12_readEdition 99 = .ok (.getfield 264, 3) := by decide +kernel
theorem dX12_readEdition_102 : decode cX12_readEdition 102 = .ok (.aload_n 0, 1) := by decide +kernel
theorem dX12_readEdition_103 : decode cX12_readEdition 103 = .ok (.getfield 282, 3) := by decide +kernel
theorem dX12_readEdition_106 : decode cX12_readEdition 106 = .ok (.iconst (-1), 1) := by decide +kernel
theorem dX12_readEdition_107 : decode cX12_readEdition 107 = .ok (.ixor, 1) := by decide +kernel
theorem dX12_readEdition_108 : decode cX12_readEdition 108 = .ok (.iand, 1) := by decide +kernel
theorem dX12_readEdition_109 : decode cX12_readEdition 109 = .ok (.ifCond .eq 25, 3) := by decide +kernel
theorem dX12_readEdition_112 : decode cX12_readEdition 112 = .ok (.aload_n 0, 1) := by decide +kernel
theorem dX12_readEdition_113 : decode cX12_readEdition 113 = .ok (.aload_n 0, 1) := by decide +kernel
theorem dX12_readEdition_114 : decode cX12_readEdition 114 = .ok (.invokevirtual 235, 3) := by decide +kernel
theorem dX12_readEdition_117 : decode cX12_readEdition 117 = .ok (.ifCond .lt 10, 3) := by decide +kernel
theorem dX12_readEdition_120 : decode cX12_readEdition 120 = .ok (.aload_n 0, 1) := by decide +kernel
theorem dX12_readEdition_121 : decode cX12_readEdition 121 = .ok (.getfield 228, 3) := by decide +kernel
theorem dX12_readEdition_124 : decode cX12_readEdition 124 = .ok (.goto 7, 3) := by decide +kernel
theorem dX12_readEdition_127 : decode cX12_readEdition 127 = .ok (.aload_n 0, 1) := by decide +kernel
theorem dX12_readEdition_128 : decode cX12_readEdition 128 = .ok (.getfield 225, 3) := by decide +kernel
theorem dX12_readEdition_131 : decode cX12_readEdition 131 = .ok (.invokevirtual 243, 3) := by decide +kernel
theorem dX12_readEdition_134 : decode cX12_readEdition 134 = .ok (.return_, 1) := by decide +kernel
theorem dX12_isCourse_0 : decode cX12_isCourse 0 = .ok (.iload_n 0, 1) := by decide +kernel
theorem dX12_isCourse_1 : decode cX12_isCourse 1 = .ok (.i2l, 1) := by decide +kernel
theorem dX12_isCourse_2 : decode cX12_isCourse 2 = .ok (.lconst 0, 1) := by decide +kernel
theorem dX12_isCourse_3 : decode cX12_isCourse 3 = .ok (.ldc2_w 297, 3) := by decide +kernel
theorem dX12_isCourse_6 : decode cX12_isCourse 6 = .ok (.invokestatic 213, 3) := by decide +kernel
theorem dX12_isCourse_9 : decode cX12_isCourse 9 = .ok (.ireturn, 1) := by decide +kernel
theorem dX12_edition_0 : decode cX12_edition 0 = .ok (.iload_n 1, 1) := by decide +kernel
theorem dX12_edition_1 : decode cX12_edition 1 = .ok (.invokestatic 299, 3) := by decide +kernel
theorem dX12_edition_4 : decode cX12_edition 4 = .ok (.ifCond .eq 10, 3) := by decide +kernel
theorem dX12_edition_7 : decode cX12_edition 7 = .ok (.iload_n 2, 1) := by decide +kernel
theorem dX12_edition_8 : decode cX12_edition 8 = .ok (.invokestatic 302, 3) := by decide +kernel
theorem dX12_edition_11 : decode cX12_edition 11 = .ok (.ifCond .ne 5, 3) := by decide +kernel
theorem dX12_edition_14 : decode cX12_edition 14 = .ok (.iconst (-1), 1) := by decide +kernel
theorem dX12_edition_15 : decode cX12_edition 15 = .ok (.ireturn, 1) := by decide +kernel
theorem dX12_edition_16 : decode cX12_edition 16 = .ok (.aload_n 0, 1) := by decide +kernel
theorem dX12_edition_17 : decode cX12_edition 17 = .ok (.getfield 31, 3) := by decide +kernel
theorem dX12_edition_20 : decode cX12_edition 20 = .ok (.iload_n 1, 1) := by decide +kernel
theorem dX12_edition_21 : decode cX12_edition 21 = .ok (.iaload, 1) := by decide +kernel
theorem dX12_edition_22 : decode cX12_edition 22 = .ok (.istore_n 3, 1) := by decide +kernel
theorem dX12_edition_23 : decode cX12_edition 23 = .ok (.iload_n 3, 1) := by decide +kernel
theorem dX12_edition_24 : decode cX12_edition 24 = .ok (.ifCond .le 22, 3) := by decide +kernel
theorem dX12_edition_27 : decode cX12_edition 27 = .ok (.iload_n 2, 1) := by decide +kernel
theorem dX12_edition_28 : decode cX12_edition 28 = .ok (.aload_n 0, 1) := by decide +kernel
theorem dX12_edition_29 : decode cX12_edition 29 = .ok (.getfield 34, 3) := by decide +kernel
theorem dX12_edition_32 : decode cX12_edition 32 = .ok (.bipush 6, 2) := by decide +kernel
theorem dX12_edition_34 : decode cX12_edition 34 = .ok (.iload_n 1, 1) := by decide +kernel
theorem dX12_edition_35 : decode cX12_edition 35 = .ok (.imul, 1) := by decide +kernel
theorem dX12_edition_36 : decode cX12_edition 36 = .ok (.iload_n 3, 1) := by decide +kernel
theorem dX12_edition_37 : decode cX12_edition 37 = .ok (.iadd, 1) := by decide +kernel
theorem dX12_edition_38 : decode cX12_edition 38 = .ok (.iconst 1, 1) := by decide +kernel
theorem dX12_edition_39 : decode cX12_edition 39 = .ok (.isub, 1) := by decide +kernel
theorem dX12_edition_40 : decode cX12_edition 40 = .ok (.iaload, 1) := by decide +kernel
theorem dX12_edition_41 : decode cX12_edition 41 = .ok (.if_icmp .ge 5, 3) := by decide +kernel
theorem dX12_edition_44 : decode cX12_edition 44 = .ok (.iconst (-1), 1) := by decide +kernel
theorem dX12_edition_45 : decode cX12_edition 45 = .ok (.ireturn, 1) := by decide +kernel
theorem dX12_edition_46 : decode cX12_edition 46 = .ok (.aload_n 0, 1) := by decide +kernel
theorem dX12_edition_47 : decode cX12_edition 47 = .ok (.invokevirtual 305, 3) := by decide +kernel
theorem dX12_edition_50 : decode cX12_edition 50 = .ok (.aload_n 0, 1) := by decide +kernel
theorem dX12_edition_51 : decode cX12_edition 51 = .ok (.iconst 0, 1) := by decide +kernel
theorem dX12_edition_52 : decode cX12_edition 52 = .ok (.putfield 225, 3) := by decide +kernel
theorem dX12_edition_55 : decode cX12_edition 55 = .ok (.aload_n 0, 1) := by decide +kernel
theorem dX12_edition_56 : decode cX12_edition 56 = .ok (.getfield 231, 3) := by decide +kernel
theorem dX12_edition_59 : decode cX12_edition 59 = .ok (.ifCond .eq 11, 3) := by decide +kernel
theorem dX12_edition_62 : decode cX12_edition 62 = .ok (.bipush (-20), 2) := by decide +kernel
theorem dX12_edition_64 : decode cX12_edition 64 = .ok (.aload_n 0, 1) := by decide +kernel
theorem dX12_edition_65 : decode cX12_edition 65 = .ok (.getfield 228, 3) := by decide +kernel
theorem dX12_edition_68 : decode cX12_edition 68 = .ok (.isub, 1) := by decide +kernel
theorem dX12_edition_69 : decode cX12_edition 69 = .ok (.ireturn, 1) := by decide +kernel
theorem dX12_edition_70 : decode cX12_edition 70 = .ok (.iload_n 3, 1) := by decide +kernel
theorem dX12_edition_71 : decode cX12_edition 71 = .ok (.bipush 6, 2) := by decide +kernel
theorem dX12_edition_73 : decode cX12_edition 73 = .ok (.if_icmp .ne 6, 3) := by decide +kernel
theorem dX12_edition_76 : decode cX12_edition 76 = .ok (.bipush (-3), 2) := by decide +kernel
theorem dX12_edition_78 : decode cX12_edition 78 = .ok (.ireturn, 1) := by decide +kernel
theorem dX12_edition_79 : decode cX12_edition 79 = .ok (.bipush 6, 2) := by decide +kernel
theorem dX12_edition_81 : decode cX12_edition 81 = .ok (.iload_n 1, 1) := by decide +kernel
theorem dX12_edition_82 : decode cX12_edition 82 = .ok (.imul, 1) := by decide +kernel
theorem dX12_edition_83 : decode cX12_edition 83 = .ok (.iload_n 3, 1) := by decide +kernel
theorem dX12_edition_84 : decode cX12_edition 84 = .ok (.iadd, 1) := by decide +kernel
theorem dX12_edition_85 : decode cX12_edition 85 = .ok (.istore 4, 2) := by decide +kernel
theorem dX12_edition_87 : decode cX12_edition 87 = .ok (.aload_n 0, 1) := by decide +kernel
theorem dX12_edition_88 : decode cX12_edition 88 = .ok (.getfield 34, 3) := by decide +kernel
theorem dX12_edition_91 : decode cX12_edition 91 = .ok (.iload 4, 2) := by decide +kernel
theorem dX12_edition_93 : decode cX12_edition 93 = .ok (.iload_n 2, 1) := by decide +kernel
theorem dX12_edition_94 : decode cX12_edition 94 = .ok (.iastore, 1) := by decide +kernel
theorem dX12_edition_95 : decode cX12_edition 95 = .ok (.aload_n 0, 1) := by decide +kernel
theorem dX12_edition_96 : decode cX12_edition 96 = .ok (.getfield 37, 3) := by decide +kernel
theorem dX12_edition_99 : decode cX12_edition 99 = .ok (.iload 4, 2) := by decide +kernel
theorem dX12_edition_101 : decode cX12_edition 101 = .ok (.aload_n 0, 1) := by decide +kernel
theorem dX12_edition_102 : decode cX12_edition 102 = .ok (.getfield 282, 3) := by decide +kernel
theorem dX12_edition_105 : decode cX12_edition 105 = .ok (.iastore, 1) := by decide +kernel
theorem dX12_edition_106 : decode cX12_edition 106 = .ok (.iconst 0, 1) := by decide +kernel
theorem dX12_edition_107 : decode cX12_edition 107 = .ok (.istore 5, 2) := by decide +kernel
theorem dX12_edition_109 : decode cX12_edition 109 = .ok (.iload 5, 2) := by decide +kernel
theorem dX12_edition_111 : decode cX12_edition 111 = .ok (.bipush 8, 2) := by decide +kernel
theorem dX12_edition_113 : decode cX12_edition 113 = .ok (.if_icmp .ge 89, 3) := by decide +kernel
theorem dX12_edition_116 : decode cX12_edition 116 = .ok (.aload_n 0, 1) := by decide +kernel
theorem dX12_edition_117 : decode cX12_edition 117 = .ok (.getfield 40, 3) := by decide +kernel
theorem dX12_edition_120 : decode cX12_edition 120 = .ok (.bipush 8, 2) := by decide +kernel
theorem dX12_edition_122 : decode cX12_edition 122 = .ok (.iload 4, 2) := by decide +kernel
theorem dX12_edition_124 : decode cX12_edition 124 = .ok (.imul, 1) := by decide +kernel
theorem dX12_edition_125 : decode cX12_edition 125 = .ok (.iload 5, 2) := by decide +kernel
theorem dX12_edition_127 : decode cX12_edition 127 = .ok (.iadd, 1) := by decide +kernel
theorem dX12_edition_128 : decode cX12_edition 128 = .ok (.aload_n 0, 1) := by decide +kernel
theorem dX12_edition_129 : decode cX12_edition 129 = .ok (.getfield 13, 3) := by decide +kernel
theorem dX12_edition_132 : decode cX12_edition 132 = .ok (.iload 5, 2) := by decide +kernel
theorem dX12_edition_134 : decode cX12_edition 134 = .ok (.iaload, 1) := by decide +kernel
theorem dX12_edition_135 : decode cX12_edition 135 = .ok (.iastore, 1) := by decide +kernel
theorem dX12_edition_136 : decode cX12_edition 136 = .ok (.aload_n 0, 1) := by decide +kernel
theorem dX12_edition_137 : decode cX12_edition 137 = .ok (.getfield 43, 3) := by decide +kernel
theorem dX12_edition_140 : decode cX12_edition 140 = .ok (.bipush 8, 2) := by decide +kernel
theorem dX12_edition_142 : decode cX12_edition 142 = .ok (.iload 4, 2) := by decide +kernel
theorem dX12_edition_144 : decode cX12_edition 144 = .ok (.imul, 1) := by decide +kernel
theorem dX12_edition_145 : decode cX12_edition 145 = .ok (.iload 5, 2) := by decide +kernel
theorem dX12_edition_147 : decode cX12_edition 147 = .ok (.iadd, 1) := by decide +kernel
theorem dX12_edition_148 : decode cX12_edition 148 = .ok (.aload_n 0, 1) := by decide +kernel
theorem dX12_edition_149 : decode cX12_edition 149 = .ok (.getfield 16, 3) := by decide +kernel
theorem dX12_edition_152 : decode cX12_edition 152 = .ok (.iload 5, 2) := by decide +kernel
theorem dX12_edition_154 : decode cX12_edition 154 = .ok (.iaload, 1) := by decide +kernel
theorem dX12_edition_155 : decode cX12_edition 155 = .ok (.iastore, 1) := by decide +kernel
theorem dX12_edition_156 : decode cX12_edition 156 = .ok (.aload_n 0, 1) := by decide +kernel
theorem dX12_edition_157 : decode cX12_edition 157 = .ok (.getfield 46, 3) := by decide +kernel
theorem dX12_edition_160 : decode cX12_edition 160 = .ok (.bipush 8, 2) := by decide +kernel
theorem dX12_edition_162 : decode cX12_edition 162 = .ok (.iload 4, 2) := by decide +kernel
theorem dX12_edition_164 : decode cX12_edition 164 = .ok (.imul, 1) := by decide +kernel
theorem dX12_edition_165 : decode cX12_edition 165 = .ok (.iload 5, 2) := by decide +kernel
theorem dX12_edition_167 : decode cX12_edition 167 = .ok (.iadd, 1) := by decide +kernel
theorem dX12_edition_168 : decode cX12_edition 168 = .ok (.aload_n 0, 1) := by decide +kernel
theorem dX12_edition_169 : decode cX12_edition 169 = .ok (.getfield 19, 3) := by decide +kernel
theorem dX12_edition_172 : decode cX12_edition 172 = .ok (.iload 5, 2) := by decide +kernel
theorem dX12_edition_174 : decode cX12_edition 174 = .ok (.iaload, 1) := by decide +kernel
theorem dX12_edition_175 : decode cX12_edition 175 = .ok (.iastore, 1) := by decide +kernel
theorem dX12_edition_176 : decode cX12_edition 176 = .ok (.aload_n 0, 1) := by decide +kernel
theorem dX12_edition_177 : decode cX12_edition 177 = .ok (.getfield 49, 3) := by decide +kernel
theorem dX12_edition_180 : decode cX12_edition 180 = .ok (.bipush 8, 2) := by decide +kernel
theorem dX12_edition_182 : decode cX12_edition 182 = .ok (.iload 4, 2) := by decide +kernel
theorem dX12_edition_184 : decode cX12_edition 184 = .ok (.imul, 1) := by decide +kernel
theorem dX12_edition_185 : decode cX12_edition 185 = .ok (.iload 5, 2) := by decide +kernel
theorem dX12_edition_187 : decode cX12_edition 187 = .ok (.iadd, 1) := by decide +kernel
theorem dX12_edition_188 : decode cX12_edition 188 = .ok (.aload_n 0, 1) := by decide +kernel
theorem dX12_edition_189 : decode cX12_edition 189 = .ok (.getfield 22, 3) := by decide +kernel
theorem dX12_edition_192 : decode cX12_edition 192 = .ok (.iload 5, 2) := by decide +kernel
theorem dX12_edition_194 : decode cX12_edition 194 = .ok (.iaload, 1) := by decide +kernel
theorem dX12_edition_195 : decode cX12_edition 195 = .ok (.iastore, 1) := by decide +kernel
theorem dX12_edition_196 : decode cX12_edition 196 = .ok (.iinc 5 1, 3) := by decide +kernel
theorem dX12_edition_199 : decode cX12_edition 199 = .ok (.goto (-90), 3) := by decide +kernel
theorem dX12_edition_202 : decode cX12_edition 202 = .ok (.iconst 0, 1) := by decide +kernel
theorem dX12_edition_203 : decode cX12_edition 203 = .ok (.istore 5, 2) := by decide +kernel
theorem dX12_edition_205 : decode cX12_edition 205 = .ok (.iload 5, 2) := by decide +kernel
theorem dX12_edition_207 : decode cX12_edition 207 = .ok (.aload_n 0, 1) := by decide +kernel
theorem dX12_edition_208 : decode cX12_edition 208 = .ok (.getfield 251, 3) := by decide +kernel
theorem dX12_edition_211 : decode cX12_edition 211 = .ok (.if_icmp .ge 30, 3) := by decide +kernel
theorem dX12_edition_214 : decode cX12_edition 214 = .ok (.aload_n 0, 1) := by decide +kernel
theorem dX12_edition_215 : decode cX12_edition 215 = .ok (.getfield 52, 3) := by decide +kernel
theorem dX12_edition_218 : decode cX12_edition 218 = .ok (.sipush 128, 3) := by decide +kernel
theorem dX12_edition_221 : decode cX12_edition 221 = .ok (.iload 4, 2) := by decide +kernel
theorem dX12_edition_223 : decode cX12_edition 223 = .ok (.imul, 1) := by decide +kernel
theorem dX12_edition_224 : decode cX12_edition 224 = .ok (.iload 5, 2) := by decide +kernel
theorem dX12_edition_226 : decode cX12_edition 226 = .ok (.iadd, 1) := by decide +kernel
theorem dX12_edition_227 : decode cX12_edition 227 = .ok (.aload_n 0, 1) := by decide +kernel
theorem dX12_edition_228 : decode cX12_edition 228 = .ok (.getfield 25, 3) := by decide +kernel
theorem dX12_edition_231 : decode cX12_edition 231 = .ok (.iload 5, 2) := by decide +kernel
theorem dX12_edition_233 : decode cX12_edition 233 = .ok (.iaload, 1) := by decide +kernel
theorem dX12_edition_234 : decode cX12_edition 234 = .ok (.iastore, 1) := by decide +kernel
theorem dX12_edition_235 : decode cX12_edition 235 = .ok (.iinc 5 1, 3) := by decide +kernel
theorem dX12_edition_238 : decode cX12_edition 238 = .ok (.goto (-33), 3) := by decide +kernel
theorem dX12_edition_241 : decode cX12_edition 241 = .ok (.aload_n 0, 1) := by decide +kernel
theorem dX12_edition_242 : decode cX12_edition 242 = .ok (.getfield 31, 3) := by decide +kernel
theorem dX12_edition_245 : decode cX12_edition 245 = .ok (.iload_n 1, 1) := by decide +kernel
theorem dX12_edition_246 : decode cX12_edition 246 = .ok (.dup2, 1) := by decide +kernel
theorem dX12_edition_247 : decode cX12_edition 247 = .ok (.iaload, 1) := by decide +kernel
theorem dX12_edition_248 : decode cX12_edition 248 = .ok (.iconst 1, 1) := by decide +kernel
theorem dX12_edition_249 : decode cX12_edition 249 = .ok (.iadd, 1) := by decide +kernel
theorem dX12_edition_250 : decode cX12_edition 250 = .ok (.iastore, 1) := by decide +kernel
theorem dX12_edition_251 : decode cX12_edition 251 = .ok (.iload_n 3, 1) := by decide +kernel
theorem dX12_edition_252 : decode cX12_edition 252 = .ok (.ireturn, 1) := by decide +kernel
theorem dX12_ones_0 : decode cX12_ones 0 = .ok (.iconst 0, 1) := by decide +kernel
theorem dX12_ones_1 : decode cX12_ones 1 = .ok (.istore_n 1, 1) := by decide +kernel
theorem dX12_ones_2 : decode cX12_ones 2 = .ok (.iload_n 0, 1) := by decide +kernel
theorem dX12_ones_3 : decode cX12_ones 3 = .ok (.istore_n 2, 1) := by decide +kernel
theorem dX12_ones_4 : decode cX12_ones 4 = .ok (.iload_n 2, 1) := by decide +kernel
theorem dX12_ones_5 : decode cX12_ones 5 = .ok (.ifCond .eq 15, 3) := by decide +kernel
theorem dX12_ones_8 : decode cX12_ones 8 = .ok (.iinc 1 1, 3) := by decide +kernel
theorem dX12_ones_11 : decode cX12_ones 11 = .ok (.iload_n 2, 1) := by decide +kernel
theorem dX12_ones_12 : decode cX12_ones 12 = .ok (.iload_n 2, 1) := by decide +kernel
theorem dX12_ones_13 : decode cX12_ones 13 = .ok (.iconst 1, 1) := by decide +kernel
theorem dX12_ones_14 : decode cX12_ones 14 = .ok (.isub, 1) := by decide +kernel
theorem dX12_ones_15 : decode cX12_ones 15 = .ok (.iand, 1) := by decide +kernel
theorem dX12_ones_16 : decode cX12_ones 16 = .ok (.istore_n 2, 1) := by decide +kernel
theorem dX12_ones_17 : decode cX12_ones 17 = .ok (.goto (-13), 3) := by decide +kernel
theorem dX12_ones_20 : decode cX12_ones 20 = .ok (.iload_n 1, 1) := by decide +kernel
theorem dX12_ones_21 : decode cX12_ones 21 = .ok (.ireturn, 1) := by decide +kernel
theorem dX12_isEdition_0 : decode cX12_isEdition 0 = .ok (.iload_n 1, 1) := by decide +kernel
theorem dX12_isEdition_1 : decode cX12_isEdition 1 = .ok (.invokestatic 299, 3) := by decide +kernel
theorem dX12_isEdition_4 : decode cX12_isEdition 4 = .ok (.ifCond .eq 25, 3) := by decide +kernel
theorem dX12_isEdition_7 : decode cX12_isEdition 7 = .ok (.iload_n 2, 1) := by decide +kernel
theorem dX12_isEdition_8 : decode cX12_isEdition 8 = .ok (.i2l, 1) := by decide +kernel
theorem dX12_isEdition_9 : decode cX12_isEdition 9 = .ok (.lconst 0, 1) := by decide +kernel
theorem dX12_isEdition_10 : decode cX12_isEdition 10 = .ok (.aload_n 0, 1) := by decide +kernel
theorem dX12_isEdition_11 : decode cX12_isEdition 11 = .ok (.getfield 31, 3) := by decide +kernel
theorem dX12_isEdition_14 : decode cX12_isEdition 14 = .ok (.iload_n 1, 1) := by decide +kernel
theorem dX12_isEdition_15 : decode cX12_isEdition 15 = .ok (.iaload, 1) := by decide +kernel
theorem dX12_isEdition_16 : decode cX12_isEdition 16 = .ok (.iconst 1, 1) := by decide +kernel
theorem dX12_isEdition_17 : decode cX12_isEdition 17 = .ok (.isub, 1) := by decide +kernel
theorem dX12_isEdition_18 : decode cX12_isEdition 18 = .ok (.i2l, 1) := by decide +kernel
theorem dX12_isEdition_19 : decode cX12_isEdition 19 = .ok (.invokestatic 213, 3) := by decide +kernel
theorem dX12_isEdition_22 : decode cX12_isEdition 22 = .ok (.ifCond .eq 7, 3) := by decide +kernel
theorem dX12_isEdition_25 : decode cX12_isEdition 25 = .ok (.iconst 1, 1) := by decide +kernel
theorem dX12_isEdition_26 : decode cX12_isEdition 26 = .ok (.goto 4, 3) := by decide +kernel
theorem dX12_isEdition_29 : decode cX12_isEdition 29 = .ok (.iconst 0, 1) := by decide +kernel
theorem dX12_isEdition_30 : decode cX12_isEdition 30 = .ok (.ireturn, 1) := by decide +kernel
theorem dX12_told_0 : decode cX12_told 0 = .ok (.aload_n 0, 1) := by decide +kernel
theorem dX12_told_1 : decode cX12_told 1 = .ok (.iload_n 1, 1) := by decide +kernel
theorem dX12_told_2 : decode cX12_told 2 = .ok (.iload_n 2, 1) := by decide +kernel
theorem dX12_told_3 : decode cX12_told 3 = .ok (.invokevirtual 308, 3) := by decide +kernel
theorem dX12_told_6 : decode cX12_told 6 = .ok (.ifCond .eq 15, 3) := by decide +kernel
theorem dX12_told_9 : decode cX12_told 9 = .ok (.iload_n 3, 1) := by decide +kernel
theorem dX12_told_10 : decode cX12_told 10 = .ok (.i2l, 1) := by decide +kernel
theorem dX12_told_11 : decode cX12_told 11 = .ok (.lconst 0, 1) := by decide +kernel
theorem dX12_told_12 : decode cX12_told 12 = .ok (.ldc2_w 312, 3) := by decide +kernel
theorem dX12_told_15 : decode cX12_told 15 = .ok (.invokestatic 213, 3) := by decide +kernel
theorem dX12_told_18 : decode cX12_told 18 = .ok (.ifCond .ne 5, 3) := by decide +kernel
theorem dX12_told_21 : decode cX12_told 21 = .ok (.iconst (-1), 1) := by decide +kernel
theorem dX12_told_22 : decode cX12_told 22 = .ok (.ireturn, 1) := by decide +kernel
theorem dX12_told_23 : decode cX12_told 23 = .ok (.bipush 6, 2) := by decide +kernel
theorem dX12_told_25 : decode cX12_told 25 = .ok (.iload_n 1, 1) := by decide +kernel
theorem dX12_told_26 : decode cX12_told 26 = .ok (.imul, 1) := by decide +kernel
theorem dX12_told_27 : decode cX12_told 27 = .ok (.iload_n 2, 1) := by decide +kernel
theorem dX12_told_28 : decode cX12_told 28 = .ok (.iadd, 1) := by decide +kernel
theorem dX12_told_29 : decode cX12_told 29 = .ok (.istore 4, 2) := by decide +kernel
theorem dX12_told_31 : decode cX12_told 31 = .ok (.iload_n 3, 1) := by decide +kernel
theorem dX12_told_32 : decode cX12_told 32 = .ok (.ifCond .ne 13, 3) := by decide +kernel
theorem dX12_told_35 : decode cX12_told 35 = .ok (.aload_n 0, 1) := by decide +kernel
theorem dX12_told_36 : decode cX12_told 36 = .ok (.getfield 34, 3) := by decide +kernel
theorem dX12_told_39 : decode cX12_told 39 = .ok (.iload 4, 2) := by decide +kernel
theorem dX12_told_41 : decode cX12_told 41 = .ok (.iaload, 1) := by decide +kernel
theorem dX12_told_42 : decode cX12_told 42 = .ok (.goto 28, 3) := by decide +kernel
theorem dX12_told_45 : decode cX12_told 45 = .ok (.iload_n 3, 1) := by decide +kernel
theorem dX12_told_46 : decode cX12_told 46 = .ok (.iconst 1, 1) := by decide +kernel
theorem dX12_told_47 : decode cX12_told 47 = .ok (.if_icmp .ne 16, 3) := by decide +kernel
theorem dX12_told_50 : decode cX12_told 50 = .ok (.aload_n 0, 1) := by decide +kernel
theorem dX12_told_51 : decode cX12_told 51 = .ok (.getfield 37, 3) := by decide +kernel
theorem dX12_told_54 : decode cX12_told 54 = .ok (.iload 4, 2) := by decide +kernel
theorem dX12_told_56 : decode cX12_told 56 = .ok (.iaload, 1) := by decide +kernel
theorem dX12_told_57 : decode cX12_told 57 = .ok (.invokestatic 314, 3) := by decide +kernel
theorem dX12_told_60 : decode cX12_told 60 = .ok (.goto 10, 3) := by decide +kernel
theorem dX12_told_63 : decode cX12_told 63 = .ok (.aload_n 0, 1) := by decide +kernel
theorem dX12_told_64 : decode cX12_told 64 = .ok (.getfield 37, 3) := by decide +kernel
theorem dX12_told_67 : decode cX12_told 67 = .ok (.iload 4, 2) := by decide +kernel
theorem dX12_told_69 : decode cX12_told 69 = .ok (.iaload, 1) := by decide +kernel
theorem dX12_told_70 : decode cX12_told 70 = .ok (.ireturn, 1) := by decide +kernel
theorem dX12_hasLesson_0 : decode cX12_hasLesson 0 = .ok (.iload_n 2, 1) := by decide +kernel
theorem dX12_hasLesson_1 : decode cX12_hasLesson 1 = .ok (.i2l, 1) := by decide +kernel
theorem dX12_hasLesson_2 : decode cX12_hasLesson 2 = .ok (.lconst 0, 1) := by decide +kernel
theorem dX12_hasLesson_3 : decode cX12_hasLesson 3 = .ok (.ldc2_w 280, 3) := by decide +kernel
theorem dX12_hasLesson_6 : decode cX12_hasLesson 6 = .ok (.invokestatic 213, 3) := by decide +kernel
theorem dX12_hasLesson_9 : decode cX12_hasLesson 9 = .ok (.ifCond .eq 21, 3) := by decide +kernel
theorem dX12_hasLesson_12 : decode cX12_hasLesson 12 = .ok (.aload_n 0, 1) := by decide +kernel
theorem dX12_hasLesson_13 : decode cX12_hasLesson 13 = .ok (.getfield 37, 3) := by decide +kernel
theorem dX12_hasLesson_16 : decode cX12_hasLesson 16 = .ok (.iload_n 1, 1) := by decide +kernel
theorem dX12_hasLesson_17 : decode cX12_hasLesson 17 = .ok (.iaload, 1) := by decide +kernel
theorem dX12_hasLesson_18 : decode cX12_hasLesson 18 = .ok (.iload_n 2, 1) := by decide +kernel
theorem dX12_hasLesson_19 : decode cX12_hasLesson 19 = .ok (.ishr, 1) := by decide +kernel
theorem dX12_hasLesson_20 : decode cX12_hasLesson 20 = .ok (.iconst 1, 1) := by decide +kernel
theorem dX12_hasLesson_21 : decode cX12_hasLesson 21 = .ok (.iand, 1) := by decide +kernel
theorem dX12_hasLesson_22 : decode cX12_hasLesson 22 = .ok (.iconst 1, 1) := by decide +kernel
theorem dX12_hasLesson_23 : decode cX12_hasLesson 23 = .ok (.if_icmp .ne 7, 3) := by decide +kernel
theorem dX12_hasLesson_26 : decode cX12_hasLesson 26 = .ok (.iconst 1, 1) := by decide +kernel
theorem dX12_hasLesson_27 : decode cX12_hasLesson 27 = .ok (.goto 4, 3) := by decide +kernel
theorem dX12_hasLesson_30 : decode cX12_hasLesson 30 = .ok (.iconst 0, 1) := by decide +kernel
theorem dX12_hasLesson_31 : decode cX12_hasLesson 31 = .ok (.ireturn, 1) := by decide +kernel
theorem dX12_lesson_0 : decode cX12_lesson 0 = .ok (.aload_n 0, 1) := by decide +kernel
theorem dX12_lesson_1 : decode cX12_lesson 1 = .ok (.iload_n 1, 1) := by decide +kernel
theorem dX12_lesson_2 : decode cX12_lesson 2 = .ok (.iload_n 2, 1) := by decide +kernel
theorem dX12_lesson_3 : decode cX12_lesson 3 = .ok (.invokevirtual 308, 3) := by decide +kernel
theorem dX12_lesson_6 : decode cX12_lesson 6 = .ok (.ifCond .eq 30, 3) := by decide +kernel
theorem dX12_lesson_9 : decode cX12_lesson 9 = .ok (.iload 4, 2) := by decide +kernel
theorem dX12_lesson_11 : decode cX12_lesson 11 = .ok (.i2l, 1) := by decide +kernel
theorem dX12_lesson_12 : decode cX12_lesson 12 = .ok (.lconst 0, 1) := by decide +kernel
theorem dX12_lesson_13 : decode cX12_lesson 13 = .ok (.ldc2_w 312, 3) := by decide +kernel
theorem dX12_lesson_16 : decode cX12_lesson 16 = .ok (.invokestatic 213, 3) := by decide +kernel
theorem dX12_lesson_19 : decode cX12_lesson 19 = .ok (.ifCond .eq 17, 3) := by decide +kernel
theorem dX12_lesson_22 : decode cX12_lesson 22 = .ok (.aload_n 0, 1) := by decide +kernel
theorem dX12_lesson_23 : decode cX12_lesson 23 = .ok (.bipush 6, 2) := by decide +kernel
theorem dX12_lesson_25 : decode cX12_lesson 25 = .ok (.iload_n 1, 1) := by decide +kernel
theorem dX12_lesson_26 : decode cX12_lesson 26 = .ok (.imul, 1) := by decide +kernel
theorem dX12_lesson_27 : decode cX12_lesson 27 = .ok (.iload_n 2, 1) := by decide +kernel
theorem dX12_lesson_28 : decode cX12_lesson 28 = .ok (.iadd, 1) := by decide +kernel
theorem dX12_lesson_29 : decode cX12_lesson 29 = .ok (.iload_n 3, 1) := by decide +kernel
theorem dX12_lesson_30 : decode cX12_lesson 30 = .ok (.invokevirtual 317, 3) := by decide +kernel
theorem dX12_lesson_33 : decode cX12_lesson 33 = .ok (.ifCond .ne 5, 3) := by decide +kernel
theorem dX12_lesson_36 : decode cX12_lesson 36 = .ok (.iconst (-1), 1) := by decide +kernel
theorem dX12_lesson_37 : decode cX12_lesson 37 = .ok (.ireturn, 1) := by decide +kernel
theorem dX12_lesson_38 : decode cX12_lesson 38 = .ok (.bipush 6, 2) := by decide +kernel
theorem dX12_lesson_40 : decode cX12_lesson 40 = .ok (.iload_n 1, 1) := by decide +kernel
theorem dX12_lesson_41 : decode cX12_lesson 41 = .ok (.imul, 1) := by decide +kernel
theorem dX12_lesson_42 : decode cX12_lesson 42 = .ok (.iload_n 2, 1) := by decide +kernel
theorem dX12_lesson_43 : decode cX12_lesson 43 = .ok (.iadd, 1) := by decide +kernel
theorem dX12_lesson_44 : decode cX12_lesson 44 = .ok (.istore 5, 2) := by decide +kernel
theorem dX12_lesson_46 : decode cX12_lesson 46 = .ok (.bipush 8, 2) := by decide +kernel
theorem dX12_lesson_48 : decode cX12_lesson 48 = .ok (.iload 5, 2) := by decide +kernel
theorem dX12_lesson_50 : decode cX12_lesson 50 = .ok (.imul, 1) := by decide +kernel
theorem dX12_lesson_51 : decode cX12_lesson 51 = .ok (.iload_n 3, 1) := by decide +kernel
theorem dX12_lesson_52 : decode cX12_lesson 52 = .ok (.iadd, 1) := by decide +kernel
theorem dX12_lesson_53 : decode cX12_lesson 53 = .ok (.istore 6, 2) := by decide +kernel
theorem dX12_lesson_55 : decode cX12_lesson 55 = .ok (.iload 4, 2) := by decide +kernel
theorem dX12_lesson_57 : decode cX12_lesson 57 = .ok (.iconst 2, 1) := by decide +kernel
theorem dX12_lesson_58 : decode cX12_lesson 58 = .ok (.if_icmp .ge 26, 3) := by decide +kernel
theorem dX12_lesson_61 : decode cX12_lesson 61 = .ok (.iload 4, 2) := by decide +kernel
theorem dX12_lesson_63 : decode cX12_lesson 63 = .ok (.ifCond .ne 13, 3) := by decide +kernel
theorem dX12_lesson_66 : decode cX12_lesson 66 = .ok (.aload_n 0, 1) := by decide +kernel
theorem dX12_lesson_67 : decode cX12_lesson 67 = .ok (.getfield 40, 3) := by decide +kernel
theorem dX12_lesson_70 : decode cX12_lesson 70 = .ok (.iload 6, 2) := by decide +kernel
theorem dX12_lesson_72 : decode cX12_lesson 72 = .ok (.iaload, 1) := by decide +kernel
theorem dX12_lesson_73 : decode cX12_lesson 73 = .ok (.goto 10, 3) := by decide +kernel
theorem dX12_lesson_76 : decode cX12_lesson 76 = .ok (.aload_n 0, 1) := by decide +kernel
theorem dX12_lesson_77 : decode cX12_lesson 77 = .ok (.getfield 43, 3) := by decide +kernel
theorem dX12_lesson_80 : decode cX12_lesson 80 = .ok (.iload 6, 2) := by decide +kernel
theorem dX12_lesson_82 : decode cX12_lesson 82 = .ok (.iaload, 1) := by decide +kernel
theorem dX12_lesson_83 : decode cX12_lesson 83 = .ok (.ireturn, 1) := by decide +kernel
theorem dX12_lesson_84 : decode cX12_lesson 84 = .ok (.iconst 0, 1) := by decide +kernel
theorem dX12_lesson_85 : decode cX12_lesson 85 = .ok (.istore 7, 2) := by decide +kernel
theorem dX12_lesson_87 : decode cX12_lesson 87 = .ok (.aload_n 0, 1) := by decide +kernel
theorem dX12_lesson_88 : decode cX12_lesson 88 = .ok (.getfield 46, 3) := by decide +kernel
theorem dX12_lesson_91 : decode cX12_lesson 91 = .ok (.iload 6, 2) := by decide +kernel
theorem dX12_lesson_93 : decode cX12_lesson 93 = .ok (.iaload, 1) := by decide +kernel
theorem dX12_lesson_94 : decode cX12_lesson 94 = .ok (.istore 8, 2) := by decide +kernel
theorem dX12_lesson_96 : decode cX12_lesson 96 = .ok (.iload 8, 2) := by decide +kernel
theorem dX12_lesson_98 : decode cX12_lesson 98 = .ok (.aload_n 0, 1) := by decide +kernel
theorem dX12_lesson_99 : decode cX12_lesson 99 = .ok (.getfield 49, 3) := by decide +kernel
theorem dX12_lesson_102 : decode cX12_lesson 102 = .ok (.iload 6, 2) := by decide +kernel
theorem dX12_lesson_104 : decode cX12_lesson 104 = .ok (.iaload, 1) := by decide +kernel
theorem dX12_lesson_105 : decode cX12_lesson 105 = .ok (.if_icmp .ge 54, 3) := by decide +kernel
theorem dX12_lesson_108 : decode cX12_lesson 108 = .ok (.iload 7, 2) := by decide +kernel
theorem dX12_lesson_110 : decode cX12_lesson 110 = .ok (.aload_n 0, 1) := by decide +kernel
theorem dX12_lesson_111 : decode cX12_lesson 111 = .ok (.getfield 52, 3) := by decide +kernel
theorem dX12_lesson_114 : decode cX12_lesson 114 = .ok (.sipush 128, 3) := by decide +kernel
theorem dX12_lesson_117 : decode cX12_lesson 117 = .ok (.iload 5, 2) := by decide +kernel
theorem dX12_lesson_119 : decode cX12_lesson 119 = .ok (.imul, 1) := by decide +kernel
theorem dX12_lesson_120 : decode cX12_lesson 120 = .ok (.iload 8, 2) := by decide +kernel
theorem dX12_lesson_122 : decode cX12_lesson 122 = .ok (.iadd, 1) := by decide +kernel
theorem dX12_lesson_123 : decode cX12_lesson 123 = .ok (.iaload, 1) := by decide +kernel
theorem dX12_lesson_124 : decode cX12_lesson 124 = .ok (.ifCond .lt 25, 3) := by decide +kernel
theorem dX12_lesson_127 : decode cX12_lesson 127 = .ok (.iconst 1, 1) := by decide +kernel
theorem dX12_lesson_128 : decode cX12_lesson 128 = .ok (.aload_n 0, 1) := by decide +kernel
theorem dX12_lesson_129 : decode cX12_lesson 129 = .ok (.getfield 52, 3) := by decide +kernel
theorem dX12_lesson_132 : decode cX12_lesson 132 = .ok (.sipush 128, 3) := by decide +kernel
theorem dX12_lesson_135 : decode cX12_lesson 135 = .ok (.iload 5, 2) := by decide +kernel
theorem dX12_lesson_137 : decode cX12_lesson 137 = .ok (.imul, 1) := by decide +kernel
theorem dX12_lesson_138 : decode cX12_lesson 138 = .ok (.iload 8, 2) := by decide +kernel
theorem dX12_lesson_140 : decode cX12_lesson 140 = .ok (.iadd, 1) := by decide +kernel
theorem dX12_lesson_141 : decode cX12_lesson 141 = .ok (.iaload, 1) := by decide +kernel
theorem dX12_lesson_142 : decode cX12_lesson 142 = .ok (.bipush 8, 2) := by decide +kernel
theorem dX12_lesson_144 : decode cX12_lesson 144 = .ok (.irem, 1) := by decide +kernel
theorem dX12_lesson_145 : decode cX12_lesson 145 = .ok (.ishl, 1) := by decide +kernel
theorem dX12_lesson_146 : decode cX12_lesson 146 = .ok (.goto 4, 3) := by decide +kernel
theorem dX12_lesson_149 : decode cX12_lesson 149 = .ok (.iconst 0, 1) := by decide +kernel
theorem dX12_lesson_150 : decode cX12_lesson 150 = .ok (.ior, 1) := by decide +kernel
theorem dX12_lesson_151 : decode cX12_lesson 151 = .ok (.istore 7, 2) := by decide +kernel
theorem dX12_lesson_153 : decode cX12_lesson 153 = .ok (.iinc 8 1, 3) := by decide +kernel
theorem dX12_lesson_156 : decode cX12_lesson 156 = .ok (.goto (-60), 3) := by decide +kernel
theorem dX12_lesson_159 : decode cX12_lesson 159 = .ok (.iload 7, 2) := by decide +kernel
theorem dX12_lesson_161 : decode cX12_lesson 161 = .ok (.ireturn, 1) := by decide +kernel
theorem dX12_forceOn_0 : decode cX12_forceOn 0 = .ok (.iconst (-1), 1) := by decide +kernel
theorem dX12_forceOn_1 : decode cX12_forceOn 1 = .ok (.istore_n 3, 1) := by decide +kernel
theorem dX12_forceOn_2 : decode cX12_forceOn 2 = .ok (.iconst 0, 1) := by decide +kernel
theorem dX12_forceOn_3 : decode cX12_forceOn 3 = .ok (.istore 4, 2) := by decide +kernel
theorem dX12_forceOn_5 : decode cX12_forceOn 5 = .ok (.iload 4, 2) := by decide +kernel
theorem dX12_forceOn_7 : decode cX12_forceOn 7 = .ok (.aload_n 0, 1) := by decide +kernel
theorem dX12_forceOn_8 : decode cX12_forceOn 8 = .ok (.getfield 31, 3) := by decide +kernel
theorem dX12_forceOn_11 : decode cX12_forceOn 11 = .ok (.iload_n 1, 1) := by decide +kernel
theorem dX12_forceOn_12 : decode cX12_forceOn 12 = .ok (.iaload, 1) := by decide +kernel
theorem dX12_forceOn_13 : decode cX12_forceOn 13 = .ok (.if_icmp .ge 37, 3) := by decide +kernel
theorem dX12_forceOn_16 : decode cX12_forceOn 16 = .ok (.aload_n 0, 1) := by decide +kernel
theorem dX12_forceOn_17 : decode cX12_forceOn 17 = .ok (.getfield 34, 3) := by decide +kernel
theorem dX12_forceOn_20 : decode cX12_forceOn 20 = .ok (.bipush 6, 2) := by decide +kernel
theorem dX12_forceOn_22 : decode cX12_forceOn 22 = .ok (.iload_n 1, 1) := by decide +kernel
theorem dX12_forceOn_23 : decode cX12_forceOn 23 = .ok (.imul, 1) := by decide +kernel
theorem dX12_forceOn_24 : decode cX12_forceOn 24 = .ok (.iload 4, 2) := by decide +kernel
theorem dX12_forceOn_26 : decode cX12_forceOn 26 = .ok (.iadd, 1) := by decide +kernel
theorem dX12_forceOn_27 : decode cX12_forceOn 27 = .ok (.iaload, 1) := by decide +kernel
theorem dX12_forceOn_28 : decode cX12_forceOn 28 = .ok (.iload_n 2, 1) := by decide +kernel
theorem dX12_forceOn_29 : decode cX12_forceOn 29 = .ok (.if_icmp .gt 13, 3) := by decide +kernel
theorem dX12_forceOn_32 : decode cX12_forceOn 32 = .ok (.bipush 6, 2) := by decide +kernel
theorem dX12_forceOn_34 : decode cX12_forceOn 34 = .ok (.iload_n 1, 1) := by decide +kernel
theorem dX12_forceOn_35 : decode cX12_forceOn 35 = .ok (.imul, 1) := by decide +kernel
theorem dX12_forceOn_36 : decode cX12_forceOn 36 = .ok (.iload 4, 2) := by decide +kernel
theorem dX12_forceOn_38 : decode cX12_forceOn 38 = .ok (.iadd, 1) := by decide +kernel
theorem dX12_forceOn_39 : decode cX12_forceOn 39 = .ok (.goto 4, 3) := by decide +kernel
theorem dX12_forceOn_42 : decode cX12_forceOn 42 = .ok (.iload_n 3, 1) := by decide +kernel
theorem dX12_forceOn_43 : decode cX12_forceOn 43 = .ok (.istore_n 3, 1) := by decide +kernel
theorem dX12_forceOn_44 : decode cX12_forceOn 44 = .ok (.iinc 4 1, 3) := by decide +kernel
theorem dX12_forceOn_47 : decode cX12_forceOn 47 = .ok (.goto (-42), 3) := by decide +kernel
theorem dX12_forceOn_50 : decode cX12_forceOn 50 = .ok (.iload_n 3, 1) := by decide +kernel
theorem dX12_forceOn_51 : decode cX12_forceOn 51 = .ok (.ireturn, 1) := by decide +kernel
theorem dX12_pupil_0 : decode cX12_pupil 0 = .ok (.iload_n 1, 1) := by decide +kernel
theorem dX12_pupil_1 : decode cX12_pupil 1 = .ok (.i2l, 1) := by decide +kernel
theorem dX12_pupil_2 : decode cX12_pupil 2 = .ok (.lconst 0, 1) := by decide +kernel
theorem dX12_pupil_3 : decode cX12_pupil 3 = .ok (.ldc2_w 320, 3) := by decide +kernel
theorem dX12_pupil_6 : decode cX12_pupil 6 = .ok (.invokestatic 213, 3) := by decide +kernel
theorem dX12_pupil_9 : decode cX12_pupil 9 = .ok (.ifCond .eq 17, 3) := by decide +kernel
theorem dX12_pupil_12 : decode cX12_pupil 12 = .ok (.iload_n 2, 1) := by decide +kernel
theorem dX12_pupil_13 : decode cX12_pupil 13 = .ok (.invokestatic 299, 3) := by decide +kernel
theorem dX12_pupil_16 : decode cX12_pupil 16 = .ok (.ifCond .eq 10, 3) := by decide +kernel
theorem dX12_pupil_19 : decode cX12_pupil 19 = .ok (.iload_n 3, 1) := by decide +kernel
theorem dX12_pupil_20 : decode cX12_pupil 20 = .ok (.invokestatic 302, 3) := by decide +kernel
theorem dX12_pupil_23 : decode cX12_pupil 23 = .ok (.ifCond .ne 5, 3) := by decide +kernel
theorem dX12_pupil_26 : decode cX12_pupil 26 = .ok (.iconst (-1), 1) := by decide +kernel
theorem dX12_pupil_27 : decode cX12_pupil 27 = .ok (.ireturn, 1) := by decide +kernel
theorem dX12_pupil_28 : decode cX12_pupil 28 = .ok (.aload_n 0, 1) := by decide +kernel
theorem dX12_pupil_29 : decode cX12_pupil 29 = .ok (.iload_n 2, 1) := by decide +kernel
theorem dX12_pupil_30 : decode cX12_pupil 30 = .ok (.iload_n 3, 1) := by decide +kernel
theorem dX12_pupil_31 : decode cX12_pupil 31 = .ok (.invokevirtual 322, 3) := by decide +kernel
theorem dX12_pupil_34 : decode cX12_pupil 34 = .ok (.istore 4, 2) := by decide +kernel
theorem dX12_pupil_36 : decode cX12_pupil 36 = .ok (.iload 4, 2) := by decide +kernel
theorem dX12_pupil_38 : decode cX12_pupil 38 = .ok (.ifCond .ge 6, 3) := by decide +kernel
theorem dX12_pupil_41 : decode cX12_pupil 41 = .ok (.bipush (-2), 2) := by decide +kernel
theorem dX12_pupil_43 : decode cX12_pupil 43 = .ok (.ireturn, 1) := by decide +kernel
theorem dX12_pupil_44 : decode cX12_pupil 44 = .ok (.aload_n 0, 1) := by decide +kernel
theorem dX12_pupil_45 : decode cX12_pupil 45 = .ok (.getfield 326, 3) := by decide +kernel
theorem dX12_pupil_48 : decode cX12_pupil 48 = .ok (.bipush 12, 2) := by decide +kernel
theorem dX12_pupil_50 : decode cX12_pupil 50 = .ok (.if_icmp .ne 6, 3) := by decide +kernel
theorem dX12_pupil_53 : decode cX12_pupil 53 = .ok (.bipush (-3), 2) := by decide +kernel
theorem dX12_pupil_55 : decode cX12_pupil 55 = .ok (.ireturn, 1) := by decide +kernel
theorem dX12_pupil_56 : decode cX12_pupil 56 = .ok (.aload_n 0, 1) := by decide +kernel
theorem dX12_pupil_57 : decode cX12_pupil 57 = .ok (.getfield 55, 3) := by decide +kernel
theorem dX12_pupil_60 : decode cX12_pupil 60 = .ok (.aload_n 0, 1) := by decide +kernel
theorem dX12_pupil_61 : decode cX12_pupil 61 = .ok (.getfield 326, 3) := by decide +kernel
theorem dX12_pupil_64 : decode cX12_pupil 64 = .ok (.iload_n 1, 1) := by decide +kernel
theorem dX12_pupil_65 : decode cX12_pupil 65 = .ok (.iastore, 1) := by decide +kernel
theorem dX12_pupil_66 : decode cX12_pupil 66 = .ok (.aload_n 0, 1) := by decide +kernel
theorem dX12_pupil_67 : decode cX12_pupil 67 = .ok (.getfield 58, 3) := by decide +kernel
theorem dX12_pupil_70 : decode cX12_pupil 70 = .ok (.aload_n 0, 1) := by decide +kernel
theorem dX12_pupil_71 : decode cX12_pupil 71 = .ok (.getfield 326, 3) := by decide +kernel
theorem dX12_pupil_74 : decode cX12_pupil 74 = .ok (.iload 4, 2) := by decide +kernel
theorem dX12_pupil_76 : decode cX12_pupil 76 = .ok (.iastore, 1) := by decide +kernel
theorem dX12_pupil_77 : decode cX12_pupil 77 = .ok (.aload_n 0, 1) := by decide +kernel
theorem dX12_pupil_78 : decode cX12_pupil 78 = .ok (.getfield 61, 3) := by decide +kernel
theorem dX12_pupil_81 : decode cX12_pupil 81 = .ok (.aload_n 0, 1) := by decide +kernel
theorem dX12_pupil_82 : decode cX12_pupil 82 = .ok (.getfield 326, 3) := by decide +kernel
theorem dX12_pupil_85 : decode cX12_pupil 85 = .ok (.iload_n 3, 1) := by decide +kernel
theorem dX12_pupil_86 : decode cX12_pupil 86 = .ok (.iastore, 1) := by decide +kernel
theorem dX12_pupil_87 : decode cX12_pupil 87 = .ok (.aload_n 0, 1) := by decide +kernel
theorem dX12_pupil_88 : decode cX12_pupil 88 = .ok (.getfield 64, 3) := by decide +kernel
theorem dX12_pupil_91 : decode cX12_pupil 91 = .ok (.aload_n 0, 1) := by decide +kernel
theorem dX12_pupil_92 : decode cX12_pupil 92 = .ok (.getfield 326, 3) := by decide +kernel
theorem dX12_pupil_95 : decode cX12_pupil 95 = .ok (.iconst 5, 1) := by decide +kernel
theorem dX12_pupil_96 : decode cX12_pupil 96 = .ok (.iastore, 1) := by decide +kernel
theorem dX12_pupil_97 : decode cX12_pupil 97 = .ok (.aload_n 0, 1) := by decide +kernel
theorem dX12_pupil_98 : decode cX12_pupil 98 = .ok (.getfield 67, 3) := by decide +kernel
theorem dX12_pupil_101 : decode cX12_pupil 101 = .ok (.aload_n 0, 1) := by decide +kernel
theorem dX12_pupil_102 : decode cX12_pupil 102 = .ok (.getfield 326, 3) := by decide +kernel
theorem dX12_pupil_105 : decode cX12_pupil 105 = .ok (.bipush (-4), 2) := by decide +kernel
theorem dX12_pupil_107 : decode cX12_pupil 107 = .ok (.iastore, 1) := by decide +kernel
theorem dX12_pupil_108 : decode cX12_pupil 108 = .ok (.aload_n 0, 1) := by decide +kernel
theorem dX12_pupil_109 : decode cX12_pupil 109 = .ok (.dup, 1) := by decide +kernel
theorem dX12_pupil_110 : decode cX12_pupil 110 = .ok (.getfield 326, 3) := by decide +kernel
theorem dX12_pupil_113 : decode cX12_pupil 113 = .ok (.iconst 1, 1) := by decide +kernel
theorem dX12_pupil_114 : decode cX12_pupil 114 = .ok (.iadd, 1) := by decide +kernel
theorem dX12_pupil_115 : decode cX12_pupil 115 = .ok (.putfield 326, 3) := by decide +kernel
theorem dX12_pupil_118 : decode cX12_pupil 118 = .ok (.aload_n 0, 1) := by decide +kernel
theorem dX12_pupil_119 : decode cX12_pupil 119 = .ok (.getfield 326, 3) := by decide +kernel
theorem dX12_pupil_122 : decode cX12_pupil 122 = .ok (.iconst 1, 1) := by decide +kernel
theorem dX12_pupil_123 : decode cX12_pupil 123 = .ok (.isub, 1) := by decide +kernel
theorem dX12_pupil_124 : decode cX12_pupil 124 = .ok (.ireturn, 1) := by decide +kernel
theorem dX12_isPupil_0 : decode cX12_isPupil 0 = .ok (.iload_n 1, 1) := by decide +kernel
theorem dX12_isPupil_1 : decode cX12_isPupil 1 = .ok (.i2l, 1) := by decide +kernel
theorem dX12_isPupil_2 : decode cX12_isPupil 2 = .ok (.lconst 0, 1) := by decide +kernel
theorem dX12_isPupil_3 : decode cX12_isPupil 3 = .ok (.aload_n 0, 1) := by decide +kernel
theorem dX12_isPupil_4 : decode cX12_isPupil 4 = .ok (.getfield 326, 3) := by decide +kernel
theorem dX12_isPupil_7 : decode cX12_isPupil 7 = .ok (.iconst 1, 1) := by decide +kernel
theorem dX12_isPupil_8 : decode cX12_isPupil 8 = .ok (.isub, 1) := by decide +kernel
theorem dX12_isPupil_9 : decode cX12_isPupil 9 = .ok (.i2l, 1) := by decide +kernel
theorem dX12_isPupil_10 : decode cX12_isPupil 10 = .ok (.invokestatic 213, 3) := by decide +kernel
theorem dX12_isPupil_13 : decode cX12_isPupil 13 = .ok (.ireturn, 1) := by decide +kernel
theorem dX12_hasLeft_0 : decode cX12_hasLeft 0 = .ok (.aload_n 0, 1) := by decide +kernel
theorem dX12_hasLeft_1 : decode cX12_hasLeft 1 = .ok (.getfield 67, 3) := by decide +kernel
theorem dX12_hasLeft_4 : decode cX12_hasLeft 4 = .ok (.iload_n 1, 1) := by decide +kernel
theorem dX12_hasLeft_5 : decode cX12_hasLeft 5 = .ok (.iaload, 1) := by decide +kernel
theorem dX12_hasLeft_6 : decode cX12_hasLeft 6 = .ok (.bipush (-4), 2) := by decide +kernel
theorem dX12_hasLeft_8 : decode cX12_hasLeft 8 = .ok (.if_icmp .eq 17, 3) := by decide +kernel
theorem dX12_hasLeft_11 : decode cX12_hasLeft 11 = .ok (.aload_n 0, 1) := by decide +kernel
theorem dX12_hasLeft_12 : decode cX12_hasLeft 12 = .ok (.getfield 67, 3) := by decide +kernel
theorem dX12_hasLeft_15 : decode cX12_hasLeft 15 = .ok (.iload_n 1, 1) := by decide +kernel
theorem dX12_hasLeft_16 : decode cX12_hasLeft 16 = .ok (.iaload, 1) := by decide +kernel
theorem dX12_hasLeft_17 : decode cX12_hasLeft 17 = .ok (.iload_n 2, 1) := by decide +kernel
theorem dX12_hasLeft_18 : decode cX12_hasLeft 18 = .ok (.if_icmp .gt 7, 3) := by decide +kernel
theorem dX12_hasLeft_21 : decode cX12_hasLeft 21 = .ok (.iconst 1, 1) := by decide +kernel
theorem dX12_hasLeft_22 : decode cX12_hasLeft 22 = .ok (.goto 4, 3) := by decide +kernel
theorem dX12_hasLeft_25 : decode cX12_hasLeft 25 = .ok (.iconst 0, 1) := by decide +kernel
theorem dX12_hasLeft_26 : decode cX12_hasLeft 26 = .ok (.ireturn, 1) := by decide +kernel
theorem dX12_who_0 : decode cX12_who 0 = .ok (.aload_n 0, 1) := by decide +kernel
theorem dX12_who_1 : decode cX12_who 1 = .ok (.iload_n 1, 1) := by decide +kernel
theorem dX12_who_2 : decode cX12_who 2 = .ok (.invokevirtual 329, 3) := by decide +kernel
theorem dX12_who_5 : decode cX12_who 5 = .ok (.ifCond .ne 5, 3) := by decide +kernel
theorem dX12_who_8 : decode cX12_who 8 = .ok (.iconst (-1), 1) := by decide +kernel
theorem dX12_who_9 : decode cX12_who 9 = .ok (.ireturn, 1) := by decide +kernel
theorem dX12_who_10 : decode cX12_who 10 = .ok (.iload_n 2, 1) := by decide +kernel
theorem dX12_who_11 : decode cX12_who 11 = .ok (.tableswitch 96 0 6 #[41, 48, 58, 68, 75, 82, 89], 41) := by decide +kernel
theorem dX12_who_52 : decode cX12_who 52 = .ok (.aload_n 0, 1) := by decide +kernel
theorem dX12_who_53 : decode cX12_who 53 = .ok (.getfield 55, 3) := by decide +kernel
theorem dX12_who_56 : decode cX12_who 56 = .ok (.iload_n 1, 1) := by decide +kernel
theorem dX12_who_57 : decode cX12_who 57 = .ok (.iaload, 1) := by decide +kernel
theorem dX12_who_58 : decode cX12_who 58 = .ok (.ireturn, 1) := by decide +kernel
theorem dX12_who_59 : decode cX12_who 59 = .ok (.aload_n 0, 1) := by decide +kernel
theorem dX12_who_60 : decode cX12_who 60 = .ok (.getfield 58, 3) := by decide +kernel
theorem dX12_who_63 : decode cX12_who 63 = .ok (.iload_n 1, 1) := by decide +kernel
theorem dX12_who_64 : decode cX12_who 64 = .ok (.iaload, 1) := by decide +kernel
theorem dX12_who_65 : decode cX12_who 65 = .ok (.bipush 6, 2) := by decide +kernel
theorem dX12_who_67 : decode cX12_who 67 = .ok (.idiv, 1) := by decide +kernel
theorem dX12_who_68 : decode cX12_who 68 = .ok (.ireturn, 1) := by decide +kernel
theorem dX12_who_69 : decode cX12_who 69 = .ok (.aload_n 0, 1) := by decide +kernel
theorem dX12_who_70 : decode cX12_who 70 = .ok (.getfield 58, 3) := by decide +kernel
theorem dX12_who_73 : decode cX12_who 73 = .ok (.iload_n 1, 1) := by decide +kernel
theorem dX12_who_74 : decode cX12_who 74 = .ok (.iaload, 1) := by decide +kernel
theorem dX12_who_75 : decode cX12_who 75 = .ok (.bipush 6, 2) := by decide +kernel
theorem dX12_who_77 : decode cX12_who 77 = .ok (.irem, 1) := by decide +kernel
theorem dX12_who_78 : decode cX12_who 78 = .ok (.ireturn, 1) := by decide +kernel
theorem dX12_who_79 : decode cX12_who 79 = .ok (.aload_n 0, 1) := by decide +kernel
theorem dX12_who_80 : decode cX12_who 80 = .ok (.getfield 61, 3) := by decide +kernel
theorem dX12_who_83 : decode cX12_who 83 = .ok (.iload_n 1, 1) := by decide +kernel
theorem dX12_who_84 : decode cX12_who 84 = .ok (.iaload, 1) := by decide +kernel
theorem dX12_who_85 : decode cX12_who 85 = .ok (.ireturn, 1) := by decide +kernel
theorem dX12_who_86 : decode cX12_who 86 = .ok (.aload_n 0, 1) := by decide +kernel
theorem dX12_who_87 : decode cX12_who 87 = .ok (.getfield 64, 3) := by decide +kernel
theorem dX12_who_90 : decode cX12_who 90 = .ok (.iload_n 1, 1) := by decide +kernel
theorem dX12_who_91 : decode cX12_who 91 = .ok (.iaload, 1) := by decide +kernel
theorem dX12_who_92 : decode cX12_who 92 = .ok (.ireturn, 1) := by decide +kernel
theorem dX12_who_93 : decode cX12_who 93 = .ok (.aload_n 0, 1) := by decide +kernel
theorem dX12_who_94 : decode cX12_who 94 = .ok (.getfield 67, 3) := by decide +kernel
theorem dX12_who_97 : decode cX12_who 97 = .ok (.iload_n 1, 1) := by decide +kernel
theorem dX12_who_98 : decode cX12_who 98 = .ok (.iaload, 1) := by decide +kernel
theorem dX12_who_99 : decode cX12_who 99 = .ok (.ireturn, 1) := by decide +kernel
theorem dX12_who_100 : decode cX12_who 100 = .ok (.aload_n 0, 1) := by decide +kernel
theorem dX12_who_101 : decode cX12_who 101 = .ok (.getfield 70, 3) := by decide +kernel
theorem dX12_who_104 : decode cX12_who 104 = .ok (.iload_n 1, 1) := by decide +kernel
theorem dX12_who_105 : decode cX12_who 105 = .ok (.iaload, 1) := by decide +kernel
theorem dX12_who_106 : decode cX12_who 106 = .ok (.ireturn, 1) := by decide +kernel
theorem dX12_who_107 : decode cX12_who 107 = .ok (.iconst (-1), 1) := by decide +kernel
theorem dX12_who_108 : decode cX12_who 108 = .ok (.ireturn, 1) := by decide +kernel
theorem dX12_habit_0 : decode cX12_habit 0 = .ok (.aload_n 0, 1) := by decide +kernel
theorem dX12_habit_1 : decode cX12_habit 1 = .ok (.iload_n 1, 1) := by decide +kernel
theorem dX12_habit_2 : decode cX12_habit 2 = .ok (.invokevirtual 329, 3) := by decide +kernel
theorem dX12_habit_5 : decode cX12_habit 5 = .ok (.ifCond .eq 15, 3) := by decide +kernel
theorem dX12_habit_8 : decode cX12_habit 8 = .ok (.iload_n 2, 1) := by decide +kernel
theorem dX12_habit_9 : decode cX12_habit 9 = .ok (.i2l, 1) := by decide +kernel
theorem dX12_habit_10 : decode cX12_habit 10 = .ok (.lconst 0, 1) := by decide +kernel
theorem dX12_habit_11 : decode cX12_habit 11 = .ok (.ldc2_w 332, 3) := by decide +kernel
theorem dX12_habit_14 : decode cX12_habit 14 = .ok (.invokestatic 213, 3) := by decide +kernel
theorem dX12_habit_17 : decode cX12_habit 17 = .ok (.ifCond .ne 5, 3) := by decide +kernel
theorem dX12_habit_20 : decode cX12_habit 20 = .ok (.iconst (-1), 1) := by decide +kernel
theorem dX12_habit_21 : decode cX12_habit 21 = .ok (.ireturn, 1) := by decide +kernel
theorem dX12_habit_22 : decode cX12_habit 22 = .ok (.aload_n 0, 1) := by decide +kernel
theorem dX12_habit_23 : decode cX12_habit 23 = .ok (.getfield 64, 3) := by decide +kernel
theorem dX12_habit_26 : decode cX12_habit 26 = .ok (.iload_n 1, 1) := by decide +kernel
theorem dX12_habit_27 : decode cX12_habit 27 = .ok (.iaload, 1) := by decide +kernel
theorem dX12_habit_28 : decode cX12_habit 28 = .ok (.istore_n 3, 1) := by decide +kernel
theorem dX12_habit_29 : decode cX12_habit 29 = .ok (.aload_n 0, 1) := by decide +kernel
theorem dX12_habit_30 : decode cX12_habit 30 = .ok (.getfield 64, 3) := by decide +kernel
theorem dX12_habit_33 : decode cX12_habit 33 = .ok (.iload_n 1, 1) := by decide +kernel
theorem dX12_habit_34 : decode cX12_habit 34 = .ok (.iload_n 2, 1) := by decide +kernel
theorem dX12_habit_35 : decode cX12_habit 35 = .ok (.iastore, 1) := by decide +kernel
theorem dX12_habit_36 : decode cX12_habit 36 = .ok (.iload_n 3, 1) := by decide +kernel
theorem dX12_habit_37 : decode cX12_habit 37 = .ok (.ireturn, 1) := by decide +kernel
theorem dX12_findBests_0 : decode cX12_findBests 0 = .ok (.iconst 0, 1) := by decide +kernel
theorem dX12_findBests_1 : decode cX12_findBests 1 = .ok (.istore_n 3, 1) := by decide +kernel
