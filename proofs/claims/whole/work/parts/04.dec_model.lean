theorem dX12_init_0 : decode cX12_init 0 = .ok (.aload_n 0, 1) := by decide +kernel
theorem dX12_init_1 : decode cX12_init 1 = .ok (.invokespecial 1, 3) := by decide +kernel
theorem dX12_init_4 : decode cX12_init 4 = .ok (.aload_n 0, 1) := by decide +kernel
theorem dX12_init_5 : decode cX12_init 5 = .ok (.bipush 16, 2) := by decide +kernel
theorem dX12_init_7 : decode cX12_init 7 = .ok (.newarray .int, 2) := by decide +kernel
theorem dX12_init_9 : decode cX12_init 9 = .ok (.putfield 7, 3) := by decide +kernel
theorem dX12_init_12 : decode cX12_init 12 = .ok (.aload_n 0, 1) := by decide +kernel
theorem dX12_init_13 : decode cX12_init 13 = .ok (.sipush 6416, 3) := by decide +kernel
theorem dX12_init_16 : decode cX12_init 16 = .ok (.newarray .long, 2) := by decide +kernel
theorem dX12_init_18 : decode cX12_init 18 = .ok (.putfield 13, 3) := by decide +kernel
theorem dX12_init_21 : decode cX12_init 21 = .ok (.aload_n 0, 1) := by decide +kernel
theorem dX12_init_22 : decode cX12_init 22 = .ok (.sipush 6416, 3) := by decide +kernel
theorem dX12_init_25 : decode cX12_init 25 = .ok (.newarray .boolean, 2) := by decide +kernel
theorem dX12_init_27 : decode cX12_init 27 = .ok (.putfield 17, 3) := by decide +kernel
theorem dX12_init_30 : decode cX12_init 30 = .ok (.aload_n 0, 1) := by decide +kernel
theorem dX12_init_31 : decode cX12_init 31 = .ok (.bipush 16, 2) := by decide +kernel
theorem dX12_init_33 : decode cX12_init 33 = .ok (.newarray .int, 2) := by decide +kernel
theorem dX12_init_35 : decode cX12_init 35 = .ok (.putfield 21, 3) := by decide +kernel
theorem dX12_init_38 : decode cX12_init 38 = .ok (.aload_n 0, 1) := by decide +kernel
theorem dX12_init_39 : decode cX12_init 39 = .ok (.bipush 16, 2) := by decide +kernel
theorem dX12_init_41 : decode cX12_init 41 = .ok (.newarray .int, 2) := by decide +kernel
theorem dX12_init_43 : decode cX12_init 43 = .ok (.putfield 24, 3) := by decide +kernel
theorem dX12_init_46 : decode cX12_init 46 = .ok (.aload_n 0, 1) := by decide +kernel
theorem dX12_init_47 : decode cX12_init 47 = .ok (.bipush 16, 2) := by decide +kernel
theorem dX12_init_49 : decode cX12_init 49 = .ok (.newarray .long, 2) := by decide +kernel
theorem dX12_init_51 : decode cX12_init 51 = .ok (.putfield 27, 3) := by decide +kernel
theorem dX12_init_54 : decode cX12_init 54 = .ok (.aload_n 0, 1) := by decide +kernel
theorem dX12_init_55 : decode cX12_init 55 = .ok (.bipush 16, 2) := by decide +kernel
theorem dX12_init_57 : decode cX12_init 57 = .ok (.newarray .int, 2) := by decide +kernel
theorem dX12_init_59 : decode cX12_init 59 = .ok (.putfield 30, 3) := by decide +kernel
theorem dX12_init_62 : decode cX12_init 62 = .ok (.aload_n 0, 1) := by decide +kernel
theorem dX12_init_63 : decode cX12_init 63 = .ok (.bipush 16, 2) := by decide +kernel
theorem dX12_init_65 : decode cX12_init 65 = .ok (.newarray .int, 2) := by decide +kernel
theorem dX12_init_67 : decode cX12_init 67 = .ok (.putfield 33, 3) := by decide +kernel
theorem dX12_init_70 : decode cX12_init 70 = .ok (.aload_n 0, 1) := by decide +kernel
theorem dX12_init_71 : decode cX12_init 71 = .ok (.bipush 16, 2) := by decide +kernel
theorem dX12_init_73 : decode cX12_init 73 = .ok (.newarray .int, 2) := by decide +kernel
theorem dX12_init_75 : decode cX12_init 75 = .ok (.putfield 36, 3) := by decide +kernel
theorem dX12_init_78 : decode cX12_init 78 = .ok (.aload_n 0, 1) := by decide +kernel
theorem dX12_init_79 : decode cX12_init 79 = .ok (.bipush 16, 2) := by decide +kernel
theorem dX12_init_81 : decode cX12_init 81 = .ok (.newarray .int, 2) := by decide +kernel
theorem dX12_init_83 : decode cX12_init 83 = .ok (.putfield 39, 3) := by decide +kernel
theorem dX12_init_86 : decode cX12_init 86 = .ok (.aload_n 0, 1) := by decide +kernel
theorem dX12_init_87 : decode cX12_init 87 = .ok (.bipush 16, 2) := by decide +kernel
theorem dX12_init_89 : decode cX12_init 89 = .ok (.newarray .int, 2) := by decide +kernel
theorem dX12_init_91 : decode cX12_init 91 = .ok (.putfield 42, 3) := by decide +kernel
theorem dX12_init_94 : decode cX12_init 94 = .ok (.aload_n 0, 1) := by decide +kernel
theorem dX12_init_95 : decode cX12_init 95 = .ok (.bipush 16, 2) := by decide +kernel
theorem dX12_init_97 : decode cX12_init 97 = .ok (.newarray .int, 2) := by decide +kernel
theorem dX12_init_99 : decode cX12_init 99 = .ok (.putfield 45, 3) := by decide +kernel
theorem dX12_init_102 : decode cX12_init 102 = .ok (.aload_n 0, 1) := by decide +kernel
theorem dX12_init_103 : decode cX12_init 103 = .ok (.ldc 48, 2) := by decide +kernel
theorem dX12_init_105 : decode cX12_init 105 = .ok (.newarray .byte, 2) := by decide +kernel
theorem dX12_init_107 : decode cX12_init 107 = .ok (.putfield 49, 3) := by decide +kernel
theorem dX12_init_110 : decode cX12_init 110 = .ok (.aload_n 0, 1) := by decide +kernel
theorem dX12_init_111 : decode cX12_init 111 = .ok (.sipush 256, 3) := by decide +kernel
theorem dX12_init_114 : decode cX12_init 114 = .ok (.newarray .int, 2) := by decide +kernel
theorem dX12_init_116 : decode cX12_init 116 = .ok (.putfield 53, 3) := by decide +kernel
theorem dX12_init_119 : decode cX12_init 119 = .ok (.aload_n 0, 1) := by decide +kernel
theorem dX12_init_120 : decode cX12_init 120 = .ok (.sipush 256, 3) := by decide +kernel
theorem dX12_init_123 : decode cX12_init 123 = .ok (.newarray .int, 2) := by decide +kernel
theorem dX12_init_125 : decode cX12_init 125 = .ok (.putfield 56, 3) := by decide +kernel
theorem dX12_init_128 : decode cX12_init 128 = .ok (.aload_n 0, 1) := by decide +kernel
theorem dX12_init_129 : decode cX12_init 129 = .ok (.sipush 256, 3) := by decide +kernel
theorem dX12_init_132 : decode cX12_init 132 = .ok (.newarray .int, 2) := by decide +kernel
theorem dX12_init_134 : decode cX12_init 134 = .ok (.putfield 59, 3) := by decide +kernel
theorem dX12_init_137 : decode cX12_init 137 = .ok (.aload_n 0, 1) := by decide +kernel
theorem dX12_init_138 : decode cX12_init 138 = .ok (.sipush 256, 3) := by decide +kernel
theorem dX12_init_141 : decode cX12_init 141 = .ok (.newarray .int, 2) := by decide +kernel
theorem dX12_init_143 : decode cX12_init 143 = .ok (.putfield 62, 3) := by decide +kernel
theorem dX12_init_146 : decode cX12_init 146 = .ok (.aload_n 0, 1) := by decide +kernel
theorem dX12_init_147 : decode cX12_init 147 = .ok (.bipush 40, 2) := by decide +kernel
theorem dX12_init_149 : decode cX12_init 149 = .ok (.newarray .int, 2) := by decide +kernel
theorem dX12_init_151 : decode cX12_init 151 = .ok (.putfield 65, 3) := by decide +kernel
theorem dX12_init_154 : decode cX12_init 154 = .ok (.aload_n 0, 1) := by decide +kernel
theorem dX12_init_155 : decode cX12_init 155 = .ok (.bipush 40, 2) := by decide +kernel
theorem dX12_init_157 : decode cX12_init 157 = .ok (.newarray .int, 2) := by decide +kernel
theorem dX12_init_159 : decode cX12_init 159 = .ok (.putfield 68, 3) := by decide +kernel
theorem dX12_init_162 : decode cX12_init 162 = .ok (.aload_n 0, 1) := by decide +kernel
theorem dX12_init_163 : decode cX12_init 163 = .ok (.bipush 40, 2) := by decide +kernel
theorem dX12_init_165 : decode cX12_init 165 = .ok (.newarray .int, 2) := by decide +kernel
theorem dX12_init_167 : decode cX12_init 167 = .ok (.putfield 71, 3) := by decide +kernel
theorem dX12_init_170 : decode cX12_init 170 = .ok (.aload_n 0, 1) := by decide +kernel
theorem dX12_init_171 : decode cX12_init 171 = .ok (.bipush 20, 2) := by decide +kernel
theorem dX12_init_173 : decode cX12_init 173 = .ok (.newarray .int, 2) := by decide +kernel
theorem dX12_init_175 : decode cX12_init 175 = .ok (.putfield 74, 3) := by decide +kernel
theorem dX12_init_178 : decode cX12_init 178 = .ok (.aload_n 0, 1) := by decide +kernel
theorem dX12_init_179 : decode cX12_init 179 = .ok (.bipush 20, 2) := by decide +kernel
theorem dX12_init_181 : decode cX12_init 181 = .ok (.newarray .int, 2) := by decide +kernel
theorem dX12_init_183 : decode cX12_init 183 = .ok (.putfield 77, 3) := by decide +kernel
theorem dX12_init_186 : decode cX12_init 186 = .ok (.aload_n 0, 1) := by decide +kernel
theorem dX12_init_187 : decode cX12_init 187 = .ok (.bipush 20, 2) := by decide +kernel
theorem dX12_init_189 : decode cX12_init 189 = .ok (.newarray .int, 2) := by decide +kernel
theorem dX12_init_191 : decode cX12_init 191 = .ok (.putfield 80, 3) := by decide +kernel
theorem dX12_init_194 : decode cX12_init 194 = .ok (.aload_n 0, 1) := by decide +kernel
theorem dX12_init_195 : decode cX12_init 195 = .ok (.bipush 20, 2) := by decide +kernel
theorem dX12_init_197 : decode cX12_init 197 = .ok (.newarray .int, 2) := by decide +kernel
theorem dX12_init_199 : decode cX12_init 199 = .ok (.putfield 83, 3) := by decide +kernel
theorem dX12_init_202 : decode cX12_init 202 = .ok (.aload_n 0, 1) := by decide +kernel
theorem dX12_init_203 : decode cX12_init 203 = .ok (.sipush 300, 3) := by decide +kernel
theorem dX12_init_206 : decode cX12_init 206 = .ok (.newarray .int, 2) := by decide +kernel
theorem dX12_init_208 : decode cX12_init 208 = .ok (.putfield 86, 3) := by decide +kernel
theorem dX12_init_211 : decode cX12_init 211 = .ok (.aload_n 0, 1) := by decide +kernel
theorem dX12_init_212 : decode cX12_init 212 = .ok (.sipush 300, 3) := by decide +kernel
theorem dX12_init_215 : decode cX12_init 215 = .ok (.newarray .int, 2) := by decide +kernel
theorem dX12_init_217 : decode cX12_init 217 = .ok (.putfield 89, 3) := by decide +kernel
theorem dX12_init_220 : decode cX12_init 220 = .ok (.aload_n 0, 1) := by decide +kernel
theorem dX12_init_221 : decode cX12_init 221 = .ok (.sipush 300, 3) := by decide +kernel
theorem dX12_init_224 : decode cX12_init 224 = .ok (.newarray .int, 2) := by decide +kernel
theorem dX12_init_226 : decode cX12_init 226 = .ok (.putfield 92, 3) := by decide +kernel
theorem dX12_init_229 : decode cX12_init 229 = .ok (.aload_n 0, 1) := by decide +kernel
theorem dX12_init_230 : decode cX12_init 230 = .ok (.sipush 300, 3) := by decide +kernel
theorem dX12_init_233 : decode cX12_init 233 = .ok (.newarray .int, 2) := by decide +kernel
theorem dX12_init_235 : decode cX12_init 235 = .ok (.putfield 95, 3) := by decide +kernel
theorem dX12_init_238 : decode cX12_init 238 = .ok (.aload_n 0, 1) := by decide +kernel
theorem dX12_init_239 : decode cX12_init 239 = .ok (.sipush 300, 3) := by decide +kernel
theorem dX12_init_242 : decode cX12_init 242 = .ok (.newarray .boolean, 2) := by decide +kernel
theorem dX12_init_244 : decode cX12_init 244 = .ok (.putfield 98, 3) := by decide +kernel
theorem dX12_init_247 : decode cX12_init 247 = .ok (.aload_n 0, 1) := by decide +kernel
theorem dX12_init_248 : decode cX12_init 248 = .ok (.sipush 300, 3) := by decide +kernel
theorem dX12_init_251 : decode cX12_init 251 = .ok (.newarray .boolean, 2) := by decide +kernel
theorem dX12_init_253 : decode cX12_init 253 = .ok (.putfield 101, 3) := by decide +kernel
theorem dX12_init_256 : decode cX12_init 256 = .ok (.aload_n 0, 1) := by decide +kernel
theorem dX12_init_257 : decode cX12_init 257 = .ok (.sipush 300, 3) := by decide +kernel
theorem dX12_init_260 : decode cX12_init 260 = .ok (.newarray .int, 2) := by decide +kernel
theorem dX12_init_262 : decode cX12_init 262 = .ok (.putfield 104, 3) := by decide +kernel
theorem dX12_init_265 : decode cX12_init 265 = .ok (.aload_n 0, 1) := by decide +kernel
theorem dX12_init_266 : decode cX12_init 266 = .ok (.sipush 300, 3) := by decide +kernel
theorem dX12_init_269 : decode cX12_init 269 = .ok (.newarray .int, 2) := by decide +kernel
theorem dX12_init_271 : decode cX12_init 271 = .ok (.putfield 107, 3) := by decide +kernel
theorem dX12_init_274 : decode cX12_init 274 = .ok (.aload_n 0, 1) := by decide +kernel
theorem dX12_init_275 : decode cX12_init 275 = .ok (.sipush 300, 3) := by decide +kernel
theorem dX12_init_278 : decode cX12_init 278 = .ok (.newarray .boolean, 2) := by decide +kernel
theorem dX12_init_280 : decode cX12_init 280 = .ok (.putfield 110, 3) := by decide +kernel
theorem dX12_init_283 : decode cX12_init 283 = .ok (.aload_n 0, 1) := by decide +kernel
theorem dX12_init_284 : decode cX12_init 284 = .ok (.sipush 300, 3) := by decide +kernel
theorem dX12_init_287 : decode cX12_init 287 = .ok (.newarray .boolean, 2) := by decide +kernel
theorem dX12_init_289 : decode cX12_init 289 = .ok (.putfield 113, 3) := by decide +kernel
theorem dX12_init_292 : decode cX12_init 292 = .ok (.aload_n 0, 1) := by decide +kernel
theorem dX12_init_293 : decode cX12_init 293 = .ok (.sipush 300, 3) := by decide +kernel
theorem dX12_init_296 : decode cX12_init 296 = .ok (.newarray .boolean, 2) := by decide +kernel
theorem dX12_init_298 : decode cX12_init 298 = .ok (.putfield 116, 3) := by decide +kernel
theorem dX12_init_301 : decode cX12_init 301 = .ok (.aload_n 0, 1) := by decide +kernel
theorem dX12_init_302 : decode cX12_init 302 = .ok (.sipush 300, 3) := by decide +kernel
theorem dX12_init_305 : decode cX12_init 305 = .ok (.newarray .int, 2) := by decide +kernel
theorem dX12_init_307 : decode cX12_init 307 = .ok (.putfield 119, 3) := by decide +kernel
theorem dX12_init_310 : decode cX12_init 310 = .ok (.aload_n 0, 1) := by decide +kernel
theorem dX12_init_311 : decode cX12_init 311 = .ok (.iconst 1, 1) := by decide +kernel
theorem dX12_init_312 : decode cX12_init 312 = .ok (.putfield 122, 3) := by decide +kernel
theorem dX12_init_315 : decode cX12_init 315 = .ok (.aload_n 0, 1) := by decide +kernel
theorem dX12_init_316 : decode cX12_init 316 = .ok (.iconst 2, 1) := by decide +kernel
theorem dX12_init_317 : decode cX12_init 317 = .ok (.putfield 126, 3) := by decide +kernel
theorem dX12_init_320 : decode cX12_init 320 = .ok (.aload_n 0, 1) := by decide +kernel
theorem dX12_init_321 : decode cX12_init 321 = .ok (.iconst 5, 1) := by decide +kernel
theorem dX12_init_322 : decode cX12_init 322 = .ok (.putfield 129, 3) := by decide +kernel
theorem dX12_init_325 : decode cX12_init 325 = .ok (.aload_n 0, 1) := by decide +kernel
theorem dX12_init_326 : decode cX12_init 326 = .ok (.bipush 20, 2) := by decide +kernel
theorem dX12_init_328 : decode cX12_init 328 = .ok (.putfield 132, 3) := by decide +kernel
theorem dX12_init_331 : decode cX12_init 331 = .ok (.aload_n 0, 1) := by decide +kernel
theorem dX12_init_332 : decode cX12_init 332 = .ok (.iconst 3, 1) := by decide +kernel
theorem dX12_init_333 : decode cX12_init 333 = .ok (.putfield 135, 3) := by decide +kernel
theorem dX12_init_336 : decode cX12_init 336 = .ok (.aload_n 0, 1) := by decide +kernel
theorem dX12_init_337 : decode cX12_init 337 = .ok (.sipush 300, 3) := by decide +kernel
theorem dX12_init_340 : decode cX12_init 340 = .ok (.newarray .int, 2) := by decide +kernel
theorem dX12_init_342 : decode cX12_init 342 = .ok (.putfield 138, 3) := by decide +kernel
theorem dX12_init_345 : decode cX12_init 345 = .ok (.aload_n 0, 1) := by decide +kernel
theorem dX12_init_346 : decode cX12_init 346 = .ok (.sipush 300, 3) := by decide +kernel
theorem dX12_init_349 : decode cX12_init 349 = .ok (.newarray .int, 2) := by decide +kernel
theorem dX12_init_351 : decode cX12_init 351 = .ok (.putfield 141, 3) := by decide +kernel
theorem dX12_init_354 : decode cX12_init 354 = .ok (.aload_n 0, 1) := by decide +kernel
theorem dX12_init_355 : decode cX12_init 355 = .ok (.sipush 300, 3) := by decide +kernel
theorem dX12_init_358 : decode cX12_init 358 = .ok (.newarray .boolean, 2) := by decide +kernel
theorem dX12_init_360 : decode cX12_init 360 = .ok (.putfield 144, 3) := by decide +kernel
theorem dX12_init_363 : decode cX12_init 363 = .ok (.aload_n 0, 1) := by decide +kernel
theorem dX12_init_364 : decode cX12_init 364 = .ok (.bipush 40, 2) := by decide +kernel
theorem dX12_init_366 : decode cX12_init 366 = .ok (.newarray .int, 2) := by decide +kernel
theorem dX12_init_368 : decode cX12_init 368 = .ok (.putfield 147, 3) := by decide +kernel
theorem dX12_init_371 : decode cX12_init 371 = .ok (.aload_n 0, 1) := by decide +kernel
theorem dX12_init_372 : decode cX12_init 372 = .ok (.bipush 40, 2) := by decide +kernel
theorem dX12_init_374 : decode cX12_init 374 = .ok (.newarray .int, 2) := by decide +kernel
theorem dX12_init_376 : decode cX12_init 376 = .ok (.putfield 150, 3) := by decide +kernel
theorem dX12_init_379 : decode cX12_init 379 = .ok (.aload_n 0, 1) := by decide +kernel
theorem dX12_init_380 : decode cX12_init 380 = .ok (.bipush 40, 2) := by decide +kernel
theorem dX12_init_382 : decode cX12_init 382 = .ok (.newarray .int, 2) := by decide +kernel
theorem dX12_init_384 : decode cX12_init 384 = .ok (.putfield 153, 3) := by decide +kernel
theorem dX12_init_387 : decode cX12_init 387 = .ok (.aload_n 0, 1) := by decide +kernel
theorem dX12_init_388 : decode cX12_init 388 = .ok (.bipush 40, 2) := by decide +kernel
theorem dX12_init_390 : decode cX12_init 390 = .ok (.newarray .int, 2) := by decide +kernel
theorem dX12_init_392 : decode cX12_init 392 = .ok (.putfield 156, 3) := by decide +kernel
theorem dX12_init_395 : decode cX12_init 395 = .ok (.aload_n 0, 1) := by decide +kernel
theorem dX12_init_396 : decode cX12_init 396 = .ok (.bipush 20, 2) := by decide +kernel
theorem dX12_init_398 : decode cX12_init 398 = .ok (.newarray .int, 2) := by decide +kernel
theorem dX12_init_400 : decode cX12_init 400 = .ok (.putfield 159, 3) := by decide +kernel
theorem dX12_init_403 : decode cX12_init 403 = .ok (.aload_n 0, 1) := by decide +kernel
theorem dX12_init_404 : decode cX12_init 404 = .ok (.bipush 20, 2) := by decide +kernel
theorem dX12_init_406 : decode cX12_init 406 = .ok (.newarray .int, 2) := by decide +kernel
theorem dX12_init_408 : decode cX12_init 408 = .ok (.putfield 162, 3) := by decide +kernel
theorem dX12_init_411 : decode cX12_init 411 = .ok (.aload_n 0, 1) := by decide +kernel
theorem dX12_init_412 : decode cX12_init 412 = .ok (.bipush 20, 2) := by decide +kernel
theorem dX12_init_414 : decode cX12_init 414 = .ok (.newarray .int, 2) := by decide +kernel
theorem dX12_init_416 : decode cX12_init 416 = .ok (.putfield 165, 3) := by decide +kernel
theorem dX12_init_419 : decode cX12_init 419 = .ok (.aload_n 0, 1) := by decide +kernel
theorem dX12_init_420 : decode cX12_init 420 = .ok (.bipush 20, 2) := by decide +kernel
theorem dX12_init_422 : decode cX12_init 422 = .ok (.newarray .int, 2) := by decide +kernel
theorem dX12_init_424 : decode cX12_init 424 = .ok (.putfield 168, 3) := by decide +kernel
theorem dX12_init_427 : decode cX12_init 427 = .ok (.aload_n 0, 1) := by decide +kernel
theorem dX12_init_428 : decode cX12_init 428 = .ok (.sipush 200, 3) := by decide +kernel
theorem dX12_init_431 : decode cX12_init 431 = .ok (.newarray .int, 2) := by decide +kernel
theorem dX12_init_433 : decode cX12_init 433 = .ok (.putfield 171, 3) := by decide +kernel
theorem dX12_init_436 : decode cX12_init 436 = .ok (.aload_n 0, 1) := by decide +kernel
theorem dX12_init_437 : decode cX12_init 437 = .ok (.sipush 200, 3) := by decide +kernel
theorem dX12_init_440 : decode cX12_init 440 = .ok (.newarray .int, 2) := by decide +kernel
theorem dX12_init_442 : decode cX12_init 442 = .ok (.putfield 174, 3) := by decide +kernel
theorem dX12_init_445 : decode cX12_init 445 = .ok (.aload_n 0, 1) := by decide +kernel
theorem dX12_init_446 : decode cX12_init 446 = .ok (.sipush 200, 3) := by decide +kernel
theorem dX12_init_449 : decode cX12_init 449 = .ok (.newarray .int, 2) := by decide +kernel
theorem dX12_init_451 : decode cX12_init 451 = .ok (.putfield 177, 3) := by decide +kernel
theorem dX12_init_454 : decode cX12_init 454 = .ok (.aload_n 0, 1) := by decide +kernel
theorem dX12_init_455 : decode cX12_init 455 = .ok (.sipush 200, 3) := by decide +kernel
theorem dX12_init_458 : decode cX12_init 458 = .ok (.newarray .int, 2) := by decide +kernel
theorem dX12_init_460 : decode cX12_init 460 = .ok (.putfield 180, 3) := by decide +kernel
theorem dX12_init_463 : decode cX12_init 463 = .ok (.aload_n 0, 1) := by decide +kernel
theorem dX12_init_464 : decode cX12_init 464 = .ok (.sipush 8000, 3) := by decide +kernel
theorem dX12_init_467 : decode cX12_init 467 = .ok (.newarray .int, 2) := by decide +kernel
theorem dX12_init_469 : decode cX12_init 469 = .ok (.putfield 183, 3) := by decide +kernel
theorem dX12_init_472 : decode cX12_init 472 = .ok (.aload_n 0, 1) := by decide +kernel
theorem dX12_init_473 : decode cX12_init 473 = .ok (.sipush 200, 3) := by decide +kernel
theorem dX12_init_476 : decode cX12_init 476 = .ok (.newarray .int, 2) := by decide +kernel
theorem dX12_init_478 : decode cX12_init 478 = .ok (.putfield 186, 3) := by decide +kernel
theorem dX12_init_481 : decode cX12_init 481 = .ok (.aload_n 0, 1) := by decide +kernel
theorem dX12_init_482 : decode cX12_init 482 = .ok (.sipush 1600, 3) := by decide +kernel
theorem dX12_init_485 : decode cX12_init 485 = .ok (.newarray .int, 2) := by decide +kernel
theorem dX12_init_487 : decode cX12_init 487 = .ok (.putfield 189, 3) := by decide +kernel
theorem dX12_init_490 : decode cX12_init 490 = .ok (.aload_n 0, 1) := by decide +kernel
theorem dX12_init_491 : decode cX12_init 491 = .ok (.sipush 200, 3) := by decide +kernel
theorem dX12_init_494 : decode cX12_init 494 = .ok (.newarray .int, 2) := by decide +kernel
theorem dX12_init_496 : decode cX12_init 496 = .ok (.putfield 192, 3) := by decide +kernel
theorem dX12_init_499 : decode cX12_init 499 = .ok (.aload_n 0, 1) := by decide +kernel
theorem dX12_init_500 : decode cX12_init 500 = .ok (.sipush 200, 3) := by decide +kernel
theorem dX12_init_503 : decode cX12_init 503 = .ok (.newarray .int, 2) := by decide +kernel
theorem dX12_init_505 : decode cX12_init 505 = .ok (.putfield 195, 3) := by decide +kernel
theorem dX12_init_508 : decode cX12_init 508 = .ok (.aload_n 0, 1) := by decide +kernel
theorem dX12_init_509 : decode cX12_init 509 = .ok (.sipush 200, 3) := by decide +kernel
theorem dX12_init_512 : decode cX12_init 512 = .ok (.newarray .int, 2) := by decide +kernel
theorem dX12_init_514 : decode cX12_init 514 = .ok (.putfield 198, 3) := by decide +kernel
theorem dX12_init_517 : decode cX12_init 517 = .ok (.aload_n 0, 1) := by decide +kernel
theorem dX12_init_518 : decode cX12_init 518 = .ok (.sipush 200, 3) := by decide +kernel
theorem dX12_init_521 : decode cX12_init 521 = .ok (.newarray .int, 2) := by decide +kernel
theorem dX12_init_523 : decode cX12_init 523 = .ok (.putfield 201, 3) := by decide +kernel
theorem dX12_init_526 : decode cX12_init 526 = .ok (.aload_n 0, 1) := by decide +kernel
theorem dX12_init_527 : decode cX12_init 527 = .ok (.bipush 16, 2) := by decide +kernel
theorem dX12_init_529 : decode cX12_init 529 = .ok (.newarray .boolean, 2) := by decide +kernel
theorem dX12_init_531 : decode cX12_init 531 = .ok (.putfield 204, 3) := by decide +kernel
theorem dX12_init_534 : decode cX12_init 534 = .ok (.aload_n 0, 1) := by decide +kernel
theorem dX12_init_535 : decode cX12_init 535 = .ok (.bipush 8, 2) := by decide +kernel
theorem dX12_init_537 : decode cX12_init 537 = .ok (.newarray .int, 2) := by decide +kernel
theorem dX12_init_539 : decode cX12_init 539 = .ok (.putfield 207, 3) := by decide +kernel
theorem dX12_init_542 : decode cX12_init 542 = .ok (.aload_n 0, 1) := by decide +kernel
theorem dX12_init_543 : decode cX12_init 543 = .ok (.bipush 8, 2) := by decide +kernel
theorem dX12_init_545 : decode cX12_init 545 = .ok (.newarray .int, 2) := by decide +kernel
theorem dX12_init_547 : decode cX12_init 547 = .ok (.putfield 210, 3) := by decide +kernel
theorem dX12_init_550 : decode cX12_init 550 = .ok (.aload_n 0, 1) := by decide +kernel
theorem dX12_init_551 : decode cX12_init 551 = .ok (.bipush 8, 2) := by decide +kernel
theorem dX12_init_553 : decode cX12_init 553 = .ok (.newarray .int, 2) := by decide +kernel
theorem dX12_init_555 : decode cX12_init 555 = .ok (.putfield 213, 3) := by decide +kernel
theorem dX12_init_558 : decode cX12_init 558 = .ok (.aload_n 0, 1) := by decide +kernel
theorem dX12_init_559 : decode cX12_init 559 = .ok (.bipush 8, 2) := by decide +kernel
theorem dX12_init_561 : decode cX12_init 561 = .ok (.newarray .int, 2) := by decide +kernel
theorem dX12_init_563 : decode cX12_init 563 = .ok (.putfield 216, 3) := by decide +kernel
theorem dX12_init_566 : decode cX12_init 566 = .ok (.aload_n 0, 1) := by decide +kernel
theorem dX12_init_567 : decode cX12_init 567 = .ok (.bipush 8, 2) := by decide +kernel
theorem dX12_init_569 : decode cX12_init 569 = .ok (.newarray .int, 2) := by decide +kernel
theorem dX12_init_571 : decode cX12_init 571 = .ok (.putfield 219, 3) := by decide +kernel
theorem dX12_init_574 : decode cX12_init 574 = .ok (.aload_n 0, 1) := by decide +kernel
theorem dX12_init_575 : decode cX12_init 575 = .ok (.sipush 480, 3) := by decide +kernel
theorem dX12_init_578 : decode cX12_init 578 = .ok (.newarray .long, 2) := by decide +kernel
theorem dX12_init_580 : decode cX12_init 580 = .ok (.putfield 222, 3) := by decide +kernel
theorem dX12_init_583 : decode cX12_init 583 = .ok (.aload_n 0, 1) := by decide +kernel
theorem dX12_init_584 : decode cX12_init 584 = .ok (.bipush 60, 2) := by decide +kernel
theorem dX12_init_586 : decode cX12_init 586 = .ok (.newarray .long, 2) := by decide +kernel
theorem dX12_init_588 : decode cX12_init 588 = .ok (.putfield 225, 3) := by decide +kernel
theorem dX12_init_591 : decode cX12_init 591 = .ok (.iconst 0, 1) := by decide +kernel
theorem dX12_init_592 : decode cX12_init 592 = .ok (.istore_n 1, 1) := by decide +kernel
theorem dX12_init_593 : decode cX12_init 593 = .ok (.iload_n 1, 1) := by decide +kernel
theorem dX12_init_594 : decode cX12_init 594 = .ok (.sipush 256, 3) := by decide +kernel
theorem dX12_init_597 : decode cX12_init 597 = .ok (.if_icmp .ge 23, 3) := by decide +kernel
theorem dX12_init_600 : decode cX12_init 600 = .ok (.aload_n 0, 1) := by decide +kernel
theorem dX12_init_601 : decode cX12_init 601 = .ok (.getfield 53, 3) := by decide +kernel
theorem dX12_init_604 : decode cX12_init 604 = .ok (.iload_n 1, 1) := by decide +kernel
theorem dX12_init_605 : decode cX12_init 605 = .ok (.iconst (-1), 1) := by decide +kernel
theorem dX12_init_606 : decode cX12_init 606 = .ok (.iastore, 1) := by decide +kernel
theorem dX12_init_607 : decode cX12_init 607 = .ok (.aload_n 0, 1) := by decide +kernel
theorem dX12_init_608 : decode cX12_init 608 = .ok (.getfield 62, 3) := by decide +kernel
theorem dX12_init_611 : decode cX12_init 611 = .ok (.iload_n 1, 1) := by decide +kernel
theorem dX12_init_612 : decode cX12_init 612 = .ok (.iconst (-1), 1) := by decide +kernel
theorem dX12_init_613 : decode cX12_init 613 = .ok (.iastore, 1) := by decide +kernel
theorem dX12_init_614 : decode cX12_init 614 = .ok (.iinc 1 1, 3) := by decide +kernel
theorem dX12_init_617 : decode cX12_init 617 = .ok (.goto (-24), 3) := by decide +kernel
theorem dX12_init_620 : decode cX12_init 620 = .ok (.return_, 1) := by decide +kernel
theorem dX12_thrown_0 : decode cX12_thrown 0 = .ok (.aload_n 0, 1) := by decide +kernel
theorem dX12_thrown_1 : decode cX12_thrown 1 = .ok (.getfield 228, 3) := by decide +kernel
theorem dX12_thrown_4 : decode cX12_thrown 4 = .ok (.ireturn, 1) := by decide +kernel
theorem dX12_isIn_0 : decode cX12_isIn 0 = .ok (.lload_n 0, 1) := by decide +kernel
theorem dX12_isIn_1 : decode cX12_isIn 1 = .ok (.lload_n 2, 1) := by decide +kernel
theorem dX12_isIn_2 : decode cX12_isIn 2 = .ok (.lcmp, 1) := by decide +kernel
theorem dX12_isIn_3 : decode cX12_isIn 3 = .ok (.ifCond .lt 14, 3) := by decide +kernel
theorem dX12_isIn_6 : decode cX12_isIn 6 = .ok (.lload_n 0, 1) := by decide +kernel
theorem dX12_isIn_7 : decode cX12_isIn 7 = .ok (.lload 4, 2) := by decide +kernel
theorem dX12_isIn_9 : decode cX12_isIn 9 = .ok (.lcmp, 1) := by decide +kernel
theorem dX12_isIn_10 : decode cX12_isIn 10 = .ok (.ifCond .gt 7, 3) := by decide +kernel
theorem dX12_isIn_13 : decode cX12_isIn 13 = .ok (.iconst 1, 1) := by decide +kernel
theorem dX12_isIn_14 : decode cX12_isIn 14 = .ok (.goto 4, 3) := by decide +kernel
theorem dX12_isIn_17 : decode cX12_isIn 17 = .ok (.iconst 0, 1) := by decide +kernel
theorem dX12_isIn_18 : decode cX12_isIn 18 = .ok (.ireturn, 1) := by decide +kernel
theorem dX12_isSource_0 : decode cX12_isSource 0 = .ok (.iload_n 1, 1) := by decide +kernel
theorem dX12_isSource_1 : decode cX12_isSource 1 = .ok (.ifCond .lt 15, 3) := by decide +kernel
theorem dX12_isSource_4 : decode cX12_isSource 4 = .ok (.iload_n 1, 1) := by decide +kernel
theorem dX12_isSource_5 : decode cX12_isSource 5 = .ok (.aload_n 0, 1) := by decide +kernel
theorem dX12_isSource_6 : decode cX12_isSource 6 = .ok (.getfield 231, 3) := by decide +kernel
theorem dX12_isSource_9 : decode cX12_isSource 9 = .ok (.if_icmp .ge 7, 3) := by decide +kernel
theorem dX12_isSource_12 : decode cX12_isSource 12 = .ok (.iconst 1, 1) := by decide +kernel
theorem dX12_isSource_13 : decode cX12_isSource 13 = .ok (.goto 4, 3) := by decide +kernel
theorem dX12_isSource_16 : decode cX12_isSource 16 = .ok (.iconst 0, 1) := by decide +kernel
theorem dX12_isSource_17 : decode cX12_isSource 17 = .ok (.ireturn, 1) := by decide +kernel
theorem dX12_isRule_0 : decode cX12_isRule 0 = .ok (.iload_n 1, 1) := by decide +kernel
theorem dX12_isRule_1 : decode cX12_isRule 1 = .ok (.ifCond .lt 15, 3) := by decide +kernel
theorem dX12_isRule_4 : decode cX12_isRule 4 = .ok (.iload_n 1, 1) := by decide +kernel
theorem dX12_isRule_5 : decode cX12_isRule 5 = .ok (.aload_n 0, 1) := by decide +kernel
theorem dX12_isRule_6 : decode cX12_isRule 6 = .ok (.getfield 234, 3) := by decide +kernel
theorem dX12_isRule_9 : decode cX12_isRule 9 = .ok (.if_icmp .ge 7, 3) := by decide +kernel
theorem dX12_isRule_12 : decode cX12_isRule 12 = .ok (.iconst 1, 1) := by decide +kernel
theorem dX12_isRule_13 : decode cX12_isRule 13 = .ok (.goto 4, 3) := by decide +kernel
theorem dX12_isRule_16 : decode cX12_isRule 16 = .ok (.iconst 0, 1) := by decide +kernel
theorem dX12_isRule_17 : decode cX12_isRule 17 = .ok (.ireturn, 1) := by decide +kernel
theorem dX12_isHand_0 : decode cX12_isHand 0 = .ok (.iload_n 1, 1) := by decide +kernel
theorem dX12_isHand_1 : decode cX12_isHand 1 = .ok (.ifCond .lt 15, 3) := by decide +kernel
theorem dX12_isHand_4 : decode cX12_isHand 4 = .ok (.iload_n 1, 1) := by decide +kernel
theorem dX12_isHand_5 : decode cX12_isHand 5 = .ok (.aload_n 0, 1) := by decide +kernel
theorem dX12_isHand_6 : decode cX12_isHand 6 = .ok (.getfield 237, 3) := by decide +kernel
theorem dX12_isHand_9 : decode cX12_isHand 9 = .ok (.if_icmp .ge 7, 3) := by decide +kernel
theorem dX12_isHand_12 : decode cX12_isHand 12 = .ok (.iconst 1, 1) := by decide +kernel
theorem dX12_isHand_13 : decode cX12_isHand 13 = .ok (.goto 4, 3) := by decide +kernel
theorem dX12_isHand_16 : decode cX12_isHand 16 = .ok (.iconst 0, 1) := by decide +kernel
theorem dX12_isHand_17 : decode cX12_isHand 17 = .ok (.ireturn, 1) := by decide +kernel
theorem dX12_source_0 : decode cX12_source 0 = .ok (.aload_n 0, 1) := by decide +kernel
theorem dX12_source_1 : decode cX12_source 1 = .ok (.iconst 0, 1) := by decide +kernel
theorem dX12_source_2 : decode cX12_source 2 = .ok (.putfield 228, 3) := by decide +kernel
theorem dX12_source_5 : decode cX12_source 5 = .ok (.iload_n 1, 1) := by decide +kernel
theorem dX12_source_6 : decode cX12_source 6 = .ok (.i2l, 1) := by decide +kernel
theorem dX12_source_7 : decode cX12_source 7 = .ok (.lconst 0, 1) := by decide +kernel
theorem dX12_source_8 : decode cX12_source 8 = .ok (.ldc2_w 240, 3) := by decide +kernel
theorem dX12_source_11 : decode cX12_source 11 = .ok (.invokestatic 242, 3) := by decide +kernel
theorem dX12_source_14 : decode cX12_source 14 = .ok (.ifCond .ne 5, 3) := by decide +kernel
theorem dX12_source_17 : decode cX12_source 17 = .ok (.iconst (-1), 1) := by decide +kernel
theorem dX12_source_18 : decode cX12_source 18 = .ok (.ireturn, 1) := by decide +kernel
theorem dX12_source_19 : decode cX12_source 19 = .ok (.aload_n 0, 1) := by decide +kernel
theorem dX12_source_20 : decode cX12_source 20 = .ok (.getfield 231, 3) := by decide +kernel
theorem dX12_source_23 : decode cX12_source 23 = .ok (.bipush 16, 2) := by decide +kernel
theorem dX12_source_25 : decode cX12_source 25 = .ok (.if_icmp .ne 6, 3) := by decide +kernel
theorem dX12_source_28 : decode cX12_source 28 = .ok (.bipush (-2), 2) := by decide +kernel
theorem dX12_source_30 : decode cX12_source 30 = .ok (.ireturn, 1) := by decide +kernel
theorem dX12_source_31 : decode cX12_source 31 = .ok (.aload_n 0, 1) := by decide +kernel
theorem dX12_source_32 : decode cX12_source 32 = .ok (.getfield 7, 3) := by decide +kernel
theorem dX12_source_35 : decode cX12_source 35 = .ok (.aload_n 0, 1) := by decide +kernel
theorem dX12_source_36 : decode cX12_source 36 = .ok (.getfield 231, 3) := by decide +kernel
theorem dX12_source_39 : decode cX12_source 39 = .ok (.iload_n 1, 1) := by decide +kernel
theorem dX12_source_40 : decode cX12_source 40 = .ok (.iastore, 1) := by decide +kernel
theorem dX12_source_41 : decode cX12_source 41 = .ok (.aload_n 0, 1) := by decide +kernel
theorem dX12_source_42 : decode cX12_source 42 = .ok (.dup, 1) := by decide +kernel
theorem dX12_source_43 : decode cX12_source 43 = .ok (.getfield 231, 3) := by decide +kernel
theorem dX12_source_46 : decode cX12_source 46 = .ok (.iconst 1, 1) := by decide +kernel
theorem dX12_source_47 : decode cX12_source 47 = .ok (.iadd, 1) := by decide +kernel
theorem dX12_source_48 : decode cX12_source 48 = .ok (.putfield 231, 3) := by decide +kernel
theorem dX12_source_51 : decode cX12_source 51 = .ok (.aload_n 0, 1) := by decide +kernel
theorem dX12_source_52 : decode cX12_source 52 = .ok (.getfield 231, 3) := by decide +kernel
theorem dX12_source_55 : decode cX12_source 55 = .ok (.iconst 1, 1) := by decide +kernel
theorem dX12_source_56 : decode cX12_source 56 = .ok (.isub, 1) := by decide +kernel
theorem dX12_source_57 : decode cX12_source 57 = .ok (.ireturn, 1) := by decide +kernel
theorem dX12_rule_0 : decode cX12_rule 0 = .ok (.aload_n 0, 1) := by decide +kernel
theorem dX12_rule_1 : decode cX12_rule 1 = .ok (.iconst 0, 1) := by decide +kernel
theorem dX12_rule_2 : decode cX12_rule 2 = .ok (.putfield 228, 3) := by decide +kernel
theorem dX12_rule_5 : decode cX12_rule 5 = .ok (.iload_n 1, 1) := by decide +kernel
theorem dX12_rule_6 : decode cX12_rule 6 = .ok (.bipush 100, 2) := by decide +kernel
theorem dX12_rule_8 : decode cX12_rule 8 = .ok (.irem, 1) := by decide +kernel
theorem dX12_rule_9 : decode cX12_rule 9 = .ok (.istore 7, 2) := by decide +kernel
theorem dX12_rule_11 : decode cX12_rule 11 = .ok (.iload_n 1, 1) := by decide +kernel
theorem dX12_rule_12 : decode cX12_rule 12 = .ok (.bipush 100, 2) := by decide +kernel
theorem dX12_rule_14 : decode cX12_rule 14 = .ok (.idiv, 1) := by decide +kernel
theorem dX12_rule_15 : decode cX12_rule 15 = .ok (.istore 8, 2) := by decide +kernel
theorem dX12_rule_17 : decode cX12_rule 17 = .ok (.iload 5, 2) := by decide +kernel
theorem dX12_rule_19 : decode cX12_rule 19 = .ok (.bipush 100, 2) := by decide +kernel
theorem dX12_rule_21 : decode cX12_rule 21 = .ok (.irem, 1) := by decide +kernel
theorem dX12_rule_22 : decode cX12_rule 22 = .ok (.istore 9, 2) := by decide +kernel
theorem dX12_rule_24 : decode cX12_rule 24 = .ok (.iload 5, 2) := by decide +kernel
theorem dX12_rule_26 : decode cX12_rule 26 = .ok (.bipush 100, 2) := by decide +kernel
theorem dX12_rule_28 : decode cX12_rule 28 = .ok (.idiv, 1) := by decide +kernel
theorem dX12_rule_29 : decode cX12_rule 29 = .ok (.bipush 100, 2) := by decide +kernel
theorem dX12_rule_31 : decode cX12_rule 31 = .ok (.irem, 1) := by decide +kernel
theorem dX12_rule_32 : decode cX12_rule 32 = .ok (.istore 10, 2) := by decide +kernel
theorem dX12_rule_34 : decode cX12_rule 34 = .ok (.iload 5, 2) := by decide +kernel
theorem dX12_rule_36 : decode cX12_rule 36 = .ok (.sipush 10000, 3) := by decide +kernel
theorem dX12_rule_39 : decode cX12_rule 39 = .ok (.idiv, 1) := by decide +kernel
theorem dX12_rule_40 : decode cX12_rule 40 = .ok (.istore 11, 2) := by decide +kernel
theorem dX12_rule_42 : decode cX12_rule 42 = .ok (.iload_n 1, 1) := by decide +kernel
theorem dX12_rule_43 : decode cX12_rule 43 = .ok (.ifCond .lt 99, 3) := by decide +kernel
theorem dX12_rule_46 : decode cX12_rule 46 = .ok (.iload 7, 2) := by decide +kernel
theorem dX12_rule_48 : decode cX12_rule 48 = .ok (.i2l, 1) := by decide +kernel
theorem dX12_rule_49 : decode cX12_rule 49 = .ok (.lconst 0, 1) := by decide +kernel
theorem dX12_rule_50 : decode cX12_rule 50 = .ok (.ldc2_w 246, 3) := by decide +kernel
theorem dX12_rule_53 : decode cX12_rule 53 = .ok (.invokestatic 242, 3) := by decide +kernel
theorem dX12_rule_56 : decode cX12_rule 56 = .ok (.ifCond .eq 86, 3) := by decide +kernel
theorem dX12_rule_59 : decode cX12_rule 59 = .ok (.iload 7, 2) := by decide +kernel
theorem dX12_rule_61 : decode cX12_rule 61 = .ok (.iconst 2, 1) := by decide +kernel
theorem dX12_rule_62 : decode cX12_rule 62 = .ok (.if_icmp .lt 22, 3) := by decide +kernel
theorem dX12_rule_65 : decode cX12_rule 65 = .ok (.iload 7, 2) := by decide +kernel
theorem dX12_rule_67 : decode cX12_rule 67 = .ok (.iconst 5, 1) := by decide +kernel
theorem dX12_rule_68 : decode cX12_rule 68 = .ok (.if_icmp .gt 16, 3) := by decide +kernel
theorem dX12_rule_71 : decode cX12_rule 71 = .ok (.iload 8, 2) := by decide +kernel
theorem dX12_rule_73 : decode cX12_rule 73 = .ok (.i2l, 1) := by decide +kernel
theorem dX12_rule_74 : decode cX12_rule 74 = .ok (.lconst 1, 1) := by decide +kernel
theorem dX12_rule_75 : decode cX12_rule 75 = .ok (.ldc2_w 248, 3) := by decide +kernel
theorem dX12_rule_78 : decode cX12_rule 78 = .ok (.invokestatic 242, 3) := by decide +kernel
theorem dX12_rule_81 : decode cX12_rule 81 = .ok (.ifCond .eq 61, 3) := by decide +kernel
theorem dX12_rule_84 : decode cX12_rule 84 = .ok (.iload 9, 2) := by decide +kernel
theorem dX12_rule_86 : decode cX12_rule 86 = .ok (.i2l, 1) := by decide +kernel
theorem dX12_rule_87 : decode cX12_rule 87 = .ok (.lconst 1, 1) := by decide +kernel
theorem dX12_rule_88 : decode cX12_rule 88 = .ok (.ldc2_w 250, 3) := by decide +kernel
theorem dX12_rule_91 : decode cX12_rule 91 = .ok (.invokestatic 242, 3) := by decide +kernel
theorem dX12_rule_94 : decode cX12_rule 94 = .ok (.ifCond .eq 48, 3) := by decide +kernel
theorem dX12_rule_97 : decode cX12_rule 97 = .ok (.iload 10, 2) := by decide +kernel
theorem dX12_rule_99 : decode cX12_rule 99 = .ok (.i2l, 1) := by decide +kernel
theorem dX12_rule_100 : decode cX12_rule 100 = .ok (.lconst 1, 1) := by decide +kernel
theorem dX12_rule_101 : decode cX12_rule 101 = .ok (.ldc2_w 250, 3) := by decide +kernel
theorem dX12_rule_104 : decode cX12_rule 104 = .ok (.invokestatic 242, 3) := by decide +kernel
theorem dX12_rule_107 : decode cX12_rule 107 = .ok (.ifCond .eq 35, 3) := by decide +kernel
theorem dX12_rule_110 : decode cX12_rule 110 = .ok (.iload 11, 2) := by decide +kernel
theorem dX12_rule_112 : decode cX12_rule 112 = .ok (.i2l, 1) := by decide +kernel
theorem dX12_rule_113 : decode cX12_rule 113 = .ok (.lconst 1, 1) := by decide +kernel
theorem dX12_rule_114 : decode cX12_rule 114 = .ok (.ldc2_w 252, 3) := by decide +kernel
theorem dX12_rule_117 : decode cX12_rule 117 = .ok (.invokestatic 242, 3) := by decide +kernel
theorem dX12_rule_120 : decode cX12_rule 120 = .ok (.ifCond .eq 22, 3) := by decide +kernel
theorem dX12_rule_123 : decode cX12_rule 123 = .ok (.iload 6, 2) := by decide +kernel
theorem dX12_rule_125 : decode cX12_rule 125 = .ok (.i2l, 1) := by decide +kernel
theorem dX12_rule_126 : decode cX12_rule 126 = .ok (.ldc2_w 254, 3) := by decide +kernel
theorem dX12_rule_129 : decode cX12_rule 129 = .ok (.ldc2_w 240, 3) := by decide +kernel
theorem dX12_rule_132 : decode cX12_rule 132 = .ok (.invokestatic 242, 3) := by decide +kernel
theorem dX12_rule_135 : decode cX12_rule 135 = .ok (.ifCond .eq 7, 3) := by decide +kernel
theorem dX12_rule_138 : decode cX12_rule 138 = .ok (.iconst 1, 1) := by decide +kernel
theorem dX12_rule_139 : decode cX12_rule 139 = .ok (.goto 4, 3) := by decide +kernel
theorem dX12_rule_142 : decode cX12_rule 142 = .ok (.iconst 0, 1) := by decide +kernel
theorem dX12_rule_143 : decode cX12_rule 143 = .ok (.istore 12, 2) := by decide +kernel
theorem dX12_rule_145 : decode cX12_rule 145 = .ok (.iload 12, 2) := by decide +kernel
theorem dX12_rule_147 : decode cX12_rule 147 = .ok (.ifCond .eq 71, 3) := by decide +kernel
theorem dX12_rule_150 : decode cX12_rule 150 = .ok (.iload 7, 2) := by decide +kernel
theorem dX12_rule_152 : decode cX12_rule 152 = .ok (.iconst 1, 1) := by decide +kernel
theorem dX12_rule_153 : decode cX12_rule 153 = .ok (.if_icmp .ne 11, 3) := by decide +kernel
theorem dX12_rule_156 : decode cX12_rule 156 = .ok (.iload 4, 2) := by decide +kernel
theorem dX12_rule_158 : decode cX12_rule 158 = .ok (.i2l, 1) := by decide +kernel
theorem dX12_rule_159 : decode cX12_rule 159 = .ok (.lload_n 2, 1) := by decide +kernel
theorem dX12_rule_160 : decode cX12_rule 160 = .ok (.lcmp, 1) := by decide +kernel
theorem dX12_rule_161 : decode cX12_rule 161 = .ok (.ifCond .gt 57, 3) := by decide +kernel
theorem dX12_rule_164 : decode cX12_rule 164 = .ok (.iload 7, 2) := by decide +kernel
theorem dX12_rule_166 : decode cX12_rule 166 = .ok (.iconst 3, 1) := by decide +kernel
theorem dX12_rule_167 : decode cX12_rule 167 = .ok (.if_icmp .ne 16, 3) := by decide +kernel
theorem dX12_rule_170 : decode cX12_rule 170 = .ok (.iload 4, 2) := by decide +kernel
theorem dX12_rule_172 : decode cX12_rule 172 = .ok (.i2l, 1) := by decide +kernel
theorem dX12_rule_173 : decode cX12_rule 173 = .ok (.lconst 1, 1) := by decide +kernel
theorem dX12_rule_174 : decode cX12_rule 174 = .ok (.ldc2_w 256, 3) := by decide +kernel
theorem dX12_rule_177 : decode cX12_rule 177 = .ok (.invokestatic 242, 3) := by decide +kernel
theorem dX12_rule_180 : decode cX12_rule 180 = .ok (.ifCond .eq 38, 3) := by decide +kernel
theorem dX12_rule_183 : decode cX12_rule 183 = .ok (.iload 7, 2) := by decide +kernel
theorem dX12_rule_185 : decode cX12_rule 185 = .ok (.bipush 6, 2) := by decide +kernel
theorem dX12_rule_187 : decode cX12_rule 187 = .ok (.if_icmp .ne 27, 3) := by decide +kernel
theorem dX12_rule_190 : decode cX12_rule 190 = .ok (.lload_n 2, 1) := by decide +kernel
theorem dX12_rule_191 : decode cX12_rule 191 = .ok (.lconst 0, 1) := by decide +kernel
theorem dX12_rule_192 : decode cX12_rule 192 = .ok (.aload_n 0, 1) := by decide +kernel
theorem dX12_rule_193 : decode cX12_rule 193 = .ok (.getfield 234, 3) := by decide +kernel
theorem dX12_rule_196 : decode cX12_rule 196 = .ok (.iconst 1, 1) := by decide +kernel
theorem dX12_rule_197 : decode cX12_rule 197 = .ok (.isub, 1) := by decide +kernel
theorem dX12_rule_198 : decode cX12_rule 198 = .ok (.i2l, 1) := by decide +kernel
theorem dX12_rule_199 : decode cX12_rule 199 = .ok (.invokestatic 242, 3) := by decide +kernel
theorem dX12_rule_202 : decode cX12_rule 202 = .ok (.ifCond .eq 16, 3) := by decide +kernel
theorem dX12_rule_205 : decode cX12_rule 205 = .ok (.aload_n 0, 1) := by decide +kernel
theorem dX12_rule_206 : decode cX12_rule 206 = .ok (.iload 4, 2) := by decide +kernel
theorem dX12_rule_208 : decode cX12_rule 208 = .ok (.invokevirtual 258, 3) := by decide +kernel
theorem dX12_rule_211 : decode cX12_rule 211 = .ok (.ifCond .eq 7, 3) := by decide +kernel
theorem dX12_rule_214 : decode cX12_rule 214 = .ok (.iconst 1, 1) := by decide +kernel
theorem dX12_rule_215 : decode cX12_rule 215 = .ok (.goto 4, 3) := by decide +kernel
theorem dX12_rule_218 : decode cX12_rule 218 = .ok (.iconst 0, 1) := by decide +kernel
theorem dX12_rule_219 : decode cX12_rule 219 = .ok (.istore 12, 2) := by decide +kernel
theorem dX12_rule_221 : decode cX12_rule 221 = .ok (.iload 12, 2) := by decide +kernel
theorem dX12_rule_223 : decode cX12_rule 223 = .ok (.ifCond .ne 5, 3) := by decide +kernel
theorem dX12_rule_226 : decode cX12_rule 226 = .ok (.iconst (-1), 1) := by decide +kernel
theorem dX12_rule_227 : decode cX12_rule 227 = .ok (.ireturn, 1) := by decide +kernel
theorem dX12_rule_228 : decode cX12_rule 228 = .ok (.aload_n 0, 1) := by decide +kernel
theorem dX12_rule_229 : decode cX12_rule 229 = .ok (.getfield 234, 3) := by decide +kernel
theorem dX12_rule_232 : decode cX12_rule 232 = .ok (.bipush 16, 2) := by decide +kernel
theorem dX12_rule_234 : decode cX12_rule 234 = .ok (.if_icmp .ne 6, 3) := by decide +kernel
theorem dX12_rule_237 : decode cX12_rule 237 = .ok (.bipush (-2), 2) := by decide +kernel
theorem dX12_rule_239 : decode cX12_rule 239 = .ok (.ireturn, 1) := by decide +kernel
theorem dX12_rule_240 : decode cX12_rule 240 = .ok (.aload_n 0, 1) := by decide +kernel
theorem dX12_rule_241 : decode cX12_rule 241 = .ok (.getfield 21, 3) := by decide +kernel
theorem dX12_rule_244 : decode cX12_rule 244 = .ok (.aload_n 0, 1) := by decide +kernel
theorem dX12_rule_245 : decode cX12_rule 245 = .ok (.getfield 234, 3) := by decide +kernel
theorem dX12_rule_248 : decode cX12_rule 248 = .ok (.iload 7, 2) := by decide +kernel
theorem dX12_rule_250 : decode cX12_rule 250 = .ok (.iastore, 1) := by decide +kernel
theorem dX12_rule_251 : decode cX12_rule 251 = .ok (.aload_n 0, 1) := by decide +kernel
theorem dX12_rule_252 : decode cX12_rule 252 = .ok (.getfield 24, 3) := by decide +kernel
theorem dX12_rule_255 : decode cX12_rule 255 = .ok (.aload_n 0, 1) := by decide +kernel
theorem dX12_rule_256 : decode cX12_rule 256 = .ok (.getfield 234, 3) := by decide +kernel
theorem dX12_rule_259 : decode cX12_rule 259 = .ok (.iload 8, 2) := by decide +kernel
theorem dX12_rule_261 : decode cX12_rule 261 = .ok (.iastore, 1) := by decide +kernel
theorem dX12_rule_262 : decode cX12_rule 262 = .ok (.aload_n 0, 1) := by decide +kernel
theorem dX12_rule_263 : decode cX12_rule 263 = .ok (.getfield 27, 3) := by decide +kernel
theorem dX12_rule_266 : decode cX12_rule 266 = .ok (.aload_n 0, 1) := by decide +kernel
theorem dX12_rule_267 : decode cX12_rule 267 = .ok (.getfield 234, 3) := by decide +kernel
theorem dX12_rule_270 : decode cX12_rule 270 = .ok (.lload_n 2, 1) := by decide +kernel
theorem dX12_rule_271 : decode cX12_rule 271 = .ok (.lastore, 1) := by decide +kernel
theorem dX12_rule_272 : decode cX12_rule 272 = .ok (.aload_n 0, 1) := by decide +kernel
theorem dX12_rule_273 : decode cX12_rule 273 = .ok (.getfield 30, 3) := by decide +kernel
theorem dX12_rule_276 : decode cX12_rule 276 = .ok (.aload_n 0, 1) := by decide +kernel
theorem dX12_rule_277 : decode cX12_rule 277 = .ok (.getfield 234, 3) := by decide +kernel
theorem dX12_rule_280 : decode cX12_rule 280 = .ok (.iload 4, 2) := by decide +kernel
theorem dX12_rule_282 : decode cX12_rule 282 = .ok (.iastore, 1) := by decide +kernel
theorem dX12_rule_283 : decode cX12_rule 283 = .ok (.aload_n 0, 1) := by decide +kernel
theorem dX12_rule_284 : decode cX12_rule 284 = .ok (.getfield 33, 3) := by decide +kernel
theorem dX12_rule_287 : decode cX12_rule 287 = .ok (.aload_n 0, 1) := by decide +kernel
theorem dX12_rule_288 : decode cX12_rule 288 = .ok (.getfield 234, 3) := by decide +kernel
theorem dX12_rule_291 : decode cX12_rule 291 = .ok (.iload 9, 2) := by decide +kernel
theorem dX12_rule_293 : decode cX12_rule 293 = .ok (.iastore, 1) := by decide +kernel
theorem dX12_rule_294 : decode cX12_rule 294 = .ok (.aload_n 0, 1) := by decide +kernel
theorem dX12_rule_295 : decode cX12_rule 295 = .ok (.getfield 36, 3) := by decide +kernel
theorem dX12_rule_298 : decode cX12_rule 298 = .ok (.aload_n 0, 1) := by decide +kernel
theorem dX12_rule_299 : decode cX12_rule 299 = .ok (.getfield 234, 3) := by decide +kernel
theorem dX12_rule_302 : decode cX12_rule 302 = .ok (.iload 10, 2) := by decide +kernel
theorem dX12_rule_304 : decode cX12_rule 304 = .ok (.iastore, 1) := by decide +kernel
theorem dX12_rule_305 : decode cX12_rule 305 = .ok (.aload_n 0, 1) := by decide +kernel
theorem dX12_rule_306 : decode cX12_rule 306 = .ok (.getfield 39, 3) := by decide +kernel
theorem dX12_rule_309 : decode cX12_rule 309 = .ok (.aload_n 0, 1) := by decide +kernel
theorem dX12_rule_310 : decode cX12_rule 310 = .ok (.getfield 234, 3) := by decide +kernel
theorem dX12_rule_313 : decode cX12_rule 313 = .ok (.iload 11, 2) := by decide +kernel
theorem dX12_rule_315 : decode cX12_rule 315 = .ok (.iastore, 1) := by decide +kernel
theorem dX12_rule_316 : decode cX12_rule 316 = .ok (.aload_n 0, 1) := by decide +kernel
theorem dX12_rule_317 : decode cX12_rule 317 = .ok (.getfield 42, 3) := by decide +kernel
theorem dX12_rule_320 : decode cX12_rule 320 = .ok (.aload_n 0, 1) := by decide +kernel
theorem dX12_rule_321 : decode cX12_rule 321 = .ok (.getfield 234, 3) := by decide +kernel
theorem dX12_rule_324 : decode cX12_rule 324 = .ok (.iload 6, 2) := by decide +kernel
theorem dX12_rule_326 : decode cX12_rule 326 = .ok (.iastore, 1) := by decide +kernel
theorem dX12_rule_327 : decode cX12_rule 327 = .ok (.aload_n 0, 1) := by decide +kernel
theorem dX12_rule_328 : decode cX12_rule 328 = .ok (.getfield 45, 3) := by decide +kernel
theorem dX12_rule_331 : decode cX12_rule 331 = .ok (.aload_n 0, 1) := by decide +kernel
theorem dX12_rule_332 : decode cX12_rule 332 = .ok (.getfield 234, 3) := by decide +kernel
theorem dX12_rule_335 : decode cX12_rule 335 = .ok (.aload_n 0, 1) := by decide +kernel
theorem dX12_rule_336 : decode cX12_rule 336 = .ok (.getfield 262, 3) := by decide +kernel
theorem dX12_rule_339 : decode cX12_rule 339 = .ok (.iconst 1, 1) := by decide +kernel
theorem dX12_rule_340 : decode cX12_rule 340 = .ok (.iadd, 1) := by decide +kernel
theorem dX12_rule_341 : decode cX12_rule 341 = .ok (.iastore, 1) := by decide +kernel
theorem dX12_rule_342 : decode cX12_rule 342 = .ok (.aload_n 0, 1) := by decide +kernel
theorem dX12_rule_343 : decode cX12_rule 343 = .ok (.dup, 1) := by decide +kernel
theorem dX12_rule_344 : decode cX12_rule 344 = .ok (.getfield 234, 3) := by decide +kernel
theorem dX12_rule_347 : decode cX12_rule 347 = .ok (.iconst 1, 1) := by decide +kernel
theorem dX12_rule_348 : decode cX12_rule 348 = .ok (.iadd, 1) := by decide +kernel
theorem dX12_rule_349 : decode cX12_rule 349 = .ok (.putfield 234, 3) := by decide +kernel
theorem dX12_rule_352 : decode cX12_rule 352 = .ok (.aload_n 0, 1) := by decide +kernel
theorem dX12_rule_353 : decode cX12_rule 353 = .ok (.getfield 234, 3) := by decide +kernel
theorem dX12_rule_356 : decode cX12_rule 356 = .ok (.iconst 1, 1) := by decide +kernel
theorem dX12_rule_357 : decode cX12_rule 357 = .ok (.isub, 1) := by decide +kernel
theorem dX12_rule_358 : decode cX12_rule 358 = .ok (.ireturn, 1) := by decide +kernel
theorem dX12_holdsAll_0 : decode cX12_holdsAll 0 = .ok (.iconst 0, 1) := by decide +kernel
theorem dX12_holdsAll_1 : decode cX12_holdsAll 1 = .ok (.istore_n 3, 1) := by decide +kernel
theorem dX12_holdsAll_2 : decode cX12_holdsAll 2 = .ok (.iload_n 3, 1) := by decide +kernel
theorem dX12_holdsAll_3 : decode cX12_holdsAll 3 = .ok (.bipush 16, 2) := by decide +kernel
theorem dX12_holdsAll_5 : decode cX12_holdsAll 5 = .ok (.if_icmp .ge 25, 3) := by decide +kernel
theorem dX12_holdsAll_8 : decode cX12_holdsAll 8 = .ok (.aload_n 0, 1) := by decide +kernel
theorem dX12_holdsAll_9 : decode cX12_holdsAll 9 = .ok (.getfield 204, 3) := by decide +kernel
theorem dX12_holdsAll_12 : decode cX12_holdsAll 12 = .ok (.iload_n 3, 1) := by decide +kernel
theorem dX12_holdsAll_13 : decode cX12_holdsAll 13 = .ok (.iload_n 3, 1) := by decide +kernel
theorem dX12_holdsAll_14 : decode cX12_holdsAll 14 = .ok (.iload_n 1, 1) := by decide +kernel
theorem dX12_holdsAll_15 : decode cX12_holdsAll 15 = .ok (.if_icmp .ne 7, 3) := by decide +kernel
theorem dX12_holdsAll_18 : decode cX12_holdsAll 18 = .ok (.iconst 1, 1) := by decide +kernel
theorem dX12_holdsAll_19 : decode cX12_holdsAll 19 = .ok (.goto 4, 3) := by decide +kernel
theorem dX12_holdsAll_22 : decode cX12_holdsAll 22 = .ok (.iconst 0, 1) := by decide +kernel
theorem dX12_holdsAll_23 : decode cX12_holdsAll 23 = .ok (.bastore, 1) := by decide +kernel
theorem dX12_holdsAll_24 : decode cX12_holdsAll 24 = .ok (.iinc 3 1, 3) := by decide +kernel
theorem dX12_holdsAll_27 : decode cX12_holdsAll 27 = .ok (.goto (-25), 3) := by decide +kernel
theorem dX12_holdsAll_30 : decode cX12_holdsAll 30 = .ok (.iconst 0, 1) := by decide +kernel
theorem dX12_holdsAll_31 : decode cX12_holdsAll 31 = .ok (.istore_n 3, 1) := by decide +kernel
theorem dX12_holdsAll_32 : decode cX12_holdsAll 32 = .ok (.iload_n 3, 1) := by decide +kernel
theorem dX12_holdsAll_33 : decode cX12_holdsAll 33 = .ok (.bipush 16, 2) := by decide +kernel
theorem dX12_holdsAll_35 : decode cX12_holdsAll 35 = .ok (.if_icmp .ge 74, 3) := by decide +kernel
theorem dX12_holdsAll_38 : decode cX12_holdsAll 38 = .ok (.iconst 0, 1) := by decide +kernel
theorem dX12_holdsAll_39 : decode cX12_holdsAll 39 = .ok (.istore 4, 2) := by decide +kernel
theorem dX12_holdsAll_41 : decode cX12_holdsAll 41 = .ok (.iload 4, 2) := by decide +kernel
theorem dX12_holdsAll_43 : decode cX12_holdsAll 43 = .ok (.aload_n 0, 1) := by decide +kernel
theorem dX12_holdsAll_44 : decode cX12_holdsAll 44 = .ok (.getfield 265, 3) := by decide +kernel
theorem dX12_holdsAll_47 : decode cX12_holdsAll 47 = .ok (.if_icmp .ge 56, 3) := by decide +kernel
theorem dX12_holdsAll_50 : decode cX12_holdsAll 50 = .ok (.aload_n 0, 1) := by decide +kernel
theorem dX12_holdsAll_51 : decode cX12_holdsAll 51 = .ok (.getfield 204, 3) := by decide +kernel
theorem dX12_holdsAll_54 : decode cX12_holdsAll 54 = .ok (.aload_n 0, 1) := by decide +kernel
theorem dX12_holdsAll_55 : decode cX12_holdsAll 55 = .ok (.getfield 65, 3) := by decide +kernel
theorem dX12_holdsAll_58 : decode cX12_holdsAll 58 = .ok (.iload 4, 2) := by decide +kernel
theorem dX12_holdsAll_60 : decode cX12_holdsAll 60 = .ok (.iaload, 1) := by decide +kernel
theorem dX12_holdsAll_61 : decode cX12_holdsAll 61 = .ok (.aload_n 0, 1) := by decide +kernel
theorem dX12_holdsAll_62 : decode cX12_holdsAll 62 = .ok (.getfield 204, 3) := by decide +kernel
theorem dX12_holdsAll_65 : decode cX12_holdsAll 65 = .ok (.aload_n 0, 1) := by decide +kernel
theorem dX12_holdsAll_66 : decode cX12_holdsAll 66 = .ok (.getfield 65, 3) := by decide +kernel
theorem dX12_holdsAll_69 : decode cX12_holdsAll 69 = .ok (.iload 4, 2) := by decide +kernel
theorem dX12_holdsAll_71 : decode cX12_holdsAll 71 = .ok (.iaload, 1) := by decide +kernel
theorem dX12_holdsAll_72 : decode cX12_holdsAll 72 = .ok (.baload, 1) := by decide +kernel
theorem dX12_holdsAll_73 : decode cX12_holdsAll 73 = .ok (.ifCond .ne 18, 3) := by decide +kernel
theorem dX12_holdsAll_76 : decode cX12_holdsAll 76 = .ok (.aload_n 0, 1) := by decide +kernel
theorem dX12_holdsAll_77 : decode cX12_holdsAll 77 = .ok (.getfield 204, 3) := by decide +kernel
theorem dX12_holdsAll_80 : decode cX12_holdsAll 80 = .ok (.aload_n 0, 1) := by decide +kernel
theorem dX12_holdsAll_81 : decode cX12_holdsAll 81 = .ok (.getfield 68, 3) := by decide +kernel
theorem dX12_holdsAll_84 : decode cX12_holdsAll 84 = .ok (.iload 4, 2) := by decide +kernel
theorem dX12_holdsAll_86 : decode cX12_holdsAll 86 = .ok (.iaload, 1) := by decide +kernel
theorem dX12_holdsAll_87 : decode cX12_holdsAll 87 = .ok (.baload, 1) := by decide +kernel
theorem dX12_holdsAll_88 : decode cX12_holdsAll 88 = .ok (.ifCond .eq 7, 3) := by decide +kernel
theorem dX12_holdsAll_91 : decode cX12_holdsAll 91 = .ok (.iconst 1, 1) := by decide +kernel
theorem dX12_holdsAll_92 : decode cX12_holdsAll 92 = .ok (.goto 4, 3) := by decide +kernel
theorem dX12_holdsAll_95 : decode cX12_holdsAll 95 = .ok (.iconst 0, 1) := by decide +kernel
theorem dX12_holdsAll_96 : decode cX12_holdsAll 96 = .ok (.bastore, 1) := by decide +kernel
theorem dX12_holdsAll_97 : decode cX12_holdsAll 97 = .ok (.iinc 4 1, 3) := by decide +kernel
theorem dX12_holdsAll_100 : decode cX12_holdsAll 100 = .ok (.goto (-59), 3) := by decide +kernel
theorem dX12_holdsAll_103 : decode cX12_holdsAll 103 = .ok (.iinc 3 1, 3) := by decide +kernel
theorem dX12_holdsAll_106 : decode cX12_holdsAll 106 = .ok (.goto (-74), 3) := by decide +kernel
theorem dX12_holdsAll_109 : decode cX12_holdsAll 109 = .ok (.aload_n 0, 1) := by decide +kernel
theorem dX12_holdsAll_110 : decode cX12_holdsAll 110 = .ok (.getfield 204, 3) := by decide +kernel
theorem dX12_holdsAll_113 : decode cX12_holdsAll 113 = .ok (.iload_n 2, 1) := by decide +kernel
theorem dX12_holdsAll_114 : decode cX12_holdsAll 114 = .ok (.baload, 1) := by decide +kernel
theorem dX12_holdsAll_115 : decode cX12_holdsAll 115 = .ok (.ireturn, 1) := by decide +kernel
theorem dX12_hold_0 : decode cX12_hold 0 = .ok (.aload_n 0, 1) := by decide +kernel
theorem dX12_hold_1 : decode cX12_hold 1 = .ok (.iconst 0, 1) := by decide +kernel
theorem dX12_hold_2 : decode cX12_hold 2 = .ok (.putfield 228, 3) := by decide +kernel
theorem dX12_hold_5 : decode cX12_hold 5 = .ok (.aload_n 0, 1) := by decide +kernel
theorem dX12_hold_6 : decode cX12_hold 6 = .ok (.iload_n 1, 1) := by decide +kernel
theorem dX12_hold_7 : decode cX12_hold 7 = .ok (.invokevirtual 258, 3) := by decide +kernel
theorem dX12_hold_10 : decode cX12_hold 10 = .ok (.ifCond .eq 28, 3) := by decide +kernel
theorem dX12_hold_13 : decode cX12_hold 13 = .ok (.aload_n 0, 1) := by decide +kernel
theorem dX12_hold_14 : decode cX12_hold 14 = .ok (.iload_n 2, 1) := by decide +kernel
theorem dX12_hold_15 : decode cX12_hold 15 = .ok (.invokevirtual 258, 3) := by decide +kernel
theorem dX12_hold_18 : decode cX12_hold 18 = .ok (.ifCond .eq 20, 3) := by decide +kernel
theorem dX12_hold_21 : decode cX12_hold 21 = .ok (.iload_n 1, 1) := by decide +kernel
theorem dX12_hold_22 : decode cX12_hold 22 = .ok (.iload_n 2, 1) := by decide +kernel
theorem dX12_hold_23 : decode cX12_hold 23 = .ok (.if_icmp .eq 15, 3) := by decide +kernel
theorem dX12_hold_26 : decode cX12_hold 26 = .ok (.iload_n 3, 1) := by decide +kernel
theorem dX12_hold_27 : decode cX12_hold 27 = .ok (.i2l, 1) := by decide +kernel
theorem dX12_hold_28 : decode cX12_hold 28 = .ok (.lconst 0, 1) := by decide +kernel
theorem dX12_hold_29 : decode cX12_hold 29 = .ok (.ldc2_w 268, 3) := by decide +kernel
theorem dX12_hold_32 : decode cX12_hold 32 = .ok (.invokestatic 242, 3) := by decide +kernel
theorem dX12_hold_35 : decode cX12_hold 35 = .ok (.ifCond .ne 5, 3) := by decide +kernel
theorem dX12_hold_38 : decode cX12_hold 38 = .ok (.iconst (-1), 1) := by decide +kernel
theorem dX12_hold_39 : decode cX12_hold 39 = .ok (.ireturn, 1) := by decide +kernel
theorem dX12_hold_40 : decode cX12_hold 40 = .ok (.aload_n 0, 1) := by decide +kernel
theorem dX12_hold_41 : decode cX12_hold 41 = .ok (.getfield 265, 3) := by decide +kernel
theorem dX12_hold_44 : decode cX12_hold 44 = .ok (.bipush 40, 2) := by decide +kernel
theorem dX12_hold_46 : decode cX12_hold 46 = .ok (.if_icmp .ne 6, 3) := by decide +kernel
theorem dX12_hold_49 : decode cX12_hold 49 = .ok (.bipush (-2), 2) := by decide +kernel
theorem dX12_hold_51 : decode cX12_hold 51 = .ok (.ireturn, 1) := by decide +kernel
theorem dX12_hold_52 : decode cX12_hold 52 = .ok (.aload_n 0, 1) := by decide +kernel
theorem dX12_hold_53 : decode cX12_hold 53 = .ok (.iload_n 1, 1) := by decide +kernel
theorem dX12_hold_54 : decode cX12_hold 54 = .ok (.iload_n 2, 1) := by decide +kernel
theorem dX12_hold_55 : decode cX12_hold 55 = .ok (.invokevirtual 270, 3) := by decide +kernel
theorem dX12_hold_58 : decode cX12_hold 58 = .ok (.ifCond .eq 6, 3) := by decide +kernel
theorem dX12_hold_61 : decode cX12_hold 61 = .ok (.bipush (-3), 2) := by decide +kernel
theorem dX12_hold_63 : decode cX12_hold 63 = .ok (.ireturn, 1) := by decide +kernel
theorem dX12_hold_64 : decode cX12_hold 64 = .ok (.aload_n 0, 1) := by decide +kernel
theorem dX12_hold_65 : decode cX12_hold 65 = .ok (.getfield 65, 3) := by decide +kernel
theorem dX12_hold_68 : decode cX12_hold 68 = .ok (.aload_n 0, 1) := by decide +kernel
theorem dX12_hold_69 : decode cX12_hold 69 = .ok (.getfield 265, 3) := by decide +kernel
theorem dX12_hold_72 : decode cX12_hold 72 = .ok (.iload_n 1, 1) := by decide +kernel
theorem dX12_hold_73 : decode cX12_hold 73 = .ok (.iastore, 1) := by decide +kernel
theorem dX12_hold_74 : decode cX12_hold 74 = .ok (.aload_n 0, 1) := by decide +kernel
theorem dX12_hold_75 : decode cX12_hold 75 = .ok (.getfield 68, 3) := by decide +kernel
theorem dX12_hold_78 : decode cX12_hold 78 = .ok (.aload_n 0, 1) := by decide +kernel
theorem dX12_hold_79 : decode cX12_hold 79 = .ok (.getfield 265, 3) := by decide +kernel
theorem dX12_hold_82 : decode cX12_hold 82 = .ok (.iload_n 2, 1) := by decide +kernel
theorem dX12_hold_83 : decode cX12_hold 83 = .ok (.iastore, 1) := by decide +kernel
theorem dX12_hold_84 : decode cX12_hold 84 = .ok (.aload_n 0, 1) := by decide +kernel
theorem dX12_hold_85 : decode cX12_hold 85 = .ok (.getfield 71, 3) := by decide +kernel
theorem dX12_hold_88 : decode cX12_hold 88 = .ok (.aload_n 0, 1) := by decide +kernel
theorem dX12_hold_89 : decode cX12_hold 89 = .ok (.getfield 265, 3) := by decide +kernel
theorem dX12_hold_92 : decode cX12_hold 92 = .ok (.iload_n 3, 1) := by decide +kernel
theorem dX12_hold_93 : decode cX12_hold 93 = .ok (.iastore, 1) := by decide +kernel
theorem dX12_hold_94 : decode cX12_hold 94 = .ok (.aload_n 0, 1) := by decide +kernel
theorem dX12_hold_95 : decode cX12_hold 95 = .ok (.dup, 1) := by decide +kernel
theorem dX12_hold_96 : decode cX12_hold 96 = .ok (.getfield 265, 3) := by decide +kernel
theorem dX12_hold_99 : decode cX12_hold 99 = .ok (.iconst 1, 1) := by decide +kernel
theorem dX12_hold_100 : decode cX12_hold 100 = .ok (.iadd, 1) := by decide +kernel
theorem dX12_hold_101 : decode cX12_hold 101 = .ok (.putfield 265, 3) := by decide +kernel
theorem dX12_hold_104 : decode cX12_hold 104 = .ok (.iconst 0, 1) := by decide +kernel
theorem dX12_hold_105 : decode cX12_hold 105 = .ok (.ireturn, 1) := by decide +kernel
theorem dX12_silence_0 : decode cX12_silence 0 = .ok (.aload_n 0, 1) := by decide +kernel
theorem dX12_silence_1 : decode cX12_silence 1 = .ok (.iconst 0, 1) := by decide +kernel
theorem dX12_silence_2 : decode cX12_silence 2 = .ok (.putfield 228, 3) := by decide +kernel
theorem dX12_silence_5 : decode cX12_silence 5 = .ok (.iload_n 1, 1) := by decide +kernel
theorem dX12_silence_6 : decode cX12_silence 6 = .ok (.i2l, 1) := by decide +kernel
theorem dX12_silence_7 : decode cX12_silence 7 = .ok (.ldc2_w 254, 3) := by decide +kernel
theorem dX12_silence_10 : decode cX12_silence 10 = .ok (.ldc2_w 240, 3) := by decide +kernel
theorem dX12_silence_13 : decode cX12_silence 13 = .ok (.invokestatic 242, 3) := by decide +kernel
theorem dX12_silence_16 : decode cX12_silence 16 = .ok (.ifCond .eq 55, 3) := by decide +kernel
theorem dX12_silence_19 : decode cX12_silence 19 = .ok (.iload_n 2, 1) := by decide +kernel
theorem dX12_silence_20 : decode cX12_silence 20 = .ok (.iconst (-1), 1) := by decide +kernel
theorem dX12_silence_21 : decode cX12_silence 21 = .ok (.if_icmp .eq 11, 3) := by decide +kernel
theorem dX12_silence_24 : decode cX12_silence 24 = .ok (.aload_n 0, 1) := by decide +kernel
theorem dX12_silence_25 : decode cX12_silence 25 = .ok (.iload_n 2, 1) := by decide +kernel
theorem dX12_silence_26 : decode cX12_silence 26 = .ok (.invokevirtual 258, 3) := by decide +kernel
theorem dX12_silence_29 : decode cX12_silence 29 = .ok (.ifCond .eq 42, 3) := by decide +kernel
theorem dX12_silence_32 : decode cX12_silence 32 = .ok (.iload_n 3, 1) := by decide +kernel
theorem dX12_silence_33 : decode cX12_silence 33 = .ok (.i2l, 1) := by decide +kernel
theorem dX12_silence_34 : decode cX12_silence 34 = .ok (.lconst 1, 1) := by decide +kernel
theorem dX12_silence_35 : decode cX12_silence 35 = .ok (.ldc2_w 274, 3) := by decide +kernel
theorem dX12_silence_38 : decode cX12_silence 38 = .ok (.invokestatic 242, 3) := by decide +kernel
theorem dX12_silence_41 : decode cX12_silence 41 = .ok (.ifCond .eq 30, 3) := by decide +kernel
theorem dX12_silence_44 : decode cX12_silence 44 = .ok (.iload 4, 2) := by decide +kernel
theorem dX12_silence_46 : decode cX12_silence 46 = .ok (.i2l, 1) := by decide +kernel
theorem dX12_silence_47 : decode cX12_silence 47 = .ok (.iload_n 3, 1) := by decide +kernel
theorem dX12_silence_48 : decode cX12_silence 48 = .ok (.i2l, 1) := by decide +kernel
theorem dX12_silence_49 : decode cX12_silence 49 = .ok (.ldc2_w 274, 3) := by decide +kernel
theorem dX12_silence_52 : decode cX12_silence 52 = .ok (.invokestatic 242, 3) := by decide +kernel
theorem dX12_silence_55 : decode cX12_silence 55 = .ok (.ifCond .eq 16, 3) := by decide +kernel
theorem dX12_silence_58 : decode cX12_silence 58 = .ok (.aload_n 0, 1) := by decide +kernel
theorem dX12_silence_59 : decode cX12_silence 59 = .ok (.iload 5, 2) := by decide +kernel
theorem dX12_silence_61 : decode cX12_silence 61 = .ok (.invokevirtual 276, 3) := by decide +kernel
theorem dX12_silence_64 : decode cX12_silence 64 = .ok (.ifCond .eq 7, 3) := by decide +kernel
theorem dX12_silence_67 : decode cX12_silence 67 = .ok (.iconst 1, 1) := by decide +kernel
theorem dX12_silence_68 : decode cX12_silence 68 = .ok (.goto 4, 3) := by decide +kernel
theorem dX12_silence_71 : decode cX12_silence 71 = .ok (.iconst 0, 1) := by decide +kernel
theorem dX12_silence_72 : decode cX12_silence 72 = .ok (.istore 6, 2) := by decide +kernel
theorem dX12_silence_74 : decode cX12_silence 74 = .ok (.iload 6, 2) := by decide +kernel
theorem dX12_silence_76 : decode cX12_silence 76 = .ok (.ifCond .ne 5, 3) := by decide +kernel
theorem dX12_silence_79 : decode cX12_silence 79 = .ok (.iconst (-1), 1) := by decide +kernel
theorem dX12_silence_80 : decode cX12_silence 80 = .ok (.ireturn, 1) := by decide +kernel
theorem dX12_silence_81 : decode cX12_silence 81 = .ok (.aload_n 0, 1) := by decide +kernel
theorem dX12_silence_82 : decode cX12_silence 82 = .ok (.getfield 279, 3) := by decide +kernel
theorem dX12_silence_85 : decode cX12_silence 85 = .ok (.bipush 20, 2) := by decide +kernel
theorem dX12_silence_87 : decode cX12_silence 87 = .ok (.if_icmp .ne 6, 3) := by decide +kernel
theorem dX12_silence_90 : decode cX12_silence 90 = .ok (.bipush (-2), 2) := by decide +kernel
theorem dX12_silence_92 : decode cX12_silence 92 = .ok (.ireturn, 1) := by decide +kernel
theorem dX12_silence_93 : decode cX12_silence 93 = .ok (.aload_n 0, 1) := by decide +kernel
theorem dX12_silence_94 : decode cX12_silence 94 = .ok (.getfield 74, 3) := by decide +kernel
theorem dX12_silence_97 : decode cX12_silence 97 = .ok (.aload_n 0, 1) := by decide +kernel
theorem dX12_silence_98 : decode cX12_silence 98 = .ok (.getfield 279, 3) := by decide +kernel
theorem dX12_silence_101 : decode cX12_silence 101 = .ok (.iload_n 1, 1) := by decide +kernel
theorem dX12_silence_102 : decode cX12_silence 102 = .ok (.iastore, 1) := by decide +kernel
theorem dX12_silence_103 : decode cX12_silence 103 = .ok (.aload_n 0, 1) := by decide +kernel
theorem dX12_silence_104 : decode cX12_silence 104 = .ok (.getfield 77, 3) := by decide +kernel
theorem dX12_silence_107 : decode cX12_silence 107 = .ok (.aload_n 0, 1) := by decide +kernel
theorem dX12_silence_108 : decode cX12_silence 108 = .ok (.getfield 279, 3) := by decide +kernel
theorem dX12_silence_111 : decode cX12_silence 111 = .ok (.iload_n 2, 1) := by decide +kernel
theorem dX12_silence_112 : decode cX12_silence 112 = .ok (.iastore, 1) := by decide +kernel
theorem dX12_silence_113 : decode cX12_silence 113 = .ok (.aload_n 0, 1) := by decide +kernel
theorem dX12_silence_114 : decode cX12_silence 114 = .ok (.getfield 80, 3) := by decide +kernel
theorem dX12_silence_117 : decode cX12_silence 117 = .ok (.aload_n 0, 1) := by decide +kernel
theorem dX12_silence_118 : decode cX12_silence 118 = .ok (.getfield 279, 3) := by decide +kernel
theorem dX12_silence_121 : decode cX12_silence 121 = .ok (.iload_n 3, 1) := by decide +kernel
theorem dX12_silence_122 : decode cX12_silence 122 = .ok (.iastore, 1) := by decide +kernel
theorem dX12_silence_123 : decode cX12_silence 123 = .ok (.aload_n 0, 1) := by decide +kernel
theorem dX12_silence_124 : decode cX12_silence 124 = .ok (.getfield 83, 3) := by decide +kernel
theorem dX12_silence_127 : decode cX12_silence 127 = .ok (.aload_n 0, 1) := by decide +kernel
theorem dX12_silence_128 : decode cX12_silence 128 = .ok (.getfield 279, 3) := by decide +kernel
theorem dX12_silence_131 : decode cX12_silence 131 = .ok (.iload 4, 2) := by decide +kernel
theorem dX12_silence_133 : decode cX12_silence 133 = .ok (.iastore, 1) := by decide +kernel
theorem dX12_silence_134 : decode cX12_silence 134 = .ok (.aload_n 0, 1) := by decide +kernel
theorem dX12_silence_135 : decode cX12_silence 135 = .ok (.dup, 1) := by decide +kernel
theorem dX12_silence_136 : decode cX12_silence 136 = .ok (.getfield 279, 3) := by decide +kernel
theorem dX12_silence_139 : decode cX12_silence 139 = .ok (.iconst 1, 1) := by decide +kernel
theorem dX12_silence_140 : decode cX12_silence 140 = .ok (.iadd, 1) := by decide +kernel
theorem dX12_silence_141 : decode cX12_silence 141 = .ok (.putfield 279, 3) := by decide +kernel
theorem dX12_silence_144 : decode cX12_silence 144 = .ok (.aload_n 0, 1) := by decide +kernel
theorem dX12_silence_145 : decode cX12_silence 145 = .ok (.getfield 279, 3) := by decide +kernel
theorem dX12_silence_148 : decode cX12_silence 148 = .ok (.iconst 1, 1) := by decide +kernel
theorem dX12_silence_149 : decode cX12_silence 149 = .ok (.isub, 1) := by decide +kernel
theorem dX12_silence_150 : decode cX12_silence 150 = .ok (.ireturn, 1) := by decide +kernel
theorem dX12_mask_0 : decode cX12_mask 0 = .ok (.aload_n 0, 1) := by decide +kernel
theorem dX12_mask_1 : decode cX12_mask 1 = .ok (.iconst 0, 1) := by decide +kernel
theorem dX12_mask_2 : decode cX12_mask 2 = .ok (.putfield 228, 3) := by decide +kernel
theorem dX12_mask_5 : decode cX12_mask 5 = .ok (.iload_n 1, 1) := by decide +kernel
theorem dX12_mask_6 : decode cX12_mask 6 = .ok (.i2l, 1) := by decide +kernel
theorem dX12_mask_7 : decode cX12_mask 7 = .ok (.lconst 0, 1) := by decide +kernel
theorem dX12_mask_8 : decode cX12_mask 8 = .ok (.ldc2_w 282, 3) := by decide +kernel
theorem dX12_mask_11 : decode cX12_mask 11 = .ok (.invokestatic 242, 3) := by decide +kernel
theorem dX12_mask_14 : decode cX12_mask 14 = .ok (.ifCond .ne 5, 3) := by decide +kernel
theorem dX12_mask_17 : decode cX12_mask 17 = .ok (.iconst (-1), 1) := by decide +kernel
theorem dX12_mask_18 : decode cX12_mask 18 = .ok (.ireturn, 1) := by decide +kernel
theorem dX12_mask_19 : decode cX12_mask 19 = .ok (.aload_n 0, 1) := by decide +kernel
theorem dX12_mask_20 : decode cX12_mask 20 = .ok (.getfield 284, 3) := by decide +kernel
theorem dX12_mask_23 : decode cX12_mask 23 = .ok (.ifCond .le 6, 3) := by decide +kernel
theorem dX12_mask_26 : decode cX12_mask 26 = .ok (.bipush (-3), 2) := by decide +kernel
theorem dX12_mask_28 : decode cX12_mask 28 = .ok (.ireturn, 1) := by decide +kernel
theorem dX12_mask_29 : decode cX12_mask 29 = .ok (.aload_n 0, 1) := by decide +kernel
theorem dX12_mask_30 : decode cX12_mask 30 = .ok (.iload_n 1, 1) := by decide +kernel
theorem dX12_mask_31 : decode cX12_mask 31 = .ok (.putfield 122, 3) := by decide +kernel
theorem dX12_mask_34 : decode cX12_mask 34 = .ok (.iconst 0, 1) := by decide +kernel
theorem dX12_mask_35 : decode cX12_mask 35 = .ok (.ireturn, 1) := by decide +kernel
theorem dX12_waits_0 : decode cX12_waits 0 = .ok (.aload_n 0, 1) := by decide +kernel
theorem dX12_waits_1 : decode cX12_waits 1 = .ok (.iconst 0, 1) := by decide +kernel
theorem dX12_waits_2 : decode cX12_waits 2 = .ok (.putfield 228, 3) := by decide +kernel
theorem dX12_waits_5 : decode cX12_waits 5 = .ok (.iload_n 1, 1) := by decide +kernel
theorem dX12_waits_6 : decode cX12_waits 6 = .ok (.i2l, 1) := by decide +kernel
theorem dX12_waits_7 : decode cX12_waits 7 = .ok (.lconst 0, 1) := by decide +kernel
theorem dX12_waits_8 : decode cX12_waits 8 = .ok (.ldc2_w 287, 3) := by decide +kernel
theorem dX12_waits_11 : decode cX12_waits 11 = .ok (.invokestatic 242, 3) := by decide +kernel
theorem dX12_waits_14 : decode cX12_waits 14 = .ok (.ifCond .eq 40, 3) := by decide +kernel
theorem dX12_waits_17 : decode cX12_waits 17 = .ok (.iload_n 2, 1) := by decide +kernel
theorem dX12_waits_18 : decode cX12_waits 18 = .ok (.i2l, 1) := by decide +kernel
theorem dX12_waits_19 : decode cX12_waits 19 = .ok (.lconst 1, 1) := by decide +kernel
theorem dX12_waits_20 : decode cX12_waits 20 = .ok (.ldc2_w 287, 3) := by decide +kernel
theorem dX12_waits_23 : decode cX12_waits 23 = .ok (.invokestatic 242, 3) := by decide +kernel
theorem dX12_waits_26 : decode cX12_waits 26 = .ok (.ifCond .eq 28, 3) := by decide +kernel
theorem dX12_waits_29 : decode cX12_waits 29 = .ok (.iload_n 3, 1) := by decide +kernel
theorem dX12_waits_30 : decode cX12_waits 30 = .ok (.i2l, 1) := by decide +kernel
theorem dX12_waits_31 : decode cX12_waits 31 = .ok (.lconst 1, 1) := by decide +kernel
theorem dX12_waits_32 : decode cX12_waits 32 = .ok (.ldc2_w 256, 3) := by decide +kernel
theorem dX12_waits_35 : decode cX12_waits 35 = .ok (.invokestatic 242, 3) := by decide +kernel
theorem dX12_waits_38 : decode cX12_waits 38 = .ok (.ifCond .eq 16, 3) := by decide +kernel
theorem dX12_waits_41 : decode cX12_waits 41 = .ok (.iload 4, 2) := by decide +kernel
theorem dX12_waits_43 : decode cX12_waits 43 = .ok (.i2l, 1) := by decide +kernel
theorem dX12_waits_44 : decode cX12_waits 44 = .ok (.lconst 1, 1) := by decide +kernel
theorem dX12_waits_45 : decode cX12_waits 45 = .ok (.ldc2_w 287, 3) := by decide +kernel
theorem dX12_waits_48 : decode cX12_waits 48 = .ok (.invokestatic 242, 3) := by decide +kernel
theorem dX12_waits_51 : decode cX12_waits 51 = .ok (.ifCond .ne 5, 3) := by decide +kernel
theorem dX12_waits_54 : decode cX12_waits 54 = .ok (.iconst (-1), 1) := by decide +kernel
theorem dX12_waits_55 : decode cX12_waits 55 = .ok (.ireturn, 1) := by decide +kernel
theorem dX12_waits_56 : decode cX12_waits 56 = .ok (.aload_n 0, 1) := by decide +kernel
theorem dX12_waits_57 : decode cX12_waits 57 = .ok (.iload_n 1, 1) := by decide +kernel
theorem dX12_waits_58 : decode cX12_waits 58 = .ok (.putfield 126, 3) := by decide +kernel
theorem dX12_waits_61 : decode cX12_waits 61 = .ok (.aload_n 0, 1) := by decide +kernel
theorem dX12_waits_62 : decode cX12_waits 62 = .ok (.iload_n 2, 1) := by decide +kernel
theorem dX12_waits_63 : decode cX12_waits 63 = .ok (.putfield 129, 3) := by decide +kernel
theorem dX12_waits_66 : decode cX12_waits 66 = .ok (.aload_n 0, 1) := by decide +kernel
theorem dX12_waits_67 : decode cX12_waits 67 = .ok (.iload_n 3, 1) := by decide +kernel
theorem dX12_waits_68 : decode cX12_waits 68 = .ok (.putfield 132, 3) := by decide +kernel
theorem dX12_waits_71 : decode cX12_waits 71 = .ok (.aload_n 0, 1) := by decide +kernel
theorem dX12_waits_72 : decode cX12_waits 72 = .ok (.iload 4, 2) := by decide +kernel
theorem dX12_waits_74 : decode cX12_waits 74 = .ok (.putfield 135, 3) := by decide +kernel
theorem dX12_waits_77 : decode cX12_waits 77 = .ok (.iconst 0, 1) := by decide +kernel
theorem dX12_waits_78 : decode cX12_waits 78 = .ok (.ireturn, 1) := by decide +kernel
theorem dX12_hand_0 : decode cX12_hand 0 = .ok (.aload_n 0, 1) := by decide +kernel
theorem dX12_hand_1 : decode cX12_hand 1 = .ok (.iconst 0, 1) := by decide +kernel
theorem dX12_hand_2 : decode cX12_hand 2 = .ok (.putfield 228, 3) := by decide +kernel
theorem dX12_hand_5 : decode cX12_hand 5 = .ok (.aload_n 0, 1) := by decide +kernel
theorem dX12_hand_6 : decode cX12_hand 6 = .ok (.getfield 237, 3) := by decide +kernel
theorem dX12_hand_9 : decode cX12_hand 9 = .ok (.bipush 8, 2) := by decide +kernel
theorem dX12_hand_11 : decode cX12_hand 11 = .ok (.if_icmp .ne 6, 3) := by decide +kernel
theorem dX12_hand_14 : decode cX12_hand 14 = .ok (.bipush (-2), 2) := by decide +kernel
theorem dX12_hand_16 : decode cX12_hand 16 = .ok (.ireturn, 1) := by decide +kernel
theorem dX12_hand_17 : decode cX12_hand 17 = .ok (.aload_n 0, 1) := by decide +kernel
theorem dX12_hand_18 : decode cX12_hand 18 = .ok (.dup, 1) := by decide +kernel
theorem dX12_hand_19 : decode cX12_hand 19 = .ok (.getfield 237, 3) := by decide +kernel
theorem dX12_hand_22 : decode cX12_hand 22 = .ok (.iconst 1, 1) := by decide +kernel
theorem dX12_hand_23 : decode cX12_hand 23 = .ok (.iadd, 1) := by decide +kernel
theorem dX12_hand_24 : decode cX12_hand 24 = .ok (.putfield 237, 3) := by decide +kernel
theorem dX12_hand_27 : decode cX12_hand 27 = .ok (.aload_n 0, 1) := by decide +kernel
theorem dX12_hand_28 : decode cX12_hand 28 = .ok (.getfield 237, 3) := by decide +kernel
theorem dX12_hand_31 : decode cX12_hand 31 = .ok (.iconst 1, 1) := by decide +kernel
theorem dX12_hand_32 : decode cX12_hand 32 = .ok (.isub, 1) := by decide +kernel
theorem dX12_hand_33 : decode cX12_hand 33 = .ok (.ireturn, 1) := by decide +kernel
theorem dX12_shift_0 : decode cX12_shift 0 = .ok (.aload_n 0, 1) := by decide +kernel
theorem dX12_shift_1 : decode cX12_shift 1 = .ok (.iconst 0, 1) := by decide +kernel
theorem dX12_shift_2 : decode cX12_shift 2 = .ok (.putfield 228, 3) := by decide +kernel
theorem dX12_shift_5 : decode cX12_shift 5 = .ok (.aload_n 0, 1) := by decide +kernel
theorem dX12_shift_6 : decode cX12_shift 6 = .ok (.iload_n 1, 1) := by decide +kernel
theorem dX12_shift_7 : decode cX12_shift 7 = .ok (.invokevirtual 276, 3) := by decide +kernel
theorem dX12_shift_10 : decode cX12_shift 10 = .ok (.ifCond .eq 40, 3) := by decide +kernel
theorem dX12_shift_13 : decode cX12_shift 13 = .ok (.iload_n 2, 1) := by decide +kernel
theorem dX12_shift_14 : decode cX12_shift 14 = .ok (.i2l, 1) := by decide +kernel
theorem dX12_shift_15 : decode cX12_shift 15 = .ok (.lconst 0, 1) := by decide +kernel
theorem dX12_shift_16 : decode cX12_shift 16 = .ok (.ldc2_w 289, 3) := by decide +kernel
theorem dX12_shift_19 : decode cX12_shift 19 = .ok (.invokestatic 242, 3) := by decide +kernel
theorem dX12_shift_22 : decode cX12_shift 22 = .ok (.ifCond .eq 28, 3) := by decide +kernel
theorem dX12_shift_25 : decode cX12_shift 25 = .ok (.iload_n 3, 1) := by decide +kernel
theorem dX12_shift_26 : decode cX12_shift 26 = .ok (.i2l, 1) := by decide +kernel
theorem dX12_shift_27 : decode cX12_shift 27 = .ok (.lconst 1, 1) := by decide +kernel
theorem dX12_shift_28 : decode cX12_shift 28 = .ok (.ldc2_w 291, 3) := by decide +kernel
theorem dX12_shift_31 : decode cX12_shift 31 = .ok (.invokestatic 242, 3) := by decide +kernel
theorem dX12_shift_34 : decode cX12_shift 34 = .ok (.ifCond .eq 16, 3) := by decide +kernel
theorem dX12_shift_37 : decode cX12_shift 37 = .ok (.iload 4, 2) := by decide +kernel
theorem dX12_shift_39 : decode cX12_shift 39 = .ok (.i2l, 1) := by decide +kernel
theorem dX12_shift_40 : decode cX12_shift 40 = .ok (.lconst 0, 1) := by decide +kernel
theorem dX12_shift_41 : decode cX12_shift 41 = .ok (.ldc2_w 240, 3) := by decide +kernel
theorem dX12_shift_44 : decode cX12_shift 44 = .ok (.invokestatic 242, 3) := by decide +kernel
theorem dX12_shift_47 : decode cX12_shift 47 = .ok (.ifCond .ne 5, 3) := by decide +kernel
theorem dX12_shift_50 : decode cX12_shift 50 = .ok (.iconst (-1), 1) := by decide +kernel
theorem dX12_shift_51 : decode cX12_shift 51 = .ok (.ireturn, 1) := by decide +kernel
theorem dX12_shift_52 : decode cX12_shift 52 = .ok (.aload_n 0, 1) := by decide +kernel
theorem dX12_shift_53 : decode cX12_shift 53 = .ok (.getfield 293, 3) := by decide +kernel
theorem dX12_shift_56 : decode cX12_shift 56 = .ok (.bipush 40, 2) := by decide +kernel
theorem dX12_shift_58 : decode cX12_shift 58 = .ok (.if_icmp .ne 6, 3) := by decide +kernel
theorem dX12_shift_61 : decode cX12_shift 61 = .ok (.bipush (-2), 2) := by decide +kernel
theorem dX12_shift_63 : decode cX12_shift 63 = .ok (.ireturn, 1) := by decide +kernel
theorem dX12_shift_64 : decode cX12_shift 64 = .ok (.aload_n 0, 1) := by decide +kernel
theorem dX12_shift_65 : decode cX12_shift 65 = .ok (.getfield 147, 3) := by decide +kernel
theorem dX12_shift_68 : decode cX12_shift 68 = .ok (.aload_n 0, 1) := by decide +kernel
theorem dX12_shift_69 : decode cX12_shift 69 = .ok (.getfield 293, 3) := by decide +kernel
theorem dX12_shift_72 : decode cX12_shift 72 = .ok (.iload_n 1, 1) := by decide +kernel
theorem dX12_shift_73 : decode cX12_shift 73 = .ok (.iastore, 1) := by decide +kernel
theorem dX12_shift_74 : decode cX12_shift 74 = .ok (.aload_n 0, 1) := by decide +kernel
theorem dX12_shift_75 : decode cX12_shift 75 = .ok (.getfield 150, 3) := by decide +kernel
theorem dX12_shift_78 : decode cX12_shift 78 = .ok (.aload_n 0, 1) := by decide +kernel
theorem dX12_shift_79 : decode cX12_shift 79 = .ok (.getfield 293, 3) := by decide +kernel
theorem dX12_shift_82 : decode cX12_shift 82 = .ok (.iload_n 2, 1) := by decide +kernel
theorem dX12_shift_83 : decode cX12_shift 83 = .ok (.iastore, 1) := by decide +kernel
theorem dX12_shift_84 : decode cX12_shift 84 = .ok (.aload_n 0, 1) := by decide +kernel
theorem dX12_shift_85 : decode cX12_shift 85 = .ok (.getfield 153, 3) := by decide +kernel
theorem dX12_shift_88 : decode cX12_shift 88 = .ok (.aload_n 0, 1) := by decide +kernel
theorem dX12_shift_89 : decode cX12_shift 89 = .ok (.getfield 293, 3) := by decide +kernel
theorem dX12_shift_92 : decode cX12_shift 92 = .ok (.iload_n 3, 1) := by decide +kernel
theorem dX12_shift_93 : decode cX12_shift 93 = .ok (.iastore, 1) := by decide +kernel
theorem dX12_shift_94 : decode cX12_shift 94 = .ok (.aload_n 0, 1) := by decide +kernel
theorem dX12_shift_95 : decode cX12_shift 95 = .ok (.getfield 156, 3) := by decide +kernel
theorem dX12_shift_98 : decode cX12_shift 98 = .ok (.aload_n 0, 1) := by decide +kernel
theorem dX12_shift_99 : decode cX12_shift 99 = .ok (.getfield 293, 3) := by decide +kernel
theorem dX12_shift_102 : decode cX12_shift 102 = .ok (.iload 4, 2) := by decide +kernel
theorem dX12_shift_104 : decode cX12_shift 104 = .ok (.iastore, 1) := by decide +kernel
theorem dX12_shift_105 : decode cX12_shift 105 = .ok (.aload_n 0, 1) := by decide +kernel
theorem dX12_shift_106 : decode cX12_shift 106 = .ok (.dup, 1) := by decide +kernel
theorem dX12_shift_107 : decode cX12_shift 107 = .ok (.getfield 293, 3) := by decide +kernel
theorem dX12_shift_110 : decode cX12_shift 110 = .ok (.iconst 1, 1) := by decide +kernel
theorem dX12_shift_111 : decode cX12_shift 111 = .ok (.iadd, 1) := by decide +kernel
theorem dX12_shift_112 : decode cX12_shift 112 = .ok (.putfield 293, 3) := by decide +kernel
theorem dX12_shift_115 : decode cX12_shift 115 = .ok (.aload_n 0, 1) := by decide +kernel
theorem dX12_shift_116 : decode cX12_shift 116 = .ok (.getfield 293, 3) := by decide +kernel
theorem dX12_shift_119 : decode cX12_shift 119 = .ok (.iconst 1, 1) := by decide +kernel
theorem dX12_shift_120 : decode cX12_shift 120 = .ok (.isub, 1) := by decide +kernel
theorem dX12_shift_121 : decode cX12_shift 121 = .ok (.ireturn, 1) := by decide +kernel
theorem dX12_swap_0 : decode cX12_swap 0 = .ok (.aload_n 0, 1) := by decide +kernel
theorem dX12_swap_1 : decode cX12_swap 1 = .ok (.iconst 0, 1) := by decide +kernel
theorem dX12_swap_2 : decode cX12_swap 2 = .ok (.putfield 228, 3) := by decide +kernel
theorem dX12_swap_5 : decode cX12_swap 5 = .ok (.aload_n 0, 1) := by decide +kernel
theorem dX12_swap_6 : decode cX12_swap 6 = .ok (.iload_n 1, 1) := by decide +kernel
theorem dX12_swap_7 : decode cX12_swap 7 = .ok (.invokevirtual 276, 3) := by decide +kernel
theorem dX12_swap_10 : decode cX12_swap 10 = .ok (.ifCond .eq 42, 3) := by decide +kernel
theorem dX12_swap_13 : decode cX12_swap 13 = .ok (.aload_n 0, 1) := by decide +kernel
theorem dX12_swap_14 : decode cX12_swap 14 = .ok (.iload_n 2, 1) := by decide +kernel
theorem dX12_swap_15 : decode cX12_swap 15 = .ok (.invokevirtual 276, 3) := by decide +kernel
theorem dX12_swap_18 : decode cX12_swap 18 = .ok (.ifCond .eq 34, 3) := by decide +kernel
theorem dX12_swap_21 : decode cX12_swap 21 = .ok (.iload_n 1, 1) := by decide +kernel
theorem dX12_swap_22 : decode cX12_swap 22 = .ok (.iload_n 2, 1) := by decide +kernel
theorem dX12_swap_23 : decode cX12_swap 23 = .ok (.if_icmp .eq 29, 3) := by decide +kernel
theorem dX12_swap_26 : decode cX12_swap 26 = .ok (.iload_n 3, 1) := by decide +kernel
theorem dX12_swap_27 : decode cX12_swap 27 = .ok (.i2l, 1) := by decide +kernel
theorem dX12_swap_28 : decode cX12_swap 28 = .ok (.lconst 1, 1) := by decide +kernel
theorem dX12_swap_29 : decode cX12_swap 29 = .ok (.ldc2_w 274, 3) := by decide +kernel
theorem dX12_swap_32 : decode cX12_swap 32 = .ok (.invokestatic 242, 3) := by decide +kernel
theorem dX12_swap_35 : decode cX12_swap 35 = .ok (.ifCond .eq 17, 3) := by decide +kernel
theorem dX12_swap_38 : decode cX12_swap 38 = .ok (.iload 4, 2) := by decide +kernel
theorem dX12_swap_40 : decode cX12_swap 40 = .ok (.i2l, 1) := by decide +kernel
theorem dX12_swap_41 : decode cX12_swap 41 = .ok (.iload_n 3, 1) := by decide +kernel
theorem dX12_swap_42 : decode cX12_swap 42 = .ok (.i2l, 1) := by decide +kernel
theorem dX12_swap_43 : decode cX12_swap 43 = .ok (.ldc2_w 274, 3) := by decide +kernel
theorem dX12_swap_46 : decode cX12_swap 46 = .ok (.invokestatic 242, 3) := by decide +kernel
theorem dX12_swap_49 : decode cX12_swap 49 = .ok (.ifCond .ne 5, 3) := by decide +kernel
theorem dX12_swap_52 : decode cX12_swap 52 = .ok (.iconst (-1), 1) := by decide +kernel
theorem dX12_swap_53 : decode cX12_swap 53 = .ok (.ireturn, 1) := by decide +kernel
theorem dX12_swap_54 : decode cX12_swap 54 = .ok (.aload_n 0, 1) := by decide +kernel
theorem dX12_swap_55 : decode cX12_swap 55 = .ok (.getfield 296, 3) := by decide +kernel
theorem dX12_swap_58 : decode cX12_swap 58 = .ok (.bipush 20, 2) := by decide +kernel
theorem dX12_swap_60 : decode cX12_swap 60 = .ok (.if_icmp .ne 6, 3) := by decide +kernel
theorem dX12_swap_63 : decode cX12_swap 63 = .ok (.bipush (-2), 2) := by decide +kernel
theorem dX12_swap_65 : decode cX12_swap 65 = .ok (.ireturn, 1) := by decide +kernel
theorem dX12_swap_66 : decode cX12_swap 66 = .ok (.aload_n 0, 1) := by decide +kernel
theorem dX12_swap_67 : decode cX12_swap 67 = .ok (.getfield 159, 3) := by decide +kernel
theorem dX12_swap_70 : decode cX12_swap 70 = .ok (.aload_n 0, 1) := by decide +kernel
theorem dX12_swap_71 : decode cX12_swap 71 = .ok (.getfield 296, 3) := by decide +kernel
theorem dX12_swap_74 : decode cX12_swap 74 = .ok (.iload_n 1, 1) := by decide +kernel
theorem dX12_swap_75 : decode cX12_swap 75 = .ok (.iastore, 1) := by decide +kernel
theorem dX12_swap_76 : decode cX12_swap 76 = .ok (.aload_n 0, 1) := by decide +kernel
theorem dX12_swap_77 : decode cX12_swap 77 = .ok (.getfield 162, 3) := by decide +kernel
theorem dX12_swap_80 : decode cX12_swap 80 = .ok (.aload_n 0, 1) := by decide +kernel
theorem dX12_swap_81 : decode cX12_swap 81 = .ok (.getfield 296, 3) := by decide +kernel
theorem dX12_swap_84 : decode cX12_swap 84 = .ok (.iload_n 2, 1) := by decide +kernel
theorem dX12_swap_85 : decode cX12_swap 85 = .ok (.iastore, 1) := by decide +kernel
theorem dX12_swap_86 : decode cX12_swap 86 = .ok (.aload_n 0, 1) := by decide +kernel
theorem dX12_swap_87 : decode cX12_swap 87 = .ok (.getfield 165, 3) := by decide +kernel
theorem dX12_swap_90 : decode cX12_swap 90 = .ok (.aload_n 0, 1) := by decide +kernel
theorem dX12_swap_91 : decode cX12_swap 91 = .ok (.getfield 296, 3) := by decide +kernel
theorem dX12_swap_94 : decode cX12_swap 94 = .ok (.iload_n 3, 1) := by decide +kernel
theorem dX12_swap_95 : decode cX12_swap 95 = .ok (.iastore, 1) := by decide +kernel
theorem dX12_swap_96 : decode cX12_swap 96 = .ok (.aload_n 0, 1) := by decide +kernel
theorem dX12_swap_97 : decode cX12_swap 97 = .ok (.getfield 168, 3) := by decide +kernel
theorem dX12_swap_100 : decode cX12_swap 100 = .ok (.aload_n 0, 1) := by decide +kernel
theorem dX12_swap_101 : decode cX12_swap 101 = .ok (.getfield 296, 3) := by decide +kernel
theorem dX12_swap_104 : decode cX12_swap 104 = .ok (.iload 4, 2) := by decide +kernel
theorem dX12_swap_106 : decode cX12_swap 106 = .ok (.iastore, 1) := by decide +kernel
theorem dX12_swap_107 : decode cX12_swap 107 = .ok (.aload_n 0, 1) := by decide +kernel
theorem dX12_swap_108 : decode cX12_swap 108 = .ok (.dup, 1) := by decide +kernel
theorem dX12_swap_109 : decode cX12_swap 109 = .ok (.getfield 296, 3) := by decide +kernel
theorem dX12_swap_112 : decode cX12_swap 112 = .ok (.iconst 1, 1) := by decide +kernel
theorem dX12_swap_113 : decode cX12_swap 113 = .ok (.iadd, 1) := by decide +kernel
theorem dX12_swap_114 : decode cX12_swap 114 = .ok (.putfield 296, 3) := by decide +kernel
theorem dX12_swap_117 : decode cX12_swap 117 = .ok (.aload_n 0, 1) := by decide +kernel
theorem dX12_swap_118 : decode cX12_swap 118 = .ok (.getfield 296, 3) := by decide +kernel
theorem dX12_swap_121 : decode cX12_swap 121 = .ok (.iconst 1, 1) := by decide +kernel
theorem dX12_swap_122 : decode cX12_swap 122 = .ok (.isub, 1) := by decide +kernel
theorem dX12_swap_123 : decode cX12_swap 123 = .ok (.ireturn, 1) := by decide +kernel
theorem dX12_value_0 : decode cX12_value 0 = .ok (.aload_n 0, 1) := by decide +kernel
theorem dX12_value_1 : decode cX12_value 1 = .ok (.iconst 0, 1) := by decide +kernel
theorem dX12_value_2 : decode cX12_value 2 = .ok (.putfield 228, 3) := by decide +kernel
theorem dX12_value_5 : decode cX12_value 5 = .ok (.aload_n 0, 1) := by decide +kernel
theorem dX12_value_6 : decode cX12_value 6 = .ok (.iload_n 1, 1) := by decide +kernel
theorem dX12_value_7 : decode cX12_value 7 = .ok (.invokevirtual 299, 3) := by decide +kernel
theorem dX12_value_10 : decode cX12_value 10 = .ok (.ifCond .ne 5, 3) := by decide +kernel
theorem dX12_value_13 : decode cX12_value 13 = .ok (.iconst (-1), 1) := by decide +kernel
theorem dX12_value_14 : decode cX12_value 14 = .ok (.ireturn, 1) := by decide +kernel
theorem dX12_value_15 : decode cX12_value 15 = .ok (.dload_n 2, 1) := by decide +kernel
theorem dX12_value_16 : decode cX12_value 16 = .ok (.ldc2_w 302, 3) := by decide +kernel
theorem dX12_value_19 : decode cX12_value 19 = .ok (.dcmp .l, 1) := by decide +kernel
theorem dX12_value_20 : decode cX12_value 20 = .ok (.ifCond .lt 21, 3) := by decide +kernel
theorem dX12_value_23 : decode cX12_value 23 = .ok (.dload_n 2, 1) := by decide +kernel
theorem dX12_value_24 : decode cX12_value 24 = .ok (.ldc2_w 304, 3) := by decide +kernel
theorem dX12_value_27 : decode cX12_value 27 = .ok (.dcmp .g, 1) := by decide +kernel
theorem dX12_value_28 : decode cX12_value 28 = .ok (.ifCond .gt 13, 3) := by decide +kernel
theorem dX12_value_31 : decode cX12_value 31 = .ok (.aload_n 0, 1) := by decide +kernel
theorem dX12_value_32 : decode cX12_value 32 = .ok (.getfield 262, 3) := by decide +kernel
theorem dX12_value_35 : decode cX12_value 35 = .ok (.sipush 400, 3) := by decide +kernel
theorem dX12_value_38 : decode cX12_value 38 = .ok (.if_icmp .ne 6, 3) := by decide +kernel
theorem dX12_value_41 : decode cX12_value 41 = .ok (.bipush (-2), 2) := by decide +kernel
theorem dX12_value_43 : decode cX12_value 43 = .ok (.ireturn, 1) := by decide +kernel
theorem dX12_value_44 : decode cX12_value 44 = .ok (.sipush 401, 3) := by decide +kernel
theorem dX12_value_47 : decode cX12_value 47 = .ok (.iload_n 1, 1) := by decide +kernel
theorem dX12_value_48 : decode cX12_value 48 = .ok (.imul, 1) := by decide +kernel
theorem dX12_value_49 : decode cX12_value 49 = .ok (.aload_n 0, 1) := by decide +kernel
theorem dX12_value_50 : decode cX12_value 50 = .ok (.getfield 262, 3) := by decide +kernel
theorem dX12_value_53 : decode cX12_value 53 = .ok (.iadd, 1) := by decide +kernel
theorem dX12_value_54 : decode cX12_value 54 = .ok (.iconst 1, 1) := by decide +kernel
theorem dX12_value_55 : decode cX12_value 55 = .ok (.iadd, 1) := by decide +kernel
theorem dX12_value_56 : decode cX12_value 56 = .ok (.istore 4, 2) := by decide +kernel
theorem dX12_value_58 : decode cX12_value 58 = .ok (.aload_n 0, 1) := by decide +kernel
theorem dX12_value_59 : decode cX12_value 59 = .ok (.getfield 17, 3) := by decide +kernel
theorem dX12_value_62 : decode cX12_value 62 = .ok (.iload 4, 2) := by decide +kernel
theorem dX12_value_64 : decode cX12_value 64 = .ok (.baload, 1) := by decide +kernel
theorem dX12_value_65 : decode cX12_value 65 = .ok (.istore 5, 2) := by decide +kernel
theorem dX12_value_67 : decode cX12_value 67 = .ok (.aload_n 0, 1) := by decide +kernel
theorem dX12_value_68 : decode cX12_value 68 = .ok (.getfield 17, 3) := by decide +kernel
theorem dX12_value_71 : decode cX12_value 71 = .ok (.iload 4, 2) := by decide +kernel
theorem dX12_value_73 : decode cX12_value 73 = .ok (.iconst 1, 1) := by decide +kernel
theorem dX12_value_74 : decode cX12_value 74 = .ok (.bastore, 1) := by decide +kernel
theorem dX12_value_75 : decode cX12_value 75 = .ok (.aload_n 0, 1) := by decide +kernel
theorem dX12_value_76 : decode cX12_value 76 = .ok (.getfield 13, 3) := by decide +kernel
theorem dX12_value_79 : decode cX12_value 79 = .ok (.iload 4, 2) := by decide +kernel
theorem dX12_value_81 : decode cX12_value 81 = .ok (.dload_n 2, 1) := by decide +kernel
theorem dX12_value_82 : decode cX12_value 82 = .ok (.d2l, 1) := by decide +kernel
theorem dX12_value_83 : decode cX12_value 83 = .ok (.lastore, 1) := by decide +kernel
theorem dX12_value_84 : decode cX12_value 84 = .ok (.iload 5, 2) := by decide +kernel
theorem dX12_value_86 : decode cX12_value 86 = .ok (.ifCond .eq 7, 3) := by decide +kernel
theorem dX12_value_89 : decode cX12_value 89 = .ok (.iconst 0, 1) := by decide +kernel
theorem dX12_value_90 : decode cX12_value 90 = .ok (.goto 4, 3) := by decide +kernel
theorem dX12_value_93 : decode cX12_value 93 = .ok (.iconst 1, 1) := by decide +kernel
theorem dX12_value_94 : decode cX12_value 94 = .ok (.ireturn, 1) := by decide +kernel
theorem dX12_tear_0 : decode cX12_tear 0 = .ok (.aload_n 0, 1) := by decide +kernel
theorem dX12_tear_1 : decode cX12_tear 1 = .ok (.iconst 0, 1) := by decide +kernel
theorem dX12_tear_2 : decode cX12_tear 2 = .ok (.putfield 228, 3) := by decide +kernel
theorem dX12_tear_5 : decode cX12_tear 5 = .ok (.aload_n 0, 1) := by decide +kernel
theorem dX12_tear_6 : decode cX12_tear 6 = .ok (.iload_n 1, 1) := by decide +kernel
theorem dX12_tear_7 : decode cX12_tear 7 = .ok (.invokevirtual 299, 3) := by decide +kernel
theorem dX12_tear_10 : decode cX12_tear 10 = .ok (.ifCond .ne 5, 3) := by decide +kernel
theorem dX12_tear_13 : decode cX12_tear 13 = .ok (.iconst (-1), 1) := by decide +kernel
theorem dX12_tear_14 : decode cX12_tear 14 = .ok (.ireturn, 1) := by decide +kernel
theorem dX12_tear_15 : decode cX12_tear 15 = .ok (.aload_n 0, 1) := by decide +kernel
theorem dX12_tear_16 : decode cX12_tear 16 = .ok (.getfield 262, 3) := by decide +kernel
theorem dX12_tear_19 : decode cX12_tear 19 = .ok (.sipush 400, 3) := by decide +kernel
theorem dX12_tear_22 : decode cX12_tear 22 = .ok (.if_icmp .ne 5, 3) := by decide +kernel
theorem dX12_tear_25 : decode cX12_tear 25 = .ok (.iconst 0, 1) := by decide +kernel
theorem dX12_tear_26 : decode cX12_tear 26 = .ok (.ireturn, 1) := by decide +kernel
theorem dX12_tear_27 : decode cX12_tear 27 = .ok (.sipush 401, 3) := by decide +kernel
theorem dX12_tear_30 : decode cX12_tear 30 = .ok (.iload_n 1, 1) := by decide +kernel
theorem dX12_tear_31 : decode cX12_tear 31 = .ok (.imul, 1) := by decide +kernel
theorem dX12_tear_32 : decode cX12_tear 32 = .ok (.aload_n 0, 1) := by decide +kernel
theorem dX12_tear_33 : decode cX12_tear 33 = .ok (.getfield 262, 3) := by decide +kernel
theorem dX12_tear_36 : decode cX12_tear 36 = .ok (.iadd, 1) := by decide +kernel
theorem dX12_tear_37 : decode cX12_tear 37 = .ok (.iconst 1, 1) := by decide +kernel
theorem dX12_tear_38 : decode cX12_tear 38 = .ok (.iadd, 1) := by decide +kernel
theorem dX12_tear_39 : decode cX12_tear 39 = .ok (.istore_n 2, 1) := by decide +kernel
theorem dX12_tear_40 : decode cX12_tear 40 = .ok (.aload_n 0, 1) := by decide +kernel
theorem dX12_tear_41 : decode cX12_tear 41 = .ok (.getfield 17, 3) := by decide +kernel
theorem dX12_tear_44 : decode cX12_tear 44 = .ok (.iload_n 2, 1) := by decide +kernel
theorem dX12_tear_45 : decode cX12_tear 45 = .ok (.baload, 1) := by decide +kernel
theorem dX12_tear_46 : decode cX12_tear 46 = .ok (.istore_n 3, 1) := by decide +kernel
theorem dX12_tear_47 : decode cX12_tear 47 = .ok (.aload_n 0, 1) := by decide +kernel
theorem dX12_tear_48 : decode cX12_tear 48 = .ok (.getfield 17, 3) := by decide +kernel
theorem dX12_tear_51 : decode cX12_tear 51 = .ok (.iload_n 2, 1) := by decide +kernel
theorem dX12_tear_52 : decode cX12_tear 52 = .ok (.iconst 0, 1) := by decide +kernel
theorem dX12_tear_53 : decode cX12_tear 53 = .ok (.bastore, 1) := by decide +kernel
theorem dX12_tear_54 : decode cX12_tear 54 = .ok (.iload_n 3, 1) := by decide +kernel
theorem dX12_tear_55 : decode cX12_tear 55 = .ok (.ifCond .eq 7, 3) := by decide +kernel
theorem dX12_tear_58 : decode cX12_tear 58 = .ok (.iconst 1, 1) := by decide +kernel
theorem dX12_tear_59 : decode cX12_tear 59 = .ok (.goto 4, 3) := by decide +kernel
theorem dX12_tear_62 : decode cX12_tear 62 = .ok (.iconst 0, 1) := by decide +kernel
theorem dX12_tear_63 : decode cX12_tear 63 = .ok (.ireturn, 1) := by decide +kernel
theorem dX12_has_0 : decode cX12_has 0 = .ok (.iload_n 2, 1) := by decide +kernel
theorem dX12_has_1 : decode cX12_has 1 = .ok (.ifCond .le 22, 3) := by decide +kernel
theorem dX12_has_4 : decode cX12_has 4 = .ok (.aload_n 0, 1) := by decide +kernel
theorem dX12_has_5 : decode cX12_has 5 = .ok (.getfield 17, 3) := by decide +kernel
theorem dX12_has_8 : decode cX12_has 8 = .ok (.sipush 401, 3) := by decide +kernel
theorem dX12_has_11 : decode cX12_has 11 = .ok (.iload_n 1, 1) := by decide +kernel
theorem dX12_has_12 : decode cX12_has 12 = .ok (.imul, 1) := by decide +kernel
theorem dX12_has_13 : decode cX12_has 13 = .ok (.iload_n 2, 1) := by decide +kernel
theorem dX12_has_14 : decode cX12_has 14 = .ok (.iadd, 1) := by decide +kernel
theorem dX12_has_15 : decode cX12_has 15 = .ok (.baload, 1) := by decide +kernel
theorem dX12_has_16 : decode cX12_has 16 = .ok (.ifCond .eq 7, 3) := by decide +kernel
theorem dX12_has_19 : decode cX12_has 19 = .ok (.iconst 1, 1) := by decide +kernel
theorem dX12_has_20 : decode cX12_has 20 = .ok (.goto 4, 3) := by decide +kernel
theorem dX12_has_23 : decode cX12_has 23 = .ok (.iconst 0, 1) := by decide +kernel
theorem dX12_has_24 : decode cX12_has 24 = .ok (.ireturn, 1) := by decide +kernel
theorem dX12_countOf_0 : decode cX12_countOf 0 = .ok (.iconst 0, 1) := by decide +kernel
theorem dX12_countOf_1 : decode cX12_countOf 1 = .ok (.istore 7, 2) := by decide +kernel
theorem dX12_countOf_3 : decode cX12_countOf 3 = .ok (.iload_n 2, 1) := by decide +kernel
theorem dX12_countOf_4 : decode cX12_countOf 4 = .ok (.istore 8, 2) := by decide +kernel
theorem dX12_countOf_6 : decode cX12_countOf 6 = .ok (.iload 8, 2) := by decide +kernel
theorem dX12_countOf_8 : decode cX12_countOf 8 = .ok (.iload_n 2, 1) := by decide +kernel
theorem dX12_countOf_9 : decode cX12_countOf 9 = .ok (.iload_n 3, 1) := by decide +kernel
theorem dX12_countOf_10 : decode cX12_countOf 10 = .ok (.isub, 1) := by decide +kernel
theorem dX12_countOf_11 : decode cX12_countOf 11 = .ok (.if_icmp .le 58, 3) := by decide +kernel
theorem dX12_countOf_14 : decode cX12_countOf 14 = .ok (.iload 8, 2) := by decide +kernel
theorem dX12_countOf_16 : decode cX12_countOf 16 = .ok (.ifCond .le 53, 3) := by decide +kernel
theorem dX12_countOf_19 : decode cX12_countOf 19 = .ok (.iload 7, 2) := by decide +kernel
theorem dX12_countOf_21 : decode cX12_countOf 21 = .ok (.aload_n 0, 1) := by decide +kernel
theorem dX12_countOf_22 : decode cX12_countOf 22 = .ok (.iload_n 1, 1) := by decide +kernel
theorem dX12_countOf_23 : decode cX12_countOf 23 = .ok (.iload 8, 2) := by decide +kernel
theorem dX12_countOf_25 : decode cX12_countOf 25 = .ok (.invokevirtual 306, 3) := by decide +kernel
theorem dX12_countOf_28 : decode cX12_countOf 28 = .ok (.ifCond .eq 31, 3) := by decide +kernel
theorem dX12_countOf_31 : decode cX12_countOf 31 = .ok (.iload 4, 2) := by decide +kernel
theorem dX12_countOf_33 : decode cX12_countOf 33 = .ok (.ifCond .eq 22, 3) := by decide +kernel
theorem dX12_countOf_36 : decode cX12_countOf 36 = .ok (.aload_n 0, 1) := by decide +kernel
theorem dX12_countOf_37 : decode cX12_countOf 37 = .ok (.getfield 13, 3) := by decide +kernel
theorem dX12_countOf_40 : decode cX12_countOf 40 = .ok (.sipush 401, 3) := by decide +kernel
theorem dX12_countOf_43 : decode cX12_countOf 43 = .ok (.iload_n 1, 1) := by decide +kernel
theorem dX12_countOf_44 : decode cX12_countOf 44 = .ok (.imul, 1) := by decide +kernel
theorem dX12_countOf_45 : decode cX12_countOf 45 = .ok (.iload 8, 2) := by decide +kernel
theorem dX12_countOf_47 : decode cX12_countOf 47 = .ok (.iadd, 1) := by decide +kernel
theorem dX12_countOf_48 : decode cX12_countOf 48 = .ok (.laload, 1) := by decide +kernel
theorem dX12_countOf_49 : decode cX12_countOf 49 = .ok (.lload 5, 2) := by decide +kernel
theorem dX12_countOf_51 : decode cX12_countOf 51 = .ok (.lcmp, 1) := by decide +kernel
theorem dX12_countOf_52 : decode cX12_countOf 52 = .ok (.ifCond .le 7, 3) := by decide +kernel
theorem dX12_countOf_55 : decode cX12_countOf 55 = .ok (.iconst 1, 1) := by decide +kernel
theorem dX12_countOf_56 : decode cX12_countOf 56 = .ok (.goto 4, 3) := by decide +kernel
theorem dX12_countOf_59 : decode cX12_countOf 59 = .ok (.iconst 0, 1) := by decide +kernel
theorem dX12_countOf_60 : decode cX12_countOf 60 = .ok (.iadd, 1) := by decide +kernel
theorem dX12_countOf_61 : decode cX12_countOf 61 = .ok (.istore 7, 2) := by decide +kernel
theorem dX12_countOf_63 : decode cX12_countOf 63 = .ok (.iinc 8 (-1), 3) := by decide +kernel
theorem dX12_countOf_66 : decode cX12_countOf 66 = .ok (.goto (-60), 3) := by decide +kernel
theorem dX12_countOf_69 : decode cX12_countOf 69 = .ok (.iload 7, 2) := by decide +kernel
theorem dX12_countOf_71 : decode cX12_countOf 71 = .ok (.ireturn, 1) := by decide +kernel
theorem dX12_isPart_0 : decode cX12_isPart 0 = .ok (.bipush 100, 2) := by decide +kernel
theorem dX12_isPart_2 : decode cX12_isPart 2 = .ok (.aload_n 0, 1) := by decide +kernel
theorem dX12_isPart_3 : decode cX12_isPart 3 = .ok (.iload_n 2, 1) := by decide +kernel
theorem dX12_isPart_4 : decode cX12_isPart 4 = .ok (.iload_n 3, 1) := by decide +kernel
theorem dX12_isPart_5 : decode cX12_isPart 5 = .ok (.iload 4, 2) := by decide +kernel
theorem dX12_isPart_7 : decode cX12_isPart 7 = .ok (.iconst 1, 1) := by decide +kernel
theorem dX12_isPart_8 : decode cX12_isPart 8 = .ok (.aload_n 0, 1) := by decide +kernel
theorem dX12_isPart_9 : decode cX12_isPart 9 = .ok (.getfield 27, 3) := by decide +kernel
theorem dX12_isPart_12 : decode cX12_isPart 12 = .ok (.iload_n 1, 1) := by decide +kernel
theorem dX12_isPart_13 : decode cX12_isPart 13 = .ok (.laload, 1) := by decide +kernel
theorem dX12_isPart_14 : decode cX12_isPart 14 = .ok (.invokevirtual 309, 3) := by decide +kernel
theorem dX12_isPart_17 : decode cX12_isPart 17 = .ok (.imul, 1) := by decide +kernel
theorem dX12_isPart_18 : decode cX12_isPart 18 = .ok (.aload_n 0, 1) := by decide +kernel
theorem dX12_isPart_19 : decode cX12_isPart 19 = .ok (.getfield 30, 3) := by decide +kernel
theorem dX12_isPart_22 : decode cX12_isPart 22 = .ok (.iload_n 1, 1) := by decide +kernel
theorem dX12_isPart_23 : decode cX12_isPart 23 = .ok (.iaload, 1) := by decide +kernel
theorem dX12_isPart_24 : decode cX12_isPart 24 = .ok (.aload_n 0, 1) := by decide +kernel
theorem dX12_isPart_25 : decode cX12_isPart 25 = .ok (.iload_n 2, 1) := by decide +kernel
theorem dX12_isPart_26 : decode cX12_isPart 26 = .ok (.iload_n 3, 1) := by decide +kernel
theorem dX12_isPart_27 : decode cX12_isPart 27 = .ok (.iload 4, 2) := by decide +kernel
theorem dX12_isPart_29 : decode cX12_isPart 29 = .ok (.iconst 0, 1) := by decide +kernel
theorem dX12_isPart_30 : decode cX12_isPart 30 = .ok (.lconst 0, 1) := by decide +kernel
theorem dX12_isPart_31 : decode cX12_isPart 31 = .ok (.invokevirtual 309, 3) := by decide +kernel
theorem dX12_isPart_34 : decode cX12_isPart 34 = .ok (.imul, 1) := by decide +kernel
theorem dX12_isPart_35 : decode cX12_isPart 35 = .ok (.if_icmp .lt 7, 3) := by decide +kernel
theorem dX12_isPart_38 : decode cX12_isPart 38 = .ok (.iconst 1, 1) := by decide +kernel
theorem dX12_isPart_39 : decode cX12_isPart 39 = .ok (.goto 4, 3) := by decide +kernel
theorem dX12_isPart_42 : decode cX12_isPart 42 = .ok (.iconst 0, 1) := by decide +kernel
theorem dX12_isPart_43 : decode cX12_isPart 43 = .ok (.ireturn, 1) := by decide +kernel
theorem dX12_middle_0 : decode cX12_middle 0 = .ok (.lconst 0, 1) := by decide +kernel
theorem dX12_middle_1 : decode cX12_middle 1 = .ok (.lstore 5, 2) := by decide +kernel
theorem dX12_middle_3 : decode cX12_middle 3 = .ok (.iload_n 2, 1) := by decide +kernel
theorem dX12_middle_4 : decode cX12_middle 4 = .ok (.iconst 1, 1) := by decide +kernel
theorem dX12_middle_5 : decode cX12_middle 5 = .ok (.isub, 1) := by decide +kernel
theorem dX12_middle_6 : decode cX12_middle 6 = .ok (.istore 7, 2) := by decide +kernel
theorem dX12_middle_8 : decode cX12_middle 8 = .ok (.iload 7, 2) := by decide +kernel
theorem dX12_middle_10 : decode cX12_middle 10 = .ok (.iload_n 2, 1) := by decide +kernel
theorem dX12_middle_11 : decode cX12_middle 11 = .ok (.iload_n 3, 1) := by decide +kernel
theorem dX12_middle_12 : decode cX12_middle 12 = .ok (.isub, 1) := by decide +kernel
theorem dX12_middle_13 : decode cX12_middle 13 = .ok (.if_icmp .lt 165, 3) := by decide +kernel
theorem dX12_middle_16 : decode cX12_middle 16 = .ok (.iload 7, 2) := by decide +kernel
theorem dX12_middle_18 : decode cX12_middle 18 = .ok (.ifCond .le 160, 3) := by decide +kernel
theorem dX12_middle_21 : decode cX12_middle 21 = .ok (.iconst 0, 1) := by decide +kernel
theorem dX12_middle_22 : decode cX12_middle 22 = .ok (.istore 8, 2) := by decide +kernel
theorem dX12_middle_24 : decode cX12_middle 24 = .ok (.iload_n 2, 1) := by decide +kernel
theorem dX12_middle_25 : decode cX12_middle 25 = .ok (.iconst 1, 1) := by decide +kernel
theorem dX12_middle_26 : decode cX12_middle 26 = .ok (.isub, 1) := by decide +kernel
theorem dX12_middle_27 : decode cX12_middle 27 = .ok (.istore 9, 2) := by decide +kernel
theorem dX12_middle_29 : decode cX12_middle 29 = .ok (.iload 9, 2) := by decide +kernel
theorem dX12_middle_31 : decode cX12_middle 31 = .ok (.iload_n 2, 1) := by decide +kernel
theorem dX12_middle_32 : decode cX12_middle 32 = .ok (.iload_n 3, 1) := by decide +kernel
theorem dX12_middle_33 : decode cX12_middle 33 = .ok (.isub, 1) := by decide +kernel
theorem dX12_middle_34 : decode cX12_middle 34 = .ok (.if_icmp .lt 97, 3) := by decide +kernel
theorem dX12_middle_37 : decode cX12_middle 37 = .ok (.iload 9, 2) := by decide +kernel
theorem dX12_middle_39 : decode cX12_middle 39 = .ok (.ifCond .le 92, 3) := by decide +kernel
theorem dX12_middle_42 : decode cX12_middle 42 = .ok (.aload_n 0, 1) := by decide +kernel
theorem dX12_middle_43 : decode cX12_middle 43 = .ok (.iload_n 1, 1) := by decide +kernel
theorem dX12_middle_44 : decode cX12_middle 44 = .ok (.iload 7, 2) := by decide +kernel
theorem dX12_middle_46 : decode cX12_middle 46 = .ok (.invokevirtual 306, 3) := by decide +kernel
theorem dX12_middle_49 : decode cX12_middle 49 = .ok (.ifCond .eq 82, 3) := by decide +kernel
theorem dX12_middle_52 : decode cX12_middle 52 = .ok (.aload_n 0, 1) := by decide +kernel
theorem dX12_middle_53 : decode cX12_middle 53 = .ok (.getfield 13, 3) := by decide +kernel
theorem dX12_middle_56 : decode cX12_middle 56 = .ok (.sipush 401, 3) := by decide +kernel
theorem dX12_middle_59 : decode cX12_middle 59 = .ok (.iload_n 1, 1) := by decide +kernel
theorem dX12_middle_60 : decode cX12_middle 60 = .ok (.imul, 1) := by decide +kernel
theorem dX12_middle_61 : decode cX12_middle 61 = .ok (.iload 9, 2) := by decide +kernel
theorem dX12_middle_63 : decode cX12_middle 63 = .ok (.iadd, 1) := by decide +kernel
theorem dX12_middle_64 : decode cX12_middle 64 = .ok (.laload, 1) := by decide +kernel
theorem dX12_middle_65 : decode cX12_middle 65 = .ok (.lstore 10, 2) := by decide +kernel
theorem dX12_middle_67 : decode cX12_middle 67 = .ok (.aload_n 0, 1) := by decide +kernel
theorem dX12_middle_68 : decode cX12_middle 68 = .ok (.getfield 13, 3) := by decide +kernel
theorem dX12_middle_71 : decode cX12_middle 71 = .ok (.sipush 401, 3) := by decide +kernel
theorem dX12_middle_74 : decode cX12_middle 74 = .ok (.iload_n 1, 1) := by decide +kernel
theorem dX12_middle_75 : decode cX12_middle 75 = .ok (.imul, 1) := by decide +kernel
theorem dX12_middle_76 : decode cX12_middle 76 = .ok (.iload 7, 2) := by decide +kernel
theorem dX12_middle_78 : decode cX12_middle 78 = .ok (.iadd, 1) := by decide +kernel
theorem dX12_middle_79 : decode cX12_middle 79 = .ok (.laload, 1) := by decide +kernel
theorem dX12_middle_80 : decode cX12_middle 80 = .ok (.lstore 12, 2) := by decide +kernel
theorem dX12_middle_82 : decode cX12_middle 82 = .ok (.iload 8, 2) := by decide +kernel
theorem dX12_middle_84 : decode cX12_middle 84 = .ok (.aload_n 0, 1) := by decide +kernel
theorem dX12_middle_85 : decode cX12_middle 85 = .ok (.iload_n 1, 1) := by decide +kernel
theorem dX12_middle_86 : decode cX12_middle 86 = .ok (.iload 9, 2) := by decide +kernel
theorem dX12_middle_88 : decode cX12_middle 88 = .ok (.invokevirtual 306, 3) := by decide +kernel
theorem dX12_middle_91 : decode cX12_middle 91 = .ok (.ifCond .eq 30, 3) := by decide +kernel
theorem dX12_middle_94 : decode cX12_middle 94 = .ok (.lload 10, 2) := by decide +kernel
theorem dX12_middle_96 : decode cX12_middle 96 = .ok (.lload 12, 2) := by decide +kernel
theorem dX12_middle_98 : decode cX12_middle 98 = .ok (.lcmp, 1) := by decide +kernel
theorem dX12_middle_99 : decode cX12_middle 99 = .ok (.ifCond .lt 18, 3) := by decide +kernel
theorem dX12_middle_102 : decode cX12_middle 102 = .ok (.lload 10, 2) := by decide +kernel
theorem dX12_middle_104 : decode cX12_middle 104 = .ok (.lload 12, 2) := by decide +kernel
theorem dX12_middle_106 : decode cX12_middle 106 = .ok (.lcmp, 1) := by decide +kernel
theorem dX12_middle_107 : decode cX12_middle 107 = .ok (.ifCond .ne 14, 3) := by decide +kernel
theorem dX12_middle_110 : decode cX12_middle 110 = .ok (.iload 9, 2) := by decide +kernel
theorem dX12_middle_112 : decode cX12_middle 112 = .ok (.iload 7, 2) := by decide +kernel
theorem dX12_middle_114 : decode cX12_middle 114 = .ok (.if_icmp .ge 7, 3) := by decide +kernel
theorem dX12_middle_117 : decode cX12_middle 117 = .ok (.iconst 1, 1) := by decide +kernel
theorem dX12_middle_118 : decode cX12_middle 118 = .ok (.goto 4, 3) := by decide +kernel
theorem dX12_middle_121 : decode cX12_middle 121 = .ok (.iconst 0, 1) := by decide +kernel
theorem dX12_middle_122 : decode cX12_middle 122 = .ok (.iadd, 1) := by decide +kernel
theorem dX12_middle_123 : decode cX12_middle 123 = .ok (.istore 8, 2) := by decide +kernel
theorem dX12_middle_125 : decode cX12_middle 125 = .ok (.iinc 9 (-1), 3) := by decide +kernel
theorem dX12_middle_128 : decode cX12_middle 128 = .ok (.goto (-99), 3) := by decide +kernel
theorem dX12_middle_131 : decode cX12_middle 131 = .ok (.aload_n 0, 1) := by decide +kernel
theorem dX12_middle_132 : decode cX12_middle 132 = .ok (.iload_n 1, 1) := by decide +kernel
theorem dX12_middle_133 : decode cX12_middle 133 = .ok (.iload 7, 2) := by decide +kernel
theorem dX12_middle_135 : decode cX12_middle 135 = .ok (.invokevirtual 306, 3) := by decide +kernel
theorem dX12_middle_138 : decode cX12_middle 138 = .ok (.ifCond .eq 30, 3) := by decide +kernel
theorem dX12_middle_141 : decode cX12_middle 141 = .ok (.iload 8, 2) := by decide +kernel
theorem dX12_middle_143 : decode cX12_middle 143 = .ok (.iload 4, 2) := by decide +kernel
theorem dX12_middle_145 : decode cX12_middle 145 = .ok (.iconst 1, 1) := by decide +kernel
theorem dX12_middle_146 : decode cX12_middle 146 = .ok (.isub, 1) := by decide +kernel
theorem dX12_middle_147 : decode cX12_middle 147 = .ok (.iconst 2, 1) := by decide +kernel
theorem dX12_middle_148 : decode cX12_middle 148 = .ok (.idiv, 1) := by decide +kernel
theorem dX12_middle_149 : decode cX12_middle 149 = .ok (.if_icmp .ne 19, 3) := by decide +kernel
theorem dX12_middle_152 : decode cX12_middle 152 = .ok (.aload_n 0, 1) := by decide +kernel
theorem dX12_middle_153 : decode cX12_middle 153 = .ok (.getfield 13, 3) := by decide +kernel
theorem dX12_middle_156 : decode cX12_middle 156 = .ok (.sipush 401, 3) := by decide +kernel
theorem dX12_middle_159 : decode cX12_middle 159 = .ok (.iload_n 1, 1) := by decide +kernel
theorem dX12_middle_160 : decode cX12_middle 160 = .ok (.imul, 1) := by decide +kernel
theorem dX12_middle_161 : decode cX12_middle 161 = .ok (.iload 7, 2) := by decide +kernel
theorem dX12_middle_163 : decode cX12_middle 163 = .ok (.iadd, 1) := by decide +kernel
theorem dX12_middle_164 : decode cX12_middle 164 = .ok (.laload, 1) := by decide +kernel
theorem dX12_middle_165 : decode cX12_middle 165 = .ok (.goto 5, 3) := by decide +kernel
theorem dX12_middle_168 : decode cX12_middle 168 = .ok (.lload 5, 2) := by decide +kernel
theorem dX12_middle_170 : decode cX12_middle 170 = .ok (.lstore 5, 2) := by decide +kernel
theorem dX12_middle_172 : decode cX12_middle 172 = .ok (.iinc 7 (-1), 3) := by decide +kernel
theorem dX12_middle_175 : decode cX12_middle 175 = .ok (.goto (-167), 3) := by decide +kernel
theorem dX12_middle_178 : decode cX12_middle 178 = .ok (.lload 5, 2) := by decide +kernel
theorem dX12_middle_180 : decode cX12_middle 180 = .ok (.lreturn, 1) := by decide +kernel
theorem dX12_odd_0 : decode cX12_odd 0 = .ok (.aload_n 0, 1) := by decide +kernel
theorem dX12_odd_1 : decode cX12_odd 1 = .ok (.iload_n 2, 1) := by decide +kernel
theorem dX12_odd_2 : decode cX12_odd 2 = .ok (.iload_n 3, 1) := by decide +kernel
theorem dX12_odd_3 : decode cX12_odd 3 = .ok (.iconst 1, 1) := by decide +kernel
theorem dX12_odd_4 : decode cX12_odd 4 = .ok (.isub, 1) := by decide +kernel
theorem dX12_odd_5 : decode cX12_odd 5 = .ok (.aload_n 0, 1) := by decide +kernel
theorem dX12_odd_6 : decode cX12_odd 6 = .ok (.getfield 24, 3) := by decide +kernel
theorem dX12_odd_9 : decode cX12_odd 9 = .ok (.iload_n 1, 1) := by decide +kernel
theorem dX12_odd_10 : decode cX12_odd 10 = .ok (.iaload, 1) := by decide +kernel
theorem dX12_odd_11 : decode cX12_odd 11 = .ok (.iconst 0, 1) := by decide +kernel
theorem dX12_odd_12 : decode cX12_odd 12 = .ok (.lconst 0, 1) := by decide +kernel
theorem dX12_odd_13 : decode cX12_odd 13 = .ok (.invokevirtual 309, 3) := by decide +kernel
theorem dX12_odd_16 : decode cX12_odd 16 = .ok (.istore 6, 2) := by decide +kernel
theorem dX12_odd_18 : decode cX12_odd 18 = .ok (.iload 6, 2) := by decide +kernel
theorem dX12_odd_20 : decode cX12_odd 20 = .ok (.iconst 3, 1) := by decide +kernel
theorem dX12_odd_21 : decode cX12_odd 21 = .ok (.if_icmp .ge 5, 3) := by decide +kernel
theorem dX12_odd_24 : decode cX12_odd 24 = .ok (.iconst 0, 1) := by decide +kernel
theorem dX12_odd_25 : decode cX12_odd 25 = .ok (.ireturn, 1) := by decide +kernel
theorem dX12_odd_26 : decode cX12_odd 26 = .ok (.lload 4, 2) := by decide +kernel
theorem dX12_odd_28 : decode cX12_odd 28 = .ok (.aload_n 0, 1) := by decide +kernel
theorem dX12_odd_29 : decode cX12_odd 29 = .ok (.iload_n 2, 1) := by decide +kernel
theorem dX12_odd_30 : decode cX12_odd 30 = .ok (.iload_n 3, 1) := by decide +kernel
theorem dX12_odd_31 : decode cX12_odd 31 = .ok (.aload_n 0, 1) := by decide +kernel
theorem dX12_odd_32 : decode cX12_odd 32 = .ok (.getfield 24, 3) := by decide +kernel
theorem dX12_odd_35 : decode cX12_odd 35 = .ok (.iload_n 1, 1) := by decide +kernel
theorem dX12_odd_36 : decode cX12_odd 36 = .ok (.iaload, 1) := by decide +kernel
theorem dX12_odd_37 : decode cX12_odd 37 = .ok (.iload 6, 2) := by decide +kernel
theorem dX12_odd_39 : decode cX12_odd 39 = .ok (.invokevirtual 313, 3) := by decide +kernel
theorem dX12_odd_42 : decode cX12_odd 42 = .ok (.lsub, 1) := by decide +kernel
theorem dX12_odd_43 : decode cX12_odd 43 = .ok (.lstore 7, 2) := by decide +kernel
theorem dX12_odd_45 : decode cX12_odd 45 = .ok (.aload_n 0, 1) := by decide +kernel
theorem dX12_odd_46 : decode cX12_odd 46 = .ok (.getfield 27, 3) := by decide +kernel
theorem dX12_odd_49 : decode cX12_odd 49 = .ok (.iload_n 1, 1) := by decide +kernel
theorem dX12_odd_50 : decode cX12_odd 50 = .ok (.laload, 1) := by decide +kernel
theorem dX12_odd_51 : decode cX12_odd 51 = .ok (.lconst 0, 1) := by decide +kernel
theorem dX12_odd_52 : decode cX12_odd 52 = .ok (.lcmp, 1) := by decide +kernel
theorem dX12_odd_53 : decode cX12_odd 53 = .ok (.ifCond .ge 7, 3) := by decide +kernel
theorem dX12_odd_56 : decode cX12_odd 56 = .ok (.lconst 0, 1) := by decide +kernel
theorem dX12_odd_57 : decode cX12_odd 57 = .ok (.goto 9, 3) := by decide +kernel
theorem dX12_odd_60 : decode cX12_odd 60 = .ok (.aload_n 0, 1) := by decide +kernel
theorem dX12_odd_61 : decode cX12_odd 61 = .ok (.getfield 27, 3) := by decide +kernel
theorem dX12_odd_64 : decode cX12_odd 64 = .ok (.iload_n 1, 1) := by decide +kernel
theorem dX12_odd_65 : decode cX12_odd 65 = .ok (.laload, 1) := by decide +kernel
theorem dX12_odd_66 : decode cX12_odd 66 = .ok (.lstore 9, 2) := by decide +kernel
theorem dX12_odd_68 : decode cX12_odd 68 = .ok (.lload 7, 2) := by decide +kernel
theorem dX12_odd_70 : decode cX12_odd 70 = .ok (.lload 9, 2) := by decide +kernel
theorem dX12_odd_72 : decode cX12_odd 72 = .ok (.lcmp, 1) := by decide +kernel
theorem dX12_odd_73 : decode cX12_odd 73 = .ok (.ifCond .gt 12, 3) := by decide +kernel
theorem dX12_odd_76 : decode cX12_odd 76 = .ok (.lload 7, 2) := by decide +kernel
theorem dX12_odd_78 : decode cX12_odd 78 = .ok (.lneg, 1) := by decide +kernel
theorem dX12_odd_79 : decode cX12_odd 79 = .ok (.lload 9, 2) := by decide +kernel
theorem dX12_odd_81 : decode cX12_odd 81 = .ok (.lcmp, 1) := by decide +kernel
theorem dX12_odd_82 : decode cX12_odd 82 = .ok (.ifCond .le 7, 3) := by decide +kernel
theorem dX12_odd_85 : decode cX12_odd 85 = .ok (.iconst 1, 1) := by decide +kernel
theorem dX12_odd_86 : decode cX12_odd 86 = .ok (.goto 4, 3) := by decide +kernel
theorem dX12_odd_89 : decode cX12_odd 89 = .ok (.iconst 0, 1) := by decide +kernel
theorem dX12_odd_90 : decode cX12_odd 90 = .ok (.ireturn, 1) := by decide +kernel
theorem dX12_both_0 : decode cX12_both 0 = .ok (.iload_n 1, 1) := by decide +kernel
theorem dX12_both_1 : decode cX12_both 1 = .ok (.iconst 1, 1) := by decide +kernel
theorem dX12_both_2 : decode cX12_both 2 = .ok (.if_icmp .ne 12, 3) := by decide +kernel
theorem dX12_both_5 : decode cX12_both 5 = .ok (.iload_n 2, 1) := by decide +kernel
theorem dX12_both_6 : decode cX12_both 6 = .ok (.iconst 1, 1) := by decide +kernel
theorem dX12_both_7 : decode cX12_both 7 = .ok (.if_icmp .ne 7, 3) := by decide +kernel
theorem dX12_both_10 : decode cX12_both 10 = .ok (.iconst 1, 1) := by decide +kernel
theorem dX12_both_11 : decode cX12_both 11 = .ok (.goto 16, 3) := by decide +kernel
theorem dX12_both_14 : decode cX12_both 14 = .ok (.iload_n 1, 1) := by decide +kernel
theorem dX12_both_15 : decode cX12_both 15 = .ok (.ifCond .eq 7, 3) := by decide +kernel
theorem dX12_both_18 : decode cX12_both 18 = .ok (.iload_n 2, 1) := by decide +kernel
theorem dX12_both_19 : decode cX12_both 19 = .ok (.ifCond .ne 7, 3) := by decide +kernel
theorem dX12_both_22 : decode cX12_both 22 = .ok (.iconst 0, 1) := by decide +kernel
theorem dX12_both_23 : decode cX12_both 23 = .ok (.goto 4, 3) := by decide +kernel
theorem dX12_both_26 : decode cX12_both 26 = .ok (.iconst (-1), 1) := by decide +kernel
theorem dX12_both_27 : decode cX12_both 27 = .ok (.ireturn, 1) := by decide +kernel
theorem dX12_found_0 : decode cX12_found 0 = .ok (.aload_n 0, 1) := by decide +kernel
theorem dX12_found_1 : decode cX12_found 1 = .ok (.getfield 42, 3) := by decide +kernel
theorem dX12_found_4 : decode cX12_found 4 = .ok (.iload_n 1, 1) := by decide +kernel
theorem dX12_found_5 : decode cX12_found 5 = .ok (.iaload, 1) := by decide +kernel
theorem dX12_found_6 : decode cX12_found 6 = .ok (.ifCond .lt 20, 3) := by decide +kernel
theorem dX12_found_9 : decode cX12_found 9 = .ok (.aload_n 0, 1) := by decide +kernel
theorem dX12_found_10 : decode cX12_found 10 = .ok (.getfield 42, 3) := by decide +kernel
theorem dX12_found_13 : decode cX12_found 13 = .ok (.iload_n 1, 1) := by decide +kernel
theorem dX12_found_14 : decode cX12_found 14 = .ok (.iaload, 1) := by decide +kernel
theorem dX12_found_15 : decode cX12_found 15 = .ok (.aload_n 0, 1) := by decide +kernel
theorem dX12_found_16 : decode cX12_found 16 = .ok (.getfield 7, 3) := by decide +kernel
theorem dX12_found_19 : decode cX12_found 19 = .ok (.iload_n 2, 1) := by decide +kernel
theorem dX12_found_20 : decode cX12_found 20 = .ok (.iaload, 1) := by decide +kernel
theorem dX12_found_21 : decode cX12_found 21 = .ok (.if_icmp .eq 5, 3) := by decide +kernel
theorem dX12_found_24 : decode cX12_found 24 = .ok (.iconst (-1), 1) := by decide +kernel
theorem dX12_found_25 : decode cX12_found 25 = .ok (.ireturn, 1) := by decide +kernel
theorem dX12_found_26 : decode cX12_found 26 = .ok (.aload_n 0, 1) := by decide +kernel
theorem dX12_found_27 : decode cX12_found 27 = .ok (.getfield 21, 3) := by decide +kernel
theorem dX12_found_30 : decode cX12_found 30 = .ok (.iload_n 1, 1) := by decide +kernel
theorem dX12_found_31 : decode cX12_found 31 = .ok (.iaload, 1) := by decide +kernel
theorem dX12_found_32 : decode cX12_found 32 = .ok (.iconst 4, 1) := by decide +kernel
theorem dX12_found_33 : decode cX12_found 33 = .ok (.if_icmp .ne 26, 3) := by decide +kernel
theorem dX12_found_36 : decode cX12_found 36 = .ok (.aload_n 0, 1) := by decide +kernel
theorem dX12_found_37 : decode cX12_found 37 = .ok (.iload_n 2, 1) := by decide +kernel
theorem dX12_found_38 : decode cX12_found 38 = .ok (.iload_n 3, 1) := by decide +kernel
theorem dX12_found_39 : decode cX12_found 39 = .ok (.aload_n 0, 1) := by decide +kernel
theorem dX12_found_40 : decode cX12_found 40 = .ok (.getfield 24, 3) := by decide +kernel
theorem dX12_found_43 : decode cX12_found 43 = .ok (.iload_n 1, 1) := by decide +kernel
theorem dX12_found_44 : decode cX12_found 44 = .ok (.iaload, 1) := by decide +kernel
theorem dX12_found_45 : decode cX12_found 45 = .ok (.iconst 0, 1) := by decide +kernel
theorem dX12_found_46 : decode cX12_found 46 = .ok (.lconst 0, 1) := by decide +kernel
theorem dX12_found_47 : decode cX12_found 47 = .ok (.invokevirtual 309, 3) := by decide +kernel
theorem dX12_found_50 : decode cX12_found 50 = .ok (.ifCond .ne 7, 3) := by decide +kernel
theorem dX12_found_53 : decode cX12_found 53 = .ok (.iconst 1, 1) := by decide +kernel
theorem dX12_found_54 : decode cX12_found 54 = .ok (.goto 4, 3) := by decide +kernel
theorem dX12_found_57 : decode cX12_found 57 = .ok (.iconst 0, 1) := by decide +kernel
theorem dX12_found_58 : decode cX12_found 58 = .ok (.ireturn, 1) := by decide +kernel
theorem dX12_found_59 : decode cX12_found 59 = .ok (.aload_n 0, 1) := by decide +kernel
theorem dX12_found_60 : decode cX12_found 60 = .ok (.getfield 21, 3) := by decide +kernel
theorem dX12_found_63 : decode cX12_found 63 = .ok (.iload_n 1, 1) := by decide +kernel
theorem dX12_found_64 : decode cX12_found 64 = .ok (.iaload, 1) := by decide +kernel
theorem dX12_found_65 : decode cX12_found 65 = .ok (.bipush 6, 2) := by decide +kernel
theorem dX12_found_67 : decode cX12_found 67 = .ok (.if_icmp .ne 33, 3) := by decide +kernel
theorem dX12_found_70 : decode cX12_found 70 = .ok (.aload_n 0, 1) := by decide +kernel
theorem dX12_found_71 : decode cX12_found 71 = .ok (.aload_n 0, 1) := by decide +kernel
theorem dX12_found_72 : decode cX12_found 72 = .ok (.aload_n 0, 1) := by decide +kernel
theorem dX12_found_73 : decode cX12_found 73 = .ok (.getfield 27, 3) := by decide +kernel
theorem dX12_found_76 : decode cX12_found 76 = .ok (.iload_n 1, 1) := by decide +kernel
theorem dX12_found_77 : decode cX12_found 77 = .ok (.laload, 1) := by decide +kernel
theorem dX12_found_78 : decode cX12_found 78 = .ok (.l2i, 1) := by decide +kernel
theorem dX12_found_79 : decode cX12_found 79 = .ok (.iload_n 2, 1) := by decide +kernel
theorem dX12_found_80 : decode cX12_found 80 = .ok (.iload_n 3, 1) := by decide +kernel
theorem dX12_found_81 : decode cX12_found 81 = .ok (.invokevirtual 317, 3) := by decide +kernel
theorem dX12_found_84 : decode cX12_found 84 = .ok (.aload_n 0, 1) := by decide +kernel
theorem dX12_found_85 : decode cX12_found 85 = .ok (.aload_n 0, 1) := by decide +kernel
theorem dX12_found_86 : decode cX12_found 86 = .ok (.getfield 30, 3) := by decide +kernel
theorem dX12_found_89 : decode cX12_found 89 = .ok (.iload_n 1, 1) := by decide +kernel
theorem dX12_found_90 : decode cX12_found 90 = .ok (.iaload, 1) := by decide +kernel
theorem dX12_found_91 : decode cX12_found 91 = .ok (.iload_n 2, 1) := by decide +kernel
theorem dX12_found_92 : decode cX12_found 92 = .ok (.iload_n 3, 1) := by decide +kernel
theorem dX12_found_93 : decode cX12_found 93 = .ok (.invokevirtual 317, 3) := by decide +kernel
theorem dX12_found_96 : decode cX12_found 96 = .ok (.invokevirtual 321, 3) := by decide +kernel
theorem dX12_found_99 : decode cX12_found 99 = .ok (.ireturn, 1) := by decide +kernel
theorem dX12_found_100 : decode cX12_found 100 = .ok (.aload_n 0, 1) := by decide +kernel
theorem dX12_found_101 : decode cX12_found 101 = .ok (.iload_n 2, 1) := by decide +kernel
theorem dX12_found_102 : decode cX12_found 102 = .ok (.iload_n 3, 1) := by decide +kernel
theorem dX12_found_103 : decode cX12_found 103 = .ok (.invokevirtual 306, 3) := by decide +kernel
theorem dX12_found_106 : decode cX12_found 106 = .ok (.ifCond .ne 5, 3) := by decide +kernel
theorem dX12_found_109 : decode cX12_found 109 = .ok (.iconst (-1), 1) := by decide +kernel
theorem dX12_found_110 : decode cX12_found 110 = .ok (.ireturn, 1) := by decide +kernel
theorem dX12_found_111 : decode cX12_found 111 = .ok (.aload_n 0, 1) := by decide +kernel
theorem dX12_found_112 : decode cX12_found 112 = .ok (.getfield 13, 3) := by decide +kernel
theorem dX12_found_115 : decode cX12_found 115 = .ok (.sipush 401, 3) := by decide +kernel
theorem dX12_found_118 : decode cX12_found 118 = .ok (.iload_n 2, 1) := by decide +kernel
theorem dX12_found_119 : decode cX12_found 119 = .ok (.imul, 1) := by decide +kernel
theorem dX12_found_120 : decode cX12_found 120 = .ok (.iload_n 3, 1) := by decide +kernel
theorem dX12_found_121 : decode cX12_found 121 = .ok (.iadd, 1) := by decide +kernel
theorem dX12_found_122 : decode cX12_found 122 = .ok (.laload, 1) := by decide +kernel
theorem dX12_found_123 : decode cX12_found 123 = .ok (.lstore 4, 2) := by decide +kernel
theorem dX12_found_125 : decode cX12_found 125 = .ok (.aload_n 0, 1) := by decide +kernel
theorem dX12_found_126 : decode cX12_found 126 = .ok (.getfield 21, 3) := by decide +kernel
theorem dX12_found_129 : decode cX12_found 129 = .ok (.iload_n 1, 1) := by decide +kernel
theorem dX12_found_130 : decode cX12_found 130 = .ok (.iaload, 1) := by decide +kernel
theorem dX12_found_131 : decode cX12_found 131 = .ok (.tableswitch 191 0 3 #[29, 47, 93, 151], 29) := by decide +kernel
theorem dX12_found_160 : decode cX12_found 160 = .ok (.lload 4, 2) := by decide +kernel
theorem dX12_found_162 : decode cX12_found 162 = .ok (.aload_n 0, 1) := by decide +kernel
theorem dX12_found_163 : decode cX12_found 163 = .ok (.getfield 27, 3) := by decide +kernel
theorem dX12_found_166 : decode cX12_found 166 = .ok (.iload_n 1, 1) := by decide +kernel
theorem dX12_found_167 : decode cX12_found 167 = .ok (.laload, 1) := by decide +kernel
theorem dX12_found_168 : decode cX12_found 168 = .ok (.lcmp, 1) := by decide +kernel
theorem dX12_found_169 : decode cX12_found 169 = .ok (.ifCond .le 7, 3) := by decide +kernel
theorem dX12_found_172 : decode cX12_found 172 = .ok (.iconst 1, 1) := by decide +kernel
theorem dX12_found_173 : decode cX12_found 173 = .ok (.goto 4, 3) := by decide +kernel
theorem dX12_found_176 : decode cX12_found 176 = .ok (.iconst 0, 1) := by decide +kernel
theorem dX12_found_177 : decode cX12_found 177 = .ok (.ireturn, 1) := by decide +kernel
theorem dX12_found_178 : decode cX12_found 178 = .ok (.lload 4, 2) := by decide +kernel
theorem dX12_found_180 : decode cX12_found 180 = .ok (.aload_n 0, 1) := by decide +kernel
theorem dX12_found_181 : decode cX12_found 181 = .ok (.getfield 27, 3) := by decide +kernel
theorem dX12_found_184 : decode cX12_found 184 = .ok (.iload_n 1, 1) := by decide +kernel
theorem dX12_found_185 : decode cX12_found 185 = .ok (.laload, 1) := by decide +kernel
theorem dX12_found_186 : decode cX12_found 186 = .ok (.lcmp, 1) := by decide +kernel
theorem dX12_found_187 : decode cX12_found 187 = .ok (.ifCond .gt 31, 3) := by decide +kernel
theorem dX12_found_190 : decode cX12_found 190 = .ok (.lload 4, 2) := by decide +kernel
theorem dX12_found_192 : decode cX12_found 192 = .ok (.aload_n 0, 1) := by decide +kernel
theorem dX12_found_193 : decode cX12_found 193 = .ok (.getfield 30, 3) := by decide +kernel
theorem dX12_found_196 : decode cX12_found 196 = .ok (.iload_n 1, 1) := by decide +kernel
theorem dX12_found_197 : decode cX12_found 197 = .ok (.iaload, 1) := by decide +kernel
theorem dX12_found_198 : decode cX12_found 198 = .ok (.i2l, 1) := by decide +kernel
theorem dX12_found_199 : decode cX12_found 199 = .ok (.lcmp, 1) := by decide +kernel
theorem dX12_found_200 : decode cX12_found 200 = .ok (.ifCond .lt 22, 3) := by decide +kernel
theorem dX12_found_203 : decode cX12_found 203 = .ok (.aload_n 0, 1) := by decide +kernel
theorem dX12_found_204 : decode cX12_found 204 = .ok (.getfield 53, 3) := by decide +kernel
theorem dX12_found_207 : decode cX12_found 207 = .ok (.bipush 16, 2) := by decide +kernel
theorem dX12_found_209 : decode cX12_found 209 = .ok (.iload_n 1, 1) := by decide +kernel
theorem dX12_found_210 : decode cX12_found 210 = .ok (.imul, 1) := by decide +kernel
theorem dX12_found_211 : decode cX12_found 211 = .ok (.iload_n 2, 1) := by decide +kernel
theorem dX12_found_212 : decode cX12_found 212 = .ok (.iadd, 1) := by decide +kernel
theorem dX12_found_213 : decode cX12_found 213 = .ok (.iaload, 1) := by decide +kernel
theorem dX12_found_214 : decode cX12_found 214 = .ok (.iconst 1, 1) := by decide +kernel
theorem dX12_found_215 : decode cX12_found 215 = .ok (.if_icmp .ne 7, 3) := by decide +kernel
theorem dX12_found_218 : decode cX12_found 218 = .ok (.iconst 1, 1) := by decide +kernel
theorem dX12_found_219 : decode cX12_found 219 = .ok (.goto 4, 3) := by decide +kernel
theorem dX12_found_222 : decode cX12_found 222 = .ok (.iconst 0, 1) := by decide +kernel
theorem dX12_found_223 : decode cX12_found 223 = .ok (.ireturn, 1) := by decide +kernel
theorem dX12_found_224 : decode cX12_found 224 = .ok (.aload_n 0, 1) := by decide +kernel
theorem dX12_found_225 : decode cX12_found 225 = .ok (.iload_n 2, 1) := by decide +kernel
theorem dX12_found_226 : decode cX12_found 226 = .ok (.iload_n 3, 1) := by decide +kernel
theorem dX12_found_227 : decode cX12_found 227 = .ok (.aload_n 0, 1) := by decide +kernel
theorem dX12_found_228 : decode cX12_found 228 = .ok (.getfield 24, 3) := by decide +kernel
theorem dX12_found_231 : decode cX12_found 231 = .ok (.iload_n 1, 1) := by decide +kernel
theorem dX12_found_232 : decode cX12_found 232 = .ok (.iaload, 1) := by decide +kernel
theorem dX12_found_233 : decode cX12_found 233 = .ok (.isub, 1) := by decide +kernel
theorem dX12_found_234 : decode cX12_found 234 = .ok (.invokevirtual 306, 3) := by decide +kernel
theorem dX12_found_237 : decode cX12_found 237 = .ok (.ifCond .ne 7, 3) := by decide +kernel
theorem dX12_found_240 : decode cX12_found 240 = .ok (.iconst (-1), 1) := by decide +kernel
theorem dX12_found_241 : decode cX12_found 241 = .ok (.goto 40, 3) := by decide +kernel
theorem dX12_found_244 : decode cX12_found 244 = .ok (.lload 4, 2) := by decide +kernel
theorem dX12_found_246 : decode cX12_found 246 = .ok (.aload_n 0, 1) := by decide +kernel
theorem dX12_found_247 : decode cX12_found 247 = .ok (.getfield 13, 3) := by decide +kernel
theorem dX12_found_250 : decode cX12_found 250 = .ok (.sipush 401, 3) := by decide +kernel
theorem dX12_found_253 : decode cX12_found 253 = .ok (.iload_n 2, 1) := by decide +kernel
theorem dX12_found_254 : decode cX12_found 254 = .ok (.imul, 1) := by decide +kernel
theorem dX12_found_255 : decode cX12_found 255 = .ok (.iload_n 3, 1) := by decide +kernel
theorem dX12_found_256 : decode cX12_found 256 = .ok (.iadd, 1) := by decide +kernel
theorem dX12_found_257 : decode cX12_found 257 = .ok (.aload_n 0, 1) := by decide +kernel
theorem dX12_found_258 : decode cX12_found 258 = .ok (.getfield 24, 3) := by decide +kernel
theorem dX12_found_261 : decode cX12_found 261 = .ok (.iload_n 1, 1) := by decide +kernel
theorem dX12_found_262 : decode cX12_found 262 = .ok (.iaload, 1) := by decide +kernel
theorem dX12_found_263 : decode cX12_found 263 = .ok (.isub, 1) := by decide +kernel
theorem dX12_found_264 : decode cX12_found 264 = .ok (.laload, 1) := by decide +kernel
theorem dX12_found_265 : decode cX12_found 265 = .ok (.lsub, 1) := by decide +kernel
theorem dX12_found_266 : decode cX12_found 266 = .ok (.aload_n 0, 1) := by decide +kernel
theorem dX12_found_267 : decode cX12_found 267 = .ok (.getfield 27, 3) := by decide +kernel
theorem dX12_found_270 : decode cX12_found 270 = .ok (.iload_n 1, 1) := by decide +kernel
theorem dX12_found_271 : decode cX12_found 271 = .ok (.laload, 1) := by decide +kernel
theorem dX12_found_272 : decode cX12_found 272 = .ok (.lcmp, 1) := by decide +kernel
theorem dX12_found_273 : decode cX12_found 273 = .ok (.ifCond .le 7, 3) := by decide +kernel
theorem dX12_found_276 : decode cX12_found 276 = .ok (.iconst 1, 1) := by decide +kernel
theorem dX12_found_277 : decode cX12_found 277 = .ok (.goto 4, 3) := by decide +kernel
theorem dX12_found_280 : decode cX12_found 280 = .ok (.iconst 0, 1) := by decide +kernel
theorem dX12_found_281 : decode cX12_found 281 = .ok (.ireturn, 1) := by decide +kernel
theorem dX12_found_282 : decode cX12_found 282 = .ok (.aload_n 0, 1) := by decide +kernel
theorem dX12_found_283 : decode cX12_found 283 = .ok (.iload_n 1, 1) := by decide +kernel
theorem dX12_found_284 : decode cX12_found 284 = .ok (.iload_n 2, 1) := by decide +kernel
theorem dX12_found_285 : decode cX12_found 285 = .ok (.iload_n 3, 1) := by decide +kernel
theorem dX12_found_286 : decode cX12_found 286 = .ok (.aload_n 0, 1) := by decide +kernel
theorem dX12_found_287 : decode cX12_found 287 = .ok (.getfield 24, 3) := by decide +kernel
theorem dX12_found_290 : decode cX12_found 290 = .ok (.iload_n 1, 1) := by decide +kernel
theorem dX12_found_291 : decode cX12_found 291 = .ok (.iaload, 1) := by decide +kernel
theorem dX12_found_292 : decode cX12_found 292 = .ok (.invokevirtual 325, 3) := by decide +kernel
theorem dX12_found_295 : decode cX12_found 295 = .ok (.ifCond .eq 25, 3) := by decide +kernel
theorem dX12_found_298 : decode cX12_found 298 = .ok (.aload_n 0, 1) := by decide +kernel
theorem dX12_found_299 : decode cX12_found 299 = .ok (.iload_n 1, 1) := by decide +kernel
theorem dX12_found_300 : decode cX12_found 300 = .ok (.iload_n 2, 1) := by decide +kernel
theorem dX12_found_301 : decode cX12_found 301 = .ok (.iload_n 3, 1) := by decide +kernel
theorem dX12_found_302 : decode cX12_found 302 = .ok (.iconst 2, 1) := by decide +kernel
theorem dX12_found_303 : decode cX12_found 303 = .ok (.aload_n 0, 1) := by decide +kernel
theorem dX12_found_304 : decode cX12_found 304 = .ok (.getfield 24, 3) := by decide +kernel
theorem dX12_found_307 : decode cX12_found 307 = .ok (.iload_n 1, 1) := by decide +kernel
theorem dX12_found_308 : decode cX12_found 308 = .ok (.iaload, 1) := by decide +kernel
theorem dX12_found_309 : decode cX12_found 309 = .ok (.imul, 1) := by decide +kernel
theorem dX12_found_310 : decode cX12_found 310 = .ok (.invokevirtual 325, 3) := by decide +kernel
theorem dX12_found_313 : decode cX12_found 313 = .ok (.ifCond .eq 7, 3) := by decide +kernel
theorem dX12_found_316 : decode cX12_found 316 = .ok (.iconst 1, 1) := by decide +kernel
theorem dX12_found_317 : decode cX12_found 317 = .ok (.goto 4, 3) := by decide +kernel
theorem dX12_found_320 : decode cX12_found 320 = .ok (.iconst 0, 1) := by decide +kernel
theorem dX12_found_321 : decode cX12_found 321 = .ok (.ireturn, 1) := by decide +kernel
theorem dX12_found_322 : decode cX12_found 322 = .ok (.aload_n 0, 1) := by decide +kernel
theorem dX12_found_323 : decode cX12_found 323 = .ok (.iload_n 1, 1) := by decide +kernel
theorem dX12_found_324 : decode cX12_found 324 = .ok (.iload_n 2, 1) := by decide +kernel
theorem dX12_found_325 : decode cX12_found 325 = .ok (.iload_n 3, 1) := by decide +kernel
theorem dX12_found_326 : decode cX12_found 326 = .ok (.lload 4, 2) := by decide +kernel
theorem dX12_found_328 : decode cX12_found 328 = .ok (.invokevirtual 329, 3) := by decide +kernel
theorem dX12_found_331 : decode cX12_found 331 = .ok (.ireturn, 1) := by decide +kernel
theorem dX12_truthAt_0 : decode cX12_truthAt 0 = .ok (.aload_n 0, 1) := by decide +kernel
theorem dX12_truthAt_1 : decode cX12_truthAt 1 = .ok (.getfield 49, 3) := by decide +kernel
theorem dX12_truthAt_4 : decode cX12_truthAt 4 = .ok (.sipush 401, 3) := by decide +kernel
theorem dX12_truthAt_7 : decode cX12_truthAt 7 = .ok (.bipush 16, 2) := by decide +kernel
theorem dX12_truthAt_9 : decode cX12_truthAt 9 = .ok (.iload_n 1, 1) := by decide +kernel
theorem dX12_truthAt_10 : decode cX12_truthAt 10 = .ok (.imul, 1) := by decide +kernel
theorem dX12_truthAt_11 : decode cX12_truthAt 11 = .ok (.iload_n 2, 1) := by decide +kernel
theorem dX12_truthAt_12 : decode cX12_truthAt 12 = .ok (.iadd, 1) := by decide +kernel
theorem dX12_truthAt_13 : decode cX12_truthAt 13 = .ok (.imul, 1) := by decide +kernel
theorem dX12_truthAt_14 : decode cX12_truthAt 14 = .ok (.iload_n 3, 1) := by decide +kernel
theorem dX12_truthAt_15 : decode cX12_truthAt 15 = .ok (.iadd, 1) := by decide +kernel
theorem dX12_truthAt_16 : decode cX12_truthAt 16 = .ok (.baload, 1) := by decide +kernel
theorem dX12_truthAt_17 : decode cX12_truthAt 17 = .ok (.iconst 1, 1) := by decide +kernel
theorem dX12_truthAt_18 : decode cX12_truthAt 18 = .ok (.isub, 1) := by decide +kernel
theorem dX12_truthAt_19 : decode cX12_truthAt 19 = .ok (.ireturn, 1) := by decide +kernel
theorem dX12_groupOf_0 : decode cX12_groupOf 0 = .ok (.iconst 0, 1) := by decide +kernel
theorem dX12_groupOf_1 : decode cX12_groupOf 1 = .ok (.istore_n 3, 1) := by decide +kernel
theorem dX12_groupOf_2 : decode cX12_groupOf 2 = .ok (.iload_n 3, 1) := by decide +kernel
theorem dX12_groupOf_3 : decode cX12_groupOf 3 = .ok (.aload_n 0, 1) := by decide +kernel
theorem dX12_groupOf_4 : decode cX12_groupOf 4 = .ok (.getfield 333, 3) := by decide +kernel
theorem dX12_groupOf_7 : decode cX12_groupOf 7 = .ok (.if_icmp .ge 123, 3) := by decide +kernel
theorem dX12_groupOf_10 : decode cX12_groupOf 10 = .ok (.aload_n 0, 1) := by decide +kernel
theorem dX12_groupOf_11 : decode cX12_groupOf 11 = .ok (.getfield 138, 3) := by decide +kernel
theorem dX12_groupOf_14 : decode cX12_groupOf 14 = .ok (.iload_n 3, 1) := by decide +kernel
theorem dX12_groupOf_15 : decode cX12_groupOf 15 = .ok (.iaload, 1) := by decide +kernel
theorem dX12_groupOf_16 : decode cX12_groupOf 16 = .ok (.istore 4, 2) := by decide +kernel
theorem dX12_groupOf_18 : decode cX12_groupOf 18 = .ok (.aload_n 0, 1) := by decide +kernel
theorem dX12_groupOf_19 : decode cX12_groupOf 19 = .ok (.getfield 122, 3) := by decide +kernel
theorem dX12_groupOf_22 : decode cX12_groupOf 22 = .ok (.iconst 1, 1) := by decide +kernel
theorem dX12_groupOf_23 : decode cX12_groupOf 23 = .ok (.iand, 1) := by decide +kernel
theorem dX12_groupOf_24 : decode cX12_groupOf 24 = .ok (.ifCond .eq 24, 3) := by decide +kernel
theorem dX12_groupOf_27 : decode cX12_groupOf 27 = .ok (.aload_n 0, 1) := by decide +kernel
theorem dX12_groupOf_28 : decode cX12_groupOf 28 = .ok (.getfield 7, 3) := by decide +kernel
theorem dX12_groupOf_31 : decode cX12_groupOf 31 = .ok (.aload_n 0, 1) := by decide +kernel
theorem dX12_groupOf_32 : decode cX12_groupOf 32 = .ok (.getfield 89, 3) := by decide +kernel
theorem dX12_groupOf_35 : decode cX12_groupOf 35 = .ok (.iload 4, 2) := by decide +kernel
theorem dX12_groupOf_37 : decode cX12_groupOf 37 = .ok (.iaload, 1) := by decide +kernel
theorem dX12_groupOf_38 : decode cX12_groupOf 38 = .ok (.iaload, 1) := by decide +kernel
theorem dX12_groupOf_39 : decode cX12_groupOf 39 = .ok (.aload_n 0, 1) := by decide +kernel
theorem dX12_groupOf_40 : decode cX12_groupOf 40 = .ok (.getfield 7, 3) := by decide +kernel
theorem dX12_groupOf_43 : decode cX12_groupOf 43 = .ok (.iload_n 2, 1) := by decide +kernel
theorem dX12_groupOf_44 : decode cX12_groupOf 44 = .ok (.iaload, 1) := by decide +kernel
theorem dX12_groupOf_45 : decode cX12_groupOf 45 = .ok (.if_icmp .ne 7, 3) := by decide +kernel
theorem dX12_groupOf_48 : decode cX12_groupOf 48 = .ok (.iconst 1, 1) := by decide +kernel
theorem dX12_groupOf_49 : decode cX12_groupOf 49 = .ok (.goto 4, 3) := by decide +kernel
theorem dX12_groupOf_52 : decode cX12_groupOf 52 = .ok (.iconst 0, 1) := by decide +kernel
theorem dX12_groupOf_53 : decode cX12_groupOf 53 = .ok (.istore 5, 2) := by decide +kernel
theorem dX12_groupOf_55 : decode cX12_groupOf 55 = .ok (.iload 5, 2) := by decide +kernel
theorem dX12_groupOf_57 : decode cX12_groupOf 57 = .ok (.ifCond .eq 57, 3) := by decide +kernel
theorem dX12_groupOf_60 : decode cX12_groupOf 60 = .ok (.aload_n 0, 1) := by decide +kernel
theorem dX12_groupOf_61 : decode cX12_groupOf 61 = .ok (.getfield 122, 3) := by decide +kernel
theorem dX12_groupOf_64 : decode cX12_groupOf 64 = .ok (.iconst 2, 1) := by decide +kernel
theorem dX12_groupOf_65 : decode cX12_groupOf 65 = .ok (.iand, 1) := by decide +kernel
theorem dX12_groupOf_66 : decode cX12_groupOf 66 = .ok (.ifCond .eq 14, 3) := by decide +kernel
theorem dX12_groupOf_69 : decode cX12_groupOf 69 = .ok (.aload_n 0, 1) := by decide +kernel
theorem dX12_groupOf_70 : decode cX12_groupOf 70 = .ok (.getfield 86, 3) := by decide +kernel
theorem dX12_groupOf_73 : decode cX12_groupOf 73 = .ok (.iload 4, 2) := by decide +kernel
theorem dX12_groupOf_75 : decode cX12_groupOf 75 = .ok (.iaload, 1) := by decide +kernel
theorem dX12_groupOf_76 : decode cX12_groupOf 76 = .ok (.iload_n 1, 1) := by decide +kernel
theorem dX12_groupOf_77 : decode cX12_groupOf 77 = .ok (.if_icmp .ne 37, 3) := by decide +kernel
theorem dX12_groupOf_80 : decode cX12_groupOf 80 = .ok (.aload_n 0, 1) := by decide +kernel
theorem dX12_groupOf_81 : decode cX12_groupOf 81 = .ok (.getfield 122, 3) := by decide +kernel
theorem dX12_groupOf_84 : decode cX12_groupOf 84 = .ok (.iconst 4, 1) := by decide +kernel
theorem dX12_groupOf_85 : decode cX12_groupOf 85 = .ok (.iand, 1) := by decide +kernel
theorem dX12_groupOf_86 : decode cX12_groupOf 86 = .ok (.ifCond .eq 24, 3) := by decide +kernel
theorem dX12_groupOf_89 : decode cX12_groupOf 89 = .ok (.aload_n 0, 1) := by decide +kernel
theorem dX12_groupOf_90 : decode cX12_groupOf 90 = .ok (.getfield 39, 3) := by decide +kernel
theorem dX12_groupOf_93 : decode cX12_groupOf 93 = .ok (.aload_n 0, 1) := by decide +kernel
theorem dX12_groupOf_94 : decode cX12_groupOf 94 = .ok (.getfield 86, 3) := by decide +kernel
theorem dX12_groupOf_97 : decode cX12_groupOf 97 = .ok (.iload 4, 2) := by decide +kernel
theorem dX12_groupOf_99 : decode cX12_groupOf 99 = .ok (.iaload, 1) := by decide +kernel
theorem dX12_groupOf_100 : decode cX12_groupOf 100 = .ok (.iaload, 1) := by decide +kernel
theorem dX12_groupOf_101 : decode cX12_groupOf 101 = .ok (.aload_n 0, 1) := by decide +kernel
theorem dX12_groupOf_102 : decode cX12_groupOf 102 = .ok (.getfield 39, 3) := by decide +kernel
theorem dX12_groupOf_105 : decode cX12_groupOf 105 = .ok (.iload_n 1, 1) := by decide +kernel
theorem dX12_groupOf_106 : decode cX12_groupOf 106 = .ok (.iaload, 1) := by decide +kernel
theorem dX12_groupOf_107 : decode cX12_groupOf 107 = .ok (.if_icmp .ne 7, 3) := by decide +kernel
theorem dX12_groupOf_110 : decode cX12_groupOf 110 = .ok (.iconst 1, 1) := by decide +kernel
theorem dX12_groupOf_111 : decode cX12_groupOf 111 = .ok (.goto 4, 3) := by decide +kernel
theorem dX12_groupOf_114 : decode cX12_groupOf 114 = .ok (.iconst 0, 1) := by decide +kernel
theorem dX12_groupOf_115 : decode cX12_groupOf 115 = .ok (.istore 5, 2) := by decide +kernel
theorem dX12_groupOf_117 : decode cX12_groupOf 117 = .ok (.iload 5, 2) := by decide +kernel
theorem dX12_groupOf_119 : decode cX12_groupOf 119 = .ok (.ifCond .eq 5, 3) := by decide +kernel
theorem dX12_groupOf_122 : decode cX12_groupOf 122 = .ok (.iload_n 3, 1) := by decide +kernel
theorem dX12_groupOf_123 : decode cX12_groupOf 123 = .ok (.ireturn, 1) := by decide +kernel
theorem dX12_groupOf_124 : decode cX12_groupOf 124 = .ok (.iinc 3 1, 3) := by decide +kernel
theorem dX12_groupOf_127 : decode cX12_groupOf 127 = .ok (.goto (-125), 3) := by decide +kernel
theorem dX12_groupOf_130 : decode cX12_groupOf 130 = .ok (.aload_n 0, 1) := by decide +kernel
theorem dX12_groupOf_131 : decode cX12_groupOf 131 = .ok (.getfield 138, 3) := by decide +kernel
theorem dX12_groupOf_134 : decode cX12_groupOf 134 = .ok (.aload_n 0, 1) := by decide +kernel
theorem dX12_groupOf_135 : decode cX12_groupOf 135 = .ok (.getfield 333, 3) := by decide +kernel
theorem dX12_groupOf_138 : decode cX12_groupOf 138 = .ok (.aload_n 0, 1) := by decide +kernel
theorem dX12_groupOf_139 : decode cX12_groupOf 139 = .ok (.getfield 284, 3) := by decide +kernel
theorem dX12_groupOf_142 : decode cX12_groupOf 142 = .ok (.iastore, 1) := by decide +kernel
theorem dX12_groupOf_143 : decode cX12_groupOf 143 = .ok (.aload_n 0, 1) := by decide +kernel
theorem dX12_groupOf_144 : decode cX12_groupOf 144 = .ok (.getfield 141, 3) := by decide +kernel
theorem dX12_groupOf_147 : decode cX12_groupOf 147 = .ok (.aload_n 0, 1) := by decide +kernel
theorem dX12_groupOf_148 : decode cX12_groupOf 148 = .ok (.getfield 333, 3) := by decide +kernel
theorem dX12_groupOf_151 : decode cX12_groupOf 151 = .ok (.iconst 0, 1) := by decide +kernel
theorem dX12_groupOf_152 : decode cX12_groupOf 152 = .ok (.iastore, 1) := by decide +kernel
theorem dX12_groupOf_153 : decode cX12_groupOf 153 = .ok (.aload_n 0, 1) := by decide +kernel
theorem dX12_groupOf_154 : decode cX12_groupOf 154 = .ok (.getfield 144, 3) := by decide +kernel
theorem dX12_groupOf_157 : decode cX12_groupOf 157 = .ok (.aload_n 0, 1) := by decide +kernel
theorem dX12_groupOf_158 : decode cX12_groupOf 158 = .ok (.getfield 333, 3) := by decide +kernel
theorem dX12_groupOf_161 : decode cX12_groupOf 161 = .ok (.iconst 0, 1) := by decide +kernel
theorem dX12_groupOf_162 : decode cX12_groupOf 162 = .ok (.bastore, 1) := by decide +kernel
theorem dX12_groupOf_163 : decode cX12_groupOf 163 = .ok (.aload_n 0, 1) := by decide +kernel
theorem dX12_groupOf_164 : decode cX12_groupOf 164 = .ok (.dup, 1) := by decide +kernel
theorem dX12_groupOf_165 : decode cX12_groupOf 165 = .ok (.getfield 333, 3) := by decide +kernel
theorem dX12_groupOf_168 : decode cX12_groupOf 168 = .ok (.iconst 1, 1) := by decide +kernel
theorem dX12_groupOf_169 : decode cX12_groupOf 169 = .ok (.iadd, 1) := by decide +kernel
theorem dX12_groupOf_170 : decode cX12_groupOf 170 = .ok (.putfield 333, 3) := by decide +kernel
theorem dX12_groupOf_173 : decode cX12_groupOf 173 = .ok (.aload_n 0, 1) := by decide +kernel
theorem dX12_groupOf_174 : decode cX12_groupOf 174 = .ok (.getfield 333, 3) := by decide +kernel
theorem dX12_groupOf_177 : decode cX12_groupOf 177 = .ok (.iconst 1, 1) := by decide +kernel
theorem dX12_groupOf_178 : decode cX12_groupOf 178 = .ok (.isub, 1) := by decide +kernel
theorem dX12_groupOf_179 : decode cX12_groupOf 179 = .ok (.ireturn, 1) := by decide +kernel
theorem dX12_begin_0 : decode cX12_begin 0 = .ok (.aload_n 0, 1) := by decide +kernel
theorem dX12_begin_1 : decode cX12_begin 1 = .ok (.iload_n 1, 1) := by decide +kernel
theorem dX12_begin_2 : decode cX12_begin 2 = .ok (.iload_n 2, 1) := by decide +kernel
theorem dX12_begin_3 : decode cX12_begin 3 = .ok (.invokevirtual 336, 3) := by decide +kernel
theorem dX12_begin_6 : decode cX12_begin 6 = .ok (.istore 4, 2) := by decide +kernel
theorem dX12_begin_8 : decode cX12_begin 8 = .ok (.aload_n 0, 1) := by decide +kernel
theorem dX12_begin_9 : decode cX12_begin 9 = .ok (.getfield 86, 3) := by decide +kernel
theorem dX12_begin_12 : decode cX12_begin 12 = .ok (.aload_n 0, 1) := by decide +kernel
theorem dX12_begin_13 : decode cX12_begin 13 = .ok (.getfield 284, 3) := by decide +kernel
theorem dX12_begin_16 : decode cX12_begin 16 = .ok (.iload_n 1, 1) := by decide +kernel
theorem dX12_begin_17 : decode cX12_begin 17 = .ok (.iastore, 1) := by decide +kernel
theorem dX12_begin_18 : decode cX12_begin 18 = .ok (.aload_n 0, 1) := by decide +kernel
theorem dX12_begin_19 : decode cX12_begin 19 = .ok (.getfield 89, 3) := by decide +kernel
theorem dX12_begin_22 : decode cX12_begin 22 = .ok (.aload_n 0, 1) := by decide +kernel
theorem dX12_begin_23 : decode cX12_begin 23 = .ok (.getfield 284, 3) := by decide +kernel
theorem dX12_begin_26 : decode cX12_begin 26 = .ok (.iload_n 2, 1) := by decide +kernel
theorem dX12_begin_27 : decode cX12_begin 27 = .ok (.iastore, 1) := by decide +kernel
theorem dX12_begin_28 : decode cX12_begin 28 = .ok (.aload_n 0, 1) := by decide +kernel
theorem dX12_begin_29 : decode cX12_begin 29 = .ok (.getfield 92, 3) := by decide +kernel
theorem dX12_begin_32 : decode cX12_begin 32 = .ok (.aload_n 0, 1) := by decide +kernel
theorem dX12_begin_33 : decode cX12_begin 33 = .ok (.getfield 284, 3) := by decide +kernel
theorem dX12_begin_36 : decode cX12_begin 36 = .ok (.iload_n 3, 1) := by decide +kernel
theorem dX12_begin_37 : decode cX12_begin 37 = .ok (.iastore, 1) := by decide +kernel
theorem dX12_begin_38 : decode cX12_begin 38 = .ok (.aload_n 0, 1) := by decide +kernel
theorem dX12_begin_39 : decode cX12_begin 39 = .ok (.getfield 95, 3) := by decide +kernel
theorem dX12_begin_42 : decode cX12_begin 42 = .ok (.aload_n 0, 1) := by decide +kernel
theorem dX12_begin_43 : decode cX12_begin 43 = .ok (.getfield 284, 3) := by decide +kernel
theorem dX12_begin_46 : decode cX12_begin 46 = .ok (.iconst 0, 1) := by decide +kernel
theorem dX12_begin_47 : decode cX12_begin 47 = .ok (.iastore, 1) := by decide +kernel
theorem dX12_begin_48 : decode cX12_begin 48 = .ok (.aload_n 0, 1) := by decide +kernel
theorem dX12_begin_49 : decode cX12_begin 49 = .ok (.getfield 98, 3) := by decide +kernel
theorem dX12_begin_52 : decode cX12_begin 52 = .ok (.aload_n 0, 1) := by decide +kernel
theorem dX12_begin_53 : decode cX12_begin 53 = .ok (.getfield 284, 3) := by decide +kernel
theorem dX12_begin_56 : decode cX12_begin 56 = .ok (.iconst 0, 1) := by decide +kernel
theorem dX12_begin_57 : decode cX12_begin 57 = .ok (.bastore, 1) := by decide +kernel
theorem dX12_begin_58 : decode cX12_begin 58 = .ok (.aload_n 0, 1) := by decide +kernel
theorem dX12_begin_59 : decode cX12_begin 59 = .ok (.getfield 101, 3) := by decide +kernel
theorem dX12_begin_62 : decode cX12_begin 62 = .ok (.aload_n 0, 1) := by decide +kernel
theorem dX12_begin_63 : decode cX12_begin 63 = .ok (.getfield 284, 3) := by decide +kernel
theorem dX12_begin_66 : decode cX12_begin 66 = .ok (.iconst 0, 1) := by decide +kernel
theorem dX12_begin_67 : decode cX12_begin 67 = .ok (.bastore, 1) := by decide +kernel
theorem dX12_begin_68 : decode cX12_begin 68 = .ok (.aload_n 0, 1) := by decide +kernel
theorem dX12_begin_69 : decode cX12_begin 69 = .ok (.getfield 104, 3) := by decide +kernel
theorem dX12_begin_72 : decode cX12_begin 72 = .ok (.aload_n 0, 1) := by decide +kernel
theorem dX12_begin_73 : decode cX12_begin 73 = .ok (.getfield 284, 3) := by decide +kernel
theorem dX12_begin_76 : decode cX12_begin 76 = .ok (.iconst 0, 1) := by decide +kernel
theorem dX12_begin_77 : decode cX12_begin 77 = .ok (.iastore, 1) := by decide +kernel
theorem dX12_begin_78 : decode cX12_begin 78 = .ok (.aload_n 0, 1) := by decide +kernel
theorem dX12_begin_79 : decode cX12_begin 79 = .ok (.getfield 107, 3) := by decide +kernel
theorem dX12_begin_82 : decode cX12_begin 82 = .ok (.aload_n 0, 1) := by decide +kernel
theorem dX12_begin_83 : decode cX12_begin 83 = .ok (.getfield 284, 3) := by decide +kernel
theorem dX12_begin_86 : decode cX12_begin 86 = .ok (.iconst 0, 1) := by decide +kernel
theorem dX12_begin_87 : decode cX12_begin 87 = .ok (.iastore, 1) := by decide +kernel
theorem dX12_begin_88 : decode cX12_begin 88 = .ok (.aload_n 0, 1) := by decide +kernel
theorem dX12_begin_89 : decode cX12_begin 89 = .ok (.getfield 110, 3) := by decide +kernel
theorem dX12_begin_92 : decode cX12_begin 92 = .ok (.aload_n 0, 1) := by decide +kernel
theorem dX12_begin_93 : decode cX12_begin 93 = .ok (.getfield 284, 3) := by decide +kernel
theorem dX12_begin_96 : decode cX12_begin 96 = .ok (.iconst 0, 1) := by decide +kernel
theorem dX12_begin_97 : decode cX12_begin 97 = .ok (.bastore, 1) := by decide +kernel
theorem dX12_begin_98 : decode cX12_begin 98 = .ok (.aload_n 0, 1) := by decide +kernel
theorem dX12_begin_99 : decode cX12_begin 99 = .ok (.getfield 113, 3) := by decide +kernel
theorem dX12_begin_102 : decode cX12_begin 102 = .ok (.aload_n 0, 1) := by decide +kernel
theorem dX12_begin_103 : decode cX12_begin 103 = .ok (.getfield 284, 3) := by decide +kernel
theorem dX12_begin_106 : decode cX12_begin 106 = .ok (.iconst 0, 1) := by decide +kernel
theorem dX12_begin_107 : decode cX12_begin 107 = .ok (.bastore, 1) := by decide +kernel
theorem dX12_begin_108 : decode cX12_begin 108 = .ok (.aload_n 0, 1) := by decide +kernel
theorem dX12_begin_109 : decode cX12_begin 109 = .ok (.getfield 116, 3) := by decide +kernel
theorem dX12_begin_112 : decode cX12_begin 112 = .ok (.aload_n 0, 1) := by decide +kernel
theorem dX12_begin_113 : decode cX12_begin 113 = .ok (.getfield 284, 3) := by decide +kernel
theorem dX12_begin_116 : decode cX12_begin 116 = .ok (.iconst 0, 1) := by decide +kernel
theorem dX12_begin_117 : decode cX12_begin 117 = .ok (.bastore, 1) := by decide +kernel
theorem dX12_begin_118 : decode cX12_begin 118 = .ok (.aload_n 0, 1) := by decide +kernel
theorem dX12_begin_119 : decode cX12_begin 119 = .ok (.getfield 119, 3) := by decide +kernel
theorem dX12_begin_122 : decode cX12_begin 122 = .ok (.aload_n 0, 1) := by decide +kernel
theorem dX12_begin_123 : decode cX12_begin 123 = .ok (.getfield 284, 3) := by decide +kernel
theorem dX12_begin_126 : decode cX12_begin 126 = .ok (.iload 4, 2) := by decide +kernel
theorem dX12_begin_128 : decode cX12_begin 128 = .ok (.iastore, 1) := by decide +kernel
theorem dX12_begin_129 : decode cX12_begin 129 = .ok (.aload_n 0, 1) := by decide +kernel
theorem dX12_begin_130 : decode cX12_begin 130 = .ok (.getfield 62, 3) := by decide +kernel
theorem dX12_begin_133 : decode cX12_begin 133 = .ok (.bipush 16, 2) := by decide +kernel
theorem dX12_begin_135 : decode cX12_begin 135 = .ok (.iload_n 1, 1) := by decide +kernel
theorem dX12_begin_136 : decode cX12_begin 136 = .ok (.imul, 1) := by decide +kernel
theorem dX12_begin_137 : decode cX12_begin 137 = .ok (.iload_n 2, 1) := by decide +kernel
theorem dX12_begin_138 : decode cX12_begin 138 = .ok (.iadd, 1) := by decide +kernel
theorem dX12_begin_139 : decode cX12_begin 139 = .ok (.aload_n 0, 1) := by decide +kernel
theorem dX12_begin_140 : decode cX12_begin 140 = .ok (.getfield 284, 3) := by decide +kernel
theorem dX12_begin_143 : decode cX12_begin 143 = .ok (.iastore, 1) := by decide +kernel
theorem dX12_begin_144 : decode cX12_begin 144 = .ok (.aload_n 0, 1) := by decide +kernel
theorem dX12_begin_145 : decode cX12_begin 145 = .ok (.dup, 1) := by decide +kernel
theorem dX12_begin_146 : decode cX12_begin 146 = .ok (.getfield 284, 3) := by decide +kernel
theorem dX12_begin_149 : decode cX12_begin 149 = .ok (.iconst 1, 1) := by decide +kernel
theorem dX12_begin_150 : decode cX12_begin 150 = .ok (.iadd, 1) := by decide +kernel
theorem dX12_begin_151 : decode cX12_begin 151 = .ok (.putfield 284, 3) := by decide +kernel
theorem dX12_begin_154 : decode cX12_begin 154 = .ok (.return_, 1) := by decide +kernel
theorem dX12_judge_0 : decode cX12_judge 0 = .ok (.bipush 16, 2) := by decide +kernel
theorem dX12_judge_2 : decode cX12_judge 2 = .ok (.iload_n 1, 1) := by decide +kernel
theorem dX12_judge_3 : decode cX12_judge 3 = .ok (.imul, 1) := by decide +kernel
theorem dX12_judge_4 : decode cX12_judge 4 = .ok (.iload_n 2, 1) := by decide +kernel
theorem dX12_judge_5 : decode cX12_judge 5 = .ok (.iadd, 1) := by decide +kernel
theorem dX12_judge_6 : decode cX12_judge 6 = .ok (.istore 4, 2) := by decide +kernel
theorem dX12_judge_8 : decode cX12_judge 8 = .ok (.aload_n 0, 1) := by decide +kernel
theorem dX12_judge_9 : decode cX12_judge 9 = .ok (.iload_n 1, 1) := by decide +kernel
theorem dX12_judge_10 : decode cX12_judge 10 = .ok (.iload_n 2, 1) := by decide +kernel
theorem dX12_judge_11 : decode cX12_judge 11 = .ok (.iload_n 3, 1) := by decide +kernel
theorem dX12_judge_12 : decode cX12_judge 12 = .ok (.invokevirtual 339, 3) := by decide +kernel
theorem dX12_judge_15 : decode cX12_judge 15 = .ok (.istore 5, 2) := by decide +kernel
theorem dX12_judge_17 : decode cX12_judge 17 = .ok (.aload_n 0, 1) := by decide +kernel
theorem dX12_judge_18 : decode cX12_judge 18 = .ok (.getfield 49, 3) := by decide +kernel
theorem dX12_judge_21 : decode cX12_judge 21 = .ok (.sipush 401, 3) := by decide +kernel
theorem dX12_judge_24 : decode cX12_judge 24 = .ok (.iload 4, 2) := by decide +kernel
theorem dX12_judge_26 : decode cX12_judge 26 = .ok (.imul, 1) := by decide +kernel
theorem dX12_judge_27 : decode cX12_judge 27 = .ok (.iload_n 3, 1) := by decide +kernel
theorem dX12_judge_28 : decode cX12_judge 28 = .ok (.iadd, 1) := by decide +kernel
theorem dX12_judge_29 : decode cX12_judge 29 = .ok (.iload 5, 2) := by decide +kernel
theorem dX12_judge_31 : decode cX12_judge 31 = .ok (.iconst 1, 1) := by decide +kernel
theorem dX12_judge_32 : decode cX12_judge 32 = .ok (.iadd, 1) := by decide +kernel
theorem dX12_judge_33 : decode cX12_judge 33 = .ok (.i2b, 1) := by decide +kernel
theorem dX12_judge_34 : decode cX12_judge 34 = .ok (.bastore, 1) := by decide +kernel
theorem dX12_judge_35 : decode cX12_judge 35 = .ok (.aload_n 0, 1) := by decide +kernel
theorem dX12_judge_36 : decode cX12_judge 36 = .ok (.getfield 53, 3) := by decide +kernel
theorem dX12_judge_39 : decode cX12_judge 39 = .ok (.iload 4, 2) := by decide +kernel
theorem dX12_judge_41 : decode cX12_judge 41 = .ok (.iload 5, 2) := by decide +kernel
theorem dX12_judge_43 : decode cX12_judge 43 = .ok (.ifCond .ge 13, 3) := by decide +kernel
theorem dX12_judge_46 : decode cX12_judge 46 = .ok (.aload_n 0, 1) := by decide +kernel
theorem dX12_judge_47 : decode cX12_judge 47 = .ok (.getfield 53, 3) := by decide +kernel
theorem dX12_judge_50 : decode cX12_judge 50 = .ok (.iload 4, 2) := by decide +kernel
theorem dX12_judge_52 : decode cX12_judge 52 = .ok (.iaload, 1) := by decide +kernel
theorem dX12_judge_53 : decode cX12_judge 53 = .ok (.goto 5, 3) := by decide +kernel
theorem dX12_judge_56 : decode cX12_judge 56 = .ok (.iload 5, 2) := by decide +kernel
theorem dX12_judge_58 : decode cX12_judge 58 = .ok (.iastore, 1) := by decide +kernel
theorem dX12_judge_59 : decode cX12_judge 59 = .ok (.iload 5, 2) := by decide +kernel
theorem dX12_judge_61 : decode cX12_judge 61 = .ok (.iconst 1, 1) := by decide +kernel
theorem dX12_judge_62 : decode cX12_judge 62 = .ok (.if_icmp .ne 25, 3) := by decide +kernel
theorem dX12_judge_65 : decode cX12_judge 65 = .ok (.aload_n 0, 1) := by decide +kernel
theorem dX12_judge_66 : decode cX12_judge 66 = .ok (.getfield 56, 3) := by decide +kernel
theorem dX12_judge_69 : decode cX12_judge 69 = .ok (.iload 4, 2) := by decide +kernel
theorem dX12_judge_71 : decode cX12_judge 71 = .ok (.dup2, 1) := by decide +kernel
theorem dX12_judge_72 : decode cX12_judge 72 = .ok (.iaload, 1) := by decide +kernel
theorem dX12_judge_73 : decode cX12_judge 73 = .ok (.iconst 1, 1) := by decide +kernel
theorem dX12_judge_74 : decode cX12_judge 74 = .ok (.iadd, 1) := by decide +kernel
theorem dX12_judge_75 : decode cX12_judge 75 = .ok (.iastore, 1) := by decide +kernel
theorem dX12_judge_76 : decode cX12_judge 76 = .ok (.aload_n 0, 1) := by decide +kernel
theorem dX12_judge_77 : decode cX12_judge 77 = .ok (.getfield 59, 3) := by decide +kernel
theorem dX12_judge_80 : decode cX12_judge 80 = .ok (.iload 4, 2) := by decide +kernel
theorem dX12_judge_82 : decode cX12_judge 82 = .ok (.iconst 0, 1) := by decide +kernel
theorem dX12_judge_83 : decode cX12_judge 83 = .ok (.iastore, 1) := by decide +kernel
theorem dX12_judge_84 : decode cX12_judge 84 = .ok (.goto 27, 3) := by decide +kernel
theorem dX12_judge_87 : decode cX12_judge 87 = .ok (.iload 5, 2) := by decide +kernel
theorem dX12_judge_89 : decode cX12_judge 89 = .ok (.ifCond .ne 22, 3) := by decide +kernel
theorem dX12_judge_92 : decode cX12_judge 92 = .ok (.aload_n 0, 1) := by decide +kernel
theorem dX12_judge_93 : decode cX12_judge 93 = .ok (.getfield 59, 3) := by decide +kernel
theorem dX12_judge_96 : decode cX12_judge 96 = .ok (.iload 4, 2) := by decide +kernel
theorem dX12_judge_98 : decode cX12_judge 98 = .ok (.dup2, 1) := by decide +kernel
theorem dX12_judge_99 : decode cX12_judge 99 = .ok (.iaload, 1) := by decide +kernel
theorem dX12_judge_100 : decode cX12_judge 100 = .ok (.iconst 1, 1) := by decide +kernel
theorem dX12_judge_101 : decode cX12_judge 101 = .ok (.iadd, 1) := by decide +kernel
theorem dX12_judge_102 : decode cX12_judge 102 = .ok (.iastore, 1) := by decide +kernel
theorem dX12_judge_103 : decode cX12_judge 103 = .ok (.aload_n 0, 1) := by decide +kernel
theorem dX12_judge_104 : decode cX12_judge 104 = .ok (.getfield 56, 3) := by decide +kernel
theorem dX12_judge_107 : decode cX12_judge 107 = .ok (.iload 4, 2) := by decide +kernel
theorem dX12_judge_109 : decode cX12_judge 109 = .ok (.iconst 0, 1) := by decide +kernel
theorem dX12_judge_110 : decode cX12_judge 110 = .ok (.iastore, 1) := by decide +kernel
theorem dX12_judge_111 : decode cX12_judge 111 = .ok (.aload_n 0, 1) := by decide +kernel
theorem dX12_judge_112 : decode cX12_judge 112 = .ok (.getfield 62, 3) := by decide +kernel
theorem dX12_judge_115 : decode cX12_judge 115 = .ok (.iload 4, 2) := by decide +kernel
theorem dX12_judge_117 : decode cX12_judge 117 = .ok (.iaload, 1) := by decide +kernel
theorem dX12_judge_118 : decode cX12_judge 118 = .ok (.ifCond .ge 39, 3) := by decide +kernel
theorem dX12_judge_121 : decode cX12_judge 121 = .ok (.aload_n 0, 1) := by decide +kernel
theorem dX12_judge_122 : decode cX12_judge 122 = .ok (.getfield 56, 3) := by decide +kernel
theorem dX12_judge_125 : decode cX12_judge 125 = .ok (.iload 4, 2) := by decide +kernel
theorem dX12_judge_127 : decode cX12_judge 127 = .ok (.iaload, 1) := by decide +kernel
theorem dX12_judge_128 : decode cX12_judge 128 = .ok (.aload_n 0, 1) := by decide +kernel
theorem dX12_judge_129 : decode cX12_judge 129 = .ok (.getfield 33, 3) := by decide +kernel
theorem dX12_judge_132 : decode cX12_judge 132 = .ok (.iload_n 1, 1) := by decide +kernel
theorem dX12_judge_133 : decode cX12_judge 133 = .ok (.iaload, 1) := by decide +kernel
theorem dX12_judge_134 : decode cX12_judge 134 = .ok (.if_icmp .lt 60, 3) := by decide +kernel
theorem dX12_judge_137 : decode cX12_judge 137 = .ok (.aload_n 0, 1) := by decide +kernel
theorem dX12_judge_138 : decode cX12_judge 138 = .ok (.getfield 284, 3) := by decide +kernel
theorem dX12_judge_141 : decode cX12_judge 141 = .ok (.sipush 300, 3) := by decide +kernel
theorem dX12_judge_144 : decode cX12_judge 144 = .ok (.if_icmp .ge 50, 3) := by decide +kernel
theorem dX12_judge_147 : decode cX12_judge 147 = .ok (.aload_n 0, 1) := by decide +kernel
theorem dX12_judge_148 : decode cX12_judge 148 = .ok (.iload_n 1, 1) := by decide +kernel
theorem dX12_judge_149 : decode cX12_judge 149 = .ok (.iload_n 2, 1) := by decide +kernel
theorem dX12_judge_150 : decode cX12_judge 150 = .ok (.iload_n 3, 1) := by decide +kernel
theorem dX12_judge_151 : decode cX12_judge 151 = .ok (.invokevirtual 342, 3) := by decide +kernel
theorem dX12_judge_154 : decode cX12_judge 154 = .ok (.goto 40, 3) := by decide +kernel
theorem dX12_judge_157 : decode cX12_judge 157 = .ok (.aload_n 0, 1) := by decide +kernel
theorem dX12_judge_158 : decode cX12_judge 158 = .ok (.getfield 59, 3) := by decide +kernel
theorem dX12_judge_161 : decode cX12_judge 161 = .ok (.iload 4, 2) := by decide +kernel
theorem dX12_judge_163 : decode cX12_judge 163 = .ok (.iaload, 1) := by decide +kernel
theorem dX12_judge_164 : decode cX12_judge 164 = .ok (.aload_n 0, 1) := by decide +kernel
theorem dX12_judge_165 : decode cX12_judge 165 = .ok (.getfield 36, 3) := by decide +kernel
theorem dX12_judge_168 : decode cX12_judge 168 = .ok (.iload_n 1, 1) := by decide +kernel
theorem dX12_judge_169 : decode cX12_judge 169 = .ok (.iaload, 1) := by decide +kernel
theorem dX12_judge_170 : decode cX12_judge 170 = .ok (.if_icmp .lt 24, 3) := by decide +kernel
theorem dX12_judge_173 : decode cX12_judge 173 = .ok (.aload_n 0, 1) := by decide +kernel
theorem dX12_judge_174 : decode cX12_judge 174 = .ok (.getfield 95, 3) := by decide +kernel
theorem dX12_judge_177 : decode cX12_judge 177 = .ok (.aload_n 0, 1) := by decide +kernel
theorem dX12_judge_178 : decode cX12_judge 178 = .ok (.getfield 62, 3) := by decide +kernel
theorem dX12_judge_181 : decode cX12_judge 181 = .ok (.iload 4, 2) := by decide +kernel
theorem dX12_judge_183 : decode cX12_judge 183 = .ok (.iaload, 1) := by decide +kernel
theorem dX12_judge_184 : decode cX12_judge 184 = .ok (.iload_n 3, 1) := by decide +kernel
theorem dX12_judge_185 : decode cX12_judge 185 = .ok (.iastore, 1) := by decide +kernel
theorem dX12_judge_186 : decode cX12_judge 186 = .ok (.aload_n 0, 1) := by decide +kernel
theorem dX12_judge_187 : decode cX12_judge 187 = .ok (.getfield 62, 3) := by decide +kernel
theorem dX12_judge_190 : decode cX12_judge 190 = .ok (.iload 4, 2) := by decide +kernel
theorem dX12_judge_192 : decode cX12_judge 192 = .ok (.iconst (-1), 1) := by decide +kernel
theorem dX12_judge_193 : decode cX12_judge 193 = .ok (.iastore, 1) := by decide +kernel
theorem dX12_judge_194 : decode cX12_judge 194 = .ok (.return_, 1) := by decide +kernel
theorem dX12_held_0 : decode cX12_held 0 = .ok (.iconst 0, 1) := by decide +kernel
theorem dX12_held_1 : decode cX12_held 1 = .ok (.istore_n 2, 1) := by decide +kernel
theorem dX12_held_2 : decode cX12_held 2 = .ok (.iload_n 2, 1) := by decide +kernel
theorem dX12_held_3 : decode cX12_held 3 = .ok (.aload_n 0, 1) := by decide +kernel
theorem dX12_held_4 : decode cX12_held 4 = .ok (.getfield 265, 3) := by decide +kernel
theorem dX12_held_7 : decode cX12_held 7 = .ok (.if_icmp .ge 140, 3) := by decide +kernel
theorem dX12_held_10 : decode cX12_held 10 = .ok (.iconst 0, 1) := by decide +kernel
theorem dX12_held_11 : decode cX12_held 11 = .ok (.istore_n 3, 1) := by decide +kernel
theorem dX12_held_12 : decode cX12_held 12 = .ok (.iload_n 3, 1) := by decide +kernel
theorem dX12_held_13 : decode cX12_held 13 = .ok (.aload_n 0, 1) := by decide +kernel
theorem dX12_held_14 : decode cX12_held 14 = .ok (.getfield 284, 3) := by decide +kernel
theorem dX12_held_17 : decode cX12_held 17 = .ok (.if_icmp .ge 124, 3) := by decide +kernel
theorem dX12_held_20 : decode cX12_held 20 = .ok (.aload_n 0, 1) := by decide +kernel
theorem dX12_held_21 : decode cX12_held 21 = .ok (.getfield 65, 3) := by decide +kernel
theorem dX12_held_24 : decode cX12_held 24 = .ok (.iload_n 2, 1) := by decide +kernel
theorem dX12_held_25 : decode cX12_held 25 = .ok (.iaload, 1) := by decide +kernel
theorem dX12_held_26 : decode cX12_held 26 = .ok (.aload_n 0, 1) := by decide +kernel
theorem dX12_held_27 : decode cX12_held 27 = .ok (.getfield 86, 3) := by decide +kernel
theorem dX12_held_30 : decode cX12_held 30 = .ok (.iload_n 1, 1) := by decide +kernel
theorem dX12_held_31 : decode cX12_held 31 = .ok (.iaload, 1) := by decide +kernel
theorem dX12_held_32 : decode cX12_held 32 = .ok (.if_icmp .ne 109, 3) := by decide +kernel
theorem dX12_held_35 : decode cX12_held 35 = .ok (.aload_n 0, 1) := by decide +kernel
theorem dX12_held_36 : decode cX12_held 36 = .ok (.getfield 71, 3) := by decide +kernel
theorem dX12_held_39 : decode cX12_held 39 = .ok (.iload_n 2, 1) := by decide +kernel
theorem dX12_held_40 : decode cX12_held 40 = .ok (.iaload, 1) := by decide +kernel
theorem dX12_held_41 : decode cX12_held 41 = .ok (.ifCond .eq 56, 3) := by decide +kernel
theorem dX12_held_44 : decode cX12_held 44 = .ok (.aload_n 0, 1) := by decide +kernel
theorem dX12_held_45 : decode cX12_held 45 = .ok (.getfield 71, 3) := by decide +kernel
theorem dX12_held_48 : decode cX12_held 48 = .ok (.iload_n 2, 1) := by decide +kernel
theorem dX12_held_49 : decode cX12_held 49 = .ok (.iaload, 1) := by decide +kernel
theorem dX12_held_50 : decode cX12_held 50 = .ok (.iconst 1, 1) := by decide +kernel
theorem dX12_held_51 : decode cX12_held 51 = .ok (.if_icmp .ne 31, 3) := by decide +kernel
theorem dX12_held_54 : decode cX12_held 54 = .ok (.aload_n 0, 1) := by decide +kernel
theorem dX12_held_55 : decode cX12_held 55 = .ok (.getfield 7, 3) := by decide +kernel
theorem dX12_held_58 : decode cX12_held 58 = .ok (.aload_n 0, 1) := by decide +kernel
theorem dX12_held_59 : decode cX12_held 59 = .ok (.getfield 89, 3) := by decide +kernel
theorem dX12_held_62 : decode cX12_held 62 = .ok (.iload_n 3, 1) := by decide +kernel
theorem dX12_held_63 : decode cX12_held 63 = .ok (.iaload, 1) := by decide +kernel
theorem dX12_held_64 : decode cX12_held 64 = .ok (.iaload, 1) := by decide +kernel
theorem dX12_held_65 : decode cX12_held 65 = .ok (.aload_n 0, 1) := by decide +kernel
theorem dX12_held_66 : decode cX12_held 66 = .ok (.getfield 7, 3) := by decide +kernel
theorem dX12_held_69 : decode cX12_held 69 = .ok (.aload_n 0, 1) := by decide +kernel
theorem dX12_held_70 : decode cX12_held 70 = .ok (.getfield 89, 3) := by decide +kernel
theorem dX12_held_73 : decode cX12_held 73 = .ok (.iload_n 1, 1) := by decide +kernel
theorem dX12_held_74 : decode cX12_held 74 = .ok (.iaload, 1) := by decide +kernel
theorem dX12_held_75 : decode cX12_held 75 = .ok (.iaload, 1) := by decide +kernel
theorem dX12_held_76 : decode cX12_held 76 = .ok (.if_icmp .ne 25, 3) := by decide +kernel
theorem dX12_held_79 : decode cX12_held 79 = .ok (.goto 18, 3) := by decide +kernel
theorem dX12_held_82 : decode cX12_held 82 = .ok (.aload_n 0, 1) := by decide +kernel
theorem dX12_held_83 : decode cX12_held 83 = .ok (.getfield 89, 3) := by decide +kernel
theorem dX12_held_86 : decode cX12_held 86 = .ok (.iload_n 3, 1) := by decide +kernel
theorem dX12_held_87 : decode cX12_held 87 = .ok (.iaload, 1) := by decide +kernel
theorem dX12_held_88 : decode cX12_held 88 = .ok (.aload_n 0, 1) := by decide +kernel
theorem dX12_held_89 : decode cX12_held 89 = .ok (.getfield 89, 3) := by decide +kernel
theorem dX12_held_92 : decode cX12_held 92 = .ok (.iload_n 1, 1) := by decide +kernel
theorem dX12_held_93 : decode cX12_held 93 = .ok (.iaload, 1) := by decide +kernel
theorem dX12_held_94 : decode cX12_held 94 = .ok (.if_icmp .ne 7, 3) := by decide +kernel
theorem dX12_held_97 : decode cX12_held 97 = .ok (.iconst 1, 1) := by decide +kernel
theorem dX12_held_98 : decode cX12_held 98 = .ok (.goto 4, 3) := by decide +kernel
theorem dX12_held_101 : decode cX12_held 101 = .ok (.iconst 0, 1) := by decide +kernel
theorem dX12_held_102 : decode cX12_held 102 = .ok (.istore 4, 2) := by decide +kernel
theorem dX12_held_104 : decode cX12_held 104 = .ok (.aload_n 0, 1) := by decide +kernel
theorem dX12_held_105 : decode cX12_held 105 = .ok (.getfield 95, 3) := by decide +kernel
theorem dX12_held_108 : decode cX12_held 108 = .ok (.iload_n 3, 1) := by decide +kernel
theorem dX12_held_109 : decode cX12_held 109 = .ok (.iaload, 1) := by decide +kernel
theorem dX12_held_110 : decode cX12_held 110 = .ok (.ifCond .ne 25, 3) := by decide +kernel
theorem dX12_held_113 : decode cX12_held 113 = .ok (.aload_n 0, 1) := by decide +kernel
theorem dX12_held_114 : decode cX12_held 114 = .ok (.getfield 86, 3) := by decide +kernel
theorem dX12_held_117 : decode cX12_held 117 = .ok (.iload_n 3, 1) := by decide +kernel
theorem dX12_held_118 : decode cX12_held 118 = .ok (.iaload, 1) := by decide +kernel
theorem dX12_held_119 : decode cX12_held 119 = .ok (.aload_n 0, 1) := by decide +kernel
theorem dX12_held_120 : decode cX12_held 120 = .ok (.getfield 68, 3) := by decide +kernel
theorem dX12_held_123 : decode cX12_held 123 = .ok (.iload_n 2, 1) := by decide +kernel
theorem dX12_held_124 : decode cX12_held 124 = .ok (.iaload, 1) := by decide +kernel
theorem dX12_held_125 : decode cX12_held 125 = .ok (.if_icmp .ne 10, 3) := by decide +kernel
theorem dX12_held_128 : decode cX12_held 128 = .ok (.iload 4, 2) := by decide +kernel
theorem dX12_held_130 : decode cX12_held 130 = .ok (.ifCond .eq 5, 3) := by decide +kernel
theorem dX12_held_133 : decode cX12_held 133 = .ok (.iconst 1, 1) := by decide +kernel
theorem dX12_held_134 : decode cX12_held 134 = .ok (.ireturn, 1) := by decide +kernel
theorem dX12_held_135 : decode cX12_held 135 = .ok (.iinc 3 1, 3) := by decide +kernel
theorem dX12_held_138 : decode cX12_held 138 = .ok (.goto (-126), 3) := by decide +kernel
theorem dX12_held_141 : decode cX12_held 141 = .ok (.iinc 2 1, 3) := by decide +kernel
theorem dX12_held_144 : decode cX12_held 144 = .ok (.goto (-142), 3) := by decide +kernel
theorem dX12_held_147 : decode cX12_held 147 = .ok (.iconst 0, 1) := by decide +kernel
theorem dX12_held_148 : decode cX12_held 148 = .ok (.ireturn, 1) := by decide +kernel
theorem dX12_silenced_0 : decode cX12_silenced 0 = .ok (.iconst 0, 1) := by decide +kernel
theorem dX12_silenced_1 : decode cX12_silenced 1 = .ok (.istore_n 3, 1) := by decide +kernel
theorem dX12_silenced_2 : decode cX12_silenced 2 = .ok (.iconst 0, 1) := by decide +kernel
theorem dX12_silenced_3 : decode cX12_silenced 3 = .ok (.istore 4, 2) := by decide +kernel
theorem dX12_silenced_5 : decode cX12_silenced 5 = .ok (.iload 4, 2) := by decide +kernel
theorem dX12_silenced_7 : decode cX12_silenced 7 = .ok (.aload_n 0, 1) := by decide +kernel
theorem dX12_silenced_8 : decode cX12_silenced 8 = .ok (.getfield 279, 3) := by decide +kernel
theorem dX12_silenced_11 : decode cX12_silenced 11 = .ok (.if_icmp .ge 100, 3) := by decide +kernel
theorem dX12_silenced_14 : decode cX12_silenced 14 = .ok (.iload_n 3, 1) := by decide +kernel
theorem dX12_silenced_15 : decode cX12_silenced 15 = .ok (.ifCond .ne 84, 3) := by decide +kernel
theorem dX12_silenced_18 : decode cX12_silenced 18 = .ok (.aload_n 0, 1) := by decide +kernel
theorem dX12_silenced_19 : decode cX12_silenced 19 = .ok (.getfield 74, 3) := by decide +kernel
theorem dX12_silenced_22 : decode cX12_silenced 22 = .ok (.iload 4, 2) := by decide +kernel
theorem dX12_silenced_24 : decode cX12_silenced 24 = .ok (.iaload, 1) := by decide +kernel
theorem dX12_silenced_25 : decode cX12_silenced 25 = .ok (.ifCond .lt 24, 3) := by decide +kernel
theorem dX12_silenced_28 : decode cX12_silenced 28 = .ok (.aload_n 0, 1) := by decide +kernel
theorem dX12_silenced_29 : decode cX12_silenced 29 = .ok (.getfield 74, 3) := by decide +kernel
theorem dX12_silenced_32 : decode cX12_silenced 32 = .ok (.iload 4, 2) := by decide +kernel
theorem dX12_silenced_34 : decode cX12_silenced 34 = .ok (.iaload, 1) := by decide +kernel
theorem dX12_silenced_35 : decode cX12_silenced 35 = .ok (.aload_n 0, 1) := by decide +kernel
theorem dX12_silenced_36 : decode cX12_silenced 36 = .ok (.getfield 7, 3) := by decide +kernel
theorem dX12_silenced_39 : decode cX12_silenced 39 = .ok (.aload_n 0, 1) := by decide +kernel
theorem dX12_silenced_40 : decode cX12_silenced 40 = .ok (.getfield 89, 3) := by decide +kernel
theorem dX12_silenced_43 : decode cX12_silenced 43 = .ok (.iload_n 1, 1) := by decide +kernel
theorem dX12_silenced_44 : decode cX12_silenced 44 = .ok (.iaload, 1) := by decide +kernel
theorem dX12_silenced_45 : decode cX12_silenced 45 = .ok (.iaload, 1) := by decide +kernel
theorem dX12_silenced_46 : decode cX12_silenced 46 = .ok (.if_icmp .ne 57, 3) := by decide +kernel
theorem dX12_silenced_49 : decode cX12_silenced 49 = .ok (.aload_n 0, 1) := by decide +kernel
theorem dX12_silenced_50 : decode cX12_silenced 50 = .ok (.getfield 77, 3) := by decide +kernel
theorem dX12_silenced_53 : decode cX12_silenced 53 = .ok (.iload 4, 2) := by decide +kernel
theorem dX12_silenced_55 : decode cX12_silenced 55 = .ok (.iaload, 1) := by decide +kernel
theorem dX12_silenced_56 : decode cX12_silenced 56 = .ok (.ifCond .lt 19, 3) := by decide +kernel
theorem dX12_silenced_59 : decode cX12_silenced 59 = .ok (.aload_n 0, 1) := by decide +kernel
theorem dX12_silenced_60 : decode cX12_silenced 60 = .ok (.getfield 77, 3) := by decide +kernel
theorem dX12_silenced_63 : decode cX12_silenced 63 = .ok (.iload 4, 2) := by decide +kernel
theorem dX12_silenced_65 : decode cX12_silenced 65 = .ok (.iaload, 1) := by decide +kernel
theorem dX12_silenced_66 : decode cX12_silenced 66 = .ok (.aload_n 0, 1) := by decide +kernel
theorem dX12_silenced_67 : decode cX12_silenced 67 = .ok (.getfield 86, 3) := by decide +kernel
theorem dX12_silenced_70 : decode cX12_silenced 70 = .ok (.iload_n 1, 1) := by decide +kernel
theorem dX12_silenced_71 : decode cX12_silenced 71 = .ok (.iaload, 1) := by decide +kernel
theorem dX12_silenced_72 : decode cX12_silenced 72 = .ok (.if_icmp .ne 31, 3) := by decide +kernel
theorem dX12_silenced_75 : decode cX12_silenced 75 = .ok (.iload_n 2, 1) := by decide +kernel
theorem dX12_silenced_76 : decode cX12_silenced 76 = .ok (.i2l, 1) := by decide +kernel
theorem dX12_silenced_77 : decode cX12_silenced 77 = .ok (.aload_n 0, 1) := by decide +kernel
theorem dX12_silenced_78 : decode cX12_silenced 78 = .ok (.getfield 80, 3) := by decide +kernel
theorem dX12_silenced_81 : decode cX12_silenced 81 = .ok (.iload 4, 2) := by decide +kernel
theorem dX12_silenced_83 : decode cX12_silenced 83 = .ok (.iaload, 1) := by decide +kernel
theorem dX12_silenced_84 : decode cX12_silenced 84 = .ok (.i2l, 1) := by decide +kernel
theorem dX12_silenced_85 : decode cX12_silenced 85 = .ok (.aload_n 0, 1) := by decide +kernel
theorem dX12_silenced_86 : decode cX12_silenced 86 = .ok (.getfield 83, 3) := by decide +kernel
theorem dX12_silenced_89 : decode cX12_silenced 89 = .ok (.iload 4, 2) := by decide +kernel
theorem dX12_silenced_91 : decode cX12_silenced 91 = .ok (.iaload, 1) := by decide +kernel
theorem dX12_silenced_92 : decode cX12_silenced 92 = .ok (.i2l, 1) := by decide +kernel
theorem dX12_silenced_93 : decode cX12_silenced 93 = .ok (.invokestatic 242, 3) := by decide +kernel
theorem dX12_silenced_96 : decode cX12_silenced 96 = .ok (.ifCond .eq 7, 3) := by decide +kernel
theorem dX12_silenced_99 : decode cX12_silenced 99 = .ok (.iconst 1, 1) := by decide +kernel
theorem dX12_silenced_100 : decode cX12_silenced 100 = .ok (.goto 4, 3) := by decide +kernel
theorem dX12_silenced_103 : decode cX12_silenced 103 = .ok (.iconst 0, 1) := by decide +kernel
theorem dX12_silenced_104 : decode cX12_silenced 104 = .ok (.istore_n 3, 1) := by decide +kernel
theorem dX12_silenced_105 : decode cX12_silenced 105 = .ok (.iinc 4 1, 3) := by decide +kernel
theorem dX12_silenced_108 : decode cX12_silenced 108 = .ok (.goto (-103), 3) := by decide +kernel
theorem dX12_silenced_111 : decode cX12_silenced 111 = .ok (.iload_n 3, 1) := by decide +kernel
theorem dX12_silenced_112 : decode cX12_silenced 112 = .ok (.ireturn, 1) := by decide +kernel
theorem dX12_clearAll_0 : decode cX12_clearAll 0 = .ok (.iconst 0, 1) := by decide +kernel
theorem dX12_clearAll_1 : decode cX12_clearAll 1 = .ok (.istore_n 2, 1) := by decide +kernel
theorem dX12_clearAll_2 : decode cX12_clearAll 2 = .ok (.iload_n 2, 1) := by decide +kernel
theorem dX12_clearAll_3 : decode cX12_clearAll 3 = .ok (.aload_n 0, 1) := by decide +kernel
theorem dX12_clearAll_4 : decode cX12_clearAll 4 = .ok (.getfield 284, 3) := by decide +kernel
theorem dX12_clearAll_7 : decode cX12_clearAll 7 = .ok (.if_icmp .ge 133, 3) := by decide +kernel
theorem dX12_clearAll_10 : decode cX12_clearAll 10 = .ok (.aload_n 0, 1) := by decide +kernel
theorem dX12_clearAll_11 : decode cX12_clearAll 11 = .ok (.getfield 95, 3) := by decide +kernel
theorem dX12_clearAll_14 : decode cX12_clearAll 14 = .ok (.iload_n 2, 1) := by decide +kernel
theorem dX12_clearAll_15 : decode cX12_clearAll 15 = .ok (.iaload, 1) := by decide +kernel
theorem dX12_clearAll_16 : decode cX12_clearAll 16 = .ok (.ifCond .ne 7, 3) := by decide +kernel
theorem dX12_clearAll_19 : decode cX12_clearAll 19 = .ok (.iconst 1, 1) := by decide +kernel
theorem dX12_clearAll_20 : decode cX12_clearAll 20 = .ok (.goto 4, 3) := by decide +kernel
theorem dX12_clearAll_23 : decode cX12_clearAll 23 = .ok (.iconst 0, 1) := by decide +kernel
theorem dX12_clearAll_24 : decode cX12_clearAll 24 = .ok (.istore_n 3, 1) := by decide +kernel
theorem dX12_clearAll_25 : decode cX12_clearAll 25 = .ok (.aload_n 0, 1) := by decide +kernel
theorem dX12_clearAll_26 : decode cX12_clearAll 26 = .ok (.getfield 98, 3) := by decide +kernel
theorem dX12_clearAll_29 : decode cX12_clearAll 29 = .ok (.iload_n 2, 1) := by decide +kernel
theorem dX12_clearAll_30 : decode cX12_clearAll 30 = .ok (.iload_n 3, 1) := by decide +kernel
theorem dX12_clearAll_31 : decode cX12_clearAll 31 = .ok (.ifCond .eq 15, 3) := by decide +kernel
theorem dX12_clearAll_34 : decode cX12_clearAll 34 = .ok (.aload_n 0, 1) := by decide +kernel
theorem dX12_clearAll_35 : decode cX12_clearAll 35 = .ok (.iload_n 2, 1) := by decide +kernel
theorem dX12_clearAll_36 : decode cX12_clearAll 36 = .ok (.invokevirtual 346, 3) := by decide +kernel
theorem dX12_clearAll_39 : decode cX12_clearAll 39 = .ok (.ifCond .eq 7, 3) := by decide +kernel
theorem dX12_clearAll_42 : decode cX12_clearAll 42 = .ok (.iconst 1, 1) := by decide +kernel
theorem dX12_clearAll_43 : decode cX12_clearAll 43 = .ok (.goto 4, 3) := by decide +kernel
theorem dX12_clearAll_46 : decode cX12_clearAll 46 = .ok (.iconst 0, 1) := by decide +kernel
theorem dX12_clearAll_47 : decode cX12_clearAll 47 = .ok (.bastore, 1) := by decide +kernel
theorem dX12_clearAll_48 : decode cX12_clearAll 48 = .ok (.aload_n 0, 1) := by decide +kernel
theorem dX12_clearAll_49 : decode cX12_clearAll 49 = .ok (.getfield 101, 3) := by decide +kernel
theorem dX12_clearAll_52 : decode cX12_clearAll 52 = .ok (.iload_n 2, 1) := by decide +kernel
theorem dX12_clearAll_53 : decode cX12_clearAll 53 = .ok (.iload_n 3, 1) := by decide +kernel
theorem dX12_clearAll_54 : decode cX12_clearAll 54 = .ok (.ifCond .eq 16, 3) := by decide +kernel
theorem dX12_clearAll_57 : decode cX12_clearAll 57 = .ok (.aload_n 0, 1) := by decide +kernel
theorem dX12_clearAll_58 : decode cX12_clearAll 58 = .ok (.iload_n 2, 1) := by decide +kernel
theorem dX12_clearAll_59 : decode cX12_clearAll 59 = .ok (.iload_n 1, 1) := by decide +kernel
theorem dX12_clearAll_60 : decode cX12_clearAll 60 = .ok (.invokevirtual 349, 3) := by decide +kernel
theorem dX12_clearAll_63 : decode cX12_clearAll 63 = .ok (.ifCond .eq 7, 3) := by decide +kernel
theorem dX12_clearAll_66 : decode cX12_clearAll 66 = .ok (.iconst 1, 1) := by decide +kernel
theorem dX12_clearAll_67 : decode cX12_clearAll 67 = .ok (.goto 4, 3) := by decide +kernel
theorem dX12_clearAll_70 : decode cX12_clearAll 70 = .ok (.iconst 0, 1) := by decide +kernel
theorem dX12_clearAll_71 : decode cX12_clearAll 71 = .ok (.bastore, 1) := by decide +kernel
theorem dX12_clearAll_72 : decode cX12_clearAll 72 = .ok (.iload_n 3, 1) := by decide +kernel
theorem dX12_clearAll_73 : decode cX12_clearAll 73 = .ok (.ifCond .eq 21, 3) := by decide +kernel
theorem dX12_clearAll_76 : decode cX12_clearAll 76 = .ok (.aload_n 0, 1) := by decide +kernel
theorem dX12_clearAll_77 : decode cX12_clearAll 77 = .ok (.getfield 98, 3) := by decide +kernel
theorem dX12_clearAll_80 : decode cX12_clearAll 80 = .ok (.iload_n 2, 1) := by decide +kernel
theorem dX12_clearAll_81 : decode cX12_clearAll 81 = .ok (.baload, 1) := by decide +kernel
theorem dX12_clearAll_82 : decode cX12_clearAll 82 = .ok (.ifCond .ne 12, 3) := by decide +kernel
theorem dX12_clearAll_85 : decode cX12_clearAll 85 = .ok (.aload_n 0, 1) := by decide +kernel
theorem dX12_clearAll_86 : decode cX12_clearAll 86 = .ok (.getfield 101, 3) := by decide +kernel
theorem dX12_clearAll_89 : decode cX12_clearAll 89 = .ok (.iload_n 2, 1) := by decide +kernel
theorem dX12_clearAll_90 : decode cX12_clearAll 90 = .ok (.baload, 1) := by decide +kernel
theorem dX12_clearAll_91 : decode cX12_clearAll 91 = .ok (.ifCond .eq 20, 3) := by decide +kernel
theorem dX12_clearAll_94 : decode cX12_clearAll 94 = .ok (.aload_n 0, 1) := by decide +kernel
theorem dX12_clearAll_95 : decode cX12_clearAll 95 = .ok (.getfield 104, 3) := by decide +kernel
theorem dX12_clearAll_98 : decode cX12_clearAll 98 = .ok (.iload_n 2, 1) := by decide +kernel
theorem dX12_clearAll_99 : decode cX12_clearAll 99 = .ok (.iconst 0, 1) := by decide +kernel
theorem dX12_clearAll_100 : decode cX12_clearAll 100 = .ok (.iastore, 1) := by decide +kernel
theorem dX12_clearAll_101 : decode cX12_clearAll 101 = .ok (.aload_n 0, 1) := by decide +kernel
theorem dX12_clearAll_102 : decode cX12_clearAll 102 = .ok (.getfield 110, 3) := by decide +kernel
theorem dX12_clearAll_105 : decode cX12_clearAll 105 = .ok (.iload_n 2, 1) := by decide +kernel
theorem dX12_clearAll_106 : decode cX12_clearAll 106 = .ok (.iconst 0, 1) := by decide +kernel
theorem dX12_clearAll_107 : decode cX12_clearAll 107 = .ok (.bastore, 1) := by decide +kernel
theorem dX12_clearAll_108 : decode cX12_clearAll 108 = .ok (.goto 26, 3) := by decide +kernel
theorem dX12_clearAll_111 : decode cX12_clearAll 111 = .ok (.aload_n 0, 1) := by decide +kernel
theorem dX12_clearAll_112 : decode cX12_clearAll 112 = .ok (.getfield 104, 3) := by decide +kernel
theorem dX12_clearAll_115 : decode cX12_clearAll 115 = .ok (.iload_n 2, 1) := by decide +kernel
theorem dX12_clearAll_116 : decode cX12_clearAll 116 = .ok (.iaload, 1) := by decide +kernel
theorem dX12_clearAll_117 : decode cX12_clearAll 117 = .ok (.ifCond .ne 17, 3) := by decide +kernel
theorem dX12_clearAll_120 : decode cX12_clearAll 120 = .ok (.aload_n 0, 1) := by decide +kernel
theorem dX12_clearAll_121 : decode cX12_clearAll 121 = .ok (.getfield 104, 3) := by decide +kernel
theorem dX12_clearAll_124 : decode cX12_clearAll 124 = .ok (.iload_n 2, 1) := by decide +kernel
theorem dX12_clearAll_125 : decode cX12_clearAll 125 = .ok (.iload_n 1, 1) := by decide +kernel
theorem dX12_clearAll_126 : decode cX12_clearAll 126 = .ok (.iastore, 1) := by decide +kernel
theorem dX12_clearAll_127 : decode cX12_clearAll 127 = .ok (.aload_n 0, 1) := by decide +kernel
theorem dX12_clearAll_128 : decode cX12_clearAll 128 = .ok (.getfield 110, 3) := by decide +kernel
theorem dX12_clearAll_131 : decode cX12_clearAll 131 = .ok (.iload_n 2, 1) := by decide +kernel
theorem dX12_clearAll_132 : decode cX12_clearAll 132 = .ok (.iconst 1, 1) := by decide +kernel
theorem dX12_clearAll_133 : decode cX12_clearAll 133 = .ok (.bastore, 1) := by decide +kernel
theorem dX12_clearAll_134 : decode cX12_clearAll 134 = .ok (.iinc 2 1, 3) := by decide +kernel
theorem dX12_clearAll_137 : decode cX12_clearAll 137 = .ok (.goto (-135), 3) := by decide +kernel
theorem dX12_clearAll_140 : decode cX12_clearAll 140 = .ok (.return_, 1) := by decide +kernel
theorem dX12_place_0 : decode cX12_place 0 = .ok (.iconst 0, 1) := by decide +kernel
theorem dX12_place_1 : decode cX12_place 1 = .ok (.istore_n 2, 1) := by decide +kernel
theorem dX12_place_2 : decode cX12_place 2 = .ok (.iload_n 2, 1) := by decide +kernel
theorem dX12_place_3 : decode cX12_place 3 = .ok (.bipush 8, 2) := by decide +kernel
theorem dX12_place_5 : decode cX12_place 5 = .ok (.if_icmp .ge 16, 3) := by decide +kernel
theorem dX12_place_8 : decode cX12_place 8 = .ok (.aload_n 0, 1) := by decide +kernel
theorem dX12_place_9 : decode cX12_place 9 = .ok (.getfield 207, 3) := by decide +kernel
theorem dX12_place_12 : decode cX12_place 12 = .ok (.iload_n 2, 1) := by decide +kernel
theorem dX12_place_13 : decode cX12_place 13 = .ok (.iload_n 2, 1) := by decide +kernel
theorem dX12_place_14 : decode cX12_place 14 = .ok (.iastore, 1) := by decide +kernel
theorem dX12_place_15 : decode cX12_place 15 = .ok (.iinc 2 1, 3) := by decide +kernel
theorem dX12_place_18 : decode cX12_place 18 = .ok (.goto (-16), 3) := by decide +kernel
theorem dX12_place_21 : decode cX12_place 21 = .ok (.iconst 0, 1) := by decide +kernel
theorem dX12_place_22 : decode cX12_place 22 = .ok (.istore_n 2, 1) := by decide +kernel
theorem dX12_place_23 : decode cX12_place 23 = .ok (.iload_n 2, 1) := by decide +kernel
theorem dX12_place_24 : decode cX12_place 24 = .ok (.aload_n 0, 1) := by decide +kernel
theorem dX12_place_25 : decode cX12_place 25 = .ok (.getfield 296, 3) := by decide +kernel
theorem dX12_place_28 : decode cX12_place 28 = .ok (.if_icmp .ge 77, 3) := by decide +kernel
theorem dX12_place_31 : decode cX12_place 31 = .ok (.iload_n 1, 1) := by decide +kernel
theorem dX12_place_32 : decode cX12_place 32 = .ok (.i2l, 1) := by decide +kernel
theorem dX12_place_33 : decode cX12_place 33 = .ok (.aload_n 0, 1) := by decide +kernel
theorem dX12_place_34 : decode cX12_place 34 = .ok (.getfield 165, 3) := by decide +kernel
theorem dX12_place_37 : decode cX12_place 37 = .ok (.iload_n 2, 1) := by decide +kernel
theorem dX12_place_38 : decode cX12_place 38 = .ok (.iaload, 1) := by decide +kernel
theorem dX12_place_39 : decode cX12_place 39 = .ok (.i2l, 1) := by decide +kernel
theorem dX12_place_40 : decode cX12_place 40 = .ok (.aload_n 0, 1) := by decide +kernel
theorem dX12_place_41 : decode cX12_place 41 = .ok (.getfield 168, 3) := by decide +kernel
theorem dX12_place_44 : decode cX12_place 44 = .ok (.iload_n 2, 1) := by decide +kernel
theorem dX12_place_45 : decode cX12_place 45 = .ok (.iaload, 1) := by decide +kernel
theorem dX12_place_46 : decode cX12_place 46 = .ok (.i2l, 1) := by decide +kernel
theorem dX12_place_47 : decode cX12_place 47 = .ok (.invokestatic 242, 3) := by decide +kernel
theorem dX12_place_50 : decode cX12_place 50 = .ok (.ifCond .eq 49, 3) := by decide +kernel
theorem dX12_place_53 : decode cX12_place 53 = .ok (.aload_n 0, 1) := by decide +kernel
theorem dX12_place_54 : decode cX12_place 54 = .ok (.getfield 207, 3) := by decide +kernel
theorem dX12_place_57 : decode cX12_place 57 = .ok (.aload_n 0, 1) := by decide +kernel
theorem dX12_place_58 : decode cX12_place 58 = .ok (.getfield 159, 3) := by decide +kernel
theorem dX12_place_61 : decode cX12_place 61 = .ok (.iload_n 2, 1) := by decide +kernel
theorem dX12_place_62 : decode cX12_place 62 = .ok (.iaload, 1) := by decide +kernel
theorem dX12_place_63 : decode cX12_place 63 = .ok (.iaload, 1) := by decide +kernel
theorem dX12_place_64 : decode cX12_place 64 = .ok (.istore_n 3, 1) := by decide +kernel
theorem dX12_place_65 : decode cX12_place 65 = .ok (.aload_n 0, 1) := by decide +kernel
theorem dX12_place_66 : decode cX12_place 66 = .ok (.getfield 207, 3) := by decide +kernel
theorem dX12_place_69 : decode cX12_place 69 = .ok (.aload_n 0, 1) := by decide +kernel
theorem dX12_place_70 : decode cX12_place 70 = .ok (.getfield 159, 3) := by decide +kernel
theorem dX12_place_73 : decode cX12_place 73 = .ok (.iload_n 2, 1) := by decide +kernel
theorem dX12_place_74 : decode cX12_place 74 = .ok (.iaload, 1) := by decide +kernel
theorem dX12_place_75 : decode cX12_place 75 = .ok (.aload_n 0, 1) := by decide +kernel
theorem dX12_place_76 : decode cX12_place 76 = .ok (.getfield 207, 3) := by decide +kernel
theorem dX12_place_79 : decode cX12_place 79 = .ok (.aload_n 0, 1) := by decide +kernel
theorem dX12_place_80 : decode cX12_place 80 = .ok (.getfield 162, 3) := by decide +kernel
theorem dX12_place_83 : decode cX12_place 83 = .ok (.iload_n 2, 1) := by decide +kernel
theorem dX12_place_84 : decode cX12_place 84 = .ok (.iaload, 1) := by decide +kernel
theorem dX12_place_85 : decode cX12_place 85 = .ok (.iaload, 1) := by decide +kernel
theorem dX12_place_86 : decode cX12_place 86 = .ok (.iastore, 1) := by decide +kernel
theorem dX12_place_87 : decode cX12_place 87 = .ok (.aload_n 0, 1) := by decide +kernel
theorem dX12_place_88 : decode cX12_place 88 = .ok (.getfield 207, 3) := by decide +kernel
theorem dX12_place_91 : decode cX12_place 91 = .ok (.aload_n 0, 1) := by decide +kernel
theorem dX12_place_92 : decode cX12_place 92 = .ok (.getfield 162, 3) := by decide +kernel
theorem dX12_place_95 : decode cX12_place 95 = .ok (.iload_n 2, 1) := by decide +kernel
theorem dX12_place_96 : decode cX12_place 96 = .ok (.iaload, 1) := by decide +kernel
theorem dX12_place_97 : decode cX12_place 97 = .ok (.iload_n 3, 1) := by decide +kernel
theorem dX12_place_98 : decode cX12_place 98 = .ok (.iastore, 1) := by decide +kernel
theorem dX12_place_99 : decode cX12_place 99 = .ok (.iinc 2 1, 3) := by decide +kernel
theorem dX12_place_102 : decode cX12_place 102 = .ok (.goto (-79), 3) := by decide +kernel
theorem dX12_place_105 : decode cX12_place 105 = .ok (.return_, 1) := by decide +kernel
theorem dX12_stepOf_0 : decode cX12_stepOf 0 = .ok (.bipush 10, 2) := by decide +kernel
theorem dX12_stepOf_2 : decode cX12_stepOf 2 = .ok (.istore_n 3, 1) := by decide +kernel
theorem dX12_stepOf_3 : decode cX12_stepOf 3 = .ok (.iconst 0, 1) := by decide +kernel
theorem dX12_stepOf_4 : decode cX12_stepOf 4 = .ok (.istore 4, 2) := by decide +kernel
theorem dX12_stepOf_6 : decode cX12_stepOf 6 = .ok (.iload 4, 2) := by decide +kernel
theorem dX12_stepOf_8 : decode cX12_stepOf 8 = .ok (.aload_n 0, 1) := by decide +kernel
theorem dX12_stepOf_9 : decode cX12_stepOf 9 = .ok (.getfield 293, 3) := by decide +kernel
theorem dX12_stepOf_12 : decode cX12_stepOf 12 = .ok (.if_icmp .ge 88, 3) := by decide +kernel
theorem dX12_stepOf_15 : decode cX12_stepOf 15 = .ok (.aload_n 0, 1) := by decide +kernel
theorem dX12_stepOf_16 : decode cX12_stepOf 16 = .ok (.getfield 147, 3) := by decide +kernel
theorem dX12_stepOf_19 : decode cX12_stepOf 19 = .ok (.iload 4, 2) := by decide +kernel
theorem dX12_stepOf_21 : decode cX12_stepOf 21 = .ok (.iaload, 1) := by decide +kernel
theorem dX12_stepOf_22 : decode cX12_stepOf 22 = .ok (.aload_n 0, 1) := by decide +kernel
theorem dX12_stepOf_23 : decode cX12_stepOf 23 = .ok (.getfield 207, 3) := by decide +kernel
theorem dX12_stepOf_26 : decode cX12_stepOf 26 = .ok (.iload_n 1, 1) := by decide +kernel
theorem dX12_stepOf_27 : decode cX12_stepOf 27 = .ok (.iaload, 1) := by decide +kernel
theorem dX12_stepOf_28 : decode cX12_stepOf 28 = .ok (.if_icmp .ne 35, 3) := by decide +kernel
theorem dX12_stepOf_31 : decode cX12_stepOf 31 = .ok (.iload_n 2, 1) := by decide +kernel
theorem dX12_stepOf_32 : decode cX12_stepOf 32 = .ok (.bipush 48, 2) := by decide +kernel
theorem dX12_stepOf_34 : decode cX12_stepOf 34 = .ok (.irem, 1) := by decide +kernel
theorem dX12_stepOf_35 : decode cX12_stepOf 35 = .ok (.aload_n 0, 1) := by decide +kernel
theorem dX12_stepOf_36 : decode cX12_stepOf 36 = .ok (.getfield 150, 3) := by decide +kernel
theorem dX12_stepOf_39 : decode cX12_stepOf 39 = .ok (.iload 4, 2) := by decide +kernel
theorem dX12_stepOf_41 : decode cX12_stepOf 41 = .ok (.iaload, 1) := by decide +kernel
theorem dX12_stepOf_42 : decode cX12_stepOf 42 = .ok (.isub, 1) := by decide +kernel
theorem dX12_stepOf_43 : decode cX12_stepOf 43 = .ok (.bipush 48, 2) := by decide +kernel
theorem dX12_stepOf_45 : decode cX12_stepOf 45 = .ok (.iadd, 1) := by decide +kernel
theorem dX12_stepOf_46 : decode cX12_stepOf 46 = .ok (.bipush 48, 2) := by decide +kernel
theorem dX12_stepOf_48 : decode cX12_stepOf 48 = .ok (.irem, 1) := by decide +kernel
theorem dX12_stepOf_49 : decode cX12_stepOf 49 = .ok (.aload_n 0, 1) := by decide +kernel
theorem dX12_stepOf_50 : decode cX12_stepOf 50 = .ok (.getfield 153, 3) := by decide +kernel
theorem dX12_stepOf_53 : decode cX12_stepOf 53 = .ok (.iload 4, 2) := by decide +kernel
theorem dX12_stepOf_55 : decode cX12_stepOf 55 = .ok (.iaload, 1) := by decide +kernel
theorem dX12_stepOf_56 : decode cX12_stepOf 56 = .ok (.if_icmp .ge 7, 3) := by decide +kernel
theorem dX12_stepOf_59 : decode cX12_stepOf 59 = .ok (.iconst 1, 1) := by decide +kernel
theorem dX12_stepOf_60 : decode cX12_stepOf 60 = .ok (.goto 4, 3) := by decide +kernel
theorem dX12_stepOf_63 : decode cX12_stepOf 63 = .ok (.iconst 0, 1) := by decide +kernel
theorem dX12_stepOf_64 : decode cX12_stepOf 64 = .ok (.istore 5, 2) := by decide +kernel
theorem dX12_stepOf_66 : decode cX12_stepOf 66 = .ok (.iload 5, 2) := by decide +kernel
theorem dX12_stepOf_68 : decode cX12_stepOf 68 = .ok (.ifCond .eq 24, 3) := by decide +kernel
theorem dX12_stepOf_71 : decode cX12_stepOf 71 = .ok (.aload_n 0, 1) := by decide +kernel
theorem dX12_stepOf_72 : decode cX12_stepOf 72 = .ok (.getfield 156, 3) := by decide +kernel
theorem dX12_stepOf_75 : decode cX12_stepOf 75 = .ok (.iload 4, 2) := by decide +kernel
theorem dX12_stepOf_77 : decode cX12_stepOf 77 = .ok (.iaload, 1) := by decide +kernel
theorem dX12_stepOf_78 : decode cX12_stepOf 78 = .ok (.iload_n 3, 1) := by decide +kernel
theorem dX12_stepOf_79 : decode cX12_stepOf 79 = .ok (.if_icmp .ge 13, 3) := by decide +kernel
theorem dX12_stepOf_82 : decode cX12_stepOf 82 = .ok (.aload_n 0, 1) := by decide +kernel
theorem dX12_stepOf_83 : decode cX12_stepOf 83 = .ok (.getfield 156, 3) := by decide +kernel
theorem dX12_stepOf_86 : decode cX12_stepOf 86 = .ok (.iload 4, 2) := by decide +kernel
theorem dX12_stepOf_88 : decode cX12_stepOf 88 = .ok (.iaload, 1) := by decide +kernel
theorem dX12_stepOf_89 : decode cX12_stepOf 89 = .ok (.goto 4, 3) := by decide +kernel
theorem dX12_stepOf_92 : decode cX12_stepOf 92 = .ok (.iload_n 3, 1) := by decide +kernel
theorem dX12_stepOf_93 : decode cX12_stepOf 93 = .ok (.istore_n 3, 1) := by decide +kernel
theorem dX12_stepOf_94 : decode cX12_stepOf 94 = .ok (.iinc 4 1, 3) := by decide +kernel
theorem dX12_stepOf_97 : decode cX12_stepOf 97 = .ok (.goto (-91), 3) := by decide +kernel
theorem dX12_stepOf_100 : decode cX12_stepOf 100 = .ok (.iload_n 3, 1) := by decide +kernel
theorem dX12_stepOf_101 : decode cX12_stepOf 101 = .ok (.ireturn, 1) := by decide +kernel
theorem dX12_wake_0 : decode cX12_wake 0 = .ok (.aload_n 0, 1) := by decide +kernel
theorem dX12_wake_1 : decode cX12_wake 1 = .ok (.iload_n 1, 1) := by decide +kernel
theorem dX12_wake_2 : decode cX12_wake 2 = .ok (.invokevirtual 352, 3) := by decide +kernel
theorem dX12_wake_5 : decode cX12_wake 5 = .ok (.aload_n 0, 1) := by decide +kernel
theorem dX12_wake_6 : decode cX12_wake 6 = .ok (.iconst 0, 1) := by decide +kernel
theorem dX12_wake_7 : decode cX12_wake 7 = .ok (.putfield 356, 3) := by decide +kernel
theorem dX12_wake_10 : decode cX12_wake 10 = .ok (.iconst 0, 1) := by decide +kernel
theorem dX12_wake_11 : decode cX12_wake 11 = .ok (.istore_n 2, 1) := by decide +kernel
theorem dX12_wake_12 : decode cX12_wake 12 = .ok (.iload_n 2, 1) := by decide +kernel
theorem dX12_wake_13 : decode cX12_wake 13 = .ok (.bipush 10, 2) := by decide +kernel
theorem dX12_wake_15 : decode cX12_wake 15 = .ok (.if_icmp .ge 55, 3) := by decide +kernel
theorem dX12_wake_18 : decode cX12_wake 18 = .ok (.iconst 0, 1) := by decide +kernel
theorem dX12_wake_19 : decode cX12_wake 19 = .ok (.istore_n 3, 1) := by decide +kernel
theorem dX12_wake_20 : decode cX12_wake 20 = .ok (.iload_n 3, 1) := by decide +kernel
theorem dX12_wake_21 : decode cX12_wake 21 = .ok (.aload_n 0, 1) := by decide +kernel
theorem dX12_wake_22 : decode cX12_wake 22 = .ok (.getfield 237, 3) := by decide +kernel
theorem dX12_wake_25 : decode cX12_wake 25 = .ok (.if_icmp .ge 39, 3) := by decide +kernel
theorem dX12_wake_28 : decode cX12_wake 28 = .ok (.aload_n 0, 1) := by decide +kernel
theorem dX12_wake_29 : decode cX12_wake 29 = .ok (.iload_n 3, 1) := by decide +kernel
theorem dX12_wake_30 : decode cX12_wake 30 = .ok (.iload_n 1, 1) := by decide +kernel
theorem dX12_wake_31 : decode cX12_wake 31 = .ok (.invokevirtual 359, 3) := by decide +kernel
theorem dX12_wake_34 : decode cX12_wake 34 = .ok (.iload_n 2, 1) := by decide +kernel
theorem dX12_wake_35 : decode cX12_wake 35 = .ok (.if_icmp .ne 23, 3) := by decide +kernel
theorem dX12_wake_38 : decode cX12_wake 38 = .ok (.aload_n 0, 1) := by decide +kernel
theorem dX12_wake_39 : decode cX12_wake 39 = .ok (.getfield 210, 3) := by decide +kernel
theorem dX12_wake_42 : decode cX12_wake 42 = .ok (.aload_n 0, 1) := by decide +kernel
theorem dX12_wake_43 : decode cX12_wake 43 = .ok (.getfield 356, 3) := by decide +kernel
theorem dX12_wake_46 : decode cX12_wake 46 = .ok (.iload_n 3, 1) := by decide +kernel
theorem dX12_wake_47 : decode cX12_wake 47 = .ok (.iastore, 1) := by decide +kernel
theorem dX12_wake_48 : decode cX12_wake 48 = .ok (.aload_n 0, 1) := by decide +kernel
theorem dX12_wake_49 : decode cX12_wake 49 = .ok (.dup, 1) := by decide +kernel
theorem dX12_wake_50 : decode cX12_wake 50 = .ok (.getfield 356, 3) := by decide +kernel
theorem dX12_wake_53 : decode cX12_wake 53 = .ok (.iconst 1, 1) := by decide +kernel
theorem dX12_wake_54 : decode cX12_wake 54 = .ok (.iadd, 1) := by decide +kernel
theorem dX12_wake_55 : decode cX12_wake 55 = .ok (.putfield 356, 3) := by decide +kernel
theorem dX12_wake_58 : decode cX12_wake 58 = .ok (.iinc 3 1, 3) := by decide +kernel
theorem dX12_wake_61 : decode cX12_wake 61 = .ok (.goto (-41), 3) := by decide +kernel
theorem dX12_wake_64 : decode cX12_wake 64 = .ok (.iinc 2 1, 3) := by decide +kernel
theorem dX12_wake_67 : decode cX12_wake 67 = .ok (.goto (-55), 3) := by decide +kernel
theorem dX12_wake_70 : decode cX12_wake 70 = .ok (.return_, 1) := by decide +kernel
theorem dX12_reason_0 : decode cX12_reason 0 = .ok (.iconst 0, 1) := by decide +kernel
theorem dX12_reason_1 : decode cX12_reason 1 = .ok (.istore_n 3, 1) := by decide +kernel
theorem dX12_reason_2 : decode cX12_reason 2 = .ok (.iconst 0, 1) := by decide +kernel
theorem dX12_reason_3 : decode cX12_reason 3 = .ok (.istore 4, 2) := by decide +kernel
theorem dX12_reason_5 : decode cX12_reason 5 = .ok (.iconst 0, 1) := by decide +kernel
theorem dX12_reason_6 : decode cX12_reason 6 = .ok (.istore 5, 2) := by decide +kernel
theorem dX12_reason_8 : decode cX12_reason 8 = .ok (.iconst 0, 1) := by decide +kernel
theorem dX12_reason_9 : decode cX12_reason 9 = .ok (.istore 6, 2) := by decide +kernel
theorem dX12_reason_11 : decode cX12_reason 11 = .ok (.iconst 0, 1) := by decide +kernel
theorem dX12_reason_12 : decode cX12_reason 12 = .ok (.istore 7, 2) := by decide +kernel
theorem dX12_reason_14 : decode cX12_reason 14 = .ok (.iload 7, 2) := by decide +kernel
theorem dX12_reason_16 : decode cX12_reason 16 = .ok (.aload_n 0, 1) := by decide +kernel
theorem dX12_reason_17 : decode cX12_reason 17 = .ok (.getfield 284, 3) := by decide +kernel
theorem dX12_reason_20 : decode cX12_reason 20 = .ok (.if_icmp .ge 113, 3) := by decide +kernel
theorem dX12_reason_23 : decode cX12_reason 23 = .ok (.aload_n 0, 1) := by decide +kernel
theorem dX12_reason_24 : decode cX12_reason 24 = .ok (.getfield 119, 3) := by decide +kernel
theorem dX12_reason_27 : decode cX12_reason 27 = .ok (.iload 7, 2) := by decide +kernel
theorem dX12_reason_29 : decode cX12_reason 29 = .ok (.iaload, 1) := by decide +kernel
theorem dX12_reason_30 : decode cX12_reason 30 = .ok (.iload_n 1, 1) := by decide +kernel
theorem dX12_reason_31 : decode cX12_reason 31 = .ok (.if_icmp .ne 96, 3) := by decide +kernel
theorem dX12_reason_34 : decode cX12_reason 34 = .ok (.aload_n 0, 1) := by decide +kernel
theorem dX12_reason_35 : decode cX12_reason 35 = .ok (.getfield 95, 3) := by decide +kernel
theorem dX12_reason_38 : decode cX12_reason 38 = .ok (.iload 7, 2) := by decide +kernel
theorem dX12_reason_40 : decode cX12_reason 40 = .ok (.iaload, 1) := by decide +kernel
theorem dX12_reason_41 : decode cX12_reason 41 = .ok (.ifCond .ne 86, 3) := by decide +kernel
theorem dX12_reason_44 : decode cX12_reason 44 = .ok (.iconst 1, 1) := by decide +kernel
theorem dX12_reason_45 : decode cX12_reason 45 = .ok (.istore 6, 2) := by decide +kernel
theorem dX12_reason_47 : decode cX12_reason 47 = .ok (.iload 5, 2) := by decide +kernel
theorem dX12_reason_49 : decode cX12_reason 49 = .ok (.ifCond .ne 13, 3) := by decide +kernel
theorem dX12_reason_52 : decode cX12_reason 52 = .ok (.aload_n 0, 1) := by decide +kernel
theorem dX12_reason_53 : decode cX12_reason 53 = .ok (.getfield 104, 3) := by decide +kernel
theorem dX12_reason_56 : decode cX12_reason 56 = .ok (.iload 7, 2) := by decide +kernel
theorem dX12_reason_58 : decode cX12_reason 58 = .ok (.iaload, 1) := by decide +kernel
theorem dX12_reason_59 : decode cX12_reason 59 = .ok (.ifCond .le 7, 3) := by decide +kernel
theorem dX12_reason_62 : decode cX12_reason 62 = .ok (.iconst 1, 1) := by decide +kernel
theorem dX12_reason_63 : decode cX12_reason 63 = .ok (.goto 4, 3) := by decide +kernel
theorem dX12_reason_66 : decode cX12_reason 66 = .ok (.iconst 0, 1) := by decide +kernel
theorem dX12_reason_67 : decode cX12_reason 67 = .ok (.istore 5, 2) := by decide +kernel
theorem dX12_reason_69 : decode cX12_reason 69 = .ok (.iload_n 3, 1) := by decide +kernel
theorem dX12_reason_70 : decode cX12_reason 70 = .ok (.ifCond .ne 13, 3) := by decide +kernel
theorem dX12_reason_73 : decode cX12_reason 73 = .ok (.aload_n 0, 1) := by decide +kernel
theorem dX12_reason_74 : decode cX12_reason 74 = .ok (.getfield 110, 3) := by decide +kernel
theorem dX12_reason_77 : decode cX12_reason 77 = .ok (.iload 7, 2) := by decide +kernel
theorem dX12_reason_79 : decode cX12_reason 79 = .ok (.baload, 1) := by decide +kernel
theorem dX12_reason_80 : decode cX12_reason 80 = .ok (.ifCond .eq 7, 3) := by decide +kernel
theorem dX12_reason_83 : decode cX12_reason 83 = .ok (.iconst 1, 1) := by decide +kernel
theorem dX12_reason_84 : decode cX12_reason 84 = .ok (.goto 4, 3) := by decide +kernel
theorem dX12_reason_87 : decode cX12_reason 87 = .ok (.iconst 0, 1) := by decide +kernel
theorem dX12_reason_88 : decode cX12_reason 88 = .ok (.istore_n 3, 1) := by decide +kernel
theorem dX12_reason_89 : decode cX12_reason 89 = .ok (.iload 4, 2) := by decide +kernel
theorem dX12_reason_91 : decode cX12_reason 91 = .ok (.ifCond .ne 29, 3) := by decide +kernel
theorem dX12_reason_94 : decode cX12_reason 94 = .ok (.aload_n 0, 1) := by decide +kernel
theorem dX12_reason_95 : decode cX12_reason 95 = .ok (.getfield 110, 3) := by decide +kernel
theorem dX12_reason_98 : decode cX12_reason 98 = .ok (.iload 7, 2) := by decide +kernel
theorem dX12_reason_100 : decode cX12_reason 100 = .ok (.baload, 1) := by decide +kernel
theorem dX12_reason_101 : decode cX12_reason 101 = .ok (.ifCond .eq 23, 3) := by decide +kernel
theorem dX12_reason_104 : decode cX12_reason 104 = .ok (.aload_n 0, 1) := by decide +kernel
theorem dX12_reason_105 : decode cX12_reason 105 = .ok (.getfield 104, 3) := by decide +kernel
theorem dX12_reason_108 : decode cX12_reason 108 = .ok (.iload 7, 2) := by decide +kernel
theorem dX12_reason_110 : decode cX12_reason 110 = .ok (.iaload, 1) := by decide +kernel
theorem dX12_reason_111 : decode cX12_reason 111 = .ok (.iload_n 2, 1) := by decide +kernel
theorem dX12_reason_112 : decode cX12_reason 112 = .ok (.aload_n 0, 1) := by decide +kernel
theorem dX12_reason_113 : decode cX12_reason 113 = .ok (.getfield 126, 3) := by decide +kernel
theorem dX12_reason_116 : decode cX12_reason 116 = .ok (.isub, 1) := by decide +kernel
theorem dX12_reason_117 : decode cX12_reason 117 = .ok (.if_icmp .gt 7, 3) := by decide +kernel
theorem dX12_reason_120 : decode cX12_reason 120 = .ok (.iconst 1, 1) := by decide +kernel
theorem dX12_reason_121 : decode cX12_reason 121 = .ok (.goto 4, 3) := by decide +kernel
theorem dX12_reason_124 : decode cX12_reason 124 = .ok (.iconst 0, 1) := by decide +kernel
theorem dX12_reason_125 : decode cX12_reason 125 = .ok (.istore 4, 2) := by decide +kernel
theorem dX12_reason_127 : decode cX12_reason 127 = .ok (.iinc 7 1, 3) := by decide +kernel
theorem dX12_reason_130 : decode cX12_reason 130 = .ok (.goto (-116), 3) := by decide +kernel
theorem dX12_reason_133 : decode cX12_reason 133 = .ok (.aload_n 0, 1) := by decide +kernel
theorem dX12_reason_134 : decode cX12_reason 134 = .ok (.getfield 144, 3) := by decide +kernel
theorem dX12_reason_137 : decode cX12_reason 137 = .ok (.iload_n 1, 1) := by decide +kernel
theorem dX12_reason_138 : decode cX12_reason 138 = .ok (.baload, 1) := by decide +kernel
theorem dX12_reason_139 : decode cX12_reason 139 = .ok (.ifCond .ne 14, 3) := by decide +kernel
theorem dX12_reason_142 : decode cX12_reason 142 = .ok (.iload 4, 2) := by decide +kernel
theorem dX12_reason_144 : decode cX12_reason 144 = .ok (.ifCond .eq 7, 3) := by decide +kernel
theorem dX12_reason_147 : decode cX12_reason 147 = .ok (.iconst 1, 1) := by decide +kernel
theorem dX12_reason_148 : decode cX12_reason 148 = .ok (.goto 4, 3) := by decide +kernel
theorem dX12_reason_151 : decode cX12_reason 151 = .ok (.iconst 0, 1) := by decide +kernel
theorem dX12_reason_152 : decode cX12_reason 152 = .ok (.ireturn, 1) := by decide +kernel
theorem dX12_reason_153 : decode cX12_reason 153 = .ok (.iload_n 3, 1) := by decide +kernel
theorem dX12_reason_154 : decode cX12_reason 154 = .ok (.ifCond .eq 22, 3) := by decide +kernel
theorem dX12_reason_157 : decode cX12_reason 157 = .ok (.iload_n 2, 1) := by decide +kernel
theorem dX12_reason_158 : decode cX12_reason 158 = .ok (.aload_n 0, 1) := by decide +kernel
theorem dX12_reason_159 : decode cX12_reason 159 = .ok (.getfield 141, 3) := by decide +kernel
theorem dX12_reason_162 : decode cX12_reason 162 = .ok (.iload_n 1, 1) := by decide +kernel
theorem dX12_reason_163 : decode cX12_reason 163 = .ok (.iaload, 1) := by decide +kernel
theorem dX12_reason_164 : decode cX12_reason 164 = .ok (.aload_n 0, 1) := by decide +kernel
theorem dX12_reason_165 : decode cX12_reason 165 = .ok (.getfield 129, 3) := by decide +kernel
theorem dX12_reason_168 : decode cX12_reason 168 = .ok (.iadd, 1) := by decide +kernel
theorem dX12_reason_169 : decode cX12_reason 169 = .ok (.if_icmp .lt 7, 3) := by decide +kernel
theorem dX12_reason_172 : decode cX12_reason 172 = .ok (.iconst 2, 1) := by decide +kernel
theorem dX12_reason_173 : decode cX12_reason 173 = .ok (.goto 37, 3) := by decide +kernel
theorem dX12_reason_176 : decode cX12_reason 176 = .ok (.iload 5, 2) := by decide +kernel
theorem dX12_reason_178 : decode cX12_reason 178 = .ok (.ifCond .eq 22, 3) := by decide +kernel
theorem dX12_reason_181 : decode cX12_reason 181 = .ok (.iload_n 2, 1) := by decide +kernel
theorem dX12_reason_182 : decode cX12_reason 182 = .ok (.aload_n 0, 1) := by decide +kernel
theorem dX12_reason_183 : decode cX12_reason 183 = .ok (.getfield 141, 3) := by decide +kernel
theorem dX12_reason_186 : decode cX12_reason 186 = .ok (.iload_n 1, 1) := by decide +kernel
theorem dX12_reason_187 : decode cX12_reason 187 = .ok (.iaload, 1) := by decide +kernel
theorem dX12_reason_188 : decode cX12_reason 188 = .ok (.aload_n 0, 1) := by decide +kernel
theorem dX12_reason_189 : decode cX12_reason 189 = .ok (.getfield 132, 3) := by decide +kernel
theorem dX12_reason_192 : decode cX12_reason 192 = .ok (.iadd, 1) := by decide +kernel
theorem dX12_reason_193 : decode cX12_reason 193 = .ok (.if_icmp .lt 7, 3) := by decide +kernel
theorem dX12_reason_196 : decode cX12_reason 196 = .ok (.iconst 3, 1) := by decide +kernel
theorem dX12_reason_197 : decode cX12_reason 197 = .ok (.goto 13, 3) := by decide +kernel
theorem dX12_reason_200 : decode cX12_reason 200 = .ok (.iload 6, 2) := by decide +kernel
theorem dX12_reason_202 : decode cX12_reason 202 = .ok (.ifCond .ne 7, 3) := by decide +kernel
theorem dX12_reason_205 : decode cX12_reason 205 = .ok (.iconst 4, 1) := by decide +kernel
theorem dX12_reason_206 : decode cX12_reason 206 = .ok (.goto 4, 3) := by decide +kernel
theorem dX12_reason_209 : decode cX12_reason 209 = .ok (.iconst 0, 1) := by decide +kernel
theorem dX12_reason_210 : decode cX12_reason 210 = .ok (.ireturn, 1) := by decide +kernel
theorem dX12_write_0 : decode cX12_write 0 = .ok (.aload_n 0, 1) := by decide +kernel
theorem dX12_write_1 : decode cX12_write 1 = .ok (.getfield 180, 3) := by decide +kernel
theorem dX12_write_4 : decode cX12_write 4 = .ok (.iload_n 1, 1) := by decide +kernel
theorem dX12_write_5 : decode cX12_write 5 = .ok (.iaload, 1) := by decide +kernel
theorem dX12_write_6 : decode cX12_write 6 = .ok (.bipush 40, 2) := by decide +kernel
theorem dX12_write_8 : decode cX12_write 8 = .ok (.if_icmp .ne 4, 3) := by decide +kernel
theorem dX12_write_11 : decode cX12_write 11 = .ok (.return_, 1) := by decide +kernel
theorem dX12_write_12 : decode cX12_write 12 = .ok (.aload_n 0, 1) := by decide +kernel
theorem dX12_write_13 : decode cX12_write 13 = .ok (.getfield 183, 3) := by decide +kernel
theorem dX12_write_16 : decode cX12_write 16 = .ok (.bipush 40, 2) := by decide +kernel
theorem dX12_write_18 : decode cX12_write 18 = .ok (.iload_n 1, 1) := by decide +kernel
theorem dX12_write_19 : decode cX12_write 19 = .ok (.imul, 1) := by decide +kernel
theorem dX12_write_20 : decode cX12_write 20 = .ok (.aload_n 0, 1) := by decide +kernel
theorem dX12_write_21 : decode cX12_write 21 = .ok (.getfield 180, 3) := by decide +kernel
theorem dX12_write_24 : decode cX12_write 24 = .ok (.iload_n 1, 1) := by decide +kernel
theorem dX12_write_25 : decode cX12_write 25 = .ok (.iaload, 1) := by decide +kernel
theorem dX12_write_26 : decode cX12_write 26 = .ok (.iadd, 1) := by decide +kernel
theorem dX12_write_27 : decode cX12_write 27 = .ok (.iload_n 2, 1) := by decide +kernel
theorem dX12_write_28 : decode cX12_write 28 = .ok (.iastore, 1) := by decide +kernel
theorem dX12_write_29 : decode cX12_write 29 = .ok (.aload_n 0, 1) := by decide +kernel
theorem dX12_write_30 : decode cX12_write 30 = .ok (.getfield 180, 3) := by decide +kernel
theorem dX12_write_33 : decode cX12_write 33 = .ok (.iload_n 1, 1) := by decide +kernel
theorem dX12_write_34 : decode cX12_write 34 = .ok (.dup2, 1) := by decide +kernel
theorem dX12_write_35 : decode cX12_write 35 = .ok (.iaload, 1) := by decide +kernel
theorem dX12_write_36 : decode cX12_write 36 = .ok (.iconst 1, 1) := by decide +kernel
theorem dX12_write_37 : decode cX12_write 37 = .ok (.iadd, 1) := by decide +kernel
theorem dX12_write_38 : decode cX12_write 38 = .ok (.iastore, 1) := by decide +kernel
theorem dX12_write_39 : decode cX12_write 39 = .ok (.aload_n 0, 1) := by decide +kernel
theorem dX12_write_40 : decode cX12_write 40 = .ok (.getfield 107, 3) := by decide +kernel
theorem dX12_write_43 : decode cX12_write 43 = .ok (.iload_n 2, 1) := by decide +kernel
theorem dX12_write_44 : decode cX12_write 44 = .ok (.dup2, 1) := by decide +kernel
theorem dX12_write_45 : decode cX12_write 45 = .ok (.iaload, 1) := by decide +kernel
theorem dX12_write_46 : decode cX12_write 46 = .ok (.iconst 1, 1) := by decide +kernel
theorem dX12_write_47 : decode cX12_write 47 = .ok (.iadd, 1) := by decide +kernel
theorem dX12_write_48 : decode cX12_write 48 = .ok (.iastore, 1) := by decide +kernel
theorem dX12_write_49 : decode cX12_write 49 = .ok (.aload_n 0, 1) := by decide +kernel
theorem dX12_write_50 : decode cX12_write 50 = .ok (.getfield 110, 3) := by decide +kernel
theorem dX12_write_53 : decode cX12_write 53 = .ok (.iload_n 2, 1) := by decide +kernel
theorem dX12_write_54 : decode cX12_write 54 = .ok (.iconst 0, 1) := by decide +kernel
theorem dX12_write_55 : decode cX12_write 55 = .ok (.bastore, 1) := by decide +kernel
theorem dX12_write_56 : decode cX12_write 56 = .ok (.aload_n 0, 1) := by decide +kernel
theorem dX12_write_57 : decode cX12_write 57 = .ok (.getfield 95, 3) := by decide +kernel
theorem dX12_write_60 : decode cX12_write 60 = .ok (.iload_n 2, 1) := by decide +kernel
theorem dX12_write_61 : decode cX12_write 61 = .ok (.iaload, 1) := by decide +kernel
theorem dX12_write_62 : decode cX12_write 62 = .ok (.ifCond .ne 13, 3) := by decide +kernel
theorem dX12_write_65 : decode cX12_write 65 = .ok (.aload_n 0, 1) := by decide +kernel
theorem dX12_write_66 : decode cX12_write 66 = .ok (.getfield 113, 3) := by decide +kernel
theorem dX12_write_69 : decode cX12_write 69 = .ok (.iload_n 2, 1) := by decide +kernel
theorem dX12_write_70 : decode cX12_write 70 = .ok (.iconst 1, 1) := by decide +kernel
theorem dX12_write_71 : decode cX12_write 71 = .ok (.bastore, 1) := by decide +kernel
theorem dX12_write_72 : decode cX12_write 72 = .ok (.goto 10, 3) := by decide +kernel
theorem dX12_write_75 : decode cX12_write 75 = .ok (.aload_n 0, 1) := by decide +kernel
theorem dX12_write_76 : decode cX12_write 76 = .ok (.getfield 116, 3) := by decide +kernel
theorem dX12_write_79 : decode cX12_write 79 = .ok (.iload_n 2, 1) := by decide +kernel
theorem dX12_write_80 : decode cX12_write 80 = .ok (.iconst 1, 1) := by decide +kernel
theorem dX12_write_81 : decode cX12_write 81 = .ok (.bastore, 1) := by decide +kernel
theorem dX12_write_82 : decode cX12_write 82 = .ok (.return_, 1) := by decide +kernel
theorem dX12_send_0 : decode cX12_send 0 = .ok (.aload_n 0, 1) := by decide +kernel
theorem dX12_send_1 : decode cX12_send 1 = .ok (.getfield 362, 3) := by decide +kernel
theorem dX12_send_4 : decode cX12_send 4 = .ok (.istore 4, 2) := by decide +kernel
theorem dX12_send_6 : decode cX12_send 6 = .ok (.aload_n 0, 1) := by decide +kernel
theorem dX12_send_7 : decode cX12_send 7 = .ok (.dup, 1) := by decide +kernel
theorem dX12_send_8 : decode cX12_send 8 = .ok (.getfield 362, 3) := by decide +kernel
theorem dX12_send_11 : decode cX12_send 11 = .ok (.iconst 1, 1) := by decide +kernel
theorem dX12_send_12 : decode cX12_send 12 = .ok (.iadd, 1) := by decide +kernel
theorem dX12_send_13 : decode cX12_send 13 = .ok (.putfield 362, 3) := by decide +kernel
theorem dX12_send_16 : decode cX12_send 16 = .ok (.aload_n 0, 1) := by decide +kernel
theorem dX12_send_17 : decode cX12_send 17 = .ok (.getfield 171, 3) := by decide +kernel
theorem dX12_send_20 : decode cX12_send 20 = .ok (.iload 4, 2) := by decide +kernel
theorem dX12_send_22 : decode cX12_send 22 = .ok (.iload_n 2, 1) := by decide +kernel
theorem dX12_send_23 : decode cX12_send 23 = .ok (.iastore, 1) := by decide +kernel
theorem dX12_send_24 : decode cX12_send 24 = .ok (.aload_n 0, 1) := by decide +kernel
theorem dX12_send_25 : decode cX12_send 25 = .ok (.getfield 174, 3) := by decide +kernel
theorem dX12_send_28 : decode cX12_send 28 = .ok (.iload 4, 2) := by decide +kernel
theorem dX12_send_30 : decode cX12_send 30 = .ok (.iload_n 1, 1) := by decide +kernel
theorem dX12_send_31 : decode cX12_send 31 = .ok (.iastore, 1) := by decide +kernel
theorem dX12_send_32 : decode cX12_send 32 = .ok (.aload_n 0, 1) := by decide +kernel
theorem dX12_send_33 : decode cX12_send 33 = .ok (.getfield 177, 3) := by decide +kernel
theorem dX12_send_36 : decode cX12_send 36 = .ok (.iload 4, 2) := by decide +kernel
theorem dX12_send_38 : decode cX12_send 38 = .ok (.iload_n 3, 1) := by decide +kernel
theorem dX12_send_39 : decode cX12_send 39 = .ok (.iastore, 1) := by decide +kernel
theorem dX12_send_40 : decode cX12_send 40 = .ok (.aload_n 0, 1) := by decide +kernel
theorem dX12_send_41 : decode cX12_send 41 = .ok (.getfield 180, 3) := by decide +kernel
theorem dX12_send_44 : decode cX12_send 44 = .ok (.iload 4, 2) := by decide +kernel
theorem dX12_send_46 : decode cX12_send 46 = .ok (.iconst 0, 1) := by decide +kernel
theorem dX12_send_47 : decode cX12_send 47 = .ok (.iastore, 1) := by decide +kernel
theorem dX12_send_48 : decode cX12_send 48 = .ok (.iconst 0, 1) := by decide +kernel
theorem dX12_send_49 : decode cX12_send 49 = .ok (.istore 5, 2) := by decide +kernel
theorem dX12_send_51 : decode cX12_send 51 = .ok (.iload 5, 2) := by decide +kernel
theorem dX12_send_53 : decode cX12_send 53 = .ok (.aload_n 0, 1) := by decide +kernel
theorem dX12_send_54 : decode cX12_send 54 = .ok (.getfield 284, 3) := by decide +kernel
theorem dX12_send_57 : decode cX12_send 57 = .ok (.if_icmp .ge 38, 3) := by decide +kernel
theorem dX12_send_60 : decode cX12_send 60 = .ok (.aload_n 0, 1) := by decide +kernel
theorem dX12_send_61 : decode cX12_send 61 = .ok (.getfield 119, 3) := by decide +kernel
theorem dX12_send_64 : decode cX12_send 64 = .ok (.iload 5, 2) := by decide +kernel
theorem dX12_send_66 : decode cX12_send 66 = .ok (.iaload, 1) := by decide +kernel
theorem dX12_send_67 : decode cX12_send 67 = .ok (.iload_n 1, 1) := by decide +kernel
theorem dX12_send_68 : decode cX12_send 68 = .ok (.if_icmp .ne 21, 3) := by decide +kernel
theorem dX12_send_71 : decode cX12_send 71 = .ok (.aload_n 0, 1) := by decide +kernel
theorem dX12_send_72 : decode cX12_send 72 = .ok (.getfield 104, 3) := by decide +kernel
theorem dX12_send_75 : decode cX12_send 75 = .ok (.iload 5, 2) := by decide +kernel
theorem dX12_send_77 : decode cX12_send 77 = .ok (.iaload, 1) := by decide +kernel
theorem dX12_send_78 : decode cX12_send 78 = .ok (.ifCond .le 11, 3) := by decide +kernel
theorem dX12_send_81 : decode cX12_send 81 = .ok (.aload_n 0, 1) := by decide +kernel
theorem dX12_send_82 : decode cX12_send 82 = .ok (.iload 4, 2) := by decide +kernel
theorem dX12_send_84 : decode cX12_send 84 = .ok (.iload 5, 2) := by decide +kernel
theorem dX12_send_86 : decode cX12_send 86 = .ok (.invokevirtual 365, 3) := by decide +kernel
theorem dX12_send_89 : decode cX12_send 89 = .ok (.iinc 5 1, 3) := by decide +kernel
theorem dX12_send_92 : decode cX12_send 92 = .ok (.goto (-41), 3) := by decide +kernel
theorem dX12_send_95 : decode cX12_send 95 = .ok (.iconst 0, 1) := by decide +kernel
theorem dX12_send_96 : decode cX12_send 96 = .ok (.istore 5, 2) := by decide +kernel
theorem dX12_send_98 : decode cX12_send 98 = .ok (.iload 5, 2) := by decide +kernel
theorem dX12_send_100 : decode cX12_send 100 = .ok (.aload_n 0, 1) := by decide +kernel
theorem dX12_send_101 : decode cX12_send 101 = .ok (.getfield 284, 3) := by decide +kernel
theorem dX12_send_104 : decode cX12_send 104 = .ok (.if_icmp .ge 58, 3) := by decide +kernel
theorem dX12_send_107 : decode cX12_send 107 = .ok (.aload_n 0, 1) := by decide +kernel
theorem dX12_send_108 : decode cX12_send 108 = .ok (.getfield 119, 3) := by decide +kernel
theorem dX12_send_111 : decode cX12_send 111 = .ok (.iload 5, 2) := by decide +kernel
theorem dX12_send_113 : decode cX12_send 113 = .ok (.iaload, 1) := by decide +kernel
theorem dX12_send_114 : decode cX12_send 114 = .ok (.iload_n 1, 1) := by decide +kernel
theorem dX12_send_115 : decode cX12_send 115 = .ok (.if_icmp .ne 41, 3) := by decide +kernel
theorem dX12_send_118 : decode cX12_send 118 = .ok (.aload_n 0, 1) := by decide +kernel
theorem dX12_send_119 : decode cX12_send 119 = .ok (.getfield 95, 3) := by decide +kernel
theorem dX12_send_122 : decode cX12_send 122 = .ok (.iload 5, 2) := by decide +kernel
theorem dX12_send_124 : decode cX12_send 124 = .ok (.iaload, 1) := by decide +kernel
theorem dX12_send_125 : decode cX12_send 125 = .ok (.ifCond .le 31, 3) := by decide +kernel
theorem dX12_send_128 : decode cX12_send 128 = .ok (.aload_n 0, 1) := by decide +kernel
theorem dX12_send_129 : decode cX12_send 129 = .ok (.getfield 113, 3) := by decide +kernel
theorem dX12_send_132 : decode cX12_send 132 = .ok (.iload 5, 2) := by decide +kernel
theorem dX12_send_134 : decode cX12_send 134 = .ok (.baload, 1) := by decide +kernel
theorem dX12_send_135 : decode cX12_send 135 = .ok (.ifCond .eq 21, 3) := by decide +kernel
theorem dX12_send_138 : decode cX12_send 138 = .ok (.aload_n 0, 1) := by decide +kernel
theorem dX12_send_139 : decode cX12_send 139 = .ok (.getfield 116, 3) := by decide +kernel
theorem dX12_send_142 : decode cX12_send 142 = .ok (.iload 5, 2) := by decide +kernel
theorem dX12_send_144 : decode cX12_send 144 = .ok (.baload, 1) := by decide +kernel
theorem dX12_send_145 : decode cX12_send 145 = .ok (.ifCond .ne 11, 3) := by decide +kernel
theorem dX12_send_148 : decode cX12_send 148 = .ok (.aload_n 0, 1) := by decide +kernel
theorem dX12_send_149 : decode cX12_send 149 = .ok (.iload 4, 2) := by decide +kernel
theorem dX12_send_151 : decode cX12_send 151 = .ok (.iload 5, 2) := by decide +kernel
theorem dX12_send_153 : decode cX12_send 153 = .ok (.invokevirtual 365, 3) := by decide +kernel
theorem dX12_send_156 : decode cX12_send 156 = .ok (.iinc 5 1, 3) := by decide +kernel
theorem dX12_send_159 : decode cX12_send 159 = .ok (.goto (-61), 3) := by decide +kernel
theorem dX12_send_162 : decode cX12_send 162 = .ok (.aload_n 0, 1) := by decide +kernel
theorem dX12_send_163 : decode cX12_send 163 = .ok (.iload_n 2, 1) := by decide +kernel
theorem dX12_send_164 : decode cX12_send 164 = .ok (.invokevirtual 369, 3) := by decide +kernel
theorem dX12_send_167 : decode cX12_send 167 = .ok (.aload_n 0, 1) := by decide +kernel
theorem dX12_send_168 : decode cX12_send 168 = .ok (.getfield 186, 3) := by decide +kernel
theorem dX12_send_171 : decode cX12_send 171 = .ok (.iload 4, 2) := by decide +kernel
theorem dX12_send_173 : decode cX12_send 173 = .ok (.aload_n 0, 1) := by decide +kernel
theorem dX12_send_174 : decode cX12_send 174 = .ok (.getfield 356, 3) := by decide +kernel
theorem dX12_send_177 : decode cX12_send 177 = .ok (.iastore, 1) := by decide +kernel
theorem dX12_send_178 : decode cX12_send 178 = .ok (.iconst 0, 1) := by decide +kernel
theorem dX12_send_179 : decode cX12_send 179 = .ok (.istore 5, 2) := by decide +kernel
theorem dX12_send_181 : decode cX12_send 181 = .ok (.iload 5, 2) := by decide +kernel
theorem dX12_send_183 : decode cX12_send 183 = .ok (.aload_n 0, 1) := by decide +kernel
theorem dX12_send_184 : decode cX12_send 184 = .ok (.getfield 356, 3) := by decide +kernel
theorem dX12_send_187 : decode cX12_send 187 = .ok (.if_icmp .ge 29, 3) := by decide +kernel
theorem dX12_send_190 : decode cX12_send 190 = .ok (.aload_n 0, 1) := by decide +kernel
theorem dX12_send_191 : decode cX12_send 191 = .ok (.getfield 189, 3) := by decide +kernel
theorem dX12_send_194 : decode cX12_send 194 = .ok (.bipush 8, 2) := by decide +kernel
theorem dX12_send_196 : decode cX12_send 196 = .ok (.iload 4, 2) := by decide +kernel
theorem dX12_send_198 : decode cX12_send 198 = .ok (.imul, 1) := by decide +kernel
theorem dX12_send_199 : decode cX12_send 199 = .ok (.iload 5, 2) := by decide +kernel
theorem dX12_send_201 : decode cX12_send 201 = .ok (.iadd, 1) := by decide +kernel
theorem dX12_send_202 : decode cX12_send 202 = .ok (.aload_n 0, 1) := by decide +kernel
theorem dX12_send_203 : decode cX12_send 203 = .ok (.getfield 210, 3) := by decide +kernel
theorem dX12_send_206 : decode cX12_send 206 = .ok (.iload 5, 2) := by decide +kernel
theorem dX12_send_208 : decode cX12_send 208 = .ok (.iaload, 1) := by decide +kernel
theorem dX12_send_209 : decode cX12_send 209 = .ok (.iastore, 1) := by decide +kernel
theorem dX12_send_210 : decode cX12_send 210 = .ok (.iinc 5 1, 3) := by decide +kernel
theorem dX12_send_213 : decode cX12_send 213 = .ok (.goto (-32), 3) := by decide +kernel
theorem dX12_send_216 : decode cX12_send 216 = .ok (.aload_n 0, 1) := by decide +kernel
theorem dX12_send_217 : decode cX12_send 217 = .ok (.getfield 192, 3) := by decide +kernel
theorem dX12_send_220 : decode cX12_send 220 = .ok (.iload 4, 2) := by decide +kernel
theorem dX12_send_222 : decode cX12_send 222 = .ok (.iconst 0, 1) := by decide +kernel
theorem dX12_send_223 : decode cX12_send 223 = .ok (.iastore, 1) := by decide +kernel
theorem dX12_send_224 : decode cX12_send 224 = .ok (.aload_n 0, 1) := by decide +kernel
theorem dX12_send_225 : decode cX12_send 225 = .ok (.getfield 195, 3) := by decide +kernel
theorem dX12_send_228 : decode cX12_send 228 = .ok (.iload 4, 2) := by decide +kernel
theorem dX12_send_230 : decode cX12_send 230 = .ok (.iload_n 2, 1) := by decide +kernel
theorem dX12_send_231 : decode cX12_send 231 = .ok (.iastore, 1) := by decide +kernel
theorem dX12_send_232 : decode cX12_send 232 = .ok (.aload_n 0, 1) := by decide +kernel
theorem dX12_send_233 : decode cX12_send 233 = .ok (.getfield 198, 3) := by decide +kernel
theorem dX12_send_236 : decode cX12_send 236 = .ok (.iload 4, 2) := by decide +kernel
theorem dX12_send_238 : decode cX12_send 238 = .ok (.bipush (-2), 2) := by decide +kernel
theorem dX12_send_240 : decode cX12_send 240 = .ok (.iastore, 1) := by decide +kernel
theorem dX12_send_241 : decode cX12_send 241 = .ok (.aload_n 0, 1) := by decide +kernel
theorem dX12_send_242 : decode cX12_send 242 = .ok (.getfield 201, 3) := by decide +kernel
theorem dX12_send_245 : decode cX12_send 245 = .ok (.iload 4, 2) := by decide +kernel
theorem dX12_send_247 : decode cX12_send 247 = .ok (.iconst 0, 1) := by decide +kernel
theorem dX12_send_248 : decode cX12_send 248 = .ok (.iastore, 1) := by decide +kernel
theorem dX12_send_249 : decode cX12_send 249 = .ok (.aload_n 0, 1) := by decide +kernel
theorem dX12_send_250 : decode cX12_send 250 = .ok (.getfield 141, 3) := by decide +kernel
theorem dX12_send_253 : decode cX12_send 253 = .ok (.iload_n 1, 1) := by decide +kernel
theorem dX12_send_254 : decode cX12_send 254 = .ok (.iload_n 2, 1) := by decide +kernel
theorem dX12_send_255 : decode cX12_send 255 = .ok (.iastore, 1) := by decide +kernel
theorem dX12_send_256 : decode cX12_send 256 = .ok (.aload_n 0, 1) := by decide +kernel
theorem dX12_send_257 : decode cX12_send 257 = .ok (.getfield 144, 3) := by decide +kernel
theorem dX12_send_260 : decode cX12_send 260 = .ok (.iload_n 1, 1) := by decide +kernel
theorem dX12_send_261 : decode cX12_send 261 = .ok (.iload_n 3, 1) := by decide +kernel
theorem dX12_send_262 : decode cX12_send 262 = .ok (.iconst 4, 1) := by decide +kernel
theorem dX12_send_263 : decode cX12_send 263 = .ok (.if_icmp .eq 7, 3) := by decide +kernel
theorem dX12_send_266 : decode cX12_send 266 = .ok (.iconst 1, 1) := by decide +kernel
theorem dX12_send_267 : decode cX12_send 267 = .ok (.goto 4, 3) := by decide +kernel
theorem dX12_send_270 : decode cX12_send 270 = .ok (.iconst 0, 1) := by decide +kernel
theorem dX12_send_271 : decode cX12_send 271 = .ok (.bastore, 1) := by decide +kernel
theorem dX12_send_272 : decode cX12_send 272 = .ok (.return_, 1) := by decide +kernel
theorem dX12_goUp_0 : decode cX12_goUp 0 = .ok (.iconst 0, 1) := by decide +kernel
theorem dX12_goUp_1 : decode cX12_goUp 1 = .ok (.istore_n 2, 1) := by decide +kernel
theorem dX12_goUp_2 : decode cX12_goUp 2 = .ok (.iload_n 2, 1) := by decide +kernel
theorem dX12_goUp_3 : decode cX12_goUp 3 = .ok (.aload_n 0, 1) := by decide +kernel
theorem dX12_goUp_4 : decode cX12_goUp 4 = .ok (.getfield 362, 3) := by decide +kernel
theorem dX12_goUp_7 : decode cX12_goUp 7 = .ok (.if_icmp .ge 65, 3) := by decide +kernel
theorem dX12_goUp_10 : decode cX12_goUp 10 = .ok (.aload_n 0, 1) := by decide +kernel
theorem dX12_goUp_11 : decode cX12_goUp 11 = .ok (.getfield 198, 3) := by decide +kernel
theorem dX12_goUp_14 : decode cX12_goUp 14 = .ok (.iload_n 2, 1) := by decide +kernel
theorem dX12_goUp_15 : decode cX12_goUp 15 = .ok (.iaload, 1) := by decide +kernel
theorem dX12_goUp_16 : decode cX12_goUp 16 = .ok (.ifCond .ge 50, 3) := by decide +kernel
theorem dX12_goUp_19 : decode cX12_goUp 19 = .ok (.aload_n 0, 1) := by decide +kernel
theorem dX12_goUp_20 : decode cX12_goUp 20 = .ok (.getfield 192, 3) := by decide +kernel
theorem dX12_goUp_23 : decode cX12_goUp 23 = .ok (.iload_n 2, 1) := by decide +kernel
theorem dX12_goUp_24 : decode cX12_goUp 24 = .ok (.iaload, 1) := by decide +kernel
theorem dX12_goUp_25 : decode cX12_goUp 25 = .ok (.aload_n 0, 1) := by decide +kernel
theorem dX12_goUp_26 : decode cX12_goUp 26 = .ok (.getfield 186, 3) := by decide +kernel
theorem dX12_goUp_29 : decode cX12_goUp 29 = .ok (.iload_n 2, 1) := by decide +kernel
theorem dX12_goUp_30 : decode cX12_goUp 30 = .ok (.iaload, 1) := by decide +kernel
theorem dX12_goUp_31 : decode cX12_goUp 31 = .ok (.if_icmp .ge 35, 3) := by decide +kernel
theorem dX12_goUp_34 : decode cX12_goUp 34 = .ok (.iload_n 1, 1) := by decide +kernel
theorem dX12_goUp_35 : decode cX12_goUp 35 = .ok (.aload_n 0, 1) := by decide +kernel
theorem dX12_goUp_36 : decode cX12_goUp 36 = .ok (.getfield 195, 3) := by decide +kernel
theorem dX12_goUp_39 : decode cX12_goUp 39 = .ok (.iload_n 2, 1) := by decide +kernel
theorem dX12_goUp_40 : decode cX12_goUp 40 = .ok (.iaload, 1) := by decide +kernel
theorem dX12_goUp_41 : decode cX12_goUp 41 = .ok (.aload_n 0, 1) := by decide +kernel
theorem dX12_goUp_42 : decode cX12_goUp 42 = .ok (.getfield 135, 3) := by decide +kernel
theorem dX12_goUp_45 : decode cX12_goUp 45 = .ok (.iadd, 1) := by decide +kernel
theorem dX12_goUp_46 : decode cX12_goUp 46 = .ok (.if_icmp .lt 20, 3) := by decide +kernel
theorem dX12_goUp_49 : decode cX12_goUp 49 = .ok (.aload_n 0, 1) := by decide +kernel
theorem dX12_goUp_50 : decode cX12_goUp 50 = .ok (.getfield 192, 3) := by decide +kernel
theorem dX12_goUp_53 : decode cX12_goUp 53 = .ok (.iload_n 2, 1) := by decide +kernel
theorem dX12_goUp_54 : decode cX12_goUp 54 = .ok (.dup2, 1) := by decide +kernel
theorem dX12_goUp_55 : decode cX12_goUp 55 = .ok (.iaload, 1) := by decide +kernel
theorem dX12_goUp_56 : decode cX12_goUp 56 = .ok (.iconst 1, 1) := by decide +kernel
theorem dX12_goUp_57 : decode cX12_goUp 57 = .ok (.iadd, 1) := by decide +kernel
theorem dX12_goUp_58 : decode cX12_goUp 58 = .ok (.iastore, 1) := by decide +kernel
theorem dX12_goUp_59 : decode cX12_goUp 59 = .ok (.aload_n 0, 1) := by decide +kernel
theorem dX12_goUp_60 : decode cX12_goUp 60 = .ok (.getfield 195, 3) := by decide +kernel
theorem dX12_goUp_63 : decode cX12_goUp 63 = .ok (.iload_n 2, 1) := by decide +kernel
theorem dX12_goUp_64 : decode cX12_goUp 64 = .ok (.iload_n 1, 1) := by decide +kernel
theorem dX12_goUp_65 : decode cX12_goUp 65 = .ok (.iastore, 1) := by decide +kernel
theorem dX12_goUp_66 : decode cX12_goUp 66 = .ok (.iinc 2 1, 3) := by decide +kernel
theorem dX12_goUp_69 : decode cX12_goUp 69 = .ok (.goto (-67), 3) := by decide +kernel
theorem dX12_goUp_72 : decode cX12_goUp 72 = .ok (.return_, 1) := by decide +kernel
theorem dX12_tick_0 : decode cX12_tick 0 = .ok (.aload_n 0, 1) := by decide +kernel
theorem dX12_tick_1 : decode cX12_tick 1 = .ok (.iconst 0, 1) := by decide +kernel
theorem dX12_tick_2 : decode cX12_tick 2 = .ok (.putfield 228, 3) := by decide +kernel
theorem dX12_tick_5 : decode cX12_tick 5 = .ok (.aload_n 0, 1) := by decide +kernel
theorem dX12_tick_6 : decode cX12_tick 6 = .ok (.getfield 262, 3) := by decide +kernel
theorem dX12_tick_9 : decode cX12_tick 9 = .ok (.sipush 400, 3) := by decide +kernel
theorem dX12_tick_12 : decode cX12_tick 12 = .ok (.if_icmp .ne 6, 3) := by decide +kernel
theorem dX12_tick_15 : decode cX12_tick 15 = .ok (.bipush (-2), 2) := by decide +kernel
theorem dX12_tick_17 : decode cX12_tick 17 = .ok (.ireturn, 1) := by decide +kernel
theorem dX12_tick_18 : decode cX12_tick 18 = .ok (.aload_n 0, 1) := by decide +kernel
theorem dX12_tick_19 : decode cX12_tick 19 = .ok (.getfield 262, 3) := by decide +kernel
theorem dX12_tick_22 : decode cX12_tick 22 = .ok (.iconst 1, 1) := by decide +kernel
theorem dX12_tick_23 : decode cX12_tick 23 = .ok (.iadd, 1) := by decide +kernel
theorem dX12_tick_24 : decode cX12_tick 24 = .ok (.istore_n 1, 1) := by decide +kernel
theorem dX12_tick_25 : decode cX12_tick 25 = .ok (.iconst 0, 1) := by decide +kernel
theorem dX12_tick_26 : decode cX12_tick 26 = .ok (.istore_n 2, 1) := by decide +kernel
theorem dX12_tick_27 : decode cX12_tick 27 = .ok (.iload_n 2, 1) := by decide +kernel
theorem dX12_tick_28 : decode cX12_tick 28 = .ok (.aload_n 0, 1) := by decide +kernel
theorem dX12_tick_29 : decode cX12_tick 29 = .ok (.getfield 234, 3) := by decide +kernel
theorem dX12_tick_32 : decode cX12_tick 32 = .ok (.if_icmp .ge 32, 3) := by decide +kernel
theorem dX12_tick_35 : decode cX12_tick 35 = .ok (.iconst 0, 1) := by decide +kernel
theorem dX12_tick_36 : decode cX12_tick 36 = .ok (.istore_n 3, 1) := by decide +kernel
theorem dX12_tick_37 : decode cX12_tick 37 = .ok (.iload_n 3, 1) := by decide +kernel
theorem dX12_tick_38 : decode cX12_tick 38 = .ok (.aload_n 0, 1) := by decide +kernel
theorem dX12_tick_39 : decode cX12_tick 39 = .ok (.getfield 231, 3) := by decide +kernel
theorem dX12_tick_42 : decode cX12_tick 42 = .ok (.if_icmp .ge 16, 3) := by decide +kernel
theorem dX12_tick_45 : decode cX12_tick 45 = .ok (.aload_n 0, 1) := by decide +kernel
theorem dX12_tick_46 : decode cX12_tick 46 = .ok (.iload_n 2, 1) := by decide +kernel
theorem dX12_tick_47 : decode cX12_tick 47 = .ok (.iload_n 3, 1) := by decide +kernel
theorem dX12_tick_48 : decode cX12_tick 48 = .ok (.iload_n 1, 1) := by decide +kernel
theorem dX12_tick_49 : decode cX12_tick 49 = .ok (.invokevirtual 372, 3) := by decide +kernel
theorem dX12_tick_52 : decode cX12_tick 52 = .ok (.iinc 3 1, 3) := by decide +kernel
theorem dX12_tick_55 : decode cX12_tick 55 = .ok (.goto (-18), 3) := by decide +kernel
theorem dX12_tick_58 : decode cX12_tick 58 = .ok (.iinc 2 1, 3) := by decide +kernel
theorem dX12_tick_61 : decode cX12_tick 61 = .ok (.goto (-34), 3) := by decide +kernel
theorem dX12_tick_64 : decode cX12_tick 64 = .ok (.aload_n 0, 1) := by decide +kernel
theorem dX12_tick_65 : decode cX12_tick 65 = .ok (.iload_n 1, 1) := by decide +kernel
theorem dX12_tick_66 : decode cX12_tick 66 = .ok (.invokevirtual 375, 3) := by decide +kernel
theorem dX12_tick_69 : decode cX12_tick 69 = .ok (.aload_n 0, 1) := by decide +kernel
theorem dX12_tick_70 : decode cX12_tick 70 = .ok (.iload_n 1, 1) := by decide +kernel
theorem dX12_tick_71 : decode cX12_tick 71 = .ok (.invokevirtual 378, 3) := by decide +kernel
theorem dX12_tick_74 : decode cX12_tick 74 = .ok (.aload_n 0, 1) := by decide +kernel
theorem dX12_tick_75 : decode cX12_tick 75 = .ok (.getfield 362, 3) := by decide +kernel
theorem dX12_tick_78 : decode cX12_tick 78 = .ok (.istore_n 2, 1) := by decide +kernel
theorem dX12_tick_79 : decode cX12_tick 79 = .ok (.iconst 0, 1) := by decide +kernel
theorem dX12_tick_80 : decode cX12_tick 80 = .ok (.istore_n 3, 1) := by decide +kernel
theorem dX12_tick_81 : decode cX12_tick 81 = .ok (.iload_n 3, 1) := by decide +kernel
theorem dX12_tick_82 : decode cX12_tick 82 = .ok (.aload_n 0, 1) := by decide +kernel
theorem dX12_tick_83 : decode cX12_tick 83 = .ok (.getfield 333, 3) := by decide +kernel
theorem dX12_tick_86 : decode cX12_tick 86 = .ok (.if_icmp .ge 40, 3) := by decide +kernel
theorem dX12_tick_89 : decode cX12_tick 89 = .ok (.aload_n 0, 1) := by decide +kernel
theorem dX12_tick_90 : decode cX12_tick 90 = .ok (.iload_n 3, 1) := by decide +kernel
theorem dX12_tick_91 : decode cX12_tick 91 = .ok (.iload_n 1, 1) := by decide +kernel
theorem dX12_tick_92 : decode cX12_tick 92 = .ok (.invokevirtual 381, 3) := by decide +kernel
theorem dX12_tick_95 : decode cX12_tick 95 = .ok (.istore 4, 2) := by decide +kernel
theorem dX12_tick_97 : decode cX12_tick 97 = .ok (.iload 4, 2) := by decide +kernel
theorem dX12_tick_99 : decode cX12_tick 99 = .ok (.ifCond .le 21, 3) := by decide +kernel
theorem dX12_tick_102 : decode cX12_tick 102 = .ok (.aload_n 0, 1) := by decide +kernel
theorem dX12_tick_103 : decode cX12_tick 103 = .ok (.getfield 362, 3) := by decide +kernel
theorem dX12_tick_106 : decode cX12_tick 106 = .ok (.sipush 200, 3) := by decide +kernel
theorem dX12_tick_109 : decode cX12_tick 109 = .ok (.if_icmp .ge 11, 3) := by decide +kernel
theorem dX12_tick_112 : decode cX12_tick 112 = .ok (.aload_n 0, 1) := by decide +kernel
theorem dX12_tick_113 : decode cX12_tick 113 = .ok (.iload_n 3, 1) := by decide +kernel
theorem dX12_tick_114 : decode cX12_tick 114 = .ok (.iload_n 1, 1) := by decide +kernel
theorem dX12_tick_115 : decode cX12_tick 115 = .ok (.iload 4, 2) := by decide +kernel
theorem dX12_tick_117 : decode cX12_tick 117 = .ok (.invokevirtual 384, 3) := by decide +kernel
theorem dX12_tick_120 : decode cX12_tick 120 = .ok (.iinc 3 1, 3) := by decide +kernel
theorem dX12_tick_123 : decode cX12_tick 123 = .ok (.goto (-42), 3) := by decide +kernel
theorem dX12_tick_126 : decode cX12_tick 126 = .ok (.aload_n 0, 1) := by decide +kernel
theorem dX12_tick_127 : decode cX12_tick 127 = .ok (.iload_n 1, 1) := by decide +kernel
theorem dX12_tick_128 : decode cX12_tick 128 = .ok (.putfield 262, 3) := by decide +kernel
theorem dX12_tick_131 : decode cX12_tick 131 = .ok (.aload_n 0, 1) := by decide +kernel
theorem dX12_tick_132 : decode cX12_tick 132 = .ok (.getfield 362, 3) := by decide +kernel
theorem dX12_tick_135 : decode cX12_tick 135 = .ok (.iload_n 2, 1) := by decide +kernel
theorem dX12_tick_136 : decode cX12_tick 136 = .ok (.isub, 1) := by decide +kernel
theorem dX12_tick_137 : decode cX12_tick 137 = .ok (.ireturn, 1) := by decide +kernel
theorem dX12_truth_0 : decode cX12_truth 0 = .ok (.aload_n 0, 1) := by decide +kernel
theorem dX12_truth_1 : decode cX12_truth 1 = .ok (.iconst 0, 1) := by decide +kernel
theorem dX12_truth_2 : decode cX12_truth 2 = .ok (.putfield 228, 3) := by decide +kernel
theorem dX12_truth_5 : decode cX12_truth 5 = .ok (.aload_n 0, 1) := by decide +kernel
theorem dX12_truth_6 : decode cX12_truth 6 = .ok (.iload_n 1, 1) := by decide +kernel
theorem dX12_truth_7 : decode cX12_truth 7 = .ok (.invokevirtual 258, 3) := by decide +kernel
theorem dX12_truth_10 : decode cX12_truth 10 = .ok (.ifCond .eq 11, 3) := by decide +kernel
theorem dX12_truth_13 : decode cX12_truth 13 = .ok (.aload_n 0, 1) := by decide +kernel
theorem dX12_truth_14 : decode cX12_truth 14 = .ok (.iload_n 2, 1) := by decide +kernel
theorem dX12_truth_15 : decode cX12_truth 15 = .ok (.invokevirtual 299, 3) := by decide +kernel
theorem dX12_truth_18 : decode cX12_truth 18 = .ok (.ifCond .ne 6, 3) := by decide +kernel
theorem dX12_truth_21 : decode cX12_truth 21 = .ok (.bipush (-2), 2) := by decide +kernel
theorem dX12_truth_23 : decode cX12_truth 23 = .ok (.ireturn, 1) := by decide +kernel
theorem dX12_truth_24 : decode cX12_truth 24 = .ok (.aload_n 0, 1) := by decide +kernel
theorem dX12_truth_25 : decode cX12_truth 25 = .ok (.getfield 262, 3) := by decide +kernel
theorem dX12_truth_28 : decode cX12_truth 28 = .ok (.ifCond .ne 8, 3) := by decide +kernel
theorem dX12_truth_31 : decode cX12_truth 31 = .ok (.bipush (-3), 2) := by decide +kernel
theorem dX12_truth_33 : decode cX12_truth 33 = .ok (.goto 13, 3) := by decide +kernel
theorem dX12_truth_36 : decode cX12_truth 36 = .ok (.aload_n 0, 1) := by decide +kernel
theorem dX12_truth_37 : decode cX12_truth 37 = .ok (.iload_n 1, 1) := by decide +kernel
theorem dX12_truth_38 : decode cX12_truth 38 = .ok (.iload_n 2, 1) := by decide +kernel
theorem dX12_truth_39 : decode cX12_truth 39 = .ok (.aload_n 0, 1) := by decide +kernel
theorem dX12_truth_40 : decode cX12_truth 40 = .ok (.getfield 262, 3) := by decide +kernel
theorem dX12_truth_43 : decode cX12_truth 43 = .ok (.invokevirtual 317, 3) := by decide +kernel
theorem dX12_truth_46 : decode cX12_truth 46 = .ok (.ireturn, 1) := by decide +kernel
theorem dX12_counts_0 : decode cX12_counts 0 = .ok (.aload_n 0, 1) := by decide +kernel
theorem dX12_counts_1 : decode cX12_counts 1 = .ok (.iconst 0, 1) := by decide +kernel
theorem dX12_counts_2 : decode cX12_counts 2 = .ok (.putfield 228, 3) := by decide +kernel
theorem dX12_counts_5 : decode cX12_counts 5 = .ok (.aload_n 0, 1) := by decide +kernel
theorem dX12_counts_6 : decode cX12_counts 6 = .ok (.iload_n 1, 1) := by decide +kernel
theorem dX12_counts_7 : decode cX12_counts 7 = .ok (.invokevirtual 258, 3) := by decide +kernel
theorem dX12_counts_10 : decode cX12_counts 10 = .ok (.ifCond .eq 23, 3) := by decide +kernel
theorem dX12_counts_13 : decode cX12_counts 13 = .ok (.aload_n 0, 1) := by decide +kernel
theorem dX12_counts_14 : decode cX12_counts 14 = .ok (.iload_n 2, 1) := by decide +kernel
theorem dX12_counts_15 : decode cX12_counts 15 = .ok (.invokevirtual 299, 3) := by decide +kernel
theorem dX12_counts_18 : decode cX12_counts 18 = .ok (.ifCond .eq 15, 3) := by decide +kernel
theorem dX12_counts_21 : decode cX12_counts 21 = .ok (.iload_n 3, 1) := by decide +kernel
theorem dX12_counts_22 : decode cX12_counts 22 = .ok (.i2l, 1) := by decide +kernel
theorem dX12_counts_23 : decode cX12_counts 23 = .ok (.lconst 0, 1) := by decide +kernel
theorem dX12_counts_24 : decode cX12_counts 24 = .ok (.ldc2_w 268, 3) := by decide +kernel
theorem dX12_counts_27 : decode cX12_counts 27 = .ok (.invokestatic 242, 3) := by decide +kernel
theorem dX12_counts_30 : decode cX12_counts 30 = .ok (.ifCond .ne 5, 3) := by decide +kernel
theorem dX12_counts_33 : decode cX12_counts 33 = .ok (.iconst (-1), 1) := by decide +kernel
theorem dX12_counts_34 : decode cX12_counts 34 = .ok (.ireturn, 1) := by decide +kernel
theorem dX12_counts_35 : decode cX12_counts 35 = .ok (.bipush 16, 2) := by decide +kernel
theorem dX12_counts_37 : decode cX12_counts 37 = .ok (.iload_n 1, 1) := by decide +kernel
theorem dX12_counts_38 : decode cX12_counts 38 = .ok (.imul, 1) := by decide +kernel
theorem dX12_counts_39 : decode cX12_counts 39 = .ok (.iload_n 2, 1) := by decide +kernel
theorem dX12_counts_40 : decode cX12_counts 40 = .ok (.iadd, 1) := by decide +kernel
theorem dX12_counts_41 : decode cX12_counts 41 = .ok (.istore 4, 2) := by decide +kernel
theorem dX12_counts_43 : decode cX12_counts 43 = .ok (.iload_n 3, 1) := by decide +kernel
theorem dX12_counts_44 : decode cX12_counts 44 = .ok (.ifCond .ne 13, 3) := by decide +kernel
theorem dX12_counts_47 : decode cX12_counts 47 = .ok (.aload_n 0, 1) := by decide +kernel
theorem dX12_counts_48 : decode cX12_counts 48 = .ok (.getfield 56, 3) := by decide +kernel
theorem dX12_counts_51 : decode cX12_counts 51 = .ok (.iload 4, 2) := by decide +kernel
theorem dX12_counts_53 : decode cX12_counts 53 = .ok (.iaload, 1) := by decide +kernel
theorem dX12_counts_54 : decode cX12_counts 54 = .ok (.goto 40, 3) := by decide +kernel
theorem dX12_counts_57 : decode cX12_counts 57 = .ok (.iload_n 3, 1) := by decide +kernel
theorem dX12_counts_58 : decode cX12_counts 58 = .ok (.iconst 1, 1) := by decide +kernel
theorem dX12_counts_59 : decode cX12_counts 59 = .ok (.if_icmp .ne 13, 3) := by decide +kernel
theorem dX12_counts_62 : decode cX12_counts 62 = .ok (.aload_n 0, 1) := by decide +kernel
theorem dX12_counts_63 : decode cX12_counts 63 = .ok (.getfield 59, 3) := by decide +kernel
theorem dX12_counts_66 : decode cX12_counts 66 = .ok (.iload 4, 2) := by decide +kernel
theorem dX12_counts_68 : decode cX12_counts 68 = .ok (.iaload, 1) := by decide +kernel
theorem dX12_counts_69 : decode cX12_counts 69 = .ok (.goto 25, 3) := by decide +kernel
theorem dX12_counts_72 : decode cX12_counts 72 = .ok (.aload_n 0, 1) := by decide +kernel
theorem dX12_counts_73 : decode cX12_counts 73 = .ok (.getfield 62, 3) := by decide +kernel
theorem dX12_counts_76 : decode cX12_counts 76 = .ok (.iload 4, 2) := by decide +kernel
theorem dX12_counts_78 : decode cX12_counts 78 = .ok (.iaload, 1) := by decide +kernel
theorem dX12_counts_79 : decode cX12_counts 79 = .ok (.ifCond .ge 8, 3) := by decide +kernel
theorem dX12_counts_82 : decode cX12_counts 82 = .ok (.bipush (-2), 2) := by decide +kernel
theorem dX12_counts_84 : decode cX12_counts 84 = .ok (.goto 10, 3) := by decide +kernel
theorem dX12_counts_87 : decode cX12_counts 87 = .ok (.aload_n 0, 1) := by decide +kernel
theorem dX12_counts_88 : decode cX12_counts 88 = .ok (.getfield 62, 3) := by decide +kernel
theorem dX12_counts_91 : decode cX12_counts 91 = .ok (.iload 4, 2) := by decide +kernel
theorem dX12_counts_93 : decode cX12_counts 93 = .ok (.iaload, 1) := by decide +kernel
theorem dX12_counts_94 : decode cX12_counts 94 = .ok (.ireturn, 1) := by decide +kernel
theorem dX12_alarm_0 : decode cX12_alarm 0 = .ok (.aload_n 0, 1) := by decide +kernel
theorem dX12_alarm_1 : decode cX12_alarm 1 = .ok (.iconst 0, 1) := by decide +kernel
theorem dX12_alarm_2 : decode cX12_alarm 2 = .ok (.putfield 228, 3) := by decide +kernel
theorem dX12_alarm_5 : decode cX12_alarm 5 = .ok (.iload_n 1, 1) := by decide +kernel
theorem dX12_alarm_6 : decode cX12_alarm 6 = .ok (.ifCond .lt 11, 3) := by decide +kernel
theorem dX12_alarm_9 : decode cX12_alarm 9 = .ok (.iload_n 1, 1) := by decide +kernel
theorem dX12_alarm_10 : decode cX12_alarm 10 = .ok (.aload_n 0, 1) := by decide +kernel
theorem dX12_alarm_11 : decode cX12_alarm 11 = .ok (.getfield 284, 3) := by decide +kernel
theorem dX12_alarm_14 : decode cX12_alarm 14 = .ok (.if_icmp .lt 5, 3) := by decide +kernel
theorem dX12_alarm_17 : decode cX12_alarm 17 = .ok (.iconst (-1), 1) := by decide +kernel
theorem dX12_alarm_18 : decode cX12_alarm 18 = .ok (.ireturn, 1) := by decide +kernel
theorem dX12_alarm_19 : decode cX12_alarm 19 = .ok (.iload_n 2, 1) := by decide +kernel
theorem dX12_alarm_20 : decode cX12_alarm 20 = .ok (.tableswitch 136 0 8 #[52, 59, 66, 73, 80, 92, 107, 122, 129], 52) := by decide +kernel
theorem dX12_alarm_72 : decode cX12_alarm 72 = .ok (.aload_n 0, 1) := by decide +kernel
theorem dX12_alarm_73 : decode cX12_alarm 73 = .ok (.getfield 86, 3) := by decide +kernel
theorem dX12_alarm_76 : decode cX12_alarm 76 = .ok (.iload_n 1, 1) := by decide +kernel
theorem dX12_alarm_77 : decode cX12_alarm 77 = .ok (.iaload, 1) := by decide +kernel
theorem dX12_alarm_78 : decode cX12_alarm 78 = .ok (.ireturn, 1) := by decide +kernel
theorem dX12_alarm_79 : decode cX12_alarm 79 = .ok (.aload_n 0, 1) := by decide +kernel
theorem dX12_alarm_80 : decode cX12_alarm 80 = .ok (.getfield 89, 3) := by decide +kernel
theorem dX12_alarm_83 : decode cX12_alarm 83 = .ok (.iload_n 1, 1) := by decide +kernel
theorem dX12_alarm_84 : decode cX12_alarm 84 = .ok (.iaload, 1) := by decide +kernel
theorem dX12_alarm_85 : decode cX12_alarm 85 = .ok (.ireturn, 1) := by decide +kernel
theorem dX12_alarm_86 : decode cX12_alarm 86 = .ok (.aload_n 0, 1) := by decide +kernel
theorem dX12_alarm_87 : decode cX12_alarm 87 = .ok (.getfield 92, 3) := by decide +kernel
theorem dX12_alarm_90 : decode cX12_alarm 90 = .ok (.iload_n 1, 1) := by decide +kernel
theorem dX12_alarm_91 : decode cX12_alarm 91 = .ok (.iaload, 1) := by decide +kernel
theorem dX12_alarm_92 : decode cX12_alarm 92 = .ok (.ireturn, 1) := by decide +kernel
theorem dX12_alarm_93 : decode cX12_alarm 93 = .ok (.aload_n 0, 1) := by decide +kernel
theorem dX12_alarm_94 : decode cX12_alarm 94 = .ok (.getfield 95, 3) := by decide +kernel
theorem dX12_alarm_97 : decode cX12_alarm 97 = .ok (.iload_n 1, 1) := by decide +kernel
theorem dX12_alarm_98 : decode cX12_alarm 98 = .ok (.iaload, 1) := by decide +kernel
theorem dX12_alarm_99 : decode cX12_alarm 99 = .ok (.ireturn, 1) := by decide +kernel
theorem dX12_alarm_100 : decode cX12_alarm 100 = .ok (.aload_n 0, 1) := by decide +kernel
theorem dX12_alarm_101 : decode cX12_alarm 101 = .ok (.getfield 39, 3) := by decide +kernel
theorem dX12_alarm_104 : decode cX12_alarm 104 = .ok (.aload_n 0, 1) := by decide +kernel
theorem dX12_alarm_105 : decode cX12_alarm 105 = .ok (.getfield 86, 3) := by decide +kernel
theorem dX12_alarm_108 : decode cX12_alarm 108 = .ok (.iload_n 1, 1) := by decide +kernel
theorem dX12_alarm_109 : decode cX12_alarm 109 = .ok (.iaload, 1) := by decide +kernel
theorem dX12_alarm_110 : decode cX12_alarm 110 = .ok (.iaload, 1) := by decide +kernel
theorem dX12_alarm_111 : decode cX12_alarm 111 = .ok (.ireturn, 1) := by decide +kernel
theorem dX12_alarm_112 : decode cX12_alarm 112 = .ok (.aload_n 0, 1) := by decide +kernel
theorem dX12_alarm_113 : decode cX12_alarm 113 = .ok (.getfield 98, 3) := by decide +kernel
theorem dX12_alarm_116 : decode cX12_alarm 116 = .ok (.iload_n 1, 1) := by decide +kernel
theorem dX12_alarm_117 : decode cX12_alarm 117 = .ok (.baload, 1) := by decide +kernel
theorem dX12_alarm_118 : decode cX12_alarm 118 = .ok (.ifCond .eq 7, 3) := by decide +kernel
theorem dX12_alarm_121 : decode cX12_alarm 121 = .ok (.iconst 1, 1) := by decide +kernel
theorem dX12_alarm_122 : decode cX12_alarm 122 = .ok (.goto 4, 3) := by decide +kernel
theorem dX12_alarm_125 : decode cX12_alarm 125 = .ok (.iconst 0, 1) := by decide +kernel
theorem dX12_alarm_126 : decode cX12_alarm 126 = .ok (.ireturn, 1) := by decide +kernel
theorem dX12_alarm_127 : decode cX12_alarm 127 = .ok (.aload_n 0, 1) := by decide +kernel
theorem dX12_alarm_128 : decode cX12_alarm 128 = .ok (.getfield 101, 3) := by decide +kernel
theorem dX12_alarm_131 : decode cX12_alarm 131 = .ok (.iload_n 1, 1) := by decide +kernel
theorem dX12_alarm_132 : decode cX12_alarm 132 = .ok (.baload, 1) := by decide +kernel
theorem dX12_alarm_133 : decode cX12_alarm 133 = .ok (.ifCond .eq 7, 3) := by decide +kernel
theorem dX12_alarm_136 : decode cX12_alarm 136 = .ok (.iconst 1, 1) := by decide +kernel
theorem dX12_alarm_137 : decode cX12_alarm 137 = .ok (.goto 4, 3) := by decide +kernel
theorem dX12_alarm_140 : decode cX12_alarm 140 = .ok (.iconst 0, 1) := by decide +kernel
theorem dX12_alarm_141 : decode cX12_alarm 141 = .ok (.ireturn, 1) := by decide +kernel
theorem dX12_alarm_142 : decode cX12_alarm 142 = .ok (.aload_n 0, 1) := by decide +kernel
theorem dX12_alarm_143 : decode cX12_alarm 143 = .ok (.getfield 104, 3) := by decide +kernel
theorem dX12_alarm_146 : decode cX12_alarm 146 = .ok (.iload_n 1, 1) := by decide +kernel
theorem dX12_alarm_147 : decode cX12_alarm 147 = .ok (.iaload, 1) := by decide +kernel
theorem dX12_alarm_148 : decode cX12_alarm 148 = .ok (.ireturn, 1) := by decide +kernel
theorem dX12_alarm_149 : decode cX12_alarm 149 = .ok (.aload_n 0, 1) := by decide +kernel
theorem dX12_alarm_150 : decode cX12_alarm 150 = .ok (.getfield 107, 3) := by decide +kernel
theorem dX12_alarm_153 : decode cX12_alarm 153 = .ok (.iload_n 1, 1) := by decide +kernel
theorem dX12_alarm_154 : decode cX12_alarm 154 = .ok (.iaload, 1) := by decide +kernel
theorem dX12_alarm_155 : decode cX12_alarm 155 = .ok (.ireturn, 1) := by decide +kernel
theorem dX12_alarm_156 : decode cX12_alarm 156 = .ok (.iconst (-1), 1) := by decide +kernel
theorem dX12_alarm_157 : decode cX12_alarm 157 = .ok (.ireturn, 1) := by decide +kernel
theorem dX12_isLetter_0 : decode cX12_isLetter 0 = .ok (.iload_n 1, 1) := by decide +kernel
theorem dX12_isLetter_1 : decode cX12_isLetter 1 = .ok (.ifCond .lt 15, 3) := by decide +kernel
theorem dX12_isLetter_4 : decode cX12_isLetter 4 = .ok (.iload_n 1, 1) := by decide +kernel
theorem dX12_isLetter_5 : decode cX12_isLetter 5 = .ok (.aload_n 0, 1) := by decide +kernel
theorem dX12_isLetter_6 : decode cX12_isLetter 6 = .ok (.getfield 362, 3) := by decide +kernel
theorem dX12_isLetter_9 : decode cX12_isLetter 9 = .ok (.if_icmp .ge 7, 3) := by decide +kernel
theorem dX12_isLetter_12 : decode cX12_isLetter 12 = .ok (.iconst 1, 1) := by decide +kernel
theorem dX12_isLetter_13 : decode cX12_isLetter 13 = .ok (.goto 4, 3) := by decide +kernel
theorem dX12_isLetter_16 : decode cX12_isLetter 16 = .ok (.iconst 0, 1) := by decide +kernel
theorem dX12_isLetter_17 : decode cX12_isLetter 17 = .ok (.ireturn, 1) := by decide +kernel
theorem dX12_letter_0 : decode cX12_letter 0 = .ok (.aload_n 0, 1) := by decide +kernel
theorem dX12_letter_1 : decode cX12_letter 1 = .ok (.iconst 0, 1) := by decide +kernel
theorem dX12_letter_2 : decode cX12_letter 2 = .ok (.putfield 228, 3) := by decide +kernel
theorem dX12_letter_5 : decode cX12_letter 5 = .ok (.aload_n 0, 1) := by decide +kernel
theorem dX12_letter_6 : decode cX12_letter 6 = .ok (.iload_n 1, 1) := by decide +kernel
theorem dX12_letter_7 : decode cX12_letter 7 = .ok (.invokevirtual 387, 3) := by decide +kernel
theorem dX12_letter_10 : decode cX12_letter 10 = .ok (.ifCond .ne 5, 3) := by decide +kernel
theorem dX12_letter_13 : decode cX12_letter 13 = .ok (.iconst (-1), 1) := by decide +kernel
theorem dX12_letter_14 : decode cX12_letter 14 = .ok (.ireturn, 1) := by decide +kernel
theorem dX12_letter_15 : decode cX12_letter 15 = .ok (.iload_n 2, 1) := by decide +kernel
theorem dX12_letter_16 : decode cX12_letter 16 = .ok (.tableswitch 171 0 8 #[52, 59, 83, 90, 127, 134, 141, 148, 155], 52) := by decide +kernel
theorem dX12_letter_68 : decode cX12_letter 68 = .ok (.aload_n 0, 1) := by decide +kernel
theorem dX12_letter_69 : decode cX12_letter 69 = .ok (.getfield 171, 3) := by decide +kernel
theorem dX12_letter_72 : decode cX12_letter 72 = .ok (.iload_n 1, 1) := by decide +kernel
theorem dX12_letter_73 : decode cX12_letter 73 = .ok (.iaload, 1) := by decide +kernel
theorem dX12_letter_74 : decode cX12_letter 74 = .ok (.ireturn, 1) := by decide +kernel
theorem dX12_letter_75 : decode cX12_letter 75 = .ok (.aload_n 0, 1) := by decide +kernel
theorem dX12_letter_76 : decode cX12_letter 76 = .ok (.getfield 180, 3) := by decide +kernel
theorem dX12_letter_79 : decode cX12_letter 79 = .ok (.iload_n 1, 1) := by decide +kernel
theorem dX12_letter_80 : decode cX12_letter 80 = .ok (.iaload, 1) := by decide +kernel
theorem dX12_letter_81 : decode cX12_letter 81 = .ok (.ifCond .ne 8, 3) := by decide +kernel
theorem dX12_letter_84 : decode cX12_letter 84 = .ok (.bipush (-2), 2) := by decide +kernel
theorem dX12_letter_86 : decode cX12_letter 86 = .ok (.goto 12, 3) := by decide +kernel
theorem dX12_letter_89 : decode cX12_letter 89 = .ok (.aload_n 0, 1) := by decide +kernel
theorem dX12_letter_90 : decode cX12_letter 90 = .ok (.getfield 183, 3) := by decide +kernel
theorem dX12_letter_93 : decode cX12_letter 93 = .ok (.bipush 40, 2) := by decide +kernel
theorem dX12_letter_95 : decode cX12_letter 95 = .ok (.iload_n 1, 1) := by decide +kernel
theorem dX12_letter_96 : decode cX12_letter 96 = .ok (.imul, 1) := by decide +kernel
theorem dX12_letter_97 : decode cX12_letter 97 = .ok (.iaload, 1) := by decide +kernel
theorem dX12_letter_98 : decode cX12_letter 98 = .ok (.ireturn, 1) := by decide +kernel
theorem dX12_letter_99 : decode cX12_letter 99 = .ok (.aload_n 0, 1) := by decide +kernel
theorem dX12_letter_100 : decode cX12_letter 100 = .ok (.getfield 180, 3) := by decide +kernel
theorem dX12_letter_103 : decode cX12_letter 103 = .ok (.iload_n 1, 1) := by decide +kernel
theorem dX12_letter_104 : decode cX12_letter 104 = .ok (.iaload, 1) := by decide +kernel
theorem dX12_letter_105 : decode cX12_letter 105 = .ok (.ireturn, 1) := by decide +kernel
theorem dX12_letter_106 : decode cX12_letter 106 = .ok (.aload_n 0, 1) := by decide +kernel
theorem dX12_letter_107 : decode cX12_letter 107 = .ok (.getfield 192, 3) := by decide +kernel
theorem dX12_letter_110 : decode cX12_letter 110 = .ok (.iload_n 1, 1) := by decide +kernel
theorem dX12_letter_111 : decode cX12_letter 111 = .ok (.iaload, 1) := by decide +kernel
theorem dX12_letter_112 : decode cX12_letter 112 = .ok (.aload_n 0, 1) := by decide +kernel
theorem dX12_letter_113 : decode cX12_letter 113 = .ok (.getfield 186, 3) := by decide +kernel
theorem dX12_letter_116 : decode cX12_letter 116 = .ok (.iload_n 1, 1) := by decide +kernel
theorem dX12_letter_117 : decode cX12_letter 117 = .ok (.iaload, 1) := by decide +kernel
theorem dX12_letter_118 : decode cX12_letter 118 = .ok (.if_icmp .ge 22, 3) := by decide +kernel
theorem dX12_letter_121 : decode cX12_letter 121 = .ok (.aload_n 0, 1) := by decide +kernel
theorem dX12_letter_122 : decode cX12_letter 122 = .ok (.getfield 189, 3) := by decide +kernel
theorem dX12_letter_125 : decode cX12_letter 125 = .ok (.bipush 8, 2) := by decide +kernel
theorem dX12_letter_127 : decode cX12_letter 127 = .ok (.iload_n 1, 1) := by decide +kernel
theorem dX12_letter_128 : decode cX12_letter 128 = .ok (.imul, 1) := by decide +kernel
theorem dX12_letter_129 : decode cX12_letter 129 = .ok (.aload_n 0, 1) := by decide +kernel
theorem dX12_letter_130 : decode cX12_letter 130 = .ok (.getfield 192, 3) := by decide +kernel
theorem dX12_letter_133 : decode cX12_letter 133 = .ok (.iload_n 1, 1) := by decide +kernel
theorem dX12_letter_134 : decode cX12_letter 134 = .ok (.iaload, 1) := by decide +kernel
theorem dX12_letter_135 : decode cX12_letter 135 = .ok (.iadd, 1) := by decide +kernel
theorem dX12_letter_136 : decode cX12_letter 136 = .ok (.iaload, 1) := by decide +kernel
theorem dX12_letter_137 : decode cX12_letter 137 = .ok (.goto 5, 3) := by decide +kernel
theorem dX12_letter_140 : decode cX12_letter 140 = .ok (.bipush (-2), 2) := by decide +kernel
theorem dX12_letter_142 : decode cX12_letter 142 = .ok (.ireturn, 1) := by decide +kernel
theorem dX12_letter_143 : decode cX12_letter 143 = .ok (.aload_n 0, 1) := by decide +kernel
theorem dX12_letter_144 : decode cX12_letter 144 = .ok (.getfield 195, 3) := by decide +kernel
theorem dX12_letter_147 : decode cX12_letter 147 = .ok (.iload_n 1, 1) := by decide +kernel
theorem dX12_letter_148 : decode cX12_letter 148 = .ok (.iaload, 1) := by decide +kernel
theorem dX12_letter_149 : decode cX12_letter 149 = .ok (.ireturn, 1) := by decide +kernel
theorem dX12_letter_150 : decode cX12_letter 150 = .ok (.aload_n 0, 1) := by decide +kernel
theorem dX12_letter_151 : decode cX12_letter 151 = .ok (.getfield 198, 3) := by decide +kernel
theorem dX12_letter_154 : decode cX12_letter 154 = .ok (.iload_n 1, 1) := by decide +kernel
theorem dX12_letter_155 : decode cX12_letter 155 = .ok (.iaload, 1) := by decide +kernel
theorem dX12_letter_156 : decode cX12_letter 156 = .ok (.ireturn, 1) := by decide +kernel
theorem dX12_letter_157 : decode cX12_letter 157 = .ok (.aload_n 0, 1) := by decide +kernel
theorem dX12_letter_158 : decode cX12_letter 158 = .ok (.getfield 201, 3) := by decide +kernel
theorem dX12_letter_161 : decode cX12_letter 161 = .ok (.iload_n 1, 1) := by decide +kernel
theorem dX12_letter_162 : decode cX12_letter 162 = .ok (.iaload, 1) := by decide +kernel
theorem dX12_letter_163 : decode cX12_letter 163 = .ok (.ireturn, 1) := by decide +kernel
theorem dX12_letter_164 : decode cX12_letter 164 = .ok (.aload_n 0, 1) := by decide +kernel
theorem dX12_letter_165 : decode cX12_letter 165 = .ok (.getfield 186, 3) := by decide +kernel
theorem dX12_letter_168 : decode cX12_letter 168 = .ok (.iload_n 1, 1) := by decide +kernel
theorem dX12_letter_169 : decode cX12_letter 169 = .ok (.iaload, 1) := by decide +kernel
theorem dX12_letter_170 : decode cX12_letter 170 = .ok (.ireturn, 1) := by decide +kernel
theorem dX12_letter_171 : decode cX12_letter 171 = .ok (.aload_n 0, 1) := by decide +kernel
theorem dX12_letter_172 : decode cX12_letter 172 = .ok (.getfield 177, 3) := by decide +kernel
theorem dX12_letter_175 : decode cX12_letter 175 = .ok (.iload_n 1, 1) := by decide +kernel
theorem dX12_letter_176 : decode cX12_letter 176 = .ok (.iaload, 1) := by decide +kernel
theorem dX12_letter_177 : decode cX12_letter 177 = .ok (.iconst 4, 1) := by decide +kernel
theorem dX12_letter_178 : decode cX12_letter 178 = .ok (.if_icmp .ne 7, 3) := by decide +kernel
theorem dX12_letter_181 : decode cX12_letter 181 = .ok (.iconst 1, 1) := by decide +kernel
theorem dX12_letter_182 : decode cX12_letter 182 = .ok (.goto 4, 3) := by decide +kernel
theorem dX12_letter_185 : decode cX12_letter 185 = .ok (.iconst 0, 1) := by decide +kernel
theorem dX12_letter_186 : decode cX12_letter 186 = .ok (.ireturn, 1) := by decide +kernel
theorem dX12_letter_187 : decode cX12_letter 187 = .ok (.iconst (-1), 1) := by decide +kernel
theorem dX12_letter_188 : decode cX12_letter 188 = .ok (.ireturn, 1) := by decide +kernel
theorem dX12_holds_0 : decode cX12_holds 0 = .ok (.aload_n 0, 1) := by decide +kernel
theorem dX12_holds_1 : decode cX12_holds 1 = .ok (.iconst 0, 1) := by decide +kernel
theorem dX12_holds_2 : decode cX12_holds 2 = .ok (.putfield 228, 3) := by decide +kernel
theorem dX12_holds_5 : decode cX12_holds 5 = .ok (.aload_n 0, 1) := by decide +kernel
theorem dX12_holds_6 : decode cX12_holds 6 = .ok (.iload_n 1, 1) := by decide +kernel
theorem dX12_holds_7 : decode cX12_holds 7 = .ok (.invokevirtual 387, 3) := by decide +kernel
theorem dX12_holds_10 : decode cX12_holds 10 = .ok (.ifCond .eq 17, 3) := by decide +kernel
theorem dX12_holds_13 : decode cX12_holds 13 = .ok (.iload_n 2, 1) := by decide +kernel
theorem dX12_holds_14 : decode cX12_holds 14 = .ok (.ifCond .lt 13, 3) := by decide +kernel
theorem dX12_holds_17 : decode cX12_holds 17 = .ok (.iload_n 2, 1) := by decide +kernel
theorem dX12_holds_18 : decode cX12_holds 18 = .ok (.aload_n 0, 1) := by decide +kernel
theorem dX12_holds_19 : decode cX12_holds 19 = .ok (.getfield 180, 3) := by decide +kernel
theorem dX12_holds_22 : decode cX12_holds 22 = .ok (.iload_n 1, 1) := by decide +kernel
theorem dX12_holds_23 : decode cX12_holds 23 = .ok (.iaload, 1) := by decide +kernel
theorem dX12_holds_24 : decode cX12_holds 24 = .ok (.if_icmp .lt 7, 3) := by decide +kernel
theorem dX12_holds_27 : decode cX12_holds 27 = .ok (.iconst (-1), 1) := by decide +kernel
theorem dX12_holds_28 : decode cX12_holds 28 = .ok (.goto 14, 3) := by decide +kernel
theorem dX12_holds_31 : decode cX12_holds 31 = .ok (.aload_n 0, 1) := by decide +kernel
theorem dX12_holds_32 : decode cX12_holds 32 = .ok (.getfield 183, 3) := by decide +kernel
theorem dX12_holds_35 : decode cX12_holds 35 = .ok (.bipush 40, 2) := by decide +kernel
theorem dX12_holds_37 : decode cX12_holds 37 = .ok (.iload_n 1, 1) := by decide +kernel
theorem dX12_holds_38 : decode cX12_holds 38 = .ok (.imul, 1) := by decide +kernel
theorem dX12_holds_39 : decode cX12_holds 39 = .ok (.iload_n 2, 1) := by decide +kernel
theorem dX12_holds_40 : decode cX12_holds 40 = .ok (.iadd, 1) := by decide +kernel
theorem dX12_holds_41 : decode cX12_holds 41 = .ok (.iaload, 1) := by decide +kernel
theorem dX12_holds_42 : decode cX12_holds 42 = .ok (.ireturn, 1) := by decide +kernel
theorem dX12_why_0 : decode cX12_why 0 = .ok (.aload_n 0, 1) := by decide +kernel
theorem dX12_why_1 : decode cX12_why 1 = .ok (.iconst 0, 1) := by decide +kernel
theorem dX12_why_2 : decode cX12_why 2 = .ok (.putfield 228, 3) := by decide +kernel
theorem dX12_why_5 : decode cX12_why 5 = .ok (.aload_n 0, 1) := by decide +kernel
theorem dX12_why_6 : decode cX12_why 6 = .ok (.iload_n 1, 1) := by decide +kernel
theorem dX12_why_7 : decode cX12_why 7 = .ok (.invokevirtual 387, 3) := by decide +kernel
theorem dX12_why_10 : decode cX12_why 10 = .ok (.ifCond .eq 12, 3) := by decide +kernel
theorem dX12_why_13 : decode cX12_why 13 = .ok (.aload_n 0, 1) := by decide +kernel
theorem dX12_why_14 : decode cX12_why 14 = .ok (.getfield 177, 3) := by decide +kernel
theorem dX12_why_17 : decode cX12_why 17 = .ok (.iload_n 1, 1) := by decide +kernel
theorem dX12_why_18 : decode cX12_why 18 = .ok (.iaload, 1) := by decide +kernel
theorem dX12_why_19 : decode cX12_why 19 = .ok (.goto 4, 3) := by decide +kernel
theorem dX12_why_22 : decode cX12_why 22 = .ok (.iconst (-1), 1) := by decide +kernel
theorem dX12_why_23 : decode cX12_why 23 = .ok (.ireturn, 1) := by decide +kernel
theorem dX12_whyNot_0 : decode cX12_whyNot 0 = .ok (.aload_n 0, 1) := by decide +kernel
theorem dX12_whyNot_1 : decode cX12_whyNot 1 = .ok (.iconst 0, 1) := by decide +kernel
theorem dX12_whyNot_2 : decode cX12_whyNot 2 = .ok (.putfield 228, 3) := by decide +kernel
theorem dX12_whyNot_5 : decode cX12_whyNot 5 = .ok (.aload_n 0, 1) := by decide +kernel
theorem dX12_whyNot_6 : decode cX12_whyNot 6 = .ok (.iload_n 1, 1) := by decide +kernel
theorem dX12_whyNot_7 : decode cX12_whyNot 7 = .ok (.invokevirtual 258, 3) := by decide +kernel
theorem dX12_whyNot_10 : decode cX12_whyNot 10 = .ok (.ifCond .eq 11, 3) := by decide +kernel
theorem dX12_whyNot_13 : decode cX12_whyNot 13 = .ok (.aload_n 0, 1) := by decide +kernel
theorem dX12_whyNot_14 : decode cX12_whyNot 14 = .ok (.iload_n 2, 1) := by decide +kernel
theorem dX12_whyNot_15 : decode cX12_whyNot 15 = .ok (.invokevirtual 299, 3) := by decide +kernel
theorem dX12_whyNot_18 : decode cX12_whyNot 18 = .ok (.ifCond .ne 5, 3) := by decide +kernel
theorem dX12_whyNot_21 : decode cX12_whyNot 21 = .ok (.iconst (-1), 1) := by decide +kernel
theorem dX12_whyNot_22 : decode cX12_whyNot 22 = .ok (.ireturn, 1) := by decide +kernel
theorem dX12_whyNot_23 : decode cX12_whyNot 23 = .ok (.aload_n 0, 1) := by decide +kernel
theorem dX12_whyNot_24 : decode cX12_whyNot 24 = .ok (.getfield 62, 3) := by decide +kernel
theorem dX12_whyNot_27 : decode cX12_whyNot 27 = .ok (.bipush 16, 2) := by decide +kernel
theorem dX12_whyNot_29 : decode cX12_whyNot 29 = .ok (.iload_n 1, 1) := by decide +kernel
theorem dX12_whyNot_30 : decode cX12_whyNot 30 = .ok (.imul, 1) := by decide +kernel
theorem dX12_whyNot_31 : decode cX12_whyNot 31 = .ok (.iload_n 2, 1) := by decide +kernel
theorem dX12_whyNot_32 : decode cX12_whyNot 32 = .ok (.iadd, 1) := by decide +kernel
theorem dX12_whyNot_33 : decode cX12_whyNot 33 = .ok (.iaload, 1) := by decide +kernel
theorem dX12_whyNot_34 : decode cX12_whyNot 34 = .ok (.istore_n 3, 1) := by decide +kernel
theorem dX12_whyNot_35 : decode cX12_whyNot 35 = .ok (.iload_n 3, 1) := by decide +kernel
theorem dX12_whyNot_36 : decode cX12_whyNot 36 = .ok (.ifCond .ge 23, 3) := by decide +kernel
theorem dX12_whyNot_39 : decode cX12_whyNot 39 = .ok (.aload_n 0, 1) := by decide +kernel
theorem dX12_whyNot_40 : decode cX12_whyNot 40 = .ok (.getfield 56, 3) := by decide +kernel
theorem dX12_whyNot_43 : decode cX12_whyNot 43 = .ok (.bipush 16, 2) := by decide +kernel
theorem dX12_whyNot_45 : decode cX12_whyNot 45 = .ok (.iload_n 1, 1) := by decide +kernel
theorem dX12_whyNot_46 : decode cX12_whyNot 46 = .ok (.imul, 1) := by decide +kernel
theorem dX12_whyNot_47 : decode cX12_whyNot 47 = .ok (.iload_n 2, 1) := by decide +kernel
theorem dX12_whyNot_48 : decode cX12_whyNot 48 = .ok (.iadd, 1) := by decide +kernel
theorem dX12_whyNot_49 : decode cX12_whyNot 49 = .ok (.iaload, 1) := by decide +kernel
theorem dX12_whyNot_50 : decode cX12_whyNot 50 = .ok (.ifCond .le 7, 3) := by decide +kernel
theorem dX12_whyNot_53 : decode cX12_whyNot 53 = .ok (.iconst 1, 1) := by decide +kernel
theorem dX12_whyNot_54 : decode cX12_whyNot 54 = .ok (.goto 4, 3) := by decide +kernel
theorem dX12_whyNot_57 : decode cX12_whyNot 57 = .ok (.iconst 0, 1) := by decide +kernel
theorem dX12_whyNot_58 : decode cX12_whyNot 58 = .ok (.ireturn, 1) := by decide +kernel
theorem dX12_whyNot_59 : decode cX12_whyNot 59 = .ok (.aload_n 0, 1) := by decide +kernel
theorem dX12_whyNot_60 : decode cX12_whyNot 60 = .ok (.getfield 98, 3) := by decide +kernel
theorem dX12_whyNot_63 : decode cX12_whyNot 63 = .ok (.iload_n 3, 1) := by decide +kernel
theorem dX12_whyNot_64 : decode cX12_whyNot 64 = .ok (.baload, 1) := by decide +kernel
theorem dX12_whyNot_65 : decode cX12_whyNot 65 = .ok (.ifCond .eq 7, 3) := by decide +kernel
theorem dX12_whyNot_68 : decode cX12_whyNot 68 = .ok (.iconst 2, 1) := by decide +kernel
theorem dX12_whyNot_69 : decode cX12_whyNot 69 = .ok (.goto 30, 3) := by decide +kernel
theorem dX12_whyNot_72 : decode cX12_whyNot 72 = .ok (.aload_n 0, 1) := by decide +kernel
theorem dX12_whyNot_73 : decode cX12_whyNot 73 = .ok (.getfield 101, 3) := by decide +kernel
theorem dX12_whyNot_76 : decode cX12_whyNot 76 = .ok (.iload_n 3, 1) := by decide +kernel
theorem dX12_whyNot_77 : decode cX12_whyNot 77 = .ok (.baload, 1) := by decide +kernel
theorem dX12_whyNot_78 : decode cX12_whyNot 78 = .ok (.ifCond .eq 7, 3) := by decide +kernel
theorem dX12_whyNot_81 : decode cX12_whyNot 81 = .ok (.iconst 3, 1) := by decide +kernel
theorem dX12_whyNot_82 : decode cX12_whyNot 82 = .ok (.goto 17, 3) := by decide +kernel
theorem dX12_whyNot_85 : decode cX12_whyNot 85 = .ok (.aload_n 0, 1) := by decide +kernel
theorem dX12_whyNot_86 : decode cX12_whyNot 86 = .ok (.getfield 110, 3) := by decide +kernel
theorem dX12_whyNot_89 : decode cX12_whyNot 89 = .ok (.iload_n 3, 1) := by decide +kernel
theorem dX12_whyNot_90 : decode cX12_whyNot 90 = .ok (.baload, 1) := by decide +kernel
theorem dX12_whyNot_91 : decode cX12_whyNot 91 = .ok (.ifCond .eq 7, 3) := by decide +kernel
theorem dX12_whyNot_94 : decode cX12_whyNot 94 = .ok (.iconst 5, 1) := by decide +kernel
theorem dX12_whyNot_95 : decode cX12_whyNot 95 = .ok (.goto 4, 3) := by decide +kernel
theorem dX12_whyNot_98 : decode cX12_whyNot 98 = .ok (.iconst 4, 1) := by decide +kernel
theorem dX12_whyNot_99 : decode cX12_whyNot 99 = .ok (.ireturn, 1) := by decide +kernel
theorem dX12_awake_0 : decode cX12_awake 0 = .ok (.aload_n 0, 1) := by decide +kernel
theorem dX12_awake_1 : decode cX12_awake 1 = .ok (.iconst 0, 1) := by decide +kernel
theorem dX12_awake_2 : decode cX12_awake 2 = .ok (.putfield 228, 3) := by decide +kernel
theorem dX12_awake_5 : decode cX12_awake 5 = .ok (.iload_n 1, 1) := by decide +kernel
theorem dX12_awake_6 : decode cX12_awake 6 = .ok (.i2l, 1) := by decide +kernel
theorem dX12_awake_7 : decode cX12_awake 7 = .ok (.lconst 1, 1) := by decide +kernel
theorem dX12_awake_8 : decode cX12_awake 8 = .ok (.ldc2_w 274, 3) := by decide +kernel
theorem dX12_awake_11 : decode cX12_awake 11 = .ok (.invokestatic 242, 3) := by decide +kernel
theorem dX12_awake_14 : decode cX12_awake 14 = .ok (.ifCond .eq 7, 3) := by decide +kernel
theorem dX12_awake_17 : decode cX12_awake 17 = .ok (.iload_n 2, 1) := by decide +kernel
theorem dX12_awake_18 : decode cX12_awake 18 = .ok (.ifCond .ge 5, 3) := by decide +kernel
theorem dX12_awake_21 : decode cX12_awake 21 = .ok (.iconst (-1), 1) := by decide +kernel
theorem dX12_awake_22 : decode cX12_awake 22 = .ok (.ireturn, 1) := by decide +kernel
theorem dX12_awake_23 : decode cX12_awake 23 = .ok (.aload_n 0, 1) := by decide +kernel
theorem dX12_awake_24 : decode cX12_awake 24 = .ok (.iload_n 1, 1) := by decide +kernel
theorem dX12_awake_25 : decode cX12_awake 25 = .ok (.invokevirtual 369, 3) := by decide +kernel
theorem dX12_awake_28 : decode cX12_awake 28 = .ok (.iload_n 2, 1) := by decide +kernel
theorem dX12_awake_29 : decode cX12_awake 29 = .ok (.aload_n 0, 1) := by decide +kernel
theorem dX12_awake_30 : decode cX12_awake 30 = .ok (.getfield 356, 3) := by decide +kernel
theorem dX12_awake_33 : decode cX12_awake 33 = .ok (.if_icmp .ge 12, 3) := by decide +kernel
theorem dX12_awake_36 : decode cX12_awake 36 = .ok (.aload_n 0, 1) := by decide +kernel
theorem dX12_awake_37 : decode cX12_awake 37 = .ok (.getfield 210, 3) := by decide +kernel
theorem dX12_awake_40 : decode cX12_awake 40 = .ok (.iload_n 2, 1) := by decide +kernel
theorem dX12_awake_41 : decode cX12_awake 41 = .ok (.iaload, 1) := by decide +kernel
theorem dX12_awake_42 : decode cX12_awake 42 = .ok (.goto 5, 3) := by decide +kernel
theorem dX12_awake_45 : decode cX12_awake 45 = .ok (.bipush (-2), 2) := by decide +kernel
theorem dX12_awake_47 : decode cX12_awake 47 = .ok (.ireturn, 1) := by decide +kernel
theorem dX12_wentTo_0 : decode cX12_wentTo 0 = .ok (.aload_n 0, 1) := by decide +kernel
theorem dX12_wentTo_1 : decode cX12_wentTo 1 = .ok (.getfield 192, 3) := by decide +kernel
theorem dX12_wentTo_4 : decode cX12_wentTo 4 = .ok (.iload_n 1, 1) := by decide +kernel
theorem dX12_wentTo_5 : decode cX12_wentTo 5 = .ok (.iaload, 1) := by decide +kernel
theorem dX12_wentTo_6 : decode cX12_wentTo 6 = .ok (.aload_n 0, 1) := by decide +kernel
theorem dX12_wentTo_7 : decode cX12_wentTo 7 = .ok (.getfield 186, 3) := by decide +kernel
theorem dX12_wentTo_10 : decode cX12_wentTo 10 = .ok (.iload_n 1, 1) := by decide +kernel
theorem dX12_wentTo_11 : decode cX12_wentTo 11 = .ok (.iaload, 1) := by decide +kernel
theorem dX12_wentTo_12 : decode cX12_wentTo 12 = .ok (.if_icmp .lt 7, 3) := by decide +kernel
theorem dX12_wentTo_15 : decode cX12_wentTo 15 = .ok (.iconst 1, 1) := by decide +kernel
theorem dX12_wentTo_16 : decode cX12_wentTo 16 = .ok (.goto 4, 3) := by decide +kernel
theorem dX12_wentTo_19 : decode cX12_wentTo 19 = .ok (.iconst 0, 1) := by decide +kernel
theorem dX12_wentTo_20 : decode cX12_wentTo 20 = .ok (.istore_n 3, 1) := by decide +kernel
theorem dX12_wentTo_21 : decode cX12_wentTo 21 = .ok (.iconst 0, 1) := by decide +kernel
theorem dX12_wentTo_22 : decode cX12_wentTo 22 = .ok (.istore 4, 2) := by decide +kernel
theorem dX12_wentTo_24 : decode cX12_wentTo 24 = .ok (.iload 4, 2) := by decide +kernel
theorem dX12_wentTo_26 : decode cX12_wentTo 26 = .ok (.aload_n 0, 1) := by decide +kernel
theorem dX12_wentTo_27 : decode cX12_wentTo 27 = .ok (.getfield 192, 3) := by decide +kernel
theorem dX12_wentTo_30 : decode cX12_wentTo 30 = .ok (.iload_n 1, 1) := by decide +kernel
theorem dX12_wentTo_31 : decode cX12_wentTo 31 = .ok (.iaload, 1) := by decide +kernel
theorem dX12_wentTo_32 : decode cX12_wentTo 32 = .ok (.if_icmp .gt 46, 3) := by decide +kernel
theorem dX12_wentTo_35 : decode cX12_wentTo 35 = .ok (.iload 4, 2) := by decide +kernel
theorem dX12_wentTo_37 : decode cX12_wentTo 37 = .ok (.aload_n 0, 1) := by decide +kernel
theorem dX12_wentTo_38 : decode cX12_wentTo 38 = .ok (.getfield 186, 3) := by decide +kernel
theorem dX12_wentTo_41 : decode cX12_wentTo 41 = .ok (.iload_n 1, 1) := by decide +kernel
theorem dX12_wentTo_42 : decode cX12_wentTo 42 = .ok (.iaload, 1) := by decide +kernel
theorem dX12_wentTo_43 : decode cX12_wentTo 43 = .ok (.if_icmp .ge 35, 3) := by decide +kernel
theorem dX12_wentTo_46 : decode cX12_wentTo 46 = .ok (.iload_n 3, 1) := by decide +kernel
theorem dX12_wentTo_47 : decode cX12_wentTo 47 = .ok (.ifCond .ne 19, 3) := by decide +kernel
theorem dX12_wentTo_50 : decode cX12_wentTo 50 = .ok (.aload_n 0, 1) := by decide +kernel
theorem dX12_wentTo_51 : decode cX12_wentTo 51 = .ok (.getfield 189, 3) := by decide +kernel
theorem dX12_wentTo_54 : decode cX12_wentTo 54 = .ok (.bipush 8, 2) := by decide +kernel
theorem dX12_wentTo_56 : decode cX12_wentTo 56 = .ok (.iload_n 1, 1) := by decide +kernel
theorem dX12_wentTo_57 : decode cX12_wentTo 57 = .ok (.imul, 1) := by decide +kernel
theorem dX12_wentTo_58 : decode cX12_wentTo 58 = .ok (.iload 4, 2) := by decide +kernel
theorem dX12_wentTo_60 : decode cX12_wentTo 60 = .ok (.iadd, 1) := by decide +kernel
theorem dX12_wentTo_61 : decode cX12_wentTo 61 = .ok (.iaload, 1) := by decide +kernel
theorem dX12_wentTo_62 : decode cX12_wentTo 62 = .ok (.iload_n 2, 1) := by decide +kernel
theorem dX12_wentTo_63 : decode cX12_wentTo 63 = .ok (.if_icmp .ne 7, 3) := by decide +kernel
theorem dX12_wentTo_66 : decode cX12_wentTo 66 = .ok (.iconst 1, 1) := by decide +kernel
theorem dX12_wentTo_67 : decode cX12_wentTo 67 = .ok (.goto 4, 3) := by decide +kernel
theorem dX12_wentTo_70 : decode cX12_wentTo 70 = .ok (.iconst 0, 1) := by decide +kernel
theorem dX12_wentTo_71 : decode cX12_wentTo 71 = .ok (.istore_n 3, 1) := by decide +kernel
theorem dX12_wentTo_72 : decode cX12_wentTo 72 = .ok (.iinc 4 1, 3) := by decide +kernel
theorem dX12_wentTo_75 : decode cX12_wentTo 75 = .ok (.goto (-51), 3) := by decide +kernel
theorem dX12_wentTo_78 : decode cX12_wentTo 78 = .ok (.iload_n 3, 1) := by decide +kernel
theorem dX12_wentTo_79 : decode cX12_wentTo 79 = .ok (.ireturn, 1) := by decide +kernel
theorem dX12_answer_0 : decode cX12_answer 0 = .ok (.aload_n 0, 1) := by decide +kernel
theorem dX12_answer_1 : decode cX12_answer 1 = .ok (.iconst 0, 1) := by decide +kernel
theorem dX12_answer_2 : decode cX12_answer 2 = .ok (.putfield 228, 3) := by decide +kernel
theorem dX12_answer_5 : decode cX12_answer 5 = .ok (.aload_n 0, 1) := by decide +kernel
theorem dX12_answer_6 : decode cX12_answer 6 = .ok (.iload_n 1, 1) := by decide +kernel
theorem dX12_answer_7 : decode cX12_answer 7 = .ok (.invokevirtual 387, 3) := by decide +kernel
theorem dX12_answer_10 : decode cX12_answer 10 = .ok (.ifCond .eq 11, 3) := by decide +kernel
theorem dX12_answer_13 : decode cX12_answer 13 = .ok (.aload_n 0, 1) := by decide +kernel
theorem dX12_answer_14 : decode cX12_answer 14 = .ok (.iload_n 2, 1) := by decide +kernel
theorem dX12_answer_15 : decode cX12_answer 15 = .ok (.invokevirtual 276, 3) := by decide +kernel
theorem dX12_answer_18 : decode cX12_answer 18 = .ok (.ifCond .ne 5, 3) := by decide +kernel
theorem dX12_answer_21 : decode cX12_answer 21 = .ok (.iconst (-1), 1) := by decide +kernel
theorem dX12_answer_22 : decode cX12_answer 22 = .ok (.ireturn, 1) := by decide +kernel
theorem dX12_answer_23 : decode cX12_answer 23 = .ok (.aload_n 0, 1) := by decide +kernel
theorem dX12_answer_24 : decode cX12_answer 24 = .ok (.iload_n 1, 1) := by decide +kernel
theorem dX12_answer_25 : decode cX12_answer 25 = .ok (.iload_n 2, 1) := by decide +kernel
theorem dX12_answer_26 : decode cX12_answer 26 = .ok (.invokevirtual 390, 3) := by decide +kernel
theorem dX12_answer_29 : decode cX12_answer 29 = .ok (.ifCond .ne 6, 3) := by decide +kernel
theorem dX12_answer_32 : decode cX12_answer 32 = .ok (.bipush (-2), 2) := by decide +kernel
theorem dX12_answer_34 : decode cX12_answer 34 = .ok (.ireturn, 1) := by decide +kernel
theorem dX12_answer_35 : decode cX12_answer 35 = .ok (.aload_n 0, 1) := by decide +kernel
theorem dX12_answer_36 : decode cX12_answer 36 = .ok (.getfield 198, 3) := by decide +kernel
theorem dX12_answer_39 : decode cX12_answer 39 = .ok (.iload_n 1, 1) := by decide +kernel
theorem dX12_answer_40 : decode cX12_answer 40 = .ok (.iaload, 1) := by decide +kernel
theorem dX12_answer_41 : decode cX12_answer 41 = .ok (.ifCond .lt 6, 3) := by decide +kernel
theorem dX12_answer_44 : decode cX12_answer 44 = .ok (.bipush (-3), 2) := by decide +kernel
theorem dX12_answer_46 : decode cX12_answer 46 = .ok (.ireturn, 1) := by decide +kernel
theorem dX12_answer_47 : decode cX12_answer 47 = .ok (.aload_n 0, 1) := by decide +kernel
theorem dX12_answer_48 : decode cX12_answer 48 = .ok (.getfield 198, 3) := by decide +kernel
theorem dX12_answer_51 : decode cX12_answer 51 = .ok (.iload_n 1, 1) := by decide +kernel
theorem dX12_answer_52 : decode cX12_answer 52 = .ok (.iload_n 2, 1) := by decide +kernel
theorem dX12_answer_53 : decode cX12_answer 53 = .ok (.iastore, 1) := by decide +kernel
theorem dX12_answer_54 : decode cX12_answer 54 = .ok (.aload_n 0, 1) := by decide +kernel
theorem dX12_answer_55 : decode cX12_answer 55 = .ok (.getfield 201, 3) := by decide +kernel
theorem dX12_answer_58 : decode cX12_answer 58 = .ok (.iload_n 1, 1) := by decide +kernel
theorem dX12_answer_59 : decode cX12_answer 59 = .ok (.aload_n 0, 1) := by decide +kernel
theorem dX12_answer_60 : decode cX12_answer 60 = .ok (.getfield 262, 3) := by decide +kernel
theorem dX12_answer_63 : decode cX12_answer 63 = .ok (.iconst 1, 1) := by decide +kernel
theorem dX12_answer_64 : decode cX12_answer 64 = .ok (.iadd, 1) := by decide +kernel
theorem dX12_answer_65 : decode cX12_answer 65 = .ok (.iastore, 1) := by decide +kernel
theorem dX12_answer_66 : decode cX12_answer 66 = .ok (.aload_n 0, 1) := by decide +kernel
theorem dX12_answer_67 : decode cX12_answer 67 = .ok (.getfield 174, 3) := by decide +kernel
theorem dX12_answer_70 : decode cX12_answer 70 = .ok (.iload_n 1, 1) := by decide +kernel
theorem dX12_answer_71 : decode cX12_answer 71 = .ok (.iaload, 1) := by decide +kernel
theorem dX12_answer_72 : decode cX12_answer 72 = .ok (.istore_n 3, 1) := by decide +kernel
theorem dX12_answer_73 : decode cX12_answer 73 = .ok (.aload_n 0, 1) := by decide +kernel
theorem dX12_answer_74 : decode cX12_answer 74 = .ok (.getfield 141, 3) := by decide +kernel
theorem dX12_answer_77 : decode cX12_answer 77 = .ok (.iload_n 3, 1) := by decide +kernel
theorem dX12_answer_78 : decode cX12_answer 78 = .ok (.aload_n 0, 1) := by decide +kernel
theorem dX12_answer_79 : decode cX12_answer 79 = .ok (.getfield 201, 3) := by decide +kernel
theorem dX12_answer_82 : decode cX12_answer 82 = .ok (.iload_n 1, 1) := by decide +kernel
theorem dX12_answer_83 : decode cX12_answer 83 = .ok (.iaload, 1) := by decide +kernel
theorem dX12_answer_84 : decode cX12_answer 84 = .ok (.aload_n 0, 1) := by decide +kernel
theorem dX12_answer_85 : decode cX12_answer 85 = .ok (.getfield 141, 3) := by decide +kernel
theorem dX12_answer_88 : decode cX12_answer 88 = .ok (.iload_n 3, 1) := by decide +kernel
theorem dX12_answer_89 : decode cX12_answer 89 = .ok (.iaload, 1) := by decide +kernel
theorem dX12_answer_90 : decode cX12_answer 90 = .ok (.if_icmp .le 12, 3) := by decide +kernel
theorem dX12_answer_93 : decode cX12_answer 93 = .ok (.aload_n 0, 1) := by decide +kernel
theorem dX12_answer_94 : decode cX12_answer 94 = .ok (.getfield 201, 3) := by decide +kernel
theorem dX12_answer_97 : decode cX12_answer 97 = .ok (.iload_n 1, 1) := by decide +kernel
theorem dX12_answer_98 : decode cX12_answer 98 = .ok (.iaload, 1) := by decide +kernel
theorem dX12_answer_99 : decode cX12_answer 99 = .ok (.goto 9, 3) := by decide +kernel
theorem dX12_answer_102 : decode cX12_answer 102 = .ok (.aload_n 0, 1) := by decide +kernel
theorem dX12_answer_103 : decode cX12_answer 103 = .ok (.getfield 141, 3) := by decide +kernel
theorem dX12_answer_106 : decode cX12_answer 106 = .ok (.iload_n 3, 1) := by decide +kernel
theorem dX12_answer_107 : decode cX12_answer 107 = .ok (.iaload, 1) := by decide +kernel
theorem dX12_answer_108 : decode cX12_answer 108 = .ok (.iastore, 1) := by decide +kernel
theorem dX12_answer_109 : decode cX12_answer 109 = .ok (.iconst 0, 1) := by decide +kernel
theorem dX12_answer_110 : decode cX12_answer 110 = .ok (.ireturn, 1) := by decide +kernel
theorem dX12_noise_0 : decode cX12_noise 0 = .ok (.aload_n 0, 1) := by decide +kernel
theorem dX12_noise_1 : decode cX12_noise 1 = .ok (.iconst 0, 1) := by decide +kernel
theorem dX12_noise_2 : decode cX12_noise 2 = .ok (.putfield 228, 3) := by decide +kernel
theorem dX12_noise_5 : decode cX12_noise 5 = .ok (.aload_n 0, 1) := by decide +kernel
theorem dX12_noise_6 : decode cX12_noise 6 = .ok (.iload_n 1, 1) := by decide +kernel
theorem dX12_noise_7 : decode cX12_noise 7 = .ok (.invokevirtual 276, 3) := by decide +kernel
theorem dX12_noise_10 : decode cX12_noise 10 = .ok (.ifCond .ne 5, 3) := by decide +kernel
theorem dX12_noise_13 : decode cX12_noise 13 = .ok (.iconst (-1), 1) := by decide +kernel
theorem dX12_noise_14 : decode cX12_noise 14 = .ok (.ireturn, 1) := by decide +kernel
theorem dX12_noise_15 : decode cX12_noise 15 = .ok (.iconst 0, 1) := by decide +kernel
theorem dX12_noise_16 : decode cX12_noise 16 = .ok (.istore_n 2, 1) := by decide +kernel
theorem dX12_noise_17 : decode cX12_noise 17 = .ok (.iconst 0, 1) := by decide +kernel
theorem dX12_noise_18 : decode cX12_noise 18 = .ok (.istore_n 3, 1) := by decide +kernel
theorem dX12_noise_19 : decode cX12_noise 19 = .ok (.iload_n 3, 1) := by decide +kernel
theorem dX12_noise_20 : decode cX12_noise 20 = .ok (.aload_n 0, 1) := by decide +kernel
theorem dX12_noise_21 : decode cX12_noise 21 = .ok (.getfield 362, 3) := by decide +kernel
theorem dX12_noise_24 : decode cX12_noise 24 = .ok (.if_icmp .ge 26, 3) := by decide +kernel
theorem dX12_noise_27 : decode cX12_noise 27 = .ok (.iload_n 2, 1) := by decide +kernel
theorem dX12_noise_28 : decode cX12_noise 28 = .ok (.aload_n 0, 1) := by decide +kernel
theorem dX12_noise_29 : decode cX12_noise 29 = .ok (.iload_n 3, 1) := by decide +kernel
theorem dX12_noise_30 : decode cX12_noise 30 = .ok (.iload_n 1, 1) := by decide +kernel
theorem dX12_noise_31 : decode cX12_noise 31 = .ok (.invokevirtual 390, 3) := by decide +kernel
theorem dX12_noise_34 : decode cX12_noise 34 = .ok (.ifCond .eq 7, 3) := by decide +kernel
theorem dX12_noise_37 : decode cX12_noise 37 = .ok (.iconst 1, 1) := by decide +kernel
theorem dX12_noise_38 : decode cX12_noise 38 = .ok (.goto 4, 3) := by decide +kernel
theorem dX12_noise_41 : decode cX12_noise 41 = .ok (.iconst 0, 1) := by decide +kernel
theorem dX12_noise_42 : decode cX12_noise 42 = .ok (.iadd, 1) := by decide +kernel
theorem dX12_noise_43 : decode cX12_noise 43 = .ok (.istore_n 2, 1) := by decide +kernel
theorem dX12_noise_44 : decode cX12_noise 44 = .ok (.iinc 3 1, 3) := by decide +kernel
theorem dX12_noise_47 : decode cX12_noise 47 = .ok (.goto (-28), 3) := by decide +kernel
theorem dX12_noise_50 : decode cX12_noise 50 = .ok (.iload_n 2, 1) := by decide +kernel
theorem dX12_noise_51 : decode cX12_noise 51 = .ok (.ireturn, 1) := by decide +kernel
theorem dX12_flap_0 : decode cX12_flap 0 = .ok (.aload_n 0, 1) := by decide +kernel
theorem dX12_flap_1 : decode cX12_flap 1 = .ok (.iconst 0, 1) := by decide +kernel
theorem dX12_flap_2 : decode cX12_flap 2 = .ok (.putfield 228, 3) := by decide +kernel
theorem dX12_flap_5 : decode cX12_flap 5 = .ok (.aload_n 0, 1) := by decide +kernel
theorem dX12_flap_6 : decode cX12_flap 6 = .ok (.iload_n 1, 1) := by decide +kernel
theorem dX12_flap_7 : decode cX12_flap 7 = .ok (.invokevirtual 258, 3) := by decide +kernel
theorem dX12_flap_10 : decode cX12_flap 10 = .ok (.ifCond .eq 15, 3) := by decide +kernel
theorem dX12_flap_13 : decode cX12_flap 13 = .ok (.iload_n 2, 1) := by decide +kernel
theorem dX12_flap_14 : decode cX12_flap 14 = .ok (.i2l, 1) := by decide +kernel
theorem dX12_flap_15 : decode cX12_flap 15 = .ok (.lconst 1, 1) := by decide +kernel
theorem dX12_flap_16 : decode cX12_flap 16 = .ok (.ldc2_w 393, 3) := by decide +kernel
theorem dX12_flap_19 : decode cX12_flap 19 = .ok (.invokestatic 242, 3) := by decide +kernel
theorem dX12_flap_22 : decode cX12_flap 22 = .ok (.ifCond .ne 5, 3) := by decide +kernel
theorem dX12_flap_25 : decode cX12_flap 25 = .ok (.iconst (-1), 1) := by decide +kernel
theorem dX12_flap_26 : decode cX12_flap 26 = .ok (.ireturn, 1) := by decide +kernel
theorem dX12_flap_27 : decode cX12_flap 27 = .ok (.iconst 0, 1) := by decide +kernel
theorem dX12_flap_28 : decode cX12_flap 28 = .ok (.istore_n 3, 1) := by decide +kernel
theorem dX12_flap_29 : decode cX12_flap 29 = .ok (.iconst 0, 1) := by decide +kernel
theorem dX12_flap_30 : decode cX12_flap 30 = .ok (.istore 4, 2) := by decide +kernel
theorem dX12_flap_32 : decode cX12_flap 32 = .ok (.iload 4, 2) := by decide +kernel
theorem dX12_flap_34 : decode cX12_flap 34 = .ok (.aload_n 0, 1) := by decide +kernel
theorem dX12_flap_35 : decode cX12_flap 35 = .ok (.getfield 284, 3) := by decide +kernel
theorem dX12_flap_38 : decode cX12_flap 38 = .ok (.if_icmp .ge 76, 3) := by decide +kernel
theorem dX12_flap_41 : decode cX12_flap 41 = .ok (.aload_n 0, 1) := by decide +kernel
theorem dX12_flap_42 : decode cX12_flap 42 = .ok (.getfield 86, 3) := by decide +kernel
theorem dX12_flap_45 : decode cX12_flap 45 = .ok (.iload 4, 2) := by decide +kernel
theorem dX12_flap_47 : decode cX12_flap 47 = .ok (.iaload, 1) := by decide +kernel
theorem dX12_flap_48 : decode cX12_flap 48 = .ok (.iload_n 1, 1) := by decide +kernel
theorem dX12_flap_49 : decode cX12_flap 49 = .ok (.if_icmp .ne 59, 3) := by decide +kernel
theorem dX12_flap_52 : decode cX12_flap 52 = .ok (.iload_n 3, 1) := by decide +kernel
theorem dX12_flap_53 : decode cX12_flap 53 = .ok (.aload_n 0, 1) := by decide +kernel
theorem dX12_flap_54 : decode cX12_flap 54 = .ok (.getfield 92, 3) := by decide +kernel
theorem dX12_flap_57 : decode cX12_flap 57 = .ok (.iload 4, 2) := by decide +kernel
theorem dX12_flap_59 : decode cX12_flap 59 = .ok (.iaload, 1) := by decide +kernel
theorem dX12_flap_60 : decode cX12_flap 60 = .ok (.aload_n 0, 1) := by decide +kernel
theorem dX12_flap_61 : decode cX12_flap 61 = .ok (.getfield 262, 3) := by decide +kernel
theorem dX12_flap_64 : decode cX12_flap 64 = .ok (.iload_n 2, 1) := by decide +kernel
theorem dX12_flap_65 : decode cX12_flap 65 = .ok (.isub, 1) := by decide +kernel
theorem dX12_flap_66 : decode cX12_flap 66 = .ok (.if_icmp .le 7, 3) := by decide +kernel
theorem dX12_flap_69 : decode cX12_flap 69 = .ok (.iconst 1, 1) := by decide +kernel
theorem dX12_flap_70 : decode cX12_flap 70 = .ok (.goto 4, 3) := by decide +kernel
theorem dX12_flap_73 : decode cX12_flap 73 = .ok (.iconst 0, 1) := by decide +kernel
theorem dX12_flap_74 : decode cX12_flap 74 = .ok (.aload_n 0, 1) := by decide +kernel
theorem dX12_flap_75 : decode cX12_flap 75 = .ok (.getfield 95, 3) := by decide +kernel
theorem dX12_flap_78 : decode cX12_flap 78 = .ok (.iload 4, 2) := by decide +kernel
theorem dX12_flap_80 : decode cX12_flap 80 = .ok (.iaload, 1) := by decide +kernel
theorem dX12_flap_81 : decode cX12_flap 81 = .ok (.ifCond .le 23, 3) := by decide +kernel
theorem dX12_flap_84 : decode cX12_flap 84 = .ok (.aload_n 0, 1) := by decide +kernel
theorem dX12_flap_85 : decode cX12_flap 85 = .ok (.getfield 95, 3) := by decide +kernel
theorem dX12_flap_88 : decode cX12_flap 88 = .ok (.iload 4, 2) := by decide +kernel
theorem dX12_flap_90 : decode cX12_flap 90 = .ok (.iaload, 1) := by decide +kernel
theorem dX12_flap_91 : decode cX12_flap 91 = .ok (.aload_n 0, 1) := by decide +kernel
theorem dX12_flap_92 : decode cX12_flap 92 = .ok (.getfield 262, 3) := by decide +kernel
theorem dX12_flap_95 : decode cX12_flap 95 = .ok (.iload_n 2, 1) := by decide +kernel
theorem dX12_flap_96 : decode cX12_flap 96 = .ok (.isub, 1) := by decide +kernel
theorem dX12_flap_97 : decode cX12_flap 97 = .ok (.if_icmp .le 7, 3) := by decide +kernel
theorem dX12_flap_100 : decode cX12_flap 100 = .ok (.iconst 1, 1) := by decide +kernel
theorem dX12_flap_101 : decode cX12_flap 101 = .ok (.goto 4, 3) := by decide +kernel
theorem dX12_flap_104 : decode cX12_flap 104 = .ok (.iconst 0, 1) := by decide +kernel
theorem dX12_flap_105 : decode cX12_flap 105 = .ok (.iadd, 1) := by decide +kernel
theorem dX12_flap_106 : decode cX12_flap 106 = .ok (.iadd, 1) := by decide +kernel
theorem dX12_flap_107 : decode cX12_flap 107 = .ok (.istore_n 3, 1) := by decide +kernel
theorem dX12_flap_108 : decode cX12_flap 108 = .ok (.iinc 4 1, 3) := by decide +kernel
theorem dX12_flap_111 : decode cX12_flap 111 = .ok (.goto (-79), 3) := by decide +kernel
theorem dX12_flap_114 : decode cX12_flap 114 = .ok (.iload_n 3, 1) := by decide +kernel
theorem dX12_flap_115 : decode cX12_flap 115 = .ok (.ireturn, 1) := by decide +kernel
theorem dX12_least_0 : decode cX12_least 0 = .ok (.aload_n 0, 1) := by decide +kernel
theorem dX12_least_1 : decode cX12_least 1 = .ok (.iconst 0, 1) := by decide +kernel
theorem dX12_least_2 : decode cX12_least 2 = .ok (.putfield 228, 3) := by decide +kernel
theorem dX12_least_5 : decode cX12_least 5 = .ok (.aload_n 0, 1) := by decide +kernel
theorem dX12_least_6 : decode cX12_least 6 = .ok (.iload_n 1, 1) := by decide +kernel
theorem dX12_least_7 : decode cX12_least 7 = .ok (.invokevirtual 258, 3) := by decide +kernel
theorem dX12_least_10 : decode cX12_least 10 = .ok (.ifCond .eq 15, 3) := by decide +kernel
theorem dX12_least_13 : decode cX12_least 13 = .ok (.iload_n 2, 1) := by decide +kernel
theorem dX12_least_14 : decode cX12_least 14 = .ok (.i2l, 1) := by decide +kernel
theorem dX12_least_15 : decode cX12_least 15 = .ok (.lconst 1, 1) := by decide +kernel
theorem dX12_least_16 : decode cX12_least 16 = .ok (.ldc2_w 250, 3) := by decide +kernel
theorem dX12_least_19 : decode cX12_least 19 = .ok (.invokestatic 242, 3) := by decide +kernel
theorem dX12_least_22 : decode cX12_least 22 = .ok (.ifCond .ne 5, 3) := by decide +kernel
theorem dX12_least_25 : decode cX12_least 25 = .ok (.iconst (-1), 1) := by decide +kernel
theorem dX12_least_26 : decode cX12_least 26 = .ok (.ireturn, 1) := by decide +kernel
theorem dX12_least_27 : decode cX12_least 27 = .ok (.iconst 0, 1) := by decide +kernel
theorem dX12_least_28 : decode cX12_least 28 = .ok (.istore_n 3, 1) := by decide +kernel
theorem dX12_least_29 : decode cX12_least 29 = .ok (.iconst 0, 1) := by decide +kernel
theorem dX12_least_30 : decode cX12_least 30 = .ok (.istore 4, 2) := by decide +kernel
theorem dX12_least_32 : decode cX12_least 32 = .ok (.iload 4, 2) := by decide +kernel
theorem dX12_least_34 : decode cX12_least 34 = .ok (.aload_n 0, 1) := by decide +kernel
theorem dX12_least_35 : decode cX12_least 35 = .ok (.getfield 231, 3) := by decide +kernel
theorem dX12_least_38 : decode cX12_least 38 = .ok (.if_icmp .ge 143, 3) := by decide +kernel
theorem dX12_least_41 : decode cX12_least 41 = .ok (.iconst 0, 1) := by decide +kernel
theorem dX12_least_42 : decode cX12_least 42 = .ok (.istore 5, 2) := by decide +kernel
theorem dX12_least_44 : decode cX12_least 44 = .ok (.iconst 0, 1) := by decide +kernel
theorem dX12_least_45 : decode cX12_least 45 = .ok (.istore 6, 2) := by decide +kernel
theorem dX12_least_47 : decode cX12_least 47 = .ok (.iconst 0, 1) := by decide +kernel
theorem dX12_least_48 : decode cX12_least 48 = .ok (.istore 7, 2) := by decide +kernel
theorem dX12_least_50 : decode cX12_least 50 = .ok (.aload_n 0, 1) := by decide +kernel
theorem dX12_least_51 : decode cX12_least 51 = .ok (.getfield 45, 3) := by decide +kernel
theorem dX12_least_54 : decode cX12_least 54 = .ok (.iload_n 1, 1) := by decide +kernel
theorem dX12_least_55 : decode cX12_least 55 = .ok (.iaload, 1) := by decide +kernel
theorem dX12_least_56 : decode cX12_least 56 = .ok (.istore 8, 2) := by decide +kernel
theorem dX12_least_58 : decode cX12_least 58 = .ok (.iload 8, 2) := by decide +kernel
theorem dX12_least_60 : decode cX12_least 60 = .ok (.aload_n 0, 1) := by decide +kernel
theorem dX12_least_61 : decode cX12_least 61 = .ok (.getfield 262, 3) := by decide +kernel
theorem dX12_least_64 : decode cX12_least 64 = .ok (.if_icmp .gt 111, 3) := by decide +kernel
theorem dX12_least_67 : decode cX12_least 67 = .ok (.aload_n 0, 1) := by decide +kernel
theorem dX12_least_68 : decode cX12_least 68 = .ok (.iload_n 1, 1) := by decide +kernel
theorem dX12_least_69 : decode cX12_least 69 = .ok (.iload 4, 2) := by decide +kernel
theorem dX12_least_71 : decode cX12_least 71 = .ok (.iload 8, 2) := by decide +kernel
theorem dX12_least_73 : decode cX12_least 73 = .ok (.invokevirtual 317, 3) := by decide +kernel
theorem dX12_least_76 : decode cX12_least 76 = .ok (.istore 9, 2) := by decide +kernel
theorem dX12_least_78 : decode cX12_least 78 = .ok (.iload 9, 2) := by decide +kernel
theorem dX12_least_80 : decode cX12_least 80 = .ok (.iconst 1, 1) := by decide +kernel
theorem dX12_least_81 : decode cX12_least 81 = .ok (.if_icmp .ne 10, 3) := by decide +kernel
theorem dX12_least_84 : decode cX12_least 84 = .ok (.iload 5, 2) := by decide +kernel
theorem dX12_least_86 : decode cX12_least 86 = .ok (.iconst 1, 1) := by decide +kernel
theorem dX12_least_87 : decode cX12_least 87 = .ok (.iadd, 1) := by decide +kernel
theorem dX12_least_88 : decode cX12_least 88 = .ok (.goto 14, 3) := by decide +kernel
theorem dX12_least_91 : decode cX12_least 91 = .ok (.iload 9, 2) := by decide +kernel
theorem dX12_least_93 : decode cX12_least 93 = .ok (.ifCond .ne 7, 3) := by decide +kernel
theorem dX12_least_96 : decode cX12_least 96 = .ok (.iconst 0, 1) := by decide +kernel
theorem dX12_least_97 : decode cX12_least 97 = .ok (.goto 5, 3) := by decide +kernel
theorem dX12_least_100 : decode cX12_least 100 = .ok (.iload 5, 2) := by decide +kernel
theorem dX12_least_102 : decode cX12_least 102 = .ok (.istore 5, 2) := by decide +kernel
theorem dX12_least_104 : decode cX12_least 104 = .ok (.iload 9, 2) := by decide +kernel
theorem dX12_least_106 : decode cX12_least 106 = .ok (.ifCond .ne 10, 3) := by decide +kernel
theorem dX12_least_109 : decode cX12_least 109 = .ok (.iload 6, 2) := by decide +kernel
theorem dX12_least_111 : decode cX12_least 111 = .ok (.iconst 1, 1) := by decide +kernel
theorem dX12_least_112 : decode cX12_least 112 = .ok (.iadd, 1) := by decide +kernel
theorem dX12_least_113 : decode cX12_least 113 = .ok (.goto 15, 3) := by decide +kernel
theorem dX12_least_116 : decode cX12_least 116 = .ok (.iload 9, 2) := by decide +kernel
theorem dX12_least_118 : decode cX12_least 118 = .ok (.iconst 1, 1) := by decide +kernel
theorem dX12_least_119 : decode cX12_least 119 = .ok (.if_icmp .ne 7, 3) := by decide +kernel
theorem dX12_least_122 : decode cX12_least 122 = .ok (.iconst 0, 1) := by decide +kernel
theorem dX12_least_123 : decode cX12_least 123 = .ok (.goto 5, 3) := by decide +kernel
theorem dX12_least_126 : decode cX12_least 126 = .ok (.iload 6, 2) := by decide +kernel
theorem dX12_least_128 : decode cX12_least 128 = .ok (.istore 6, 2) := by decide +kernel
theorem dX12_least_130 : decode cX12_least 130 = .ok (.iload 7, 2) := by decide +kernel
theorem dX12_least_132 : decode cX12_least 132 = .ok (.ifCond .ne 18, 3) := by decide +kernel
theorem dX12_least_135 : decode cX12_least 135 = .ok (.iload 5, 2) := by decide +kernel
theorem dX12_least_137 : decode cX12_least 137 = .ok (.iload_n 2, 1) := by decide +kernel
theorem dX12_least_138 : decode cX12_least 138 = .ok (.if_icmp .lt 12, 3) := by decide +kernel
theorem dX12_least_141 : decode cX12_least 141 = .ok (.iconst 1, 1) := by decide +kernel
theorem dX12_least_142 : decode cX12_least 142 = .ok (.istore 7, 2) := by decide +kernel
theorem dX12_least_144 : decode cX12_least 144 = .ok (.iinc 3 1, 3) := by decide +kernel
theorem dX12_least_147 : decode cX12_least 147 = .ok (.goto 22, 3) := by decide +kernel
theorem dX12_least_150 : decode cX12_least 150 = .ok (.iload 7, 2) := by decide +kernel
theorem dX12_least_152 : decode cX12_least 152 = .ok (.ifCond .eq 17, 3) := by decide +kernel
theorem dX12_least_155 : decode cX12_least 155 = .ok (.iload 6, 2) := by decide +kernel
theorem dX12_least_157 : decode cX12_least 157 = .ok (.aload_n 0, 1) := by decide +kernel
theorem dX12_least_158 : decode cX12_least 158 = .ok (.getfield 36, 3) := by decide +kernel
theorem dX12_least_161 : decode cX12_least 161 = .ok (.iload_n 1, 1) := by decide +kernel
theorem dX12_least_162 : decode cX12_least 162 = .ok (.iaload, 1) := by decide +kernel
theorem dX12_least_163 : decode cX12_least 163 = .ok (.if_icmp .lt 6, 3) := by decide +kernel
theorem dX12_least_166 : decode cX12_least 166 = .ok (.iconst 0, 1) := by decide +kernel
theorem dX12_least_167 : decode cX12_least 167 = .ok (.istore 7, 2) := by decide +kernel
theorem dX12_least_169 : decode cX12_least 169 = .ok (.iinc 8 1, 3) := by decide +kernel
theorem dX12_least_172 : decode cX12_least 172 = .ok (.goto (-114), 3) := by decide +kernel
theorem dX12_least_175 : decode cX12_least 175 = .ok (.iinc 4 1, 3) := by decide +kernel
theorem dX12_least_178 : decode cX12_least 178 = .ok (.goto (-146), 3) := by decide +kernel
theorem dX12_least_181 : decode cX12_least 181 = .ok (.iload_n 3, 1) := by decide +kernel
theorem dX12_least_182 : decode cX12_least 182 = .ok (.ireturn, 1) := by decide +kernel
theorem dX12_count_0 : decode cX12_count 0 = .ok (.aload_n 0, 1) := by decide +kernel
theorem dX12_count_1 : decode cX12_count 1 = .ok (.iconst 0, 1) := by decide +kernel
theorem dX12_count_2 : decode cX12_count 2 = .ok (.putfield 228, 3) := by decide +kernel
theorem dX12_count_5 : decode cX12_count 5 = .ok (.iconst 0, 1) := by decide +kernel
theorem dX12_count_6 : decode cX12_count 6 = .ok (.istore_n 2, 1) := by decide +kernel
theorem dX12_count_7 : decode cX12_count 7 = .ok (.iload_n 1, 1) := by decide +kernel
theorem dX12_count_8 : decode cX12_count 8 = .ok (.tableswitch 157 0 8 #[52, 57, 62, 67, 72, 77, 112, 117, 152], 52) := by decide +kernel
theorem dX12_count_60 : decode cX12_count 60 = .ok (.aload_n 0, 1) := by decide +kernel
theorem dX12_count_61 : decode cX12_count 61 = .ok (.getfield 231, 3) := by decide +kernel
theorem dX12_count_64 : decode cX12_count 64 = .ok (.ireturn, 1) := by decide +kernel
theorem dX12_count_65 : decode cX12_count 65 = .ok (.aload_n 0, 1) := by decide +kernel
theorem dX12_count_66 : decode cX12_count 66 = .ok (.getfield 234, 3) := by decide +kernel
theorem dX12_count_69 : decode cX12_count 69 = .ok (.ireturn, 1) := by decide +kernel
theorem dX12_count_70 : decode cX12_count 70 = .ok (.aload_n 0, 1) := by decide +kernel
theorem dX12_count_71 : decode cX12_count 71 = .ok (.getfield 237, 3) := by decide +kernel
theorem dX12_count_74 : decode cX12_count 74 = .ok (.ireturn, 1) := by decide +kernel
theorem dX12_count_75 : decode cX12_count 75 = .ok (.aload_n 0, 1) := by decide +kernel
theorem dX12_count_76 : decode cX12_count 76 = .ok (.getfield 262, 3) := by decide +kernel
theorem dX12_count_79 : decode cX12_count 79 = .ok (.ireturn, 1) := by decide +kernel
theorem dX12_count_80 : decode cX12_count 80 = .ok (.aload_n 0, 1) := by decide +kernel
theorem dX12_count_81 : decode cX12_count 81 = .ok (.getfield 284, 3) := by decide +kernel
theorem dX12_count_84 : decode cX12_count 84 = .ok (.ireturn, 1) := by decide +kernel
theorem dX12_count_85 : decode cX12_count 85 = .ok (.iconst 0, 1) := by decide +kernel
theorem dX12_count_86 : decode cX12_count 86 = .ok (.istore_n 3, 1) := by decide +kernel
theorem dX12_count_87 : decode cX12_count 87 = .ok (.iload_n 3, 1) := by decide +kernel
theorem dX12_count_88 : decode cX12_count 88 = .ok (.aload_n 0, 1) := by decide +kernel
theorem dX12_count_89 : decode cX12_count 89 = .ok (.getfield 284, 3) := by decide +kernel
theorem dX12_count_92 : decode cX12_count 92 = .ok (.if_icmp .ge 26, 3) := by decide +kernel
theorem dX12_count_95 : decode cX12_count 95 = .ok (.iload_n 2, 1) := by decide +kernel
theorem dX12_count_96 : decode cX12_count 96 = .ok (.aload_n 0, 1) := by decide +kernel
theorem dX12_count_97 : decode cX12_count 97 = .ok (.getfield 95, 3) := by decide +kernel
theorem dX12_count_100 : decode cX12_count 100 = .ok (.iload_n 3, 1) := by decide +kernel
theorem dX12_count_101 : decode cX12_count 101 = .ok (.iaload, 1) := by decide +kernel
theorem dX12_count_102 : decode cX12_count 102 = .ok (.ifCond .ne 7, 3) := by decide +kernel
theorem dX12_count_105 : decode cX12_count 105 = .ok (.iconst 1, 1) := by decide +kernel
theorem dX12_count_106 : decode cX12_count 106 = .ok (.goto 4, 3) := by decide +kernel
theorem dX12_count_109 : decode cX12_count 109 = .ok (.iconst 0, 1) := by decide +kernel
theorem dX12_count_110 : decode cX12_count 110 = .ok (.iadd, 1) := by decide +kernel
theorem dX12_count_111 : decode cX12_count 111 = .ok (.istore_n 2, 1) := by decide +kernel
theorem dX12_count_112 : decode cX12_count 112 = .ok (.iinc 3 1, 3) := by decide +kernel
theorem dX12_count_115 : decode cX12_count 115 = .ok (.goto (-28), 3) := by decide +kernel
theorem dX12_count_118 : decode cX12_count 118 = .ok (.iload_n 2, 1) := by decide +kernel
theorem dX12_count_119 : decode cX12_count 119 = .ok (.ireturn, 1) := by decide +kernel
theorem dX12_count_120 : decode cX12_count 120 = .ok (.aload_n 0, 1) := by decide +kernel
theorem dX12_count_121 : decode cX12_count 121 = .ok (.getfield 362, 3) := by decide +kernel
theorem dX12_count_124 : decode cX12_count 124 = .ok (.ireturn, 1) := by decide +kernel
theorem dX12_count_125 : decode cX12_count 125 = .ok (.iconst 0, 1) := by decide +kernel
theorem dX12_count_126 : decode cX12_count 126 = .ok (.istore_n 3, 1) := by decide +kernel
theorem dX12_count_127 : decode cX12_count 127 = .ok (.iload_n 3, 1) := by decide +kernel
theorem dX12_count_128 : decode cX12_count 128 = .ok (.aload_n 0, 1) := by decide +kernel
theorem dX12_count_129 : decode cX12_count 129 = .ok (.getfield 362, 3) := by decide +kernel
theorem dX12_count_132 : decode cX12_count 132 = .ok (.if_icmp .ge 26, 3) := by decide +kernel
theorem dX12_count_135 : decode cX12_count 135 = .ok (.iload_n 2, 1) := by decide +kernel
theorem dX12_count_136 : decode cX12_count 136 = .ok (.aload_n 0, 1) := by decide +kernel
theorem dX12_count_137 : decode cX12_count 137 = .ok (.getfield 198, 3) := by decide +kernel
theorem dX12_count_140 : decode cX12_count 140 = .ok (.iload_n 3, 1) := by decide +kernel
theorem dX12_count_141 : decode cX12_count 141 = .ok (.iaload, 1) := by decide +kernel
theorem dX12_count_142 : decode cX12_count 142 = .ok (.ifCond .ge 7, 3) := by decide +kernel
theorem dX12_count_145 : decode cX12_count 145 = .ok (.iconst 1, 1) := by decide +kernel
theorem dX12_count_146 : decode cX12_count 146 = .ok (.goto 4, 3) := by decide +kernel
theorem dX12_count_149 : decode cX12_count 149 = .ok (.iconst 0, 1) := by decide +kernel
theorem dX12_count_150 : decode cX12_count 150 = .ok (.iadd, 1) := by decide +kernel
theorem dX12_count_151 : decode cX12_count 151 = .ok (.istore_n 2, 1) := by decide +kernel
theorem dX12_count_152 : decode cX12_count 152 = .ok (.iinc 3 1, 3) := by decide +kernel
theorem dX12_count_155 : decode cX12_count 155 = .ok (.goto (-28), 3) := by decide +kernel
theorem dX12_count_158 : decode cX12_count 158 = .ok (.iload_n 2, 1) := by decide +kernel
theorem dX12_count_159 : decode cX12_count 159 = .ok (.ireturn, 1) := by decide +kernel
theorem dX12_count_160 : decode cX12_count 160 = .ok (.aload_n 0, 1) := by decide +kernel
theorem dX12_count_161 : decode cX12_count 161 = .ok (.getfield 333, 3) := by decide +kernel
theorem dX12_count_164 : decode cX12_count 164 = .ok (.ireturn, 1) := by decide +kernel
theorem dX12_count_165 : decode cX12_count 165 = .ok (.iconst (-1), 1) := by decide +kernel
theorem dX12_count_166 : decode cX12_count 166 = .ok (.ireturn, 1) := by decide +kernel
theorem dX12_isBoard_0 : decode cX12_isBoard 0 = .ok (.iload_n 0, 1) := by decide +kernel
theorem dX12_isBoard_1 : decode cX12_isBoard 1 = .ok (.ifCond .lt 13, 3) := by decide +kernel
theorem dX12_isBoard_4 : decode cX12_isBoard 4 = .ok (.iload_n 0, 1) := by decide +kernel
theorem dX12_isBoard_5 : decode cX12_isBoard 5 = .ok (.bipush 8, 2) := by decide +kernel
theorem dX12_isBoard_7 : decode cX12_isBoard 7 = .ok (.if_icmp .ge 7, 3) := by decide +kernel
theorem dX12_isBoard_10 : decode cX12_isBoard 10 = .ok (.iconst 1, 1) := by decide +kernel
theorem dX12_isBoard_11 : decode cX12_isBoard 11 = .ok (.goto 4, 3) := by decide +kernel
theorem dX12_isBoard_14 : decode cX12_isBoard 14 = .ok (.iconst 0, 1) := by decide +kernel
theorem dX12_isBoard_15 : decode cX12_isBoard 15 = .ok (.ireturn, 1) := by decide +kernel
theorem dX12_keep_0 : decode cX12_keep 0 = .ok (.aload_n 0, 1) := by decide +kernel
theorem dX12_keep_1 : decode cX12_keep 1 = .ok (.iconst 0, 1) := by decide +kernel
theorem dX12_keep_2 : decode cX12_keep 2 = .ok (.putfield 228, 3) := by decide +kernel
theorem dX12_keep_5 : decode cX12_keep 5 = .ok (.iload_n 1, 1) := by decide +kernel
theorem dX12_keep_6 : decode cX12_keep 6 = .ok (.invokestatic 395, 3) := by decide +kernel
theorem dX12_keep_9 : decode cX12_keep 9 = .ok (.ifCond .eq 53, 3) := by decide +kernel
theorem dX12_keep_12 : decode cX12_keep 12 = .ok (.iload_n 2, 1) := by decide +kernel
theorem dX12_keep_13 : decode cX12_keep 13 = .ok (.i2l, 1) := by decide +kernel
theorem dX12_keep_14 : decode cX12_keep 14 = .ok (.lconst 0, 1) := by decide +kernel
theorem dX12_keep_15 : decode cX12_keep 15 = .ok (.ldc2_w 398, 3) := by decide +kernel
theorem dX12_keep_18 : decode cX12_keep 18 = .ok (.invokestatic 242, 3) := by decide +kernel
theorem dX12_keep_21 : decode cX12_keep 21 = .ok (.ifCond .eq 41, 3) := by decide +kernel
theorem dX12_keep_24 : decode cX12_keep 24 = .ok (.iload_n 2, 1) := by decide +kernel
theorem dX12_keep_25 : decode cX12_keep 25 = .ok (.iconst 1, 1) := by decide +kernel
theorem dX12_keep_26 : decode cX12_keep 26 = .ok (.if_icmp .ne 19, 3) := by decide +kernel
theorem dX12_keep_29 : decode cX12_keep 29 = .ok (.iload_n 3, 1) := by decide +kernel
theorem dX12_keep_30 : decode cX12_keep 30 = .ok (.i2l, 1) := by decide +kernel
theorem dX12_keep_31 : decode cX12_keep 31 = .ok (.lconst 0, 1) := by decide +kernel
theorem dX12_keep_32 : decode cX12_keep 32 = .ok (.aload_n 0, 1) := by decide +kernel
theorem dX12_keep_33 : decode cX12_keep 33 = .ok (.getfield 284, 3) := by decide +kernel
theorem dX12_keep_36 : decode cX12_keep 36 = .ok (.iconst 1, 1) := by decide +kernel
theorem dX12_keep_37 : decode cX12_keep 37 = .ok (.isub, 1) := by decide +kernel
theorem dX12_keep_38 : decode cX12_keep 38 = .ok (.i2l, 1) := by decide +kernel
theorem dX12_keep_39 : decode cX12_keep 39 = .ok (.invokestatic 242, 3) := by decide +kernel
theorem dX12_keep_42 : decode cX12_keep 42 = .ok (.ifCond .eq 20, 3) := by decide +kernel
theorem dX12_keep_45 : decode cX12_keep 45 = .ok (.iload_n 2, 1) := by decide +kernel
theorem dX12_keep_46 : decode cX12_keep 46 = .ok (.iconst 3, 1) := by decide +kernel
theorem dX12_keep_47 : decode cX12_keep 47 = .ok (.if_icmp .lt 11, 3) := by decide +kernel
theorem dX12_keep_50 : decode cX12_keep 50 = .ok (.aload_n 0, 1) := by decide +kernel
theorem dX12_keep_51 : decode cX12_keep 51 = .ok (.iload_n 3, 1) := by decide +kernel
theorem dX12_keep_52 : decode cX12_keep 52 = .ok (.invokevirtual 299, 3) := by decide +kernel
theorem dX12_keep_55 : decode cX12_keep 55 = .ok (.ifCond .eq 7, 3) := by decide +kernel
theorem dX12_keep_58 : decode cX12_keep 58 = .ok (.iconst 1, 1) := by decide +kernel
theorem dX12_keep_59 : decode cX12_keep 59 = .ok (.goto 4, 3) := by decide +kernel
theorem dX12_keep_62 : decode cX12_keep 62 = .ok (.iconst 0, 1) := by decide +kernel
theorem dX12_keep_63 : decode cX12_keep 63 = .ok (.istore 4, 2) := by decide +kernel
theorem dX12_keep_65 : decode cX12_keep 65 = .ok (.iload 4, 2) := by decide +kernel
theorem dX12_keep_67 : decode cX12_keep 67 = .ok (.ifCond .ne 5, 3) := by decide +kernel
theorem dX12_keep_70 : decode cX12_keep 70 = .ok (.iconst (-1), 1) := by decide +kernel
theorem dX12_keep_71 : decode cX12_keep 71 = .ok (.ireturn, 1) := by decide +kernel
theorem dX12_keep_72 : decode cX12_keep 72 = .ok (.aload_n 0, 1) := by decide +kernel
theorem dX12_keep_73 : decode cX12_keep 73 = .ok (.getfield 213, 3) := by decide +kernel
theorem dX12_keep_76 : decode cX12_keep 76 = .ok (.iload_n 1, 1) := by decide +kernel
theorem dX12_keep_77 : decode cX12_keep 77 = .ok (.iload_n 2, 1) := by decide +kernel
theorem dX12_keep_78 : decode cX12_keep 78 = .ok (.iastore, 1) := by decide +kernel
theorem dX12_keep_79 : decode cX12_keep 79 = .ok (.aload_n 0, 1) := by decide +kernel
theorem dX12_keep_80 : decode cX12_keep 80 = .ok (.getfield 219, 3) := by decide +kernel
theorem dX12_keep_83 : decode cX12_keep 83 = .ok (.iload_n 1, 1) := by decide +kernel
theorem dX12_keep_84 : decode cX12_keep 84 = .ok (.iload_n 3, 1) := by decide +kernel
theorem dX12_keep_85 : decode cX12_keep 85 = .ok (.iastore, 1) := by decide +kernel
theorem dX12_keep_86 : decode cX12_keep 86 = .ok (.aload_n 0, 1) := by decide +kernel
theorem dX12_keep_87 : decode cX12_keep 87 = .ok (.getfield 216, 3) := by decide +kernel
theorem dX12_keep_90 : decode cX12_keep 90 = .ok (.iload_n 1, 1) := by decide +kernel
theorem dX12_keep_91 : decode cX12_keep 91 = .ok (.iload_n 2, 1) := by decide +kernel
theorem dX12_keep_92 : decode cX12_keep 92 = .ok (.iconst 3, 1) := by decide +kernel
theorem dX12_keep_93 : decode cX12_keep 93 = .ok (.if_icmp .ge 7, 3) := by decide +kernel
theorem dX12_keep_96 : decode cX12_keep 96 = .ok (.iconst 0, 1) := by decide +kernel
theorem dX12_keep_97 : decode cX12_keep 97 = .ok (.goto 21, 3) := by decide +kernel
theorem dX12_keep_100 : decode cX12_keep 100 = .ok (.aload_n 0, 1) := by decide +kernel
theorem dX12_keep_101 : decode cX12_keep 101 = .ok (.getfield 262, 3) := by decide +kernel
theorem dX12_keep_104 : decode cX12_keep 104 = .ok (.bipush 60, 2) := by decide +kernel
theorem dX12_keep_106 : decode cX12_keep 106 = .ok (.if_icmp .ge 10, 3) := by decide +kernel
theorem dX12_keep_109 : decode cX12_keep 109 = .ok (.aload_n 0, 1) := by decide +kernel
theorem dX12_keep_110 : decode cX12_keep 110 = .ok (.getfield 262, 3) := by decide +kernel
theorem dX12_keep_113 : decode cX12_keep 113 = .ok (.goto 5, 3) := by decide +kernel
theorem dX12_keep_116 : decode cX12_keep 116 = .ok (.bipush 60, 2) := by decide +kernel
theorem dX12_keep_118 : decode cX12_keep 118 = .ok (.iastore, 1) := by decide +kernel
theorem dX12_keep_119 : decode cX12_keep 119 = .ok (.iconst 0, 1) := by decide +kernel
theorem dX12_keep_120 : decode cX12_keep 120 = .ok (.istore 5, 2) := by decide +kernel
theorem dX12_keep_122 : decode cX12_keep 122 = .ok (.iload 5, 2) := by decide +kernel
theorem dX12_keep_124 : decode cX12_keep 124 = .ok (.aload_n 0, 1) := by decide +kernel
theorem dX12_keep_125 : decode cX12_keep 125 = .ok (.getfield 216, 3) := by decide +kernel
theorem dX12_keep_128 : decode cX12_keep 128 = .ok (.iload_n 1, 1) := by decide +kernel
theorem dX12_keep_129 : decode cX12_keep 129 = .ok (.iaload, 1) := by decide +kernel
theorem dX12_keep_130 : decode cX12_keep 130 = .ok (.if_icmp .ge 75, 3) := by decide +kernel
theorem dX12_keep_133 : decode cX12_keep 133 = .ok (.aload_n 0, 1) := by decide +kernel
theorem dX12_keep_134 : decode cX12_keep 134 = .ok (.getfield 262, 3) := by decide +kernel
theorem dX12_keep_137 : decode cX12_keep 137 = .ok (.aload_n 0, 1) := by decide +kernel
theorem dX12_keep_138 : decode cX12_keep 138 = .ok (.getfield 216, 3) := by decide +kernel
theorem dX12_keep_141 : decode cX12_keep 141 = .ok (.iload_n 1, 1) := by decide +kernel
theorem dX12_keep_142 : decode cX12_keep 142 = .ok (.iaload, 1) := by decide +kernel
theorem dX12_keep_143 : decode cX12_keep 143 = .ok (.isub, 1) := by decide +kernel
theorem dX12_keep_144 : decode cX12_keep 144 = .ok (.iconst 1, 1) := by decide +kernel
theorem dX12_keep_145 : decode cX12_keep 145 = .ok (.iadd, 1) := by decide +kernel
theorem dX12_keep_146 : decode cX12_keep 146 = .ok (.iload 5, 2) := by decide +kernel
theorem dX12_keep_148 : decode cX12_keep 148 = .ok (.iadd, 1) := by decide +kernel
theorem dX12_keep_149 : decode cX12_keep 149 = .ok (.istore 6, 2) := by decide +kernel
theorem dX12_keep_151 : decode cX12_keep 151 = .ok (.aload_n 0, 1) := by decide +kernel
theorem dX12_keep_152 : decode cX12_keep 152 = .ok (.getfield 222, 3) := by decide +kernel
theorem dX12_keep_155 : decode cX12_keep 155 = .ok (.bipush 60, 2) := by decide +kernel
theorem dX12_keep_157 : decode cX12_keep 157 = .ok (.iload_n 1, 1) := by decide +kernel
theorem dX12_keep_158 : decode cX12_keep 158 = .ok (.imul, 1) := by decide +kernel
theorem dX12_keep_159 : decode cX12_keep 159 = .ok (.iload 5, 2) := by decide +kernel
theorem dX12_keep_161 : decode cX12_keep 161 = .ok (.iadd, 1) := by decide +kernel
theorem dX12_keep_162 : decode cX12_keep 162 = .ok (.aload_n 0, 1) := by decide +kernel
theorem dX12_keep_163 : decode cX12_keep 163 = .ok (.iload_n 3, 1) := by decide +kernel
theorem dX12_keep_164 : decode cX12_keep 164 = .ok (.iload 6, 2) := by decide +kernel
theorem dX12_keep_166 : decode cX12_keep 166 = .ok (.invokevirtual 306, 3) := by decide +kernel
theorem dX12_keep_169 : decode cX12_keep 169 = .ok (.ifCond .ne 7, 3) := by decide +kernel
theorem dX12_keep_172 : decode cX12_keep 172 = .ok (.lconst 0, 1) := by decide +kernel
theorem dX12_keep_173 : decode cX12_keep 173 = .ok (.goto 25, 3) := by decide +kernel
theorem dX12_keep_176 : decode cX12_keep 176 = .ok (.iload_n 2, 1) := by decide +kernel
theorem dX12_keep_177 : decode cX12_keep 177 = .ok (.iconst 3, 1) := by decide +kernel
theorem dX12_keep_178 : decode cX12_keep 178 = .ok (.if_icmp .ne 19, 3) := by decide +kernel
theorem dX12_keep_181 : decode cX12_keep 181 = .ok (.aload_n 0, 1) := by decide +kernel
theorem dX12_keep_182 : decode cX12_keep 182 = .ok (.getfield 13, 3) := by decide +kernel
theorem dX12_keep_185 : decode cX12_keep 185 = .ok (.sipush 401, 3) := by decide +kernel
theorem dX12_keep_188 : decode cX12_keep 188 = .ok (.iload_n 3, 1) := by decide +kernel
theorem dX12_keep_189 : decode cX12_keep 189 = .ok (.imul, 1) := by decide +kernel
theorem dX12_keep_190 : decode cX12_keep 190 = .ok (.iload 6, 2) := by decide +kernel
theorem dX12_keep_192 : decode cX12_keep 192 = .ok (.iadd, 1) := by decide +kernel
theorem dX12_keep_193 : decode cX12_keep 193 = .ok (.laload, 1) := by decide +kernel
theorem dX12_keep_194 : decode cX12_keep 194 = .ok (.goto 4, 3) := by decide +kernel
theorem dX12_keep_197 : decode cX12_keep 197 = .ok (.lconst 1, 1) := by decide +kernel
theorem dX12_keep_198 : decode cX12_keep 198 = .ok (.lastore, 1) := by decide +kernel
theorem dX12_keep_199 : decode cX12_keep 199 = .ok (.iinc 5 1, 3) := by decide +kernel
theorem dX12_keep_202 : decode cX12_keep 202 = .ok (.goto (-80), 3) := by decide +kernel
theorem dX12_keep_205 : decode cX12_keep 205 = .ok (.iconst 0, 1) := by decide +kernel
theorem dX12_keep_206 : decode cX12_keep 206 = .ok (.ireturn, 1) := by decide +kernel
theorem dX12_make_0 : decode cX12_make 0 = .ok (.aload_n 0, 1) := by decide +kernel
theorem dX12_make_1 : decode cX12_make 1 = .ok (.iconst 0, 1) := by decide +kernel
theorem dX12_make_2 : decode cX12_make 2 = .ok (.putfield 228, 3) := by decide +kernel
theorem dX12_make_5 : decode cX12_make 5 = .ok (.iload_n 1, 1) := by decide +kernel
theorem dX12_make_6 : decode cX12_make 6 = .ok (.invokestatic 395, 3) := by decide +kernel
theorem dX12_make_9 : decode cX12_make 9 = .ok (.ifCond .eq 23, 3) := by decide +kernel
theorem dX12_make_12 : decode cX12_make 12 = .ok (.iload_n 2, 1) := by decide +kernel
theorem dX12_make_13 : decode cX12_make 13 = .ok (.i2l, 1) := by decide +kernel
theorem dX12_make_14 : decode cX12_make 14 = .ok (.ldc2_w 400, 3) := by decide +kernel
theorem dX12_make_17 : decode cX12_make 17 = .ok (.ldc2_w 398, 3) := by decide +kernel
theorem dX12_make_20 : decode cX12_make 20 = .ok (.invokestatic 242, 3) := by decide +kernel
theorem dX12_make_23 : decode cX12_make 23 = .ok (.ifCond .eq 9, 3) := by decide +kernel
theorem dX12_make_26 : decode cX12_make 26 = .ok (.iload_n 3, 1) := by decide +kernel
theorem dX12_make_27 : decode cX12_make 27 = .ok (.bipush 60, 2) := by decide +kernel
theorem dX12_make_29 : decode cX12_make 29 = .ok (.if_icmp .le 5, 3) := by decide +kernel
theorem dX12_make_32 : decode cX12_make 32 = .ok (.iconst (-1), 1) := by decide +kernel
theorem dX12_make_33 : decode cX12_make 33 = .ok (.ireturn, 1) := by decide +kernel
theorem dX12_make_34 : decode cX12_make 34 = .ok (.iload_n 3, 1) := by decide +kernel
theorem dX12_make_35 : decode cX12_make 35 = .ok (.ifCond .ge 6, 3) := by decide +kernel
theorem dX12_make_38 : decode cX12_make 38 = .ok (.bipush (-14), 2) := by decide +kernel
theorem dX12_make_40 : decode cX12_make 40 = .ok (.ireturn, 1) := by decide +kernel
theorem dX12_make_41 : decode cX12_make 41 = .ok (.aload_n 0, 1) := by decide +kernel
theorem dX12_make_42 : decode cX12_make 42 = .ok (.getfield 213, 3) := by decide +kernel
theorem dX12_make_45 : decode cX12_make 45 = .ok (.iload_n 1, 1) := by decide +kernel
theorem dX12_make_46 : decode cX12_make 46 = .ok (.iload_n 2, 1) := by decide +kernel
theorem dX12_make_47 : decode cX12_make 47 = .ok (.iastore, 1) := by decide +kernel
theorem dX12_make_48 : decode cX12_make 48 = .ok (.aload_n 0, 1) := by decide +kernel
theorem dX12_make_49 : decode cX12_make 49 = .ok (.getfield 216, 3) := by decide +kernel
theorem dX12_make_52 : decode cX12_make 52 = .ok (.iload_n 1, 1) := by decide +kernel
theorem dX12_make_53 : decode cX12_make 53 = .ok (.iload_n 3, 1) := by decide +kernel
theorem dX12_make_54 : decode cX12_make 54 = .ok (.iastore, 1) := by decide +kernel
theorem dX12_make_55 : decode cX12_make 55 = .ok (.iconst 0, 1) := by decide +kernel
theorem dX12_make_56 : decode cX12_make 56 = .ok (.istore 4, 2) := by decide +kernel
theorem dX12_make_58 : decode cX12_make 58 = .ok (.iload 4, 2) := by decide +kernel
theorem dX12_make_60 : decode cX12_make 60 = .ok (.iload_n 3, 1) := by decide +kernel
theorem dX12_make_61 : decode cX12_make 61 = .ok (.if_icmp .ge 22, 3) := by decide +kernel
theorem dX12_make_64 : decode cX12_make 64 = .ok (.aload_n 0, 1) := by decide +kernel
theorem dX12_make_65 : decode cX12_make 65 = .ok (.getfield 222, 3) := by decide +kernel
theorem dX12_make_68 : decode cX12_make 68 = .ok (.bipush 60, 2) := by decide +kernel
theorem dX12_make_70 : decode cX12_make 70 = .ok (.iload_n 1, 1) := by decide +kernel
theorem dX12_make_71 : decode cX12_make 71 = .ok (.imul, 1) := by decide +kernel
theorem dX12_make_72 : decode cX12_make 72 = .ok (.iload 4, 2) := by decide +kernel
theorem dX12_make_74 : decode cX12_make 74 = .ok (.iadd, 1) := by decide +kernel
theorem dX12_make_75 : decode cX12_make 75 = .ok (.lconst 0, 1) := by decide +kernel
theorem dX12_make_76 : decode cX12_make 76 = .ok (.lastore, 1) := by decide +kernel
theorem dX12_make_77 : decode cX12_make 77 = .ok (.iinc 4 1, 3) := by decide +kernel
theorem dX12_make_80 : decode cX12_make 80 = .ok (.goto (-22), 3) := by decide +kernel
theorem dX12_make_83 : decode cX12_make 83 = .ok (.iconst 0, 1) := by decide +kernel
theorem dX12_make_84 : decode cX12_make 84 = .ok (.ireturn, 1) := by decide +kernel
theorem dX12_element_0 : decode cX12_element 0 = .ok (.iload_n 1, 1) := by decide +kernel
theorem dX12_element_1 : decode cX12_element 1 = .ok (.invokestatic 395, 3) := by decide +kernel
theorem dX12_element_4 : decode cX12_element 4 = .ok (.ifCond .eq 35, 3) := by decide +kernel
theorem dX12_element_7 : decode cX12_element 7 = .ok (.aload_n 0, 1) := by decide +kernel
theorem dX12_element_8 : decode cX12_element 8 = .ok (.getfield 213, 3) := by decide +kernel
theorem dX12_element_11 : decode cX12_element 11 = .ok (.iload_n 1, 1) := by decide +kernel
theorem dX12_element_12 : decode cX12_element 12 = .ok (.iaload, 1) := by decide +kernel
theorem dX12_element_13 : decode cX12_element 13 = .ok (.iconst 2, 1) := by decide +kernel
theorem dX12_element_14 : decode cX12_element 14 = .ok (.if_icmp .le 25, 3) := by decide +kernel
theorem dX12_element_17 : decode cX12_element 17 = .ok (.iload_n 2, 1) := by decide +kernel
theorem dX12_element_18 : decode cX12_element 18 = .ok (.i2l, 1) := by decide +kernel
theorem dX12_element_19 : decode cX12_element 19 = .ok (.lconst 0, 1) := by decide +kernel
theorem dX12_element_20 : decode cX12_element 20 = .ok (.aload_n 0, 1) := by decide +kernel
theorem dX12_element_21 : decode cX12_element 21 = .ok (.getfield 216, 3) := by decide +kernel
theorem dX12_element_24 : decode cX12_element 24 = .ok (.iload_n 1, 1) := by decide +kernel
theorem dX12_element_25 : decode cX12_element 25 = .ok (.iaload, 1) := by decide +kernel
theorem dX12_element_26 : decode cX12_element 26 = .ok (.iconst 1, 1) := by decide +kernel
theorem dX12_element_27 : decode cX12_element 27 = .ok (.isub, 1) := by decide +kernel
theorem dX12_element_28 : decode cX12_element 28 = .ok (.i2l, 1) := by decide +kernel
theorem dX12_element_29 : decode cX12_element 29 = .ok (.invokestatic 242, 3) := by decide +kernel
theorem dX12_element_32 : decode cX12_element 32 = .ok (.ifCond .eq 7, 3) := by decide +kernel
theorem dX12_element_35 : decode cX12_element 35 = .ok (.iconst 1, 1) := by decide +kernel
theorem dX12_element_36 : decode cX12_element 36 = .ok (.goto 4, 3) := by decide +kernel
theorem dX12_element_39 : decode cX12_element 39 = .ok (.iconst 0, 1) := by decide +kernel
theorem dX12_element_40 : decode cX12_element 40 = .ok (.istore_n 3, 1) := by decide +kernel
theorem dX12_element_41 : decode cX12_element 41 = .ok (.aload_n 0, 1) := by decide +kernel
theorem dX12_element_42 : decode cX12_element 42 = .ok (.iload_n 1, 1) := by decide +kernel
theorem dX12_element_43 : decode cX12_element 43 = .ok (.invokestatic 395, 3) := by decide +kernel
theorem dX12_element_46 : decode cX12_element 46 = .ok (.ifCond .ne 7, 3) := by decide +kernel
theorem dX12_element_49 : decode cX12_element 49 = .ok (.iconst 1, 1) := by decide +kernel
theorem dX12_element_50 : decode cX12_element 50 = .ok (.goto 12, 3) := by decide +kernel
theorem dX12_element_53 : decode cX12_element 53 = .ok (.iload_n 3, 1) := by decide +kernel
theorem dX12_element_54 : decode cX12_element 54 = .ok (.ifCond .eq 7, 3) := by decide +kernel
theorem dX12_element_57 : decode cX12_element 57 = .ok (.iconst 0, 1) := by decide +kernel
theorem dX12_element_58 : decode cX12_element 58 = .ok (.goto 4, 3) := by decide +kernel
theorem dX12_element_61 : decode cX12_element 61 = .ok (.iconst 2, 1) := by decide +kernel
theorem dX12_element_62 : decode cX12_element 62 = .ok (.putfield 228, 3) := by decide +kernel
theorem dX12_element_65 : decode cX12_element 65 = .ok (.iload_n 3, 1) := by decide +kernel
theorem dX12_element_66 : decode cX12_element 66 = .ok (.ifCond .eq 17, 3) := by decide +kernel
theorem dX12_element_69 : decode cX12_element 69 = .ok (.aload_n 0, 1) := by decide +kernel
theorem dX12_element_70 : decode cX12_element 70 = .ok (.getfield 222, 3) := by decide +kernel
theorem dX12_element_73 : decode cX12_element 73 = .ok (.bipush 60, 2) := by decide +kernel
theorem dX12_element_75 : decode cX12_element 75 = .ok (.iload_n 1, 1) := by decide +kernel
theorem dX12_element_76 : decode cX12_element 76 = .ok (.imul, 1) := by decide +kernel
theorem dX12_element_77 : decode cX12_element 77 = .ok (.iload_n 2, 1) := by decide +kernel
theorem dX12_element_78 : decode cX12_element 78 = .ok (.iadd, 1) := by decide +kernel
theorem dX12_element_79 : decode cX12_element 79 = .ok (.laload, 1) := by decide +kernel
theorem dX12_element_80 : decode cX12_element 80 = .ok (.goto 4, 3) := by decide +kernel
theorem dX12_element_83 : decode cX12_element 83 = .ok (.lconst 0, 1) := by decide +kernel
theorem dX12_element_84 : decode cX12_element 84 = .ok (.lreturn, 1) := by decide +kernel
theorem dX12_hasPlaces_0 : decode cX12_hasPlaces 0 = .ok (.iload_n 3, 1) := by decide +kernel
theorem dX12_hasPlaces_1 : decode cX12_hasPlaces 1 = .ok (.ifCond .lt 33, 3) := by decide +kernel
theorem dX12_hasPlaces_4 : decode cX12_hasPlaces 4 = .ok (.iload_n 2, 1) := by decide +kernel
theorem dX12_hasPlaces_5 : decode cX12_hasPlaces 5 = .ok (.ifCond .lt 29, 3) := by decide +kernel
theorem dX12_hasPlaces_8 : decode cX12_hasPlaces 8 = .ok (.iload_n 2, 1) := by decide +kernel
theorem dX12_hasPlaces_9 : decode cX12_hasPlaces 9 = .ok (.aload_n 0, 1) := by decide +kernel
theorem dX12_hasPlaces_10 : decode cX12_hasPlaces 10 = .ok (.getfield 216, 3) := by decide +kernel
theorem dX12_hasPlaces_13 : decode cX12_hasPlaces 13 = .ok (.iload_n 1, 1) := by decide +kernel
theorem dX12_hasPlaces_14 : decode cX12_hasPlaces 14 = .ok (.iaload, 1) := by decide +kernel
theorem dX12_hasPlaces_15 : decode cX12_hasPlaces 15 = .ok (.if_icmp .gt 19, 3) := by decide +kernel
theorem dX12_hasPlaces_18 : decode cX12_hasPlaces 18 = .ok (.iload_n 3, 1) := by decide +kernel
theorem dX12_hasPlaces_19 : decode cX12_hasPlaces 19 = .ok (.aload_n 0, 1) := by decide +kernel
theorem dX12_hasPlaces_20 : decode cX12_hasPlaces 20 = .ok (.getfield 216, 3) := by decide +kernel
theorem dX12_hasPlaces_23 : decode cX12_hasPlaces 23 = .ok (.iload_n 1, 1) := by decide +kernel
theorem dX12_hasPlaces_24 : decode cX12_hasPlaces 24 = .ok (.iaload, 1) := by decide +kernel
theorem dX12_hasPlaces_25 : decode cX12_hasPlaces 25 = .ok (.iload_n 2, 1) := by decide +kernel
theorem dX12_hasPlaces_26 : decode cX12_hasPlaces 26 = .ok (.isub, 1) := by decide +kernel
theorem dX12_hasPlaces_27 : decode cX12_hasPlaces 27 = .ok (.if_icmp .gt 7, 3) := by decide +kernel
theorem dX12_hasPlaces_30 : decode cX12_hasPlaces 30 = .ok (.iconst 1, 1) := by decide +kernel
theorem dX12_hasPlaces_31 : decode cX12_hasPlaces 31 = .ok (.goto 4, 3) := by decide +kernel
theorem dX12_hasPlaces_34 : decode cX12_hasPlaces 34 = .ok (.iconst 0, 1) := by decide +kernel
theorem dX12_hasPlaces_35 : decode cX12_hasPlaces 35 = .ok (.ireturn, 1) := by decide +kernel
theorem dX12_copy_0 : decode cX12_copy 0 = .ok (.aload_n 0, 1) := by decide +kernel
theorem dX12_copy_1 : decode cX12_copy 1 = .ok (.iconst 0, 1) := by decide +kernel
theorem dX12_copy_2 : decode cX12_copy 2 = .ok (.putfield 228, 3) := by decide +kernel
theorem dX12_copy_5 : decode cX12_copy 5 = .ok (.iload_n 1, 1) := by decide +kernel
theorem dX12_copy_6 : decode cX12_copy 6 = .ok (.invokestatic 395, 3) := by decide +kernel
theorem dX12_copy_9 : decode cX12_copy 9 = .ok (.ifCond .eq 10, 3) := by decide +kernel
theorem dX12_copy_12 : decode cX12_copy 12 = .ok (.iload_n 3, 1) := by decide +kernel
theorem dX12_copy_13 : decode cX12_copy 13 = .ok (.invokestatic 395, 3) := by decide +kernel
theorem dX12_copy_16 : decode cX12_copy 16 = .ok (.ifCond .ne 5, 3) := by decide +kernel
theorem dX12_copy_19 : decode cX12_copy 19 = .ok (.iconst (-1), 1) := by decide +kernel
theorem dX12_copy_20 : decode cX12_copy 20 = .ok (.ireturn, 1) := by decide +kernel
theorem dX12_copy_21 : decode cX12_copy 21 = .ok (.aload_n 0, 1) := by decide +kernel
theorem dX12_copy_22 : decode cX12_copy 22 = .ok (.getfield 213, 3) := by decide +kernel
theorem dX12_copy_25 : decode cX12_copy 25 = .ok (.iload_n 1, 1) := by decide +kernel
theorem dX12_copy_26 : decode cX12_copy 26 = .ok (.iaload, 1) := by decide +kernel
theorem dX12_copy_27 : decode cX12_copy 27 = .ok (.ifCond .eq 12, 3) := by decide +kernel
theorem dX12_copy_30 : decode cX12_copy 30 = .ok (.aload_n 0, 1) := by decide +kernel
theorem dX12_copy_31 : decode cX12_copy 31 = .ok (.getfield 213, 3) := by decide +kernel
theorem dX12_copy_34 : decode cX12_copy 34 = .ok (.iload_n 3, 1) := by decide +kernel
theorem dX12_copy_35 : decode cX12_copy 35 = .ok (.iaload, 1) := by decide +kernel
theorem dX12_copy_36 : decode cX12_copy 36 = .ok (.ifCond .ne 6, 3) := by decide +kernel
theorem dX12_copy_39 : decode cX12_copy 39 = .ok (.bipush (-11), 2) := by decide +kernel
theorem dX12_copy_41 : decode cX12_copy 41 = .ok (.ireturn, 1) := by decide +kernel
theorem dX12_copy_42 : decode cX12_copy 42 = .ok (.aload_n 0, 1) := by decide +kernel
theorem dX12_copy_43 : decode cX12_copy 43 = .ok (.getfield 213, 3) := by decide +kernel
theorem dX12_copy_46 : decode cX12_copy 46 = .ok (.iload_n 1, 1) := by decide +kernel
theorem dX12_copy_47 : decode cX12_copy 47 = .ok (.iaload, 1) := by decide +kernel
theorem dX12_copy_48 : decode cX12_copy 48 = .ok (.iconst 3, 1) := by decide +kernel
theorem dX12_copy_49 : decode cX12_copy 49 = .ok (.if_icmp .lt 18, 3) := by decide +kernel
theorem dX12_copy_52 : decode cX12_copy 52 = .ok (.aload_n 0, 1) := by decide +kernel
theorem dX12_copy_53 : decode cX12_copy 53 = .ok (.getfield 213, 3) := by decide +kernel
theorem dX12_copy_56 : decode cX12_copy 56 = .ok (.iload_n 1, 1) := by decide +kernel
theorem dX12_copy_57 : decode cX12_copy 57 = .ok (.iaload, 1) := by decide +kernel
theorem dX12_copy_58 : decode cX12_copy 58 = .ok (.aload_n 0, 1) := by decide +kernel
theorem dX12_copy_59 : decode cX12_copy 59 = .ok (.getfield 213, 3) := by decide +kernel
theorem dX12_copy_62 : decode cX12_copy 62 = .ok (.iload_n 3, 1) := by decide +kernel
theorem dX12_copy_63 : decode cX12_copy 63 = .ok (.iaload, 1) := by decide +kernel
theorem dX12_copy_64 : decode cX12_copy 64 = .ok (.if_icmp .eq 6, 3) := by decide +kernel
theorem dX12_copy_67 : decode cX12_copy 67 = .ok (.bipush (-12), 2) := by decide +kernel
theorem dX12_copy_69 : decode cX12_copy 69 = .ok (.ireturn, 1) := by decide +kernel
theorem dX12_copy_70 : decode cX12_copy 70 = .ok (.aload_n 0, 1) := by decide +kernel
theorem dX12_copy_71 : decode cX12_copy 71 = .ok (.iload_n 1, 1) := by decide +kernel
theorem dX12_copy_72 : decode cX12_copy 72 = .ok (.iload_n 2, 1) := by decide +kernel
theorem dX12_copy_73 : decode cX12_copy 73 = .ok (.iload 5, 2) := by decide +kernel
theorem dX12_copy_75 : decode cX12_copy 75 = .ok (.invokevirtual 402, 3) := by decide +kernel
theorem dX12_copy_78 : decode cX12_copy 78 = .ok (.ifCond .eq 15, 3) := by decide +kernel
theorem dX12_copy_81 : decode cX12_copy 81 = .ok (.aload_n 0, 1) := by decide +kernel
theorem dX12_copy_82 : decode cX12_copy 82 = .ok (.iload_n 3, 1) := by decide +kernel
theorem dX12_copy_83 : decode cX12_copy 83 = .ok (.iload 4, 2) := by decide +kernel
theorem dX12_copy_85 : decode cX12_copy 85 = .ok (.iload 5, 2) := by decide +kernel
theorem dX12_copy_87 : decode cX12_copy 87 = .ok (.invokevirtual 402, 3) := by decide +kernel
theorem dX12_copy_90 : decode cX12_copy 90 = .ok (.ifCond .ne 6, 3) := by decide +kernel
theorem dX12_copy_93 : decode cX12_copy 93 = .ok (.bipush (-13), 2) := by decide +kernel
theorem dX12_copy_95 : decode cX12_copy 95 = .ok (.ireturn, 1) := by decide +kernel
theorem dX12_copy_96 : decode cX12_copy 96 = .ok (.iconst 0, 1) := by decide +kernel
theorem dX12_copy_97 : decode cX12_copy 97 = .ok (.istore 6, 2) := by decide +kernel
theorem dX12_copy_99 : decode cX12_copy 99 = .ok (.iload 6, 2) := by decide +kernel
theorem dX12_copy_101 : decode cX12_copy 101 = .ok (.iload 5, 2) := by decide +kernel
theorem dX12_copy_103 : decode cX12_copy 103 = .ok (.if_icmp .ge 30, 3) := by decide +kernel
theorem dX12_copy_106 : decode cX12_copy 106 = .ok (.aload_n 0, 1) := by decide +kernel
theorem dX12_copy_107 : decode cX12_copy 107 = .ok (.getfield 225, 3) := by decide +kernel
theorem dX12_copy_110 : decode cX12_copy 110 = .ok (.iload 6, 2) := by decide +kernel
theorem dX12_copy_112 : decode cX12_copy 112 = .ok (.aload_n 0, 1) := by decide +kernel
theorem dX12_copy_113 : decode cX12_copy 113 = .ok (.getfield 222, 3) := by decide +kernel
theorem dX12_copy_116 : decode cX12_copy 116 = .ok (.bipush 60, 2) := by decide +kernel
theorem dX12_copy_118 : decode cX12_copy 118 = .ok (.iload_n 1, 1) := by decide +kernel
theorem dX12_copy_119 : decode cX12_copy 119 = .ok (.imul, 1) := by decide +kernel
theorem dX12_copy_120 : decode cX12_copy 120 = .ok (.iload_n 2, 1) := by decide +kernel
theorem dX12_copy_121 : decode cX12_copy 121 = .ok (.iadd, 1) := by decide +kernel
theorem dX12_copy_122 : decode cX12_copy 122 = .ok (.iload 6, 2) := by decide +kernel
theorem dX12_copy_124 : decode cX12_copy 124 = .ok (.iadd, 1) := by decide +kernel
theorem dX12_copy_125 : decode cX12_copy 125 = .ok (.laload, 1) := by decide +kernel
theorem dX12_copy_126 : decode cX12_copy 126 = .ok (.lastore, 1) := by decide +kernel
theorem dX12_copy_127 : decode cX12_copy 127 = .ok (.iinc 6 1, 3) := by decide +kernel
theorem dX12_copy_130 : decode cX12_copy 130 = .ok (.goto (-31), 3) := by decide +kernel
theorem dX12_copy_133 : decode cX12_copy 133 = .ok (.iconst 0, 1) := by decide +kernel
theorem dX12_copy_134 : decode cX12_copy 134 = .ok (.istore 6, 2) := by decide +kernel
theorem dX12_copy_136 : decode cX12_copy 136 = .ok (.iload 6, 2) := by decide +kernel
theorem dX12_copy_138 : decode cX12_copy 138 = .ok (.iload 5, 2) := by decide +kernel
theorem dX12_copy_140 : decode cX12_copy 140 = .ok (.if_icmp .ge 31, 3) := by decide +kernel
theorem dX12_copy_143 : decode cX12_copy 143 = .ok (.aload_n 0, 1) := by decide +kernel
theorem dX12_copy_144 : decode cX12_copy 144 = .ok (.getfield 222, 3) := by decide +kernel
theorem dX12_copy_147 : decode cX12_copy 147 = .ok (.bipush 60, 2) := by decide +kernel
theorem dX12_copy_149 : decode cX12_copy 149 = .ok (.iload_n 3, 1) := by decide +kernel
theorem dX12_copy_150 : decode cX12_copy 150 = .ok (.imul, 1) := by decide +kernel
theorem dX12_copy_151 : decode cX12_copy 151 = .ok (.iload 4, 2) := by decide +kernel
theorem dX12_copy_153 : decode cX12_copy 153 = .ok (.iadd, 1) := by decide +kernel
theorem dX12_copy_154 : decode cX12_copy 154 = .ok (.iload 6, 2) := by decide +kernel
theorem dX12_copy_156 : decode cX12_copy 156 = .ok (.iadd, 1) := by decide +kernel
theorem dX12_copy_157 : decode cX12_copy 157 = .ok (.aload_n 0, 1) := by decide +kernel
theorem dX12_copy_158 : decode cX12_copy 158 = .ok (.getfield 225, 3) := by decide +kernel
theorem dX12_copy_161 : decode cX12_copy 161 = .ok (.iload 6, 2) := by decide +kernel
theorem dX12_copy_163 : decode cX12_copy 163 = .ok (.laload, 1) := by decide +kernel
theorem dX12_copy_164 : decode cX12_copy 164 = .ok (.lastore, 1) := by decide +kernel
theorem dX12_copy_165 : decode cX12_copy 165 = .ok (.iinc 6 1, 3) := by decide +kernel
theorem dX12_copy_168 : decode cX12_copy 168 = .ok (.goto (-32), 3) := by decide +kernel
theorem dX12_copy_171 : decode cX12_copy 171 = .ok (.iload 5, 2) := by decide +kernel
theorem dX12_copy_173 : decode cX12_copy 173 = .ok (.ireturn, 1) := by decide +kernel
theorem dX12_denied_0 : decode cX12_denied 0 = .ok (.iload_n 1, 1) := by decide +kernel
theorem dX12_denied_1 : decode cX12_denied 1 = .ok (.invokestatic 395, 3) := by decide +kernel
theorem dX12_denied_4 : decode cX12_denied 4 = .ok (.ifCond .ne 7, 3) := by decide +kernel
theorem dX12_denied_7 : decode cX12_denied 7 = .ok (.iconst (-1), 1) := by decide +kernel
theorem dX12_denied_8 : decode cX12_denied 8 = .ok (.goto 33, 3) := by decide +kernel
theorem dX12_denied_11 : decode cX12_denied 11 = .ok (.aload_n 0, 1) := by decide +kernel
theorem dX12_denied_12 : decode cX12_denied 12 = .ok (.getfield 213, 3) := by decide +kernel
theorem dX12_denied_15 : decode cX12_denied 15 = .ok (.iload_n 1, 1) := by decide +kernel
theorem dX12_denied_16 : decode cX12_denied 16 = .ok (.iaload, 1) := by decide +kernel
theorem dX12_denied_17 : decode cX12_denied 17 = .ok (.ifCond .ne 8, 3) := by decide +kernel
theorem dX12_denied_20 : decode cX12_denied 20 = .ok (.bipush (-11), 2) := by decide +kernel
theorem dX12_denied_22 : decode cX12_denied 22 = .ok (.goto 19, 3) := by decide +kernel
theorem dX12_denied_25 : decode cX12_denied 25 = .ok (.aload_n 0, 1) := by decide +kernel
theorem dX12_denied_26 : decode cX12_denied 26 = .ok (.getfield 213, 3) := by decide +kernel
theorem dX12_denied_29 : decode cX12_denied 29 = .ok (.iload_n 1, 1) := by decide +kernel
theorem dX12_denied_30 : decode cX12_denied 30 = .ok (.iaload, 1) := by decide +kernel
theorem dX12_denied_31 : decode cX12_denied 31 = .ok (.iconst 1, 1) := by decide +kernel
theorem dX12_denied_32 : decode cX12_denied 32 = .ok (.if_icmp .le 8, 3) := by decide +kernel
theorem dX12_denied_35 : decode cX12_denied 35 = .ok (.bipush (-12), 2) := by decide +kernel
theorem dX12_denied_37 : decode cX12_denied 37 = .ok (.goto 4, 3) := by decide +kernel
theorem dX12_denied_40 : decode cX12_denied 40 = .ok (.iconst 0, 1) := by decide +kernel
theorem dX12_denied_41 : decode cX12_denied 41 = .ok (.ireturn, 1) := by decide +kernel
theorem dX12_weight_0 : decode cX12_weight 0 = .ok (.aload_n 0, 1) := by decide +kernel
theorem dX12_weight_1 : decode cX12_weight 1 = .ok (.iconst 0, 1) := by decide +kernel
theorem dX12_weight_2 : decode cX12_weight 2 = .ok (.putfield 228, 3) := by decide +kernel
theorem dX12_weight_5 : decode cX12_weight 5 = .ok (.aload_n 0, 1) := by decide +kernel
theorem dX12_weight_6 : decode cX12_weight 6 = .ok (.iload_n 1, 1) := by decide +kernel
theorem dX12_weight_7 : decode cX12_weight 7 = .ok (.invokevirtual 406, 3) := by decide +kernel
theorem dX12_weight_10 : decode cX12_weight 10 = .ok (.istore_n 2, 1) := by decide +kernel
theorem dX12_weight_11 : decode cX12_weight 11 = .ok (.iload_n 2, 1) := by decide +kernel
theorem dX12_weight_12 : decode cX12_weight 12 = .ok (.ifCond .ge 5, 3) := by decide +kernel
theorem dX12_weight_15 : decode cX12_weight 15 = .ok (.iload_n 2, 1) := by decide +kernel
theorem dX12_weight_16 : decode cX12_weight 16 = .ok (.ireturn, 1) := by decide +kernel
theorem dX12_weight_17 : decode cX12_weight 17 = .ok (.aload_n 0, 1) := by decide +kernel
theorem dX12_weight_18 : decode cX12_weight 18 = .ok (.getfield 86, 3) := by decide +kernel
theorem dX12_weight_21 : decode cX12_weight 21 = .ok (.aload_n 0, 1) := by decide +kernel
theorem dX12_weight_22 : decode cX12_weight 22 = .ok (.getfield 219, 3) := by decide +kernel
theorem dX12_weight_25 : decode cX12_weight 25 = .ok (.iload_n 1, 1) := by decide +kernel
theorem dX12_weight_26 : decode cX12_weight 26 = .ok (.iaload, 1) := by decide +kernel
theorem dX12_weight_27 : decode cX12_weight 27 = .ok (.iaload, 1) := by decide +kernel
theorem dX12_weight_28 : decode cX12_weight 28 = .ok (.istore_n 3, 1) := by decide +kernel
theorem dX12_weight_29 : decode cX12_weight 29 = .ok (.bipush 10, 2) := by decide +kernel
theorem dX12_weight_31 : decode cX12_weight 31 = .ok (.aload_n 0, 1) := by decide +kernel
theorem dX12_weight_32 : decode cX12_weight 32 = .ok (.getfield 39, 3) := by decide +kernel
theorem dX12_weight_35 : decode cX12_weight 35 = .ok (.iload_n 3, 1) := by decide +kernel
theorem dX12_weight_36 : decode cX12_weight 36 = .ok (.iaload, 1) := by decide +kernel
theorem dX12_weight_37 : decode cX12_weight 37 = .ok (.imul, 1) := by decide +kernel
theorem dX12_weight_38 : decode cX12_weight 38 = .ok (.aload_n 0, 1) := by decide +kernel
theorem dX12_weight_39 : decode cX12_weight 39 = .ok (.getfield 21, 3) := by decide +kernel
theorem dX12_weight_42 : decode cX12_weight 42 = .ok (.iload_n 3, 1) := by decide +kernel
theorem dX12_weight_43 : decode cX12_weight 43 = .ok (.iaload, 1) := by decide +kernel
theorem dX12_weight_44 : decode cX12_weight 44 = .ok (.iadd, 1) := by decide +kernel
theorem dX12_weight_45 : decode cX12_weight 45 = .ok (.aload_n 0, 1) := by decide +kernel
theorem dX12_weight_46 : decode cX12_weight 46 = .ok (.getfield 21, 3) := by decide +kernel
theorem dX12_weight_49 : decode cX12_weight 49 = .ok (.iload_n 3, 1) := by decide +kernel
theorem dX12_weight_50 : decode cX12_weight 50 = .ok (.iaload, 1) := by decide +kernel
theorem dX12_weight_51 : decode cX12_weight 51 = .ok (.ifCond .le 8, 3) := by decide +kernel
theorem dX12_weight_54 : decode cX12_weight 54 = .ok (.bipush 100, 2) := by decide +kernel
theorem dX12_weight_56 : decode cX12_weight 56 = .ok (.goto 4, 3) := by decide +kernel
theorem dX12_weight_59 : decode cX12_weight 59 = .ok (.iconst 0, 1) := by decide +kernel
theorem dX12_weight_60 : decode cX12_weight 60 = .ok (.iadd, 1) := by decide +kernel
theorem dX12_weight_61 : decode cX12_weight 61 = .ok (.aload_n 0, 1) := by decide +kernel
theorem dX12_weight_62 : decode cX12_weight 62 = .ok (.getfield 21, 3) := by decide +kernel
theorem dX12_weight_65 : decode cX12_weight 65 = .ok (.iload_n 3, 1) := by decide +kernel
theorem dX12_weight_66 : decode cX12_weight 66 = .ok (.iaload, 1) := by decide +kernel
theorem dX12_weight_67 : decode cX12_weight 67 = .ok (.iconst 3, 1) := by decide +kernel
theorem dX12_weight_68 : decode cX12_weight 68 = .ok (.if_icmp .eq 13, 3) := by decide +kernel
theorem dX12_weight_71 : decode cX12_weight 71 = .ok (.aload_n 0, 1) := by decide +kernel
theorem dX12_weight_72 : decode cX12_weight 72 = .ok (.getfield 21, 3) := by decide +kernel
theorem dX12_weight_75 : decode cX12_weight 75 = .ok (.iload_n 3, 1) := by decide +kernel
theorem dX12_weight_76 : decode cX12_weight 76 = .ok (.iaload, 1) := by decide +kernel
theorem dX12_weight_77 : decode cX12_weight 77 = .ok (.iconst 5, 1) := by decide +kernel
theorem dX12_weight_78 : decode cX12_weight 78 = .ok (.if_icmp .ne 9, 3) := by decide +kernel
theorem dX12_weight_81 : decode cX12_weight 81 = .ok (.sipush 1000, 3) := by decide +kernel
theorem dX12_weight_84 : decode cX12_weight 84 = .ok (.goto 4, 3) := by decide +kernel
theorem dX12_weight_87 : decode cX12_weight 87 = .ok (.iconst 0, 1) := by decide +kernel
theorem dX12_weight_88 : decode cX12_weight 88 = .ok (.iadd, 1) := by decide +kernel
theorem dX12_weight_89 : decode cX12_weight 89 = .ok (.ireturn, 1) := by decide +kernel
theorem dX12_toss_0 : decode cX12_toss 0 = .ok (.aload_n 0, 1) := by decide +kernel
theorem dX12_toss_1 : decode cX12_toss 1 = .ok (.iconst 0, 1) := by decide +kernel
theorem dX12_toss_2 : decode cX12_toss 2 = .ok (.putfield 228, 3) := by decide +kernel
theorem dX12_toss_5 : decode cX12_toss 5 = .ok (.aload_n 0, 1) := by decide +kernel
theorem dX12_toss_6 : decode cX12_toss 6 = .ok (.iload_n 1, 1) := by decide +kernel
theorem dX12_toss_7 : decode cX12_toss 7 = .ok (.invokevirtual 406, 3) := by decide +kernel
theorem dX12_toss_10 : decode cX12_toss 10 = .ok (.istore_n 2, 1) := by decide +kernel
theorem dX12_toss_11 : decode cX12_toss 11 = .ok (.iload_n 2, 1) := by decide +kernel
theorem dX12_toss_12 : decode cX12_toss 12 = .ok (.ifCond .ge 7, 3) := by decide +kernel
theorem dX12_toss_15 : decode cX12_toss 15 = .ok (.iload_n 2, 1) := by decide +kernel
theorem dX12_toss_16 : decode cX12_toss 16 = .ok (.goto 38, 3) := by decide +kernel
theorem dX12_toss_19 : decode cX12_toss 19 = .ok (.aload_n 0, 1) := by decide +kernel
theorem dX12_toss_20 : decode cX12_toss 20 = .ok (.getfield 21, 3) := by decide +kernel
theorem dX12_toss_23 : decode cX12_toss 23 = .ok (.aload_n 0, 1) := by decide +kernel
theorem dX12_toss_24 : decode cX12_toss 24 = .ok (.getfield 86, 3) := by decide +kernel
theorem dX12_toss_27 : decode cX12_toss 27 = .ok (.aload_n 0, 1) := by decide +kernel
theorem dX12_toss_28 : decode cX12_toss 28 = .ok (.getfield 219, 3) := by decide +kernel
theorem dX12_toss_31 : decode cX12_toss 31 = .ok (.iload_n 1, 1) := by decide +kernel
theorem dX12_toss_32 : decode cX12_toss 32 = .ok (.iaload, 1) := by decide +kernel
theorem dX12_toss_33 : decode cX12_toss 33 = .ok (.iaload, 1) := by decide +kernel
theorem dX12_toss_34 : decode cX12_toss 34 = .ok (.iaload, 1) := by decide +kernel
theorem dX12_toss_35 : decode cX12_toss 35 = .ok (.ifCond .ne 8, 3) := by decide +kernel
theorem dX12_toss_38 : decode cX12_toss 38 = .ok (.bipush (-15), 2) := by decide +kernel
theorem dX12_toss_40 : decode cX12_toss 40 = .ok (.goto 14, 3) := by decide +kernel
theorem dX12_toss_43 : decode cX12_toss 43 = .ok (.aload_n 0, 1) := by decide +kernel
theorem dX12_toss_44 : decode cX12_toss 44 = .ok (.getfield 86, 3) := by decide +kernel
theorem dX12_toss_47 : decode cX12_toss 47 = .ok (.aload_n 0, 1) := by decide +kernel
theorem dX12_toss_48 : decode cX12_toss 48 = .ok (.getfield 219, 3) := by decide +kernel
theorem dX12_toss_51 : decode cX12_toss 51 = .ok (.iload_n 1, 1) := by decide +kernel
theorem dX12_toss_52 : decode cX12_toss 52 = .ok (.iaload, 1) := by decide +kernel
theorem dX12_toss_53 : decode cX12_toss 53 = .ok (.iaload, 1) := by decide +kernel
theorem dX12_toss_54 : decode cX12_toss 54 = .ok (.ireturn, 1) := by decide +kernel
