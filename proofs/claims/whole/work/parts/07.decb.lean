theorem dX11_init_0 : decode cX11_init 0 = .ok (.aload_n 0, 1) := by decide +kernel
theorem dX11_init_1 : decode cX11_init 1 = .ok (.invokespecial 1, 3) := by decide +kernel
theorem dX11_init_4 : decode cX11_init 4 = .ok (.aload_n 0, 1) := by decide +kernel
theorem dX11_init_5 : decode cX11_init 5 = .ok (.iconst (-1), 1) := by decide +kernel
theorem dX11_init_6 : decode cX11_init 6 = .ok (.putfield 9, 3) := by decide +kernel
theorem dX11_init_9 : decode cX11_init 9 = .ok (.aload_n 0, 1) := by decide +kernel
theorem dX11_init_10 : decode cX11_init 10 = .ok (.iconst (-1), 1) := by decide +kernel
theorem dX11_init_11 : decode cX11_init 11 = .ok (.putfield 13, 3) := by decide +kernel
theorem dX11_init_14 : decode cX11_init 14 = .ok (.aload_n 0, 1) := by decide +kernel
theorem dX11_init_15 : decode cX11_init 15 = .ok (.bipush 8, 2) := by decide +kernel
theorem dX11_init_17 : decode cX11_init 17 = .ok (.newarray .int, 2) := by decide +kernel
theorem dX11_init_19 : decode cX11_init 19 = .ok (.putfield 16, 3) := by decide +kernel
theorem dX11_init_22 : decode cX11_init 22 = .ok (.aload_n 0, 1) := by decide +kernel
theorem dX11_init_23 : decode cX11_init 23 = .ok (.bipush 6, 2) := by decide +kernel
theorem dX11_init_25 : decode cX11_init 25 = .ok (.newarray .int, 2) := by decide +kernel
theorem dX11_init_27 : decode cX11_init 27 = .ok (.dup, 1) := by decide +kernel
theorem dX11_init_28 : decode cX11_init 28 = .ok (.iconst 0, 1) := by decide +kernel
theorem dX11_init_29 : decode cX11_init 29 = .ok (.iconst 5, 1) := by decide +kernel
theorem dX11_init_30 : decode cX11_init 30 = .ok (.iastore, 1) := by decide +kernel
theorem dX11_init_31 : decode cX11_init 31 = .ok (.dup, 1) := by decide +kernel
theorem dX11_init_32 : decode cX11_init 32 = .ok (.iconst 1, 1) := by decide +kernel
theorem dX11_init_33 : decode cX11_init 33 = .ok (.bipush 10, 2) := by decide +kernel
theorem dX11_init_35 : decode cX11_init 35 = .ok (.iastore, 1) := by decide +kernel
theorem dX11_init_36 : decode cX11_init 36 = .ok (.dup, 1) := by decide +kernel
theorem dX11_init_37 : decode cX11_init 37 = .ok (.iconst 2, 1) := by decide +kernel
theorem dX11_init_38 : decode cX11_init 38 = .ok (.iconst 4, 1) := by decide +kernel
theorem dX11_init_39 : decode cX11_init 39 = .ok (.iastore, 1) := by decide +kernel
theorem dX11_init_40 : decode cX11_init 40 = .ok (.dup, 1) := by decide +kernel
theorem dX11_init_41 : decode cX11_init 41 = .ok (.iconst 3, 1) := by decide +kernel
theorem dX11_init_42 : decode cX11_init 42 = .ok (.iconst 1, 1) := by decide +kernel
theorem dX11_init_43 : decode cX11_init 43 = .ok (.iastore, 1) := by decide +kernel
theorem dX11_init_44 : decode cX11_init 44 = .ok (.dup, 1) := by decide +kernel
theorem dX11_init_45 : decode cX11_init 45 = .ok (.iconst 4, 1) := by decide +kernel
theorem dX11_init_46 : decode cX11_init 46 = .ok (.iconst 2, 1) := by decide +kernel
theorem dX11_init_47 : decode cX11_init 47 = .ok (.iastore, 1) := by decide +kernel
theorem dX11_init_48 : decode cX11_init 48 = .ok (.dup, 1) := by decide +kernel
theorem dX11_init_49 : decode cX11_init 49 = .ok (.iconst 5, 1) := by decide +kernel
theorem dX11_init_50 : decode cX11_init 50 = .ok (.iconst 0, 1) := by decide +kernel
theorem dX11_init_51 : decode cX11_init 51 = .ok (.iastore, 1) := by decide +kernel
theorem dX11_init_52 : decode cX11_init 52 = .ok (.putfield 20, 3) := by decide +kernel
theorem dX11_init_55 : decode cX11_init 55 = .ok (.aload_n 0, 1) := by decide +kernel
theorem dX11_init_56 : decode cX11_init 56 = .ok (.bipush 64, 2) := by decide +kernel
theorem dX11_init_58 : decode cX11_init 58 = .ok (.newarray .int, 2) := by decide +kernel
theorem dX11_init_60 : decode cX11_init 60 = .ok (.putfield 23, 3) := by decide +kernel
theorem dX11_init_63 : decode cX11_init 63 = .ok (.aload_n 0, 1) := by decide +kernel
theorem dX11_init_64 : decode cX11_init 64 = .ok (.bipush 10, 2) := by decide +kernel
theorem dX11_init_66 : decode cX11_init 66 = .ok (.newarray .int, 2) := by decide +kernel
theorem dX11_init_68 : decode cX11_init 68 = .ok (.putfield 26, 3) := by decide +kernel
theorem dX11_init_71 : decode cX11_init 71 = .ok (.aload_n 0, 1) := by decide +kernel
theorem dX11_init_72 : decode cX11_init 72 = .ok (.bipush 12, 2) := by decide +kernel
theorem dX11_init_74 : decode cX11_init 74 = .ok (.newarray .int, 2) := by decide +kernel
theorem dX11_init_76 : decode cX11_init 76 = .ok (.putfield 29, 3) := by decide +kernel
theorem dX11_init_79 : decode cX11_init 79 = .ok (.aload_n 0, 1) := by decide +kernel
theorem dX11_init_80 : decode cX11_init 80 = .ok (.bipush 12, 2) := by decide +kernel
theorem dX11_init_82 : decode cX11_init 82 = .ok (.newarray .int, 2) := by decide +kernel
theorem dX11_init_84 : decode cX11_init 84 = .ok (.putfield 32, 3) := by decide +kernel
theorem dX11_init_87 : decode cX11_init 87 = .ok (.aload_n 0, 1) := by decide +kernel
theorem dX11_init_88 : decode cX11_init 88 = .ok (.bipush 12, 2) := by decide +kernel
theorem dX11_init_90 : decode cX11_init 90 = .ok (.newarray .int, 2) := by decide +kernel
theorem dX11_init_92 : decode cX11_init 92 = .ok (.putfield 35, 3) := by decide +kernel
theorem dX11_init_95 : decode cX11_init 95 = .ok (.aload_n 0, 1) := by decide +kernel
theorem dX11_init_96 : decode cX11_init 96 = .ok (.bipush 12, 2) := by decide +kernel
theorem dX11_init_98 : decode cX11_init 98 = .ok (.newarray .int, 2) := by decide +kernel
theorem dX11_init_100 : decode cX11_init 100 = .ok (.putfield 38, 3) := by decide +kernel
theorem dX11_init_103 : decode cX11_init 103 = .ok (.aload_n 0, 1) := by decide +kernel
theorem dX11_init_104 : decode cX11_init 104 = .ok (.bipush 12, 2) := by decide +kernel
theorem dX11_init_106 : decode cX11_init 106 = .ok (.newarray .int, 2) := by decide +kernel
theorem dX11_init_108 : decode cX11_init 108 = .ok (.putfield 41, 3) := by decide +kernel
theorem dX11_init_111 : decode cX11_init 111 = .ok (.aload_n 0, 1) := by decide +kernel
theorem dX11_init_112 : decode cX11_init 112 = .ok (.bipush 14, 2) := by decide +kernel
theorem dX11_init_114 : decode cX11_init 114 = .ok (.newarray .int, 2) := by decide +kernel
theorem dX11_init_116 : decode cX11_init 116 = .ok (.putfield 44, 3) := by decide +kernel
theorem dX11_init_119 : decode cX11_init 119 = .ok (.aload_n 0, 1) := by decide +kernel
theorem dX11_init_120 : decode cX11_init 120 = .ok (.bipush 14, 2) := by decide +kernel
theorem dX11_init_122 : decode cX11_init 122 = .ok (.newarray .int, 2) := by decide +kernel
theorem dX11_init_124 : decode cX11_init 124 = .ok (.putfield 47, 3) := by decide +kernel
theorem dX11_init_127 : decode cX11_init 127 = .ok (.aload_n 0, 1) := by decide +kernel
theorem dX11_init_128 : decode cX11_init 128 = .ok (.bipush 14, 2) := by decide +kernel
theorem dX11_init_130 : decode cX11_init 130 = .ok (.newarray .int, 2) := by decide +kernel
theorem dX11_init_132 : decode cX11_init 132 = .ok (.putfield 50, 3) := by decide +kernel
theorem dX11_init_135 : decode cX11_init 135 = .ok (.aload_n 0, 1) := by decide +kernel
theorem dX11_init_136 : decode cX11_init 136 = .ok (.bipush 14, 2) := by decide +kernel
theorem dX11_init_138 : decode cX11_init 138 = .ok (.newarray .int, 2) := by decide +kernel
theorem dX11_init_140 : decode cX11_init 140 = .ok (.putfield 53, 3) := by decide +kernel
theorem dX11_init_143 : decode cX11_init 143 = .ok (.aload_n 0, 1) := by decide +kernel
theorem dX11_init_144 : decode cX11_init 144 = .ok (.bipush 14, 2) := by decide +kernel
theorem dX11_init_146 : decode cX11_init 146 = .ok (.newarray .int, 2) := by decide +kernel
theorem dX11_init_148 : decode cX11_init 148 = .ok (.putfield 56, 3) := by decide +kernel
theorem dX11_init_151 : decode cX11_init 151 = .ok (.aload_n 0, 1) := by decide +kernel
theorem dX11_init_152 : decode cX11_init 152 = .ok (.bipush 14, 2) := by decide +kernel
theorem dX11_init_154 : decode cX11_init 154 = .ok (.newarray .int, 2) := by decide +kernel
theorem dX11_init_156 : decode cX11_init 156 = .ok (.putfield 59, 3) := by decide +kernel
theorem dX11_init_159 : decode cX11_init 159 = .ok (.aload_n 0, 1) := by decide +kernel
theorem dX11_init_160 : decode cX11_init 160 = .ok (.bipush 14, 2) := by decide +kernel
theorem dX11_init_162 : decode cX11_init 162 = .ok (.newarray .int, 2) := by decide +kernel
theorem dX11_init_164 : decode cX11_init 164 = .ok (.putfield 62, 3) := by decide +kernel
theorem dX11_init_167 : decode cX11_init 167 = .ok (.aload_n 0, 1) := by decide +kernel
theorem dX11_init_168 : decode cX11_init 168 = .ok (.bipush 14, 2) := by decide +kernel
theorem dX11_init_170 : decode cX11_init 170 = .ok (.newarray .int, 2) := by decide +kernel
theorem dX11_init_172 : decode cX11_init 172 = .ok (.putfield 65, 3) := by decide +kernel
theorem dX11_init_175 : decode cX11_init 175 = .ok (.aload_n 0, 1) := by decide +kernel
theorem dX11_init_176 : decode cX11_init 176 = .ok (.bipush 60, 2) := by decide +kernel
theorem dX11_init_178 : decode cX11_init 178 = .ok (.newarray .int, 2) := by decide +kernel
theorem dX11_init_180 : decode cX11_init 180 = .ok (.putfield 68, 3) := by decide +kernel
theorem dX11_init_183 : decode cX11_init 183 = .ok (.aload_n 0, 1) := by decide +kernel
theorem dX11_init_184 : decode cX11_init 184 = .ok (.bipush 60, 2) := by decide +kernel
theorem dX11_init_186 : decode cX11_init 186 = .ok (.newarray .int, 2) := by decide +kernel
theorem dX11_init_188 : decode cX11_init 188 = .ok (.putfield 71, 3) := by decide +kernel
theorem dX11_init_191 : decode cX11_init 191 = .ok (.aload_n 0, 1) := by decide +kernel
theorem dX11_init_192 : decode cX11_init 192 = .ok (.bipush 60, 2) := by decide +kernel
theorem dX11_init_194 : decode cX11_init 194 = .ok (.newarray .int, 2) := by decide +kernel
theorem dX11_init_196 : decode cX11_init 196 = .ok (.putfield 74, 3) := by decide +kernel
theorem dX11_init_199 : decode cX11_init 199 = .ok (.aload_n 0, 1) := by decide +kernel
theorem dX11_init_200 : decode cX11_init 200 = .ok (.bipush 60, 2) := by decide +kernel
theorem dX11_init_202 : decode cX11_init 202 = .ok (.newarray .int, 2) := by decide +kernel
theorem dX11_init_204 : decode cX11_init 204 = .ok (.putfield 77, 3) := by decide +kernel
theorem dX11_init_207 : decode cX11_init 207 = .ok (.aload_n 0, 1) := by decide +kernel
theorem dX11_init_208 : decode cX11_init 208 = .ok (.bipush 60, 2) := by decide +kernel
theorem dX11_init_210 : decode cX11_init 210 = .ok (.newarray .int, 2) := by decide +kernel
theorem dX11_init_212 : decode cX11_init 212 = .ok (.putfield 80, 3) := by decide +kernel
theorem dX11_init_215 : decode cX11_init 215 = .ok (.aload_n 0, 1) := by decide +kernel
theorem dX11_init_216 : decode cX11_init 216 = .ok (.bipush 20, 2) := by decide +kernel
theorem dX11_init_218 : decode cX11_init 218 = .ok (.newarray .int, 2) := by decide +kernel
theorem dX11_init_220 : decode cX11_init 220 = .ok (.putfield 83, 3) := by decide +kernel
theorem dX11_init_223 : decode cX11_init 223 = .ok (.aload_n 0, 1) := by decide +kernel
theorem dX11_init_224 : decode cX11_init 224 = .ok (.bipush 20, 2) := by decide +kernel
theorem dX11_init_226 : decode cX11_init 226 = .ok (.newarray .int, 2) := by decide +kernel
theorem dX11_init_228 : decode cX11_init 228 = .ok (.putfield 86, 3) := by decide +kernel
theorem dX11_init_231 : decode cX11_init 231 = .ok (.aload_n 0, 1) := by decide +kernel
theorem dX11_init_232 : decode cX11_init 232 = .ok (.bipush 20, 2) := by decide +kernel
theorem dX11_init_234 : decode cX11_init 234 = .ok (.newarray .int, 2) := by decide +kernel
theorem dX11_init_236 : decode cX11_init 236 = .ok (.putfield 89, 3) := by decide +kernel
theorem dX11_init_239 : decode cX11_init 239 = .ok (.aload_n 0, 1) := by decide +kernel
theorem dX11_init_240 : decode cX11_init 240 = .ok (.bipush 30, 2) := by decide +kernel
theorem dX11_init_242 : decode cX11_init 242 = .ok (.newarray .int, 2) := by decide +kernel
theorem dX11_init_244 : decode cX11_init 244 = .ok (.putfield 92, 3) := by decide +kernel
theorem dX11_init_247 : decode cX11_init 247 = .ok (.aload_n 0, 1) := by decide +kernel
theorem dX11_init_248 : decode cX11_init 248 = .ok (.bipush 30, 2) := by decide +kernel
theorem dX11_init_250 : decode cX11_init 250 = .ok (.newarray .int, 2) := by decide +kernel
theorem dX11_init_252 : decode cX11_init 252 = .ok (.putfield 95, 3) := by decide +kernel
theorem dX11_init_255 : decode cX11_init 255 = .ok (.aload_n 0, 1) := by decide +kernel
theorem dX11_init_256 : decode cX11_init 256 = .ok (.bipush 30, 2) := by decide +kernel
theorem dX11_init_258 : decode cX11_init 258 = .ok (.newarray .int, 2) := by decide +kernel
theorem dX11_init_260 : decode cX11_init 260 = .ok (.putfield 98, 3) := by decide +kernel
theorem dX11_init_263 : decode cX11_init 263 = .ok (.aload_n 0, 1) := by decide +kernel
theorem dX11_init_264 : decode cX11_init 264 = .ok (.bipush 8, 2) := by decide +kernel
theorem dX11_init_266 : decode cX11_init 266 = .ok (.newarray .int, 2) := by decide +kernel
theorem dX11_init_268 : decode cX11_init 268 = .ok (.putfield 101, 3) := by decide +kernel
theorem dX11_init_271 : decode cX11_init 271 = .ok (.aload_n 0, 1) := by decide +kernel
theorem dX11_init_272 : decode cX11_init 272 = .ok (.bipush 64, 2) := by decide +kernel
theorem dX11_init_274 : decode cX11_init 274 = .ok (.newarray .int, 2) := by decide +kernel
theorem dX11_init_276 : decode cX11_init 276 = .ok (.putfield 104, 3) := by decide +kernel
theorem dX11_init_279 : decode cX11_init 279 = .ok (.aload_n 0, 1) := by decide +kernel
theorem dX11_init_280 : decode cX11_init 280 = .ok (.bipush 64, 2) := by decide +kernel
theorem dX11_init_282 : decode cX11_init 282 = .ok (.newarray .int, 2) := by decide +kernel
theorem dX11_init_284 : decode cX11_init 284 = .ok (.putfield 107, 3) := by decide +kernel
theorem dX11_init_287 : decode cX11_init 287 = .ok (.aload_n 0, 1) := by decide +kernel
theorem dX11_init_288 : decode cX11_init 288 = .ok (.bipush 64, 2) := by decide +kernel
theorem dX11_init_290 : decode cX11_init 290 = .ok (.newarray .int, 2) := by decide +kernel
theorem dX11_init_292 : decode cX11_init 292 = .ok (.putfield 110, 3) := by decide +kernel
theorem dX11_init_295 : decode cX11_init 295 = .ok (.aload_n 0, 1) := by decide +kernel
theorem dX11_init_296 : decode cX11_init 296 = .ok (.bipush 64, 2) := by decide +kernel
theorem dX11_init_298 : decode cX11_init 298 = .ok (.newarray .int, 2) := by decide +kernel
theorem dX11_init_300 : decode cX11_init 300 = .ok (.putfield 113, 3) := by decide +kernel
theorem dX11_init_303 : decode cX11_init 303 = .ok (.aload_n 0, 1) := by decide +kernel
theorem dX11_init_304 : decode cX11_init 304 = .ok (.bipush 64, 2) := by decide +kernel
theorem dX11_init_306 : decode cX11_init 306 = .ok (.newarray .int, 2) := by decide +kernel
theorem dX11_init_308 : decode cX11_init 308 = .ok (.putfield 116, 3) := by decide +kernel
theorem dX11_init_311 : decode cX11_init 311 = .ok (.aload_n 0, 1) := by decide +kernel
theorem dX11_init_312 : decode cX11_init 312 = .ok (.bipush 8, 2) := by decide +kernel
theorem dX11_init_314 : decode cX11_init 314 = .ok (.newarray .int, 2) := by decide +kernel
theorem dX11_init_316 : decode cX11_init 316 = .ok (.putfield 119, 3) := by decide +kernel
theorem dX11_init_319 : decode cX11_init 319 = .ok (.aload_n 0, 1) := by decide +kernel
theorem dX11_init_320 : decode cX11_init 320 = .ok (.bipush 8, 2) := by decide +kernel
theorem dX11_init_322 : decode cX11_init 322 = .ok (.newarray .int, 2) := by decide +kernel
theorem dX11_init_324 : decode cX11_init 324 = .ok (.putfield 122, 3) := by decide +kernel
theorem dX11_init_327 : decode cX11_init 327 = .ok (.aload_n 0, 1) := by decide +kernel
theorem dX11_init_328 : decode cX11_init 328 = .ok (.bipush 8, 2) := by decide +kernel
theorem dX11_init_330 : decode cX11_init 330 = .ok (.newarray .int, 2) := by decide +kernel
theorem dX11_init_332 : decode cX11_init 332 = .ok (.putfield 125, 3) := by decide +kernel
theorem dX11_init_335 : decode cX11_init 335 = .ok (.aload_n 0, 1) := by decide +kernel
theorem dX11_init_336 : decode cX11_init 336 = .ok (.bipush 8, 2) := by decide +kernel
theorem dX11_init_338 : decode cX11_init 338 = .ok (.newarray .int, 2) := by decide +kernel
theorem dX11_init_340 : decode cX11_init 340 = .ok (.putfield 128, 3) := by decide +kernel
theorem dX11_init_343 : decode cX11_init 343 = .ok (.aload_n 0, 1) := by decide +kernel
theorem dX11_init_344 : decode cX11_init 344 = .ok (.sipush 480, 3) := by decide +kernel
theorem dX11_init_347 : decode cX11_init 347 = .ok (.newarray .long, 2) := by decide +kernel
theorem dX11_init_349 : decode cX11_init 349 = .ok (.putfield 131, 3) := by decide +kernel
theorem dX11_init_352 : decode cX11_init 352 = .ok (.aload_n 0, 1) := by decide +kernel
theorem dX11_init_353 : decode cX11_init 353 = .ok (.bipush 60, 2) := by decide +kernel
theorem dX11_init_355 : decode cX11_init 355 = .ok (.newarray .long, 2) := by decide +kernel
theorem dX11_init_357 : decode cX11_init 357 = .ok (.putfield 135, 3) := by decide +kernel
theorem dX11_init_360 : decode cX11_init 360 = .ok (.aload_n 0, 1) := by decide +kernel
theorem dX11_init_361 : decode cX11_init 361 = .ok (.bipush 60, 2) := by decide +kernel
theorem dX11_init_363 : decode cX11_init 363 = .ok (.newarray .int, 2) := by decide +kernel
theorem dX11_init_365 : decode cX11_init 365 = .ok (.putfield 138, 3) := by decide +kernel
theorem dX11_init_368 : decode cX11_init 368 = .ok (.aload_n 0, 1) := by decide +kernel
theorem dX11_init_369 : decode cX11_init 369 = .ok (.bipush 60, 2) := by decide +kernel
theorem dX11_init_371 : decode cX11_init 371 = .ok (.newarray .int, 2) := by decide +kernel
theorem dX11_init_373 : decode cX11_init 373 = .ok (.putfield 141, 3) := by decide +kernel
theorem dX11_init_376 : decode cX11_init 376 = .ok (.aload_n 0, 1) := by decide +kernel
theorem dX11_init_377 : decode cX11_init 377 = .ok (.bipush 8, 2) := by decide +kernel
theorem dX11_init_379 : decode cX11_init 379 = .ok (.newarray .int, 2) := by decide +kernel
theorem dX11_init_381 : decode cX11_init 381 = .ok (.putfield 144, 3) := by decide +kernel
theorem dX11_init_384 : decode cX11_init 384 = .ok (.aload_n 0, 1) := by decide +kernel
theorem dX11_init_385 : decode cX11_init 385 = .ok (.bipush 8, 2) := by decide +kernel
theorem dX11_init_387 : decode cX11_init 387 = .ok (.newarray .int, 2) := by decide +kernel
theorem dX11_init_389 : decode cX11_init 389 = .ok (.putfield 147, 3) := by decide +kernel
theorem dX11_init_392 : decode cX11_init 392 = .ok (.aload_n 0, 1) := by decide +kernel
theorem dX11_init_393 : decode cX11_init 393 = .ok (.bipush 8, 2) := by decide +kernel
theorem dX11_init_395 : decode cX11_init 395 = .ok (.newarray .int, 2) := by decide +kernel
theorem dX11_init_397 : decode cX11_init 397 = .ok (.putfield 150, 3) := by decide +kernel
theorem dX11_init_400 : decode cX11_init 400 = .ok (.aload_n 0, 1) := by decide +kernel
theorem dX11_init_401 : decode cX11_init 401 = .ok (.bipush 8, 2) := by decide +kernel
theorem dX11_init_403 : decode cX11_init 403 = .ok (.newarray .int, 2) := by decide +kernel
theorem dX11_init_405 : decode cX11_init 405 = .ok (.putfield 153, 3) := by decide +kernel
theorem dX11_init_408 : decode cX11_init 408 = .ok (.aload_n 0, 1) := by decide +kernel
theorem dX11_init_409 : decode cX11_init 409 = .ok (.bipush 8, 2) := by decide +kernel
theorem dX11_init_411 : decode cX11_init 411 = .ok (.newarray .int, 2) := by decide +kernel
theorem dX11_init_413 : decode cX11_init 413 = .ok (.putfield 156, 3) := by decide +kernel
theorem dX11_init_416 : decode cX11_init 416 = .ok (.aload_n 0, 1) := by decide +kernel
theorem dX11_init_417 : decode cX11_init 417 = .ok (.bipush 12, 2) := by decide +kernel
theorem dX11_init_419 : decode cX11_init 419 = .ok (.newarray .int, 2) := by decide +kernel
theorem dX11_init_421 : decode cX11_init 421 = .ok (.putfield 159, 3) := by decide +kernel
theorem dX11_init_424 : decode cX11_init 424 = .ok (.aload_n 0, 1) := by decide +kernel
theorem dX11_init_425 : decode cX11_init 425 = .ok (.bipush 20, 2) := by decide +kernel
theorem dX11_init_427 : decode cX11_init 427 = .ok (.newarray .int, 2) := by decide +kernel
theorem dX11_init_429 : decode cX11_init 429 = .ok (.putfield 162, 3) := by decide +kernel
theorem dX11_init_432 : decode cX11_init 432 = .ok (.aload_n 0, 1) := by decide +kernel
theorem dX11_init_433 : decode cX11_init 433 = .ok (.iconst (-1), 1) := by decide +kernel
theorem dX11_init_434 : decode cX11_init 434 = .ok (.putfield 165, 3) := by decide +kernel
theorem dX11_init_437 : decode cX11_init 437 = .ok (.aload_n 0, 1) := by decide +kernel
theorem dX11_init_438 : decode cX11_init 438 = .ok (.sipush 1100, 3) := by decide +kernel
theorem dX11_init_441 : decode cX11_init 441 = .ok (.newarray .int, 2) := by decide +kernel
theorem dX11_init_443 : decode cX11_init 443 = .ok (.putfield 168, 3) := by decide +kernel
theorem dX11_init_446 : decode cX11_init 446 = .ok (.return_, 1) := by decide +kernel
theorem dX11_no_0 : decode cX11_no 0 = .ok (.aload_n 0, 1) := by decide +kernel
theorem dX11_no_1 : decode cX11_no 1 = .ok (.getfield 16, 3) := by decide +kernel
theorem dX11_no_4 : decode cX11_no 4 = .ok (.iload_n 1, 1) := by decide +kernel
theorem dX11_no_5 : decode cX11_no 5 = .ok (.ineg, 1) := by decide +kernel
theorem dX11_no_6 : decode cX11_no 6 = .ok (.dup2, 1) := by decide +kernel
theorem dX11_no_7 : decode cX11_no 7 = .ok (.iaload, 1) := by decide +kernel
theorem dX11_no_8 : decode cX11_no 8 = .ok (.iconst 1, 1) := by decide +kernel
theorem dX11_no_9 : decode cX11_no 9 = .ok (.iadd, 1) := by decide +kernel
theorem dX11_no_10 : decode cX11_no 10 = .ok (.iastore, 1) := by decide +kernel
theorem dX11_no_11 : decode cX11_no 11 = .ok (.iload_n 1, 1) := by decide +kernel
theorem dX11_no_12 : decode cX11_no 12 = .ok (.ireturn, 1) := by decide +kernel
theorem dX11_isShelf_0 : decode cX11_isShelf 0 = .ok (.iload_n 1, 1) := by decide +kernel
theorem dX11_isShelf_1 : decode cX11_isShelf 1 = .ok (.ifCond .lt 13, 3) := by decide +kernel
theorem dX11_isShelf_4 : decode cX11_isShelf 4 = .ok (.iload_n 1, 1) := by decide +kernel
theorem dX11_isShelf_5 : decode cX11_isShelf 5 = .ok (.bipush 8, 2) := by decide +kernel
theorem dX11_isShelf_7 : decode cX11_isShelf 7 = .ok (.if_icmp .ge 7, 3) := by decide +kernel
theorem dX11_isShelf_10 : decode cX11_isShelf 10 = .ok (.iconst 1, 1) := by decide +kernel
theorem dX11_isShelf_11 : decode cX11_isShelf 11 = .ok (.goto 4, 3) := by decide +kernel
theorem dX11_isShelf_14 : decode cX11_isShelf 14 = .ok (.iconst 0, 1) := by decide +kernel
theorem dX11_isShelf_15 : decode cX11_isShelf 15 = .ok (.ireturn, 1) := by decide +kernel
theorem dX11_isSpot_0 : decode cX11_isSpot 0 = .ok (.iload_n 1, 1) := by decide +kernel
theorem dX11_isSpot_1 : decode cX11_isSpot 1 = .ok (.ifCond .lt 13, 3) := by decide +kernel
theorem dX11_isSpot_4 : decode cX11_isSpot 4 = .ok (.iload_n 1, 1) := by decide +kernel
theorem dX11_isSpot_5 : decode cX11_isSpot 5 = .ok (.bipush 64, 2) := by decide +kernel
theorem dX11_isSpot_7 : decode cX11_isSpot 7 = .ok (.if_icmp .ge 7, 3) := by decide +kernel
theorem dX11_isSpot_10 : decode cX11_isSpot 10 = .ok (.iconst 1, 1) := by decide +kernel
theorem dX11_isSpot_11 : decode cX11_isSpot 11 = .ok (.goto 4, 3) := by decide +kernel
theorem dX11_isSpot_14 : decode cX11_isSpot 14 = .ok (.iconst 0, 1) := by decide +kernel
theorem dX11_isSpot_15 : decode cX11_isSpot 15 = .ok (.ireturn, 1) := by decide +kernel
theorem dX11_isPerson_0 : decode cX11_isPerson 0 = .ok (.iload_n 1, 1) := by decide +kernel
theorem dX11_isPerson_1 : decode cX11_isPerson 1 = .ok (.ifCond .lt 15, 3) := by decide +kernel
theorem dX11_isPerson_4 : decode cX11_isPerson 4 = .ok (.iload_n 1, 1) := by decide +kernel
theorem dX11_isPerson_5 : decode cX11_isPerson 5 = .ok (.aload_n 0, 1) := by decide +kernel
theorem dX11_isPerson_6 : decode cX11_isPerson 6 = .ok (.getfield 171, 3) := by decide +kernel
theorem dX11_isPerson_9 : decode cX11_isPerson 9 = .ok (.if_icmp .ge 7, 3) := by decide +kernel
theorem dX11_isPerson_12 : decode cX11_isPerson 12 = .ok (.iconst 1, 1) := by decide +kernel
theorem dX11_isPerson_13 : decode cX11_isPerson 13 = .ok (.goto 4, 3) := by decide +kernel
theorem dX11_isPerson_16 : decode cX11_isPerson 16 = .ok (.iconst 0, 1) := by decide +kernel
theorem dX11_isPerson_17 : decode cX11_isPerson 17 = .ok (.ireturn, 1) := by decide +kernel
theorem dX11_isSource_0 : decode cX11_isSource 0 = .ok (.iload_n 1, 1) := by decide +kernel
theorem dX11_isSource_1 : decode cX11_isSource 1 = .ok (.ifCond .lt 15, 3) := by decide +kernel
theorem dX11_isSource_4 : decode cX11_isSource 4 = .ok (.iload_n 1, 1) := by decide +kernel
theorem dX11_isSource_5 : decode cX11_isSource 5 = .ok (.aload_n 0, 1) := by decide +kernel
theorem dX11_isSource_6 : decode cX11_isSource 6 = .ok (.getfield 174, 3) := by decide +kernel
theorem dX11_isSource_9 : decode cX11_isSource 9 = .ok (.if_icmp .ge 7, 3) := by decide +kernel
theorem dX11_isSource_12 : decode cX11_isSource 12 = .ok (.iconst 1, 1) := by decide +kernel
theorem dX11_isSource_13 : decode cX11_isSource 13 = .ok (.goto 4, 3) := by decide +kernel
theorem dX11_isSource_16 : decode cX11_isSource 16 = .ok (.iconst 0, 1) := by decide +kernel
theorem dX11_isSource_17 : decode cX11_isSource 17 = .ok (.ireturn, 1) := by decide +kernel
theorem dX11_isHour_0 : decode cX11_isHour 0 = .ok (.iload_n 1, 1) := by decide +kernel
theorem dX11_isHour_1 : decode cX11_isHour 1 = .ok (.ifCond .lt 14, 3) := by decide +kernel
theorem dX11_isHour_4 : decode cX11_isHour 4 = .ok (.iload_n 1, 1) := by decide +kernel
theorem dX11_isHour_5 : decode cX11_isHour 5 = .ok (.sipush 240, 3) := by decide +kernel
theorem dX11_isHour_8 : decode cX11_isHour 8 = .ok (.if_icmp .ge 7, 3) := by decide +kernel
theorem dX11_isHour_11 : decode cX11_isHour 11 = .ok (.iconst 1, 1) := by decide +kernel
theorem dX11_isHour_12 : decode cX11_isHour 12 = .ok (.goto 4, 3) := by decide +kernel
theorem dX11_isHour_15 : decode cX11_isHour 15 = .ok (.iconst 0, 1) := by decide +kernel
theorem dX11_isHour_16 : decode cX11_isHour 16 = .ok (.ireturn, 1) := by decide +kernel
theorem dX11_isTone_0 : decode cX11_isTone 0 = .ok (.iload_n 1, 1) := by decide +kernel
theorem dX11_isTone_1 : decode cX11_isTone 1 = .ok (.bipush 20, 2) := by decide +kernel
theorem dX11_isTone_3 : decode cX11_isTone 3 = .ok (.if_icmp .lt 13, 3) := by decide +kernel
theorem dX11_isTone_6 : decode cX11_isTone 6 = .ok (.iload_n 1, 1) := by decide +kernel
theorem dX11_isTone_7 : decode cX11_isTone 7 = .ok (.bipush 100, 2) := by decide +kernel
theorem dX11_isTone_9 : decode cX11_isTone 9 = .ok (.if_icmp .ge 7, 3) := by decide +kernel
theorem dX11_isTone_12 : decode cX11_isTone 12 = .ok (.iconst 1, 1) := by decide +kernel
theorem dX11_isTone_13 : decode cX11_isTone 13 = .ok (.goto 4, 3) := by decide +kernel
theorem dX11_isTone_16 : decode cX11_isTone 16 = .ok (.iconst 0, 1) := by decide +kernel
theorem dX11_isTone_17 : decode cX11_isTone 17 = .ok (.ireturn, 1) := by decide +kernel
theorem dX11_isHours_0 : decode cX11_isHours 0 = .ok (.aload_n 0, 1) := by decide +kernel
theorem dX11_isHours_1 : decode cX11_isHours 1 = .ok (.iload_n 1, 1) := by decide +kernel
theorem dX11_isHours_2 : decode cX11_isHours 2 = .ok (.invokevirtual 177, 3) := by decide +kernel
theorem dX11_isHours_5 : decode cX11_isHours 5 = .ok (.ifCond .eq 20, 3) := by decide +kernel
theorem dX11_isHours_8 : decode cX11_isHours 8 = .ok (.aload_n 0, 1) := by decide +kernel
theorem dX11_isHours_9 : decode cX11_isHours 9 = .ok (.iload_n 2, 1) := by decide +kernel
theorem dX11_isHours_10 : decode cX11_isHours 10 = .ok (.invokevirtual 177, 3) := by decide +kernel
theorem dX11_isHours_13 : decode cX11_isHours 13 = .ok (.ifCond .eq 12, 3) := by decide +kernel
theorem dX11_isHours_16 : decode cX11_isHours 16 = .ok (.iload_n 1, 1) := by decide +kernel
theorem dX11_isHours_17 : decode cX11_isHours 17 = .ok (.iload_n 2, 1) := by decide +kernel
theorem dX11_isHours_18 : decode cX11_isHours 18 = .ok (.if_icmp .gt 7, 3) := by decide +kernel
theorem dX11_isHours_21 : decode cX11_isHours 21 = .ok (.iconst 1, 1) := by decide +kernel
theorem dX11_isHours_22 : decode cX11_isHours 22 = .ok (.goto 4, 3) := by decide +kernel
theorem dX11_isHours_25 : decode cX11_isHours 25 = .ok (.iconst 0, 1) := by decide +kernel
theorem dX11_isHours_26 : decode cX11_isHours 26 = .ok (.ireturn, 1) := by decide +kernel
theorem dX11_many_0 : decode cX11_many 0 = .ok (.iconst 0, 1) := by decide +kernel
theorem dX11_many_1 : decode cX11_many 1 = .ok (.istore_n 2, 1) := by decide +kernel
theorem dX11_many_2 : decode cX11_many 2 = .ok (.iload_n 1, 1) := by decide +kernel
theorem dX11_many_3 : decode cX11_many 3 = .ok (.istore_n 3, 1) := by decide +kernel
theorem dX11_many_4 : decode cX11_many 4 = .ok (.iload_n 3, 1) := by decide +kernel
theorem dX11_many_5 : decode cX11_many 5 = .ok (.ifCond .eq 15, 3) := by decide +kernel
theorem dX11_many_8 : decode cX11_many 8 = .ok (.iinc 2 1, 3) := by decide +kernel
theorem dX11_many_11 : decode cX11_many 11 = .ok (.iload_n 3, 1) := by decide +kernel
theorem dX11_many_12 : decode cX11_many 12 = .ok (.iload_n 3, 1) := by decide +kernel
theorem dX11_many_13 : decode cX11_many 13 = .ok (.iconst 1, 1) := by decide +kernel
theorem dX11_many_14 : decode cX11_many 14 = .ok (.isub, 1) := by decide +kernel
theorem dX11_many_15 : decode cX11_many 15 = .ok (.iand, 1) := by decide +kernel
theorem dX11_many_16 : decode cX11_many 16 = .ok (.istore_n 3, 1) := by decide +kernel
theorem dX11_many_17 : decode cX11_many 17 = .ok (.goto (-13), 3) := by decide +kernel
theorem dX11_many_20 : decode cX11_many 20 = .ok (.iload_n 2, 1) := by decide +kernel
theorem dX11_many_21 : decode cX11_many 21 = .ok (.ireturn, 1) := by decide +kernel
theorem dX11_apart_0 : decode cX11_apart 0 = .ok (.iload_n 1, 1) := by decide +kernel
theorem dX11_apart_1 : decode cX11_apart 1 = .ok (.iload_n 2, 1) := by decide +kernel
theorem dX11_apart_2 : decode cX11_apart 2 = .ok (.if_icmp .le 9, 3) := by decide +kernel
theorem dX11_apart_5 : decode cX11_apart 5 = .ok (.iload_n 1, 1) := by decide +kernel
theorem dX11_apart_6 : decode cX11_apart 6 = .ok (.iload_n 2, 1) := by decide +kernel
theorem dX11_apart_7 : decode cX11_apart 7 = .ok (.isub, 1) := by decide +kernel
theorem dX11_apart_8 : decode cX11_apart 8 = .ok (.goto 6, 3) := by decide +kernel
theorem dX11_apart_11 : decode cX11_apart 11 = .ok (.iload_n 2, 1) := by decide +kernel
theorem dX11_apart_12 : decode cX11_apart 12 = .ok (.iload_n 1, 1) := by decide +kernel
theorem dX11_apart_13 : decode cX11_apart 13 = .ok (.isub, 1) := by decide +kernel
theorem dX11_apart_14 : decode cX11_apart 14 = .ok (.ireturn, 1) := by decide +kernel
theorem dX11_row_0 : decode cX11_row 0 = .ok (.aload_n 0, 1) := by decide +kernel
theorem dX11_row_1 : decode cX11_row 1 = .ok (.iload_n 1, 1) := by decide +kernel
theorem dX11_row_2 : decode cX11_row 2 = .ok (.invokevirtual 181, 3) := by decide +kernel
theorem dX11_row_5 : decode cX11_row 5 = .ok (.ifCond .ne 9, 3) := by decide +kernel
theorem dX11_row_8 : decode cX11_row 8 = .ok (.aload_n 0, 1) := by decide +kernel
theorem dX11_row_9 : decode cX11_row 9 = .ok (.iconst (-1), 1) := by decide +kernel
theorem dX11_row_10 : decode cX11_row 10 = .ok (.invokevirtual 184, 3) := by decide +kernel
theorem dX11_row_13 : decode cX11_row 13 = .ok (.ireturn, 1) := by decide +kernel
theorem dX11_row_14 : decode cX11_row 14 = .ok (.iload_n 3, 1) := by decide +kernel
theorem dX11_row_15 : decode cX11_row 15 = .ok (.ifCond .ge 10, 3) := by decide +kernel
theorem dX11_row_18 : decode cX11_row 18 = .ok (.aload_n 0, 1) := by decide +kernel
theorem dX11_row_19 : decode cX11_row 19 = .ok (.bipush (-4), 2) := by decide +kernel
theorem dX11_row_21 : decode cX11_row 21 = .ok (.invokevirtual 184, 3) := by decide +kernel
theorem dX11_row_24 : decode cX11_row 24 = .ok (.ireturn, 1) := by decide +kernel
theorem dX11_row_25 : decode cX11_row 25 = .ok (.iload_n 2, 1) := by decide +kernel
theorem dX11_row_26 : decode cX11_row 26 = .ok (.ifCond .lt 8, 3) := by decide +kernel
theorem dX11_row_29 : decode cX11_row 29 = .ok (.iload_n 2, 1) := by decide +kernel
theorem dX11_row_30 : decode cX11_row 30 = .ok (.iconst 3, 1) := by decide +kernel
theorem dX11_row_31 : decode cX11_row 31 = .ok (.if_icmp .le 10, 3) := by decide +kernel
theorem dX11_row_34 : decode cX11_row 34 = .ok (.aload_n 0, 1) := by decide +kernel
theorem dX11_row_35 : decode cX11_row 35 = .ok (.bipush (-6), 2) := by decide +kernel
theorem dX11_row_37 : decode cX11_row 37 = .ok (.invokevirtual 184, 3) := by decide +kernel
theorem dX11_row_40 : decode cX11_row 40 = .ok (.ireturn, 1) := by decide +kernel
theorem dX11_row_41 : decode cX11_row 41 = .ok (.iload_n 3, 1) := by decide +kernel
theorem dX11_row_42 : decode cX11_row 42 = .ok (.bipush 60, 2) := by decide +kernel
theorem dX11_row_44 : decode cX11_row 44 = .ok (.if_icmp .le 10, 3) := by decide +kernel
theorem dX11_row_47 : decode cX11_row 47 = .ok (.aload_n 0, 1) := by decide +kernel
theorem dX11_row_48 : decode cX11_row 48 = .ok (.bipush (-7), 2) := by decide +kernel
theorem dX11_row_50 : decode cX11_row 50 = .ok (.invokevirtual 184, 3) := by decide +kernel
theorem dX11_row_53 : decode cX11_row 53 = .ok (.ireturn, 1) := by decide +kernel
theorem dX11_row_54 : decode cX11_row 54 = .ok (.aload_n 0, 1) := by decide +kernel
theorem dX11_row_55 : decode cX11_row 55 = .ok (.getfield 119, 3) := by decide +kernel
theorem dX11_row_58 : decode cX11_row 58 = .ok (.iload_n 1, 1) := by decide +kernel
theorem dX11_row_59 : decode cX11_row 59 = .ok (.iconst 1, 1) := by decide +kernel
theorem dX11_row_60 : decode cX11_row 60 = .ok (.iastore, 1) := by decide +kernel
theorem dX11_row_61 : decode cX11_row 61 = .ok (.aload_n 0, 1) := by decide +kernel
theorem dX11_row_62 : decode cX11_row 62 = .ok (.getfield 122, 3) := by decide +kernel
theorem dX11_row_65 : decode cX11_row 65 = .ok (.iload_n 1, 1) := by decide +kernel
theorem dX11_row_66 : decode cX11_row 66 = .ok (.iload_n 2, 1) := by decide +kernel
theorem dX11_row_67 : decode cX11_row 67 = .ok (.iastore, 1) := by decide +kernel
theorem dX11_row_68 : decode cX11_row 68 = .ok (.aload_n 0, 1) := by decide +kernel
theorem dX11_row_69 : decode cX11_row 69 = .ok (.getfield 125, 3) := by decide +kernel
theorem dX11_row_72 : decode cX11_row 72 = .ok (.iload_n 1, 1) := by decide +kernel
theorem dX11_row_73 : decode cX11_row 73 = .ok (.iload_n 3, 1) := by decide +kernel
theorem dX11_row_74 : decode cX11_row 74 = .ok (.iastore, 1) := by decide +kernel
theorem dX11_row_75 : decode cX11_row 75 = .ok (.iconst 0, 1) := by decide +kernel
theorem dX11_row_76 : decode cX11_row 76 = .ok (.istore 4, 2) := by decide +kernel
theorem dX11_row_78 : decode cX11_row 78 = .ok (.iload 4, 2) := by decide +kernel
theorem dX11_row_80 : decode cX11_row 80 = .ok (.bipush 60, 2) := by decide +kernel
theorem dX11_row_82 : decode cX11_row 82 = .ok (.if_icmp .ge 22, 3) := by decide +kernel
theorem dX11_row_85 : decode cX11_row 85 = .ok (.aload_n 0, 1) := by decide +kernel
theorem dX11_row_86 : decode cX11_row 86 = .ok (.getfield 131, 3) := by decide +kernel
theorem dX11_row_89 : decode cX11_row 89 = .ok (.bipush 60, 2) := by decide +kernel
theorem dX11_row_91 : decode cX11_row 91 = .ok (.iload_n 1, 1) := by decide +kernel
theorem dX11_row_92 : decode cX11_row 92 = .ok (.imul, 1) := by decide +kernel
theorem dX11_row_93 : decode cX11_row 93 = .ok (.iload 4, 2) := by decide +kernel
theorem dX11_row_95 : decode cX11_row 95 = .ok (.iadd, 1) := by decide +kernel
theorem dX11_row_96 : decode cX11_row 96 = .ok (.lconst 0, 1) := by decide +kernel
theorem dX11_row_97 : decode cX11_row 97 = .ok (.lastore, 1) := by decide +kernel
theorem dX11_row_98 : decode cX11_row 98 = .ok (.iinc 4 1, 3) := by decide +kernel
theorem dX11_row_101 : decode cX11_row 101 = .ok (.goto (-23), 3) := by decide +kernel
theorem dX11_row_104 : decode cX11_row 104 = .ok (.iconst 1, 1) := by decide +kernel
theorem dX11_row_105 : decode cX11_row 105 = .ok (.ireturn, 1) := by decide +kernel
theorem dX11_set_0 : decode cX11_set 0 = .ok (.aload_n 0, 1) := by decide +kernel
theorem dX11_set_1 : decode cX11_set 1 = .ok (.iload_n 1, 1) := by decide +kernel
theorem dX11_set_2 : decode cX11_set 2 = .ok (.invokevirtual 181, 3) := by decide +kernel
theorem dX11_set_5 : decode cX11_set 5 = .ok (.ifCond .ne 9, 3) := by decide +kernel
theorem dX11_set_8 : decode cX11_set 8 = .ok (.aload_n 0, 1) := by decide +kernel
theorem dX11_set_9 : decode cX11_set 9 = .ok (.iconst (-1), 1) := by decide +kernel
theorem dX11_set_10 : decode cX11_set 10 = .ok (.invokevirtual 184, 3) := by decide +kernel
theorem dX11_set_13 : decode cX11_set 13 = .ok (.ireturn, 1) := by decide +kernel
theorem dX11_set_14 : decode cX11_set 14 = .ok (.aload_n 0, 1) := by decide +kernel
theorem dX11_set_15 : decode cX11_set 15 = .ok (.getfield 119, 3) := by decide +kernel
theorem dX11_set_18 : decode cX11_set 18 = .ok (.iload_n 1, 1) := by decide +kernel
theorem dX11_set_19 : decode cX11_set 19 = .ok (.iaload, 1) := by decide +kernel
theorem dX11_set_20 : decode cX11_set 20 = .ok (.iconst 2, 1) := by decide +kernel
theorem dX11_set_21 : decode cX11_set 21 = .ok (.if_icmp .ne 10, 3) := by decide +kernel
theorem dX11_set_24 : decode cX11_set 24 = .ok (.aload_n 0, 1) := by decide +kernel
theorem dX11_set_25 : decode cX11_set 25 = .ok (.bipush (-2), 2) := by decide +kernel
theorem dX11_set_27 : decode cX11_set 27 = .ok (.invokevirtual 184, 3) := by decide +kernel
theorem dX11_set_30 : decode cX11_set 30 = .ok (.ireturn, 1) := by decide +kernel
theorem dX11_set_31 : decode cX11_set 31 = .ok (.aload_n 0, 1) := by decide +kernel
theorem dX11_set_32 : decode cX11_set 32 = .ok (.getfield 119, 3) := by decide +kernel
theorem dX11_set_35 : decode cX11_set 35 = .ok (.iload_n 1, 1) := by decide +kernel
theorem dX11_set_36 : decode cX11_set 36 = .ok (.iaload, 1) := by decide +kernel
theorem dX11_set_37 : decode cX11_set 37 = .ok (.ifCond .ne 10, 3) := by decide +kernel
theorem dX11_set_40 : decode cX11_set 40 = .ok (.aload_n 0, 1) := by decide +kernel
theorem dX11_set_41 : decode cX11_set 41 = .ok (.bipush (-3), 2) := by decide +kernel
theorem dX11_set_43 : decode cX11_set 43 = .ok (.invokevirtual 184, 3) := by decide +kernel
theorem dX11_set_46 : decode cX11_set 46 = .ok (.ireturn, 1) := by decide +kernel
theorem dX11_set_47 : decode cX11_set 47 = .ok (.iload_n 2, 1) := by decide +kernel
theorem dX11_set_48 : decode cX11_set 48 = .ok (.ifCond .lt 13, 3) := by decide +kernel
theorem dX11_set_51 : decode cX11_set 51 = .ok (.iload_n 2, 1) := by decide +kernel
theorem dX11_set_52 : decode cX11_set 52 = .ok (.aload_n 0, 1) := by decide +kernel
theorem dX11_set_53 : decode cX11_set 53 = .ok (.getfield 125, 3) := by decide +kernel
theorem dX11_set_56 : decode cX11_set 56 = .ok (.iload_n 1, 1) := by decide +kernel
theorem dX11_set_57 : decode cX11_set 57 = .ok (.iaload, 1) := by decide +kernel
theorem dX11_set_58 : decode cX11_set 58 = .ok (.if_icmp .lt 10, 3) := by decide +kernel
theorem dX11_set_61 : decode cX11_set 61 = .ok (.aload_n 0, 1) := by decide +kernel
theorem dX11_set_62 : decode cX11_set 62 = .ok (.bipush (-5), 2) := by decide +kernel
theorem dX11_set_64 : decode cX11_set 64 = .ok (.invokevirtual 184, 3) := by decide +kernel
theorem dX11_set_67 : decode cX11_set 67 = .ok (.ireturn, 1) := by decide +kernel
theorem dX11_set_68 : decode cX11_set 68 = .ok (.aload_n 0, 1) := by decide +kernel
theorem dX11_set_69 : decode cX11_set 69 = .ok (.getfield 131, 3) := by decide +kernel
theorem dX11_set_72 : decode cX11_set 72 = .ok (.bipush 60, 2) := by decide +kernel
theorem dX11_set_74 : decode cX11_set 74 = .ok (.iload_n 1, 1) := by decide +kernel
theorem dX11_set_75 : decode cX11_set 75 = .ok (.imul, 1) := by decide +kernel
theorem dX11_set_76 : decode cX11_set 76 = .ok (.iload_n 2, 1) := by decide +kernel
theorem dX11_set_77 : decode cX11_set 77 = .ok (.iadd, 1) := by decide +kernel
theorem dX11_set_78 : decode cX11_set 78 = .ok (.aload_n 0, 1) := by decide +kernel
theorem dX11_set_79 : decode cX11_set 79 = .ok (.getfield 122, 3) := by decide +kernel
theorem dX11_set_82 : decode cX11_set 82 = .ok (.iload_n 1, 1) := by decide +kernel
theorem dX11_set_83 : decode cX11_set 83 = .ok (.iaload, 1) := by decide +kernel
theorem dX11_set_84 : decode cX11_set 84 = .ok (.ifCond .ne 10, 3) := by decide +kernel
theorem dX11_set_87 : decode cX11_set 87 = .ok (.lload_n 3, 1) := by decide +kernel
theorem dX11_set_88 : decode cX11_set 88 = .ok (.l2i, 1) := by decide +kernel
theorem dX11_set_89 : decode cX11_set 89 = .ok (.i2b, 1) := by decide +kernel
theorem dX11_set_90 : decode cX11_set 90 = .ok (.i2l, 1) := by decide +kernel
theorem dX11_set_91 : decode cX11_set 91 = .ok (.goto 37, 3) := by decide +kernel
theorem dX11_set_94 : decode cX11_set 94 = .ok (.aload_n 0, 1) := by decide +kernel
theorem dX11_set_95 : decode cX11_set 95 = .ok (.getfield 122, 3) := by decide +kernel
theorem dX11_set_98 : decode cX11_set 98 = .ok (.iload_n 1, 1) := by decide +kernel
theorem dX11_set_99 : decode cX11_set 99 = .ok (.iaload, 1) := by decide +kernel
theorem dX11_set_100 : decode cX11_set 100 = .ok (.iconst 1, 1) := by decide +kernel
theorem dX11_set_101 : decode cX11_set 101 = .ok (.if_icmp .ne 10, 3) := by decide +kernel
theorem dX11_set_104 : decode cX11_set 104 = .ok (.lload_n 3, 1) := by decide +kernel
theorem dX11_set_105 : decode cX11_set 105 = .ok (.l2i, 1) := by decide +kernel
theorem dX11_set_106 : decode cX11_set 106 = .ok (.i2s, 1) := by decide +kernel
theorem dX11_set_107 : decode cX11_set 107 = .ok (.i2l, 1) := by decide +kernel
theorem dX11_set_108 : decode cX11_set 108 = .ok (.goto 20, 3) := by decide +kernel
theorem dX11_set_111 : decode cX11_set 111 = .ok (.aload_n 0, 1) := by decide +kernel
theorem dX11_set_112 : decode cX11_set 112 = .ok (.getfield 122, 3) := by decide +kernel
theorem dX11_set_115 : decode cX11_set 115 = .ok (.iload_n 1, 1) := by decide +kernel
theorem dX11_set_116 : decode cX11_set 116 = .ok (.iaload, 1) := by decide +kernel
theorem dX11_set_117 : decode cX11_set 117 = .ok (.iconst 2, 1) := by decide +kernel
theorem dX11_set_118 : decode cX11_set 118 = .ok (.if_icmp .ne 9, 3) := by decide +kernel
theorem dX11_set_121 : decode cX11_set 121 = .ok (.lload_n 3, 1) := by decide +kernel
theorem dX11_set_122 : decode cX11_set 122 = .ok (.l2i, 1) := by decide +kernel
theorem dX11_set_123 : decode cX11_set 123 = .ok (.i2l, 1) := by decide +kernel
theorem dX11_set_124 : decode cX11_set 124 = .ok (.goto 4, 3) := by decide +kernel
theorem dX11_set_127 : decode cX11_set 127 = .ok (.lload_n 3, 1) := by decide +kernel
theorem dX11_set_128 : decode cX11_set 128 = .ok (.lastore, 1) := by decide +kernel
theorem dX11_set_129 : decode cX11_set 129 = .ok (.iconst 1, 1) := by decide +kernel
theorem dX11_set_130 : decode cX11_set 130 = .ok (.ireturn, 1) := by decide +kernel
theorem dX11_copy_0 : decode cX11_copy 0 = .ok (.aload_n 0, 1) := by decide +kernel
theorem dX11_copy_1 : decode cX11_copy 1 = .ok (.iload_n 1, 1) := by decide +kernel
theorem dX11_copy_2 : decode cX11_copy 2 = .ok (.invokevirtual 181, 3) := by decide +kernel
theorem dX11_copy_5 : decode cX11_copy 5 = .ok (.ifCond .eq 11, 3) := by decide +kernel
theorem dX11_copy_8 : decode cX11_copy 8 = .ok (.aload_n 0, 1) := by decide +kernel
theorem dX11_copy_9 : decode cX11_copy 9 = .ok (.iload_n 2, 1) := by decide +kernel
theorem dX11_copy_10 : decode cX11_copy 10 = .ok (.invokevirtual 181, 3) := by decide +kernel
theorem dX11_copy_13 : decode cX11_copy 13 = .ok (.ifCond .ne 9, 3) := by decide +kernel
theorem dX11_copy_16 : decode cX11_copy 16 = .ok (.aload_n 0, 1) := by decide +kernel
theorem dX11_copy_17 : decode cX11_copy 17 = .ok (.iconst (-1), 1) := by decide +kernel
theorem dX11_copy_18 : decode cX11_copy 18 = .ok (.invokevirtual 184, 3) := by decide +kernel
theorem dX11_copy_21 : decode cX11_copy 21 = .ok (.ireturn, 1) := by decide +kernel
theorem dX11_copy_22 : decode cX11_copy 22 = .ok (.aload_n 0, 1) := by decide +kernel
theorem dX11_copy_23 : decode cX11_copy 23 = .ok (.getfield 119, 3) := by decide +kernel
theorem dX11_copy_26 : decode cX11_copy 26 = .ok (.iload_n 1, 1) := by decide +kernel
theorem dX11_copy_27 : decode cX11_copy 27 = .ok (.iaload, 1) := by decide +kernel
theorem dX11_copy_28 : decode cX11_copy 28 = .ok (.iconst 2, 1) := by decide +kernel
theorem dX11_copy_29 : decode cX11_copy 29 = .ok (.if_icmp .eq 48, 3) := by decide +kernel
theorem dX11_copy_32 : decode cX11_copy 32 = .ok (.aload_n 0, 1) := by decide +kernel
theorem dX11_copy_33 : decode cX11_copy 33 = .ok (.getfield 119, 3) := by decide +kernel
theorem dX11_copy_36 : decode cX11_copy 36 = .ok (.iload_n 2, 1) := by decide +kernel
theorem dX11_copy_37 : decode cX11_copy 37 = .ok (.iaload, 1) := by decide +kernel
theorem dX11_copy_38 : decode cX11_copy 38 = .ok (.iconst 2, 1) := by decide +kernel
theorem dX11_copy_39 : decode cX11_copy 39 = .ok (.if_icmp .eq 38, 3) := by decide +kernel
theorem dX11_copy_42 : decode cX11_copy 42 = .ok (.aload_n 0, 1) := by decide +kernel
theorem dX11_copy_43 : decode cX11_copy 43 = .ok (.getfield 119, 3) := by decide +kernel
theorem dX11_copy_46 : decode cX11_copy 46 = .ok (.iload_n 1, 1) := by decide +kernel
theorem dX11_copy_47 : decode cX11_copy 47 = .ok (.iaload, 1) := by decide +kernel
theorem dX11_copy_48 : decode cX11_copy 48 = .ok (.iconst 1, 1) := by decide +kernel
theorem dX11_copy_49 : decode cX11_copy 49 = .ok (.if_icmp .ne 35, 3) := by decide +kernel
theorem dX11_copy_52 : decode cX11_copy 52 = .ok (.aload_n 0, 1) := by decide +kernel
theorem dX11_copy_53 : decode cX11_copy 53 = .ok (.getfield 119, 3) := by decide +kernel
theorem dX11_copy_56 : decode cX11_copy 56 = .ok (.iload_n 2, 1) := by decide +kernel
theorem dX11_copy_57 : decode cX11_copy 57 = .ok (.iaload, 1) := by decide +kernel
theorem dX11_copy_58 : decode cX11_copy 58 = .ok (.iconst 1, 1) := by decide +kernel
theorem dX11_copy_59 : decode cX11_copy 59 = .ok (.if_icmp .ne 25, 3) := by decide +kernel
theorem dX11_copy_62 : decode cX11_copy 62 = .ok (.aload_n 0, 1) := by decide +kernel
theorem dX11_copy_63 : decode cX11_copy 63 = .ok (.getfield 122, 3) := by decide +kernel
theorem dX11_copy_66 : decode cX11_copy 66 = .ok (.iload_n 1, 1) := by decide +kernel
theorem dX11_copy_67 : decode cX11_copy 67 = .ok (.iaload, 1) := by decide +kernel
theorem dX11_copy_68 : decode cX11_copy 68 = .ok (.aload_n 0, 1) := by decide +kernel
theorem dX11_copy_69 : decode cX11_copy 69 = .ok (.getfield 122, 3) := by decide +kernel
theorem dX11_copy_72 : decode cX11_copy 72 = .ok (.iload_n 2, 1) := by decide +kernel
theorem dX11_copy_73 : decode cX11_copy 73 = .ok (.iaload, 1) := by decide +kernel
theorem dX11_copy_74 : decode cX11_copy 74 = .ok (.if_icmp .eq 10, 3) := by decide +kernel
theorem dX11_copy_77 : decode cX11_copy 77 = .ok (.aload_n 0, 1) := by decide +kernel
theorem dX11_copy_78 : decode cX11_copy 78 = .ok (.bipush (-2), 2) := by decide +kernel
theorem dX11_copy_80 : decode cX11_copy 80 = .ok (.invokevirtual 184, 3) := by decide +kernel
theorem dX11_copy_83 : decode cX11_copy 83 = .ok (.ireturn, 1) := by decide +kernel
theorem dX11_copy_84 : decode cX11_copy 84 = .ok (.aload_n 0, 1) := by decide +kernel
theorem dX11_copy_85 : decode cX11_copy 85 = .ok (.getfield 119, 3) := by decide +kernel
theorem dX11_copy_88 : decode cX11_copy 88 = .ok (.iload_n 1, 1) := by decide +kernel
theorem dX11_copy_89 : decode cX11_copy 89 = .ok (.iaload, 1) := by decide +kernel
theorem dX11_copy_90 : decode cX11_copy 90 = .ok (.ifCond .eq 12, 3) := by decide +kernel
theorem dX11_copy_93 : decode cX11_copy 93 = .ok (.aload_n 0, 1) := by decide +kernel
theorem dX11_copy_94 : decode cX11_copy 94 = .ok (.getfield 119, 3) := by decide +kernel
theorem dX11_copy_97 : decode cX11_copy 97 = .ok (.iload_n 2, 1) := by decide +kernel
theorem dX11_copy_98 : decode cX11_copy 98 = .ok (.iaload, 1) := by decide +kernel
theorem dX11_copy_99 : decode cX11_copy 99 = .ok (.ifCond .ne 10, 3) := by decide +kernel
theorem dX11_copy_102 : decode cX11_copy 102 = .ok (.aload_n 0, 1) := by decide +kernel
theorem dX11_copy_103 : decode cX11_copy 103 = .ok (.bipush (-3), 2) := by decide +kernel
theorem dX11_copy_105 : decode cX11_copy 105 = .ok (.invokevirtual 184, 3) := by decide +kernel
theorem dX11_copy_108 : decode cX11_copy 108 = .ok (.ireturn, 1) := by decide +kernel
theorem dX11_copy_109 : decode cX11_copy 109 = .ok (.iload 5, 2) := by decide +kernel
theorem dX11_copy_111 : decode cX11_copy 111 = .ok (.ifCond .ge 10, 3) := by decide +kernel
theorem dX11_copy_114 : decode cX11_copy 114 = .ok (.aload_n 0, 1) := by decide +kernel
theorem dX11_copy_115 : decode cX11_copy 115 = .ok (.bipush (-4), 2) := by decide +kernel
theorem dX11_copy_117 : decode cX11_copy 117 = .ok (.invokevirtual 184, 3) := by decide +kernel
theorem dX11_copy_120 : decode cX11_copy 120 = .ok (.ireturn, 1) := by decide +kernel
theorem dX11_copy_121 : decode cX11_copy 121 = .ok (.iload_n 3, 1) := by decide +kernel
theorem dX11_copy_122 : decode cX11_copy 122 = .ok (.ifCond .lt 35, 3) := by decide +kernel
theorem dX11_copy_125 : decode cX11_copy 125 = .ok (.iload 4, 2) := by decide +kernel
theorem dX11_copy_127 : decode cX11_copy 127 = .ok (.ifCond .lt 30, 3) := by decide +kernel
theorem dX11_copy_130 : decode cX11_copy 130 = .ok (.iload_n 3, 1) := by decide +kernel
theorem dX11_copy_131 : decode cX11_copy 131 = .ok (.aload_n 0, 1) := by decide +kernel
theorem dX11_copy_132 : decode cX11_copy 132 = .ok (.getfield 125, 3) := by decide +kernel
theorem dX11_copy_135 : decode cX11_copy 135 = .ok (.iload_n 1, 1) := by decide +kernel
theorem dX11_copy_136 : decode cX11_copy 136 = .ok (.iaload, 1) := by decide +kernel
theorem dX11_copy_137 : decode cX11_copy 137 = .ok (.iload 5, 2) := by decide +kernel
theorem dX11_copy_139 : decode cX11_copy 139 = .ok (.isub, 1) := by decide +kernel
theorem dX11_copy_140 : decode cX11_copy 140 = .ok (.if_icmp .gt 17, 3) := by decide +kernel
theorem dX11_copy_143 : decode cX11_copy 143 = .ok (.iload 4, 2) := by decide +kernel
theorem dX11_copy_145 : decode cX11_copy 145 = .ok (.aload_n 0, 1) := by decide +kernel
theorem dX11_copy_146 : decode cX11_copy 146 = .ok (.getfield 125, 3) := by decide +kernel
theorem dX11_copy_149 : decode cX11_copy 149 = .ok (.iload_n 2, 1) := by decide +kernel
theorem dX11_copy_150 : decode cX11_copy 150 = .ok (.iaload, 1) := by decide +kernel
theorem dX11_copy_151 : decode cX11_copy 151 = .ok (.iload 5, 2) := by decide +kernel
theorem dX11_copy_153 : decode cX11_copy 153 = .ok (.isub, 1) := by decide +kernel
theorem dX11_copy_154 : decode cX11_copy 154 = .ok (.if_icmp .le 10, 3) := by decide +kernel
theorem dX11_copy_157 : decode cX11_copy 157 = .ok (.aload_n 0, 1) := by decide +kernel
theorem dX11_copy_158 : decode cX11_copy 158 = .ok (.bipush (-5), 2) := by decide +kernel
theorem dX11_copy_160 : decode cX11_copy 160 = .ok (.invokevirtual 184, 3) := by decide +kernel
theorem dX11_copy_163 : decode cX11_copy 163 = .ok (.ireturn, 1) := by decide +kernel
theorem dX11_copy_164 : decode cX11_copy 164 = .ok (.iconst 0, 1) := by decide +kernel
theorem dX11_copy_165 : decode cX11_copy 165 = .ok (.istore 6, 2) := by decide +kernel
theorem dX11_copy_167 : decode cX11_copy 167 = .ok (.iload 6, 2) := by decide +kernel
theorem dX11_copy_169 : decode cX11_copy 169 = .ok (.iload 5, 2) := by decide +kernel
theorem dX11_copy_171 : decode cX11_copy 171 = .ok (.if_icmp .ge 30, 3) := by decide +kernel
theorem dX11_copy_174 : decode cX11_copy 174 = .ok (.aload_n 0, 1) := by decide +kernel
theorem dX11_copy_175 : decode cX11_copy 175 = .ok (.getfield 135, 3) := by decide +kernel
theorem dX11_copy_178 : decode cX11_copy 178 = .ok (.iload 6, 2) := by decide +kernel
theorem dX11_copy_180 : decode cX11_copy 180 = .ok (.aload_n 0, 1) := by decide +kernel
theorem dX11_copy_181 : decode cX11_copy 181 = .ok (.getfield 131, 3) := by decide +kernel
theorem dX11_copy_184 : decode cX11_copy 184 = .ok (.bipush 60, 2) := by decide +kernel
theorem dX11_copy_186 : decode cX11_copy 186 = .ok (.iload_n 1, 1) := by decide +kernel
theorem dX11_copy_187 : decode cX11_copy 187 = .ok (.imul, 1) := by decide +kernel
theorem dX11_copy_188 : decode cX11_copy 188 = .ok (.iload_n 3, 1) := by decide +kernel
theorem dX11_copy_189 : decode cX11_copy 189 = .ok (.iadd, 1) := by decide +kernel
theorem dX11_copy_190 : decode cX11_copy 190 = .ok (.iload 6, 2) := by decide +kernel
theorem dX11_copy_192 : decode cX11_copy 192 = .ok (.iadd, 1) := by decide +kernel
theorem dX11_copy_193 : decode cX11_copy 193 = .ok (.laload, 1) := by decide +kernel
theorem dX11_copy_194 : decode cX11_copy 194 = .ok (.lastore, 1) := by decide +kernel
theorem dX11_copy_195 : decode cX11_copy 195 = .ok (.iinc 6 1, 3) := by decide +kernel
theorem dX11_copy_198 : decode cX11_copy 198 = .ok (.goto (-31), 3) := by decide +kernel
theorem dX11_copy_201 : decode cX11_copy 201 = .ok (.iconst 0, 1) := by decide +kernel
theorem dX11_copy_202 : decode cX11_copy 202 = .ok (.istore 6, 2) := by decide +kernel
theorem dX11_copy_204 : decode cX11_copy 204 = .ok (.iload 6, 2) := by decide +kernel
theorem dX11_copy_206 : decode cX11_copy 206 = .ok (.iload 5, 2) := by decide +kernel
theorem dX11_copy_208 : decode cX11_copy 208 = .ok (.if_icmp .ge 31, 3) := by decide +kernel
theorem dX11_copy_211 : decode cX11_copy 211 = .ok (.aload_n 0, 1) := by decide +kernel
theorem dX11_copy_212 : decode cX11_copy 212 = .ok (.getfield 131, 3) := by decide +kernel
theorem dX11_copy_215 : decode cX11_copy 215 = .ok (.bipush 60, 2) := by decide +kernel
theorem dX11_copy_217 : decode cX11_copy 217 = .ok (.iload_n 2, 1) := by decide +kernel
theorem dX11_copy_218 : decode cX11_copy 218 = .ok (.imul, 1) := by decide +kernel
theorem dX11_copy_219 : decode cX11_copy 219 = .ok (.iload 4, 2) := by decide +kernel
theorem dX11_copy_221 : decode cX11_copy 221 = .ok (.iadd, 1) := by decide +kernel
theorem dX11_copy_222 : decode cX11_copy 222 = .ok (.iload 6, 2) := by decide +kernel
theorem dX11_copy_224 : decode cX11_copy 224 = .ok (.iadd, 1) := by decide +kernel
theorem dX11_copy_225 : decode cX11_copy 225 = .ok (.aload_n 0, 1) := by decide +kernel
theorem dX11_copy_226 : decode cX11_copy 226 = .ok (.getfield 135, 3) := by decide +kernel
theorem dX11_copy_229 : decode cX11_copy 229 = .ok (.iload 6, 2) := by decide +kernel
theorem dX11_copy_231 : decode cX11_copy 231 = .ok (.laload, 1) := by decide +kernel
theorem dX11_copy_232 : decode cX11_copy 232 = .ok (.lastore, 1) := by decide +kernel
theorem dX11_copy_233 : decode cX11_copy 233 = .ok (.iinc 6 1, 3) := by decide +kernel
theorem dX11_copy_236 : decode cX11_copy 236 = .ok (.goto (-32), 3) := by decide +kernel
theorem dX11_copy_239 : decode cX11_copy 239 = .ok (.iconst 1, 1) := by decide +kernel
theorem dX11_copy_240 : decode cX11_copy 240 = .ok (.ireturn, 1) := by decide +kernel
theorem dX11_element_0 : decode cX11_element 0 = .ok (.aload_n 0, 1) := by decide +kernel
theorem dX11_element_1 : decode cX11_element 1 = .ok (.iload_n 1, 1) := by decide +kernel
theorem dX11_element_2 : decode cX11_element 2 = .ok (.invokevirtual 181, 3) := by decide +kernel
theorem dX11_element_5 : decode cX11_element 5 = .ok (.ifCond .eq 41, 3) := by decide +kernel
theorem dX11_element_8 : decode cX11_element 8 = .ok (.aload_n 0, 1) := by decide +kernel
theorem dX11_element_9 : decode cX11_element 9 = .ok (.getfield 119, 3) := by decide +kernel
theorem dX11_element_12 : decode cX11_element 12 = .ok (.iload_n 1, 1) := by decide +kernel
theorem dX11_element_13 : decode cX11_element 13 = .ok (.iaload, 1) := by decide +kernel
theorem dX11_element_14 : decode cX11_element 14 = .ok (.iconst 1, 1) := by decide +kernel
theorem dX11_element_15 : decode cX11_element 15 = .ok (.if_icmp .ne 31, 3) := by decide +kernel
theorem dX11_element_18 : decode cX11_element 18 = .ok (.iload_n 2, 1) := by decide +kernel
theorem dX11_element_19 : decode cX11_element 19 = .ok (.ifCond .lt 27, 3) := by decide +kernel
theorem dX11_element_22 : decode cX11_element 22 = .ok (.iload_n 2, 1) := by decide +kernel
theorem dX11_element_23 : decode cX11_element 23 = .ok (.aload_n 0, 1) := by decide +kernel
theorem dX11_element_24 : decode cX11_element 24 = .ok (.getfield 125, 3) := by decide +kernel
theorem dX11_element_27 : decode cX11_element 27 = .ok (.iload_n 1, 1) := by decide +kernel
theorem dX11_element_28 : decode cX11_element 28 = .ok (.iaload, 1) := by decide +kernel
theorem dX11_element_29 : decode cX11_element 29 = .ok (.if_icmp .ge 17, 3) := by decide +kernel
theorem dX11_element_32 : decode cX11_element 32 = .ok (.aload_n 0, 1) := by decide +kernel
theorem dX11_element_33 : decode cX11_element 33 = .ok (.getfield 131, 3) := by decide +kernel
theorem dX11_element_36 : decode cX11_element 36 = .ok (.bipush 60, 2) := by decide +kernel
theorem dX11_element_38 : decode cX11_element 38 = .ok (.iload_n 1, 1) := by decide +kernel
theorem dX11_element_39 : decode cX11_element 39 = .ok (.imul, 1) := by decide +kernel
theorem dX11_element_40 : decode cX11_element 40 = .ok (.iload_n 2, 1) := by decide +kernel
theorem dX11_element_41 : decode cX11_element 41 = .ok (.iadd, 1) := by decide +kernel
theorem dX11_element_42 : decode cX11_element 42 = .ok (.laload, 1) := by decide +kernel
theorem dX11_element_43 : decode cX11_element 43 = .ok (.goto 4, 3) := by decide +kernel
theorem dX11_element_46 : decode cX11_element 46 = .ok (.lconst 0, 1) := by decide +kernel
theorem dX11_element_47 : decode cX11_element 47 = .ok (.lreturn, 1) := by decide +kernel
theorem dX11_show_0 : decode cX11_show 0 = .ok (.aload_n 0, 1) := by decide +kernel
theorem dX11_show_1 : decode cX11_show 1 = .ok (.iload_n 1, 1) := by decide +kernel
theorem dX11_show_2 : decode cX11_show 2 = .ok (.invokevirtual 181, 3) := by decide +kernel
theorem dX11_show_5 : decode cX11_show 5 = .ok (.ifCond .eq 16, 3) := by decide +kernel
theorem dX11_show_8 : decode cX11_show 8 = .ok (.iload_n 2, 1) := by decide +kernel
theorem dX11_show_9 : decode cX11_show 9 = .ok (.iconst (-1), 1) := by decide +kernel
theorem dX11_show_10 : decode cX11_show 10 = .ok (.if_icmp .eq 17, 3) := by decide +kernel
theorem dX11_show_13 : decode cX11_show 13 = .ok (.aload_n 0, 1) := by decide +kernel
theorem dX11_show_14 : decode cX11_show 14 = .ok (.iload_n 2, 1) := by decide +kernel
theorem dX11_show_15 : decode cX11_show 15 = .ok (.invokevirtual 188, 3) := by decide +kernel
theorem dX11_show_18 : decode cX11_show 18 = .ok (.ifCond .ne 9, 3) := by decide +kernel
theorem dX11_show_21 : decode cX11_show 21 = .ok (.aload_n 0, 1) := by decide +kernel
theorem dX11_show_22 : decode cX11_show 22 = .ok (.iconst (-1), 1) := by decide +kernel
theorem dX11_show_23 : decode cX11_show 23 = .ok (.invokevirtual 184, 3) := by decide +kernel
theorem dX11_show_26 : decode cX11_show 26 = .ok (.ireturn, 1) := by decide +kernel
theorem dX11_show_27 : decode cX11_show 27 = .ok (.aload_n 0, 1) := by decide +kernel
theorem dX11_show_28 : decode cX11_show 28 = .ok (.getfield 119, 3) := by decide +kernel
theorem dX11_show_31 : decode cX11_show 31 = .ok (.iload_n 1, 1) := by decide +kernel
theorem dX11_show_32 : decode cX11_show 32 = .ok (.iload_n 2, 1) := by decide +kernel
theorem dX11_show_33 : decode cX11_show 33 = .ok (.iconst (-1), 1) := by decide +kernel
theorem dX11_show_34 : decode cX11_show 34 = .ok (.if_icmp .ne 7, 3) := by decide +kernel
theorem dX11_show_37 : decode cX11_show 37 = .ok (.iconst 0, 1) := by decide +kernel
theorem dX11_show_38 : decode cX11_show 38 = .ok (.goto 4, 3) := by decide +kernel
theorem dX11_show_41 : decode cX11_show 41 = .ok (.iconst 2, 1) := by decide +kernel
theorem dX11_show_42 : decode cX11_show 42 = .ok (.iastore, 1) := by decide +kernel
theorem dX11_show_43 : decode cX11_show 43 = .ok (.aload_n 0, 1) := by decide +kernel
theorem dX11_show_44 : decode cX11_show 44 = .ok (.getfield 128, 3) := by decide +kernel
theorem dX11_show_47 : decode cX11_show 47 = .ok (.iload_n 1, 1) := by decide +kernel
theorem dX11_show_48 : decode cX11_show 48 = .ok (.iload_n 2, 1) := by decide +kernel
theorem dX11_show_49 : decode cX11_show 49 = .ok (.iastore, 1) := by decide +kernel
theorem dX11_show_50 : decode cX11_show 50 = .ok (.iload_n 2, 1) := by decide +kernel
theorem dX11_show_51 : decode cX11_show 51 = .ok (.iconst (-1), 1) := by decide +kernel
theorem dX11_show_52 : decode cX11_show 52 = .ok (.if_icmp .ne 7, 3) := by decide +kernel
theorem dX11_show_55 : decode cX11_show 55 = .ok (.iconst 0, 1) := by decide +kernel
theorem dX11_show_56 : decode cX11_show 56 = .ok (.goto 4, 3) := by decide +kernel
theorem dX11_show_59 : decode cX11_show 59 = .ok (.iconst 1, 1) := by decide +kernel
theorem dX11_show_60 : decode cX11_show 60 = .ok (.ireturn, 1) := by decide +kernel
theorem dX11_holds_0 : decode cX11_holds 0 = .ok (.aload_n 0, 1) := by decide +kernel
theorem dX11_holds_1 : decode cX11_holds 1 = .ok (.iload_n 1, 1) := by decide +kernel
theorem dX11_holds_2 : decode cX11_holds 2 = .ok (.invokevirtual 181, 3) := by decide +kernel
theorem dX11_holds_5 : decode cX11_holds 5 = .ok (.ifCond .eq 12, 3) := by decide +kernel
theorem dX11_holds_8 : decode cX11_holds 8 = .ok (.aload_n 0, 1) := by decide +kernel
theorem dX11_holds_9 : decode cX11_holds 9 = .ok (.getfield 119, 3) := by decide +kernel
theorem dX11_holds_12 : decode cX11_holds 12 = .ok (.iload_n 1, 1) := by decide +kernel
theorem dX11_holds_13 : decode cX11_holds 13 = .ok (.iaload, 1) := by decide +kernel
theorem dX11_holds_14 : decode cX11_holds 14 = .ok (.ifCond .ne 5, 3) := by decide +kernel
theorem dX11_holds_17 : decode cX11_holds 17 = .ok (.iconst (-1), 1) := by decide +kernel
theorem dX11_holds_18 : decode cX11_holds 18 = .ok (.ireturn, 1) := by decide +kernel
theorem dX11_holds_19 : decode cX11_holds 19 = .ok (.aload_n 0, 1) := by decide +kernel
theorem dX11_holds_20 : decode cX11_holds 20 = .ok (.getfield 119, 3) := by decide +kernel
theorem dX11_holds_23 : decode cX11_holds 23 = .ok (.iload_n 1, 1) := by decide +kernel
theorem dX11_holds_24 : decode cX11_holds 24 = .ok (.iaload, 1) := by decide +kernel
theorem dX11_holds_25 : decode cX11_holds 25 = .ok (.iconst 1, 1) := by decide +kernel
theorem dX11_holds_26 : decode cX11_holds 26 = .ok (.if_icmp .ne 15, 3) := by decide +kernel
theorem dX11_holds_29 : decode cX11_holds 29 = .ok (.bipush 100, 2) := by decide +kernel
theorem dX11_holds_31 : decode cX11_holds 31 = .ok (.aload_n 0, 1) := by decide +kernel
theorem dX11_holds_32 : decode cX11_holds 32 = .ok (.getfield 122, 3) := by decide +kernel
theorem dX11_holds_35 : decode cX11_holds 35 = .ok (.iload_n 1, 1) := by decide +kernel
theorem dX11_holds_36 : decode cX11_holds 36 = .ok (.iaload, 1) := by decide +kernel
theorem dX11_holds_37 : decode cX11_holds 37 = .ok (.iadd, 1) := by decide +kernel
theorem dX11_holds_38 : decode cX11_holds 38 = .ok (.goto 9, 3) := by decide +kernel
theorem dX11_holds_41 : decode cX11_holds 41 = .ok (.aload_n 0, 1) := by decide +kernel
theorem dX11_holds_42 : decode cX11_holds 42 = .ok (.getfield 128, 3) := by decide +kernel
theorem dX11_holds_45 : decode cX11_holds 45 = .ok (.iload_n 1, 1) := by decide +kernel
theorem dX11_holds_46 : decode cX11_holds 46 = .ok (.iaload, 1) := by decide +kernel
theorem dX11_holds_47 : decode cX11_holds 47 = .ok (.ireturn, 1) := by decide +kernel
theorem dX11_says_0 : decode cX11_says 0 = .ok (.aload_n 0, 1) := by decide +kernel
theorem dX11_says_1 : decode cX11_says 1 = .ok (.iload_n 1, 1) := by decide +kernel
theorem dX11_says_2 : decode cX11_says 2 = .ok (.invokevirtual 181, 3) := by decide +kernel
theorem dX11_says_5 : decode cX11_says 5 = .ok (.ifCond .eq 13, 3) := by decide +kernel
theorem dX11_says_8 : decode cX11_says 8 = .ok (.iload_n 2, 1) := by decide +kernel
theorem dX11_says_9 : decode cX11_says 9 = .ok (.ifCond .lt 9, 3) := by decide +kernel
theorem dX11_says_12 : decode cX11_says 12 = .ok (.iload_n 2, 1) := by decide +kernel
theorem dX11_says_13 : decode cX11_says 13 = .ok (.bipush 7, 2) := by decide +kernel
theorem dX11_says_15 : decode cX11_says 15 = .ok (.if_icmp .le 9, 3) := by decide +kernel
theorem dX11_says_18 : decode cX11_says 18 = .ok (.aload_n 0, 1) := by decide +kernel
theorem dX11_says_19 : decode cX11_says 19 = .ok (.iconst (-1), 1) := by decide +kernel
theorem dX11_says_20 : decode cX11_says 20 = .ok (.invokevirtual 184, 3) := by decide +kernel
theorem dX11_says_23 : decode cX11_says 23 = .ok (.ireturn, 1) := by decide +kernel
theorem dX11_says_24 : decode cX11_says 24 = .ok (.aload_n 0, 1) := by decide +kernel
theorem dX11_says_25 : decode cX11_says 25 = .ok (.getfield 119, 3) := by decide +kernel
theorem dX11_says_28 : decode cX11_says 28 = .ok (.iload_n 1, 1) := by decide +kernel
theorem dX11_says_29 : decode cX11_says 29 = .ok (.iaload, 1) := by decide +kernel
theorem dX11_says_30 : decode cX11_says 30 = .ok (.iconst 1, 1) := by decide +kernel
theorem dX11_says_31 : decode cX11_says 31 = .ok (.if_icmp .ne 10, 3) := by decide +kernel
theorem dX11_says_34 : decode cX11_says 34 = .ok (.aload_n 0, 1) := by decide +kernel
theorem dX11_says_35 : decode cX11_says 35 = .ok (.bipush (-2), 2) := by decide +kernel
theorem dX11_says_37 : decode cX11_says 37 = .ok (.invokevirtual 184, 3) := by decide +kernel
theorem dX11_says_40 : decode cX11_says 40 = .ok (.ireturn, 1) := by decide +kernel
theorem dX11_says_41 : decode cX11_says 41 = .ok (.aload_n 0, 1) := by decide +kernel
theorem dX11_says_42 : decode cX11_says 42 = .ok (.getfield 119, 3) := by decide +kernel
theorem dX11_says_45 : decode cX11_says 45 = .ok (.iload_n 1, 1) := by decide +kernel
theorem dX11_says_46 : decode cX11_says 46 = .ok (.iaload, 1) := by decide +kernel
theorem dX11_says_47 : decode cX11_says 47 = .ok (.ifCond .ne 10, 3) := by decide +kernel
theorem dX11_says_50 : decode cX11_says 50 = .ok (.aload_n 0, 1) := by decide +kernel
theorem dX11_says_51 : decode cX11_says 51 = .ok (.bipush (-3), 2) := by decide +kernel
theorem dX11_says_53 : decode cX11_says 53 = .ok (.invokevirtual 184, 3) := by decide +kernel
theorem dX11_says_56 : decode cX11_says 56 = .ok (.ireturn, 1) := by decide +kernel
theorem dX11_says_57 : decode cX11_says 57 = .ok (.aload_n 0, 1) := by decide +kernel
theorem dX11_says_58 : decode cX11_says 58 = .ok (.getfield 128, 3) := by decide +kernel
theorem dX11_says_61 : decode cX11_says 61 = .ok (.iload_n 1, 1) := by decide +kernel
theorem dX11_says_62 : decode cX11_says 62 = .ok (.iaload, 1) := by decide +kernel
theorem dX11_says_63 : decode cX11_says 63 = .ok (.istore_n 3, 1) := by decide +kernel
theorem dX11_says_64 : decode cX11_says 64 = .ok (.iload_n 2, 1) := by decide +kernel
theorem dX11_says_65 : decode cX11_says 65 = .ok (.ifCond .eq 36, 3) := by decide +kernel
theorem dX11_says_68 : decode cX11_says 68 = .ok (.iload_n 2, 1) := by decide +kernel
theorem dX11_says_69 : decode cX11_says 69 = .ok (.aload_n 0, 1) := by decide +kernel
theorem dX11_says_70 : decode cX11_says 70 = .ok (.getfield 44, 3) := by decide +kernel
theorem dX11_says_73 : decode cX11_says 73 = .ok (.iload_n 3, 1) := by decide +kernel
theorem dX11_says_74 : decode cX11_says 74 = .ok (.iaload, 1) := by decide +kernel
theorem dX11_says_75 : decode cX11_says 75 = .ok (.if_icmp .eq 26, 3) := by decide +kernel
theorem dX11_says_78 : decode cX11_says 78 = .ok (.iload_n 2, 1) := by decide +kernel
theorem dX11_says_79 : decode cX11_says 79 = .ok (.iconst 1, 1) := by decide +kernel
theorem dX11_says_80 : decode cX11_says 80 = .ok (.if_icmp .ne 14, 3) := by decide +kernel
theorem dX11_says_83 : decode cX11_says 83 = .ok (.aload_n 0, 1) := by decide +kernel
theorem dX11_says_84 : decode cX11_says 84 = .ok (.getfield 44, 3) := by decide +kernel
theorem dX11_says_87 : decode cX11_says 87 = .ok (.iload_n 3, 1) := by decide +kernel
theorem dX11_says_88 : decode cX11_says 88 = .ok (.iaload, 1) := by decide +kernel
theorem dX11_says_89 : decode cX11_says 89 = .ok (.bipush 7, 2) := by decide +kernel
theorem dX11_says_91 : decode cX11_says 91 = .ok (.if_icmp .eq 10, 3) := by decide +kernel
theorem dX11_says_94 : decode cX11_says 94 = .ok (.aload_n 0, 1) := by decide +kernel
theorem dX11_says_95 : decode cX11_says 95 = .ok (.bipush (-2), 2) := by decide +kernel
theorem dX11_says_97 : decode cX11_says 97 = .ok (.invokevirtual 184, 3) := by decide +kernel
theorem dX11_says_100 : decode cX11_says 100 = .ok (.ireturn, 1) := by decide +kernel
theorem dX11_says_101 : decode cX11_says 101 = .ok (.iload_n 2, 1) := by decide +kernel
theorem dX11_says_102 : decode cX11_says 102 = .ok (.ifCond .ne 10, 3) := by decide +kernel
theorem dX11_says_105 : decode cX11_says 105 = .ok (.aload_n 0, 1) := by decide +kernel
theorem dX11_says_106 : decode cX11_says 106 = .ok (.getfield 50, 3) := by decide +kernel
theorem dX11_says_109 : decode cX11_says 109 = .ok (.iload_n 3, 1) := by decide +kernel
theorem dX11_says_110 : decode cX11_says 110 = .ok (.iaload, 1) := by decide +kernel
theorem dX11_says_111 : decode cX11_says 111 = .ok (.ireturn, 1) := by decide +kernel
theorem dX11_says_112 : decode cX11_says 112 = .ok (.iload_n 2, 1) := by decide +kernel
theorem dX11_says_113 : decode cX11_says 113 = .ok (.iconst 1, 1) := by decide +kernel
theorem dX11_says_114 : decode cX11_says 114 = .ok (.if_icmp .eq 9, 3) := by decide +kernel
theorem dX11_says_117 : decode cX11_says 117 = .ok (.iload_n 2, 1) := by decide +kernel
theorem dX11_says_118 : decode cX11_says 118 = .ok (.bipush 7, 2) := by decide +kernel
theorem dX11_says_120 : decode cX11_says 120 = .ok (.if_icmp .ne 20, 3) := by decide +kernel
theorem dX11_says_123 : decode cX11_says 123 = .ok (.bipush 100, 2) := by decide +kernel
theorem dX11_says_125 : decode cX11_says 125 = .ok (.aload_n 0, 1) := by decide +kernel
theorem dX11_says_126 : decode cX11_says 126 = .ok (.getfield 56, 3) := by decide +kernel
theorem dX11_says_129 : decode cX11_says 129 = .ok (.iload_n 3, 1) := by decide +kernel
theorem dX11_says_130 : decode cX11_says 130 = .ok (.iaload, 1) := by decide +kernel
theorem dX11_says_131 : decode cX11_says 131 = .ok (.imul, 1) := by decide +kernel
theorem dX11_says_132 : decode cX11_says 132 = .ok (.aload_n 0, 1) := by decide +kernel
theorem dX11_says_133 : decode cX11_says 133 = .ok (.getfield 59, 3) := by decide +kernel
theorem dX11_says_136 : decode cX11_says 136 = .ok (.iload_n 3, 1) := by decide +kernel
theorem dX11_says_137 : decode cX11_says 137 = .ok (.iaload, 1) := by decide +kernel
theorem dX11_says_138 : decode cX11_says 138 = .ok (.iadd, 1) := by decide +kernel
theorem dX11_says_139 : decode cX11_says 139 = .ok (.ireturn, 1) := by decide +kernel
theorem dX11_says_140 : decode cX11_says 140 = .ok (.iload_n 2, 1) := by decide +kernel
theorem dX11_says_141 : decode cX11_says 141 = .ok (.iconst 5, 1) := by decide +kernel
theorem dX11_says_142 : decode cX11_says 142 = .ok (.if_icmp .ne 10, 3) := by decide +kernel
theorem dX11_says_145 : decode cX11_says 145 = .ok (.aload_n 0, 1) := by decide +kernel
theorem dX11_says_146 : decode cX11_says 146 = .ok (.getfield 20, 3) := by decide +kernel
theorem dX11_says_149 : decode cX11_says 149 = .ok (.iconst 5, 1) := by decide +kernel
theorem dX11_says_150 : decode cX11_says 150 = .ok (.iaload, 1) := by decide +kernel
theorem dX11_says_151 : decode cX11_says 151 = .ok (.ireturn, 1) := by decide +kernel
theorem dX11_says_152 : decode cX11_says 152 = .ok (.iload_n 2, 1) := by decide +kernel
theorem dX11_says_153 : decode cX11_says 153 = .ok (.bipush 6, 2) := by decide +kernel
theorem dX11_says_155 : decode cX11_says 155 = .ok (.if_icmp .eq 10, 3) := by decide +kernel
theorem dX11_says_158 : decode cX11_says 158 = .ok (.aload_n 0, 1) := by decide +kernel
theorem dX11_says_159 : decode cX11_says 159 = .ok (.getfield 47, 3) := by decide +kernel
theorem dX11_says_162 : decode cX11_says 162 = .ok (.iload_n 3, 1) := by decide +kernel
theorem dX11_says_163 : decode cX11_says 163 = .ok (.iaload, 1) := by decide +kernel
theorem dX11_says_164 : decode cX11_says 164 = .ok (.ireturn, 1) := by decide +kernel
theorem dX11_says_165 : decode cX11_says 165 = .ok (.iconst 0, 1) := by decide +kernel
theorem dX11_says_166 : decode cX11_says 166 = .ok (.istore 4, 2) := by decide +kernel
theorem dX11_says_168 : decode cX11_says 168 = .ok (.iconst 0, 1) := by decide +kernel
theorem dX11_says_169 : decode cX11_says 169 = .ok (.istore 5, 2) := by decide +kernel
theorem dX11_says_171 : decode cX11_says 171 = .ok (.iload 5, 2) := by decide +kernel
theorem dX11_says_173 : decode cX11_says 173 = .ok (.bipush 10, 2) := by decide +kernel
theorem dX11_says_175 : decode cX11_says 175 = .ok (.if_icmp .ge 21, 3) := by decide +kernel
theorem dX11_says_178 : decode cX11_says 178 = .ok (.iload 4, 2) := by decide +kernel
theorem dX11_says_180 : decode cX11_says 180 = .ok (.aload_n 0, 1) := by decide +kernel
theorem dX11_says_181 : decode cX11_says 181 = .ok (.getfield 26, 3) := by decide +kernel
theorem dX11_says_184 : decode cX11_says 184 = .ok (.iload 5, 2) := by decide +kernel
theorem dX11_says_186 : decode cX11_says 186 = .ok (.iaload, 1) := by decide +kernel
theorem dX11_says_187 : decode cX11_says 187 = .ok (.iadd, 1) := by decide +kernel
theorem dX11_says_188 : decode cX11_says 188 = .ok (.istore 4, 2) := by decide +kernel
theorem dX11_says_190 : decode cX11_says 190 = .ok (.iinc 5 1, 3) := by decide +kernel
theorem dX11_says_193 : decode cX11_says 193 = .ok (.goto (-22), 3) := by decide +kernel
theorem dX11_says_196 : decode cX11_says 196 = .ok (.iload 4, 2) := by decide +kernel
theorem dX11_says_198 : decode cX11_says 198 = .ok (.ireturn, 1) := by decide +kernel
theorem dX11_wants_0 : decode cX11_wants 0 = .ok (.aload_n 0, 1) := by decide +kernel
theorem dX11_wants_1 : decode cX11_wants 1 = .ok (.iload_n 1, 1) := by decide +kernel
theorem dX11_wants_2 : decode cX11_wants 2 = .ok (.invokevirtual 181, 3) := by decide +kernel
theorem dX11_wants_5 : decode cX11_wants 5 = .ok (.ifCond .ne 7, 3) := by decide +kernel
theorem dX11_wants_8 : decode cX11_wants 8 = .ok (.iconst (-1), 1) := by decide +kernel
theorem dX11_wants_9 : decode cX11_wants 9 = .ok (.goto 33, 3) := by decide +kernel
theorem dX11_wants_12 : decode cX11_wants 12 = .ok (.aload_n 0, 1) := by decide +kernel
theorem dX11_wants_13 : decode cX11_wants 13 = .ok (.getfield 119, 3) := by decide +kernel
theorem dX11_wants_16 : decode cX11_wants 16 = .ok (.iload_n 1, 1) := by decide +kernel
theorem dX11_wants_17 : decode cX11_wants 17 = .ok (.iaload, 1) := by decide +kernel
theorem dX11_wants_18 : decode cX11_wants 18 = .ok (.iconst 2, 1) := by decide +kernel
theorem dX11_wants_19 : decode cX11_wants 19 = .ok (.if_icmp .ne 8, 3) := by decide +kernel
theorem dX11_wants_22 : decode cX11_wants 22 = .ok (.bipush (-2), 2) := by decide +kernel
theorem dX11_wants_24 : decode cX11_wants 24 = .ok (.goto 18, 3) := by decide +kernel
theorem dX11_wants_27 : decode cX11_wants 27 = .ok (.aload_n 0, 1) := by decide +kernel
theorem dX11_wants_28 : decode cX11_wants 28 = .ok (.getfield 119, 3) := by decide +kernel
theorem dX11_wants_31 : decode cX11_wants 31 = .ok (.iload_n 1, 1) := by decide +kernel
theorem dX11_wants_32 : decode cX11_wants 32 = .ok (.iaload, 1) := by decide +kernel
theorem dX11_wants_33 : decode cX11_wants 33 = .ok (.ifCond .ne 8, 3) := by decide +kernel
theorem dX11_wants_36 : decode cX11_wants 36 = .ok (.bipush (-3), 2) := by decide +kernel
theorem dX11_wants_38 : decode cX11_wants 38 = .ok (.goto 4, 3) := by decide +kernel
theorem dX11_wants_41 : decode cX11_wants 41 = .ok (.iconst 0, 1) := by decide +kernel
theorem dX11_wants_42 : decode cX11_wants 42 = .ok (.ireturn, 1) := by decide +kernel
theorem dX11_intAt_0 : decode cX11_intAt 0 = .ok (.aload_n 0, 1) := by decide +kernel
theorem dX11_intAt_1 : decode cX11_intAt 1 = .ok (.getfield 131, 3) := by decide +kernel
theorem dX11_intAt_4 : decode cX11_intAt 4 = .ok (.bipush 60, 2) := by decide +kernel
theorem dX11_intAt_6 : decode cX11_intAt 6 = .ok (.iload_n 1, 1) := by decide +kernel
theorem dX11_intAt_7 : decode cX11_intAt 7 = .ok (.imul, 1) := by decide +kernel
theorem dX11_intAt_8 : decode cX11_intAt 8 = .ok (.iload_n 2, 1) := by decide +kernel
theorem dX11_intAt_9 : decode cX11_intAt 9 = .ok (.iadd, 1) := by decide +kernel
theorem dX11_intAt_10 : decode cX11_intAt 10 = .ok (.laload, 1) := by decide +kernel
theorem dX11_intAt_11 : decode cX11_intAt 11 = .ok (.l2i, 1) := by decide +kernel
theorem dX11_intAt_12 : decode cX11_intAt 12 = .ok (.ireturn, 1) := by decide +kernel
theorem dX11_person_0 : decode cX11_person 0 = .ok (.aload_n 0, 1) := by decide +kernel
theorem dX11_person_1 : decode cX11_person 1 = .ok (.iload_n 1, 1) := by decide +kernel
theorem dX11_person_2 : decode cX11_person 2 = .ok (.invokevirtual 191, 3) := by decide +kernel
theorem dX11_person_5 : decode cX11_person 5 = .ok (.ifCond .ne 9, 3) := by decide +kernel
theorem dX11_person_8 : decode cX11_person 8 = .ok (.aload_n 0, 1) := by decide +kernel
theorem dX11_person_9 : decode cX11_person 9 = .ok (.iconst (-1), 1) := by decide +kernel
theorem dX11_person_10 : decode cX11_person 10 = .ok (.invokevirtual 184, 3) := by decide +kernel
theorem dX11_person_13 : decode cX11_person 13 = .ok (.ireturn, 1) := by decide +kernel
theorem dX11_person_14 : decode cX11_person 14 = .ok (.aload_n 0, 1) := by decide +kernel
theorem dX11_person_15 : decode cX11_person 15 = .ok (.iload_n 2, 1) := by decide +kernel
theorem dX11_person_16 : decode cX11_person 16 = .ok (.invokevirtual 194, 3) := by decide +kernel
theorem dX11_person_19 : decode cX11_person 19 = .ok (.ifCond .eq 25, 3) := by decide +kernel
theorem dX11_person_22 : decode cX11_person 22 = .ok (.iload_n 3, 1) := by decide +kernel
theorem dX11_person_23 : decode cX11_person 23 = .ok (.ifCond .lt 21, 3) := by decide +kernel
theorem dX11_person_26 : decode cX11_person 26 = .ok (.iload_n 3, 1) := by decide +kernel
theorem dX11_person_27 : decode cX11_person 27 = .ok (.bipush 99, 2) := by decide +kernel
theorem dX11_person_29 : decode cX11_person 29 = .ok (.if_icmp .gt 15, 3) := by decide +kernel
theorem dX11_person_32 : decode cX11_person 32 = .ok (.iload 4, 2) := by decide +kernel
theorem dX11_person_34 : decode cX11_person 34 = .ok (.ifCond .lt 10, 3) := by decide +kernel
theorem dX11_person_37 : decode cX11_person 37 = .ok (.iload 4, 2) := by decide +kernel
theorem dX11_person_39 : decode cX11_person 39 = .ok (.bipush 9, 2) := by decide +kernel
theorem dX11_person_41 : decode cX11_person 41 = .ok (.if_icmp .le 10, 3) := by decide +kernel
theorem dX11_person_44 : decode cX11_person 44 = .ok (.aload_n 0, 1) := by decide +kernel
theorem dX11_person_45 : decode cX11_person 45 = .ok (.bipush (-6), 2) := by decide +kernel
theorem dX11_person_47 : decode cX11_person 47 = .ok (.invokevirtual 184, 3) := by decide +kernel
theorem dX11_person_50 : decode cX11_person 50 = .ok (.ireturn, 1) := by decide +kernel
theorem dX11_person_51 : decode cX11_person 51 = .ok (.aload_n 0, 1) := by decide +kernel
theorem dX11_person_52 : decode cX11_person 52 = .ok (.getfield 171, 3) := by decide +kernel
theorem dX11_person_55 : decode cX11_person 55 = .ok (.bipush 12, 2) := by decide +kernel
theorem dX11_person_57 : decode cX11_person 57 = .ok (.if_icmp .ne 10, 3) := by decide +kernel
theorem dX11_person_60 : decode cX11_person 60 = .ok (.aload_n 0, 1) := by decide +kernel
theorem dX11_person_61 : decode cX11_person 61 = .ok (.bipush (-7), 2) := by decide +kernel
theorem dX11_person_63 : decode cX11_person 63 = .ok (.invokevirtual 184, 3) := by decide +kernel
theorem dX11_person_66 : decode cX11_person 66 = .ok (.ireturn, 1) := by decide +kernel
theorem dX11_person_67 : decode cX11_person 67 = .ok (.aload_n 0, 1) := by decide +kernel
theorem dX11_person_68 : decode cX11_person 68 = .ok (.getfield 29, 3) := by decide +kernel
theorem dX11_person_71 : decode cX11_person 71 = .ok (.aload_n 0, 1) := by decide +kernel
theorem dX11_person_72 : decode cX11_person 72 = .ok (.getfield 171, 3) := by decide +kernel
theorem dX11_person_75 : decode cX11_person 75 = .ok (.iload_n 1, 1) := by decide +kernel
theorem dX11_person_76 : decode cX11_person 76 = .ok (.iastore, 1) := by decide +kernel
theorem dX11_person_77 : decode cX11_person 77 = .ok (.aload_n 0, 1) := by decide +kernel
theorem dX11_person_78 : decode cX11_person 78 = .ok (.getfield 32, 3) := by decide +kernel
theorem dX11_person_81 : decode cX11_person 81 = .ok (.aload_n 0, 1) := by decide +kernel
theorem dX11_person_82 : decode cX11_person 82 = .ok (.getfield 171, 3) := by decide +kernel
theorem dX11_person_85 : decode cX11_person 85 = .ok (.iload_n 2, 1) := by decide +kernel
theorem dX11_person_86 : decode cX11_person 86 = .ok (.iastore, 1) := by decide +kernel
theorem dX11_person_87 : decode cX11_person 87 = .ok (.aload_n 0, 1) := by decide +kernel
theorem dX11_person_88 : decode cX11_person 88 = .ok (.getfield 35, 3) := by decide +kernel
theorem dX11_person_91 : decode cX11_person 91 = .ok (.aload_n 0, 1) := by decide +kernel
theorem dX11_person_92 : decode cX11_person 92 = .ok (.getfield 171, 3) := by decide +kernel
theorem dX11_person_95 : decode cX11_person 95 = .ok (.iload_n 3, 1) := by decide +kernel
theorem dX11_person_96 : decode cX11_person 96 = .ok (.iastore, 1) := by decide +kernel
theorem dX11_person_97 : decode cX11_person 97 = .ok (.aload_n 0, 1) := by decide +kernel
theorem dX11_person_98 : decode cX11_person 98 = .ok (.getfield 38, 3) := by decide +kernel
theorem dX11_person_101 : decode cX11_person 101 = .ok (.aload_n 0, 1) := by decide +kernel
theorem dX11_person_102 : decode cX11_person 102 = .ok (.getfield 171, 3) := by decide +kernel
theorem dX11_person_105 : decode cX11_person 105 = .ok (.iload 4, 2) := by decide +kernel
theorem dX11_person_107 : decode cX11_person 107 = .ok (.iastore, 1) := by decide +kernel
theorem dX11_person_108 : decode cX11_person 108 = .ok (.aload_n 0, 1) := by decide +kernel
theorem dX11_person_109 : decode cX11_person 109 = .ok (.getfield 41, 3) := by decide +kernel
theorem dX11_person_112 : decode cX11_person 112 = .ok (.aload_n 0, 1) := by decide +kernel
theorem dX11_person_113 : decode cX11_person 113 = .ok (.getfield 171, 3) := by decide +kernel
theorem dX11_person_116 : decode cX11_person 116 = .ok (.iload 5, 2) := by decide +kernel
theorem dX11_person_118 : decode cX11_person 118 = .ok (.ifCond .eq 7, 3) := by decide +kernel
theorem dX11_person_121 : decode cX11_person 121 = .ok (.iconst 1, 1) := by decide +kernel
theorem dX11_person_122 : decode cX11_person 122 = .ok (.goto 4, 3) := by decide +kernel
theorem dX11_person_125 : decode cX11_person 125 = .ok (.iconst 0, 1) := by decide +kernel
theorem dX11_person_126 : decode cX11_person 126 = .ok (.iastore, 1) := by decide +kernel
theorem dX11_person_127 : decode cX11_person 127 = .ok (.aload_n 0, 1) := by decide +kernel
theorem dX11_person_128 : decode cX11_person 128 = .ok (.dup, 1) := by decide +kernel
theorem dX11_person_129 : decode cX11_person 129 = .ok (.getfield 171, 3) := by decide +kernel
theorem dX11_person_132 : decode cX11_person 132 = .ok (.dup_x1, 1) := by decide +kernel
theorem dX11_person_133 : decode cX11_person 133 = .ok (.iconst 1, 1) := by decide +kernel
theorem dX11_person_134 : decode cX11_person 134 = .ok (.iadd, 1) := by decide +kernel
theorem dX11_person_135 : decode cX11_person 135 = .ok (.putfield 171, 3) := by decide +kernel
theorem dX11_person_138 : decode cX11_person 138 = .ok (.ireturn, 1) := by decide +kernel
theorem dX11_go_0 : decode cX11_go 0 = .ok (.aload_n 0, 1) := by decide +kernel
theorem dX11_go_1 : decode cX11_go 1 = .ok (.iload_n 1, 1) := by decide +kernel
theorem dX11_go_2 : decode cX11_go 2 = .ok (.invokevirtual 197, 3) := by decide +kernel
theorem dX11_go_5 : decode cX11_go 5 = .ok (.ifCond .eq 11, 3) := by decide +kernel
theorem dX11_go_8 : decode cX11_go 8 = .ok (.aload_n 0, 1) := by decide +kernel
theorem dX11_go_9 : decode cX11_go 9 = .ok (.iload_n 2, 1) := by decide +kernel
theorem dX11_go_10 : decode cX11_go 10 = .ok (.invokevirtual 191, 3) := by decide +kernel
theorem dX11_go_13 : decode cX11_go 13 = .ok (.ifCond .ne 9, 3) := by decide +kernel
theorem dX11_go_16 : decode cX11_go 16 = .ok (.aload_n 0, 1) := by decide +kernel
theorem dX11_go_17 : decode cX11_go 17 = .ok (.iconst (-1), 1) := by decide +kernel
theorem dX11_go_18 : decode cX11_go 18 = .ok (.invokevirtual 184, 3) := by decide +kernel
theorem dX11_go_21 : decode cX11_go 21 = .ok (.ireturn, 1) := by decide +kernel
theorem dX11_go_22 : decode cX11_go 22 = .ok (.aload_n 0, 1) := by decide +kernel
theorem dX11_go_23 : decode cX11_go 23 = .ok (.getfield 29, 3) := by decide +kernel
theorem dX11_go_26 : decode cX11_go 26 = .ok (.iload_n 1, 1) := by decide +kernel
theorem dX11_go_27 : decode cX11_go 27 = .ok (.iaload, 1) := by decide +kernel
theorem dX11_go_28 : decode cX11_go 28 = .ok (.istore_n 3, 1) := by decide +kernel
theorem dX11_go_29 : decode cX11_go 29 = .ok (.aload_n 0, 1) := by decide +kernel
theorem dX11_go_30 : decode cX11_go 30 = .ok (.getfield 29, 3) := by decide +kernel
theorem dX11_go_33 : decode cX11_go 33 = .ok (.iload_n 1, 1) := by decide +kernel
theorem dX11_go_34 : decode cX11_go 34 = .ok (.iload_n 2, 1) := by decide +kernel
theorem dX11_go_35 : decode cX11_go 35 = .ok (.iastore, 1) := by decide +kernel
theorem dX11_go_36 : decode cX11_go 36 = .ok (.iload_n 3, 1) := by decide +kernel
theorem dX11_go_37 : decode cX11_go 37 = .ok (.ireturn, 1) := by decide +kernel
theorem dX11_source_0 : decode cX11_source 0 = .ok (.iload_n 1, 1) := by decide +kernel
theorem dX11_source_1 : decode cX11_source 1 = .ok (.iconst 1, 1) := by decide +kernel
theorem dX11_source_2 : decode cX11_source 2 = .ok (.if_icmp .lt 33, 3) := by decide +kernel
theorem dX11_source_5 : decode cX11_source 5 = .ok (.iload_n 1, 1) := by decide +kernel
theorem dX11_source_6 : decode cX11_source 6 = .ok (.bipush 7, 2) := by decide +kernel
theorem dX11_source_8 : decode cX11_source 8 = .ok (.if_icmp .gt 27, 3) := by decide +kernel
theorem dX11_source_11 : decode cX11_source 11 = .ok (.iload_n 1, 1) := by decide +kernel
theorem dX11_source_12 : decode cX11_source 12 = .ok (.iconst 4, 1) := by decide +kernel
theorem dX11_source_13 : decode cX11_source 13 = .ok (.if_icmp .ne 14, 3) := by decide +kernel
theorem dX11_source_16 : decode cX11_source 16 = .ok (.aload_n 0, 1) := by decide +kernel
theorem dX11_source_17 : decode cX11_source 17 = .ok (.iload_n 2, 1) := by decide +kernel
theorem dX11_source_18 : decode cX11_source 18 = .ok (.invokevirtual 197, 3) := by decide +kernel
theorem dX11_source_21 : decode cX11_source 21 = .ok (.ifCond .ne 20, 3) := by decide +kernel
theorem dX11_source_24 : decode cX11_source 24 = .ok (.goto 11, 3) := by decide +kernel
theorem dX11_source_27 : decode cX11_source 27 = .ok (.aload_n 0, 1) := by decide +kernel
theorem dX11_source_28 : decode cX11_source 28 = .ok (.iload_n 2, 1) := by decide +kernel
theorem dX11_source_29 : decode cX11_source 29 = .ok (.invokevirtual 191, 3) := by decide +kernel
theorem dX11_source_32 : decode cX11_source 32 = .ok (.ifCond .ne 9, 3) := by decide +kernel
theorem dX11_source_35 : decode cX11_source 35 = .ok (.aload_n 0, 1) := by decide +kernel
theorem dX11_source_36 : decode cX11_source 36 = .ok (.iconst (-1), 1) := by decide +kernel
theorem dX11_source_37 : decode cX11_source 37 = .ok (.invokevirtual 184, 3) := by decide +kernel
theorem dX11_source_40 : decode cX11_source 40 = .ok (.ireturn, 1) := by decide +kernel
theorem dX11_source_41 : decode cX11_source 41 = .ok (.aload_n 0, 1) := by decide +kernel
theorem dX11_source_42 : decode cX11_source 42 = .ok (.iload_n 3, 1) := by decide +kernel
theorem dX11_source_43 : decode cX11_source 43 = .ok (.invokevirtual 194, 3) := by decide +kernel
theorem dX11_source_46 : decode cX11_source 46 = .ok (.ifCond .eq 16, 3) := by decide +kernel
theorem dX11_source_49 : decode cX11_source 49 = .ok (.iload 4, 2) := by decide +kernel
theorem dX11_source_51 : decode cX11_source 51 = .ok (.iconst 1, 1) := by decide +kernel
theorem dX11_source_52 : decode cX11_source 52 = .ok (.if_icmp .lt 10, 3) := by decide +kernel
theorem dX11_source_55 : decode cX11_source 55 = .ok (.iload 4, 2) := by decide +kernel
theorem dX11_source_57 : decode cX11_source 57 = .ok (.bipush 99, 2) := by decide +kernel
theorem dX11_source_59 : decode cX11_source 59 = .ok (.if_icmp .le 10, 3) := by decide +kernel
theorem dX11_source_62 : decode cX11_source 62 = .ok (.aload_n 0, 1) := by decide +kernel
theorem dX11_source_63 : decode cX11_source 63 = .ok (.bipush (-6), 2) := by decide +kernel
theorem dX11_source_65 : decode cX11_source 65 = .ok (.invokevirtual 184, 3) := by decide +kernel
theorem dX11_source_68 : decode cX11_source 68 = .ok (.ireturn, 1) := by decide +kernel
theorem dX11_source_69 : decode cX11_source 69 = .ok (.aload_n 0, 1) := by decide +kernel
theorem dX11_source_70 : decode cX11_source 70 = .ok (.getfield 174, 3) := by decide +kernel
theorem dX11_source_73 : decode cX11_source 73 = .ok (.bipush 14, 2) := by decide +kernel
theorem dX11_source_75 : decode cX11_source 75 = .ok (.if_icmp .ne 10, 3) := by decide +kernel
theorem dX11_source_78 : decode cX11_source 78 = .ok (.aload_n 0, 1) := by decide +kernel
theorem dX11_source_79 : decode cX11_source 79 = .ok (.bipush (-7), 2) := by decide +kernel
theorem dX11_source_81 : decode cX11_source 81 = .ok (.invokevirtual 184, 3) := by decide +kernel
theorem dX11_source_84 : decode cX11_source 84 = .ok (.ireturn, 1) := by decide +kernel
theorem dX11_source_85 : decode cX11_source 85 = .ok (.aload_n 0, 1) := by decide +kernel
theorem dX11_source_86 : decode cX11_source 86 = .ok (.getfield 44, 3) := by decide +kernel
theorem dX11_source_89 : decode cX11_source 89 = .ok (.aload_n 0, 1) := by decide +kernel
theorem dX11_source_90 : decode cX11_source 90 = .ok (.getfield 174, 3) := by decide +kernel
theorem dX11_source_93 : decode cX11_source 93 = .ok (.iload_n 1, 1) := by decide +kernel
theorem dX11_source_94 : decode cX11_source 94 = .ok (.iastore, 1) := by decide +kernel
theorem dX11_source_95 : decode cX11_source 95 = .ok (.aload_n 0, 1) := by decide +kernel
theorem dX11_source_96 : decode cX11_source 96 = .ok (.getfield 47, 3) := by decide +kernel
theorem dX11_source_99 : decode cX11_source 99 = .ok (.aload_n 0, 1) := by decide +kernel
theorem dX11_source_100 : decode cX11_source 100 = .ok (.getfield 174, 3) := by decide +kernel
theorem dX11_source_103 : decode cX11_source 103 = .ok (.iload_n 2, 1) := by decide +kernel
theorem dX11_source_104 : decode cX11_source 104 = .ok (.iastore, 1) := by decide +kernel
theorem dX11_source_105 : decode cX11_source 105 = .ok (.aload_n 0, 1) := by decide +kernel
theorem dX11_source_106 : decode cX11_source 106 = .ok (.getfield 50, 3) := by decide +kernel
theorem dX11_source_109 : decode cX11_source 109 = .ok (.aload_n 0, 1) := by decide +kernel
theorem dX11_source_110 : decode cX11_source 110 = .ok (.getfield 174, 3) := by decide +kernel
theorem dX11_source_113 : decode cX11_source 113 = .ok (.iload_n 3, 1) := by decide +kernel
theorem dX11_source_114 : decode cX11_source 114 = .ok (.iastore, 1) := by decide +kernel
theorem dX11_source_115 : decode cX11_source 115 = .ok (.aload_n 0, 1) := by decide +kernel
theorem dX11_source_116 : decode cX11_source 116 = .ok (.getfield 53, 3) := by decide +kernel
theorem dX11_source_119 : decode cX11_source 119 = .ok (.aload_n 0, 1) := by decide +kernel
theorem dX11_source_120 : decode cX11_source 120 = .ok (.getfield 174, 3) := by decide +kernel
theorem dX11_source_123 : decode cX11_source 123 = .ok (.iload 4, 2) := by decide +kernel
theorem dX11_source_125 : decode cX11_source 125 = .ok (.iastore, 1) := by decide +kernel
theorem dX11_source_126 : decode cX11_source 126 = .ok (.aload_n 0, 1) := by decide +kernel
theorem dX11_source_127 : decode cX11_source 127 = .ok (.getfield 56, 3) := by decide +kernel
theorem dX11_source_130 : decode cX11_source 130 = .ok (.aload_n 0, 1) := by decide +kernel
theorem dX11_source_131 : decode cX11_source 131 = .ok (.getfield 174, 3) := by decide +kernel
theorem dX11_source_134 : decode cX11_source 134 = .ok (.iconst 0, 1) := by decide +kernel
theorem dX11_source_135 : decode cX11_source 135 = .ok (.iastore, 1) := by decide +kernel
theorem dX11_source_136 : decode cX11_source 136 = .ok (.aload_n 0, 1) := by decide +kernel
theorem dX11_source_137 : decode cX11_source 137 = .ok (.getfield 59, 3) := by decide +kernel
theorem dX11_source_140 : decode cX11_source 140 = .ok (.aload_n 0, 1) := by decide +kernel
theorem dX11_source_141 : decode cX11_source 141 = .ok (.getfield 174, 3) := by decide +kernel
theorem dX11_source_144 : decode cX11_source 144 = .ok (.bipush 23, 2) := by decide +kernel
theorem dX11_source_146 : decode cX11_source 146 = .ok (.iastore, 1) := by decide +kernel
theorem dX11_source_147 : decode cX11_source 147 = .ok (.aload_n 0, 1) := by decide +kernel
theorem dX11_source_148 : decode cX11_source 148 = .ok (.getfield 62, 3) := by decide +kernel
theorem dX11_source_151 : decode cX11_source 151 = .ok (.aload_n 0, 1) := by decide +kernel
theorem dX11_source_152 : decode cX11_source 152 = .ok (.getfield 174, 3) := by decide +kernel
theorem dX11_source_155 : decode cX11_source 155 = .ok (.iconst 0, 1) := by decide +kernel
theorem dX11_source_156 : decode cX11_source 156 = .ok (.iastore, 1) := by decide +kernel
theorem dX11_source_157 : decode cX11_source 157 = .ok (.aload_n 0, 1) := by decide +kernel
theorem dX11_source_158 : decode cX11_source 158 = .ok (.getfield 65, 3) := by decide +kernel
theorem dX11_source_161 : decode cX11_source 161 = .ok (.aload_n 0, 1) := by decide +kernel
theorem dX11_source_162 : decode cX11_source 162 = .ok (.getfield 174, 3) := by decide +kernel
theorem dX11_source_165 : decode cX11_source 165 = .ok (.iconst 0, 1) := by decide +kernel
theorem dX11_source_166 : decode cX11_source 166 = .ok (.iastore, 1) := by decide +kernel
theorem dX11_source_167 : decode cX11_source 167 = .ok (.aload_n 0, 1) := by decide +kernel
theorem dX11_source_168 : decode cX11_source 168 = .ok (.dup, 1) := by decide +kernel
theorem dX11_source_169 : decode cX11_source 169 = .ok (.getfield 174, 3) := by decide +kernel
theorem dX11_source_172 : decode cX11_source 172 = .ok (.dup_x1, 1) := by decide +kernel
theorem dX11_source_173 : decode cX11_source 173 = .ok (.iconst 1, 1) := by decide +kernel
theorem dX11_source_174 : decode cX11_source 174 = .ok (.iadd, 1) := by decide +kernel
theorem dX11_source_175 : decode cX11_source 175 = .ok (.putfield 174, 3) := by decide +kernel
theorem dX11_source_178 : decode cX11_source 178 = .ok (.ireturn, 1) := by decide +kernel
theorem dX11_hours_0 : decode cX11_hours 0 = .ok (.aload_n 0, 1) := by decide +kernel
theorem dX11_hours_1 : decode cX11_hours 1 = .ok (.iload_n 1, 1) := by decide +kernel
theorem dX11_hours_2 : decode cX11_hours 2 = .ok (.invokevirtual 188, 3) := by decide +kernel
theorem dX11_hours_5 : decode cX11_hours 5 = .ok (.ifCond .ne 9, 3) := by decide +kernel
theorem dX11_hours_8 : decode cX11_hours 8 = .ok (.aload_n 0, 1) := by decide +kernel
theorem dX11_hours_9 : decode cX11_hours 9 = .ok (.iconst (-1), 1) := by decide +kernel
theorem dX11_hours_10 : decode cX11_hours 10 = .ok (.invokevirtual 184, 3) := by decide +kernel
theorem dX11_hours_13 : decode cX11_hours 13 = .ok (.ireturn, 1) := by decide +kernel
theorem dX11_hours_14 : decode cX11_hours 14 = .ok (.iload_n 2, 1) := by decide +kernel
theorem dX11_hours_15 : decode cX11_hours 15 = .ok (.ifCond .lt 19, 3) := by decide +kernel
theorem dX11_hours_18 : decode cX11_hours 18 = .ok (.iload_n 2, 1) := by decide +kernel
theorem dX11_hours_19 : decode cX11_hours 19 = .ok (.bipush 23, 2) := by decide +kernel
theorem dX11_hours_21 : decode cX11_hours 21 = .ok (.if_icmp .gt 13, 3) := by decide +kernel
theorem dX11_hours_24 : decode cX11_hours 24 = .ok (.iload_n 3, 1) := by decide +kernel
theorem dX11_hours_25 : decode cX11_hours 25 = .ok (.ifCond .lt 9, 3) := by decide +kernel
theorem dX11_hours_28 : decode cX11_hours 28 = .ok (.iload_n 3, 1) := by decide +kernel
theorem dX11_hours_29 : decode cX11_hours 29 = .ok (.bipush 23, 2) := by decide +kernel
theorem dX11_hours_31 : decode cX11_hours 31 = .ok (.if_icmp .le 10, 3) := by decide +kernel
theorem dX11_hours_34 : decode cX11_hours 34 = .ok (.aload_n 0, 1) := by decide +kernel
theorem dX11_hours_35 : decode cX11_hours 35 = .ok (.bipush (-6), 2) := by decide +kernel
theorem dX11_hours_37 : decode cX11_hours 37 = .ok (.invokevirtual 184, 3) := by decide +kernel
theorem dX11_hours_40 : decode cX11_hours 40 = .ok (.ireturn, 1) := by decide +kernel
theorem dX11_hours_41 : decode cX11_hours 41 = .ok (.bipush 100, 2) := by decide +kernel
theorem dX11_hours_43 : decode cX11_hours 43 = .ok (.aload_n 0, 1) := by decide +kernel
theorem dX11_hours_44 : decode cX11_hours 44 = .ok (.getfield 56, 3) := by decide +kernel
theorem dX11_hours_47 : decode cX11_hours 47 = .ok (.iload_n 1, 1) := by decide +kernel
theorem dX11_hours_48 : decode cX11_hours 48 = .ok (.iaload, 1) := by decide +kernel
theorem dX11_hours_49 : decode cX11_hours 49 = .ok (.imul, 1) := by decide +kernel
theorem dX11_hours_50 : decode cX11_hours 50 = .ok (.aload_n 0, 1) := by decide +kernel
theorem dX11_hours_51 : decode cX11_hours 51 = .ok (.getfield 59, 3) := by decide +kernel
theorem dX11_hours_54 : decode cX11_hours 54 = .ok (.iload_n 1, 1) := by decide +kernel
theorem dX11_hours_55 : decode cX11_hours 55 = .ok (.iaload, 1) := by decide +kernel
theorem dX11_hours_56 : decode cX11_hours 56 = .ok (.iadd, 1) := by decide +kernel
theorem dX11_hours_57 : decode cX11_hours 57 = .ok (.istore 4, 2) := by decide +kernel
theorem dX11_hours_59 : decode cX11_hours 59 = .ok (.aload_n 0, 1) := by decide +kernel
theorem dX11_hours_60 : decode cX11_hours 60 = .ok (.getfield 56, 3) := by decide +kernel
theorem dX11_hours_63 : decode cX11_hours 63 = .ok (.iload_n 1, 1) := by decide +kernel
theorem dX11_hours_64 : decode cX11_hours 64 = .ok (.iload_n 2, 1) := by decide +kernel
theorem dX11_hours_65 : decode cX11_hours 65 = .ok (.iastore, 1) := by decide +kernel
theorem dX11_hours_66 : decode cX11_hours 66 = .ok (.aload_n 0, 1) := by decide +kernel
theorem dX11_hours_67 : decode cX11_hours 67 = .ok (.getfield 59, 3) := by decide +kernel
theorem dX11_hours_70 : decode cX11_hours 70 = .ok (.iload_n 1, 1) := by decide +kernel
theorem dX11_hours_71 : decode cX11_hours 71 = .ok (.iload_n 3, 1) := by decide +kernel
theorem dX11_hours_72 : decode cX11_hours 72 = .ok (.iastore, 1) := by decide +kernel
theorem dX11_hours_73 : decode cX11_hours 73 = .ok (.iload 4, 2) := by decide +kernel
theorem dX11_hours_75 : decode cX11_hours 75 = .ok (.ireturn, 1) := by decide +kernel
theorem dX11_cost_0 : decode cX11_cost 0 = .ok (.aload_n 0, 1) := by decide +kernel
theorem dX11_cost_1 : decode cX11_cost 1 = .ok (.iload_n 1, 1) := by decide +kernel
theorem dX11_cost_2 : decode cX11_cost 2 = .ok (.invokevirtual 188, 3) := by decide +kernel
theorem dX11_cost_5 : decode cX11_cost 5 = .ok (.ifCond .ne 9, 3) := by decide +kernel
theorem dX11_cost_8 : decode cX11_cost 8 = .ok (.aload_n 0, 1) := by decide +kernel
theorem dX11_cost_9 : decode cX11_cost 9 = .ok (.iconst (-1), 1) := by decide +kernel
theorem dX11_cost_10 : decode cX11_cost 10 = .ok (.invokevirtual 184, 3) := by decide +kernel
theorem dX11_cost_13 : decode cX11_cost 13 = .ok (.ireturn, 1) := by decide +kernel
theorem dX11_cost_14 : decode cX11_cost 14 = .ok (.iload_n 2, 1) := by decide +kernel
theorem dX11_cost_15 : decode cX11_cost 15 = .ok (.ifCond .lt 9, 3) := by decide +kernel
theorem dX11_cost_18 : decode cX11_cost 18 = .ok (.iload_n 2, 1) := by decide +kernel
theorem dX11_cost_19 : decode cX11_cost 19 = .ok (.bipush 99, 2) := by decide +kernel
theorem dX11_cost_21 : decode cX11_cost 21 = .ok (.if_icmp .le 10, 3) := by decide +kernel
theorem dX11_cost_24 : decode cX11_cost 24 = .ok (.aload_n 0, 1) := by decide +kernel
theorem dX11_cost_25 : decode cX11_cost 25 = .ok (.bipush (-6), 2) := by decide +kernel
theorem dX11_cost_27 : decode cX11_cost 27 = .ok (.invokevirtual 184, 3) := by decide +kernel
theorem dX11_cost_30 : decode cX11_cost 30 = .ok (.ireturn, 1) := by decide +kernel
theorem dX11_cost_31 : decode cX11_cost 31 = .ok (.aload_n 0, 1) := by decide +kernel
theorem dX11_cost_32 : decode cX11_cost 32 = .ok (.getfield 62, 3) := by decide +kernel
theorem dX11_cost_35 : decode cX11_cost 35 = .ok (.iload_n 1, 1) := by decide +kernel
theorem dX11_cost_36 : decode cX11_cost 36 = .ok (.iaload, 1) := by decide +kernel
theorem dX11_cost_37 : decode cX11_cost 37 = .ok (.istore_n 3, 1) := by decide +kernel
theorem dX11_cost_38 : decode cX11_cost 38 = .ok (.aload_n 0, 1) := by decide +kernel
theorem dX11_cost_39 : decode cX11_cost 39 = .ok (.getfield 62, 3) := by decide +kernel
theorem dX11_cost_42 : decode cX11_cost 42 = .ok (.iload_n 1, 1) := by decide +kernel
theorem dX11_cost_43 : decode cX11_cost 43 = .ok (.iload_n 2, 1) := by decide +kernel
theorem dX11_cost_44 : decode cX11_cost 44 = .ok (.iastore, 1) := by decide +kernel
theorem dX11_cost_45 : decode cX11_cost 45 = .ok (.iload_n 3, 1) := by decide +kernel
theorem dX11_cost_46 : decode cX11_cost 46 = .ok (.ireturn, 1) := by decide +kernel
theorem dX11_off_0 : decode cX11_off 0 = .ok (.aload_n 0, 1) := by decide +kernel
theorem dX11_off_1 : decode cX11_off 1 = .ok (.iload_n 1, 1) := by decide +kernel
theorem dX11_off_2 : decode cX11_off 2 = .ok (.invokevirtual 188, 3) := by decide +kernel
theorem dX11_off_5 : decode cX11_off 5 = .ok (.ifCond .ne 9, 3) := by decide +kernel
theorem dX11_off_8 : decode cX11_off 8 = .ok (.aload_n 0, 1) := by decide +kernel
theorem dX11_off_9 : decode cX11_off 9 = .ok (.iconst (-1), 1) := by decide +kernel
theorem dX11_off_10 : decode cX11_off 10 = .ok (.invokevirtual 184, 3) := by decide +kernel
theorem dX11_off_13 : decode cX11_off 13 = .ok (.ireturn, 1) := by decide +kernel
theorem dX11_off_14 : decode cX11_off 14 = .ok (.iload_n 2, 1) := by decide +kernel
theorem dX11_off_15 : decode cX11_off 15 = .ok (.ifCond .eq 7, 3) := by decide +kernel
theorem dX11_off_18 : decode cX11_off 18 = .ok (.iconst 1, 1) := by decide +kernel
theorem dX11_off_19 : decode cX11_off 19 = .ok (.goto 4, 3) := by decide +kernel
theorem dX11_off_22 : decode cX11_off 22 = .ok (.iconst 0, 1) := by decide +kernel
theorem dX11_off_23 : decode cX11_off 23 = .ok (.istore_n 3, 1) := by decide +kernel
theorem dX11_off_24 : decode cX11_off 24 = .ok (.aload_n 0, 1) := by decide +kernel
theorem dX11_off_25 : decode cX11_off 25 = .ok (.getfield 65, 3) := by decide +kernel
theorem dX11_off_28 : decode cX11_off 28 = .ok (.iload_n 1, 1) := by decide +kernel
theorem dX11_off_29 : decode cX11_off 29 = .ok (.iaload, 1) := by decide +kernel
theorem dX11_off_30 : decode cX11_off 30 = .ok (.iload_n 3, 1) := by decide +kernel
theorem dX11_off_31 : decode cX11_off 31 = .ok (.if_icmp .ne 5, 3) := by decide +kernel
theorem dX11_off_34 : decode cX11_off 34 = .ok (.iconst 0, 1) := by decide +kernel
theorem dX11_off_35 : decode cX11_off 35 = .ok (.ireturn, 1) := by decide +kernel
theorem dX11_off_36 : decode cX11_off 36 = .ok (.aload_n 0, 1) := by decide +kernel
theorem dX11_off_37 : decode cX11_off 37 = .ok (.getfield 65, 3) := by decide +kernel
theorem dX11_off_40 : decode cX11_off 40 = .ok (.iload_n 1, 1) := by decide +kernel
theorem dX11_off_41 : decode cX11_off 41 = .ok (.iload_n 3, 1) := by decide +kernel
theorem dX11_off_42 : decode cX11_off 42 = .ok (.iastore, 1) := by decide +kernel
theorem dX11_off_43 : decode cX11_off 43 = .ok (.iconst 1, 1) := by decide +kernel
theorem dX11_off_44 : decode cX11_off 44 = .ok (.ireturn, 1) := by decide +kernel
theorem dX11_size_0 : decode cX11_size 0 = .ok (.aload_n 0, 1) := by decide +kernel
theorem dX11_size_1 : decode cX11_size 1 = .ok (.iload_n 1, 1) := by decide +kernel
theorem dX11_size_2 : decode cX11_size 2 = .ok (.invokevirtual 191, 3) := by decide +kernel
theorem dX11_size_5 : decode cX11_size 5 = .ok (.ifCond .ne 9, 3) := by decide +kernel
theorem dX11_size_8 : decode cX11_size 8 = .ok (.aload_n 0, 1) := by decide +kernel
theorem dX11_size_9 : decode cX11_size 9 = .ok (.iconst (-1), 1) := by decide +kernel
theorem dX11_size_10 : decode cX11_size 10 = .ok (.invokevirtual 184, 3) := by decide +kernel
theorem dX11_size_13 : decode cX11_size 13 = .ok (.ireturn, 1) := by decide +kernel
theorem dX11_size_14 : decode cX11_size 14 = .ok (.iload_n 2, 1) := by decide +kernel
theorem dX11_size_15 : decode cX11_size 15 = .ok (.ifCond .lt 9, 3) := by decide +kernel
theorem dX11_size_18 : decode cX11_size 18 = .ok (.iload_n 2, 1) := by decide +kernel
theorem dX11_size_19 : decode cX11_size 19 = .ok (.bipush 9, 2) := by decide +kernel
theorem dX11_size_21 : decode cX11_size 21 = .ok (.if_icmp .le 10, 3) := by decide +kernel
theorem dX11_size_24 : decode cX11_size 24 = .ok (.aload_n 0, 1) := by decide +kernel
theorem dX11_size_25 : decode cX11_size 25 = .ok (.bipush (-6), 2) := by decide +kernel
theorem dX11_size_27 : decode cX11_size 27 = .ok (.invokevirtual 184, 3) := by decide +kernel
theorem dX11_size_30 : decode cX11_size 30 = .ok (.ireturn, 1) := by decide +kernel
theorem dX11_size_31 : decode cX11_size 31 = .ok (.aload_n 0, 1) := by decide +kernel
theorem dX11_size_32 : decode cX11_size 32 = .ok (.getfield 23, 3) := by decide +kernel
theorem dX11_size_35 : decode cX11_size 35 = .ok (.iload_n 1, 1) := by decide +kernel
theorem dX11_size_36 : decode cX11_size 36 = .ok (.iaload, 1) := by decide +kernel
theorem dX11_size_37 : decode cX11_size 37 = .ok (.istore_n 3, 1) := by decide +kernel
theorem dX11_size_38 : decode cX11_size 38 = .ok (.aload_n 0, 1) := by decide +kernel
theorem dX11_size_39 : decode cX11_size 39 = .ok (.getfield 23, 3) := by decide +kernel
theorem dX11_size_42 : decode cX11_size 42 = .ok (.iload_n 1, 1) := by decide +kernel
theorem dX11_size_43 : decode cX11_size 43 = .ok (.iload_n 2, 1) := by decide +kernel
theorem dX11_size_44 : decode cX11_size 44 = .ok (.iastore, 1) := by decide +kernel
theorem dX11_size_45 : decode cX11_size 45 = .ok (.iload_n 3, 1) := by decide +kernel
theorem dX11_size_46 : decode cX11_size 46 = .ok (.ireturn, 1) := by decide +kernel
theorem dX11_weather_0 : decode cX11_weather 0 = .ok (.iload_n 1, 1) := by decide +kernel
theorem dX11_weather_1 : decode cX11_weather 1 = .ok (.ifCond .lt 18, 3) := by decide +kernel
theorem dX11_weather_4 : decode cX11_weather 4 = .ok (.iload_n 1, 1) := by decide +kernel
theorem dX11_weather_5 : decode cX11_weather 5 = .ok (.bipush 9, 2) := by decide +kernel
theorem dX11_weather_7 : decode cX11_weather 7 = .ok (.if_icmp .gt 12, 3) := by decide +kernel
theorem dX11_weather_10 : decode cX11_weather 10 = .ok (.iload_n 2, 1) := by decide +kernel
theorem dX11_weather_11 : decode cX11_weather 11 = .ok (.ifCond .lt 8, 3) := by decide +kernel
theorem dX11_weather_14 : decode cX11_weather 14 = .ok (.iload_n 2, 1) := by decide +kernel
theorem dX11_weather_15 : decode cX11_weather 15 = .ok (.iconst 1, 1) := by decide +kernel
theorem dX11_weather_16 : decode cX11_weather 16 = .ok (.if_icmp .le 10, 3) := by decide +kernel
theorem dX11_weather_19 : decode cX11_weather 19 = .ok (.aload_n 0, 1) := by decide +kernel
theorem dX11_weather_20 : decode cX11_weather 20 = .ok (.bipush (-6), 2) := by decide +kernel
theorem dX11_weather_22 : decode cX11_weather 22 = .ok (.invokevirtual 184, 3) := by decide +kernel
theorem dX11_weather_25 : decode cX11_weather 25 = .ok (.ireturn, 1) := by decide +kernel
theorem dX11_weather_26 : decode cX11_weather 26 = .ok (.aload_n 0, 1) := by decide +kernel
theorem dX11_weather_27 : decode cX11_weather 27 = .ok (.getfield 26, 3) := by decide +kernel
theorem dX11_weather_30 : decode cX11_weather 30 = .ok (.iload_n 1, 1) := by decide +kernel
theorem dX11_weather_31 : decode cX11_weather 31 = .ok (.iaload, 1) := by decide +kernel
theorem dX11_weather_32 : decode cX11_weather 32 = .ok (.istore_n 3, 1) := by decide +kernel
theorem dX11_weather_33 : decode cX11_weather 33 = .ok (.aload_n 0, 1) := by decide +kernel
theorem dX11_weather_34 : decode cX11_weather 34 = .ok (.getfield 26, 3) := by decide +kernel
theorem dX11_weather_37 : decode cX11_weather 37 = .ok (.iload_n 1, 1) := by decide +kernel
theorem dX11_weather_38 : decode cX11_weather 38 = .ok (.iload_n 2, 1) := by decide +kernel
theorem dX11_weather_39 : decode cX11_weather 39 = .ok (.iastore, 1) := by decide +kernel
theorem dX11_weather_40 : decode cX11_weather 40 = .ok (.iload_n 3, 1) := by decide +kernel
theorem dX11_weather_41 : decode cX11_weather 41 = .ok (.ireturn, 1) := by decide +kernel
theorem dX11_pass_0 : decode cX11_pass 0 = .ok (.iload_n 1, 1) := by decide +kernel
theorem dX11_pass_1 : decode cX11_pass 1 = .ok (.iconst 1, 1) := by decide +kernel
theorem dX11_pass_2 : decode cX11_pass 2 = .ok (.if_icmp .lt 21, 3) := by decide +kernel
theorem dX11_pass_5 : decode cX11_pass 5 = .ok (.iload_n 1, 1) := by decide +kernel
theorem dX11_pass_6 : decode cX11_pass 6 = .ok (.bipush 100, 2) := by decide +kernel
theorem dX11_pass_8 : decode cX11_pass 8 = .ok (.if_icmp .gt 15, 3) := by decide +kernel
theorem dX11_pass_11 : decode cX11_pass 11 = .ok (.aload_n 0, 1) := by decide +kernel
theorem dX11_pass_12 : decode cX11_pass 12 = .ok (.getfield 200, 3) := by decide +kernel
theorem dX11_pass_15 : decode cX11_pass 15 = .ok (.iload_n 1, 1) := by decide +kernel
theorem dX11_pass_16 : decode cX11_pass 16 = .ok (.iadd, 1) := by decide +kernel
theorem dX11_pass_17 : decode cX11_pass 17 = .ok (.sipush 240, 3) := by decide +kernel
theorem dX11_pass_20 : decode cX11_pass 20 = .ok (.if_icmp .lt 10, 3) := by decide +kernel
theorem dX11_pass_23 : decode cX11_pass 23 = .ok (.aload_n 0, 1) := by decide +kernel
theorem dX11_pass_24 : decode cX11_pass 24 = .ok (.bipush (-6), 2) := by decide +kernel
theorem dX11_pass_26 : decode cX11_pass 26 = .ok (.invokevirtual 184, 3) := by decide +kernel
theorem dX11_pass_29 : decode cX11_pass 29 = .ok (.ireturn, 1) := by decide +kernel
theorem dX11_pass_30 : decode cX11_pass 30 = .ok (.aload_n 0, 1) := by decide +kernel
theorem dX11_pass_31 : decode cX11_pass 31 = .ok (.dup, 1) := by decide +kernel
theorem dX11_pass_32 : decode cX11_pass 32 = .ok (.getfield 200, 3) := by decide +kernel
theorem dX11_pass_35 : decode cX11_pass 35 = .ok (.iload_n 1, 1) := by decide +kernel
theorem dX11_pass_36 : decode cX11_pass 36 = .ok (.iadd, 1) := by decide +kernel
theorem dX11_pass_37 : decode cX11_pass 37 = .ok (.putfield 200, 3) := by decide +kernel
theorem dX11_pass_40 : decode cX11_pass 40 = .ok (.aload_n 0, 1) := by decide +kernel
theorem dX11_pass_41 : decode cX11_pass 41 = .ok (.getfield 200, 3) := by decide +kernel
theorem dX11_pass_44 : decode cX11_pass 44 = .ok (.ireturn, 1) := by decide +kernel
theorem dX11_letter_0 : decode cX11_letter 0 = .ok (.aload_n 0, 1) := by decide +kernel
theorem dX11_letter_1 : decode cX11_letter 1 = .ok (.getfield 203, 3) := by decide +kernel
theorem dX11_letter_4 : decode cX11_letter 4 = .ok (.aload_n 0, 1) := by decide +kernel
theorem dX11_letter_5 : decode cX11_letter 5 = .ok (.getfield 206, 3) := by decide +kernel
theorem dX11_letter_8 : decode cX11_letter 8 = .ok (.if_icmp .ge 21, 3) := by decide +kernel
theorem dX11_letter_11 : decode cX11_letter 11 = .ok (.aload_n 0, 1) := by decide +kernel
theorem dX11_letter_12 : decode cX11_letter 12 = .ok (.getfield 131, 3) := by decide +kernel
theorem dX11_letter_15 : decode cX11_letter 15 = .ok (.aload_n 0, 1) := by decide +kernel
theorem dX11_letter_16 : decode cX11_letter 16 = .ok (.getfield 209, 3) := by decide +kernel
theorem dX11_letter_19 : decode cX11_letter 19 = .ok (.aload_n 0, 1) := by decide +kernel
theorem dX11_letter_20 : decode cX11_letter 20 = .ok (.getfield 203, 3) := by decide +kernel
theorem dX11_letter_23 : decode cX11_letter 23 = .ok (.iadd, 1) := by decide +kernel
theorem dX11_letter_24 : decode cX11_letter 24 = .ok (.laload, 1) := by decide +kernel
theorem dX11_letter_25 : decode cX11_letter 25 = .ok (.l2i, 1) := by decide +kernel
theorem dX11_letter_26 : decode cX11_letter 26 = .ok (.goto 4, 3) := by decide +kernel
theorem dX11_letter_29 : decode cX11_letter 29 = .ok (.iconst (-1), 1) := by decide +kernel
theorem dX11_letter_30 : decode cX11_letter 30 = .ok (.ireturn, 1) := by decide +kernel
theorem dX11_wrong_0 : decode cX11_wrong 0 = .ok (.aload_n 0, 1) := by decide +kernel
theorem dX11_wrong_1 : decode cX11_wrong 1 = .ok (.iload_n 1, 1) := by decide +kernel
theorem dX11_wrong_2 : decode cX11_wrong 2 = .ok (.putfield 212, 3) := by decide +kernel
theorem dX11_wrong_5 : decode cX11_wrong 5 = .ok (.iconst 0, 1) := by decide +kernel
theorem dX11_wrong_6 : decode cX11_wrong 6 = .ok (.ireturn, 1) := by decide +kernel
theorem dX11_takes_0 : decode cX11_takes 0 = .ok (.aload_n 0, 1) := by decide +kernel
theorem dX11_takes_1 : decode cX11_takes 1 = .ok (.getfield 203, 3) := by decide +kernel
theorem dX11_takes_4 : decode cX11_takes 4 = .ok (.aload_n 0, 1) := by decide +kernel
theorem dX11_takes_5 : decode cX11_takes 5 = .ok (.getfield 206, 3) := by decide +kernel
theorem dX11_takes_8 : decode cX11_takes 8 = .ok (.if_icmp .ge 11, 3) := by decide +kernel
theorem dX11_takes_11 : decode cX11_takes 11 = .ok (.aload_n 0, 1) := by decide +kernel
theorem dX11_takes_12 : decode cX11_takes 12 = .ok (.invokevirtual 215, 3) := by decide +kernel
theorem dX11_takes_15 : decode cX11_takes 15 = .ok (.iload_n 1, 1) := by decide +kernel
theorem dX11_takes_16 : decode cX11_takes 16 = .ok (.if_icmp .eq 12, 3) := by decide +kernel
theorem dX11_takes_19 : decode cX11_takes 19 = .ok (.aload_n 0, 1) := by decide +kernel
theorem dX11_takes_20 : decode cX11_takes 20 = .ok (.aload_n 0, 1) := by decide +kernel
theorem dX11_takes_21 : decode cX11_takes 21 = .ok (.getfield 203, 3) := by decide +kernel
theorem dX11_takes_24 : decode cX11_takes 24 = .ok (.invokevirtual 219, 3) := by decide +kernel
theorem dX11_takes_27 : decode cX11_takes 27 = .ok (.ireturn, 1) := by decide +kernel
theorem dX11_takes_28 : decode cX11_takes 28 = .ok (.aload_n 0, 1) := by decide +kernel
theorem dX11_takes_29 : decode cX11_takes 29 = .ok (.dup, 1) := by decide +kernel
theorem dX11_takes_30 : decode cX11_takes 30 = .ok (.getfield 203, 3) := by decide +kernel
theorem dX11_takes_33 : decode cX11_takes 33 = .ok (.iconst 1, 1) := by decide +kernel
theorem dX11_takes_34 : decode cX11_takes 34 = .ok (.iadd, 1) := by decide +kernel
theorem dX11_takes_35 : decode cX11_takes 35 = .ok (.putfield 203, 3) := by decide +kernel
theorem dX11_takes_38 : decode cX11_takes 38 = .ok (.iconst 1, 1) := by decide +kernel
theorem dX11_takes_39 : decode cX11_takes 39 = .ok (.ireturn, 1) := by decide +kernel
theorem dX11_isDigit_0 : decode cX11_isDigit 0 = .ok (.aload_n 0, 1) := by decide +kernel
theorem dX11_isDigit_1 : decode cX11_isDigit 1 = .ok (.getfield 203, 3) := by decide +kernel
theorem dX11_isDigit_4 : decode cX11_isDigit 4 = .ok (.aload_n 0, 1) := by decide +kernel
theorem dX11_isDigit_5 : decode cX11_isDigit 5 = .ok (.getfield 206, 3) := by decide +kernel
theorem dX11_isDigit_8 : decode cX11_isDigit 8 = .ok (.if_icmp .ge 25, 3) := by decide +kernel
theorem dX11_isDigit_11 : decode cX11_isDigit 11 = .ok (.aload_n 0, 1) := by decide +kernel
theorem dX11_isDigit_12 : decode cX11_isDigit 12 = .ok (.invokevirtual 215, 3) := by decide +kernel
theorem dX11_isDigit_15 : decode cX11_isDigit 15 = .ok (.bipush 48, 2) := by decide +kernel
theorem dX11_isDigit_17 : decode cX11_isDigit 17 = .ok (.if_icmp .lt 16, 3) := by decide +kernel
theorem dX11_isDigit_20 : decode cX11_isDigit 20 = .ok (.aload_n 0, 1) := by decide +kernel
theorem dX11_isDigit_21 : decode cX11_isDigit 21 = .ok (.invokevirtual 215, 3) := by decide +kernel
theorem dX11_isDigit_24 : decode cX11_isDigit 24 = .ok (.bipush 57, 2) := by decide +kernel
theorem dX11_isDigit_26 : decode cX11_isDigit 26 = .ok (.if_icmp .gt 7, 3) := by decide +kernel
theorem dX11_isDigit_29 : decode cX11_isDigit 29 = .ok (.iconst 1, 1) := by decide +kernel
theorem dX11_isDigit_30 : decode cX11_isDigit 30 = .ok (.goto 4, 3) := by decide +kernel
theorem dX11_isDigit_33 : decode cX11_isDigit 33 = .ok (.iconst 0, 1) := by decide +kernel
theorem dX11_isDigit_34 : decode cX11_isDigit 34 = .ok (.ireturn, 1) := by decide +kernel
theorem dX11_number_0 : decode cX11_number 0 = .ok (.aload_n 0, 1) := by decide +kernel
theorem dX11_number_1 : decode cX11_number 1 = .ok (.aload_n 0, 1) := by decide +kernel
theorem dX11_number_2 : decode cX11_number 2 = .ok (.getfield 203, 3) := by decide +kernel
theorem dX11_number_5 : decode cX11_number 5 = .ok (.putfield 222, 3) := by decide +kernel
theorem dX11_number_8 : decode cX11_number 8 = .ok (.aload_n 0, 1) := by decide +kernel
theorem dX11_number_9 : decode cX11_number 9 = .ok (.iconst 0, 1) := by decide +kernel
theorem dX11_number_10 : decode cX11_number 10 = .ok (.putfield 225, 3) := by decide +kernel
theorem dX11_number_13 : decode cX11_number 13 = .ok (.aload_n 0, 1) := by decide +kernel
theorem dX11_number_14 : decode cX11_number 14 = .ok (.invokevirtual 228, 3) := by decide +kernel
theorem dX11_number_17 : decode cX11_number 17 = .ok (.ifCond .ne 12, 3) := by decide +kernel
theorem dX11_number_20 : decode cX11_number 20 = .ok (.aload_n 0, 1) := by decide +kernel
theorem dX11_number_21 : decode cX11_number 21 = .ok (.aload_n 0, 1) := by decide +kernel
theorem dX11_number_22 : decode cX11_number 22 = .ok (.getfield 203, 3) := by decide +kernel
theorem dX11_number_25 : decode cX11_number 25 = .ok (.invokevirtual 219, 3) := by decide +kernel
theorem dX11_number_28 : decode cX11_number 28 = .ok (.ireturn, 1) := by decide +kernel
theorem dX11_number_29 : decode cX11_number 29 = .ok (.iconst 0, 1) := by decide +kernel
theorem dX11_number_30 : decode cX11_number 30 = .ok (.istore_n 3, 1) := by decide +kernel
theorem dX11_number_31 : decode cX11_number 31 = .ok (.iload_n 3, 1) := by decide +kernel
theorem dX11_number_32 : decode cX11_number 32 = .ok (.iconst 3, 1) := by decide +kernel
theorem dX11_number_33 : decode cX11_number 33 = .ok (.if_icmp .ge 45, 3) := by decide +kernel
theorem dX11_number_36 : decode cX11_number 36 = .ok (.aload_n 0, 1) := by decide +kernel
theorem dX11_number_37 : decode cX11_number 37 = .ok (.invokevirtual 228, 3) := by decide +kernel
theorem dX11_number_40 : decode cX11_number 40 = .ok (.ifCond .eq 38, 3) := by decide +kernel
theorem dX11_number_43 : decode cX11_number 43 = .ok (.aload_n 0, 1) := by decide +kernel
theorem dX11_number_44 : decode cX11_number 44 = .ok (.bipush 10, 2) := by decide +kernel
theorem dX11_number_46 : decode cX11_number 46 = .ok (.aload_n 0, 1) := by decide +kernel
theorem dX11_number_47 : decode cX11_number 47 = .ok (.getfield 225, 3) := by decide +kernel
theorem dX11_number_50 : decode cX11_number 50 = .ok (.imul, 1) := by decide +kernel
theorem dX11_number_51 : decode cX11_number 51 = .ok (.aload_n 0, 1) := by decide +kernel
theorem dX11_number_52 : decode cX11_number 52 = .ok (.invokevirtual 215, 3) := by decide +kernel
theorem dX11_number_55 : decode cX11_number 55 = .ok (.iadd, 1) := by decide +kernel
theorem dX11_number_56 : decode cX11_number 56 = .ok (.bipush 48, 2) := by decide +kernel
theorem dX11_number_58 : decode cX11_number 58 = .ok (.isub, 1) := by decide +kernel
theorem dX11_number_59 : decode cX11_number 59 = .ok (.putfield 225, 3) := by decide +kernel
theorem dX11_number_62 : decode cX11_number 62 = .ok (.aload_n 0, 1) := by decide +kernel
theorem dX11_number_63 : decode cX11_number 63 = .ok (.dup, 1) := by decide +kernel
theorem dX11_number_64 : decode cX11_number 64 = .ok (.getfield 203, 3) := by decide +kernel
theorem dX11_number_67 : decode cX11_number 67 = .ok (.iconst 1, 1) := by decide +kernel
theorem dX11_number_68 : decode cX11_number 68 = .ok (.iadd, 1) := by decide +kernel
theorem dX11_number_69 : decode cX11_number 69 = .ok (.putfield 203, 3) := by decide +kernel
theorem dX11_number_72 : decode cX11_number 72 = .ok (.iinc 3 1, 3) := by decide +kernel
theorem dX11_number_75 : decode cX11_number 75 = .ok (.goto (-44), 3) := by decide +kernel
theorem dX11_number_78 : decode cX11_number 78 = .ok (.aload_n 0, 1) := by decide +kernel
theorem dX11_number_79 : decode cX11_number 79 = .ok (.getfield 225, 3) := by decide +kernel
theorem dX11_number_82 : decode cX11_number 82 = .ok (.iload_n 1, 1) := by decide +kernel
theorem dX11_number_83 : decode cX11_number 83 = .ok (.if_icmp .lt 11, 3) := by decide +kernel
theorem dX11_number_86 : decode cX11_number 86 = .ok (.aload_n 0, 1) := by decide +kernel
theorem dX11_number_87 : decode cX11_number 87 = .ok (.getfield 225, 3) := by decide +kernel
theorem dX11_number_90 : decode cX11_number 90 = .ok (.iload_n 2, 1) := by decide +kernel
theorem dX11_number_91 : decode cX11_number 91 = .ok (.if_icmp .le 14, 3) := by decide +kernel
theorem dX11_number_94 : decode cX11_number 94 = .ok (.aload_n 0, 1) := by decide +kernel
theorem dX11_number_95 : decode cX11_number 95 = .ok (.aload_n 0, 1) := by decide +kernel
theorem dX11_number_96 : decode cX11_number 96 = .ok (.getfield 222, 3) := by decide +kernel
theorem dX11_number_99 : decode cX11_number 99 = .ok (.invokevirtual 219, 3) := by decide +kernel
theorem dX11_number_102 : decode cX11_number 102 = .ok (.ifCond .eq 7, 3) := by decide +kernel
theorem dX11_number_105 : decode cX11_number 105 = .ok (.iconst 1, 1) := by decide +kernel
theorem dX11_number_106 : decode cX11_number 106 = .ok (.goto 4, 3) := by decide +kernel
theorem dX11_number_109 : decode cX11_number 109 = .ok (.iconst 0, 1) := by decide +kernel
theorem dX11_number_110 : decode cX11_number 110 = .ok (.ireturn, 1) := by decide +kernel
theorem dX11_oneLaw_0 : decode cX11_oneLaw 0 = .ok (.aload_n 0, 1) := by decide +kernel
theorem dX11_oneLaw_1 : decode cX11_oneLaw 1 = .ok (.getfield 203, 3) := by decide +kernel
theorem dX11_oneLaw_4 : decode cX11_oneLaw 4 = .ok (.aload_n 0, 1) := by decide +kernel
theorem dX11_oneLaw_5 : decode cX11_oneLaw 5 = .ok (.getfield 206, 3) := by decide +kernel
theorem dX11_oneLaw_8 : decode cX11_oneLaw 8 = .ok (.if_icmp .ge 10, 3) := by decide +kernel
theorem dX11_oneLaw_11 : decode cX11_oneLaw 11 = .ok (.aload_n 0, 1) := by decide +kernel
theorem dX11_oneLaw_12 : decode cX11_oneLaw 12 = .ok (.invokevirtual 215, 3) := by decide +kernel
theorem dX11_oneLaw_15 : decode cX11_oneLaw 15 = .ok (.goto 4, 3) := by decide +kernel
theorem dX11_oneLaw_18 : decode cX11_oneLaw 18 = .ok (.iconst (-1), 1) := by decide +kernel
theorem dX11_oneLaw_19 : decode cX11_oneLaw 19 = .ok (.istore_n 1, 1) := by decide +kernel
theorem dX11_oneLaw_20 : decode cX11_oneLaw 20 = .ok (.aload_n 0, 1) := by decide +kernel
theorem dX11_oneLaw_21 : decode cX11_oneLaw 21 = .ok (.getfield 203, 3) := by decide +kernel
theorem dX11_oneLaw_24 : decode cX11_oneLaw 24 = .ok (.aload_n 0, 1) := by decide +kernel
theorem dX11_oneLaw_25 : decode cX11_oneLaw 25 = .ok (.getfield 206, 3) := by decide +kernel
theorem dX11_oneLaw_28 : decode cX11_oneLaw 28 = .ok (.if_icmp .lt 12, 3) := by decide +kernel
theorem dX11_oneLaw_31 : decode cX11_oneLaw 31 = .ok (.aload_n 0, 1) := by decide +kernel
theorem dX11_oneLaw_32 : decode cX11_oneLaw 32 = .ok (.aload_n 0, 1) := by decide +kernel
theorem dX11_oneLaw_33 : decode cX11_oneLaw 33 = .ok (.getfield 203, 3) := by decide +kernel
theorem dX11_oneLaw_36 : decode cX11_oneLaw 36 = .ok (.invokevirtual 219, 3) := by decide +kernel
theorem dX11_oneLaw_39 : decode cX11_oneLaw 39 = .ok (.ireturn, 1) := by decide +kernel
theorem dX11_oneLaw_40 : decode cX11_oneLaw 40 = .ok (.aload_n 0, 1) := by decide +kernel
theorem dX11_oneLaw_41 : decode cX11_oneLaw 41 = .ok (.dup, 1) := by decide +kernel
theorem dX11_oneLaw_42 : decode cX11_oneLaw 42 = .ok (.getfield 203, 3) := by decide +kernel
theorem dX11_oneLaw_45 : decode cX11_oneLaw 45 = .ok (.iconst 1, 1) := by decide +kernel
theorem dX11_oneLaw_46 : decode cX11_oneLaw 46 = .ok (.iadd, 1) := by decide +kernel
theorem dX11_oneLaw_47 : decode cX11_oneLaw 47 = .ok (.putfield 203, 3) := by decide +kernel
theorem dX11_oneLaw_50 : decode cX11_oneLaw 50 = .ok (.iload_n 1, 1) := by decide +kernel
theorem dX11_oneLaw_51 : decode cX11_oneLaw 51 = .ok (.tableswitch 336 103 119 #[119, 336, 336, 336, 336, 81, 336, 336, 336, 289, 336, 157, 251, 336, 336, 336, 204], 81) := by decide +kernel
theorem dX11_oneLaw_132 : decode cX11_oneLaw 132 = .ok (.iconst 0, 1) := by decide +kernel
theorem dX11_oneLaw_133 : decode cX11_oneLaw 133 = .ok (.istore_n 2, 1) := by decide +kernel
theorem dX11_oneLaw_134 : decode cX11_oneLaw 134 = .ok (.aload_n 0, 1) := by decide +kernel
theorem dX11_oneLaw_135 : decode cX11_oneLaw 135 = .ok (.bipush 111, 2) := by decide +kernel
theorem dX11_oneLaw_137 : decode cX11_oneLaw 137 = .ok (.invokevirtual 232, 3) := by decide +kernel
theorem dX11_oneLaw_140 : decode cX11_oneLaw 140 = .ok (.ifCond .eq 25, 3) := by decide +kernel
theorem dX11_oneLaw_143 : decode cX11_oneLaw 143 = .ok (.aload_n 0, 1) := by decide +kernel
theorem dX11_oneLaw_144 : decode cX11_oneLaw 144 = .ok (.bipush 115, 2) := by decide +kernel
theorem dX11_oneLaw_146 : decode cX11_oneLaw 146 = .ok (.invokevirtual 232, 3) := by decide +kernel
theorem dX11_oneLaw_149 : decode cX11_oneLaw 149 = .ok (.ifCond .eq 16, 3) := by decide +kernel
theorem dX11_oneLaw_152 : decode cX11_oneLaw 152 = .ok (.aload_n 0, 1) := by decide +kernel
theorem dX11_oneLaw_153 : decode cX11_oneLaw 153 = .ok (.bipush 115, 2) := by decide +kernel
theorem dX11_oneLaw_155 : decode cX11_oneLaw 155 = .ok (.invokevirtual 232, 3) := by decide +kernel
theorem dX11_oneLaw_158 : decode cX11_oneLaw 158 = .ok (.ifCond .eq 7, 3) := by decide +kernel
theorem dX11_oneLaw_161 : decode cX11_oneLaw 161 = .ok (.iconst 1, 1) := by decide +kernel
theorem dX11_oneLaw_162 : decode cX11_oneLaw 162 = .ok (.goto 4, 3) := by decide +kernel
theorem dX11_oneLaw_165 : decode cX11_oneLaw 165 = .ok (.iconst 0, 1) := by decide +kernel
theorem dX11_oneLaw_166 : decode cX11_oneLaw 166 = .ok (.istore_n 3, 1) := by decide +kernel
theorem dX11_oneLaw_167 : decode cX11_oneLaw 167 = .ok (.goto 231, 3) := by decide +kernel
theorem dX11_oneLaw_170 : decode cX11_oneLaw 170 = .ok (.iconst 1, 1) := by decide +kernel
theorem dX11_oneLaw_171 : decode cX11_oneLaw 171 = .ok (.istore_n 2, 1) := by decide +kernel
theorem dX11_oneLaw_172 : decode cX11_oneLaw 172 = .ok (.aload_n 0, 1) := by decide +kernel
theorem dX11_oneLaw_173 : decode cX11_oneLaw 173 = .ok (.bipush 97, 2) := by decide +kernel
theorem dX11_oneLaw_175 : decode cX11_oneLaw 175 = .ok (.invokevirtual 232, 3) := by decide +kernel
theorem dX11_oneLaw_178 : decode cX11_oneLaw 178 = .ok (.ifCond .eq 25, 3) := by decide +kernel
theorem dX11_oneLaw_181 : decode cX11_oneLaw 181 = .ok (.aload_n 0, 1) := by decide +kernel
theorem dX11_oneLaw_182 : decode cX11_oneLaw 182 = .ok (.bipush 105, 2) := by decide +kernel
theorem dX11_oneLaw_184 : decode cX11_oneLaw 184 = .ok (.invokevirtual 232, 3) := by decide +kernel
theorem dX11_oneLaw_187 : decode cX11_oneLaw 187 = .ok (.ifCond .eq 16, 3) := by decide +kernel
theorem dX11_oneLaw_190 : decode cX11_oneLaw 190 = .ok (.aload_n 0, 1) := by decide +kernel
theorem dX11_oneLaw_191 : decode cX11_oneLaw 191 = .ok (.bipush 110, 2) := by decide +kernel
theorem dX11_oneLaw_193 : decode cX11_oneLaw 193 = .ok (.invokevirtual 232, 3) := by decide +kernel
theorem dX11_oneLaw_196 : decode cX11_oneLaw 196 = .ok (.ifCond .eq 7, 3) := by decide +kernel
theorem dX11_oneLaw_199 : decode cX11_oneLaw 199 = .ok (.iconst 1, 1) := by decide +kernel
theorem dX11_oneLaw_200 : decode cX11_oneLaw 200 = .ok (.goto 4, 3) := by decide +kernel
theorem dX11_oneLaw_203 : decode cX11_oneLaw 203 = .ok (.iconst 0, 1) := by decide +kernel
theorem dX11_oneLaw_204 : decode cX11_oneLaw 204 = .ok (.istore_n 3, 1) := by decide +kernel
theorem dX11_oneLaw_205 : decode cX11_oneLaw 205 = .ok (.goto 193, 3) := by decide +kernel
theorem dX11_oneLaw_208 : decode cX11_oneLaw 208 = .ok (.iconst 2, 1) := by decide +kernel
theorem dX11_oneLaw_209 : decode cX11_oneLaw 209 = .ok (.istore_n 2, 1) := by decide +kernel
theorem dX11_oneLaw_210 : decode cX11_oneLaw 210 = .ok (.aload_n 0, 1) := by decide +kernel
theorem dX11_oneLaw_211 : decode cX11_oneLaw 211 = .ok (.bipush 105, 2) := by decide +kernel
theorem dX11_oneLaw_213 : decode cX11_oneLaw 213 = .ok (.invokevirtual 232, 3) := by decide +kernel
theorem dX11_oneLaw_216 : decode cX11_oneLaw 216 = .ok (.ifCond .eq 34, 3) := by decide +kernel
theorem dX11_oneLaw_219 : decode cX11_oneLaw 219 = .ok (.aload_n 0, 1) := by decide +kernel
theorem dX11_oneLaw_220 : decode cX11_oneLaw 220 = .ok (.bipush 103, 2) := by decide +kernel
theorem dX11_oneLaw_222 : decode cX11_oneLaw 222 = .ok (.invokevirtual 232, 3) := by decide +kernel
theorem dX11_oneLaw_225 : decode cX11_oneLaw 225 = .ok (.ifCond .eq 25, 3) := by decide +kernel
theorem dX11_oneLaw_228 : decode cX11_oneLaw 228 = .ok (.aload_n 0, 1) := by decide +kernel
theorem dX11_oneLaw_229 : decode cX11_oneLaw 229 = .ok (.bipush 104, 2) := by decide +kernel
theorem dX11_oneLaw_231 : decode cX11_oneLaw 231 = .ok (.invokevirtual 232, 3) := by decide +kernel
theorem dX11_oneLaw_234 : decode cX11_oneLaw 234 = .ok (.ifCond .eq 16, 3) := by decide +kernel
theorem dX11_oneLaw_237 : decode cX11_oneLaw 237 = .ok (.aload_n 0, 1) := by decide +kernel
theorem dX11_oneLaw_238 : decode cX11_oneLaw 238 = .ok (.bipush 116, 2) := by decide +kernel
theorem dX11_oneLaw_240 : decode cX11_oneLaw 240 = .ok (.invokevirtual 232, 3) := by decide +kernel
theorem dX11_oneLaw_243 : decode cX11_oneLaw 243 = .ok (.ifCond .eq 7, 3) := by decide +kernel
theorem dX11_oneLaw_246 : decode cX11_oneLaw 246 = .ok (.iconst 1, 1) := by decide +kernel
theorem dX11_oneLaw_247 : decode cX11_oneLaw 247 = .ok (.goto 4, 3) := by decide +kernel
theorem dX11_oneLaw_250 : decode cX11_oneLaw 250 = .ok (.iconst 0, 1) := by decide +kernel
theorem dX11_oneLaw_251 : decode cX11_oneLaw 251 = .ok (.istore_n 3, 1) := by decide +kernel
theorem dX11_oneLaw_252 : decode cX11_oneLaw 252 = .ok (.goto 146, 3) := by decide +kernel
theorem dX11_oneLaw_255 : decode cX11_oneLaw 255 = .ok (.iconst 3, 1) := by decide +kernel
theorem dX11_oneLaw_256 : decode cX11_oneLaw 256 = .ok (.istore_n 2, 1) := by decide +kernel
theorem dX11_oneLaw_257 : decode cX11_oneLaw 257 = .ok (.aload_n 0, 1) := by decide +kernel
theorem dX11_oneLaw_258 : decode cX11_oneLaw 258 = .ok (.bipush 114, 2) := by decide +kernel
theorem dX11_oneLaw_260 : decode cX11_oneLaw 260 = .ok (.invokevirtual 232, 3) := by decide +kernel
theorem dX11_oneLaw_263 : decode cX11_oneLaw 263 = .ok (.ifCond .eq 34, 3) := by decide +kernel
theorem dX11_oneLaw_266 : decode cX11_oneLaw 266 = .ok (.aload_n 0, 1) := by decide +kernel
theorem dX11_oneLaw_267 : decode cX11_oneLaw 267 = .ok (.bipush 111, 2) := by decide +kernel
theorem dX11_oneLaw_269 : decode cX11_oneLaw 269 = .ok (.invokevirtual 232, 3) := by decide +kernel
theorem dX11_oneLaw_272 : decode cX11_oneLaw 272 = .ok (.ifCond .eq 25, 3) := by decide +kernel
theorem dX11_oneLaw_275 : decode cX11_oneLaw 275 = .ok (.aload_n 0, 1) := by decide +kernel
theorem dX11_oneLaw_276 : decode cX11_oneLaw 276 = .ok (.bipush 110, 2) := by decide +kernel
theorem dX11_oneLaw_278 : decode cX11_oneLaw 278 = .ok (.invokevirtual 232, 3) := by decide +kernel
theorem dX11_oneLaw_281 : decode cX11_oneLaw 281 = .ok (.ifCond .eq 16, 3) := by decide +kernel
theorem dX11_oneLaw_284 : decode cX11_oneLaw 284 = .ok (.aload_n 0, 1) := by decide +kernel
theorem dX11_oneLaw_285 : decode cX11_oneLaw 285 = .ok (.bipush 103, 2) := by decide +kernel
theorem dX11_oneLaw_287 : decode cX11_oneLaw 287 = .ok (.invokevirtual 232, 3) := by decide +kernel
theorem dX11_oneLaw_290 : decode cX11_oneLaw 290 = .ok (.ifCond .eq 7, 3) := by decide +kernel
theorem dX11_oneLaw_293 : decode cX11_oneLaw 293 = .ok (.iconst 1, 1) := by decide +kernel
theorem dX11_oneLaw_294 : decode cX11_oneLaw 294 = .ok (.goto 4, 3) := by decide +kernel
theorem dX11_oneLaw_297 : decode cX11_oneLaw 297 = .ok (.iconst 0, 1) := by decide +kernel
theorem dX11_oneLaw_298 : decode cX11_oneLaw 298 = .ok (.istore_n 3, 1) := by decide +kernel
theorem dX11_oneLaw_299 : decode cX11_oneLaw 299 = .ok (.goto 99, 3) := by decide +kernel
theorem dX11_oneLaw_302 : decode cX11_oneLaw 302 = .ok (.iconst 4, 1) := by decide +kernel
theorem dX11_oneLaw_303 : decode cX11_oneLaw 303 = .ok (.istore_n 2, 1) := by decide +kernel
theorem dX11_oneLaw_304 : decode cX11_oneLaw 304 = .ok (.aload_n 0, 1) := by decide +kernel
theorem dX11_oneLaw_305 : decode cX11_oneLaw 305 = .ok (.bipush 112, 2) := by decide +kernel
theorem dX11_oneLaw_307 : decode cX11_oneLaw 307 = .ok (.invokevirtual 232, 3) := by decide +kernel
theorem dX11_oneLaw_310 : decode cX11_oneLaw 310 = .ok (.ifCond .eq 25, 3) := by decide +kernel
theorem dX11_oneLaw_313 : decode cX11_oneLaw 313 = .ok (.aload_n 0, 1) := by decide +kernel
theorem dX11_oneLaw_314 : decode cX11_oneLaw 314 = .ok (.bipush 97, 2) := by decide +kernel
theorem dX11_oneLaw_316 : decode cX11_oneLaw 316 = .ok (.invokevirtual 232, 3) := by decide +kernel
theorem dX11_oneLaw_319 : decode cX11_oneLaw 319 = .ok (.ifCond .eq 16, 3) := by decide +kernel
theorem dX11_oneLaw_322 : decode cX11_oneLaw 322 = .ok (.aload_n 0, 1) := by decide +kernel
theorem dX11_oneLaw_323 : decode cX11_oneLaw 323 = .ok (.bipush 110, 2) := by decide +kernel
theorem dX11_oneLaw_325 : decode cX11_oneLaw 325 = .ok (.invokevirtual 232, 3) := by decide +kernel
theorem dX11_oneLaw_328 : decode cX11_oneLaw 328 = .ok (.ifCond .eq 7, 3) := by decide +kernel
theorem dX11_oneLaw_331 : decode cX11_oneLaw 331 = .ok (.iconst 1, 1) := by decide +kernel
theorem dX11_oneLaw_332 : decode cX11_oneLaw 332 = .ok (.goto 4, 3) := by decide +kernel
theorem dX11_oneLaw_335 : decode cX11_oneLaw 335 = .ok (.iconst 0, 1) := by decide +kernel
theorem dX11_oneLaw_336 : decode cX11_oneLaw 336 = .ok (.istore_n 3, 1) := by decide +kernel
theorem dX11_oneLaw_337 : decode cX11_oneLaw 337 = .ok (.goto 61, 3) := by decide +kernel
theorem dX11_oneLaw_340 : decode cX11_oneLaw 340 = .ok (.iconst 5, 1) := by decide +kernel
theorem dX11_oneLaw_341 : decode cX11_oneLaw 341 = .ok (.istore_n 2, 1) := by decide +kernel
theorem dX11_oneLaw_342 : decode cX11_oneLaw 342 = .ok (.aload_n 0, 1) := by decide +kernel
theorem dX11_oneLaw_343 : decode cX11_oneLaw 343 = .ok (.bipush 97, 2) := by decide +kernel
theorem dX11_oneLaw_345 : decode cX11_oneLaw 345 = .ok (.invokevirtual 232, 3) := by decide +kernel
theorem dX11_oneLaw_348 : decode cX11_oneLaw 348 = .ok (.ifCond .eq 34, 3) := by decide +kernel
theorem dX11_oneLaw_351 : decode cX11_oneLaw 351 = .ok (.aload_n 0, 1) := by decide +kernel
theorem dX11_oneLaw_352 : decode cX11_oneLaw 352 = .ok (.bipush 112, 2) := by decide +kernel
theorem dX11_oneLaw_354 : decode cX11_oneLaw 354 = .ok (.invokevirtual 232, 3) := by decide +kernel
theorem dX11_oneLaw_357 : decode cX11_oneLaw 357 = .ok (.ifCond .eq 25, 3) := by decide +kernel
theorem dX11_oneLaw_360 : decode cX11_oneLaw 360 = .ok (.aload_n 0, 1) := by decide +kernel
theorem dX11_oneLaw_361 : decode cX11_oneLaw 361 = .ok (.bipush 101, 2) := by decide +kernel
theorem dX11_oneLaw_363 : decode cX11_oneLaw 363 = .ok (.invokevirtual 232, 3) := by decide +kernel
theorem dX11_oneLaw_366 : decode cX11_oneLaw 366 = .ok (.ifCond .eq 16, 3) := by decide +kernel
theorem dX11_oneLaw_369 : decode cX11_oneLaw 369 = .ok (.aload_n 0, 1) := by decide +kernel
theorem dX11_oneLaw_370 : decode cX11_oneLaw 370 = .ok (.bipush 114, 2) := by decide +kernel
theorem dX11_oneLaw_372 : decode cX11_oneLaw 372 = .ok (.invokevirtual 232, 3) := by decide +kernel
theorem dX11_oneLaw_375 : decode cX11_oneLaw 375 = .ok (.ifCond .eq 7, 3) := by decide +kernel
theorem dX11_oneLaw_378 : decode cX11_oneLaw 378 = .ok (.iconst 1, 1) := by decide +kernel
theorem dX11_oneLaw_379 : decode cX11_oneLaw 379 = .ok (.goto 4, 3) := by decide +kernel
theorem dX11_oneLaw_382 : decode cX11_oneLaw 382 = .ok (.iconst 0, 1) := by decide +kernel
theorem dX11_oneLaw_383 : decode cX11_oneLaw 383 = .ok (.istore_n 3, 1) := by decide +kernel
theorem dX11_oneLaw_384 : decode cX11_oneLaw 384 = .ok (.goto 14, 3) := by decide +kernel
theorem dX11_oneLaw_387 : decode cX11_oneLaw 387 = .ok (.aload_n 0, 1) := by decide +kernel
theorem dX11_oneLaw_388 : decode cX11_oneLaw 388 = .ok (.aload_n 0, 1) := by decide +kernel
theorem dX11_oneLaw_389 : decode cX11_oneLaw 389 = .ok (.getfield 203, 3) := by decide +kernel
theorem dX11_oneLaw_392 : decode cX11_oneLaw 392 = .ok (.iconst 1, 1) := by decide +kernel
theorem dX11_oneLaw_393 : decode cX11_oneLaw 393 = .ok (.isub, 1) := by decide +kernel
theorem dX11_oneLaw_394 : decode cX11_oneLaw 394 = .ok (.invokevirtual 219, 3) := by decide +kernel
theorem dX11_oneLaw_397 : decode cX11_oneLaw 397 = .ok (.ireturn, 1) := by decide +kernel
theorem dX11_oneLaw_398 : decode cX11_oneLaw 398 = .ok (.iload_n 2, 1) := by decide +kernel
theorem dX11_oneLaw_399 : decode cX11_oneLaw 399 = .ok (.iconst 2, 1) := by decide +kernel
theorem dX11_oneLaw_400 : decode cX11_oneLaw 400 = .ok (.if_icmp .eq 8, 3) := by decide +kernel
theorem dX11_oneLaw_403 : decode cX11_oneLaw 403 = .ok (.iload_n 2, 1) := by decide +kernel
theorem dX11_oneLaw_404 : decode cX11_oneLaw 404 = .ok (.iconst 3, 1) := by decide +kernel
theorem dX11_oneLaw_405 : decode cX11_oneLaw 405 = .ok (.if_icmp .ne 7, 3) := by decide +kernel
theorem dX11_oneLaw_408 : decode cX11_oneLaw 408 = .ok (.iconst 1, 1) := by decide +kernel
theorem dX11_oneLaw_409 : decode cX11_oneLaw 409 = .ok (.goto 4, 3) := by decide +kernel
theorem dX11_oneLaw_412 : decode cX11_oneLaw 412 = .ok (.iconst 0, 1) := by decide +kernel
theorem dX11_oneLaw_413 : decode cX11_oneLaw 413 = .ok (.istore 4, 2) := by decide +kernel
theorem dX11_oneLaw_415 : decode cX11_oneLaw 415 = .ok (.iload_n 3, 1) := by decide +kernel
theorem dX11_oneLaw_416 : decode cX11_oneLaw 416 = .ok (.ifCond .eq 52, 3) := by decide +kernel
theorem dX11_oneLaw_419 : decode cX11_oneLaw 419 = .ok (.aload_n 0, 1) := by decide +kernel
theorem dX11_oneLaw_420 : decode cX11_oneLaw 420 = .ok (.bipush 32, 2) := by decide +kernel
theorem dX11_oneLaw_422 : decode cX11_oneLaw 422 = .ok (.invokevirtual 232, 3) := by decide +kernel
theorem dX11_oneLaw_425 : decode cX11_oneLaw 425 = .ok (.ifCond .eq 43, 3) := by decide +kernel
theorem dX11_oneLaw_428 : decode cX11_oneLaw 428 = .ok (.aload_n 0, 1) := by decide +kernel
theorem dX11_oneLaw_429 : decode cX11_oneLaw 429 = .ok (.iload 4, 2) := by decide +kernel
theorem dX11_oneLaw_431 : decode cX11_oneLaw 431 = .ok (.ifCond .eq 7, 3) := by decide +kernel
theorem dX11_oneLaw_434 : decode cX11_oneLaw 434 = .ok (.iconst 1, 1) := by decide +kernel
theorem dX11_oneLaw_435 : decode cX11_oneLaw 435 = .ok (.goto 4, 3) := by decide +kernel
theorem dX11_oneLaw_438 : decode cX11_oneLaw 438 = .ok (.iconst 0, 1) := by decide +kernel
theorem dX11_oneLaw_439 : decode cX11_oneLaw 439 = .ok (.iload 4, 2) := by decide +kernel
theorem dX11_oneLaw_441 : decode cX11_oneLaw 441 = .ok (.ifCond .eq 8, 3) := by decide +kernel
theorem dX11_oneLaw_444 : decode cX11_oneLaw 444 = .ok (.bipush 9, 2) := by decide +kernel
theorem dX11_oneLaw_446 : decode cX11_oneLaw 446 = .ok (.goto 16, 3) := by decide +kernel
theorem dX11_oneLaw_449 : decode cX11_oneLaw 449 = .ok (.iload_n 2, 1) := by decide +kernel
theorem dX11_oneLaw_450 : decode cX11_oneLaw 450 = .ok (.iconst 5, 1) := by decide +kernel
theorem dX11_oneLaw_451 : decode cX11_oneLaw 451 = .ok (.if_icmp .ne 9, 3) := by decide +kernel
theorem dX11_oneLaw_454 : decode cX11_oneLaw 454 = .ok (.sipush 239, 3) := by decide +kernel
theorem dX11_oneLaw_457 : decode cX11_oneLaw 457 = .ok (.goto 5, 3) := by decide +kernel
theorem dX11_oneLaw_460 : decode cX11_oneLaw 460 = .ok (.bipush 99, 2) := by decide +kernel
theorem dX11_oneLaw_462 : decode cX11_oneLaw 462 = .ok (.invokevirtual 235, 3) := by decide +kernel
theorem dX11_oneLaw_465 : decode cX11_oneLaw 465 = .ok (.ifCond .ne 5, 3) := by decide +kernel
theorem dX11_oneLaw_468 : decode cX11_oneLaw 468 = .ok (.iconst 0, 1) := by decide +kernel
theorem dX11_oneLaw_469 : decode cX11_oneLaw 469 = .ok (.ireturn, 1) := by decide +kernel
theorem dX11_oneLaw_470 : decode cX11_oneLaw 470 = .ok (.aload_n 0, 1) := by decide +kernel
theorem dX11_oneLaw_471 : decode cX11_oneLaw 471 = .ok (.getfield 138, 3) := by decide +kernel
theorem dX11_oneLaw_474 : decode cX11_oneLaw 474 = .ok (.aload_n 0, 1) := by decide +kernel
theorem dX11_oneLaw_475 : decode cX11_oneLaw 475 = .ok (.getfield 238, 3) := by decide +kernel
theorem dX11_oneLaw_478 : decode cX11_oneLaw 478 = .ok (.iload_n 2, 1) := by decide +kernel
theorem dX11_oneLaw_479 : decode cX11_oneLaw 479 = .ok (.iastore, 1) := by decide +kernel
theorem dX11_oneLaw_480 : decode cX11_oneLaw 480 = .ok (.aload_n 0, 1) := by decide +kernel
theorem dX11_oneLaw_481 : decode cX11_oneLaw 481 = .ok (.getfield 141, 3) := by decide +kernel
theorem dX11_oneLaw_484 : decode cX11_oneLaw 484 = .ok (.aload_n 0, 1) := by decide +kernel
theorem dX11_oneLaw_485 : decode cX11_oneLaw 485 = .ok (.getfield 238, 3) := by decide +kernel
theorem dX11_oneLaw_488 : decode cX11_oneLaw 488 = .ok (.aload_n 0, 1) := by decide +kernel
theorem dX11_oneLaw_489 : decode cX11_oneLaw 489 = .ok (.getfield 225, 3) := by decide +kernel
theorem dX11_oneLaw_492 : decode cX11_oneLaw 492 = .ok (.iastore, 1) := by decide +kernel
theorem dX11_oneLaw_493 : decode cX11_oneLaw 493 = .ok (.aload_n 0, 1) := by decide +kernel
theorem dX11_oneLaw_494 : decode cX11_oneLaw 494 = .ok (.dup, 1) := by decide +kernel
theorem dX11_oneLaw_495 : decode cX11_oneLaw 495 = .ok (.getfield 238, 3) := by decide +kernel
theorem dX11_oneLaw_498 : decode cX11_oneLaw 498 = .ok (.iconst 1, 1) := by decide +kernel
theorem dX11_oneLaw_499 : decode cX11_oneLaw 499 = .ok (.iadd, 1) := by decide +kernel
theorem dX11_oneLaw_500 : decode cX11_oneLaw 500 = .ok (.putfield 238, 3) := by decide +kernel
theorem dX11_oneLaw_503 : decode cX11_oneLaw 503 = .ok (.iconst 1, 1) := by decide +kernel
theorem dX11_oneLaw_504 : decode cX11_oneLaw 504 = .ok (.ireturn, 1) := by decide +kernel
theorem dX11_item_0 : decode cX11_item 0 = .ok (.aload_n 0, 1) := by decide +kernel
theorem dX11_item_1 : decode cX11_item 1 = .ok (.bipush 111, 2) := by decide +kernel
theorem dX11_item_3 : decode cX11_item 3 = .ok (.invokevirtual 232, 3) := by decide +kernel
theorem dX11_item_6 : decode cX11_item 6 = .ok (.ifCond .ne 5, 3) := by decide +kernel
theorem dX11_item_9 : decode cX11_item 9 = .ok (.iconst 0, 1) := by decide +kernel
theorem dX11_item_10 : decode cX11_item 10 = .ok (.ireturn, 1) := by decide +kernel
theorem dX11_item_11 : decode cX11_item 11 = .ok (.aload_n 0, 1) := by decide +kernel
theorem dX11_item_12 : decode cX11_item 12 = .ok (.getfield 203, 3) := by decide +kernel
theorem dX11_item_15 : decode cX11_item 15 = .ok (.aload_n 0, 1) := by decide +kernel
theorem dX11_item_16 : decode cX11_item 16 = .ok (.getfield 206, 3) := by decide +kernel
theorem dX11_item_19 : decode cX11_item 19 = .ok (.if_icmp .ge 16, 3) := by decide +kernel
theorem dX11_item_22 : decode cX11_item 22 = .ok (.aload_n 0, 1) := by decide +kernel
theorem dX11_item_23 : decode cX11_item 23 = .ok (.invokevirtual 215, 3) := by decide +kernel
theorem dX11_item_26 : decode cX11_item 26 = .ok (.bipush 110, 2) := by decide +kernel
theorem dX11_item_28 : decode cX11_item 28 = .ok (.if_icmp .ne 7, 3) := by decide +kernel
theorem dX11_item_31 : decode cX11_item 31 = .ok (.iconst 1, 1) := by decide +kernel
theorem dX11_item_32 : decode cX11_item 32 = .ok (.goto 4, 3) := by decide +kernel
theorem dX11_item_35 : decode cX11_item 35 = .ok (.iconst 0, 1) := by decide +kernel
theorem dX11_item_36 : decode cX11_item 36 = .ok (.istore_n 1, 1) := by decide +kernel
theorem dX11_item_37 : decode cX11_item 37 = .ok (.iload_n 1, 1) := by decide +kernel
theorem dX11_item_38 : decode cX11_item 38 = .ok (.ifCond .eq 16, 3) := by decide +kernel
theorem dX11_item_41 : decode cX11_item 41 = .ok (.aload_n 0, 1) := by decide +kernel
theorem dX11_item_42 : decode cX11_item 42 = .ok (.dup, 1) := by decide +kernel
theorem dX11_item_43 : decode cX11_item 43 = .ok (.getfield 203, 3) := by decide +kernel
theorem dX11_item_46 : decode cX11_item 46 = .ok (.iconst 1, 1) := by decide +kernel
theorem dX11_item_47 : decode cX11_item 47 = .ok (.iadd, 1) := by decide +kernel
theorem dX11_item_48 : decode cX11_item 48 = .ok (.putfield 203, 3) := by decide +kernel
theorem dX11_item_51 : decode cX11_item 51 = .ok (.goto 23, 3) := by decide +kernel
theorem dX11_item_54 : decode cX11_item 54 = .ok (.aload_n 0, 1) := by decide +kernel
theorem dX11_item_55 : decode cX11_item 55 = .ok (.bipush 102, 2) := by decide +kernel
theorem dX11_item_57 : decode cX11_item 57 = .ok (.invokevirtual 232, 3) := by decide +kernel
theorem dX11_item_60 : decode cX11_item 60 = .ok (.ifCond .eq 12, 3) := by decide +kernel
theorem dX11_item_63 : decode cX11_item 63 = .ok (.aload_n 0, 1) := by decide +kernel
theorem dX11_item_64 : decode cX11_item 64 = .ok (.bipush 102, 2) := by decide +kernel
theorem dX11_item_66 : decode cX11_item 66 = .ok (.invokevirtual 232, 3) := by decide +kernel
theorem dX11_item_69 : decode cX11_item 69 = .ok (.ifCond .ne 5, 3) := by decide +kernel
theorem dX11_item_72 : decode cX11_item 72 = .ok (.iconst 0, 1) := by decide +kernel
theorem dX11_item_73 : decode cX11_item 73 = .ok (.ireturn, 1) := by decide +kernel
theorem dX11_item_74 : decode cX11_item 74 = .ok (.aload_n 0, 1) := by decide +kernel
theorem dX11_item_75 : decode cX11_item 75 = .ok (.getfield 144, 3) := by decide +kernel
theorem dX11_item_78 : decode cX11_item 78 = .ok (.aload_n 0, 1) := by decide +kernel
theorem dX11_item_79 : decode cX11_item 79 = .ok (.getfield 238, 3) := by decide +kernel
theorem dX11_item_82 : decode cX11_item 82 = .ok (.iload_n 1, 1) := by decide +kernel
theorem dX11_item_83 : decode cX11_item 83 = .ok (.ifCond .eq 7, 3) := by decide +kernel
theorem dX11_item_86 : decode cX11_item 86 = .ok (.iconst 0, 1) := by decide +kernel
theorem dX11_item_87 : decode cX11_item 87 = .ok (.goto 4, 3) := by decide +kernel
theorem dX11_item_90 : decode cX11_item 90 = .ok (.iconst 1, 1) := by decide +kernel
theorem dX11_item_91 : decode cX11_item 91 = .ok (.iastore, 1) := by decide +kernel
theorem dX11_item_92 : decode cX11_item 92 = .ok (.aload_n 0, 1) := by decide +kernel
theorem dX11_item_93 : decode cX11_item 93 = .ok (.bipush 32, 2) := by decide +kernel
theorem dX11_item_95 : decode cX11_item 95 = .ok (.invokevirtual 232, 3) := by decide +kernel
theorem dX11_item_98 : decode cX11_item 98 = .ok (.ifCond .eq 17, 3) := by decide +kernel
theorem dX11_item_101 : decode cX11_item 101 = .ok (.aload_n 0, 1) := by decide +kernel
theorem dX11_item_102 : decode cX11_item 102 = .ok (.iconst 0, 1) := by decide +kernel
theorem dX11_item_103 : decode cX11_item 103 = .ok (.aload_n 0, 1) := by decide +kernel
theorem dX11_item_104 : decode cX11_item 104 = .ok (.getfield 174, 3) := by decide +kernel
theorem dX11_item_107 : decode cX11_item 107 = .ok (.iconst 1, 1) := by decide +kernel
theorem dX11_item_108 : decode cX11_item 108 = .ok (.isub, 1) := by decide +kernel
theorem dX11_item_109 : decode cX11_item 109 = .ok (.invokevirtual 235, 3) := by decide +kernel
theorem dX11_item_112 : decode cX11_item 112 = .ok (.ifCond .ne 5, 3) := by decide +kernel
theorem dX11_item_115 : decode cX11_item 115 = .ok (.iconst 0, 1) := by decide +kernel
theorem dX11_item_116 : decode cX11_item 116 = .ok (.ireturn, 1) := by decide +kernel
theorem dX11_item_117 : decode cX11_item 117 = .ok (.aload_n 0, 1) := by decide +kernel
theorem dX11_item_118 : decode cX11_item 118 = .ok (.getfield 147, 3) := by decide +kernel
theorem dX11_item_121 : decode cX11_item 121 = .ok (.aload_n 0, 1) := by decide +kernel
theorem dX11_item_122 : decode cX11_item 122 = .ok (.getfield 238, 3) := by decide +kernel
theorem dX11_item_125 : decode cX11_item 125 = .ok (.aload_n 0, 1) := by decide +kernel
theorem dX11_item_126 : decode cX11_item 126 = .ok (.getfield 225, 3) := by decide +kernel
theorem dX11_item_129 : decode cX11_item 129 = .ok (.iastore, 1) := by decide +kernel
theorem dX11_item_130 : decode cX11_item 130 = .ok (.aload_n 0, 1) := by decide +kernel
theorem dX11_item_131 : decode cX11_item 131 = .ok (.bipush 32, 2) := by decide +kernel
theorem dX11_item_133 : decode cX11_item 133 = .ok (.invokevirtual 232, 3) := by decide +kernel
theorem dX11_item_136 : decode cX11_item 136 = .ok (.ifCond .eq 59, 3) := by decide +kernel
theorem dX11_item_139 : decode cX11_item 139 = .ok (.aload_n 0, 1) := by decide +kernel
theorem dX11_item_140 : decode cX11_item 140 = .ok (.bipush 102, 2) := by decide +kernel
theorem dX11_item_142 : decode cX11_item 142 = .ok (.invokevirtual 232, 3) := by decide +kernel
theorem dX11_item_145 : decode cX11_item 145 = .ok (.ifCond .eq 50, 3) := by decide +kernel
theorem dX11_item_148 : decode cX11_item 148 = .ok (.aload_n 0, 1) := by decide +kernel
theorem dX11_item_149 : decode cX11_item 149 = .ok (.bipush 114, 2) := by decide +kernel
theorem dX11_item_151 : decode cX11_item 151 = .ok (.invokevirtual 232, 3) := by decide +kernel
theorem dX11_item_154 : decode cX11_item 154 = .ok (.ifCond .eq 41, 3) := by decide +kernel
theorem dX11_item_157 : decode cX11_item 157 = .ok (.aload_n 0, 1) := by decide +kernel
theorem dX11_item_158 : decode cX11_item 158 = .ok (.bipush 111, 2) := by decide +kernel
theorem dX11_item_160 : decode cX11_item 160 = .ok (.invokevirtual 232, 3) := by decide +kernel
theorem dX11_item_163 : decode cX11_item 163 = .ok (.ifCond .eq 32, 3) := by decide +kernel
theorem dX11_item_166 : decode cX11_item 166 = .ok (.aload_n 0, 1) := by decide +kernel
theorem dX11_item_167 : decode cX11_item 167 = .ok (.bipush 109, 2) := by decide +kernel
theorem dX11_item_169 : decode cX11_item 169 = .ok (.invokevirtual 232, 3) := by decide +kernel
theorem dX11_item_172 : decode cX11_item 172 = .ok (.ifCond .eq 23, 3) := by decide +kernel
theorem dX11_item_175 : decode cX11_item 175 = .ok (.aload_n 0, 1) := by decide +kernel
theorem dX11_item_176 : decode cX11_item 176 = .ok (.bipush 32, 2) := by decide +kernel
theorem dX11_item_178 : decode cX11_item 178 = .ok (.invokevirtual 232, 3) := by decide +kernel
theorem dX11_item_181 : decode cX11_item 181 = .ok (.ifCond .eq 14, 3) := by decide +kernel
theorem dX11_item_184 : decode cX11_item 184 = .ok (.aload_n 0, 1) := by decide +kernel
theorem dX11_item_185 : decode cX11_item 185 = .ok (.iconst 0, 1) := by decide +kernel
theorem dX11_item_186 : decode cX11_item 186 = .ok (.sipush 239, 3) := by decide +kernel
theorem dX11_item_189 : decode cX11_item 189 = .ok (.invokevirtual 235, 3) := by decide +kernel
theorem dX11_item_192 : decode cX11_item 192 = .ok (.ifCond .ne 5, 3) := by decide +kernel
theorem dX11_item_195 : decode cX11_item 195 = .ok (.iconst 0, 1) := by decide +kernel
theorem dX11_item_196 : decode cX11_item 196 = .ok (.ireturn, 1) := by decide +kernel
theorem dX11_item_197 : decode cX11_item 197 = .ok (.aload_n 0, 1) := by decide +kernel
theorem dX11_item_198 : decode cX11_item 198 = .ok (.getfield 150, 3) := by decide +kernel
theorem dX11_item_201 : decode cX11_item 201 = .ok (.aload_n 0, 1) := by decide +kernel
theorem dX11_item_202 : decode cX11_item 202 = .ok (.getfield 238, 3) := by decide +kernel
theorem dX11_item_205 : decode cX11_item 205 = .ok (.aload_n 0, 1) := by decide +kernel
theorem dX11_item_206 : decode cX11_item 206 = .ok (.getfield 225, 3) := by decide +kernel
theorem dX11_item_209 : decode cX11_item 209 = .ok (.iastore, 1) := by decide +kernel
theorem dX11_item_210 : decode cX11_item 210 = .ok (.aload_n 0, 1) := by decide +kernel
theorem dX11_item_211 : decode cX11_item 211 = .ok (.bipush 32, 2) := by decide +kernel
theorem dX11_item_213 : decode cX11_item 213 = .ok (.invokevirtual 232, 3) := by decide +kernel
theorem dX11_item_216 : decode cX11_item 216 = .ok (.ifCond .eq 49, 3) := by decide +kernel
theorem dX11_item_219 : decode cX11_item 219 = .ok (.aload_n 0, 1) := by decide +kernel
theorem dX11_item_220 : decode cX11_item 220 = .ok (.bipush 116, 2) := by decide +kernel
theorem dX11_item_222 : decode cX11_item 222 = .ok (.invokevirtual 232, 3) := by decide +kernel
theorem dX11_item_225 : decode cX11_item 225 = .ok (.ifCond .eq 40, 3) := by decide +kernel
theorem dX11_item_228 : decode cX11_item 228 = .ok (.aload_n 0, 1) := by decide +kernel
theorem dX11_item_229 : decode cX11_item 229 = .ok (.bipush 111, 2) := by decide +kernel
theorem dX11_item_231 : decode cX11_item 231 = .ok (.invokevirtual 232, 3) := by decide +kernel
theorem dX11_item_234 : decode cX11_item 234 = .ok (.ifCond .eq 31, 3) := by decide +kernel
theorem dX11_item_237 : decode cX11_item 237 = .ok (.aload_n 0, 1) := by decide +kernel
theorem dX11_item_238 : decode cX11_item 238 = .ok (.bipush 32, 2) := by decide +kernel
theorem dX11_item_240 : decode cX11_item 240 = .ok (.invokevirtual 232, 3) := by decide +kernel
theorem dX11_item_243 : decode cX11_item 243 = .ok (.ifCond .eq 22, 3) := by decide +kernel
theorem dX11_item_246 : decode cX11_item 246 = .ok (.aload_n 0, 1) := by decide +kernel
theorem dX11_item_247 : decode cX11_item 247 = .ok (.aload_n 0, 1) := by decide +kernel
theorem dX11_item_248 : decode cX11_item 248 = .ok (.getfield 150, 3) := by decide +kernel
theorem dX11_item_251 : decode cX11_item 251 = .ok (.aload_n 0, 1) := by decide +kernel
theorem dX11_item_252 : decode cX11_item 252 = .ok (.getfield 238, 3) := by decide +kernel
theorem dX11_item_255 : decode cX11_item 255 = .ok (.iaload, 1) := by decide +kernel
theorem dX11_item_256 : decode cX11_item 256 = .ok (.sipush 239, 3) := by decide +kernel
theorem dX11_item_259 : decode cX11_item 259 = .ok (.invokevirtual 235, 3) := by decide +kernel
theorem dX11_item_262 : decode cX11_item 262 = .ok (.ifCond .ne 5, 3) := by decide +kernel
theorem dX11_item_265 : decode cX11_item 265 = .ok (.iconst 0, 1) := by decide +kernel
theorem dX11_item_266 : decode cX11_item 266 = .ok (.ireturn, 1) := by decide +kernel
theorem dX11_item_267 : decode cX11_item 267 = .ok (.aload_n 0, 1) := by decide +kernel
theorem dX11_item_268 : decode cX11_item 268 = .ok (.getfield 153, 3) := by decide +kernel
theorem dX11_item_271 : decode cX11_item 271 = .ok (.aload_n 0, 1) := by decide +kernel
theorem dX11_item_272 : decode cX11_item 272 = .ok (.getfield 238, 3) := by decide +kernel
theorem dX11_item_275 : decode cX11_item 275 = .ok (.aload_n 0, 1) := by decide +kernel
theorem dX11_item_276 : decode cX11_item 276 = .ok (.getfield 225, 3) := by decide +kernel
theorem dX11_item_279 : decode cX11_item 279 = .ok (.iastore, 1) := by decide +kernel
theorem dX11_item_280 : decode cX11_item 280 = .ok (.aload_n 0, 1) := by decide +kernel
theorem dX11_item_281 : decode cX11_item 281 = .ok (.getfield 156, 3) := by decide +kernel
theorem dX11_item_284 : decode cX11_item 284 = .ok (.aload_n 0, 1) := by decide +kernel
theorem dX11_item_285 : decode cX11_item 285 = .ok (.getfield 238, 3) := by decide +kernel
theorem dX11_item_288 : decode cX11_item 288 = .ok (.iconst 0, 1) := by decide +kernel
theorem dX11_item_289 : decode cX11_item 289 = .ok (.iastore, 1) := by decide +kernel
theorem dX11_item_290 : decode cX11_item 290 = .ok (.aload_n 0, 1) := by decide +kernel
theorem dX11_item_291 : decode cX11_item 291 = .ok (.getfield 203, 3) := by decide +kernel
theorem dX11_item_294 : decode cX11_item 294 = .ok (.aload_n 0, 1) := by decide +kernel
theorem dX11_item_295 : decode cX11_item 295 = .ok (.getfield 206, 3) := by decide +kernel
theorem dX11_item_298 : decode cX11_item 298 = .ok (.if_icmp .ge 92, 3) := by decide +kernel
theorem dX11_item_301 : decode cX11_item 301 = .ok (.aload_n 0, 1) := by decide +kernel
theorem dX11_item_302 : decode cX11_item 302 = .ok (.invokevirtual 215, 3) := by decide +kernel
theorem dX11_item_305 : decode cX11_item 305 = .ok (.bipush 32, 2) := by decide +kernel
theorem dX11_item_307 : decode cX11_item 307 = .ok (.if_icmp .ne 83, 3) := by decide +kernel
theorem dX11_item_310 : decode cX11_item 310 = .ok (.aload_n 0, 1) := by decide +kernel
theorem dX11_item_311 : decode cX11_item 311 = .ok (.dup, 1) := by decide +kernel
theorem dX11_item_312 : decode cX11_item 312 = .ok (.getfield 203, 3) := by decide +kernel
theorem dX11_item_315 : decode cX11_item 315 = .ok (.iconst 1, 1) := by decide +kernel
theorem dX11_item_316 : decode cX11_item 316 = .ok (.iadd, 1) := by decide +kernel
theorem dX11_item_317 : decode cX11_item 317 = .ok (.putfield 203, 3) := by decide +kernel
theorem dX11_item_320 : decode cX11_item 320 = .ok (.aload_n 0, 1) := by decide +kernel
theorem dX11_item_321 : decode cX11_item 321 = .ok (.bipush 101, 2) := by decide +kernel
theorem dX11_item_323 : decode cX11_item 323 = .ok (.invokevirtual 232, 3) := by decide +kernel
theorem dX11_item_326 : decode cX11_item 326 = .ok (.ifCond .eq 49, 3) := by decide +kernel
theorem dX11_item_329 : decode cX11_item 329 = .ok (.aload_n 0, 1) := by decide +kernel
theorem dX11_item_330 : decode cX11_item 330 = .ok (.bipush 97, 2) := by decide +kernel
theorem dX11_item_332 : decode cX11_item 332 = .ok (.invokevirtual 232, 3) := by decide +kernel
theorem dX11_item_335 : decode cX11_item 335 = .ok (.ifCond .eq 40, 3) := by decide +kernel
theorem dX11_item_338 : decode cX11_item 338 = .ok (.aload_n 0, 1) := by decide +kernel
theorem dX11_item_339 : decode cX11_item 339 = .ok (.bipush 99, 2) := by decide +kernel
theorem dX11_item_341 : decode cX11_item 341 = .ok (.invokevirtual 232, 3) := by decide +kernel
theorem dX11_item_344 : decode cX11_item 344 = .ok (.ifCond .eq 31, 3) := by decide +kernel
theorem dX11_item_347 : decode cX11_item 347 = .ok (.aload_n 0, 1) := by decide +kernel
theorem dX11_item_348 : decode cX11_item 348 = .ok (.bipush 104, 2) := by decide +kernel
theorem dX11_item_350 : decode cX11_item 350 = .ok (.invokevirtual 232, 3) := by decide +kernel
theorem dX11_item_353 : decode cX11_item 353 = .ok (.ifCond .eq 22, 3) := by decide +kernel
theorem dX11_item_356 : decode cX11_item 356 = .ok (.aload_n 0, 1) := by decide +kernel
theorem dX11_item_357 : decode cX11_item 357 = .ok (.bipush 32, 2) := by decide +kernel
theorem dX11_item_359 : decode cX11_item 359 = .ok (.invokevirtual 232, 3) := by decide +kernel
theorem dX11_item_362 : decode cX11_item 362 = .ok (.ifCond .eq 13, 3) := by decide +kernel
theorem dX11_item_365 : decode cX11_item 365 = .ok (.aload_n 0, 1) := by decide +kernel
theorem dX11_item_366 : decode cX11_item 366 = .ok (.iconst 1, 1) := by decide +kernel
theorem dX11_item_367 : decode cX11_item 367 = .ok (.bipush 99, 2) := by decide +kernel
theorem dX11_item_369 : decode cX11_item 369 = .ok (.invokevirtual 235, 3) := by decide +kernel
theorem dX11_item_372 : decode cX11_item 372 = .ok (.ifCond .ne 5, 3) := by decide +kernel
theorem dX11_item_375 : decode cX11_item 375 = .ok (.iconst 0, 1) := by decide +kernel
theorem dX11_item_376 : decode cX11_item 376 = .ok (.ireturn, 1) := by decide +kernel
theorem dX11_item_377 : decode cX11_item 377 = .ok (.aload_n 0, 1) := by decide +kernel
theorem dX11_item_378 : decode cX11_item 378 = .ok (.getfield 156, 3) := by decide +kernel
theorem dX11_item_381 : decode cX11_item 381 = .ok (.aload_n 0, 1) := by decide +kernel
theorem dX11_item_382 : decode cX11_item 382 = .ok (.getfield 238, 3) := by decide +kernel
theorem dX11_item_385 : decode cX11_item 385 = .ok (.aload_n 0, 1) := by decide +kernel
theorem dX11_item_386 : decode cX11_item 386 = .ok (.getfield 225, 3) := by decide +kernel
theorem dX11_item_389 : decode cX11_item 389 = .ok (.iastore, 1) := by decide +kernel
theorem dX11_item_390 : decode cX11_item 390 = .ok (.aload_n 0, 1) := by decide +kernel
theorem dX11_item_391 : decode cX11_item 391 = .ok (.dup, 1) := by decide +kernel
theorem dX11_item_392 : decode cX11_item 392 = .ok (.getfield 238, 3) := by decide +kernel
theorem dX11_item_395 : decode cX11_item 395 = .ok (.iconst 1, 1) := by decide +kernel
theorem dX11_item_396 : decode cX11_item 396 = .ok (.iadd, 1) := by decide +kernel
theorem dX11_item_397 : decode cX11_item 397 = .ok (.putfield 238, 3) := by decide +kernel
theorem dX11_item_400 : decode cX11_item 400 = .ok (.iconst 1, 1) := by decide +kernel
theorem dX11_item_401 : decode cX11_item 401 = .ok (.ireturn, 1) := by decide +kernel
theorem dX11_reads_0 : decode cX11_reads 0 = .ok (.aload_n 0, 1) := by decide +kernel
theorem dX11_reads_1 : decode cX11_reads 1 = .ok (.iconst 0, 1) := by decide +kernel
theorem dX11_reads_2 : decode cX11_reads 2 = .ok (.putfield 238, 3) := by decide +kernel
theorem dX11_reads_5 : decode cX11_reads 5 = .ok (.iload_n 1, 1) := by decide +kernel
theorem dX11_reads_6 : decode cX11_reads 6 = .ok (.ifCond .eq 13, 3) := by decide +kernel
theorem dX11_reads_9 : decode cX11_reads 9 = .ok (.aload_n 0, 1) := by decide +kernel
theorem dX11_reads_10 : decode cX11_reads 10 = .ok (.invokevirtual 241, 3) := by decide +kernel
theorem dX11_reads_13 : decode cX11_reads 13 = .ok (.ifCond .ne 15, 3) := by decide +kernel
theorem dX11_reads_16 : decode cX11_reads 16 = .ok (.goto 10, 3) := by decide +kernel
theorem dX11_reads_19 : decode cX11_reads 19 = .ok (.aload_n 0, 1) := by decide +kernel
theorem dX11_reads_20 : decode cX11_reads 20 = .ok (.invokevirtual 244, 3) := by decide +kernel
theorem dX11_reads_23 : decode cX11_reads 23 = .ok (.ifCond .ne 5, 3) := by decide +kernel
theorem dX11_reads_26 : decode cX11_reads 26 = .ok (.iconst 0, 1) := by decide +kernel
theorem dX11_reads_27 : decode cX11_reads 27 = .ok (.ireturn, 1) := by decide +kernel
theorem dX11_reads_28 : decode cX11_reads 28 = .ok (.aload_n 0, 1) := by decide +kernel
theorem dX11_reads_29 : decode cX11_reads 29 = .ok (.getfield 203, 3) := by decide +kernel
theorem dX11_reads_32 : decode cX11_reads 32 = .ok (.aload_n 0, 1) := by decide +kernel
theorem dX11_reads_33 : decode cX11_reads 33 = .ok (.getfield 206, 3) := by decide +kernel
theorem dX11_reads_36 : decode cX11_reads 36 = .ok (.if_icmp .ge 57, 3) := by decide +kernel
theorem dX11_reads_39 : decode cX11_reads 39 = .ok (.iload_n 1, 1) := by decide +kernel
theorem dX11_reads_40 : decode cX11_reads 40 = .ok (.ifCond .eq 12, 3) := by decide +kernel
theorem dX11_reads_43 : decode cX11_reads 43 = .ok (.aload_n 0, 1) := by decide +kernel
theorem dX11_reads_44 : decode cX11_reads 44 = .ok (.getfield 238, 3) := by decide +kernel
theorem dX11_reads_47 : decode cX11_reads 47 = .ok (.bipush 8, 2) := by decide +kernel
theorem dX11_reads_49 : decode cX11_reads 49 = .ok (.if_icmp .eq 12, 3) := by decide +kernel
theorem dX11_reads_52 : decode cX11_reads 52 = .ok (.aload_n 0, 1) := by decide +kernel
theorem dX11_reads_53 : decode cX11_reads 53 = .ok (.bipush 59, 2) := by decide +kernel
theorem dX11_reads_55 : decode cX11_reads 55 = .ok (.invokevirtual 232, 3) := by decide +kernel
theorem dX11_reads_58 : decode cX11_reads 58 = .ok (.ifCond .ne 12, 3) := by decide +kernel
theorem dX11_reads_61 : decode cX11_reads 61 = .ok (.aload_n 0, 1) := by decide +kernel
theorem dX11_reads_62 : decode cX11_reads 62 = .ok (.aload_n 0, 1) := by decide +kernel
theorem dX11_reads_63 : decode cX11_reads 63 = .ok (.getfield 203, 3) := by decide +kernel
theorem dX11_reads_66 : decode cX11_reads 66 = .ok (.invokevirtual 219, 3) := by decide +kernel
theorem dX11_reads_69 : decode cX11_reads 69 = .ok (.ireturn, 1) := by decide +kernel
theorem dX11_reads_70 : decode cX11_reads 70 = .ok (.iload_n 1, 1) := by decide +kernel
theorem dX11_reads_71 : decode cX11_reads 71 = .ok (.ifCond .eq 13, 3) := by decide +kernel
theorem dX11_reads_74 : decode cX11_reads 74 = .ok (.aload_n 0, 1) := by decide +kernel
theorem dX11_reads_75 : decode cX11_reads 75 = .ok (.invokevirtual 241, 3) := by decide +kernel
theorem dX11_reads_78 : decode cX11_reads 78 = .ok (.ifCond .ne (-50), 3) := by decide +kernel
theorem dX11_reads_81 : decode cX11_reads 81 = .ok (.goto 10, 3) := by decide +kernel
theorem dX11_reads_84 : decode cX11_reads 84 = .ok (.aload_n 0, 1) := by decide +kernel
theorem dX11_reads_85 : decode cX11_reads 85 = .ok (.invokevirtual 244, 3) := by decide +kernel
theorem dX11_reads_88 : decode cX11_reads 88 = .ok (.ifCond .ne (-60), 3) := by decide +kernel
theorem dX11_reads_91 : decode cX11_reads 91 = .ok (.iconst 0, 1) := by decide +kernel
theorem dX11_reads_92 : decode cX11_reads 92 = .ok (.ireturn, 1) := by decide +kernel
theorem dX11_reads_93 : decode cX11_reads 93 = .ok (.iconst 1, 1) := by decide +kernel
theorem dX11_reads_94 : decode cX11_reads 94 = .ok (.ireturn, 1) := by decide +kernel
theorem dX11_text_0 : decode cX11_text 0 = .ok (.aload_n 0, 1) := by decide +kernel
theorem dX11_text_1 : decode cX11_text 1 = .ok (.iload_n 1, 1) := by decide +kernel
theorem dX11_text_2 : decode cX11_text 2 = .ok (.invokevirtual 247, 3) := by decide +kernel
theorem dX11_text_5 : decode cX11_text 5 = .ok (.istore_n 3, 1) := by decide +kernel
theorem dX11_text_6 : decode cX11_text 6 = .ok (.iload_n 3, 1) := by decide +kernel
theorem dX11_text_7 : decode cX11_text 7 = .ok (.ifCond .eq 5, 3) := by decide +kernel
theorem dX11_text_10 : decode cX11_text 10 = .ok (.iload_n 3, 1) := by decide +kernel
theorem dX11_text_11 : decode cX11_text 11 = .ok (.ireturn, 1) := by decide +kernel
theorem dX11_text_12 : decode cX11_text 12 = .ok (.aload_n 0, 1) := by decide +kernel
theorem dX11_text_13 : decode cX11_text 13 = .ok (.bipush 60, 2) := by decide +kernel
theorem dX11_text_15 : decode cX11_text 15 = .ok (.iload_n 1, 1) := by decide +kernel
theorem dX11_text_16 : decode cX11_text 16 = .ok (.imul, 1) := by decide +kernel
theorem dX11_text_17 : decode cX11_text 17 = .ok (.putfield 209, 3) := by decide +kernel
theorem dX11_text_20 : decode cX11_text 20 = .ok (.aload_n 0, 1) := by decide +kernel
theorem dX11_text_21 : decode cX11_text 21 = .ok (.iconst 0, 1) := by decide +kernel
theorem dX11_text_22 : decode cX11_text 22 = .ok (.putfield 203, 3) := by decide +kernel
theorem dX11_text_25 : decode cX11_text 25 = .ok (.aload_n 0, 1) := by decide +kernel
theorem dX11_text_26 : decode cX11_text 26 = .ok (.aload_n 0, 1) := by decide +kernel
theorem dX11_text_27 : decode cX11_text 27 = .ok (.getfield 125, 3) := by decide +kernel
theorem dX11_text_30 : decode cX11_text 30 = .ok (.iload_n 1, 1) := by decide +kernel
theorem dX11_text_31 : decode cX11_text 31 = .ok (.iaload, 1) := by decide +kernel
theorem dX11_text_32 : decode cX11_text 32 = .ok (.putfield 206, 3) := by decide +kernel
theorem dX11_text_35 : decode cX11_text 35 = .ok (.aload_n 0, 1) := by decide +kernel
theorem dX11_text_36 : decode cX11_text 36 = .ok (.iconst (-1), 1) := by decide +kernel
theorem dX11_text_37 : decode cX11_text 37 = .ok (.putfield 13, 3) := by decide +kernel
theorem dX11_text_40 : decode cX11_text 40 = .ok (.aload_n 0, 1) := by decide +kernel
theorem dX11_text_41 : decode cX11_text 41 = .ok (.iload_n 2, 1) := by decide +kernel
theorem dX11_text_42 : decode cX11_text 42 = .ok (.invokevirtual 250, 3) := by decide +kernel
theorem dX11_text_45 : decode cX11_text 45 = .ok (.ifCond .ne 14, 3) := by decide +kernel
theorem dX11_text_48 : decode cX11_text 48 = .ok (.aload_n 0, 1) := by decide +kernel
theorem dX11_text_49 : decode cX11_text 49 = .ok (.aload_n 0, 1) := by decide +kernel
theorem dX11_text_50 : decode cX11_text 50 = .ok (.getfield 212, 3) := by decide +kernel
theorem dX11_text_53 : decode cX11_text 53 = .ok (.putfield 13, 3) := by decide +kernel
theorem dX11_text_56 : decode cX11_text 56 = .ok (.bipush (-6), 2) := by decide +kernel
theorem dX11_text_58 : decode cX11_text 58 = .ok (.ireturn, 1) := by decide +kernel
theorem dX11_text_59 : decode cX11_text 59 = .ok (.iconst 0, 1) := by decide +kernel
theorem dX11_text_60 : decode cX11_text 60 = .ok (.ireturn, 1) := by decide +kernel
theorem dX11_laws_0 : decode cX11_laws 0 = .ok (.aload_n 0, 1) := by decide +kernel
theorem dX11_laws_1 : decode cX11_laws 1 = .ok (.iload_n 1, 1) := by decide +kernel
theorem dX11_laws_2 : decode cX11_laws 2 = .ok (.iconst 0, 1) := by decide +kernel
theorem dX11_laws_3 : decode cX11_laws 3 = .ok (.invokevirtual 253, 3) := by decide +kernel
theorem dX11_laws_6 : decode cX11_laws 6 = .ok (.istore_n 2, 1) := by decide +kernel
theorem dX11_laws_7 : decode cX11_laws 7 = .ok (.iload_n 2, 1) := by decide +kernel
theorem dX11_laws_8 : decode cX11_laws 8 = .ok (.ifCond .eq 9, 3) := by decide +kernel
theorem dX11_laws_11 : decode cX11_laws 11 = .ok (.aload_n 0, 1) := by decide +kernel
theorem dX11_laws_12 : decode cX11_laws 12 = .ok (.iload_n 2, 1) := by decide +kernel
theorem dX11_laws_13 : decode cX11_laws 13 = .ok (.invokevirtual 184, 3) := by decide +kernel
theorem dX11_laws_16 : decode cX11_laws 16 = .ok (.ireturn, 1) := by decide +kernel
theorem dX11_laws_17 : decode cX11_laws 17 = .ok (.iconst 0, 1) := by decide +kernel
theorem dX11_laws_18 : decode cX11_laws 18 = .ok (.istore_n 3, 1) := by decide +kernel
theorem dX11_laws_19 : decode cX11_laws 19 = .ok (.iload_n 3, 1) := by decide +kernel
theorem dX11_laws_20 : decode cX11_laws 20 = .ok (.aload_n 0, 1) := by decide +kernel
theorem dX11_laws_21 : decode cX11_laws 21 = .ok (.getfield 238, 3) := by decide +kernel
theorem dX11_laws_24 : decode cX11_laws 24 = .ok (.if_icmp .ge 26, 3) := by decide +kernel
theorem dX11_laws_27 : decode cX11_laws 27 = .ok (.aload_n 0, 1) := by decide +kernel
theorem dX11_laws_28 : decode cX11_laws 28 = .ok (.getfield 20, 3) := by decide +kernel
theorem dX11_laws_31 : decode cX11_laws 31 = .ok (.aload_n 0, 1) := by decide +kernel
theorem dX11_laws_32 : decode cX11_laws 32 = .ok (.getfield 138, 3) := by decide +kernel
theorem dX11_laws_35 : decode cX11_laws 35 = .ok (.iload_n 3, 1) := by decide +kernel
theorem dX11_laws_36 : decode cX11_laws 36 = .ok (.iaload, 1) := by decide +kernel
theorem dX11_laws_37 : decode cX11_laws 37 = .ok (.aload_n 0, 1) := by decide +kernel
theorem dX11_laws_38 : decode cX11_laws 38 = .ok (.getfield 141, 3) := by decide +kernel
theorem dX11_laws_41 : decode cX11_laws 41 = .ok (.iload_n 3, 1) := by decide +kernel
theorem dX11_laws_42 : decode cX11_laws 42 = .ok (.iaload, 1) := by decide +kernel
theorem dX11_laws_43 : decode cX11_laws 43 = .ok (.iastore, 1) := by decide +kernel
theorem dX11_laws_44 : decode cX11_laws 44 = .ok (.iinc 3 1, 3) := by decide +kernel
theorem dX11_laws_47 : decode cX11_laws 47 = .ok (.goto (-28), 3) := by decide +kernel
theorem dX11_laws_50 : decode cX11_laws 50 = .ok (.aload_n 0, 1) := by decide +kernel
theorem dX11_laws_51 : decode cX11_laws 51 = .ok (.getfield 238, 3) := by decide +kernel
theorem dX11_laws_54 : decode cX11_laws 54 = .ok (.ireturn, 1) := by decide +kernel
theorem dX11_law_0 : decode cX11_law 0 = .ok (.iload_n 1, 1) := by decide +kernel
theorem dX11_law_1 : decode cX11_law 1 = .ok (.ifCond .lt 18, 3) := by decide +kernel
theorem dX11_law_4 : decode cX11_law 4 = .ok (.iload_n 1, 1) := by decide +kernel
theorem dX11_law_5 : decode cX11_law 5 = .ok (.bipush 6, 2) := by decide +kernel
theorem dX11_law_7 : decode cX11_law 7 = .ok (.if_icmp .ge 12, 3) := by decide +kernel
theorem dX11_law_10 : decode cX11_law 10 = .ok (.aload_n 0, 1) := by decide +kernel
theorem dX11_law_11 : decode cX11_law 11 = .ok (.getfield 20, 3) := by decide +kernel
theorem dX11_law_14 : decode cX11_law 14 = .ok (.iload_n 1, 1) := by decide +kernel
theorem dX11_law_15 : decode cX11_law 15 = .ok (.iaload, 1) := by decide +kernel
theorem dX11_law_16 : decode cX11_law 16 = .ok (.goto 9, 3) := by decide +kernel
theorem dX11_law_19 : decode cX11_law 19 = .ok (.aload_n 0, 1) := by decide +kernel
theorem dX11_law_20 : decode cX11_law 20 = .ok (.bipush (-5), 2) := by decide +kernel
theorem dX11_law_22 : decode cX11_law 22 = .ok (.invokevirtual 184, 3) := by decide +kernel
theorem dX11_law_25 : decode cX11_law 25 = .ok (.ireturn, 1) := by decide +kernel
theorem dX11_plan_0 : decode cX11_plan 0 = .ok (.aload_n 0, 1) := by decide +kernel
theorem dX11_plan_1 : decode cX11_plan 1 = .ok (.iload_n 1, 1) := by decide +kernel
theorem dX11_plan_2 : decode cX11_plan 2 = .ok (.iconst 1, 1) := by decide +kernel
theorem dX11_plan_3 : decode cX11_plan 3 = .ok (.invokevirtual 253, 3) := by decide +kernel
theorem dX11_plan_6 : decode cX11_plan 6 = .ok (.istore_n 2, 1) := by decide +kernel
theorem dX11_plan_7 : decode cX11_plan 7 = .ok (.iload_n 2, 1) := by decide +kernel
theorem dX11_plan_8 : decode cX11_plan 8 = .ok (.ifCond .eq 9, 3) := by decide +kernel
theorem dX11_plan_11 : decode cX11_plan 11 = .ok (.aload_n 0, 1) := by decide +kernel
theorem dX11_plan_12 : decode cX11_plan 12 = .ok (.iload_n 2, 1) := by decide +kernel
theorem dX11_plan_13 : decode cX11_plan 13 = .ok (.invokevirtual 184, 3) := by decide +kernel
theorem dX11_plan_16 : decode cX11_plan 16 = .ok (.ireturn, 1) := by decide +kernel
theorem dX11_plan_17 : decode cX11_plan 17 = .ok (.aload_n 0, 1) := by decide +kernel
theorem dX11_plan_18 : decode cX11_plan 18 = .ok (.getfield 257, 3) := by decide +kernel
theorem dX11_plan_21 : decode cX11_plan 21 = .ok (.bipush 8, 2) := by decide +kernel
theorem dX11_plan_23 : decode cX11_plan 23 = .ok (.if_icmp .ne 10, 3) := by decide +kernel
theorem dX11_plan_26 : decode cX11_plan 26 = .ok (.aload_n 0, 1) := by decide +kernel
theorem dX11_plan_27 : decode cX11_plan 27 = .ok (.bipush (-7), 2) := by decide +kernel
theorem dX11_plan_29 : decode cX11_plan 29 = .ok (.invokevirtual 184, 3) := by decide +kernel
theorem dX11_plan_32 : decode cX11_plan 32 = .ok (.ireturn, 1) := by decide +kernel
theorem dX11_plan_33 : decode cX11_plan 33 = .ok (.aload_n 0, 1) := by decide +kernel
theorem dX11_plan_34 : decode cX11_plan 34 = .ok (.getfield 101, 3) := by decide +kernel
theorem dX11_plan_37 : decode cX11_plan 37 = .ok (.aload_n 0, 1) := by decide +kernel
theorem dX11_plan_38 : decode cX11_plan 38 = .ok (.getfield 257, 3) := by decide +kernel
theorem dX11_plan_41 : decode cX11_plan 41 = .ok (.aload_n 0, 1) := by decide +kernel
theorem dX11_plan_42 : decode cX11_plan 42 = .ok (.getfield 238, 3) := by decide +kernel
theorem dX11_plan_45 : decode cX11_plan 45 = .ok (.iastore, 1) := by decide +kernel
theorem dX11_plan_46 : decode cX11_plan 46 = .ok (.iconst 0, 1) := by decide +kernel
theorem dX11_plan_47 : decode cX11_plan 47 = .ok (.istore_n 3, 1) := by decide +kernel
theorem dX11_plan_48 : decode cX11_plan 48 = .ok (.iload_n 3, 1) := by decide +kernel
theorem dX11_plan_49 : decode cX11_plan 49 = .ok (.aload_n 0, 1) := by decide +kernel
theorem dX11_plan_50 : decode cX11_plan 50 = .ok (.getfield 238, 3) := by decide +kernel
theorem dX11_plan_53 : decode cX11_plan 53 = .ok (.if_icmp .ge 85, 3) := by decide +kernel
theorem dX11_plan_56 : decode cX11_plan 56 = .ok (.bipush 8, 2) := by decide +kernel
theorem dX11_plan_58 : decode cX11_plan 58 = .ok (.aload_n 0, 1) := by decide +kernel
theorem dX11_plan_59 : decode cX11_plan 59 = .ok (.getfield 257, 3) := by decide +kernel
theorem dX11_plan_62 : decode cX11_plan 62 = .ok (.imul, 1) := by decide +kernel
theorem dX11_plan_63 : decode cX11_plan 63 = .ok (.iload_n 3, 1) := by decide +kernel
theorem dX11_plan_64 : decode cX11_plan 64 = .ok (.iadd, 1) := by decide +kernel
theorem dX11_plan_65 : decode cX11_plan 65 = .ok (.istore 4, 2) := by decide +kernel
theorem dX11_plan_67 : decode cX11_plan 67 = .ok (.aload_n 0, 1) := by decide +kernel
theorem dX11_plan_68 : decode cX11_plan 68 = .ok (.getfield 104, 3) := by decide +kernel
theorem dX11_plan_71 : decode cX11_plan 71 = .ok (.iload 4, 2) := by decide +kernel
theorem dX11_plan_73 : decode cX11_plan 73 = .ok (.aload_n 0, 1) := by decide +kernel
theorem dX11_plan_74 : decode cX11_plan 74 = .ok (.getfield 144, 3) := by decide +kernel
theorem dX11_plan_77 : decode cX11_plan 77 = .ok (.iload_n 3, 1) := by decide +kernel
theorem dX11_plan_78 : decode cX11_plan 78 = .ok (.iaload, 1) := by decide +kernel
theorem dX11_plan_79 : decode cX11_plan 79 = .ok (.iastore, 1) := by decide +kernel
theorem dX11_plan_80 : decode cX11_plan 80 = .ok (.aload_n 0, 1) := by decide +kernel
theorem dX11_plan_81 : decode cX11_plan 81 = .ok (.getfield 107, 3) := by decide +kernel
theorem dX11_plan_84 : decode cX11_plan 84 = .ok (.iload 4, 2) := by decide +kernel
theorem dX11_plan_86 : decode cX11_plan 86 = .ok (.aload_n 0, 1) := by decide +kernel
theorem dX11_plan_87 : decode cX11_plan 87 = .ok (.getfield 147, 3) := by decide +kernel
theorem dX11_plan_90 : decode cX11_plan 90 = .ok (.iload_n 3, 1) := by decide +kernel
theorem dX11_plan_91 : decode cX11_plan 91 = .ok (.iaload, 1) := by decide +kernel
theorem dX11_plan_92 : decode cX11_plan 92 = .ok (.iastore, 1) := by decide +kernel
theorem dX11_plan_93 : decode cX11_plan 93 = .ok (.aload_n 0, 1) := by decide +kernel
theorem dX11_plan_94 : decode cX11_plan 94 = .ok (.getfield 110, 3) := by decide +kernel
theorem dX11_plan_97 : decode cX11_plan 97 = .ok (.iload 4, 2) := by decide +kernel
theorem dX11_plan_99 : decode cX11_plan 99 = .ok (.aload_n 0, 1) := by decide +kernel
theorem dX11_plan_100 : decode cX11_plan 100 = .ok (.getfield 150, 3) := by decide +kernel
theorem dX11_plan_103 : decode cX11_plan 103 = .ok (.iload_n 3, 1) := by decide +kernel
theorem dX11_plan_104 : decode cX11_plan 104 = .ok (.iaload, 1) := by decide +kernel
theorem dX11_plan_105 : decode cX11_plan 105 = .ok (.iastore, 1) := by decide +kernel
theorem dX11_plan_106 : decode cX11_plan 106 = .ok (.aload_n 0, 1) := by decide +kernel
theorem dX11_plan_107 : decode cX11_plan 107 = .ok (.getfield 113, 3) := by decide +kernel
theorem dX11_plan_110 : decode cX11_plan 110 = .ok (.iload 4, 2) := by decide +kernel
theorem dX11_plan_112 : decode cX11_plan 112 = .ok (.aload_n 0, 1) := by decide +kernel
theorem dX11_plan_113 : decode cX11_plan 113 = .ok (.getfield 153, 3) := by decide +kernel
theorem dX11_plan_116 : decode cX11_plan 116 = .ok (.iload_n 3, 1) := by decide +kernel
theorem dX11_plan_117 : decode cX11_plan 117 = .ok (.iaload, 1) := by decide +kernel
theorem dX11_plan_118 : decode cX11_plan 118 = .ok (.iastore, 1) := by decide +kernel
theorem dX11_plan_119 : decode cX11_plan 119 = .ok (.aload_n 0, 1) := by decide +kernel
theorem dX11_plan_120 : decode cX11_plan 120 = .ok (.getfield 116, 3) := by decide +kernel
theorem dX11_plan_123 : decode cX11_plan 123 = .ok (.iload 4, 2) := by decide +kernel
theorem dX11_plan_125 : decode cX11_plan 125 = .ok (.aload_n 0, 1) := by decide +kernel
theorem dX11_plan_126 : decode cX11_plan 126 = .ok (.getfield 156, 3) := by decide +kernel
theorem dX11_plan_129 : decode cX11_plan 129 = .ok (.iload_n 3, 1) := by decide +kernel
theorem dX11_plan_130 : decode cX11_plan 130 = .ok (.iaload, 1) := by decide +kernel
theorem dX11_plan_131 : decode cX11_plan 131 = .ok (.iastore, 1) := by decide +kernel
theorem dX11_plan_132 : decode cX11_plan 132 = .ok (.iinc 3 1, 3) := by decide +kernel
theorem dX11_plan_135 : decode cX11_plan 135 = .ok (.goto (-87), 3) := by decide +kernel
theorem dX11_plan_138 : decode cX11_plan 138 = .ok (.aload_n 0, 1) := by decide +kernel
theorem dX11_plan_139 : decode cX11_plan 139 = .ok (.dup, 1) := by decide +kernel
theorem dX11_plan_140 : decode cX11_plan 140 = .ok (.getfield 257, 3) := by decide +kernel
theorem dX11_plan_143 : decode cX11_plan 143 = .ok (.dup_x1, 1) := by decide +kernel
theorem dX11_plan_144 : decode cX11_plan 144 = .ok (.iconst 1, 1) := by decide +kernel
theorem dX11_plan_145 : decode cX11_plan 145 = .ok (.iadd, 1) := by decide +kernel
theorem dX11_plan_146 : decode cX11_plan 146 = .ok (.putfield 257, 3) := by decide +kernel
theorem dX11_plan_149 : decode cX11_plan 149 = .ok (.ireturn, 1) := by decide +kernel
theorem dX11_fault_0 : decode cX11_fault 0 = .ok (.aload_n 0, 1) := by decide +kernel
theorem dX11_fault_1 : decode cX11_fault 1 = .ok (.getfield 13, 3) := by decide +kernel
theorem dX11_fault_4 : decode cX11_fault 4 = .ok (.ireturn, 1) := by decide +kernel
theorem dX11_force_0 : decode cX11_force 0 = .ok (.iload_n 1, 1) := by decide +kernel
theorem dX11_force_1 : decode cX11_force 1 = .ok (.iconst (-1), 1) := by decide +kernel
theorem dX11_force_2 : decode cX11_force 2 = .ok (.if_icmp .lt 11, 3) := by decide +kernel
theorem dX11_force_5 : decode cX11_force 5 = .ok (.iload_n 1, 1) := by decide +kernel
theorem dX11_force_6 : decode cX11_force 6 = .ok (.aload_n 0, 1) := by decide +kernel
theorem dX11_force_7 : decode cX11_force 7 = .ok (.getfield 257, 3) := by decide +kernel
theorem dX11_force_10 : decode cX11_force 10 = .ok (.if_icmp .lt 12, 3) := by decide +kernel
theorem dX11_force_13 : decode cX11_force 13 = .ok (.aload_n 0, 1) := by decide +kernel
theorem dX11_force_14 : decode cX11_force 14 = .ok (.iconst (-1), 1) := by decide +kernel
theorem dX11_force_15 : decode cX11_force 15 = .ok (.invokevirtual 184, 3) := by decide +kernel
theorem dX11_force_18 : decode cX11_force 18 = .ok (.pop, 1) := by decide +kernel
theorem dX11_force_19 : decode cX11_force 19 = .ok (.bipush (-11), 2) := by decide +kernel
theorem dX11_force_21 : decode cX11_force 21 = .ok (.ireturn, 1) := by decide +kernel
theorem dX11_force_22 : decode cX11_force 22 = .ok (.aload_n 0, 1) := by decide +kernel
theorem dX11_force_23 : decode cX11_force 23 = .ok (.getfield 9, 3) := by decide +kernel
theorem dX11_force_26 : decode cX11_force 26 = .ok (.istore_n 2, 1) := by decide +kernel
theorem dX11_force_27 : decode cX11_force 27 = .ok (.aload_n 0, 1) := by decide +kernel
theorem dX11_force_28 : decode cX11_force 28 = .ok (.iload_n 1, 1) := by decide +kernel
theorem dX11_force_29 : decode cX11_force 29 = .ok (.putfield 9, 3) := by decide +kernel
theorem dX11_force_32 : decode cX11_force 32 = .ok (.iload_n 2, 1) := by decide +kernel
theorem dX11_force_33 : decode cX11_force 33 = .ok (.ireturn, 1) := by decide +kernel
theorem dX11_isOf_0 : decode cX11_isOf 0 = .ok (.iload_n 2, 1) := by decide +kernel
theorem dX11_isOf_1 : decode cX11_isOf 1 = .ok (.aload_n 0, 1) := by decide +kernel
theorem dX11_isOf_2 : decode cX11_isOf 2 = .ok (.getfield 110, 3) := by decide +kernel
theorem dX11_isOf_5 : decode cX11_isOf 5 = .ok (.iload_n 1, 1) := by decide +kernel
theorem dX11_isOf_6 : decode cX11_isOf 6 = .ok (.iaload, 1) := by decide +kernel
theorem dX11_isOf_7 : decode cX11_isOf 7 = .ok (.isub, 1) := by decide +kernel
theorem dX11_isOf_8 : decode cX11_isOf 8 = .ok (.istore_n 3, 1) := by decide +kernel
theorem dX11_isOf_9 : decode cX11_isOf 9 = .ok (.iload_n 3, 1) := by decide +kernel
theorem dX11_isOf_10 : decode cX11_isOf 10 = .ok (.ifCond .ge 5, 3) := by decide +kernel
theorem dX11_isOf_13 : decode cX11_isOf 13 = .ok (.iconst 0, 1) := by decide +kernel
theorem dX11_isOf_14 : decode cX11_isOf 14 = .ok (.ireturn, 1) := by decide +kernel
theorem dX11_isOf_15 : decode cX11_isOf 15 = .ok (.aload_n 0, 1) := by decide +kernel
theorem dX11_isOf_16 : decode cX11_isOf 16 = .ok (.getfield 116, 3) := by decide +kernel
theorem dX11_isOf_19 : decode cX11_isOf 19 = .ok (.iload_n 1, 1) := by decide +kernel
theorem dX11_isOf_20 : decode cX11_isOf 20 = .ok (.iaload, 1) := by decide +kernel
theorem dX11_isOf_21 : decode cX11_isOf 21 = .ok (.ifCond .le 12, 3) := by decide +kernel
theorem dX11_isOf_24 : decode cX11_isOf 24 = .ok (.iload_n 3, 1) := by decide +kernel
theorem dX11_isOf_25 : decode cX11_isOf 25 = .ok (.aload_n 0, 1) := by decide +kernel
theorem dX11_isOf_26 : decode cX11_isOf 26 = .ok (.getfield 116, 3) := by decide +kernel
theorem dX11_isOf_29 : decode cX11_isOf 29 = .ok (.iload_n 1, 1) := by decide +kernel
theorem dX11_isOf_30 : decode cX11_isOf 30 = .ok (.iaload, 1) := by decide +kernel
theorem dX11_isOf_31 : decode cX11_isOf 31 = .ok (.irem, 1) := by decide +kernel
theorem dX11_isOf_32 : decode cX11_isOf 32 = .ok (.istore_n 3, 1) := by decide +kernel
theorem dX11_isOf_33 : decode cX11_isOf 33 = .ok (.iload_n 3, 1) := by decide +kernel
theorem dX11_isOf_34 : decode cX11_isOf 34 = .ok (.aload_n 0, 1) := by decide +kernel
theorem dX11_isOf_35 : decode cX11_isOf 35 = .ok (.getfield 113, 3) := by decide +kernel
theorem dX11_isOf_38 : decode cX11_isOf 38 = .ok (.iload_n 1, 1) := by decide +kernel
theorem dX11_isOf_39 : decode cX11_isOf 39 = .ok (.iaload, 1) := by decide +kernel
theorem dX11_isOf_40 : decode cX11_isOf 40 = .ok (.aload_n 0, 1) := by decide +kernel
theorem dX11_isOf_41 : decode cX11_isOf 41 = .ok (.getfield 110, 3) := by decide +kernel
theorem dX11_isOf_44 : decode cX11_isOf 44 = .ok (.iload_n 1, 1) := by decide +kernel
theorem dX11_isOf_45 : decode cX11_isOf 45 = .ok (.iaload, 1) := by decide +kernel
theorem dX11_isOf_46 : decode cX11_isOf 46 = .ok (.isub, 1) := by decide +kernel
theorem dX11_isOf_47 : decode cX11_isOf 47 = .ok (.if_icmp .gt 7, 3) := by decide +kernel
theorem dX11_isOf_50 : decode cX11_isOf 50 = .ok (.iconst 1, 1) := by decide +kernel
theorem dX11_isOf_51 : decode cX11_isOf 51 = .ok (.goto 4, 3) := by decide +kernel
theorem dX11_isOf_54 : decode cX11_isOf 54 = .ok (.iconst 0, 1) := by decide +kernel
theorem dX11_isOf_55 : decode cX11_isOf 55 = .ok (.ireturn, 1) := by decide +kernel
theorem dX11_isOff_0 : decode cX11_isOff 0 = .ok (.aload_n 0, 1) := by decide +kernel
theorem dX11_isOff_1 : decode cX11_isOff 1 = .ok (.getfield 9, 3) := by decide +kernel
theorem dX11_isOff_4 : decode cX11_isOff 4 = .ok (.iconst (-1), 1) := by decide +kernel
theorem dX11_isOff_5 : decode cX11_isOff 5 = .ok (.if_icmp .eq 74, 3) := by decide +kernel
theorem dX11_isOff_8 : decode cX11_isOff 8 = .ok (.aload_n 0, 1) := by decide +kernel
theorem dX11_isOff_9 : decode cX11_isOff 9 = .ok (.getfield 101, 3) := by decide +kernel
theorem dX11_isOff_12 : decode cX11_isOff 12 = .ok (.aload_n 0, 1) := by decide +kernel
theorem dX11_isOff_13 : decode cX11_isOff 13 = .ok (.getfield 9, 3) := by decide +kernel
theorem dX11_isOff_16 : decode cX11_isOff 16 = .ok (.iaload, 1) := by decide +kernel
theorem dX11_isOff_17 : decode cX11_isOff 17 = .ok (.iconst 1, 1) := by decide +kernel
theorem dX11_isOff_18 : decode cX11_isOff 18 = .ok (.isub, 1) := by decide +kernel
theorem dX11_isOff_19 : decode cX11_isOff 19 = .ok (.istore_n 3, 1) := by decide +kernel
theorem dX11_isOff_20 : decode cX11_isOff 20 = .ok (.iload_n 3, 1) := by decide +kernel
theorem dX11_isOff_21 : decode cX11_isOff 21 = .ok (.ifCond .lt 58, 3) := by decide +kernel
theorem dX11_isOff_24 : decode cX11_isOff 24 = .ok (.bipush 8, 2) := by decide +kernel
theorem dX11_isOff_26 : decode cX11_isOff 26 = .ok (.aload_n 0, 1) := by decide +kernel
theorem dX11_isOff_27 : decode cX11_isOff 27 = .ok (.getfield 9, 3) := by decide +kernel
theorem dX11_isOff_30 : decode cX11_isOff 30 = .ok (.imul, 1) := by decide +kernel
theorem dX11_isOff_31 : decode cX11_isOff 31 = .ok (.iload_n 3, 1) := by decide +kernel
theorem dX11_isOff_32 : decode cX11_isOff 32 = .ok (.iadd, 1) := by decide +kernel
theorem dX11_isOff_33 : decode cX11_isOff 33 = .ok (.istore 4, 2) := by decide +kernel
theorem dX11_isOff_35 : decode cX11_isOff 35 = .ok (.aload_n 0, 1) := by decide +kernel
theorem dX11_isOff_36 : decode cX11_isOff 36 = .ok (.getfield 107, 3) := by decide +kernel
theorem dX11_isOff_39 : decode cX11_isOff 39 = .ok (.iload 4, 2) := by decide +kernel
theorem dX11_isOff_41 : decode cX11_isOff 41 = .ok (.iaload, 1) := by decide +kernel
theorem dX11_isOff_42 : decode cX11_isOff 42 = .ok (.iload_n 1, 1) := by decide +kernel
theorem dX11_isOff_43 : decode cX11_isOff 43 = .ok (.if_icmp .ne 30, 3) := by decide +kernel
theorem dX11_isOff_46 : decode cX11_isOff 46 = .ok (.aload_n 0, 1) := by decide +kernel
theorem dX11_isOff_47 : decode cX11_isOff 47 = .ok (.iload 4, 2) := by decide +kernel
theorem dX11_isOff_49 : decode cX11_isOff 49 = .ok (.iload_n 2, 1) := by decide +kernel
theorem dX11_isOff_50 : decode cX11_isOff 50 = .ok (.invokevirtual 260, 3) := by decide +kernel
theorem dX11_isOff_53 : decode cX11_isOff 53 = .ok (.ifCond .eq 20, 3) := by decide +kernel
theorem dX11_isOff_56 : decode cX11_isOff 56 = .ok (.aload_n 0, 1) := by decide +kernel
theorem dX11_isOff_57 : decode cX11_isOff 57 = .ok (.getfield 104, 3) := by decide +kernel
theorem dX11_isOff_60 : decode cX11_isOff 60 = .ok (.iload 4, 2) := by decide +kernel
theorem dX11_isOff_62 : decode cX11_isOff 62 = .ok (.iaload, 1) := by decide +kernel
theorem dX11_isOff_63 : decode cX11_isOff 63 = .ok (.iconst 1, 1) := by decide +kernel
theorem dX11_isOff_64 : decode cX11_isOff 64 = .ok (.if_icmp .ne 7, 3) := by decide +kernel
theorem dX11_isOff_67 : decode cX11_isOff 67 = .ok (.iconst 1, 1) := by decide +kernel
theorem dX11_isOff_68 : decode cX11_isOff 68 = .ok (.goto 4, 3) := by decide +kernel
theorem dX11_isOff_71 : decode cX11_isOff 71 = .ok (.iconst 0, 1) := by decide +kernel
theorem dX11_isOff_72 : decode cX11_isOff 72 = .ok (.ireturn, 1) := by decide +kernel
theorem dX11_isOff_73 : decode cX11_isOff 73 = .ok (.iinc 3 (-1), 3) := by decide +kernel
theorem dX11_isOff_76 : decode cX11_isOff 76 = .ok (.goto (-56), 3) := by decide +kernel
theorem dX11_isOff_79 : decode cX11_isOff 79 = .ok (.aload_n 0, 1) := by decide +kernel
theorem dX11_isOff_80 : decode cX11_isOff 80 = .ok (.getfield 65, 3) := by decide +kernel
theorem dX11_isOff_83 : decode cX11_isOff 83 = .ok (.iload_n 1, 1) := by decide +kernel
theorem dX11_isOff_84 : decode cX11_isOff 84 = .ok (.iaload, 1) := by decide +kernel
theorem dX11_isOff_85 : decode cX11_isOff 85 = .ok (.iconst 1, 1) := by decide +kernel
theorem dX11_isOff_86 : decode cX11_isOff 86 = .ok (.if_icmp .ne 7, 3) := by decide +kernel
theorem dX11_isOff_89 : decode cX11_isOff 89 = .ok (.iconst 1, 1) := by decide +kernel
theorem dX11_isOff_90 : decode cX11_isOff 90 = .ok (.goto 4, 3) := by decide +kernel
theorem dX11_isOff_93 : decode cX11_isOff 93 = .ok (.iconst 0, 1) := by decide +kernel
theorem dX11_isOff_94 : decode cX11_isOff 94 = .ok (.ireturn, 1) := by decide +kernel
theorem dX11_isFan_0 : decode cX11_isFan 0 = .ok (.aload_n 0, 1) := by decide +kernel
theorem dX11_isFan_1 : decode cX11_isFan 1 = .ok (.getfield 44, 3) := by decide +kernel
theorem dX11_isFan_4 : decode cX11_isFan 4 = .ok (.iload_n 1, 1) := by decide +kernel
theorem dX11_isFan_5 : decode cX11_isFan 5 = .ok (.iaload, 1) := by decide +kernel
theorem dX11_isFan_6 : decode cX11_isFan 6 = .ok (.iconst 1, 1) := by decide +kernel
theorem dX11_isFan_7 : decode cX11_isFan 7 = .ok (.if_icmp .eq 14, 3) := by decide +kernel
theorem dX11_isFan_10 : decode cX11_isFan 10 = .ok (.aload_n 0, 1) := by decide +kernel
theorem dX11_isFan_11 : decode cX11_isFan 11 = .ok (.getfield 44, 3) := by decide +kernel
theorem dX11_isFan_14 : decode cX11_isFan 14 = .ok (.iload_n 1, 1) := by decide +kernel
theorem dX11_isFan_15 : decode cX11_isFan 15 = .ok (.iaload, 1) := by decide +kernel
theorem dX11_isFan_16 : decode cX11_isFan 16 = .ok (.bipush 7, 2) := by decide +kernel
theorem dX11_isFan_18 : decode cX11_isFan 18 = .ok (.if_icmp .ne 7, 3) := by decide +kernel
theorem dX11_isFan_21 : decode cX11_isFan 21 = .ok (.iconst 1, 1) := by decide +kernel
theorem dX11_isFan_22 : decode cX11_isFan 22 = .ok (.goto 4, 3) := by decide +kernel
theorem dX11_isFan_25 : decode cX11_isFan 25 = .ok (.iconst 0, 1) := by decide +kernel
theorem dX11_isFan_26 : decode cX11_isFan 26 = .ok (.ireturn, 1) := by decide +kernel
theorem dX11_isFanning_0 : decode cX11_isFanning 0 = .ok (.iload_n 2, 1) := by decide +kernel
theorem dX11_isFanning_1 : decode cX11_isFanning 1 = .ok (.bipush 24, 2) := by decide +kernel
theorem dX11_isFanning_3 : decode cX11_isFanning 3 = .ok (.irem, 1) := by decide +kernel
theorem dX11_isFanning_4 : decode cX11_isFanning 4 = .ok (.istore_n 3, 1) := by decide +kernel
theorem dX11_isFanning_5 : decode cX11_isFanning 5 = .ok (.aload_n 0, 1) := by decide +kernel
theorem dX11_isFanning_6 : decode cX11_isFanning 6 = .ok (.getfield 56, 3) := by decide +kernel
theorem dX11_isFanning_9 : decode cX11_isFanning 9 = .ok (.iload_n 1, 1) := by decide +kernel
theorem dX11_isFanning_10 : decode cX11_isFanning 10 = .ok (.iaload, 1) := by decide +kernel
theorem dX11_isFanning_11 : decode cX11_isFanning 11 = .ok (.aload_n 0, 1) := by decide +kernel
theorem dX11_isFanning_12 : decode cX11_isFanning 12 = .ok (.getfield 59, 3) := by decide +kernel
theorem dX11_isFanning_15 : decode cX11_isFanning 15 = .ok (.iload_n 1, 1) := by decide +kernel
theorem dX11_isFanning_16 : decode cX11_isFanning 16 = .ok (.iaload, 1) := by decide +kernel
theorem dX11_isFanning_17 : decode cX11_isFanning 17 = .ok (.if_icmp .gt 31, 3) := by decide +kernel
theorem dX11_isFanning_20 : decode cX11_isFanning 20 = .ok (.iload_n 3, 1) := by decide +kernel
theorem dX11_isFanning_21 : decode cX11_isFanning 21 = .ok (.aload_n 0, 1) := by decide +kernel
theorem dX11_isFanning_22 : decode cX11_isFanning 22 = .ok (.getfield 56, 3) := by decide +kernel
theorem dX11_isFanning_25 : decode cX11_isFanning 25 = .ok (.iload_n 1, 1) := by decide +kernel
theorem dX11_isFanning_26 : decode cX11_isFanning 26 = .ok (.iaload, 1) := by decide +kernel
theorem dX11_isFanning_27 : decode cX11_isFanning 27 = .ok (.if_icmp .lt 17, 3) := by decide +kernel
theorem dX11_isFanning_30 : decode cX11_isFanning 30 = .ok (.iload_n 3, 1) := by decide +kernel
theorem dX11_isFanning_31 : decode cX11_isFanning 31 = .ok (.aload_n 0, 1) := by decide +kernel
theorem dX11_isFanning_32 : decode cX11_isFanning 32 = .ok (.getfield 59, 3) := by decide +kernel
theorem dX11_isFanning_35 : decode cX11_isFanning 35 = .ok (.iload_n 1, 1) := by decide +kernel
theorem dX11_isFanning_36 : decode cX11_isFanning 36 = .ok (.iaload, 1) := by decide +kernel
theorem dX11_isFanning_37 : decode cX11_isFanning 37 = .ok (.if_icmp .gt 7, 3) := by decide +kernel
theorem dX11_isFanning_40 : decode cX11_isFanning 40 = .ok (.iconst 1, 1) := by decide +kernel
theorem dX11_isFanning_41 : decode cX11_isFanning 41 = .ok (.goto 32, 3) := by decide +kernel
theorem dX11_isFanning_44 : decode cX11_isFanning 44 = .ok (.iconst 0, 1) := by decide +kernel
theorem dX11_isFanning_45 : decode cX11_isFanning 45 = .ok (.goto 28, 3) := by decide +kernel
theorem dX11_isFanning_48 : decode cX11_isFanning 48 = .ok (.iload_n 3, 1) := by decide +kernel
theorem dX11_isFanning_49 : decode cX11_isFanning 49 = .ok (.aload_n 0, 1) := by decide +kernel
theorem dX11_isFanning_50 : decode cX11_isFanning 50 = .ok (.getfield 56, 3) := by decide +kernel
theorem dX11_isFanning_53 : decode cX11_isFanning 53 = .ok (.iload_n 1, 1) := by decide +kernel
theorem dX11_isFanning_54 : decode cX11_isFanning 54 = .ok (.iaload, 1) := by decide +kernel
theorem dX11_isFanning_55 : decode cX11_isFanning 55 = .ok (.if_icmp .ge 13, 3) := by decide +kernel
theorem dX11_isFanning_58 : decode cX11_isFanning 58 = .ok (.iload_n 3, 1) := by decide +kernel
theorem dX11_isFanning_59 : decode cX11_isFanning 59 = .ok (.aload_n 0, 1) := by decide +kernel
theorem dX11_isFanning_60 : decode cX11_isFanning 60 = .ok (.getfield 59, 3) := by decide +kernel
theorem dX11_isFanning_63 : decode cX11_isFanning 63 = .ok (.iload_n 1, 1) := by decide +kernel
theorem dX11_isFanning_64 : decode cX11_isFanning 64 = .ok (.iaload, 1) := by decide +kernel
theorem dX11_isFanning_65 : decode cX11_isFanning 65 = .ok (.if_icmp .gt 7, 3) := by decide +kernel
theorem dX11_isFanning_68 : decode cX11_isFanning 68 = .ok (.iconst 1, 1) := by decide +kernel
theorem dX11_isFanning_69 : decode cX11_isFanning 69 = .ok (.goto 4, 3) := by decide +kernel
theorem dX11_isFanning_72 : decode cX11_isFanning 72 = .ok (.iconst 0, 1) := by decide +kernel
theorem dX11_isFanning_73 : decode cX11_isFanning 73 = .ok (.istore 4, 2) := by decide +kernel
theorem dX11_isFanning_75 : decode cX11_isFanning 75 = .ok (.iload 4, 2) := by decide +kernel
theorem dX11_isFanning_77 : decode cX11_isFanning 77 = .ok (.ifCond .eq 16, 3) := by decide +kernel
theorem dX11_isFanning_80 : decode cX11_isFanning 80 = .ok (.aload_n 0, 1) := by decide +kernel
theorem dX11_isFanning_81 : decode cX11_isFanning 81 = .ok (.iload_n 1, 1) := by decide +kernel
theorem dX11_isFanning_82 : decode cX11_isFanning 82 = .ok (.iload_n 2, 1) := by decide +kernel
theorem dX11_isFanning_83 : decode cX11_isFanning 83 = .ok (.invokevirtual 263, 3) := by decide +kernel
theorem dX11_isFanning_86 : decode cX11_isFanning 86 = .ok (.ifCond .ne 7, 3) := by decide +kernel
theorem dX11_isFanning_89 : decode cX11_isFanning 89 = .ok (.iconst 1, 1) := by decide +kernel
theorem dX11_isFanning_90 : decode cX11_isFanning 90 = .ok (.goto 4, 3) := by decide +kernel
theorem dX11_isFanning_93 : decode cX11_isFanning 93 = .ok (.iconst 0, 1) := by decide +kernel
theorem dX11_isFanning_94 : decode cX11_isFanning 94 = .ok (.ireturn, 1) := by decide +kernel
theorem dX11_beat_0 : decode cX11_beat 0 = .ok (.aload_n 0, 1) := by decide +kernel
theorem dX11_beat_1 : decode cX11_beat 1 = .ok (.aload_n 0, 1) := by decide +kernel
theorem dX11_beat_2 : decode cX11_beat 2 = .ok (.getfield 50, 3) := by decide +kernel
theorem dX11_beat_5 : decode cX11_beat 5 = .ok (.iload_n 1, 1) := by decide +kernel
theorem dX11_beat_6 : decode cX11_beat 6 = .ok (.iaload, 1) := by decide +kernel
theorem dX11_beat_7 : decode cX11_beat 7 = .ok (.aload_n 0, 1) := by decide +kernel
theorem dX11_beat_8 : decode cX11_beat 8 = .ok (.getfield 50, 3) := by decide +kernel
theorem dX11_beat_11 : decode cX11_beat 11 = .ok (.iload_n 2, 1) := by decide +kernel
theorem dX11_beat_12 : decode cX11_beat 12 = .ok (.iaload, 1) := by decide +kernel
theorem dX11_beat_13 : decode cX11_beat 13 = .ok (.invokevirtual 266, 3) := by decide +kernel
theorem dX11_beat_16 : decode cX11_beat 16 = .ok (.istore_n 3, 1) := by decide +kernel
theorem dX11_beat_17 : decode cX11_beat 17 = .ok (.iload_n 3, 1) := by decide +kernel
theorem dX11_beat_18 : decode cX11_beat 18 = .ok (.iconst 1, 1) := by decide +kernel
theorem dX11_beat_19 : decode cX11_beat 19 = .ok (.if_icmp .lt 12, 3) := by decide +kernel
theorem dX11_beat_22 : decode cX11_beat 22 = .ok (.iload_n 3, 1) := by decide +kernel
theorem dX11_beat_23 : decode cX11_beat 23 = .ok (.iconst 4, 1) := by decide +kernel
theorem dX11_beat_24 : decode cX11_beat 24 = .ok (.if_icmp .gt 7, 3) := by decide +kernel
theorem dX11_beat_27 : decode cX11_beat 27 = .ok (.iconst 1, 1) := by decide +kernel
theorem dX11_beat_28 : decode cX11_beat 28 = .ok (.goto 4, 3) := by decide +kernel
theorem dX11_beat_31 : decode cX11_beat 31 = .ok (.iconst 0, 1) := by decide +kernel
theorem dX11_beat_32 : decode cX11_beat 32 = .ok (.ireturn, 1) := by decide +kernel
theorem dX11_isSounding_0 : decode cX11_isSounding 0 = .ok (.aload_n 0, 1) := by decide +kernel
theorem dX11_isSounding_1 : decode cX11_isSounding 1 = .ok (.iload_n 1, 1) := by decide +kernel
theorem dX11_isSounding_2 : decode cX11_isSounding 2 = .ok (.iload_n 2, 1) := by decide +kernel
theorem dX11_isSounding_3 : decode cX11_isSounding 3 = .ok (.invokevirtual 263, 3) := by decide +kernel
theorem dX11_isSounding_6 : decode cX11_isSounding 6 = .ok (.ifCond .eq 5, 3) := by decide +kernel
theorem dX11_isSounding_9 : decode cX11_isSounding 9 = .ok (.iconst 0, 1) := by decide +kernel
theorem dX11_isSounding_10 : decode cX11_isSounding 10 = .ok (.ireturn, 1) := by decide +kernel
theorem dX11_isSounding_11 : decode cX11_isSounding 11 = .ok (.aload_n 0, 1) := by decide +kernel
theorem dX11_isSounding_12 : decode cX11_isSounding 12 = .ok (.getfield 44, 3) := by decide +kernel
theorem dX11_isSounding_15 : decode cX11_isSounding 15 = .ok (.iload_n 1, 1) := by decide +kernel
theorem dX11_isSounding_16 : decode cX11_isSounding 16 = .ok (.iaload, 1) := by decide +kernel
theorem dX11_isSounding_17 : decode cX11_isSounding 17 = .ok (.tableswitch 147 1 7 #[43, 147, 147, 147, 50, 66, 85], 43) := by decide +kernel
theorem dX11_isSounding_60 : decode cX11_isSounding 60 = .ok (.aload_n 0, 1) := by decide +kernel
theorem dX11_isSounding_61 : decode cX11_isSounding 61 = .ok (.iload_n 1, 1) := by decide +kernel
theorem dX11_isSounding_62 : decode cX11_isSounding 62 = .ok (.iload_n 2, 1) := by decide +kernel
theorem dX11_isSounding_63 : decode cX11_isSounding 63 = .ok (.invokevirtual 270, 3) := by decide +kernel
theorem dX11_isSounding_66 : decode cX11_isSounding 66 = .ok (.ireturn, 1) := by decide +kernel
theorem dX11_isSounding_67 : decode cX11_isSounding 67 = .ok (.iload_n 2, 1) := by decide +kernel
theorem dX11_isSounding_68 : decode cX11_isSounding 68 = .ok (.aload_n 0, 1) := by decide +kernel
theorem dX11_isSounding_69 : decode cX11_isSounding 69 = .ok (.getfield 20, 3) := by decide +kernel
theorem dX11_isSounding_72 : decode cX11_isSounding 72 = .ok (.iconst 5, 1) := by decide +kernel
theorem dX11_isSounding_73 : decode cX11_isSounding 73 = .ok (.iaload, 1) := by decide +kernel
theorem dX11_isSounding_74 : decode cX11_isSounding 74 = .ok (.if_icmp .lt 7, 3) := by decide +kernel
theorem dX11_isSounding_77 : decode cX11_isSounding 77 = .ok (.iconst 1, 1) := by decide +kernel
theorem dX11_isSounding_78 : decode cX11_isSounding 78 = .ok (.goto 4, 3) := by decide +kernel
theorem dX11_isSounding_81 : decode cX11_isSounding 81 = .ok (.iconst 0, 1) := by decide +kernel
theorem dX11_isSounding_82 : decode cX11_isSounding 82 = .ok (.ireturn, 1) := by decide +kernel
theorem dX11_isSounding_83 : decode cX11_isSounding 83 = .ok (.aload_n 0, 1) := by decide +kernel
theorem dX11_isSounding_84 : decode cX11_isSounding 84 = .ok (.getfield 26, 3) := by decide +kernel
theorem dX11_isSounding_87 : decode cX11_isSounding 87 = .ok (.iload_n 2, 1) := by decide +kernel
theorem dX11_isSounding_88 : decode cX11_isSounding 88 = .ok (.bipush 24, 2) := by decide +kernel
theorem dX11_isSounding_90 : decode cX11_isSounding 90 = .ok (.idiv, 1) := by decide +kernel
theorem dX11_isSounding_91 : decode cX11_isSounding 91 = .ok (.iaload, 1) := by decide +kernel
theorem dX11_isSounding_92 : decode cX11_isSounding 92 = .ok (.iconst 1, 1) := by decide +kernel
theorem dX11_isSounding_93 : decode cX11_isSounding 93 = .ok (.if_icmp .ne 7, 3) := by decide +kernel
theorem dX11_isSounding_96 : decode cX11_isSounding 96 = .ok (.iconst 1, 1) := by decide +kernel
theorem dX11_isSounding_97 : decode cX11_isSounding 97 = .ok (.goto 4, 3) := by decide +kernel
theorem dX11_isSounding_100 : decode cX11_isSounding 100 = .ok (.iconst 0, 1) := by decide +kernel
theorem dX11_isSounding_101 : decode cX11_isSounding 101 = .ok (.ireturn, 1) := by decide +kernel
theorem dX11_isSounding_102 : decode cX11_isSounding 102 = .ok (.aload_n 0, 1) := by decide +kernel
theorem dX11_isSounding_103 : decode cX11_isSounding 103 = .ok (.iload_n 1, 1) := by decide +kernel
theorem dX11_isSounding_104 : decode cX11_isSounding 104 = .ok (.iload_n 2, 1) := by decide +kernel
theorem dX11_isSounding_105 : decode cX11_isSounding 105 = .ok (.invokevirtual 270, 3) := by decide +kernel
theorem dX11_isSounding_108 : decode cX11_isSounding 108 = .ok (.ifCond .ne 5, 3) := by decide +kernel
theorem dX11_isSounding_111 : decode cX11_isSounding 111 = .ok (.iconst 0, 1) := by decide +kernel
theorem dX11_isSounding_112 : decode cX11_isSounding 112 = .ok (.ireturn, 1) := by decide +kernel
theorem dX11_isSounding_113 : decode cX11_isSounding 113 = .ok (.iconst 0, 1) := by decide +kernel
theorem dX11_isSounding_114 : decode cX11_isSounding 114 = .ok (.istore_n 3, 1) := by decide +kernel
theorem dX11_isSounding_115 : decode cX11_isSounding 115 = .ok (.iload_n 3, 1) := by decide +kernel
theorem dX11_isSounding_116 : decode cX11_isSounding 116 = .ok (.aload_n 0, 1) := by decide +kernel
theorem dX11_isSounding_117 : decode cX11_isSounding 117 = .ok (.getfield 174, 3) := by decide +kernel
theorem dX11_isSounding_120 : decode cX11_isSounding 120 = .ok (.if_icmp .ge 42, 3) := by decide +kernel
theorem dX11_isSounding_123 : decode cX11_isSounding 123 = .ok (.iload_n 3, 1) := by decide +kernel
theorem dX11_isSounding_124 : decode cX11_isSounding 124 = .ok (.iload_n 1, 1) := by decide +kernel
theorem dX11_isSounding_125 : decode cX11_isSounding 125 = .ok (.if_icmp .eq 31, 3) := by decide +kernel
theorem dX11_isSounding_128 : decode cX11_isSounding 128 = .ok (.aload_n 0, 1) := by decide +kernel
theorem dX11_isSounding_129 : decode cX11_isSounding 129 = .ok (.iload_n 3, 1) := by decide +kernel
theorem dX11_isSounding_130 : decode cX11_isSounding 130 = .ok (.invokevirtual 273, 3) := by decide +kernel
theorem dX11_isSounding_133 : decode cX11_isSounding 133 = .ok (.ifCond .eq 23, 3) := by decide +kernel
theorem dX11_isSounding_136 : decode cX11_isSounding 136 = .ok (.aload_n 0, 1) := by decide +kernel
theorem dX11_isSounding_137 : decode cX11_isSounding 137 = .ok (.iload_n 1, 1) := by decide +kernel
theorem dX11_isSounding_138 : decode cX11_isSounding 138 = .ok (.iload_n 3, 1) := by decide +kernel
theorem dX11_isSounding_139 : decode cX11_isSounding 139 = .ok (.invokevirtual 276, 3) := by decide +kernel
theorem dX11_isSounding_142 : decode cX11_isSounding 142 = .ok (.ifCond .eq 14, 3) := by decide +kernel
theorem dX11_isSounding_145 : decode cX11_isSounding 145 = .ok (.aload_n 0, 1) := by decide +kernel
theorem dX11_isSounding_146 : decode cX11_isSounding 146 = .ok (.iload_n 3, 1) := by decide +kernel
theorem dX11_isSounding_147 : decode cX11_isSounding 147 = .ok (.iload_n 2, 1) := by decide +kernel
theorem dX11_isSounding_148 : decode cX11_isSounding 148 = .ok (.invokevirtual 270, 3) := by decide +kernel
theorem dX11_isSounding_151 : decode cX11_isSounding 151 = .ok (.ifCond .eq 5, 3) := by decide +kernel
theorem dX11_isSounding_154 : decode cX11_isSounding 154 = .ok (.iconst 1, 1) := by decide +kernel
theorem dX11_isSounding_155 : decode cX11_isSounding 155 = .ok (.ireturn, 1) := by decide +kernel
theorem dX11_isSounding_156 : decode cX11_isSounding 156 = .ok (.iinc 3 1, 3) := by decide +kernel
theorem dX11_isSounding_159 : decode cX11_isSounding 159 = .ok (.goto (-44), 3) := by decide +kernel
theorem dX11_isSounding_162 : decode cX11_isSounding 162 = .ok (.iconst 0, 1) := by decide +kernel
theorem dX11_isSounding_163 : decode cX11_isSounding 163 = .ok (.ireturn, 1) := by decide +kernel
theorem dX11_isSounding_164 : decode cX11_isSounding 164 = .ok (.iconst 1, 1) := by decide +kernel
theorem dX11_isSounding_165 : decode cX11_isSounding 165 = .ok (.ireturn, 1) := by decide +kernel
theorem dX11_isTalk_0 : decode cX11_isTalk 0 = .ok (.aload_n 0, 1) := by decide +kernel
theorem dX11_isTalk_1 : decode cX11_isTalk 1 = .ok (.getfield 44, 3) := by decide +kernel
theorem dX11_isTalk_4 : decode cX11_isTalk 4 = .ok (.iload_n 1, 1) := by decide +kernel
theorem dX11_isTalk_5 : decode cX11_isTalk 5 = .ok (.iaload, 1) := by decide +kernel
theorem dX11_isTalk_6 : decode cX11_isTalk 6 = .ok (.iconst 4, 1) := by decide +kernel
theorem dX11_isTalk_7 : decode cX11_isTalk 7 = .ok (.if_icmp .eq 13, 3) := by decide +kernel
theorem dX11_isTalk_10 : decode cX11_isTalk 10 = .ok (.aload_n 0, 1) := by decide +kernel
theorem dX11_isTalk_11 : decode cX11_isTalk 11 = .ok (.getfield 44, 3) := by decide +kernel
theorem dX11_isTalk_14 : decode cX11_isTalk 14 = .ok (.iload_n 1, 1) := by decide +kernel
theorem dX11_isTalk_15 : decode cX11_isTalk 15 = .ok (.iaload, 1) := by decide +kernel
theorem dX11_isTalk_16 : decode cX11_isTalk 16 = .ok (.iconst 5, 1) := by decide +kernel
theorem dX11_isTalk_17 : decode cX11_isTalk 17 = .ok (.if_icmp .ne 7, 3) := by decide +kernel
theorem dX11_isTalk_20 : decode cX11_isTalk 20 = .ok (.iconst 1, 1) := by decide +kernel
theorem dX11_isTalk_21 : decode cX11_isTalk 21 = .ok (.goto 4, 3) := by decide +kernel
theorem dX11_isTalk_24 : decode cX11_isTalk 24 = .ok (.iconst 0, 1) := by decide +kernel
theorem dX11_isTalk_25 : decode cX11_isTalk 25 = .ok (.ireturn, 1) := by decide +kernel
theorem dX11_level_0 : decode cX11_level 0 = .ok (.aload_n 0, 1) := by decide +kernel
theorem dX11_level_1 : decode cX11_level 1 = .ok (.iload_n 1, 1) := by decide +kernel
theorem dX11_level_2 : decode cX11_level 2 = .ok (.invokevirtual 279, 3) := by decide +kernel
theorem dX11_level_5 : decode cX11_level 5 = .ok (.ifCond .eq 10, 3) := by decide +kernel
theorem dX11_level_8 : decode cX11_level 8 = .ok (.aload_n 0, 1) := by decide +kernel
theorem dX11_level_9 : decode cX11_level 9 = .ok (.getfield 53, 3) := by decide +kernel
theorem dX11_level_12 : decode cX11_level 12 = .ok (.iload_n 1, 1) := by decide +kernel
theorem dX11_level_13 : decode cX11_level 13 = .ok (.iaload, 1) := by decide +kernel
theorem dX11_level_14 : decode cX11_level 14 = .ok (.ireturn, 1) := by decide +kernel
theorem dX11_level_15 : decode cX11_level 15 = .ok (.aload_n 0, 1) := by decide +kernel
theorem dX11_level_16 : decode cX11_level 16 = .ok (.aload_n 0, 1) := by decide +kernel
theorem dX11_level_17 : decode cX11_level 17 = .ok (.getfield 47, 3) := by decide +kernel
theorem dX11_level_20 : decode cX11_level 20 = .ok (.iload_n 1, 1) := by decide +kernel
theorem dX11_level_21 : decode cX11_level 21 = .ok (.iaload, 1) := by decide +kernel
theorem dX11_level_22 : decode cX11_level 22 = .ok (.bipush 8, 2) := by decide +kernel
theorem dX11_level_24 : decode cX11_level 24 = .ok (.idiv, 1) := by decide +kernel
theorem dX11_level_25 : decode cX11_level 25 = .ok (.iload_n 2, 1) := by decide +kernel
theorem dX11_level_26 : decode cX11_level 26 = .ok (.bipush 8, 2) := by decide +kernel
theorem dX11_level_28 : decode cX11_level 28 = .ok (.idiv, 1) := by decide +kernel
theorem dX11_level_29 : decode cX11_level 29 = .ok (.invokevirtual 266, 3) := by decide +kernel
theorem dX11_level_32 : decode cX11_level 32 = .ok (.aload_n 0, 1) := by decide +kernel
theorem dX11_level_33 : decode cX11_level 33 = .ok (.aload_n 0, 1) := by decide +kernel
theorem dX11_level_34 : decode cX11_level 34 = .ok (.getfield 47, 3) := by decide +kernel
theorem dX11_level_37 : decode cX11_level 37 = .ok (.iload_n 1, 1) := by decide +kernel
theorem dX11_level_38 : decode cX11_level 38 = .ok (.iaload, 1) := by decide +kernel
theorem dX11_level_39 : decode cX11_level 39 = .ok (.bipush 8, 2) := by decide +kernel
theorem dX11_level_41 : decode cX11_level 41 = .ok (.irem, 1) := by decide +kernel
theorem dX11_level_42 : decode cX11_level 42 = .ok (.iload_n 2, 1) := by decide +kernel
theorem dX11_level_43 : decode cX11_level 43 = .ok (.bipush 8, 2) := by decide +kernel
theorem dX11_level_45 : decode cX11_level 45 = .ok (.irem, 1) := by decide +kernel
theorem dX11_level_46 : decode cX11_level 46 = .ok (.invokevirtual 266, 3) := by decide +kernel
theorem dX11_level_49 : decode cX11_level 49 = .ok (.iadd, 1) := by decide +kernel
theorem dX11_level_50 : decode cX11_level 50 = .ok (.istore_n 3, 1) := by decide +kernel
theorem dX11_level_51 : decode cX11_level 51 = .ok (.aload_n 0, 1) := by decide +kernel
theorem dX11_level_52 : decode cX11_level 52 = .ok (.getfield 53, 3) := by decide +kernel
theorem dX11_level_55 : decode cX11_level 55 = .ok (.iload_n 1, 1) := by decide +kernel
theorem dX11_level_56 : decode cX11_level 56 = .ok (.iaload, 1) := by decide +kernel
theorem dX11_level_57 : decode cX11_level 57 = .ok (.aload_n 0, 1) := by decide +kernel
theorem dX11_level_58 : decode cX11_level 58 = .ok (.getfield 20, 3) := by decide +kernel
theorem dX11_level_61 : decode cX11_level 61 = .ok (.iconst 0, 1) := by decide +kernel
theorem dX11_level_62 : decode cX11_level 62 = .ok (.iaload, 1) := by decide +kernel
theorem dX11_level_63 : decode cX11_level 63 = .ok (.iload_n 3, 1) := by decide +kernel
theorem dX11_level_64 : decode cX11_level 64 = .ok (.imul, 1) := by decide +kernel
theorem dX11_level_65 : decode cX11_level 65 = .ok (.isub, 1) := by decide +kernel
theorem dX11_level_66 : decode cX11_level 66 = .ok (.istore 4, 2) := by decide +kernel
theorem dX11_level_68 : decode cX11_level 68 = .ok (.aload_n 0, 1) := by decide +kernel
theorem dX11_level_69 : decode cX11_level 69 = .ok (.getfield 44, 3) := by decide +kernel
theorem dX11_level_72 : decode cX11_level 72 = .ok (.iload_n 1, 1) := by decide +kernel
theorem dX11_level_73 : decode cX11_level 73 = .ok (.iaload, 1) := by decide +kernel
theorem dX11_level_74 : decode cX11_level 74 = .ok (.iconst 2, 1) := by decide +kernel
theorem dX11_level_75 : decode cX11_level 75 = .ok (.if_icmp .ne 22, 3) := by decide +kernel
theorem dX11_level_78 : decode cX11_level 78 = .ok (.aload_n 0, 1) := by decide +kernel
theorem dX11_level_79 : decode cX11_level 79 = .ok (.getfield 53, 3) := by decide +kernel
theorem dX11_level_82 : decode cX11_level 82 = .ok (.iload_n 1, 1) := by decide +kernel
theorem dX11_level_83 : decode cX11_level 83 = .ok (.iaload, 1) := by decide +kernel
theorem dX11_level_84 : decode cX11_level 84 = .ok (.aload_n 0, 1) := by decide +kernel
theorem dX11_level_85 : decode cX11_level 85 = .ok (.getfield 20, 3) := by decide +kernel
theorem dX11_level_88 : decode cX11_level 88 = .ok (.iconst 0, 1) := by decide +kernel
theorem dX11_level_89 : decode cX11_level 89 = .ok (.iaload, 1) := by decide +kernel
theorem dX11_level_90 : decode cX11_level 90 = .ok (.iload_n 3, 1) := by decide +kernel
theorem dX11_level_91 : decode cX11_level 91 = .ok (.imul, 1) := by decide +kernel
theorem dX11_level_92 : decode cX11_level 92 = .ok (.iconst 4, 1) := by decide +kernel
theorem dX11_level_93 : decode cX11_level 93 = .ok (.idiv, 1) := by decide +kernel
theorem dX11_level_94 : decode cX11_level 94 = .ok (.isub, 1) := by decide +kernel
theorem dX11_level_95 : decode cX11_level 95 = .ok (.istore 4, 2) := by decide +kernel
theorem dX11_level_97 : decode cX11_level 97 = .ok (.aload_n 0, 1) := by decide +kernel
theorem dX11_level_98 : decode cX11_level 98 = .ok (.getfield 44, 3) := by decide +kernel
theorem dX11_level_101 : decode cX11_level 101 = .ok (.iload_n 1, 1) := by decide +kernel
theorem dX11_level_102 : decode cX11_level 102 = .ok (.iaload, 1) := by decide +kernel
theorem dX11_level_103 : decode cX11_level 103 = .ok (.bipush 6, 2) := by decide +kernel
theorem dX11_level_105 : decode cX11_level 105 = .ok (.if_icmp .ne 18, 3) := by decide +kernel
theorem dX11_level_108 : decode cX11_level 108 = .ok (.aload_n 0, 1) := by decide +kernel
theorem dX11_level_109 : decode cX11_level 109 = .ok (.getfield 53, 3) := by decide +kernel
theorem dX11_level_112 : decode cX11_level 112 = .ok (.iload_n 1, 1) := by decide +kernel
theorem dX11_level_113 : decode cX11_level 113 = .ok (.iaload, 1) := by decide +kernel
theorem dX11_level_114 : decode cX11_level 114 = .ok (.aload_n 0, 1) := by decide +kernel
theorem dX11_level_115 : decode cX11_level 115 = .ok (.getfield 20, 3) := by decide +kernel
theorem dX11_level_118 : decode cX11_level 118 = .ok (.iconst 0, 1) := by decide +kernel
theorem dX11_level_119 : decode cX11_level 119 = .ok (.iaload, 1) := by decide +kernel
theorem dX11_level_120 : decode cX11_level 120 = .ok (.isub, 1) := by decide +kernel
theorem dX11_level_121 : decode cX11_level 121 = .ok (.istore 4, 2) := by decide +kernel
theorem dX11_level_123 : decode cX11_level 123 = .ok (.iload 4, 2) := by decide +kernel
theorem dX11_level_125 : decode cX11_level 125 = .ok (.ifCond .gt 5, 3) := by decide +kernel
theorem dX11_level_128 : decode cX11_level 128 = .ok (.iconst 0, 1) := by decide +kernel
theorem dX11_level_129 : decode cX11_level 129 = .ok (.ireturn, 1) := by decide +kernel
theorem dX11_level_130 : decode cX11_level 130 = .ok (.aload_n 0, 1) := by decide +kernel
theorem dX11_level_131 : decode cX11_level 131 = .ok (.getfield 23, 3) := by decide +kernel
theorem dX11_level_134 : decode cX11_level 134 = .ok (.iload_n 2, 1) := by decide +kernel
theorem dX11_level_135 : decode cX11_level 135 = .ok (.iaload, 1) := by decide +kernel
theorem dX11_level_136 : decode cX11_level 136 = .ok (.ifCond .le 23, 3) := by decide +kernel
theorem dX11_level_139 : decode cX11_level 139 = .ok (.aload_n 0, 1) := by decide +kernel
theorem dX11_level_140 : decode cX11_level 140 = .ok (.getfield 50, 3) := by decide +kernel
theorem dX11_level_143 : decode cX11_level 143 = .ok (.iload_n 1, 1) := by decide +kernel
theorem dX11_level_144 : decode cX11_level 144 = .ok (.iaload, 1) := by decide +kernel
theorem dX11_level_145 : decode cX11_level 145 = .ok (.aload_n 0, 1) := by decide +kernel
theorem dX11_level_146 : decode cX11_level 146 = .ok (.getfield 23, 3) := by decide +kernel
theorem dX11_level_149 : decode cX11_level 149 = .ok (.iload_n 2, 1) := by decide +kernel
theorem dX11_level_150 : decode cX11_level 150 = .ok (.iaload, 1) := by decide +kernel
theorem dX11_level_151 : decode cX11_level 151 = .ok (.irem, 1) := by decide +kernel
theorem dX11_level_152 : decode cX11_level 152 = .ok (.ifCond .ne 7, 3) := by decide +kernel
theorem dX11_level_155 : decode cX11_level 155 = .ok (.iconst 1, 1) := by decide +kernel
theorem dX11_level_156 : decode cX11_level 156 = .ok (.goto 4, 3) := by decide +kernel
theorem dX11_level_159 : decode cX11_level 159 = .ok (.iconst 0, 1) := by decide +kernel
theorem dX11_level_160 : decode cX11_level 160 = .ok (.istore 5, 2) := by decide +kernel
theorem dX11_level_162 : decode cX11_level 162 = .ok (.aload_n 0, 1) := by decide +kernel
theorem dX11_level_163 : decode cX11_level 163 = .ok (.getfield 44, 3) := by decide +kernel
theorem dX11_level_166 : decode cX11_level 166 = .ok (.iload_n 1, 1) := by decide +kernel
theorem dX11_level_167 : decode cX11_level 167 = .ok (.iaload, 1) := by decide +kernel
theorem dX11_level_168 : decode cX11_level 168 = .ok (.iconst 3, 1) := by decide +kernel
theorem dX11_level_169 : decode cX11_level 169 = .ok (.if_icmp .ne 14, 3) := by decide +kernel
theorem dX11_level_172 : decode cX11_level 172 = .ok (.iload 5, 2) := by decide +kernel
theorem dX11_level_174 : decode cX11_level 174 = .ok (.ifCond .eq 9, 3) := by decide +kernel
theorem dX11_level_177 : decode cX11_level 177 = .ok (.iload 4, 2) := by decide +kernel
theorem dX11_level_179 : decode cX11_level 179 = .ok (.iconst 2, 1) := by decide +kernel
theorem dX11_level_180 : decode cX11_level 180 = .ok (.imul, 1) := by decide +kernel
theorem dX11_level_181 : decode cX11_level 181 = .ok (.istore 4, 2) := by decide +kernel
theorem dX11_level_183 : decode cX11_level 183 = .ok (.aload_n 0, 1) := by decide +kernel
theorem dX11_level_184 : decode cX11_level 184 = .ok (.getfield 44, 3) := by decide +kernel
theorem dX11_level_187 : decode cX11_level 187 = .ok (.iload_n 1, 1) := by decide +kernel
theorem dX11_level_188 : decode cX11_level 188 = .ok (.iaload, 1) := by decide +kernel
theorem dX11_level_189 : decode cX11_level 189 = .ok (.bipush 7, 2) := by decide +kernel
theorem dX11_level_191 : decode cX11_level 191 = .ok (.if_icmp .ne 6, 3) := by decide +kernel
theorem dX11_level_194 : decode cX11_level 194 = .ok (.iinc 4 6, 3) := by decide +kernel
theorem dX11_level_197 : decode cX11_level 197 = .ok (.iload 5, 2) := by decide +kernel
theorem dX11_level_199 : decode cX11_level 199 = .ok (.ifCond .eq 15, 3) := by decide +kernel
theorem dX11_level_202 : decode cX11_level 202 = .ok (.iload 4, 2) := by decide +kernel
theorem dX11_level_204 : decode cX11_level 204 = .ok (.aload_n 0, 1) := by decide +kernel
theorem dX11_level_205 : decode cX11_level 205 = .ok (.getfield 20, 3) := by decide +kernel
theorem dX11_level_208 : decode cX11_level 208 = .ok (.iconst 1, 1) := by decide +kernel
theorem dX11_level_209 : decode cX11_level 209 = .ok (.iaload, 1) := by decide +kernel
theorem dX11_level_210 : decode cX11_level 210 = .ok (.iadd, 1) := by decide +kernel
theorem dX11_level_211 : decode cX11_level 211 = .ok (.goto 5, 3) := by decide +kernel
theorem dX11_level_214 : decode cX11_level 214 = .ok (.iload 4, 2) := by decide +kernel
theorem dX11_level_216 : decode cX11_level 216 = .ok (.ireturn, 1) := by decide +kernel
theorem dX11_need_0 : decode cX11_need 0 = .ok (.aload_n 0, 1) := by decide +kernel
theorem dX11_need_1 : decode cX11_need 1 = .ok (.getfield 35, 3) := by decide +kernel
theorem dX11_need_4 : decode cX11_need 4 = .ok (.iload_n 1, 1) := by decide +kernel
theorem dX11_need_5 : decode cX11_need 5 = .ok (.iaload, 1) := by decide +kernel
theorem dX11_need_6 : decode cX11_need 6 = .ok (.aload_n 0, 1) := by decide +kernel
theorem dX11_need_7 : decode cX11_need 7 = .ok (.getfield 38, 3) := by decide +kernel
theorem dX11_need_10 : decode cX11_need 10 = .ok (.iload_n 1, 1) := by decide +kernel
theorem dX11_need_11 : decode cX11_need 11 = .ok (.iaload, 1) := by decide +kernel
theorem dX11_need_12 : decode cX11_need 12 = .ok (.aload_n 0, 1) := by decide +kernel
theorem dX11_need_13 : decode cX11_need 13 = .ok (.aload_n 0, 1) := by decide +kernel
theorem dX11_need_14 : decode cX11_need 14 = .ok (.getfield 32, 3) := by decide +kernel
theorem dX11_need_17 : decode cX11_need 17 = .ok (.iload_n 1, 1) := by decide +kernel
theorem dX11_need_18 : decode cX11_need 18 = .ok (.iaload, 1) := by decide +kernel
theorem dX11_need_19 : decode cX11_need 19 = .ok (.iload_n 2, 1) := by decide +kernel
theorem dX11_need_20 : decode cX11_need 20 = .ok (.invokevirtual 266, 3) := by decide +kernel
theorem dX11_need_23 : decode cX11_need 23 = .ok (.imul, 1) := by decide +kernel
theorem dX11_need_24 : decode cX11_need 24 = .ok (.iadd, 1) := by decide +kernel
theorem dX11_need_25 : decode cX11_need 25 = .ok (.ireturn, 1) := by decide +kernel
theorem dX11_couldHear_0 : decode cX11_couldHear 0 = .ok (.aload_n 0, 1) := by decide +kernel
theorem dX11_couldHear_1 : decode cX11_couldHear 1 = .ok (.getfield 44, 3) := by decide +kernel
theorem dX11_couldHear_4 : decode cX11_couldHear 4 = .ok (.iload_n 2, 1) := by decide +kernel
theorem dX11_couldHear_5 : decode cX11_couldHear 5 = .ok (.iaload, 1) := by decide +kernel
theorem dX11_couldHear_6 : decode cX11_couldHear 6 = .ok (.iconst 4, 1) := by decide +kernel
theorem dX11_couldHear_7 : decode cX11_couldHear 7 = .ok (.if_icmp .ne 19, 3) := by decide +kernel
theorem dX11_couldHear_10 : decode cX11_couldHear 10 = .ok (.aload_n 0, 1) := by decide +kernel
theorem dX11_couldHear_11 : decode cX11_couldHear 11 = .ok (.getfield 47, 3) := by decide +kernel
theorem dX11_couldHear_14 : decode cX11_couldHear 14 = .ok (.iload_n 2, 1) := by decide +kernel
theorem dX11_couldHear_15 : decode cX11_couldHear 15 = .ok (.iaload, 1) := by decide +kernel
theorem dX11_couldHear_16 : decode cX11_couldHear 16 = .ok (.iload_n 1, 1) := by decide +kernel
theorem dX11_couldHear_17 : decode cX11_couldHear 17 = .ok (.if_icmp .ne 7, 3) := by decide +kernel
theorem dX11_couldHear_20 : decode cX11_couldHear 20 = .ok (.iconst 1, 1) := by decide +kernel
theorem dX11_couldHear_21 : decode cX11_couldHear 21 = .ok (.goto 4, 3) := by decide +kernel
theorem dX11_couldHear_24 : decode cX11_couldHear 24 = .ok (.iconst 0, 1) := by decide +kernel
theorem dX11_couldHear_25 : decode cX11_couldHear 25 = .ok (.ireturn, 1) := by decide +kernel
theorem dX11_couldHear_26 : decode cX11_couldHear 26 = .ok (.aload_n 0, 1) := by decide +kernel
theorem dX11_couldHear_27 : decode cX11_couldHear 27 = .ok (.getfield 44, 3) := by decide +kernel
theorem dX11_couldHear_30 : decode cX11_couldHear 30 = .ok (.iload_n 2, 1) := by decide +kernel
theorem dX11_couldHear_31 : decode cX11_couldHear 31 = .ok (.iaload, 1) := by decide +kernel
theorem dX11_couldHear_32 : decode cX11_couldHear 32 = .ok (.iconst 5, 1) := by decide +kernel
theorem dX11_couldHear_33 : decode cX11_couldHear 33 = .ok (.if_icmp .ne 19, 3) := by decide +kernel
theorem dX11_couldHear_36 : decode cX11_couldHear 36 = .ok (.aload_n 0, 1) := by decide +kernel
theorem dX11_couldHear_37 : decode cX11_couldHear 37 = .ok (.getfield 41, 3) := by decide +kernel
theorem dX11_couldHear_40 : decode cX11_couldHear 40 = .ok (.iload_n 1, 1) := by decide +kernel
theorem dX11_couldHear_41 : decode cX11_couldHear 41 = .ok (.iaload, 1) := by decide +kernel
theorem dX11_couldHear_42 : decode cX11_couldHear 42 = .ok (.iconst 1, 1) := by decide +kernel
theorem dX11_couldHear_43 : decode cX11_couldHear 43 = .ok (.if_icmp .ne 7, 3) := by decide +kernel
theorem dX11_couldHear_46 : decode cX11_couldHear 46 = .ok (.iconst 1, 1) := by decide +kernel
theorem dX11_couldHear_47 : decode cX11_couldHear 47 = .ok (.goto 4, 3) := by decide +kernel
theorem dX11_couldHear_50 : decode cX11_couldHear 50 = .ok (.iconst 0, 1) := by decide +kernel
theorem dX11_couldHear_51 : decode cX11_couldHear 51 = .ok (.ireturn, 1) := by decide +kernel
theorem dX11_couldHear_52 : decode cX11_couldHear 52 = .ok (.aload_n 0, 1) := by decide +kernel
theorem dX11_couldHear_53 : decode cX11_couldHear 53 = .ok (.iload_n 2, 1) := by decide +kernel
theorem dX11_couldHear_54 : decode cX11_couldHear 54 = .ok (.iload_n 3, 1) := by decide +kernel
theorem dX11_couldHear_55 : decode cX11_couldHear 55 = .ok (.invokevirtual 282, 3) := by decide +kernel
theorem dX11_couldHear_58 : decode cX11_couldHear 58 = .ok (.istore 4, 2) := by decide +kernel
theorem dX11_couldHear_60 : decode cX11_couldHear 60 = .ok (.iload 4, 2) := by decide +kernel
theorem dX11_couldHear_62 : decode cX11_couldHear 62 = .ok (.ifCond .le 23, 3) := by decide +kernel
theorem dX11_couldHear_65 : decode cX11_couldHear 65 = .ok (.iload 4, 2) := by decide +kernel
theorem dX11_couldHear_67 : decode cX11_couldHear 67 = .ok (.aload_n 0, 1) := by decide +kernel
theorem dX11_couldHear_68 : decode cX11_couldHear 68 = .ok (.iload_n 1, 1) := by decide +kernel
theorem dX11_couldHear_69 : decode cX11_couldHear 69 = .ok (.aload_n 0, 1) := by decide +kernel
theorem dX11_couldHear_70 : decode cX11_couldHear 70 = .ok (.getfield 50, 3) := by decide +kernel
theorem dX11_couldHear_73 : decode cX11_couldHear 73 = .ok (.iload_n 2, 1) := by decide +kernel
theorem dX11_couldHear_74 : decode cX11_couldHear 74 = .ok (.iaload, 1) := by decide +kernel
theorem dX11_couldHear_75 : decode cX11_couldHear 75 = .ok (.invokevirtual 285, 3) := by decide +kernel
theorem dX11_couldHear_78 : decode cX11_couldHear 78 = .ok (.if_icmp .lt 7, 3) := by decide +kernel
theorem dX11_couldHear_81 : decode cX11_couldHear 81 = .ok (.iconst 1, 1) := by decide +kernel
theorem dX11_couldHear_82 : decode cX11_couldHear 82 = .ok (.goto 4, 3) := by decide +kernel
theorem dX11_couldHear_85 : decode cX11_couldHear 85 = .ok (.iconst 0, 1) := by decide +kernel
theorem dX11_couldHear_86 : decode cX11_couldHear 86 = .ok (.ireturn, 1) := by decide +kernel
theorem dX11_isHearing_0 : decode cX11_isHearing 0 = .ok (.aload_n 0, 1) := by decide +kernel
theorem dX11_isHearing_1 : decode cX11_isHearing 1 = .ok (.iload_n 1, 1) := by decide +kernel
theorem dX11_isHearing_2 : decode cX11_isHearing 2 = .ok (.iload_n 2, 1) := by decide +kernel
theorem dX11_isHearing_3 : decode cX11_isHearing 3 = .ok (.iload_n 3, 1) := by decide +kernel
theorem dX11_isHearing_4 : decode cX11_isHearing 4 = .ok (.invokevirtual 288, 3) := by decide +kernel
theorem dX11_isHearing_7 : decode cX11_isHearing 7 = .ok (.ifCond .eq 17, 3) := by decide +kernel
theorem dX11_isHearing_10 : decode cX11_isHearing 10 = .ok (.aload_n 0, 1) := by decide +kernel
theorem dX11_isHearing_11 : decode cX11_isHearing 11 = .ok (.iload_n 2, 1) := by decide +kernel
theorem dX11_isHearing_12 : decode cX11_isHearing 12 = .ok (.iload 4, 2) := by decide +kernel
theorem dX11_isHearing_14 : decode cX11_isHearing 14 = .ok (.invokevirtual 292, 3) := by decide +kernel
theorem dX11_isHearing_17 : decode cX11_isHearing 17 = .ok (.ifCond .eq 7, 3) := by decide +kernel
theorem dX11_isHearing_20 : decode cX11_isHearing 20 = .ok (.iconst 1, 1) := by decide +kernel
theorem dX11_isHearing_21 : decode cX11_isHearing 21 = .ok (.goto 4, 3) := by decide +kernel
theorem dX11_isHearing_24 : decode cX11_isHearing 24 = .ok (.iconst 0, 1) := by decide +kernel
theorem dX11_isHearing_25 : decode cX11_isHearing 25 = .ok (.ireturn, 1) := by decide +kernel
theorem dX11_heard_0 : decode cX11_heard 0 = .ok (.iconst 0, 1) := by decide +kernel
theorem dX11_heard_1 : decode cX11_heard 1 = .ok (.istore 4, 2) := by decide +kernel
theorem dX11_heard_3 : decode cX11_heard 3 = .ok (.iconst 0, 1) := by decide +kernel
theorem dX11_heard_4 : decode cX11_heard 4 = .ok (.istore 5, 2) := by decide +kernel
theorem dX11_heard_6 : decode cX11_heard 6 = .ok (.iload 5, 2) := by decide +kernel
theorem dX11_heard_8 : decode cX11_heard 8 = .ok (.aload_n 0, 1) := by decide +kernel
theorem dX11_heard_9 : decode cX11_heard 9 = .ok (.getfield 174, 3) := by decide +kernel
theorem dX11_heard_12 : decode cX11_heard 12 = .ok (.if_icmp .ge 30, 3) := by decide +kernel
theorem dX11_heard_15 : decode cX11_heard 15 = .ok (.aload_n 0, 1) := by decide +kernel
theorem dX11_heard_16 : decode cX11_heard 16 = .ok (.iload_n 1, 1) := by decide +kernel
theorem dX11_heard_17 : decode cX11_heard 17 = .ok (.iload 5, 2) := by decide +kernel
theorem dX11_heard_19 : decode cX11_heard 19 = .ok (.iload_n 2, 1) := by decide +kernel
theorem dX11_heard_20 : decode cX11_heard 20 = .ok (.iload_n 3, 1) := by decide +kernel
theorem dX11_heard_21 : decode cX11_heard 21 = .ok (.invokevirtual 295, 3) := by decide +kernel
theorem dX11_heard_24 : decode cX11_heard 24 = .ok (.ifCond .eq 12, 3) := by decide +kernel
theorem dX11_heard_27 : decode cX11_heard 27 = .ok (.iload 4, 2) := by decide +kernel
theorem dX11_heard_29 : decode cX11_heard 29 = .ok (.iconst 1, 1) := by decide +kernel
theorem dX11_heard_30 : decode cX11_heard 30 = .ok (.iload 5, 2) := by decide +kernel
theorem dX11_heard_32 : decode cX11_heard 32 = .ok (.ishl, 1) := by decide +kernel
theorem dX11_heard_33 : decode cX11_heard 33 = .ok (.ior, 1) := by decide +kernel
theorem dX11_heard_34 : decode cX11_heard 34 = .ok (.istore 4, 2) := by decide +kernel
theorem dX11_heard_36 : decode cX11_heard 36 = .ok (.iinc 5 1, 3) := by decide +kernel
theorem dX11_heard_39 : decode cX11_heard 39 = .ok (.goto (-33), 3) := by decide +kernel
theorem dX11_heard_42 : decode cX11_heard 42 = .ok (.iload 4, 2) := by decide +kernel
theorem dX11_heard_44 : decode cX11_heard 44 = .ok (.ireturn, 1) := by decide +kernel
theorem dX11_sounding_0 : decode cX11_sounding 0 = .ok (.iconst 0, 1) := by decide +kernel
theorem dX11_sounding_1 : decode cX11_sounding 1 = .ok (.istore_n 3, 1) := by decide +kernel
theorem dX11_sounding_2 : decode cX11_sounding 2 = .ok (.iconst 0, 1) := by decide +kernel
theorem dX11_sounding_3 : decode cX11_sounding 3 = .ok (.istore 4, 2) := by decide +kernel
theorem dX11_sounding_5 : decode cX11_sounding 5 = .ok (.iload 4, 2) := by decide +kernel
theorem dX11_sounding_7 : decode cX11_sounding 7 = .ok (.aload_n 0, 1) := by decide +kernel
theorem dX11_sounding_8 : decode cX11_sounding 8 = .ok (.getfield 174, 3) := by decide +kernel
theorem dX11_sounding_11 : decode cX11_sounding 11 = .ok (.if_icmp .ge 54, 3) := by decide +kernel
theorem dX11_sounding_14 : decode cX11_sounding 14 = .ok (.iconst 0, 1) := by decide +kernel
theorem dX11_sounding_15 : decode cX11_sounding 15 = .ok (.istore 5, 2) := by decide +kernel
theorem dX11_sounding_17 : decode cX11_sounding 17 = .ok (.iload_n 1, 1) := by decide +kernel
theorem dX11_sounding_18 : decode cX11_sounding 18 = .ok (.istore 6, 2) := by decide +kernel
theorem dX11_sounding_20 : decode cX11_sounding 20 = .ok (.iload 6, 2) := by decide +kernel
theorem dX11_sounding_22 : decode cX11_sounding 22 = .ok (.iload_n 2, 1) := by decide +kernel
theorem dX11_sounding_23 : decode cX11_sounding 23 = .ok (.if_icmp .gt 24, 3) := by decide +kernel
theorem dX11_sounding_26 : decode cX11_sounding 26 = .ok (.iload 5, 2) := by decide +kernel
theorem dX11_sounding_28 : decode cX11_sounding 28 = .ok (.ifCond .ne 19, 3) := by decide +kernel
theorem dX11_sounding_31 : decode cX11_sounding 31 = .ok (.aload_n 0, 1) := by decide +kernel
theorem dX11_sounding_32 : decode cX11_sounding 32 = .ok (.iload 4, 2) := by decide +kernel
theorem dX11_sounding_34 : decode cX11_sounding 34 = .ok (.iload 6, 2) := by decide +kernel
theorem dX11_sounding_36 : decode cX11_sounding 36 = .ok (.invokevirtual 292, 3) := by decide +kernel
theorem dX11_sounding_39 : decode cX11_sounding 39 = .ok (.istore 5, 2) := by decide +kernel
theorem dX11_sounding_41 : decode cX11_sounding 41 = .ok (.iinc 6 1, 3) := by decide +kernel
theorem dX11_sounding_44 : decode cX11_sounding 44 = .ok (.goto (-24), 3) := by decide +kernel
theorem dX11_sounding_47 : decode cX11_sounding 47 = .ok (.iload 5, 2) := by decide +kernel
theorem dX11_sounding_49 : decode cX11_sounding 49 = .ok (.ifCond .eq 10, 3) := by decide +kernel
theorem dX11_sounding_52 : decode cX11_sounding 52 = .ok (.iload_n 3, 1) := by decide +kernel
theorem dX11_sounding_53 : decode cX11_sounding 53 = .ok (.iconst 1, 1) := by decide +kernel
theorem dX11_sounding_54 : decode cX11_sounding 54 = .ok (.iload 4, 2) := by decide +kernel
theorem dX11_sounding_56 : decode cX11_sounding 56 = .ok (.ishl, 1) := by decide +kernel
theorem dX11_sounding_57 : decode cX11_sounding 57 = .ok (.ior, 1) := by decide +kernel
theorem dX11_sounding_58 : decode cX11_sounding 58 = .ok (.istore_n 3, 1) := by decide +kernel
theorem dX11_sounding_59 : decode cX11_sounding 59 = .ok (.iinc 4 1, 3) := by decide +kernel
theorem dX11_sounding_62 : decode cX11_sounding 62 = .ok (.goto (-57), 3) := by decide +kernel
theorem dX11_sounding_65 : decode cX11_sounding 65 = .ok (.iload_n 3, 1) := by decide +kernel
theorem dX11_sounding_66 : decode cX11_sounding 66 = .ok (.ireturn, 1) := by decide +kernel
theorem dX11_heardOf_0 : decode cX11_heardOf 0 = .ok (.iconst 0, 1) := by decide +kernel
theorem dX11_heardOf_1 : decode cX11_heardOf 1 = .ok (.istore 4, 2) := by decide +kernel
theorem dX11_heardOf_3 : decode cX11_heardOf 3 = .ok (.iconst 0, 1) := by decide +kernel
theorem dX11_heardOf_4 : decode cX11_heardOf 4 = .ok (.istore 5, 2) := by decide +kernel
theorem dX11_heardOf_6 : decode cX11_heardOf 6 = .ok (.iload 5, 2) := by decide +kernel
theorem dX11_heardOf_8 : decode cX11_heardOf 8 = .ok (.aload_n 0, 1) := by decide +kernel
theorem dX11_heardOf_9 : decode cX11_heardOf 9 = .ok (.getfield 174, 3) := by decide +kernel
theorem dX11_heardOf_12 : decode cX11_heardOf 12 = .ok (.if_icmp .ge 39, 3) := by decide +kernel
theorem dX11_heardOf_15 : decode cX11_heardOf 15 = .ok (.iload_n 3, 1) := by decide +kernel
theorem dX11_heardOf_16 : decode cX11_heardOf 16 = .ok (.iload 5, 2) := by decide +kernel
theorem dX11_heardOf_18 : decode cX11_heardOf 18 = .ok (.ishr, 1) := by decide +kernel
theorem dX11_heardOf_19 : decode cX11_heardOf 19 = .ok (.iconst 1, 1) := by decide +kernel
theorem dX11_heardOf_20 : decode cX11_heardOf 20 = .ok (.iand, 1) := by decide +kernel
theorem dX11_heardOf_21 : decode cX11_heardOf 21 = .ok (.iconst 1, 1) := by decide +kernel
theorem dX11_heardOf_22 : decode cX11_heardOf 22 = .ok (.if_icmp .ne 23, 3) := by decide +kernel
theorem dX11_heardOf_25 : decode cX11_heardOf 25 = .ok (.aload_n 0, 1) := by decide +kernel
theorem dX11_heardOf_26 : decode cX11_heardOf 26 = .ok (.iload_n 1, 1) := by decide +kernel
theorem dX11_heardOf_27 : decode cX11_heardOf 27 = .ok (.iload 5, 2) := by decide +kernel
theorem dX11_heardOf_29 : decode cX11_heardOf 29 = .ok (.iload_n 2, 1) := by decide +kernel
theorem dX11_heardOf_30 : decode cX11_heardOf 30 = .ok (.invokevirtual 288, 3) := by decide +kernel
theorem dX11_heardOf_33 : decode cX11_heardOf 33 = .ok (.ifCond .eq 12, 3) := by decide +kernel
theorem dX11_heardOf_36 : decode cX11_heardOf 36 = .ok (.iload 4, 2) := by decide +kernel
theorem dX11_heardOf_38 : decode cX11_heardOf 38 = .ok (.iconst 1, 1) := by decide +kernel
theorem dX11_heardOf_39 : decode cX11_heardOf 39 = .ok (.iload 5, 2) := by decide +kernel
theorem dX11_heardOf_41 : decode cX11_heardOf 41 = .ok (.ishl, 1) := by decide +kernel
theorem dX11_heardOf_42 : decode cX11_heardOf 42 = .ok (.ior, 1) := by decide +kernel
theorem dX11_heardOf_43 : decode cX11_heardOf 43 = .ok (.istore 4, 2) := by decide +kernel
theorem dX11_heardOf_45 : decode cX11_heardOf 45 = .ok (.iinc 5 1, 3) := by decide +kernel
theorem dX11_heardOf_48 : decode cX11_heardOf 48 = .ok (.goto (-42), 3) := by decide +kernel
theorem dX11_heardOf_51 : decode cX11_heardOf 51 = .ok (.iload 4, 2) := by decide +kernel
theorem dX11_heardOf_53 : decode cX11_heardOf 53 = .ok (.ireturn, 1) := by decide +kernel
theorem dX11_sounds_0 : decode cX11_sounds 0 = .ok (.aload_n 0, 1) := by decide +kernel
theorem dX11_sounds_1 : decode cX11_sounds 1 = .ok (.iload_n 1, 1) := by decide +kernel
theorem dX11_sounds_2 : decode cX11_sounds 2 = .ok (.invokevirtual 188, 3) := by decide +kernel
theorem dX11_sounds_5 : decode cX11_sounds 5 = .ok (.ifCond .eq 11, 3) := by decide +kernel
theorem dX11_sounds_8 : decode cX11_sounds 8 = .ok (.aload_n 0, 1) := by decide +kernel
theorem dX11_sounds_9 : decode cX11_sounds 9 = .ok (.iload_n 2, 1) := by decide +kernel
theorem dX11_sounds_10 : decode cX11_sounds 10 = .ok (.invokevirtual 177, 3) := by decide +kernel
theorem dX11_sounds_13 : decode cX11_sounds 13 = .ok (.ifCond .ne 5, 3) := by decide +kernel
theorem dX11_sounds_16 : decode cX11_sounds 16 = .ok (.iconst (-1), 1) := by decide +kernel
theorem dX11_sounds_17 : decode cX11_sounds 17 = .ok (.ireturn, 1) := by decide +kernel
theorem dX11_sounds_18 : decode cX11_sounds 18 = .ok (.aload_n 0, 1) := by decide +kernel
theorem dX11_sounds_19 : decode cX11_sounds 19 = .ok (.iload_n 1, 1) := by decide +kernel
theorem dX11_sounds_20 : decode cX11_sounds 20 = .ok (.iload_n 2, 1) := by decide +kernel
theorem dX11_sounds_21 : decode cX11_sounds 21 = .ok (.invokevirtual 292, 3) := by decide +kernel
theorem dX11_sounds_24 : decode cX11_sounds 24 = .ok (.ifCond .eq 7, 3) := by decide +kernel
theorem dX11_sounds_27 : decode cX11_sounds 27 = .ok (.iconst 1, 1) := by decide +kernel
theorem dX11_sounds_28 : decode cX11_sounds 28 = .ok (.goto 4, 3) := by decide +kernel
theorem dX11_sounds_31 : decode cX11_sounds 31 = .ok (.iconst 0, 1) := by decide +kernel
theorem dX11_sounds_32 : decode cX11_sounds 32 = .ok (.ireturn, 1) := by decide +kernel
theorem dX11_reach_0 : decode cX11_reach 0 = .ok (.aload_n 0, 1) := by decide +kernel
theorem dX11_reach_1 : decode cX11_reach 1 = .ok (.iload_n 1, 1) := by decide +kernel
theorem dX11_reach_2 : decode cX11_reach 2 = .ok (.invokevirtual 188, 3) := by decide +kernel
theorem dX11_reach_5 : decode cX11_reach 5 = .ok (.ifCond .eq 20, 3) := by decide +kernel
theorem dX11_reach_8 : decode cX11_reach 8 = .ok (.aload_n 0, 1) := by decide +kernel
theorem dX11_reach_9 : decode cX11_reach 9 = .ok (.iload_n 2, 1) := by decide +kernel
theorem dX11_reach_10 : decode cX11_reach 10 = .ok (.invokevirtual 191, 3) := by decide +kernel
theorem dX11_reach_13 : decode cX11_reach 13 = .ok (.ifCond .eq 12, 3) := by decide +kernel
theorem dX11_reach_16 : decode cX11_reach 16 = .ok (.aload_n 0, 1) := by decide +kernel
theorem dX11_reach_17 : decode cX11_reach 17 = .ok (.iload_n 1, 1) := by decide +kernel
theorem dX11_reach_18 : decode cX11_reach 18 = .ok (.iload_n 2, 1) := by decide +kernel
theorem dX11_reach_19 : decode cX11_reach 19 = .ok (.invokevirtual 282, 3) := by decide +kernel
theorem dX11_reach_22 : decode cX11_reach 22 = .ok (.goto 4, 3) := by decide +kernel
theorem dX11_reach_25 : decode cX11_reach 25 = .ok (.iconst (-1), 1) := by decide +kernel
theorem dX11_reach_26 : decode cX11_reach 26 = .ok (.ireturn, 1) := by decide +kernel
theorem dX11_needs_0 : decode cX11_needs 0 = .ok (.aload_n 0, 1) := by decide +kernel
theorem dX11_needs_1 : decode cX11_needs 1 = .ok (.iload_n 1, 1) := by decide +kernel
theorem dX11_needs_2 : decode cX11_needs 2 = .ok (.invokevirtual 197, 3) := by decide +kernel
theorem dX11_needs_5 : decode cX11_needs 5 = .ok (.ifCond .eq 20, 3) := by decide +kernel
theorem dX11_needs_8 : decode cX11_needs 8 = .ok (.aload_n 0, 1) := by decide +kernel
theorem dX11_needs_9 : decode cX11_needs 9 = .ok (.iload_n 2, 1) := by decide +kernel
theorem dX11_needs_10 : decode cX11_needs 10 = .ok (.invokevirtual 194, 3) := by decide +kernel
theorem dX11_needs_13 : decode cX11_needs 13 = .ok (.ifCond .eq 12, 3) := by decide +kernel
theorem dX11_needs_16 : decode cX11_needs 16 = .ok (.aload_n 0, 1) := by decide +kernel
theorem dX11_needs_17 : decode cX11_needs 17 = .ok (.iload_n 1, 1) := by decide +kernel
theorem dX11_needs_18 : decode cX11_needs 18 = .ok (.iload_n 2, 1) := by decide +kernel
theorem dX11_needs_19 : decode cX11_needs 19 = .ok (.invokevirtual 285, 3) := by decide +kernel
theorem dX11_needs_22 : decode cX11_needs 22 = .ok (.goto 4, 3) := by decide +kernel
theorem dX11_needs_25 : decode cX11_needs 25 = .ok (.iconst (-1), 1) := by decide +kernel
theorem dX11_needs_26 : decode cX11_needs 26 = .ok (.ireturn, 1) := by decide +kernel
theorem dX11_hears_0 : decode cX11_hears 0 = .ok (.aload_n 0, 1) := by decide +kernel
theorem dX11_hears_1 : decode cX11_hears 1 = .ok (.iload_n 1, 1) := by decide +kernel
theorem dX11_hears_2 : decode cX11_hears 2 = .ok (.invokevirtual 197, 3) := by decide +kernel
theorem dX11_hears_5 : decode cX11_hears 5 = .ok (.ifCond .eq 26, 3) := by decide +kernel
theorem dX11_hears_8 : decode cX11_hears 8 = .ok (.aload_n 0, 1) := by decide +kernel
theorem dX11_hears_9 : decode cX11_hears 9 = .ok (.iload_n 2, 1) := by decide +kernel
theorem dX11_hears_10 : decode cX11_hears 10 = .ok (.invokevirtual 177, 3) := by decide +kernel
theorem dX11_hears_13 : decode cX11_hears 13 = .ok (.ifCond .eq 18, 3) := by decide +kernel
theorem dX11_hears_16 : decode cX11_hears 16 = .ok (.aload_n 0, 1) := by decide +kernel
theorem dX11_hears_17 : decode cX11_hears 17 = .ok (.iload_n 1, 1) := by decide +kernel
theorem dX11_hears_18 : decode cX11_hears 18 = .ok (.aload_n 0, 1) := by decide +kernel
theorem dX11_hears_19 : decode cX11_hears 19 = .ok (.getfield 29, 3) := by decide +kernel
theorem dX11_hears_22 : decode cX11_hears 22 = .ok (.iload_n 1, 1) := by decide +kernel
theorem dX11_hears_23 : decode cX11_hears 23 = .ok (.iaload, 1) := by decide +kernel
theorem dX11_hears_24 : decode cX11_hears 24 = .ok (.iload_n 2, 1) := by decide +kernel
theorem dX11_hears_25 : decode cX11_hears 25 = .ok (.invokevirtual 299, 3) := by decide +kernel
theorem dX11_hears_28 : decode cX11_hears 28 = .ok (.goto 4, 3) := by decide +kernel
theorem dX11_hears_31 : decode cX11_hears 31 = .ok (.iconst (-1), 1) := by decide +kernel
theorem dX11_hears_32 : decode cX11_hears 32 = .ok (.ireturn, 1) := by decide +kernel
theorem dX11_loudest_0 : decode cX11_loudest 0 = .ok (.aload_n 0, 1) := by decide +kernel
theorem dX11_loudest_1 : decode cX11_loudest 1 = .ok (.iload_n 1, 1) := by decide +kernel
theorem dX11_loudest_2 : decode cX11_loudest 2 = .ok (.invokevirtual 197, 3) := by decide +kernel
theorem dX11_loudest_5 : decode cX11_loudest 5 = .ok (.ifCond .eq 11, 3) := by decide +kernel
theorem dX11_loudest_8 : decode cX11_loudest 8 = .ok (.aload_n 0, 1) := by decide +kernel
theorem dX11_loudest_9 : decode cX11_loudest 9 = .ok (.iload_n 2, 1) := by decide +kernel
theorem dX11_loudest_10 : decode cX11_loudest 10 = .ok (.invokevirtual 177, 3) := by decide +kernel
theorem dX11_loudest_13 : decode cX11_loudest 13 = .ok (.ifCond .ne 5, 3) := by decide +kernel
theorem dX11_loudest_16 : decode cX11_loudest 16 = .ok (.iconst (-1), 1) := by decide +kernel
theorem dX11_loudest_17 : decode cX11_loudest 17 = .ok (.ireturn, 1) := by decide +kernel
theorem dX11_loudest_18 : decode cX11_loudest 18 = .ok (.aload_n 0, 1) := by decide +kernel
theorem dX11_loudest_19 : decode cX11_loudest 19 = .ok (.iload_n 1, 1) := by decide +kernel
theorem dX11_loudest_20 : decode cX11_loudest 20 = .ok (.aload_n 0, 1) := by decide +kernel
theorem dX11_loudest_21 : decode cX11_loudest 21 = .ok (.getfield 29, 3) := by decide +kernel
theorem dX11_loudest_24 : decode cX11_loudest 24 = .ok (.iload_n 1, 1) := by decide +kernel
theorem dX11_loudest_25 : decode cX11_loudest 25 = .ok (.iaload, 1) := by decide +kernel
theorem dX11_loudest_26 : decode cX11_loudest 26 = .ok (.iload_n 2, 1) := by decide +kernel
theorem dX11_loudest_27 : decode cX11_loudest 27 = .ok (.invokevirtual 299, 3) := by decide +kernel
theorem dX11_loudest_30 : decode cX11_loudest 30 = .ok (.istore_n 3, 1) := by decide +kernel
theorem dX11_loudest_31 : decode cX11_loudest 31 = .ok (.iconst (-1), 1) := by decide +kernel
theorem dX11_loudest_32 : decode cX11_loudest 32 = .ok (.istore 4, 2) := by decide +kernel
theorem dX11_loudest_34 : decode cX11_loudest 34 = .ok (.iconst 0, 1) := by decide +kernel
theorem dX11_loudest_35 : decode cX11_loudest 35 = .ok (.istore 5, 2) := by decide +kernel
theorem dX11_loudest_37 : decode cX11_loudest 37 = .ok (.iload 5, 2) := by decide +kernel
theorem dX11_loudest_39 : decode cX11_loudest 39 = .ok (.aload_n 0, 1) := by decide +kernel
theorem dX11_loudest_40 : decode cX11_loudest 40 = .ok (.getfield 174, 3) := by decide +kernel
theorem dX11_loudest_43 : decode cX11_loudest 43 = .ok (.if_icmp .ge 56, 3) := by decide +kernel
theorem dX11_loudest_46 : decode cX11_loudest 46 = .ok (.iload_n 3, 1) := by decide +kernel
theorem dX11_loudest_47 : decode cX11_loudest 47 = .ok (.iload 5, 2) := by decide +kernel
theorem dX11_loudest_49 : decode cX11_loudest 49 = .ok (.ishr, 1) := by decide +kernel
theorem dX11_loudest_50 : decode cX11_loudest 50 = .ok (.iconst 1, 1) := by decide +kernel
theorem dX11_loudest_51 : decode cX11_loudest 51 = .ok (.iand, 1) := by decide +kernel
theorem dX11_loudest_52 : decode cX11_loudest 52 = .ok (.iconst 1, 1) := by decide +kernel
theorem dX11_loudest_53 : decode cX11_loudest 53 = .ok (.if_icmp .ne 40, 3) := by decide +kernel
theorem dX11_loudest_56 : decode cX11_loudest 56 = .ok (.iload 4, 2) := by decide +kernel
theorem dX11_loudest_58 : decode cX11_loudest 58 = .ok (.iconst (-1), 1) := by decide +kernel
theorem dX11_loudest_59 : decode cX11_loudest 59 = .ok (.if_icmp .eq 30, 3) := by decide +kernel
theorem dX11_loudest_62 : decode cX11_loudest 62 = .ok (.aload_n 0, 1) := by decide +kernel
theorem dX11_loudest_63 : decode cX11_loudest 63 = .ok (.iload 5, 2) := by decide +kernel
theorem dX11_loudest_65 : decode cX11_loudest 65 = .ok (.aload_n 0, 1) := by decide +kernel
theorem dX11_loudest_66 : decode cX11_loudest 66 = .ok (.getfield 29, 3) := by decide +kernel
theorem dX11_loudest_69 : decode cX11_loudest 69 = .ok (.iload_n 1, 1) := by decide +kernel
theorem dX11_loudest_70 : decode cX11_loudest 70 = .ok (.iaload, 1) := by decide +kernel
theorem dX11_loudest_71 : decode cX11_loudest 71 = .ok (.invokevirtual 282, 3) := by decide +kernel
theorem dX11_loudest_74 : decode cX11_loudest 74 = .ok (.aload_n 0, 1) := by decide +kernel
theorem dX11_loudest_75 : decode cX11_loudest 75 = .ok (.iload 4, 2) := by decide +kernel
theorem dX11_loudest_77 : decode cX11_loudest 77 = .ok (.aload_n 0, 1) := by decide +kernel
theorem dX11_loudest_78 : decode cX11_loudest 78 = .ok (.getfield 29, 3) := by decide +kernel
theorem dX11_loudest_81 : decode cX11_loudest 81 = .ok (.iload_n 1, 1) := by decide +kernel
theorem dX11_loudest_82 : decode cX11_loudest 82 = .ok (.iaload, 1) := by decide +kernel
theorem dX11_loudest_83 : decode cX11_loudest 83 = .ok (.invokevirtual 282, 3) := by decide +kernel
theorem dX11_loudest_86 : decode cX11_loudest 86 = .ok (.if_icmp .le 7, 3) := by decide +kernel
theorem dX11_loudest_89 : decode cX11_loudest 89 = .ok (.iload 5, 2) := by decide +kernel
theorem dX11_loudest_91 : decode cX11_loudest 91 = .ok (.istore 4, 2) := by decide +kernel
theorem dX11_loudest_93 : decode cX11_loudest 93 = .ok (.iinc 5 1, 3) := by decide +kernel
theorem dX11_loudest_96 : decode cX11_loudest 96 = .ok (.goto (-59), 3) := by decide +kernel
theorem dX11_loudest_99 : decode cX11_loudest 99 = .ok (.iload 4, 2) := by decide +kernel
theorem dX11_loudest_101 : decode cX11_loudest 101 = .ok (.ireturn, 1) := by decide +kernel
theorem dX11_pressed_0 : decode cX11_pressed 0 = .ok (.aload_n 0, 1) := by decide +kernel
theorem dX11_pressed_1 : decode cX11_pressed 1 = .ok (.getfield 68, 3) := by decide +kernel
theorem dX11_pressed_4 : decode cX11_pressed 4 = .ok (.aload_n 0, 1) := by decide +kernel
theorem dX11_pressed_5 : decode cX11_pressed 5 = .ok (.getfield 303, 3) := by decide +kernel
theorem dX11_pressed_8 : decode cX11_pressed 8 = .ok (.iload_n 1, 1) := by decide +kernel
theorem dX11_pressed_9 : decode cX11_pressed 9 = .ok (.iastore, 1) := by decide +kernel
theorem dX11_pressed_10 : decode cX11_pressed 10 = .ok (.aload_n 0, 1) := by decide +kernel
theorem dX11_pressed_11 : decode cX11_pressed 11 = .ok (.getfield 71, 3) := by decide +kernel
theorem dX11_pressed_14 : decode cX11_pressed 14 = .ok (.aload_n 0, 1) := by decide +kernel
theorem dX11_pressed_15 : decode cX11_pressed 15 = .ok (.getfield 303, 3) := by decide +kernel
theorem dX11_pressed_18 : decode cX11_pressed 18 = .ok (.iload_n 2, 1) := by decide +kernel
theorem dX11_pressed_19 : decode cX11_pressed 19 = .ok (.iastore, 1) := by decide +kernel
theorem dX11_pressed_20 : decode cX11_pressed 20 = .ok (.aload_n 0, 1) := by decide +kernel
theorem dX11_pressed_21 : decode cX11_pressed 21 = .ok (.getfield 74, 3) := by decide +kernel
theorem dX11_pressed_24 : decode cX11_pressed 24 = .ok (.aload_n 0, 1) := by decide +kernel
theorem dX11_pressed_25 : decode cX11_pressed 25 = .ok (.getfield 303, 3) := by decide +kernel
theorem dX11_pressed_28 : decode cX11_pressed 28 = .ok (.aload_n 0, 1) := by decide +kernel
theorem dX11_pressed_29 : decode cX11_pressed 29 = .ok (.getfield 29, 3) := by decide +kernel
theorem dX11_pressed_32 : decode cX11_pressed 32 = .ok (.iload_n 1, 1) := by decide +kernel
theorem dX11_pressed_33 : decode cX11_pressed 33 = .ok (.iaload, 1) := by decide +kernel
theorem dX11_pressed_34 : decode cX11_pressed 34 = .ok (.iastore, 1) := by decide +kernel
theorem dX11_pressed_35 : decode cX11_pressed 35 = .ok (.aload_n 0, 1) := by decide +kernel
theorem dX11_pressed_36 : decode cX11_pressed 36 = .ok (.getfield 77, 3) := by decide +kernel
theorem dX11_pressed_39 : decode cX11_pressed 39 = .ok (.aload_n 0, 1) := by decide +kernel
theorem dX11_pressed_40 : decode cX11_pressed 40 = .ok (.getfield 303, 3) := by decide +kernel
theorem dX11_pressed_43 : decode cX11_pressed 43 = .ok (.iload_n 3, 1) := by decide +kernel
theorem dX11_pressed_44 : decode cX11_pressed 44 = .ok (.iastore, 1) := by decide +kernel
theorem dX11_pressed_45 : decode cX11_pressed 45 = .ok (.aload_n 0, 1) := by decide +kernel
theorem dX11_pressed_46 : decode cX11_pressed 46 = .ok (.getfield 80, 3) := by decide +kernel
theorem dX11_pressed_49 : decode cX11_pressed 49 = .ok (.aload_n 0, 1) := by decide +kernel
theorem dX11_pressed_50 : decode cX11_pressed 50 = .ok (.getfield 303, 3) := by decide +kernel
theorem dX11_pressed_53 : decode cX11_pressed 53 = .ok (.aload_n 0, 1) := by decide +kernel
theorem dX11_pressed_54 : decode cX11_pressed 54 = .ok (.dup, 1) := by decide +kernel
theorem dX11_pressed_55 : decode cX11_pressed 55 = .ok (.getfield 306, 3) := by decide +kernel
theorem dX11_pressed_58 : decode cX11_pressed 58 = .ok (.dup_x1, 1) := by decide +kernel
theorem dX11_pressed_59 : decode cX11_pressed 59 = .ok (.iconst 1, 1) := by decide +kernel
theorem dX11_pressed_60 : decode cX11_pressed 60 = .ok (.iadd, 1) := by decide +kernel
theorem dX11_pressed_61 : decode cX11_pressed 61 = .ok (.putfield 306, 3) := by decide +kernel
theorem dX11_pressed_64 : decode cX11_pressed 64 = .ok (.iastore, 1) := by decide +kernel
theorem dX11_pressed_65 : decode cX11_pressed 65 = .ok (.aload_n 0, 1) := by decide +kernel
theorem dX11_pressed_66 : decode cX11_pressed 66 = .ok (.dup, 1) := by decide +kernel
theorem dX11_pressed_67 : decode cX11_pressed 67 = .ok (.getfield 303, 3) := by decide +kernel
theorem dX11_pressed_70 : decode cX11_pressed 70 = .ok (.iconst 1, 1) := by decide +kernel
theorem dX11_pressed_71 : decode cX11_pressed 71 = .ok (.iadd, 1) := by decide +kernel
theorem dX11_pressed_72 : decode cX11_pressed 72 = .ok (.putfield 303, 3) := by decide +kernel
theorem dX11_pressed_75 : decode cX11_pressed 75 = .ok (.return_, 1) := by decide +kernel
theorem dX11_press_0 : decode cX11_press 0 = .ok (.aload_n 0, 1) := by decide +kernel
theorem dX11_press_1 : decode cX11_press 1 = .ok (.iload_n 1, 1) := by decide +kernel
theorem dX11_press_2 : decode cX11_press 2 = .ok (.invokevirtual 197, 3) := by decide +kernel
theorem dX11_press_5 : decode cX11_press 5 = .ok (.ifCond .ne 9, 3) := by decide +kernel
theorem dX11_press_8 : decode cX11_press 8 = .ok (.aload_n 0, 1) := by decide +kernel
theorem dX11_press_9 : decode cX11_press 9 = .ok (.iconst (-1), 1) := by decide +kernel
theorem dX11_press_10 : decode cX11_press 10 = .ok (.invokevirtual 184, 3) := by decide +kernel
theorem dX11_press_13 : decode cX11_press 13 = .ok (.ireturn, 1) := by decide +kernel
theorem dX11_press_14 : decode cX11_press 14 = .ok (.aload_n 0, 1) := by decide +kernel
theorem dX11_press_15 : decode cX11_press 15 = .ok (.getfield 303, 3) := by decide +kernel
theorem dX11_press_18 : decode cX11_press 18 = .ok (.bipush 60, 2) := by decide +kernel
theorem dX11_press_20 : decode cX11_press 20 = .ok (.if_icmp .ne 10, 3) := by decide +kernel
theorem dX11_press_23 : decode cX11_press 23 = .ok (.aload_n 0, 1) := by decide +kernel
theorem dX11_press_24 : decode cX11_press 24 = .ok (.bipush (-7), 2) := by decide +kernel
theorem dX11_press_26 : decode cX11_press 26 = .ok (.invokevirtual 184, 3) := by decide +kernel
theorem dX11_press_29 : decode cX11_press 29 = .ok (.ireturn, 1) := by decide +kernel
theorem dX11_press_30 : decode cX11_press 30 = .ok (.aload_n 0, 1) := by decide +kernel
theorem dX11_press_31 : decode cX11_press 31 = .ok (.iload_n 1, 1) := by decide +kernel
theorem dX11_press_32 : decode cX11_press 32 = .ok (.aload_n 0, 1) := by decide +kernel
theorem dX11_press_33 : decode cX11_press 33 = .ok (.getfield 200, 3) := by decide +kernel
theorem dX11_press_36 : decode cX11_press 36 = .ok (.iload_n 2, 1) := by decide +kernel
theorem dX11_press_37 : decode cX11_press 37 = .ok (.ifCond .eq 7, 3) := by decide +kernel
theorem dX11_press_40 : decode cX11_press 40 = .ok (.iconst 1, 1) := by decide +kernel
theorem dX11_press_41 : decode cX11_press 41 = .ok (.goto 4, 3) := by decide +kernel
theorem dX11_press_44 : decode cX11_press 44 = .ok (.iconst 0, 1) := by decide +kernel
theorem dX11_press_45 : decode cX11_press 45 = .ok (.invokevirtual 309, 3) := by decide +kernel
theorem dX11_press_48 : decode cX11_press 48 = .ok (.aload_n 0, 1) := by decide +kernel
theorem dX11_press_49 : decode cX11_press 49 = .ok (.getfield 303, 3) := by decide +kernel
theorem dX11_press_52 : decode cX11_press 52 = .ok (.ireturn, 1) := by decide +kernel
theorem dX11_pressed__0 : decode cX11_pressed_ 0 = .ok (.aload_n 0, 1) := by decide +kernel
theorem dX11_pressed__1 : decode cX11_pressed_ 1 = .ok (.iload_n 1, 1) := by decide +kernel
theorem dX11_pressed__2 : decode cX11_pressed_ 2 = .ok (.invokevirtual 197, 3) := by decide +kernel
theorem dX11_pressed__5 : decode cX11_pressed_ 5 = .ok (.ifCond .ne 9, 3) := by decide +kernel
theorem dX11_pressed__8 : decode cX11_pressed_ 8 = .ok (.aload_n 0, 1) := by decide +kernel
theorem dX11_pressed__9 : decode cX11_pressed_ 9 = .ok (.iconst (-1), 1) := by decide +kernel
theorem dX11_pressed__10 : decode cX11_pressed_ 10 = .ok (.invokevirtual 184, 3) := by decide +kernel
theorem dX11_pressed__13 : decode cX11_pressed_ 13 = .ok (.ireturn, 1) := by decide +kernel
theorem dX11_pressed__14 : decode cX11_pressed_ 14 = .ok (.aload_n 0, 1) := by decide +kernel
theorem dX11_pressed__15 : decode cX11_pressed_ 15 = .ok (.iload_n 2, 1) := by decide +kernel
theorem dX11_pressed__16 : decode cX11_pressed_ 16 = .ok (.invokevirtual 247, 3) := by decide +kernel
theorem dX11_pressed__19 : decode cX11_pressed_ 19 = .ok (.istore 5, 2) := by decide +kernel
theorem dX11_pressed__21 : decode cX11_pressed_ 21 = .ok (.iload 5, 2) := by decide +kernel
theorem dX11_pressed__23 : decode cX11_pressed_ 23 = .ok (.ifCond .eq 10, 3) := by decide +kernel
theorem dX11_pressed__26 : decode cX11_pressed_ 26 = .ok (.aload_n 0, 1) := by decide +kernel
theorem dX11_pressed__27 : decode cX11_pressed_ 27 = .ok (.iload 5, 2) := by decide +kernel
theorem dX11_pressed__29 : decode cX11_pressed_ 29 = .ok (.invokevirtual 184, 3) := by decide +kernel
theorem dX11_pressed__32 : decode cX11_pressed_ 32 = .ok (.ireturn, 1) := by decide +kernel
theorem dX11_pressed__33 : decode cX11_pressed_ 33 = .ok (.iload 4, 2) := by decide +kernel
theorem dX11_pressed__35 : decode cX11_pressed_ 35 = .ok (.ifCond .ge 10, 3) := by decide +kernel
theorem dX11_pressed__38 : decode cX11_pressed_ 38 = .ok (.aload_n 0, 1) := by decide +kernel
theorem dX11_pressed__39 : decode cX11_pressed_ 39 = .ok (.bipush (-4), 2) := by decide +kernel
theorem dX11_pressed__41 : decode cX11_pressed_ 41 = .ok (.invokevirtual 184, 3) := by decide +kernel
theorem dX11_pressed__44 : decode cX11_pressed_ 44 = .ok (.ireturn, 1) := by decide +kernel
theorem dX11_pressed__45 : decode cX11_pressed_ 45 = .ok (.iload_n 3, 1) := by decide +kernel
theorem dX11_pressed__46 : decode cX11_pressed_ 46 = .ok (.ifCond .lt 16, 3) := by decide +kernel
theorem dX11_pressed__49 : decode cX11_pressed_ 49 = .ok (.iload_n 3, 1) := by decide +kernel
theorem dX11_pressed__50 : decode cX11_pressed_ 50 = .ok (.aload_n 0, 1) := by decide +kernel
theorem dX11_pressed__51 : decode cX11_pressed_ 51 = .ok (.getfield 125, 3) := by decide +kernel
theorem dX11_pressed__54 : decode cX11_pressed_ 54 = .ok (.iload_n 2, 1) := by decide +kernel
theorem dX11_pressed__55 : decode cX11_pressed_ 55 = .ok (.iaload, 1) := by decide +kernel
theorem dX11_pressed__56 : decode cX11_pressed_ 56 = .ok (.iload 4, 2) := by decide +kernel
theorem dX11_pressed__58 : decode cX11_pressed_ 58 = .ok (.isub, 1) := by decide +kernel
theorem dX11_pressed__59 : decode cX11_pressed_ 59 = .ok (.if_icmp .le 10, 3) := by decide +kernel
theorem dX11_pressed__62 : decode cX11_pressed_ 62 = .ok (.aload_n 0, 1) := by decide +kernel
theorem dX11_pressed__63 : decode cX11_pressed_ 63 = .ok (.bipush (-5), 2) := by decide +kernel
theorem dX11_pressed__65 : decode cX11_pressed_ 65 = .ok (.invokevirtual 184, 3) := by decide +kernel
theorem dX11_pressed__68 : decode cX11_pressed_ 68 = .ok (.ireturn, 1) := by decide +kernel
theorem dX11_pressed__69 : decode cX11_pressed_ 69 = .ok (.aload_n 0, 1) := by decide +kernel
theorem dX11_pressed__70 : decode cX11_pressed_ 70 = .ok (.getfield 200, 3) := by decide +kernel
theorem dX11_pressed__73 : decode cX11_pressed_ 73 = .ok (.iload 4, 2) := by decide +kernel
theorem dX11_pressed__75 : decode cX11_pressed_ 75 = .ok (.if_icmp .ge 10, 3) := by decide +kernel
theorem dX11_pressed__78 : decode cX11_pressed_ 78 = .ok (.aload_n 0, 1) := by decide +kernel
theorem dX11_pressed__79 : decode cX11_pressed_ 79 = .ok (.bipush (-6), 2) := by decide +kernel
theorem dX11_pressed__81 : decode cX11_pressed_ 81 = .ok (.invokevirtual 184, 3) := by decide +kernel
theorem dX11_pressed__84 : decode cX11_pressed_ 84 = .ok (.ireturn, 1) := by decide +kernel
theorem dX11_pressed__85 : decode cX11_pressed_ 85 = .ok (.iconst 0, 1) := by decide +kernel
theorem dX11_pressed__86 : decode cX11_pressed_ 86 = .ok (.istore 6, 2) := by decide +kernel
theorem dX11_pressed__88 : decode cX11_pressed_ 88 = .ok (.iconst 0, 1) := by decide +kernel
theorem dX11_pressed__89 : decode cX11_pressed_ 89 = .ok (.istore 7, 2) := by decide +kernel
theorem dX11_pressed__91 : decode cX11_pressed_ 91 = .ok (.iload 7, 2) := by decide +kernel
theorem dX11_pressed__93 : decode cX11_pressed_ 93 = .ok (.iload 4, 2) := by decide +kernel
theorem dX11_pressed__95 : decode cX11_pressed_ 95 = .ok (.if_icmp .ge 37, 3) := by decide +kernel
theorem dX11_pressed__98 : decode cX11_pressed_ 98 = .ok (.aload_n 0, 1) := by decide +kernel
theorem dX11_pressed__99 : decode cX11_pressed_ 99 = .ok (.iload_n 2, 1) := by decide +kernel
theorem dX11_pressed__100 : decode cX11_pressed_ 100 = .ok (.iload_n 3, 1) := by decide +kernel
theorem dX11_pressed__101 : decode cX11_pressed_ 101 = .ok (.iload 7, 2) := by decide +kernel
theorem dX11_pressed__103 : decode cX11_pressed_ 103 = .ok (.iadd, 1) := by decide +kernel
theorem dX11_pressed__104 : decode cX11_pressed_ 104 = .ok (.invokevirtual 313, 3) := by decide +kernel
theorem dX11_pressed__107 : decode cX11_pressed_ 107 = .ok (.ifCond .eq 16, 3) := by decide +kernel
theorem dX11_pressed__110 : decode cX11_pressed_ 110 = .ok (.aload_n 0, 1) := by decide +kernel
theorem dX11_pressed__111 : decode cX11_pressed_ 111 = .ok (.iload_n 2, 1) := by decide +kernel
theorem dX11_pressed__112 : decode cX11_pressed_ 112 = .ok (.iload_n 3, 1) := by decide +kernel
theorem dX11_pressed__113 : decode cX11_pressed_ 113 = .ok (.iload 7, 2) := by decide +kernel
theorem dX11_pressed__115 : decode cX11_pressed_ 115 = .ok (.iadd, 1) := by decide +kernel
theorem dX11_pressed__116 : decode cX11_pressed_ 116 = .ok (.invokevirtual 313, 3) := by decide +kernel
theorem dX11_pressed__119 : decode cX11_pressed_ 119 = .ok (.iconst 1, 1) := by decide +kernel
theorem dX11_pressed__120 : decode cX11_pressed_ 120 = .ok (.if_icmp .ne 6, 3) := by decide +kernel
theorem dX11_pressed__123 : decode cX11_pressed_ 123 = .ok (.iinc 6 1, 3) := by decide +kernel
theorem dX11_pressed__126 : decode cX11_pressed_ 126 = .ok (.iinc 7 1, 3) := by decide +kernel
theorem dX11_pressed__129 : decode cX11_pressed_ 129 = .ok (.goto (-38), 3) := by decide +kernel
theorem dX11_pressed__132 : decode cX11_pressed_ 132 = .ok (.aload_n 0, 1) := by decide +kernel
theorem dX11_pressed__133 : decode cX11_pressed_ 133 = .ok (.getfield 303, 3) := by decide +kernel
theorem dX11_pressed__136 : decode cX11_pressed_ 136 = .ok (.iload 6, 2) := by decide +kernel
theorem dX11_pressed__138 : decode cX11_pressed_ 138 = .ok (.iadd, 1) := by decide +kernel
theorem dX11_pressed__139 : decode cX11_pressed_ 139 = .ok (.bipush 60, 2) := by decide +kernel
theorem dX11_pressed__141 : decode cX11_pressed_ 141 = .ok (.if_icmp .le 10, 3) := by decide +kernel
theorem dX11_pressed__144 : decode cX11_pressed_ 144 = .ok (.aload_n 0, 1) := by decide +kernel
theorem dX11_pressed__145 : decode cX11_pressed_ 145 = .ok (.bipush (-7), 2) := by decide +kernel
theorem dX11_pressed__147 : decode cX11_pressed_ 147 = .ok (.invokevirtual 184, 3) := by decide +kernel
theorem dX11_pressed__150 : decode cX11_pressed_ 150 = .ok (.ireturn, 1) := by decide +kernel
theorem dX11_pressed__151 : decode cX11_pressed_ 151 = .ok (.iconst 0, 1) := by decide +kernel
theorem dX11_pressed__152 : decode cX11_pressed_ 152 = .ok (.istore 7, 2) := by decide +kernel
theorem dX11_pressed__154 : decode cX11_pressed_ 154 = .ok (.iload 7, 2) := by decide +kernel
theorem dX11_pressed__156 : decode cX11_pressed_ 156 = .ok (.iload 4, 2) := by decide +kernel
theorem dX11_pressed__158 : decode cX11_pressed_ 158 = .ok (.if_icmp .ge 58, 3) := by decide +kernel
theorem dX11_pressed__161 : decode cX11_pressed_ 161 = .ok (.aload_n 0, 1) := by decide +kernel
theorem dX11_pressed__162 : decode cX11_pressed_ 162 = .ok (.iload_n 2, 1) := by decide +kernel
theorem dX11_pressed__163 : decode cX11_pressed_ 163 = .ok (.iload_n 3, 1) := by decide +kernel
theorem dX11_pressed__164 : decode cX11_pressed_ 164 = .ok (.iload 7, 2) := by decide +kernel
theorem dX11_pressed__166 : decode cX11_pressed_ 166 = .ok (.iadd, 1) := by decide +kernel
theorem dX11_pressed__167 : decode cX11_pressed_ 167 = .ok (.invokevirtual 313, 3) := by decide +kernel
theorem dX11_pressed__170 : decode cX11_pressed_ 170 = .ok (.ifCond .eq 16, 3) := by decide +kernel
theorem dX11_pressed__173 : decode cX11_pressed_ 173 = .ok (.aload_n 0, 1) := by decide +kernel
theorem dX11_pressed__174 : decode cX11_pressed_ 174 = .ok (.iload_n 2, 1) := by decide +kernel
theorem dX11_pressed__175 : decode cX11_pressed_ 175 = .ok (.iload_n 3, 1) := by decide +kernel
theorem dX11_pressed__176 : decode cX11_pressed_ 176 = .ok (.iload 7, 2) := by decide +kernel
theorem dX11_pressed__178 : decode cX11_pressed_ 178 = .ok (.iadd, 1) := by decide +kernel
theorem dX11_pressed__179 : decode cX11_pressed_ 179 = .ok (.invokevirtual 313, 3) := by decide +kernel
theorem dX11_pressed__182 : decode cX11_pressed_ 182 = .ok (.iconst 1, 1) := by decide +kernel
theorem dX11_pressed__183 : decode cX11_pressed_ 183 = .ok (.if_icmp .ne 27, 3) := by decide +kernel
theorem dX11_pressed__186 : decode cX11_pressed_ 186 = .ok (.aload_n 0, 1) := by decide +kernel
theorem dX11_pressed__187 : decode cX11_pressed_ 187 = .ok (.iload_n 1, 1) := by decide +kernel
theorem dX11_pressed__188 : decode cX11_pressed_ 188 = .ok (.aload_n 0, 1) := by decide +kernel
theorem dX11_pressed__189 : decode cX11_pressed_ 189 = .ok (.getfield 200, 3) := by decide +kernel
theorem dX11_pressed__192 : decode cX11_pressed_ 192 = .ok (.iload 4, 2) := by decide +kernel
theorem dX11_pressed__194 : decode cX11_pressed_ 194 = .ok (.isub, 1) := by decide +kernel
theorem dX11_pressed__195 : decode cX11_pressed_ 195 = .ok (.iload 7, 2) := by decide +kernel
theorem dX11_pressed__197 : decode cX11_pressed_ 197 = .ok (.iadd, 1) := by decide +kernel
theorem dX11_pressed__198 : decode cX11_pressed_ 198 = .ok (.aload_n 0, 1) := by decide +kernel
theorem dX11_pressed__199 : decode cX11_pressed_ 199 = .ok (.iload_n 2, 1) := by decide +kernel
theorem dX11_pressed__200 : decode cX11_pressed_ 200 = .ok (.iload_n 3, 1) := by decide +kernel
theorem dX11_pressed__201 : decode cX11_pressed_ 201 = .ok (.iload 7, 2) := by decide +kernel
theorem dX11_pressed__203 : decode cX11_pressed_ 203 = .ok (.iadd, 1) := by decide +kernel
theorem dX11_pressed__204 : decode cX11_pressed_ 204 = .ok (.invokevirtual 313, 3) := by decide +kernel
theorem dX11_pressed__207 : decode cX11_pressed_ 207 = .ok (.invokevirtual 309, 3) := by decide +kernel
theorem dX11_pressed__210 : decode cX11_pressed_ 210 = .ok (.iinc 7 1, 3) := by decide +kernel
theorem dX11_pressed__213 : decode cX11_pressed_ 213 = .ok (.goto (-59), 3) := by decide +kernel
theorem dX11_pressed__216 : decode cX11_pressed_ 216 = .ok (.aload_n 0, 1) := by decide +kernel
theorem dX11_pressed__217 : decode cX11_pressed_ 217 = .ok (.getfield 303, 3) := by decide +kernel
theorem dX11_pressed__220 : decode cX11_pressed_ 220 = .ok (.ireturn, 1) := by decide +kernel
theorem dX11_match_0 : decode cX11_match 0 = .ok (.aload_n 0, 1) := by decide +kernel
theorem dX11_match_1 : decode cX11_match 1 = .ok (.iload_n 1, 1) := by decide +kernel
theorem dX11_match_2 : decode cX11_match 2 = .ok (.invokevirtual 197, 3) := by decide +kernel
theorem dX11_match_5 : decode cX11_match 5 = .ok (.ifCond .ne 9, 3) := by decide +kernel
theorem dX11_match_8 : decode cX11_match 8 = .ok (.aload_n 0, 1) := by decide +kernel
theorem dX11_match_9 : decode cX11_match 9 = .ok (.iconst (-1), 1) := by decide +kernel
theorem dX11_match_10 : decode cX11_match 10 = .ok (.invokevirtual 184, 3) := by decide +kernel
theorem dX11_match_13 : decode cX11_match 13 = .ok (.ireturn, 1) := by decide +kernel
theorem dX11_match_14 : decode cX11_match 14 = .ok (.aload_n 0, 1) := by decide +kernel
theorem dX11_match_15 : decode cX11_match 15 = .ok (.iload_n 2, 1) := by decide +kernel
theorem dX11_match_16 : decode cX11_match 16 = .ok (.invokevirtual 194, 3) := by decide +kernel
theorem dX11_match_19 : decode cX11_match 19 = .ok (.ifCond .ne 10, 3) := by decide +kernel
theorem dX11_match_22 : decode cX11_match 22 = .ok (.aload_n 0, 1) := by decide +kernel
theorem dX11_match_23 : decode cX11_match 23 = .ok (.bipush (-6), 2) := by decide +kernel
theorem dX11_match_25 : decode cX11_match 25 = .ok (.invokevirtual 184, 3) := by decide +kernel
theorem dX11_match_28 : decode cX11_match 28 = .ok (.ireturn, 1) := by decide +kernel
theorem dX11_match_29 : decode cX11_match 29 = .ok (.aload_n 0, 1) := by decide +kernel
theorem dX11_match_30 : decode cX11_match 30 = .ok (.getfield 316, 3) := by decide +kernel
theorem dX11_match_33 : decode cX11_match 33 = .ok (.bipush 20, 2) := by decide +kernel
theorem dX11_match_35 : decode cX11_match 35 = .ok (.if_icmp .ne 10, 3) := by decide +kernel
theorem dX11_match_38 : decode cX11_match 38 = .ok (.aload_n 0, 1) := by decide +kernel
theorem dX11_match_39 : decode cX11_match 39 = .ok (.bipush (-7), 2) := by decide +kernel
theorem dX11_match_41 : decode cX11_match 41 = .ok (.invokevirtual 184, 3) := by decide +kernel
theorem dX11_match_44 : decode cX11_match 44 = .ok (.ireturn, 1) := by decide +kernel
theorem dX11_match_45 : decode cX11_match 45 = .ok (.aload_n 0, 1) := by decide +kernel
theorem dX11_match_46 : decode cX11_match 46 = .ok (.getfield 83, 3) := by decide +kernel
theorem dX11_match_49 : decode cX11_match 49 = .ok (.aload_n 0, 1) := by decide +kernel
theorem dX11_match_50 : decode cX11_match 50 = .ok (.getfield 316, 3) := by decide +kernel
theorem dX11_match_53 : decode cX11_match 53 = .ok (.iload_n 1, 1) := by decide +kernel
theorem dX11_match_54 : decode cX11_match 54 = .ok (.iastore, 1) := by decide +kernel
theorem dX11_match_55 : decode cX11_match 55 = .ok (.aload_n 0, 1) := by decide +kernel
theorem dX11_match_56 : decode cX11_match 56 = .ok (.getfield 86, 3) := by decide +kernel
theorem dX11_match_59 : decode cX11_match 59 = .ok (.aload_n 0, 1) := by decide +kernel
theorem dX11_match_60 : decode cX11_match 60 = .ok (.getfield 316, 3) := by decide +kernel
theorem dX11_match_63 : decode cX11_match 63 = .ok (.iload_n 2, 1) := by decide +kernel
theorem dX11_match_64 : decode cX11_match 64 = .ok (.iastore, 1) := by decide +kernel
theorem dX11_match_65 : decode cX11_match 65 = .ok (.aload_n 0, 1) := by decide +kernel
theorem dX11_match_66 : decode cX11_match 66 = .ok (.getfield 89, 3) := by decide +kernel
theorem dX11_match_69 : decode cX11_match 69 = .ok (.aload_n 0, 1) := by decide +kernel
theorem dX11_match_70 : decode cX11_match 70 = .ok (.getfield 316, 3) := by decide +kernel
theorem dX11_match_73 : decode cX11_match 73 = .ok (.aload_n 0, 1) := by decide +kernel
theorem dX11_match_74 : decode cX11_match 74 = .ok (.dup, 1) := by decide +kernel
theorem dX11_match_75 : decode cX11_match 75 = .ok (.getfield 306, 3) := by decide +kernel
theorem dX11_match_78 : decode cX11_match 78 = .ok (.dup_x1, 1) := by decide +kernel
theorem dX11_match_79 : decode cX11_match 79 = .ok (.iconst 1, 1) := by decide +kernel
theorem dX11_match_80 : decode cX11_match 80 = .ok (.iadd, 1) := by decide +kernel
theorem dX11_match_81 : decode cX11_match 81 = .ok (.putfield 306, 3) := by decide +kernel
theorem dX11_match_84 : decode cX11_match 84 = .ok (.iastore, 1) := by decide +kernel
theorem dX11_match_85 : decode cX11_match 85 = .ok (.aload_n 0, 1) := by decide +kernel
theorem dX11_match_86 : decode cX11_match 86 = .ok (.dup, 1) := by decide +kernel
theorem dX11_match_87 : decode cX11_match 87 = .ok (.getfield 316, 3) := by decide +kernel
theorem dX11_match_90 : decode cX11_match 90 = .ok (.iconst 1, 1) := by decide +kernel
theorem dX11_match_91 : decode cX11_match 91 = .ok (.iadd, 1) := by decide +kernel
theorem dX11_match_92 : decode cX11_match 92 = .ok (.dup_x1, 1) := by decide +kernel
theorem dX11_match_93 : decode cX11_match 93 = .ok (.putfield 316, 3) := by decide +kernel
theorem dX11_match_96 : decode cX11_match 96 = .ok (.ireturn, 1) := by decide +kernel
theorem dX11_letter__0 : decode cX11_letter_ 0 = .ok (.aload_n 0, 1) := by decide +kernel
theorem dX11_letter__1 : decode cX11_letter_ 1 = .ok (.iload_n 1, 1) := by decide +kernel
theorem dX11_letter__2 : decode cX11_letter_ 2 = .ok (.invokevirtual 197, 3) := by decide +kernel
theorem dX11_letter__5 : decode cX11_letter_ 5 = .ok (.ifCond .ne 9, 3) := by decide +kernel
theorem dX11_letter__8 : decode cX11_letter_ 8 = .ok (.aload_n 0, 1) := by decide +kernel
theorem dX11_letter__9 : decode cX11_letter_ 9 = .ok (.iconst (-1), 1) := by decide +kernel
theorem dX11_letter__10 : decode cX11_letter_ 10 = .ok (.invokevirtual 184, 3) := by decide +kernel
theorem dX11_letter__13 : decode cX11_letter_ 13 = .ok (.ireturn, 1) := by decide +kernel
theorem dX11_letter__14 : decode cX11_letter_ 14 = .ok (.iload_n 2, 1) := by decide +kernel
theorem dX11_letter__15 : decode cX11_letter_ 15 = .ok (.ifCond .lt 11, 3) := by decide +kernel
theorem dX11_letter__18 : decode cX11_letter_ 18 = .ok (.iload_n 2, 1) := by decide +kernel
theorem dX11_letter__19 : decode cX11_letter_ 19 = .ok (.aload_n 0, 1) := by decide +kernel
theorem dX11_letter__20 : decode cX11_letter_ 20 = .ok (.getfield 200, 3) := by decide +kernel
theorem dX11_letter__23 : decode cX11_letter_ 23 = .ok (.if_icmp .le 10, 3) := by decide +kernel
theorem dX11_letter__26 : decode cX11_letter_ 26 = .ok (.aload_n 0, 1) := by decide +kernel
theorem dX11_letter__27 : decode cX11_letter_ 27 = .ok (.bipush (-6), 2) := by decide +kernel
theorem dX11_letter__29 : decode cX11_letter_ 29 = .ok (.invokevirtual 184, 3) := by decide +kernel
theorem dX11_letter__32 : decode cX11_letter_ 32 = .ok (.ireturn, 1) := by decide +kernel
theorem dX11_letter__33 : decode cX11_letter_ 33 = .ok (.aload_n 0, 1) := by decide +kernel
theorem dX11_letter__34 : decode cX11_letter_ 34 = .ok (.getfield 319, 3) := by decide +kernel
theorem dX11_letter__37 : decode cX11_letter_ 37 = .ok (.bipush 30, 2) := by decide +kernel
theorem dX11_letter__39 : decode cX11_letter_ 39 = .ok (.if_icmp .ne 10, 3) := by decide +kernel
theorem dX11_letter__42 : decode cX11_letter_ 42 = .ok (.aload_n 0, 1) := by decide +kernel
theorem dX11_letter__43 : decode cX11_letter_ 43 = .ok (.bipush (-7), 2) := by decide +kernel
theorem dX11_letter__45 : decode cX11_letter_ 45 = .ok (.invokevirtual 184, 3) := by decide +kernel
theorem dX11_letter__48 : decode cX11_letter_ 48 = .ok (.ireturn, 1) := by decide +kernel
theorem dX11_letter__49 : decode cX11_letter_ 49 = .ok (.aload_n 0, 1) := by decide +kernel
theorem dX11_letter__50 : decode cX11_letter_ 50 = .ok (.getfield 92, 3) := by decide +kernel
theorem dX11_letter__53 : decode cX11_letter_ 53 = .ok (.aload_n 0, 1) := by decide +kernel
theorem dX11_letter__54 : decode cX11_letter_ 54 = .ok (.getfield 319, 3) := by decide +kernel
theorem dX11_letter__57 : decode cX11_letter_ 57 = .ok (.iload_n 1, 1) := by decide +kernel
theorem dX11_letter__58 : decode cX11_letter_ 58 = .ok (.iastore, 1) := by decide +kernel
theorem dX11_letter__59 : decode cX11_letter_ 59 = .ok (.aload_n 0, 1) := by decide +kernel
theorem dX11_letter__60 : decode cX11_letter_ 60 = .ok (.getfield 95, 3) := by decide +kernel
theorem dX11_letter__63 : decode cX11_letter_ 63 = .ok (.aload_n 0, 1) := by decide +kernel
theorem dX11_letter__64 : decode cX11_letter_ 64 = .ok (.getfield 319, 3) := by decide +kernel
theorem dX11_letter__67 : decode cX11_letter_ 67 = .ok (.aload_n 0, 1) := by decide +kernel
theorem dX11_letter__68 : decode cX11_letter_ 68 = .ok (.getfield 200, 3) := by decide +kernel
theorem dX11_letter__71 : decode cX11_letter_ 71 = .ok (.iastore, 1) := by decide +kernel
theorem dX11_letter__72 : decode cX11_letter_ 72 = .ok (.aload_n 0, 1) := by decide +kernel
theorem dX11_letter__73 : decode cX11_letter_ 73 = .ok (.getfield 98, 3) := by decide +kernel
theorem dX11_letter__76 : decode cX11_letter_ 76 = .ok (.aload_n 0, 1) := by decide +kernel
theorem dX11_letter__77 : decode cX11_letter_ 77 = .ok (.getfield 319, 3) := by decide +kernel
theorem dX11_letter__80 : decode cX11_letter_ 80 = .ok (.iload_n 2, 1) := by decide +kernel
theorem dX11_letter__81 : decode cX11_letter_ 81 = .ok (.iastore, 1) := by decide +kernel
theorem dX11_letter__82 : decode cX11_letter_ 82 = .ok (.aload_n 0, 1) := by decide +kernel
theorem dX11_letter__83 : decode cX11_letter_ 83 = .ok (.dup, 1) := by decide +kernel
theorem dX11_letter__84 : decode cX11_letter_ 84 = .ok (.getfield 319, 3) := by decide +kernel
theorem dX11_letter__87 : decode cX11_letter_ 87 = .ok (.iconst 1, 1) := by decide +kernel
theorem dX11_letter__88 : decode cX11_letter_ 88 = .ok (.iadd, 1) := by decide +kernel
theorem dX11_letter__89 : decode cX11_letter_ 89 = .ok (.dup_x1, 1) := by decide +kernel
theorem dX11_letter__90 : decode cX11_letter_ 90 = .ok (.putfield 319, 3) := by decide +kernel
theorem dX11_letter__93 : decode cX11_letter_ 93 = .ok (.ireturn, 1) := by decide +kernel
theorem dX11_worth_0 : decode cX11_worth 0 = .ok (.lconst 1, 1) := by decide +kernel
theorem dX11_worth_1 : decode cX11_worth 1 = .ok (.lstore_n 3, 1) := by decide +kernel
theorem dX11_worth_2 : decode cX11_worth 2 = .ok (.aload_n 0, 1) := by decide +kernel
theorem dX11_worth_3 : decode cX11_worth 3 = .ok (.getfield 303, 3) := by decide +kernel
theorem dX11_worth_6 : decode cX11_worth 6 = .ok (.iconst 1, 1) := by decide +kernel
theorem dX11_worth_7 : decode cX11_worth 7 = .ok (.isub, 1) := by decide +kernel
theorem dX11_worth_8 : decode cX11_worth 8 = .ok (.istore 5, 2) := by decide +kernel
theorem dX11_worth_10 : decode cX11_worth 10 = .ok (.aload_n 0, 1) := by decide +kernel
theorem dX11_worth_11 : decode cX11_worth 11 = .ok (.getfield 316, 3) := by decide +kernel
theorem dX11_worth_14 : decode cX11_worth 14 = .ok (.iconst 1, 1) := by decide +kernel
theorem dX11_worth_15 : decode cX11_worth 15 = .ok (.isub, 1) := by decide +kernel
theorem dX11_worth_16 : decode cX11_worth 16 = .ok (.istore 6, 2) := by decide +kernel
theorem dX11_worth_18 : decode cX11_worth 18 = .ok (.iconst 0, 1) := by decide +kernel
theorem dX11_worth_19 : decode cX11_worth 19 = .ok (.istore 7, 2) := by decide +kernel
theorem dX11_worth_21 : decode cX11_worth 21 = .ok (.iload 7, 2) := by decide +kernel
theorem dX11_worth_23 : decode cX11_worth 23 = .ok (.bipush 16, 2) := by decide +kernel
theorem dX11_worth_25 : decode cX11_worth 25 = .ok (.if_icmp .ge 206, 3) := by decide +kernel
theorem dX11_worth_28 : decode cX11_worth 28 = .ok (.iload 5, 2) := by decide +kernel
theorem dX11_worth_30 : decode cX11_worth 30 = .ok (.ifCond .lt 20, 3) := by decide +kernel
theorem dX11_worth_33 : decode cX11_worth 33 = .ok (.aload_n 0, 1) := by decide +kernel
theorem dX11_worth_34 : decode cX11_worth 34 = .ok (.getfield 68, 3) := by decide +kernel
theorem dX11_worth_37 : decode cX11_worth 37 = .ok (.iload 5, 2) := by decide +kernel
theorem dX11_worth_39 : decode cX11_worth 39 = .ok (.iaload, 1) := by decide +kernel
theorem dX11_worth_40 : decode cX11_worth 40 = .ok (.iload_n 1, 1) := by decide +kernel
theorem dX11_worth_41 : decode cX11_worth 41 = .ok (.if_icmp .eq 9, 3) := by decide +kernel
theorem dX11_worth_44 : decode cX11_worth 44 = .ok (.iinc 5 (-1), 3) := by decide +kernel
theorem dX11_worth_47 : decode cX11_worth 47 = .ok (.goto (-19), 3) := by decide +kernel
theorem dX11_worth_50 : decode cX11_worth 50 = .ok (.iload 6, 2) := by decide +kernel
theorem dX11_worth_52 : decode cX11_worth 52 = .ok (.ifCond .lt 20, 3) := by decide +kernel
theorem dX11_worth_55 : decode cX11_worth 55 = .ok (.aload_n 0, 1) := by decide +kernel
theorem dX11_worth_56 : decode cX11_worth 56 = .ok (.getfield 83, 3) := by decide +kernel
theorem dX11_worth_59 : decode cX11_worth 59 = .ok (.iload 6, 2) := by decide +kernel
theorem dX11_worth_61 : decode cX11_worth 61 = .ok (.iaload, 1) := by decide +kernel
theorem dX11_worth_62 : decode cX11_worth 62 = .ok (.iload_n 1, 1) := by decide +kernel
theorem dX11_worth_63 : decode cX11_worth 63 = .ok (.if_icmp .eq 9, 3) := by decide +kernel
theorem dX11_worth_66 : decode cX11_worth 66 = .ok (.iinc 6 (-1), 3) := by decide +kernel
theorem dX11_worth_69 : decode cX11_worth 69 = .ok (.goto (-19), 3) := by decide +kernel
theorem dX11_worth_72 : decode cX11_worth 72 = .ok (.iload 5, 2) := by decide +kernel
theorem dX11_worth_74 : decode cX11_worth 74 = .ok (.ifCond .ge 11, 3) := by decide +kernel
theorem dX11_worth_77 : decode cX11_worth 77 = .ok (.iload 6, 2) := by decide +kernel
theorem dX11_worth_79 : decode cX11_worth 79 = .ok (.ifCond .ge 6, 3) := by decide +kernel
theorem dX11_worth_82 : decode cX11_worth 82 = .ok (.goto 149, 3) := by decide +kernel
theorem dX11_worth_85 : decode cX11_worth 85 = .ok (.iload 6, 2) := by decide +kernel
theorem dX11_worth_87 : decode cX11_worth 87 = .ok (.ifCond .lt 25, 3) := by decide +kernel
theorem dX11_worth_90 : decode cX11_worth 90 = .ok (.iload 5, 2) := by decide +kernel
theorem dX11_worth_92 : decode cX11_worth 92 = .ok (.ifCond .lt 72, 3) := by decide +kernel
theorem dX11_worth_95 : decode cX11_worth 95 = .ok (.aload_n 0, 1) := by decide +kernel
theorem dX11_worth_96 : decode cX11_worth 96 = .ok (.getfield 80, 3) := by decide +kernel
theorem dX11_worth_99 : decode cX11_worth 99 = .ok (.iload 5, 2) := by decide +kernel
theorem dX11_worth_101 : decode cX11_worth 101 = .ok (.iaload, 1) := by decide +kernel
theorem dX11_worth_102 : decode cX11_worth 102 = .ok (.aload_n 0, 1) := by decide +kernel
theorem dX11_worth_103 : decode cX11_worth 103 = .ok (.getfield 89, 3) := by decide +kernel
theorem dX11_worth_106 : decode cX11_worth 106 = .ok (.iload 6, 2) := by decide +kernel
theorem dX11_worth_108 : decode cX11_worth 108 = .ok (.iaload, 1) := by decide +kernel
theorem dX11_worth_109 : decode cX11_worth 109 = .ok (.if_icmp .le 55, 3) := by decide +kernel
theorem dX11_worth_112 : decode cX11_worth 112 = .ok (.aload_n 0, 1) := by decide +kernel
theorem dX11_worth_113 : decode cX11_worth 113 = .ok (.iload_n 1, 1) := by decide +kernel
theorem dX11_worth_114 : decode cX11_worth 114 = .ok (.iload_n 2, 1) := by decide +kernel
theorem dX11_worth_115 : decode cX11_worth 115 = .ok (.aload_n 0, 1) := by decide +kernel
theorem dX11_worth_116 : decode cX11_worth 116 = .ok (.getfield 74, 3) := by decide +kernel
theorem dX11_worth_119 : decode cX11_worth 119 = .ok (.iload 5, 2) := by decide +kernel
theorem dX11_worth_121 : decode cX11_worth 121 = .ok (.iaload, 1) := by decide +kernel
theorem dX11_worth_122 : decode cX11_worth 122 = .ok (.aload_n 0, 1) := by decide +kernel
theorem dX11_worth_123 : decode cX11_worth 123 = .ok (.getfield 71, 3) := by decide +kernel
theorem dX11_worth_126 : decode cX11_worth 126 = .ok (.iload 5, 2) := by decide +kernel
theorem dX11_worth_128 : decode cX11_worth 128 = .ok (.iaload, 1) := by decide +kernel
theorem dX11_worth_129 : decode cX11_worth 129 = .ok (.invokevirtual 295, 3) := by decide +kernel
theorem dX11_worth_132 : decode cX11_worth 132 = .ok (.aload_n 0, 1) := by decide +kernel
theorem dX11_worth_133 : decode cX11_worth 133 = .ok (.getfield 77, 3) := by decide +kernel
theorem dX11_worth_136 : decode cX11_worth 136 = .ok (.iload 5, 2) := by decide +kernel
theorem dX11_worth_138 : decode cX11_worth 138 = .ok (.iaload, 1) := by decide +kernel
theorem dX11_worth_139 : decode cX11_worth 139 = .ok (.iconst 1, 1) := by decide +kernel
theorem dX11_worth_140 : decode cX11_worth 140 = .ok (.if_icmp .ne 7, 3) := by decide +kernel
theorem dX11_worth_143 : decode cX11_worth 143 = .ok (.iconst 1, 1) := by decide +kernel
theorem dX11_worth_144 : decode cX11_worth 144 = .ok (.goto 4, 3) := by decide +kernel
theorem dX11_worth_147 : decode cX11_worth 147 = .ok (.iconst 0, 1) := by decide +kernel
theorem dX11_worth_148 : decode cX11_worth 148 = .ok (.if_icmp .ne 7, 3) := by decide +kernel
theorem dX11_worth_151 : decode cX11_worth 151 = .ok (.iconst 1, 1) := by decide +kernel
theorem dX11_worth_152 : decode cX11_worth 152 = .ok (.goto 4, 3) := by decide +kernel
theorem dX11_worth_155 : decode cX11_worth 155 = .ok (.iconst 0, 1) := by decide +kernel
theorem dX11_worth_156 : decode cX11_worth 156 = .ok (.istore 8, 2) := by decide +kernel
theorem dX11_worth_158 : decode cX11_worth 158 = .ok (.iinc 5 (-1), 3) := by decide +kernel
theorem dX11_worth_161 : decode cX11_worth 161 = .ok (.goto 39, 3) := by decide +kernel
theorem dX11_worth_164 : decode cX11_worth 164 = .ok (.aload_n 0, 1) := by decide +kernel
theorem dX11_worth_165 : decode cX11_worth 165 = .ok (.aload_n 0, 1) := by decide +kernel
theorem dX11_worth_166 : decode cX11_worth 166 = .ok (.getfield 86, 3) := by decide +kernel
theorem dX11_worth_169 : decode cX11_worth 169 = .ok (.iload 6, 2) := by decide +kernel
theorem dX11_worth_171 : decode cX11_worth 171 = .ok (.iaload, 1) := by decide +kernel
theorem dX11_worth_172 : decode cX11_worth 172 = .ok (.aload_n 0, 1) := by decide +kernel
theorem dX11_worth_173 : decode cX11_worth 173 = .ok (.getfield 50, 3) := by decide +kernel
theorem dX11_worth_176 : decode cX11_worth 176 = .ok (.iload_n 2, 1) := by decide +kernel
theorem dX11_worth_177 : decode cX11_worth 177 = .ok (.iaload, 1) := by decide +kernel
theorem dX11_worth_178 : decode cX11_worth 178 = .ok (.invokevirtual 266, 3) := by decide +kernel
theorem dX11_worth_181 : decode cX11_worth 181 = .ok (.aload_n 0, 1) := by decide +kernel
theorem dX11_worth_182 : decode cX11_worth 182 = .ok (.getfield 20, 3) := by decide +kernel
theorem dX11_worth_185 : decode cX11_worth 185 = .ok (.iconst 4, 1) := by decide +kernel
theorem dX11_worth_186 : decode cX11_worth 186 = .ok (.iaload, 1) := by decide +kernel
theorem dX11_worth_187 : decode cX11_worth 187 = .ok (.if_icmp .gt 7, 3) := by decide +kernel
theorem dX11_worth_190 : decode cX11_worth 190 = .ok (.iconst 1, 1) := by decide +kernel
theorem dX11_worth_191 : decode cX11_worth 191 = .ok (.goto 4, 3) := by decide +kernel
theorem dX11_worth_194 : decode cX11_worth 194 = .ok (.iconst 0, 1) := by decide +kernel
theorem dX11_worth_195 : decode cX11_worth 195 = .ok (.istore 8, 2) := by decide +kernel
theorem dX11_worth_197 : decode cX11_worth 197 = .ok (.iinc 6 (-1), 3) := by decide +kernel
theorem dX11_worth_200 : decode cX11_worth 200 = .ok (.lload_n 3, 1) := by decide +kernel
theorem dX11_worth_201 : decode cX11_worth 201 = .ok (.iload 8, 2) := by decide +kernel
theorem dX11_worth_203 : decode cX11_worth 203 = .ok (.ifCond .eq 13, 3) := by decide +kernel
theorem dX11_worth_206 : decode cX11_worth 206 = .ok (.aload_n 0, 1) := by decide +kernel
theorem dX11_worth_207 : decode cX11_worth 207 = .ok (.getfield 20, 3) := by decide +kernel
theorem dX11_worth_210 : decode cX11_worth 210 = .ok (.iconst 2, 1) := by decide +kernel
theorem dX11_worth_211 : decode cX11_worth 211 = .ok (.iaload, 1) := by decide +kernel
theorem dX11_worth_212 : decode cX11_worth 212 = .ok (.i2l, 1) := by decide +kernel
theorem dX11_worth_213 : decode cX11_worth 213 = .ok (.goto 10, 3) := by decide +kernel
theorem dX11_worth_216 : decode cX11_worth 216 = .ok (.aload_n 0, 1) := by decide +kernel
theorem dX11_worth_217 : decode cX11_worth 217 = .ok (.getfield 20, 3) := by decide +kernel
theorem dX11_worth_220 : decode cX11_worth 220 = .ok (.iconst 3, 1) := by decide +kernel
theorem dX11_worth_221 : decode cX11_worth 221 = .ok (.iaload, 1) := by decide +kernel
theorem dX11_worth_222 : decode cX11_worth 222 = .ok (.i2l, 1) := by decide +kernel
theorem dX11_worth_223 : decode cX11_worth 223 = .ok (.lmul, 1) := by decide +kernel
theorem dX11_worth_224 : decode cX11_worth 224 = .ok (.lstore_n 3, 1) := by decide +kernel
theorem dX11_worth_225 : decode cX11_worth 225 = .ok (.iinc 7 1, 3) := by decide +kernel
theorem dX11_worth_228 : decode cX11_worth 228 = .ok (.goto (-207), 3) := by decide +kernel
theorem dX11_worth_231 : decode cX11_worth 231 = .ok (.lload_n 3, 1) := by decide +kernel
theorem dX11_worth_232 : decode cX11_worth 232 = .ok (.lreturn, 1) := by decide +kernel
theorem dX11_odds_0 : decode cX11_odds 0 = .ok (.aload_n 0, 1) := by decide +kernel
theorem dX11_odds_1 : decode cX11_odds 1 = .ok (.iload_n 1, 1) := by decide +kernel
theorem dX11_odds_2 : decode cX11_odds 2 = .ok (.invokevirtual 197, 3) := by decide +kernel
theorem dX11_odds_5 : decode cX11_odds 5 = .ok (.ifCond .eq 20, 3) := by decide +kernel
theorem dX11_odds_8 : decode cX11_odds 8 = .ok (.aload_n 0, 1) := by decide +kernel
theorem dX11_odds_9 : decode cX11_odds 9 = .ok (.iload_n 2, 1) := by decide +kernel
theorem dX11_odds_10 : decode cX11_odds 10 = .ok (.invokevirtual 188, 3) := by decide +kernel
theorem dX11_odds_13 : decode cX11_odds 13 = .ok (.ifCond .eq 12, 3) := by decide +kernel
theorem dX11_odds_16 : decode cX11_odds 16 = .ok (.aload_n 0, 1) := by decide +kernel
theorem dX11_odds_17 : decode cX11_odds 17 = .ok (.iload_n 1, 1) := by decide +kernel
theorem dX11_odds_18 : decode cX11_odds 18 = .ok (.iload_n 2, 1) := by decide +kernel
theorem dX11_odds_19 : decode cX11_odds 19 = .ok (.invokevirtual 322, 3) := by decide +kernel
theorem dX11_odds_22 : decode cX11_odds 22 = .ok (.goto 4, 3) := by decide +kernel
theorem dX11_odds_25 : decode cX11_odds 25 = .ok (.lconst 0, 1) := by decide +kernel
theorem dX11_odds_26 : decode cX11_odds 26 = .ok (.lreturn, 1) := by decide +kernel
theorem dX11_sure_0 : decode cX11_sure 0 = .ok (.aload_n 0, 1) := by decide +kernel
theorem dX11_sure_1 : decode cX11_sure 1 = .ok (.iload_n 1, 1) := by decide +kernel
theorem dX11_sure_2 : decode cX11_sure 2 = .ok (.invokevirtual 197, 3) := by decide +kernel
theorem dX11_sure_5 : decode cX11_sure 5 = .ok (.ifCond .eq 14, 3) := by decide +kernel
theorem dX11_sure_8 : decode cX11_sure 8 = .ok (.iload_n 2, 1) := by decide +kernel
theorem dX11_sure_9 : decode cX11_sure 9 = .ok (.iconst 1, 1) := by decide +kernel
theorem dX11_sure_10 : decode cX11_sure 10 = .ok (.if_icmp .lt 9, 3) := by decide +kernel
theorem dX11_sure_13 : decode cX11_sure 13 = .ok (.iload_n 2, 1) := by decide +kernel
theorem dX11_sure_14 : decode cX11_sure 14 = .ok (.bipush 100, 2) := by decide +kernel
theorem dX11_sure_16 : decode cX11_sure 16 = .ok (.if_icmp .le 5, 3) := by decide +kernel
theorem dX11_sure_19 : decode cX11_sure 19 = .ok (.iconst (-1), 1) := by decide +kernel
theorem dX11_sure_20 : decode cX11_sure 20 = .ok (.ireturn, 1) := by decide +kernel
theorem dX11_sure_21 : decode cX11_sure 21 = .ok (.lconst 0, 1) := by decide +kernel
theorem dX11_sure_22 : decode cX11_sure 22 = .ok (.lstore_n 3, 1) := by decide +kernel
theorem dX11_sure_23 : decode cX11_sure 23 = .ok (.lconst 0, 1) := by decide +kernel
theorem dX11_sure_24 : decode cX11_sure 24 = .ok (.lstore 5, 2) := by decide +kernel
theorem dX11_sure_26 : decode cX11_sure 26 = .ok (.iconst (-1), 1) := by decide +kernel
theorem dX11_sure_27 : decode cX11_sure 27 = .ok (.istore 7, 2) := by decide +kernel
theorem dX11_sure_29 : decode cX11_sure 29 = .ok (.iconst 0, 1) := by decide +kernel
theorem dX11_sure_30 : decode cX11_sure 30 = .ok (.istore 8, 2) := by decide +kernel
theorem dX11_sure_32 : decode cX11_sure 32 = .ok (.iload 8, 2) := by decide +kernel
theorem dX11_sure_34 : decode cX11_sure 34 = .ok (.aload_n 0, 1) := by decide +kernel
theorem dX11_sure_35 : decode cX11_sure 35 = .ok (.getfield 174, 3) := by decide +kernel
theorem dX11_sure_38 : decode cX11_sure 38 = .ok (.if_icmp .ge 53, 3) := by decide +kernel
theorem dX11_sure_41 : decode cX11_sure 41 = .ok (.aload_n 0, 1) := by decide +kernel
theorem dX11_sure_42 : decode cX11_sure 42 = .ok (.iload_n 1, 1) := by decide +kernel
theorem dX11_sure_43 : decode cX11_sure 43 = .ok (.iload 8, 2) := by decide +kernel
theorem dX11_sure_45 : decode cX11_sure 45 = .ok (.invokevirtual 322, 3) := by decide +kernel
theorem dX11_sure_48 : decode cX11_sure 48 = .ok (.lstore 9, 2) := by decide +kernel
theorem dX11_sure_50 : decode cX11_sure 50 = .ok (.lload_n 3, 1) := by decide +kernel
theorem dX11_sure_51 : decode cX11_sure 51 = .ok (.lload 9, 2) := by decide +kernel
theorem dX11_sure_53 : decode cX11_sure 53 = .ok (.ladd, 1) := by decide +kernel
theorem dX11_sure_54 : decode cX11_sure 54 = .ok (.lstore_n 3, 1) := by decide +kernel
theorem dX11_sure_55 : decode cX11_sure 55 = .ok (.lload 9, 2) := by decide +kernel
theorem dX11_sure_57 : decode cX11_sure 57 = .ok (.lload 5, 2) := by decide +kernel
theorem dX11_sure_59 : decode cX11_sure 59 = .ok (.lcmp, 1) := by decide +kernel
theorem dX11_sure_60 : decode cX11_sure 60 = .ok (.ifCond .le 14, 3) := by decide +kernel
theorem dX11_sure_63 : decode cX11_sure 63 = .ok (.lload 9, 2) := by decide +kernel
theorem dX11_sure_65 : decode cX11_sure 65 = .ok (.lstore 5, 2) := by decide +kernel
theorem dX11_sure_67 : decode cX11_sure 67 = .ok (.iload 8, 2) := by decide +kernel
theorem dX11_sure_69 : decode cX11_sure 69 = .ok (.istore 7, 2) := by decide +kernel
theorem dX11_sure_71 : decode cX11_sure 71 = .ok (.goto 14, 3) := by decide +kernel
theorem dX11_sure_74 : decode cX11_sure 74 = .ok (.lload 9, 2) := by decide +kernel
theorem dX11_sure_76 : decode cX11_sure 76 = .ok (.lload 5, 2) := by decide +kernel
theorem dX11_sure_78 : decode cX11_sure 78 = .ok (.lcmp, 1) := by decide +kernel
theorem dX11_sure_79 : decode cX11_sure 79 = .ok (.ifCond .ne 6, 3) := by decide +kernel
theorem dX11_sure_82 : decode cX11_sure 82 = .ok (.iconst (-1), 1) := by decide +kernel
theorem dX11_sure_83 : decode cX11_sure 83 = .ok (.istore 7, 2) := by decide +kernel
theorem dX11_sure_85 : decode cX11_sure 85 = .ok (.iinc 8 1, 3) := by decide +kernel
theorem dX11_sure_88 : decode cX11_sure 88 = .ok (.goto (-56), 3) := by decide +kernel
theorem dX11_sure_91 : decode cX11_sure 91 = .ok (.iload 7, 2) := by decide +kernel
theorem dX11_sure_93 : decode cX11_sure 93 = .ok (.iconst (-1), 1) := by decide +kernel
theorem dX11_sure_94 : decode cX11_sure 94 = .ok (.if_icmp .eq 22, 3) := by decide +kernel
theorem dX11_sure_97 : decode cX11_sure 97 = .ok (.ldc2_w 326, 3) := by decide +kernel
theorem dX11_sure_100 : decode cX11_sure 100 = .ok (.lload 5, 2) := by decide +kernel
theorem dX11_sure_102 : decode cX11_sure 102 = .ok (.lmul, 1) := by decide +kernel
theorem dX11_sure_103 : decode cX11_sure 103 = .ok (.iload_n 2, 1) := by decide +kernel
theorem dX11_sure_104 : decode cX11_sure 104 = .ok (.i2l, 1) := by decide +kernel
theorem dX11_sure_105 : decode cX11_sure 105 = .ok (.lload_n 3, 1) := by decide +kernel
theorem dX11_sure_106 : decode cX11_sure 106 = .ok (.lmul, 1) := by decide +kernel
theorem dX11_sure_107 : decode cX11_sure 107 = .ok (.lcmp, 1) := by decide +kernel
theorem dX11_sure_108 : decode cX11_sure 108 = .ok (.ifCond .lt 8, 3) := by decide +kernel
theorem dX11_sure_111 : decode cX11_sure 111 = .ok (.iload 7, 2) := by decide +kernel
theorem dX11_sure_113 : decode cX11_sure 113 = .ok (.goto 4, 3) := by decide +kernel
theorem dX11_sure_116 : decode cX11_sure 116 = .ok (.iconst (-1), 1) := by decide +kernel
theorem dX11_sure_117 : decode cX11_sure 117 = .ok (.ireturn, 1) := by decide +kernel
theorem dX11_could_0 : decode cX11_could 0 = .ok (.aload_n 0, 1) := by decide +kernel
theorem dX11_could_1 : decode cX11_could 1 = .ok (.iload_n 1, 1) := by decide +kernel
theorem dX11_could_2 : decode cX11_could 2 = .ok (.invokevirtual 197, 3) := by decide +kernel
theorem dX11_could_5 : decode cX11_could 5 = .ok (.ifCond .eq 11, 3) := by decide +kernel
theorem dX11_could_8 : decode cX11_could 8 = .ok (.aload_n 0, 1) := by decide +kernel
theorem dX11_could_9 : decode cX11_could 9 = .ok (.iload_n 2, 1) := by decide +kernel
theorem dX11_could_10 : decode cX11_could 10 = .ok (.invokevirtual 194, 3) := by decide +kernel
theorem dX11_could_13 : decode cX11_could 13 = .ok (.ifCond .ne 5, 3) := by decide +kernel
theorem dX11_could_16 : decode cX11_could 16 = .ok (.iconst (-1), 1) := by decide +kernel
theorem dX11_could_17 : decode cX11_could 17 = .ok (.ireturn, 1) := by decide +kernel
theorem dX11_could_18 : decode cX11_could 18 = .ok (.iconst 0, 1) := by decide +kernel
theorem dX11_could_19 : decode cX11_could 19 = .ok (.istore_n 3, 1) := by decide +kernel
theorem dX11_could_20 : decode cX11_could 20 = .ok (.iconst 0, 1) := by decide +kernel
theorem dX11_could_21 : decode cX11_could 21 = .ok (.istore 4, 2) := by decide +kernel
theorem dX11_could_23 : decode cX11_could 23 = .ok (.iload 4, 2) := by decide +kernel
theorem dX11_could_25 : decode cX11_could 25 = .ok (.aload_n 0, 1) := by decide +kernel
theorem dX11_could_26 : decode cX11_could 26 = .ok (.getfield 174, 3) := by decide +kernel
theorem dX11_could_29 : decode cX11_could 29 = .ok (.if_icmp .ge 62, 3) := by decide +kernel
theorem dX11_could_32 : decode cX11_could 32 = .ok (.aload_n 0, 1) := by decide +kernel
theorem dX11_could_33 : decode cX11_could 33 = .ok (.iload 4, 2) := by decide +kernel
theorem dX11_could_35 : decode cX11_could 35 = .ok (.invokevirtual 279, 3) := by decide +kernel
theorem dX11_could_38 : decode cX11_could 38 = .ok (.ifCond .ne 47, 3) := by decide +kernel
theorem dX11_could_41 : decode cX11_could 41 = .ok (.aload_n 0, 1) := by decide +kernel
theorem dX11_could_42 : decode cX11_could 42 = .ok (.aload_n 0, 1) := by decide +kernel
theorem dX11_could_43 : decode cX11_could 43 = .ok (.getfield 50, 3) := by decide +kernel
theorem dX11_could_46 : decode cX11_could 46 = .ok (.iload 4, 2) := by decide +kernel
theorem dX11_could_48 : decode cX11_could 48 = .ok (.iaload, 1) := by decide +kernel
theorem dX11_could_49 : decode cX11_could 49 = .ok (.iload_n 2, 1) := by decide +kernel
theorem dX11_could_50 : decode cX11_could 50 = .ok (.invokevirtual 266, 3) := by decide +kernel
theorem dX11_could_53 : decode cX11_could 53 = .ok (.aload_n 0, 1) := by decide +kernel
theorem dX11_could_54 : decode cX11_could 54 = .ok (.getfield 20, 3) := by decide +kernel
theorem dX11_could_57 : decode cX11_could 57 = .ok (.iconst 4, 1) := by decide +kernel
theorem dX11_could_58 : decode cX11_could 58 = .ok (.iaload, 1) := by decide +kernel
theorem dX11_could_59 : decode cX11_could 59 = .ok (.if_icmp .gt 26, 3) := by decide +kernel
theorem dX11_could_62 : decode cX11_could 62 = .ok (.aload_n 0, 1) := by decide +kernel
theorem dX11_could_63 : decode cX11_could 63 = .ok (.iload_n 1, 1) := by decide +kernel
theorem dX11_could_64 : decode cX11_could 64 = .ok (.iload 4, 2) := by decide +kernel
theorem dX11_could_66 : decode cX11_could 66 = .ok (.aload_n 0, 1) := by decide +kernel
theorem dX11_could_67 : decode cX11_could 67 = .ok (.getfield 29, 3) := by decide +kernel
theorem dX11_could_70 : decode cX11_could 70 = .ok (.iload_n 1, 1) := by decide +kernel
theorem dX11_could_71 : decode cX11_could 71 = .ok (.iaload, 1) := by decide +kernel
theorem dX11_could_72 : decode cX11_could 72 = .ok (.invokevirtual 288, 3) := by decide +kernel
theorem dX11_could_75 : decode cX11_could 75 = .ok (.ifCond .eq 10, 3) := by decide +kernel
theorem dX11_could_78 : decode cX11_could 78 = .ok (.iload_n 3, 1) := by decide +kernel
theorem dX11_could_79 : decode cX11_could 79 = .ok (.iconst 1, 1) := by decide +kernel
theorem dX11_could_80 : decode cX11_could 80 = .ok (.iload 4, 2) := by decide +kernel
theorem dX11_could_82 : decode cX11_could 82 = .ok (.ishl, 1) := by decide +kernel
theorem dX11_could_83 : decode cX11_could 83 = .ok (.ior, 1) := by decide +kernel
theorem dX11_could_84 : decode cX11_could 84 = .ok (.istore_n 3, 1) := by decide +kernel
theorem dX11_could_85 : decode cX11_could 85 = .ok (.iinc 4 1, 3) := by decide +kernel
theorem dX11_could_88 : decode cX11_could 88 = .ok (.goto (-65), 3) := by decide +kernel
theorem dX11_could_91 : decode cX11_could 91 = .ok (.iload_n 3, 1) := by decide +kernel
theorem dX11_could_92 : decode cX11_could 92 = .ok (.ireturn, 1) := by decide +kernel
theorem dX11_lacks_0 : decode cX11_lacks 0 = .ok (.aload_n 0, 1) := by decide +kernel
theorem dX11_lacks_1 : decode cX11_lacks 1 = .ok (.iload_n 1, 1) := by decide +kernel
theorem dX11_lacks_2 : decode cX11_lacks 2 = .ok (.invokevirtual 197, 3) := by decide +kernel
theorem dX11_lacks_5 : decode cX11_lacks 5 = .ok (.ifCond .ne 5, 3) := by decide +kernel
theorem dX11_lacks_8 : decode cX11_lacks 8 = .ok (.iconst (-1), 1) := by decide +kernel
theorem dX11_lacks_9 : decode cX11_lacks 9 = .ok (.ireturn, 1) := by decide +kernel
theorem dX11_lacks_10 : decode cX11_lacks 10 = .ok (.iconst (-1), 1) := by decide +kernel
theorem dX11_lacks_11 : decode cX11_lacks 11 = .ok (.istore_n 2, 1) := by decide +kernel
theorem dX11_lacks_12 : decode cX11_lacks 12 = .ok (.iconst 0, 1) := by decide +kernel
theorem dX11_lacks_13 : decode cX11_lacks 13 = .ok (.istore_n 3, 1) := by decide +kernel
theorem dX11_lacks_14 : decode cX11_lacks 14 = .ok (.iload_n 3, 1) := by decide +kernel
theorem dX11_lacks_15 : decode cX11_lacks 15 = .ok (.aload_n 0, 1) := by decide +kernel
theorem dX11_lacks_16 : decode cX11_lacks 16 = .ok (.getfield 174, 3) := by decide +kernel
theorem dX11_lacks_19 : decode cX11_lacks 19 = .ok (.if_icmp .ge 76, 3) := by decide +kernel
theorem dX11_lacks_22 : decode cX11_lacks 22 = .ok (.aload_n 0, 1) := by decide +kernel
theorem dX11_lacks_23 : decode cX11_lacks 23 = .ok (.iload_n 3, 1) := by decide +kernel
theorem dX11_lacks_24 : decode cX11_lacks 24 = .ok (.invokevirtual 279, 3) := by decide +kernel
theorem dX11_lacks_27 : decode cX11_lacks 27 = .ok (.ifCond .eq 6, 3) := by decide +kernel
theorem dX11_lacks_30 : decode cX11_lacks 30 = .ok (.goto 59, 3) := by decide +kernel
theorem dX11_lacks_33 : decode cX11_lacks 33 = .ok (.aload_n 0, 1) := by decide +kernel
theorem dX11_lacks_34 : decode cX11_lacks 34 = .ok (.iload_n 1, 1) := by decide +kernel
theorem dX11_lacks_35 : decode cX11_lacks 35 = .ok (.aload_n 0, 1) := by decide +kernel
theorem dX11_lacks_36 : decode cX11_lacks 36 = .ok (.getfield 50, 3) := by decide +kernel
theorem dX11_lacks_39 : decode cX11_lacks 39 = .ok (.iload_n 3, 1) := by decide +kernel
theorem dX11_lacks_40 : decode cX11_lacks 40 = .ok (.iaload, 1) := by decide +kernel
theorem dX11_lacks_41 : decode cX11_lacks 41 = .ok (.invokevirtual 285, 3) := by decide +kernel
theorem dX11_lacks_44 : decode cX11_lacks 44 = .ok (.aload_n 0, 1) := by decide +kernel
theorem dX11_lacks_45 : decode cX11_lacks 45 = .ok (.iload_n 3, 1) := by decide +kernel
theorem dX11_lacks_46 : decode cX11_lacks 46 = .ok (.aload_n 0, 1) := by decide +kernel
theorem dX11_lacks_47 : decode cX11_lacks 47 = .ok (.getfield 29, 3) := by decide +kernel
theorem dX11_lacks_50 : decode cX11_lacks 50 = .ok (.iload_n 1, 1) := by decide +kernel
theorem dX11_lacks_51 : decode cX11_lacks 51 = .ok (.iaload, 1) := by decide +kernel
theorem dX11_lacks_52 : decode cX11_lacks 52 = .ok (.invokevirtual 282, 3) := by decide +kernel
theorem dX11_lacks_55 : decode cX11_lacks 55 = .ok (.isub, 1) := by decide +kernel
theorem dX11_lacks_56 : decode cX11_lacks 56 = .ok (.istore 4, 2) := by decide +kernel
theorem dX11_lacks_58 : decode cX11_lacks 58 = .ok (.iload 4, 2) := by decide +kernel
theorem dX11_lacks_60 : decode cX11_lacks 60 = .ok (.ifCond .ge 7, 3) := by decide +kernel
theorem dX11_lacks_63 : decode cX11_lacks 63 = .ok (.iconst 0, 1) := by decide +kernel
theorem dX11_lacks_64 : decode cX11_lacks 64 = .ok (.goto 5, 3) := by decide +kernel
theorem dX11_lacks_67 : decode cX11_lacks 67 = .ok (.iload 4, 2) := by decide +kernel
theorem dX11_lacks_69 : decode cX11_lacks 69 = .ok (.istore 4, 2) := by decide +kernel
theorem dX11_lacks_71 : decode cX11_lacks 71 = .ok (.iload_n 2, 1) := by decide +kernel
theorem dX11_lacks_72 : decode cX11_lacks 72 = .ok (.iconst (-1), 1) := by decide +kernel
theorem dX11_lacks_73 : decode cX11_lacks 73 = .ok (.if_icmp .eq 9, 3) := by decide +kernel
theorem dX11_lacks_76 : decode cX11_lacks 76 = .ok (.iload 4, 2) := by decide +kernel
theorem dX11_lacks_78 : decode cX11_lacks 78 = .ok (.iload_n 2, 1) := by decide +kernel
theorem dX11_lacks_79 : decode cX11_lacks 79 = .ok (.if_icmp .ge 8, 3) := by decide +kernel
theorem dX11_lacks_82 : decode cX11_lacks 82 = .ok (.iload 4, 2) := by decide +kernel
theorem dX11_lacks_84 : decode cX11_lacks 84 = .ok (.goto 4, 3) := by decide +kernel
theorem dX11_lacks_87 : decode cX11_lacks 87 = .ok (.iload_n 2, 1) := by decide +kernel
theorem dX11_lacks_88 : decode cX11_lacks 88 = .ok (.istore_n 2, 1) := by decide +kernel
theorem dX11_lacks_89 : decode cX11_lacks 89 = .ok (.iinc 3 1, 3) := by decide +kernel
theorem dX11_lacks_92 : decode cX11_lacks 92 = .ok (.goto (-78), 3) := by decide +kernel
theorem dX11_lacks_95 : decode cX11_lacks 95 = .ok (.iload_n 2, 1) := by decide +kernel
theorem dX11_lacks_96 : decode cX11_lacks 96 = .ok (.ireturn, 1) := by decide +kernel
theorem dX11_ears_0 : decode cX11_ears 0 = .ok (.aload_n 0, 1) := by decide +kernel
theorem dX11_ears_1 : decode cX11_ears 1 = .ok (.iload_n 1, 1) := by decide +kernel
theorem dX11_ears_2 : decode cX11_ears 2 = .ok (.iload_n 2, 1) := by decide +kernel
theorem dX11_ears_3 : decode cX11_ears 3 = .ok (.invokevirtual 328, 3) := by decide +kernel
theorem dX11_ears_6 : decode cX11_ears 6 = .ok (.istore_n 3, 1) := by decide +kernel
theorem dX11_ears_7 : decode cX11_ears 7 = .ok (.iconst 0, 1) := by decide +kernel
theorem dX11_ears_8 : decode cX11_ears 8 = .ok (.istore 4, 2) := by decide +kernel
theorem dX11_ears_10 : decode cX11_ears 10 = .ok (.iload 4, 2) := by decide +kernel
theorem dX11_ears_12 : decode cX11_ears 12 = .ok (.aload_n 0, 1) := by decide +kernel
theorem dX11_ears_13 : decode cX11_ears 13 = .ok (.getfield 171, 3) := by decide +kernel
theorem dX11_ears_16 : decode cX11_ears 16 = .ok (.if_icmp .ge 30, 3) := by decide +kernel
theorem dX11_ears_19 : decode cX11_ears 19 = .ok (.aload_n 0, 1) := by decide +kernel
theorem dX11_ears_20 : decode cX11_ears 20 = .ok (.getfield 159, 3) := by decide +kernel
theorem dX11_ears_23 : decode cX11_ears 23 = .ok (.iload 4, 2) := by decide +kernel
theorem dX11_ears_25 : decode cX11_ears 25 = .ok (.aload_n 0, 1) := by decide +kernel
theorem dX11_ears_26 : decode cX11_ears 26 = .ok (.iload 4, 2) := by decide +kernel
theorem dX11_ears_28 : decode cX11_ears 28 = .ok (.aload_n 0, 1) := by decide +kernel
theorem dX11_ears_29 : decode cX11_ears 29 = .ok (.getfield 29, 3) := by decide +kernel
theorem dX11_ears_32 : decode cX11_ears 32 = .ok (.iload 4, 2) := by decide +kernel
theorem dX11_ears_34 : decode cX11_ears 34 = .ok (.iaload, 1) := by decide +kernel
theorem dX11_ears_35 : decode cX11_ears 35 = .ok (.iload_n 3, 1) := by decide +kernel
theorem dX11_ears_36 : decode cX11_ears 36 = .ok (.invokevirtual 331, 3) := by decide +kernel
theorem dX11_ears_39 : decode cX11_ears 39 = .ok (.iastore, 1) := by decide +kernel
theorem dX11_ears_40 : decode cX11_ears 40 = .ok (.iinc 4 1, 3) := by decide +kernel
theorem dX11_ears_43 : decode cX11_ears 43 = .ok (.goto (-33), 3) := by decide +kernel
theorem dX11_ears_46 : decode cX11_ears 46 = .ok (.return_, 1) := by decide +kernel
theorem dX11_ridBy_0 : decode cX11_ridBy 0 = .ok (.iconst 0, 1) := by decide +kernel
theorem dX11_ridBy_1 : decode cX11_ridBy 1 = .ok (.istore_n 2, 1) := by decide +kernel
theorem dX11_ridBy_2 : decode cX11_ridBy 2 = .ok (.iconst 0, 1) := by decide +kernel
theorem dX11_ridBy_3 : decode cX11_ridBy 3 = .ok (.istore_n 3, 1) := by decide +kernel
theorem dX11_ridBy_4 : decode cX11_ridBy 4 = .ok (.iload_n 3, 1) := by decide +kernel
theorem dX11_ridBy_5 : decode cX11_ridBy 5 = .ok (.aload_n 0, 1) := by decide +kernel
theorem dX11_ridBy_6 : decode cX11_ridBy 6 = .ok (.getfield 171, 3) := by decide +kernel
theorem dX11_ridBy_9 : decode cX11_ridBy 9 = .ok (.if_icmp .ge 25, 3) := by decide +kernel
theorem dX11_ridBy_12 : decode cX11_ridBy 12 = .ok (.aload_n 0, 1) := by decide +kernel
theorem dX11_ridBy_13 : decode cX11_ridBy 13 = .ok (.getfield 159, 3) := by decide +kernel
theorem dX11_ridBy_16 : decode cX11_ridBy 16 = .ok (.iload_n 3, 1) := by decide +kernel
theorem dX11_ridBy_17 : decode cX11_ridBy 17 = .ok (.iaload, 1) := by decide +kernel
theorem dX11_ridBy_18 : decode cX11_ridBy 18 = .ok (.iload_n 1, 1) := by decide +kernel
theorem dX11_ridBy_19 : decode cX11_ridBy 19 = .ok (.iconst (-1), 1) := by decide +kernel
theorem dX11_ridBy_20 : decode cX11_ridBy 20 = .ok (.ixor, 1) := by decide +kernel
theorem dX11_ridBy_21 : decode cX11_ridBy 21 = .ok (.iand, 1) := by decide +kernel
theorem dX11_ridBy_22 : decode cX11_ridBy 22 = .ok (.ifCond .ne 6, 3) := by decide +kernel
theorem dX11_ridBy_25 : decode cX11_ridBy 25 = .ok (.iinc 2 1, 3) := by decide +kernel
theorem dX11_ridBy_28 : decode cX11_ridBy 28 = .ok (.iinc 3 1, 3) := by decide +kernel
theorem dX11_ridBy_31 : decode cX11_ridBy 31 = .ok (.goto (-27), 3) := by decide +kernel
theorem dX11_ridBy_34 : decode cX11_ridBy 34 = .ok (.iload_n 2, 1) := by decide +kernel
theorem dX11_ridBy_35 : decode cX11_ridBy 35 = .ok (.ireturn, 1) := by decide +kernel
theorem dX11_rid_0 : decode cX11_rid 0 = .ok (.iload_n 1, 1) := by decide +kernel
theorem dX11_rid_1 : decode cX11_rid 1 = .ok (.ifCond .lt 13, 3) := by decide +kernel
theorem dX11_rid_4 : decode cX11_rid 4 = .ok (.iload_n 1, 1) := by decide +kernel
theorem dX11_rid_5 : decode cX11_rid 5 = .ok (.iconst 1, 1) := by decide +kernel
theorem dX11_rid_6 : decode cX11_rid 6 = .ok (.aload_n 0, 1) := by decide +kernel
theorem dX11_rid_7 : decode cX11_rid 7 = .ok (.getfield 174, 3) := by decide +kernel
theorem dX11_rid_10 : decode cX11_rid 10 = .ok (.ishl, 1) := by decide +kernel
theorem dX11_rid_11 : decode cX11_rid 11 = .ok (.if_icmp .lt 9, 3) := by decide +kernel
theorem dX11_rid_14 : decode cX11_rid 14 = .ok (.aload_n 0, 1) := by decide +kernel
theorem dX11_rid_15 : decode cX11_rid 15 = .ok (.iconst (-1), 1) := by decide +kernel
theorem dX11_rid_16 : decode cX11_rid 16 = .ok (.invokevirtual 184, 3) := by decide +kernel
theorem dX11_rid_19 : decode cX11_rid 19 = .ok (.ireturn, 1) := by decide +kernel
theorem dX11_rid_20 : decode cX11_rid 20 = .ok (.aload_n 0, 1) := by decide +kernel
theorem dX11_rid_21 : decode cX11_rid 21 = .ok (.iload_n 2, 1) := by decide +kernel
theorem dX11_rid_22 : decode cX11_rid 22 = .ok (.iload_n 3, 1) := by decide +kernel
theorem dX11_rid_23 : decode cX11_rid 23 = .ok (.invokevirtual 334, 3) := by decide +kernel
theorem dX11_rid_26 : decode cX11_rid 26 = .ok (.ifCond .ne 10, 3) := by decide +kernel
theorem dX11_rid_29 : decode cX11_rid 29 = .ok (.aload_n 0, 1) := by decide +kernel
theorem dX11_rid_30 : decode cX11_rid 30 = .ok (.bipush (-6), 2) := by decide +kernel
theorem dX11_rid_32 : decode cX11_rid 32 = .ok (.invokevirtual 184, 3) := by decide +kernel
theorem dX11_rid_35 : decode cX11_rid 35 = .ok (.ireturn, 1) := by decide +kernel
theorem dX11_rid_36 : decode cX11_rid 36 = .ok (.aload_n 0, 1) := by decide +kernel
theorem dX11_rid_37 : decode cX11_rid 37 = .ok (.iload_n 2, 1) := by decide +kernel
theorem dX11_rid_38 : decode cX11_rid 38 = .ok (.iload_n 3, 1) := by decide +kernel
theorem dX11_rid_39 : decode cX11_rid 39 = .ok (.invokevirtual 337, 3) := by decide +kernel
theorem dX11_rid_42 : decode cX11_rid 42 = .ok (.aload_n 0, 1) := by decide +kernel
theorem dX11_rid_43 : decode cX11_rid 43 = .ok (.iload_n 1, 1) := by decide +kernel
theorem dX11_rid_44 : decode cX11_rid 44 = .ok (.invokevirtual 341, 3) := by decide +kernel
theorem dX11_rid_47 : decode cX11_rid 47 = .ok (.ireturn, 1) := by decide +kernel
theorem dX11_best_0 : decode cX11_best 0 = .ok (.iload_n 1, 1) := by decide +kernel
theorem dX11_best_1 : decode cX11_best 1 = .ok (.ifCond .lt 19, 3) := by decide +kernel
theorem dX11_best_4 : decode cX11_best 4 = .ok (.iload_n 1, 1) := by decide +kernel
theorem dX11_best_5 : decode cX11_best 5 = .ok (.sipush 999, 3) := by decide +kernel
theorem dX11_best_8 : decode cX11_best 8 = .ok (.if_icmp .gt 12, 3) := by decide +kernel
theorem dX11_best_11 : decode cX11_best 11 = .ok (.aload_n 0, 1) := by decide +kernel
theorem dX11_best_12 : decode cX11_best 12 = .ok (.iload_n 2, 1) := by decide +kernel
theorem dX11_best_13 : decode cX11_best 13 = .ok (.iload_n 3, 1) := by decide +kernel
theorem dX11_best_14 : decode cX11_best 14 = .ok (.invokevirtual 334, 3) := by decide +kernel
theorem dX11_best_17 : decode cX11_best 17 = .ok (.ifCond .ne 10, 3) := by decide +kernel
theorem dX11_best_20 : decode cX11_best 20 = .ok (.aload_n 0, 1) := by decide +kernel
theorem dX11_best_21 : decode cX11_best 21 = .ok (.bipush (-6), 2) := by decide +kernel
theorem dX11_best_23 : decode cX11_best 23 = .ok (.invokevirtual 184, 3) := by decide +kernel
theorem dX11_best_26 : decode cX11_best 26 = .ok (.ireturn, 1) := by decide +kernel
theorem dX11_best_27 : decode cX11_best 27 = .ok (.aload_n 0, 1) := by decide +kernel
theorem dX11_best_28 : decode cX11_best 28 = .ok (.iload_n 2, 1) := by decide +kernel
theorem dX11_best_29 : decode cX11_best 29 = .ok (.iload_n 3, 1) := by decide +kernel
theorem dX11_best_30 : decode cX11_best 30 = .ok (.invokevirtual 337, 3) := by decide +kernel
theorem dX11_best_33 : decode cX11_best 33 = .ok (.iconst 0, 1) := by decide +kernel
theorem dX11_best_34 : decode cX11_best 34 = .ok (.istore 4, 2) := by decide +kernel
theorem dX11_best_36 : decode cX11_best 36 = .ok (.iconst (-1), 1) := by decide +kernel
theorem dX11_best_37 : decode cX11_best 37 = .ok (.istore 5, 2) := by decide +kernel
theorem dX11_best_39 : decode cX11_best 39 = .ok (.iconst 0, 1) := by decide +kernel
theorem dX11_best_40 : decode cX11_best 40 = .ok (.istore 6, 2) := by decide +kernel
theorem dX11_best_42 : decode cX11_best 42 = .ok (.iconst 0, 1) := by decide +kernel
theorem dX11_best_43 : decode cX11_best 43 = .ok (.istore 7, 2) := by decide +kernel
theorem dX11_best_45 : decode cX11_best 45 = .ok (.iload 7, 2) := by decide +kernel
theorem dX11_best_47 : decode cX11_best 47 = .ok (.iconst 1, 1) := by decide +kernel
theorem dX11_best_48 : decode cX11_best 48 = .ok (.aload_n 0, 1) := by decide +kernel
theorem dX11_best_49 : decode cX11_best 49 = .ok (.getfield 174, 3) := by decide +kernel
theorem dX11_best_52 : decode cX11_best 52 = .ok (.ishl, 1) := by decide +kernel
theorem dX11_best_53 : decode cX11_best 53 = .ok (.if_icmp .ge 134, 3) := by decide +kernel
theorem dX11_best_56 : decode cX11_best 56 = .ok (.iconst 0, 1) := by decide +kernel
theorem dX11_best_57 : decode cX11_best 57 = .ok (.istore 8, 2) := by decide +kernel
theorem dX11_best_59 : decode cX11_best 59 = .ok (.iconst 1, 1) := by decide +kernel
theorem dX11_best_60 : decode cX11_best 60 = .ok (.istore 9, 2) := by decide +kernel
theorem dX11_best_62 : decode cX11_best 62 = .ok (.iconst 0, 1) := by decide +kernel
theorem dX11_best_63 : decode cX11_best 63 = .ok (.istore 10, 2) := by decide +kernel
theorem dX11_best_65 : decode cX11_best 65 = .ok (.iload 10, 2) := by decide +kernel
theorem dX11_best_67 : decode cX11_best 67 = .ok (.aload_n 0, 1) := by decide +kernel
theorem dX11_best_68 : decode cX11_best 68 = .ok (.getfield 174, 3) := by decide +kernel
theorem dX11_best_71 : decode cX11_best 71 = .ok (.if_icmp .ge 55, 3) := by decide +kernel
theorem dX11_best_74 : decode cX11_best 74 = .ok (.iload 9, 2) := by decide +kernel
theorem dX11_best_76 : decode cX11_best 76 = .ok (.ifCond .eq 50, 3) := by decide +kernel
theorem dX11_best_79 : decode cX11_best 79 = .ok (.iload 7, 2) := by decide +kernel
theorem dX11_best_81 : decode cX11_best 81 = .ok (.iload 10, 2) := by decide +kernel
theorem dX11_best_83 : decode cX11_best 83 = .ok (.ishr, 1) := by decide +kernel
theorem dX11_best_84 : decode cX11_best 84 = .ok (.iconst 1, 1) := by decide +kernel
theorem dX11_best_85 : decode cX11_best 85 = .ok (.iand, 1) := by decide +kernel
theorem dX11_best_86 : decode cX11_best 86 = .ok (.ifCond .ne 6, 3) := by decide +kernel
theorem dX11_best_89 : decode cX11_best 89 = .ok (.goto 31, 3) := by decide +kernel
theorem dX11_best_92 : decode cX11_best 92 = .ok (.aload_n 0, 1) := by decide +kernel
theorem dX11_best_93 : decode cX11_best 93 = .ok (.iload 10, 2) := by decide +kernel
theorem dX11_best_95 : decode cX11_best 95 = .ok (.invokevirtual 279, 3) := by decide +kernel
theorem dX11_best_98 : decode cX11_best 98 = .ok (.ifCond .ne 7, 3) := by decide +kernel
theorem dX11_best_101 : decode cX11_best 101 = .ok (.iconst 1, 1) := by decide +kernel
theorem dX11_best_102 : decode cX11_best 102 = .ok (.goto 4, 3) := by decide +kernel
theorem dX11_best_105 : decode cX11_best 105 = .ok (.iconst 0, 1) := by decide +kernel
theorem dX11_best_106 : decode cX11_best 106 = .ok (.istore 9, 2) := by decide +kernel
theorem dX11_best_108 : decode cX11_best 108 = .ok (.iload 8, 2) := by decide +kernel
theorem dX11_best_110 : decode cX11_best 110 = .ok (.aload_n 0, 1) := by decide +kernel
theorem dX11_best_111 : decode cX11_best 111 = .ok (.getfield 62, 3) := by decide +kernel
theorem dX11_best_114 : decode cX11_best 114 = .ok (.iload 10, 2) := by decide +kernel
theorem dX11_best_116 : decode cX11_best 116 = .ok (.iaload, 1) := by decide +kernel
theorem dX11_best_117 : decode cX11_best 117 = .ok (.iadd, 1) := by decide +kernel
theorem dX11_best_118 : decode cX11_best 118 = .ok (.istore 8, 2) := by decide +kernel
theorem dX11_best_120 : decode cX11_best 120 = .ok (.iinc 10 1, 3) := by decide +kernel
theorem dX11_best_123 : decode cX11_best 123 = .ok (.goto (-58), 3) := by decide +kernel
theorem dX11_best_126 : decode cX11_best 126 = .ok (.iload 9, 2) := by decide +kernel
theorem dX11_best_128 : decode cX11_best 128 = .ok (.ifCond .eq 53, 3) := by decide +kernel
theorem dX11_best_131 : decode cX11_best 131 = .ok (.iload 8, 2) := by decide +kernel
theorem dX11_best_133 : decode cX11_best 133 = .ok (.iload_n 1, 1) := by decide +kernel
theorem dX11_best_134 : decode cX11_best 134 = .ok (.if_icmp .le 6, 3) := by decide +kernel
theorem dX11_best_137 : decode cX11_best 137 = .ok (.goto 44, 3) := by decide +kernel
theorem dX11_best_140 : decode cX11_best 140 = .ok (.aload_n 0, 1) := by decide +kernel
theorem dX11_best_141 : decode cX11_best 141 = .ok (.iload 7, 2) := by decide +kernel
theorem dX11_best_143 : decode cX11_best 143 = .ok (.invokevirtual 341, 3) := by decide +kernel
theorem dX11_best_146 : decode cX11_best 146 = .ok (.istore 10, 2) := by decide +kernel
theorem dX11_best_148 : decode cX11_best 148 = .ok (.iload 10, 2) := by decide +kernel
theorem dX11_best_150 : decode cX11_best 150 = .ok (.iload 5, 2) := by decide +kernel
theorem dX11_best_152 : decode cX11_best 152 = .ok (.if_icmp .gt 17, 3) := by decide +kernel
theorem dX11_best_155 : decode cX11_best 155 = .ok (.iload 10, 2) := by decide +kernel
theorem dX11_best_157 : decode cX11_best 157 = .ok (.iload 5, 2) := by decide +kernel
theorem dX11_best_159 : decode cX11_best 159 = .ok (.if_icmp .ne 22, 3) := by decide +kernel
theorem dX11_best_162 : decode cX11_best 162 = .ok (.iload 8, 2) := by decide +kernel
theorem dX11_best_164 : decode cX11_best 164 = .ok (.iload 6, 2) := by decide +kernel
theorem dX11_best_166 : decode cX11_best 166 = .ok (.if_icmp .ge 15, 3) := by decide +kernel
theorem dX11_best_169 : decode cX11_best 169 = .ok (.iload 7, 2) := by decide +kernel
theorem dX11_best_171 : decode cX11_best 171 = .ok (.istore 4, 2) := by decide +kernel
theorem dX11_best_173 : decode cX11_best 173 = .ok (.iload 10, 2) := by decide +kernel
theorem dX11_best_175 : decode cX11_best 175 = .ok (.istore 5, 2) := by decide +kernel
theorem dX11_best_177 : decode cX11_best 177 = .ok (.iload 8, 2) := by decide +kernel
theorem dX11_best_179 : decode cX11_best 179 = .ok (.istore 6, 2) := by decide +kernel
theorem dX11_best_181 : decode cX11_best 181 = .ok (.iinc 7 1, 3) := by decide +kernel
theorem dX11_best_184 : decode cX11_best 184 = .ok (.goto (-139), 3) := by decide +kernel
theorem dX11_best_187 : decode cX11_best 187 = .ok (.iload 4, 2) := by decide +kernel
theorem dX11_best_189 : decode cX11_best 189 = .ok (.ireturn, 1) := by decide +kernel
theorem dX11_lots_0 : decode cX11_lots 0 = .ok (.iload_n 1, 1) := by decide +kernel
theorem dX11_lots_1 : decode cX11_lots 1 = .ok (.ifCond .lt 13, 3) := by decide +kernel
theorem dX11_lots_4 : decode cX11_lots 4 = .ok (.iload_n 1, 1) := by decide +kernel
theorem dX11_lots_5 : decode cX11_lots 5 = .ok (.bipush 30, 2) := by decide +kernel
theorem dX11_lots_7 : decode cX11_lots 7 = .ok (.if_icmp .gt 7, 3) := by decide +kernel
theorem dX11_lots_10 : decode cX11_lots 10 = .ok (.iload_n 2, 1) := by decide +kernel
theorem dX11_lots_11 : decode cX11_lots 11 = .ok (.ifCond .ge 10, 3) := by decide +kernel
theorem dX11_lots_14 : decode cX11_lots 14 = .ok (.aload_n 0, 1) := by decide +kernel
theorem dX11_lots_15 : decode cX11_lots 15 = .ok (.bipush (-6), 2) := by decide +kernel
theorem dX11_lots_17 : decode cX11_lots 17 = .ok (.invokevirtual 184, 3) := by decide +kernel
theorem dX11_lots_20 : decode cX11_lots 20 = .ok (.ireturn, 1) := by decide +kernel
theorem dX11_lots_21 : decode cX11_lots 21 = .ok (.lconst 1, 1) := by decide +kernel
theorem dX11_lots_22 : decode cX11_lots 22 = .ok (.lstore_n 3, 1) := by decide +kernel
theorem dX11_lots_23 : decode cX11_lots 23 = .ok (.lconst 0, 1) := by decide +kernel
theorem dX11_lots_24 : decode cX11_lots 24 = .ok (.lstore 5, 2) := by decide +kernel
theorem dX11_lots_26 : decode cX11_lots 26 = .ok (.iconst 0, 1) := by decide +kernel
theorem dX11_lots_27 : decode cX11_lots 27 = .ok (.istore 7, 2) := by decide +kernel
theorem dX11_lots_29 : decode cX11_lots 29 = .ok (.iload 7, 2) := by decide +kernel
theorem dX11_lots_31 : decode cX11_lots 31 = .ok (.iload_n 1, 1) := by decide +kernel
theorem dX11_lots_32 : decode cX11_lots 32 = .ok (.if_icmp .gt 35, 3) := by decide +kernel
theorem dX11_lots_35 : decode cX11_lots 35 = .ok (.iload 7, 2) := by decide +kernel
theorem dX11_lots_37 : decode cX11_lots 37 = .ok (.iload_n 2, 1) := by decide +kernel
theorem dX11_lots_38 : decode cX11_lots 38 = .ok (.if_icmp .lt 9, 3) := by decide +kernel
theorem dX11_lots_41 : decode cX11_lots 41 = .ok (.lload 5, 2) := by decide +kernel
theorem dX11_lots_43 : decode cX11_lots 43 = .ok (.lload_n 3, 1) := by decide +kernel
theorem dX11_lots_44 : decode cX11_lots 44 = .ok (.ladd, 1) := by decide +kernel
theorem dX11_lots_45 : decode cX11_lots 45 = .ok (.lstore 5, 2) := by decide +kernel
theorem dX11_lots_47 : decode cX11_lots 47 = .ok (.lload_n 3, 1) := by decide +kernel
theorem dX11_lots_48 : decode cX11_lots 48 = .ok (.iload_n 1, 1) := by decide +kernel
theorem dX11_lots_49 : decode cX11_lots 49 = .ok (.iload 7, 2) := by decide +kernel
theorem dX11_lots_51 : decode cX11_lots 51 = .ok (.isub, 1) := by decide +kernel
theorem dX11_lots_52 : decode cX11_lots 52 = .ok (.i2l, 1) := by decide +kernel
theorem dX11_lots_53 : decode cX11_lots 53 = .ok (.lmul, 1) := by decide +kernel
theorem dX11_lots_54 : decode cX11_lots 54 = .ok (.iload 7, 2) := by decide +kernel
theorem dX11_lots_56 : decode cX11_lots 56 = .ok (.iconst 1, 1) := by decide +kernel
theorem dX11_lots_57 : decode cX11_lots 57 = .ok (.iadd, 1) := by decide +kernel
theorem dX11_lots_58 : decode cX11_lots 58 = .ok (.i2l, 1) := by decide +kernel
theorem dX11_lots_59 : decode cX11_lots 59 = .ok (.ldiv, 1) := by decide +kernel
theorem dX11_lots_60 : decode cX11_lots 60 = .ok (.lstore_n 3, 1) := by decide +kernel
theorem dX11_lots_61 : decode cX11_lots 61 = .ok (.iinc 7 1, 3) := by decide +kernel
theorem dX11_lots_64 : decode cX11_lots 64 = .ok (.goto (-35), 3) := by decide +kernel
theorem dX11_lots_67 : decode cX11_lots 67 = .ok (.lload 5, 2) := by decide +kernel
theorem dX11_lots_69 : decode cX11_lots 69 = .ok (.l2i, 1) := by decide +kernel
theorem dX11_lots_70 : decode cX11_lots 70 = .ok (.ireturn, 1) := by decide +kernel
theorem dX11_need__0 : decode cX11_need_ 0 = .ok (.iload_n 1, 1) := by decide +kernel
theorem dX11_need__1 : decode cX11_need_ 1 = .ok (.ifCond .lt 10, 3) := by decide +kernel
theorem dX11_need__4 : decode cX11_need_ 4 = .ok (.iload_n 1, 1) := by decide +kernel
theorem dX11_need__5 : decode cX11_need_ 5 = .ok (.ldc_w 344, 3) := by decide +kernel
theorem dX11_need__8 : decode cX11_need_ 8 = .ok (.if_icmp .le 10, 3) := by decide +kernel
theorem dX11_need__11 : decode cX11_need_ 11 = .ok (.aload_n 0, 1) := by decide +kernel
theorem dX11_need__12 : decode cX11_need_ 12 = .ok (.bipush (-6), 2) := by decide +kernel
theorem dX11_need__14 : decode cX11_need_ 14 = .ok (.invokevirtual 184, 3) := by decide +kernel
theorem dX11_need__17 : decode cX11_need_ 17 = .ok (.ireturn, 1) := by decide +kernel
theorem dX11_need__18 : decode cX11_need_ 18 = .ok (.iconst 0, 1) := by decide +kernel
theorem dX11_need__19 : decode cX11_need_ 19 = .ok (.istore_n 2, 1) := by decide +kernel
theorem dX11_need__20 : decode cX11_need_ 20 = .ok (.iconst 1, 1) := by decide +kernel
theorem dX11_need__21 : decode cX11_need_ 21 = .ok (.iload_n 2, 1) := by decide +kernel
theorem dX11_need__22 : decode cX11_need_ 22 = .ok (.ishl, 1) := by decide +kernel
theorem dX11_need__23 : decode cX11_need_ 23 = .ok (.iload_n 1, 1) := by decide +kernel
theorem dX11_need__24 : decode cX11_need_ 24 = .ok (.if_icmp .gt 9, 3) := by decide +kernel
theorem dX11_need__27 : decode cX11_need_ 27 = .ok (.iinc 2 1, 3) := by decide +kernel
theorem dX11_need__30 : decode cX11_need_ 30 = .ok (.goto (-10), 3) := by decide +kernel
theorem dX11_need__33 : decode cX11_need_ 33 = .ok (.iload_n 2, 1) := by decide +kernel
theorem dX11_need__34 : decode cX11_need_ 34 = .ok (.ireturn, 1) := by decide +kernel
theorem dX11_told_0 : decode cX11_told 0 = .ok (.iload_n 1, 1) := by decide +kernel
theorem dX11_told_1 : decode cX11_told 1 = .ok (.ifCond .lt 8, 3) := by decide +kernel
theorem dX11_told_4 : decode cX11_told 4 = .ok (.iload_n 1, 1) := by decide +kernel
theorem dX11_told_5 : decode cX11_told 5 = .ok (.iconst 2, 1) := by decide +kernel
theorem dX11_told_6 : decode cX11_told 6 = .ok (.if_icmp .le 10, 3) := by decide +kernel
theorem dX11_told_9 : decode cX11_told 9 = .ok (.aload_n 0, 1) := by decide +kernel
theorem dX11_told_10 : decode cX11_told 10 = .ok (.bipush (-5), 2) := by decide +kernel
theorem dX11_told_12 : decode cX11_told 12 = .ok (.invokevirtual 184, 3) := by decide +kernel
theorem dX11_told_15 : decode cX11_told 15 = .ok (.ireturn, 1) := by decide +kernel
theorem dX11_told_16 : decode cX11_told 16 = .ok (.iconst 0, 1) := by decide +kernel
theorem dX11_told_17 : decode cX11_told 17 = .ok (.istore_n 2, 1) := by decide +kernel
theorem dX11_told_18 : decode cX11_told 18 = .ok (.iconst 0, 1) := by decide +kernel
theorem dX11_told_19 : decode cX11_told 19 = .ok (.istore_n 3, 1) := by decide +kernel
theorem dX11_told_20 : decode cX11_told 20 = .ok (.iload_n 3, 1) := by decide +kernel
theorem dX11_told_21 : decode cX11_told 21 = .ok (.aload_n 0, 1) := by decide +kernel
theorem dX11_told_22 : decode cX11_told 22 = .ok (.getfield 319, 3) := by decide +kernel
theorem dX11_told_25 : decode cX11_told 25 = .ok (.if_icmp .ge 89, 3) := by decide +kernel
theorem dX11_told_28 : decode cX11_told 28 = .ok (.aload_n 0, 1) := by decide +kernel
theorem dX11_told_29 : decode cX11_told 29 = .ok (.getfield 95, 3) := by decide +kernel
theorem dX11_told_32 : decode cX11_told 32 = .ok (.iload_n 3, 1) := by decide +kernel
theorem dX11_told_33 : decode cX11_told 33 = .ok (.iaload, 1) := by decide +kernel
theorem dX11_told_34 : decode cX11_told 34 = .ok (.aload_n 0, 1) := by decide +kernel
theorem dX11_told_35 : decode cX11_told 35 = .ok (.getfield 20, 3) := by decide +kernel
theorem dX11_told_38 : decode cX11_told 38 = .ok (.iconst 5, 1) := by decide +kernel
theorem dX11_told_39 : decode cX11_told 39 = .ok (.iaload, 1) := by decide +kernel
theorem dX11_told_40 : decode cX11_told 40 = .ok (.if_icmp .ge 6, 3) := by decide +kernel
theorem dX11_told_43 : decode cX11_told 43 = .ok (.goto 65, 3) := by decide +kernel
theorem dX11_told_46 : decode cX11_told 46 = .ok (.iload_n 1, 1) := by decide +kernel
theorem dX11_told_47 : decode cX11_told 47 = .ok (.ifCond .eq 58, 3) := by decide +kernel
theorem dX11_told_50 : decode cX11_told 50 = .ok (.iload_n 1, 1) := by decide +kernel
theorem dX11_told_51 : decode cX11_told 51 = .ok (.iconst 1, 1) := by decide +kernel
theorem dX11_told_52 : decode cX11_told 52 = .ok (.if_icmp .ne 18, 3) := by decide +kernel
theorem dX11_told_55 : decode cX11_told 55 = .ok (.aload_n 0, 1) := by decide +kernel
theorem dX11_told_56 : decode cX11_told 56 = .ok (.getfield 98, 3) := by decide +kernel
theorem dX11_told_59 : decode cX11_told 59 = .ok (.iload_n 3, 1) := by decide +kernel
theorem dX11_told_60 : decode cX11_told 60 = .ok (.iaload, 1) := by decide +kernel
theorem dX11_told_61 : decode cX11_told 61 = .ok (.aload_n 0, 1) := by decide +kernel
theorem dX11_told_62 : decode cX11_told 62 = .ok (.getfield 20, 3) := by decide +kernel
theorem dX11_told_65 : decode cX11_told 65 = .ok (.iconst 5, 1) := by decide +kernel
theorem dX11_told_66 : decode cX11_told 66 = .ok (.iaload, 1) := by decide +kernel
theorem dX11_told_67 : decode cX11_told 67 = .ok (.if_icmp .lt 38, 3) := by decide +kernel
theorem dX11_told_70 : decode cX11_told 70 = .ok (.iload_n 1, 1) := by decide +kernel
theorem dX11_told_71 : decode cX11_told 71 = .ok (.iconst 2, 1) := by decide +kernel
theorem dX11_told_72 : decode cX11_told 72 = .ok (.if_icmp .ne 36, 3) := by decide +kernel
theorem dX11_told_75 : decode cX11_told 75 = .ok (.aload_n 0, 1) := by decide +kernel
theorem dX11_told_76 : decode cX11_told 76 = .ok (.aload_n 0, 1) := by decide +kernel
theorem dX11_told_77 : decode cX11_told 77 = .ok (.getfield 92, 3) := by decide +kernel
theorem dX11_told_80 : decode cX11_told 80 = .ok (.iload_n 3, 1) := by decide +kernel
theorem dX11_told_81 : decode cX11_told 81 = .ok (.iaload, 1) := by decide +kernel
theorem dX11_told_82 : decode cX11_told 82 = .ok (.aload_n 0, 1) := by decide +kernel
theorem dX11_told_83 : decode cX11_told 83 = .ok (.getfield 29, 3) := by decide +kernel
theorem dX11_told_86 : decode cX11_told 86 = .ok (.aload_n 0, 1) := by decide +kernel
theorem dX11_told_87 : decode cX11_told 87 = .ok (.getfield 92, 3) := by decide +kernel
theorem dX11_told_90 : decode cX11_told 90 = .ok (.iload_n 3, 1) := by decide +kernel
theorem dX11_told_91 : decode cX11_told 91 = .ok (.iaload, 1) := by decide +kernel
theorem dX11_told_92 : decode cX11_told 92 = .ok (.iaload, 1) := by decide +kernel
theorem dX11_told_93 : decode cX11_told 93 = .ok (.aload_n 0, 1) := by decide +kernel
theorem dX11_told_94 : decode cX11_told 94 = .ok (.getfield 95, 3) := by decide +kernel
theorem dX11_told_97 : decode cX11_told 97 = .ok (.iload_n 3, 1) := by decide +kernel
theorem dX11_told_98 : decode cX11_told 98 = .ok (.iaload, 1) := by decide +kernel
theorem dX11_told_99 : decode cX11_told 99 = .ok (.invokevirtual 299, 3) := by decide +kernel
theorem dX11_told_102 : decode cX11_told 102 = .ok (.ifCond .ne 6, 3) := by decide +kernel
theorem dX11_told_105 : decode cX11_told 105 = .ok (.iinc 2 1, 3) := by decide +kernel
theorem dX11_told_108 : decode cX11_told 108 = .ok (.iinc 3 1, 3) := by decide +kernel
theorem dX11_told_111 : decode cX11_told 111 = .ok (.goto (-91), 3) := by decide +kernel
theorem dX11_told_114 : decode cX11_told 114 = .ok (.iload_n 2, 1) := by decide +kernel
theorem dX11_told_115 : decode cX11_told 115 = .ok (.ireturn, 1) := by decide +kernel
theorem dX11_beats_0 : decode cX11_beats 0 = .ok (.aload_n 0, 1) := by decide +kernel
theorem dX11_beats_1 : decode cX11_beats 1 = .ok (.iload_n 1, 1) := by decide +kernel
theorem dX11_beats_2 : decode cX11_beats 2 = .ok (.invokevirtual 197, 3) := by decide +kernel
theorem dX11_beats_5 : decode cX11_beats 5 = .ok (.ifCond .eq 11, 3) := by decide +kernel
theorem dX11_beats_8 : decode cX11_beats 8 = .ok (.aload_n 0, 1) := by decide +kernel
theorem dX11_beats_9 : decode cX11_beats 9 = .ok (.iload_n 2, 1) := by decide +kernel
theorem dX11_beats_10 : decode cX11_beats 10 = .ok (.invokevirtual 177, 3) := by decide +kernel
theorem dX11_beats_13 : decode cX11_beats 13 = .ok (.ifCond .ne 5, 3) := by decide +kernel
theorem dX11_beats_16 : decode cX11_beats 16 = .ok (.iconst (-1), 1) := by decide +kernel
theorem dX11_beats_17 : decode cX11_beats 17 = .ok (.ireturn, 1) := by decide +kernel
theorem dX11_beats_18 : decode cX11_beats 18 = .ok (.aload_n 0, 1) := by decide +kernel
theorem dX11_beats_19 : decode cX11_beats 19 = .ok (.iload_n 1, 1) := by decide +kernel
theorem dX11_beats_20 : decode cX11_beats 20 = .ok (.aload_n 0, 1) := by decide +kernel
theorem dX11_beats_21 : decode cX11_beats 21 = .ok (.getfield 29, 3) := by decide +kernel
theorem dX11_beats_24 : decode cX11_beats 24 = .ok (.iload_n 1, 1) := by decide +kernel
theorem dX11_beats_25 : decode cX11_beats 25 = .ok (.iaload, 1) := by decide +kernel
theorem dX11_beats_26 : decode cX11_beats 26 = .ok (.iload_n 2, 1) := by decide +kernel
theorem dX11_beats_27 : decode cX11_beats 27 = .ok (.invokevirtual 299, 3) := by decide +kernel
theorem dX11_beats_30 : decode cX11_beats 30 = .ok (.istore_n 3, 1) := by decide +kernel
theorem dX11_beats_31 : decode cX11_beats 31 = .ok (.iconst 0, 1) := by decide +kernel
theorem dX11_beats_32 : decode cX11_beats 32 = .ok (.istore 4, 2) := by decide +kernel
theorem dX11_beats_34 : decode cX11_beats 34 = .ok (.iconst 0, 1) := by decide +kernel
theorem dX11_beats_35 : decode cX11_beats 35 = .ok (.istore 5, 2) := by decide +kernel
theorem dX11_beats_37 : decode cX11_beats 37 = .ok (.iload 5, 2) := by decide +kernel
theorem dX11_beats_39 : decode cX11_beats 39 = .ok (.aload_n 0, 1) := by decide +kernel
theorem dX11_beats_40 : decode cX11_beats 40 = .ok (.getfield 174, 3) := by decide +kernel
theorem dX11_beats_43 : decode cX11_beats 43 = .ok (.if_icmp .ge 59, 3) := by decide +kernel
theorem dX11_beats_46 : decode cX11_beats 46 = .ok (.iload 5, 2) := by decide +kernel
theorem dX11_beats_48 : decode cX11_beats 48 = .ok (.iconst 1, 1) := by decide +kernel
theorem dX11_beats_49 : decode cX11_beats 49 = .ok (.iadd, 1) := by decide +kernel
theorem dX11_beats_50 : decode cX11_beats 50 = .ok (.istore 6, 2) := by decide +kernel
theorem dX11_beats_52 : decode cX11_beats 52 = .ok (.iload 6, 2) := by decide +kernel
theorem dX11_beats_54 : decode cX11_beats 54 = .ok (.aload_n 0, 1) := by decide +kernel
theorem dX11_beats_55 : decode cX11_beats 55 = .ok (.getfield 174, 3) := by decide +kernel
theorem dX11_beats_58 : decode cX11_beats 58 = .ok (.if_icmp .ge 38, 3) := by decide +kernel
theorem dX11_beats_61 : decode cX11_beats 61 = .ok (.iload_n 3, 1) := by decide +kernel
theorem dX11_beats_62 : decode cX11_beats 62 = .ok (.iload 5, 2) := by decide +kernel
theorem dX11_beats_64 : decode cX11_beats 64 = .ok (.ishr, 1) := by decide +kernel
theorem dX11_beats_65 : decode cX11_beats 65 = .ok (.iload_n 3, 1) := by decide +kernel
theorem dX11_beats_66 : decode cX11_beats 66 = .ok (.iload 6, 2) := by decide +kernel
theorem dX11_beats_68 : decode cX11_beats 68 = .ok (.ishr, 1) := by decide +kernel
theorem dX11_beats_69 : decode cX11_beats 69 = .ok (.iand, 1) := by decide +kernel
theorem dX11_beats_70 : decode cX11_beats 70 = .ok (.iconst 1, 1) := by decide +kernel
theorem dX11_beats_71 : decode cX11_beats 71 = .ok (.iand, 1) := by decide +kernel
theorem dX11_beats_72 : decode cX11_beats 72 = .ok (.iconst 1, 1) := by decide +kernel
theorem dX11_beats_73 : decode cX11_beats 73 = .ok (.if_icmp .ne 17, 3) := by decide +kernel
theorem dX11_beats_76 : decode cX11_beats 76 = .ok (.aload_n 0, 1) := by decide +kernel
theorem dX11_beats_77 : decode cX11_beats 77 = .ok (.iload 5, 2) := by decide +kernel
theorem dX11_beats_79 : decode cX11_beats 79 = .ok (.iload 6, 2) := by decide +kernel
theorem dX11_beats_81 : decode cX11_beats 81 = .ok (.invokevirtual 276, 3) := by decide +kernel
theorem dX11_beats_84 : decode cX11_beats 84 = .ok (.ifCond .eq 6, 3) := by decide +kernel
theorem dX11_beats_87 : decode cX11_beats 87 = .ok (.iinc 4 1, 3) := by decide +kernel
theorem dX11_beats_90 : decode cX11_beats 90 = .ok (.iinc 6 1, 3) := by decide +kernel
theorem dX11_beats_93 : decode cX11_beats 93 = .ok (.goto (-41), 3) := by decide +kernel
theorem dX11_beats_96 : decode cX11_beats 96 = .ok (.iinc 5 1, 3) := by decide +kernel
theorem dX11_beats_99 : decode cX11_beats 99 = .ok (.goto (-62), 3) := by decide +kernel
theorem dX11_beats_102 : decode cX11_beats 102 = .ok (.iload 4, 2) := by decide +kernel
theorem dX11_beats_104 : decode cX11_beats 104 = .ok (.ireturn, 1) := by decide +kernel
theorem dX11_halve_0 : decode cX11_halve 0 = .ok (.iload_n 1, 1) := by decide +kernel
theorem dX11_halve_1 : decode cX11_halve 1 = .ok (.iconst 1, 1) := by decide +kernel
theorem dX11_halve_2 : decode cX11_halve 2 = .ok (.if_icmp .lt 10, 3) := by decide +kernel
theorem dX11_halve_5 : decode cX11_halve 5 = .ok (.iload_n 1, 1) := by decide +kernel
theorem dX11_halve_6 : decode cX11_halve 6 = .ok (.sipush 1000, 3) := by decide +kernel
theorem dX11_halve_9 : decode cX11_halve 9 = .ok (.if_icmp .le 10, 3) := by decide +kernel
theorem dX11_halve_12 : decode cX11_halve 12 = .ok (.aload_n 0, 1) := by decide +kernel
theorem dX11_halve_13 : decode cX11_halve 13 = .ok (.bipush (-6), 2) := by decide +kernel
theorem dX11_halve_15 : decode cX11_halve 15 = .ok (.invokevirtual 184, 3) := by decide +kernel
theorem dX11_halve_18 : decode cX11_halve 18 = .ok (.ireturn, 1) := by decide +kernel
theorem dX11_halve_19 : decode cX11_halve 19 = .ok (.iconst 0, 1) := by decide +kernel
theorem dX11_halve_20 : decode cX11_halve 20 = .ok (.istore_n 2, 1) := by decide +kernel
theorem dX11_halve_21 : decode cX11_halve 21 = .ok (.iload_n 1, 1) := by decide +kernel
theorem dX11_halve_22 : decode cX11_halve 22 = .ok (.istore_n 3, 1) := by decide +kernel
theorem dX11_halve_23 : decode cX11_halve 23 = .ok (.iload_n 3, 1) := by decide +kernel
theorem dX11_halve_24 : decode cX11_halve 24 = .ok (.iconst 1, 1) := by decide +kernel
theorem dX11_halve_25 : decode cX11_halve 25 = .ok (.if_icmp .le 15, 3) := by decide +kernel
theorem dX11_halve_28 : decode cX11_halve 28 = .ok (.iinc 2 1, 3) := by decide +kernel
theorem dX11_halve_31 : decode cX11_halve 31 = .ok (.iload_n 3, 1) := by decide +kernel
theorem dX11_halve_32 : decode cX11_halve 32 = .ok (.iconst 1, 1) := by decide +kernel
theorem dX11_halve_33 : decode cX11_halve 33 = .ok (.iadd, 1) := by decide +kernel
theorem dX11_halve_34 : decode cX11_halve 34 = .ok (.iconst 2, 1) := by decide +kernel
theorem dX11_halve_35 : decode cX11_halve 35 = .ok (.idiv, 1) := by decide +kernel
theorem dX11_halve_36 : decode cX11_halve 36 = .ok (.istore_n 3, 1) := by decide +kernel
theorem dX11_halve_37 : decode cX11_halve 37 = .ok (.goto (-14), 3) := by decide +kernel
theorem dX11_halve_40 : decode cX11_halve 40 = .ok (.iload_n 2, 1) := by decide +kernel
theorem dX11_halve_41 : decode cX11_halve 41 = .ok (.ireturn, 1) := by decide +kernel
theorem dX11_metered_0 : decode cX11_metered 0 = .ok (.iconst 0, 1) := by decide +kernel
theorem dX11_metered_1 : decode cX11_metered 1 = .ok (.istore 4, 2) := by decide +kernel
theorem dX11_metered_3 : decode cX11_metered 3 = .ok (.iconst 0, 1) := by decide +kernel
theorem dX11_metered_4 : decode cX11_metered 4 = .ok (.istore 5, 2) := by decide +kernel
theorem dX11_metered_6 : decode cX11_metered 6 = .ok (.iload 5, 2) := by decide +kernel
theorem dX11_metered_8 : decode cX11_metered 8 = .ok (.aload_n 0, 1) := by decide +kernel
theorem dX11_metered_9 : decode cX11_metered 9 = .ok (.getfield 174, 3) := by decide +kernel
theorem dX11_metered_12 : decode cX11_metered 12 = .ok (.if_icmp .ge 42, 3) := by decide +kernel
theorem dX11_metered_15 : decode cX11_metered 15 = .ok (.iload_n 3, 1) := by decide +kernel
theorem dX11_metered_16 : decode cX11_metered 16 = .ok (.iload 5, 2) := by decide +kernel
theorem dX11_metered_18 : decode cX11_metered 18 = .ok (.ishr, 1) := by decide +kernel
theorem dX11_metered_19 : decode cX11_metered 19 = .ok (.iconst 1, 1) := by decide +kernel
theorem dX11_metered_20 : decode cX11_metered 20 = .ok (.iand, 1) := by decide +kernel
theorem dX11_metered_21 : decode cX11_metered 21 = .ok (.iconst 1, 1) := by decide +kernel
theorem dX11_metered_22 : decode cX11_metered 22 = .ok (.if_icmp .ne 26, 3) := by decide +kernel
theorem dX11_metered_25 : decode cX11_metered 25 = .ok (.aload_n 0, 1) := by decide +kernel
theorem dX11_metered_26 : decode cX11_metered 26 = .ok (.iload 5, 2) := by decide +kernel
theorem dX11_metered_28 : decode cX11_metered 28 = .ok (.invokevirtual 279, 3) := by decide +kernel
theorem dX11_metered_31 : decode cX11_metered 31 = .ok (.ifCond .ne 17, 3) := by decide +kernel
theorem dX11_metered_34 : decode cX11_metered 34 = .ok (.aload_n 0, 1) := by decide +kernel
theorem dX11_metered_35 : decode cX11_metered 35 = .ok (.iload 5, 2) := by decide +kernel
theorem dX11_metered_37 : decode cX11_metered 37 = .ok (.iload_n 1, 1) := by decide +kernel
theorem dX11_metered_38 : decode cX11_metered 38 = .ok (.invokevirtual 282, 3) := by decide +kernel
theorem dX11_metered_41 : decode cX11_metered 41 = .ok (.iload_n 2, 1) := by decide +kernel
theorem dX11_metered_42 : decode cX11_metered 42 = .ok (.if_icmp .lt 6, 3) := by decide +kernel
theorem dX11_metered_45 : decode cX11_metered 45 = .ok (.iinc 4 1, 3) := by decide +kernel
theorem dX11_metered_48 : decode cX11_metered 48 = .ok (.iinc 5 1, 3) := by decide +kernel
theorem dX11_metered_51 : decode cX11_metered 51 = .ok (.goto (-45), 3) := by decide +kernel
theorem dX11_metered_54 : decode cX11_metered 54 = .ok (.iload 4, 2) := by decide +kernel
theorem dX11_metered_56 : decode cX11_metered 56 = .ok (.ireturn, 1) := by decide +kernel
theorem dX11_meter_0 : decode cX11_meter 0 = .ok (.aload_n 0, 1) := by decide +kernel
theorem dX11_meter_1 : decode cX11_meter 1 = .ok (.iload_n 1, 1) := by decide +kernel
theorem dX11_meter_2 : decode cX11_meter 2 = .ok (.invokevirtual 191, 3) := by decide +kernel
theorem dX11_meter_5 : decode cX11_meter 5 = .ok (.ifCond .ne 9, 3) := by decide +kernel
theorem dX11_meter_8 : decode cX11_meter 8 = .ok (.aload_n 0, 1) := by decide +kernel
theorem dX11_meter_9 : decode cX11_meter 9 = .ok (.iconst (-1), 1) := by decide +kernel
theorem dX11_meter_10 : decode cX11_meter 10 = .ok (.invokevirtual 184, 3) := by decide +kernel
theorem dX11_meter_13 : decode cX11_meter 13 = .ok (.ireturn, 1) := by decide +kernel
theorem dX11_meter_14 : decode cX11_meter 14 = .ok (.iload_n 2, 1) := by decide +kernel
theorem dX11_meter_15 : decode cX11_meter 15 = .ok (.iconst 1, 1) := by decide +kernel
theorem dX11_meter_16 : decode cX11_meter 16 = .ok (.if_icmp .lt 19, 3) := by decide +kernel
theorem dX11_meter_19 : decode cX11_meter 19 = .ok (.iload_n 2, 1) := by decide +kernel
theorem dX11_meter_20 : decode cX11_meter 20 = .ok (.bipush 99, 2) := by decide +kernel
theorem dX11_meter_22 : decode cX11_meter 22 = .ok (.if_icmp .gt 13, 3) := by decide +kernel
theorem dX11_meter_25 : decode cX11_meter 25 = .ok (.aload_n 0, 1) := by decide +kernel
theorem dX11_meter_26 : decode cX11_meter 26 = .ok (.iload_n 3, 1) := by decide +kernel
theorem dX11_meter_27 : decode cX11_meter 27 = .ok (.iload 4, 2) := by decide +kernel
theorem dX11_meter_29 : decode cX11_meter 29 = .ok (.invokevirtual 334, 3) := by decide +kernel
theorem dX11_meter_32 : decode cX11_meter 32 = .ok (.ifCond .ne 10, 3) := by decide +kernel
theorem dX11_meter_35 : decode cX11_meter 35 = .ok (.aload_n 0, 1) := by decide +kernel
theorem dX11_meter_36 : decode cX11_meter 36 = .ok (.bipush (-6), 2) := by decide +kernel
theorem dX11_meter_38 : decode cX11_meter 38 = .ok (.invokevirtual 184, 3) := by decide +kernel
theorem dX11_meter_41 : decode cX11_meter 41 = .ok (.ireturn, 1) := by decide +kernel
theorem dX11_meter_42 : decode cX11_meter 42 = .ok (.aload_n 0, 1) := by decide +kernel
theorem dX11_meter_43 : decode cX11_meter 43 = .ok (.iload_n 1, 1) := by decide +kernel
theorem dX11_meter_44 : decode cX11_meter 44 = .ok (.iload_n 2, 1) := by decide +kernel
theorem dX11_meter_45 : decode cX11_meter 45 = .ok (.aload_n 0, 1) := by decide +kernel
theorem dX11_meter_46 : decode cX11_meter 46 = .ok (.iload_n 3, 1) := by decide +kernel
theorem dX11_meter_47 : decode cX11_meter 47 = .ok (.iload 4, 2) := by decide +kernel
theorem dX11_meter_49 : decode cX11_meter 49 = .ok (.invokevirtual 328, 3) := by decide +kernel
theorem dX11_meter_52 : decode cX11_meter 52 = .ok (.invokevirtual 345, 3) := by decide +kernel
theorem dX11_meter_55 : decode cX11_meter 55 = .ok (.ireturn, 1) := by decide +kernel
theorem dX11_place_0 : decode cX11_place 0 = .ok (.iload_n 1, 1) := by decide +kernel
theorem dX11_place_1 : decode cX11_place 1 = .ok (.iconst 1, 1) := by decide +kernel
theorem dX11_place_2 : decode cX11_place 2 = .ok (.if_icmp .lt 18, 3) := by decide +kernel
theorem dX11_place_5 : decode cX11_place 5 = .ok (.iload_n 1, 1) := by decide +kernel
theorem dX11_place_6 : decode cX11_place 6 = .ok (.bipush 99, 2) := by decide +kernel
theorem dX11_place_8 : decode cX11_place 8 = .ok (.if_icmp .gt 12, 3) := by decide +kernel
theorem dX11_place_11 : decode cX11_place 11 = .ok (.aload_n 0, 1) := by decide +kernel
theorem dX11_place_12 : decode cX11_place 12 = .ok (.iload_n 2, 1) := by decide +kernel
theorem dX11_place_13 : decode cX11_place 13 = .ok (.iload_n 3, 1) := by decide +kernel
theorem dX11_place_14 : decode cX11_place 14 = .ok (.invokevirtual 334, 3) := by decide +kernel
theorem dX11_place_17 : decode cX11_place 17 = .ok (.ifCond .ne 10, 3) := by decide +kernel
theorem dX11_place_20 : decode cX11_place 20 = .ok (.aload_n 0, 1) := by decide +kernel
theorem dX11_place_21 : decode cX11_place 21 = .ok (.bipush (-6), 2) := by decide +kernel
theorem dX11_place_23 : decode cX11_place 23 = .ok (.invokevirtual 184, 3) := by decide +kernel
theorem dX11_place_26 : decode cX11_place 26 = .ok (.ireturn, 1) := by decide +kernel
theorem dX11_place_27 : decode cX11_place 27 = .ok (.aload_n 0, 1) := by decide +kernel
theorem dX11_place_28 : decode cX11_place 28 = .ok (.iload_n 2, 1) := by decide +kernel
theorem dX11_place_29 : decode cX11_place 29 = .ok (.iload_n 3, 1) := by decide +kernel
theorem dX11_place_30 : decode cX11_place 30 = .ok (.invokevirtual 328, 3) := by decide +kernel
theorem dX11_place_33 : decode cX11_place 33 = .ok (.istore 4, 2) := by decide +kernel
theorem dX11_place_35 : decode cX11_place 35 = .ok (.iconst 0, 1) := by decide +kernel
theorem dX11_place_36 : decode cX11_place 36 = .ok (.istore 5, 2) := by decide +kernel
theorem dX11_place_38 : decode cX11_place 38 = .ok (.iconst (-1), 1) := by decide +kernel
theorem dX11_place_39 : decode cX11_place 39 = .ok (.istore 6, 2) := by decide +kernel
theorem dX11_place_41 : decode cX11_place 41 = .ok (.iconst 0, 1) := by decide +kernel
theorem dX11_place_42 : decode cX11_place 42 = .ok (.istore 7, 2) := by decide +kernel
theorem dX11_place_44 : decode cX11_place 44 = .ok (.iload 7, 2) := by decide +kernel
theorem dX11_place_46 : decode cX11_place 46 = .ok (.bipush 64, 2) := by decide +kernel
theorem dX11_place_48 : decode cX11_place 48 = .ok (.if_icmp .ge 35, 3) := by decide +kernel
theorem dX11_place_51 : decode cX11_place 51 = .ok (.aload_n 0, 1) := by decide +kernel
theorem dX11_place_52 : decode cX11_place 52 = .ok (.iload 7, 2) := by decide +kernel
theorem dX11_place_54 : decode cX11_place 54 = .ok (.iload_n 1, 1) := by decide +kernel
theorem dX11_place_55 : decode cX11_place 55 = .ok (.iload 4, 2) := by decide +kernel
theorem dX11_place_57 : decode cX11_place 57 = .ok (.invokevirtual 345, 3) := by decide +kernel
theorem dX11_place_60 : decode cX11_place 60 = .ok (.istore 8, 2) := by decide +kernel
theorem dX11_place_62 : decode cX11_place 62 = .ok (.iload 8, 2) := by decide +kernel
theorem dX11_place_64 : decode cX11_place 64 = .ok (.iload 6, 2) := by decide +kernel
theorem dX11_place_66 : decode cX11_place 66 = .ok (.if_icmp .le 11, 3) := by decide +kernel
theorem dX11_place_69 : decode cX11_place 69 = .ok (.iload 8, 2) := by decide +kernel
theorem dX11_place_71 : decode cX11_place 71 = .ok (.istore 6, 2) := by decide +kernel
theorem dX11_place_73 : decode cX11_place 73 = .ok (.iload 7, 2) := by decide +kernel
theorem dX11_place_75 : decode cX11_place 75 = .ok (.istore 5, 2) := by decide +kernel
theorem dX11_place_77 : decode cX11_place 77 = .ok (.iinc 7 1, 3) := by decide +kernel
theorem dX11_place_80 : decode cX11_place 80 = .ok (.goto (-36), 3) := by decide +kernel
theorem dX11_place_83 : decode cX11_place 83 = .ok (.iload 5, 2) := by decide +kernel
theorem dX11_place_85 : decode cX11_place 85 = .ok (.ireturn, 1) := by decide +kernel
theorem dX11_bed_0 : decode cX11_bed 0 = .ok (.aload_n 0, 1) := by decide +kernel
theorem dX11_bed_1 : decode cX11_bed 1 = .ok (.iload_n 1, 1) := by decide +kernel
theorem dX11_bed_2 : decode cX11_bed 2 = .ok (.invokevirtual 197, 3) := by decide +kernel
theorem dX11_bed_5 : decode cX11_bed 5 = .ok (.ifCond .ne 9, 3) := by decide +kernel
theorem dX11_bed_8 : decode cX11_bed 8 = .ok (.aload_n 0, 1) := by decide +kernel
theorem dX11_bed_9 : decode cX11_bed 9 = .ok (.iconst (-1), 1) := by decide +kernel
theorem dX11_bed_10 : decode cX11_bed 10 = .ok (.invokevirtual 184, 3) := by decide +kernel
theorem dX11_bed_13 : decode cX11_bed 13 = .ok (.ireturn, 1) := by decide +kernel
theorem dX11_bed_14 : decode cX11_bed 14 = .ok (.aload_n 0, 1) := by decide +kernel
theorem dX11_bed_15 : decode cX11_bed 15 = .ok (.iload_n 2, 1) := by decide +kernel
theorem dX11_bed_16 : decode cX11_bed 16 = .ok (.iload_n 3, 1) := by decide +kernel
theorem dX11_bed_17 : decode cX11_bed 17 = .ok (.invokevirtual 334, 3) := by decide +kernel
theorem dX11_bed_20 : decode cX11_bed 20 = .ok (.ifCond .ne 10, 3) := by decide +kernel
theorem dX11_bed_23 : decode cX11_bed 23 = .ok (.aload_n 0, 1) := by decide +kernel
theorem dX11_bed_24 : decode cX11_bed 24 = .ok (.bipush (-6), 2) := by decide +kernel
theorem dX11_bed_26 : decode cX11_bed 26 = .ok (.invokevirtual 184, 3) := by decide +kernel
theorem dX11_bed_29 : decode cX11_bed 29 = .ok (.ireturn, 1) := by decide +kernel
theorem dX11_bed_30 : decode cX11_bed 30 = .ok (.aload_n 0, 1) := by decide +kernel
theorem dX11_bed_31 : decode cX11_bed 31 = .ok (.iload_n 2, 1) := by decide +kernel
theorem dX11_bed_32 : decode cX11_bed 32 = .ok (.iload_n 3, 1) := by decide +kernel
theorem dX11_bed_33 : decode cX11_bed 33 = .ok (.invokevirtual 328, 3) := by decide +kernel
theorem dX11_bed_36 : decode cX11_bed 36 = .ok (.istore 4, 2) := by decide +kernel
theorem dX11_bed_38 : decode cX11_bed 38 = .ok (.iconst (-1), 1) := by decide +kernel
theorem dX11_bed_39 : decode cX11_bed 39 = .ok (.istore 5, 2) := by decide +kernel
theorem dX11_bed_41 : decode cX11_bed 41 = .ok (.iconst 0, 1) := by decide +kernel
theorem dX11_bed_42 : decode cX11_bed 42 = .ok (.istore 6, 2) := by decide +kernel
theorem dX11_bed_44 : decode cX11_bed 44 = .ok (.iconst 0, 1) := by decide +kernel
theorem dX11_bed_45 : decode cX11_bed 45 = .ok (.istore 7, 2) := by decide +kernel
theorem dX11_bed_47 : decode cX11_bed 47 = .ok (.iconst 0, 1) := by decide +kernel
theorem dX11_bed_48 : decode cX11_bed 48 = .ok (.istore 8, 2) := by decide +kernel
theorem dX11_bed_50 : decode cX11_bed 50 = .ok (.iload 8, 2) := by decide +kernel
theorem dX11_bed_52 : decode cX11_bed 52 = .ok (.bipush 64, 2) := by decide +kernel
theorem dX11_bed_54 : decode cX11_bed 54 = .ok (.if_icmp .ge 102, 3) := by decide +kernel
theorem dX11_bed_57 : decode cX11_bed 57 = .ok (.aload_n 0, 1) := by decide +kernel
theorem dX11_bed_58 : decode cX11_bed 58 = .ok (.aload_n 0, 1) := by decide +kernel
theorem dX11_bed_59 : decode cX11_bed 59 = .ok (.iload_n 1, 1) := by decide +kernel
theorem dX11_bed_60 : decode cX11_bed 60 = .ok (.iload 8, 2) := by decide +kernel
theorem dX11_bed_62 : decode cX11_bed 62 = .ok (.iload 4, 2) := by decide +kernel
theorem dX11_bed_64 : decode cX11_bed 64 = .ok (.invokevirtual 331, 3) := by decide +kernel
theorem dX11_bed_67 : decode cX11_bed 67 = .ok (.invokevirtual 348, 3) := by decide +kernel
theorem dX11_bed_70 : decode cX11_bed 70 = .ok (.istore 9, 2) := by decide +kernel
theorem dX11_bed_72 : decode cX11_bed 72 = .ok (.aload_n 0, 1) := by decide +kernel
theorem dX11_bed_73 : decode cX11_bed 73 = .ok (.iload 8, 2) := by decide +kernel
theorem dX11_bed_75 : decode cX11_bed 75 = .ok (.bipush 8, 2) := by decide +kernel
theorem dX11_bed_77 : decode cX11_bed 77 = .ok (.idiv, 1) := by decide +kernel
theorem dX11_bed_78 : decode cX11_bed 78 = .ok (.aload_n 0, 1) := by decide +kernel
theorem dX11_bed_79 : decode cX11_bed 79 = .ok (.getfield 29, 3) := by decide +kernel
theorem dX11_bed_82 : decode cX11_bed 82 = .ok (.iload_n 1, 1) := by decide +kernel
theorem dX11_bed_83 : decode cX11_bed 83 = .ok (.iaload, 1) := by decide +kernel
theorem dX11_bed_84 : decode cX11_bed 84 = .ok (.bipush 8, 2) := by decide +kernel
theorem dX11_bed_86 : decode cX11_bed 86 = .ok (.idiv, 1) := by decide +kernel
theorem dX11_bed_87 : decode cX11_bed 87 = .ok (.invokevirtual 266, 3) := by decide +kernel
theorem dX11_bed_90 : decode cX11_bed 90 = .ok (.aload_n 0, 1) := by decide +kernel
theorem dX11_bed_91 : decode cX11_bed 91 = .ok (.iload 8, 2) := by decide +kernel
theorem dX11_bed_93 : decode cX11_bed 93 = .ok (.bipush 8, 2) := by decide +kernel
theorem dX11_bed_95 : decode cX11_bed 95 = .ok (.irem, 1) := by decide +kernel
theorem dX11_bed_96 : decode cX11_bed 96 = .ok (.aload_n 0, 1) := by decide +kernel
theorem dX11_bed_97 : decode cX11_bed 97 = .ok (.getfield 29, 3) := by decide +kernel
theorem dX11_bed_100 : decode cX11_bed 100 = .ok (.iload_n 1, 1) := by decide +kernel
theorem dX11_bed_101 : decode cX11_bed 101 = .ok (.iaload, 1) := by decide +kernel
theorem dX11_bed_102 : decode cX11_bed 102 = .ok (.bipush 8, 2) := by decide +kernel
theorem dX11_bed_104 : decode cX11_bed 104 = .ok (.irem, 1) := by decide +kernel
theorem dX11_bed_105 : decode cX11_bed 105 = .ok (.invokevirtual 266, 3) := by decide +kernel
theorem dX11_bed_108 : decode cX11_bed 108 = .ok (.iadd, 1) := by decide +kernel
theorem dX11_bed_109 : decode cX11_bed 109 = .ok (.istore 10, 2) := by decide +kernel
theorem dX11_bed_111 : decode cX11_bed 111 = .ok (.iload 5, 2) := by decide +kernel
theorem dX11_bed_113 : decode cX11_bed 113 = .ok (.iconst (-1), 1) := by decide +kernel
theorem dX11_bed_114 : decode cX11_bed 114 = .ok (.if_icmp .eq 24, 3) := by decide +kernel
theorem dX11_bed_117 : decode cX11_bed 117 = .ok (.iload 9, 2) := by decide +kernel
theorem dX11_bed_119 : decode cX11_bed 119 = .ok (.iload 6, 2) := by decide +kernel
theorem dX11_bed_121 : decode cX11_bed 121 = .ok (.if_icmp .lt 17, 3) := by decide +kernel
theorem dX11_bed_124 : decode cX11_bed 124 = .ok (.iload 9, 2) := by decide +kernel
theorem dX11_bed_126 : decode cX11_bed 126 = .ok (.iload 6, 2) := by decide +kernel
theorem dX11_bed_128 : decode cX11_bed 128 = .ok (.if_icmp .ne 22, 3) := by decide +kernel
theorem dX11_bed_131 : decode cX11_bed 131 = .ok (.iload 10, 2) := by decide +kernel
theorem dX11_bed_133 : decode cX11_bed 133 = .ok (.iload 7, 2) := by decide +kernel
theorem dX11_bed_135 : decode cX11_bed 135 = .ok (.if_icmp .ge 15, 3) := by decide +kernel
theorem dX11_bed_138 : decode cX11_bed 138 = .ok (.iload 8, 2) := by decide +kernel
theorem dX11_bed_140 : decode cX11_bed 140 = .ok (.istore 5, 2) := by decide +kernel
theorem dX11_bed_142 : decode cX11_bed 142 = .ok (.iload 9, 2) := by decide +kernel
theorem dX11_bed_144 : decode cX11_bed 144 = .ok (.istore 6, 2) := by decide +kernel
theorem dX11_bed_146 : decode cX11_bed 146 = .ok (.iload 10, 2) := by decide +kernel
theorem dX11_bed_148 : decode cX11_bed 148 = .ok (.istore 7, 2) := by decide +kernel
theorem dX11_bed_150 : decode cX11_bed 150 = .ok (.iinc 8 1, 3) := by decide +kernel
theorem dX11_bed_153 : decode cX11_bed 153 = .ok (.goto (-103), 3) := by decide +kernel
theorem dX11_bed_156 : decode cX11_bed 156 = .ok (.iload 5, 2) := by decide +kernel
theorem dX11_bed_158 : decode cX11_bed 158 = .ok (.ireturn, 1) := by decide +kernel
theorem dX11_body_0 : decode cX11_body 0 = .ok (.aload_n 0, 1) := by decide +kernel
theorem dX11_body_1 : decode cX11_body 1 = .ok (.getfield 351, 3) := by decide +kernel
theorem dX11_body_4 : decode cX11_body 4 = .ok (.bipush 20, 2) := by decide +kernel
theorem dX11_body_6 : decode cX11_body 6 = .ok (.if_icmp .ge 13, 3) := by decide +kernel
theorem dX11_body_9 : decode cX11_body 9 = .ok (.aload_n 0, 1) := by decide +kernel
theorem dX11_body_10 : decode cX11_body 10 = .ok (.getfield 162, 3) := by decide +kernel
theorem dX11_body_13 : decode cX11_body 13 = .ok (.aload_n 0, 1) := by decide +kernel
theorem dX11_body_14 : decode cX11_body 14 = .ok (.getfield 351, 3) := by decide +kernel
theorem dX11_body_17 : decode cX11_body 17 = .ok (.iload_n 1, 1) := by decide +kernel
theorem dX11_body_18 : decode cX11_body 18 = .ok (.iastore, 1) := by decide +kernel
theorem dX11_body_19 : decode cX11_body 19 = .ok (.aload_n 0, 1) := by decide +kernel
theorem dX11_body_20 : decode cX11_body 20 = .ok (.dup, 1) := by decide +kernel
theorem dX11_body_21 : decode cX11_body 21 = .ok (.getfield 351, 3) := by decide +kernel
theorem dX11_body_24 : decode cX11_body 24 = .ok (.iconst 1, 1) := by decide +kernel
theorem dX11_body_25 : decode cX11_body 25 = .ok (.iadd, 1) := by decide +kernel
theorem dX11_body_26 : decode cX11_body 26 = .ok (.putfield 351, 3) := by decide +kernel
theorem dX11_body_29 : decode cX11_body 29 = .ok (.return_, 1) := by decide +kernel
theorem dX11_soundsOf_0 : decode cX11_soundsOf 0 = .ok (.aload_n 0, 1) := by decide +kernel
theorem dX11_soundsOf_1 : decode cX11_soundsOf 1 = .ok (.getfield 44, 3) := by decide +kernel
theorem dX11_soundsOf_4 : decode cX11_soundsOf 4 = .ok (.iload_n 1, 1) := by decide +kernel
theorem dX11_soundsOf_5 : decode cX11_soundsOf 5 = .ok (.iaload, 1) := by decide +kernel
theorem dX11_soundsOf_6 : decode cX11_soundsOf 6 = .ok (.istore_n 3, 1) := by decide +kernel
theorem dX11_soundsOf_7 : decode cX11_soundsOf 7 = .ok (.iload_n 2, 1) := by decide +kernel
theorem dX11_soundsOf_8 : decode cX11_soundsOf 8 = .ok (.istore 4, 2) := by decide +kernel
theorem dX11_soundsOf_10 : decode cX11_soundsOf 10 = .ok (.iload_n 3, 1) := by decide +kernel
theorem dX11_soundsOf_11 : decode cX11_soundsOf 11 = .ok (.bipush 7, 2) := by decide +kernel
theorem dX11_soundsOf_13 : decode cX11_soundsOf 13 = .ok (.if_icmp .ne 14, 3) := by decide +kernel
theorem dX11_soundsOf_16 : decode cX11_soundsOf 16 = .ok (.aload_n 0, 1) := by decide +kernel
theorem dX11_soundsOf_17 : decode cX11_soundsOf 17 = .ok (.bipush 80, 2) := by decide +kernel
theorem dX11_soundsOf_19 : decode cX11_soundsOf 19 = .ok (.invokevirtual 354, 3) := by decide +kernel
theorem dX11_soundsOf_22 : decode cX11_soundsOf 22 = .ok (.iload_n 2, 1) := by decide +kernel
theorem dX11_soundsOf_23 : decode cX11_soundsOf 23 = .ok (.iconst 1, 1) := by decide +kernel
theorem dX11_soundsOf_24 : decode cX11_soundsOf 24 = .ok (.isub, 1) := by decide +kernel
theorem dX11_soundsOf_25 : decode cX11_soundsOf 25 = .ok (.istore 4, 2) := by decide +kernel
theorem dX11_soundsOf_27 : decode cX11_soundsOf 27 = .ok (.iload_n 3, 1) := by decide +kernel
theorem dX11_soundsOf_28 : decode cX11_soundsOf 28 = .ok (.iconst 1, 1) := by decide +kernel
theorem dX11_soundsOf_29 : decode cX11_soundsOf 29 = .ok (.if_icmp .eq 9, 3) := by decide +kernel
theorem dX11_soundsOf_32 : decode cX11_soundsOf 32 = .ok (.iload_n 3, 1) := by decide +kernel
theorem dX11_soundsOf_33 : decode cX11_soundsOf 33 = .ok (.bipush 7, 2) := by decide +kernel
theorem dX11_soundsOf_35 : decode cX11_soundsOf 35 = .ok (.if_icmp .ne 9, 3) := by decide +kernel
theorem dX11_soundsOf_38 : decode cX11_soundsOf 38 = .ok (.aload_n 0, 1) := by decide +kernel
theorem dX11_soundsOf_39 : decode cX11_soundsOf 39 = .ok (.bipush 20, 2) := by decide +kernel
theorem dX11_soundsOf_41 : decode cX11_soundsOf 41 = .ok (.invokevirtual 354, 3) := by decide +kernel
theorem dX11_soundsOf_44 : decode cX11_soundsOf 44 = .ok (.iload_n 3, 1) := by decide +kernel
theorem dX11_soundsOf_45 : decode cX11_soundsOf 45 = .ok (.iconst 5, 1) := by decide +kernel
theorem dX11_soundsOf_46 : decode cX11_soundsOf 46 = .ok (.if_icmp .ne 9, 3) := by decide +kernel
theorem dX11_soundsOf_49 : decode cX11_soundsOf 49 = .ok (.aload_n 0, 1) := by decide +kernel
theorem dX11_soundsOf_50 : decode cX11_soundsOf 50 = .ok (.bipush 60, 2) := by decide +kernel
theorem dX11_soundsOf_52 : decode cX11_soundsOf 52 = .ok (.invokevirtual 354, 3) := by decide +kernel
theorem dX11_soundsOf_55 : decode cX11_soundsOf 55 = .ok (.aload_n 0, 1) := by decide +kernel
theorem dX11_soundsOf_56 : decode cX11_soundsOf 56 = .ok (.bipush 10, 2) := by decide +kernel
theorem dX11_soundsOf_58 : decode cX11_soundsOf 58 = .ok (.invokevirtual 354, 3) := by decide +kernel
theorem dX11_soundsOf_61 : decode cX11_soundsOf 61 = .ok (.iload 4, 2) := by decide +kernel
theorem dX11_soundsOf_63 : decode cX11_soundsOf 63 = .ok (.iload_n 1, 1) := by decide +kernel
theorem dX11_soundsOf_64 : decode cX11_soundsOf 64 = .ok (.iadd, 1) := by decide +kernel
theorem dX11_soundsOf_65 : decode cX11_soundsOf 65 = .ok (.istore 5, 2) := by decide +kernel
theorem dX11_soundsOf_67 : decode cX11_soundsOf 67 = .ok (.iload_n 3, 1) := by decide +kernel
theorem dX11_soundsOf_68 : decode cX11_soundsOf 68 = .ok (.iconst 1, 1) := by decide +kernel
theorem dX11_soundsOf_69 : decode cX11_soundsOf 69 = .ok (.if_icmp .eq 9, 3) := by decide +kernel
theorem dX11_soundsOf_72 : decode cX11_soundsOf 72 = .ok (.iload_n 3, 1) := by decide +kernel
theorem dX11_soundsOf_73 : decode cX11_soundsOf 73 = .ok (.bipush 7, 2) := by decide +kernel
theorem dX11_soundsOf_75 : decode cX11_soundsOf 75 = .ok (.if_icmp .ne 10, 3) := by decide +kernel
theorem dX11_soundsOf_78 : decode cX11_soundsOf 78 = .ok (.iload 5, 2) := by decide +kernel
theorem dX11_soundsOf_80 : decode cX11_soundsOf 80 = .ok (.iconst 3, 1) := by decide +kernel
theorem dX11_soundsOf_81 : decode cX11_soundsOf 81 = .ok (.imul, 1) := by decide +kernel
theorem dX11_soundsOf_82 : decode cX11_soundsOf 82 = .ok (.goto 17, 3) := by decide +kernel
theorem dX11_soundsOf_85 : decode cX11_soundsOf 85 = .ok (.iload_n 3, 1) := by decide +kernel
theorem dX11_soundsOf_86 : decode cX11_soundsOf 86 = .ok (.iconst 5, 1) := by decide +kernel
theorem dX11_soundsOf_87 : decode cX11_soundsOf 87 = .ok (.if_icmp .ne 10, 3) := by decide +kernel
theorem dX11_soundsOf_90 : decode cX11_soundsOf 90 = .ok (.iload 5, 2) := by decide +kernel
theorem dX11_soundsOf_92 : decode cX11_soundsOf 92 = .ok (.iconst 5, 1) := by decide +kernel
theorem dX11_soundsOf_93 : decode cX11_soundsOf 93 = .ok (.ixor, 1) := by decide +kernel
theorem dX11_soundsOf_94 : decode cX11_soundsOf 94 = .ok (.goto 5, 3) := by decide +kernel
theorem dX11_soundsOf_97 : decode cX11_soundsOf 97 = .ok (.iload 5, 2) := by decide +kernel
theorem dX11_soundsOf_99 : decode cX11_soundsOf 99 = .ok (.ireturn, 1) := by decide +kernel
theorem dX11_reachesOf_0 : decode cX11_reachesOf 0 = .ok (.aload_n 0, 1) := by decide +kernel
theorem dX11_reachesOf_1 : decode cX11_reachesOf 1 = .ok (.getfield 44, 3) := by decide +kernel
theorem dX11_reachesOf_4 : decode cX11_reachesOf 4 = .ok (.iload_n 1, 1) := by decide +kernel
theorem dX11_reachesOf_5 : decode cX11_reachesOf 5 = .ok (.iaload, 1) := by decide +kernel
theorem dX11_reachesOf_6 : decode cX11_reachesOf 6 = .ok (.istore_n 3, 1) := by decide +kernel
theorem dX11_reachesOf_7 : decode cX11_reachesOf 7 = .ok (.iload_n 2, 1) := by decide +kernel
theorem dX11_reachesOf_8 : decode cX11_reachesOf 8 = .ok (.istore 4, 2) := by decide +kernel
theorem dX11_reachesOf_10 : decode cX11_reachesOf 10 = .ok (.iload_n 3, 1) := by decide +kernel
theorem dX11_reachesOf_11 : decode cX11_reachesOf 11 = .ok (.iconst 2, 1) := by decide +kernel
theorem dX11_reachesOf_12 : decode cX11_reachesOf 12 = .ok (.if_icmp .ne 9, 3) := by decide +kernel
theorem dX11_reachesOf_15 : decode cX11_reachesOf 15 = .ok (.aload_n 0, 1) := by decide +kernel
theorem dX11_reachesOf_16 : decode cX11_reachesOf 16 = .ok (.bipush 30, 2) := by decide +kernel
theorem dX11_reachesOf_18 : decode cX11_reachesOf 18 = .ok (.invokevirtual 354, 3) := by decide +kernel
theorem dX11_reachesOf_21 : decode cX11_reachesOf 21 = .ok (.iload_n 3, 1) := by decide +kernel
theorem dX11_reachesOf_22 : decode cX11_reachesOf 22 = .ok (.iconst 3, 1) := by decide +kernel
theorem dX11_reachesOf_23 : decode cX11_reachesOf 23 = .ok (.if_icmp .ne 14, 3) := by decide +kernel
theorem dX11_reachesOf_26 : decode cX11_reachesOf 26 = .ok (.aload_n 0, 1) := by decide +kernel
theorem dX11_reachesOf_27 : decode cX11_reachesOf 27 = .ok (.bipush 40, 2) := by decide +kernel
theorem dX11_reachesOf_29 : decode cX11_reachesOf 29 = .ok (.invokevirtual 354, 3) := by decide +kernel
theorem dX11_reachesOf_32 : decode cX11_reachesOf 32 = .ok (.iload_n 2, 1) := by decide +kernel
theorem dX11_reachesOf_33 : decode cX11_reachesOf 33 = .ok (.iconst 1, 1) := by decide +kernel
theorem dX11_reachesOf_34 : decode cX11_reachesOf 34 = .ok (.iadd, 1) := by decide +kernel
theorem dX11_reachesOf_35 : decode cX11_reachesOf 35 = .ok (.istore 4, 2) := by decide +kernel
theorem dX11_reachesOf_37 : decode cX11_reachesOf 37 = .ok (.iload_n 3, 1) := by decide +kernel
theorem dX11_reachesOf_38 : decode cX11_reachesOf 38 = .ok (.bipush 7, 2) := by decide +kernel
theorem dX11_reachesOf_40 : decode cX11_reachesOf 40 = .ok (.if_icmp .ne 9, 3) := by decide +kernel
theorem dX11_reachesOf_43 : decode cX11_reachesOf 43 = .ok (.aload_n 0, 1) := by decide +kernel
theorem dX11_reachesOf_44 : decode cX11_reachesOf 44 = .ok (.bipush 81, 2) := by decide +kernel
theorem dX11_reachesOf_46 : decode cX11_reachesOf 46 = .ok (.invokevirtual 354, 3) := by decide +kernel
theorem dX11_reachesOf_49 : decode cX11_reachesOf 49 = .ok (.aload_n 0, 1) := by decide +kernel
theorem dX11_reachesOf_50 : decode cX11_reachesOf 50 = .ok (.bipush 11, 2) := by decide +kernel
theorem dX11_reachesOf_52 : decode cX11_reachesOf 52 = .ok (.invokevirtual 354, 3) := by decide +kernel
theorem dX11_reachesOf_55 : decode cX11_reachesOf 55 = .ok (.aload_n 0, 1) := by decide +kernel
theorem dX11_reachesOf_56 : decode cX11_reachesOf 56 = .ok (.iload_n 1, 1) := by decide +kernel
theorem dX11_reachesOf_57 : decode cX11_reachesOf 57 = .ok (.iload 4, 2) := by decide +kernel
theorem dX11_reachesOf_59 : decode cX11_reachesOf 59 = .ok (.invokevirtual 358, 3) := by decide +kernel
theorem dX11_reachesOf_62 : decode cX11_reachesOf 62 = .ok (.iconst 2, 1) := by decide +kernel
theorem dX11_reachesOf_63 : decode cX11_reachesOf 63 = .ok (.imul, 1) := by decide +kernel
theorem dX11_reachesOf_64 : decode cX11_reachesOf 64 = .ok (.istore 5, 2) := by decide +kernel
theorem dX11_reachesOf_66 : decode cX11_reachesOf 66 = .ok (.iload_n 3, 1) := by decide +kernel
theorem dX11_reachesOf_67 : decode cX11_reachesOf 67 = .ok (.iconst 2, 1) := by decide +kernel
theorem dX11_reachesOf_68 : decode cX11_reachesOf 68 = .ok (.if_icmp .ne 15, 3) := by decide +kernel
theorem dX11_reachesOf_71 : decode cX11_reachesOf 71 = .ok (.iload 5, 2) := by decide +kernel
theorem dX11_reachesOf_73 : decode cX11_reachesOf 73 = .ok (.aload_n 0, 1) := by decide +kernel
theorem dX11_reachesOf_74 : decode cX11_reachesOf 74 = .ok (.getfield 50, 3) := by decide +kernel
theorem dX11_reachesOf_77 : decode cX11_reachesOf 77 = .ok (.iload_n 1, 1) := by decide +kernel
theorem dX11_reachesOf_78 : decode cX11_reachesOf 78 = .ok (.iaload, 1) := by decide +kernel
theorem dX11_reachesOf_79 : decode cX11_reachesOf 79 = .ok (.iadd, 1) := by decide +kernel
theorem dX11_reachesOf_80 : decode cX11_reachesOf 80 = .ok (.goto 19, 3) := by decide +kernel
theorem dX11_reachesOf_83 : decode cX11_reachesOf 83 = .ok (.iload_n 3, 1) := by decide +kernel
theorem dX11_reachesOf_84 : decode cX11_reachesOf 84 = .ok (.bipush 7, 2) := by decide +kernel
theorem dX11_reachesOf_86 : decode cX11_reachesOf 86 = .ok (.if_icmp .ne 11, 3) := by decide +kernel
theorem dX11_reachesOf_89 : decode cX11_reachesOf 89 = .ok (.iload 5, 2) := by decide +kernel
theorem dX11_reachesOf_91 : decode cX11_reachesOf 91 = .ok (.bipush 9, 2) := by decide +kernel
theorem dX11_reachesOf_93 : decode cX11_reachesOf 93 = .ok (.iadd, 1) := by decide +kernel
theorem dX11_reachesOf_94 : decode cX11_reachesOf 94 = .ok (.goto 5, 3) := by decide +kernel
theorem dX11_reachesOf_97 : decode cX11_reachesOf 97 = .ok (.iload 5, 2) := by decide +kernel
theorem dX11_reachesOf_99 : decode cX11_reachesOf 99 = .ok (.ireturn, 1) := by decide +kernel
theorem dX11_hearsOf_0 : decode cX11_hearsOf 0 = .ok (.aload_n 0, 1) := by decide +kernel
theorem dX11_hearsOf_1 : decode cX11_hearsOf 1 = .ok (.getfield 44, 3) := by decide +kernel
theorem dX11_hearsOf_4 : decode cX11_hearsOf 4 = .ok (.iload_n 1, 1) := by decide +kernel
theorem dX11_hearsOf_5 : decode cX11_hearsOf 5 = .ok (.iaload, 1) := by decide +kernel
theorem dX11_hearsOf_6 : decode cX11_hearsOf 6 = .ok (.istore_n 3, 1) := by decide +kernel
theorem dX11_hearsOf_7 : decode cX11_hearsOf 7 = .ok (.iload_n 3, 1) := by decide +kernel
theorem dX11_hearsOf_8 : decode cX11_hearsOf 8 = .ok (.iconst 3, 1) := by decide +kernel
theorem dX11_hearsOf_9 : decode cX11_hearsOf 9 = .ok (.if_icmp .ne 9, 3) := by decide +kernel
theorem dX11_hearsOf_12 : decode cX11_hearsOf 12 = .ok (.aload_n 0, 1) := by decide +kernel
theorem dX11_hearsOf_13 : decode cX11_hearsOf 13 = .ok (.bipush 41, 2) := by decide +kernel
theorem dX11_hearsOf_15 : decode cX11_hearsOf 15 = .ok (.invokevirtual 354, 3) := by decide +kernel
theorem dX11_hearsOf_18 : decode cX11_hearsOf 18 = .ok (.iload_n 3, 1) := by decide +kernel
theorem dX11_hearsOf_19 : decode cX11_hearsOf 19 = .ok (.iconst 4, 1) := by decide +kernel
theorem dX11_hearsOf_20 : decode cX11_hearsOf 20 = .ok (.if_icmp .ne 9, 3) := by decide +kernel
theorem dX11_hearsOf_23 : decode cX11_hearsOf 23 = .ok (.aload_n 0, 1) := by decide +kernel
theorem dX11_hearsOf_24 : decode cX11_hearsOf 24 = .ok (.bipush 50, 2) := by decide +kernel
theorem dX11_hearsOf_26 : decode cX11_hearsOf 26 = .ok (.invokevirtual 354, 3) := by decide +kernel
theorem dX11_hearsOf_29 : decode cX11_hearsOf 29 = .ok (.iload_n 3, 1) := by decide +kernel
theorem dX11_hearsOf_30 : decode cX11_hearsOf 30 = .ok (.bipush 6, 2) := by decide +kernel
theorem dX11_hearsOf_32 : decode cX11_hearsOf 32 = .ok (.if_icmp .ne 9, 3) := by decide +kernel
theorem dX11_hearsOf_35 : decode cX11_hearsOf 35 = .ok (.aload_n 0, 1) := by decide +kernel
theorem dX11_hearsOf_36 : decode cX11_hearsOf 36 = .ok (.bipush 70, 2) := by decide +kernel
theorem dX11_hearsOf_38 : decode cX11_hearsOf 38 = .ok (.invokevirtual 354, 3) := by decide +kernel
theorem dX11_hearsOf_41 : decode cX11_hearsOf 41 = .ok (.aload_n 0, 1) := by decide +kernel
theorem dX11_hearsOf_42 : decode cX11_hearsOf 42 = .ok (.bipush 12, 2) := by decide +kernel
theorem dX11_hearsOf_44 : decode cX11_hearsOf 44 = .ok (.invokevirtual 354, 3) := by decide +kernel
theorem dX11_hearsOf_47 : decode cX11_hearsOf 47 = .ok (.aload_n 0, 1) := by decide +kernel
theorem dX11_hearsOf_48 : decode cX11_hearsOf 48 = .ok (.iload_n 1, 1) := by decide +kernel
theorem dX11_hearsOf_49 : decode cX11_hearsOf 49 = .ok (.iload_n 2, 1) := by decide +kernel
theorem dX11_hearsOf_50 : decode cX11_hearsOf 50 = .ok (.invokevirtual 361, 3) := by decide +kernel
theorem dX11_hearsOf_53 : decode cX11_hearsOf 53 = .ok (.istore 4, 2) := by decide +kernel
theorem dX11_hearsOf_55 : decode cX11_hearsOf 55 = .ok (.iload 4, 2) := by decide +kernel
theorem dX11_hearsOf_57 : decode cX11_hearsOf 57 = .ok (.aload_n 0, 1) := by decide +kernel
theorem dX11_hearsOf_58 : decode cX11_hearsOf 58 = .ok (.iload_n 1, 1) := by decide +kernel
theorem dX11_hearsOf_59 : decode cX11_hearsOf 59 = .ok (.iload_n 2, 1) := by decide +kernel
theorem dX11_hearsOf_60 : decode cX11_hearsOf 60 = .ok (.aload_n 0, 1) := by decide +kernel
theorem dX11_hearsOf_61 : decode cX11_hearsOf 61 = .ok (.getfield 50, 3) := by decide +kernel
theorem dX11_hearsOf_64 : decode cX11_hearsOf 64 = .ok (.iload_n 1, 1) := by decide +kernel
theorem dX11_hearsOf_65 : decode cX11_hearsOf 65 = .ok (.iaload, 1) := by decide +kernel
theorem dX11_hearsOf_66 : decode cX11_hearsOf 66 = .ok (.isub, 1) := by decide +kernel
theorem dX11_hearsOf_67 : decode cX11_hearsOf 67 = .ok (.invokevirtual 358, 3) := by decide +kernel
theorem dX11_hearsOf_70 : decode cX11_hearsOf 70 = .ok (.ixor, 1) := by decide +kernel
theorem dX11_hearsOf_71 : decode cX11_hearsOf 71 = .ok (.istore 4, 2) := by decide +kernel
theorem dX11_hearsOf_73 : decode cX11_hearsOf 73 = .ok (.iload_n 3, 1) := by decide +kernel
theorem dX11_hearsOf_74 : decode cX11_hearsOf 74 = .ok (.iconst 3, 1) := by decide +kernel
theorem dX11_hearsOf_75 : decode cX11_hearsOf 75 = .ok (.if_icmp .ne 9, 3) := by decide +kernel
theorem dX11_hearsOf_78 : decode cX11_hearsOf 78 = .ok (.iload 4, 2) := by decide +kernel
theorem dX11_hearsOf_80 : decode cX11_hearsOf 80 = .ok (.ineg, 1) := by decide +kernel
theorem dX11_hearsOf_81 : decode cX11_hearsOf 81 = .ok (.goto 30, 3) := by decide +kernel
theorem dX11_hearsOf_84 : decode cX11_hearsOf 84 = .ok (.iload_n 3, 1) := by decide +kernel
theorem dX11_hearsOf_85 : decode cX11_hearsOf 85 = .ok (.iconst 4, 1) := by decide +kernel
theorem dX11_hearsOf_86 : decode cX11_hearsOf 86 = .ok (.if_icmp .ne 10, 3) := by decide +kernel
theorem dX11_hearsOf_89 : decode cX11_hearsOf 89 = .ok (.iload 4, 2) := by decide +kernel
theorem dX11_hearsOf_91 : decode cX11_hearsOf 91 = .ok (.iload_n 1, 1) := by decide +kernel
theorem dX11_hearsOf_92 : decode cX11_hearsOf 92 = .ok (.isub, 1) := by decide +kernel
theorem dX11_hearsOf_93 : decode cX11_hearsOf 93 = .ok (.goto 18, 3) := by decide +kernel
theorem dX11_hearsOf_96 : decode cX11_hearsOf 96 = .ok (.iload_n 3, 1) := by decide +kernel
theorem dX11_hearsOf_97 : decode cX11_hearsOf 97 = .ok (.bipush 6, 2) := by decide +kernel
theorem dX11_hearsOf_99 : decode cX11_hearsOf 99 = .ok (.if_icmp .ne 10, 3) := by decide +kernel
theorem dX11_hearsOf_102 : decode cX11_hearsOf 102 = .ok (.iload 4, 2) := by decide +kernel
theorem dX11_hearsOf_104 : decode cX11_hearsOf 104 = .ok (.iconst 2, 1) := by decide +kernel
theorem dX11_hearsOf_105 : decode cX11_hearsOf 105 = .ok (.imul, 1) := by decide +kernel
theorem dX11_hearsOf_106 : decode cX11_hearsOf 106 = .ok (.goto 5, 3) := by decide +kernel
theorem dX11_hearsOf_109 : decode cX11_hearsOf 109 = .ok (.iload 4, 2) := by decide +kernel
theorem dX11_hearsOf_111 : decode cX11_hearsOf 111 = .ok (.ireturn, 1) := by decide +kernel
theorem dX11_act_0 : decode cX11_act 0 = .ok (.aload_n 0, 1) := by decide +kernel
theorem dX11_act_1 : decode cX11_act 1 = .ok (.iconst 0, 1) := by decide +kernel
theorem dX11_act_2 : decode cX11_act 2 = .ok (.putfield 351, 3) := by decide +kernel
theorem dX11_act_5 : decode cX11_act 5 = .ok (.aload_n 0, 1) := by decide +kernel
theorem dX11_act_6 : decode cX11_act 6 = .ok (.iload_n 1, 1) := by decide +kernel
theorem dX11_act_7 : decode cX11_act 7 = .ok (.invokevirtual 188, 3) := by decide +kernel
theorem dX11_act_10 : decode cX11_act 10 = .ok (.ifCond .eq 12, 3) := by decide +kernel
theorem dX11_act_13 : decode cX11_act 13 = .ok (.iload_n 2, 1) := by decide +kernel
theorem dX11_act_14 : decode cX11_act 14 = .ok (.ifCond .lt 8, 3) := by decide +kernel
theorem dX11_act_17 : decode cX11_act 17 = .ok (.iload_n 2, 1) := by decide +kernel
theorem dX11_act_18 : decode cX11_act 18 = .ok (.iconst 2, 1) := by decide +kernel
theorem dX11_act_19 : decode cX11_act 19 = .ok (.if_icmp .le 5, 3) := by decide +kernel
theorem dX11_act_22 : decode cX11_act 22 = .ok (.iconst 0, 1) := by decide +kernel
theorem dX11_act_23 : decode cX11_act 23 = .ok (.ireturn, 1) := by decide +kernel
theorem dX11_act_24 : decode cX11_act 24 = .ok (.iload_n 2, 1) := by decide +kernel
theorem dX11_act_25 : decode cX11_act 25 = .ok (.ifCond .ne 12, 3) := by decide +kernel
theorem dX11_act_28 : decode cX11_act 28 = .ok (.aload_n 0, 1) := by decide +kernel
theorem dX11_act_29 : decode cX11_act 29 = .ok (.iload_n 1, 1) := by decide +kernel
theorem dX11_act_30 : decode cX11_act 30 = .ok (.iload_n 3, 1) := by decide +kernel
theorem dX11_act_31 : decode cX11_act 31 = .ok (.invokevirtual 358, 3) := by decide +kernel
theorem dX11_act_34 : decode cX11_act 34 = .ok (.goto 23, 3) := by decide +kernel
theorem dX11_act_37 : decode cX11_act 37 = .ok (.iload_n 2, 1) := by decide +kernel
theorem dX11_act_38 : decode cX11_act 38 = .ok (.iconst 1, 1) := by decide +kernel
theorem dX11_act_39 : decode cX11_act 39 = .ok (.if_icmp .ne 12, 3) := by decide +kernel
theorem dX11_act_42 : decode cX11_act 42 = .ok (.aload_n 0, 1) := by decide +kernel
theorem dX11_act_43 : decode cX11_act 43 = .ok (.iload_n 1, 1) := by decide +kernel
theorem dX11_act_44 : decode cX11_act 44 = .ok (.iload_n 3, 1) := by decide +kernel
theorem dX11_act_45 : decode cX11_act 45 = .ok (.invokevirtual 361, 3) := by decide +kernel
theorem dX11_act_48 : decode cX11_act 48 = .ok (.goto 9, 3) := by decide +kernel
theorem dX11_act_51 : decode cX11_act 51 = .ok (.aload_n 0, 1) := by decide +kernel
theorem dX11_act_52 : decode cX11_act 52 = .ok (.iload_n 1, 1) := by decide +kernel
theorem dX11_act_53 : decode cX11_act 53 = .ok (.iload_n 3, 1) := by decide +kernel
theorem dX11_act_54 : decode cX11_act 54 = .ok (.invokevirtual 364, 3) := by decide +kernel
theorem dX11_act_57 : decode cX11_act 57 = .ok (.ireturn, 1) := by decide +kernel
theorem dX11_trace_0 : decode cX11_trace 0 = .ok (.iload_n 1, 1) := by decide +kernel
theorem dX11_trace_1 : decode cX11_trace 1 = .ok (.ifCond .lt 26, 3) := by decide +kernel
theorem dX11_trace_4 : decode cX11_trace 4 = .ok (.iload_n 1, 1) := by decide +kernel
theorem dX11_trace_5 : decode cX11_trace 5 = .ok (.bipush 20, 2) := by decide +kernel
theorem dX11_trace_7 : decode cX11_trace 7 = .ok (.if_icmp .ge 20, 3) := by decide +kernel
theorem dX11_trace_10 : decode cX11_trace 10 = .ok (.iload_n 1, 1) := by decide +kernel
theorem dX11_trace_11 : decode cX11_trace 11 = .ok (.aload_n 0, 1) := by decide +kernel
theorem dX11_trace_12 : decode cX11_trace 12 = .ok (.getfield 351, 3) := by decide +kernel
theorem dX11_trace_15 : decode cX11_trace 15 = .ok (.if_icmp .ge 12, 3) := by decide +kernel
theorem dX11_trace_18 : decode cX11_trace 18 = .ok (.aload_n 0, 1) := by decide +kernel
theorem dX11_trace_19 : decode cX11_trace 19 = .ok (.getfield 162, 3) := by decide +kernel
theorem dX11_trace_22 : decode cX11_trace 22 = .ok (.iload_n 1, 1) := by decide +kernel
theorem dX11_trace_23 : decode cX11_trace 23 = .ok (.iaload, 1) := by decide +kernel
theorem dX11_trace_24 : decode cX11_trace 24 = .ok (.goto 4, 3) := by decide +kernel
theorem dX11_trace_27 : decode cX11_trace 27 = .ok (.iconst (-1), 1) := by decide +kernel
theorem dX11_trace_28 : decode cX11_trace 28 = .ok (.ireturn, 1) := by decide +kernel
theorem dX11_keeps_0 : decode cX11_keeps 0 = .ok (.iconst 0, 1) := by decide +kernel
theorem dX11_keeps_1 : decode cX11_keeps 1 = .ok (.istore 5, 2) := by decide +kernel
theorem dX11_keeps_3 : decode cX11_keeps 3 = .ok (.iload 5, 2) := by decide +kernel
theorem dX11_keeps_5 : decode cX11_keeps 5 = .ok (.iload_n 2, 1) := by decide +kernel
theorem dX11_keeps_6 : decode cX11_keeps 6 = .ok (.if_icmp .ge 43, 3) := by decide +kernel
theorem dX11_keeps_9 : decode cX11_keeps 9 = .ok (.iload 4, 2) := by decide +kernel
theorem dX11_keeps_11 : decode cX11_keeps 11 = .ok (.ifCond .eq 19, 3) := by decide +kernel
theorem dX11_keeps_14 : decode cX11_keeps 14 = .ok (.aload_n 1, 1) := by decide +kernel
theorem dX11_keeps_15 : decode cX11_keeps 15 = .ok (.iload 5, 2) := by decide +kernel
theorem dX11_keeps_17 : decode cX11_keeps 17 = .ok (.aload_n 0, 1) := by decide +kernel
theorem dX11_keeps_18 : decode cX11_keeps 18 = .ok (.getfield 168, 3) := by decide +kernel
theorem dX11_keeps_21 : decode cX11_keeps 21 = .ok (.iload_n 3, 1) := by decide +kernel
theorem dX11_keeps_22 : decode cX11_keeps 22 = .ok (.iload 5, 2) := by decide +kernel
theorem dX11_keeps_24 : decode cX11_keeps 24 = .ok (.iadd, 1) := by decide +kernel
theorem dX11_keeps_25 : decode cX11_keeps 25 = .ok (.iaload, 1) := by decide +kernel
theorem dX11_keeps_26 : decode cX11_keeps 26 = .ok (.iastore, 1) := by decide +kernel
theorem dX11_keeps_27 : decode cX11_keeps 27 = .ok (.goto 16, 3) := by decide +kernel
theorem dX11_keeps_30 : decode cX11_keeps 30 = .ok (.aload_n 0, 1) := by decide +kernel
theorem dX11_keeps_31 : decode cX11_keeps 31 = .ok (.getfield 168, 3) := by decide +kernel
theorem dX11_keeps_34 : decode cX11_keeps 34 = .ok (.iload_n 3, 1) := by decide +kernel
theorem dX11_keeps_35 : decode cX11_keeps 35 = .ok (.iload 5, 2) := by decide +kernel
theorem dX11_keeps_37 : decode cX11_keeps 37 = .ok (.iadd, 1) := by decide +kernel
theorem dX11_keeps_38 : decode cX11_keeps 38 = .ok (.aload_n 1, 1) := by decide +kernel
theorem dX11_keeps_39 : decode cX11_keeps 39 = .ok (.iload 5, 2) := by decide +kernel
theorem dX11_keeps_41 : decode cX11_keeps 41 = .ok (.iaload, 1) := by decide +kernel
theorem dX11_keeps_42 : decode cX11_keeps 42 = .ok (.iastore, 1) := by decide +kernel
theorem dX11_keeps_43 : decode cX11_keeps 43 = .ok (.iinc 5 1, 3) := by decide +kernel
theorem dX11_keeps_46 : decode cX11_keeps 46 = .ok (.goto (-43), 3) := by decide +kernel
theorem dX11_keeps_49 : decode cX11_keeps 49 = .ok (.iload_n 3, 1) := by decide +kernel
theorem dX11_keeps_50 : decode cX11_keeps 50 = .ok (.iload_n 2, 1) := by decide +kernel
theorem dX11_keeps_51 : decode cX11_keeps 51 = .ok (.iadd, 1) := by decide +kernel
theorem dX11_keeps_52 : decode cX11_keeps 52 = .ok (.ireturn, 1) := by decide +kernel
theorem dX11_all_0 : decode cX11_all 0 = .ok (.aload_n 0, 1) := by decide +kernel
theorem dX11_all_1 : decode cX11_all 1 = .ok (.aload_n 0, 1) := by decide +kernel
theorem dX11_all_2 : decode cX11_all 2 = .ok (.getfield 20, 3) := by decide +kernel
theorem dX11_all_5 : decode cX11_all 5 = .ok (.bipush 6, 2) := by decide +kernel
theorem dX11_all_7 : decode cX11_all 7 = .ok (.iconst 0, 1) := by decide +kernel
theorem dX11_all_8 : decode cX11_all 8 = .ok (.iload_n 1, 1) := by decide +kernel
theorem dX11_all_9 : decode cX11_all 9 = .ok (.invokevirtual 367, 3) := by decide +kernel
theorem dX11_all_12 : decode cX11_all 12 = .ok (.istore_n 2, 1) := by decide +kernel
theorem dX11_all_13 : decode cX11_all 13 = .ok (.aload_n 0, 1) := by decide +kernel
theorem dX11_all_14 : decode cX11_all 14 = .ok (.aload_n 0, 1) := by decide +kernel
theorem dX11_all_15 : decode cX11_all 15 = .ok (.getfield 23, 3) := by decide +kernel
theorem dX11_all_18 : decode cX11_all 18 = .ok (.bipush 64, 2) := by decide +kernel
theorem dX11_all_20 : decode cX11_all 20 = .ok (.iload_n 2, 1) := by decide +kernel
theorem dX11_all_21 : decode cX11_all 21 = .ok (.iload_n 1, 1) := by decide +kernel
theorem dX11_all_22 : decode cX11_all 22 = .ok (.invokevirtual 367, 3) := by decide +kernel
theorem dX11_all_25 : decode cX11_all 25 = .ok (.istore_n 2, 1) := by decide +kernel
theorem dX11_all_26 : decode cX11_all 26 = .ok (.aload_n 0, 1) := by decide +kernel
theorem dX11_all_27 : decode cX11_all 27 = .ok (.aload_n 0, 1) := by decide +kernel
theorem dX11_all_28 : decode cX11_all 28 = .ok (.getfield 26, 3) := by decide +kernel
theorem dX11_all_31 : decode cX11_all 31 = .ok (.bipush 10, 2) := by decide +kernel
theorem dX11_all_33 : decode cX11_all 33 = .ok (.iload_n 2, 1) := by decide +kernel
theorem dX11_all_34 : decode cX11_all 34 = .ok (.iload_n 1, 1) := by decide +kernel
theorem dX11_all_35 : decode cX11_all 35 = .ok (.invokevirtual 367, 3) := by decide +kernel
theorem dX11_all_38 : decode cX11_all 38 = .ok (.istore_n 2, 1) := by decide +kernel
theorem dX11_all_39 : decode cX11_all 39 = .ok (.aload_n 0, 1) := by decide +kernel
theorem dX11_all_40 : decode cX11_all 40 = .ok (.aload_n 0, 1) := by decide +kernel
theorem dX11_all_41 : decode cX11_all 41 = .ok (.getfield 29, 3) := by decide +kernel
theorem dX11_all_44 : decode cX11_all 44 = .ok (.bipush 12, 2) := by decide +kernel
theorem dX11_all_46 : decode cX11_all 46 = .ok (.iload_n 2, 1) := by decide +kernel
theorem dX11_all_47 : decode cX11_all 47 = .ok (.iload_n 1, 1) := by decide +kernel
theorem dX11_all_48 : decode cX11_all 48 = .ok (.invokevirtual 367, 3) := by decide +kernel
theorem dX11_all_51 : decode cX11_all 51 = .ok (.istore_n 2, 1) := by decide +kernel
theorem dX11_all_52 : decode cX11_all 52 = .ok (.aload_n 0, 1) := by decide +kernel
theorem dX11_all_53 : decode cX11_all 53 = .ok (.aload_n 0, 1) := by decide +kernel
theorem dX11_all_54 : decode cX11_all 54 = .ok (.getfield 32, 3) := by decide +kernel
theorem dX11_all_57 : decode cX11_all 57 = .ok (.bipush 12, 2) := by decide +kernel
theorem dX11_all_59 : decode cX11_all 59 = .ok (.iload_n 2, 1) := by decide +kernel
theorem dX11_all_60 : decode cX11_all 60 = .ok (.iload_n 1, 1) := by decide +kernel
theorem dX11_all_61 : decode cX11_all 61 = .ok (.invokevirtual 367, 3) := by decide +kernel
theorem dX11_all_64 : decode cX11_all 64 = .ok (.istore_n 2, 1) := by decide +kernel
theorem dX11_all_65 : decode cX11_all 65 = .ok (.aload_n 0, 1) := by decide +kernel
theorem dX11_all_66 : decode cX11_all 66 = .ok (.aload_n 0, 1) := by decide +kernel
theorem dX11_all_67 : decode cX11_all 67 = .ok (.getfield 35, 3) := by decide +kernel
theorem dX11_all_70 : decode cX11_all 70 = .ok (.bipush 12, 2) := by decide +kernel
theorem dX11_all_72 : decode cX11_all 72 = .ok (.iload_n 2, 1) := by decide +kernel
theorem dX11_all_73 : decode cX11_all 73 = .ok (.iload_n 1, 1) := by decide +kernel
theorem dX11_all_74 : decode cX11_all 74 = .ok (.invokevirtual 367, 3) := by decide +kernel
theorem dX11_all_77 : decode cX11_all 77 = .ok (.istore_n 2, 1) := by decide +kernel
theorem dX11_all_78 : decode cX11_all 78 = .ok (.aload_n 0, 1) := by decide +kernel
theorem dX11_all_79 : decode cX11_all 79 = .ok (.aload_n 0, 1) := by decide +kernel
theorem dX11_all_80 : decode cX11_all 80 = .ok (.getfield 38, 3) := by decide +kernel
theorem dX11_all_83 : decode cX11_all 83 = .ok (.bipush 12, 2) := by decide +kernel
theorem dX11_all_85 : decode cX11_all 85 = .ok (.iload_n 2, 1) := by decide +kernel
theorem dX11_all_86 : decode cX11_all 86 = .ok (.iload_n 1, 1) := by decide +kernel
theorem dX11_all_87 : decode cX11_all 87 = .ok (.invokevirtual 367, 3) := by decide +kernel
theorem dX11_all_90 : decode cX11_all 90 = .ok (.istore_n 2, 1) := by decide +kernel
theorem dX11_all_91 : decode cX11_all 91 = .ok (.aload_n 0, 1) := by decide +kernel
theorem dX11_all_92 : decode cX11_all 92 = .ok (.aload_n 0, 1) := by decide +kernel
theorem dX11_all_93 : decode cX11_all 93 = .ok (.getfield 41, 3) := by decide +kernel
theorem dX11_all_96 : decode cX11_all 96 = .ok (.bipush 12, 2) := by decide +kernel
theorem dX11_all_98 : decode cX11_all 98 = .ok (.iload_n 2, 1) := by decide +kernel
theorem dX11_all_99 : decode cX11_all 99 = .ok (.iload_n 1, 1) := by decide +kernel
theorem dX11_all_100 : decode cX11_all 100 = .ok (.invokevirtual 367, 3) := by decide +kernel
theorem dX11_all_103 : decode cX11_all 103 = .ok (.istore_n 2, 1) := by decide +kernel
theorem dX11_all_104 : decode cX11_all 104 = .ok (.aload_n 0, 1) := by decide +kernel
theorem dX11_all_105 : decode cX11_all 105 = .ok (.aload_n 0, 1) := by decide +kernel
theorem dX11_all_106 : decode cX11_all 106 = .ok (.getfield 44, 3) := by decide +kernel
theorem dX11_all_109 : decode cX11_all 109 = .ok (.bipush 14, 2) := by decide +kernel
theorem dX11_all_111 : decode cX11_all 111 = .ok (.iload_n 2, 1) := by decide +kernel
theorem dX11_all_112 : decode cX11_all 112 = .ok (.iload_n 1, 1) := by decide +kernel
theorem dX11_all_113 : decode cX11_all 113 = .ok (.invokevirtual 367, 3) := by decide +kernel
theorem dX11_all_116 : decode cX11_all 116 = .ok (.istore_n 2, 1) := by decide +kernel
theorem dX11_all_117 : decode cX11_all 117 = .ok (.aload_n 0, 1) := by decide +kernel
theorem dX11_all_118 : decode cX11_all 118 = .ok (.aload_n 0, 1) := by decide +kernel
theorem dX11_all_119 : decode cX11_all 119 = .ok (.getfield 47, 3) := by decide +kernel
theorem dX11_all_122 : decode cX11_all 122 = .ok (.bipush 14, 2) := by decide +kernel
theorem dX11_all_124 : decode cX11_all 124 = .ok (.iload_n 2, 1) := by decide +kernel
theorem dX11_all_125 : decode cX11_all 125 = .ok (.iload_n 1, 1) := by decide +kernel
theorem dX11_all_126 : decode cX11_all 126 = .ok (.invokevirtual 367, 3) := by decide +kernel
theorem dX11_all_129 : decode cX11_all 129 = .ok (.istore_n 2, 1) := by decide +kernel
theorem dX11_all_130 : decode cX11_all 130 = .ok (.aload_n 0, 1) := by decide +kernel
theorem dX11_all_131 : decode cX11_all 131 = .ok (.aload_n 0, 1) := by decide +kernel
theorem dX11_all_132 : decode cX11_all 132 = .ok (.getfield 50, 3) := by decide +kernel
theorem dX11_all_135 : decode cX11_all 135 = .ok (.bipush 14, 2) := by decide +kernel
theorem dX11_all_137 : decode cX11_all 137 = .ok (.iload_n 2, 1) := by decide +kernel
theorem dX11_all_138 : decode cX11_all 138 = .ok (.iload_n 1, 1) := by decide +kernel
theorem dX11_all_139 : decode cX11_all 139 = .ok (.invokevirtual 367, 3) := by decide +kernel
theorem dX11_all_142 : decode cX11_all 142 = .ok (.istore_n 2, 1) := by decide +kernel
theorem dX11_all_143 : decode cX11_all 143 = .ok (.aload_n 0, 1) := by decide +kernel
theorem dX11_all_144 : decode cX11_all 144 = .ok (.aload_n 0, 1) := by decide +kernel
theorem dX11_all_145 : decode cX11_all 145 = .ok (.getfield 53, 3) := by decide +kernel
theorem dX11_all_148 : decode cX11_all 148 = .ok (.bipush 14, 2) := by decide +kernel
theorem dX11_all_150 : decode cX11_all 150 = .ok (.iload_n 2, 1) := by decide +kernel
theorem dX11_all_151 : decode cX11_all 151 = .ok (.iload_n 1, 1) := by decide +kernel
theorem dX11_all_152 : decode cX11_all 152 = .ok (.invokevirtual 367, 3) := by decide +kernel
theorem dX11_all_155 : decode cX11_all 155 = .ok (.istore_n 2, 1) := by decide +kernel
theorem dX11_all_156 : decode cX11_all 156 = .ok (.aload_n 0, 1) := by decide +kernel
theorem dX11_all_157 : decode cX11_all 157 = .ok (.aload_n 0, 1) := by decide +kernel
theorem dX11_all_158 : decode cX11_all 158 = .ok (.getfield 56, 3) := by decide +kernel
theorem dX11_all_161 : decode cX11_all 161 = .ok (.bipush 14, 2) := by decide +kernel
theorem dX11_all_163 : decode cX11_all 163 = .ok (.iload_n 2, 1) := by decide +kernel
theorem dX11_all_164 : decode cX11_all 164 = .ok (.iload_n 1, 1) := by decide +kernel
theorem dX11_all_165 : decode cX11_all 165 = .ok (.invokevirtual 367, 3) := by decide +kernel
theorem dX11_all_168 : decode cX11_all 168 = .ok (.istore_n 2, 1) := by decide +kernel
theorem dX11_all_169 : decode cX11_all 169 = .ok (.aload_n 0, 1) := by decide +kernel
theorem dX11_all_170 : decode cX11_all 170 = .ok (.aload_n 0, 1) := by decide +kernel
theorem dX11_all_171 : decode cX11_all 171 = .ok (.getfield 59, 3) := by decide +kernel
theorem dX11_all_174 : decode cX11_all 174 = .ok (.bipush 14, 2) := by decide +kernel
theorem dX11_all_176 : decode cX11_all 176 = .ok (.iload_n 2, 1) := by decide +kernel
theorem dX11_all_177 : decode cX11_all 177 = .ok (.iload_n 1, 1) := by decide +kernel
theorem dX11_all_178 : decode cX11_all 178 = .ok (.invokevirtual 367, 3) := by decide +kernel
theorem dX11_all_181 : decode cX11_all 181 = .ok (.istore_n 2, 1) := by decide +kernel
theorem dX11_all_182 : decode cX11_all 182 = .ok (.aload_n 0, 1) := by decide +kernel
theorem dX11_all_183 : decode cX11_all 183 = .ok (.aload_n 0, 1) := by decide +kernel
theorem dX11_all_184 : decode cX11_all 184 = .ok (.getfield 62, 3) := by decide +kernel
theorem dX11_all_187 : decode cX11_all 187 = .ok (.bipush 14, 2) := by decide +kernel
theorem dX11_all_189 : decode cX11_all 189 = .ok (.iload_n 2, 1) := by decide +kernel
theorem dX11_all_190 : decode cX11_all 190 = .ok (.iload_n 1, 1) := by decide +kernel
theorem dX11_all_191 : decode cX11_all 191 = .ok (.invokevirtual 367, 3) := by decide +kernel
theorem dX11_all_194 : decode cX11_all 194 = .ok (.istore_n 2, 1) := by decide +kernel
theorem dX11_all_195 : decode cX11_all 195 = .ok (.aload_n 0, 1) := by decide +kernel
theorem dX11_all_196 : decode cX11_all 196 = .ok (.aload_n 0, 1) := by decide +kernel
theorem dX11_all_197 : decode cX11_all 197 = .ok (.getfield 65, 3) := by decide +kernel
theorem dX11_all_200 : decode cX11_all 200 = .ok (.bipush 14, 2) := by decide +kernel
theorem dX11_all_202 : decode cX11_all 202 = .ok (.iload_n 2, 1) := by decide +kernel
theorem dX11_all_203 : decode cX11_all 203 = .ok (.iload_n 1, 1) := by decide +kernel
theorem dX11_all_204 : decode cX11_all 204 = .ok (.invokevirtual 367, 3) := by decide +kernel
theorem dX11_all_207 : decode cX11_all 207 = .ok (.istore_n 2, 1) := by decide +kernel
theorem dX11_all_208 : decode cX11_all 208 = .ok (.aload_n 0, 1) := by decide +kernel
theorem dX11_all_209 : decode cX11_all 209 = .ok (.aload_n 0, 1) := by decide +kernel
theorem dX11_all_210 : decode cX11_all 210 = .ok (.getfield 68, 3) := by decide +kernel
theorem dX11_all_213 : decode cX11_all 213 = .ok (.bipush 60, 2) := by decide +kernel
theorem dX11_all_215 : decode cX11_all 215 = .ok (.iload_n 2, 1) := by decide +kernel
theorem dX11_all_216 : decode cX11_all 216 = .ok (.iload_n 1, 1) := by decide +kernel
theorem dX11_all_217 : decode cX11_all 217 = .ok (.invokevirtual 367, 3) := by decide +kernel
theorem dX11_all_220 : decode cX11_all 220 = .ok (.istore_n 2, 1) := by decide +kernel
theorem dX11_all_221 : decode cX11_all 221 = .ok (.aload_n 0, 1) := by decide +kernel
theorem dX11_all_222 : decode cX11_all 222 = .ok (.aload_n 0, 1) := by decide +kernel
theorem dX11_all_223 : decode cX11_all 223 = .ok (.getfield 71, 3) := by decide +kernel
theorem dX11_all_226 : decode cX11_all 226 = .ok (.bipush 60, 2) := by decide +kernel
theorem dX11_all_228 : decode cX11_all 228 = .ok (.iload_n 2, 1) := by decide +kernel
theorem dX11_all_229 : decode cX11_all 229 = .ok (.iload_n 1, 1) := by decide +kernel
theorem dX11_all_230 : decode cX11_all 230 = .ok (.invokevirtual 367, 3) := by decide +kernel
theorem dX11_all_233 : decode cX11_all 233 = .ok (.istore_n 2, 1) := by decide +kernel
theorem dX11_all_234 : decode cX11_all 234 = .ok (.aload_n 0, 1) := by decide +kernel
theorem dX11_all_235 : decode cX11_all 235 = .ok (.aload_n 0, 1) := by decide +kernel
theorem dX11_all_236 : decode cX11_all 236 = .ok (.getfield 74, 3) := by decide +kernel
theorem dX11_all_239 : decode cX11_all 239 = .ok (.bipush 60, 2) := by decide +kernel
theorem dX11_all_241 : decode cX11_all 241 = .ok (.iload_n 2, 1) := by decide +kernel
theorem dX11_all_242 : decode cX11_all 242 = .ok (.iload_n 1, 1) := by decide +kernel
theorem dX11_all_243 : decode cX11_all 243 = .ok (.invokevirtual 367, 3) := by decide +kernel
theorem dX11_all_246 : decode cX11_all 246 = .ok (.istore_n 2, 1) := by decide +kernel
theorem dX11_all_247 : decode cX11_all 247 = .ok (.aload_n 0, 1) := by decide +kernel
theorem dX11_all_248 : decode cX11_all 248 = .ok (.aload_n 0, 1) := by decide +kernel
theorem dX11_all_249 : decode cX11_all 249 = .ok (.getfield 77, 3) := by decide +kernel
theorem dX11_all_252 : decode cX11_all 252 = .ok (.bipush 60, 2) := by decide +kernel
theorem dX11_all_254 : decode cX11_all 254 = .ok (.iload_n 2, 1) := by decide +kernel
theorem dX11_all_255 : decode cX11_all 255 = .ok (.iload_n 1, 1) := by decide +kernel
theorem dX11_all_256 : decode cX11_all 256 = .ok (.invokevirtual 367, 3) := by decide +kernel
theorem dX11_all_259 : decode cX11_all 259 = .ok (.istore_n 2, 1) := by decide +kernel
theorem dX11_all_260 : decode cX11_all 260 = .ok (.aload_n 0, 1) := by decide +kernel
theorem dX11_all_261 : decode cX11_all 261 = .ok (.aload_n 0, 1) := by decide +kernel
theorem dX11_all_262 : decode cX11_all 262 = .ok (.getfield 80, 3) := by decide +kernel
theorem dX11_all_265 : decode cX11_all 265 = .ok (.bipush 60, 2) := by decide +kernel
theorem dX11_all_267 : decode cX11_all 267 = .ok (.iload_n 2, 1) := by decide +kernel
theorem dX11_all_268 : decode cX11_all 268 = .ok (.iload_n 1, 1) := by decide +kernel
theorem dX11_all_269 : decode cX11_all 269 = .ok (.invokevirtual 367, 3) := by decide +kernel
theorem dX11_all_272 : decode cX11_all 272 = .ok (.istore_n 2, 1) := by decide +kernel
theorem dX11_all_273 : decode cX11_all 273 = .ok (.aload_n 0, 1) := by decide +kernel
theorem dX11_all_274 : decode cX11_all 274 = .ok (.aload_n 0, 1) := by decide +kernel
theorem dX11_all_275 : decode cX11_all 275 = .ok (.getfield 83, 3) := by decide +kernel
theorem dX11_all_278 : decode cX11_all 278 = .ok (.bipush 20, 2) := by decide +kernel
theorem dX11_all_280 : decode cX11_all 280 = .ok (.iload_n 2, 1) := by decide +kernel
theorem dX11_all_281 : decode cX11_all 281 = .ok (.iload_n 1, 1) := by decide +kernel
theorem dX11_all_282 : decode cX11_all 282 = .ok (.invokevirtual 367, 3) := by decide +kernel
theorem dX11_all_285 : decode cX11_all 285 = .ok (.istore_n 2, 1) := by decide +kernel
theorem dX11_all_286 : decode cX11_all 286 = .ok (.aload_n 0, 1) := by decide +kernel
theorem dX11_all_287 : decode cX11_all 287 = .ok (.aload_n 0, 1) := by decide +kernel
theorem dX11_all_288 : decode cX11_all 288 = .ok (.getfield 86, 3) := by decide +kernel
theorem dX11_all_291 : decode cX11_all 291 = .ok (.bipush 20, 2) := by decide +kernel
theorem dX11_all_293 : decode cX11_all 293 = .ok (.iload_n 2, 1) := by decide +kernel
theorem dX11_all_294 : decode cX11_all 294 = .ok (.iload_n 1, 1) := by decide +kernel
theorem dX11_all_295 : decode cX11_all 295 = .ok (.invokevirtual 367, 3) := by decide +kernel
theorem dX11_all_298 : decode cX11_all 298 = .ok (.istore_n 2, 1) := by decide +kernel
theorem dX11_all_299 : decode cX11_all 299 = .ok (.aload_n 0, 1) := by decide +kernel
theorem dX11_all_300 : decode cX11_all 300 = .ok (.aload_n 0, 1) := by decide +kernel
theorem dX11_all_301 : decode cX11_all 301 = .ok (.getfield 89, 3) := by decide +kernel
theorem dX11_all_304 : decode cX11_all 304 = .ok (.bipush 20, 2) := by decide +kernel
theorem dX11_all_306 : decode cX11_all 306 = .ok (.iload_n 2, 1) := by decide +kernel
theorem dX11_all_307 : decode cX11_all 307 = .ok (.iload_n 1, 1) := by decide +kernel
theorem dX11_all_308 : decode cX11_all 308 = .ok (.invokevirtual 367, 3) := by decide +kernel
theorem dX11_all_311 : decode cX11_all 311 = .ok (.istore_n 2, 1) := by decide +kernel
theorem dX11_all_312 : decode cX11_all 312 = .ok (.aload_n 0, 1) := by decide +kernel
theorem dX11_all_313 : decode cX11_all 313 = .ok (.aload_n 0, 1) := by decide +kernel
theorem dX11_all_314 : decode cX11_all 314 = .ok (.getfield 92, 3) := by decide +kernel
theorem dX11_all_317 : decode cX11_all 317 = .ok (.bipush 30, 2) := by decide +kernel
theorem dX11_all_319 : decode cX11_all 319 = .ok (.iload_n 2, 1) := by decide +kernel
theorem dX11_all_320 : decode cX11_all 320 = .ok (.iload_n 1, 1) := by decide +kernel
theorem dX11_all_321 : decode cX11_all 321 = .ok (.invokevirtual 367, 3) := by decide +kernel
theorem dX11_all_324 : decode cX11_all 324 = .ok (.istore_n 2, 1) := by decide +kernel
theorem dX11_all_325 : decode cX11_all 325 = .ok (.aload_n 0, 1) := by decide +kernel
theorem dX11_all_326 : decode cX11_all 326 = .ok (.aload_n 0, 1) := by decide +kernel
theorem dX11_all_327 : decode cX11_all 327 = .ok (.getfield 95, 3) := by decide +kernel
theorem dX11_all_330 : decode cX11_all 330 = .ok (.bipush 30, 2) := by decide +kernel
theorem dX11_all_332 : decode cX11_all 332 = .ok (.iload_n 2, 1) := by decide +kernel
theorem dX11_all_333 : decode cX11_all 333 = .ok (.iload_n 1, 1) := by decide +kernel
theorem dX11_all_334 : decode cX11_all 334 = .ok (.invokevirtual 367, 3) := by decide +kernel
theorem dX11_all_337 : decode cX11_all 337 = .ok (.istore_n 2, 1) := by decide +kernel
theorem dX11_all_338 : decode cX11_all 338 = .ok (.aload_n 0, 1) := by decide +kernel
theorem dX11_all_339 : decode cX11_all 339 = .ok (.aload_n 0, 1) := by decide +kernel
theorem dX11_all_340 : decode cX11_all 340 = .ok (.getfield 98, 3) := by decide +kernel
theorem dX11_all_343 : decode cX11_all 343 = .ok (.bipush 30, 2) := by decide +kernel
theorem dX11_all_345 : decode cX11_all 345 = .ok (.iload_n 2, 1) := by decide +kernel
theorem dX11_all_346 : decode cX11_all 346 = .ok (.iload_n 1, 1) := by decide +kernel
theorem dX11_all_347 : decode cX11_all 347 = .ok (.invokevirtual 367, 3) := by decide +kernel
theorem dX11_all_350 : decode cX11_all 350 = .ok (.istore_n 2, 1) := by decide +kernel
theorem dX11_all_351 : decode cX11_all 351 = .ok (.aload_n 0, 1) := by decide +kernel
theorem dX11_all_352 : decode cX11_all 352 = .ok (.aload_n 0, 1) := by decide +kernel
theorem dX11_all_353 : decode cX11_all 353 = .ok (.getfield 101, 3) := by decide +kernel
theorem dX11_all_356 : decode cX11_all 356 = .ok (.bipush 8, 2) := by decide +kernel
theorem dX11_all_358 : decode cX11_all 358 = .ok (.iload_n 2, 1) := by decide +kernel
theorem dX11_all_359 : decode cX11_all 359 = .ok (.iload_n 1, 1) := by decide +kernel
theorem dX11_all_360 : decode cX11_all 360 = .ok (.invokevirtual 367, 3) := by decide +kernel
theorem dX11_all_363 : decode cX11_all 363 = .ok (.istore_n 2, 1) := by decide +kernel
theorem dX11_all_364 : decode cX11_all 364 = .ok (.aload_n 0, 1) := by decide +kernel
theorem dX11_all_365 : decode cX11_all 365 = .ok (.aload_n 0, 1) := by decide +kernel
theorem dX11_all_366 : decode cX11_all 366 = .ok (.getfield 104, 3) := by decide +kernel
theorem dX11_all_369 : decode cX11_all 369 = .ok (.bipush 64, 2) := by decide +kernel
theorem dX11_all_371 : decode cX11_all 371 = .ok (.iload_n 2, 1) := by decide +kernel
theorem dX11_all_372 : decode cX11_all 372 = .ok (.iload_n 1, 1) := by decide +kernel
theorem dX11_all_373 : decode cX11_all 373 = .ok (.invokevirtual 367, 3) := by decide +kernel
theorem dX11_all_376 : decode cX11_all 376 = .ok (.istore_n 2, 1) := by decide +kernel
theorem dX11_all_377 : decode cX11_all 377 = .ok (.aload_n 0, 1) := by decide +kernel
theorem dX11_all_378 : decode cX11_all 378 = .ok (.aload_n 0, 1) := by decide +kernel
theorem dX11_all_379 : decode cX11_all 379 = .ok (.getfield 107, 3) := by decide +kernel
theorem dX11_all_382 : decode cX11_all 382 = .ok (.bipush 64, 2) := by decide +kernel
theorem dX11_all_384 : decode cX11_all 384 = .ok (.iload_n 2, 1) := by decide +kernel
theorem dX11_all_385 : decode cX11_all 385 = .ok (.iload_n 1, 1) := by decide +kernel
theorem dX11_all_386 : decode cX11_all 386 = .ok (.invokevirtual 367, 3) := by decide +kernel
theorem dX11_all_389 : decode cX11_all 389 = .ok (.istore_n 2, 1) := by decide +kernel
theorem dX11_all_390 : decode cX11_all 390 = .ok (.aload_n 0, 1) := by decide +kernel
theorem dX11_all_391 : decode cX11_all 391 = .ok (.aload_n 0, 1) := by decide +kernel
theorem dX11_all_392 : decode cX11_all 392 = .ok (.getfield 110, 3) := by decide +kernel
theorem dX11_all_395 : decode cX11_all 395 = .ok (.bipush 64, 2) := by decide +kernel
theorem dX11_all_397 : decode cX11_all 397 = .ok (.iload_n 2, 1) := by decide +kernel
theorem dX11_all_398 : decode cX11_all 398 = .ok (.iload_n 1, 1) := by decide +kernel
theorem dX11_all_399 : decode cX11_all 399 = .ok (.invokevirtual 367, 3) := by decide +kernel
theorem dX11_all_402 : decode cX11_all 402 = .ok (.istore_n 2, 1) := by decide +kernel
theorem dX11_all_403 : decode cX11_all 403 = .ok (.aload_n 0, 1) := by decide +kernel
theorem dX11_all_404 : decode cX11_all 404 = .ok (.aload_n 0, 1) := by decide +kernel
theorem dX11_all_405 : decode cX11_all 405 = .ok (.getfield 113, 3) := by decide +kernel
theorem dX11_all_408 : decode cX11_all 408 = .ok (.bipush 64, 2) := by decide +kernel
theorem dX11_all_410 : decode cX11_all 410 = .ok (.iload_n 2, 1) := by decide +kernel
theorem dX11_all_411 : decode cX11_all 411 = .ok (.iload_n 1, 1) := by decide +kernel
theorem dX11_all_412 : decode cX11_all 412 = .ok (.invokevirtual 367, 3) := by decide +kernel
theorem dX11_all_415 : decode cX11_all 415 = .ok (.istore_n 2, 1) := by decide +kernel
theorem dX11_all_416 : decode cX11_all 416 = .ok (.aload_n 0, 1) := by decide +kernel
theorem dX11_all_417 : decode cX11_all 417 = .ok (.aload_n 0, 1) := by decide +kernel
theorem dX11_all_418 : decode cX11_all 418 = .ok (.getfield 116, 3) := by decide +kernel
theorem dX11_all_421 : decode cX11_all 421 = .ok (.bipush 64, 2) := by decide +kernel
theorem dX11_all_423 : decode cX11_all 423 = .ok (.iload_n 2, 1) := by decide +kernel
theorem dX11_all_424 : decode cX11_all 424 = .ok (.iload_n 1, 1) := by decide +kernel
theorem dX11_all_425 : decode cX11_all 425 = .ok (.invokevirtual 367, 3) := by decide +kernel
theorem dX11_all_428 : decode cX11_all 428 = .ok (.pop, 1) := by decide +kernel
theorem dX11_all_429 : decode cX11_all 429 = .ok (.return_, 1) := by decide +kernel
theorem dX11_image_0 : decode cX11_image 0 = .ok (.aload_n 0, 1) := by decide +kernel
theorem dX11_image_1 : decode cX11_image 1 = .ok (.aload_n 0, 1) := by decide +kernel
theorem dX11_image_2 : decode cX11_image 2 = .ok (.getfield 200, 3) := by decide +kernel
theorem dX11_image_5 : decode cX11_image 5 = .ok (.putfield 165, 3) := by decide +kernel
theorem dX11_image_8 : decode cX11_image 8 = .ok (.aload_n 0, 1) := by decide +kernel
theorem dX11_image_9 : decode cX11_image 9 = .ok (.aload_n 0, 1) := by decide +kernel
theorem dX11_image_10 : decode cX11_image 10 = .ok (.getfield 171, 3) := by decide +kernel
theorem dX11_image_13 : decode cX11_image 13 = .ok (.putfield 371, 3) := by decide +kernel
theorem dX11_image_16 : decode cX11_image 16 = .ok (.aload_n 0, 1) := by decide +kernel
theorem dX11_image_17 : decode cX11_image 17 = .ok (.aload_n 0, 1) := by decide +kernel
theorem dX11_image_18 : decode cX11_image 18 = .ok (.getfield 174, 3) := by decide +kernel
theorem dX11_image_21 : decode cX11_image 21 = .ok (.putfield 374, 3) := by decide +kernel
theorem dX11_image_24 : decode cX11_image 24 = .ok (.aload_n 0, 1) := by decide +kernel
theorem dX11_image_25 : decode cX11_image 25 = .ok (.aload_n 0, 1) := by decide +kernel
theorem dX11_image_26 : decode cX11_image 26 = .ok (.getfield 303, 3) := by decide +kernel
theorem dX11_image_29 : decode cX11_image 29 = .ok (.putfield 377, 3) := by decide +kernel
theorem dX11_image_32 : decode cX11_image 32 = .ok (.aload_n 0, 1) := by decide +kernel
theorem dX11_image_33 : decode cX11_image 33 = .ok (.aload_n 0, 1) := by decide +kernel
theorem dX11_image_34 : decode cX11_image 34 = .ok (.getfield 316, 3) := by decide +kernel
theorem dX11_image_37 : decode cX11_image 37 = .ok (.putfield 380, 3) := by decide +kernel
theorem dX11_image_40 : decode cX11_image 40 = .ok (.aload_n 0, 1) := by decide +kernel
theorem dX11_image_41 : decode cX11_image 41 = .ok (.aload_n 0, 1) := by decide +kernel
theorem dX11_image_42 : decode cX11_image 42 = .ok (.getfield 319, 3) := by decide +kernel
theorem dX11_image_45 : decode cX11_image 45 = .ok (.putfield 383, 3) := by decide +kernel
theorem dX11_image_48 : decode cX11_image 48 = .ok (.aload_n 0, 1) := by decide +kernel
theorem dX11_image_49 : decode cX11_image 49 = .ok (.aload_n 0, 1) := by decide +kernel
theorem dX11_image_50 : decode cX11_image 50 = .ok (.getfield 257, 3) := by decide +kernel
theorem dX11_image_53 : decode cX11_image 53 = .ok (.putfield 386, 3) := by decide +kernel
theorem dX11_image_56 : decode cX11_image 56 = .ok (.aload_n 0, 1) := by decide +kernel
theorem dX11_image_57 : decode cX11_image 57 = .ok (.aload_n 0, 1) := by decide +kernel
theorem dX11_image_58 : decode cX11_image 58 = .ok (.getfield 9, 3) := by decide +kernel
theorem dX11_image_61 : decode cX11_image 61 = .ok (.putfield 389, 3) := by decide +kernel
theorem dX11_image_64 : decode cX11_image 64 = .ok (.aload_n 0, 1) := by decide +kernel
theorem dX11_image_65 : decode cX11_image 65 = .ok (.aload_n 0, 1) := by decide +kernel
theorem dX11_image_66 : decode cX11_image 66 = .ok (.getfield 306, 3) := by decide +kernel
theorem dX11_image_69 : decode cX11_image 69 = .ok (.putfield 392, 3) := by decide +kernel
theorem dX11_image_72 : decode cX11_image 72 = .ok (.aload_n 0, 1) := by decide +kernel
theorem dX11_image_73 : decode cX11_image 73 = .ok (.iconst 0, 1) := by decide +kernel
theorem dX11_image_74 : decode cX11_image 74 = .ok (.invokevirtual 395, 3) := by decide +kernel
theorem dX11_image_77 : decode cX11_image 77 = .ok (.aload_n 0, 1) := by decide +kernel
theorem dX11_image_78 : decode cX11_image 78 = .ok (.getfield 200, 3) := by decide +kernel
theorem dX11_image_81 : decode cX11_image 81 = .ok (.ireturn, 1) := by decide +kernel
theorem dX11_restore_0 : decode cX11_restore 0 = .ok (.aload_n 0, 1) := by decide +kernel
theorem dX11_restore_1 : decode cX11_restore 1 = .ok (.getfield 165, 3) := by decide +kernel
theorem dX11_restore_4 : decode cX11_restore 4 = .ok (.iconst (-1), 1) := by decide +kernel
theorem dX11_restore_5 : decode cX11_restore 5 = .ok (.if_icmp .ne 10, 3) := by decide +kernel
theorem dX11_restore_8 : decode cX11_restore 8 = .ok (.aload_n 0, 1) := by decide +kernel
theorem dX11_restore_9 : decode cX11_restore 9 = .ok (.bipush (-6), 2) := by decide +kernel
theorem dX11_restore_11 : decode cX11_restore 11 = .ok (.invokevirtual 184, 3) := by decide +kernel
theorem dX11_restore_14 : decode cX11_restore 14 = .ok (.ireturn, 1) := by decide +kernel
theorem dX11_restore_15 : decode cX11_restore 15 = .ok (.aload_n 0, 1) := by decide +kernel
theorem dX11_restore_16 : decode cX11_restore 16 = .ok (.aload_n 0, 1) := by decide +kernel
theorem dX11_restore_17 : decode cX11_restore 17 = .ok (.getfield 165, 3) := by decide +kernel
theorem dX11_restore_20 : decode cX11_restore 20 = .ok (.putfield 200, 3) := by decide +kernel
theorem dX11_restore_23 : decode cX11_restore 23 = .ok (.aload_n 0, 1) := by decide +kernel
theorem dX11_restore_24 : decode cX11_restore 24 = .ok (.aload_n 0, 1) := by decide +kernel
theorem dX11_restore_25 : decode cX11_restore 25 = .ok (.getfield 371, 3) := by decide +kernel
theorem dX11_restore_28 : decode cX11_restore 28 = .ok (.putfield 171, 3) := by decide +kernel
theorem dX11_restore_31 : decode cX11_restore 31 = .ok (.aload_n 0, 1) := by decide +kernel
theorem dX11_restore_32 : decode cX11_restore 32 = .ok (.aload_n 0, 1) := by decide +kernel
theorem dX11_restore_33 : decode cX11_restore 33 = .ok (.getfield 374, 3) := by decide +kernel
theorem dX11_restore_36 : decode cX11_restore 36 = .ok (.putfield 174, 3) := by decide +kernel
theorem dX11_restore_39 : decode cX11_restore 39 = .ok (.aload_n 0, 1) := by decide +kernel
theorem dX11_restore_40 : decode cX11_restore 40 = .ok (.aload_n 0, 1) := by decide +kernel
theorem dX11_restore_41 : decode cX11_restore 41 = .ok (.getfield 377, 3) := by decide +kernel
theorem dX11_restore_44 : decode cX11_restore 44 = .ok (.putfield 303, 3) := by decide +kernel
theorem dX11_restore_47 : decode cX11_restore 47 = .ok (.aload_n 0, 1) := by decide +kernel
theorem dX11_restore_48 : decode cX11_restore 48 = .ok (.aload_n 0, 1) := by decide +kernel
theorem dX11_restore_49 : decode cX11_restore 49 = .ok (.getfield 380, 3) := by decide +kernel
theorem dX11_restore_52 : decode cX11_restore 52 = .ok (.putfield 316, 3) := by decide +kernel
theorem dX11_restore_55 : decode cX11_restore 55 = .ok (.aload_n 0, 1) := by decide +kernel
theorem dX11_restore_56 : decode cX11_restore 56 = .ok (.aload_n 0, 1) := by decide +kernel
theorem dX11_restore_57 : decode cX11_restore 57 = .ok (.getfield 383, 3) := by decide +kernel
theorem dX11_restore_60 : decode cX11_restore 60 = .ok (.putfield 319, 3) := by decide +kernel
theorem dX11_restore_63 : decode cX11_restore 63 = .ok (.aload_n 0, 1) := by decide +kernel
theorem dX11_restore_64 : decode cX11_restore 64 = .ok (.aload_n 0, 1) := by decide +kernel
theorem dX11_restore_65 : decode cX11_restore 65 = .ok (.getfield 386, 3) := by decide +kernel
theorem dX11_restore_68 : decode cX11_restore 68 = .ok (.putfield 257, 3) := by decide +kernel
theorem dX11_restore_71 : decode cX11_restore 71 = .ok (.aload_n 0, 1) := by decide +kernel
theorem dX11_restore_72 : decode cX11_restore 72 = .ok (.aload_n 0, 1) := by decide +kernel
theorem dX11_restore_73 : decode cX11_restore 73 = .ok (.getfield 389, 3) := by decide +kernel
theorem dX11_restore_76 : decode cX11_restore 76 = .ok (.putfield 9, 3) := by decide +kernel
theorem dX11_restore_79 : decode cX11_restore 79 = .ok (.aload_n 0, 1) := by decide +kernel
theorem dX11_restore_80 : decode cX11_restore 80 = .ok (.aload_n 0, 1) := by decide +kernel
theorem dX11_restore_81 : decode cX11_restore 81 = .ok (.getfield 392, 3) := by decide +kernel
theorem dX11_restore_84 : decode cX11_restore 84 = .ok (.putfield 306, 3) := by decide +kernel
theorem dX11_restore_87 : decode cX11_restore 87 = .ok (.aload_n 0, 1) := by decide +kernel
theorem dX11_restore_88 : decode cX11_restore 88 = .ok (.iconst 1, 1) := by decide +kernel
theorem dX11_restore_89 : decode cX11_restore 89 = .ok (.invokevirtual 395, 3) := by decide +kernel
theorem dX11_restore_92 : decode cX11_restore 92 = .ok (.iconst 0, 1) := by decide +kernel
theorem dX11_restore_93 : decode cX11_restore 93 = .ok (.istore_n 1, 1) := by decide +kernel
theorem dX11_restore_94 : decode cX11_restore 94 = .ok (.iload_n 1, 1) := by decide +kernel
theorem dX11_restore_95 : decode cX11_restore 95 = .ok (.bipush 8, 2) := by decide +kernel
theorem dX11_restore_97 : decode cX11_restore 97 = .ok (.if_icmp .ge 39, 3) := by decide +kernel
theorem dX11_restore_100 : decode cX11_restore 100 = .ok (.aload_n 0, 1) := by decide +kernel
theorem dX11_restore_101 : decode cX11_restore 101 = .ok (.getfield 119, 3) := by decide +kernel
theorem dX11_restore_104 : decode cX11_restore 104 = .ok (.iload_n 1, 1) := by decide +kernel
theorem dX11_restore_105 : decode cX11_restore 105 = .ok (.iaload, 1) := by decide +kernel
theorem dX11_restore_106 : decode cX11_restore 106 = .ok (.iconst 2, 1) := by decide +kernel
theorem dX11_restore_107 : decode cX11_restore 107 = .ok (.if_icmp .ne 23, 3) := by decide +kernel
theorem dX11_restore_110 : decode cX11_restore 110 = .ok (.aload_n 0, 1) := by decide +kernel
theorem dX11_restore_111 : decode cX11_restore 111 = .ok (.getfield 128, 3) := by decide +kernel
theorem dX11_restore_114 : decode cX11_restore 114 = .ok (.iload_n 1, 1) := by decide +kernel
theorem dX11_restore_115 : decode cX11_restore 115 = .ok (.iaload, 1) := by decide +kernel
theorem dX11_restore_116 : decode cX11_restore 116 = .ok (.aload_n 0, 1) := by decide +kernel
theorem dX11_restore_117 : decode cX11_restore 117 = .ok (.getfield 174, 3) := by decide +kernel
theorem dX11_restore_120 : decode cX11_restore 120 = .ok (.if_icmp .lt 10, 3) := by decide +kernel
theorem dX11_restore_123 : decode cX11_restore 123 = .ok (.aload_n 0, 1) := by decide +kernel
theorem dX11_restore_124 : decode cX11_restore 124 = .ok (.getfield 119, 3) := by decide +kernel
theorem dX11_restore_127 : decode cX11_restore 127 = .ok (.iload_n 1, 1) := by decide +kernel
theorem dX11_restore_128 : decode cX11_restore 128 = .ok (.iconst 0, 1) := by decide +kernel
theorem dX11_restore_129 : decode cX11_restore 129 = .ok (.iastore, 1) := by decide +kernel
theorem dX11_restore_130 : decode cX11_restore 130 = .ok (.iinc 1 1, 3) := by decide +kernel
theorem dX11_restore_133 : decode cX11_restore 133 = .ok (.goto (-39), 3) := by decide +kernel
theorem dX11_restore_136 : decode cX11_restore 136 = .ok (.aload_n 0, 1) := by decide +kernel
theorem dX11_restore_137 : decode cX11_restore 137 = .ok (.getfield 200, 3) := by decide +kernel
theorem dX11_restore_140 : decode cX11_restore 140 = .ok (.ireturn, 1) := by decide +kernel
theorem dX11_status_0 : decode cX11_status 0 = .ok (.iload_n 1, 1) := by decide +kernel
theorem dX11_status_1 : decode cX11_status 1 = .ok (.bipush 11, 2) := by decide +kernel
theorem dX11_status_3 : decode cX11_status 3 = .ok (.if_icmp .lt 19, 3) := by decide +kernel
theorem dX11_status_6 : decode cX11_status 6 = .ok (.iload_n 1, 1) := by decide +kernel
theorem dX11_status_7 : decode cX11_status 7 = .ok (.bipush 17, 2) := by decide +kernel
theorem dX11_status_9 : decode cX11_status 9 = .ok (.if_icmp .gt 13, 3) := by decide +kernel
theorem dX11_status_12 : decode cX11_status 12 = .ok (.aload_n 0, 1) := by decide +kernel
theorem dX11_status_13 : decode cX11_status 13 = .ok (.getfield 16, 3) := by decide +kernel
theorem dX11_status_16 : decode cX11_status 16 = .ok (.iload_n 1, 1) := by decide +kernel
theorem dX11_status_17 : decode cX11_status 17 = .ok (.bipush 10, 2) := by decide +kernel
theorem dX11_status_19 : decode cX11_status 19 = .ok (.isub, 1) := by decide +kernel
theorem dX11_status_20 : decode cX11_status 20 = .ok (.iaload, 1) := by decide +kernel
theorem dX11_status_21 : decode cX11_status 21 = .ok (.ireturn, 1) := by decide +kernel
theorem dX11_status_22 : decode cX11_status 22 = .ok (.iload_n 1, 1) := by decide +kernel
theorem dX11_status_23 : decode cX11_status 23 = .ok (.tableswitch 85 0 7 #[45, 50, 55, 60, 65, 70, 75, 80], 45) := by decide +kernel
theorem dX11_status_68 : decode cX11_status 68 = .ok (.aload_n 0, 1) := by decide +kernel
theorem dX11_status_69 : decode cX11_status 69 = .ok (.getfield 174, 3) := by decide +kernel
theorem dX11_status_72 : decode cX11_status 72 = .ok (.ireturn, 1) := by decide +kernel
theorem dX11_status_73 : decode cX11_status 73 = .ok (.aload_n 0, 1) := by decide +kernel
theorem dX11_status_74 : decode cX11_status 74 = .ok (.getfield 171, 3) := by decide +kernel
theorem dX11_status_77 : decode cX11_status 77 = .ok (.ireturn, 1) := by decide +kernel
theorem dX11_status_78 : decode cX11_status 78 = .ok (.aload_n 0, 1) := by decide +kernel
theorem dX11_status_79 : decode cX11_status 79 = .ok (.getfield 303, 3) := by decide +kernel
theorem dX11_status_82 : decode cX11_status 82 = .ok (.ireturn, 1) := by decide +kernel
theorem dX11_status_83 : decode cX11_status 83 = .ok (.aload_n 0, 1) := by decide +kernel
theorem dX11_status_84 : decode cX11_status 84 = .ok (.getfield 316, 3) := by decide +kernel
theorem dX11_status_87 : decode cX11_status 87 = .ok (.ireturn, 1) := by decide +kernel
theorem dX11_status_88 : decode cX11_status 88 = .ok (.aload_n 0, 1) := by decide +kernel
theorem dX11_status_89 : decode cX11_status 89 = .ok (.getfield 319, 3) := by decide +kernel
theorem dX11_status_92 : decode cX11_status 92 = .ok (.ireturn, 1) := by decide +kernel
theorem dX11_status_93 : decode cX11_status 93 = .ok (.aload_n 0, 1) := by decide +kernel
theorem dX11_status_94 : decode cX11_status 94 = .ok (.getfield 257, 3) := by decide +kernel
theorem dX11_status_97 : decode cX11_status 97 = .ok (.ireturn, 1) := by decide +kernel
theorem dX11_status_98 : decode cX11_status 98 = .ok (.aload_n 0, 1) := by decide +kernel
theorem dX11_status_99 : decode cX11_status 99 = .ok (.getfield 200, 3) := by decide +kernel
theorem dX11_status_102 : decode cX11_status 102 = .ok (.ireturn, 1) := by decide +kernel
theorem dX11_status_103 : decode cX11_status 103 = .ok (.aload_n 0, 1) := by decide +kernel
theorem dX11_status_104 : decode cX11_status 104 = .ok (.getfield 351, 3) := by decide +kernel
theorem dX11_status_107 : decode cX11_status 107 = .ok (.ireturn, 1) := by decide +kernel
theorem dX11_status_108 : decode cX11_status 108 = .ok (.iconst (-1), 1) := by decide +kernel
theorem dX11_status_109 : decode cX11_status 109 = .ok (.ireturn, 1) := by decide +kernel
