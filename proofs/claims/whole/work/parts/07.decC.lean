theorem dX12_init_0 : decode cX12_init 0 = .ok (.aload_n 0, 1) := by decide +kernel
theorem dX12_init_1 : decode cX12_init 1 = .ok (.invokespecial 1, 3) := by decide +kernel
theorem dX12_init_4 : decode cX12_init 4 = .ok (.aload_n 0, 1) := by decide +kernel
theorem dX12_init_5 : decode cX12_init 5 = .ok (.iconst 5, 1) := by decide +kernel
theorem dX12_init_6 : decode cX12_init 6 = .ok (.anewarray 7, 3) := by decide +kernel
theorem dX12_init_9 : decode cX12_init 9 = .ok (.dup, 1) := by decide +kernel
theorem dX12_init_10 : decode cX12_init 10 = .ok (.iconst 0, 1) := by decide +kernel
theorem dX12_init_11 : decode cX12_init 11 = .ok (.ldc 9, 2) := by decide +kernel
theorem dX12_init_13 : decode cX12_init 13 = .ok (.aastore, 1) := by decide +kernel
theorem dX12_init_14 : decode cX12_init 14 = .ok (.dup, 1) := by decide +kernel
theorem dX12_init_15 : decode cX12_init 15 = .ok (.iconst 1, 1) := by decide +kernel
theorem dX12_init_16 : decode cX12_init 16 = .ok (.ldc 11, 2) := by decide +kernel
theorem dX12_init_18 : decode cX12_init 18 = .ok (.aastore, 1) := by decide +kernel
theorem dX12_init_19 : decode cX12_init 19 = .ok (.dup, 1) := by decide +kernel
theorem dX12_init_20 : decode cX12_init 20 = .ok (.iconst 2, 1) := by decide +kernel
theorem dX12_init_21 : decode cX12_init 21 = .ok (.ldc 13, 2) := by decide +kernel
theorem dX12_init_23 : decode cX12_init 23 = .ok (.aastore, 1) := by decide +kernel
theorem dX12_init_24 : decode cX12_init 24 = .ok (.dup, 1) := by decide +kernel
theorem dX12_init_25 : decode cX12_init 25 = .ok (.iconst 3, 1) := by decide +kernel
theorem dX12_init_26 : decode cX12_init 26 = .ok (.ldc 15, 2) := by decide +kernel
theorem dX12_init_28 : decode cX12_init 28 = .ok (.aastore, 1) := by decide +kernel
theorem dX12_init_29 : decode cX12_init 29 = .ok (.dup, 1) := by decide +kernel
theorem dX12_init_30 : decode cX12_init 30 = .ok (.iconst 4, 1) := by decide +kernel
theorem dX12_init_31 : decode cX12_init 31 = .ok (.ldc 17, 2) := by decide +kernel
theorem dX12_init_33 : decode cX12_init 33 = .ok (.aastore, 1) := by decide +kernel
theorem dX12_init_34 : decode cX12_init 34 = .ok (.putfield 19, 3) := by decide +kernel
theorem dX12_init_37 : decode cX12_init 37 = .ok (.aload_n 0, 1) := by decide +kernel
theorem dX12_init_38 : decode cX12_init 38 = .ok (.iconst 2, 1) := by decide +kernel
theorem dX12_init_39 : decode cX12_init 39 = .ok (.newarray .int, 2) := by decide +kernel
theorem dX12_init_41 : decode cX12_init 41 = .ok (.putfield 25, 3) := by decide +kernel
theorem dX12_init_44 : decode cX12_init 44 = .ok (.aload_n 0, 1) := by decide +kernel
theorem dX12_init_45 : decode cX12_init 45 = .ok (.iconst 2, 1) := by decide +kernel
theorem dX12_init_46 : decode cX12_init 46 = .ok (.newarray .int, 2) := by decide +kernel
theorem dX12_init_48 : decode cX12_init 48 = .ok (.putfield 29, 3) := by decide +kernel
theorem dX12_init_51 : decode cX12_init 51 = .ok (.aload_n 0, 1) := by decide +kernel
theorem dX12_init_52 : decode cX12_init 52 = .ok (.iconst 2, 1) := by decide +kernel
theorem dX12_init_53 : decode cX12_init 53 = .ok (.newarray .int, 2) := by decide +kernel
theorem dX12_init_55 : decode cX12_init 55 = .ok (.putfield 32, 3) := by decide +kernel
theorem dX12_init_58 : decode cX12_init 58 = .ok (.aload_n 0, 1) := by decide +kernel
theorem dX12_init_59 : decode cX12_init 59 = .ok (.iconst 2, 1) := by decide +kernel
theorem dX12_init_60 : decode cX12_init 60 = .ok (.newarray .int, 2) := by decide +kernel
theorem dX12_init_62 : decode cX12_init 62 = .ok (.putfield 35, 3) := by decide +kernel
theorem dX12_init_65 : decode cX12_init 65 = .ok (.aload_n 0, 1) := by decide +kernel
theorem dX12_init_66 : decode cX12_init 66 = .ok (.bipush 24, 2) := by decide +kernel
theorem dX12_init_68 : decode cX12_init 68 = .ok (.newarray .int, 2) := by decide +kernel
theorem dX12_init_70 : decode cX12_init 70 = .ok (.putfield 38, 3) := by decide +kernel
theorem dX12_init_73 : decode cX12_init 73 = .ok (.aload_n 0, 1) := by decide +kernel
theorem dX12_init_74 : decode cX12_init 74 = .ok (.bipush 60, 2) := by decide +kernel
theorem dX12_init_76 : decode cX12_init 76 = .ok (.newarray .int, 2) := by decide +kernel
theorem dX12_init_78 : decode cX12_init 78 = .ok (.putfield 41, 3) := by decide +kernel
theorem dX12_init_81 : decode cX12_init 81 = .ok (.aload_n 0, 1) := by decide +kernel
theorem dX12_init_82 : decode cX12_init 82 = .ok (.bipush 96, 2) := by decide +kernel
theorem dX12_init_84 : decode cX12_init 84 = .ok (.newarray .int, 2) := by decide +kernel
theorem dX12_init_86 : decode cX12_init 86 = .ok (.putfield 43, 3) := by decide +kernel
theorem dX12_init_89 : decode cX12_init 89 = .ok (.aload_n 0, 1) := by decide +kernel
theorem dX12_init_90 : decode cX12_init 90 = .ok (.sipush 288, 3) := by decide +kernel
theorem dX12_init_93 : decode cX12_init 93 = .ok (.newarray .int, 2) := by decide +kernel
theorem dX12_init_95 : decode cX12_init 95 = .ok (.putfield 45, 3) := by decide +kernel
theorem dX12_init_98 : decode cX12_init 98 = .ok (.aload_n 0, 1) := by decide +kernel
theorem dX12_init_99 : decode cX12_init 99 = .ok (.bipush 72, 2) := by decide +kernel
theorem dX12_init_101 : decode cX12_init 101 = .ok (.newarray .int, 2) := by decide +kernel
theorem dX12_init_103 : decode cX12_init 103 = .ok (.putfield 48, 3) := by decide +kernel
theorem dX12_init_106 : decode cX12_init 106 = .ok (.aload_n 0, 1) := by decide +kernel
theorem dX12_init_107 : decode cX12_init 107 = .ok (.sipush 600, 3) := by decide +kernel
theorem dX12_init_110 : decode cX12_init 110 = .ok (.newarray .int, 2) := by decide +kernel
theorem dX12_init_112 : decode cX12_init 112 = .ok (.putfield 50, 3) := by decide +kernel
theorem dX12_init_115 : decode cX12_init 115 = .ok (.aload_n 0, 1) := by decide +kernel
theorem dX12_init_116 : decode cX12_init 116 = .ok (.iconst (-1), 1) := by decide +kernel
theorem dX12_init_117 : decode cX12_init 117 = .ok (.putfield 53, 3) := by decide +kernel
theorem dX12_init_120 : decode cX12_init 120 = .ok (.aload_n 0, 1) := by decide +kernel
theorem dX12_init_121 : decode cX12_init 121 = .ok (.bipush 8, 2) := by decide +kernel
theorem dX12_init_123 : decode cX12_init 123 = .ok (.newarray .int, 2) := by decide +kernel
theorem dX12_init_125 : decode cX12_init 125 = .ok (.putfield 57, 3) := by decide +kernel
theorem dX12_init_128 : decode cX12_init 128 = .ok (.aload_n 0, 1) := by decide +kernel
theorem dX12_init_129 : decode cX12_init 129 = .ok (.bipush 8, 2) := by decide +kernel
theorem dX12_init_131 : decode cX12_init 131 = .ok (.newarray .int, 2) := by decide +kernel
theorem dX12_init_133 : decode cX12_init 133 = .ok (.putfield 60, 3) := by decide +kernel
theorem dX12_init_136 : decode cX12_init 136 = .ok (.aload_n 0, 1) := by decide +kernel
theorem dX12_init_137 : decode cX12_init 137 = .ok (.bipush 8, 2) := by decide +kernel
theorem dX12_init_139 : decode cX12_init 139 = .ok (.newarray .int, 2) := by decide +kernel
theorem dX12_init_141 : decode cX12_init 141 = .ok (.putfield 63, 3) := by decide +kernel
theorem dX12_init_144 : decode cX12_init 144 = .ok (.aload_n 0, 1) := by decide +kernel
theorem dX12_init_145 : decode cX12_init 145 = .ok (.bipush 8, 2) := by decide +kernel
theorem dX12_init_147 : decode cX12_init 147 = .ok (.newarray .int, 2) := by decide +kernel
theorem dX12_init_149 : decode cX12_init 149 = .ok (.putfield 66, 3) := by decide +kernel
theorem dX12_init_152 : decode cX12_init 152 = .ok (.aload_n 0, 1) := by decide +kernel
theorem dX12_init_153 : decode cX12_init 153 = .ok (.iconst (-1), 1) := by decide +kernel
theorem dX12_init_154 : decode cX12_init 154 = .ok (.putfield 69, 3) := by decide +kernel
theorem dX12_init_157 : decode cX12_init 157 = .ok (.aload_n 0, 1) := by decide +kernel
theorem dX12_init_158 : decode cX12_init 158 = .ok (.bipush 12, 2) := by decide +kernel
theorem dX12_init_160 : decode cX12_init 160 = .ok (.newarray .int, 2) := by decide +kernel
theorem dX12_init_162 : decode cX12_init 162 = .ok (.putfield 72, 3) := by decide +kernel
theorem dX12_init_165 : decode cX12_init 165 = .ok (.aload_n 0, 1) := by decide +kernel
theorem dX12_init_166 : decode cX12_init 166 = .ok (.bipush 12, 2) := by decide +kernel
theorem dX12_init_168 : decode cX12_init 168 = .ok (.newarray .int, 2) := by decide +kernel
theorem dX12_init_170 : decode cX12_init 170 = .ok (.putfield 75, 3) := by decide +kernel
theorem dX12_init_173 : decode cX12_init 173 = .ok (.aload_n 0, 1) := by decide +kernel
theorem dX12_init_174 : decode cX12_init 174 = .ok (.bipush 120, 2) := by decide +kernel
theorem dX12_init_176 : decode cX12_init 176 = .ok (.newarray .int, 2) := by decide +kernel
theorem dX12_init_178 : decode cX12_init 178 = .ok (.putfield 78, 3) := by decide +kernel
theorem dX12_init_181 : decode cX12_init 181 = .ok (.aload_n 0, 1) := by decide +kernel
theorem dX12_init_182 : decode cX12_init 182 = .ok (.bipush 120, 2) := by decide +kernel
theorem dX12_init_184 : decode cX12_init 184 = .ok (.newarray .int, 2) := by decide +kernel
theorem dX12_init_186 : decode cX12_init 186 = .ok (.putfield 81, 3) := by decide +kernel
theorem dX12_init_189 : decode cX12_init 189 = .ok (.aload_n 0, 1) := by decide +kernel
theorem dX12_init_190 : decode cX12_init 190 = .ok (.sipush 16384, 3) := by decide +kernel
theorem dX12_init_193 : decode cX12_init 193 = .ok (.newarray .boolean, 2) := by decide +kernel
theorem dX12_init_195 : decode cX12_init 195 = .ok (.putfield 84, 3) := by decide +kernel
theorem dX12_init_198 : decode cX12_init 198 = .ok (.aload_n 0, 1) := by decide +kernel
theorem dX12_init_199 : decode cX12_init 199 = .ok (.bipush 15, 2) := by decide +kernel
theorem dX12_init_201 : decode cX12_init 201 = .ok (.newarray .int, 2) := by decide +kernel
theorem dX12_init_203 : decode cX12_init 203 = .ok (.putfield 88, 3) := by decide +kernel
theorem dX12_init_206 : decode cX12_init 206 = .ok (.aload_n 0, 1) := by decide +kernel
theorem dX12_init_207 : decode cX12_init 207 = .ok (.bipush 6, 2) := by decide +kernel
theorem dX12_init_209 : decode cX12_init 209 = .ok (.putfield 91, 3) := by decide +kernel
theorem dX12_init_212 : decode cX12_init 212 = .ok (.aload_n 0, 1) := by decide +kernel
theorem dX12_init_213 : decode cX12_init 213 = .ok (.bipush 20, 2) := by decide +kernel
theorem dX12_init_215 : decode cX12_init 215 = .ok (.newarray .int, 2) := by decide +kernel
theorem dX12_init_217 : decode cX12_init 217 = .ok (.putfield 94, 3) := by decide +kernel
theorem dX12_init_220 : decode cX12_init 220 = .ok (.aload_n 0, 1) := by decide +kernel
theorem dX12_init_221 : decode cX12_init 221 = .ok (.bipush 10, 2) := by decide +kernel
theorem dX12_init_223 : decode cX12_init 223 = .ok (.newarray .int, 2) := by decide +kernel
theorem dX12_init_225 : decode cX12_init 225 = .ok (.putfield 97, 3) := by decide +kernel
theorem dX12_init_228 : decode cX12_init 228 = .ok (.aload_n 0, 1) := by decide +kernel
theorem dX12_init_229 : decode cX12_init 229 = .ok (.bipush 10, 2) := by decide +kernel
theorem dX12_init_231 : decode cX12_init 231 = .ok (.newarray .int, 2) := by decide +kernel
theorem dX12_init_233 : decode cX12_init 233 = .ok (.putfield 100, 3) := by decide +kernel
theorem dX12_init_236 : decode cX12_init 236 = .ok (.aload_n 0, 1) := by decide +kernel
theorem dX12_init_237 : decode cX12_init 237 = .ok (.bipush 7, 2) := by decide +kernel
theorem dX12_init_239 : decode cX12_init 239 = .ok (.newarray .int, 2) := by decide +kernel
theorem dX12_init_241 : decode cX12_init 241 = .ok (.putfield 103, 3) := by decide +kernel
theorem dX12_init_244 : decode cX12_init 244 = .ok (.aload_n 0, 1) := by decide +kernel
theorem dX12_init_245 : decode cX12_init 245 = .ok (.sipush 360, 3) := by decide +kernel
theorem dX12_init_248 : decode cX12_init 248 = .ok (.newarray .int, 2) := by decide +kernel
theorem dX12_init_250 : decode cX12_init 250 = .ok (.putfield 106, 3) := by decide +kernel
theorem dX12_init_253 : decode cX12_init 253 = .ok (.aload_n 0, 1) := by decide +kernel
theorem dX12_init_254 : decode cX12_init 254 = .ok (.sipush 200, 3) := by decide +kernel
theorem dX12_init_257 : decode cX12_init 257 = .ok (.newarray .int, 2) := by decide +kernel
theorem dX12_init_259 : decode cX12_init 259 = .ok (.putfield 109, 3) := by decide +kernel
theorem dX12_init_262 : decode cX12_init 262 = .ok (.aload_n 0, 1) := by decide +kernel
theorem dX12_init_263 : decode cX12_init 263 = .ok (.bipush 20, 2) := by decide +kernel
theorem dX12_init_265 : decode cX12_init 265 = .ok (.newarray .int, 2) := by decide +kernel
theorem dX12_init_267 : decode cX12_init 267 = .ok (.putfield 112, 3) := by decide +kernel
theorem dX12_init_270 : decode cX12_init 270 = .ok (.aload_n 0, 1) := by decide +kernel
theorem dX12_init_271 : decode cX12_init 271 = .ok (.sipush 360, 3) := by decide +kernel
theorem dX12_init_274 : decode cX12_init 274 = .ok (.newarray .int, 2) := by decide +kernel
theorem dX12_init_276 : decode cX12_init 276 = .ok (.putfield 115, 3) := by decide +kernel
theorem dX12_init_279 : decode cX12_init 279 = .ok (.aload_n 0, 1) := by decide +kernel
theorem dX12_init_280 : decode cX12_init 280 = .ok (.bipush 7, 2) := by decide +kernel
theorem dX12_init_282 : decode cX12_init 282 = .ok (.newarray .int, 2) := by decide +kernel
theorem dX12_init_284 : decode cX12_init 284 = .ok (.putfield 118, 3) := by decide +kernel
theorem dX12_init_287 : decode cX12_init 287 = .ok (.aload_n 0, 1) := by decide +kernel
theorem dX12_init_288 : decode cX12_init 288 = .ok (.sipush 200, 3) := by decide +kernel
theorem dX12_init_291 : decode cX12_init 291 = .ok (.newarray .int, 2) := by decide +kernel
theorem dX12_init_293 : decode cX12_init 293 = .ok (.putfield 121, 3) := by decide +kernel
theorem dX12_init_296 : decode cX12_init 296 = .ok (.aload_n 0, 1) := by decide +kernel
theorem dX12_init_297 : decode cX12_init 297 = .ok (.bipush 12, 2) := by decide +kernel
theorem dX12_init_299 : decode cX12_init 299 = .ok (.newarray .int, 2) := by decide +kernel
theorem dX12_init_301 : decode cX12_init 301 = .ok (.putfield 124, 3) := by decide +kernel
theorem dX12_init_304 : decode cX12_init 304 = .ok (.aload_n 0, 1) := by decide +kernel
theorem dX12_init_305 : decode cX12_init 305 = .ok (.sipush 384, 3) := by decide +kernel
theorem dX12_init_308 : decode cX12_init 308 = .ok (.newarray .int, 2) := by decide +kernel
theorem dX12_init_310 : decode cX12_init 310 = .ok (.putfield 127, 3) := by decide +kernel
theorem dX12_init_313 : decode cX12_init 313 = .ok (.aload_n 0, 1) := by decide +kernel
theorem dX12_init_314 : decode cX12_init 314 = .ok (.bipush 12, 2) := by decide +kernel
theorem dX12_init_316 : decode cX12_init 316 = .ok (.newarray .int, 2) := by decide +kernel
theorem dX12_init_318 : decode cX12_init 318 = .ok (.putfield 130, 3) := by decide +kernel
theorem dX12_init_321 : decode cX12_init 321 = .ok (.aload_n 0, 1) := by decide +kernel
theorem dX12_init_322 : decode cX12_init 322 = .ok (.sipush 200, 3) := by decide +kernel
theorem dX12_init_325 : decode cX12_init 325 = .ok (.newarray .int, 2) := by decide +kernel
theorem dX12_init_327 : decode cX12_init 327 = .ok (.putfield 133, 3) := by decide +kernel
theorem dX12_init_330 : decode cX12_init 330 = .ok (.aload_n 0, 1) := by decide +kernel
theorem dX12_init_331 : decode cX12_init 331 = .ok (.bipush 12, 2) := by decide +kernel
theorem dX12_init_333 : decode cX12_init 333 = .ok (.newarray .int, 2) := by decide +kernel
theorem dX12_init_335 : decode cX12_init 335 = .ok (.putfield 136, 3) := by decide +kernel
theorem dX12_init_338 : decode cX12_init 338 = .ok (.aload_n 0, 1) := by decide +kernel
theorem dX12_init_339 : decode cX12_init 339 = .ok (.bipush 12, 2) := by decide +kernel
theorem dX12_init_341 : decode cX12_init 341 = .ok (.newarray .int, 2) := by decide +kernel
theorem dX12_init_343 : decode cX12_init 343 = .ok (.putfield 139, 3) := by decide +kernel
theorem dX12_init_346 : decode cX12_init 346 = .ok (.aload_n 0, 1) := by decide +kernel
theorem dX12_init_347 : decode cX12_init 347 = .ok (.bipush 9, 2) := by decide +kernel
theorem dX12_init_349 : decode cX12_init 349 = .ok (.newarray .int, 2) := by decide +kernel
theorem dX12_init_351 : decode cX12_init 351 = .ok (.putfield 142, 3) := by decide +kernel
theorem dX12_init_354 : decode cX12_init 354 = .ok (.aload_n 0, 1) := by decide +kernel
theorem dX12_init_355 : decode cX12_init 355 = .ok (.bipush 9, 2) := by decide +kernel
theorem dX12_init_357 : decode cX12_init 357 = .ok (.newarray .int, 2) := by decide +kernel
theorem dX12_init_359 : decode cX12_init 359 = .ok (.putfield 145, 3) := by decide +kernel
theorem dX12_init_362 : decode cX12_init 362 = .ok (.aload_n 0, 1) := by decide +kernel
theorem dX12_init_363 : decode cX12_init 363 = .ok (.bipush 8, 2) := by decide +kernel
theorem dX12_init_365 : decode cX12_init 365 = .ok (.newarray .int, 2) := by decide +kernel
theorem dX12_init_367 : decode cX12_init 367 = .ok (.putfield 148, 3) := by decide +kernel
theorem dX12_init_370 : decode cX12_init 370 = .ok (.aload_n 0, 1) := by decide +kernel
theorem dX12_init_371 : decode cX12_init 371 = .ok (.bipush 8, 2) := by decide +kernel
theorem dX12_init_373 : decode cX12_init 373 = .ok (.newarray .int, 2) := by decide +kernel
theorem dX12_init_375 : decode cX12_init 375 = .ok (.putfield 151, 3) := by decide +kernel
theorem dX12_init_378 : decode cX12_init 378 = .ok (.aload_n 0, 1) := by decide +kernel
theorem dX12_init_379 : decode cX12_init 379 = .ok (.iconst 4, 1) := by decide +kernel
theorem dX12_init_380 : decode cX12_init 380 = .ok (.newarray .int, 2) := by decide +kernel
theorem dX12_init_382 : decode cX12_init 382 = .ok (.putfield 154, 3) := by decide +kernel
theorem dX12_init_385 : decode cX12_init 385 = .ok (.aload_n 0, 1) := by decide +kernel
theorem dX12_init_386 : decode cX12_init 386 = .ok (.iconst (-1), 1) := by decide +kernel
theorem dX12_init_387 : decode cX12_init 387 = .ok (.putfield 157, 3) := by decide +kernel
theorem dX12_init_390 : decode cX12_init 390 = .ok (.aload_n 0, 1) := by decide +kernel
theorem dX12_init_391 : decode cX12_init 391 = .ok (.bipush 6, 2) := by decide +kernel
theorem dX12_init_393 : decode cX12_init 393 = .ok (.newarray .int, 2) := by decide +kernel
theorem dX12_init_395 : decode cX12_init 395 = .ok (.putfield 160, 3) := by decide +kernel
theorem dX12_init_398 : decode cX12_init 398 = .ok (.aload_n 0, 1) := by decide +kernel
theorem dX12_init_399 : decode cX12_init 399 = .ok (.bipush 72, 2) := by decide +kernel
theorem dX12_init_401 : decode cX12_init 401 = .ok (.newarray .int, 2) := by decide +kernel
theorem dX12_init_403 : decode cX12_init 403 = .ok (.putfield 163, 3) := by decide +kernel
theorem dX12_init_406 : decode cX12_init 406 = .ok (.aload_n 0, 1) := by decide +kernel
theorem dX12_init_407 : decode cX12_init 407 = .ok (.bipush 6, 2) := by decide +kernel
theorem dX12_init_409 : decode cX12_init 409 = .ok (.newarray .int, 2) := by decide +kernel
theorem dX12_init_411 : decode cX12_init 411 = .ok (.putfield 166, 3) := by decide +kernel
theorem dX12_init_414 : decode cX12_init 414 = .ok (.aload_n 0, 1) := by decide +kernel
theorem dX12_init_415 : decode cX12_init 415 = .ok (.bipush 6, 2) := by decide +kernel
theorem dX12_init_417 : decode cX12_init 417 = .ok (.newarray .int, 2) := by decide +kernel
theorem dX12_init_419 : decode cX12_init 419 = .ok (.putfield 169, 3) := by decide +kernel
theorem dX12_init_422 : decode cX12_init 422 = .ok (.aload_n 0, 1) := by decide +kernel
theorem dX12_init_423 : decode cX12_init 423 = .ok (.bipush 30, 2) := by decide +kernel
theorem dX12_init_425 : decode cX12_init 425 = .ok (.newarray .int, 2) := by decide +kernel
theorem dX12_init_427 : decode cX12_init 427 = .ok (.putfield 172, 3) := by decide +kernel
theorem dX12_init_430 : decode cX12_init 430 = .ok (.aload_n 0, 1) := by decide +kernel
theorem dX12_init_431 : decode cX12_init 431 = .ok (.iconst 0, 1) := by decide +kernel
theorem dX12_init_432 : decode cX12_init 432 = .ok (.invokevirtual 175, 3) := by decide +kernel
theorem dX12_init_435 : decode cX12_init 435 = .ok (.aload_n 0, 1) := by decide +kernel
theorem dX12_init_436 : decode cX12_init 436 = .ok (.invokevirtual 179, 3) := by decide +kernel
theorem dX12_init_439 : decode cX12_init 439 = .ok (.return_, 1) := by decide +kernel
theorem dX12_thrown_0 : decode cX12_thrown 0 = .ok (.aload_n 0, 1) := by decide +kernel
theorem dX12_thrown_1 : decode cX12_thrown 1 = .ok (.getfield 182, 3) := by decide +kernel
theorem dX12_thrown_4 : decode cX12_thrown 4 = .ok (.ireturn, 1) := by decide +kernel
theorem dX12_fail_0 : decode cX12_fail 0 = .ok (.aload_n 0, 1) := by decide +kernel
theorem dX12_fail_1 : decode cX12_fail 1 = .ok (.iload_n 1, 1) := by decide +kernel
theorem dX12_fail_2 : decode cX12_fail 2 = .ok (.putfield 182, 3) := by decide +kernel
theorem dX12_fail_5 : decode cX12_fail 5 = .ok (.iconst 0, 1) := by decide +kernel
theorem dX12_fail_6 : decode cX12_fail 6 = .ok (.ireturn, 1) := by decide +kernel
theorem dX12_refuse_0 : decode cX12_refuse 0 = .ok (.aload_n 0, 1) := by decide +kernel
theorem dX12_refuse_1 : decode cX12_refuse 1 = .ok (.iload_n 1, 1) := by decide +kernel
theorem dX12_refuse_2 : decode cX12_refuse 2 = .ok (.putfield 182, 3) := by decide +kernel
theorem dX12_refuse_5 : decode cX12_refuse 5 = .ok (.iconst 0, 1) := by decide +kernel
theorem dX12_refuse_6 : decode cX12_refuse 6 = .ok (.ireturn, 1) := by decide +kernel
theorem dX12_isIn_0 : decode cX12_isIn 0 = .ok (.iload_n 0, 1) := by decide +kernel
theorem dX12_isIn_1 : decode cX12_isIn 1 = .ok (.iload_n 1, 1) := by decide +kernel
theorem dX12_isIn_2 : decode cX12_isIn 2 = .ok (.if_icmp .lt 12, 3) := by decide +kernel
theorem dX12_isIn_5 : decode cX12_isIn 5 = .ok (.iload_n 0, 1) := by decide +kernel
theorem dX12_isIn_6 : decode cX12_isIn 6 = .ok (.iload_n 2, 1) := by decide +kernel
theorem dX12_isIn_7 : decode cX12_isIn 7 = .ok (.if_icmp .gt 7, 3) := by decide +kernel
theorem dX12_isIn_10 : decode cX12_isIn 10 = .ok (.iconst 1, 1) := by decide +kernel
theorem dX12_isIn_11 : decode cX12_isIn 11 = .ok (.goto 4, 3) := by decide +kernel
theorem dX12_isIn_14 : decode cX12_isIn 14 = .ok (.iconst 0, 1) := by decide +kernel
theorem dX12_isIn_15 : decode cX12_isIn 15 = .ok (.ireturn, 1) := by decide +kernel
theorem dX12_clear_0 : decode cX12_clear 0 = .ok (.aload_n 0, 1) := by decide +kernel
theorem dX12_clear_1 : decode cX12_clear 1 = .ok (.getfield 25, 3) := by decide +kernel
theorem dX12_clear_4 : decode cX12_clear 4 = .ok (.iload_n 1, 1) := by decide +kernel
theorem dX12_clear_5 : decode cX12_clear 5 = .ok (.iconst 0, 1) := by decide +kernel
theorem dX12_clear_6 : decode cX12_clear 6 = .ok (.iastore, 1) := by decide +kernel
theorem dX12_clear_7 : decode cX12_clear 7 = .ok (.aload_n 0, 1) := by decide +kernel
theorem dX12_clear_8 : decode cX12_clear 8 = .ok (.getfield 29, 3) := by decide +kernel
theorem dX12_clear_11 : decode cX12_clear 11 = .ok (.iload_n 1, 1) := by decide +kernel
theorem dX12_clear_12 : decode cX12_clear 12 = .ok (.iconst 0, 1) := by decide +kernel
theorem dX12_clear_13 : decode cX12_clear 13 = .ok (.iastore, 1) := by decide +kernel
theorem dX12_clear_14 : decode cX12_clear 14 = .ok (.aload_n 0, 1) := by decide +kernel
theorem dX12_clear_15 : decode cX12_clear 15 = .ok (.getfield 32, 3) := by decide +kernel
theorem dX12_clear_18 : decode cX12_clear 18 = .ok (.iload_n 1, 1) := by decide +kernel
theorem dX12_clear_19 : decode cX12_clear 19 = .ok (.iconst 0, 1) := by decide +kernel
theorem dX12_clear_20 : decode cX12_clear 20 = .ok (.iastore, 1) := by decide +kernel
theorem dX12_clear_21 : decode cX12_clear 21 = .ok (.aload_n 0, 1) := by decide +kernel
theorem dX12_clear_22 : decode cX12_clear 22 = .ok (.getfield 35, 3) := by decide +kernel
theorem dX12_clear_25 : decode cX12_clear 25 = .ok (.iload_n 1, 1) := by decide +kernel
theorem dX12_clear_26 : decode cX12_clear 26 = .ok (.iconst 0, 1) := by decide +kernel
theorem dX12_clear_27 : decode cX12_clear 27 = .ok (.iastore, 1) := by decide +kernel
theorem dX12_clear_28 : decode cX12_clear 28 = .ok (.iconst 0, 1) := by decide +kernel
theorem dX12_clear_29 : decode cX12_clear 29 = .ok (.istore_n 2, 1) := by decide +kernel
theorem dX12_clear_30 : decode cX12_clear 30 = .ok (.iload_n 2, 1) := by decide +kernel
theorem dX12_clear_31 : decode cX12_clear 31 = .ok (.bipush 30, 2) := by decide +kernel
theorem dX12_clear_33 : decode cX12_clear 33 = .ok (.if_icmp .ge 22, 3) := by decide +kernel
theorem dX12_clear_36 : decode cX12_clear 36 = .ok (.aload_n 0, 1) := by decide +kernel
theorem dX12_clear_37 : decode cX12_clear 37 = .ok (.getfield 41, 3) := by decide +kernel
theorem dX12_clear_40 : decode cX12_clear 40 = .ok (.bipush 30, 2) := by decide +kernel
theorem dX12_clear_42 : decode cX12_clear 42 = .ok (.iload_n 1, 1) := by decide +kernel
theorem dX12_clear_43 : decode cX12_clear 43 = .ok (.imul, 1) := by decide +kernel
theorem dX12_clear_44 : decode cX12_clear 44 = .ok (.iload_n 2, 1) := by decide +kernel
theorem dX12_clear_45 : decode cX12_clear 45 = .ok (.iadd, 1) := by decide +kernel
theorem dX12_clear_46 : decode cX12_clear 46 = .ok (.bipush 13, 2) := by decide +kernel
theorem dX12_clear_48 : decode cX12_clear 48 = .ok (.iastore, 1) := by decide +kernel
theorem dX12_clear_49 : decode cX12_clear 49 = .ok (.iinc 2 1, 3) := by decide +kernel
theorem dX12_clear_52 : decode cX12_clear 52 = .ok (.goto (-22), 3) := by decide +kernel
theorem dX12_clear_55 : decode cX12_clear 55 = .ok (.iconst 0, 1) := by decide +kernel
theorem dX12_clear_56 : decode cX12_clear 56 = .ok (.istore_n 2, 1) := by decide +kernel
theorem dX12_clear_57 : decode cX12_clear 57 = .ok (.iload_n 2, 1) := by decide +kernel
theorem dX12_clear_58 : decode cX12_clear 58 = .ok (.bipush 12, 2) := by decide +kernel
theorem dX12_clear_60 : decode cX12_clear 60 = .ok (.if_icmp .ge 49, 3) := by decide +kernel
theorem dX12_clear_63 : decode cX12_clear 63 = .ok (.iconst 0, 1) := by decide +kernel
theorem dX12_clear_64 : decode cX12_clear 64 = .ok (.istore_n 3, 1) := by decide +kernel
theorem dX12_clear_65 : decode cX12_clear 65 = .ok (.iload_n 3, 1) := by decide +kernel
theorem dX12_clear_66 : decode cX12_clear 66 = .ok (.bipush 12, 2) := by decide +kernel
theorem dX12_clear_68 : decode cX12_clear 68 = .ok (.if_icmp .ge 35, 3) := by decide +kernel
theorem dX12_clear_71 : decode cX12_clear 71 = .ok (.aload_n 0, 1) := by decide +kernel
theorem dX12_clear_72 : decode cX12_clear 72 = .ok (.getfield 45, 3) := by decide +kernel
theorem dX12_clear_75 : decode cX12_clear 75 = .ok (.iload_n 1, 1) := by decide +kernel
theorem dX12_clear_76 : decode cX12_clear 76 = .ok (.bipush 12, 2) := by decide +kernel
theorem dX12_clear_78 : decode cX12_clear 78 = .ok (.imul, 1) := by decide +kernel
theorem dX12_clear_79 : decode cX12_clear 79 = .ok (.iload_n 2, 1) := by decide +kernel
theorem dX12_clear_80 : decode cX12_clear 80 = .ok (.iadd, 1) := by decide +kernel
theorem dX12_clear_81 : decode cX12_clear 81 = .ok (.bipush 12, 2) := by decide +kernel
theorem dX12_clear_83 : decode cX12_clear 83 = .ok (.imul, 1) := by decide +kernel
theorem dX12_clear_84 : decode cX12_clear 84 = .ok (.iload_n 3, 1) := by decide +kernel
theorem dX12_clear_85 : decode cX12_clear 85 = .ok (.iadd, 1) := by decide +kernel
theorem dX12_clear_86 : decode cX12_clear 86 = .ok (.iload_n 2, 1) := by decide +kernel
theorem dX12_clear_87 : decode cX12_clear 87 = .ok (.iload_n 3, 1) := by decide +kernel
theorem dX12_clear_88 : decode cX12_clear 88 = .ok (.if_icmp .ne 7, 3) := by decide +kernel
theorem dX12_clear_91 : decode cX12_clear 91 = .ok (.iconst 0, 1) := by decide +kernel
theorem dX12_clear_92 : decode cX12_clear 92 = .ok (.goto 4, 3) := by decide +kernel
theorem dX12_clear_95 : decode cX12_clear 95 = .ok (.iconst 1, 1) := by decide +kernel
theorem dX12_clear_96 : decode cX12_clear 96 = .ok (.iastore, 1) := by decide +kernel
theorem dX12_clear_97 : decode cX12_clear 97 = .ok (.iinc 3 1, 3) := by decide +kernel
theorem dX12_clear_100 : decode cX12_clear 100 = .ok (.goto (-35), 3) := by decide +kernel
theorem dX12_clear_103 : decode cX12_clear 103 = .ok (.iinc 2 1, 3) := by decide +kernel
theorem dX12_clear_106 : decode cX12_clear 106 = .ok (.goto (-49), 3) := by decide +kernel
theorem dX12_clear_109 : decode cX12_clear 109 = .ok (.return_, 1) := by decide +kernel
theorem dX12_copy_0 : decode cX12_copy 0 = .ok (.aload_n 0, 1) := by decide +kernel
theorem dX12_copy_1 : decode cX12_copy 1 = .ok (.arraylength, 1) := by decide +kernel
theorem dX12_copy_2 : decode cX12_copy 2 = .ok (.iconst 2, 1) := by decide +kernel
theorem dX12_copy_3 : decode cX12_copy 3 = .ok (.idiv, 1) := by decide +kernel
theorem dX12_copy_4 : decode cX12_copy 4 = .ok (.istore_n 1, 1) := by decide +kernel
theorem dX12_copy_5 : decode cX12_copy 5 = .ok (.iconst 0, 1) := by decide +kernel
theorem dX12_copy_6 : decode cX12_copy 6 = .ok (.istore_n 2, 1) := by decide +kernel
theorem dX12_copy_7 : decode cX12_copy 7 = .ok (.iload_n 2, 1) := by decide +kernel
theorem dX12_copy_8 : decode cX12_copy 8 = .ok (.iload_n 1, 1) := by decide +kernel
theorem dX12_copy_9 : decode cX12_copy 9 = .ok (.if_icmp .ge 17, 3) := by decide +kernel
theorem dX12_copy_12 : decode cX12_copy 12 = .ok (.aload_n 0, 1) := by decide +kernel
theorem dX12_copy_13 : decode cX12_copy 13 = .ok (.iload_n 2, 1) := by decide +kernel
theorem dX12_copy_14 : decode cX12_copy 14 = .ok (.aload_n 0, 1) := by decide +kernel
theorem dX12_copy_15 : decode cX12_copy 15 = .ok (.iload_n 1, 1) := by decide +kernel
theorem dX12_copy_16 : decode cX12_copy 16 = .ok (.iload_n 2, 1) := by decide +kernel
theorem dX12_copy_17 : decode cX12_copy 17 = .ok (.iadd, 1) := by decide +kernel
theorem dX12_copy_18 : decode cX12_copy 18 = .ok (.iaload, 1) := by decide +kernel
theorem dX12_copy_19 : decode cX12_copy 19 = .ok (.iastore, 1) := by decide +kernel
theorem dX12_copy_20 : decode cX12_copy 20 = .ok (.iinc 2 1, 3) := by decide +kernel
theorem dX12_copy_23 : decode cX12_copy 23 = .ok (.goto (-16), 3) := by decide +kernel
theorem dX12_copy_26 : decode cX12_copy 26 = .ok (.return_, 1) := by decide +kernel
theorem dX12_isChimney_0 : decode cX12_isChimney 0 = .ok (.iload_n 1, 1) := by decide +kernel
theorem dX12_isChimney_1 : decode cX12_isChimney 1 = .ok (.iconst 0, 1) := by decide +kernel
theorem dX12_isChimney_2 : decode cX12_isChimney 2 = .ok (.aload_n 0, 1) := by decide +kernel
theorem dX12_isChimney_3 : decode cX12_isChimney 3 = .ok (.getfield 25, 3) := by decide +kernel
theorem dX12_isChimney_6 : decode cX12_isChimney 6 = .ok (.iconst 0, 1) := by decide +kernel
theorem dX12_isChimney_7 : decode cX12_isChimney 7 = .ok (.iaload, 1) := by decide +kernel
theorem dX12_isChimney_8 : decode cX12_isChimney 8 = .ok (.iconst 1, 1) := by decide +kernel
theorem dX12_isChimney_9 : decode cX12_isChimney 9 = .ok (.isub, 1) := by decide +kernel
theorem dX12_isChimney_10 : decode cX12_isChimney 10 = .ok (.invokestatic 185, 3) := by decide +kernel
theorem dX12_isChimney_13 : decode cX12_isChimney 13 = .ok (.ireturn, 1) := by decide +kernel
theorem dX12_isLetter_0 : decode cX12_isLetter 0 = .ok (.iload_n 1, 1) := by decide +kernel
theorem dX12_isLetter_1 : decode cX12_isLetter 1 = .ok (.iconst 0, 1) := by decide +kernel
theorem dX12_isLetter_2 : decode cX12_isLetter 2 = .ok (.aload_n 0, 1) := by decide +kernel
theorem dX12_isLetter_3 : decode cX12_isLetter 3 = .ok (.getfield 29, 3) := by decide +kernel
theorem dX12_isLetter_6 : decode cX12_isLetter 6 = .ok (.iconst 0, 1) := by decide +kernel
theorem dX12_isLetter_7 : decode cX12_isLetter 7 = .ok (.iaload, 1) := by decide +kernel
theorem dX12_isLetter_8 : decode cX12_isLetter 8 = .ok (.iconst 1, 1) := by decide +kernel
theorem dX12_isLetter_9 : decode cX12_isLetter 9 = .ok (.isub, 1) := by decide +kernel
theorem dX12_isLetter_10 : decode cX12_isLetter 10 = .ok (.invokestatic 185, 3) := by decide +kernel
theorem dX12_isLetter_13 : decode cX12_isLetter 13 = .ok (.ireturn, 1) := by decide +kernel
theorem dX12_feed_0 : decode cX12_feed 0 = .ok (.aload_n 0, 1) := by decide +kernel
theorem dX12_feed_1 : decode cX12_feed 1 = .ok (.iconst 0, 1) := by decide +kernel
theorem dX12_feed_2 : decode cX12_feed 2 = .ok (.putfield 182, 3) := by decide +kernel
theorem dX12_feed_5 : decode cX12_feed 5 = .ok (.aload_n 0, 1) := by decide +kernel
theorem dX12_feed_6 : decode cX12_feed 6 = .ok (.getfield 189, 3) := by decide +kernel
theorem dX12_feed_9 : decode cX12_feed 9 = .ok (.bipush 20, 2) := by decide +kernel
theorem dX12_feed_11 : decode cX12_feed 11 = .ok (.iadd, 1) := by decide +kernel
theorem dX12_feed_12 : decode cX12_feed 12 = .ok (.sipush 600, 3) := by decide +kernel
theorem dX12_feed_15 : decode cX12_feed 15 = .ok (.if_icmp .le 5, 3) := by decide +kernel
theorem dX12_feed_18 : decode cX12_feed 18 = .ok (.iconst (-1), 1) := by decide +kernel
theorem dX12_feed_19 : decode cX12_feed 19 = .ok (.ireturn, 1) := by decide +kernel
theorem dX12_feed_20 : decode cX12_feed 20 = .ok (.iconst 0, 1) := by decide +kernel
theorem dX12_feed_21 : decode cX12_feed 21 = .ok (.istore 6, 2) := by decide +kernel
theorem dX12_feed_23 : decode cX12_feed 23 = .ok (.iload 6, 2) := by decide +kernel
theorem dX12_feed_25 : decode cX12_feed 25 = .ok (.bipush 20, 2) := by decide +kernel
theorem dX12_feed_27 : decode cX12_feed 27 = .ok (.if_icmp .ge 93, 3) := by decide +kernel
theorem dX12_feed_30 : decode cX12_feed 30 = .ok (.iload 6, 2) := by decide +kernel
theorem dX12_feed_32 : decode cX12_feed 32 = .ok (.iconst 4, 1) := by decide +kernel
theorem dX12_feed_33 : decode cX12_feed 33 = .ok (.if_icmp .ge 7, 3) := by decide +kernel
theorem dX12_feed_36 : decode cX12_feed 36 = .ok (.iload_n 1, 1) := by decide +kernel
theorem dX12_feed_37 : decode cX12_feed 37 = .ok (.goto 39, 3) := by decide +kernel
theorem dX12_feed_40 : decode cX12_feed 40 = .ok (.iload 6, 2) := by decide +kernel
theorem dX12_feed_42 : decode cX12_feed 42 = .ok (.bipush 8, 2) := by decide +kernel
theorem dX12_feed_44 : decode cX12_feed 44 = .ok (.if_icmp .ge 7, 3) := by decide +kernel
theorem dX12_feed_47 : decode cX12_feed 47 = .ok (.iload_n 2, 1) := by decide +kernel
theorem dX12_feed_48 : decode cX12_feed 48 = .ok (.goto 28, 3) := by decide +kernel
theorem dX12_feed_51 : decode cX12_feed 51 = .ok (.iload 6, 2) := by decide +kernel
theorem dX12_feed_53 : decode cX12_feed 53 = .ok (.bipush 12, 2) := by decide +kernel
theorem dX12_feed_55 : decode cX12_feed 55 = .ok (.if_icmp .ge 7, 3) := by decide +kernel
theorem dX12_feed_58 : decode cX12_feed 58 = .ok (.iload_n 3, 1) := by decide +kernel
theorem dX12_feed_59 : decode cX12_feed 59 = .ok (.goto 17, 3) := by decide +kernel
theorem dX12_feed_62 : decode cX12_feed 62 = .ok (.iload 6, 2) := by decide +kernel
theorem dX12_feed_64 : decode cX12_feed 64 = .ok (.bipush 16, 2) := by decide +kernel
theorem dX12_feed_66 : decode cX12_feed 66 = .ok (.if_icmp .ge 8, 3) := by decide +kernel
theorem dX12_feed_69 : decode cX12_feed 69 = .ok (.iload 4, 2) := by decide +kernel
theorem dX12_feed_71 : decode cX12_feed 71 = .ok (.goto 5, 3) := by decide +kernel
theorem dX12_feed_74 : decode cX12_feed 74 = .ok (.iload 5, 2) := by decide +kernel
theorem dX12_feed_76 : decode cX12_feed 76 = .ok (.istore 7, 2) := by decide +kernel
theorem dX12_feed_78 : decode cX12_feed 78 = .ok (.aload_n 0, 1) := by decide +kernel
theorem dX12_feed_79 : decode cX12_feed 79 = .ok (.getfield 50, 3) := by decide +kernel
theorem dX12_feed_82 : decode cX12_feed 82 = .ok (.aload_n 0, 1) := by decide +kernel
theorem dX12_feed_83 : decode cX12_feed 83 = .ok (.getfield 189, 3) := by decide +kernel
theorem dX12_feed_86 : decode cX12_feed 86 = .ok (.iload 7, 2) := by decide +kernel
theorem dX12_feed_88 : decode cX12_feed 88 = .ok (.bipush 24, 2) := by decide +kernel
theorem dX12_feed_90 : decode cX12_feed 90 = .ok (.bipush 8, 2) := by decide +kernel
theorem dX12_feed_92 : decode cX12_feed 92 = .ok (.iload 6, 2) := by decide +kernel
theorem dX12_feed_94 : decode cX12_feed 94 = .ok (.iconst 4, 1) := by decide +kernel
theorem dX12_feed_95 : decode cX12_feed 95 = .ok (.irem, 1) := by decide +kernel
theorem dX12_feed_96 : decode cX12_feed 96 = .ok (.imul, 1) := by decide +kernel
theorem dX12_feed_97 : decode cX12_feed 97 = .ok (.isub, 1) := by decide +kernel
theorem dX12_feed_98 : decode cX12_feed 98 = .ok (.ishr, 1) := by decide +kernel
theorem dX12_feed_99 : decode cX12_feed 99 = .ok (.sipush 255, 3) := by decide +kernel
theorem dX12_feed_102 : decode cX12_feed 102 = .ok (.iand, 1) := by decide +kernel
theorem dX12_feed_103 : decode cX12_feed 103 = .ok (.iastore, 1) := by decide +kernel
theorem dX12_feed_104 : decode cX12_feed 104 = .ok (.aload_n 0, 1) := by decide +kernel
theorem dX12_feed_105 : decode cX12_feed 105 = .ok (.dup, 1) := by decide +kernel
theorem dX12_feed_106 : decode cX12_feed 106 = .ok (.getfield 189, 3) := by decide +kernel
theorem dX12_feed_109 : decode cX12_feed 109 = .ok (.iconst 1, 1) := by decide +kernel
theorem dX12_feed_110 : decode cX12_feed 110 = .ok (.iadd, 1) := by decide +kernel
theorem dX12_feed_111 : decode cX12_feed 111 = .ok (.putfield 189, 3) := by decide +kernel
theorem dX12_feed_114 : decode cX12_feed 114 = .ok (.iinc 6 1, 3) := by decide +kernel
theorem dX12_feed_117 : decode cX12_feed 117 = .ok (.goto (-94), 3) := by decide +kernel
theorem dX12_feed_120 : decode cX12_feed 120 = .ok (.aload_n 0, 1) := by decide +kernel
theorem dX12_feed_121 : decode cX12_feed 121 = .ok (.getfield 189, 3) := by decide +kernel
theorem dX12_feed_124 : decode cX12_feed 124 = .ok (.ireturn, 1) := by decide +kernel
theorem dX12_byteAt_0 : decode cX12_byteAt 0 = .ok (.iload_n 1, 1) := by decide +kernel
theorem dX12_byteAt_1 : decode cX12_byteAt 1 = .ok (.aload_n 0, 1) := by decide +kernel
theorem dX12_byteAt_2 : decode cX12_byteAt 2 = .ok (.getfield 192, 3) := by decide +kernel
theorem dX12_byteAt_5 : decode cX12_byteAt 5 = .ok (.if_icmp .ge 12, 3) := by decide +kernel
theorem dX12_byteAt_8 : decode cX12_byteAt 8 = .ok (.aload_n 0, 1) := by decide +kernel
theorem dX12_byteAt_9 : decode cX12_byteAt 9 = .ok (.getfield 50, 3) := by decide +kernel
theorem dX12_byteAt_12 : decode cX12_byteAt 12 = .ok (.iload_n 1, 1) := by decide +kernel
theorem dX12_byteAt_13 : decode cX12_byteAt 13 = .ok (.iaload, 1) := by decide +kernel
theorem dX12_byteAt_14 : decode cX12_byteAt 14 = .ok (.goto 4, 3) := by decide +kernel
theorem dX12_byteAt_17 : decode cX12_byteAt 17 = .ok (.iconst (-1), 1) := by decide +kernel
theorem dX12_byteAt_18 : decode cX12_byteAt 18 = .ok (.ireturn, 1) := by decide +kernel
theorem dX12_isSmall_0 : decode cX12_isSmall 0 = .ok (.iload_n 0, 1) := by decide +kernel
theorem dX12_isSmall_1 : decode cX12_isSmall 1 = .ok (.bipush 97, 2) := by decide +kernel
theorem dX12_isSmall_3 : decode cX12_isSmall 3 = .ok (.if_icmp .lt 13, 3) := by decide +kernel
theorem dX12_isSmall_6 : decode cX12_isSmall 6 = .ok (.iload_n 0, 1) := by decide +kernel
theorem dX12_isSmall_7 : decode cX12_isSmall 7 = .ok (.bipush 122, 2) := by decide +kernel
theorem dX12_isSmall_9 : decode cX12_isSmall 9 = .ok (.if_icmp .gt 7, 3) := by decide +kernel
theorem dX12_isSmall_12 : decode cX12_isSmall 12 = .ok (.iconst 1, 1) := by decide +kernel
theorem dX12_isSmall_13 : decode cX12_isSmall 13 = .ok (.goto 4, 3) := by decide +kernel
theorem dX12_isSmall_16 : decode cX12_isSmall 16 = .ok (.iconst 0, 1) := by decide +kernel
theorem dX12_isSmall_17 : decode cX12_isSmall 17 = .ok (.ireturn, 1) := by decide +kernel
theorem dX12_isFigure_0 : decode cX12_isFigure 0 = .ok (.iload_n 0, 1) := by decide +kernel
theorem dX12_isFigure_1 : decode cX12_isFigure 1 = .ok (.bipush 48, 2) := by decide +kernel
theorem dX12_isFigure_3 : decode cX12_isFigure 3 = .ok (.if_icmp .lt 13, 3) := by decide +kernel
theorem dX12_isFigure_6 : decode cX12_isFigure 6 = .ok (.iload_n 0, 1) := by decide +kernel
theorem dX12_isFigure_7 : decode cX12_isFigure 7 = .ok (.bipush 57, 2) := by decide +kernel
theorem dX12_isFigure_9 : decode cX12_isFigure 9 = .ok (.if_icmp .gt 7, 3) := by decide +kernel
theorem dX12_isFigure_12 : decode cX12_isFigure 12 = .ok (.iconst 1, 1) := by decide +kernel
theorem dX12_isFigure_13 : decode cX12_isFigure 13 = .ok (.goto 4, 3) := by decide +kernel
theorem dX12_isFigure_16 : decode cX12_isFigure 16 = .ok (.iconst 0, 1) := by decide +kernel
theorem dX12_isFigure_17 : decode cX12_isFigure 17 = .ok (.ireturn, 1) := by decide +kernel
theorem dX12_stepOn_0 : decode cX12_stepOn 0 = .ok (.aload_n 0, 1) := by decide +kernel
theorem dX12_stepOn_1 : decode cX12_stepOn 1 = .ok (.aload_n 0, 1) := by decide +kernel
theorem dX12_stepOn_2 : decode cX12_stepOn 2 = .ok (.getfield 195, 3) := by decide +kernel
theorem dX12_stepOn_5 : decode cX12_stepOn 5 = .ok (.invokevirtual 198, 3) := by decide +kernel
theorem dX12_stepOn_8 : decode cX12_stepOn 8 = .ok (.bipush 32, 2) := by decide +kernel
theorem dX12_stepOn_10 : decode cX12_stepOn 10 = .ok (.if_icmp .eq 16, 3) := by decide +kernel
theorem dX12_stepOn_13 : decode cX12_stepOn 13 = .ok (.aload_n 0, 1) := by decide +kernel
theorem dX12_stepOn_14 : decode cX12_stepOn 14 = .ok (.aload_n 0, 1) := by decide +kernel
theorem dX12_stepOn_15 : decode cX12_stepOn 15 = .ok (.getfield 195, 3) := by decide +kernel
theorem dX12_stepOn_18 : decode cX12_stepOn 18 = .ok (.invokevirtual 198, 3) := by decide +kernel
theorem dX12_stepOn_21 : decode cX12_stepOn 21 = .ok (.bipush 10, 2) := by decide +kernel
theorem dX12_stepOn_23 : decode cX12_stepOn 23 = .ok (.if_icmp .ne 16, 3) := by decide +kernel
theorem dX12_stepOn_26 : decode cX12_stepOn 26 = .ok (.aload_n 0, 1) := by decide +kernel
theorem dX12_stepOn_27 : decode cX12_stepOn 27 = .ok (.dup, 1) := by decide +kernel
theorem dX12_stepOn_28 : decode cX12_stepOn 28 = .ok (.getfield 195, 3) := by decide +kernel
theorem dX12_stepOn_31 : decode cX12_stepOn 31 = .ok (.iconst 1, 1) := by decide +kernel
theorem dX12_stepOn_32 : decode cX12_stepOn 32 = .ok (.iadd, 1) := by decide +kernel
theorem dX12_stepOn_33 : decode cX12_stepOn 33 = .ok (.putfield 195, 3) := by decide +kernel
theorem dX12_stepOn_36 : decode cX12_stepOn 36 = .ok (.goto (-36), 3) := by decide +kernel
theorem dX12_stepOn_39 : decode cX12_stepOn 39 = .ok (.aload_n 0, 1) := by decide +kernel
theorem dX12_stepOn_40 : decode cX12_stepOn 40 = .ok (.aload_n 0, 1) := by decide +kernel
theorem dX12_stepOn_41 : decode cX12_stepOn 41 = .ok (.getfield 195, 3) := by decide +kernel
theorem dX12_stepOn_44 : decode cX12_stepOn 44 = .ok (.putfield 202, 3) := by decide +kernel
theorem dX12_stepOn_47 : decode cX12_stepOn 47 = .ok (.aload_n 0, 1) := by decide +kernel
theorem dX12_stepOn_48 : decode cX12_stepOn 48 = .ok (.aload_n 0, 1) := by decide +kernel
theorem dX12_stepOn_49 : decode cX12_stepOn 49 = .ok (.getfield 195, 3) := by decide +kernel
theorem dX12_stepOn_52 : decode cX12_stepOn 52 = .ok (.invokevirtual 198, 3) := by decide +kernel
theorem dX12_stepOn_55 : decode cX12_stepOn 55 = .ok (.istore_n 1, 1) := by decide +kernel
theorem dX12_stepOn_56 : decode cX12_stepOn 56 = .ok (.iload_n 1, 1) := by decide +kernel
theorem dX12_stepOn_57 : decode cX12_stepOn 57 = .ok (.iconst (-1), 1) := by decide +kernel
theorem dX12_stepOn_58 : decode cX12_stepOn 58 = .ok (.if_icmp .ne 11, 3) := by decide +kernel
theorem dX12_stepOn_61 : decode cX12_stepOn 61 = .ok (.aload_n 0, 1) := by decide +kernel
theorem dX12_stepOn_62 : decode cX12_stepOn 62 = .ok (.iconst 0, 1) := by decide +kernel
theorem dX12_stepOn_63 : decode cX12_stepOn 63 = .ok (.putfield 205, 3) := by decide +kernel
theorem dX12_stepOn_66 : decode cX12_stepOn 66 = .ok (.goto 145, 3) := by decide +kernel
theorem dX12_stepOn_69 : decode cX12_stepOn 69 = .ok (.iload_n 1, 1) := by decide +kernel
theorem dX12_stepOn_70 : decode cX12_stepOn 70 = .ok (.invokestatic 208, 3) := by decide +kernel
theorem dX12_stepOn_73 : decode cX12_stepOn 73 = .ok (.ifCond .eq 38, 3) := by decide +kernel
theorem dX12_stepOn_76 : decode cX12_stepOn 76 = .ok (.aload_n 0, 1) := by decide +kernel
theorem dX12_stepOn_77 : decode cX12_stepOn 77 = .ok (.aload_n 0, 1) := by decide +kernel
theorem dX12_stepOn_78 : decode cX12_stepOn 78 = .ok (.getfield 195, 3) := by decide +kernel
theorem dX12_stepOn_81 : decode cX12_stepOn 81 = .ok (.invokevirtual 198, 3) := by decide +kernel
theorem dX12_stepOn_84 : decode cX12_stepOn 84 = .ok (.invokestatic 208, 3) := by decide +kernel
theorem dX12_stepOn_87 : decode cX12_stepOn 87 = .ok (.ifCond .eq 16, 3) := by decide +kernel
theorem dX12_stepOn_90 : decode cX12_stepOn 90 = .ok (.aload_n 0, 1) := by decide +kernel
theorem dX12_stepOn_91 : decode cX12_stepOn 91 = .ok (.dup, 1) := by decide +kernel
theorem dX12_stepOn_92 : decode cX12_stepOn 92 = .ok (.getfield 195, 3) := by decide +kernel
theorem dX12_stepOn_95 : decode cX12_stepOn 95 = .ok (.iconst 1, 1) := by decide +kernel
theorem dX12_stepOn_96 : decode cX12_stepOn 96 = .ok (.iadd, 1) := by decide +kernel
theorem dX12_stepOn_97 : decode cX12_stepOn 97 = .ok (.putfield 195, 3) := by decide +kernel
theorem dX12_stepOn_100 : decode cX12_stepOn 100 = .ok (.goto (-24), 3) := by decide +kernel
theorem dX12_stepOn_103 : decode cX12_stepOn 103 = .ok (.aload_n 0, 1) := by decide +kernel
theorem dX12_stepOn_104 : decode cX12_stepOn 104 = .ok (.iconst 1, 1) := by decide +kernel
theorem dX12_stepOn_105 : decode cX12_stepOn 105 = .ok (.putfield 205, 3) := by decide +kernel
theorem dX12_stepOn_108 : decode cX12_stepOn 108 = .ok (.goto 103, 3) := by decide +kernel
theorem dX12_stepOn_111 : decode cX12_stepOn 111 = .ok (.iload_n 1, 1) := by decide +kernel
theorem dX12_stepOn_112 : decode cX12_stepOn 112 = .ok (.invokestatic 212, 3) := by decide +kernel
theorem dX12_stepOn_115 : decode cX12_stepOn 115 = .ok (.ifCond .eq 71, 3) := by decide +kernel
theorem dX12_stepOn_118 : decode cX12_stepOn 118 = .ok (.aload_n 0, 1) := by decide +kernel
theorem dX12_stepOn_119 : decode cX12_stepOn 119 = .ok (.iconst 0, 1) := by decide +kernel
theorem dX12_stepOn_120 : decode cX12_stepOn 120 = .ok (.putfield 215, 3) := by decide +kernel
theorem dX12_stepOn_123 : decode cX12_stepOn 123 = .ok (.aload_n 0, 1) := by decide +kernel
theorem dX12_stepOn_124 : decode cX12_stepOn 124 = .ok (.aload_n 0, 1) := by decide +kernel
theorem dX12_stepOn_125 : decode cX12_stepOn 125 = .ok (.getfield 195, 3) := by decide +kernel
theorem dX12_stepOn_128 : decode cX12_stepOn 128 = .ok (.invokevirtual 198, 3) := by decide +kernel
theorem dX12_stepOn_131 : decode cX12_stepOn 131 = .ok (.invokestatic 212, 3) := by decide +kernel
theorem dX12_stepOn_134 : decode cX12_stepOn 134 = .ok (.ifCond .eq 44, 3) := by decide +kernel
theorem dX12_stepOn_137 : decode cX12_stepOn 137 = .ok (.aload_n 0, 1) := by decide +kernel
theorem dX12_stepOn_138 : decode cX12_stepOn 138 = .ok (.ldc 218, 2) := by decide +kernel
theorem dX12_stepOn_140 : decode cX12_stepOn 140 = .ok (.bipush 10, 2) := by decide +kernel
theorem dX12_stepOn_142 : decode cX12_stepOn 142 = .ok (.aload_n 0, 1) := by decide +kernel
theorem dX12_stepOn_143 : decode cX12_stepOn 143 = .ok (.getfield 215, 3) := by decide +kernel
theorem dX12_stepOn_146 : decode cX12_stepOn 146 = .ok (.imul, 1) := by decide +kernel
theorem dX12_stepOn_147 : decode cX12_stepOn 147 = .ok (.aload_n 0, 1) := by decide +kernel
theorem dX12_stepOn_148 : decode cX12_stepOn 148 = .ok (.aload_n 0, 1) := by decide +kernel
theorem dX12_stepOn_149 : decode cX12_stepOn 149 = .ok (.getfield 195, 3) := by decide +kernel
theorem dX12_stepOn_152 : decode cX12_stepOn 152 = .ok (.invokevirtual 198, 3) := by decide +kernel
theorem dX12_stepOn_155 : decode cX12_stepOn 155 = .ok (.iadd, 1) := by decide +kernel
theorem dX12_stepOn_156 : decode cX12_stepOn 156 = .ok (.bipush 48, 2) := by decide +kernel
theorem dX12_stepOn_158 : decode cX12_stepOn 158 = .ok (.isub, 1) := by decide +kernel
theorem dX12_stepOn_159 : decode cX12_stepOn 159 = .ok (.invokestatic 219, 3) := by decide +kernel
theorem dX12_stepOn_162 : decode cX12_stepOn 162 = .ok (.putfield 215, 3) := by decide +kernel
theorem dX12_stepOn_165 : decode cX12_stepOn 165 = .ok (.aload_n 0, 1) := by decide +kernel
theorem dX12_stepOn_166 : decode cX12_stepOn 166 = .ok (.dup, 1) := by decide +kernel
theorem dX12_stepOn_167 : decode cX12_stepOn 167 = .ok (.getfield 195, 3) := by decide +kernel
theorem dX12_stepOn_170 : decode cX12_stepOn 170 = .ok (.iconst 1, 1) := by decide +kernel
theorem dX12_stepOn_171 : decode cX12_stepOn 171 = .ok (.iadd, 1) := by decide +kernel
theorem dX12_stepOn_172 : decode cX12_stepOn 172 = .ok (.putfield 195, 3) := by decide +kernel
theorem dX12_stepOn_175 : decode cX12_stepOn 175 = .ok (.goto (-52), 3) := by decide +kernel
theorem dX12_stepOn_178 : decode cX12_stepOn 178 = .ok (.aload_n 0, 1) := by decide +kernel
theorem dX12_stepOn_179 : decode cX12_stepOn 179 = .ok (.iconst 2, 1) := by decide +kernel
theorem dX12_stepOn_180 : decode cX12_stepOn 180 = .ok (.putfield 205, 3) := by decide +kernel
theorem dX12_stepOn_183 : decode cX12_stepOn 183 = .ok (.goto 28, 3) := by decide +kernel
theorem dX12_stepOn_186 : decode cX12_stepOn 186 = .ok (.aload_n 0, 1) := by decide +kernel
theorem dX12_stepOn_187 : decode cX12_stepOn 187 = .ok (.dup, 1) := by decide +kernel
theorem dX12_stepOn_188 : decode cX12_stepOn 188 = .ok (.getfield 195, 3) := by decide +kernel
theorem dX12_stepOn_191 : decode cX12_stepOn 191 = .ok (.iconst 1, 1) := by decide +kernel
theorem dX12_stepOn_192 : decode cX12_stepOn 192 = .ok (.iadd, 1) := by decide +kernel
theorem dX12_stepOn_193 : decode cX12_stepOn 193 = .ok (.putfield 195, 3) := by decide +kernel
theorem dX12_stepOn_196 : decode cX12_stepOn 196 = .ok (.aload_n 0, 1) := by decide +kernel
theorem dX12_stepOn_197 : decode cX12_stepOn 197 = .ok (.iload_n 1, 1) := by decide +kernel
theorem dX12_stepOn_198 : decode cX12_stepOn 198 = .ok (.bipush 59, 2) := by decide +kernel
theorem dX12_stepOn_200 : decode cX12_stepOn 200 = .ok (.if_icmp .ne 7, 3) := by decide +kernel
theorem dX12_stepOn_203 : decode cX12_stepOn 203 = .ok (.iconst 3, 1) := by decide +kernel
theorem dX12_stepOn_204 : decode cX12_stepOn 204 = .ok (.goto 4, 3) := by decide +kernel
theorem dX12_stepOn_207 : decode cX12_stepOn 207 = .ok (.iconst 4, 1) := by decide +kernel
theorem dX12_stepOn_208 : decode cX12_stepOn 208 = .ok (.putfield 205, 3) := by decide +kernel
theorem dX12_stepOn_211 : decode cX12_stepOn 211 = .ok (.aload_n 0, 1) := by decide +kernel
theorem dX12_stepOn_212 : decode cX12_stepOn 212 = .ok (.aload_n 0, 1) := by decide +kernel
theorem dX12_stepOn_213 : decode cX12_stepOn 213 = .ok (.getfield 195, 3) := by decide +kernel
theorem dX12_stepOn_216 : decode cX12_stepOn 216 = .ok (.putfield 225, 3) := by decide +kernel
theorem dX12_stepOn_219 : decode cX12_stepOn 219 = .ok (.return_, 1) := by decide +kernel
theorem dX12_wrong_0 : decode cX12_wrong 0 = .ok (.aload_n 0, 1) := by decide +kernel
theorem dX12_wrong_1 : decode cX12_wrong 1 = .ok (.getfield 228, 3) := by decide +kernel
theorem dX12_wrong_4 : decode cX12_wrong 4 = .ok (.ifCond .eq 4, 3) := by decide +kernel
theorem dX12_wrong_7 : decode cX12_wrong 7 = .ok (.return_, 1) := by decide +kernel
theorem dX12_wrong_8 : decode cX12_wrong 8 = .ok (.aload_n 0, 1) := by decide +kernel
theorem dX12_wrong_9 : decode cX12_wrong 9 = .ok (.iload_n 1, 1) := by decide +kernel
theorem dX12_wrong_10 : decode cX12_wrong 10 = .ok (.putfield 228, 3) := by decide +kernel
theorem dX12_wrong_13 : decode cX12_wrong 13 = .ok (.aload_n 0, 1) := by decide +kernel
theorem dX12_wrong_14 : decode cX12_wrong 14 = .ok (.aload_n 0, 1) := by decide +kernel
theorem dX12_wrong_15 : decode cX12_wrong 15 = .ok (.getfield 202, 3) := by decide +kernel
theorem dX12_wrong_18 : decode cX12_wrong 18 = .ok (.putfield 231, 3) := by decide +kernel
theorem dX12_wrong_21 : decode cX12_wrong 21 = .ok (.return_, 1) := by decide +kernel
theorem dX12_is_0 : decode cX12_is 0 = .ok (.aload_n 0, 1) := by decide +kernel
theorem dX12_is_1 : decode cX12_is 1 = .ok (.getfield 228, 3) := by decide +kernel
theorem dX12_is_4 : decode cX12_is 4 = .ok (.ifCond .ne 31, 3) := by decide +kernel
theorem dX12_is_7 : decode cX12_is 7 = .ok (.aload_n 0, 1) := by decide +kernel
theorem dX12_is_8 : decode cX12_is 8 = .ok (.getfield 205, 3) := by decide +kernel
theorem dX12_is_11 : decode cX12_is 11 = .ok (.iconst 1, 1) := by decide +kernel
theorem dX12_is_12 : decode cX12_is 12 = .ok (.if_icmp .ne 23, 3) := by decide +kernel
theorem dX12_is_15 : decode cX12_is 15 = .ok (.aload_n 1, 1) := by decide +kernel
theorem dX12_is_16 : decode cX12_is 16 = .ok (.invokevirtual 234, 3) := by decide +kernel
theorem dX12_is_19 : decode cX12_is 19 = .ok (.aload_n 0, 1) := by decide +kernel
theorem dX12_is_20 : decode cX12_is 20 = .ok (.getfield 225, 3) := by decide +kernel
theorem dX12_is_23 : decode cX12_is 23 = .ok (.aload_n 0, 1) := by decide +kernel
theorem dX12_is_24 : decode cX12_is 24 = .ok (.getfield 202, 3) := by decide +kernel
theorem dX12_is_27 : decode cX12_is 27 = .ok (.isub, 1) := by decide +kernel
theorem dX12_is_28 : decode cX12_is 28 = .ok (.if_icmp .ne 7, 3) := by decide +kernel
theorem dX12_is_31 : decode cX12_is 31 = .ok (.iconst 1, 1) := by decide +kernel
theorem dX12_is_32 : decode cX12_is 32 = .ok (.goto 4, 3) := by decide +kernel
theorem dX12_is_35 : decode cX12_is 35 = .ok (.iconst 0, 1) := by decide +kernel
theorem dX12_is_36 : decode cX12_is 36 = .ok (.istore_n 2, 1) := by decide +kernel
theorem dX12_is_37 : decode cX12_is 37 = .ok (.iconst 0, 1) := by decide +kernel
theorem dX12_is_38 : decode cX12_is 38 = .ok (.istore_n 3, 1) := by decide +kernel
theorem dX12_is_39 : decode cX12_is 39 = .ok (.iload_n 2, 1) := by decide +kernel
theorem dX12_is_40 : decode cX12_is 40 = .ok (.ifCond .eq 42, 3) := by decide +kernel
theorem dX12_is_43 : decode cX12_is 43 = .ok (.iload_n 3, 1) := by decide +kernel
theorem dX12_is_44 : decode cX12_is 44 = .ok (.aload_n 1, 1) := by decide +kernel
theorem dX12_is_45 : decode cX12_is 45 = .ok (.invokevirtual 234, 3) := by decide +kernel
theorem dX12_is_48 : decode cX12_is 48 = .ok (.if_icmp .ge 34, 3) := by decide +kernel
theorem dX12_is_51 : decode cX12_is 51 = .ok (.aload_n 1, 1) := by decide +kernel
theorem dX12_is_52 : decode cX12_is 52 = .ok (.iload_n 3, 1) := by decide +kernel
theorem dX12_is_53 : decode cX12_is 53 = .ok (.invokevirtual 238, 3) := by decide +kernel
theorem dX12_is_56 : decode cX12_is 56 = .ok (.aload_n 0, 1) := by decide +kernel
theorem dX12_is_57 : decode cX12_is 57 = .ok (.getfield 50, 3) := by decide +kernel
theorem dX12_is_60 : decode cX12_is 60 = .ok (.aload_n 0, 1) := by decide +kernel
theorem dX12_is_61 : decode cX12_is 61 = .ok (.getfield 202, 3) := by decide +kernel
theorem dX12_is_64 : decode cX12_is 64 = .ok (.iload_n 3, 1) := by decide +kernel
theorem dX12_is_65 : decode cX12_is 65 = .ok (.iadd, 1) := by decide +kernel
theorem dX12_is_66 : decode cX12_is 66 = .ok (.iaload, 1) := by decide +kernel
theorem dX12_is_67 : decode cX12_is 67 = .ok (.if_icmp .ne 7, 3) := by decide +kernel
theorem dX12_is_70 : decode cX12_is 70 = .ok (.iconst 1, 1) := by decide +kernel
theorem dX12_is_71 : decode cX12_is 71 = .ok (.goto 4, 3) := by decide +kernel
theorem dX12_is_74 : decode cX12_is 74 = .ok (.iconst 0, 1) := by decide +kernel
theorem dX12_is_75 : decode cX12_is 75 = .ok (.istore_n 2, 1) := by decide +kernel
theorem dX12_is_76 : decode cX12_is 76 = .ok (.iinc 3 1, 3) := by decide +kernel
theorem dX12_is_79 : decode cX12_is 79 = .ok (.goto (-40), 3) := by decide +kernel
theorem dX12_is_82 : decode cX12_is 82 = .ok (.iload_n 2, 1) := by decide +kernel
theorem dX12_is_83 : decode cX12_is 83 = .ok (.ireturn, 1) := by decide +kernel
theorem dX12_which_0 : decode cX12_which 0 = .ok (.iconst 0, 1) := by decide +kernel
theorem dX12_which_1 : decode cX12_which 1 = .ok (.istore_n 2, 1) := by decide +kernel
theorem dX12_which_2 : decode cX12_which 2 = .ok (.iload_n 2, 1) := by decide +kernel
theorem dX12_which_3 : decode cX12_which 3 = .ok (.aload_n 1, 1) := by decide +kernel
theorem dX12_which_4 : decode cX12_which 4 = .ok (.arraylength, 1) := by decide +kernel
theorem dX12_which_5 : decode cX12_which 5 = .ok (.if_icmp .ge 21, 3) := by decide +kernel
theorem dX12_which_8 : decode cX12_which 8 = .ok (.aload_n 0, 1) := by decide +kernel
theorem dX12_which_9 : decode cX12_which 9 = .ok (.aload_n 1, 1) := by decide +kernel
theorem dX12_which_10 : decode cX12_which 10 = .ok (.iload_n 2, 1) := by decide +kernel
theorem dX12_which_11 : decode cX12_which 11 = .ok (.aaload, 1) := by decide +kernel
theorem dX12_which_12 : decode cX12_which 12 = .ok (.invokevirtual 242, 3) := by decide +kernel
theorem dX12_which_15 : decode cX12_which 15 = .ok (.ifCond .eq 5, 3) := by decide +kernel
theorem dX12_which_18 : decode cX12_which 18 = .ok (.iload_n 2, 1) := by decide +kernel
theorem dX12_which_19 : decode cX12_which 19 = .ok (.ireturn, 1) := by decide +kernel
theorem dX12_which_20 : decode cX12_which 20 = .ok (.iinc 2 1, 3) := by decide +kernel
theorem dX12_which_23 : decode cX12_which 23 = .ok (.goto (-21), 3) := by decide +kernel
theorem dX12_which_26 : decode cX12_which 26 = .ok (.iconst (-1), 1) := by decide +kernel
theorem dX12_which_27 : decode cX12_which 27 = .ok (.ireturn, 1) := by decide +kernel
theorem dX12_word_0 : decode cX12_word 0 = .ok (.aload_n 0, 1) := by decide +kernel
theorem dX12_word_1 : decode cX12_word 1 = .ok (.getfield 228, 3) := by decide +kernel
theorem dX12_word_4 : decode cX12_word 4 = .ok (.ifCond .ne 16, 3) := by decide +kernel
theorem dX12_word_7 : decode cX12_word 7 = .ok (.aload_n 0, 1) := by decide +kernel
theorem dX12_word_8 : decode cX12_word 8 = .ok (.aload_n 1, 1) := by decide +kernel
theorem dX12_word_9 : decode cX12_word 9 = .ok (.invokevirtual 242, 3) := by decide +kernel
theorem dX12_word_12 : decode cX12_word 12 = .ok (.ifCond .ne 8, 3) := by decide +kernel
theorem dX12_word_15 : decode cX12_word 15 = .ok (.aload_n 0, 1) := by decide +kernel
theorem dX12_word_16 : decode cX12_word 16 = .ok (.iconst 1, 1) := by decide +kernel
theorem dX12_word_17 : decode cX12_word 17 = .ok (.invokevirtual 246, 3) := by decide +kernel
theorem dX12_word_20 : decode cX12_word 20 = .ok (.aload_n 0, 1) := by decide +kernel
theorem dX12_word_21 : decode cX12_word 21 = .ok (.getfield 228, 3) := by decide +kernel
theorem dX12_word_24 : decode cX12_word 24 = .ok (.ifCond .ne 7, 3) := by decide +kernel
theorem dX12_word_27 : decode cX12_word 27 = .ok (.aload_n 0, 1) := by decide +kernel
theorem dX12_word_28 : decode cX12_word 28 = .ok (.invokevirtual 249, 3) := by decide +kernel
theorem dX12_word_31 : decode cX12_word 31 = .ok (.return_, 1) := by decide +kernel
theorem dX12_readNumber_0 : decode cX12_readNumber 0 = .ok (.aload_n 0, 1) := by decide +kernel
theorem dX12_readNumber_1 : decode cX12_readNumber 1 = .ok (.getfield 228, 3) := by decide +kernel
theorem dX12_readNumber_4 : decode cX12_readNumber 4 = .ok (.ifCond .eq 5, 3) := by decide +kernel
theorem dX12_readNumber_7 : decode cX12_readNumber 7 = .ok (.iconst 0, 1) := by decide +kernel
theorem dX12_readNumber_8 : decode cX12_readNumber 8 = .ok (.ireturn, 1) := by decide +kernel
theorem dX12_readNumber_9 : decode cX12_readNumber 9 = .ok (.aload_n 0, 1) := by decide +kernel
theorem dX12_readNumber_10 : decode cX12_readNumber 10 = .ok (.getfield 205, 3) := by decide +kernel
theorem dX12_readNumber_13 : decode cX12_readNumber 13 = .ok (.iconst 2, 1) := by decide +kernel
theorem dX12_readNumber_14 : decode cX12_readNumber 14 = .ok (.if_icmp .eq 11, 3) := by decide +kernel
theorem dX12_readNumber_17 : decode cX12_readNumber 17 = .ok (.aload_n 0, 1) := by decide +kernel
theorem dX12_readNumber_18 : decode cX12_readNumber 18 = .ok (.iconst 1, 1) := by decide +kernel
theorem dX12_readNumber_19 : decode cX12_readNumber 19 = .ok (.invokevirtual 246, 3) := by decide +kernel
theorem dX12_readNumber_22 : decode cX12_readNumber 22 = .ok (.goto 37, 3) := by decide +kernel
theorem dX12_readNumber_25 : decode cX12_readNumber 25 = .ok (.aload_n 0, 1) := by decide +kernel
theorem dX12_readNumber_26 : decode cX12_readNumber 26 = .ok (.getfield 225, 3) := by decide +kernel
theorem dX12_readNumber_29 : decode cX12_readNumber 29 = .ok (.aload_n 0, 1) := by decide +kernel
theorem dX12_readNumber_30 : decode cX12_readNumber 30 = .ok (.getfield 202, 3) := by decide +kernel
theorem dX12_readNumber_33 : decode cX12_readNumber 33 = .ok (.isub, 1) := by decide +kernel
theorem dX12_readNumber_34 : decode cX12_readNumber 34 = .ok (.iconst 4, 1) := by decide +kernel
theorem dX12_readNumber_35 : decode cX12_readNumber 35 = .ok (.if_icmp .gt 19, 3) := by decide +kernel
theorem dX12_readNumber_38 : decode cX12_readNumber 38 = .ok (.aload_n 0, 1) := by decide +kernel
theorem dX12_readNumber_39 : decode cX12_readNumber 39 = .ok (.getfield 215, 3) := by decide +kernel
theorem dX12_readNumber_42 : decode cX12_readNumber 42 = .ok (.iload_n 1, 1) := by decide +kernel
theorem dX12_readNumber_43 : decode cX12_readNumber 43 = .ok (.if_icmp .lt 11, 3) := by decide +kernel
theorem dX12_readNumber_46 : decode cX12_readNumber 46 = .ok (.aload_n 0, 1) := by decide +kernel
theorem dX12_readNumber_47 : decode cX12_readNumber 47 = .ok (.getfield 215, 3) := by decide +kernel
theorem dX12_readNumber_50 : decode cX12_readNumber 50 = .ok (.iload_n 2, 1) := by decide +kernel
theorem dX12_readNumber_51 : decode cX12_readNumber 51 = .ok (.if_icmp .le 8, 3) := by decide +kernel
theorem dX12_readNumber_54 : decode cX12_readNumber 54 = .ok (.aload_n 0, 1) := by decide +kernel
theorem dX12_readNumber_55 : decode cX12_readNumber 55 = .ok (.iconst 2, 1) := by decide +kernel
theorem dX12_readNumber_56 : decode cX12_readNumber 56 = .ok (.invokevirtual 246, 3) := by decide +kernel
theorem dX12_readNumber_59 : decode cX12_readNumber 59 = .ok (.aload_n 0, 1) := by decide +kernel
theorem dX12_readNumber_60 : decode cX12_readNumber 60 = .ok (.getfield 215, 3) := by decide +kernel
theorem dX12_readNumber_63 : decode cX12_readNumber 63 = .ok (.istore_n 3, 1) := by decide +kernel
theorem dX12_readNumber_64 : decode cX12_readNumber 64 = .ok (.aload_n 0, 1) := by decide +kernel
theorem dX12_readNumber_65 : decode cX12_readNumber 65 = .ok (.getfield 228, 3) := by decide +kernel
theorem dX12_readNumber_68 : decode cX12_readNumber 68 = .ok (.ifCond .ne 7, 3) := by decide +kernel
theorem dX12_readNumber_71 : decode cX12_readNumber 71 = .ok (.aload_n 0, 1) := by decide +kernel
theorem dX12_readNumber_72 : decode cX12_readNumber 72 = .ok (.invokevirtual 249, 3) := by decide +kernel
theorem dX12_readNumber_75 : decode cX12_readNumber 75 = .ok (.iload_n 3, 1) := by decide +kernel
theorem dX12_readNumber_76 : decode cX12_readNumber 76 = .ok (.ireturn, 1) := by decide +kernel
theorem dX12_readChimney_0 : decode cX12_readChimney 0 = .ok (.aload_n 0, 1) := by decide +kernel
theorem dX12_readChimney_1 : decode cX12_readChimney 1 = .ok (.getfield 228, 3) := by decide +kernel
theorem dX12_readChimney_4 : decode cX12_readChimney 4 = .ok (.ifCond .eq 5, 3) := by decide +kernel
theorem dX12_readChimney_7 : decode cX12_readChimney 7 = .ok (.iconst 0, 1) := by decide +kernel
theorem dX12_readChimney_8 : decode cX12_readChimney 8 = .ok (.ireturn, 1) := by decide +kernel
theorem dX12_readChimney_9 : decode cX12_readChimney 9 = .ok (.aload_n 0, 1) := by decide +kernel
theorem dX12_readChimney_10 : decode cX12_readChimney 10 = .ok (.getfield 205, 3) := by decide +kernel
theorem dX12_readChimney_13 : decode cX12_readChimney 13 = .ok (.iconst 2, 1) := by decide +kernel
theorem dX12_readChimney_14 : decode cX12_readChimney 14 = .ok (.if_icmp .eq 11, 3) := by decide +kernel
theorem dX12_readChimney_17 : decode cX12_readChimney 17 = .ok (.aload_n 0, 1) := by decide +kernel
theorem dX12_readChimney_18 : decode cX12_readChimney 18 = .ok (.iconst 1, 1) := by decide +kernel
theorem dX12_readChimney_19 : decode cX12_readChimney 19 = .ok (.invokevirtual 246, 3) := by decide +kernel
theorem dX12_readChimney_22 : decode cX12_readChimney 22 = .ok (.goto 58, 3) := by decide +kernel
theorem dX12_readChimney_25 : decode cX12_readChimney 25 = .ok (.aload_n 0, 1) := by decide +kernel
theorem dX12_readChimney_26 : decode cX12_readChimney 26 = .ok (.getfield 225, 3) := by decide +kernel
theorem dX12_readChimney_29 : decode cX12_readChimney 29 = .ok (.aload_n 0, 1) := by decide +kernel
theorem dX12_readChimney_30 : decode cX12_readChimney 30 = .ok (.getfield 202, 3) := by decide +kernel
theorem dX12_readChimney_33 : decode cX12_readChimney 33 = .ok (.isub, 1) := by decide +kernel
theorem dX12_readChimney_34 : decode cX12_readChimney 34 = .ok (.iconst 4, 1) := by decide +kernel
theorem dX12_readChimney_35 : decode cX12_readChimney 35 = .ok (.if_icmp .le 11, 3) := by decide +kernel
theorem dX12_readChimney_38 : decode cX12_readChimney 38 = .ok (.aload_n 0, 1) := by decide +kernel
theorem dX12_readChimney_39 : decode cX12_readChimney 39 = .ok (.iconst 2, 1) := by decide +kernel
theorem dX12_readChimney_40 : decode cX12_readChimney 40 = .ok (.invokevirtual 246, 3) := by decide +kernel
theorem dX12_readChimney_43 : decode cX12_readChimney 43 = .ok (.goto 37, 3) := by decide +kernel
theorem dX12_readChimney_46 : decode cX12_readChimney 46 = .ok (.aload_n 0, 1) := by decide +kernel
theorem dX12_readChimney_47 : decode cX12_readChimney 47 = .ok (.getfield 215, 3) := by decide +kernel
theorem dX12_readChimney_50 : decode cX12_readChimney 50 = .ok (.aload_n 0, 1) := by decide +kernel
theorem dX12_readChimney_51 : decode cX12_readChimney 51 = .ok (.getfield 25, 3) := by decide +kernel
theorem dX12_readChimney_54 : decode cX12_readChimney 54 = .ok (.iconst 1, 1) := by decide +kernel
theorem dX12_readChimney_55 : decode cX12_readChimney 55 = .ok (.iaload, 1) := by decide +kernel
theorem dX12_readChimney_56 : decode cX12_readChimney 56 = .ok (.if_icmp .lt 11, 3) := by decide +kernel
theorem dX12_readChimney_59 : decode cX12_readChimney 59 = .ok (.aload_n 0, 1) := by decide +kernel
theorem dX12_readChimney_60 : decode cX12_readChimney 60 = .ok (.iconst 3, 1) := by decide +kernel
theorem dX12_readChimney_61 : decode cX12_readChimney 61 = .ok (.invokevirtual 246, 3) := by decide +kernel
theorem dX12_readChimney_64 : decode cX12_readChimney 64 = .ok (.goto 16, 3) := by decide +kernel
theorem dX12_readChimney_67 : decode cX12_readChimney 67 = .ok (.aload_n 0, 1) := by decide +kernel
theorem dX12_readChimney_68 : decode cX12_readChimney 68 = .ok (.getfield 215, 3) := by decide +kernel
theorem dX12_readChimney_71 : decode cX12_readChimney 71 = .ok (.iload_n 1, 1) := by decide +kernel
theorem dX12_readChimney_72 : decode cX12_readChimney 72 = .ok (.if_icmp .ne 8, 3) := by decide +kernel
theorem dX12_readChimney_75 : decode cX12_readChimney 75 = .ok (.aload_n 0, 1) := by decide +kernel
theorem dX12_readChimney_76 : decode cX12_readChimney 76 = .ok (.iconst 5, 1) := by decide +kernel
theorem dX12_readChimney_77 : decode cX12_readChimney 77 = .ok (.invokevirtual 246, 3) := by decide +kernel
theorem dX12_readChimney_80 : decode cX12_readChimney 80 = .ok (.aload_n 0, 1) := by decide +kernel
theorem dX12_readChimney_81 : decode cX12_readChimney 81 = .ok (.getfield 215, 3) := by decide +kernel
theorem dX12_readChimney_84 : decode cX12_readChimney 84 = .ok (.istore_n 2, 1) := by decide +kernel
theorem dX12_readChimney_85 : decode cX12_readChimney 85 = .ok (.aload_n 0, 1) := by decide +kernel
theorem dX12_readChimney_86 : decode cX12_readChimney 86 = .ok (.getfield 228, 3) := by decide +kernel
theorem dX12_readChimney_89 : decode cX12_readChimney 89 = .ok (.ifCond .ne 7, 3) := by decide +kernel
theorem dX12_readChimney_92 : decode cX12_readChimney 92 = .ok (.aload_n 0, 1) := by decide +kernel
theorem dX12_readChimney_93 : decode cX12_readChimney 93 = .ok (.invokevirtual 249, 3) := by decide +kernel
theorem dX12_readChimney_96 : decode cX12_readChimney 96 = .ok (.iload_n 2, 1) := by decide +kernel
theorem dX12_readChimney_97 : decode cX12_readChimney 97 = .ok (.ireturn, 1) := by decide +kernel
theorem dX12_readTill_0 : decode cX12_readTill 0 = .ok (.aload_n 0, 1) := by decide +kernel
theorem dX12_readTill_1 : decode cX12_readTill 1 = .ok (.ldc 252, 2) := by decide +kernel
theorem dX12_readTill_3 : decode cX12_readTill 3 = .ok (.invokevirtual 254, 3) := by decide +kernel
theorem dX12_readTill_6 : decode cX12_readTill 6 = .ok (.aload_n 0, 1) := by decide +kernel
theorem dX12_readTill_7 : decode cX12_readTill 7 = .ok (.getfield 228, 3) := by decide +kernel
theorem dX12_readTill_10 : decode cX12_readTill 10 = .ok (.ifCond .ne 37, 3) := by decide +kernel
theorem dX12_readTill_13 : decode cX12_readTill 13 = .ok (.aload_n 0, 1) := by decide +kernel
theorem dX12_readTill_14 : decode cX12_readTill 14 = .ok (.getfield 205, 3) := by decide +kernel
theorem dX12_readTill_17 : decode cX12_readTill 17 = .ok (.iconst 2, 1) := by decide +kernel
theorem dX12_readTill_18 : decode cX12_readTill 18 = .ok (.if_icmp .ne 29, 3) := by decide +kernel
theorem dX12_readTill_21 : decode cX12_readTill 21 = .ok (.aload_n 0, 1) := by decide +kernel
theorem dX12_readTill_22 : decode cX12_readTill 22 = .ok (.getfield 225, 3) := by decide +kernel
theorem dX12_readTill_25 : decode cX12_readTill 25 = .ok (.aload_n 0, 1) := by decide +kernel
theorem dX12_readTill_26 : decode cX12_readTill 26 = .ok (.getfield 202, 3) := by decide +kernel
theorem dX12_readTill_29 : decode cX12_readTill 29 = .ok (.isub, 1) := by decide +kernel
theorem dX12_readTill_30 : decode cX12_readTill 30 = .ok (.iconst 4, 1) := by decide +kernel
theorem dX12_readTill_31 : decode cX12_readTill 31 = .ok (.if_icmp .gt 16, 3) := by decide +kernel
theorem dX12_readTill_34 : decode cX12_readTill 34 = .ok (.aload_n 0, 1) := by decide +kernel
theorem dX12_readTill_35 : decode cX12_readTill 35 = .ok (.getfield 215, 3) := by decide +kernel
theorem dX12_readTill_38 : decode cX12_readTill 38 = .ok (.iload_n 1, 1) := by decide +kernel
theorem dX12_readTill_39 : decode cX12_readTill 39 = .ok (.if_icmp .ge 8, 3) := by decide +kernel
theorem dX12_readTill_42 : decode cX12_readTill 42 = .ok (.aload_n 0, 1) := by decide +kernel
theorem dX12_readTill_43 : decode cX12_readTill 43 = .ok (.iconst 4, 1) := by decide +kernel
theorem dX12_readTill_44 : decode cX12_readTill 44 = .ok (.invokevirtual 246, 3) := by decide +kernel
theorem dX12_readTill_47 : decode cX12_readTill 47 = .ok (.aload_n 0, 1) := by decide +kernel
theorem dX12_readTill_48 : decode cX12_readTill 48 = .ok (.iconst 0, 1) := by decide +kernel
theorem dX12_readTill_49 : decode cX12_readTill 49 = .ok (.bipush 29, 2) := by decide +kernel
theorem dX12_readTill_51 : decode cX12_readTill 51 = .ok (.invokevirtual 258, 3) := by decide +kernel
theorem dX12_readTill_54 : decode cX12_readTill 54 = .ok (.ireturn, 1) := by decide +kernel
theorem dX12_readWinds_0 : decode cX12_readWinds 0 = .ok (.aload_n 0, 1) := by decide +kernel
theorem dX12_readWinds_1 : decode cX12_readWinds 1 = .ok (.getfield 228, 3) := by decide +kernel
theorem dX12_readWinds_4 : decode cX12_readWinds 4 = .ok (.ifCond .ne 27, 3) := by decide +kernel
theorem dX12_readWinds_7 : decode cX12_readWinds 7 = .ok (.aload_n 0, 1) := by decide +kernel
theorem dX12_readWinds_8 : decode cX12_readWinds 8 = .ok (.getfield 205, 3) := by decide +kernel
theorem dX12_readWinds_11 : decode cX12_readWinds 11 = .ok (.iconst 2, 1) := by decide +kernel
theorem dX12_readWinds_12 : decode cX12_readWinds 12 = .ok (.if_icmp .ne 19, 3) := by decide +kernel
theorem dX12_readWinds_15 : decode cX12_readWinds 15 = .ok (.aload_n 0, 1) := by decide +kernel
theorem dX12_readWinds_16 : decode cX12_readWinds 16 = .ok (.getfield 32, 3) := by decide +kernel
theorem dX12_readWinds_19 : decode cX12_readWinds 19 = .ok (.iconst 1, 1) := by decide +kernel
theorem dX12_readWinds_20 : decode cX12_readWinds 20 = .ok (.iaload, 1) := by decide +kernel
theorem dX12_readWinds_21 : decode cX12_readWinds 21 = .ok (.bipush 30, 2) := by decide +kernel
theorem dX12_readWinds_23 : decode cX12_readWinds 23 = .ok (.if_icmp .ne 8, 3) := by decide +kernel
theorem dX12_readWinds_26 : decode cX12_readWinds 26 = .ok (.aload_n 0, 1) := by decide +kernel
theorem dX12_readWinds_27 : decode cX12_readWinds 27 = .ok (.iconst 2, 1) := by decide +kernel
theorem dX12_readWinds_28 : decode cX12_readWinds 28 = .ok (.invokevirtual 246, 3) := by decide +kernel
theorem dX12_readWinds_31 : decode cX12_readWinds 31 = .ok (.aload_n 0, 1) := by decide +kernel
theorem dX12_readWinds_32 : decode cX12_readWinds 32 = .ok (.iconst 0, 1) := by decide +kernel
theorem dX12_readWinds_33 : decode cX12_readWinds 33 = .ok (.bipush 12, 2) := by decide +kernel
theorem dX12_readWinds_35 : decode cX12_readWinds 35 = .ok (.invokevirtual 258, 3) := by decide +kernel
theorem dX12_readWinds_38 : decode cX12_readWinds 38 = .ok (.istore_n 1, 1) := by decide +kernel
theorem dX12_readWinds_39 : decode cX12_readWinds 39 = .ok (.aload_n 0, 1) := by decide +kernel
theorem dX12_readWinds_40 : decode cX12_readWinds 40 = .ok (.getfield 228, 3) := by decide +kernel
theorem dX12_readWinds_43 : decode cX12_readWinds 43 = .ok (.ifCond .eq 4, 3) := by decide +kernel
theorem dX12_readWinds_46 : decode cX12_readWinds 46 = .ok (.return_, 1) := by decide +kernel
theorem dX12_readWinds_47 : decode cX12_readWinds 47 = .ok (.aload_n 0, 1) := by decide +kernel
theorem dX12_readWinds_48 : decode cX12_readWinds 48 = .ok (.getfield 41, 3) := by decide +kernel
theorem dX12_readWinds_51 : decode cX12_readWinds 51 = .ok (.bipush 30, 2) := by decide +kernel
theorem dX12_readWinds_53 : decode cX12_readWinds 53 = .ok (.aload_n 0, 1) := by decide +kernel
theorem dX12_readWinds_54 : decode cX12_readWinds 54 = .ok (.getfield 32, 3) := by decide +kernel
theorem dX12_readWinds_57 : decode cX12_readWinds 57 = .ok (.iconst 1, 1) := by decide +kernel
theorem dX12_readWinds_58 : decode cX12_readWinds 58 = .ok (.iaload, 1) := by decide +kernel
theorem dX12_readWinds_59 : decode cX12_readWinds 59 = .ok (.iadd, 1) := by decide +kernel
theorem dX12_readWinds_60 : decode cX12_readWinds 60 = .ok (.iload_n 1, 1) := by decide +kernel
theorem dX12_readWinds_61 : decode cX12_readWinds 61 = .ok (.iastore, 1) := by decide +kernel
theorem dX12_readWinds_62 : decode cX12_readWinds 62 = .ok (.aload_n 0, 1) := by decide +kernel
theorem dX12_readWinds_63 : decode cX12_readWinds 63 = .ok (.getfield 32, 3) := by decide +kernel
theorem dX12_readWinds_66 : decode cX12_readWinds 66 = .ok (.iconst 1, 1) := by decide +kernel
theorem dX12_readWinds_67 : decode cX12_readWinds 67 = .ok (.dup2, 1) := by decide +kernel
theorem dX12_readWinds_68 : decode cX12_readWinds 68 = .ok (.iaload, 1) := by decide +kernel
theorem dX12_readWinds_69 : decode cX12_readWinds 69 = .ok (.iconst 1, 1) := by decide +kernel
theorem dX12_readWinds_70 : decode cX12_readWinds 70 = .ok (.iadd, 1) := by decide +kernel
theorem dX12_readWinds_71 : decode cX12_readWinds 71 = .ok (.iastore, 1) := by decide +kernel
theorem dX12_readWinds_72 : decode cX12_readWinds 72 = .ok (.aload_n 0, 1) := by decide +kernel
theorem dX12_readWinds_73 : decode cX12_readWinds 73 = .ok (.getfield 205, 3) := by decide +kernel
theorem dX12_readWinds_76 : decode cX12_readWinds 76 = .ok (.iconst 2, 1) := by decide +kernel
theorem dX12_readWinds_77 : decode cX12_readWinds 77 = .ok (.if_icmp .eq (-77), 3) := by decide +kernel
theorem dX12_readWinds_80 : decode cX12_readWinds 80 = .ok (.return_, 1) := by decide +kernel
theorem dX12_readLetter_0 : decode cX12_readLetter 0 = .ok (.bipush 8, 2) := by decide +kernel
theorem dX12_readLetter_2 : decode cX12_readLetter 2 = .ok (.aload_n 0, 1) := by decide +kernel
theorem dX12_readLetter_3 : decode cX12_readLetter 3 = .ok (.getfield 29, 3) := by decide +kernel
theorem dX12_readLetter_6 : decode cX12_readLetter 6 = .ok (.iconst 1, 1) := by decide +kernel
theorem dX12_readLetter_7 : decode cX12_readLetter 7 = .ok (.iaload, 1) := by decide +kernel
theorem dX12_readLetter_8 : decode cX12_readLetter 8 = .ok (.iadd, 1) := by decide +kernel
theorem dX12_readLetter_9 : decode cX12_readLetter 9 = .ok (.bipush 6, 2) := by decide +kernel
theorem dX12_readLetter_11 : decode cX12_readLetter 11 = .ok (.imul, 1) := by decide +kernel
theorem dX12_readLetter_12 : decode cX12_readLetter 12 = .ok (.istore_n 1, 1) := by decide +kernel
theorem dX12_readLetter_13 : decode cX12_readLetter 13 = .ok (.aload_n 0, 1) := by decide +kernel
theorem dX12_readLetter_14 : decode cX12_readLetter 14 = .ok (.getfield 43, 3) := by decide +kernel
theorem dX12_readLetter_17 : decode cX12_readLetter 17 = .ok (.iload_n 1, 1) := by decide +kernel
theorem dX12_readLetter_18 : decode cX12_readLetter 18 = .ok (.aload_n 0, 1) := by decide +kernel
theorem dX12_readLetter_19 : decode cX12_readLetter 19 = .ok (.iconst (-1), 1) := by decide +kernel
theorem dX12_readLetter_20 : decode cX12_readLetter 20 = .ok (.invokevirtual 261, 3) := by decide +kernel
theorem dX12_readLetter_23 : decode cX12_readLetter 23 = .ok (.iastore, 1) := by decide +kernel
theorem dX12_readLetter_24 : decode cX12_readLetter 24 = .ok (.aload_n 0, 1) := by decide +kernel
theorem dX12_readLetter_25 : decode cX12_readLetter 25 = .ok (.ldc_w 264, 3) := by decide +kernel
theorem dX12_readLetter_28 : decode cX12_readLetter 28 = .ok (.invokevirtual 254, 3) := by decide +kernel
theorem dX12_readLetter_31 : decode cX12_readLetter 31 = .ok (.aload_n 0, 1) := by decide +kernel
theorem dX12_readLetter_32 : decode cX12_readLetter 32 = .ok (.getfield 43, 3) := by decide +kernel
theorem dX12_readLetter_35 : decode cX12_readLetter 35 = .ok (.iload_n 1, 1) := by decide +kernel
theorem dX12_readLetter_36 : decode cX12_readLetter 36 = .ok (.iconst 1, 1) := by decide +kernel
theorem dX12_readLetter_37 : decode cX12_readLetter 37 = .ok (.iadd, 1) := by decide +kernel
theorem dX12_readLetter_38 : decode cX12_readLetter 38 = .ok (.aload_n 0, 1) := by decide +kernel
theorem dX12_readLetter_39 : decode cX12_readLetter 39 = .ok (.iconst 1, 1) := by decide +kernel
theorem dX12_readLetter_40 : decode cX12_readLetter 40 = .ok (.bipush 9, 2) := by decide +kernel
theorem dX12_readLetter_42 : decode cX12_readLetter 42 = .ok (.invokevirtual 258, 3) := by decide +kernel
theorem dX12_readLetter_45 : decode cX12_readLetter 45 = .ok (.iastore, 1) := by decide +kernel
theorem dX12_readLetter_46 : decode cX12_readLetter 46 = .ok (.aload_n 0, 1) := by decide +kernel
theorem dX12_readLetter_47 : decode cX12_readLetter 47 = .ok (.ldc_w 266, 3) := by decide +kernel
theorem dX12_readLetter_50 : decode cX12_readLetter 50 = .ok (.invokevirtual 254, 3) := by decide +kernel
theorem dX12_readLetter_53 : decode cX12_readLetter 53 = .ok (.aload_n 0, 1) := by decide +kernel
theorem dX12_readLetter_54 : decode cX12_readLetter 54 = .ok (.getfield 43, 3) := by decide +kernel
theorem dX12_readLetter_57 : decode cX12_readLetter 57 = .ok (.iload_n 1, 1) := by decide +kernel
theorem dX12_readLetter_58 : decode cX12_readLetter 58 = .ok (.iconst 2, 1) := by decide +kernel
theorem dX12_readLetter_59 : decode cX12_readLetter 59 = .ok (.iadd, 1) := by decide +kernel
theorem dX12_readLetter_60 : decode cX12_readLetter 60 = .ok (.aload_n 0, 1) := by decide +kernel
theorem dX12_readLetter_61 : decode cX12_readLetter 61 = .ok (.iconst 0, 1) := by decide +kernel
theorem dX12_readLetter_62 : decode cX12_readLetter 62 = .ok (.bipush 12, 2) := by decide +kernel
theorem dX12_readLetter_64 : decode cX12_readLetter 64 = .ok (.invokevirtual 258, 3) := by decide +kernel
theorem dX12_readLetter_67 : decode cX12_readLetter 67 = .ok (.iastore, 1) := by decide +kernel
theorem dX12_readLetter_68 : decode cX12_readLetter 68 = .ok (.aload_n 0, 1) := by decide +kernel
theorem dX12_readLetter_69 : decode cX12_readLetter 69 = .ok (.ldc_w 268, 3) := by decide +kernel
theorem dX12_readLetter_72 : decode cX12_readLetter 72 = .ok (.invokevirtual 254, 3) := by decide +kernel
theorem dX12_readLetter_75 : decode cX12_readLetter 75 = .ok (.aload_n 0, 1) := by decide +kernel
theorem dX12_readLetter_76 : decode cX12_readLetter 76 = .ok (.getfield 43, 3) := by decide +kernel
theorem dX12_readLetter_79 : decode cX12_readLetter 79 = .ok (.iload_n 1, 1) := by decide +kernel
theorem dX12_readLetter_80 : decode cX12_readLetter 80 = .ok (.iconst 3, 1) := by decide +kernel
theorem dX12_readLetter_81 : decode cX12_readLetter 81 = .ok (.iadd, 1) := by decide +kernel
theorem dX12_readLetter_82 : decode cX12_readLetter 82 = .ok (.aload_n 0, 1) := by decide +kernel
theorem dX12_readLetter_83 : decode cX12_readLetter 83 = .ok (.iconst 0, 1) := by decide +kernel
theorem dX12_readLetter_84 : decode cX12_readLetter 84 = .ok (.bipush 29, 2) := by decide +kernel
theorem dX12_readLetter_86 : decode cX12_readLetter 86 = .ok (.invokevirtual 258, 3) := by decide +kernel
theorem dX12_readLetter_89 : decode cX12_readLetter 89 = .ok (.iastore, 1) := by decide +kernel
theorem dX12_readLetter_90 : decode cX12_readLetter 90 = .ok (.aload_n 0, 1) := by decide +kernel
theorem dX12_readLetter_91 : decode cX12_readLetter 91 = .ok (.getfield 43, 3) := by decide +kernel
theorem dX12_readLetter_94 : decode cX12_readLetter 94 = .ok (.iload_n 1, 1) := by decide +kernel
theorem dX12_readLetter_95 : decode cX12_readLetter 95 = .ok (.iconst 4, 1) := by decide +kernel
theorem dX12_readLetter_96 : decode cX12_readLetter 96 = .ok (.iadd, 1) := by decide +kernel
theorem dX12_readLetter_97 : decode cX12_readLetter 97 = .ok (.aload_n 0, 1) := by decide +kernel
theorem dX12_readLetter_98 : decode cX12_readLetter 98 = .ok (.aload_n 0, 1) := by decide +kernel
theorem dX12_readLetter_99 : decode cX12_readLetter 99 = .ok (.getfield 43, 3) := by decide +kernel
theorem dX12_readLetter_102 : decode cX12_readLetter 102 = .ok (.iload_n 1, 1) := by decide +kernel
theorem dX12_readLetter_103 : decode cX12_readLetter 103 = .ok (.iconst 3, 1) := by decide +kernel
theorem dX12_readLetter_104 : decode cX12_readLetter 104 = .ok (.iadd, 1) := by decide +kernel
theorem dX12_readLetter_105 : decode cX12_readLetter 105 = .ok (.iaload, 1) := by decide +kernel
theorem dX12_readLetter_106 : decode cX12_readLetter 106 = .ok (.invokevirtual 270, 3) := by decide +kernel
theorem dX12_readLetter_109 : decode cX12_readLetter 109 = .ok (.iastore, 1) := by decide +kernel
theorem dX12_readLetter_110 : decode cX12_readLetter 110 = .ok (.aload_n 0, 1) := by decide +kernel
theorem dX12_readLetter_111 : decode cX12_readLetter 111 = .ok (.ldc_w 273, 3) := by decide +kernel
theorem dX12_readLetter_114 : decode cX12_readLetter 114 = .ok (.invokevirtual 254, 3) := by decide +kernel
theorem dX12_readLetter_117 : decode cX12_readLetter 117 = .ok (.aload_n 0, 1) := by decide +kernel
theorem dX12_readLetter_118 : decode cX12_readLetter 118 = .ok (.getfield 43, 3) := by decide +kernel
theorem dX12_readLetter_121 : decode cX12_readLetter 121 = .ok (.iload_n 1, 1) := by decide +kernel
theorem dX12_readLetter_122 : decode cX12_readLetter 122 = .ok (.iconst 5, 1) := by decide +kernel
theorem dX12_readLetter_123 : decode cX12_readLetter 123 = .ok (.iadd, 1) := by decide +kernel
theorem dX12_readLetter_124 : decode cX12_readLetter 124 = .ok (.aload_n 0, 1) := by decide +kernel
theorem dX12_readLetter_125 : decode cX12_readLetter 125 = .ok (.iconst 0, 1) := by decide +kernel
theorem dX12_readLetter_126 : decode cX12_readLetter 126 = .ok (.sipush 9999, 3) := by decide +kernel
theorem dX12_readLetter_129 : decode cX12_readLetter 129 = .ok (.invokevirtual 258, 3) := by decide +kernel
theorem dX12_readLetter_132 : decode cX12_readLetter 132 = .ok (.iastore, 1) := by decide +kernel
theorem dX12_readLetter_133 : decode cX12_readLetter 133 = .ok (.aload_n 0, 1) := by decide +kernel
theorem dX12_readLetter_134 : decode cX12_readLetter 134 = .ok (.getfield 29, 3) := by decide +kernel
theorem dX12_readLetter_137 : decode cX12_readLetter 137 = .ok (.iconst 1, 1) := by decide +kernel
theorem dX12_readLetter_138 : decode cX12_readLetter 138 = .ok (.dup2, 1) := by decide +kernel
theorem dX12_readLetter_139 : decode cX12_readLetter 139 = .ok (.iaload, 1) := by decide +kernel
theorem dX12_readLetter_140 : decode cX12_readLetter 140 = .ok (.iconst 1, 1) := by decide +kernel
theorem dX12_readLetter_141 : decode cX12_readLetter 141 = .ok (.iadd, 1) := by decide +kernel
theorem dX12_readLetter_142 : decode cX12_readLetter 142 = .ok (.iastore, 1) := by decide +kernel
theorem dX12_readLetter_143 : decode cX12_readLetter 143 = .ok (.return_, 1) := by decide +kernel
theorem dX12_readRoad_0 : decode cX12_readRoad 0 = .ok (.aload_n 0, 1) := by decide +kernel
theorem dX12_readRoad_1 : decode cX12_readRoad 1 = .ok (.iconst (-1), 1) := by decide +kernel
theorem dX12_readRoad_2 : decode cX12_readRoad 2 = .ok (.invokevirtual 261, 3) := by decide +kernel
theorem dX12_readRoad_5 : decode cX12_readRoad 5 = .ok (.istore_n 1, 1) := by decide +kernel
theorem dX12_readRoad_6 : decode cX12_readRoad 6 = .ok (.aload_n 0, 1) := by decide +kernel
theorem dX12_readRoad_7 : decode cX12_readRoad 7 = .ok (.iload_n 1, 1) := by decide +kernel
theorem dX12_readRoad_8 : decode cX12_readRoad 8 = .ok (.invokevirtual 261, 3) := by decide +kernel
theorem dX12_readRoad_11 : decode cX12_readRoad 11 = .ok (.istore_n 2, 1) := by decide +kernel
theorem dX12_readRoad_12 : decode cX12_readRoad 12 = .ok (.aload_n 0, 1) := by decide +kernel
theorem dX12_readRoad_13 : decode cX12_readRoad 13 = .ok (.ldc_w 275, 3) := by decide +kernel
theorem dX12_readRoad_16 : decode cX12_readRoad 16 = .ok (.invokevirtual 254, 3) := by decide +kernel
theorem dX12_readRoad_19 : decode cX12_readRoad 19 = .ok (.aload_n 0, 1) := by decide +kernel
theorem dX12_readRoad_20 : decode cX12_readRoad 20 = .ok (.iconst 0, 1) := by decide +kernel
theorem dX12_readRoad_21 : decode cX12_readRoad 21 = .ok (.bipush 9, 2) := by decide +kernel
theorem dX12_readRoad_23 : decode cX12_readRoad 23 = .ok (.invokevirtual 258, 3) := by decide +kernel
theorem dX12_readRoad_26 : decode cX12_readRoad 26 = .ok (.istore_n 3, 1) := by decide +kernel
theorem dX12_readRoad_27 : decode cX12_readRoad 27 = .ok (.aload_n 0, 1) := by decide +kernel
theorem dX12_readRoad_28 : decode cX12_readRoad 28 = .ok (.getfield 228, 3) := by decide +kernel
theorem dX12_readRoad_31 : decode cX12_readRoad 31 = .ok (.ifCond .eq 4, 3) := by decide +kernel
theorem dX12_readRoad_34 : decode cX12_readRoad 34 = .ok (.return_, 1) := by decide +kernel
theorem dX12_readRoad_35 : decode cX12_readRoad 35 = .ok (.aload_n 0, 1) := by decide +kernel
theorem dX12_readRoad_36 : decode cX12_readRoad 36 = .ok (.getfield 45, 3) := by decide +kernel
theorem dX12_readRoad_39 : decode cX12_readRoad 39 = .ok (.bipush 12, 2) := by decide +kernel
theorem dX12_readRoad_41 : decode cX12_readRoad 41 = .ok (.iload_n 1, 1) := by decide +kernel
theorem dX12_readRoad_42 : decode cX12_readRoad 42 = .ok (.iadd, 1) := by decide +kernel
theorem dX12_readRoad_43 : decode cX12_readRoad 43 = .ok (.bipush 12, 2) := by decide +kernel
theorem dX12_readRoad_45 : decode cX12_readRoad 45 = .ok (.imul, 1) := by decide +kernel
theorem dX12_readRoad_46 : decode cX12_readRoad 46 = .ok (.iload_n 2, 1) := by decide +kernel
theorem dX12_readRoad_47 : decode cX12_readRoad 47 = .ok (.iadd, 1) := by decide +kernel
theorem dX12_readRoad_48 : decode cX12_readRoad 48 = .ok (.iload_n 3, 1) := by decide +kernel
theorem dX12_readRoad_49 : decode cX12_readRoad 49 = .ok (.iastore, 1) := by decide +kernel
theorem dX12_readRoad_50 : decode cX12_readRoad 50 = .ok (.aload_n 0, 1) := by decide +kernel
theorem dX12_readRoad_51 : decode cX12_readRoad 51 = .ok (.getfield 45, 3) := by decide +kernel
theorem dX12_readRoad_54 : decode cX12_readRoad 54 = .ok (.bipush 12, 2) := by decide +kernel
theorem dX12_readRoad_56 : decode cX12_readRoad 56 = .ok (.iload_n 2, 1) := by decide +kernel
theorem dX12_readRoad_57 : decode cX12_readRoad 57 = .ok (.iadd, 1) := by decide +kernel
theorem dX12_readRoad_58 : decode cX12_readRoad 58 = .ok (.bipush 12, 2) := by decide +kernel
theorem dX12_readRoad_60 : decode cX12_readRoad 60 = .ok (.imul, 1) := by decide +kernel
theorem dX12_readRoad_61 : decode cX12_readRoad 61 = .ok (.iload_n 1, 1) := by decide +kernel
theorem dX12_readRoad_62 : decode cX12_readRoad 62 = .ok (.iadd, 1) := by decide +kernel
theorem dX12_readRoad_63 : decode cX12_readRoad 63 = .ok (.iload_n 3, 1) := by decide +kernel
theorem dX12_readRoad_64 : decode cX12_readRoad 64 = .ok (.iastore, 1) := by decide +kernel
theorem dX12_readRoad_65 : decode cX12_readRoad 65 = .ok (.return_, 1) := by decide +kernel
theorem dX12_readNest_0 : decode cX12_readNest 0 = .ok (.iconst 3, 1) := by decide +kernel
theorem dX12_readNest_1 : decode cX12_readNest 1 = .ok (.bipush 12, 2) := by decide +kernel
theorem dX12_readNest_3 : decode cX12_readNest 3 = .ok (.aload_n 0, 1) := by decide +kernel
theorem dX12_readNest_4 : decode cX12_readNest 4 = .ok (.getfield 35, 3) := by decide +kernel
theorem dX12_readNest_7 : decode cX12_readNest 7 = .ok (.iconst 1, 1) := by decide +kernel
theorem dX12_readNest_8 : decode cX12_readNest 8 = .ok (.iaload, 1) := by decide +kernel
theorem dX12_readNest_9 : decode cX12_readNest 9 = .ok (.iadd, 1) := by decide +kernel
theorem dX12_readNest_10 : decode cX12_readNest 10 = .ok (.imul, 1) := by decide +kernel
theorem dX12_readNest_11 : decode cX12_readNest 11 = .ok (.istore_n 1, 1) := by decide +kernel
theorem dX12_readNest_12 : decode cX12_readNest 12 = .ok (.aload_n 0, 1) := by decide +kernel
theorem dX12_readNest_13 : decode cX12_readNest 13 = .ok (.getfield 48, 3) := by decide +kernel
theorem dX12_readNest_16 : decode cX12_readNest 16 = .ok (.iload_n 1, 1) := by decide +kernel
theorem dX12_readNest_17 : decode cX12_readNest 17 = .ok (.aload_n 0, 1) := by decide +kernel
theorem dX12_readNest_18 : decode cX12_readNest 18 = .ok (.iconst (-1), 1) := by decide +kernel
theorem dX12_readNest_19 : decode cX12_readNest 19 = .ok (.invokevirtual 261, 3) := by decide +kernel
theorem dX12_readNest_22 : decode cX12_readNest 22 = .ok (.iastore, 1) := by decide +kernel
theorem dX12_readNest_23 : decode cX12_readNest 23 = .ok (.aload_n 0, 1) := by decide +kernel
theorem dX12_readNest_24 : decode cX12_readNest 24 = .ok (.ldc_w 268, 3) := by decide +kernel
theorem dX12_readNest_27 : decode cX12_readNest 27 = .ok (.invokevirtual 254, 3) := by decide +kernel
theorem dX12_readNest_30 : decode cX12_readNest 30 = .ok (.aload_n 0, 1) := by decide +kernel
theorem dX12_readNest_31 : decode cX12_readNest 31 = .ok (.getfield 48, 3) := by decide +kernel
theorem dX12_readNest_34 : decode cX12_readNest 34 = .ok (.iload_n 1, 1) := by decide +kernel
theorem dX12_readNest_35 : decode cX12_readNest 35 = .ok (.iconst 1, 1) := by decide +kernel
theorem dX12_readNest_36 : decode cX12_readNest 36 = .ok (.iadd, 1) := by decide +kernel
theorem dX12_readNest_37 : decode cX12_readNest 37 = .ok (.aload_n 0, 1) := by decide +kernel
theorem dX12_readNest_38 : decode cX12_readNest 38 = .ok (.iconst 0, 1) := by decide +kernel
theorem dX12_readNest_39 : decode cX12_readNest 39 = .ok (.bipush 29, 2) := by decide +kernel
theorem dX12_readNest_41 : decode cX12_readNest 41 = .ok (.invokevirtual 258, 3) := by decide +kernel
theorem dX12_readNest_44 : decode cX12_readNest 44 = .ok (.iastore, 1) := by decide +kernel
theorem dX12_readNest_45 : decode cX12_readNest 45 = .ok (.aload_n 0, 1) := by decide +kernel
theorem dX12_readNest_46 : decode cX12_readNest 46 = .ok (.getfield 48, 3) := by decide +kernel
theorem dX12_readNest_49 : decode cX12_readNest 49 = .ok (.iload_n 1, 1) := by decide +kernel
theorem dX12_readNest_50 : decode cX12_readNest 50 = .ok (.iconst 2, 1) := by decide +kernel
theorem dX12_readNest_51 : decode cX12_readNest 51 = .ok (.iadd, 1) := by decide +kernel
theorem dX12_readNest_52 : decode cX12_readNest 52 = .ok (.aload_n 0, 1) := by decide +kernel
theorem dX12_readNest_53 : decode cX12_readNest 53 = .ok (.aload_n 0, 1) := by decide +kernel
theorem dX12_readNest_54 : decode cX12_readNest 54 = .ok (.getfield 48, 3) := by decide +kernel
theorem dX12_readNest_57 : decode cX12_readNest 57 = .ok (.iload_n 1, 1) := by decide +kernel
theorem dX12_readNest_58 : decode cX12_readNest 58 = .ok (.iconst 1, 1) := by decide +kernel
theorem dX12_readNest_59 : decode cX12_readNest 59 = .ok (.iadd, 1) := by decide +kernel
theorem dX12_readNest_60 : decode cX12_readNest 60 = .ok (.iaload, 1) := by decide +kernel
theorem dX12_readNest_61 : decode cX12_readNest 61 = .ok (.invokevirtual 270, 3) := by decide +kernel
theorem dX12_readNest_64 : decode cX12_readNest 64 = .ok (.iastore, 1) := by decide +kernel
theorem dX12_readNest_65 : decode cX12_readNest 65 = .ok (.aload_n 0, 1) := by decide +kernel
theorem dX12_readNest_66 : decode cX12_readNest 66 = .ok (.getfield 35, 3) := by decide +kernel
theorem dX12_readNest_69 : decode cX12_readNest 69 = .ok (.iconst 1, 1) := by decide +kernel
theorem dX12_readNest_70 : decode cX12_readNest 70 = .ok (.dup2, 1) := by decide +kernel
theorem dX12_readNest_71 : decode cX12_readNest 71 = .ok (.iaload, 1) := by decide +kernel
theorem dX12_readNest_72 : decode cX12_readNest 72 = .ok (.iconst 1, 1) := by decide +kernel
theorem dX12_readNest_73 : decode cX12_readNest 73 = .ok (.iadd, 1) := by decide +kernel
theorem dX12_readNest_74 : decode cX12_readNest 74 = .ok (.iastore, 1) := by decide +kernel
theorem dX12_readNest_75 : decode cX12_readNest 75 = .ok (.return_, 1) := by decide +kernel
theorem dX12_readClause_0 : decode cX12_readClause 0 = .ok (.aload_n 0, 1) := by decide +kernel
theorem dX12_readClause_1 : decode cX12_readClause 1 = .ok (.aload_n 0, 1) := by decide +kernel
theorem dX12_readClause_2 : decode cX12_readClause 2 = .ok (.getfield 19, 3) := by decide +kernel
theorem dX12_readClause_5 : decode cX12_readClause 5 = .ok (.invokevirtual 276, 3) := by decide +kernel
theorem dX12_readClause_8 : decode cX12_readClause 8 = .ok (.istore_n 1, 1) := by decide +kernel
theorem dX12_readClause_9 : decode cX12_readClause 9 = .ok (.iload_n 1, 1) := by decide +kernel
theorem dX12_readClause_10 : decode cX12_readClause 10 = .ok (.ifCond .ne 14, 3) := by decide +kernel
theorem dX12_readClause_13 : decode cX12_readClause 13 = .ok (.aload_n 0, 1) := by decide +kernel
theorem dX12_readClause_14 : decode cX12_readClause 14 = .ok (.getfield 25, 3) := by decide +kernel
theorem dX12_readClause_17 : decode cX12_readClause 17 = .ok (.iconst 1, 1) := by decide +kernel
theorem dX12_readClause_18 : decode cX12_readClause 18 = .ok (.iaload, 1) := by decide +kernel
theorem dX12_readClause_19 : decode cX12_readClause 19 = .ok (.bipush 12, 2) := by decide +kernel
theorem dX12_readClause_21 : decode cX12_readClause 21 = .ok (.if_icmp .eq 35, 3) := by decide +kernel
theorem dX12_readClause_24 : decode cX12_readClause 24 = .ok (.iload_n 1, 1) := by decide +kernel
theorem dX12_readClause_25 : decode cX12_readClause 25 = .ok (.iconst 2, 1) := by decide +kernel
theorem dX12_readClause_26 : decode cX12_readClause 26 = .ok (.if_icmp .ne 14, 3) := by decide +kernel
theorem dX12_readClause_29 : decode cX12_readClause 29 = .ok (.aload_n 0, 1) := by decide +kernel
theorem dX12_readClause_30 : decode cX12_readClause 30 = .ok (.getfield 29, 3) := by decide +kernel
theorem dX12_readClause_33 : decode cX12_readClause 33 = .ok (.iconst 1, 1) := by decide +kernel
theorem dX12_readClause_34 : decode cX12_readClause 34 = .ok (.iaload, 1) := by decide +kernel
theorem dX12_readClause_35 : decode cX12_readClause 35 = .ok (.bipush 8, 2) := by decide +kernel
theorem dX12_readClause_37 : decode cX12_readClause 37 = .ok (.if_icmp .eq 19, 3) := by decide +kernel
theorem dX12_readClause_40 : decode cX12_readClause 40 = .ok (.iload_n 1, 1) := by decide +kernel
theorem dX12_readClause_41 : decode cX12_readClause 41 = .ok (.iconst 4, 1) := by decide +kernel
theorem dX12_readClause_42 : decode cX12_readClause 42 = .ok (.if_icmp .ne 18, 3) := by decide +kernel
theorem dX12_readClause_45 : decode cX12_readClause 45 = .ok (.aload_n 0, 1) := by decide +kernel
theorem dX12_readClause_46 : decode cX12_readClause 46 = .ok (.getfield 35, 3) := by decide +kernel
theorem dX12_readClause_49 : decode cX12_readClause 49 = .ok (.iconst 1, 1) := by decide +kernel
theorem dX12_readClause_50 : decode cX12_readClause 50 = .ok (.iaload, 1) := by decide +kernel
theorem dX12_readClause_51 : decode cX12_readClause 51 = .ok (.bipush 12, 2) := by decide +kernel
theorem dX12_readClause_53 : decode cX12_readClause 53 = .ok (.if_icmp .ne 7, 3) := by decide +kernel
theorem dX12_readClause_56 : decode cX12_readClause 56 = .ok (.iconst 1, 1) := by decide +kernel
theorem dX12_readClause_57 : decode cX12_readClause 57 = .ok (.goto 4, 3) := by decide +kernel
theorem dX12_readClause_60 : decode cX12_readClause 60 = .ok (.iconst 0, 1) := by decide +kernel
theorem dX12_readClause_61 : decode cX12_readClause 61 = .ok (.istore_n 2, 1) := by decide +kernel
theorem dX12_readClause_62 : decode cX12_readClause 62 = .ok (.iload_n 1, 1) := by decide +kernel
theorem dX12_readClause_63 : decode cX12_readClause 63 = .ok (.iconst (-1), 1) := by decide +kernel
theorem dX12_readClause_64 : decode cX12_readClause 64 = .ok (.if_icmp .ne 11, 3) := by decide +kernel
theorem dX12_readClause_67 : decode cX12_readClause 67 = .ok (.aload_n 0, 1) := by decide +kernel
theorem dX12_readClause_68 : decode cX12_readClause 68 = .ok (.iconst 1, 1) := by decide +kernel
theorem dX12_readClause_69 : decode cX12_readClause 69 = .ok (.invokevirtual 246, 3) := by decide +kernel
theorem dX12_readClause_72 : decode cX12_readClause 72 = .ok (.goto 12, 3) := by decide +kernel
theorem dX12_readClause_75 : decode cX12_readClause 75 = .ok (.iload_n 2, 1) := by decide +kernel
theorem dX12_readClause_76 : decode cX12_readClause 76 = .ok (.ifCond .eq 8, 3) := by decide +kernel
theorem dX12_readClause_79 : decode cX12_readClause 79 = .ok (.aload_n 0, 1) := by decide +kernel
theorem dX12_readClause_80 : decode cX12_readClause 80 = .ok (.iconst 2, 1) := by decide +kernel
theorem dX12_readClause_81 : decode cX12_readClause 81 = .ok (.invokevirtual 246, 3) := by decide +kernel
theorem dX12_readClause_84 : decode cX12_readClause 84 = .ok (.aload_n 0, 1) := by decide +kernel
theorem dX12_readClause_85 : decode cX12_readClause 85 = .ok (.getfield 228, 3) := by decide +kernel
theorem dX12_readClause_88 : decode cX12_readClause 88 = .ok (.ifCond .eq 4, 3) := by decide +kernel
theorem dX12_readClause_91 : decode cX12_readClause 91 = .ok (.return_, 1) := by decide +kernel
theorem dX12_readClause_92 : decode cX12_readClause 92 = .ok (.aload_n 0, 1) := by decide +kernel
theorem dX12_readClause_93 : decode cX12_readClause 93 = .ok (.invokevirtual 249, 3) := by decide +kernel
theorem dX12_readClause_96 : decode cX12_readClause 96 = .ok (.iload_n 1, 1) := by decide +kernel
theorem dX12_readClause_97 : decode cX12_readClause 97 = .ok (.ifCond .ne 38, 3) := by decide +kernel
theorem dX12_readClause_100 : decode cX12_readClause 100 = .ok (.aload_n 0, 1) := by decide +kernel
theorem dX12_readClause_101 : decode cX12_readClause 101 = .ok (.getfield 38, 3) := by decide +kernel
theorem dX12_readClause_104 : decode cX12_readClause 104 = .ok (.bipush 12, 2) := by decide +kernel
theorem dX12_readClause_106 : decode cX12_readClause 106 = .ok (.aload_n 0, 1) := by decide +kernel
theorem dX12_readClause_107 : decode cX12_readClause 107 = .ok (.getfield 25, 3) := by decide +kernel
theorem dX12_readClause_110 : decode cX12_readClause 110 = .ok (.iconst 1, 1) := by decide +kernel
theorem dX12_readClause_111 : decode cX12_readClause 111 = .ok (.iaload, 1) := by decide +kernel
theorem dX12_readClause_112 : decode cX12_readClause 112 = .ok (.iadd, 1) := by decide +kernel
theorem dX12_readClause_113 : decode cX12_readClause 113 = .ok (.aload_n 0, 1) := by decide +kernel
theorem dX12_readClause_114 : decode cX12_readClause 114 = .ok (.iconst 1, 1) := by decide +kernel
theorem dX12_readClause_115 : decode cX12_readClause 115 = .ok (.sipush 200, 3) := by decide +kernel
theorem dX12_readClause_118 : decode cX12_readClause 118 = .ok (.invokevirtual 258, 3) := by decide +kernel
theorem dX12_readClause_121 : decode cX12_readClause 121 = .ok (.iastore, 1) := by decide +kernel
theorem dX12_readClause_122 : decode cX12_readClause 122 = .ok (.aload_n 0, 1) := by decide +kernel
theorem dX12_readClause_123 : decode cX12_readClause 123 = .ok (.getfield 25, 3) := by decide +kernel
theorem dX12_readClause_126 : decode cX12_readClause 126 = .ok (.iconst 1, 1) := by decide +kernel
theorem dX12_readClause_127 : decode cX12_readClause 127 = .ok (.dup2, 1) := by decide +kernel
theorem dX12_readClause_128 : decode cX12_readClause 128 = .ok (.iaload, 1) := by decide +kernel
theorem dX12_readClause_129 : decode cX12_readClause 129 = .ok (.iconst 1, 1) := by decide +kernel
theorem dX12_readClause_130 : decode cX12_readClause 130 = .ok (.iadd, 1) := by decide +kernel
theorem dX12_readClause_131 : decode cX12_readClause 131 = .ok (.iastore, 1) := by decide +kernel
theorem dX12_readClause_132 : decode cX12_readClause 132 = .ok (.goto 43, 3) := by decide +kernel
theorem dX12_readClause_135 : decode cX12_readClause 135 = .ok (.iload_n 1, 1) := by decide +kernel
theorem dX12_readClause_136 : decode cX12_readClause 136 = .ok (.iconst 1, 1) := by decide +kernel
theorem dX12_readClause_137 : decode cX12_readClause 137 = .ok (.if_icmp .ne 10, 3) := by decide +kernel
theorem dX12_readClause_140 : decode cX12_readClause 140 = .ok (.aload_n 0, 1) := by decide +kernel
theorem dX12_readClause_141 : decode cX12_readClause 141 = .ok (.invokevirtual 280, 3) := by decide +kernel
theorem dX12_readClause_144 : decode cX12_readClause 144 = .ok (.goto 31, 3) := by decide +kernel
theorem dX12_readClause_147 : decode cX12_readClause 147 = .ok (.iload_n 1, 1) := by decide +kernel
theorem dX12_readClause_148 : decode cX12_readClause 148 = .ok (.iconst 2, 1) := by decide +kernel
theorem dX12_readClause_149 : decode cX12_readClause 149 = .ok (.if_icmp .ne 10, 3) := by decide +kernel
theorem dX12_readClause_152 : decode cX12_readClause 152 = .ok (.aload_n 0, 1) := by decide +kernel
theorem dX12_readClause_153 : decode cX12_readClause 153 = .ok (.invokevirtual 283, 3) := by decide +kernel
theorem dX12_readClause_156 : decode cX12_readClause 156 = .ok (.goto 19, 3) := by decide +kernel
theorem dX12_readClause_159 : decode cX12_readClause 159 = .ok (.iload_n 1, 1) := by decide +kernel
theorem dX12_readClause_160 : decode cX12_readClause 160 = .ok (.iconst 3, 1) := by decide +kernel
theorem dX12_readClause_161 : decode cX12_readClause 161 = .ok (.if_icmp .ne 10, 3) := by decide +kernel
theorem dX12_readClause_164 : decode cX12_readClause 164 = .ok (.aload_n 0, 1) := by decide +kernel
theorem dX12_readClause_165 : decode cX12_readClause 165 = .ok (.invokevirtual 286, 3) := by decide +kernel
theorem dX12_readClause_168 : decode cX12_readClause 168 = .ok (.goto 7, 3) := by decide +kernel
theorem dX12_readClause_171 : decode cX12_readClause 171 = .ok (.aload_n 0, 1) := by decide +kernel
theorem dX12_readClause_172 : decode cX12_readClause 172 = .ok (.invokevirtual 289, 3) := by decide +kernel
theorem dX12_readClause_175 : decode cX12_readClause 175 = .ok (.aload_n 0, 1) := by decide +kernel
theorem dX12_readClause_176 : decode cX12_readClause 176 = .ok (.getfield 228, 3) := by decide +kernel
theorem dX12_readClause_179 : decode cX12_readClause 179 = .ok (.ifCond .ne 16, 3) := by decide +kernel
theorem dX12_readClause_182 : decode cX12_readClause 182 = .ok (.aload_n 0, 1) := by decide +kernel
theorem dX12_readClause_183 : decode cX12_readClause 183 = .ok (.getfield 205, 3) := by decide +kernel
theorem dX12_readClause_186 : decode cX12_readClause 186 = .ok (.iconst 3, 1) := by decide +kernel
theorem dX12_readClause_187 : decode cX12_readClause 187 = .ok (.if_icmp .eq 8, 3) := by decide +kernel
theorem dX12_readClause_190 : decode cX12_readClause 190 = .ok (.aload_n 0, 1) := by decide +kernel
theorem dX12_readClause_191 : decode cX12_readClause 191 = .ok (.iconst 1, 1) := by decide +kernel
theorem dX12_readClause_192 : decode cX12_readClause 192 = .ok (.invokevirtual 246, 3) := by decide +kernel
theorem dX12_readClause_195 : decode cX12_readClause 195 = .ok (.aload_n 0, 1) := by decide +kernel
theorem dX12_readClause_196 : decode cX12_readClause 196 = .ok (.getfield 228, 3) := by decide +kernel
theorem dX12_readClause_199 : decode cX12_readClause 199 = .ok (.ifCond .ne 7, 3) := by decide +kernel
theorem dX12_readClause_202 : decode cX12_readClause 202 = .ok (.aload_n 0, 1) := by decide +kernel
theorem dX12_readClause_203 : decode cX12_readClause 203 = .ok (.invokevirtual 249, 3) := by decide +kernel
theorem dX12_readClause_206 : decode cX12_readClause 206 = .ok (.return_, 1) := by decide +kernel
theorem dX12_yard_0 : decode cX12_yard 0 = .ok (.aload_n 0, 1) := by decide +kernel
theorem dX12_yard_1 : decode cX12_yard 1 = .ok (.iconst 0, 1) := by decide +kernel
theorem dX12_yard_2 : decode cX12_yard 2 = .ok (.putfield 182, 3) := by decide +kernel
theorem dX12_yard_5 : decode cX12_yard 5 = .ok (.iload_n 1, 1) := by decide +kernel
theorem dX12_yard_6 : decode cX12_yard 6 = .ok (.ifCond .lt 11, 3) := by decide +kernel
theorem dX12_yard_9 : decode cX12_yard 9 = .ok (.iload_n 1, 1) := by decide +kernel
theorem dX12_yard_10 : decode cX12_yard 10 = .ok (.aload_n 0, 1) := by decide +kernel
theorem dX12_yard_11 : decode cX12_yard 11 = .ok (.getfield 189, 3) := by decide +kernel
theorem dX12_yard_14 : decode cX12_yard 14 = .ok (.if_icmp .le 9, 3) := by decide +kernel
theorem dX12_yard_17 : decode cX12_yard 17 = .ok (.aload_n 0, 1) := by decide +kernel
theorem dX12_yard_18 : decode cX12_yard 18 = .ok (.iconst 1, 1) := by decide +kernel
theorem dX12_yard_19 : decode cX12_yard 19 = .ok (.invokevirtual 292, 3) := by decide +kernel
theorem dX12_yard_22 : decode cX12_yard 22 = .ok (.ireturn, 1) := by decide +kernel
theorem dX12_yard_23 : decode cX12_yard 23 = .ok (.aload_n 0, 1) := by decide +kernel
theorem dX12_yard_24 : decode cX12_yard 24 = .ok (.iconst 0, 1) := by decide +kernel
theorem dX12_yard_25 : decode cX12_yard 25 = .ok (.putfield 189, 3) := by decide +kernel
theorem dX12_yard_28 : decode cX12_yard 28 = .ok (.aload_n 0, 1) := by decide +kernel
theorem dX12_yard_29 : decode cX12_yard 29 = .ok (.iload_n 1, 1) := by decide +kernel
theorem dX12_yard_30 : decode cX12_yard 30 = .ok (.putfield 192, 3) := by decide +kernel
theorem dX12_yard_33 : decode cX12_yard 33 = .ok (.aload_n 0, 1) := by decide +kernel
theorem dX12_yard_34 : decode cX12_yard 34 = .ok (.iconst 0, 1) := by decide +kernel
theorem dX12_yard_35 : decode cX12_yard 35 = .ok (.putfield 195, 3) := by decide +kernel
theorem dX12_yard_38 : decode cX12_yard 38 = .ok (.aload_n 0, 1) := by decide +kernel
theorem dX12_yard_39 : decode cX12_yard 39 = .ok (.iconst 0, 1) := by decide +kernel
theorem dX12_yard_40 : decode cX12_yard 40 = .ok (.putfield 228, 3) := by decide +kernel
theorem dX12_yard_43 : decode cX12_yard 43 = .ok (.aload_n 0, 1) := by decide +kernel
theorem dX12_yard_44 : decode cX12_yard 44 = .ok (.iconst (-1), 1) := by decide +kernel
theorem dX12_yard_45 : decode cX12_yard 45 = .ok (.putfield 53, 3) := by decide +kernel
theorem dX12_yard_48 : decode cX12_yard 48 = .ok (.aload_n 0, 1) := by decide +kernel
theorem dX12_yard_49 : decode cX12_yard 49 = .ok (.iconst 1, 1) := by decide +kernel
theorem dX12_yard_50 : decode cX12_yard 50 = .ok (.invokevirtual 175, 3) := by decide +kernel
theorem dX12_yard_53 : decode cX12_yard 53 = .ok (.aload_n 0, 1) := by decide +kernel
theorem dX12_yard_54 : decode cX12_yard 54 = .ok (.invokevirtual 249, 3) := by decide +kernel
theorem dX12_yard_57 : decode cX12_yard 57 = .ok (.aload_n 0, 1) := by decide +kernel
theorem dX12_yard_58 : decode cX12_yard 58 = .ok (.getfield 228, 3) := by decide +kernel
theorem dX12_yard_61 : decode cX12_yard 61 = .ok (.ifCond .ne 17, 3) := by decide +kernel
theorem dX12_yard_64 : decode cX12_yard 64 = .ok (.aload_n 0, 1) := by decide +kernel
theorem dX12_yard_65 : decode cX12_yard 65 = .ok (.getfield 205, 3) := by decide +kernel
theorem dX12_yard_68 : decode cX12_yard 68 = .ok (.ifCond .eq 10, 3) := by decide +kernel
theorem dX12_yard_71 : decode cX12_yard 71 = .ok (.aload_n 0, 1) := by decide +kernel
theorem dX12_yard_72 : decode cX12_yard 72 = .ok (.invokevirtual 295, 3) := by decide +kernel
theorem dX12_yard_75 : decode cX12_yard 75 = .ok (.goto (-18), 3) := by decide +kernel
theorem dX12_yard_78 : decode cX12_yard 78 = .ok (.aload_n 0, 1) := by decide +kernel
theorem dX12_yard_79 : decode cX12_yard 79 = .ok (.getfield 228, 3) := by decide +kernel
theorem dX12_yard_82 : decode cX12_yard 82 = .ok (.ifCond .eq 16, 3) := by decide +kernel
theorem dX12_yard_85 : decode cX12_yard 85 = .ok (.aload_n 0, 1) := by decide +kernel
theorem dX12_yard_86 : decode cX12_yard 86 = .ok (.aload_n 0, 1) := by decide +kernel
theorem dX12_yard_87 : decode cX12_yard 87 = .ok (.getfield 231, 3) := by decide +kernel
theorem dX12_yard_90 : decode cX12_yard 90 = .ok (.putfield 53, 3) := by decide +kernel
theorem dX12_yard_93 : decode cX12_yard 93 = .ok (.aload_n 0, 1) := by decide +kernel
theorem dX12_yard_94 : decode cX12_yard 94 = .ok (.getfield 228, 3) := by decide +kernel
theorem dX12_yard_97 : decode cX12_yard 97 = .ok (.ireturn, 1) := by decide +kernel
theorem dX12_yard_98 : decode cX12_yard 98 = .ok (.aload_n 0, 1) := by decide +kernel
theorem dX12_yard_99 : decode cX12_yard 99 = .ok (.getfield 25, 3) := by decide +kernel
theorem dX12_yard_102 : decode cX12_yard 102 = .ok (.invokestatic 298, 3) := by decide +kernel
theorem dX12_yard_105 : decode cX12_yard 105 = .ok (.aload_n 0, 1) := by decide +kernel
theorem dX12_yard_106 : decode cX12_yard 106 = .ok (.getfield 29, 3) := by decide +kernel
theorem dX12_yard_109 : decode cX12_yard 109 = .ok (.invokestatic 298, 3) := by decide +kernel
theorem dX12_yard_112 : decode cX12_yard 112 = .ok (.aload_n 0, 1) := by decide +kernel
theorem dX12_yard_113 : decode cX12_yard 113 = .ok (.getfield 32, 3) := by decide +kernel
theorem dX12_yard_116 : decode cX12_yard 116 = .ok (.invokestatic 298, 3) := by decide +kernel
theorem dX12_yard_119 : decode cX12_yard 119 = .ok (.aload_n 0, 1) := by decide +kernel
theorem dX12_yard_120 : decode cX12_yard 120 = .ok (.getfield 35, 3) := by decide +kernel
theorem dX12_yard_123 : decode cX12_yard 123 = .ok (.invokestatic 298, 3) := by decide +kernel
theorem dX12_yard_126 : decode cX12_yard 126 = .ok (.aload_n 0, 1) := by decide +kernel
theorem dX12_yard_127 : decode cX12_yard 127 = .ok (.getfield 38, 3) := by decide +kernel
theorem dX12_yard_130 : decode cX12_yard 130 = .ok (.invokestatic 298, 3) := by decide +kernel
theorem dX12_yard_133 : decode cX12_yard 133 = .ok (.aload_n 0, 1) := by decide +kernel
theorem dX12_yard_134 : decode cX12_yard 134 = .ok (.getfield 41, 3) := by decide +kernel
theorem dX12_yard_137 : decode cX12_yard 137 = .ok (.invokestatic 298, 3) := by decide +kernel
theorem dX12_yard_140 : decode cX12_yard 140 = .ok (.aload_n 0, 1) := by decide +kernel
theorem dX12_yard_141 : decode cX12_yard 141 = .ok (.getfield 43, 3) := by decide +kernel
theorem dX12_yard_144 : decode cX12_yard 144 = .ok (.invokestatic 298, 3) := by decide +kernel
theorem dX12_yard_147 : decode cX12_yard 147 = .ok (.aload_n 0, 1) := by decide +kernel
theorem dX12_yard_148 : decode cX12_yard 148 = .ok (.getfield 45, 3) := by decide +kernel
theorem dX12_yard_151 : decode cX12_yard 151 = .ok (.invokestatic 298, 3) := by decide +kernel
theorem dX12_yard_154 : decode cX12_yard 154 = .ok (.aload_n 0, 1) := by decide +kernel
theorem dX12_yard_155 : decode cX12_yard 155 = .ok (.getfield 48, 3) := by decide +kernel
theorem dX12_yard_158 : decode cX12_yard 158 = .ok (.invokestatic 298, 3) := by decide +kernel
theorem dX12_yard_161 : decode cX12_yard 161 = .ok (.aload_n 0, 1) := by decide +kernel
theorem dX12_yard_162 : decode cX12_yard 162 = .ok (.invokevirtual 179, 3) := by decide +kernel
theorem dX12_yard_165 : decode cX12_yard 165 = .ok (.iconst 0, 1) := by decide +kernel
theorem dX12_yard_166 : decode cX12_yard 166 = .ok (.ireturn, 1) := by decide +kernel
theorem dX12_forget_0 : decode cX12_forget 0 = .ok (.aload_n 0, 1) := by decide +kernel
theorem dX12_forget_1 : decode cX12_forget 1 = .ok (.iconst (-1), 1) := by decide +kernel
theorem dX12_forget_2 : decode cX12_forget 2 = .ok (.putfield 69, 3) := by decide +kernel
theorem dX12_forget_5 : decode cX12_forget 5 = .ok (.aload_n 0, 1) := by decide +kernel
theorem dX12_forget_6 : decode cX12_forget 6 = .ok (.iconst (-1), 1) := by decide +kernel
theorem dX12_forget_7 : decode cX12_forget 7 = .ok (.putfield 157, 3) := by decide +kernel
theorem dX12_forget_10 : decode cX12_forget 10 = .ok (.aload_n 0, 1) := by decide +kernel
theorem dX12_forget_11 : decode cX12_forget 11 = .ok (.iconst 0, 1) := by decide +kernel
theorem dX12_forget_12 : decode cX12_forget 12 = .ok (.putfield 302, 3) := by decide +kernel
theorem dX12_forget_15 : decode cX12_forget 15 = .ok (.aload_n 0, 1) := by decide +kernel
theorem dX12_forget_16 : decode cX12_forget 16 = .ok (.iconst 0, 1) := by decide +kernel
theorem dX12_forget_17 : decode cX12_forget 17 = .ok (.putfield 305, 3) := by decide +kernel
theorem dX12_forget_20 : decode cX12_forget 20 = .ok (.aload_n 0, 1) := by decide +kernel
theorem dX12_forget_21 : decode cX12_forget 21 = .ok (.iconst 0, 1) := by decide +kernel
theorem dX12_forget_22 : decode cX12_forget 22 = .ok (.putfield 308, 3) := by decide +kernel
theorem dX12_forget_25 : decode cX12_forget 25 = .ok (.iconst 0, 1) := by decide +kernel
theorem dX12_forget_26 : decode cX12_forget 26 = .ok (.istore_n 1, 1) := by decide +kernel
theorem dX12_forget_27 : decode cX12_forget 27 = .ok (.iload_n 1, 1) := by decide +kernel
theorem dX12_forget_28 : decode cX12_forget 28 = .ok (.bipush 12, 2) := by decide +kernel
theorem dX12_forget_30 : decode cX12_forget 30 = .ok (.if_icmp .ge 77, 3) := by decide +kernel
theorem dX12_forget_33 : decode cX12_forget 33 = .ok (.aload_n 0, 1) := by decide +kernel
theorem dX12_forget_34 : decode cX12_forget 34 = .ok (.getfield 72, 3) := by decide +kernel
theorem dX12_forget_37 : decode cX12_forget 37 = .ok (.iload_n 1, 1) := by decide +kernel
theorem dX12_forget_38 : decode cX12_forget 38 = .ok (.iconst 0, 1) := by decide +kernel
theorem dX12_forget_39 : decode cX12_forget 39 = .ok (.iastore, 1) := by decide +kernel
theorem dX12_forget_40 : decode cX12_forget 40 = .ok (.aload_n 0, 1) := by decide +kernel
theorem dX12_forget_41 : decode cX12_forget 41 = .ok (.getfield 75, 3) := by decide +kernel
theorem dX12_forget_44 : decode cX12_forget 44 = .ok (.iload_n 1, 1) := by decide +kernel
theorem dX12_forget_45 : decode cX12_forget 45 = .ok (.iconst 0, 1) := by decide +kernel
theorem dX12_forget_46 : decode cX12_forget 46 = .ok (.iastore, 1) := by decide +kernel
theorem dX12_forget_47 : decode cX12_forget 47 = .ok (.aload_n 0, 1) := by decide +kernel
theorem dX12_forget_48 : decode cX12_forget 48 = .ok (.getfield 124, 3) := by decide +kernel
theorem dX12_forget_51 : decode cX12_forget 51 = .ok (.iload_n 1, 1) := by decide +kernel
theorem dX12_forget_52 : decode cX12_forget 52 = .ok (.iconst 0, 1) := by decide +kernel
theorem dX12_forget_53 : decode cX12_forget 53 = .ok (.iastore, 1) := by decide +kernel
theorem dX12_forget_54 : decode cX12_forget 54 = .ok (.aload_n 0, 1) := by decide +kernel
theorem dX12_forget_55 : decode cX12_forget 55 = .ok (.getfield 130, 3) := by decide +kernel
theorem dX12_forget_58 : decode cX12_forget 58 = .ok (.iload_n 1, 1) := by decide +kernel
theorem dX12_forget_59 : decode cX12_forget 59 = .ok (.iconst 0, 1) := by decide +kernel
theorem dX12_forget_60 : decode cX12_forget 60 = .ok (.iastore, 1) := by decide +kernel
theorem dX12_forget_61 : decode cX12_forget 61 = .ok (.aload_n 0, 1) := by decide +kernel
theorem dX12_forget_62 : decode cX12_forget 62 = .ok (.getfield 136, 3) := by decide +kernel
theorem dX12_forget_65 : decode cX12_forget 65 = .ok (.iload_n 1, 1) := by decide +kernel
theorem dX12_forget_66 : decode cX12_forget 66 = .ok (.iconst 0, 1) := by decide +kernel
theorem dX12_forget_67 : decode cX12_forget 67 = .ok (.iastore, 1) := by decide +kernel
theorem dX12_forget_68 : decode cX12_forget 68 = .ok (.aload_n 0, 1) := by decide +kernel
theorem dX12_forget_69 : decode cX12_forget 69 = .ok (.getfield 139, 3) := by decide +kernel
theorem dX12_forget_72 : decode cX12_forget 72 = .ok (.iload_n 1, 1) := by decide +kernel
theorem dX12_forget_73 : decode cX12_forget 73 = .ok (.iconst 1, 1) := by decide +kernel
theorem dX12_forget_74 : decode cX12_forget 74 = .ok (.iastore, 1) := by decide +kernel
theorem dX12_forget_75 : decode cX12_forget 75 = .ok (.iconst 0, 1) := by decide +kernel
theorem dX12_forget_76 : decode cX12_forget 76 = .ok (.istore_n 2, 1) := by decide +kernel
theorem dX12_forget_77 : decode cX12_forget 77 = .ok (.iload_n 2, 1) := by decide +kernel
theorem dX12_forget_78 : decode cX12_forget 78 = .ok (.bipush 6, 2) := by decide +kernel
theorem dX12_forget_80 : decode cX12_forget 80 = .ok (.if_icmp .ge 21, 3) := by decide +kernel
theorem dX12_forget_83 : decode cX12_forget 83 = .ok (.aload_n 0, 1) := by decide +kernel
theorem dX12_forget_84 : decode cX12_forget 84 = .ok (.getfield 163, 3) := by decide +kernel
theorem dX12_forget_87 : decode cX12_forget 87 = .ok (.bipush 6, 2) := by decide +kernel
theorem dX12_forget_89 : decode cX12_forget 89 = .ok (.iload_n 1, 1) := by decide +kernel
theorem dX12_forget_90 : decode cX12_forget 90 = .ok (.imul, 1) := by decide +kernel
theorem dX12_forget_91 : decode cX12_forget 91 = .ok (.iload_n 2, 1) := by decide +kernel
theorem dX12_forget_92 : decode cX12_forget 92 = .ok (.iadd, 1) := by decide +kernel
theorem dX12_forget_93 : decode cX12_forget 93 = .ok (.iconst 0, 1) := by decide +kernel
theorem dX12_forget_94 : decode cX12_forget 94 = .ok (.iastore, 1) := by decide +kernel
theorem dX12_forget_95 : decode cX12_forget 95 = .ok (.iinc 2 1, 3) := by decide +kernel
theorem dX12_forget_98 : decode cX12_forget 98 = .ok (.goto (-21), 3) := by decide +kernel
theorem dX12_forget_101 : decode cX12_forget 101 = .ok (.iinc 1 1, 3) := by decide +kernel
theorem dX12_forget_104 : decode cX12_forget 104 = .ok (.goto (-77), 3) := by decide +kernel
theorem dX12_forget_107 : decode cX12_forget 107 = .ok (.iconst 0, 1) := by decide +kernel
theorem dX12_forget_108 : decode cX12_forget 108 = .ok (.istore_n 1, 1) := by decide +kernel
theorem dX12_forget_109 : decode cX12_forget 109 = .ok (.iload_n 1, 1) := by decide +kernel
theorem dX12_forget_110 : decode cX12_forget 110 = .ok (.sipush 360, 3) := by decide +kernel
theorem dX12_forget_113 : decode cX12_forget 113 = .ok (.if_icmp .ge 16, 3) := by decide +kernel
theorem dX12_forget_116 : decode cX12_forget 116 = .ok (.aload_n 0, 1) := by decide +kernel
theorem dX12_forget_117 : decode cX12_forget 117 = .ok (.getfield 106, 3) := by decide +kernel
theorem dX12_forget_120 : decode cX12_forget 120 = .ok (.iload_n 1, 1) := by decide +kernel
theorem dX12_forget_121 : decode cX12_forget 121 = .ok (.iconst 0, 1) := by decide +kernel
theorem dX12_forget_122 : decode cX12_forget 122 = .ok (.iastore, 1) := by decide +kernel
theorem dX12_forget_123 : decode cX12_forget 123 = .ok (.iinc 1 1, 3) := by decide +kernel
theorem dX12_forget_126 : decode cX12_forget 126 = .ok (.goto (-17), 3) := by decide +kernel
theorem dX12_forget_129 : decode cX12_forget 129 = .ok (.iconst 0, 1) := by decide +kernel
theorem dX12_forget_130 : decode cX12_forget 130 = .ok (.istore_n 1, 1) := by decide +kernel
theorem dX12_forget_131 : decode cX12_forget 131 = .ok (.iload_n 1, 1) := by decide +kernel
theorem dX12_forget_132 : decode cX12_forget 132 = .ok (.bipush 7, 2) := by decide +kernel
theorem dX12_forget_134 : decode cX12_forget 134 = .ok (.if_icmp .ge 16, 3) := by decide +kernel
theorem dX12_forget_137 : decode cX12_forget 137 = .ok (.aload_n 0, 1) := by decide +kernel
theorem dX12_forget_138 : decode cX12_forget 138 = .ok (.getfield 103, 3) := by decide +kernel
theorem dX12_forget_141 : decode cX12_forget 141 = .ok (.iload_n 1, 1) := by decide +kernel
theorem dX12_forget_142 : decode cX12_forget 142 = .ok (.iconst 0, 1) := by decide +kernel
theorem dX12_forget_143 : decode cX12_forget 143 = .ok (.iastore, 1) := by decide +kernel
theorem dX12_forget_144 : decode cX12_forget 144 = .ok (.iinc 1 1, 3) := by decide +kernel
theorem dX12_forget_147 : decode cX12_forget 147 = .ok (.goto (-16), 3) := by decide +kernel
theorem dX12_forget_150 : decode cX12_forget 150 = .ok (.return_, 1) := by decide +kernel
theorem dX12_fault_0 : decode cX12_fault 0 = .ok (.aload_n 0, 1) := by decide +kernel
theorem dX12_fault_1 : decode cX12_fault 1 = .ok (.iconst 0, 1) := by decide +kernel
theorem dX12_fault_2 : decode cX12_fault 2 = .ok (.putfield 182, 3) := by decide +kernel
theorem dX12_fault_5 : decode cX12_fault 5 = .ok (.aload_n 0, 1) := by decide +kernel
theorem dX12_fault_6 : decode cX12_fault 6 = .ok (.getfield 53, 3) := by decide +kernel
theorem dX12_fault_9 : decode cX12_fault 9 = .ok (.ireturn, 1) := by decide +kernel
theorem dX12_count_0 : decode cX12_count 0 = .ok (.aload_n 0, 1) := by decide +kernel
theorem dX12_count_1 : decode cX12_count 1 = .ok (.iconst 0, 1) := by decide +kernel
theorem dX12_count_2 : decode cX12_count 2 = .ok (.putfield 182, 3) := by decide +kernel
theorem dX12_count_5 : decode cX12_count 5 = .ok (.iload_n 1, 1) := by decide +kernel
theorem dX12_count_6 : decode cX12_count 6 = .ok (.tableswitch 94 0 7 #[46, 53, 60, 67, 74, 79, 84, 89], 46) := by decide +kernel
theorem dX12_count_52 : decode cX12_count 52 = .ok (.aload_n 0, 1) := by decide +kernel
theorem dX12_count_53 : decode cX12_count 53 = .ok (.getfield 25, 3) := by decide +kernel
theorem dX12_count_56 : decode cX12_count 56 = .ok (.iconst 0, 1) := by decide +kernel
theorem dX12_count_57 : decode cX12_count 57 = .ok (.iaload, 1) := by decide +kernel
theorem dX12_count_58 : decode cX12_count 58 = .ok (.ireturn, 1) := by decide +kernel
theorem dX12_count_59 : decode cX12_count 59 = .ok (.aload_n 0, 1) := by decide +kernel
theorem dX12_count_60 : decode cX12_count 60 = .ok (.getfield 29, 3) := by decide +kernel
theorem dX12_count_63 : decode cX12_count 63 = .ok (.iconst 0, 1) := by decide +kernel
theorem dX12_count_64 : decode cX12_count 64 = .ok (.iaload, 1) := by decide +kernel
theorem dX12_count_65 : decode cX12_count 65 = .ok (.ireturn, 1) := by decide +kernel
theorem dX12_count_66 : decode cX12_count 66 = .ok (.aload_n 0, 1) := by decide +kernel
theorem dX12_count_67 : decode cX12_count 67 = .ok (.getfield 32, 3) := by decide +kernel
theorem dX12_count_70 : decode cX12_count 70 = .ok (.iconst 0, 1) := by decide +kernel
theorem dX12_count_71 : decode cX12_count 71 = .ok (.iaload, 1) := by decide +kernel
theorem dX12_count_72 : decode cX12_count 72 = .ok (.ireturn, 1) := by decide +kernel
theorem dX12_count_73 : decode cX12_count 73 = .ok (.aload_n 0, 1) := by decide +kernel
theorem dX12_count_74 : decode cX12_count 74 = .ok (.getfield 35, 3) := by decide +kernel
theorem dX12_count_77 : decode cX12_count 77 = .ok (.iconst 0, 1) := by decide +kernel
theorem dX12_count_78 : decode cX12_count 78 = .ok (.iaload, 1) := by decide +kernel
theorem dX12_count_79 : decode cX12_count 79 = .ok (.ireturn, 1) := by decide +kernel
theorem dX12_count_80 : decode cX12_count 80 = .ok (.aload_n 0, 1) := by decide +kernel
theorem dX12_count_81 : decode cX12_count 81 = .ok (.getfield 312, 3) := by decide +kernel
theorem dX12_count_84 : decode cX12_count 84 = .ok (.ireturn, 1) := by decide +kernel
theorem dX12_count_85 : decode cX12_count 85 = .ok (.aload_n 0, 1) := by decide +kernel
theorem dX12_count_86 : decode cX12_count 86 = .ok (.getfield 189, 3) := by decide +kernel
theorem dX12_count_89 : decode cX12_count 89 = .ok (.ireturn, 1) := by decide +kernel
theorem dX12_count_90 : decode cX12_count 90 = .ok (.aload_n 0, 1) := by decide +kernel
theorem dX12_count_91 : decode cX12_count 91 = .ok (.getfield 315, 3) := by decide +kernel
theorem dX12_count_94 : decode cX12_count 94 = .ok (.ireturn, 1) := by decide +kernel
theorem dX12_count_95 : decode cX12_count 95 = .ok (.aload_n 0, 1) := by decide +kernel
theorem dX12_count_96 : decode cX12_count 96 = .ok (.getfield 91, 3) := by decide +kernel
theorem dX12_count_99 : decode cX12_count 99 = .ok (.ireturn, 1) := by decide +kernel
theorem dX12_count_100 : decode cX12_count 100 = .ok (.aload_n 0, 1) := by decide +kernel
theorem dX12_count_101 : decode cX12_count 101 = .ok (.iconst 1, 1) := by decide +kernel
theorem dX12_count_102 : decode cX12_count 102 = .ok (.invokevirtual 292, 3) := by decide +kernel
theorem dX12_count_105 : decode cX12_count 105 = .ok (.ireturn, 1) := by decide +kernel
theorem dX12_letter_0 : decode cX12_letter 0 = .ok (.aload_n 0, 1) := by decide +kernel
theorem dX12_letter_1 : decode cX12_letter 1 = .ok (.iconst 0, 1) := by decide +kernel
theorem dX12_letter_2 : decode cX12_letter 2 = .ok (.putfield 182, 3) := by decide +kernel
theorem dX12_letter_5 : decode cX12_letter 5 = .ok (.aload_n 0, 1) := by decide +kernel
theorem dX12_letter_6 : decode cX12_letter 6 = .ok (.iload_n 1, 1) := by decide +kernel
theorem dX12_letter_7 : decode cX12_letter 7 = .ok (.invokevirtual 318, 3) := by decide +kernel
theorem dX12_letter_10 : decode cX12_letter 10 = .ok (.ifCond .eq 26, 3) := by decide +kernel
theorem dX12_letter_13 : decode cX12_letter 13 = .ok (.iload_n 2, 1) := by decide +kernel
theorem dX12_letter_14 : decode cX12_letter 14 = .ok (.iconst 0, 1) := by decide +kernel
theorem dX12_letter_15 : decode cX12_letter 15 = .ok (.iconst 5, 1) := by decide +kernel
theorem dX12_letter_16 : decode cX12_letter 16 = .ok (.invokestatic 185, 3) := by decide +kernel
theorem dX12_letter_19 : decode cX12_letter 19 = .ok (.ifCond .eq 17, 3) := by decide +kernel
theorem dX12_letter_22 : decode cX12_letter 22 = .ok (.aload_n 0, 1) := by decide +kernel
theorem dX12_letter_23 : decode cX12_letter 23 = .ok (.getfield 43, 3) := by decide +kernel
theorem dX12_letter_26 : decode cX12_letter 26 = .ok (.bipush 6, 2) := by decide +kernel
theorem dX12_letter_28 : decode cX12_letter 28 = .ok (.iload_n 1, 1) := by decide +kernel
theorem dX12_letter_29 : decode cX12_letter 29 = .ok (.imul, 1) := by decide +kernel
theorem dX12_letter_30 : decode cX12_letter 30 = .ok (.iload_n 2, 1) := by decide +kernel
theorem dX12_letter_31 : decode cX12_letter 31 = .ok (.iadd, 1) := by decide +kernel
theorem dX12_letter_32 : decode cX12_letter 32 = .ok (.iaload, 1) := by decide +kernel
theorem dX12_letter_33 : decode cX12_letter 33 = .ok (.goto 8, 3) := by decide +kernel
theorem dX12_letter_36 : decode cX12_letter 36 = .ok (.aload_n 0, 1) := by decide +kernel
theorem dX12_letter_37 : decode cX12_letter 37 = .ok (.iconst 1, 1) := by decide +kernel
theorem dX12_letter_38 : decode cX12_letter 38 = .ok (.invokevirtual 292, 3) := by decide +kernel
theorem dX12_letter_41 : decode cX12_letter 41 = .ok (.ireturn, 1) := by decide +kernel
theorem dX12_road_0 : decode cX12_road 0 = .ok (.aload_n 0, 1) := by decide +kernel
theorem dX12_road_1 : decode cX12_road 1 = .ok (.iconst 0, 1) := by decide +kernel
theorem dX12_road_2 : decode cX12_road 2 = .ok (.putfield 182, 3) := by decide +kernel
theorem dX12_road_5 : decode cX12_road 5 = .ok (.aload_n 0, 1) := by decide +kernel
theorem dX12_road_6 : decode cX12_road 6 = .ok (.iload_n 1, 1) := by decide +kernel
theorem dX12_road_7 : decode cX12_road 7 = .ok (.invokevirtual 321, 3) := by decide +kernel
theorem dX12_road_10 : decode cX12_road 10 = .ok (.ifCond .eq 25, 3) := by decide +kernel
theorem dX12_road_13 : decode cX12_road 13 = .ok (.aload_n 0, 1) := by decide +kernel
theorem dX12_road_14 : decode cX12_road 14 = .ok (.iload_n 2, 1) := by decide +kernel
theorem dX12_road_15 : decode cX12_road 15 = .ok (.invokevirtual 321, 3) := by decide +kernel
theorem dX12_road_18 : decode cX12_road 18 = .ok (.ifCond .eq 17, 3) := by decide +kernel
theorem dX12_road_21 : decode cX12_road 21 = .ok (.aload_n 0, 1) := by decide +kernel
theorem dX12_road_22 : decode cX12_road 22 = .ok (.getfield 45, 3) := by decide +kernel
theorem dX12_road_25 : decode cX12_road 25 = .ok (.bipush 12, 2) := by decide +kernel
theorem dX12_road_27 : decode cX12_road 27 = .ok (.iload_n 1, 1) := by decide +kernel
theorem dX12_road_28 : decode cX12_road 28 = .ok (.imul, 1) := by decide +kernel
theorem dX12_road_29 : decode cX12_road 29 = .ok (.iload_n 2, 1) := by decide +kernel
theorem dX12_road_30 : decode cX12_road 30 = .ok (.iadd, 1) := by decide +kernel
theorem dX12_road_31 : decode cX12_road 31 = .ok (.iaload, 1) := by decide +kernel
theorem dX12_road_32 : decode cX12_road 32 = .ok (.goto 8, 3) := by decide +kernel
theorem dX12_road_35 : decode cX12_road 35 = .ok (.aload_n 0, 1) := by decide +kernel
theorem dX12_road_36 : decode cX12_road 36 = .ok (.iconst 1, 1) := by decide +kernel
theorem dX12_road_37 : decode cX12_road 37 = .ok (.invokevirtual 292, 3) := by decide +kernel
theorem dX12_road_40 : decode cX12_road 40 = .ok (.ireturn, 1) := by decide +kernel
theorem dX12_isNested_0 : decode cX12_isNested 0 = .ok (.iconst 0, 1) := by decide +kernel
theorem dX12_isNested_1 : decode cX12_isNested 1 = .ok (.istore_n 3, 1) := by decide +kernel
theorem dX12_isNested_2 : decode cX12_isNested 2 = .ok (.iload_n 3, 1) := by decide +kernel
theorem dX12_isNested_3 : decode cX12_isNested 3 = .ok (.aload_n 0, 1) := by decide +kernel
theorem dX12_isNested_4 : decode cX12_isNested 4 = .ok (.getfield 35, 3) := by decide +kernel
theorem dX12_isNested_7 : decode cX12_isNested 7 = .ok (.iconst 0, 1) := by decide +kernel
theorem dX12_isNested_8 : decode cX12_isNested 8 = .ok (.iaload, 1) := by decide +kernel
theorem dX12_isNested_9 : decode cX12_isNested 9 = .ok (.if_icmp .ge 50, 3) := by decide +kernel
theorem dX12_isNested_12 : decode cX12_isNested 12 = .ok (.aload_n 0, 1) := by decide +kernel
theorem dX12_isNested_13 : decode cX12_isNested 13 = .ok (.getfield 48, 3) := by decide +kernel
theorem dX12_isNested_16 : decode cX12_isNested 16 = .ok (.iconst 3, 1) := by decide +kernel
theorem dX12_isNested_17 : decode cX12_isNested 17 = .ok (.iload_n 3, 1) := by decide +kernel
theorem dX12_isNested_18 : decode cX12_isNested 18 = .ok (.imul, 1) := by decide +kernel
theorem dX12_isNested_19 : decode cX12_isNested 19 = .ok (.iaload, 1) := by decide +kernel
theorem dX12_isNested_20 : decode cX12_isNested 20 = .ok (.iload_n 1, 1) := by decide +kernel
theorem dX12_isNested_21 : decode cX12_isNested 21 = .ok (.if_icmp .ne 32, 3) := by decide +kernel
theorem dX12_isNested_24 : decode cX12_isNested 24 = .ok (.iload_n 2, 1) := by decide +kernel
theorem dX12_isNested_25 : decode cX12_isNested 25 = .ok (.aload_n 0, 1) := by decide +kernel
theorem dX12_isNested_26 : decode cX12_isNested 26 = .ok (.getfield 48, 3) := by decide +kernel
theorem dX12_isNested_29 : decode cX12_isNested 29 = .ok (.iconst 3, 1) := by decide +kernel
theorem dX12_isNested_30 : decode cX12_isNested 30 = .ok (.iload_n 3, 1) := by decide +kernel
theorem dX12_isNested_31 : decode cX12_isNested 31 = .ok (.imul, 1) := by decide +kernel
theorem dX12_isNested_32 : decode cX12_isNested 32 = .ok (.iconst 1, 1) := by decide +kernel
theorem dX12_isNested_33 : decode cX12_isNested 33 = .ok (.iadd, 1) := by decide +kernel
theorem dX12_isNested_34 : decode cX12_isNested 34 = .ok (.iaload, 1) := by decide +kernel
theorem dX12_isNested_35 : decode cX12_isNested 35 = .ok (.aload_n 0, 1) := by decide +kernel
theorem dX12_isNested_36 : decode cX12_isNested 36 = .ok (.getfield 48, 3) := by decide +kernel
theorem dX12_isNested_39 : decode cX12_isNested 39 = .ok (.iconst 3, 1) := by decide +kernel
theorem dX12_isNested_40 : decode cX12_isNested 40 = .ok (.iload_n 3, 1) := by decide +kernel
theorem dX12_isNested_41 : decode cX12_isNested 41 = .ok (.imul, 1) := by decide +kernel
theorem dX12_isNested_42 : decode cX12_isNested 42 = .ok (.iconst 2, 1) := by decide +kernel
theorem dX12_isNested_43 : decode cX12_isNested 43 = .ok (.iadd, 1) := by decide +kernel
theorem dX12_isNested_44 : decode cX12_isNested 44 = .ok (.iaload, 1) := by decide +kernel
theorem dX12_isNested_45 : decode cX12_isNested 45 = .ok (.invokestatic 185, 3) := by decide +kernel
theorem dX12_isNested_48 : decode cX12_isNested 48 = .ok (.ifCond .eq 5, 3) := by decide +kernel
theorem dX12_isNested_51 : decode cX12_isNested 51 = .ok (.iconst 1, 1) := by decide +kernel
theorem dX12_isNested_52 : decode cX12_isNested 52 = .ok (.ireturn, 1) := by decide +kernel
theorem dX12_isNested_53 : decode cX12_isNested 53 = .ok (.iinc 3 1, 3) := by decide +kernel
theorem dX12_isNested_56 : decode cX12_isNested 56 = .ok (.goto (-54), 3) := by decide +kernel
theorem dX12_isNested_59 : decode cX12_isNested 59 = .ok (.iconst 0, 1) := by decide +kernel
theorem dX12_isNested_60 : decode cX12_isNested 60 = .ok (.ireturn, 1) := by decide +kernel
theorem dX12_canBegin_0 : decode cX12_canBegin 0 = .ok (.bipush 6, 2) := by decide +kernel
theorem dX12_canBegin_2 : decode cX12_canBegin 2 = .ok (.iload_n 1, 1) := by decide +kernel
theorem dX12_canBegin_3 : decode cX12_canBegin 3 = .ok (.imul, 1) := by decide +kernel
theorem dX12_canBegin_4 : decode cX12_canBegin 4 = .ok (.istore_n 3, 1) := by decide +kernel
theorem dX12_canBegin_5 : decode cX12_canBegin 5 = .ok (.iload_n 2, 1) := by decide +kernel
theorem dX12_canBegin_6 : decode cX12_canBegin 6 = .ok (.aload_n 0, 1) := by decide +kernel
theorem dX12_canBegin_7 : decode cX12_canBegin 7 = .ok (.getfield 43, 3) := by decide +kernel
theorem dX12_canBegin_10 : decode cX12_canBegin 10 = .ok (.iload_n 3, 1) := by decide +kernel
theorem dX12_canBegin_11 : decode cX12_canBegin 11 = .ok (.iconst 3, 1) := by decide +kernel
theorem dX12_canBegin_12 : decode cX12_canBegin 12 = .ok (.iadd, 1) := by decide +kernel
theorem dX12_canBegin_13 : decode cX12_canBegin 13 = .ok (.iaload, 1) := by decide +kernel
theorem dX12_canBegin_14 : decode cX12_canBegin 14 = .ok (.if_icmp .lt 26, 3) := by decide +kernel
theorem dX12_canBegin_17 : decode cX12_canBegin 17 = .ok (.iload_n 2, 1) := by decide +kernel
theorem dX12_canBegin_18 : decode cX12_canBegin 18 = .ok (.aload_n 0, 1) := by decide +kernel
theorem dX12_canBegin_19 : decode cX12_canBegin 19 = .ok (.getfield 43, 3) := by decide +kernel
theorem dX12_canBegin_22 : decode cX12_canBegin 22 = .ok (.iload_n 3, 1) := by decide +kernel
theorem dX12_canBegin_23 : decode cX12_canBegin 23 = .ok (.iconst 1, 1) := by decide +kernel
theorem dX12_canBegin_24 : decode cX12_canBegin 24 = .ok (.iadd, 1) := by decide +kernel
theorem dX12_canBegin_25 : decode cX12_canBegin 25 = .ok (.iaload, 1) := by decide +kernel
theorem dX12_canBegin_26 : decode cX12_canBegin 26 = .ok (.iadd, 1) := by decide +kernel
theorem dX12_canBegin_27 : decode cX12_canBegin 27 = .ok (.iconst 1, 1) := by decide +kernel
theorem dX12_canBegin_28 : decode cX12_canBegin 28 = .ok (.isub, 1) := by decide +kernel
theorem dX12_canBegin_29 : decode cX12_canBegin 29 = .ok (.aload_n 0, 1) := by decide +kernel
theorem dX12_canBegin_30 : decode cX12_canBegin 30 = .ok (.getfield 43, 3) := by decide +kernel
theorem dX12_canBegin_33 : decode cX12_canBegin 33 = .ok (.iload_n 3, 1) := by decide +kernel
theorem dX12_canBegin_34 : decode cX12_canBegin 34 = .ok (.iconst 4, 1) := by decide +kernel
theorem dX12_canBegin_35 : decode cX12_canBegin 35 = .ok (.iadd, 1) := by decide +kernel
theorem dX12_canBegin_36 : decode cX12_canBegin 36 = .ok (.iaload, 1) := by decide +kernel
theorem dX12_canBegin_37 : decode cX12_canBegin 37 = .ok (.if_icmp .le 5, 3) := by decide +kernel
theorem dX12_canBegin_40 : decode cX12_canBegin 40 = .ok (.iconst 0, 1) := by decide +kernel
theorem dX12_canBegin_41 : decode cX12_canBegin 41 = .ok (.ireturn, 1) := by decide +kernel
theorem dX12_canBegin_42 : decode cX12_canBegin 42 = .ok (.iload_n 2, 1) := by decide +kernel
theorem dX12_canBegin_43 : decode cX12_canBegin 43 = .ok (.istore 4, 2) := by decide +kernel
theorem dX12_canBegin_45 : decode cX12_canBegin 45 = .ok (.iload 4, 2) := by decide +kernel
theorem dX12_canBegin_47 : decode cX12_canBegin 47 = .ok (.iload_n 2, 1) := by decide +kernel
theorem dX12_canBegin_48 : decode cX12_canBegin 48 = .ok (.aload_n 0, 1) := by decide +kernel
theorem dX12_canBegin_49 : decode cX12_canBegin 49 = .ok (.getfield 43, 3) := by decide +kernel
theorem dX12_canBegin_52 : decode cX12_canBegin 52 = .ok (.iload_n 3, 1) := by decide +kernel
theorem dX12_canBegin_53 : decode cX12_canBegin 53 = .ok (.iconst 1, 1) := by decide +kernel
theorem dX12_canBegin_54 : decode cX12_canBegin 54 = .ok (.iadd, 1) := by decide +kernel
theorem dX12_canBegin_55 : decode cX12_canBegin 55 = .ok (.iaload, 1) := by decide +kernel
theorem dX12_canBegin_56 : decode cX12_canBegin 56 = .ok (.iadd, 1) := by decide +kernel
theorem dX12_canBegin_57 : decode cX12_canBegin 57 = .ok (.if_icmp .ge 44, 3) := by decide +kernel
theorem dX12_canBegin_60 : decode cX12_canBegin 60 = .ok (.aload_n 0, 1) := by decide +kernel
theorem dX12_canBegin_61 : decode cX12_canBegin 61 = .ok (.getfield 41, 3) := by decide +kernel
theorem dX12_canBegin_64 : decode cX12_canBegin 64 = .ok (.iload 4, 2) := by decide +kernel
theorem dX12_canBegin_66 : decode cX12_canBegin 66 = .ok (.iaload, 1) := by decide +kernel
theorem dX12_canBegin_67 : decode cX12_canBegin 67 = .ok (.aload_n 0, 1) := by decide +kernel
theorem dX12_canBegin_68 : decode cX12_canBegin 68 = .ok (.getfield 43, 3) := by decide +kernel
theorem dX12_canBegin_71 : decode cX12_canBegin 71 = .ok (.iload_n 3, 1) := by decide +kernel
theorem dX12_canBegin_72 : decode cX12_canBegin 72 = .ok (.iconst 2, 1) := by decide +kernel
theorem dX12_canBegin_73 : decode cX12_canBegin 73 = .ok (.iadd, 1) := by decide +kernel
theorem dX12_canBegin_74 : decode cX12_canBegin 74 = .ok (.iaload, 1) := by decide +kernel
theorem dX12_canBegin_75 : decode cX12_canBegin 75 = .ok (.if_icmp .gt 18, 3) := by decide +kernel
theorem dX12_canBegin_78 : decode cX12_canBegin 78 = .ok (.aload_n 0, 1) := by decide +kernel
theorem dX12_canBegin_79 : decode cX12_canBegin 79 = .ok (.aload_n 0, 1) := by decide +kernel
theorem dX12_canBegin_80 : decode cX12_canBegin 80 = .ok (.getfield 43, 3) := by decide +kernel
theorem dX12_canBegin_83 : decode cX12_canBegin 83 = .ok (.iload_n 3, 1) := by decide +kernel
theorem dX12_canBegin_84 : decode cX12_canBegin 84 = .ok (.iaload, 1) := by decide +kernel
theorem dX12_canBegin_85 : decode cX12_canBegin 85 = .ok (.iload 4, 2) := by decide +kernel
theorem dX12_canBegin_87 : decode cX12_canBegin 87 = .ok (.invokevirtual 324, 3) := by decide +kernel
theorem dX12_canBegin_90 : decode cX12_canBegin 90 = .ok (.ifCond .eq 5, 3) := by decide +kernel
theorem dX12_canBegin_93 : decode cX12_canBegin 93 = .ok (.iconst 0, 1) := by decide +kernel
theorem dX12_canBegin_94 : decode cX12_canBegin 94 = .ok (.ireturn, 1) := by decide +kernel
theorem dX12_canBegin_95 : decode cX12_canBegin 95 = .ok (.iinc 4 1, 3) := by decide +kernel
theorem dX12_canBegin_98 : decode cX12_canBegin 98 = .ok (.goto (-53), 3) := by decide +kernel
theorem dX12_canBegin_101 : decode cX12_canBegin 101 = .ok (.iconst 1, 1) := by decide +kernel
theorem dX12_canBegin_102 : decode cX12_canBegin 102 = .ok (.ireturn, 1) := by decide +kernel
theorem dX12_firstDay_0 : decode cX12_firstDay 0 = .ok (.iload_n 2, 1) := by decide +kernel
theorem dX12_firstDay_1 : decode cX12_firstDay 1 = .ok (.istore_n 3, 1) := by decide +kernel
theorem dX12_firstDay_2 : decode cX12_firstDay 2 = .ok (.iload_n 3, 1) := by decide +kernel
theorem dX12_firstDay_3 : decode cX12_firstDay 3 = .ok (.bipush 30, 2) := by decide +kernel
theorem dX12_firstDay_5 : decode cX12_firstDay 5 = .ok (.if_icmp .ge 20, 3) := by decide +kernel
theorem dX12_firstDay_8 : decode cX12_firstDay 8 = .ok (.aload_n 0, 1) := by decide +kernel
theorem dX12_firstDay_9 : decode cX12_firstDay 9 = .ok (.iload_n 1, 1) := by decide +kernel
theorem dX12_firstDay_10 : decode cX12_firstDay 10 = .ok (.iload_n 3, 1) := by decide +kernel
theorem dX12_firstDay_11 : decode cX12_firstDay 11 = .ok (.invokevirtual 328, 3) := by decide +kernel
theorem dX12_firstDay_14 : decode cX12_firstDay 14 = .ok (.ifCond .eq 5, 3) := by decide +kernel
theorem dX12_firstDay_17 : decode cX12_firstDay 17 = .ok (.iload_n 3, 1) := by decide +kernel
theorem dX12_firstDay_18 : decode cX12_firstDay 18 = .ok (.ireturn, 1) := by decide +kernel
theorem dX12_firstDay_19 : decode cX12_firstDay 19 = .ok (.iinc 3 1, 3) := by decide +kernel
theorem dX12_firstDay_22 : decode cX12_firstDay 22 = .ok (.goto (-20), 3) := by decide +kernel
theorem dX12_firstDay_25 : decode cX12_firstDay 25 = .ok (.iconst (-1), 1) := by decide +kernel
theorem dX12_firstDay_26 : decode cX12_firstDay 26 = .ok (.ireturn, 1) := by decide +kernel
theorem dX12_begins_0 : decode cX12_begins 0 = .ok (.aload_n 0, 1) := by decide +kernel
theorem dX12_begins_1 : decode cX12_begins 1 = .ok (.iconst 0, 1) := by decide +kernel
theorem dX12_begins_2 : decode cX12_begins 2 = .ok (.putfield 182, 3) := by decide +kernel
theorem dX12_begins_5 : decode cX12_begins 5 = .ok (.aload_n 0, 1) := by decide +kernel
theorem dX12_begins_6 : decode cX12_begins 6 = .ok (.iload_n 1, 1) := by decide +kernel
theorem dX12_begins_7 : decode cX12_begins 7 = .ok (.invokevirtual 318, 3) := by decide +kernel
theorem dX12_begins_10 : decode cX12_begins 10 = .ok (.ifCond .ne 9, 3) := by decide +kernel
theorem dX12_begins_13 : decode cX12_begins 13 = .ok (.aload_n 0, 1) := by decide +kernel
theorem dX12_begins_14 : decode cX12_begins 14 = .ok (.iconst 1, 1) := by decide +kernel
theorem dX12_begins_15 : decode cX12_begins 15 = .ok (.invokevirtual 292, 3) := by decide +kernel
theorem dX12_begins_18 : decode cX12_begins 18 = .ok (.ireturn, 1) := by decide +kernel
theorem dX12_begins_19 : decode cX12_begins 19 = .ok (.iload_n 2, 1) := by decide +kernel
theorem dX12_begins_20 : decode cX12_begins 20 = .ok (.ifCond .ge 11, 3) := by decide +kernel
theorem dX12_begins_23 : decode cX12_begins 23 = .ok (.aload_n 0, 1) := by decide +kernel
theorem dX12_begins_24 : decode cX12_begins 24 = .ok (.iconst 2, 1) := by decide +kernel
theorem dX12_begins_25 : decode cX12_begins 25 = .ok (.invokevirtual 292, 3) := by decide +kernel
theorem dX12_begins_28 : decode cX12_begins 28 = .ok (.goto 9, 3) := by decide +kernel
theorem dX12_begins_31 : decode cX12_begins 31 = .ok (.aload_n 0, 1) := by decide +kernel
theorem dX12_begins_32 : decode cX12_begins 32 = .ok (.iload_n 1, 1) := by decide +kernel
theorem dX12_begins_33 : decode cX12_begins 33 = .ok (.iload_n 2, 1) := by decide +kernel
theorem dX12_begins_34 : decode cX12_begins 34 = .ok (.invokevirtual 331, 3) := by decide +kernel
theorem dX12_begins_37 : decode cX12_begins 37 = .ok (.ireturn, 1) := by decide +kernel
theorem dX12_go_0 : decode cX12_go 0 = .ok (.aload_n 0, 1) := by decide +kernel
theorem dX12_go_1 : decode cX12_go 1 = .ok (.getfield 69, 3) := by decide +kernel
theorem dX12_go_4 : decode cX12_go 4 = .ok (.iconst (-1), 1) := by decide +kernel
theorem dX12_go_5 : decode cX12_go 5 = .ok (.if_icmp .eq 28, 3) := by decide +kernel
theorem dX12_go_8 : decode cX12_go 8 = .ok (.iload_n 3, 1) := by decide +kernel
theorem dX12_go_9 : decode cX12_go 9 = .ok (.aload_n 0, 1) := by decide +kernel
theorem dX12_go_10 : decode cX12_go 10 = .ok (.getfield 334, 3) := by decide +kernel
theorem dX12_go_13 : decode cX12_go 13 = .ok (.if_icmp .gt 20, 3) := by decide +kernel
theorem dX12_go_16 : decode cX12_go 16 = .ok (.iload_n 3, 1) := by decide +kernel
theorem dX12_go_17 : decode cX12_go 17 = .ok (.aload_n 0, 1) := by decide +kernel
theorem dX12_go_18 : decode cX12_go 18 = .ok (.getfield 334, 3) := by decide +kernel
theorem dX12_go_21 : decode cX12_go 21 = .ok (.if_icmp .ne 16, 3) := by decide +kernel
theorem dX12_go_24 : decode cX12_go 24 = .ok (.iload 4, 2) := by decide +kernel
theorem dX12_go_26 : decode cX12_go 26 = .ok (.aload_n 0, 1) := by decide +kernel
theorem dX12_go_27 : decode cX12_go 27 = .ok (.getfield 337, 3) := by decide +kernel
theorem dX12_go_30 : decode cX12_go 30 = .ok (.if_icmp .ge 7, 3) := by decide +kernel
theorem dX12_go_33 : decode cX12_go 33 = .ok (.iconst 1, 1) := by decide +kernel
theorem dX12_go_34 : decode cX12_go 34 = .ok (.goto 4, 3) := by decide +kernel
theorem dX12_go_37 : decode cX12_go 37 = .ok (.iconst 0, 1) := by decide +kernel
theorem dX12_go_38 : decode cX12_go 38 = .ok (.istore 5, 2) := by decide +kernel
theorem dX12_go_40 : decode cX12_go 40 = .ok (.iload 5, 2) := by decide +kernel
theorem dX12_go_42 : decode cX12_go 42 = .ok (.ifCond .eq 62, 3) := by decide +kernel
theorem dX12_go_45 : decode cX12_go 45 = .ok (.aload_n 0, 1) := by decide +kernel
theorem dX12_go_46 : decode cX12_go 46 = .ok (.iload_n 1, 1) := by decide +kernel
theorem dX12_go_47 : decode cX12_go 47 = .ok (.putfield 69, 3) := by decide +kernel
theorem dX12_go_50 : decode cX12_go 50 = .ok (.aload_n 0, 1) := by decide +kernel
theorem dX12_go_51 : decode cX12_go 51 = .ok (.iload_n 3, 1) := by decide +kernel
theorem dX12_go_52 : decode cX12_go 52 = .ok (.putfield 334, 3) := by decide +kernel
theorem dX12_go_55 : decode cX12_go 55 = .ok (.aload_n 0, 1) := by decide +kernel
theorem dX12_go_56 : decode cX12_go 56 = .ok (.iload 4, 2) := by decide +kernel
theorem dX12_go_58 : decode cX12_go 58 = .ok (.putfield 337, 3) := by decide +kernel
theorem dX12_go_61 : decode cX12_go 61 = .ok (.iconst 0, 1) := by decide +kernel
theorem dX12_go_62 : decode cX12_go 62 = .ok (.istore 6, 2) := by decide +kernel
theorem dX12_go_64 : decode cX12_go 64 = .ok (.iload 6, 2) := by decide +kernel
theorem dX12_go_66 : decode cX12_go 66 = .ok (.iload_n 1, 1) := by decide +kernel
theorem dX12_go_67 : decode cX12_go 67 = .ok (.if_icmp .ge 37, 3) := by decide +kernel
theorem dX12_go_70 : decode cX12_go 70 = .ok (.aload_n 0, 1) := by decide +kernel
theorem dX12_go_71 : decode cX12_go 71 = .ok (.getfield 63, 3) := by decide +kernel
theorem dX12_go_74 : decode cX12_go 74 = .ok (.iload 6, 2) := by decide +kernel
theorem dX12_go_76 : decode cX12_go 76 = .ok (.aload_n 0, 1) := by decide +kernel
theorem dX12_go_77 : decode cX12_go 77 = .ok (.getfield 57, 3) := by decide +kernel
theorem dX12_go_80 : decode cX12_go 80 = .ok (.iload 6, 2) := by decide +kernel
theorem dX12_go_82 : decode cX12_go 82 = .ok (.iaload, 1) := by decide +kernel
theorem dX12_go_83 : decode cX12_go 83 = .ok (.iastore, 1) := by decide +kernel
theorem dX12_go_84 : decode cX12_go 84 = .ok (.aload_n 0, 1) := by decide +kernel
theorem dX12_go_85 : decode cX12_go 85 = .ok (.getfield 66, 3) := by decide +kernel
theorem dX12_go_88 : decode cX12_go 88 = .ok (.iload 6, 2) := by decide +kernel
theorem dX12_go_90 : decode cX12_go 90 = .ok (.aload_n 0, 1) := by decide +kernel
theorem dX12_go_91 : decode cX12_go 91 = .ok (.getfield 60, 3) := by decide +kernel
theorem dX12_go_94 : decode cX12_go 94 = .ok (.iload 6, 2) := by decide +kernel
theorem dX12_go_96 : decode cX12_go 96 = .ok (.iaload, 1) := by decide +kernel
theorem dX12_go_97 : decode cX12_go 97 = .ok (.iastore, 1) := by decide +kernel
theorem dX12_go_98 : decode cX12_go 98 = .ok (.iinc 6 1, 3) := by decide +kernel
theorem dX12_go_101 : decode cX12_go 101 = .ok (.goto (-37), 3) := by decide +kernel
theorem dX12_go_104 : decode cX12_go 104 = .ok (.iconst 0, 1) := by decide +kernel
theorem dX12_go_105 : decode cX12_go 105 = .ok (.istore 6, 2) := by decide +kernel
theorem dX12_go_107 : decode cX12_go 107 = .ok (.iload 6, 2) := by decide +kernel
theorem dX12_go_109 : decode cX12_go 109 = .ok (.aload_n 0, 1) := by decide +kernel
theorem dX12_go_110 : decode cX12_go 110 = .ok (.getfield 29, 3) := by decide +kernel
theorem dX12_go_113 : decode cX12_go 113 = .ok (.iconst 0, 1) := by decide +kernel
theorem dX12_go_114 : decode cX12_go 114 = .ok (.iaload, 1) := by decide +kernel
theorem dX12_go_115 : decode cX12_go 115 = .ok (.if_icmp .ge 149, 3) := by decide +kernel
theorem dX12_go_118 : decode cX12_go 118 = .ok (.iload_n 2, 1) := by decide +kernel
theorem dX12_go_119 : decode cX12_go 119 = .ok (.iload 6, 2) := by decide +kernel
theorem dX12_go_121 : decode cX12_go 121 = .ok (.ishr, 1) := by decide +kernel
theorem dX12_go_122 : decode cX12_go 122 = .ok (.iconst 1, 1) := by decide +kernel
theorem dX12_go_123 : decode cX12_go 123 = .ok (.iand, 1) := by decide +kernel
theorem dX12_go_124 : decode cX12_go 124 = .ok (.iconst 1, 1) := by decide +kernel
theorem dX12_go_125 : decode cX12_go 125 = .ok (.if_icmp .ne 6, 3) := by decide +kernel
theorem dX12_go_128 : decode cX12_go 128 = .ok (.goto 130, 3) := by decide +kernel
theorem dX12_go_131 : decode cX12_go 131 = .ok (.bipush 6, 2) := by decide +kernel
theorem dX12_go_133 : decode cX12_go 133 = .ok (.iload 6, 2) := by decide +kernel
theorem dX12_go_135 : decode cX12_go 135 = .ok (.imul, 1) := by decide +kernel
theorem dX12_go_136 : decode cX12_go 136 = .ok (.istore 7, 2) := by decide +kernel
theorem dX12_go_138 : decode cX12_go 138 = .ok (.iload_n 1, 1) := by decide +kernel
theorem dX12_go_139 : decode cX12_go 139 = .ok (.ifCond .ne 7, 3) := by decide +kernel
theorem dX12_go_142 : decode cX12_go 142 = .ok (.iconst 0, 1) := by decide +kernel
theorem dX12_go_143 : decode cX12_go 143 = .ok (.goto 40, 3) := by decide +kernel
theorem dX12_go_146 : decode cX12_go 146 = .ok (.iload 4, 2) := by decide +kernel
theorem dX12_go_148 : decode cX12_go 148 = .ok (.iconst 1, 1) := by decide +kernel
theorem dX12_go_149 : decode cX12_go 149 = .ok (.iadd, 1) := by decide +kernel
theorem dX12_go_150 : decode cX12_go 150 = .ok (.aload_n 0, 1) := by decide +kernel
theorem dX12_go_151 : decode cX12_go 151 = .ok (.getfield 45, 3) := by decide +kernel
theorem dX12_go_154 : decode cX12_go 154 = .ok (.bipush 12, 2) := by decide +kernel
theorem dX12_go_156 : decode cX12_go 156 = .ok (.aload_n 0, 1) := by decide +kernel
theorem dX12_go_157 : decode cX12_go 157 = .ok (.getfield 43, 3) := by decide +kernel
theorem dX12_go_160 : decode cX12_go 160 = .ok (.bipush 6, 2) := by decide +kernel
theorem dX12_go_162 : decode cX12_go 162 = .ok (.aload_n 0, 1) := by decide +kernel
theorem dX12_go_163 : decode cX12_go 163 = .ok (.getfield 57, 3) := by decide +kernel
theorem dX12_go_166 : decode cX12_go 166 = .ok (.iload_n 1, 1) := by decide +kernel
theorem dX12_go_167 : decode cX12_go 167 = .ok (.iconst 1, 1) := by decide +kernel
theorem dX12_go_168 : decode cX12_go 168 = .ok (.isub, 1) := by decide +kernel
theorem dX12_go_169 : decode cX12_go 169 = .ok (.iaload, 1) := by decide +kernel
theorem dX12_go_170 : decode cX12_go 170 = .ok (.imul, 1) := by decide +kernel
theorem dX12_go_171 : decode cX12_go 171 = .ok (.iaload, 1) := by decide +kernel
theorem dX12_go_172 : decode cX12_go 172 = .ok (.imul, 1) := by decide +kernel
theorem dX12_go_173 : decode cX12_go 173 = .ok (.aload_n 0, 1) := by decide +kernel
theorem dX12_go_174 : decode cX12_go 174 = .ok (.getfield 43, 3) := by decide +kernel
theorem dX12_go_177 : decode cX12_go 177 = .ok (.iload 7, 2) := by decide +kernel
theorem dX12_go_179 : decode cX12_go 179 = .ok (.iaload, 1) := by decide +kernel
theorem dX12_go_180 : decode cX12_go 180 = .ok (.iadd, 1) := by decide +kernel
theorem dX12_go_181 : decode cX12_go 181 = .ok (.iaload, 1) := by decide +kernel
theorem dX12_go_182 : decode cX12_go 182 = .ok (.iadd, 1) := by decide +kernel
theorem dX12_go_183 : decode cX12_go 183 = .ok (.istore 8, 2) := by decide +kernel
theorem dX12_go_185 : decode cX12_go 185 = .ok (.aload_n 0, 1) := by decide +kernel
theorem dX12_go_186 : decode cX12_go 186 = .ok (.iload 6, 2) := by decide +kernel
theorem dX12_go_188 : decode cX12_go 188 = .ok (.iload 8, 2) := by decide +kernel
theorem dX12_go_190 : decode cX12_go 190 = .ok (.invokevirtual 331, 3) := by decide +kernel
theorem dX12_go_193 : decode cX12_go 193 = .ok (.istore 9, 2) := by decide +kernel
theorem dX12_go_195 : decode cX12_go 195 = .ok (.iload 9, 2) := by decide +kernel
theorem dX12_go_197 : decode cX12_go 197 = .ok (.iconst (-1), 1) := by decide +kernel
theorem dX12_go_198 : decode cX12_go 198 = .ok (.if_icmp .ne 6, 3) := by decide +kernel
theorem dX12_go_201 : decode cX12_go 201 = .ok (.goto 57, 3) := by decide +kernel
theorem dX12_go_204 : decode cX12_go 204 = .ok (.aload_n 0, 1) := by decide +kernel
theorem dX12_go_205 : decode cX12_go 205 = .ok (.getfield 57, 3) := by decide +kernel
theorem dX12_go_208 : decode cX12_go 208 = .ok (.iload_n 1, 1) := by decide +kernel
theorem dX12_go_209 : decode cX12_go 209 = .ok (.iload 6, 2) := by decide +kernel
theorem dX12_go_211 : decode cX12_go 211 = .ok (.iastore, 1) := by decide +kernel
theorem dX12_go_212 : decode cX12_go 212 = .ok (.aload_n 0, 1) := by decide +kernel
theorem dX12_go_213 : decode cX12_go 213 = .ok (.getfield 60, 3) := by decide +kernel
theorem dX12_go_216 : decode cX12_go 216 = .ok (.iload_n 1, 1) := by decide +kernel
theorem dX12_go_217 : decode cX12_go 217 = .ok (.iload 9, 2) := by decide +kernel
theorem dX12_go_219 : decode cX12_go 219 = .ok (.iastore, 1) := by decide +kernel
theorem dX12_go_220 : decode cX12_go 220 = .ok (.aload_n 0, 1) := by decide +kernel
theorem dX12_go_221 : decode cX12_go 221 = .ok (.iload_n 1, 1) := by decide +kernel
theorem dX12_go_222 : decode cX12_go 222 = .ok (.iconst 1, 1) := by decide +kernel
theorem dX12_go_223 : decode cX12_go 223 = .ok (.iadd, 1) := by decide +kernel
theorem dX12_go_224 : decode cX12_go 224 = .ok (.iload_n 2, 1) := by decide +kernel
theorem dX12_go_225 : decode cX12_go 225 = .ok (.iconst 1, 1) := by decide +kernel
theorem dX12_go_226 : decode cX12_go 226 = .ok (.iload 6, 2) := by decide +kernel
theorem dX12_go_228 : decode cX12_go 228 = .ok (.ishl, 1) := by decide +kernel
theorem dX12_go_229 : decode cX12_go 229 = .ok (.ior, 1) := by decide +kernel
theorem dX12_go_230 : decode cX12_go 230 = .ok (.iload_n 3, 1) := by decide +kernel
theorem dX12_go_231 : decode cX12_go 231 = .ok (.aload_n 0, 1) := by decide +kernel
theorem dX12_go_232 : decode cX12_go 232 = .ok (.getfield 43, 3) := by decide +kernel
theorem dX12_go_235 : decode cX12_go 235 = .ok (.iload 7, 2) := by decide +kernel
theorem dX12_go_237 : decode cX12_go 237 = .ok (.iconst 5, 1) := by decide +kernel
theorem dX12_go_238 : decode cX12_go 238 = .ok (.iadd, 1) := by decide +kernel
theorem dX12_go_239 : decode cX12_go 239 = .ok (.iaload, 1) := by decide +kernel
theorem dX12_go_240 : decode cX12_go 240 = .ok (.iadd, 1) := by decide +kernel
theorem dX12_go_241 : decode cX12_go 241 = .ok (.iload 9, 2) := by decide +kernel
theorem dX12_go_243 : decode cX12_go 243 = .ok (.aload_n 0, 1) := by decide +kernel
theorem dX12_go_244 : decode cX12_go 244 = .ok (.getfield 43, 3) := by decide +kernel
theorem dX12_go_247 : decode cX12_go 247 = .ok (.iload 7, 2) := by decide +kernel
theorem dX12_go_249 : decode cX12_go 249 = .ok (.iconst 1, 1) := by decide +kernel
theorem dX12_go_250 : decode cX12_go 250 = .ok (.iadd, 1) := by decide +kernel
theorem dX12_go_251 : decode cX12_go 251 = .ok (.iaload, 1) := by decide +kernel
theorem dX12_go_252 : decode cX12_go 252 = .ok (.iadd, 1) := by decide +kernel
theorem dX12_go_253 : decode cX12_go 253 = .ok (.iconst 1, 1) := by decide +kernel
theorem dX12_go_254 : decode cX12_go 254 = .ok (.isub, 1) := by decide +kernel
theorem dX12_go_255 : decode cX12_go 255 = .ok (.invokevirtual 340, 3) := by decide +kernel
theorem dX12_go_258 : decode cX12_go 258 = .ok (.iinc 6 1, 3) := by decide +kernel
theorem dX12_go_261 : decode cX12_go 261 = .ok (.goto (-154), 3) := by decide +kernel
theorem dX12_go_264 : decode cX12_go 264 = .ok (.return_, 1) := by decide +kernel
theorem dX12_plan_0 : decode cX12_plan 0 = .ok (.aload_n 0, 1) := by decide +kernel
theorem dX12_plan_1 : decode cX12_plan 1 = .ok (.iconst 0, 1) := by decide +kernel
theorem dX12_plan_2 : decode cX12_plan 2 = .ok (.putfield 182, 3) := by decide +kernel
theorem dX12_plan_5 : decode cX12_plan 5 = .ok (.aload_n 0, 1) := by decide +kernel
theorem dX12_plan_6 : decode cX12_plan 6 = .ok (.iconst (-1), 1) := by decide +kernel
theorem dX12_plan_7 : decode cX12_plan 7 = .ok (.putfield 69, 3) := by decide +kernel
theorem dX12_plan_10 : decode cX12_plan 10 = .ok (.aload_n 0, 1) := by decide +kernel
theorem dX12_plan_11 : decode cX12_plan 11 = .ok (.iconst (-1), 1) := by decide +kernel
theorem dX12_plan_12 : decode cX12_plan 12 = .ok (.putfield 157, 3) := by decide +kernel
theorem dX12_plan_15 : decode cX12_plan 15 = .ok (.aload_n 0, 1) := by decide +kernel
theorem dX12_plan_16 : decode cX12_plan 16 = .ok (.iconst 0, 1) := by decide +kernel
theorem dX12_plan_17 : decode cX12_plan 17 = .ok (.iconst 0, 1) := by decide +kernel
theorem dX12_plan_18 : decode cX12_plan 18 = .ok (.iconst 0, 1) := by decide +kernel
theorem dX12_plan_19 : decode cX12_plan 19 = .ok (.iconst (-1), 1) := by decide +kernel
theorem dX12_plan_20 : decode cX12_plan 20 = .ok (.invokevirtual 340, 3) := by decide +kernel
theorem dX12_plan_23 : decode cX12_plan 23 = .ok (.aload_n 0, 1) := by decide +kernel
theorem dX12_plan_24 : decode cX12_plan 24 = .ok (.getfield 334, 3) := by decide +kernel
theorem dX12_plan_27 : decode cX12_plan 27 = .ok (.ireturn, 1) := by decide +kernel
theorem dX12_planned_0 : decode cX12_planned 0 = .ok (.aload_n 0, 1) := by decide +kernel
theorem dX12_planned_1 : decode cX12_planned 1 = .ok (.iconst 0, 1) := by decide +kernel
theorem dX12_planned_2 : decode cX12_planned 2 = .ok (.putfield 182, 3) := by decide +kernel
theorem dX12_planned_5 : decode cX12_planned 5 = .ok (.aload_n 0, 1) := by decide +kernel
theorem dX12_planned_6 : decode cX12_planned 6 = .ok (.getfield 69, 3) := by decide +kernel
theorem dX12_planned_9 : decode cX12_planned 9 = .ok (.iconst (-1), 1) := by decide +kernel
theorem dX12_planned_10 : decode cX12_planned 10 = .ok (.if_icmp .eq 26, 3) := by decide +kernel
theorem dX12_planned_13 : decode cX12_planned 13 = .ok (.iload_n 2, 1) := by decide +kernel
theorem dX12_planned_14 : decode cX12_planned 14 = .ok (.ifCond .lt 22, 3) := by decide +kernel
theorem dX12_planned_17 : decode cX12_planned 17 = .ok (.iload_n 2, 1) := by decide +kernel
theorem dX12_planned_18 : decode cX12_planned 18 = .ok (.iconst 1, 1) := by decide +kernel
theorem dX12_planned_19 : decode cX12_planned 19 = .ok (.if_icmp .gt 17, 3) := by decide +kernel
theorem dX12_planned_22 : decode cX12_planned 22 = .ok (.iload_n 1, 1) := by decide +kernel
theorem dX12_planned_23 : decode cX12_planned 23 = .ok (.iconst (-1), 1) := by decide +kernel
theorem dX12_planned_24 : decode cX12_planned 24 = .ok (.aload_n 0, 1) := by decide +kernel
theorem dX12_planned_25 : decode cX12_planned 25 = .ok (.getfield 69, 3) := by decide +kernel
theorem dX12_planned_28 : decode cX12_planned 28 = .ok (.iconst 1, 1) := by decide +kernel
theorem dX12_planned_29 : decode cX12_planned 29 = .ok (.isub, 1) := by decide +kernel
theorem dX12_planned_30 : decode cX12_planned 30 = .ok (.invokestatic 185, 3) := by decide +kernel
theorem dX12_planned_33 : decode cX12_planned 33 = .ok (.ifCond .ne 9, 3) := by decide +kernel
theorem dX12_planned_36 : decode cX12_planned 36 = .ok (.aload_n 0, 1) := by decide +kernel
theorem dX12_planned_37 : decode cX12_planned 37 = .ok (.iconst 1, 1) := by decide +kernel
theorem dX12_planned_38 : decode cX12_planned 38 = .ok (.invokevirtual 292, 3) := by decide +kernel
theorem dX12_planned_41 : decode cX12_planned 41 = .ok (.ireturn, 1) := by decide +kernel
theorem dX12_planned_42 : decode cX12_planned 42 = .ok (.iload_n 1, 1) := by decide +kernel
theorem dX12_planned_43 : decode cX12_planned 43 = .ok (.iconst (-1), 1) := by decide +kernel
theorem dX12_planned_44 : decode cX12_planned 44 = .ok (.if_icmp .ne 19, 3) := by decide +kernel
theorem dX12_planned_47 : decode cX12_planned 47 = .ok (.iload_n 2, 1) := by decide +kernel
theorem dX12_planned_48 : decode cX12_planned 48 = .ok (.ifCond .ne 10, 3) := by decide +kernel
theorem dX12_planned_51 : decode cX12_planned 51 = .ok (.aload_n 0, 1) := by decide +kernel
theorem dX12_planned_52 : decode cX12_planned 52 = .ok (.getfield 69, 3) := by decide +kernel
theorem dX12_planned_55 : decode cX12_planned 55 = .ok (.goto 7, 3) := by decide +kernel
theorem dX12_planned_58 : decode cX12_planned 58 = .ok (.aload_n 0, 1) := by decide +kernel
theorem dX12_planned_59 : decode cX12_planned 59 = .ok (.getfield 337, 3) := by decide +kernel
theorem dX12_planned_62 : decode cX12_planned 62 = .ok (.ireturn, 1) := by decide +kernel
theorem dX12_planned_63 : decode cX12_planned 63 = .ok (.iload_n 2, 1) := by decide +kernel
theorem dX12_planned_64 : decode cX12_planned 64 = .ok (.ifCond .ne 12, 3) := by decide +kernel
theorem dX12_planned_67 : decode cX12_planned 67 = .ok (.aload_n 0, 1) := by decide +kernel
theorem dX12_planned_68 : decode cX12_planned 68 = .ok (.getfield 63, 3) := by decide +kernel
theorem dX12_planned_71 : decode cX12_planned 71 = .ok (.iload_n 1, 1) := by decide +kernel
theorem dX12_planned_72 : decode cX12_planned 72 = .ok (.iaload, 1) := by decide +kernel
theorem dX12_planned_73 : decode cX12_planned 73 = .ok (.goto 9, 3) := by decide +kernel
theorem dX12_planned_76 : decode cX12_planned 76 = .ok (.aload_n 0, 1) := by decide +kernel
theorem dX12_planned_77 : decode cX12_planned 77 = .ok (.getfield 66, 3) := by decide +kernel
theorem dX12_planned_80 : decode cX12_planned 80 = .ok (.iload_n 1, 1) := by decide +kernel
theorem dX12_planned_81 : decode cX12_planned 81 = .ok (.iaload, 1) := by decide +kernel
theorem dX12_planned_82 : decode cX12_planned 82 = .ok (.ireturn, 1) := by decide +kernel
theorem dX12_plumb_0 : decode cX12_plumb 0 = .ok (.aload_n 0, 1) := by decide +kernel
theorem dX12_plumb_1 : decode cX12_plumb 1 = .ok (.iconst 0, 1) := by decide +kernel
theorem dX12_plumb_2 : decode cX12_plumb 2 = .ok (.putfield 182, 3) := by decide +kernel
theorem dX12_plumb_5 : decode cX12_plumb 5 = .ok (.aload_n 0, 1) := by decide +kernel
theorem dX12_plumb_6 : decode cX12_plumb 6 = .ok (.iload_n 1, 1) := by decide +kernel
theorem dX12_plumb_7 : decode cX12_plumb 7 = .ok (.invokevirtual 321, 3) := by decide +kernel
theorem dX12_plumb_10 : decode cX12_plumb 10 = .ok (.ifCond .ne 9, 3) := by decide +kernel
theorem dX12_plumb_13 : decode cX12_plumb 13 = .ok (.aload_n 0, 1) := by decide +kernel
theorem dX12_plumb_14 : decode cX12_plumb 14 = .ok (.iconst 1, 1) := by decide +kernel
theorem dX12_plumb_15 : decode cX12_plumb 15 = .ok (.invokevirtual 344, 3) := by decide +kernel
theorem dX12_plumb_18 : decode cX12_plumb 18 = .ok (.ireturn, 1) := by decide +kernel
theorem dX12_plumb_19 : decode cX12_plumb 19 = .ok (.aload_n 0, 1) := by decide +kernel
theorem dX12_plumb_20 : decode cX12_plumb 20 = .ok (.getfield 72, 3) := by decide +kernel
theorem dX12_plumb_23 : decode cX12_plumb 23 = .ok (.iload_n 1, 1) := by decide +kernel
theorem dX12_plumb_24 : decode cX12_plumb 24 = .ok (.iaload, 1) := by decide +kernel
theorem dX12_plumb_25 : decode cX12_plumb 25 = .ok (.bipush 10, 2) := by decide +kernel
theorem dX12_plumb_27 : decode cX12_plumb 27 = .ok (.if_icmp .eq 27, 3) := by decide +kernel
theorem dX12_plumb_30 : decode cX12_plumb 30 = .ok (.iload_n 2, 1) := by decide +kernel
theorem dX12_plumb_31 : decode cX12_plumb 31 = .ok (.iconst 0, 1) := by decide +kernel
theorem dX12_plumb_32 : decode cX12_plumb 32 = .ok (.sipush 300, 3) := by decide +kernel
theorem dX12_plumb_35 : decode cX12_plumb 35 = .ok (.invokestatic 185, 3) := by decide +kernel
theorem dX12_plumb_38 : decode cX12_plumb 38 = .ok (.ifCond .eq 16, 3) := by decide +kernel
theorem dX12_plumb_41 : decode cX12_plumb 41 = .ok (.iload_n 3, 1) := by decide +kernel
theorem dX12_plumb_42 : decode cX12_plumb 42 = .ok (.sipush (-3000), 3) := by decide +kernel
theorem dX12_plumb_45 : decode cX12_plumb 45 = .ok (.sipush 3000, 3) := by decide +kernel
theorem dX12_plumb_48 : decode cX12_plumb 48 = .ok (.invokestatic 185, 3) := by decide +kernel
theorem dX12_plumb_51 : decode cX12_plumb 51 = .ok (.ifCond .ne 5, 3) := by decide +kernel
theorem dX12_plumb_54 : decode cX12_plumb 54 = .ok (.iconst 0, 1) := by decide +kernel
theorem dX12_plumb_55 : decode cX12_plumb 55 = .ok (.ireturn, 1) := by decide +kernel
theorem dX12_plumb_56 : decode cX12_plumb 56 = .ok (.aload_n 0, 1) := by decide +kernel
theorem dX12_plumb_57 : decode cX12_plumb 57 = .ok (.getfield 78, 3) := by decide +kernel
theorem dX12_plumb_60 : decode cX12_plumb 60 = .ok (.bipush 10, 2) := by decide +kernel
theorem dX12_plumb_62 : decode cX12_plumb 62 = .ok (.iload_n 1, 1) := by decide +kernel
theorem dX12_plumb_63 : decode cX12_plumb 63 = .ok (.imul, 1) := by decide +kernel
theorem dX12_plumb_64 : decode cX12_plumb 64 = .ok (.aload_n 0, 1) := by decide +kernel
theorem dX12_plumb_65 : decode cX12_plumb 65 = .ok (.getfield 72, 3) := by decide +kernel
theorem dX12_plumb_68 : decode cX12_plumb 68 = .ok (.iload_n 1, 1) := by decide +kernel
theorem dX12_plumb_69 : decode cX12_plumb 69 = .ok (.iaload, 1) := by decide +kernel
theorem dX12_plumb_70 : decode cX12_plumb 70 = .ok (.iadd, 1) := by decide +kernel
theorem dX12_plumb_71 : decode cX12_plumb 71 = .ok (.iload_n 2, 1) := by decide +kernel
theorem dX12_plumb_72 : decode cX12_plumb 72 = .ok (.iastore, 1) := by decide +kernel
theorem dX12_plumb_73 : decode cX12_plumb 73 = .ok (.aload_n 0, 1) := by decide +kernel
theorem dX12_plumb_74 : decode cX12_plumb 74 = .ok (.getfield 81, 3) := by decide +kernel
theorem dX12_plumb_77 : decode cX12_plumb 77 = .ok (.bipush 10, 2) := by decide +kernel
theorem dX12_plumb_79 : decode cX12_plumb 79 = .ok (.iload_n 1, 1) := by decide +kernel
theorem dX12_plumb_80 : decode cX12_plumb 80 = .ok (.imul, 1) := by decide +kernel
theorem dX12_plumb_81 : decode cX12_plumb 81 = .ok (.aload_n 0, 1) := by decide +kernel
theorem dX12_plumb_82 : decode cX12_plumb 82 = .ok (.getfield 72, 3) := by decide +kernel
theorem dX12_plumb_85 : decode cX12_plumb 85 = .ok (.iload_n 1, 1) := by decide +kernel
theorem dX12_plumb_86 : decode cX12_plumb 86 = .ok (.iaload, 1) := by decide +kernel
theorem dX12_plumb_87 : decode cX12_plumb 87 = .ok (.iadd, 1) := by decide +kernel
theorem dX12_plumb_88 : decode cX12_plumb 88 = .ok (.iload_n 3, 1) := by decide +kernel
theorem dX12_plumb_89 : decode cX12_plumb 89 = .ok (.iastore, 1) := by decide +kernel
theorem dX12_plumb_90 : decode cX12_plumb 90 = .ok (.aload_n 0, 1) := by decide +kernel
theorem dX12_plumb_91 : decode cX12_plumb 91 = .ok (.getfield 72, 3) := by decide +kernel
theorem dX12_plumb_94 : decode cX12_plumb 94 = .ok (.iload_n 1, 1) := by decide +kernel
theorem dX12_plumb_95 : decode cX12_plumb 95 = .ok (.dup2, 1) := by decide +kernel
theorem dX12_plumb_96 : decode cX12_plumb 96 = .ok (.iaload, 1) := by decide +kernel
theorem dX12_plumb_97 : decode cX12_plumb 97 = .ok (.iconst 1, 1) := by decide +kernel
theorem dX12_plumb_98 : decode cX12_plumb 98 = .ok (.iadd, 1) := by decide +kernel
theorem dX12_plumb_99 : decode cX12_plumb 99 = .ok (.iastore, 1) := by decide +kernel
theorem dX12_plumb_100 : decode cX12_plumb 100 = .ok (.iconst 1, 1) := by decide +kernel
theorem dX12_plumb_101 : decode cX12_plumb 101 = .ok (.ireturn, 1) := by decide +kernel
theorem dX12_doubt_0 : decode cX12_doubt 0 = .ok (.aload_n 0, 1) := by decide +kernel
theorem dX12_doubt_1 : decode cX12_doubt 1 = .ok (.iconst 0, 1) := by decide +kernel
theorem dX12_doubt_2 : decode cX12_doubt 2 = .ok (.putfield 182, 3) := by decide +kernel
theorem dX12_doubt_5 : decode cX12_doubt 5 = .ok (.aload_n 0, 1) := by decide +kernel
theorem dX12_doubt_6 : decode cX12_doubt 6 = .ok (.iload_n 1, 1) := by decide +kernel
theorem dX12_doubt_7 : decode cX12_doubt 7 = .ok (.invokevirtual 321, 3) := by decide +kernel
theorem dX12_doubt_10 : decode cX12_doubt 10 = .ok (.ifCond .ne 9, 3) := by decide +kernel
theorem dX12_doubt_13 : decode cX12_doubt 13 = .ok (.aload_n 0, 1) := by decide +kernel
theorem dX12_doubt_14 : decode cX12_doubt 14 = .ok (.iconst 1, 1) := by decide +kernel
theorem dX12_doubt_15 : decode cX12_doubt 15 = .ok (.invokevirtual 344, 3) := by decide +kernel
theorem dX12_doubt_18 : decode cX12_doubt 18 = .ok (.ireturn, 1) := by decide +kernel
theorem dX12_doubt_19 : decode cX12_doubt 19 = .ok (.iload_n 2, 1) := by decide +kernel
theorem dX12_doubt_20 : decode cX12_doubt 20 = .ok (.iconst 0, 1) := by decide +kernel
theorem dX12_doubt_21 : decode cX12_doubt 21 = .ok (.sipush 500, 3) := by decide +kernel
theorem dX12_doubt_24 : decode cX12_doubt 24 = .ok (.invokestatic 185, 3) := by decide +kernel
theorem dX12_doubt_27 : decode cX12_doubt 27 = .ok (.ifCond .ne 5, 3) := by decide +kernel
theorem dX12_doubt_30 : decode cX12_doubt 30 = .ok (.iconst 0, 1) := by decide +kernel
theorem dX12_doubt_31 : decode cX12_doubt 31 = .ok (.ireturn, 1) := by decide +kernel
theorem dX12_doubt_32 : decode cX12_doubt 32 = .ok (.aload_n 0, 1) := by decide +kernel
theorem dX12_doubt_33 : decode cX12_doubt 33 = .ok (.getfield 75, 3) := by decide +kernel
theorem dX12_doubt_36 : decode cX12_doubt 36 = .ok (.iload_n 1, 1) := by decide +kernel
theorem dX12_doubt_37 : decode cX12_doubt 37 = .ok (.iload_n 2, 1) := by decide +kernel
theorem dX12_doubt_38 : decode cX12_doubt 38 = .ok (.iastore, 1) := by decide +kernel
theorem dX12_doubt_39 : decode cX12_doubt 39 = .ok (.iconst 1, 1) := by decide +kernel
theorem dX12_doubt_40 : decode cX12_doubt 40 = .ok (.ireturn, 1) := by decide +kernel
theorem dX12_goesThrough_0 : decode cX12_goesThrough 0 = .ok (.bipush 10, 2) := by decide +kernel
theorem dX12_goesThrough_2 : decode cX12_goesThrough 2 = .ok (.iload_n 1, 1) := by decide +kernel
theorem dX12_goesThrough_3 : decode cX12_goesThrough 3 = .ok (.imul, 1) := by decide +kernel
theorem dX12_goesThrough_4 : decode cX12_goesThrough 4 = .ok (.istore_n 2, 1) := by decide +kernel
theorem dX12_goesThrough_5 : decode cX12_goesThrough 5 = .ok (.iload_n 2, 1) := by decide +kernel
theorem dX12_goesThrough_6 : decode cX12_goesThrough 6 = .ok (.bipush 10, 2) := by decide +kernel
theorem dX12_goesThrough_8 : decode cX12_goesThrough 8 = .ok (.iload_n 1, 1) := by decide +kernel
theorem dX12_goesThrough_9 : decode cX12_goesThrough 9 = .ok (.imul, 1) := by decide +kernel
theorem dX12_goesThrough_10 : decode cX12_goesThrough 10 = .ok (.aload_n 0, 1) := by decide +kernel
theorem dX12_goesThrough_11 : decode cX12_goesThrough 11 = .ok (.getfield 72, 3) := by decide +kernel
theorem dX12_goesThrough_14 : decode cX12_goesThrough 14 = .ok (.iload_n 1, 1) := by decide +kernel
theorem dX12_goesThrough_15 : decode cX12_goesThrough 15 = .ok (.iaload, 1) := by decide +kernel
theorem dX12_goesThrough_16 : decode cX12_goesThrough 16 = .ok (.iadd, 1) := by decide +kernel
theorem dX12_goesThrough_17 : decode cX12_goesThrough 17 = .ok (.if_icmp .ge 63, 3) := by decide +kernel
theorem dX12_goesThrough_20 : decode cX12_goesThrough 20 = .ok (.aload_n 0, 1) := by decide +kernel
theorem dX12_goesThrough_21 : decode cX12_goesThrough 21 = .ok (.getfield 347, 3) := by decide +kernel
theorem dX12_goesThrough_24 : decode cX12_goesThrough 24 = .ok (.aload_n 0, 1) := by decide +kernel
theorem dX12_goesThrough_25 : decode cX12_goesThrough 25 = .ok (.getfield 81, 3) := by decide +kernel
theorem dX12_goesThrough_28 : decode cX12_goesThrough 28 = .ok (.iload_n 2, 1) := by decide +kernel
theorem dX12_goesThrough_29 : decode cX12_goesThrough 29 = .ok (.iaload, 1) := by decide +kernel
theorem dX12_goesThrough_30 : decode cX12_goesThrough 30 = .ok (.isub, 1) := by decide +kernel
theorem dX12_goesThrough_31 : decode cX12_goesThrough 31 = .ok (.aload_n 0, 1) := by decide +kernel
theorem dX12_goesThrough_32 : decode cX12_goesThrough 32 = .ok (.getfield 350, 3) := by decide +kernel
theorem dX12_goesThrough_35 : decode cX12_goesThrough 35 = .ok (.imul, 1) := by decide +kernel
theorem dX12_goesThrough_36 : decode cX12_goesThrough 36 = .ok (.aload_n 0, 1) := by decide +kernel
theorem dX12_goesThrough_37 : decode cX12_goesThrough 37 = .ok (.getfield 353, 3) := by decide +kernel
theorem dX12_goesThrough_40 : decode cX12_goesThrough 40 = .ok (.aload_n 0, 1) := by decide +kernel
theorem dX12_goesThrough_41 : decode cX12_goesThrough 41 = .ok (.getfield 78, 3) := by decide +kernel
theorem dX12_goesThrough_44 : decode cX12_goesThrough 44 = .ok (.iload_n 2, 1) := by decide +kernel
theorem dX12_goesThrough_45 : decode cX12_goesThrough 45 = .ok (.iaload, 1) := by decide +kernel
theorem dX12_goesThrough_46 : decode cX12_goesThrough 46 = .ok (.aload_n 0, 1) := by decide +kernel
theorem dX12_goesThrough_47 : decode cX12_goesThrough 47 = .ok (.getfield 356, 3) := by decide +kernel
theorem dX12_goesThrough_50 : decode cX12_goesThrough 50 = .ok (.isub, 1) := by decide +kernel
theorem dX12_goesThrough_51 : decode cX12_goesThrough 51 = .ok (.imul, 1) := by decide +kernel
theorem dX12_goesThrough_52 : decode cX12_goesThrough 52 = .ok (.iadd, 1) := by decide +kernel
theorem dX12_goesThrough_53 : decode cX12_goesThrough 53 = .ok (.istore_n 3, 1) := by decide +kernel
theorem dX12_goesThrough_54 : decode cX12_goesThrough 54 = .ok (.iload_n 3, 1) := by decide +kernel
theorem dX12_goesThrough_55 : decode cX12_goesThrough 55 = .ok (.invokestatic 359, 3) := by decide +kernel
theorem dX12_goesThrough_58 : decode cX12_goesThrough 58 = .ok (.aload_n 0, 1) := by decide +kernel
theorem dX12_goesThrough_59 : decode cX12_goesThrough 59 = .ok (.getfield 75, 3) := by decide +kernel
theorem dX12_goesThrough_62 : decode cX12_goesThrough 62 = .ok (.iload_n 1, 1) := by decide +kernel
theorem dX12_goesThrough_63 : decode cX12_goesThrough 63 = .ok (.iaload, 1) := by decide +kernel
theorem dX12_goesThrough_64 : decode cX12_goesThrough 64 = .ok (.aload_n 0, 1) := by decide +kernel
theorem dX12_goesThrough_65 : decode cX12_goesThrough 65 = .ok (.getfield 350, 3) := by decide +kernel
theorem dX12_goesThrough_68 : decode cX12_goesThrough 68 = .ok (.imul, 1) := by decide +kernel
theorem dX12_goesThrough_69 : decode cX12_goesThrough 69 = .ok (.if_icmp .le 5, 3) := by decide +kernel
theorem dX12_goesThrough_72 : decode cX12_goesThrough 72 = .ok (.iconst 0, 1) := by decide +kernel
theorem dX12_goesThrough_73 : decode cX12_goesThrough 73 = .ok (.ireturn, 1) := by decide +kernel
theorem dX12_goesThrough_74 : decode cX12_goesThrough 74 = .ok (.iinc 2 1, 3) := by decide +kernel
theorem dX12_goesThrough_77 : decode cX12_goesThrough 77 = .ok (.goto (-72), 3) := by decide +kernel
theorem dX12_goesThrough_80 : decode cX12_goesThrough 80 = .ok (.iconst 1, 1) := by decide +kernel
theorem dX12_goesThrough_81 : decode cX12_goesThrough 81 = .ok (.ireturn, 1) := by decide +kernel
theorem dX12_leanOf_0 : decode cX12_leanOf 0 = .ok (.aload_n 0, 1) := by decide +kernel
theorem dX12_leanOf_1 : decode cX12_leanOf 1 = .ok (.iconst 0, 1) := by decide +kernel
theorem dX12_leanOf_2 : decode cX12_leanOf 2 = .ok (.putfield 362, 3) := by decide +kernel
theorem dX12_leanOf_5 : decode cX12_leanOf 5 = .ok (.iconst 0, 1) := by decide +kernel
theorem dX12_leanOf_6 : decode cX12_leanOf 6 = .ok (.istore 4, 2) := by decide +kernel
theorem dX12_leanOf_8 : decode cX12_leanOf 8 = .ok (.iconst 0, 1) := by decide +kernel
theorem dX12_leanOf_9 : decode cX12_leanOf 9 = .ok (.istore 5, 2) := by decide +kernel
theorem dX12_leanOf_11 : decode cX12_leanOf 11 = .ok (.iload 5, 2) := by decide +kernel
theorem dX12_leanOf_13 : decode cX12_leanOf 13 = .ok (.aload_n 0, 1) := by decide +kernel
theorem dX12_leanOf_14 : decode cX12_leanOf 14 = .ok (.getfield 72, 3) := by decide +kernel
theorem dX12_leanOf_17 : decode cX12_leanOf 17 = .ok (.iload_n 1, 1) := by decide +kernel
theorem dX12_leanOf_18 : decode cX12_leanOf 18 = .ok (.iaload, 1) := by decide +kernel
theorem dX12_leanOf_19 : decode cX12_leanOf 19 = .ok (.if_icmp .ge 288, 3) := by decide +kernel
theorem dX12_leanOf_22 : decode cX12_leanOf 22 = .ok (.iconst 0, 1) := by decide +kernel
theorem dX12_leanOf_23 : decode cX12_leanOf 23 = .ok (.istore 6, 2) := by decide +kernel
theorem dX12_leanOf_25 : decode cX12_leanOf 25 = .ok (.iload 6, 2) := by decide +kernel
theorem dX12_leanOf_27 : decode cX12_leanOf 27 = .ok (.aload_n 0, 1) := by decide +kernel
theorem dX12_leanOf_28 : decode cX12_leanOf 28 = .ok (.getfield 72, 3) := by decide +kernel
theorem dX12_leanOf_31 : decode cX12_leanOf 31 = .ok (.iload_n 1, 1) := by decide +kernel
theorem dX12_leanOf_32 : decode cX12_leanOf 32 = .ok (.iaload, 1) := by decide +kernel
theorem dX12_leanOf_33 : decode cX12_leanOf 33 = .ok (.if_icmp .ge 268, 3) := by decide +kernel
theorem dX12_leanOf_36 : decode cX12_leanOf 36 = .ok (.aload_n 0, 1) := by decide +kernel
theorem dX12_leanOf_37 : decode cX12_leanOf 37 = .ok (.aload_n 0, 1) := by decide +kernel
theorem dX12_leanOf_38 : decode cX12_leanOf 38 = .ok (.getfield 78, 3) := by decide +kernel
theorem dX12_leanOf_41 : decode cX12_leanOf 41 = .ok (.bipush 10, 2) := by decide +kernel
theorem dX12_leanOf_43 : decode cX12_leanOf 43 = .ok (.iload_n 1, 1) := by decide +kernel
theorem dX12_leanOf_44 : decode cX12_leanOf 44 = .ok (.imul, 1) := by decide +kernel
theorem dX12_leanOf_45 : decode cX12_leanOf 45 = .ok (.iload 5, 2) := by decide +kernel
theorem dX12_leanOf_47 : decode cX12_leanOf 47 = .ok (.iadd, 1) := by decide +kernel
theorem dX12_leanOf_48 : decode cX12_leanOf 48 = .ok (.iaload, 1) := by decide +kernel
theorem dX12_leanOf_49 : decode cX12_leanOf 49 = .ok (.putfield 356, 3) := by decide +kernel
theorem dX12_leanOf_52 : decode cX12_leanOf 52 = .ok (.aload_n 0, 1) := by decide +kernel
theorem dX12_leanOf_53 : decode cX12_leanOf 53 = .ok (.aload_n 0, 1) := by decide +kernel
theorem dX12_leanOf_54 : decode cX12_leanOf 54 = .ok (.getfield 78, 3) := by decide +kernel
theorem dX12_leanOf_57 : decode cX12_leanOf 57 = .ok (.bipush 10, 2) := by decide +kernel
theorem dX12_leanOf_59 : decode cX12_leanOf 59 = .ok (.iload_n 1, 1) := by decide +kernel
theorem dX12_leanOf_60 : decode cX12_leanOf 60 = .ok (.imul, 1) := by decide +kernel
theorem dX12_leanOf_61 : decode cX12_leanOf 61 = .ok (.iload 6, 2) := by decide +kernel
theorem dX12_leanOf_63 : decode cX12_leanOf 63 = .ok (.iadd, 1) := by decide +kernel
theorem dX12_leanOf_64 : decode cX12_leanOf 64 = .ok (.iaload, 1) := by decide +kernel
theorem dX12_leanOf_65 : decode cX12_leanOf 65 = .ok (.aload_n 0, 1) := by decide +kernel
theorem dX12_leanOf_66 : decode cX12_leanOf 66 = .ok (.getfield 356, 3) := by decide +kernel
theorem dX12_leanOf_69 : decode cX12_leanOf 69 = .ok (.isub, 1) := by decide +kernel
theorem dX12_leanOf_70 : decode cX12_leanOf 70 = .ok (.putfield 350, 3) := by decide +kernel
theorem dX12_leanOf_73 : decode cX12_leanOf 73 = .ok (.aload_n 0, 1) := by decide +kernel
theorem dX12_leanOf_74 : decode cX12_leanOf 74 = .ok (.getfield 350, 3) := by decide +kernel
theorem dX12_leanOf_77 : decode cX12_leanOf 77 = .ok (.ifCond .gt 6, 3) := by decide +kernel
theorem dX12_leanOf_80 : decode cX12_leanOf 80 = .ok (.goto 215, 3) := by decide +kernel
theorem dX12_leanOf_83 : decode cX12_leanOf 83 = .ok (.iconst 0, 1) := by decide +kernel
theorem dX12_leanOf_84 : decode cX12_leanOf 84 = .ok (.istore 7, 2) := by decide +kernel
theorem dX12_leanOf_86 : decode cX12_leanOf 86 = .ok (.iload 7, 2) := by decide +kernel
theorem dX12_leanOf_88 : decode cX12_leanOf 88 = .ok (.iconst 4, 1) := by decide +kernel
theorem dX12_leanOf_89 : decode cX12_leanOf 89 = .ok (.if_icmp .ge 206, 3) := by decide +kernel
theorem dX12_leanOf_92 : decode cX12_leanOf 92 = .ok (.aload_n 0, 1) := by decide +kernel
theorem dX12_leanOf_93 : decode cX12_leanOf 93 = .ok (.aload_n 0, 1) := by decide +kernel
theorem dX12_leanOf_94 : decode cX12_leanOf 94 = .ok (.getfield 81, 3) := by decide +kernel
theorem dX12_leanOf_97 : decode cX12_leanOf 97 = .ok (.bipush 10, 2) := by decide +kernel
theorem dX12_leanOf_99 : decode cX12_leanOf 99 = .ok (.iload_n 1, 1) := by decide +kernel
theorem dX12_leanOf_100 : decode cX12_leanOf 100 = .ok (.imul, 1) := by decide +kernel
theorem dX12_leanOf_101 : decode cX12_leanOf 101 = .ok (.iload 5, 2) := by decide +kernel
theorem dX12_leanOf_103 : decode cX12_leanOf 103 = .ok (.iadd, 1) := by decide +kernel
theorem dX12_leanOf_104 : decode cX12_leanOf 104 = .ok (.iaload, 1) := by decide +kernel
theorem dX12_leanOf_105 : decode cX12_leanOf 105 = .ok (.iload 7, 2) := by decide +kernel
theorem dX12_leanOf_107 : decode cX12_leanOf 107 = .ok (.iconst 2, 1) := by decide +kernel
theorem dX12_leanOf_108 : decode cX12_leanOf 108 = .ok (.irem, 1) := by decide +kernel
theorem dX12_leanOf_109 : decode cX12_leanOf 109 = .ok (.ifCond .ne 12, 3) := by decide +kernel
theorem dX12_leanOf_112 : decode cX12_leanOf 112 = .ok (.aload_n 0, 1) := by decide +kernel
theorem dX12_leanOf_113 : decode cX12_leanOf 113 = .ok (.getfield 75, 3) := by decide +kernel
theorem dX12_leanOf_116 : decode cX12_leanOf 116 = .ok (.iload_n 1, 1) := by decide +kernel
theorem dX12_leanOf_117 : decode cX12_leanOf 117 = .ok (.iaload, 1) := by decide +kernel
theorem dX12_leanOf_118 : decode cX12_leanOf 118 = .ok (.goto 10, 3) := by decide +kernel
theorem dX12_leanOf_121 : decode cX12_leanOf 121 = .ok (.aload_n 0, 1) := by decide +kernel
theorem dX12_leanOf_122 : decode cX12_leanOf 122 = .ok (.getfield 75, 3) := by decide +kernel
theorem dX12_leanOf_125 : decode cX12_leanOf 125 = .ok (.iload_n 1, 1) := by decide +kernel
theorem dX12_leanOf_126 : decode cX12_leanOf 126 = .ok (.iaload, 1) := by decide +kernel
theorem dX12_leanOf_127 : decode cX12_leanOf 127 = .ok (.ineg, 1) := by decide +kernel
theorem dX12_leanOf_128 : decode cX12_leanOf 128 = .ok (.iadd, 1) := by decide +kernel
theorem dX12_leanOf_129 : decode cX12_leanOf 129 = .ok (.putfield 347, 3) := by decide +kernel
theorem dX12_leanOf_132 : decode cX12_leanOf 132 = .ok (.aload_n 0, 1) := by decide +kernel
theorem dX12_leanOf_133 : decode cX12_leanOf 133 = .ok (.aload_n 0, 1) := by decide +kernel
theorem dX12_leanOf_134 : decode cX12_leanOf 134 = .ok (.getfield 81, 3) := by decide +kernel
theorem dX12_leanOf_137 : decode cX12_leanOf 137 = .ok (.bipush 10, 2) := by decide +kernel
theorem dX12_leanOf_139 : decode cX12_leanOf 139 = .ok (.iload_n 1, 1) := by decide +kernel
theorem dX12_leanOf_140 : decode cX12_leanOf 140 = .ok (.imul, 1) := by decide +kernel
theorem dX12_leanOf_141 : decode cX12_leanOf 141 = .ok (.iload 6, 2) := by decide +kernel
theorem dX12_leanOf_143 : decode cX12_leanOf 143 = .ok (.iadd, 1) := by decide +kernel
theorem dX12_leanOf_144 : decode cX12_leanOf 144 = .ok (.iaload, 1) := by decide +kernel
theorem dX12_leanOf_145 : decode cX12_leanOf 145 = .ok (.iload 7, 2) := by decide +kernel
theorem dX12_leanOf_147 : decode cX12_leanOf 147 = .ok (.iconst 2, 1) := by decide +kernel
theorem dX12_leanOf_148 : decode cX12_leanOf 148 = .ok (.idiv, 1) := by decide +kernel
theorem dX12_leanOf_149 : decode cX12_leanOf 149 = .ok (.ifCond .ne 12, 3) := by decide +kernel
theorem dX12_leanOf_152 : decode cX12_leanOf 152 = .ok (.aload_n 0, 1) := by decide +kernel
theorem dX12_leanOf_153 : decode cX12_leanOf 153 = .ok (.getfield 75, 3) := by decide +kernel
theorem dX12_leanOf_156 : decode cX12_leanOf 156 = .ok (.iload_n 1, 1) := by decide +kernel
theorem dX12_leanOf_157 : decode cX12_leanOf 157 = .ok (.iaload, 1) := by decide +kernel
theorem dX12_leanOf_158 : decode cX12_leanOf 158 = .ok (.goto 10, 3) := by decide +kernel
theorem dX12_leanOf_161 : decode cX12_leanOf 161 = .ok (.aload_n 0, 1) := by decide +kernel
theorem dX12_leanOf_162 : decode cX12_leanOf 162 = .ok (.getfield 75, 3) := by decide +kernel
theorem dX12_leanOf_165 : decode cX12_leanOf 165 = .ok (.iload_n 1, 1) := by decide +kernel
theorem dX12_leanOf_166 : decode cX12_leanOf 166 = .ok (.iaload, 1) := by decide +kernel
theorem dX12_leanOf_167 : decode cX12_leanOf 167 = .ok (.ineg, 1) := by decide +kernel
theorem dX12_leanOf_168 : decode cX12_leanOf 168 = .ok (.iadd, 1) := by decide +kernel
theorem dX12_leanOf_169 : decode cX12_leanOf 169 = .ok (.aload_n 0, 1) := by decide +kernel
theorem dX12_leanOf_170 : decode cX12_leanOf 170 = .ok (.getfield 347, 3) := by decide +kernel
theorem dX12_leanOf_173 : decode cX12_leanOf 173 = .ok (.isub, 1) := by decide +kernel
theorem dX12_leanOf_174 : decode cX12_leanOf 174 = .ok (.putfield 353, 3) := by decide +kernel
theorem dX12_leanOf_177 : decode cX12_leanOf 177 = .ok (.aload_n 0, 1) := by decide +kernel
theorem dX12_leanOf_178 : decode cX12_leanOf 178 = .ok (.iload_n 1, 1) := by decide +kernel
theorem dX12_leanOf_179 : decode cX12_leanOf 179 = .ok (.invokevirtual 365, 3) := by decide +kernel
theorem dX12_leanOf_182 : decode cX12_leanOf 182 = .ok (.ifCond .ne 6, 3) := by decide +kernel
theorem dX12_leanOf_185 : decode cX12_leanOf 185 = .ok (.goto 104, 3) := by decide +kernel
theorem dX12_leanOf_188 : decode cX12_leanOf 188 = .ok (.aload_n 0, 1) := by decide +kernel
theorem dX12_leanOf_189 : decode cX12_leanOf 189 = .ok (.getfield 353, 3) := by decide +kernel
theorem dX12_leanOf_192 : decode cX12_leanOf 192 = .ok (.iload_n 2, 1) := by decide +kernel
theorem dX12_leanOf_193 : decode cX12_leanOf 193 = .ok (.aload_n 0, 1) := by decide +kernel
theorem dX12_leanOf_194 : decode cX12_leanOf 194 = .ok (.getfield 356, 3) := by decide +kernel
theorem dX12_leanOf_197 : decode cX12_leanOf 197 = .ok (.isub, 1) := by decide +kernel
theorem dX12_leanOf_198 : decode cX12_leanOf 198 = .ok (.imul, 1) := by decide +kernel
theorem dX12_leanOf_199 : decode cX12_leanOf 199 = .ok (.istore 8, 2) := by decide +kernel
theorem dX12_leanOf_201 : decode cX12_leanOf 201 = .ok (.aload_n 0, 1) := by decide +kernel
theorem dX12_leanOf_202 : decode cX12_leanOf 202 = .ok (.getfield 347, 3) := by decide +kernel
theorem dX12_leanOf_205 : decode cX12_leanOf 205 = .ok (.iload_n 3, 1) := by decide +kernel
theorem dX12_leanOf_206 : decode cX12_leanOf 206 = .ok (.ifCond .ne 15, 3) := by decide +kernel
theorem dX12_leanOf_209 : decode cX12_leanOf 209 = .ok (.iload 8, 2) := by decide +kernel
theorem dX12_leanOf_211 : decode cX12_leanOf 211 = .ok (.aload_n 0, 1) := by decide +kernel
theorem dX12_leanOf_212 : decode cX12_leanOf 212 = .ok (.getfield 350, 3) := by decide +kernel
theorem dX12_leanOf_215 : decode cX12_leanOf 215 = .ok (.invokestatic 368, 3) := by decide +kernel
theorem dX12_leanOf_218 : decode cX12_leanOf 218 = .ok (.goto 14, 3) := by decide +kernel
theorem dX12_leanOf_221 : decode cX12_leanOf 221 = .ok (.iload 8, 2) := by decide +kernel
theorem dX12_leanOf_223 : decode cX12_leanOf 223 = .ok (.ineg, 1) := by decide +kernel
theorem dX12_leanOf_224 : decode cX12_leanOf 224 = .ok (.aload_n 0, 1) := by decide +kernel
theorem dX12_leanOf_225 : decode cX12_leanOf 225 = .ok (.getfield 350, 3) := by decide +kernel
theorem dX12_leanOf_228 : decode cX12_leanOf 228 = .ok (.invokestatic 368, 3) := by decide +kernel
theorem dX12_leanOf_231 : decode cX12_leanOf 231 = .ok (.ineg, 1) := by decide +kernel
theorem dX12_leanOf_232 : decode cX12_leanOf 232 = .ok (.iadd, 1) := by decide +kernel
theorem dX12_leanOf_233 : decode cX12_leanOf 233 = .ok (.istore 9, 2) := by decide +kernel
theorem dX12_leanOf_235 : decode cX12_leanOf 235 = .ok (.aload_n 0, 1) := by decide +kernel
theorem dX12_leanOf_236 : decode cX12_leanOf 236 = .ok (.getfield 362, 3) := by decide +kernel
theorem dX12_leanOf_239 : decode cX12_leanOf 239 = .ok (.ifCond .eq 24, 3) := by decide +kernel
theorem dX12_leanOf_242 : decode cX12_leanOf 242 = .ok (.iload_n 3, 1) := by decide +kernel
theorem dX12_leanOf_243 : decode cX12_leanOf 243 = .ok (.ifCond .ne 13, 3) := by decide +kernel
theorem dX12_leanOf_246 : decode cX12_leanOf 246 = .ok (.iload 9, 2) := by decide +kernel
theorem dX12_leanOf_248 : decode cX12_leanOf 248 = .ok (.iload 4, 2) := by decide +kernel
theorem dX12_leanOf_250 : decode cX12_leanOf 250 = .ok (.if_icmp .ge 17, 3) := by decide +kernel
theorem dX12_leanOf_253 : decode cX12_leanOf 253 = .ok (.goto 10, 3) := by decide +kernel
theorem dX12_leanOf_256 : decode cX12_leanOf 256 = .ok (.iload 9, 2) := by decide +kernel
theorem dX12_leanOf_258 : decode cX12_leanOf 258 = .ok (.iload 4, 2) := by decide +kernel
theorem dX12_leanOf_260 : decode cX12_leanOf 260 = .ok (.if_icmp .le 7, 3) := by decide +kernel
theorem dX12_leanOf_263 : decode cX12_leanOf 263 = .ok (.iconst 1, 1) := by decide +kernel
theorem dX12_leanOf_264 : decode cX12_leanOf 264 = .ok (.goto 4, 3) := by decide +kernel
theorem dX12_leanOf_267 : decode cX12_leanOf 267 = .ok (.iconst 0, 1) := by decide +kernel
theorem dX12_leanOf_268 : decode cX12_leanOf 268 = .ok (.istore 10, 2) := by decide +kernel
theorem dX12_leanOf_270 : decode cX12_leanOf 270 = .ok (.iload 10, 2) := by decide +kernel
theorem dX12_leanOf_272 : decode cX12_leanOf 272 = .ok (.ifCond .eq 8, 3) := by decide +kernel
theorem dX12_leanOf_275 : decode cX12_leanOf 275 = .ok (.iload 9, 2) := by decide +kernel
theorem dX12_leanOf_277 : decode cX12_leanOf 277 = .ok (.goto 5, 3) := by decide +kernel
theorem dX12_leanOf_280 : decode cX12_leanOf 280 = .ok (.iload 4, 2) := by decide +kernel
theorem dX12_leanOf_282 : decode cX12_leanOf 282 = .ok (.istore 4, 2) := by decide +kernel
theorem dX12_leanOf_284 : decode cX12_leanOf 284 = .ok (.aload_n 0, 1) := by decide +kernel
theorem dX12_leanOf_285 : decode cX12_leanOf 285 = .ok (.iconst 1, 1) := by decide +kernel
theorem dX12_leanOf_286 : decode cX12_leanOf 286 = .ok (.putfield 362, 3) := by decide +kernel
theorem dX12_leanOf_289 : decode cX12_leanOf 289 = .ok (.iinc 7 1, 3) := by decide +kernel
theorem dX12_leanOf_292 : decode cX12_leanOf 292 = .ok (.goto (-206), 3) := by decide +kernel
theorem dX12_leanOf_295 : decode cX12_leanOf 295 = .ok (.iinc 6 1, 3) := by decide +kernel
theorem dX12_leanOf_298 : decode cX12_leanOf 298 = .ok (.goto (-273), 3) := by decide +kernel
theorem dX12_leanOf_301 : decode cX12_leanOf 301 = .ok (.iinc 5 1, 3) := by decide +kernel
theorem dX12_leanOf_304 : decode cX12_leanOf 304 = .ok (.goto (-293), 3) := by decide +kernel
theorem dX12_leanOf_307 : decode cX12_leanOf 307 = .ok (.iload 4, 2) := by decide +kernel
theorem dX12_leanOf_309 : decode cX12_leanOf 309 = .ok (.ireturn, 1) := by decide +kernel
theorem dX12_lean_0 : decode cX12_lean 0 = .ok (.aload_n 0, 1) := by decide +kernel
theorem dX12_lean_1 : decode cX12_lean 1 = .ok (.iconst 0, 1) := by decide +kernel
theorem dX12_lean_2 : decode cX12_lean 2 = .ok (.putfield 182, 3) := by decide +kernel
theorem dX12_lean_5 : decode cX12_lean 5 = .ok (.aload_n 0, 1) := by decide +kernel
theorem dX12_lean_6 : decode cX12_lean 6 = .ok (.iload_n 1, 1) := by decide +kernel
theorem dX12_lean_7 : decode cX12_lean 7 = .ok (.invokevirtual 321, 3) := by decide +kernel
theorem dX12_lean_10 : decode cX12_lean 10 = .ok (.ifCond .eq 12, 3) := by decide +kernel
theorem dX12_lean_13 : decode cX12_lean 13 = .ok (.iload_n 3, 1) := by decide +kernel
theorem dX12_lean_14 : decode cX12_lean 14 = .ok (.ifCond .lt 8, 3) := by decide +kernel
theorem dX12_lean_17 : decode cX12_lean 17 = .ok (.iload_n 3, 1) := by decide +kernel
theorem dX12_lean_18 : decode cX12_lean 18 = .ok (.iconst 1, 1) := by decide +kernel
theorem dX12_lean_19 : decode cX12_lean 19 = .ok (.if_icmp .le 9, 3) := by decide +kernel
theorem dX12_lean_22 : decode cX12_lean 22 = .ok (.aload_n 0, 1) := by decide +kernel
theorem dX12_lean_23 : decode cX12_lean 23 = .ok (.iconst 1, 1) := by decide +kernel
theorem dX12_lean_24 : decode cX12_lean 24 = .ok (.invokevirtual 292, 3) := by decide +kernel
theorem dX12_lean_27 : decode cX12_lean 27 = .ok (.ireturn, 1) := by decide +kernel
theorem dX12_lean_28 : decode cX12_lean 28 = .ok (.iload_n 2, 1) := by decide +kernel
theorem dX12_lean_29 : decode cX12_lean 29 = .ok (.iconst 0, 1) := by decide +kernel
theorem dX12_lean_30 : decode cX12_lean 30 = .ok (.sipush 500, 3) := by decide +kernel
theorem dX12_lean_33 : decode cX12_lean 33 = .ok (.invokestatic 185, 3) := by decide +kernel
theorem dX12_lean_36 : decode cX12_lean 36 = .ok (.ifCond .ne 9, 3) := by decide +kernel
theorem dX12_lean_39 : decode cX12_lean 39 = .ok (.aload_n 0, 1) := by decide +kernel
theorem dX12_lean_40 : decode cX12_lean 40 = .ok (.iconst 2, 1) := by decide +kernel
theorem dX12_lean_41 : decode cX12_lean 41 = .ok (.invokevirtual 292, 3) := by decide +kernel
theorem dX12_lean_44 : decode cX12_lean 44 = .ok (.ireturn, 1) := by decide +kernel
theorem dX12_lean_45 : decode cX12_lean 45 = .ok (.aload_n 0, 1) := by decide +kernel
theorem dX12_lean_46 : decode cX12_lean 46 = .ok (.iload_n 1, 1) := by decide +kernel
theorem dX12_lean_47 : decode cX12_lean 47 = .ok (.iload_n 2, 1) := by decide +kernel
theorem dX12_lean_48 : decode cX12_lean 48 = .ok (.iload_n 3, 1) := by decide +kernel
theorem dX12_lean_49 : decode cX12_lean 49 = .ok (.invokevirtual 371, 3) := by decide +kernel
theorem dX12_lean_52 : decode cX12_lean 52 = .ok (.istore 4, 2) := by decide +kernel
theorem dX12_lean_54 : decode cX12_lean 54 = .ok (.aload_n 0, 1) := by decide +kernel
theorem dX12_lean_55 : decode cX12_lean 55 = .ok (.getfield 362, 3) := by decide +kernel
theorem dX12_lean_58 : decode cX12_lean 58 = .ok (.ifCond .eq 8, 3) := by decide +kernel
theorem dX12_lean_61 : decode cX12_lean 61 = .ok (.iload 4, 2) := by decide +kernel
theorem dX12_lean_63 : decode cX12_lean 63 = .ok (.goto 8, 3) := by decide +kernel
theorem dX12_lean_66 : decode cX12_lean 66 = .ok (.aload_n 0, 1) := by decide +kernel
theorem dX12_lean_67 : decode cX12_lean 67 = .ok (.iconst 2, 1) := by decide +kernel
theorem dX12_lean_68 : decode cX12_lean 68 = .ok (.invokevirtual 292, 3) := by decide +kernel
theorem dX12_lean_71 : decode cX12_lean 71 = .ok (.ireturn, 1) := by decide +kernel
theorem dX12_limit_0 : decode cX12_limit 0 = .ok (.aload_n 0, 1) := by decide +kernel
theorem dX12_limit_1 : decode cX12_limit 1 = .ok (.iconst 0, 1) := by decide +kernel
theorem dX12_limit_2 : decode cX12_limit 2 = .ok (.putfield 182, 3) := by decide +kernel
theorem dX12_limit_5 : decode cX12_limit 5 = .ok (.aload_n 0, 1) := by decide +kernel
theorem dX12_limit_6 : decode cX12_limit 6 = .ok (.iload_n 1, 1) := by decide +kernel
theorem dX12_limit_7 : decode cX12_limit 7 = .ok (.invokevirtual 321, 3) := by decide +kernel
theorem dX12_limit_10 : decode cX12_limit 10 = .ok (.ifCond .eq 12, 3) := by decide +kernel
theorem dX12_limit_13 : decode cX12_limit 13 = .ok (.iload_n 3, 1) := by decide +kernel
theorem dX12_limit_14 : decode cX12_limit 14 = .ok (.ifCond .lt 8, 3) := by decide +kernel
theorem dX12_limit_17 : decode cX12_limit 17 = .ok (.iload_n 3, 1) := by decide +kernel
theorem dX12_limit_18 : decode cX12_limit 18 = .ok (.iconst 1, 1) := by decide +kernel
theorem dX12_limit_19 : decode cX12_limit 19 = .ok (.if_icmp .le 9, 3) := by decide +kernel
theorem dX12_limit_22 : decode cX12_limit 22 = .ok (.aload_n 0, 1) := by decide +kernel
theorem dX12_limit_23 : decode cX12_limit 23 = .ok (.iconst 1, 1) := by decide +kernel
theorem dX12_limit_24 : decode cX12_limit 24 = .ok (.invokevirtual 292, 3) := by decide +kernel
theorem dX12_limit_27 : decode cX12_limit 27 = .ok (.ireturn, 1) := by decide +kernel
theorem dX12_limit_28 : decode cX12_limit 28 = .ok (.iconst 0, 1) := by decide +kernel
theorem dX12_limit_29 : decode cX12_limit 29 = .ok (.istore 4, 2) := by decide +kernel
theorem dX12_limit_31 : decode cX12_limit 31 = .ok (.iconst 0, 1) := by decide +kernel
theorem dX12_limit_32 : decode cX12_limit 32 = .ok (.istore 5, 2) := by decide +kernel
theorem dX12_limit_34 : decode cX12_limit 34 = .ok (.iload 5, 2) := by decide +kernel
theorem dX12_limit_36 : decode cX12_limit 36 = .ok (.aload_n 0, 1) := by decide +kernel
theorem dX12_limit_37 : decode cX12_limit 37 = .ok (.getfield 72, 3) := by decide +kernel
theorem dX12_limit_40 : decode cX12_limit 40 = .ok (.iload_n 1, 1) := by decide +kernel
theorem dX12_limit_41 : decode cX12_limit 41 = .ok (.iaload, 1) := by decide +kernel
theorem dX12_limit_42 : decode cX12_limit 42 = .ok (.if_icmp .ge 28, 3) := by decide +kernel
theorem dX12_limit_45 : decode cX12_limit 45 = .ok (.iload 4, 2) := by decide +kernel
theorem dX12_limit_47 : decode cX12_limit 47 = .ok (.aload_n 0, 1) := by decide +kernel
theorem dX12_limit_48 : decode cX12_limit 48 = .ok (.getfield 78, 3) := by decide +kernel
theorem dX12_limit_51 : decode cX12_limit 51 = .ok (.bipush 10, 2) := by decide +kernel
theorem dX12_limit_53 : decode cX12_limit 53 = .ok (.iload_n 1, 1) := by decide +kernel
theorem dX12_limit_54 : decode cX12_limit 54 = .ok (.imul, 1) := by decide +kernel
theorem dX12_limit_55 : decode cX12_limit 55 = .ok (.iload 5, 2) := by decide +kernel
theorem dX12_limit_57 : decode cX12_limit 57 = .ok (.iadd, 1) := by decide +kernel
theorem dX12_limit_58 : decode cX12_limit 58 = .ok (.iaload, 1) := by decide +kernel
theorem dX12_limit_59 : decode cX12_limit 59 = .ok (.invokestatic 375, 3) := by decide +kernel
theorem dX12_limit_62 : decode cX12_limit 62 = .ok (.istore 4, 2) := by decide +kernel
theorem dX12_limit_64 : decode cX12_limit 64 = .ok (.iinc 5 1, 3) := by decide +kernel
theorem dX12_limit_67 : decode cX12_limit 67 = .ok (.goto (-33), 3) := by decide +kernel
theorem dX12_limit_70 : decode cX12_limit 70 = .ok (.iload 4, 2) := by decide +kernel
theorem dX12_limit_72 : decode cX12_limit 72 = .ok (.istore 5, 2) := by decide +kernel
theorem dX12_limit_74 : decode cX12_limit 74 = .ok (.iload 5, 2) := by decide +kernel
theorem dX12_limit_76 : decode cX12_limit 76 = .ok (.sipush 500, 3) := by decide +kernel
theorem dX12_limit_79 : decode cX12_limit 79 = .ok (.if_icmp .gt 39, 3) := by decide +kernel
theorem dX12_limit_82 : decode cX12_limit 82 = .ok (.aload_n 0, 1) := by decide +kernel
theorem dX12_limit_83 : decode cX12_limit 83 = .ok (.iload_n 1, 1) := by decide +kernel
theorem dX12_limit_84 : decode cX12_limit 84 = .ok (.iload 5, 2) := by decide +kernel
theorem dX12_limit_86 : decode cX12_limit 86 = .ok (.iconst 1, 1) := by decide +kernel
theorem dX12_limit_87 : decode cX12_limit 87 = .ok (.iload_n 3, 1) := by decide +kernel
theorem dX12_limit_88 : decode cX12_limit 88 = .ok (.isub, 1) := by decide +kernel
theorem dX12_limit_89 : decode cX12_limit 89 = .ok (.invokevirtual 371, 3) := by decide +kernel
theorem dX12_limit_92 : decode cX12_limit 92 = .ok (.istore 6, 2) := by decide +kernel
theorem dX12_limit_94 : decode cX12_limit 94 = .ok (.aload_n 0, 1) := by decide +kernel
theorem dX12_limit_95 : decode cX12_limit 95 = .ok (.getfield 362, 3) := by decide +kernel
theorem dX12_limit_98 : decode cX12_limit 98 = .ok (.ifCond .ne 5, 3) := by decide +kernel
theorem dX12_limit_101 : decode cX12_limit 101 = .ok (.iconst (-1), 1) := by decide +kernel
theorem dX12_limit_102 : decode cX12_limit 102 = .ok (.ireturn, 1) := by decide +kernel
theorem dX12_limit_103 : decode cX12_limit 103 = .ok (.iload 6, 2) := by decide +kernel
theorem dX12_limit_105 : decode cX12_limit 105 = .ok (.iload_n 2, 1) := by decide +kernel
theorem dX12_limit_106 : decode cX12_limit 106 = .ok (.if_icmp .lt 6, 3) := by decide +kernel
theorem dX12_limit_109 : decode cX12_limit 109 = .ok (.iload 5, 2) := by decide +kernel
theorem dX12_limit_111 : decode cX12_limit 111 = .ok (.ireturn, 1) := by decide +kernel
theorem dX12_limit_112 : decode cX12_limit 112 = .ok (.iinc 5 1, 3) := by decide +kernel
theorem dX12_limit_115 : decode cX12_limit 115 = .ok (.goto (-41), 3) := by decide +kernel
theorem dX12_limit_118 : decode cX12_limit 118 = .ok (.iconst (-1), 1) := by decide +kernel
theorem dX12_limit_119 : decode cX12_limit 119 = .ok (.ireturn, 1) := by decide +kernel
theorem dX12_tryAll_0 : decode cX12_tryAll 0 = .ok (.aload_n 0, 1) := by decide +kernel
theorem dX12_tryAll_1 : decode cX12_tryAll 1 = .ok (.iload_n 1, 1) := by decide +kernel
theorem dX12_tryAll_2 : decode cX12_tryAll 2 = .ok (.putfield 378, 3) := by decide +kernel
theorem dX12_tryAll_5 : decode cX12_tryAll 5 = .ok (.iconst 0, 1) := by decide +kernel
theorem dX12_tryAll_6 : decode cX12_tryAll 6 = .ok (.istore_n 2, 1) := by decide +kernel
theorem dX12_tryAll_7 : decode cX12_tryAll 7 = .ok (.iload_n 2, 1) := by decide +kernel
theorem dX12_tryAll_8 : decode cX12_tryAll 8 = .ok (.iconst 1, 1) := by decide +kernel
theorem dX12_tryAll_9 : decode cX12_tryAll 9 = .ok (.iload_n 1, 1) := by decide +kernel
theorem dX12_tryAll_10 : decode cX12_tryAll 10 = .ok (.ishl, 1) := by decide +kernel
theorem dX12_tryAll_11 : decode cX12_tryAll 11 = .ok (.if_icmp .ge 16, 3) := by decide +kernel
theorem dX12_tryAll_14 : decode cX12_tryAll 14 = .ok (.aload_n 0, 1) := by decide +kernel
theorem dX12_tryAll_15 : decode cX12_tryAll 15 = .ok (.getfield 84, 3) := by decide +kernel
theorem dX12_tryAll_18 : decode cX12_tryAll 18 = .ok (.iload_n 2, 1) := by decide +kernel
theorem dX12_tryAll_19 : decode cX12_tryAll 19 = .ok (.iconst 1, 1) := by decide +kernel
theorem dX12_tryAll_20 : decode cX12_tryAll 20 = .ok (.bastore, 1) := by decide +kernel
theorem dX12_tryAll_21 : decode cX12_tryAll 21 = .ok (.iinc 2 1, 3) := by decide +kernel
theorem dX12_tryAll_24 : decode cX12_tryAll 24 = .ok (.goto (-17), 3) := by decide +kernel
theorem dX12_tryAll_27 : decode cX12_tryAll 27 = .ok (.return_, 1) := by decide +kernel
theorem dX12_rod_0 : decode cX12_rod 0 = .ok (.aload_n 0, 1) := by decide +kernel
theorem dX12_rod_1 : decode cX12_rod 1 = .ok (.iconst 0, 1) := by decide +kernel
theorem dX12_rod_2 : decode cX12_rod 2 = .ok (.putfield 182, 3) := by decide +kernel
theorem dX12_rod_5 : decode cX12_rod 5 = .ok (.iload_n 1, 1) := by decide +kernel
theorem dX12_rod_6 : decode cX12_rod 6 = .ok (.iconst 2, 1) := by decide +kernel
theorem dX12_rod_7 : decode cX12_rod 7 = .ok (.bipush 14, 2) := by decide +kernel
theorem dX12_rod_9 : decode cX12_rod 9 = .ok (.invokestatic 185, 3) := by decide +kernel
theorem dX12_rod_12 : decode cX12_rod 12 = .ok (.ifCond .eq 28, 3) := by decide +kernel
theorem dX12_rod_15 : decode cX12_rod 15 = .ok (.iload_n 2, 1) := by decide +kernel
theorem dX12_rod_16 : decode cX12_rod 16 = .ok (.iconst 0, 1) := by decide +kernel
theorem dX12_rod_17 : decode cX12_rod 17 = .ok (.bipush 99, 2) := by decide +kernel
theorem dX12_rod_19 : decode cX12_rod 19 = .ok (.invokestatic 185, 3) := by decide +kernel
theorem dX12_rod_22 : decode cX12_rod 22 = .ok (.ifCond .eq 18, 3) := by decide +kernel
theorem dX12_rod_25 : decode cX12_rod 25 = .ok (.iload_n 3, 1) := by decide +kernel
theorem dX12_rod_26 : decode cX12_rod 26 = .ok (.iconst 0, 1) := by decide +kernel
theorem dX12_rod_27 : decode cX12_rod 27 = .ok (.bipush 99, 2) := by decide +kernel
theorem dX12_rod_29 : decode cX12_rod 29 = .ok (.invokestatic 185, 3) := by decide +kernel
theorem dX12_rod_32 : decode cX12_rod 32 = .ok (.ifCond .eq 8, 3) := by decide +kernel
theorem dX12_rod_35 : decode cX12_rod 35 = .ok (.iload_n 2, 1) := by decide +kernel
theorem dX12_rod_36 : decode cX12_rod 36 = .ok (.iload_n 3, 1) := by decide +kernel
theorem dX12_rod_37 : decode cX12_rod 37 = .ok (.if_icmp .ne 5, 3) := by decide +kernel
theorem dX12_rod_40 : decode cX12_rod 40 = .ok (.iconst 0, 1) := by decide +kernel
theorem dX12_rod_41 : decode cX12_rod 41 = .ok (.ireturn, 1) := by decide +kernel
theorem dX12_rod_42 : decode cX12_rod 42 = .ok (.aload_n 0, 1) := by decide +kernel
theorem dX12_rod_43 : decode cX12_rod 43 = .ok (.iconst 1, 1) := by decide +kernel
theorem dX12_rod_44 : decode cX12_rod 44 = .ok (.putfield 381, 3) := by decide +kernel
theorem dX12_rod_47 : decode cX12_rod 47 = .ok (.aload_n 0, 1) := by decide +kernel
theorem dX12_rod_48 : decode cX12_rod 48 = .ok (.iload_n 2, 1) := by decide +kernel
theorem dX12_rod_49 : decode cX12_rod 49 = .ok (.putfield 384, 3) := by decide +kernel
theorem dX12_rod_52 : decode cX12_rod 52 = .ok (.aload_n 0, 1) := by decide +kernel
theorem dX12_rod_53 : decode cX12_rod 53 = .ok (.iload_n 3, 1) := by decide +kernel
theorem dX12_rod_54 : decode cX12_rod 54 = .ok (.putfield 387, 3) := by decide +kernel
theorem dX12_rod_57 : decode cX12_rod 57 = .ok (.aload_n 0, 1) := by decide +kernel
theorem dX12_rod_58 : decode cX12_rod 58 = .ok (.iload_n 1, 1) := by decide +kernel
theorem dX12_rod_59 : decode cX12_rod 59 = .ok (.invokevirtual 390, 3) := by decide +kernel
theorem dX12_rod_62 : decode cX12_rod 62 = .ok (.iconst 1, 1) := by decide +kernel
theorem dX12_rod_63 : decode cX12_rod 63 = .ok (.ireturn, 1) := by decide +kernel
theorem dX12_wall_0 : decode cX12_wall 0 = .ok (.aload_n 0, 1) := by decide +kernel
theorem dX12_wall_1 : decode cX12_wall 1 = .ok (.iconst 0, 1) := by decide +kernel
theorem dX12_wall_2 : decode cX12_wall 2 = .ok (.putfield 182, 3) := by decide +kernel
theorem dX12_wall_5 : decode cX12_wall 5 = .ok (.iload_n 1, 1) := by decide +kernel
theorem dX12_wall_6 : decode cX12_wall 6 = .ok (.iconst 2, 1) := by decide +kernel
theorem dX12_wall_7 : decode cX12_wall 7 = .ok (.bipush 14, 2) := by decide +kernel
theorem dX12_wall_9 : decode cX12_wall 9 = .ok (.invokestatic 185, 3) := by decide +kernel
theorem dX12_wall_12 : decode cX12_wall 12 = .ok (.ifCond .ne 5, 3) := by decide +kernel
theorem dX12_wall_15 : decode cX12_wall 15 = .ok (.iconst 0, 1) := by decide +kernel
theorem dX12_wall_16 : decode cX12_wall 16 = .ok (.ireturn, 1) := by decide +kernel
theorem dX12_wall_17 : decode cX12_wall 17 = .ok (.aload_n 0, 1) := by decide +kernel
theorem dX12_wall_18 : decode cX12_wall 18 = .ok (.iconst 0, 1) := by decide +kernel
theorem dX12_wall_19 : decode cX12_wall 19 = .ok (.putfield 381, 3) := by decide +kernel
theorem dX12_wall_22 : decode cX12_wall 22 = .ok (.aload_n 0, 1) := by decide +kernel
theorem dX12_wall_23 : decode cX12_wall 23 = .ok (.iload_n 1, 1) := by decide +kernel
theorem dX12_wall_24 : decode cX12_wall 24 = .ok (.invokevirtual 390, 3) := by decide +kernel
theorem dX12_wall_27 : decode cX12_wall 27 = .ok (.iconst 1, 1) := by decide +kernel
theorem dX12_wall_28 : decode cX12_wall 28 = .ok (.ireturn, 1) := by decide +kernel
theorem dX12_bitsOf_0 : decode cX12_bitsOf 0 = .ok (.iconst 0, 1) := by decide +kernel
theorem dX12_bitsOf_1 : decode cX12_bitsOf 1 = .ok (.istore_n 1, 1) := by decide +kernel
theorem dX12_bitsOf_2 : decode cX12_bitsOf 2 = .ok (.iconst 0, 1) := by decide +kernel
theorem dX12_bitsOf_3 : decode cX12_bitsOf 3 = .ok (.istore_n 2, 1) := by decide +kernel
theorem dX12_bitsOf_4 : decode cX12_bitsOf 4 = .ok (.iload_n 2, 1) := by decide +kernel
theorem dX12_bitsOf_5 : decode cX12_bitsOf 5 = .ok (.bipush 16, 2) := by decide +kernel
theorem dX12_bitsOf_7 : decode cX12_bitsOf 7 = .ok (.if_icmp .ge 17, 3) := by decide +kernel
theorem dX12_bitsOf_10 : decode cX12_bitsOf 10 = .ok (.iload_n 1, 1) := by decide +kernel
theorem dX12_bitsOf_11 : decode cX12_bitsOf 11 = .ok (.iload_n 0, 1) := by decide +kernel
theorem dX12_bitsOf_12 : decode cX12_bitsOf 12 = .ok (.iload_n 2, 1) := by decide +kernel
theorem dX12_bitsOf_13 : decode cX12_bitsOf 13 = .ok (.ishr, 1) := by decide +kernel
theorem dX12_bitsOf_14 : decode cX12_bitsOf 14 = .ok (.iconst 1, 1) := by decide +kernel
theorem dX12_bitsOf_15 : decode cX12_bitsOf 15 = .ok (.iand, 1) := by decide +kernel
theorem dX12_bitsOf_16 : decode cX12_bitsOf 16 = .ok (.iadd, 1) := by decide +kernel
theorem dX12_bitsOf_17 : decode cX12_bitsOf 17 = .ok (.istore_n 1, 1) := by decide +kernel
theorem dX12_bitsOf_18 : decode cX12_bitsOf 18 = .ok (.iinc 2 1, 3) := by decide +kernel
theorem dX12_bitsOf_21 : decode cX12_bitsOf 21 = .ok (.goto (-17), 3) := by decide +kernel
theorem dX12_bitsOf_24 : decode cX12_bitsOf 24 = .ok (.iload_n 1, 1) := by decide +kernel
theorem dX12_bitsOf_25 : decode cX12_bitsOf 25 = .ok (.ireturn, 1) := by decide +kernel
theorem dX12_asked_0 : decode cX12_asked 0 = .ok (.aload_n 0, 1) := by decide +kernel
theorem dX12_asked_1 : decode cX12_asked 1 = .ok (.getfield 381, 3) := by decide +kernel
theorem dX12_asked_4 : decode cX12_asked 4 = .ok (.ifCond .eq 18, 3) := by decide +kernel
theorem dX12_asked_7 : decode cX12_asked 7 = .ok (.iload_n 1, 1) := by decide +kernel
theorem dX12_asked_8 : decode cX12_asked 8 = .ok (.iload_n 2, 1) := by decide +kernel
theorem dX12_asked_9 : decode cX12_asked 9 = .ok (.ishr, 1) := by decide +kernel
theorem dX12_asked_10 : decode cX12_asked 10 = .ok (.iconst 1, 1) := by decide +kernel
theorem dX12_asked_11 : decode cX12_asked 11 = .ok (.iload_n 3, 1) := by decide +kernel
theorem dX12_asked_12 : decode cX12_asked 12 = .ok (.iload_n 2, 1) := by decide +kernel
theorem dX12_asked_13 : decode cX12_asked 13 = .ok (.isub, 1) := by decide +kernel
theorem dX12_asked_14 : decode cX12_asked 14 = .ok (.ishl, 1) := by decide +kernel
theorem dX12_asked_15 : decode cX12_asked 15 = .ok (.iconst 1, 1) := by decide +kernel
theorem dX12_asked_16 : decode cX12_asked 16 = .ok (.isub, 1) := by decide +kernel
theorem dX12_asked_17 : decode cX12_asked 17 = .ok (.iand, 1) := by decide +kernel
theorem dX12_asked_18 : decode cX12_asked 18 = .ok (.invokestatic 393, 3) := by decide +kernel
theorem dX12_asked_21 : decode cX12_asked 21 = .ok (.ireturn, 1) := by decide +kernel
theorem dX12_asked_22 : decode cX12_asked 22 = .ok (.iconst 1, 1) := by decide +kernel
theorem dX12_asked_23 : decode cX12_asked 23 = .ok (.iload_n 2, 1) := by decide +kernel
theorem dX12_asked_24 : decode cX12_asked 24 = .ok (.ishl, 1) := by decide +kernel
theorem dX12_asked_25 : decode cX12_asked 25 = .ok (.iconst 1, 1) := by decide +kernel
theorem dX12_asked_26 : decode cX12_asked 26 = .ok (.iload_n 2, 1) := by decide +kernel
theorem dX12_asked_27 : decode cX12_asked 27 = .ok (.iconst 1, 1) := by decide +kernel
theorem dX12_asked_28 : decode cX12_asked 28 = .ok (.iadd, 1) := by decide +kernel
theorem dX12_asked_29 : decode cX12_asked 29 = .ok (.ishl, 1) := by decide +kernel
theorem dX12_asked_30 : decode cX12_asked 30 = .ok (.ior, 1) := by decide +kernel
theorem dX12_asked_31 : decode cX12_asked 31 = .ok (.iload_n 2, 1) := by decide +kernel
theorem dX12_asked_32 : decode cX12_asked 32 = .ok (.ifCond .le 11, 3) := by decide +kernel
theorem dX12_asked_35 : decode cX12_asked 35 = .ok (.iconst 1, 1) := by decide +kernel
theorem dX12_asked_36 : decode cX12_asked 36 = .ok (.iload_n 2, 1) := by decide +kernel
theorem dX12_asked_37 : decode cX12_asked 37 = .ok (.iconst 1, 1) := by decide +kernel
theorem dX12_asked_38 : decode cX12_asked 38 = .ok (.isub, 1) := by decide +kernel
theorem dX12_asked_39 : decode cX12_asked 39 = .ok (.ishl, 1) := by decide +kernel
theorem dX12_asked_40 : decode cX12_asked 40 = .ok (.goto 4, 3) := by decide +kernel
theorem dX12_asked_43 : decode cX12_asked 43 = .ok (.iconst 0, 1) := by decide +kernel
theorem dX12_asked_44 : decode cX12_asked 44 = .ok (.ior, 1) := by decide +kernel
theorem dX12_asked_45 : decode cX12_asked 45 = .ok (.istore 4, 2) := by decide +kernel
theorem dX12_asked_47 : decode cX12_asked 47 = .ok (.iload_n 1, 1) := by decide +kernel
theorem dX12_asked_48 : decode cX12_asked 48 = .ok (.iload 4, 2) := by decide +kernel
theorem dX12_asked_50 : decode cX12_asked 50 = .ok (.iand, 1) := by decide +kernel
theorem dX12_asked_51 : decode cX12_asked 51 = .ok (.ifCond .ne 7, 3) := by decide +kernel
theorem dX12_asked_54 : decode cX12_asked 54 = .ok (.iconst 0, 1) := by decide +kernel
theorem dX12_asked_55 : decode cX12_asked 55 = .ok (.goto 4, 3) := by decide +kernel
theorem dX12_asked_58 : decode cX12_asked 58 = .ok (.iconst 1, 1) := by decide +kernel
theorem dX12_asked_59 : decode cX12_asked 59 = .ok (.ireturn, 1) := by decide +kernel
theorem dX12_answerOf_0 : decode cX12_answerOf 0 = .ok (.aload_n 0, 1) := by decide +kernel
theorem dX12_answerOf_1 : decode cX12_answerOf 1 = .ok (.iload_n 1, 1) := by decide +kernel
theorem dX12_answerOf_2 : decode cX12_answerOf 2 = .ok (.iload_n 2, 1) := by decide +kernel
theorem dX12_answerOf_3 : decode cX12_answerOf 3 = .ok (.iload_n 3, 1) := by decide +kernel
theorem dX12_answerOf_4 : decode cX12_answerOf 4 = .ok (.invokevirtual 396, 3) := by decide +kernel
theorem dX12_answerOf_7 : decode cX12_answerOf 7 = .ok (.istore 4, 2) := by decide +kernel
theorem dX12_answerOf_9 : decode cX12_answerOf 9 = .ok (.aload_n 0, 1) := by decide +kernel
theorem dX12_answerOf_10 : decode cX12_answerOf 10 = .ok (.getfield 381, 3) := by decide +kernel
theorem dX12_answerOf_13 : decode cX12_answerOf 13 = .ok (.ifCond .eq 25, 3) := by decide +kernel
theorem dX12_answerOf_16 : decode cX12_answerOf 16 = .ok (.iload 4, 2) := by decide +kernel
theorem dX12_answerOf_18 : decode cX12_answerOf 18 = .ok (.aload_n 0, 1) := by decide +kernel
theorem dX12_answerOf_19 : decode cX12_answerOf 19 = .ok (.getfield 387, 3) := by decide +kernel
theorem dX12_answerOf_22 : decode cX12_answerOf 22 = .ok (.imul, 1) := by decide +kernel
theorem dX12_answerOf_23 : decode cX12_answerOf 23 = .ok (.iload_n 3, 1) := by decide +kernel
theorem dX12_answerOf_24 : decode cX12_answerOf 24 = .ok (.iload_n 2, 1) := by decide +kernel
theorem dX12_answerOf_25 : decode cX12_answerOf 25 = .ok (.isub, 1) := by decide +kernel
theorem dX12_answerOf_26 : decode cX12_answerOf 26 = .ok (.iload 4, 2) := by decide +kernel
theorem dX12_answerOf_28 : decode cX12_answerOf 28 = .ok (.isub, 1) := by decide +kernel
theorem dX12_answerOf_29 : decode cX12_answerOf 29 = .ok (.aload_n 0, 1) := by decide +kernel
theorem dX12_answerOf_30 : decode cX12_answerOf 30 = .ok (.getfield 384, 3) := by decide +kernel
theorem dX12_answerOf_33 : decode cX12_answerOf 33 = .ok (.imul, 1) := by decide +kernel
theorem dX12_answerOf_34 : decode cX12_answerOf 34 = .ok (.iadd, 1) := by decide +kernel
theorem dX12_answerOf_35 : decode cX12_answerOf 35 = .ok (.goto 5, 3) := by decide +kernel
theorem dX12_answerOf_38 : decode cX12_answerOf 38 = .ok (.iload 4, 2) := by decide +kernel
theorem dX12_answerOf_40 : decode cX12_answerOf 40 = .ok (.ireturn, 1) := by decide +kernel
theorem dX12_fitting_0 : decode cX12_fitting 0 = .ok (.iconst 0, 1) := by decide +kernel
theorem dX12_fitting_1 : decode cX12_fitting 1 = .ok (.istore_n 1, 1) := by decide +kernel
theorem dX12_fitting_2 : decode cX12_fitting 2 = .ok (.iconst 0, 1) := by decide +kernel
theorem dX12_fitting_3 : decode cX12_fitting 3 = .ok (.istore_n 2, 1) := by decide +kernel
theorem dX12_fitting_4 : decode cX12_fitting 4 = .ok (.iload_n 2, 1) := by decide +kernel
theorem dX12_fitting_5 : decode cX12_fitting 5 = .ok (.iconst 1, 1) := by decide +kernel
theorem dX12_fitting_6 : decode cX12_fitting 6 = .ok (.aload_n 0, 1) := by decide +kernel
theorem dX12_fitting_7 : decode cX12_fitting 7 = .ok (.getfield 378, 3) := by decide +kernel
theorem dX12_fitting_10 : decode cX12_fitting 10 = .ok (.ishl, 1) := by decide +kernel
theorem dX12_fitting_11 : decode cX12_fitting 11 = .ok (.if_icmp .ge 33, 3) := by decide +kernel
theorem dX12_fitting_14 : decode cX12_fitting 14 = .ok (.aload_n 0, 1) := by decide +kernel
theorem dX12_fitting_15 : decode cX12_fitting 15 = .ok (.getfield 378, 3) := by decide +kernel
theorem dX12_fitting_18 : decode cX12_fitting 18 = .ok (.ifCond .le 26, 3) := by decide +kernel
theorem dX12_fitting_21 : decode cX12_fitting 21 = .ok (.iload_n 1, 1) := by decide +kernel
theorem dX12_fitting_22 : decode cX12_fitting 22 = .ok (.aload_n 0, 1) := by decide +kernel
theorem dX12_fitting_23 : decode cX12_fitting 23 = .ok (.getfield 84, 3) := by decide +kernel
theorem dX12_fitting_26 : decode cX12_fitting 26 = .ok (.iload_n 2, 1) := by decide +kernel
theorem dX12_fitting_27 : decode cX12_fitting 27 = .ok (.baload, 1) := by decide +kernel
theorem dX12_fitting_28 : decode cX12_fitting 28 = .ok (.ifCond .eq 7, 3) := by decide +kernel
theorem dX12_fitting_31 : decode cX12_fitting 31 = .ok (.iconst 1, 1) := by decide +kernel
theorem dX12_fitting_32 : decode cX12_fitting 32 = .ok (.goto 4, 3) := by decide +kernel
theorem dX12_fitting_35 : decode cX12_fitting 35 = .ok (.iconst 0, 1) := by decide +kernel
theorem dX12_fitting_36 : decode cX12_fitting 36 = .ok (.iadd, 1) := by decide +kernel
theorem dX12_fitting_37 : decode cX12_fitting 37 = .ok (.istore_n 1, 1) := by decide +kernel
theorem dX12_fitting_38 : decode cX12_fitting 38 = .ok (.iinc 2 1, 3) := by decide +kernel
theorem dX12_fitting_41 : decode cX12_fitting 41 = .ok (.goto (-37), 3) := by decide +kernel
theorem dX12_fitting_44 : decode cX12_fitting 44 = .ok (.iload_n 1, 1) := by decide +kernel
theorem dX12_fitting_45 : decode cX12_fitting 45 = .ok (.ireturn, 1) := by decide +kernel
theorem dX12_tell_0 : decode cX12_tell 0 = .ok (.aload_n 0, 1) := by decide +kernel
theorem dX12_tell_1 : decode cX12_tell 1 = .ok (.iconst 0, 1) := by decide +kernel
theorem dX12_tell_2 : decode cX12_tell 2 = .ok (.putfield 182, 3) := by decide +kernel
theorem dX12_tell_5 : decode cX12_tell 5 = .ok (.aload_n 0, 1) := by decide +kernel
theorem dX12_tell_6 : decode cX12_tell 6 = .ok (.getfield 378, 3) := by decide +kernel
theorem dX12_tell_9 : decode cX12_tell 9 = .ok (.ifCond .ne 5, 3) := by decide +kernel
theorem dX12_tell_12 : decode cX12_tell 12 = .ok (.iconst (-1), 1) := by decide +kernel
theorem dX12_tell_13 : decode cX12_tell 13 = .ok (.ireturn, 1) := by decide +kernel
theorem dX12_tell_14 : decode cX12_tell 14 = .ok (.aload_n 0, 1) := by decide +kernel
theorem dX12_tell_15 : decode cX12_tell 15 = .ok (.getfield 381, 3) := by decide +kernel
theorem dX12_tell_18 : decode cX12_tell 18 = .ok (.ifCond .eq 28, 3) := by decide +kernel
theorem dX12_tell_21 : decode cX12_tell 21 = .ok (.iload_n 1, 1) := by decide +kernel
theorem dX12_tell_22 : decode cX12_tell 22 = .ok (.ifCond .lt 20, 3) := by decide +kernel
theorem dX12_tell_25 : decode cX12_tell 25 = .ok (.iload_n 1, 1) := by decide +kernel
theorem dX12_tell_26 : decode cX12_tell 26 = .ok (.iload_n 2, 1) := by decide +kernel
theorem dX12_tell_27 : decode cX12_tell 27 = .ok (.if_icmp .ge 15, 3) := by decide +kernel
theorem dX12_tell_30 : decode cX12_tell 30 = .ok (.iload_n 2, 1) := by decide +kernel
theorem dX12_tell_31 : decode cX12_tell 31 = .ok (.aload_n 0, 1) := by decide +kernel
theorem dX12_tell_32 : decode cX12_tell 32 = .ok (.getfield 378, 3) := by decide +kernel
theorem dX12_tell_35 : decode cX12_tell 35 = .ok (.if_icmp .gt 7, 3) := by decide +kernel
theorem dX12_tell_38 : decode cX12_tell 38 = .ok (.iconst 1, 1) := by decide +kernel
theorem dX12_tell_39 : decode cX12_tell 39 = .ok (.goto 18, 3) := by decide +kernel
theorem dX12_tell_42 : decode cX12_tell 42 = .ok (.iconst 0, 1) := by decide +kernel
theorem dX12_tell_43 : decode cX12_tell 43 = .ok (.goto 14, 3) := by decide +kernel
theorem dX12_tell_46 : decode cX12_tell 46 = .ok (.iload_n 1, 1) := by decide +kernel
theorem dX12_tell_47 : decode cX12_tell 47 = .ok (.iconst 0, 1) := by decide +kernel
theorem dX12_tell_48 : decode cX12_tell 48 = .ok (.aload_n 0, 1) := by decide +kernel
theorem dX12_tell_49 : decode cX12_tell 49 = .ok (.getfield 378, 3) := by decide +kernel
theorem dX12_tell_52 : decode cX12_tell 52 = .ok (.iconst 1, 1) := by decide +kernel
theorem dX12_tell_53 : decode cX12_tell 53 = .ok (.isub, 1) := by decide +kernel
theorem dX12_tell_54 : decode cX12_tell 54 = .ok (.invokestatic 185, 3) := by decide +kernel
theorem dX12_tell_57 : decode cX12_tell 57 = .ok (.istore 4, 2) := by decide +kernel
theorem dX12_tell_59 : decode cX12_tell 59 = .ok (.iload 4, 2) := by decide +kernel
theorem dX12_tell_61 : decode cX12_tell 61 = .ok (.ifCond .ne 9, 3) := by decide +kernel
theorem dX12_tell_64 : decode cX12_tell 64 = .ok (.aload_n 0, 1) := by decide +kernel
theorem dX12_tell_65 : decode cX12_tell 65 = .ok (.iconst 1, 1) := by decide +kernel
theorem dX12_tell_66 : decode cX12_tell 66 = .ok (.invokevirtual 292, 3) := by decide +kernel
theorem dX12_tell_69 : decode cX12_tell 69 = .ok (.ireturn, 1) := by decide +kernel
theorem dX12_tell_70 : decode cX12_tell 70 = .ok (.iconst 0, 1) := by decide +kernel
theorem dX12_tell_71 : decode cX12_tell 71 = .ok (.istore 5, 2) := by decide +kernel
theorem dX12_tell_73 : decode cX12_tell 73 = .ok (.iload 5, 2) := by decide +kernel
theorem dX12_tell_75 : decode cX12_tell 75 = .ok (.iconst 1, 1) := by decide +kernel
theorem dX12_tell_76 : decode cX12_tell 76 = .ok (.aload_n 0, 1) := by decide +kernel
theorem dX12_tell_77 : decode cX12_tell 77 = .ok (.getfield 378, 3) := by decide +kernel
theorem dX12_tell_80 : decode cX12_tell 80 = .ok (.ishl, 1) := by decide +kernel
theorem dX12_tell_81 : decode cX12_tell 81 = .ok (.if_icmp .ge 43, 3) := by decide +kernel
theorem dX12_tell_84 : decode cX12_tell 84 = .ok (.aload_n 0, 1) := by decide +kernel
theorem dX12_tell_85 : decode cX12_tell 85 = .ok (.getfield 84, 3) := by decide +kernel
theorem dX12_tell_88 : decode cX12_tell 88 = .ok (.iload 5, 2) := by decide +kernel
theorem dX12_tell_90 : decode cX12_tell 90 = .ok (.aload_n 0, 1) := by decide +kernel
theorem dX12_tell_91 : decode cX12_tell 91 = .ok (.getfield 84, 3) := by decide +kernel
theorem dX12_tell_94 : decode cX12_tell 94 = .ok (.iload 5, 2) := by decide +kernel
theorem dX12_tell_96 : decode cX12_tell 96 = .ok (.baload, 1) := by decide +kernel
theorem dX12_tell_97 : decode cX12_tell 97 = .ok (.ifCond .eq 19, 3) := by decide +kernel
theorem dX12_tell_100 : decode cX12_tell 100 = .ok (.aload_n 0, 1) := by decide +kernel
theorem dX12_tell_101 : decode cX12_tell 101 = .ok (.iload 5, 2) := by decide +kernel
theorem dX12_tell_103 : decode cX12_tell 103 = .ok (.iload_n 1, 1) := by decide +kernel
theorem dX12_tell_104 : decode cX12_tell 104 = .ok (.iload_n 2, 1) := by decide +kernel
theorem dX12_tell_105 : decode cX12_tell 105 = .ok (.invokevirtual 399, 3) := by decide +kernel
theorem dX12_tell_108 : decode cX12_tell 108 = .ok (.iload_n 3, 1) := by decide +kernel
theorem dX12_tell_109 : decode cX12_tell 109 = .ok (.if_icmp .ne 7, 3) := by decide +kernel
theorem dX12_tell_112 : decode cX12_tell 112 = .ok (.iconst 1, 1) := by decide +kernel
theorem dX12_tell_113 : decode cX12_tell 113 = .ok (.goto 4, 3) := by decide +kernel
theorem dX12_tell_116 : decode cX12_tell 116 = .ok (.iconst 0, 1) := by decide +kernel
theorem dX12_tell_117 : decode cX12_tell 117 = .ok (.bastore, 1) := by decide +kernel
theorem dX12_tell_118 : decode cX12_tell 118 = .ok (.iinc 5 1, 3) := by decide +kernel
theorem dX12_tell_121 : decode cX12_tell 121 = .ok (.goto (-48), 3) := by decide +kernel
theorem dX12_tell_124 : decode cX12_tell 124 = .ok (.aload_n 0, 1) := by decide +kernel
theorem dX12_tell_125 : decode cX12_tell 125 = .ok (.invokevirtual 402, 3) := by decide +kernel
theorem dX12_tell_128 : decode cX12_tell 128 = .ok (.ireturn, 1) := by decide +kernel
theorem dX12_sure_0 : decode cX12_sure 0 = .ok (.aload_n 0, 1) := by decide +kernel
theorem dX12_sure_1 : decode cX12_sure 1 = .ok (.iconst 0, 1) := by decide +kernel
theorem dX12_sure_2 : decode cX12_sure 2 = .ok (.putfield 182, 3) := by decide +kernel
theorem dX12_sure_5 : decode cX12_sure 5 = .ok (.iload_n 1, 1) := by decide +kernel
theorem dX12_sure_6 : decode cX12_sure 6 = .ok (.iconst 0, 1) := by decide +kernel
theorem dX12_sure_7 : decode cX12_sure 7 = .ok (.iconst 2, 1) := by decide +kernel
theorem dX12_sure_8 : decode cX12_sure 8 = .ok (.invokestatic 185, 3) := by decide +kernel
theorem dX12_sure_11 : decode cX12_sure 11 = .ok (.ifCond .ne 9, 3) := by decide +kernel
theorem dX12_sure_14 : decode cX12_sure 14 = .ok (.aload_n 0, 1) := by decide +kernel
theorem dX12_sure_15 : decode cX12_sure 15 = .ok (.iconst 1, 1) := by decide +kernel
theorem dX12_sure_16 : decode cX12_sure 16 = .ok (.invokevirtual 292, 3) := by decide +kernel
theorem dX12_sure_19 : decode cX12_sure 19 = .ok (.ireturn, 1) := by decide +kernel
theorem dX12_sure_20 : decode cX12_sure 20 = .ok (.aload_n 0, 1) := by decide +kernel
theorem dX12_sure_21 : decode cX12_sure 21 = .ok (.getfield 378, 3) := by decide +kernel
theorem dX12_sure_24 : decode cX12_sure 24 = .ok (.ifCond .ne 9, 3) := by decide +kernel
theorem dX12_sure_27 : decode cX12_sure 27 = .ok (.aload_n 0, 1) := by decide +kernel
theorem dX12_sure_28 : decode cX12_sure 28 = .ok (.iconst 2, 1) := by decide +kernel
theorem dX12_sure_29 : decode cX12_sure 29 = .ok (.invokevirtual 292, 3) := by decide +kernel
theorem dX12_sure_32 : decode cX12_sure 32 = .ok (.ireturn, 1) := by decide +kernel
theorem dX12_sure_33 : decode cX12_sure 33 = .ok (.aload_n 0, 1) := by decide +kernel
theorem dX12_sure_34 : decode cX12_sure 34 = .ok (.invokevirtual 402, 3) := by decide +kernel
theorem dX12_sure_37 : decode cX12_sure 37 = .ok (.istore_n 2, 1) := by decide +kernel
theorem dX12_sure_38 : decode cX12_sure 38 = .ok (.iconst 1, 1) := by decide +kernel
theorem dX12_sure_39 : decode cX12_sure 39 = .ok (.aload_n 0, 1) := by decide +kernel
theorem dX12_sure_40 : decode cX12_sure 40 = .ok (.getfield 378, 3) := by decide +kernel
theorem dX12_sure_43 : decode cX12_sure 43 = .ok (.ishl, 1) := by decide +kernel
theorem dX12_sure_44 : decode cX12_sure 44 = .ok (.iconst 1, 1) := by decide +kernel
theorem dX12_sure_45 : decode cX12_sure 45 = .ok (.isub, 1) := by decide +kernel
theorem dX12_sure_46 : decode cX12_sure 46 = .ok (.istore_n 3, 1) := by decide +kernel
theorem dX12_sure_47 : decode cX12_sure 47 = .ok (.iconst 0, 1) := by decide +kernel
theorem dX12_sure_48 : decode cX12_sure 48 = .ok (.istore 4, 2) := by decide +kernel
theorem dX12_sure_50 : decode cX12_sure 50 = .ok (.iconst 0, 1) := by decide +kernel
theorem dX12_sure_51 : decode cX12_sure 51 = .ok (.istore 5, 2) := by decide +kernel
theorem dX12_sure_53 : decode cX12_sure 53 = .ok (.iload 5, 2) := by decide +kernel
theorem dX12_sure_55 : decode cX12_sure 55 = .ok (.iconst 1, 1) := by decide +kernel
theorem dX12_sure_56 : decode cX12_sure 56 = .ok (.aload_n 0, 1) := by decide +kernel
theorem dX12_sure_57 : decode cX12_sure 57 = .ok (.getfield 378, 3) := by decide +kernel
theorem dX12_sure_60 : decode cX12_sure 60 = .ok (.ishl, 1) := by decide +kernel
theorem dX12_sure_61 : decode cX12_sure 61 = .ok (.if_icmp .ge 34, 3) := by decide +kernel
theorem dX12_sure_64 : decode cX12_sure 64 = .ok (.aload_n 0, 1) := by decide +kernel
theorem dX12_sure_65 : decode cX12_sure 65 = .ok (.getfield 84, 3) := by decide +kernel
theorem dX12_sure_68 : decode cX12_sure 68 = .ok (.iload 5, 2) := by decide +kernel
theorem dX12_sure_70 : decode cX12_sure 70 = .ok (.baload, 1) := by decide +kernel
theorem dX12_sure_71 : decode cX12_sure 71 = .ok (.ifCond .ne 6, 3) := by decide +kernel
theorem dX12_sure_74 : decode cX12_sure 74 = .ok (.goto 15, 3) := by decide +kernel
theorem dX12_sure_77 : decode cX12_sure 77 = .ok (.iload_n 3, 1) := by decide +kernel
theorem dX12_sure_78 : decode cX12_sure 78 = .ok (.iload 5, 2) := by decide +kernel
theorem dX12_sure_80 : decode cX12_sure 80 = .ok (.iand, 1) := by decide +kernel
theorem dX12_sure_81 : decode cX12_sure 81 = .ok (.istore_n 3, 1) := by decide +kernel
theorem dX12_sure_82 : decode cX12_sure 82 = .ok (.iload 4, 2) := by decide +kernel
theorem dX12_sure_84 : decode cX12_sure 84 = .ok (.iload 5, 2) := by decide +kernel
theorem dX12_sure_86 : decode cX12_sure 86 = .ok (.ior, 1) := by decide +kernel
theorem dX12_sure_87 : decode cX12_sure 87 = .ok (.istore 4, 2) := by decide +kernel
theorem dX12_sure_89 : decode cX12_sure 89 = .ok (.iinc 5 1, 3) := by decide +kernel
theorem dX12_sure_92 : decode cX12_sure 92 = .ok (.goto (-39), 3) := by decide +kernel
theorem dX12_sure_95 : decode cX12_sure 95 = .ok (.iload_n 1, 1) := by decide +kernel
theorem dX12_sure_96 : decode cX12_sure 96 = .ok (.iconst 2, 1) := by decide +kernel
theorem dX12_sure_97 : decode cX12_sure 97 = .ok (.if_icmp .eq 7, 3) := by decide +kernel
theorem dX12_sure_100 : decode cX12_sure 100 = .ok (.iload_n 2, 1) := by decide +kernel
theorem dX12_sure_101 : decode cX12_sure 101 = .ok (.ifCond .ne 5, 3) := by decide +kernel
theorem dX12_sure_104 : decode cX12_sure 104 = .ok (.iload_n 2, 1) := by decide +kernel
theorem dX12_sure_105 : decode cX12_sure 105 = .ok (.ireturn, 1) := by decide +kernel
theorem dX12_sure_106 : decode cX12_sure 106 = .ok (.iload_n 1, 1) := by decide +kernel
theorem dX12_sure_107 : decode cX12_sure 107 = .ok (.ifCond .ne 7, 3) := by decide +kernel
theorem dX12_sure_110 : decode cX12_sure 110 = .ok (.iload_n 3, 1) := by decide +kernel
theorem dX12_sure_111 : decode cX12_sure 111 = .ok (.goto 16, 3) := by decide +kernel
theorem dX12_sure_114 : decode cX12_sure 114 = .ok (.iconst 1, 1) := by decide +kernel
theorem dX12_sure_115 : decode cX12_sure 115 = .ok (.aload_n 0, 1) := by decide +kernel
theorem dX12_sure_116 : decode cX12_sure 116 = .ok (.getfield 378, 3) := by decide +kernel
theorem dX12_sure_119 : decode cX12_sure 119 = .ok (.ishl, 1) := by decide +kernel
theorem dX12_sure_120 : decode cX12_sure 120 = .ok (.iconst 1, 1) := by decide +kernel
theorem dX12_sure_121 : decode cX12_sure 121 = .ok (.isub, 1) := by decide +kernel
theorem dX12_sure_122 : decode cX12_sure 122 = .ok (.iload 4, 2) := by decide +kernel
theorem dX12_sure_124 : decode cX12_sure 124 = .ok (.iconst (-1), 1) := by decide +kernel
theorem dX12_sure_125 : decode cX12_sure 125 = .ok (.ixor, 1) := by decide +kernel
theorem dX12_sure_126 : decode cX12_sure 126 = .ok (.iand, 1) := by decide +kernel
theorem dX12_sure_127 : decode cX12_sure 127 = .ok (.ireturn, 1) := by decide +kernel
theorem dX12_restOf_0 : decode cX12_restOf 0 = .ok (.iconst 0, 1) := by decide +kernel
theorem dX12_restOf_1 : decode cX12_restOf 1 = .ok (.istore_n 3, 1) := by decide +kernel
theorem dX12_restOf_2 : decode cX12_restOf 2 = .ok (.iload_n 3, 1) := by decide +kernel
theorem dX12_restOf_3 : decode cX12_restOf 3 = .ok (.bipush 14, 2) := by decide +kernel
theorem dX12_restOf_5 : decode cX12_restOf 5 = .ok (.if_icmp .gt 16, 3) := by decide +kernel
theorem dX12_restOf_8 : decode cX12_restOf 8 = .ok (.aload_n 0, 1) := by decide +kernel
theorem dX12_restOf_9 : decode cX12_restOf 9 = .ok (.getfield 88, 3) := by decide +kernel
theorem dX12_restOf_12 : decode cX12_restOf 12 = .ok (.iload_n 3, 1) := by decide +kernel
theorem dX12_restOf_13 : decode cX12_restOf 13 = .ok (.iconst 0, 1) := by decide +kernel
theorem dX12_restOf_14 : decode cX12_restOf 14 = .ok (.iastore, 1) := by decide +kernel
theorem dX12_restOf_15 : decode cX12_restOf 15 = .ok (.iinc 3 1, 3) := by decide +kernel
theorem dX12_restOf_18 : decode cX12_restOf 18 = .ok (.goto (-16), 3) := by decide +kernel
theorem dX12_restOf_21 : decode cX12_restOf 21 = .ok (.iconst 0, 1) := by decide +kernel
theorem dX12_restOf_22 : decode cX12_restOf 22 = .ok (.istore_n 3, 1) := by decide +kernel
theorem dX12_restOf_23 : decode cX12_restOf 23 = .ok (.iload_n 3, 1) := by decide +kernel
theorem dX12_restOf_24 : decode cX12_restOf 24 = .ok (.iconst 1, 1) := by decide +kernel
theorem dX12_restOf_25 : decode cX12_restOf 25 = .ok (.aload_n 0, 1) := by decide +kernel
theorem dX12_restOf_26 : decode cX12_restOf 26 = .ok (.getfield 378, 3) := by decide +kernel
theorem dX12_restOf_29 : decode cX12_restOf 29 = .ok (.ishl, 1) := by decide +kernel
theorem dX12_restOf_30 : decode cX12_restOf 30 = .ok (.if_icmp .ge 34, 3) := by decide +kernel
theorem dX12_restOf_33 : decode cX12_restOf 33 = .ok (.aload_n 0, 1) := by decide +kernel
theorem dX12_restOf_34 : decode cX12_restOf 34 = .ok (.getfield 84, 3) := by decide +kernel
theorem dX12_restOf_37 : decode cX12_restOf 37 = .ok (.iload_n 3, 1) := by decide +kernel
theorem dX12_restOf_38 : decode cX12_restOf 38 = .ok (.baload, 1) := by decide +kernel
theorem dX12_restOf_39 : decode cX12_restOf 39 = .ok (.ifCond .eq 19, 3) := by decide +kernel
theorem dX12_restOf_42 : decode cX12_restOf 42 = .ok (.aload_n 0, 1) := by decide +kernel
theorem dX12_restOf_43 : decode cX12_restOf 43 = .ok (.getfield 88, 3) := by decide +kernel
theorem dX12_restOf_46 : decode cX12_restOf 46 = .ok (.aload_n 0, 1) := by decide +kernel
theorem dX12_restOf_47 : decode cX12_restOf 47 = .ok (.iload_n 3, 1) := by decide +kernel
theorem dX12_restOf_48 : decode cX12_restOf 48 = .ok (.iload_n 1, 1) := by decide +kernel
theorem dX12_restOf_49 : decode cX12_restOf 49 = .ok (.iload_n 2, 1) := by decide +kernel
theorem dX12_restOf_50 : decode cX12_restOf 50 = .ok (.invokevirtual 396, 3) := by decide +kernel
theorem dX12_restOf_53 : decode cX12_restOf 53 = .ok (.dup2, 1) := by decide +kernel
theorem dX12_restOf_54 : decode cX12_restOf 54 = .ok (.iaload, 1) := by decide +kernel
theorem dX12_restOf_55 : decode cX12_restOf 55 = .ok (.iconst 1, 1) := by decide +kernel
theorem dX12_restOf_56 : decode cX12_restOf 56 = .ok (.iadd, 1) := by decide +kernel
theorem dX12_restOf_57 : decode cX12_restOf 57 = .ok (.iastore, 1) := by decide +kernel
theorem dX12_restOf_58 : decode cX12_restOf 58 = .ok (.iinc 3 1, 3) := by decide +kernel
theorem dX12_restOf_61 : decode cX12_restOf 61 = .ok (.goto (-38), 3) := by decide +kernel
theorem dX12_restOf_64 : decode cX12_restOf 64 = .ok (.iconst 0, 1) := by decide +kernel
theorem dX12_restOf_65 : decode cX12_restOf 65 = .ok (.istore_n 3, 1) := by decide +kernel
theorem dX12_restOf_66 : decode cX12_restOf 66 = .ok (.iconst 0, 1) := by decide +kernel
theorem dX12_restOf_67 : decode cX12_restOf 67 = .ok (.istore 4, 2) := by decide +kernel
theorem dX12_restOf_69 : decode cX12_restOf 69 = .ok (.iload 4, 2) := by decide +kernel
theorem dX12_restOf_71 : decode cX12_restOf 71 = .ok (.bipush 14, 2) := by decide +kernel
theorem dX12_restOf_73 : decode cX12_restOf 73 = .ok (.if_icmp .gt 21, 3) := by decide +kernel
theorem dX12_restOf_76 : decode cX12_restOf 76 = .ok (.iload_n 3, 1) := by decide +kernel
theorem dX12_restOf_77 : decode cX12_restOf 77 = .ok (.aload_n 0, 1) := by decide +kernel
theorem dX12_restOf_78 : decode cX12_restOf 78 = .ok (.getfield 88, 3) := by decide +kernel
theorem dX12_restOf_81 : decode cX12_restOf 81 = .ok (.iload 4, 2) := by decide +kernel
theorem dX12_restOf_83 : decode cX12_restOf 83 = .ok (.iaload, 1) := by decide +kernel
theorem dX12_restOf_84 : decode cX12_restOf 84 = .ok (.invokestatic 375, 3) := by decide +kernel
theorem dX12_restOf_87 : decode cX12_restOf 87 = .ok (.istore_n 3, 1) := by decide +kernel
theorem dX12_restOf_88 : decode cX12_restOf 88 = .ok (.iinc 4 1, 3) := by decide +kernel
theorem dX12_restOf_91 : decode cX12_restOf 91 = .ok (.goto (-22), 3) := by decide +kernel
theorem dX12_restOf_94 : decode cX12_restOf 94 = .ok (.iload_n 3, 1) := by decide +kernel
theorem dX12_restOf_95 : decode cX12_restOf 95 = .ok (.ireturn, 1) := by decide +kernel
theorem dX12_next_0 : decode cX12_next 0 = .ok (.aload_n 0, 1) := by decide +kernel
theorem dX12_next_1 : decode cX12_next 1 = .ok (.iconst 0, 1) := by decide +kernel
theorem dX12_next_2 : decode cX12_next 2 = .ok (.putfield 182, 3) := by decide +kernel
theorem dX12_next_5 : decode cX12_next 5 = .ok (.iload_n 1, 1) := by decide +kernel
theorem dX12_next_6 : decode cX12_next 6 = .ok (.iconst 0, 1) := by decide +kernel
theorem dX12_next_7 : decode cX12_next 7 = .ok (.iconst 2, 1) := by decide +kernel
theorem dX12_next_8 : decode cX12_next 8 = .ok (.invokestatic 185, 3) := by decide +kernel
theorem dX12_next_11 : decode cX12_next 11 = .ok (.ifCond .ne 9, 3) := by decide +kernel
theorem dX12_next_14 : decode cX12_next 14 = .ok (.aload_n 0, 1) := by decide +kernel
theorem dX12_next_15 : decode cX12_next 15 = .ok (.iconst 1, 1) := by decide +kernel
theorem dX12_next_16 : decode cX12_next 16 = .ok (.invokevirtual 292, 3) := by decide +kernel
theorem dX12_next_19 : decode cX12_next 19 = .ok (.ireturn, 1) := by decide +kernel
theorem dX12_next_20 : decode cX12_next 20 = .ok (.aload_n 0, 1) := by decide +kernel
theorem dX12_next_21 : decode cX12_next 21 = .ok (.getfield 378, 3) := by decide +kernel
theorem dX12_next_24 : decode cX12_next 24 = .ok (.ifCond .eq 10, 3) := by decide +kernel
theorem dX12_next_27 : decode cX12_next 27 = .ok (.aload_n 0, 1) := by decide +kernel
theorem dX12_next_28 : decode cX12_next 28 = .ok (.invokevirtual 402, 3) := by decide +kernel
theorem dX12_next_31 : decode cX12_next 31 = .ok (.ifCond .ne 9, 3) := by decide +kernel
theorem dX12_next_34 : decode cX12_next 34 = .ok (.aload_n 0, 1) := by decide +kernel
theorem dX12_next_35 : decode cX12_next 35 = .ok (.iconst 2, 1) := by decide +kernel
theorem dX12_next_36 : decode cX12_next 36 = .ok (.invokevirtual 292, 3) := by decide +kernel
theorem dX12_next_39 : decode cX12_next 39 = .ok (.ireturn, 1) := by decide +kernel
theorem dX12_next_40 : decode cX12_next 40 = .ok (.iconst (-1), 1) := by decide +kernel
theorem dX12_next_41 : decode cX12_next 41 = .ok (.istore_n 2, 1) := by decide +kernel
theorem dX12_next_42 : decode cX12_next 42 = .ok (.iconst (-1), 1) := by decide +kernel
theorem dX12_next_43 : decode cX12_next 43 = .ok (.istore_n 3, 1) := by decide +kernel
theorem dX12_next_44 : decode cX12_next 44 = .ok (.iconst 0, 1) := by decide +kernel
theorem dX12_next_45 : decode cX12_next 45 = .ok (.istore 4, 2) := by decide +kernel
theorem dX12_next_47 : decode cX12_next 47 = .ok (.iconst 0, 1) := by decide +kernel
theorem dX12_next_48 : decode cX12_next 48 = .ok (.istore 5, 2) := by decide +kernel
theorem dX12_next_50 : decode cX12_next 50 = .ok (.iload 5, 2) := by decide +kernel
theorem dX12_next_52 : decode cX12_next 52 = .ok (.aload_n 0, 1) := by decide +kernel
theorem dX12_next_53 : decode cX12_next 53 = .ok (.getfield 378, 3) := by decide +kernel
theorem dX12_next_56 : decode cX12_next 56 = .ok (.if_icmp .ge 90, 3) := by decide +kernel
theorem dX12_next_59 : decode cX12_next 59 = .ok (.iload 5, 2) := by decide +kernel
theorem dX12_next_61 : decode cX12_next 61 = .ok (.iconst 1, 1) := by decide +kernel
theorem dX12_next_62 : decode cX12_next 62 = .ok (.iadd, 1) := by decide +kernel
theorem dX12_next_63 : decode cX12_next 63 = .ok (.istore 6, 2) := by decide +kernel
theorem dX12_next_65 : decode cX12_next 65 = .ok (.iload 6, 2) := by decide +kernel
theorem dX12_next_67 : decode cX12_next 67 = .ok (.aload_n 0, 1) := by decide +kernel
theorem dX12_next_68 : decode cX12_next 68 = .ok (.getfield 381, 3) := by decide +kernel
theorem dX12_next_71 : decode cX12_next 71 = .ok (.ifCond .eq 10, 3) := by decide +kernel
theorem dX12_next_74 : decode cX12_next 74 = .ok (.aload_n 0, 1) := by decide +kernel
theorem dX12_next_75 : decode cX12_next 75 = .ok (.getfield 378, 3) := by decide +kernel
theorem dX12_next_78 : decode cX12_next 78 = .ok (.goto 7, 3) := by decide +kernel
theorem dX12_next_81 : decode cX12_next 81 = .ok (.iload 5, 2) := by decide +kernel
theorem dX12_next_83 : decode cX12_next 83 = .ok (.iconst 1, 1) := by decide +kernel
theorem dX12_next_84 : decode cX12_next 84 = .ok (.iadd, 1) := by decide +kernel
theorem dX12_next_85 : decode cX12_next 85 = .ok (.if_icmp .gt 55, 3) := by decide +kernel
theorem dX12_next_88 : decode cX12_next 88 = .ok (.aload_n 0, 1) := by decide +kernel
theorem dX12_next_89 : decode cX12_next 89 = .ok (.iload 5, 2) := by decide +kernel
theorem dX12_next_91 : decode cX12_next 91 = .ok (.iload 6, 2) := by decide +kernel
theorem dX12_next_93 : decode cX12_next 93 = .ok (.invokevirtual 405, 3) := by decide +kernel
theorem dX12_next_96 : decode cX12_next 96 = .ok (.istore 7, 2) := by decide +kernel
theorem dX12_next_98 : decode cX12_next 98 = .ok (.iload_n 2, 1) := by decide +kernel
theorem dX12_next_99 : decode cX12_next 99 = .ok (.iconst (-1), 1) := by decide +kernel
theorem dX12_next_100 : decode cX12_next 100 = .ok (.if_icmp .eq 13, 3) := by decide +kernel
theorem dX12_next_103 : decode cX12_next 103 = .ok (.iload 7, 2) := by decide +kernel
theorem dX12_next_105 : decode cX12_next 105 = .ok (.iload 4, 2) := by decide +kernel
theorem dX12_next_107 : decode cX12_next 107 = .ok (.if_icmp .lt 6, 3) := by decide +kernel
theorem dX12_next_110 : decode cX12_next 110 = .ok (.goto 24, 3) := by decide +kernel
theorem dX12_next_113 : decode cX12_next 113 = .ok (.iload 5, 2) := by decide +kernel
theorem dX12_next_115 : decode cX12_next 115 = .ok (.istore_n 2, 1) := by decide +kernel
theorem dX12_next_116 : decode cX12_next 116 = .ok (.aload_n 0, 1) := by decide +kernel
theorem dX12_next_117 : decode cX12_next 117 = .ok (.getfield 381, 3) := by decide +kernel
theorem dX12_next_120 : decode cX12_next 120 = .ok (.ifCond .eq 8, 3) := by decide +kernel
theorem dX12_next_123 : decode cX12_next 123 = .ok (.iload 6, 2) := by decide +kernel
theorem dX12_next_125 : decode cX12_next 125 = .ok (.goto 4, 3) := by decide +kernel
theorem dX12_next_128 : decode cX12_next 128 = .ok (.iconst (-1), 1) := by decide +kernel
theorem dX12_next_129 : decode cX12_next 129 = .ok (.istore_n 3, 1) := by decide +kernel
theorem dX12_next_130 : decode cX12_next 130 = .ok (.iload 7, 2) := by decide +kernel
theorem dX12_next_132 : decode cX12_next 132 = .ok (.istore 4, 2) := by decide +kernel
theorem dX12_next_134 : decode cX12_next 134 = .ok (.iinc 6 1, 3) := by decide +kernel
theorem dX12_next_137 : decode cX12_next 137 = .ok (.goto (-72), 3) := by decide +kernel
theorem dX12_next_140 : decode cX12_next 140 = .ok (.iinc 5 1, 3) := by decide +kernel
theorem dX12_next_143 : decode cX12_next 143 = .ok (.goto (-93), 3) := by decide +kernel
theorem dX12_next_146 : decode cX12_next 146 = .ok (.iload_n 1, 1) := by decide +kernel
theorem dX12_next_147 : decode cX12_next 147 = .ok (.ifCond .ne 7, 3) := by decide +kernel
theorem dX12_next_150 : decode cX12_next 150 = .ok (.iload_n 2, 1) := by decide +kernel
theorem dX12_next_151 : decode cX12_next 151 = .ok (.goto 14, 3) := by decide +kernel
theorem dX12_next_154 : decode cX12_next 154 = .ok (.iload_n 1, 1) := by decide +kernel
theorem dX12_next_155 : decode cX12_next 155 = .ok (.iconst 1, 1) := by decide +kernel
theorem dX12_next_156 : decode cX12_next 156 = .ok (.if_icmp .ne 7, 3) := by decide +kernel
theorem dX12_next_159 : decode cX12_next 159 = .ok (.iload_n 3, 1) := by decide +kernel
theorem dX12_next_160 : decode cX12_next 160 = .ok (.goto 5, 3) := by decide +kernel
theorem dX12_next_163 : decode cX12_next 163 = .ok (.iload 4, 2) := by decide +kernel
theorem dX12_next_165 : decode cX12_next 165 = .ok (.ireturn, 1) := by decide +kernel
theorem dX12_eastOf_0 : decode cX12_eastOf 0 = .ok (.iload_n 0, 1) := by decide +kernel
theorem dX12_eastOf_1 : decode cX12_eastOf 1 = .ok (.iconst 4, 1) := by decide +kernel
theorem dX12_eastOf_2 : decode cX12_eastOf 2 = .ok (.irem, 1) := by decide +kernel
theorem dX12_eastOf_3 : decode cX12_eastOf 3 = .ok (.istore_n 1, 1) := by decide +kernel
theorem dX12_eastOf_4 : decode cX12_eastOf 4 = .ok (.iload_n 0, 1) := by decide +kernel
theorem dX12_eastOf_5 : decode cX12_eastOf 5 = .ok (.iconst 4, 1) := by decide +kernel
theorem dX12_eastOf_6 : decode cX12_eastOf 6 = .ok (.idiv, 1) := by decide +kernel
theorem dX12_eastOf_7 : decode cX12_eastOf 7 = .ok (.istore_n 2, 1) := by decide +kernel
theorem dX12_eastOf_8 : decode cX12_eastOf 8 = .ok (.iload_n 2, 1) := by decide +kernel
theorem dX12_eastOf_9 : decode cX12_eastOf 9 = .ok (.ifCond .ne 11, 3) := by decide +kernel
theorem dX12_eastOf_12 : decode cX12_eastOf 12 = .ok (.getstatic 408, 3) := by decide +kernel
theorem dX12_eastOf_15 : decode cX12_eastOf 15 = .ok (.iload_n 1, 1) := by decide +kernel
theorem dX12_eastOf_16 : decode cX12_eastOf 16 = .ok (.iaload, 1) := by decide +kernel
theorem dX12_eastOf_17 : decode cX12_eastOf 17 = .ok (.goto 36, 3) := by decide +kernel
theorem dX12_eastOf_20 : decode cX12_eastOf 20 = .ok (.iload_n 2, 1) := by decide +kernel
theorem dX12_eastOf_21 : decode cX12_eastOf 21 = .ok (.iconst 1, 1) := by decide +kernel
theorem dX12_eastOf_22 : decode cX12_eastOf 22 = .ok (.if_icmp .ne 12, 3) := by decide +kernel
theorem dX12_eastOf_25 : decode cX12_eastOf 25 = .ok (.getstatic 411, 3) := by decide +kernel
theorem dX12_eastOf_28 : decode cX12_eastOf 28 = .ok (.iload_n 1, 1) := by decide +kernel
theorem dX12_eastOf_29 : decode cX12_eastOf 29 = .ok (.iaload, 1) := by decide +kernel
theorem dX12_eastOf_30 : decode cX12_eastOf 30 = .ok (.ineg, 1) := by decide +kernel
theorem dX12_eastOf_31 : decode cX12_eastOf 31 = .ok (.goto 22, 3) := by decide +kernel
theorem dX12_eastOf_34 : decode cX12_eastOf 34 = .ok (.iload_n 2, 1) := by decide +kernel
theorem dX12_eastOf_35 : decode cX12_eastOf 35 = .ok (.iconst 2, 1) := by decide +kernel
theorem dX12_eastOf_36 : decode cX12_eastOf 36 = .ok (.if_icmp .ne 12, 3) := by decide +kernel
theorem dX12_eastOf_39 : decode cX12_eastOf 39 = .ok (.getstatic 408, 3) := by decide +kernel
theorem dX12_eastOf_42 : decode cX12_eastOf 42 = .ok (.iload_n 1, 1) := by decide +kernel
theorem dX12_eastOf_43 : decode cX12_eastOf 43 = .ok (.iaload, 1) := by decide +kernel
theorem dX12_eastOf_44 : decode cX12_eastOf 44 = .ok (.ineg, 1) := by decide +kernel
theorem dX12_eastOf_45 : decode cX12_eastOf 45 = .ok (.goto 8, 3) := by decide +kernel
theorem dX12_eastOf_48 : decode cX12_eastOf 48 = .ok (.getstatic 411, 3) := by decide +kernel
theorem dX12_eastOf_51 : decode cX12_eastOf 51 = .ok (.iload_n 1, 1) := by decide +kernel
theorem dX12_eastOf_52 : decode cX12_eastOf 52 = .ok (.iaload, 1) := by decide +kernel
theorem dX12_eastOf_53 : decode cX12_eastOf 53 = .ok (.ireturn, 1) := by decide +kernel
theorem dX12_northOf_0 : decode cX12_northOf 0 = .ok (.iload_n 0, 1) := by decide +kernel
theorem dX12_northOf_1 : decode cX12_northOf 1 = .ok (.bipush 12, 2) := by decide +kernel
theorem dX12_northOf_3 : decode cX12_northOf 3 = .ok (.iadd, 1) := by decide +kernel
theorem dX12_northOf_4 : decode cX12_northOf 4 = .ok (.bipush 16, 2) := by decide +kernel
theorem dX12_northOf_6 : decode cX12_northOf 6 = .ok (.irem, 1) := by decide +kernel
theorem dX12_northOf_7 : decode cX12_northOf 7 = .ok (.invokestatic 414, 3) := by decide +kernel
theorem dX12_northOf_10 : decode cX12_northOf 10 = .ok (.ireturn, 1) := by decide +kernel
theorem dX12_isInside_0 : decode cX12_isInside 0 = .ok (.iload_n 1, 1) := by decide +kernel
theorem dX12_isInside_1 : decode cX12_isInside 1 = .ok (.invokestatic 414, 3) := by decide +kernel
theorem dX12_isInside_4 : decode cX12_isInside 4 = .ok (.iload_n 0, 1) := by decide +kernel
theorem dX12_isInside_5 : decode cX12_isInside 5 = .ok (.invokestatic 414, 3) := by decide +kernel
theorem dX12_isInside_8 : decode cX12_isInside 8 = .ok (.isub, 1) := by decide +kernel
theorem dX12_isInside_9 : decode cX12_isInside 9 = .ok (.iload_n 3, 1) := by decide +kernel
theorem dX12_isInside_10 : decode cX12_isInside 10 = .ok (.iload_n 0, 1) := by decide +kernel
theorem dX12_isInside_11 : decode cX12_isInside 11 = .ok (.invokestatic 417, 3) := by decide +kernel
theorem dX12_isInside_14 : decode cX12_isInside 14 = .ok (.isub, 1) := by decide +kernel
theorem dX12_isInside_15 : decode cX12_isInside 15 = .ok (.imul, 1) := by decide +kernel
theorem dX12_isInside_16 : decode cX12_isInside 16 = .ok (.iload_n 1, 1) := by decide +kernel
theorem dX12_isInside_17 : decode cX12_isInside 17 = .ok (.invokestatic 417, 3) := by decide +kernel
theorem dX12_isInside_20 : decode cX12_isInside 20 = .ok (.iload_n 0, 1) := by decide +kernel
theorem dX12_isInside_21 : decode cX12_isInside 21 = .ok (.invokestatic 417, 3) := by decide +kernel
theorem dX12_isInside_24 : decode cX12_isInside 24 = .ok (.isub, 1) := by decide +kernel
theorem dX12_isInside_25 : decode cX12_isInside 25 = .ok (.iload_n 2, 1) := by decide +kernel
theorem dX12_isInside_26 : decode cX12_isInside 26 = .ok (.iload_n 0, 1) := by decide +kernel
theorem dX12_isInside_27 : decode cX12_isInside 27 = .ok (.invokestatic 414, 3) := by decide +kernel
theorem dX12_isInside_30 : decode cX12_isInside 30 = .ok (.isub, 1) := by decide +kernel
theorem dX12_isInside_31 : decode cX12_isInside 31 = .ok (.imul, 1) := by decide +kernel
theorem dX12_isInside_32 : decode cX12_isInside 32 = .ok (.isub, 1) := by decide +kernel
theorem dX12_isInside_33 : decode cX12_isInside 33 = .ok (.ifCond .le 7, 3) := by decide +kernel
theorem dX12_isInside_36 : decode cX12_isInside 36 = .ok (.iconst 1, 1) := by decide +kernel
theorem dX12_isInside_37 : decode cX12_isInside 37 = .ok (.goto 4, 3) := by decide +kernel
theorem dX12_isInside_40 : decode cX12_isInside 40 = .ok (.iconst 0, 1) := by decide +kernel
theorem dX12_isInside_41 : decode cX12_isInside 41 = .ok (.ireturn, 1) := by decide +kernel
theorem dX12_nextOf_0 : decode cX12_nextOf 0 = .ok (.iload_n 1, 1) := by decide +kernel
theorem dX12_nextOf_1 : decode cX12_nextOf 1 = .ok (.iconst 1, 1) := by decide +kernel
theorem dX12_nextOf_2 : decode cX12_nextOf 2 = .ok (.iadd, 1) := by decide +kernel
theorem dX12_nextOf_3 : decode cX12_nextOf 3 = .ok (.bipush 16, 2) := by decide +kernel
theorem dX12_nextOf_5 : decode cX12_nextOf 5 = .ok (.irem, 1) := by decide +kernel
theorem dX12_nextOf_6 : decode cX12_nextOf 6 = .ok (.istore_n 2, 1) := by decide +kernel
theorem dX12_nextOf_7 : decode cX12_nextOf 7 = .ok (.iload_n 0, 1) := by decide +kernel
theorem dX12_nextOf_8 : decode cX12_nextOf 8 = .ok (.iload_n 2, 1) := by decide +kernel
theorem dX12_nextOf_9 : decode cX12_nextOf 9 = .ok (.ishr, 1) := by decide +kernel
theorem dX12_nextOf_10 : decode cX12_nextOf 10 = .ok (.iconst 1, 1) := by decide +kernel
theorem dX12_nextOf_11 : decode cX12_nextOf 11 = .ok (.iand, 1) := by decide +kernel
theorem dX12_nextOf_12 : decode cX12_nextOf 12 = .ok (.ifCond .ne 13, 3) := by decide +kernel
theorem dX12_nextOf_15 : decode cX12_nextOf 15 = .ok (.iload_n 2, 1) := by decide +kernel
theorem dX12_nextOf_16 : decode cX12_nextOf 16 = .ok (.iconst 1, 1) := by decide +kernel
theorem dX12_nextOf_17 : decode cX12_nextOf 17 = .ok (.iadd, 1) := by decide +kernel
theorem dX12_nextOf_18 : decode cX12_nextOf 18 = .ok (.bipush 16, 2) := by decide +kernel
theorem dX12_nextOf_20 : decode cX12_nextOf 20 = .ok (.irem, 1) := by decide +kernel
theorem dX12_nextOf_21 : decode cX12_nextOf 21 = .ok (.istore_n 2, 1) := by decide +kernel
theorem dX12_nextOf_22 : decode cX12_nextOf 22 = .ok (.goto (-15), 3) := by decide +kernel
theorem dX12_nextOf_25 : decode cX12_nextOf 25 = .ok (.iload_n 2, 1) := by decide +kernel
theorem dX12_nextOf_26 : decode cX12_nextOf 26 = .ok (.ireturn, 1) := by decide +kernel
theorem dX12_isInsideAll_0 : decode cX12_isInsideAll 0 = .ok (.iconst 0, 1) := by decide +kernel
theorem dX12_isInsideAll_1 : decode cX12_isInsideAll 1 = .ok (.istore 4, 2) := by decide +kernel
theorem dX12_isInsideAll_3 : decode cX12_isInsideAll 3 = .ok (.iload 4, 2) := by decide +kernel
theorem dX12_isInsideAll_5 : decode cX12_isInsideAll 5 = .ok (.bipush 16, 2) := by decide +kernel
theorem dX12_isInsideAll_7 : decode cX12_isInsideAll 7 = .ok (.if_icmp .ge 43, 3) := by decide +kernel
theorem dX12_isInsideAll_10 : decode cX12_isInsideAll 10 = .ok (.iload_n 0, 1) := by decide +kernel
theorem dX12_isInsideAll_11 : decode cX12_isInsideAll 11 = .ok (.iload 4, 2) := by decide +kernel
theorem dX12_isInsideAll_13 : decode cX12_isInsideAll 13 = .ok (.ishr, 1) := by decide +kernel
theorem dX12_isInsideAll_14 : decode cX12_isInsideAll 14 = .ok (.iconst 1, 1) := by decide +kernel
theorem dX12_isInsideAll_15 : decode cX12_isInsideAll 15 = .ok (.iand, 1) := by decide +kernel
theorem dX12_isInsideAll_16 : decode cX12_isInsideAll 16 = .ok (.iconst 1, 1) := by decide +kernel
theorem dX12_isInsideAll_17 : decode cX12_isInsideAll 17 = .ok (.if_icmp .ne 27, 3) := by decide +kernel
theorem dX12_isInsideAll_20 : decode cX12_isInsideAll 20 = .ok (.iload 4, 2) := by decide +kernel
theorem dX12_isInsideAll_22 : decode cX12_isInsideAll 22 = .ok (.iload_n 1, 1) := by decide +kernel
theorem dX12_isInsideAll_23 : decode cX12_isInsideAll 23 = .ok (.if_icmp .eq 21, 3) := by decide +kernel
theorem dX12_isInsideAll_26 : decode cX12_isInsideAll 26 = .ok (.iload 4, 2) := by decide +kernel
theorem dX12_isInsideAll_28 : decode cX12_isInsideAll 28 = .ok (.iload_n 0, 1) := by decide +kernel
theorem dX12_isInsideAll_29 : decode cX12_isInsideAll 29 = .ok (.iload 4, 2) := by decide +kernel
theorem dX12_isInsideAll_31 : decode cX12_isInsideAll 31 = .ok (.invokestatic 420, 3) := by decide +kernel
theorem dX12_isInsideAll_34 : decode cX12_isInsideAll 34 = .ok (.iload_n 2, 1) := by decide +kernel
theorem dX12_isInsideAll_35 : decode cX12_isInsideAll 35 = .ok (.iload_n 3, 1) := by decide +kernel
theorem dX12_isInsideAll_36 : decode cX12_isInsideAll 36 = .ok (.invokestatic 423, 3) := by decide +kernel
theorem dX12_isInsideAll_39 : decode cX12_isInsideAll 39 = .ok (.ifCond .ne 5, 3) := by decide +kernel
theorem dX12_isInsideAll_42 : decode cX12_isInsideAll 42 = .ok (.iconst 0, 1) := by decide +kernel
theorem dX12_isInsideAll_43 : decode cX12_isInsideAll 43 = .ok (.ireturn, 1) := by decide +kernel
theorem dX12_isInsideAll_44 : decode cX12_isInsideAll 44 = .ok (.iinc 4 1, 3) := by decide +kernel
theorem dX12_isInsideAll_47 : decode cX12_isInsideAll 47 = .ok (.goto (-44), 3) := by decide +kernel
theorem dX12_isInsideAll_50 : decode cX12_isInsideAll 50 = .ok (.iconst 1, 1) := by decide +kernel
theorem dX12_isInsideAll_51 : decode cX12_isInsideAll 51 = .ok (.ireturn, 1) := by decide +kernel
theorem dX12_standsOn_0 : decode cX12_standsOn 0 = .ok (.iload_n 0, 1) := by decide +kernel
theorem dX12_standsOn_1 : decode cX12_standsOn 1 = .ok (.invokestatic 393, 3) := by decide +kernel
theorem dX12_standsOn_4 : decode cX12_standsOn 4 = .ok (.iconst 3, 1) := by decide +kernel
theorem dX12_standsOn_5 : decode cX12_standsOn 5 = .ok (.if_icmp .lt 17, 3) := by decide +kernel
theorem dX12_standsOn_8 : decode cX12_standsOn 8 = .ok (.iload_n 0, 1) := by decide +kernel
theorem dX12_standsOn_9 : decode cX12_standsOn 9 = .ok (.iconst (-1), 1) := by decide +kernel
theorem dX12_standsOn_10 : decode cX12_standsOn 10 = .ok (.iload_n 1, 1) := by decide +kernel
theorem dX12_standsOn_11 : decode cX12_standsOn 11 = .ok (.iload_n 2, 1) := by decide +kernel
theorem dX12_standsOn_12 : decode cX12_standsOn 12 = .ok (.invokestatic 427, 3) := by decide +kernel
theorem dX12_standsOn_15 : decode cX12_standsOn 15 = .ok (.ifCond .eq 7, 3) := by decide +kernel
theorem dX12_standsOn_18 : decode cX12_standsOn 18 = .ok (.iconst 1, 1) := by decide +kernel
theorem dX12_standsOn_19 : decode cX12_standsOn 19 = .ok (.goto 4, 3) := by decide +kernel
theorem dX12_standsOn_22 : decode cX12_standsOn 22 = .ok (.iconst 0, 1) := by decide +kernel
theorem dX12_standsOn_23 : decode cX12_standsOn 23 = .ok (.ireturn, 1) := by decide +kernel
theorem dX12_isCentre_0 : decode cX12_isCentre 0 = .ok (.iload_n 0, 1) := by decide +kernel
theorem dX12_isCentre_1 : decode cX12_isCentre 1 = .ok (.bipush (-95), 2) := by decide +kernel
theorem dX12_isCentre_3 : decode cX12_isCentre 3 = .ok (.bipush 95, 2) := by decide +kernel
theorem dX12_isCentre_5 : decode cX12_isCentre 5 = .ok (.invokestatic 185, 3) := by decide +kernel
theorem dX12_isCentre_8 : decode cX12_isCentre 8 = .ok (.ifCond .eq 18, 3) := by decide +kernel
theorem dX12_isCentre_11 : decode cX12_isCentre 11 = .ok (.iload_n 1, 1) := by decide +kernel
theorem dX12_isCentre_12 : decode cX12_isCentre 12 = .ok (.bipush (-95), 2) := by decide +kernel
theorem dX12_isCentre_14 : decode cX12_isCentre 14 = .ok (.bipush 95, 2) := by decide +kernel
theorem dX12_isCentre_16 : decode cX12_isCentre 16 = .ok (.invokestatic 185, 3) := by decide +kernel
theorem dX12_isCentre_19 : decode cX12_isCentre 19 = .ok (.ifCond .eq 7, 3) := by decide +kernel
theorem dX12_isCentre_22 : decode cX12_isCentre 22 = .ok (.iconst 1, 1) := by decide +kernel
theorem dX12_isCentre_23 : decode cX12_isCentre 23 = .ok (.goto 4, 3) := by decide +kernel
theorem dX12_isCentre_26 : decode cX12_isCentre 26 = .ok (.iconst 0, 1) := by decide +kernel
theorem dX12_isCentre_27 : decode cX12_isCentre 27 = .ok (.ireturn, 1) := by decide +kernel
theorem dX12_stands_0 : decode cX12_stands 0 = .ok (.aload_n 0, 1) := by decide +kernel
theorem dX12_stands_1 : decode cX12_stands 1 = .ok (.iconst 0, 1) := by decide +kernel
theorem dX12_stands_2 : decode cX12_stands 2 = .ok (.putfield 182, 3) := by decide +kernel
theorem dX12_stands_5 : decode cX12_stands 5 = .ok (.iload_n 2, 1) := by decide +kernel
theorem dX12_stands_6 : decode cX12_stands 6 = .ok (.iload_n 3, 1) := by decide +kernel
theorem dX12_stands_7 : decode cX12_stands 7 = .ok (.invokestatic 430, 3) := by decide +kernel
theorem dX12_stands_10 : decode cX12_stands 10 = .ok (.ifCond .ne 9, 3) := by decide +kernel
theorem dX12_stands_13 : decode cX12_stands 13 = .ok (.aload_n 0, 1) := by decide +kernel
theorem dX12_stands_14 : decode cX12_stands 14 = .ok (.iconst 1, 1) := by decide +kernel
theorem dX12_stands_15 : decode cX12_stands 15 = .ok (.invokevirtual 344, 3) := by decide +kernel
theorem dX12_stands_18 : decode cX12_stands 18 = .ok (.ireturn, 1) := by decide +kernel
theorem dX12_stands_19 : decode cX12_stands 19 = .ok (.iload_n 1, 1) := by decide +kernel
theorem dX12_stands_20 : decode cX12_stands 20 = .ok (.ldc_w 433, 3) := by decide +kernel
theorem dX12_stands_23 : decode cX12_stands 23 = .ok (.iand, 1) := by decide +kernel
theorem dX12_stands_24 : decode cX12_stands 24 = .ok (.iload_n 2, 1) := by decide +kernel
theorem dX12_stands_25 : decode cX12_stands 25 = .ok (.iload_n 3, 1) := by decide +kernel
theorem dX12_stands_26 : decode cX12_stands 26 = .ok (.invokestatic 434, 3) := by decide +kernel
theorem dX12_stands_29 : decode cX12_stands 29 = .ok (.ireturn, 1) := by decide +kernel
theorem dX12_cutOf_0 : decode cX12_cutOf 0 = .ok (.ldc_w 433, 3) := by decide +kernel
theorem dX12_cutOf_3 : decode cX12_cutOf 3 = .ok (.istore 5, 2) := by decide +kernel
theorem dX12_cutOf_5 : decode cX12_cutOf 5 = .ok (.iconst 0, 1) := by decide +kernel
theorem dX12_cutOf_6 : decode cX12_cutOf 6 = .ok (.istore 6, 2) := by decide +kernel
theorem dX12_cutOf_8 : decode cX12_cutOf 8 = .ok (.iload 6, 2) := by decide +kernel
theorem dX12_cutOf_10 : decode cX12_cutOf 10 = .ok (.iload_n 2, 1) := by decide +kernel
theorem dX12_cutOf_11 : decode cX12_cutOf 11 = .ok (.if_icmp .ge 50, 3) := by decide +kernel
theorem dX12_cutOf_14 : decode cX12_cutOf 14 = .ok (.iload_n 1, 1) := by decide +kernel
theorem dX12_cutOf_15 : decode cX12_cutOf 15 = .ok (.iload 6, 2) := by decide +kernel
theorem dX12_cutOf_17 : decode cX12_cutOf 17 = .ok (.iadd, 1) := by decide +kernel
theorem dX12_cutOf_18 : decode cX12_cutOf 18 = .ok (.bipush 16, 2) := by decide +kernel
theorem dX12_cutOf_20 : decode cX12_cutOf 20 = .ok (.irem, 1) := by decide +kernel
theorem dX12_cutOf_21 : decode cX12_cutOf 21 = .ok (.istore 7, 2) := by decide +kernel
theorem dX12_cutOf_23 : decode cX12_cutOf 23 = .ok (.ldc_w 433, 3) := by decide +kernel
theorem dX12_cutOf_26 : decode cX12_cutOf 26 = .ok (.iconst 1, 1) := by decide +kernel
theorem dX12_cutOf_27 : decode cX12_cutOf 27 = .ok (.iload 7, 2) := by decide +kernel
theorem dX12_cutOf_29 : decode cX12_cutOf 29 = .ok (.ishl, 1) := by decide +kernel
theorem dX12_cutOf_30 : decode cX12_cutOf 30 = .ok (.iconst (-1), 1) := by decide +kernel
theorem dX12_cutOf_31 : decode cX12_cutOf 31 = .ok (.ixor, 1) := by decide +kernel
theorem dX12_cutOf_32 : decode cX12_cutOf 32 = .ok (.iand, 1) := by decide +kernel
theorem dX12_cutOf_33 : decode cX12_cutOf 33 = .ok (.iload_n 3, 1) := by decide +kernel
theorem dX12_cutOf_34 : decode cX12_cutOf 34 = .ok (.iload 4, 2) := by decide +kernel
theorem dX12_cutOf_36 : decode cX12_cutOf 36 = .ok (.invokestatic 434, 3) := by decide +kernel
theorem dX12_cutOf_39 : decode cX12_cutOf 39 = .ok (.ifCond .ne 5, 3) := by decide +kernel
theorem dX12_cutOf_42 : decode cX12_cutOf 42 = .ok (.iconst (-1), 1) := by decide +kernel
theorem dX12_cutOf_43 : decode cX12_cutOf 43 = .ok (.ireturn, 1) := by decide +kernel
theorem dX12_cutOf_44 : decode cX12_cutOf 44 = .ok (.iload 5, 2) := by decide +kernel
theorem dX12_cutOf_46 : decode cX12_cutOf 46 = .ok (.iconst 1, 1) := by decide +kernel
theorem dX12_cutOf_47 : decode cX12_cutOf 47 = .ok (.iload 7, 2) := by decide +kernel
theorem dX12_cutOf_49 : decode cX12_cutOf 49 = .ok (.ishl, 1) := by decide +kernel
theorem dX12_cutOf_50 : decode cX12_cutOf 50 = .ok (.iconst (-1), 1) := by decide +kernel
theorem dX12_cutOf_51 : decode cX12_cutOf 51 = .ok (.ixor, 1) := by decide +kernel
theorem dX12_cutOf_52 : decode cX12_cutOf 52 = .ok (.iand, 1) := by decide +kernel
theorem dX12_cutOf_53 : decode cX12_cutOf 53 = .ok (.istore 5, 2) := by decide +kernel
theorem dX12_cutOf_55 : decode cX12_cutOf 55 = .ok (.iinc 6 1, 3) := by decide +kernel
theorem dX12_cutOf_58 : decode cX12_cutOf 58 = .ok (.goto (-50), 3) := by decide +kernel
theorem dX12_cutOf_61 : decode cX12_cutOf 61 = .ok (.iload_n 1, 1) := by decide +kernel
theorem dX12_cutOf_62 : decode cX12_cutOf 62 = .ok (.bipush 16, 2) := by decide +kernel
theorem dX12_cutOf_64 : decode cX12_cutOf 64 = .ok (.iadd, 1) := by decide +kernel
theorem dX12_cutOf_65 : decode cX12_cutOf 65 = .ok (.iconst 1, 1) := by decide +kernel
theorem dX12_cutOf_66 : decode cX12_cutOf 66 = .ok (.isub, 1) := by decide +kernel
theorem dX12_cutOf_67 : decode cX12_cutOf 67 = .ok (.bipush 16, 2) := by decide +kernel
theorem dX12_cutOf_69 : decode cX12_cutOf 69 = .ok (.irem, 1) := by decide +kernel
theorem dX12_cutOf_70 : decode cX12_cutOf 70 = .ok (.istore 6, 2) := by decide +kernel
theorem dX12_cutOf_72 : decode cX12_cutOf 72 = .ok (.iload_n 1, 1) := by decide +kernel
theorem dX12_cutOf_73 : decode cX12_cutOf 73 = .ok (.iload_n 2, 1) := by decide +kernel
theorem dX12_cutOf_74 : decode cX12_cutOf 74 = .ok (.iadd, 1) := by decide +kernel
theorem dX12_cutOf_75 : decode cX12_cutOf 75 = .ok (.bipush 16, 2) := by decide +kernel
theorem dX12_cutOf_77 : decode cX12_cutOf 77 = .ok (.irem, 1) := by decide +kernel
theorem dX12_cutOf_78 : decode cX12_cutOf 78 = .ok (.istore 7, 2) := by decide +kernel
theorem dX12_cutOf_80 : decode cX12_cutOf 80 = .ok (.iload 5, 2) := by decide +kernel
theorem dX12_cutOf_82 : decode cX12_cutOf 82 = .ok (.iload 6, 2) := by decide +kernel
theorem dX12_cutOf_84 : decode cX12_cutOf 84 = .ok (.iload_n 3, 1) := by decide +kernel
theorem dX12_cutOf_85 : decode cX12_cutOf 85 = .ok (.iload 4, 2) := by decide +kernel
theorem dX12_cutOf_87 : decode cX12_cutOf 87 = .ok (.invokestatic 427, 3) := by decide +kernel
theorem dX12_cutOf_90 : decode cX12_cutOf 90 = .ok (.ifCond .ne 6, 3) := by decide +kernel
theorem dX12_cutOf_93 : decode cX12_cutOf 93 = .ok (.bipush (-3), 2) := by decide +kernel
theorem dX12_cutOf_95 : decode cX12_cutOf 95 = .ok (.ireturn, 1) := by decide +kernel
theorem dX12_cutOf_96 : decode cX12_cutOf 96 = .ok (.iload 6, 2) := by decide +kernel
theorem dX12_cutOf_98 : decode cX12_cutOf 98 = .ok (.iload 7, 2) := by decide +kernel
theorem dX12_cutOf_100 : decode cX12_cutOf 100 = .ok (.iload_n 3, 1) := by decide +kernel
theorem dX12_cutOf_101 : decode cX12_cutOf 101 = .ok (.iload 4, 2) := by decide +kernel
theorem dX12_cutOf_103 : decode cX12_cutOf 103 = .ok (.invokestatic 423, 3) := by decide +kernel
theorem dX12_cutOf_106 : decode cX12_cutOf 106 = .ok (.ifCond .eq 6, 3) := by decide +kernel
theorem dX12_cutOf_109 : decode cX12_cutOf 109 = .ok (.bipush (-2), 2) := by decide +kernel
theorem dX12_cutOf_111 : decode cX12_cutOf 111 = .ok (.ireturn, 1) := by decide +kernel
theorem dX12_cutOf_112 : decode cX12_cutOf 112 = .ok (.iload 7, 2) := by decide +kernel
theorem dX12_cutOf_114 : decode cX12_cutOf 114 = .ok (.invokestatic 417, 3) := by decide +kernel
theorem dX12_cutOf_117 : decode cX12_cutOf 117 = .ok (.iload 6, 2) := by decide +kernel
theorem dX12_cutOf_119 : decode cX12_cutOf 119 = .ok (.invokestatic 417, 3) := by decide +kernel
theorem dX12_cutOf_122 : decode cX12_cutOf 122 = .ok (.isub, 1) := by decide +kernel
theorem dX12_cutOf_123 : decode cX12_cutOf 123 = .ok (.istore 8, 2) := by decide +kernel
theorem dX12_cutOf_125 : decode cX12_cutOf 125 = .ok (.iload 6, 2) := by decide +kernel
theorem dX12_cutOf_127 : decode cX12_cutOf 127 = .ok (.invokestatic 414, 3) := by decide +kernel
theorem dX12_cutOf_130 : decode cX12_cutOf 130 = .ok (.iload 7, 2) := by decide +kernel
theorem dX12_cutOf_132 : decode cX12_cutOf 132 = .ok (.invokestatic 414, 3) := by decide +kernel
theorem dX12_cutOf_135 : decode cX12_cutOf 135 = .ok (.isub, 1) := by decide +kernel
theorem dX12_cutOf_136 : decode cX12_cutOf 136 = .ok (.istore 9, 2) := by decide +kernel
theorem dX12_cutOf_138 : decode cX12_cutOf 138 = .ok (.iconst 0, 1) := by decide +kernel
theorem dX12_cutOf_139 : decode cX12_cutOf 139 = .ok (.istore 10, 2) := by decide +kernel
theorem dX12_cutOf_141 : decode cX12_cutOf 141 = .ok (.iconst 1, 1) := by decide +kernel
theorem dX12_cutOf_142 : decode cX12_cutOf 142 = .ok (.istore 11, 2) := by decide +kernel
theorem dX12_cutOf_144 : decode cX12_cutOf 144 = .ok (.iload 11, 2) := by decide +kernel
theorem dX12_cutOf_146 : decode cX12_cutOf 146 = .ok (.bipush 16, 2) := by decide +kernel
theorem dX12_cutOf_148 : decode cX12_cutOf 148 = .ok (.if_icmp .ge 50, 3) := by decide +kernel
theorem dX12_cutOf_151 : decode cX12_cutOf 151 = .ok (.iload 11, 2) := by decide +kernel
theorem dX12_cutOf_153 : decode cX12_cutOf 153 = .ok (.invokestatic 414, 3) := by decide +kernel
theorem dX12_cutOf_156 : decode cX12_cutOf 156 = .ok (.iload 8, 2) := by decide +kernel
theorem dX12_cutOf_158 : decode cX12_cutOf 158 = .ok (.imul, 1) := by decide +kernel
theorem dX12_cutOf_159 : decode cX12_cutOf 159 = .ok (.iload 11, 2) := by decide +kernel
theorem dX12_cutOf_161 : decode cX12_cutOf 161 = .ok (.invokestatic 417, 3) := by decide +kernel
theorem dX12_cutOf_164 : decode cX12_cutOf 164 = .ok (.iload 9, 2) := by decide +kernel
theorem dX12_cutOf_166 : decode cX12_cutOf 166 = .ok (.imul, 1) := by decide +kernel
theorem dX12_cutOf_167 : decode cX12_cutOf 167 = .ok (.iadd, 1) := by decide +kernel
theorem dX12_cutOf_168 : decode cX12_cutOf 168 = .ok (.iload 10, 2) := by decide +kernel
theorem dX12_cutOf_170 : decode cX12_cutOf 170 = .ok (.invokestatic 414, 3) := by decide +kernel
theorem dX12_cutOf_173 : decode cX12_cutOf 173 = .ok (.iload 8, 2) := by decide +kernel
theorem dX12_cutOf_175 : decode cX12_cutOf 175 = .ok (.imul, 1) := by decide +kernel
theorem dX12_cutOf_176 : decode cX12_cutOf 176 = .ok (.iload 10, 2) := by decide +kernel
theorem dX12_cutOf_178 : decode cX12_cutOf 178 = .ok (.invokestatic 417, 3) := by decide +kernel
theorem dX12_cutOf_181 : decode cX12_cutOf 181 = .ok (.iload 9, 2) := by decide +kernel
theorem dX12_cutOf_183 : decode cX12_cutOf 183 = .ok (.imul, 1) := by decide +kernel
theorem dX12_cutOf_184 : decode cX12_cutOf 184 = .ok (.iadd, 1) := by decide +kernel
theorem dX12_cutOf_185 : decode cX12_cutOf 185 = .ok (.if_icmp .le 7, 3) := by decide +kernel
theorem dX12_cutOf_188 : decode cX12_cutOf 188 = .ok (.iload 11, 2) := by decide +kernel
theorem dX12_cutOf_190 : decode cX12_cutOf 190 = .ok (.istore 10, 2) := by decide +kernel
theorem dX12_cutOf_192 : decode cX12_cutOf 192 = .ok (.iinc 11 1, 3) := by decide +kernel
theorem dX12_cutOf_195 : decode cX12_cutOf 195 = .ok (.goto (-51), 3) := by decide +kernel
theorem dX12_cutOf_198 : decode cX12_cutOf 198 = .ok (.iload 10, 2) := by decide +kernel
theorem dX12_cutOf_200 : decode cX12_cutOf 200 = .ok (.ireturn, 1) := by decide +kernel
theorem dX12_cut_0 : decode cX12_cut 0 = .ok (.aload_n 0, 1) := by decide +kernel
theorem dX12_cut_1 : decode cX12_cut 1 = .ok (.iconst 0, 1) := by decide +kernel
theorem dX12_cut_2 : decode cX12_cut 2 = .ok (.putfield 182, 3) := by decide +kernel
theorem dX12_cut_5 : decode cX12_cut 5 = .ok (.iload_n 1, 1) := by decide +kernel
theorem dX12_cut_6 : decode cX12_cut 6 = .ok (.iconst 0, 1) := by decide +kernel
theorem dX12_cut_7 : decode cX12_cut 7 = .ok (.bipush 15, 2) := by decide +kernel
theorem dX12_cut_9 : decode cX12_cut 9 = .ok (.invokestatic 185, 3) := by decide +kernel
theorem dX12_cut_12 : decode cX12_cut 12 = .ok (.ifCond .eq 22, 3) := by decide +kernel
theorem dX12_cut_15 : decode cX12_cut 15 = .ok (.iload_n 2, 1) := by decide +kernel
theorem dX12_cut_16 : decode cX12_cut 16 = .ok (.iconst 1, 1) := by decide +kernel
theorem dX12_cut_17 : decode cX12_cut 17 = .ok (.bipush 12, 2) := by decide +kernel
theorem dX12_cut_19 : decode cX12_cut 19 = .ok (.invokestatic 185, 3) := by decide +kernel
theorem dX12_cut_22 : decode cX12_cut 22 = .ok (.ifCond .eq 12, 3) := by decide +kernel
theorem dX12_cut_25 : decode cX12_cut 25 = .ok (.iload_n 3, 1) := by decide +kernel
theorem dX12_cut_26 : decode cX12_cut 26 = .ok (.iload 4, 2) := by decide +kernel
theorem dX12_cut_28 : decode cX12_cut 28 = .ok (.invokestatic 430, 3) := by decide +kernel
theorem dX12_cut_31 : decode cX12_cut 31 = .ok (.ifCond .ne 9, 3) := by decide +kernel
theorem dX12_cut_34 : decode cX12_cut 34 = .ok (.aload_n 0, 1) := by decide +kernel
theorem dX12_cut_35 : decode cX12_cut 35 = .ok (.iconst 1, 1) := by decide +kernel
theorem dX12_cut_36 : decode cX12_cut 36 = .ok (.invokevirtual 292, 3) := by decide +kernel
theorem dX12_cut_39 : decode cX12_cut 39 = .ok (.ireturn, 1) := by decide +kernel
theorem dX12_cut_40 : decode cX12_cut 40 = .ok (.aload_n 0, 1) := by decide +kernel
theorem dX12_cut_41 : decode cX12_cut 41 = .ok (.iload_n 1, 1) := by decide +kernel
theorem dX12_cut_42 : decode cX12_cut 42 = .ok (.iload_n 2, 1) := by decide +kernel
theorem dX12_cut_43 : decode cX12_cut 43 = .ok (.iload_n 3, 1) := by decide +kernel
theorem dX12_cut_44 : decode cX12_cut 44 = .ok (.iload 4, 2) := by decide +kernel
theorem dX12_cut_46 : decode cX12_cut 46 = .ok (.invokevirtual 437, 3) := by decide +kernel
theorem dX12_cut_49 : decode cX12_cut 49 = .ok (.ireturn, 1) := by decide +kernel
theorem dX12_fell_0 : decode cX12_fell 0 = .ok (.aload_n 0, 1) := by decide +kernel
theorem dX12_fell_1 : decode cX12_fell 1 = .ok (.iconst 0, 1) := by decide +kernel
theorem dX12_fell_2 : decode cX12_fell 2 = .ok (.putfield 182, 3) := by decide +kernel
theorem dX12_fell_5 : decode cX12_fell 5 = .ok (.iload_n 1, 1) := by decide +kernel
theorem dX12_fell_6 : decode cX12_fell 6 = .ok (.iconst 0, 1) := by decide +kernel
theorem dX12_fell_7 : decode cX12_fell 7 = .ok (.bipush 15, 2) := by decide +kernel
theorem dX12_fell_9 : decode cX12_fell 9 = .ok (.invokestatic 185, 3) := by decide +kernel
theorem dX12_fell_12 : decode cX12_fell 12 = .ok (.ifCond .eq 22, 3) := by decide +kernel
theorem dX12_fell_15 : decode cX12_fell 15 = .ok (.iload_n 2, 1) := by decide +kernel
theorem dX12_fell_16 : decode cX12_fell 16 = .ok (.iconst 0, 1) := by decide +kernel
theorem dX12_fell_17 : decode cX12_fell 17 = .ok (.bipush 15, 2) := by decide +kernel
theorem dX12_fell_19 : decode cX12_fell 19 = .ok (.invokestatic 185, 3) := by decide +kernel
theorem dX12_fell_22 : decode cX12_fell 22 = .ok (.ifCond .eq 12, 3) := by decide +kernel
theorem dX12_fell_25 : decode cX12_fell 25 = .ok (.iload_n 3, 1) := by decide +kernel
theorem dX12_fell_26 : decode cX12_fell 26 = .ok (.iload 4, 2) := by decide +kernel
theorem dX12_fell_28 : decode cX12_fell 28 = .ok (.invokestatic 430, 3) := by decide +kernel
theorem dX12_fell_31 : decode cX12_fell 31 = .ok (.ifCond .ne 9, 3) := by decide +kernel
theorem dX12_fell_34 : decode cX12_fell 34 = .ok (.aload_n 0, 1) := by decide +kernel
theorem dX12_fell_35 : decode cX12_fell 35 = .ok (.iconst 1, 1) := by decide +kernel
theorem dX12_fell_36 : decode cX12_fell 36 = .ok (.invokevirtual 292, 3) := by decide +kernel
theorem dX12_fell_39 : decode cX12_fell 39 = .ok (.ireturn, 1) := by decide +kernel
theorem dX12_fell_40 : decode cX12_fell 40 = .ok (.iload_n 2, 1) := by decide +kernel
theorem dX12_fell_41 : decode cX12_fell 41 = .ok (.iload_n 1, 1) := by decide +kernel
theorem dX12_fell_42 : decode cX12_fell 42 = .ok (.isub, 1) := by decide +kernel
theorem dX12_fell_43 : decode cX12_fell 43 = .ok (.bipush 16, 2) := by decide +kernel
theorem dX12_fell_45 : decode cX12_fell 45 = .ok (.iadd, 1) := by decide +kernel
theorem dX12_fell_46 : decode cX12_fell 46 = .ok (.bipush 16, 2) := by decide +kernel
theorem dX12_fell_48 : decode cX12_fell 48 = .ok (.irem, 1) := by decide +kernel
theorem dX12_fell_49 : decode cX12_fell 49 = .ok (.istore 5, 2) := by decide +kernel
theorem dX12_fell_51 : decode cX12_fell 51 = .ok (.iconst 1, 1) := by decide +kernel
theorem dX12_fell_52 : decode cX12_fell 52 = .ok (.istore 6, 2) := by decide +kernel
theorem dX12_fell_54 : decode cX12_fell 54 = .ok (.iload 6, 2) := by decide +kernel
theorem dX12_fell_56 : decode cX12_fell 56 = .ok (.bipush 12, 2) := by decide +kernel
theorem dX12_fell_58 : decode cX12_fell 58 = .ok (.if_icmp .gt 67, 3) := by decide +kernel
theorem dX12_fell_61 : decode cX12_fell 61 = .ok (.iconst 0, 1) := by decide +kernel
theorem dX12_fell_62 : decode cX12_fell 62 = .ok (.istore 7, 2) := by decide +kernel
theorem dX12_fell_64 : decode cX12_fell 64 = .ok (.iload 7, 2) := by decide +kernel
theorem dX12_fell_66 : decode cX12_fell 66 = .ok (.bipush 16, 2) := by decide +kernel
theorem dX12_fell_68 : decode cX12_fell 68 = .ok (.if_icmp .ge 51, 3) := by decide +kernel
theorem dX12_fell_71 : decode cX12_fell 71 = .ok (.aload_n 0, 1) := by decide +kernel
theorem dX12_fell_72 : decode cX12_fell 72 = .ok (.iload 7, 2) := by decide +kernel
theorem dX12_fell_74 : decode cX12_fell 74 = .ok (.iload 6, 2) := by decide +kernel
theorem dX12_fell_76 : decode cX12_fell 76 = .ok (.iload_n 3, 1) := by decide +kernel
theorem dX12_fell_77 : decode cX12_fell 77 = .ok (.iload 4, 2) := by decide +kernel
theorem dX12_fell_79 : decode cX12_fell 79 = .ok (.invokevirtual 437, 3) := by decide +kernel
theorem dX12_fell_82 : decode cX12_fell 82 = .ok (.istore 8, 2) := by decide +kernel
theorem dX12_fell_84 : decode cX12_fell 84 = .ok (.iload 8, 2) := by decide +kernel
theorem dX12_fell_86 : decode cX12_fell 86 = .ok (.ifCond .lt 27, 3) := by decide +kernel
theorem dX12_fell_89 : decode cX12_fell 89 = .ok (.iload 8, 2) := by decide +kernel
theorem dX12_fell_91 : decode cX12_fell 91 = .ok (.iload_n 1, 1) := by decide +kernel
theorem dX12_fell_92 : decode cX12_fell 92 = .ok (.isub, 1) := by decide +kernel
theorem dX12_fell_93 : decode cX12_fell 93 = .ok (.bipush 16, 2) := by decide +kernel
theorem dX12_fell_95 : decode cX12_fell 95 = .ok (.iadd, 1) := by decide +kernel
theorem dX12_fell_96 : decode cX12_fell 96 = .ok (.bipush 16, 2) := by decide +kernel
theorem dX12_fell_98 : decode cX12_fell 98 = .ok (.irem, 1) := by decide +kernel
theorem dX12_fell_99 : decode cX12_fell 99 = .ok (.iload 5, 2) := by decide +kernel
theorem dX12_fell_101 : decode cX12_fell 101 = .ok (.if_icmp .gt 12, 3) := by decide +kernel
theorem dX12_fell_104 : decode cX12_fell 104 = .ok (.bipush 16, 2) := by decide +kernel
theorem dX12_fell_106 : decode cX12_fell 106 = .ok (.iload 6, 2) := by decide +kernel
theorem dX12_fell_108 : decode cX12_fell 108 = .ok (.imul, 1) := by decide +kernel
theorem dX12_fell_109 : decode cX12_fell 109 = .ok (.iload 7, 2) := by decide +kernel
theorem dX12_fell_111 : decode cX12_fell 111 = .ok (.iadd, 1) := by decide +kernel
theorem dX12_fell_112 : decode cX12_fell 112 = .ok (.ireturn, 1) := by decide +kernel
theorem dX12_fell_113 : decode cX12_fell 113 = .ok (.iinc 7 1, 3) := by decide +kernel
theorem dX12_fell_116 : decode cX12_fell 116 = .ok (.goto (-52), 3) := by decide +kernel
theorem dX12_fell_119 : decode cX12_fell 119 = .ok (.iinc 6 1, 3) := by decide +kernel
theorem dX12_fell_122 : decode cX12_fell 122 = .ok (.goto (-68), 3) := by decide +kernel
theorem dX12_fell_125 : decode cX12_fell 125 = .ok (.iconst (-1), 1) := by decide +kernel
theorem dX12_fell_126 : decode cX12_fell 126 = .ok (.ireturn, 1) := by decide +kernel
theorem dX12_rope_0 : decode cX12_rope 0 = .ok (.aload_n 0, 1) := by decide +kernel
theorem dX12_rope_1 : decode cX12_rope 1 = .ok (.iconst 0, 1) := by decide +kernel
theorem dX12_rope_2 : decode cX12_rope 2 = .ok (.putfield 182, 3) := by decide +kernel
theorem dX12_rope_5 : decode cX12_rope 5 = .ok (.aload_n 0, 1) := by decide +kernel
theorem dX12_rope_6 : decode cX12_rope 6 = .ok (.getfield 312, 3) := by decide +kernel
theorem dX12_rope_9 : decode cX12_rope 9 = .ok (.bipush 20, 2) := by decide +kernel
theorem dX12_rope_11 : decode cX12_rope 11 = .ok (.if_icmp .eq 14, 3) := by decide +kernel
theorem dX12_rope_14 : decode cX12_rope 14 = .ok (.iload_n 1, 1) := by decide +kernel
theorem dX12_rope_15 : decode cX12_rope 15 = .ok (.iconst 1, 1) := by decide +kernel
theorem dX12_rope_16 : decode cX12_rope 16 = .ok (.sipush 9999, 3) := by decide +kernel
theorem dX12_rope_19 : decode cX12_rope 19 = .ok (.invokestatic 185, 3) := by decide +kernel
theorem dX12_rope_22 : decode cX12_rope 22 = .ok (.ifCond .ne 5, 3) := by decide +kernel
theorem dX12_rope_25 : decode cX12_rope 25 = .ok (.iconst (-1), 1) := by decide +kernel
theorem dX12_rope_26 : decode cX12_rope 26 = .ok (.ireturn, 1) := by decide +kernel
theorem dX12_rope_27 : decode cX12_rope 27 = .ok (.aload_n 0, 1) := by decide +kernel
theorem dX12_rope_28 : decode cX12_rope 28 = .ok (.getfield 94, 3) := by decide +kernel
theorem dX12_rope_31 : decode cX12_rope 31 = .ok (.aload_n 0, 1) := by decide +kernel
theorem dX12_rope_32 : decode cX12_rope 32 = .ok (.getfield 312, 3) := by decide +kernel
theorem dX12_rope_35 : decode cX12_rope 35 = .ok (.iload_n 1, 1) := by decide +kernel
theorem dX12_rope_36 : decode cX12_rope 36 = .ok (.iastore, 1) := by decide +kernel
theorem dX12_rope_37 : decode cX12_rope 37 = .ok (.aload_n 0, 1) := by decide +kernel
theorem dX12_rope_38 : decode cX12_rope 38 = .ok (.dup, 1) := by decide +kernel
theorem dX12_rope_39 : decode cX12_rope 39 = .ok (.getfield 312, 3) := by decide +kernel
theorem dX12_rope_42 : decode cX12_rope 42 = .ok (.iconst 1, 1) := by decide +kernel
theorem dX12_rope_43 : decode cX12_rope 43 = .ok (.iadd, 1) := by decide +kernel
theorem dX12_rope_44 : decode cX12_rope 44 = .ok (.putfield 312, 3) := by decide +kernel
theorem dX12_rope_47 : decode cX12_rope 47 = .ok (.aload_n 0, 1) := by decide +kernel
theorem dX12_rope_48 : decode cX12_rope 48 = .ok (.getfield 312, 3) := by decide +kernel
theorem dX12_rope_51 : decode cX12_rope 51 = .ok (.iconst 1, 1) := by decide +kernel
theorem dX12_rope_52 : decode cX12_rope 52 = .ok (.isub, 1) := by decide +kernel
theorem dX12_rope_53 : decode cX12_rope 53 = .ok (.ireturn, 1) := by decide +kernel
theorem dX12_life_0 : decode cX12_life 0 = .ok (.aload_n 0, 1) := by decide +kernel
theorem dX12_life_1 : decode cX12_life 1 = .ok (.iconst 0, 1) := by decide +kernel
theorem dX12_life_2 : decode cX12_life 2 = .ok (.putfield 182, 3) := by decide +kernel
theorem dX12_life_5 : decode cX12_life 5 = .ok (.iload_n 1, 1) := by decide +kernel
theorem dX12_life_6 : decode cX12_life 6 = .ok (.iconst 0, 1) := by decide +kernel
theorem dX12_life_7 : decode cX12_life 7 = .ok (.aload_n 0, 1) := by decide +kernel
theorem dX12_life_8 : decode cX12_life 8 = .ok (.getfield 312, 3) := by decide +kernel
theorem dX12_life_11 : decode cX12_life 11 = .ok (.iconst 1, 1) := by decide +kernel
theorem dX12_life_12 : decode cX12_life 12 = .ok (.isub, 1) := by decide +kernel
theorem dX12_life_13 : decode cX12_life 13 = .ok (.invokestatic 185, 3) := by decide +kernel
theorem dX12_life_16 : decode cX12_life 16 = .ok (.ifCond .eq 12, 3) := by decide +kernel
theorem dX12_life_19 : decode cX12_life 19 = .ok (.aload_n 0, 1) := by decide +kernel
theorem dX12_life_20 : decode cX12_life 20 = .ok (.getfield 94, 3) := by decide +kernel
theorem dX12_life_23 : decode cX12_life 23 = .ok (.iload_n 1, 1) := by decide +kernel
theorem dX12_life_24 : decode cX12_life 24 = .ok (.iaload, 1) := by decide +kernel
theorem dX12_life_25 : decode cX12_life 25 = .ok (.goto 8, 3) := by decide +kernel
theorem dX12_life_28 : decode cX12_life 28 = .ok (.aload_n 0, 1) := by decide +kernel
theorem dX12_life_29 : decode cX12_life 29 = .ok (.iconst 1, 1) := by decide +kernel
theorem dX12_life_30 : decode cX12_life 30 = .ok (.invokevirtual 292, 3) := by decide +kernel
theorem dX12_life_33 : decode cX12_life 33 = .ok (.ireturn, 1) := by decide +kernel
theorem dX12_need_0 : decode cX12_need 0 = .ok (.aload_n 0, 1) := by decide +kernel
theorem dX12_need_1 : decode cX12_need 1 = .ok (.iconst 0, 1) := by decide +kernel
theorem dX12_need_2 : decode cX12_need 2 = .ok (.putfield 182, 3) := by decide +kernel
theorem dX12_need_5 : decode cX12_need 5 = .ok (.aload_n 0, 1) := by decide +kernel
theorem dX12_need_6 : decode cX12_need 6 = .ok (.getfield 315, 3) := by decide +kernel
theorem dX12_need_9 : decode cX12_need 9 = .ok (.bipush 10, 2) := by decide +kernel
theorem dX12_need_11 : decode cX12_need 11 = .ok (.if_icmp .eq 14, 3) := by decide +kernel
theorem dX12_need_14 : decode cX12_need 14 = .ok (.iload_n 1, 1) := by decide +kernel
theorem dX12_need_15 : decode cX12_need 15 = .ok (.iconst 1, 1) := by decide +kernel
theorem dX12_need_16 : decode cX12_need 16 = .ok (.sipush 9999, 3) := by decide +kernel
theorem dX12_need_19 : decode cX12_need 19 = .ok (.invokestatic 185, 3) := by decide +kernel
theorem dX12_need_22 : decode cX12_need 22 = .ok (.ifCond .ne 5, 3) := by decide +kernel
theorem dX12_need_25 : decode cX12_need 25 = .ok (.iconst (-1), 1) := by decide +kernel
theorem dX12_need_26 : decode cX12_need 26 = .ok (.ireturn, 1) := by decide +kernel
theorem dX12_need_27 : decode cX12_need 27 = .ok (.aload_n 0, 1) := by decide +kernel
theorem dX12_need_28 : decode cX12_need 28 = .ok (.getfield 97, 3) := by decide +kernel
theorem dX12_need_31 : decode cX12_need 31 = .ok (.aload_n 0, 1) := by decide +kernel
theorem dX12_need_32 : decode cX12_need 32 = .ok (.getfield 315, 3) := by decide +kernel
theorem dX12_need_35 : decode cX12_need 35 = .ok (.iload_n 1, 1) := by decide +kernel
theorem dX12_need_36 : decode cX12_need 36 = .ok (.iastore, 1) := by decide +kernel
theorem dX12_need_37 : decode cX12_need 37 = .ok (.aload_n 0, 1) := by decide +kernel
theorem dX12_need_38 : decode cX12_need 38 = .ok (.dup, 1) := by decide +kernel
theorem dX12_need_39 : decode cX12_need 39 = .ok (.getfield 315, 3) := by decide +kernel
theorem dX12_need_42 : decode cX12_need 42 = .ok (.iconst 1, 1) := by decide +kernel
theorem dX12_need_43 : decode cX12_need 43 = .ok (.iadd, 1) := by decide +kernel
theorem dX12_need_44 : decode cX12_need 44 = .ok (.putfield 315, 3) := by decide +kernel
theorem dX12_need_47 : decode cX12_need 47 = .ok (.aload_n 0, 1) := by decide +kernel
theorem dX12_need_48 : decode cX12_need 48 = .ok (.getfield 315, 3) := by decide +kernel
theorem dX12_need_51 : decode cX12_need 51 = .ok (.ireturn, 1) := by decide +kernel
theorem dX12_lay_0 : decode cX12_lay 0 = .ok (.iload_n 2, 1) := by decide +kernel
theorem dX12_lay_1 : decode cX12_lay 1 = .ok (.aload_n 0, 1) := by decide +kernel
theorem dX12_lay_2 : decode cX12_lay 2 = .ok (.getfield 441, 3) := by decide +kernel
theorem dX12_lay_5 : decode cX12_lay 5 = .ok (.if_icmp .lt 4, 3) := by decide +kernel
theorem dX12_lay_8 : decode cX12_lay 8 = .ok (.return_, 1) := by decide +kernel
theorem dX12_lay_9 : decode cX12_lay 9 = .ok (.iload_n 1, 1) := by decide +kernel
theorem dX12_lay_10 : decode cX12_lay 10 = .ok (.aload_n 0, 1) := by decide +kernel
theorem dX12_lay_11 : decode cX12_lay 11 = .ok (.getfield 315, 3) := by decide +kernel
theorem dX12_lay_14 : decode cX12_lay 14 = .ok (.if_icmp .ne 9, 3) := by decide +kernel
theorem dX12_lay_17 : decode cX12_lay 17 = .ok (.aload_n 0, 1) := by decide +kernel
theorem dX12_lay_18 : decode cX12_lay 18 = .ok (.iload_n 2, 1) := by decide +kernel
theorem dX12_lay_19 : decode cX12_lay 19 = .ok (.putfield 441, 3) := by decide +kernel
theorem dX12_lay_22 : decode cX12_lay 22 = .ok (.return_, 1) := by decide +kernel
theorem dX12_lay_23 : decode cX12_lay 23 = .ok (.iconst 0, 1) := by decide +kernel
theorem dX12_lay_24 : decode cX12_lay 24 = .ok (.istore 4, 2) := by decide +kernel
theorem dX12_lay_26 : decode cX12_lay 26 = .ok (.iload 4, 2) := by decide +kernel
theorem dX12_lay_28 : decode cX12_lay 28 = .ok (.iload_n 2, 1) := by decide +kernel
theorem dX12_lay_29 : decode cX12_lay 29 = .ok (.if_icmp .ge 69, 3) := by decide +kernel
theorem dX12_lay_32 : decode cX12_lay 32 = .ok (.aload_n 0, 1) := by decide +kernel
theorem dX12_lay_33 : decode cX12_lay 33 = .ok (.getfield 100, 3) := by decide +kernel
theorem dX12_lay_36 : decode cX12_lay 36 = .ok (.iload 4, 2) := by decide +kernel
theorem dX12_lay_38 : decode cX12_lay 38 = .ok (.iaload, 1) := by decide +kernel
theorem dX12_lay_39 : decode cX12_lay 39 = .ok (.aload_n 0, 1) := by decide +kernel
theorem dX12_lay_40 : decode cX12_lay 40 = .ok (.getfield 97, 3) := by decide +kernel
theorem dX12_lay_43 : decode cX12_lay 43 = .ok (.iload_n 1, 1) := by decide +kernel
theorem dX12_lay_44 : decode cX12_lay 44 = .ok (.iaload, 1) := by decide +kernel
theorem dX12_lay_45 : decode cX12_lay 45 = .ok (.if_icmp .ge 6, 3) := by decide +kernel
theorem dX12_lay_48 : decode cX12_lay 48 = .ok (.goto 44, 3) := by decide +kernel
theorem dX12_lay_51 : decode cX12_lay 51 = .ok (.aload_n 0, 1) := by decide +kernel
theorem dX12_lay_52 : decode cX12_lay 52 = .ok (.getfield 100, 3) := by decide +kernel
theorem dX12_lay_55 : decode cX12_lay 55 = .ok (.iload 4, 2) := by decide +kernel
theorem dX12_lay_57 : decode cX12_lay 57 = .ok (.dup2, 1) := by decide +kernel
theorem dX12_lay_58 : decode cX12_lay 58 = .ok (.iaload, 1) := by decide +kernel
theorem dX12_lay_59 : decode cX12_lay 59 = .ok (.aload_n 0, 1) := by decide +kernel
theorem dX12_lay_60 : decode cX12_lay 60 = .ok (.getfield 97, 3) := by decide +kernel
theorem dX12_lay_63 : decode cX12_lay 63 = .ok (.iload_n 1, 1) := by decide +kernel
theorem dX12_lay_64 : decode cX12_lay 64 = .ok (.iaload, 1) := by decide +kernel
theorem dX12_lay_65 : decode cX12_lay 65 = .ok (.isub, 1) := by decide +kernel
theorem dX12_lay_66 : decode cX12_lay 66 = .ok (.iastore, 1) := by decide +kernel
theorem dX12_lay_67 : decode cX12_lay 67 = .ok (.aload_n 0, 1) := by decide +kernel
theorem dX12_lay_68 : decode cX12_lay 68 = .ok (.iload_n 1, 1) := by decide +kernel
theorem dX12_lay_69 : decode cX12_lay 69 = .ok (.iconst 1, 1) := by decide +kernel
theorem dX12_lay_70 : decode cX12_lay 70 = .ok (.iadd, 1) := by decide +kernel
theorem dX12_lay_71 : decode cX12_lay 71 = .ok (.iload_n 2, 1) := by decide +kernel
theorem dX12_lay_72 : decode cX12_lay 72 = .ok (.iload_n 3, 1) := by decide +kernel
theorem dX12_lay_73 : decode cX12_lay 73 = .ok (.invokevirtual 444, 3) := by decide +kernel
theorem dX12_lay_76 : decode cX12_lay 76 = .ok (.aload_n 0, 1) := by decide +kernel
theorem dX12_lay_77 : decode cX12_lay 77 = .ok (.getfield 100, 3) := by decide +kernel
theorem dX12_lay_80 : decode cX12_lay 80 = .ok (.iload 4, 2) := by decide +kernel
theorem dX12_lay_82 : decode cX12_lay 82 = .ok (.dup2, 1) := by decide +kernel
theorem dX12_lay_83 : decode cX12_lay 83 = .ok (.iaload, 1) := by decide +kernel
theorem dX12_lay_84 : decode cX12_lay 84 = .ok (.aload_n 0, 1) := by decide +kernel
theorem dX12_lay_85 : decode cX12_lay 85 = .ok (.getfield 97, 3) := by decide +kernel
theorem dX12_lay_88 : decode cX12_lay 88 = .ok (.iload_n 1, 1) := by decide +kernel
theorem dX12_lay_89 : decode cX12_lay 89 = .ok (.iaload, 1) := by decide +kernel
theorem dX12_lay_90 : decode cX12_lay 90 = .ok (.iadd, 1) := by decide +kernel
theorem dX12_lay_91 : decode cX12_lay 91 = .ok (.iastore, 1) := by decide +kernel
theorem dX12_lay_92 : decode cX12_lay 92 = .ok (.iinc 4 1, 3) := by decide +kernel
theorem dX12_lay_95 : decode cX12_lay 95 = .ok (.goto (-69), 3) := by decide +kernel
theorem dX12_lay_98 : decode cX12_lay 98 = .ok (.aload_n 0, 1) := by decide +kernel
theorem dX12_lay_99 : decode cX12_lay 99 = .ok (.getfield 100, 3) := by decide +kernel
theorem dX12_lay_102 : decode cX12_lay 102 = .ok (.iload_n 2, 1) := by decide +kernel
theorem dX12_lay_103 : decode cX12_lay 103 = .ok (.iload_n 3, 1) := by decide +kernel
theorem dX12_lay_104 : decode cX12_lay 104 = .ok (.aload_n 0, 1) := by decide +kernel
theorem dX12_lay_105 : decode cX12_lay 105 = .ok (.getfield 97, 3) := by decide +kernel
theorem dX12_lay_108 : decode cX12_lay 108 = .ok (.iload_n 1, 1) := by decide +kernel
theorem dX12_lay_109 : decode cX12_lay 109 = .ok (.iaload, 1) := by decide +kernel
theorem dX12_lay_110 : decode cX12_lay 110 = .ok (.isub, 1) := by decide +kernel
theorem dX12_lay_111 : decode cX12_lay 111 = .ok (.iastore, 1) := by decide +kernel
theorem dX12_lay_112 : decode cX12_lay 112 = .ok (.aload_n 0, 1) := by decide +kernel
theorem dX12_lay_113 : decode cX12_lay 113 = .ok (.iload_n 1, 1) := by decide +kernel
theorem dX12_lay_114 : decode cX12_lay 114 = .ok (.iconst 1, 1) := by decide +kernel
theorem dX12_lay_115 : decode cX12_lay 115 = .ok (.iadd, 1) := by decide +kernel
theorem dX12_lay_116 : decode cX12_lay 116 = .ok (.iload_n 2, 1) := by decide +kernel
theorem dX12_lay_117 : decode cX12_lay 117 = .ok (.iconst 1, 1) := by decide +kernel
theorem dX12_lay_118 : decode cX12_lay 118 = .ok (.iadd, 1) := by decide +kernel
theorem dX12_lay_119 : decode cX12_lay 119 = .ok (.iload_n 3, 1) := by decide +kernel
theorem dX12_lay_120 : decode cX12_lay 120 = .ok (.invokevirtual 444, 3) := by decide +kernel
theorem dX12_lay_123 : decode cX12_lay 123 = .ok (.return_, 1) := by decide +kernel
theorem dX12_ropes_0 : decode cX12_ropes 0 = .ok (.aload_n 0, 1) := by decide +kernel
theorem dX12_ropes_1 : decode cX12_ropes 1 = .ok (.iconst 0, 1) := by decide +kernel
theorem dX12_ropes_2 : decode cX12_ropes 2 = .ok (.putfield 182, 3) := by decide +kernel
theorem dX12_ropes_5 : decode cX12_ropes 5 = .ok (.iconst 0, 1) := by decide +kernel
theorem dX12_ropes_6 : decode cX12_ropes 6 = .ok (.istore_n 2, 1) := by decide +kernel
theorem dX12_ropes_7 : decode cX12_ropes 7 = .ok (.iconst 0, 1) := by decide +kernel
theorem dX12_ropes_8 : decode cX12_ropes 8 = .ok (.istore_n 3, 1) := by decide +kernel
theorem dX12_ropes_9 : decode cX12_ropes 9 = .ok (.iload_n 3, 1) := by decide +kernel
theorem dX12_ropes_10 : decode cX12_ropes 10 = .ok (.aload_n 0, 1) := by decide +kernel
theorem dX12_ropes_11 : decode cX12_ropes 11 = .ok (.getfield 315, 3) := by decide +kernel
theorem dX12_ropes_14 : decode cX12_ropes 14 = .ok (.if_icmp .ge 27, 3) := by decide +kernel
theorem dX12_ropes_17 : decode cX12_ropes 17 = .ok (.iload_n 2, 1) := by decide +kernel
theorem dX12_ropes_18 : decode cX12_ropes 18 = .ok (.aload_n 0, 1) := by decide +kernel
theorem dX12_ropes_19 : decode cX12_ropes 19 = .ok (.getfield 97, 3) := by decide +kernel
theorem dX12_ropes_22 : decode cX12_ropes 22 = .ok (.iload_n 3, 1) := by decide +kernel
theorem dX12_ropes_23 : decode cX12_ropes 23 = .ok (.iaload, 1) := by decide +kernel
theorem dX12_ropes_24 : decode cX12_ropes 24 = .ok (.iload_n 1, 1) := by decide +kernel
theorem dX12_ropes_25 : decode cX12_ropes 25 = .ok (.if_icmp .le 7, 3) := by decide +kernel
theorem dX12_ropes_28 : decode cX12_ropes 28 = .ok (.iconst 1, 1) := by decide +kernel
theorem dX12_ropes_29 : decode cX12_ropes 29 = .ok (.goto 4, 3) := by decide +kernel
theorem dX12_ropes_32 : decode cX12_ropes 32 = .ok (.iconst 0, 1) := by decide +kernel
theorem dX12_ropes_33 : decode cX12_ropes 33 = .ok (.iadd, 1) := by decide +kernel
theorem dX12_ropes_34 : decode cX12_ropes 34 = .ok (.istore_n 2, 1) := by decide +kernel
theorem dX12_ropes_35 : decode cX12_ropes 35 = .ok (.iinc 3 1, 3) := by decide +kernel
theorem dX12_ropes_38 : decode cX12_ropes 38 = .ok (.goto (-29), 3) := by decide +kernel
theorem dX12_ropes_41 : decode cX12_ropes 41 = .ok (.aload_n 0, 1) := by decide +kernel
theorem dX12_ropes_42 : decode cX12_ropes 42 = .ok (.aload_n 0, 1) := by decide +kernel
theorem dX12_ropes_43 : decode cX12_ropes 43 = .ok (.getfield 315, 3) := by decide +kernel
theorem dX12_ropes_46 : decode cX12_ropes 46 = .ok (.iconst 1, 1) := by decide +kernel
theorem dX12_ropes_47 : decode cX12_ropes 47 = .ok (.iadd, 1) := by decide +kernel
theorem dX12_ropes_48 : decode cX12_ropes 48 = .ok (.putfield 441, 3) := by decide +kernel
theorem dX12_ropes_51 : decode cX12_ropes 51 = .ok (.iload_n 2, 1) := by decide +kernel
theorem dX12_ropes_52 : decode cX12_ropes 52 = .ok (.ifCond .ne 10, 3) := by decide +kernel
theorem dX12_ropes_55 : decode cX12_ropes 55 = .ok (.aload_n 0, 1) := by decide +kernel
theorem dX12_ropes_56 : decode cX12_ropes 56 = .ok (.iconst 0, 1) := by decide +kernel
theorem dX12_ropes_57 : decode cX12_ropes 57 = .ok (.iconst 0, 1) := by decide +kernel
theorem dX12_ropes_58 : decode cX12_ropes 58 = .ok (.iload_n 1, 1) := by decide +kernel
theorem dX12_ropes_59 : decode cX12_ropes 59 = .ok (.invokevirtual 444, 3) := by decide +kernel
theorem dX12_ropes_62 : decode cX12_ropes 62 = .ok (.aload_n 0, 1) := by decide +kernel
theorem dX12_ropes_63 : decode cX12_ropes 63 = .ok (.iconst 0, 1) := by decide +kernel
theorem dX12_ropes_64 : decode cX12_ropes 64 = .ok (.putfield 315, 3) := by decide +kernel
theorem dX12_ropes_67 : decode cX12_ropes 67 = .ok (.iload_n 2, 1) := by decide +kernel
theorem dX12_ropes_68 : decode cX12_ropes 68 = .ok (.ifCond .ne 10, 3) := by decide +kernel
theorem dX12_ropes_71 : decode cX12_ropes 71 = .ok (.aload_n 0, 1) := by decide +kernel
theorem dX12_ropes_72 : decode cX12_ropes 72 = .ok (.getfield 441, 3) := by decide +kernel
theorem dX12_ropes_75 : decode cX12_ropes 75 = .ok (.goto 4, 3) := by decide +kernel
theorem dX12_ropes_78 : decode cX12_ropes 78 = .ok (.iconst (-1), 1) := by decide +kernel
theorem dX12_ropes_79 : decode cX12_ropes 79 = .ok (.ireturn, 1) := by decide +kernel
theorem dX12_rule_0 : decode cX12_rule 0 = .ok (.aload_n 0, 1) := by decide +kernel
theorem dX12_rule_1 : decode cX12_rule 1 = .ok (.iconst 0, 1) := by decide +kernel
theorem dX12_rule_2 : decode cX12_rule 2 = .ok (.putfield 182, 3) := by decide +kernel
theorem dX12_rule_5 : decode cX12_rule 5 = .ok (.iload_n 1, 1) := by decide +kernel
theorem dX12_rule_6 : decode cX12_rule 6 = .ok (.iconst 0, 1) := by decide +kernel
theorem dX12_rule_7 : decode cX12_rule 7 = .ok (.bipush 13, 2) := by decide +kernel
theorem dX12_rule_9 : decode cX12_rule 9 = .ok (.invokestatic 185, 3) := by decide +kernel
theorem dX12_rule_12 : decode cX12_rule 12 = .ok (.ifCond .ne 5, 3) := by decide +kernel
theorem dX12_rule_15 : decode cX12_rule 15 = .ok (.iconst 0, 1) := by decide +kernel
theorem dX12_rule_16 : decode cX12_rule 16 = .ok (.ireturn, 1) := by decide +kernel
theorem dX12_rule_17 : decode cX12_rule 17 = .ok (.aload_n 0, 1) := by decide +kernel
theorem dX12_rule_18 : decode cX12_rule 18 = .ok (.iload_n 1, 1) := by decide +kernel
theorem dX12_rule_19 : decode cX12_rule 19 = .ok (.putfield 91, 3) := by decide +kernel
theorem dX12_rule_22 : decode cX12_rule 22 = .ok (.iconst 1, 1) := by decide +kernel
theorem dX12_rule_23 : decode cX12_rule 23 = .ok (.ireturn, 1) := by decide +kernel
theorem dX12_refused_0 : decode cX12_refused 0 = .ok (.iload_n 1, 1) := by decide +kernel
theorem dX12_refused_1 : decode cX12_refused 1 = .ok (.iconst 0, 1) := by decide +kernel
theorem dX12_refused_2 : decode cX12_refused 2 = .ok (.bipush 9, 2) := by decide +kernel
theorem dX12_refused_4 : decode cX12_refused 4 = .ok (.invokestatic 185, 3) := by decide +kernel
theorem dX12_refused_7 : decode cX12_refused 7 = .ok (.ifCond .eq 36, 3) := by decide +kernel
theorem dX12_refused_10 : decode cX12_refused 10 = .ok (.aload_n 0, 1) := by decide +kernel
theorem dX12_refused_11 : decode cX12_refused 11 = .ok (.iload_n 2, 1) := by decide +kernel
theorem dX12_refused_12 : decode cX12_refused 12 = .ok (.invokevirtual 321, 3) := by decide +kernel
theorem dX12_refused_15 : decode cX12_refused 15 = .ok (.ifCond .eq 28, 3) := by decide +kernel
theorem dX12_refused_18 : decode cX12_refused 18 = .ok (.iload_n 3, 1) := by decide +kernel
theorem dX12_refused_19 : decode cX12_refused 19 = .ok (.iconst 0, 1) := by decide +kernel
theorem dX12_refused_20 : decode cX12_refused 20 = .ok (.aload_n 0, 1) := by decide +kernel
theorem dX12_refused_21 : decode cX12_refused 21 = .ok (.getfield 312, 3) := by decide +kernel
theorem dX12_refused_24 : decode cX12_refused 24 = .ok (.iconst 1, 1) := by decide +kernel
theorem dX12_refused_25 : decode cX12_refused 25 = .ok (.isub, 1) := by decide +kernel
theorem dX12_refused_26 : decode cX12_refused 26 = .ok (.invokestatic 185, 3) := by decide +kernel
theorem dX12_refused_29 : decode cX12_refused 29 = .ok (.ifCond .eq 14, 3) := by decide +kernel
theorem dX12_refused_32 : decode cX12_refused 32 = .ok (.iload 4, 2) := by decide +kernel
theorem dX12_refused_34 : decode cX12_refused 34 = .ok (.iconst 0, 1) := by decide +kernel
theorem dX12_refused_35 : decode cX12_refused 35 = .ok (.bipush 29, 2) := by decide +kernel
theorem dX12_refused_37 : decode cX12_refused 37 = .ok (.invokestatic 185, 3) := by decide +kernel
theorem dX12_refused_40 : decode cX12_refused 40 = .ok (.ifCond .ne 5, 3) := by decide +kernel
theorem dX12_refused_43 : decode cX12_refused 43 = .ok (.iconst 1, 1) := by decide +kernel
theorem dX12_refused_44 : decode cX12_refused 44 = .ok (.ireturn, 1) := by decide +kernel
theorem dX12_refused_45 : decode cX12_refused 45 = .ok (.aload_n 0, 1) := by decide +kernel
theorem dX12_refused_46 : decode cX12_refused 46 = .ok (.getfield 41, 3) := by decide +kernel
theorem dX12_refused_49 : decode cX12_refused 49 = .ok (.iload 4, 2) := by decide +kernel
theorem dX12_refused_51 : decode cX12_refused 51 = .ok (.iaload, 1) := by decide +kernel
theorem dX12_refused_52 : decode cX12_refused 52 = .ok (.aload_n 0, 1) := by decide +kernel
theorem dX12_refused_53 : decode cX12_refused 53 = .ok (.getfield 91, 3) := by decide +kernel
theorem dX12_refused_56 : decode cX12_refused 56 = .ok (.if_icmp .le 5, 3) := by decide +kernel
theorem dX12_refused_59 : decode cX12_refused 59 = .ok (.iconst 2, 1) := by decide +kernel
theorem dX12_refused_60 : decode cX12_refused 60 = .ok (.ireturn, 1) := by decide +kernel
theorem dX12_refused_61 : decode cX12_refused 61 = .ok (.aload_n 0, 1) := by decide +kernel
theorem dX12_refused_62 : decode cX12_refused 62 = .ok (.iload_n 2, 1) := by decide +kernel
theorem dX12_refused_63 : decode cX12_refused 63 = .ok (.iload 4, 2) := by decide +kernel
theorem dX12_refused_65 : decode cX12_refused 65 = .ok (.invokevirtual 324, 3) := by decide +kernel
theorem dX12_refused_68 : decode cX12_refused 68 = .ok (.ifCond .eq 5, 3) := by decide +kernel
theorem dX12_refused_71 : decode cX12_refused 71 = .ok (.iconst 3, 1) := by decide +kernel
theorem dX12_refused_72 : decode cX12_refused 72 = .ok (.ireturn, 1) := by decide +kernel
theorem dX12_refused_73 : decode cX12_refused 73 = .ok (.iconst 0, 1) := by decide +kernel
theorem dX12_refused_74 : decode cX12_refused 74 = .ok (.istore 5, 2) := by decide +kernel
theorem dX12_refused_76 : decode cX12_refused 76 = .ok (.iload 5, 2) := by decide +kernel
theorem dX12_refused_78 : decode cX12_refused 78 = .ok (.aload_n 0, 1) := by decide +kernel
theorem dX12_refused_79 : decode cX12_refused 79 = .ok (.getfield 25, 3) := by decide +kernel
theorem dX12_refused_82 : decode cX12_refused 82 = .ok (.iconst 0, 1) := by decide +kernel
theorem dX12_refused_83 : decode cX12_refused 83 = .ok (.iaload, 1) := by decide +kernel
theorem dX12_refused_84 : decode cX12_refused 84 = .ok (.if_icmp .ge 32, 3) := by decide +kernel
theorem dX12_refused_87 : decode cX12_refused 87 = .ok (.aload_n 0, 1) := by decide +kernel
theorem dX12_refused_88 : decode cX12_refused 88 = .ok (.getfield 106, 3) := by decide +kernel
theorem dX12_refused_91 : decode cX12_refused 91 = .ok (.bipush 30, 2) := by decide +kernel
theorem dX12_refused_93 : decode cX12_refused 93 = .ok (.iload 5, 2) := by decide +kernel
theorem dX12_refused_95 : decode cX12_refused 95 = .ok (.imul, 1) := by decide +kernel
theorem dX12_refused_96 : decode cX12_refused 96 = .ok (.iload 4, 2) := by decide +kernel
theorem dX12_refused_98 : decode cX12_refused 98 = .ok (.iadd, 1) := by decide +kernel
theorem dX12_refused_99 : decode cX12_refused 99 = .ok (.iaload, 1) := by decide +kernel
theorem dX12_refused_100 : decode cX12_refused 100 = .ok (.iload_n 1, 1) := by decide +kernel
theorem dX12_refused_101 : decode cX12_refused 101 = .ok (.ishr, 1) := by decide +kernel
theorem dX12_refused_102 : decode cX12_refused 102 = .ok (.iconst 1, 1) := by decide +kernel
theorem dX12_refused_103 : decode cX12_refused 103 = .ok (.iand, 1) := by decide +kernel
theorem dX12_refused_104 : decode cX12_refused 104 = .ok (.iconst 1, 1) := by decide +kernel
theorem dX12_refused_105 : decode cX12_refused 105 = .ok (.if_icmp .ne 5, 3) := by decide +kernel
theorem dX12_refused_108 : decode cX12_refused 108 = .ok (.iconst 4, 1) := by decide +kernel
theorem dX12_refused_109 : decode cX12_refused 109 = .ok (.ireturn, 1) := by decide +kernel
theorem dX12_refused_110 : decode cX12_refused 110 = .ok (.iinc 5 1, 3) := by decide +kernel
theorem dX12_refused_113 : decode cX12_refused 113 = .ok (.goto (-37), 3) := by decide +kernel
theorem dX12_refused_116 : decode cX12_refused 116 = .ok (.iload_n 1, 1) := by decide +kernel
theorem dX12_refused_117 : decode cX12_refused 117 = .ok (.iconst 5, 1) := by decide +kernel
theorem dX12_refused_118 : decode cX12_refused 118 = .ok (.if_icmp .lt 23, 3) := by decide +kernel
theorem dX12_refused_121 : decode cX12_refused 121 = .ok (.aload_n 0, 1) := by decide +kernel
theorem dX12_refused_122 : decode cX12_refused 122 = .ok (.getfield 106, 3) := by decide +kernel
theorem dX12_refused_125 : decode cX12_refused 125 = .ok (.bipush 30, 2) := by decide +kernel
theorem dX12_refused_127 : decode cX12_refused 127 = .ok (.iload_n 2, 1) := by decide +kernel
theorem dX12_refused_128 : decode cX12_refused 128 = .ok (.imul, 1) := by decide +kernel
theorem dX12_refused_129 : decode cX12_refused 129 = .ok (.iload 4, 2) := by decide +kernel
theorem dX12_refused_131 : decode cX12_refused 131 = .ok (.iadd, 1) := by decide +kernel
theorem dX12_refused_132 : decode cX12_refused 132 = .ok (.iaload, 1) := by decide +kernel
theorem dX12_refused_133 : decode cX12_refused 133 = .ok (.bipush 31, 2) := by decide +kernel
theorem dX12_refused_135 : decode cX12_refused 135 = .ok (.iand, 1) := by decide +kernel
theorem dX12_refused_136 : decode cX12_refused 136 = .ok (.ifCond .ne 5, 3) := by decide +kernel
theorem dX12_refused_139 : decode cX12_refused 139 = .ok (.iconst 5, 1) := by decide +kernel
theorem dX12_refused_140 : decode cX12_refused 140 = .ok (.ireturn, 1) := by decide +kernel
theorem dX12_refused_141 : decode cX12_refused 141 = .ok (.aload_n 0, 1) := by decide +kernel
theorem dX12_refused_142 : decode cX12_refused 142 = .ok (.getfield 94, 3) := by decide +kernel
theorem dX12_refused_145 : decode cX12_refused 145 = .ok (.iload_n 3, 1) := by decide +kernel
theorem dX12_refused_146 : decode cX12_refused 146 = .ok (.iaload, 1) := by decide +kernel
theorem dX12_refused_147 : decode cX12_refused 147 = .ok (.aload_n 0, 1) := by decide +kernel
theorem dX12_refused_148 : decode cX12_refused 148 = .ok (.getfield 38, 3) := by decide +kernel
theorem dX12_refused_151 : decode cX12_refused 151 = .ok (.iload_n 2, 1) := by decide +kernel
theorem dX12_refused_152 : decode cX12_refused 152 = .ok (.iaload, 1) := by decide +kernel
theorem dX12_refused_153 : decode cX12_refused 153 = .ok (.if_icmp .ge 8, 3) := by decide +kernel
theorem dX12_refused_156 : decode cX12_refused 156 = .ok (.bipush 6, 2) := by decide +kernel
theorem dX12_refused_158 : decode cX12_refused 158 = .ok (.goto 4, 3) := by decide +kernel
theorem dX12_refused_161 : decode cX12_refused 161 = .ok (.iconst 0, 1) := by decide +kernel
theorem dX12_refused_162 : decode cX12_refused 162 = .ok (.ireturn, 1) := by decide +kernel
theorem dX12_climb_0 : decode cX12_climb 0 = .ok (.aload_n 0, 1) := by decide +kernel
theorem dX12_climb_1 : decode cX12_climb 1 = .ok (.iconst 0, 1) := by decide +kernel
theorem dX12_climb_2 : decode cX12_climb 2 = .ok (.putfield 182, 3) := by decide +kernel
theorem dX12_climb_5 : decode cX12_climb 5 = .ok (.aload_n 0, 1) := by decide +kernel
theorem dX12_climb_6 : decode cX12_climb 6 = .ok (.iload_n 1, 1) := by decide +kernel
theorem dX12_climb_7 : decode cX12_climb 7 = .ok (.iload_n 2, 1) := by decide +kernel
theorem dX12_climb_8 : decode cX12_climb 8 = .ok (.iload_n 3, 1) := by decide +kernel
theorem dX12_climb_9 : decode cX12_climb 9 = .ok (.iload 4, 2) := by decide +kernel
theorem dX12_climb_11 : decode cX12_climb 11 = .ok (.invokevirtual 448, 3) := by decide +kernel
theorem dX12_climb_14 : decode cX12_climb 14 = .ok (.istore 5, 2) := by decide +kernel
theorem dX12_climb_16 : decode cX12_climb 16 = .ok (.aload_n 0, 1) := by decide +kernel
theorem dX12_climb_17 : decode cX12_climb 17 = .ok (.getfield 103, 3) := by decide +kernel
theorem dX12_climb_20 : decode cX12_climb 20 = .ok (.iload 5, 2) := by decide +kernel
theorem dX12_climb_22 : decode cX12_climb 22 = .ok (.dup2, 1) := by decide +kernel
theorem dX12_climb_23 : decode cX12_climb 23 = .ok (.iaload, 1) := by decide +kernel
theorem dX12_climb_24 : decode cX12_climb 24 = .ok (.iconst 1, 1) := by decide +kernel
theorem dX12_climb_25 : decode cX12_climb 25 = .ok (.iadd, 1) := by decide +kernel
theorem dX12_climb_26 : decode cX12_climb 26 = .ok (.iastore, 1) := by decide +kernel
theorem dX12_climb_27 : decode cX12_climb 27 = .ok (.iload 5, 2) := by decide +kernel
theorem dX12_climb_29 : decode cX12_climb 29 = .ok (.ifCond .ne 45, 3) := by decide +kernel
theorem dX12_climb_32 : decode cX12_climb 32 = .ok (.aload_n 0, 1) := by decide +kernel
theorem dX12_climb_33 : decode cX12_climb 33 = .ok (.getfield 106, 3) := by decide +kernel
theorem dX12_climb_36 : decode cX12_climb 36 = .ok (.bipush 30, 2) := by decide +kernel
theorem dX12_climb_38 : decode cX12_climb 38 = .ok (.iload_n 2, 1) := by decide +kernel
theorem dX12_climb_39 : decode cX12_climb 39 = .ok (.imul, 1) := by decide +kernel
theorem dX12_climb_40 : decode cX12_climb 40 = .ok (.iload 4, 2) := by decide +kernel
theorem dX12_climb_42 : decode cX12_climb 42 = .ok (.iadd, 1) := by decide +kernel
theorem dX12_climb_43 : decode cX12_climb 43 = .ok (.dup2, 1) := by decide +kernel
theorem dX12_climb_44 : decode cX12_climb 44 = .ok (.iaload, 1) := by decide +kernel
theorem dX12_climb_45 : decode cX12_climb 45 = .ok (.iconst 1, 1) := by decide +kernel
theorem dX12_climb_46 : decode cX12_climb 46 = .ok (.iload_n 1, 1) := by decide +kernel
theorem dX12_climb_47 : decode cX12_climb 47 = .ok (.ishl, 1) := by decide +kernel
theorem dX12_climb_48 : decode cX12_climb 48 = .ok (.ior, 1) := by decide +kernel
theorem dX12_climb_49 : decode cX12_climb 49 = .ok (.iastore, 1) := by decide +kernel
theorem dX12_climb_50 : decode cX12_climb 50 = .ok (.aload_n 0, 1) := by decide +kernel
theorem dX12_climb_51 : decode cX12_climb 51 = .ok (.getfield 94, 3) := by decide +kernel
theorem dX12_climb_54 : decode cX12_climb 54 = .ok (.iload_n 3, 1) := by decide +kernel
theorem dX12_climb_55 : decode cX12_climb 55 = .ok (.dup2, 1) := by decide +kernel
theorem dX12_climb_56 : decode cX12_climb 56 = .ok (.iaload, 1) := by decide +kernel
theorem dX12_climb_57 : decode cX12_climb 57 = .ok (.aload_n 0, 1) := by decide +kernel
theorem dX12_climb_58 : decode cX12_climb 58 = .ok (.getfield 38, 3) := by decide +kernel
theorem dX12_climb_61 : decode cX12_climb 61 = .ok (.iload_n 2, 1) := by decide +kernel
theorem dX12_climb_62 : decode cX12_climb 62 = .ok (.iaload, 1) := by decide +kernel
theorem dX12_climb_63 : decode cX12_climb 63 = .ok (.isub, 1) := by decide +kernel
theorem dX12_climb_64 : decode cX12_climb 64 = .ok (.iastore, 1) := by decide +kernel
theorem dX12_climb_65 : decode cX12_climb 65 = .ok (.aload_n 0, 1) := by decide +kernel
theorem dX12_climb_66 : decode cX12_climb 66 = .ok (.iload_n 1, 1) := by decide +kernel
theorem dX12_climb_67 : decode cX12_climb 67 = .ok (.iload_n 2, 1) := by decide +kernel
theorem dX12_climb_68 : decode cX12_climb 68 = .ok (.iload_n 3, 1) := by decide +kernel
theorem dX12_climb_69 : decode cX12_climb 69 = .ok (.iload 4, 2) := by decide +kernel
theorem dX12_climb_71 : decode cX12_climb 71 = .ok (.invokevirtual 451, 3) := by decide +kernel
theorem dX12_climb_74 : decode cX12_climb 74 = .ok (.iload 5, 2) := by decide +kernel
theorem dX12_climb_76 : decode cX12_climb 76 = .ok (.ireturn, 1) := by decide +kernel
theorem dX12_write_0 : decode cX12_write 0 = .ok (.aload_n 0, 1) := by decide +kernel
theorem dX12_write_1 : decode cX12_write 1 = .ok (.getfield 305, 3) := by decide +kernel
theorem dX12_write_4 : decode cX12_write 4 = .ok (.bipush 50, 2) := by decide +kernel
theorem dX12_write_6 : decode cX12_write 6 = .ok (.if_icmp .ne 46, 3) := by decide +kernel
theorem dX12_write_9 : decode cX12_write 9 = .ok (.iconst 0, 1) := by decide +kernel
theorem dX12_write_10 : decode cX12_write 10 = .ok (.istore 5, 2) := by decide +kernel
theorem dX12_write_12 : decode cX12_write 12 = .ok (.iload 5, 2) := by decide +kernel
theorem dX12_write_14 : decode cX12_write 14 = .ok (.sipush 196, 3) := by decide +kernel
theorem dX12_write_17 : decode cX12_write 17 = .ok (.if_icmp .ge 25, 3) := by decide +kernel
theorem dX12_write_20 : decode cX12_write 20 = .ok (.aload_n 0, 1) := by decide +kernel
theorem dX12_write_21 : decode cX12_write 21 = .ok (.getfield 109, 3) := by decide +kernel
theorem dX12_write_24 : decode cX12_write 24 = .ok (.iload 5, 2) := by decide +kernel
theorem dX12_write_26 : decode cX12_write 26 = .ok (.aload_n 0, 1) := by decide +kernel
theorem dX12_write_27 : decode cX12_write 27 = .ok (.getfield 109, 3) := by decide +kernel
theorem dX12_write_30 : decode cX12_write 30 = .ok (.iload 5, 2) := by decide +kernel
theorem dX12_write_32 : decode cX12_write 32 = .ok (.iconst 4, 1) := by decide +kernel
theorem dX12_write_33 : decode cX12_write 33 = .ok (.iadd, 1) := by decide +kernel
theorem dX12_write_34 : decode cX12_write 34 = .ok (.iaload, 1) := by decide +kernel
theorem dX12_write_35 : decode cX12_write 35 = .ok (.iastore, 1) := by decide +kernel
theorem dX12_write_36 : decode cX12_write 36 = .ok (.iinc 5 1, 3) := by decide +kernel
theorem dX12_write_39 : decode cX12_write 39 = .ok (.goto (-27), 3) := by decide +kernel
theorem dX12_write_42 : decode cX12_write 42 = .ok (.aload_n 0, 1) := by decide +kernel
theorem dX12_write_43 : decode cX12_write 43 = .ok (.dup, 1) := by decide +kernel
theorem dX12_write_44 : decode cX12_write 44 = .ok (.getfield 305, 3) := by decide +kernel
theorem dX12_write_47 : decode cX12_write 47 = .ok (.iconst 1, 1) := by decide +kernel
theorem dX12_write_48 : decode cX12_write 48 = .ok (.isub, 1) := by decide +kernel
theorem dX12_write_49 : decode cX12_write 49 = .ok (.putfield 305, 3) := by decide +kernel
theorem dX12_write_52 : decode cX12_write 52 = .ok (.aload_n 0, 1) := by decide +kernel
theorem dX12_write_53 : decode cX12_write 53 = .ok (.getfield 109, 3) := by decide +kernel
theorem dX12_write_56 : decode cX12_write 56 = .ok (.iconst 4, 1) := by decide +kernel
theorem dX12_write_57 : decode cX12_write 57 = .ok (.aload_n 0, 1) := by decide +kernel
theorem dX12_write_58 : decode cX12_write 58 = .ok (.getfield 305, 3) := by decide +kernel
theorem dX12_write_61 : decode cX12_write 61 = .ok (.imul, 1) := by decide +kernel
theorem dX12_write_62 : decode cX12_write 62 = .ok (.iload_n 1, 1) := by decide +kernel
theorem dX12_write_63 : decode cX12_write 63 = .ok (.iastore, 1) := by decide +kernel
theorem dX12_write_64 : decode cX12_write 64 = .ok (.aload_n 0, 1) := by decide +kernel
theorem dX12_write_65 : decode cX12_write 65 = .ok (.getfield 109, 3) := by decide +kernel
theorem dX12_write_68 : decode cX12_write 68 = .ok (.iconst 4, 1) := by decide +kernel
theorem dX12_write_69 : decode cX12_write 69 = .ok (.aload_n 0, 1) := by decide +kernel
theorem dX12_write_70 : decode cX12_write 70 = .ok (.getfield 305, 3) := by decide +kernel
theorem dX12_write_73 : decode cX12_write 73 = .ok (.imul, 1) := by decide +kernel
theorem dX12_write_74 : decode cX12_write 74 = .ok (.iconst 1, 1) := by decide +kernel
theorem dX12_write_75 : decode cX12_write 75 = .ok (.iadd, 1) := by decide +kernel
theorem dX12_write_76 : decode cX12_write 76 = .ok (.iload_n 2, 1) := by decide +kernel
theorem dX12_write_77 : decode cX12_write 77 = .ok (.iastore, 1) := by decide +kernel
theorem dX12_write_78 : decode cX12_write 78 = .ok (.aload_n 0, 1) := by decide +kernel
theorem dX12_write_79 : decode cX12_write 79 = .ok (.getfield 109, 3) := by decide +kernel
theorem dX12_write_82 : decode cX12_write 82 = .ok (.iconst 4, 1) := by decide +kernel
theorem dX12_write_83 : decode cX12_write 83 = .ok (.aload_n 0, 1) := by decide +kernel
theorem dX12_write_84 : decode cX12_write 84 = .ok (.getfield 305, 3) := by decide +kernel
theorem dX12_write_87 : decode cX12_write 87 = .ok (.imul, 1) := by decide +kernel
theorem dX12_write_88 : decode cX12_write 88 = .ok (.iconst 2, 1) := by decide +kernel
theorem dX12_write_89 : decode cX12_write 89 = .ok (.iadd, 1) := by decide +kernel
theorem dX12_write_90 : decode cX12_write 90 = .ok (.iload_n 3, 1) := by decide +kernel
theorem dX12_write_91 : decode cX12_write 91 = .ok (.iastore, 1) := by decide +kernel
theorem dX12_write_92 : decode cX12_write 92 = .ok (.aload_n 0, 1) := by decide +kernel
theorem dX12_write_93 : decode cX12_write 93 = .ok (.getfield 109, 3) := by decide +kernel
theorem dX12_write_96 : decode cX12_write 96 = .ok (.iconst 4, 1) := by decide +kernel
theorem dX12_write_97 : decode cX12_write 97 = .ok (.aload_n 0, 1) := by decide +kernel
theorem dX12_write_98 : decode cX12_write 98 = .ok (.getfield 305, 3) := by decide +kernel
theorem dX12_write_101 : decode cX12_write 101 = .ok (.imul, 1) := by decide +kernel
theorem dX12_write_102 : decode cX12_write 102 = .ok (.iconst 3, 1) := by decide +kernel
theorem dX12_write_103 : decode cX12_write 103 = .ok (.iadd, 1) := by decide +kernel
theorem dX12_write_104 : decode cX12_write 104 = .ok (.iload 4, 2) := by decide +kernel
theorem dX12_write_106 : decode cX12_write 106 = .ok (.iastore, 1) := by decide +kernel
theorem dX12_write_107 : decode cX12_write 107 = .ok (.aload_n 0, 1) := by decide +kernel
theorem dX12_write_108 : decode cX12_write 108 = .ok (.dup, 1) := by decide +kernel
theorem dX12_write_109 : decode cX12_write 109 = .ok (.getfield 305, 3) := by decide +kernel
theorem dX12_write_112 : decode cX12_write 112 = .ok (.iconst 1, 1) := by decide +kernel
theorem dX12_write_113 : decode cX12_write 113 = .ok (.iadd, 1) := by decide +kernel
theorem dX12_write_114 : decode cX12_write 114 = .ok (.putfield 305, 3) := by decide +kernel
theorem dX12_write_117 : decode cX12_write 117 = .ok (.return_, 1) := by decide +kernel
theorem dX12_back_0 : decode cX12_back 0 = .ok (.aload_n 0, 1) := by decide +kernel
theorem dX12_back_1 : decode cX12_back 1 = .ok (.iconst 0, 1) := by decide +kernel
theorem dX12_back_2 : decode cX12_back 2 = .ok (.putfield 182, 3) := by decide +kernel
theorem dX12_back_5 : decode cX12_back 5 = .ok (.aload_n 0, 1) := by decide +kernel
theorem dX12_back_6 : decode cX12_back 6 = .ok (.getfield 305, 3) := by decide +kernel
theorem dX12_back_9 : decode cX12_back 9 = .ok (.ifCond .ne 5, 3) := by decide +kernel
theorem dX12_back_12 : decode cX12_back 12 = .ok (.iconst (-1), 1) := by decide +kernel
theorem dX12_back_13 : decode cX12_back 13 = .ok (.ireturn, 1) := by decide +kernel
theorem dX12_back_14 : decode cX12_back 14 = .ok (.aload_n 0, 1) := by decide +kernel
theorem dX12_back_15 : decode cX12_back 15 = .ok (.dup, 1) := by decide +kernel
theorem dX12_back_16 : decode cX12_back 16 = .ok (.getfield 305, 3) := by decide +kernel
theorem dX12_back_19 : decode cX12_back 19 = .ok (.iconst 1, 1) := by decide +kernel
theorem dX12_back_20 : decode cX12_back 20 = .ok (.isub, 1) := by decide +kernel
theorem dX12_back_21 : decode cX12_back 21 = .ok (.putfield 305, 3) := by decide +kernel
theorem dX12_back_24 : decode cX12_back 24 = .ok (.aload_n 0, 1) := by decide +kernel
theorem dX12_back_25 : decode cX12_back 25 = .ok (.getfield 109, 3) := by decide +kernel
theorem dX12_back_28 : decode cX12_back 28 = .ok (.iconst 4, 1) := by decide +kernel
theorem dX12_back_29 : decode cX12_back 29 = .ok (.aload_n 0, 1) := by decide +kernel
theorem dX12_back_30 : decode cX12_back 30 = .ok (.getfield 305, 3) := by decide +kernel
theorem dX12_back_33 : decode cX12_back 33 = .ok (.imul, 1) := by decide +kernel
theorem dX12_back_34 : decode cX12_back 34 = .ok (.iaload, 1) := by decide +kernel
theorem dX12_back_35 : decode cX12_back 35 = .ok (.istore_n 1, 1) := by decide +kernel
theorem dX12_back_36 : decode cX12_back 36 = .ok (.aload_n 0, 1) := by decide +kernel
theorem dX12_back_37 : decode cX12_back 37 = .ok (.getfield 109, 3) := by decide +kernel
theorem dX12_back_40 : decode cX12_back 40 = .ok (.iconst 4, 1) := by decide +kernel
theorem dX12_back_41 : decode cX12_back 41 = .ok (.aload_n 0, 1) := by decide +kernel
theorem dX12_back_42 : decode cX12_back 42 = .ok (.getfield 305, 3) := by decide +kernel
theorem dX12_back_45 : decode cX12_back 45 = .ok (.imul, 1) := by decide +kernel
theorem dX12_back_46 : decode cX12_back 46 = .ok (.iconst 1, 1) := by decide +kernel
theorem dX12_back_47 : decode cX12_back 47 = .ok (.iadd, 1) := by decide +kernel
theorem dX12_back_48 : decode cX12_back 48 = .ok (.iaload, 1) := by decide +kernel
theorem dX12_back_49 : decode cX12_back 49 = .ok (.istore_n 2, 1) := by decide +kernel
theorem dX12_back_50 : decode cX12_back 50 = .ok (.aload_n 0, 1) := by decide +kernel
theorem dX12_back_51 : decode cX12_back 51 = .ok (.getfield 106, 3) := by decide +kernel
theorem dX12_back_54 : decode cX12_back 54 = .ok (.bipush 30, 2) := by decide +kernel
theorem dX12_back_56 : decode cX12_back 56 = .ok (.iload_n 2, 1) := by decide +kernel
theorem dX12_back_57 : decode cX12_back 57 = .ok (.imul, 1) := by decide +kernel
theorem dX12_back_58 : decode cX12_back 58 = .ok (.aload_n 0, 1) := by decide +kernel
theorem dX12_back_59 : decode cX12_back 59 = .ok (.getfield 109, 3) := by decide +kernel
theorem dX12_back_62 : decode cX12_back 62 = .ok (.iconst 4, 1) := by decide +kernel
theorem dX12_back_63 : decode cX12_back 63 = .ok (.aload_n 0, 1) := by decide +kernel
theorem dX12_back_64 : decode cX12_back 64 = .ok (.getfield 305, 3) := by decide +kernel
theorem dX12_back_67 : decode cX12_back 67 = .ok (.imul, 1) := by decide +kernel
theorem dX12_back_68 : decode cX12_back 68 = .ok (.iconst 3, 1) := by decide +kernel
theorem dX12_back_69 : decode cX12_back 69 = .ok (.iadd, 1) := by decide +kernel
theorem dX12_back_70 : decode cX12_back 70 = .ok (.iaload, 1) := by decide +kernel
theorem dX12_back_71 : decode cX12_back 71 = .ok (.iadd, 1) := by decide +kernel
theorem dX12_back_72 : decode cX12_back 72 = .ok (.dup2, 1) := by decide +kernel
theorem dX12_back_73 : decode cX12_back 73 = .ok (.iaload, 1) := by decide +kernel
theorem dX12_back_74 : decode cX12_back 74 = .ok (.iconst 1, 1) := by decide +kernel
theorem dX12_back_75 : decode cX12_back 75 = .ok (.iload_n 1, 1) := by decide +kernel
theorem dX12_back_76 : decode cX12_back 76 = .ok (.ishl, 1) := by decide +kernel
theorem dX12_back_77 : decode cX12_back 77 = .ok (.iconst (-1), 1) := by decide +kernel
theorem dX12_back_78 : decode cX12_back 78 = .ok (.ixor, 1) := by decide +kernel
theorem dX12_back_79 : decode cX12_back 79 = .ok (.iand, 1) := by decide +kernel
theorem dX12_back_80 : decode cX12_back 80 = .ok (.iastore, 1) := by decide +kernel
theorem dX12_back_81 : decode cX12_back 81 = .ok (.aload_n 0, 1) := by decide +kernel
theorem dX12_back_82 : decode cX12_back 82 = .ok (.getfield 94, 3) := by decide +kernel
theorem dX12_back_85 : decode cX12_back 85 = .ok (.aload_n 0, 1) := by decide +kernel
theorem dX12_back_86 : decode cX12_back 86 = .ok (.getfield 109, 3) := by decide +kernel
theorem dX12_back_89 : decode cX12_back 89 = .ok (.iconst 4, 1) := by decide +kernel
theorem dX12_back_90 : decode cX12_back 90 = .ok (.aload_n 0, 1) := by decide +kernel
theorem dX12_back_91 : decode cX12_back 91 = .ok (.getfield 305, 3) := by decide +kernel
theorem dX12_back_94 : decode cX12_back 94 = .ok (.imul, 1) := by decide +kernel
theorem dX12_back_95 : decode cX12_back 95 = .ok (.iconst 2, 1) := by decide +kernel
theorem dX12_back_96 : decode cX12_back 96 = .ok (.iadd, 1) := by decide +kernel
theorem dX12_back_97 : decode cX12_back 97 = .ok (.iaload, 1) := by decide +kernel
theorem dX12_back_98 : decode cX12_back 98 = .ok (.dup2, 1) := by decide +kernel
theorem dX12_back_99 : decode cX12_back 99 = .ok (.iaload, 1) := by decide +kernel
theorem dX12_back_100 : decode cX12_back 100 = .ok (.aload_n 0, 1) := by decide +kernel
theorem dX12_back_101 : decode cX12_back 101 = .ok (.getfield 38, 3) := by decide +kernel
theorem dX12_back_104 : decode cX12_back 104 = .ok (.iload_n 2, 1) := by decide +kernel
theorem dX12_back_105 : decode cX12_back 105 = .ok (.iaload, 1) := by decide +kernel
theorem dX12_back_106 : decode cX12_back 106 = .ok (.iadd, 1) := by decide +kernel
theorem dX12_back_107 : decode cX12_back 107 = .ok (.iastore, 1) := by decide +kernel
theorem dX12_back_108 : decode cX12_back 108 = .ok (.aload_n 0, 1) := by decide +kernel
theorem dX12_back_109 : decode cX12_back 109 = .ok (.getfield 103, 3) := by decide +kernel
theorem dX12_back_112 : decode cX12_back 112 = .ok (.iconst 0, 1) := by decide +kernel
theorem dX12_back_113 : decode cX12_back 113 = .ok (.dup2, 1) := by decide +kernel
theorem dX12_back_114 : decode cX12_back 114 = .ok (.iaload, 1) := by decide +kernel
theorem dX12_back_115 : decode cX12_back 115 = .ok (.iconst 1, 1) := by decide +kernel
theorem dX12_back_116 : decode cX12_back 116 = .ok (.isub, 1) := by decide +kernel
theorem dX12_back_117 : decode cX12_back 117 = .ok (.iastore, 1) := by decide +kernel
theorem dX12_back_118 : decode cX12_back 118 = .ok (.iload_n 1, 1) := by decide +kernel
theorem dX12_back_119 : decode cX12_back 119 = .ok (.ireturn, 1) := by decide +kernel
theorem dX12_be_0 : decode cX12_be 0 = .ok (.iconst 0, 1) := by decide +kernel
theorem dX12_be_1 : decode cX12_be 1 = .ok (.istore_n 2, 1) := by decide +kernel
theorem dX12_be_2 : decode cX12_be 2 = .ok (.iload_n 2, 1) := by decide +kernel
theorem dX12_be_3 : decode cX12_be 3 = .ok (.aload_n 0, 1) := by decide +kernel
theorem dX12_be_4 : decode cX12_be 4 = .ok (.arraylength, 1) := by decide +kernel
theorem dX12_be_5 : decode cX12_be 5 = .ok (.if_icmp .ge 15, 3) := by decide +kernel
theorem dX12_be_8 : decode cX12_be 8 = .ok (.aload_n 0, 1) := by decide +kernel
theorem dX12_be_9 : decode cX12_be 9 = .ok (.iload_n 2, 1) := by decide +kernel
theorem dX12_be_10 : decode cX12_be 10 = .ok (.aload_n 1, 1) := by decide +kernel
theorem dX12_be_11 : decode cX12_be 11 = .ok (.iload_n 2, 1) := by decide +kernel
theorem dX12_be_12 : decode cX12_be 12 = .ok (.iaload, 1) := by decide +kernel
theorem dX12_be_13 : decode cX12_be 13 = .ok (.iastore, 1) := by decide +kernel
theorem dX12_be_14 : decode cX12_be 14 = .ok (.iinc 2 1, 3) := by decide +kernel
theorem dX12_be_17 : decode cX12_be 17 = .ok (.goto (-15), 3) := by decide +kernel
theorem dX12_be_20 : decode cX12_be 20 = .ok (.return_, 1) := by decide +kernel
theorem dX12_image_0 : decode cX12_image 0 = .ok (.aload_n 0, 1) := by decide +kernel
theorem dX12_image_1 : decode cX12_image 1 = .ok (.iconst 0, 1) := by decide +kernel
theorem dX12_image_2 : decode cX12_image 2 = .ok (.putfield 182, 3) := by decide +kernel
theorem dX12_image_5 : decode cX12_image 5 = .ok (.aload_n 0, 1) := by decide +kernel
theorem dX12_image_6 : decode cX12_image 6 = .ok (.iconst 1, 1) := by decide +kernel
theorem dX12_image_7 : decode cX12_image 7 = .ok (.putfield 308, 3) := by decide +kernel
theorem dX12_image_10 : decode cX12_image 10 = .ok (.aload_n 0, 1) := by decide +kernel
theorem dX12_image_11 : decode cX12_image 11 = .ok (.aload_n 0, 1) := by decide +kernel
theorem dX12_image_12 : decode cX12_image 12 = .ok (.getfield 312, 3) := by decide +kernel
theorem dX12_image_15 : decode cX12_image 15 = .ok (.putfield 454, 3) := by decide +kernel
theorem dX12_image_18 : decode cX12_image 18 = .ok (.aload_n 0, 1) := by decide +kernel
theorem dX12_image_19 : decode cX12_image 19 = .ok (.aload_n 0, 1) := by decide +kernel
theorem dX12_image_20 : decode cX12_image 20 = .ok (.getfield 91, 3) := by decide +kernel
theorem dX12_image_23 : decode cX12_image 23 = .ok (.putfield 457, 3) := by decide +kernel
theorem dX12_image_26 : decode cX12_image 26 = .ok (.aload_n 0, 1) := by decide +kernel
theorem dX12_image_27 : decode cX12_image 27 = .ok (.aload_n 0, 1) := by decide +kernel
theorem dX12_image_28 : decode cX12_image 28 = .ok (.getfield 305, 3) := by decide +kernel
theorem dX12_image_31 : decode cX12_image 31 = .ok (.putfield 460, 3) := by decide +kernel
theorem dX12_image_34 : decode cX12_image 34 = .ok (.aload_n 0, 1) := by decide +kernel
theorem dX12_image_35 : decode cX12_image 35 = .ok (.getfield 112, 3) := by decide +kernel
theorem dX12_image_38 : decode cX12_image 38 = .ok (.aload_n 0, 1) := by decide +kernel
theorem dX12_image_39 : decode cX12_image 39 = .ok (.getfield 94, 3) := by decide +kernel
theorem dX12_image_42 : decode cX12_image 42 = .ok (.invokestatic 463, 3) := by decide +kernel
theorem dX12_image_45 : decode cX12_image 45 = .ok (.aload_n 0, 1) := by decide +kernel
theorem dX12_image_46 : decode cX12_image 46 = .ok (.getfield 115, 3) := by decide +kernel
theorem dX12_image_49 : decode cX12_image 49 = .ok (.aload_n 0, 1) := by decide +kernel
theorem dX12_image_50 : decode cX12_image 50 = .ok (.getfield 106, 3) := by decide +kernel
theorem dX12_image_53 : decode cX12_image 53 = .ok (.invokestatic 463, 3) := by decide +kernel
theorem dX12_image_56 : decode cX12_image 56 = .ok (.aload_n 0, 1) := by decide +kernel
theorem dX12_image_57 : decode cX12_image 57 = .ok (.getfield 118, 3) := by decide +kernel
theorem dX12_image_60 : decode cX12_image 60 = .ok (.aload_n 0, 1) := by decide +kernel
theorem dX12_image_61 : decode cX12_image 61 = .ok (.getfield 103, 3) := by decide +kernel
theorem dX12_image_64 : decode cX12_image 64 = .ok (.invokestatic 463, 3) := by decide +kernel
theorem dX12_image_67 : decode cX12_image 67 = .ok (.aload_n 0, 1) := by decide +kernel
theorem dX12_image_68 : decode cX12_image 68 = .ok (.getfield 121, 3) := by decide +kernel
theorem dX12_image_71 : decode cX12_image 71 = .ok (.aload_n 0, 1) := by decide +kernel
theorem dX12_image_72 : decode cX12_image 72 = .ok (.getfield 109, 3) := by decide +kernel
theorem dX12_image_75 : decode cX12_image 75 = .ok (.invokestatic 463, 3) := by decide +kernel
theorem dX12_image_78 : decode cX12_image 78 = .ok (.return_, 1) := by decide +kernel
theorem dX12_restore_0 : decode cX12_restore 0 = .ok (.aload_n 0, 1) := by decide +kernel
theorem dX12_restore_1 : decode cX12_restore 1 = .ok (.iconst 0, 1) := by decide +kernel
theorem dX12_restore_2 : decode cX12_restore 2 = .ok (.putfield 182, 3) := by decide +kernel
theorem dX12_restore_5 : decode cX12_restore 5 = .ok (.aload_n 0, 1) := by decide +kernel
theorem dX12_restore_6 : decode cX12_restore 6 = .ok (.getfield 308, 3) := by decide +kernel
theorem dX12_restore_9 : decode cX12_restore 9 = .ok (.ifCond .ne 5, 3) := by decide +kernel
theorem dX12_restore_12 : decode cX12_restore 12 = .ok (.iconst 0, 1) := by decide +kernel
theorem dX12_restore_13 : decode cX12_restore 13 = .ok (.ireturn, 1) := by decide +kernel
theorem dX12_restore_14 : decode cX12_restore 14 = .ok (.aload_n 0, 1) := by decide +kernel
theorem dX12_restore_15 : decode cX12_restore 15 = .ok (.aload_n 0, 1) := by decide +kernel
theorem dX12_restore_16 : decode cX12_restore 16 = .ok (.getfield 454, 3) := by decide +kernel
theorem dX12_restore_19 : decode cX12_restore 19 = .ok (.putfield 312, 3) := by decide +kernel
theorem dX12_restore_22 : decode cX12_restore 22 = .ok (.aload_n 0, 1) := by decide +kernel
theorem dX12_restore_23 : decode cX12_restore 23 = .ok (.aload_n 0, 1) := by decide +kernel
theorem dX12_restore_24 : decode cX12_restore 24 = .ok (.getfield 457, 3) := by decide +kernel
theorem dX12_restore_27 : decode cX12_restore 27 = .ok (.putfield 91, 3) := by decide +kernel
theorem dX12_restore_30 : decode cX12_restore 30 = .ok (.aload_n 0, 1) := by decide +kernel
theorem dX12_restore_31 : decode cX12_restore 31 = .ok (.aload_n 0, 1) := by decide +kernel
theorem dX12_restore_32 : decode cX12_restore 32 = .ok (.getfield 460, 3) := by decide +kernel
theorem dX12_restore_35 : decode cX12_restore 35 = .ok (.putfield 305, 3) := by decide +kernel
theorem dX12_restore_38 : decode cX12_restore 38 = .ok (.aload_n 0, 1) := by decide +kernel
theorem dX12_restore_39 : decode cX12_restore 39 = .ok (.getfield 94, 3) := by decide +kernel
theorem dX12_restore_42 : decode cX12_restore 42 = .ok (.aload_n 0, 1) := by decide +kernel
theorem dX12_restore_43 : decode cX12_restore 43 = .ok (.getfield 112, 3) := by decide +kernel
theorem dX12_restore_46 : decode cX12_restore 46 = .ok (.invokestatic 463, 3) := by decide +kernel
theorem dX12_restore_49 : decode cX12_restore 49 = .ok (.aload_n 0, 1) := by decide +kernel
theorem dX12_restore_50 : decode cX12_restore 50 = .ok (.getfield 106, 3) := by decide +kernel
theorem dX12_restore_53 : decode cX12_restore 53 = .ok (.aload_n 0, 1) := by decide +kernel
theorem dX12_restore_54 : decode cX12_restore 54 = .ok (.getfield 115, 3) := by decide +kernel
theorem dX12_restore_57 : decode cX12_restore 57 = .ok (.invokestatic 463, 3) := by decide +kernel
theorem dX12_restore_60 : decode cX12_restore 60 = .ok (.aload_n 0, 1) := by decide +kernel
theorem dX12_restore_61 : decode cX12_restore 61 = .ok (.getfield 103, 3) := by decide +kernel
theorem dX12_restore_64 : decode cX12_restore 64 = .ok (.aload_n 0, 1) := by decide +kernel
theorem dX12_restore_65 : decode cX12_restore 65 = .ok (.getfield 118, 3) := by decide +kernel
theorem dX12_restore_68 : decode cX12_restore 68 = .ok (.invokestatic 463, 3) := by decide +kernel
theorem dX12_restore_71 : decode cX12_restore 71 = .ok (.aload_n 0, 1) := by decide +kernel
theorem dX12_restore_72 : decode cX12_restore 72 = .ok (.getfield 109, 3) := by decide +kernel
theorem dX12_restore_75 : decode cX12_restore 75 = .ok (.aload_n 0, 1) := by decide +kernel
theorem dX12_restore_76 : decode cX12_restore 76 = .ok (.getfield 121, 3) := by decide +kernel
theorem dX12_restore_79 : decode cX12_restore 79 = .ok (.invokestatic 463, 3) := by decide +kernel
theorem dX12_restore_82 : decode cX12_restore 82 = .ok (.iconst 1, 1) := by decide +kernel
theorem dX12_restore_83 : decode cX12_restore 83 = .ok (.ireturn, 1) := by decide +kernel
theorem dX12_climbs_0 : decode cX12_climbs 0 = .ok (.aload_n 0, 1) := by decide +kernel
theorem dX12_climbs_1 : decode cX12_climbs 1 = .ok (.iconst 0, 1) := by decide +kernel
theorem dX12_climbs_2 : decode cX12_climbs 2 = .ok (.putfield 182, 3) := by decide +kernel
theorem dX12_climbs_5 : decode cX12_climbs 5 = .ok (.iload_n 1, 1) := by decide +kernel
theorem dX12_climbs_6 : decode cX12_climbs 6 = .ok (.iconst 0, 1) := by decide +kernel
theorem dX12_climbs_7 : decode cX12_climbs 7 = .ok (.bipush 6, 2) := by decide +kernel
theorem dX12_climbs_9 : decode cX12_climbs 9 = .ok (.invokestatic 185, 3) := by decide +kernel
theorem dX12_climbs_12 : decode cX12_climbs 12 = .ok (.ifCond .eq 12, 3) := by decide +kernel
theorem dX12_climbs_15 : decode cX12_climbs 15 = .ok (.aload_n 0, 1) := by decide +kernel
theorem dX12_climbs_16 : decode cX12_climbs 16 = .ok (.getfield 103, 3) := by decide +kernel
theorem dX12_climbs_19 : decode cX12_climbs 19 = .ok (.iload_n 1, 1) := by decide +kernel
theorem dX12_climbs_20 : decode cX12_climbs 20 = .ok (.iaload, 1) := by decide +kernel
theorem dX12_climbs_21 : decode cX12_climbs 21 = .ok (.goto 8, 3) := by decide +kernel
theorem dX12_climbs_24 : decode cX12_climbs 24 = .ok (.aload_n 0, 1) := by decide +kernel
theorem dX12_climbs_25 : decode cX12_climbs 25 = .ok (.iconst 1, 1) := by decide +kernel
theorem dX12_climbs_26 : decode cX12_climbs 26 = .ok (.invokevirtual 292, 3) := by decide +kernel
theorem dX12_climbs_29 : decode cX12_climbs 29 = .ok (.ireturn, 1) := by decide +kernel
theorem dX12_up_0 : decode cX12_up 0 = .ok (.aload_n 0, 1) := by decide +kernel
theorem dX12_up_1 : decode cX12_up 1 = .ok (.iconst 0, 1) := by decide +kernel
theorem dX12_up_2 : decode cX12_up 2 = .ok (.putfield 182, 3) := by decide +kernel
theorem dX12_up_5 : decode cX12_up 5 = .ok (.aload_n 0, 1) := by decide +kernel
theorem dX12_up_6 : decode cX12_up 6 = .ok (.iload_n 1, 1) := by decide +kernel
theorem dX12_up_7 : decode cX12_up 7 = .ok (.invokevirtual 321, 3) := by decide +kernel
theorem dX12_up_10 : decode cX12_up 10 = .ok (.ifCond .eq 27, 3) := by decide +kernel
theorem dX12_up_13 : decode cX12_up 13 = .ok (.iload_n 2, 1) := by decide +kernel
theorem dX12_up_14 : decode cX12_up 14 = .ok (.iconst 0, 1) := by decide +kernel
theorem dX12_up_15 : decode cX12_up 15 = .ok (.bipush 29, 2) := by decide +kernel
theorem dX12_up_17 : decode cX12_up 17 = .ok (.invokestatic 185, 3) := by decide +kernel
theorem dX12_up_20 : decode cX12_up 20 = .ok (.ifCond .eq 17, 3) := by decide +kernel
theorem dX12_up_23 : decode cX12_up 23 = .ok (.aload_n 0, 1) := by decide +kernel
theorem dX12_up_24 : decode cX12_up 24 = .ok (.getfield 106, 3) := by decide +kernel
theorem dX12_up_27 : decode cX12_up 27 = .ok (.bipush 30, 2) := by decide +kernel
theorem dX12_up_29 : decode cX12_up 29 = .ok (.iload_n 1, 1) := by decide +kernel
theorem dX12_up_30 : decode cX12_up 30 = .ok (.imul, 1) := by decide +kernel
theorem dX12_up_31 : decode cX12_up 31 = .ok (.iload_n 2, 1) := by decide +kernel
theorem dX12_up_32 : decode cX12_up 32 = .ok (.iadd, 1) := by decide +kernel
theorem dX12_up_33 : decode cX12_up 33 = .ok (.iaload, 1) := by decide +kernel
theorem dX12_up_34 : decode cX12_up 34 = .ok (.goto 8, 3) := by decide +kernel
theorem dX12_up_37 : decode cX12_up 37 = .ok (.aload_n 0, 1) := by decide +kernel
theorem dX12_up_38 : decode cX12_up 38 = .ok (.iconst 1, 1) := by decide +kernel
theorem dX12_up_39 : decode cX12_up 39 = .ok (.invokevirtual 292, 3) := by decide +kernel
theorem dX12_up_42 : decode cX12_up 42 = .ok (.ireturn, 1) := by decide +kernel
theorem dX12_band_0 : decode cX12_band 0 = .ok (.aload_n 0, 1) := by decide +kernel
theorem dX12_band_1 : decode cX12_band 1 = .ok (.iconst 0, 1) := by decide +kernel
theorem dX12_band_2 : decode cX12_band 2 = .ok (.putfield 182, 3) := by decide +kernel
theorem dX12_band_5 : decode cX12_band 5 = .ok (.aload_n 0, 1) := by decide +kernel
theorem dX12_band_6 : decode cX12_band 6 = .ok (.iload_n 1, 1) := by decide +kernel
theorem dX12_band_7 : decode cX12_band 7 = .ok (.invokevirtual 321, 3) := by decide +kernel
theorem dX12_band_10 : decode cX12_band 10 = .ok (.ifCond .ne 9, 3) := by decide +kernel
theorem dX12_band_13 : decode cX12_band 13 = .ok (.aload_n 0, 1) := by decide +kernel
theorem dX12_band_14 : decode cX12_band 14 = .ok (.iconst 1, 1) := by decide +kernel
theorem dX12_band_15 : decode cX12_band 15 = .ok (.invokevirtual 292, 3) := by decide +kernel
theorem dX12_band_18 : decode cX12_band 18 = .ok (.ireturn, 1) := by decide +kernel
theorem dX12_band_19 : decode cX12_band 19 = .ok (.aload_n 0, 1) := by decide +kernel
theorem dX12_band_20 : decode cX12_band 20 = .ok (.getfield 124, 3) := by decide +kernel
theorem dX12_band_23 : decode cX12_band 23 = .ok (.iload_n 1, 1) := by decide +kernel
theorem dX12_band_24 : decode cX12_band 24 = .ok (.iaload, 1) := by decide +kernel
theorem dX12_band_25 : decode cX12_band 25 = .ok (.bipush 8, 2) := by decide +kernel
theorem dX12_band_27 : decode cX12_band 27 = .ok (.if_icmp .eq 54, 3) := by decide +kernel
theorem dX12_band_30 : decode cX12_band 30 = .ok (.iload_n 2, 1) := by decide +kernel
theorem dX12_band_31 : decode cX12_band 31 = .ok (.iconst 0, 1) := by decide +kernel
theorem dX12_band_32 : decode cX12_band 32 = .ok (.aload_n 0, 1) := by decide +kernel
theorem dX12_band_33 : decode cX12_band 33 = .ok (.getfield 38, 3) := by decide +kernel
theorem dX12_band_36 : decode cX12_band 36 = .ok (.iload_n 1, 1) := by decide +kernel
theorem dX12_band_37 : decode cX12_band 37 = .ok (.iaload, 1) := by decide +kernel
theorem dX12_band_38 : decode cX12_band 38 = .ok (.iconst 1, 1) := by decide +kernel
theorem dX12_band_39 : decode cX12_band 39 = .ok (.isub, 1) := by decide +kernel
theorem dX12_band_40 : decode cX12_band 40 = .ok (.invokestatic 185, 3) := by decide +kernel
theorem dX12_band_43 : decode cX12_band 43 = .ok (.ifCond .eq 38, 3) := by decide +kernel
theorem dX12_band_46 : decode cX12_band 46 = .ok (.iload_n 3, 1) := by decide +kernel
theorem dX12_band_47 : decode cX12_band 47 = .ok (.iconst 0, 1) := by decide +kernel
theorem dX12_band_48 : decode cX12_band 48 = .ok (.sipush 300, 3) := by decide +kernel
theorem dX12_band_51 : decode cX12_band 51 = .ok (.invokestatic 185, 3) := by decide +kernel
theorem dX12_band_54 : decode cX12_band 54 = .ok (.ifCond .eq 27, 3) := by decide +kernel
theorem dX12_band_57 : decode cX12_band 57 = .ok (.iload 4, 2) := by decide +kernel
theorem dX12_band_59 : decode cX12_band 59 = .ok (.iconst 1, 1) := by decide +kernel
theorem dX12_band_60 : decode cX12_band 60 = .ok (.sipush 9999, 3) := by decide +kernel
theorem dX12_band_63 : decode cX12_band 63 = .ok (.invokestatic 185, 3) := by decide +kernel
theorem dX12_band_66 : decode cX12_band 66 = .ok (.ifCond .eq 15, 3) := by decide +kernel
theorem dX12_band_69 : decode cX12_band 69 = .ok (.iload 5, 2) := by decide +kernel
theorem dX12_band_71 : decode cX12_band 71 = .ok (.iconst 0, 1) := by decide +kernel
theorem dX12_band_72 : decode cX12_band 72 = .ok (.sipush 999, 3) := by decide +kernel
theorem dX12_band_75 : decode cX12_band 75 = .ok (.invokestatic 185, 3) := by decide +kernel
theorem dX12_band_78 : decode cX12_band 78 = .ok (.ifCond .ne 5, 3) := by decide +kernel
theorem dX12_band_81 : decode cX12_band 81 = .ok (.iconst (-1), 1) := by decide +kernel
theorem dX12_band_82 : decode cX12_band 82 = .ok (.ireturn, 1) := by decide +kernel
theorem dX12_band_83 : decode cX12_band 83 = .ok (.iconst 4, 1) := by decide +kernel
theorem dX12_band_84 : decode cX12_band 84 = .ok (.bipush 8, 2) := by decide +kernel
theorem dX12_band_86 : decode cX12_band 86 = .ok (.iload_n 1, 1) := by decide +kernel
theorem dX12_band_87 : decode cX12_band 87 = .ok (.imul, 1) := by decide +kernel
theorem dX12_band_88 : decode cX12_band 88 = .ok (.aload_n 0, 1) := by decide +kernel
theorem dX12_band_89 : decode cX12_band 89 = .ok (.getfield 124, 3) := by decide +kernel
theorem dX12_band_92 : decode cX12_band 92 = .ok (.iload_n 1, 1) := by decide +kernel
theorem dX12_band_93 : decode cX12_band 93 = .ok (.iaload, 1) := by decide +kernel
theorem dX12_band_94 : decode cX12_band 94 = .ok (.iadd, 1) := by decide +kernel
theorem dX12_band_95 : decode cX12_band 95 = .ok (.imul, 1) := by decide +kernel
theorem dX12_band_96 : decode cX12_band 96 = .ok (.istore 6, 2) := by decide +kernel
theorem dX12_band_98 : decode cX12_band 98 = .ok (.aload_n 0, 1) := by decide +kernel
theorem dX12_band_99 : decode cX12_band 99 = .ok (.getfield 127, 3) := by decide +kernel
theorem dX12_band_102 : decode cX12_band 102 = .ok (.iload 6, 2) := by decide +kernel
theorem dX12_band_104 : decode cX12_band 104 = .ok (.iload_n 2, 1) := by decide +kernel
theorem dX12_band_105 : decode cX12_band 105 = .ok (.iastore, 1) := by decide +kernel
theorem dX12_band_106 : decode cX12_band 106 = .ok (.aload_n 0, 1) := by decide +kernel
theorem dX12_band_107 : decode cX12_band 107 = .ok (.getfield 127, 3) := by decide +kernel
theorem dX12_band_110 : decode cX12_band 110 = .ok (.iload 6, 2) := by decide +kernel
theorem dX12_band_112 : decode cX12_band 112 = .ok (.iconst 1, 1) := by decide +kernel
theorem dX12_band_113 : decode cX12_band 113 = .ok (.iadd, 1) := by decide +kernel
theorem dX12_band_114 : decode cX12_band 114 = .ok (.iload_n 3, 1) := by decide +kernel
theorem dX12_band_115 : decode cX12_band 115 = .ok (.iastore, 1) := by decide +kernel
theorem dX12_band_116 : decode cX12_band 116 = .ok (.aload_n 0, 1) := by decide +kernel
theorem dX12_band_117 : decode cX12_band 117 = .ok (.getfield 127, 3) := by decide +kernel
theorem dX12_band_120 : decode cX12_band 120 = .ok (.iload 6, 2) := by decide +kernel
theorem dX12_band_122 : decode cX12_band 122 = .ok (.iconst 2, 1) := by decide +kernel
theorem dX12_band_123 : decode cX12_band 123 = .ok (.iadd, 1) := by decide +kernel
theorem dX12_band_124 : decode cX12_band 124 = .ok (.iload 4, 2) := by decide +kernel
theorem dX12_band_126 : decode cX12_band 126 = .ok (.iastore, 1) := by decide +kernel
theorem dX12_band_127 : decode cX12_band 127 = .ok (.aload_n 0, 1) := by decide +kernel
theorem dX12_band_128 : decode cX12_band 128 = .ok (.getfield 127, 3) := by decide +kernel
theorem dX12_band_131 : decode cX12_band 131 = .ok (.iload 6, 2) := by decide +kernel
theorem dX12_band_133 : decode cX12_band 133 = .ok (.iconst 3, 1) := by decide +kernel
theorem dX12_band_134 : decode cX12_band 134 = .ok (.iadd, 1) := by decide +kernel
theorem dX12_band_135 : decode cX12_band 135 = .ok (.iload 5, 2) := by decide +kernel
theorem dX12_band_137 : decode cX12_band 137 = .ok (.iastore, 1) := by decide +kernel
theorem dX12_band_138 : decode cX12_band 138 = .ok (.aload_n 0, 1) := by decide +kernel
theorem dX12_band_139 : decode cX12_band 139 = .ok (.getfield 124, 3) := by decide +kernel
theorem dX12_band_142 : decode cX12_band 142 = .ok (.iload_n 1, 1) := by decide +kernel
theorem dX12_band_143 : decode cX12_band 143 = .ok (.dup2, 1) := by decide +kernel
theorem dX12_band_144 : decode cX12_band 144 = .ok (.iaload, 1) := by decide +kernel
theorem dX12_band_145 : decode cX12_band 145 = .ok (.iconst 1, 1) := by decide +kernel
theorem dX12_band_146 : decode cX12_band 146 = .ok (.iadd, 1) := by decide +kernel
theorem dX12_band_147 : decode cX12_band 147 = .ok (.iastore, 1) := by decide +kernel
theorem dX12_band_148 : decode cX12_band 148 = .ok (.aload_n 0, 1) := by decide +kernel
theorem dX12_band_149 : decode cX12_band 149 = .ok (.getfield 124, 3) := by decide +kernel
theorem dX12_band_152 : decode cX12_band 152 = .ok (.iload_n 1, 1) := by decide +kernel
theorem dX12_band_153 : decode cX12_band 153 = .ok (.iaload, 1) := by decide +kernel
theorem dX12_band_154 : decode cX12_band 154 = .ok (.ireturn, 1) := by decide +kernel
theorem dX12_mortar_0 : decode cX12_mortar 0 = .ok (.aload_n 0, 1) := by decide +kernel
theorem dX12_mortar_1 : decode cX12_mortar 1 = .ok (.iconst 0, 1) := by decide +kernel
theorem dX12_mortar_2 : decode cX12_mortar 2 = .ok (.putfield 182, 3) := by decide +kernel
theorem dX12_mortar_5 : decode cX12_mortar 5 = .ok (.aload_n 0, 1) := by decide +kernel
theorem dX12_mortar_6 : decode cX12_mortar 6 = .ok (.iload_n 1, 1) := by decide +kernel
theorem dX12_mortar_7 : decode cX12_mortar 7 = .ok (.invokevirtual 321, 3) := by decide +kernel
theorem dX12_mortar_10 : decode cX12_mortar 10 = .ok (.ifCond .ne 9, 3) := by decide +kernel
theorem dX12_mortar_13 : decode cX12_mortar 13 = .ok (.aload_n 0, 1) := by decide +kernel
theorem dX12_mortar_14 : decode cX12_mortar 14 = .ok (.iconst 1, 1) := by decide +kernel
theorem dX12_mortar_15 : decode cX12_mortar 15 = .ok (.invokevirtual 344, 3) := by decide +kernel
theorem dX12_mortar_18 : decode cX12_mortar 18 = .ok (.ireturn, 1) := by decide +kernel
theorem dX12_mortar_19 : decode cX12_mortar 19 = .ok (.iload_n 2, 1) := by decide +kernel
theorem dX12_mortar_20 : decode cX12_mortar 20 = .ok (.iconst 0, 1) := by decide +kernel
theorem dX12_mortar_21 : decode cX12_mortar 21 = .ok (.sipush 9999, 3) := by decide +kernel
theorem dX12_mortar_24 : decode cX12_mortar 24 = .ok (.invokestatic 185, 3) := by decide +kernel
theorem dX12_mortar_27 : decode cX12_mortar 27 = .ok (.ifCond .ne 5, 3) := by decide +kernel
theorem dX12_mortar_30 : decode cX12_mortar 30 = .ok (.iconst 0, 1) := by decide +kernel
theorem dX12_mortar_31 : decode cX12_mortar 31 = .ok (.ireturn, 1) := by decide +kernel
theorem dX12_mortar_32 : decode cX12_mortar 32 = .ok (.aload_n 0, 1) := by decide +kernel
theorem dX12_mortar_33 : decode cX12_mortar 33 = .ok (.getfield 130, 3) := by decide +kernel
theorem dX12_mortar_36 : decode cX12_mortar 36 = .ok (.iload_n 1, 1) := by decide +kernel
theorem dX12_mortar_37 : decode cX12_mortar 37 = .ok (.iload_n 2, 1) := by decide +kernel
theorem dX12_mortar_38 : decode cX12_mortar 38 = .ok (.iastore, 1) := by decide +kernel
theorem dX12_mortar_39 : decode cX12_mortar 39 = .ok (.iconst 1, 1) := by decide +kernel
theorem dX12_mortar_40 : decode cX12_mortar 40 = .ok (.ireturn, 1) := by decide +kernel
theorem dX12_bears_0 : decode cX12_bears 0 = .ok (.aload_n 0, 1) := by decide +kernel
theorem dX12_bears_1 : decode cX12_bears 1 = .ok (.getfield 130, 3) := by decide +kernel
theorem dX12_bears_4 : decode cX12_bears 4 = .ok (.iload_n 1, 1) := by decide +kernel
theorem dX12_bears_5 : decode cX12_bears 5 = .ok (.iaload, 1) := by decide +kernel
theorem dX12_bears_6 : decode cX12_bears 6 = .ok (.istore 4, 2) := by decide +kernel
theorem dX12_bears_8 : decode cX12_bears 8 = .ok (.iconst 0, 1) := by decide +kernel
theorem dX12_bears_9 : decode cX12_bears 9 = .ok (.istore 5, 2) := by decide +kernel
theorem dX12_bears_11 : decode cX12_bears 11 = .ok (.iload 5, 2) := by decide +kernel
theorem dX12_bears_13 : decode cX12_bears 13 = .ok (.aload_n 0, 1) := by decide +kernel
theorem dX12_bears_14 : decode cX12_bears 14 = .ok (.getfield 124, 3) := by decide +kernel
theorem dX12_bears_17 : decode cX12_bears 17 = .ok (.iload_n 1, 1) := by decide +kernel
theorem dX12_bears_18 : decode cX12_bears 18 = .ok (.iaload, 1) := by decide +kernel
theorem dX12_bears_19 : decode cX12_bears 19 = .ok (.if_icmp .ge 88, 3) := by decide +kernel
theorem dX12_bears_22 : decode cX12_bears 22 = .ok (.iconst 4, 1) := by decide +kernel
theorem dX12_bears_23 : decode cX12_bears 23 = .ok (.bipush 8, 2) := by decide +kernel
theorem dX12_bears_25 : decode cX12_bears 25 = .ok (.iload_n 1, 1) := by decide +kernel
theorem dX12_bears_26 : decode cX12_bears 26 = .ok (.imul, 1) := by decide +kernel
theorem dX12_bears_27 : decode cX12_bears 27 = .ok (.iload 5, 2) := by decide +kernel
theorem dX12_bears_29 : decode cX12_bears 29 = .ok (.iadd, 1) := by decide +kernel
theorem dX12_bears_30 : decode cX12_bears 30 = .ok (.imul, 1) := by decide +kernel
theorem dX12_bears_31 : decode cX12_bears 31 = .ok (.istore 6, 2) := by decide +kernel
theorem dX12_bears_33 : decode cX12_bears 33 = .ok (.iload_n 3, 1) := by decide +kernel
theorem dX12_bears_34 : decode cX12_bears 34 = .ok (.aload_n 0, 1) := by decide +kernel
theorem dX12_bears_35 : decode cX12_bears 35 = .ok (.getfield 127, 3) := by decide +kernel
theorem dX12_bears_38 : decode cX12_bears 38 = .ok (.iload 6, 2) := by decide +kernel
theorem dX12_bears_40 : decode cX12_bears 40 = .ok (.iconst 1, 1) := by decide +kernel
theorem dX12_bears_41 : decode cX12_bears 41 = .ok (.iadd, 1) := by decide +kernel
theorem dX12_bears_42 : decode cX12_bears 42 = .ok (.iaload, 1) := by decide +kernel
theorem dX12_bears_43 : decode cX12_bears 43 = .ok (.isub, 1) := by decide +kernel
theorem dX12_bears_44 : decode cX12_bears 44 = .ok (.istore 7, 2) := by decide +kernel
theorem dX12_bears_46 : decode cX12_bears 46 = .ok (.iload 7, 2) := by decide +kernel
theorem dX12_bears_48 : decode cX12_bears 48 = .ok (.ifCond .lt 53, 3) := by decide +kernel
theorem dX12_bears_51 : decode cX12_bears 51 = .ok (.aload_n 0, 1) := by decide +kernel
theorem dX12_bears_52 : decode cX12_bears 52 = .ok (.getfield 127, 3) := by decide +kernel
theorem dX12_bears_55 : decode cX12_bears 55 = .ok (.iload 6, 2) := by decide +kernel
theorem dX12_bears_57 : decode cX12_bears 57 = .ok (.iaload, 1) := by decide +kernel
theorem dX12_bears_58 : decode cX12_bears 58 = .ok (.iload_n 2, 1) := by decide +kernel
theorem dX12_bears_59 : decode cX12_bears 59 = .ok (.isub, 1) := by decide +kernel
theorem dX12_bears_60 : decode cX12_bears 60 = .ok (.invokestatic 359, 3) := by decide +kernel
theorem dX12_bears_63 : decode cX12_bears 63 = .ok (.iconst 5, 1) := by decide +kernel
theorem dX12_bears_64 : decode cX12_bears 64 = .ok (.if_icmp .le 6, 3) := by decide +kernel
theorem dX12_bears_67 : decode cX12_bears 67 = .ok (.goto 34, 3) := by decide +kernel
theorem dX12_bears_70 : decode cX12_bears 70 = .ok (.iload 4, 2) := by decide +kernel
theorem dX12_bears_72 : decode cX12_bears 72 = .ok (.iconst 0, 1) := by decide +kernel
theorem dX12_bears_73 : decode cX12_bears 73 = .ok (.aload_n 0, 1) := by decide +kernel
theorem dX12_bears_74 : decode cX12_bears 74 = .ok (.getfield 127, 3) := by decide +kernel
theorem dX12_bears_77 : decode cX12_bears 77 = .ok (.iload 6, 2) := by decide +kernel
theorem dX12_bears_79 : decode cX12_bears 79 = .ok (.iconst 2, 1) := by decide +kernel
theorem dX12_bears_80 : decode cX12_bears 80 = .ok (.iadd, 1) := by decide +kernel
theorem dX12_bears_81 : decode cX12_bears 81 = .ok (.iaload, 1) := by decide +kernel
theorem dX12_bears_82 : decode cX12_bears 82 = .ok (.aload_n 0, 1) := by decide +kernel
theorem dX12_bears_83 : decode cX12_bears 83 = .ok (.getfield 127, 3) := by decide +kernel
theorem dX12_bears_86 : decode cX12_bears 86 = .ok (.iload 6, 2) := by decide +kernel
theorem dX12_bears_88 : decode cX12_bears 88 = .ok (.iconst 3, 1) := by decide +kernel
theorem dX12_bears_89 : decode cX12_bears 89 = .ok (.iadd, 1) := by decide +kernel
theorem dX12_bears_90 : decode cX12_bears 90 = .ok (.iaload, 1) := by decide +kernel
theorem dX12_bears_91 : decode cX12_bears 91 = .ok (.iload 7, 2) := by decide +kernel
theorem dX12_bears_93 : decode cX12_bears 93 = .ok (.imul, 1) := by decide +kernel
theorem dX12_bears_94 : decode cX12_bears 94 = .ok (.isub, 1) := by decide +kernel
theorem dX12_bears_95 : decode cX12_bears 95 = .ok (.invokestatic 375, 3) := by decide +kernel
theorem dX12_bears_98 : decode cX12_bears 98 = .ok (.iadd, 1) := by decide +kernel
theorem dX12_bears_99 : decode cX12_bears 99 = .ok (.istore 4, 2) := by decide +kernel
theorem dX12_bears_101 : decode cX12_bears 101 = .ok (.iinc 5 1, 3) := by decide +kernel
theorem dX12_bears_104 : decode cX12_bears 104 = .ok (.goto (-93), 3) := by decide +kernel
theorem dX12_bears_107 : decode cX12_bears 107 = .ok (.iload 4, 2) := by decide +kernel
theorem dX12_bears_109 : decode cX12_bears 109 = .ok (.ireturn, 1) := by decide +kernel
theorem dX12_tellWanting_0 : decode cX12_tellWanting 0 = .ok (.iconst 0, 1) := by decide +kernel
theorem dX12_tellWanting_1 : decode cX12_tellWanting 1 = .ok (.istore 4, 2) := by decide +kernel
theorem dX12_tellWanting_3 : decode cX12_tellWanting 3 = .ok (.iconst 0, 1) := by decide +kernel
theorem dX12_tellWanting_4 : decode cX12_tellWanting 4 = .ok (.istore 5, 2) := by decide +kernel
theorem dX12_tellWanting_6 : decode cX12_tellWanting 6 = .ok (.iload 5, 2) := by decide +kernel
theorem dX12_tellWanting_8 : decode cX12_tellWanting 8 = .ok (.aload_n 0, 1) := by decide +kernel
theorem dX12_tellWanting_9 : decode cX12_tellWanting 9 = .ok (.getfield 38, 3) := by decide +kernel
theorem dX12_tellWanting_12 : decode cX12_tellWanting 12 = .ok (.iload_n 1, 1) := by decide +kernel
theorem dX12_tellWanting_13 : decode cX12_tellWanting 13 = .ok (.iaload, 1) := by decide +kernel
theorem dX12_tellWanting_14 : decode cX12_tellWanting 14 = .ok (.if_icmp .ge 62, 3) := by decide +kernel
theorem dX12_tellWanting_17 : decode cX12_tellWanting 17 = .ok (.aload_n 0, 1) := by decide +kernel
theorem dX12_tellWanting_18 : decode cX12_tellWanting 18 = .ok (.getfield 133, 3) := by decide +kernel
theorem dX12_tellWanting_21 : decode cX12_tellWanting 21 = .ok (.iload 5, 2) := by decide +kernel
theorem dX12_tellWanting_23 : decode cX12_tellWanting 23 = .ok (.iconst 0, 1) := by decide +kernel
theorem dX12_tellWanting_24 : decode cX12_tellWanting 24 = .ok (.iload_n 3, 1) := by decide +kernel
theorem dX12_tellWanting_25 : decode cX12_tellWanting 25 = .ok (.aload_n 0, 1) := by decide +kernel
theorem dX12_tellWanting_26 : decode cX12_tellWanting 26 = .ok (.getfield 38, 3) := by decide +kernel
theorem dX12_tellWanting_29 : decode cX12_tellWanting 29 = .ok (.iload_n 1, 1) := by decide +kernel
theorem dX12_tellWanting_30 : decode cX12_tellWanting 30 = .ok (.iaload, 1) := by decide +kernel
theorem dX12_tellWanting_31 : decode cX12_tellWanting 31 = .ok (.iconst 1, 1) := by decide +kernel
theorem dX12_tellWanting_32 : decode cX12_tellWanting 32 = .ok (.isub, 1) := by decide +kernel
theorem dX12_tellWanting_33 : decode cX12_tellWanting 33 = .ok (.iload 5, 2) := by decide +kernel
theorem dX12_tellWanting_35 : decode cX12_tellWanting 35 = .ok (.isub, 1) := by decide +kernel
theorem dX12_tellWanting_36 : decode cX12_tellWanting 36 = .ok (.imul, 1) := by decide +kernel
theorem dX12_tellWanting_37 : decode cX12_tellWanting 37 = .ok (.aload_n 0, 1) := by decide +kernel
theorem dX12_tellWanting_38 : decode cX12_tellWanting 38 = .ok (.iload_n 1, 1) := by decide +kernel
theorem dX12_tellWanting_39 : decode cX12_tellWanting 39 = .ok (.iload 5, 2) := by decide +kernel
theorem dX12_tellWanting_41 : decode cX12_tellWanting 41 = .ok (.iload_n 2, 1) := by decide +kernel
theorem dX12_tellWanting_42 : decode cX12_tellWanting 42 = .ok (.invokevirtual 467, 3) := by decide +kernel
theorem dX12_tellWanting_45 : decode cX12_tellWanting 45 = .ok (.isub, 1) := by decide +kernel
theorem dX12_tellWanting_46 : decode cX12_tellWanting 46 = .ok (.invokestatic 375, 3) := by decide +kernel
theorem dX12_tellWanting_49 : decode cX12_tellWanting 49 = .ok (.iastore, 1) := by decide +kernel
theorem dX12_tellWanting_50 : decode cX12_tellWanting 50 = .ok (.iload 4, 2) := by decide +kernel
theorem dX12_tellWanting_52 : decode cX12_tellWanting 52 = .ok (.aload_n 0, 1) := by decide +kernel
theorem dX12_tellWanting_53 : decode cX12_tellWanting 53 = .ok (.getfield 133, 3) := by decide +kernel
theorem dX12_tellWanting_56 : decode cX12_tellWanting 56 = .ok (.iload 5, 2) := by decide +kernel
theorem dX12_tellWanting_58 : decode cX12_tellWanting 58 = .ok (.iaload, 1) := by decide +kernel
theorem dX12_tellWanting_59 : decode cX12_tellWanting 59 = .ok (.ifCond .le 7, 3) := by decide +kernel
theorem dX12_tellWanting_62 : decode cX12_tellWanting 62 = .ok (.iconst 1, 1) := by decide +kernel
theorem dX12_tellWanting_63 : decode cX12_tellWanting 63 = .ok (.goto 4, 3) := by decide +kernel
theorem dX12_tellWanting_66 : decode cX12_tellWanting 66 = .ok (.iconst 0, 1) := by decide +kernel
theorem dX12_tellWanting_67 : decode cX12_tellWanting 67 = .ok (.iadd, 1) := by decide +kernel
theorem dX12_tellWanting_68 : decode cX12_tellWanting 68 = .ok (.istore 4, 2) := by decide +kernel
theorem dX12_tellWanting_70 : decode cX12_tellWanting 70 = .ok (.iinc 5 1, 3) := by decide +kernel
theorem dX12_tellWanting_73 : decode cX12_tellWanting 73 = .ok (.goto (-67), 3) := by decide +kernel
theorem dX12_tellWanting_76 : decode cX12_tellWanting 76 = .ok (.iload 4, 2) := by decide +kernel
theorem dX12_tellWanting_78 : decode cX12_tellWanting 78 = .ok (.ireturn, 1) := by decide +kernel
theorem dX12_isAsked_0 : decode cX12_isAsked 0 = .ok (.iload_n 0, 1) := by decide +kernel
theorem dX12_isAsked_1 : decode cX12_isAsked 1 = .ok (.iconst 0, 1) := by decide +kernel
theorem dX12_isAsked_2 : decode cX12_isAsked 2 = .ok (.sipush 500, 3) := by decide +kernel
theorem dX12_isAsked_5 : decode cX12_isAsked 5 = .ok (.invokestatic 185, 3) := by decide +kernel
theorem dX12_isAsked_8 : decode cX12_isAsked 8 = .ok (.ifCond .eq 17, 3) := by decide +kernel
theorem dX12_isAsked_11 : decode cX12_isAsked 11 = .ok (.iload_n 1, 1) := by decide +kernel
theorem dX12_isAsked_12 : decode cX12_isAsked 12 = .ok (.iconst 0, 1) := by decide +kernel
theorem dX12_isAsked_13 : decode cX12_isAsked 13 = .ok (.bipush 13, 2) := by decide +kernel
theorem dX12_isAsked_15 : decode cX12_isAsked 15 = .ok (.invokestatic 185, 3) := by decide +kernel
theorem dX12_isAsked_18 : decode cX12_isAsked 18 = .ok (.ifCond .eq 7, 3) := by decide +kernel
theorem dX12_isAsked_21 : decode cX12_isAsked 21 = .ok (.iconst 1, 1) := by decide +kernel
theorem dX12_isAsked_22 : decode cX12_isAsked 22 = .ok (.goto 4, 3) := by decide +kernel
theorem dX12_isAsked_25 : decode cX12_isAsked 25 = .ok (.iconst 0, 1) := by decide +kernel
theorem dX12_isAsked_26 : decode cX12_isAsked 26 = .ok (.ireturn, 1) := by decide +kernel
theorem dX12_weak_0 : decode cX12_weak 0 = .ok (.aload_n 0, 1) := by decide +kernel
theorem dX12_weak_1 : decode cX12_weak 1 = .ok (.iconst 0, 1) := by decide +kernel
theorem dX12_weak_2 : decode cX12_weak 2 = .ok (.putfield 182, 3) := by decide +kernel
theorem dX12_weak_5 : decode cX12_weak 5 = .ok (.aload_n 0, 1) := by decide +kernel
theorem dX12_weak_6 : decode cX12_weak 6 = .ok (.iload_n 1, 1) := by decide +kernel
theorem dX12_weak_7 : decode cX12_weak 7 = .ok (.invokevirtual 321, 3) := by decide +kernel
theorem dX12_weak_10 : decode cX12_weak 10 = .ok (.ifCond .eq 13, 3) := by decide +kernel
theorem dX12_weak_13 : decode cX12_weak 13 = .ok (.iload 4, 2) := by decide +kernel
theorem dX12_weak_15 : decode cX12_weak 15 = .ok (.iconst 0, 1) := by decide +kernel
theorem dX12_weak_16 : decode cX12_weak 16 = .ok (.iconst 2, 1) := by decide +kernel
theorem dX12_weak_17 : decode cX12_weak 17 = .ok (.invokestatic 185, 3) := by decide +kernel
theorem dX12_weak_20 : decode cX12_weak 20 = .ok (.ifCond .ne 9, 3) := by decide +kernel
theorem dX12_weak_23 : decode cX12_weak 23 = .ok (.aload_n 0, 1) := by decide +kernel
theorem dX12_weak_24 : decode cX12_weak 24 = .ok (.iconst 1, 1) := by decide +kernel
theorem dX12_weak_25 : decode cX12_weak 25 = .ok (.invokevirtual 292, 3) := by decide +kernel
theorem dX12_weak_28 : decode cX12_weak 28 = .ok (.ireturn, 1) := by decide +kernel
theorem dX12_weak_29 : decode cX12_weak 29 = .ok (.iload_n 2, 1) := by decide +kernel
theorem dX12_weak_30 : decode cX12_weak 30 = .ok (.iload_n 3, 1) := by decide +kernel
theorem dX12_weak_31 : decode cX12_weak 31 = .ok (.invokestatic 470, 3) := by decide +kernel
theorem dX12_weak_34 : decode cX12_weak 34 = .ok (.ifCond .ne 9, 3) := by decide +kernel
theorem dX12_weak_37 : decode cX12_weak 37 = .ok (.aload_n 0, 1) := by decide +kernel
theorem dX12_weak_38 : decode cX12_weak 38 = .ok (.iconst 2, 1) := by decide +kernel
theorem dX12_weak_39 : decode cX12_weak 39 = .ok (.invokevirtual 292, 3) := by decide +kernel
theorem dX12_weak_42 : decode cX12_weak 42 = .ok (.ireturn, 1) := by decide +kernel
theorem dX12_weak_43 : decode cX12_weak 43 = .ok (.aload_n 0, 1) := by decide +kernel
theorem dX12_weak_44 : decode cX12_weak 44 = .ok (.iload_n 1, 1) := by decide +kernel
theorem dX12_weak_45 : decode cX12_weak 45 = .ok (.iload_n 2, 1) := by decide +kernel
theorem dX12_weak_46 : decode cX12_weak 46 = .ok (.iload_n 3, 1) := by decide +kernel
theorem dX12_weak_47 : decode cX12_weak 47 = .ok (.invokevirtual 473, 3) := by decide +kernel
theorem dX12_weak_50 : decode cX12_weak 50 = .ok (.istore 5, 2) := by decide +kernel
theorem dX12_weak_52 : decode cX12_weak 52 = .ok (.iload 4, 2) := by decide +kernel
theorem dX12_weak_54 : decode cX12_weak 54 = .ok (.ifCond .ne 6, 3) := by decide +kernel
theorem dX12_weak_57 : decode cX12_weak 57 = .ok (.iload 5, 2) := by decide +kernel
theorem dX12_weak_59 : decode cX12_weak 59 = .ok (.ireturn, 1) := by decide +kernel
theorem dX12_weak_60 : decode cX12_weak 60 = .ok (.iconst (-1), 1) := by decide +kernel
theorem dX12_weak_61 : decode cX12_weak 61 = .ok (.istore 6, 2) := by decide +kernel
theorem dX12_weak_63 : decode cX12_weak 63 = .ok (.iconst 0, 1) := by decide +kernel
theorem dX12_weak_64 : decode cX12_weak 64 = .ok (.istore 7, 2) := by decide +kernel
theorem dX12_weak_66 : decode cX12_weak 66 = .ok (.iconst 0, 1) := by decide +kernel
theorem dX12_weak_67 : decode cX12_weak 67 = .ok (.istore 8, 2) := by decide +kernel
theorem dX12_weak_69 : decode cX12_weak 69 = .ok (.iload 8, 2) := by decide +kernel
theorem dX12_weak_71 : decode cX12_weak 71 = .ok (.aload_n 0, 1) := by decide +kernel
theorem dX12_weak_72 : decode cX12_weak 72 = .ok (.getfield 38, 3) := by decide +kernel
theorem dX12_weak_75 : decode cX12_weak 75 = .ok (.iload_n 1, 1) := by decide +kernel
theorem dX12_weak_76 : decode cX12_weak 76 = .ok (.iaload, 1) := by decide +kernel
theorem dX12_weak_77 : decode cX12_weak 77 = .ok (.if_icmp .ge 43, 3) := by decide +kernel
theorem dX12_weak_80 : decode cX12_weak 80 = .ok (.aload_n 0, 1) := by decide +kernel
theorem dX12_weak_81 : decode cX12_weak 81 = .ok (.getfield 133, 3) := by decide +kernel
theorem dX12_weak_84 : decode cX12_weak 84 = .ok (.iload 8, 2) := by decide +kernel
theorem dX12_weak_86 : decode cX12_weak 86 = .ok (.iaload, 1) := by decide +kernel
theorem dX12_weak_87 : decode cX12_weak 87 = .ok (.ifCond .le 13, 3) := by decide +kernel
theorem dX12_weak_90 : decode cX12_weak 90 = .ok (.iload 6, 2) := by decide +kernel
theorem dX12_weak_92 : decode cX12_weak 92 = .ok (.iconst (-1), 1) := by decide +kernel
theorem dX12_weak_93 : decode cX12_weak 93 = .ok (.if_icmp .ne 7, 3) := by decide +kernel
theorem dX12_weak_96 : decode cX12_weak 96 = .ok (.iload 8, 2) := by decide +kernel
theorem dX12_weak_98 : decode cX12_weak 98 = .ok (.istore 6, 2) := by decide +kernel
theorem dX12_weak_100 : decode cX12_weak 100 = .ok (.iload 7, 2) := by decide +kernel
theorem dX12_weak_102 : decode cX12_weak 102 = .ok (.aload_n 0, 1) := by decide +kernel
theorem dX12_weak_103 : decode cX12_weak 103 = .ok (.getfield 133, 3) := by decide +kernel
theorem dX12_weak_106 : decode cX12_weak 106 = .ok (.iload 8, 2) := by decide +kernel
theorem dX12_weak_108 : decode cX12_weak 108 = .ok (.iaload, 1) := by decide +kernel
theorem dX12_weak_109 : decode cX12_weak 109 = .ok (.invokestatic 375, 3) := by decide +kernel
theorem dX12_weak_112 : decode cX12_weak 112 = .ok (.istore 7, 2) := by decide +kernel
theorem dX12_weak_114 : decode cX12_weak 114 = .ok (.iinc 8 1, 3) := by decide +kernel
theorem dX12_weak_117 : decode cX12_weak 117 = .ok (.goto (-48), 3) := by decide +kernel
theorem dX12_weak_120 : decode cX12_weak 120 = .ok (.iload 4, 2) := by decide +kernel
theorem dX12_weak_122 : decode cX12_weak 122 = .ok (.iconst 1, 1) := by decide +kernel
theorem dX12_weak_123 : decode cX12_weak 123 = .ok (.if_icmp .ne 8, 3) := by decide +kernel
theorem dX12_weak_126 : decode cX12_weak 126 = .ok (.iload 6, 2) := by decide +kernel
theorem dX12_weak_128 : decode cX12_weak 128 = .ok (.goto 5, 3) := by decide +kernel
theorem dX12_weak_131 : decode cX12_weak 131 = .ok (.iload 7, 2) := by decide +kernel
theorem dX12_weak_133 : decode cX12_weak 133 = .ok (.ireturn, 1) := by decide +kernel
theorem dX12_lasts_0 : decode cX12_lasts 0 = .ok (.aload_n 0, 1) := by decide +kernel
theorem dX12_lasts_1 : decode cX12_lasts 1 = .ok (.iconst 0, 1) := by decide +kernel
theorem dX12_lasts_2 : decode cX12_lasts 2 = .ok (.putfield 182, 3) := by decide +kernel
theorem dX12_lasts_5 : decode cX12_lasts 5 = .ok (.aload_n 0, 1) := by decide +kernel
theorem dX12_lasts_6 : decode cX12_lasts 6 = .ok (.iload_n 1, 1) := by decide +kernel
theorem dX12_lasts_7 : decode cX12_lasts 7 = .ok (.invokevirtual 321, 3) := by decide +kernel
theorem dX12_lasts_10 : decode cX12_lasts 10 = .ok (.ifCond .ne 9, 3) := by decide +kernel
theorem dX12_lasts_13 : decode cX12_lasts 13 = .ok (.aload_n 0, 1) := by decide +kernel
theorem dX12_lasts_14 : decode cX12_lasts 14 = .ok (.iconst 1, 1) := by decide +kernel
theorem dX12_lasts_15 : decode cX12_lasts 15 = .ok (.invokevirtual 292, 3) := by decide +kernel
theorem dX12_lasts_18 : decode cX12_lasts 18 = .ok (.ireturn, 1) := by decide +kernel
theorem dX12_lasts_19 : decode cX12_lasts 19 = .ok (.iload_n 2, 1) := by decide +kernel
theorem dX12_lasts_20 : decode cX12_lasts 20 = .ok (.iload_n 3, 1) := by decide +kernel
theorem dX12_lasts_21 : decode cX12_lasts 21 = .ok (.invokestatic 470, 3) := by decide +kernel
theorem dX12_lasts_24 : decode cX12_lasts 24 = .ok (.ifCond .ne 9, 3) := by decide +kernel
theorem dX12_lasts_27 : decode cX12_lasts 27 = .ok (.aload_n 0, 1) := by decide +kernel
theorem dX12_lasts_28 : decode cX12_lasts 28 = .ok (.iconst 2, 1) := by decide +kernel
theorem dX12_lasts_29 : decode cX12_lasts 29 = .ok (.invokevirtual 292, 3) := by decide +kernel
theorem dX12_lasts_32 : decode cX12_lasts 32 = .ok (.ireturn, 1) := by decide +kernel
theorem dX12_lasts_33 : decode cX12_lasts 33 = .ok (.iload_n 2, 1) := by decide +kernel
theorem dX12_lasts_34 : decode cX12_lasts 34 = .ok (.istore 4, 2) := by decide +kernel
theorem dX12_lasts_36 : decode cX12_lasts 36 = .ok (.iload 4, 2) := by decide +kernel
theorem dX12_lasts_38 : decode cX12_lasts 38 = .ok (.iload_n 2, 1) := by decide +kernel
theorem dX12_lasts_39 : decode cX12_lasts 39 = .ok (.bipush 100, 2) := by decide +kernel
theorem dX12_lasts_41 : decode cX12_lasts 41 = .ok (.iadd, 1) := by decide +kernel
theorem dX12_lasts_42 : decode cX12_lasts 42 = .ok (.if_icmp .gt 23, 3) := by decide +kernel
theorem dX12_lasts_45 : decode cX12_lasts 45 = .ok (.aload_n 0, 1) := by decide +kernel
theorem dX12_lasts_46 : decode cX12_lasts 46 = .ok (.iload_n 1, 1) := by decide +kernel
theorem dX12_lasts_47 : decode cX12_lasts 47 = .ok (.iload 4, 2) := by decide +kernel
theorem dX12_lasts_49 : decode cX12_lasts 49 = .ok (.iload_n 3, 1) := by decide +kernel
theorem dX12_lasts_50 : decode cX12_lasts 50 = .ok (.invokevirtual 473, 3) := by decide +kernel
theorem dX12_lasts_53 : decode cX12_lasts 53 = .ok (.ifCond .le 6, 3) := by decide +kernel
theorem dX12_lasts_56 : decode cX12_lasts 56 = .ok (.iload 4, 2) := by decide +kernel
theorem dX12_lasts_58 : decode cX12_lasts 58 = .ok (.ireturn, 1) := by decide +kernel
theorem dX12_lasts_59 : decode cX12_lasts 59 = .ok (.iinc 4 1, 3) := by decide +kernel
theorem dX12_lasts_62 : decode cX12_lasts 62 = .ok (.goto (-26), 3) := by decide +kernel
theorem dX12_lasts_65 : decode cX12_lasts 65 = .ok (.iconst (-1), 1) := by decide +kernel
theorem dX12_lasts_66 : decode cX12_lasts 66 = .ok (.ireturn, 1) := by decide +kernel
theorem dX12_bands_0 : decode cX12_bands 0 = .ok (.aload_n 0, 1) := by decide +kernel
theorem dX12_bands_1 : decode cX12_bands 1 = .ok (.iconst 0, 1) := by decide +kernel
theorem dX12_bands_2 : decode cX12_bands 2 = .ok (.putfield 182, 3) := by decide +kernel
theorem dX12_bands_5 : decode cX12_bands 5 = .ok (.aload_n 0, 1) := by decide +kernel
theorem dX12_bands_6 : decode cX12_bands 6 = .ok (.iload_n 1, 1) := by decide +kernel
theorem dX12_bands_7 : decode cX12_bands 7 = .ok (.invokevirtual 321, 3) := by decide +kernel
theorem dX12_bands_10 : decode cX12_bands 10 = .ok (.ifCond .ne 9, 3) := by decide +kernel
theorem dX12_bands_13 : decode cX12_bands 13 = .ok (.aload_n 0, 1) := by decide +kernel
theorem dX12_bands_14 : decode cX12_bands 14 = .ok (.iconst 1, 1) := by decide +kernel
theorem dX12_bands_15 : decode cX12_bands 15 = .ok (.invokevirtual 292, 3) := by decide +kernel
theorem dX12_bands_18 : decode cX12_bands 18 = .ok (.ireturn, 1) := by decide +kernel
theorem dX12_bands_19 : decode cX12_bands 19 = .ok (.iload_n 2, 1) := by decide +kernel
theorem dX12_bands_20 : decode cX12_bands 20 = .ok (.iload_n 3, 1) := by decide +kernel
theorem dX12_bands_21 : decode cX12_bands 21 = .ok (.invokestatic 470, 3) := by decide +kernel
theorem dX12_bands_24 : decode cX12_bands 24 = .ok (.ifCond .eq 15, 3) := by decide +kernel
theorem dX12_bands_27 : decode cX12_bands 27 = .ok (.iload 4, 2) := by decide +kernel
theorem dX12_bands_29 : decode cX12_bands 29 = .ok (.iconst 1, 1) := by decide +kernel
theorem dX12_bands_30 : decode cX12_bands 30 = .ok (.sipush 9999, 3) := by decide +kernel
theorem dX12_bands_33 : decode cX12_bands 33 = .ok (.invokestatic 185, 3) := by decide +kernel
theorem dX12_bands_36 : decode cX12_bands 36 = .ok (.ifCond .ne 9, 3) := by decide +kernel
theorem dX12_bands_39 : decode cX12_bands 39 = .ok (.aload_n 0, 1) := by decide +kernel
theorem dX12_bands_40 : decode cX12_bands 40 = .ok (.iconst 2, 1) := by decide +kernel
theorem dX12_bands_41 : decode cX12_bands 41 = .ok (.invokevirtual 292, 3) := by decide +kernel
theorem dX12_bands_44 : decode cX12_bands 44 = .ok (.ireturn, 1) := by decide +kernel
theorem dX12_bands_45 : decode cX12_bands 45 = .ok (.aload_n 0, 1) := by decide +kernel
theorem dX12_bands_46 : decode cX12_bands 46 = .ok (.iload_n 1, 1) := by decide +kernel
theorem dX12_bands_47 : decode cX12_bands 47 = .ok (.iload_n 2, 1) := by decide +kernel
theorem dX12_bands_48 : decode cX12_bands 48 = .ok (.iload_n 3, 1) := by decide +kernel
theorem dX12_bands_49 : decode cX12_bands 49 = .ok (.invokevirtual 473, 3) := by decide +kernel
theorem dX12_bands_52 : decode cX12_bands 52 = .ok (.pop, 1) := by decide +kernel
theorem dX12_bands_53 : decode cX12_bands 53 = .ok (.iconst 0, 1) := by decide +kernel
theorem dX12_bands_54 : decode cX12_bands 54 = .ok (.istore 5, 2) := by decide +kernel
theorem dX12_bands_56 : decode cX12_bands 56 = .ok (.iconst 0, 1) := by decide +kernel
theorem dX12_bands_57 : decode cX12_bands 57 = .ok (.istore 6, 2) := by decide +kernel
theorem dX12_bands_59 : decode cX12_bands 59 = .ok (.iload 6, 2) := by decide +kernel
theorem dX12_bands_61 : decode cX12_bands 61 = .ok (.aload_n 0, 1) := by decide +kernel
theorem dX12_bands_62 : decode cX12_bands 62 = .ok (.getfield 38, 3) := by decide +kernel
theorem dX12_bands_65 : decode cX12_bands 65 = .ok (.iload_n 1, 1) := by decide +kernel
theorem dX12_bands_66 : decode cX12_bands 66 = .ok (.iaload, 1) := by decide +kernel
theorem dX12_bands_67 : decode cX12_bands 67 = .ok (.if_icmp .ge 92, 3) := by decide +kernel
theorem dX12_bands_70 : decode cX12_bands 70 = .ok (.aload_n 0, 1) := by decide +kernel
theorem dX12_bands_71 : decode cX12_bands 71 = .ok (.getfield 133, 3) := by decide +kernel
theorem dX12_bands_74 : decode cX12_bands 74 = .ok (.iload 6, 2) := by decide +kernel
theorem dX12_bands_76 : decode cX12_bands 76 = .ok (.iaload, 1) := by decide +kernel
theorem dX12_bands_77 : decode cX12_bands 77 = .ok (.ifCond .gt 6, 3) := by decide +kernel
theorem dX12_bands_80 : decode cX12_bands 80 = .ok (.goto 73, 3) := by decide +kernel
theorem dX12_bands_83 : decode cX12_bands 83 = .ok (.aload_n 0, 1) := by decide +kernel
theorem dX12_bands_84 : decode cX12_bands 84 = .ok (.getfield 133, 3) := by decide +kernel
theorem dX12_bands_87 : decode cX12_bands 87 = .ok (.iload 6, 2) := by decide +kernel
theorem dX12_bands_89 : decode cX12_bands 89 = .ok (.iaload, 1) := by decide +kernel
theorem dX12_bands_90 : decode cX12_bands 90 = .ok (.iload 4, 2) := by decide +kernel
theorem dX12_bands_92 : decode cX12_bands 92 = .ok (.iadd, 1) := by decide +kernel
theorem dX12_bands_93 : decode cX12_bands 93 = .ok (.iconst 1, 1) := by decide +kernel
theorem dX12_bands_94 : decode cX12_bands 94 = .ok (.isub, 1) := by decide +kernel
theorem dX12_bands_95 : decode cX12_bands 95 = .ok (.iload 4, 2) := by decide +kernel
theorem dX12_bands_97 : decode cX12_bands 97 = .ok (.idiv, 1) := by decide +kernel
theorem dX12_bands_98 : decode cX12_bands 98 = .ok (.istore 7, 2) := by decide +kernel
theorem dX12_bands_100 : decode cX12_bands 100 = .ok (.iload 5, 2) := by decide +kernel
theorem dX12_bands_102 : decode cX12_bands 102 = .ok (.iload 7, 2) := by decide +kernel
theorem dX12_bands_104 : decode cX12_bands 104 = .ok (.iadd, 1) := by decide +kernel
theorem dX12_bands_105 : decode cX12_bands 105 = .ok (.istore 5, 2) := by decide +kernel
theorem dX12_bands_107 : decode cX12_bands 107 = .ok (.iload 6, 2) := by decide +kernel
theorem dX12_bands_109 : decode cX12_bands 109 = .ok (.istore 8, 2) := by decide +kernel
theorem dX12_bands_111 : decode cX12_bands 111 = .ok (.iload 8, 2) := by decide +kernel
theorem dX12_bands_113 : decode cX12_bands 113 = .ok (.iload 6, 2) := by decide +kernel
theorem dX12_bands_115 : decode cX12_bands 115 = .ok (.bipush 10, 2) := by decide +kernel
theorem dX12_bands_117 : decode cX12_bands 117 = .ok (.iadd, 1) := by decide +kernel
theorem dX12_bands_118 : decode cX12_bands 118 = .ok (.if_icmp .gt 35, 3) := by decide +kernel
theorem dX12_bands_121 : decode cX12_bands 121 = .ok (.iload 8, 2) := by decide +kernel
theorem dX12_bands_123 : decode cX12_bands 123 = .ok (.aload_n 0, 1) := by decide +kernel
theorem dX12_bands_124 : decode cX12_bands 124 = .ok (.getfield 38, 3) := by decide +kernel
theorem dX12_bands_127 : decode cX12_bands 127 = .ok (.iload_n 1, 1) := by decide +kernel
theorem dX12_bands_128 : decode cX12_bands 128 = .ok (.iaload, 1) := by decide +kernel
theorem dX12_bands_129 : decode cX12_bands 129 = .ok (.if_icmp .ge 24, 3) := by decide +kernel
theorem dX12_bands_132 : decode cX12_bands 132 = .ok (.aload_n 0, 1) := by decide +kernel
theorem dX12_bands_133 : decode cX12_bands 133 = .ok (.getfield 133, 3) := by decide +kernel
theorem dX12_bands_136 : decode cX12_bands 136 = .ok (.iload 8, 2) := by decide +kernel
theorem dX12_bands_138 : decode cX12_bands 138 = .ok (.dup2, 1) := by decide +kernel
theorem dX12_bands_139 : decode cX12_bands 139 = .ok (.iaload, 1) := by decide +kernel
theorem dX12_bands_140 : decode cX12_bands 140 = .ok (.iload 7, 2) := by decide +kernel
theorem dX12_bands_142 : decode cX12_bands 142 = .ok (.iload 4, 2) := by decide +kernel
theorem dX12_bands_144 : decode cX12_bands 144 = .ok (.imul, 1) := by decide +kernel
theorem dX12_bands_145 : decode cX12_bands 145 = .ok (.isub, 1) := by decide +kernel
theorem dX12_bands_146 : decode cX12_bands 146 = .ok (.iastore, 1) := by decide +kernel
theorem dX12_bands_147 : decode cX12_bands 147 = .ok (.iinc 8 1, 3) := by decide +kernel
theorem dX12_bands_150 : decode cX12_bands 150 = .ok (.goto (-39), 3) := by decide +kernel
theorem dX12_bands_153 : decode cX12_bands 153 = .ok (.iinc 6 1, 3) := by decide +kernel
theorem dX12_bands_156 : decode cX12_bands 156 = .ok (.goto (-97), 3) := by decide +kernel
theorem dX12_bands_159 : decode cX12_bands 159 = .ok (.iload 5, 2) := by decide +kernel
theorem dX12_bands_161 : decode cX12_bands 161 = .ok (.ireturn, 1) := by decide +kernel
theorem dX12_risk_0 : decode cX12_risk 0 = .ok (.aload_n 0, 1) := by decide +kernel
theorem dX12_risk_1 : decode cX12_risk 1 = .ok (.iconst 0, 1) := by decide +kernel
theorem dX12_risk_2 : decode cX12_risk 2 = .ok (.putfield 182, 3) := by decide +kernel
theorem dX12_risk_5 : decode cX12_risk 5 = .ok (.aload_n 0, 1) := by decide +kernel
theorem dX12_risk_6 : decode cX12_risk 6 = .ok (.iload_n 1, 1) := by decide +kernel
theorem dX12_risk_7 : decode cX12_risk 7 = .ok (.invokevirtual 321, 3) := by decide +kernel
theorem dX12_risk_10 : decode cX12_risk 10 = .ok (.ifCond .ne 9, 3) := by decide +kernel
theorem dX12_risk_13 : decode cX12_risk 13 = .ok (.aload_n 0, 1) := by decide +kernel
theorem dX12_risk_14 : decode cX12_risk 14 = .ok (.iconst 1, 1) := by decide +kernel
theorem dX12_risk_15 : decode cX12_risk 15 = .ok (.invokevirtual 344, 3) := by decide +kernel
theorem dX12_risk_18 : decode cX12_risk 18 = .ok (.ireturn, 1) := by decide +kernel
theorem dX12_risk_19 : decode cX12_risk 19 = .ok (.iload_n 2, 1) := by decide +kernel
theorem dX12_risk_20 : decode cX12_risk 20 = .ok (.iconst 0, 1) := by decide +kernel
theorem dX12_risk_21 : decode cX12_risk 21 = .ok (.sipush 999, 3) := by decide +kernel
theorem dX12_risk_24 : decode cX12_risk 24 = .ok (.invokestatic 185, 3) := by decide +kernel
theorem dX12_risk_27 : decode cX12_risk 27 = .ok (.ifCond .eq 13, 3) := by decide +kernel
theorem dX12_risk_30 : decode cX12_risk 30 = .ok (.iload_n 3, 1) := by decide +kernel
theorem dX12_risk_31 : decode cX12_risk 31 = .ok (.iconst 1, 1) := by decide +kernel
theorem dX12_risk_32 : decode cX12_risk 32 = .ok (.bipush 99, 2) := by decide +kernel
theorem dX12_risk_34 : decode cX12_risk 34 = .ok (.invokestatic 185, 3) := by decide +kernel
theorem dX12_risk_37 : decode cX12_risk 37 = .ok (.ifCond .ne 5, 3) := by decide +kernel
theorem dX12_risk_40 : decode cX12_risk 40 = .ok (.iconst 0, 1) := by decide +kernel
theorem dX12_risk_41 : decode cX12_risk 41 = .ok (.ireturn, 1) := by decide +kernel
theorem dX12_risk_42 : decode cX12_risk 42 = .ok (.aload_n 0, 1) := by decide +kernel
theorem dX12_risk_43 : decode cX12_risk 43 = .ok (.getfield 136, 3) := by decide +kernel
theorem dX12_risk_46 : decode cX12_risk 46 = .ok (.iload_n 1, 1) := by decide +kernel
theorem dX12_risk_47 : decode cX12_risk 47 = .ok (.iload_n 2, 1) := by decide +kernel
theorem dX12_risk_48 : decode cX12_risk 48 = .ok (.iastore, 1) := by decide +kernel
theorem dX12_risk_49 : decode cX12_risk 49 = .ok (.aload_n 0, 1) := by decide +kernel
theorem dX12_risk_50 : decode cX12_risk 50 = .ok (.getfield 139, 3) := by decide +kernel
theorem dX12_risk_53 : decode cX12_risk 53 = .ok (.iload_n 1, 1) := by decide +kernel
theorem dX12_risk_54 : decode cX12_risk 54 = .ok (.iload_n 3, 1) := by decide +kernel
theorem dX12_risk_55 : decode cX12_risk 55 = .ok (.iastore, 1) := by decide +kernel
theorem dX12_risk_56 : decode cX12_risk 56 = .ok (.iconst 1, 1) := by decide +kernel
theorem dX12_risk_57 : decode cX12_risk 57 = .ok (.ireturn, 1) := by decide +kernel
theorem dX12_lead_0 : decode cX12_lead 0 = .ok (.aload_n 0, 1) := by decide +kernel
theorem dX12_lead_1 : decode cX12_lead 1 = .ok (.getfield 476, 3) := by decide +kernel
theorem dX12_lead_4 : decode cX12_lead 4 = .ok (.iconst (-1), 1) := by decide +kernel
theorem dX12_lead_5 : decode cX12_lead 5 = .ok (.if_icmp .eq 13, 3) := by decide +kernel
theorem dX12_lead_8 : decode cX12_lead 8 = .ok (.iload 4, 2) := by decide +kernel
theorem dX12_lead_10 : decode cX12_lead 10 = .ok (.aload_n 0, 1) := by decide +kernel
theorem dX12_lead_11 : decode cX12_lead 11 = .ok (.getfield 476, 3) := by decide +kernel
theorem dX12_lead_14 : decode cX12_lead 14 = .ok (.if_icmp .lt 4, 3) := by decide +kernel
theorem dX12_lead_17 : decode cX12_lead 17 = .ok (.return_, 1) := by decide +kernel
theorem dX12_lead_18 : decode cX12_lead 18 = .ok (.iload_n 1, 1) := by decide +kernel
theorem dX12_lead_19 : decode cX12_lead 19 = .ok (.ifCond .ne 44, 3) := by decide +kernel
theorem dX12_lead_22 : decode cX12_lead 22 = .ok (.aload_n 0, 1) := by decide +kernel
theorem dX12_lead_23 : decode cX12_lead 23 = .ok (.iload 4, 2) := by decide +kernel
theorem dX12_lead_25 : decode cX12_lead 25 = .ok (.putfield 476, 3) := by decide +kernel
theorem dX12_lead_28 : decode cX12_lead 28 = .ok (.aload_n 0, 1) := by decide +kernel
theorem dX12_lead_29 : decode cX12_lead 29 = .ok (.iload_n 2, 1) := by decide +kernel
theorem dX12_lead_30 : decode cX12_lead 30 = .ok (.putfield 302, 3) := by decide +kernel
theorem dX12_lead_33 : decode cX12_lead 33 = .ok (.iconst 0, 1) := by decide +kernel
theorem dX12_lead_34 : decode cX12_lead 34 = .ok (.istore 5, 2) := by decide +kernel
theorem dX12_lead_36 : decode cX12_lead 36 = .ok (.iload 5, 2) := by decide +kernel
theorem dX12_lead_38 : decode cX12_lead 38 = .ok (.iload_n 2, 1) := by decide +kernel
theorem dX12_lead_39 : decode cX12_lead 39 = .ok (.if_icmp .ge 23, 3) := by decide +kernel
theorem dX12_lead_42 : decode cX12_lead 42 = .ok (.aload_n 0, 1) := by decide +kernel
theorem dX12_lead_43 : decode cX12_lead 43 = .ok (.getfield 142, 3) := by decide +kernel
theorem dX12_lead_46 : decode cX12_lead 46 = .ok (.iload 5, 2) := by decide +kernel
theorem dX12_lead_48 : decode cX12_lead 48 = .ok (.aload_n 0, 1) := by decide +kernel
theorem dX12_lead_49 : decode cX12_lead 49 = .ok (.getfield 145, 3) := by decide +kernel
theorem dX12_lead_52 : decode cX12_lead 52 = .ok (.iload 5, 2) := by decide +kernel
theorem dX12_lead_54 : decode cX12_lead 54 = .ok (.iaload, 1) := by decide +kernel
theorem dX12_lead_55 : decode cX12_lead 55 = .ok (.iastore, 1) := by decide +kernel
theorem dX12_lead_56 : decode cX12_lead 56 = .ok (.iinc 5 1, 3) := by decide +kernel
theorem dX12_lead_59 : decode cX12_lead 59 = .ok (.goto (-23), 3) := by decide +kernel
theorem dX12_lead_62 : decode cX12_lead 62 = .ok (.return_, 1) := by decide +kernel
theorem dX12_lead_63 : decode cX12_lead 63 = .ok (.iconst 0, 1) := by decide +kernel
theorem dX12_lead_64 : decode cX12_lead 64 = .ok (.istore 5, 2) := by decide +kernel
theorem dX12_lead_66 : decode cX12_lead 66 = .ok (.iload 5, 2) := by decide +kernel
theorem dX12_lead_68 : decode cX12_lead 68 = .ok (.bipush 12, 2) := by decide +kernel
theorem dX12_lead_70 : decode cX12_lead 70 = .ok (.if_icmp .ge 98, 3) := by decide +kernel
theorem dX12_lead_73 : decode cX12_lead 73 = .ok (.iload_n 1, 1) := by decide +kernel
theorem dX12_lead_74 : decode cX12_lead 74 = .ok (.iload 5, 2) := by decide +kernel
theorem dX12_lead_76 : decode cX12_lead 76 = .ok (.ishr, 1) := by decide +kernel
theorem dX12_lead_77 : decode cX12_lead 77 = .ok (.iconst 1, 1) := by decide +kernel
theorem dX12_lead_78 : decode cX12_lead 78 = .ok (.iand, 1) := by decide +kernel
theorem dX12_lead_79 : decode cX12_lead 79 = .ok (.ifCond .ne 6, 3) := by decide +kernel
theorem dX12_lead_82 : decode cX12_lead 82 = .ok (.goto 80, 3) := by decide +kernel
theorem dX12_lead_85 : decode cX12_lead 85 = .ok (.iload_n 3, 1) := by decide +kernel
theorem dX12_lead_86 : decode cX12_lead 86 = .ok (.aload_n 0, 1) := by decide +kernel
theorem dX12_lead_87 : decode cX12_lead 87 = .ok (.getfield 139, 3) := by decide +kernel
theorem dX12_lead_90 : decode cX12_lead 90 = .ok (.iload 5, 2) := by decide +kernel
theorem dX12_lead_92 : decode cX12_lead 92 = .ok (.iaload, 1) := by decide +kernel
theorem dX12_lead_93 : decode cX12_lead 93 = .ok (.iadd, 1) := by decide +kernel
theorem dX12_lead_94 : decode cX12_lead 94 = .ok (.iload_n 2, 1) := by decide +kernel
theorem dX12_lead_95 : decode cX12_lead 95 = .ok (.ifCond .ne 7, 3) := by decide +kernel
theorem dX12_lead_98 : decode cX12_lead 98 = .ok (.iconst 0, 1) := by decide +kernel
theorem dX12_lead_99 : decode cX12_lead 99 = .ok (.goto 22, 3) := by decide +kernel
theorem dX12_lead_102 : decode cX12_lead 102 = .ok (.aload_n 0, 1) := by decide +kernel
theorem dX12_lead_103 : decode cX12_lead 103 = .ok (.getfield 45, 3) := by decide +kernel
theorem dX12_lead_106 : decode cX12_lead 106 = .ok (.bipush 12, 2) := by decide +kernel
theorem dX12_lead_108 : decode cX12_lead 108 = .ok (.aload_n 0, 1) := by decide +kernel
theorem dX12_lead_109 : decode cX12_lead 109 = .ok (.getfield 145, 3) := by decide +kernel
theorem dX12_lead_112 : decode cX12_lead 112 = .ok (.iload_n 2, 1) := by decide +kernel
theorem dX12_lead_113 : decode cX12_lead 113 = .ok (.iconst 1, 1) := by decide +kernel
theorem dX12_lead_114 : decode cX12_lead 114 = .ok (.isub, 1) := by decide +kernel
theorem dX12_lead_115 : decode cX12_lead 115 = .ok (.iaload, 1) := by decide +kernel
theorem dX12_lead_116 : decode cX12_lead 116 = .ok (.imul, 1) := by decide +kernel
theorem dX12_lead_117 : decode cX12_lead 117 = .ok (.iload 5, 2) := by decide +kernel
theorem dX12_lead_119 : decode cX12_lead 119 = .ok (.iadd, 1) := by decide +kernel
theorem dX12_lead_120 : decode cX12_lead 120 = .ok (.iaload, 1) := by decide +kernel
theorem dX12_lead_121 : decode cX12_lead 121 = .ok (.iadd, 1) := by decide +kernel
theorem dX12_lead_122 : decode cX12_lead 122 = .ok (.istore 6, 2) := by decide +kernel
theorem dX12_lead_124 : decode cX12_lead 124 = .ok (.aload_n 0, 1) := by decide +kernel
theorem dX12_lead_125 : decode cX12_lead 125 = .ok (.getfield 145, 3) := by decide +kernel
theorem dX12_lead_128 : decode cX12_lead 128 = .ok (.iload_n 2, 1) := by decide +kernel
theorem dX12_lead_129 : decode cX12_lead 129 = .ok (.iload 5, 2) := by decide +kernel
theorem dX12_lead_131 : decode cX12_lead 131 = .ok (.iastore, 1) := by decide +kernel
theorem dX12_lead_132 : decode cX12_lead 132 = .ok (.aload_n 0, 1) := by decide +kernel
theorem dX12_lead_133 : decode cX12_lead 133 = .ok (.iload_n 1, 1) := by decide +kernel
theorem dX12_lead_134 : decode cX12_lead 134 = .ok (.iconst 1, 1) := by decide +kernel
theorem dX12_lead_135 : decode cX12_lead 135 = .ok (.iload 5, 2) := by decide +kernel
theorem dX12_lead_137 : decode cX12_lead 137 = .ok (.ishl, 1) := by decide +kernel
theorem dX12_lead_138 : decode cX12_lead 138 = .ok (.iconst (-1), 1) := by decide +kernel
theorem dX12_lead_139 : decode cX12_lead 139 = .ok (.ixor, 1) := by decide +kernel
theorem dX12_lead_140 : decode cX12_lead 140 = .ok (.iand, 1) := by decide +kernel
theorem dX12_lead_141 : decode cX12_lead 141 = .ok (.iload_n 2, 1) := by decide +kernel
theorem dX12_lead_142 : decode cX12_lead 142 = .ok (.iconst 1, 1) := by decide +kernel
theorem dX12_lead_143 : decode cX12_lead 143 = .ok (.iadd, 1) := by decide +kernel
theorem dX12_lead_144 : decode cX12_lead 144 = .ok (.iload 6, 2) := by decide +kernel
theorem dX12_lead_146 : decode cX12_lead 146 = .ok (.iload 4, 2) := by decide +kernel
theorem dX12_lead_148 : decode cX12_lead 148 = .ok (.aload_n 0, 1) := by decide +kernel
theorem dX12_lead_149 : decode cX12_lead 149 = .ok (.getfield 136, 3) := by decide +kernel
theorem dX12_lead_152 : decode cX12_lead 152 = .ok (.iload 5, 2) := by decide +kernel
theorem dX12_lead_154 : decode cX12_lead 154 = .ok (.iaload, 1) := by decide +kernel
theorem dX12_lead_155 : decode cX12_lead 155 = .ok (.iload 6, 2) := by decide +kernel
theorem dX12_lead_157 : decode cX12_lead 157 = .ok (.imul, 1) := by decide +kernel
theorem dX12_lead_158 : decode cX12_lead 158 = .ok (.iadd, 1) := by decide +kernel
theorem dX12_lead_159 : decode cX12_lead 159 = .ok (.invokevirtual 479, 3) := by decide +kernel
theorem dX12_lead_162 : decode cX12_lead 162 = .ok (.iinc 5 1, 3) := by decide +kernel
theorem dX12_lead_165 : decode cX12_lead 165 = .ok (.goto (-99), 3) := by decide +kernel
theorem dX12_lead_168 : decode cX12_lead 168 = .ok (.return_, 1) := by decide +kernel
theorem dX12_order_0 : decode cX12_order 0 = .ok (.aload_n 0, 1) := by decide +kernel
theorem dX12_order_1 : decode cX12_order 1 = .ok (.iconst 0, 1) := by decide +kernel
theorem dX12_order_2 : decode cX12_order 2 = .ok (.putfield 182, 3) := by decide +kernel
theorem dX12_order_5 : decode cX12_order 5 = .ok (.iload_n 1, 1) := by decide +kernel
theorem dX12_order_6 : decode cX12_order 6 = .ok (.ifCond .le 23, 3) := by decide +kernel
theorem dX12_order_9 : decode cX12_order 9 = .ok (.iload_n 1, 1) := by decide +kernel
theorem dX12_order_10 : decode cX12_order 10 = .ok (.aload_n 0, 1) := by decide +kernel
theorem dX12_order_11 : decode cX12_order 11 = .ok (.getfield 25, 3) := by decide +kernel
theorem dX12_order_14 : decode cX12_order 14 = .ok (.iconst 0, 1) := by decide +kernel
theorem dX12_order_15 : decode cX12_order 15 = .ok (.iaload, 1) := by decide +kernel
theorem dX12_order_16 : decode cX12_order 16 = .ok (.ishr, 1) := by decide +kernel
theorem dX12_order_17 : decode cX12_order 17 = .ok (.ifCond .ne 12, 3) := by decide +kernel
theorem dX12_order_20 : decode cX12_order 20 = .ok (.iload_n 1, 1) := by decide +kernel
theorem dX12_order_21 : decode cX12_order 21 = .ok (.invokestatic 393, 3) := by decide +kernel
theorem dX12_order_24 : decode cX12_order 24 = .ok (.bipush 9, 2) := by decide +kernel
theorem dX12_order_26 : decode cX12_order 26 = .ok (.if_icmp .le 5, 3) := by decide +kernel
theorem dX12_order_29 : decode cX12_order 29 = .ok (.iconst (-1), 1) := by decide +kernel
theorem dX12_order_30 : decode cX12_order 30 = .ok (.ireturn, 1) := by decide +kernel
theorem dX12_order_31 : decode cX12_order 31 = .ok (.aload_n 0, 1) := by decide +kernel
theorem dX12_order_32 : decode cX12_order 32 = .ok (.iconst (-1), 1) := by decide +kernel
theorem dX12_order_33 : decode cX12_order 33 = .ok (.putfield 476, 3) := by decide +kernel
theorem dX12_order_36 : decode cX12_order 36 = .ok (.aload_n 0, 1) := by decide +kernel
theorem dX12_order_37 : decode cX12_order 37 = .ok (.iload_n 1, 1) := by decide +kernel
theorem dX12_order_38 : decode cX12_order 38 = .ok (.iconst 0, 1) := by decide +kernel
theorem dX12_order_39 : decode cX12_order 39 = .ok (.iconst 0, 1) := by decide +kernel
theorem dX12_order_40 : decode cX12_order 40 = .ok (.iconst 0, 1) := by decide +kernel
theorem dX12_order_41 : decode cX12_order 41 = .ok (.invokevirtual 479, 3) := by decide +kernel
theorem dX12_order_44 : decode cX12_order 44 = .ok (.aload_n 0, 1) := by decide +kernel
theorem dX12_order_45 : decode cX12_order 45 = .ok (.getfield 476, 3) := by decide +kernel
theorem dX12_order_48 : decode cX12_order 48 = .ok (.ireturn, 1) := by decide +kernel
theorem dX12_ordered_0 : decode cX12_ordered 0 = .ok (.aload_n 0, 1) := by decide +kernel
theorem dX12_ordered_1 : decode cX12_ordered 1 = .ok (.iconst 0, 1) := by decide +kernel
theorem dX12_ordered_2 : decode cX12_ordered 2 = .ok (.putfield 182, 3) := by decide +kernel
theorem dX12_ordered_5 : decode cX12_ordered 5 = .ok (.iload_n 1, 1) := by decide +kernel
theorem dX12_ordered_6 : decode cX12_ordered 6 = .ok (.iconst 0, 1) := by decide +kernel
theorem dX12_ordered_7 : decode cX12_ordered 7 = .ok (.aload_n 0, 1) := by decide +kernel
theorem dX12_ordered_8 : decode cX12_ordered 8 = .ok (.getfield 302, 3) := by decide +kernel
theorem dX12_ordered_11 : decode cX12_ordered 11 = .ok (.iconst 1, 1) := by decide +kernel
theorem dX12_ordered_12 : decode cX12_ordered 12 = .ok (.isub, 1) := by decide +kernel
theorem dX12_ordered_13 : decode cX12_ordered 13 = .ok (.invokestatic 185, 3) := by decide +kernel
theorem dX12_ordered_16 : decode cX12_ordered 16 = .ok (.ifCond .eq 12, 3) := by decide +kernel
theorem dX12_ordered_19 : decode cX12_ordered 19 = .ok (.aload_n 0, 1) := by decide +kernel
theorem dX12_ordered_20 : decode cX12_ordered 20 = .ok (.getfield 142, 3) := by decide +kernel
theorem dX12_ordered_23 : decode cX12_ordered 23 = .ok (.iload_n 1, 1) := by decide +kernel
theorem dX12_ordered_24 : decode cX12_ordered 24 = .ok (.iaload, 1) := by decide +kernel
theorem dX12_ordered_25 : decode cX12_ordered 25 = .ok (.goto 8, 3) := by decide +kernel
theorem dX12_ordered_28 : decode cX12_ordered 28 = .ok (.aload_n 0, 1) := by decide +kernel
theorem dX12_ordered_29 : decode cX12_ordered 29 = .ok (.iconst 1, 1) := by decide +kernel
theorem dX12_ordered_30 : decode cX12_ordered 30 = .ok (.invokevirtual 292, 3) := by decide +kernel
theorem dX12_ordered_33 : decode cX12_ordered 33 = .ok (.ireturn, 1) := by decide +kernel
theorem dX12_laddersTo_0 : decode cX12_laddersTo 0 = .ok (.iload_n 0, 1) := by decide +kernel
theorem dX12_laddersTo_1 : decode cX12_laddersTo 1 = .ok (.iload_n 1, 1) := by decide +kernel
theorem dX12_laddersTo_2 : decode cX12_laddersTo 2 = .ok (.if_icmp .gt 7, 3) := by decide +kernel
theorem dX12_laddersTo_5 : decode cX12_laddersTo 5 = .ok (.iconst 1, 1) := by decide +kernel
theorem dX12_laddersTo_6 : decode cX12_laddersTo 6 = .ok (.goto 16, 3) := by decide +kernel
theorem dX12_laddersTo_9 : decode cX12_laddersTo 9 = .ok (.iconst 1, 1) := by decide +kernel
theorem dX12_laddersTo_10 : decode cX12_laddersTo 10 = .ok (.iload_n 0, 1) := by decide +kernel
theorem dX12_laddersTo_11 : decode cX12_laddersTo 11 = .ok (.iload_n 1, 1) := by decide +kernel
theorem dX12_laddersTo_12 : decode cX12_laddersTo 12 = .ok (.isub, 1) := by decide +kernel
theorem dX12_laddersTo_13 : decode cX12_laddersTo 13 = .ok (.iload_n 1, 1) := by decide +kernel
theorem dX12_laddersTo_14 : decode cX12_laddersTo 14 = .ok (.iadd, 1) := by decide +kernel
theorem dX12_laddersTo_15 : decode cX12_laddersTo 15 = .ok (.iconst 3, 1) := by decide +kernel
theorem dX12_laddersTo_16 : decode cX12_laddersTo 16 = .ok (.isub, 1) := by decide +kernel
theorem dX12_laddersTo_17 : decode cX12_laddersTo 17 = .ok (.iload_n 1, 1) := by decide +kernel
theorem dX12_laddersTo_18 : decode cX12_laddersTo 18 = .ok (.iconst 2, 1) := by decide +kernel
theorem dX12_laddersTo_19 : decode cX12_laddersTo 19 = .ok (.isub, 1) := by decide +kernel
theorem dX12_laddersTo_20 : decode cX12_laddersTo 20 = .ok (.idiv, 1) := by decide +kernel
theorem dX12_laddersTo_21 : decode cX12_laddersTo 21 = .ok (.iadd, 1) := by decide +kernel
theorem dX12_laddersTo_22 : decode cX12_laddersTo 22 = .ok (.ireturn, 1) := by decide +kernel
theorem dX12_ladders_0 : decode cX12_ladders 0 = .ok (.aload_n 0, 1) := by decide +kernel
theorem dX12_ladders_1 : decode cX12_ladders 1 = .ok (.iconst 0, 1) := by decide +kernel
theorem dX12_ladders_2 : decode cX12_ladders 2 = .ok (.putfield 182, 3) := by decide +kernel
theorem dX12_ladders_5 : decode cX12_ladders 5 = .ok (.aload_n 0, 1) := by decide +kernel
theorem dX12_ladders_6 : decode cX12_ladders 6 = .ok (.iload_n 1, 1) := by decide +kernel
theorem dX12_ladders_7 : decode cX12_ladders 7 = .ok (.invokevirtual 321, 3) := by decide +kernel
theorem dX12_ladders_10 : decode cX12_ladders 10 = .ok (.ifCond .ne 9, 3) := by decide +kernel
theorem dX12_ladders_13 : decode cX12_ladders 13 = .ok (.aload_n 0, 1) := by decide +kernel
theorem dX12_ladders_14 : decode cX12_ladders 14 = .ok (.iconst 1, 1) := by decide +kernel
theorem dX12_ladders_15 : decode cX12_ladders 15 = .ok (.invokevirtual 292, 3) := by decide +kernel
theorem dX12_ladders_18 : decode cX12_ladders 18 = .ok (.ireturn, 1) := by decide +kernel
theorem dX12_ladders_19 : decode cX12_ladders 19 = .ok (.iload_n 2, 1) := by decide +kernel
theorem dX12_ladders_20 : decode cX12_ladders 20 = .ok (.iconst 3, 1) := by decide +kernel
theorem dX12_ladders_21 : decode cX12_ladders 21 = .ok (.bipush 99, 2) := by decide +kernel
theorem dX12_ladders_23 : decode cX12_ladders 23 = .ok (.invokestatic 185, 3) := by decide +kernel
theorem dX12_ladders_26 : decode cX12_ladders 26 = .ok (.ifCond .eq 16, 3) := by decide +kernel
theorem dX12_ladders_29 : decode cX12_ladders 29 = .ok (.aload_n 0, 1) := by decide +kernel
theorem dX12_ladders_30 : decode cX12_ladders 30 = .ok (.getfield 38, 3) := by decide +kernel
theorem dX12_ladders_33 : decode cX12_ladders 33 = .ok (.iload_n 1, 1) := by decide +kernel
theorem dX12_ladders_34 : decode cX12_ladders 34 = .ok (.iaload, 1) := by decide +kernel
theorem dX12_ladders_35 : decode cX12_ladders 35 = .ok (.iload_n 2, 1) := by decide +kernel
theorem dX12_ladders_36 : decode cX12_ladders 36 = .ok (.invokestatic 482, 3) := by decide +kernel
theorem dX12_ladders_39 : decode cX12_ladders 39 = .ok (.goto 8, 3) := by decide +kernel
theorem dX12_ladders_42 : decode cX12_ladders 42 = .ok (.aload_n 0, 1) := by decide +kernel
theorem dX12_ladders_43 : decode cX12_ladders 43 = .ok (.iconst 2, 1) := by decide +kernel
theorem dX12_ladders_44 : decode cX12_ladders 44 = .ok (.invokevirtual 292, 3) := by decide +kernel
theorem dX12_ladders_47 : decode cX12_ladders 47 = .ok (.ireturn, 1) := by decide +kernel
theorem dX12_out_0 : decode cX12_out 0 = .ok (.aload_n 0, 1) := by decide +kernel
theorem dX12_out_1 : decode cX12_out 1 = .ok (.iconst 0, 1) := by decide +kernel
theorem dX12_out_2 : decode cX12_out 2 = .ok (.putfield 182, 3) := by decide +kernel
theorem dX12_out_5 : decode cX12_out 5 = .ok (.iload_n 1, 1) := by decide +kernel
theorem dX12_out_6 : decode cX12_out 6 = .ok (.iconst 0, 1) := by decide +kernel
theorem dX12_out_7 : decode cX12_out 7 = .ok (.sipush 200, 3) := by decide +kernel
theorem dX12_out_10 : decode cX12_out 10 = .ok (.invokestatic 185, 3) := by decide +kernel
theorem dX12_out_13 : decode cX12_out 13 = .ok (.ifCond .eq 13, 3) := by decide +kernel
theorem dX12_out_16 : decode cX12_out 16 = .ok (.iload_n 2, 1) := by decide +kernel
theorem dX12_out_17 : decode cX12_out 17 = .ok (.iconst 3, 1) := by decide +kernel
theorem dX12_out_18 : decode cX12_out 18 = .ok (.bipush 99, 2) := by decide +kernel
theorem dX12_out_20 : decode cX12_out 20 = .ok (.invokestatic 185, 3) := by decide +kernel
theorem dX12_out_23 : decode cX12_out 23 = .ok (.ifCond .ne 9, 3) := by decide +kernel
theorem dX12_out_26 : decode cX12_out 26 = .ok (.aload_n 0, 1) := by decide +kernel
theorem dX12_out_27 : decode cX12_out 27 = .ok (.iconst 1, 1) := by decide +kernel
theorem dX12_out_28 : decode cX12_out 28 = .ok (.invokevirtual 292, 3) := by decide +kernel
theorem dX12_out_31 : decode cX12_out 31 = .ok (.ireturn, 1) := by decide +kernel
theorem dX12_out_32 : decode cX12_out 32 = .ok (.iconst 0, 1) := by decide +kernel
theorem dX12_out_33 : decode cX12_out 33 = .ok (.istore_n 3, 1) := by decide +kernel
theorem dX12_out_34 : decode cX12_out 34 = .ok (.iconst (-1), 1) := by decide +kernel
theorem dX12_out_35 : decode cX12_out 35 = .ok (.istore 4, 2) := by decide +kernel
theorem dX12_out_37 : decode cX12_out 37 = .ok (.iconst 0, 1) := by decide +kernel
theorem dX12_out_38 : decode cX12_out 38 = .ok (.istore 5, 2) := by decide +kernel
theorem dX12_out_40 : decode cX12_out 40 = .ok (.iload 5, 2) := by decide +kernel
theorem dX12_out_42 : decode cX12_out 42 = .ok (.iconst 1, 1) := by decide +kernel
theorem dX12_out_43 : decode cX12_out 43 = .ok (.aload_n 0, 1) := by decide +kernel
theorem dX12_out_44 : decode cX12_out 44 = .ok (.getfield 25, 3) := by decide +kernel
theorem dX12_out_47 : decode cX12_out 47 = .ok (.iconst 0, 1) := by decide +kernel
theorem dX12_out_48 : decode cX12_out 48 = .ok (.iaload, 1) := by decide +kernel
theorem dX12_out_49 : decode cX12_out 49 = .ok (.ishl, 1) := by decide +kernel
theorem dX12_out_50 : decode cX12_out 50 = .ok (.if_icmp .ge 116, 3) := by decide +kernel
theorem dX12_out_53 : decode cX12_out 53 = .ok (.iconst 0, 1) := by decide +kernel
theorem dX12_out_54 : decode cX12_out 54 = .ok (.istore 6, 2) := by decide +kernel
theorem dX12_out_56 : decode cX12_out 56 = .ok (.iconst 0, 1) := by decide +kernel
theorem dX12_out_57 : decode cX12_out 57 = .ok (.istore 7, 2) := by decide +kernel
theorem dX12_out_59 : decode cX12_out 59 = .ok (.iconst 0, 1) := by decide +kernel
theorem dX12_out_60 : decode cX12_out 60 = .ok (.istore 8, 2) := by decide +kernel
theorem dX12_out_62 : decode cX12_out 62 = .ok (.iload 8, 2) := by decide +kernel
theorem dX12_out_64 : decode cX12_out 64 = .ok (.aload_n 0, 1) := by decide +kernel
theorem dX12_out_65 : decode cX12_out 65 = .ok (.getfield 25, 3) := by decide +kernel
theorem dX12_out_68 : decode cX12_out 68 = .ok (.iconst 0, 1) := by decide +kernel
theorem dX12_out_69 : decode cX12_out 69 = .ok (.iaload, 1) := by decide +kernel
theorem dX12_out_70 : decode cX12_out 70 = .ok (.if_icmp .ge 50, 3) := by decide +kernel
theorem dX12_out_73 : decode cX12_out 73 = .ok (.iload 5, 2) := by decide +kernel
theorem dX12_out_75 : decode cX12_out 75 = .ok (.iload 8, 2) := by decide +kernel
theorem dX12_out_77 : decode cX12_out 77 = .ok (.ishr, 1) := by decide +kernel
theorem dX12_out_78 : decode cX12_out 78 = .ok (.iconst 1, 1) := by decide +kernel
theorem dX12_out_79 : decode cX12_out 79 = .ok (.iand, 1) := by decide +kernel
theorem dX12_out_80 : decode cX12_out 80 = .ok (.ifCond .ne 6, 3) := by decide +kernel
theorem dX12_out_83 : decode cX12_out 83 = .ok (.goto 31, 3) := by decide +kernel
theorem dX12_out_86 : decode cX12_out 86 = .ok (.iload 6, 2) := by decide +kernel
theorem dX12_out_88 : decode cX12_out 88 = .ok (.aload_n 0, 1) := by decide +kernel
theorem dX12_out_89 : decode cX12_out 89 = .ok (.getfield 38, 3) := by decide +kernel
theorem dX12_out_92 : decode cX12_out 92 = .ok (.iload 8, 2) := by decide +kernel
theorem dX12_out_94 : decode cX12_out 94 = .ok (.iaload, 1) := by decide +kernel
theorem dX12_out_95 : decode cX12_out 95 = .ok (.iload_n 2, 1) := by decide +kernel
theorem dX12_out_96 : decode cX12_out 96 = .ok (.invokestatic 482, 3) := by decide +kernel
theorem dX12_out_99 : decode cX12_out 99 = .ok (.iadd, 1) := by decide +kernel
theorem dX12_out_100 : decode cX12_out 100 = .ok (.istore 6, 2) := by decide +kernel
theorem dX12_out_102 : decode cX12_out 102 = .ok (.iload 7, 2) := by decide +kernel
theorem dX12_out_104 : decode cX12_out 104 = .ok (.aload_n 0, 1) := by decide +kernel
theorem dX12_out_105 : decode cX12_out 105 = .ok (.getfield 38, 3) := by decide +kernel
theorem dX12_out_108 : decode cX12_out 108 = .ok (.iload 8, 2) := by decide +kernel
theorem dX12_out_110 : decode cX12_out 110 = .ok (.iaload, 1) := by decide +kernel
theorem dX12_out_111 : decode cX12_out 111 = .ok (.iadd, 1) := by decide +kernel
theorem dX12_out_112 : decode cX12_out 112 = .ok (.istore 7, 2) := by decide +kernel
theorem dX12_out_114 : decode cX12_out 114 = .ok (.iinc 8 1, 3) := by decide +kernel
theorem dX12_out_117 : decode cX12_out 117 = .ok (.goto (-55), 3) := by decide +kernel
theorem dX12_out_120 : decode cX12_out 120 = .ok (.iload 6, 2) := by decide +kernel
theorem dX12_out_122 : decode cX12_out 122 = .ok (.iload_n 1, 1) := by decide +kernel
theorem dX12_out_123 : decode cX12_out 123 = .ok (.if_icmp .gt 37, 3) := by decide +kernel
theorem dX12_out_126 : decode cX12_out 126 = .ok (.iload 7, 2) := by decide +kernel
theorem dX12_out_128 : decode cX12_out 128 = .ok (.iload 4, 2) := by decide +kernel
theorem dX12_out_130 : decode cX12_out 130 = .ok (.if_icmp .lt 30, 3) := by decide +kernel
theorem dX12_out_133 : decode cX12_out 133 = .ok (.iload 7, 2) := by decide +kernel
theorem dX12_out_135 : decode cX12_out 135 = .ok (.iload 4, 2) := by decide +kernel
theorem dX12_out_137 : decode cX12_out 137 = .ok (.if_icmp .ne 16, 3) := by decide +kernel
theorem dX12_out_140 : decode cX12_out 140 = .ok (.aload_n 0, 1) := by decide +kernel
theorem dX12_out_141 : decode cX12_out 141 = .ok (.iload 5, 2) := by decide +kernel
theorem dX12_out_143 : decode cX12_out 143 = .ok (.iload_n 3, 1) := by decide +kernel
theorem dX12_out_144 : decode cX12_out 144 = .ok (.invokevirtual 485, 3) := by decide +kernel
theorem dX12_out_147 : decode cX12_out 147 = .ok (.ifCond .ne 6, 3) := by decide +kernel
theorem dX12_out_150 : decode cX12_out 150 = .ok (.goto 10, 3) := by decide +kernel
theorem dX12_out_153 : decode cX12_out 153 = .ok (.iload 5, 2) := by decide +kernel
theorem dX12_out_155 : decode cX12_out 155 = .ok (.istore_n 3, 1) := by decide +kernel
theorem dX12_out_156 : decode cX12_out 156 = .ok (.iload 7, 2) := by decide +kernel
theorem dX12_out_158 : decode cX12_out 158 = .ok (.istore 4, 2) := by decide +kernel
theorem dX12_out_160 : decode cX12_out 160 = .ok (.iinc 5 1, 3) := by decide +kernel
theorem dX12_out_163 : decode cX12_out 163 = .ok (.goto (-123), 3) := by decide +kernel
theorem dX12_out_166 : decode cX12_out 166 = .ok (.iload_n 3, 1) := by decide +kernel
theorem dX12_out_167 : decode cX12_out 167 = .ok (.ireturn, 1) := by decide +kernel
theorem dX12_isAhead_0 : decode cX12_isAhead 0 = .ok (.iconst 0, 1) := by decide +kernel
theorem dX12_isAhead_1 : decode cX12_isAhead 1 = .ok (.istore_n 3, 1) := by decide +kernel
theorem dX12_isAhead_2 : decode cX12_isAhead 2 = .ok (.iload_n 3, 1) := by decide +kernel
theorem dX12_isAhead_3 : decode cX12_isAhead 3 = .ok (.bipush 12, 2) := by decide +kernel
theorem dX12_isAhead_5 : decode cX12_isAhead 5 = .ok (.if_icmp .ge 37, 3) := by decide +kernel
theorem dX12_isAhead_8 : decode cX12_isAhead 8 = .ok (.iload_n 1, 1) := by decide +kernel
theorem dX12_isAhead_9 : decode cX12_isAhead 9 = .ok (.iload_n 3, 1) := by decide +kernel
theorem dX12_isAhead_10 : decode cX12_isAhead 10 = .ok (.ishr, 1) := by decide +kernel
theorem dX12_isAhead_11 : decode cX12_isAhead 11 = .ok (.iconst 1, 1) := by decide +kernel
theorem dX12_isAhead_12 : decode cX12_isAhead 12 = .ok (.iand, 1) := by decide +kernel
theorem dX12_isAhead_13 : decode cX12_isAhead 13 = .ok (.iload_n 2, 1) := by decide +kernel
theorem dX12_isAhead_14 : decode cX12_isAhead 14 = .ok (.iload_n 3, 1) := by decide +kernel
theorem dX12_isAhead_15 : decode cX12_isAhead 15 = .ok (.ishr, 1) := by decide +kernel
theorem dX12_isAhead_16 : decode cX12_isAhead 16 = .ok (.iconst 1, 1) := by decide +kernel
theorem dX12_isAhead_17 : decode cX12_isAhead 17 = .ok (.iand, 1) := by decide +kernel
theorem dX12_isAhead_18 : decode cX12_isAhead 18 = .ok (.if_icmp .eq 18, 3) := by decide +kernel
theorem dX12_isAhead_21 : decode cX12_isAhead 21 = .ok (.iload_n 1, 1) := by decide +kernel
theorem dX12_isAhead_22 : decode cX12_isAhead 22 = .ok (.iload_n 3, 1) := by decide +kernel
theorem dX12_isAhead_23 : decode cX12_isAhead 23 = .ok (.ishr, 1) := by decide +kernel
theorem dX12_isAhead_24 : decode cX12_isAhead 24 = .ok (.iconst 1, 1) := by decide +kernel
theorem dX12_isAhead_25 : decode cX12_isAhead 25 = .ok (.iand, 1) := by decide +kernel
theorem dX12_isAhead_26 : decode cX12_isAhead 26 = .ok (.iconst 1, 1) := by decide +kernel
theorem dX12_isAhead_27 : decode cX12_isAhead 27 = .ok (.if_icmp .ne 7, 3) := by decide +kernel
theorem dX12_isAhead_30 : decode cX12_isAhead 30 = .ok (.iconst 1, 1) := by decide +kernel
theorem dX12_isAhead_31 : decode cX12_isAhead 31 = .ok (.goto 4, 3) := by decide +kernel
theorem dX12_isAhead_34 : decode cX12_isAhead 34 = .ok (.iconst 0, 1) := by decide +kernel
theorem dX12_isAhead_35 : decode cX12_isAhead 35 = .ok (.ireturn, 1) := by decide +kernel
theorem dX12_isAhead_36 : decode cX12_isAhead 36 = .ok (.iinc 3 1, 3) := by decide +kernel
theorem dX12_isAhead_39 : decode cX12_isAhead 39 = .ok (.goto (-37), 3) := by decide +kernel
theorem dX12_isAhead_42 : decode cX12_isAhead 42 = .ok (.iconst 0, 1) := by decide +kernel
theorem dX12_isAhead_43 : decode cX12_isAhead 43 = .ok (.ireturn, 1) := by decide +kernel
theorem dX12_share_0 : decode cX12_share 0 = .ok (.iconst 0, 1) := by decide +kernel
theorem dX12_share_1 : decode cX12_share 1 = .ok (.istore_n 3, 1) := by decide +kernel
theorem dX12_share_2 : decode cX12_share 2 = .ok (.iconst 0, 1) := by decide +kernel
theorem dX12_share_3 : decode cX12_share 3 = .ok (.istore 4, 2) := by decide +kernel
theorem dX12_share_5 : decode cX12_share 5 = .ok (.iload 4, 2) := by decide +kernel
theorem dX12_share_7 : decode cX12_share 7 = .ok (.iload_n 2, 1) := by decide +kernel
theorem dX12_share_8 : decode cX12_share 8 = .ok (.if_icmp .ge 21, 3) := by decide +kernel
theorem dX12_share_11 : decode cX12_share 11 = .ok (.iload_n 3, 1) := by decide +kernel
theorem dX12_share_12 : decode cX12_share 12 = .ok (.aload_n 0, 1) := by decide +kernel
theorem dX12_share_13 : decode cX12_share 13 = .ok (.getfield 154, 3) := by decide +kernel
theorem dX12_share_16 : decode cX12_share 16 = .ok (.iload 4, 2) := by decide +kernel
theorem dX12_share_18 : decode cX12_share 18 = .ok (.iaload, 1) := by decide +kernel
theorem dX12_share_19 : decode cX12_share 19 = .ok (.invokestatic 375, 3) := by decide +kernel
theorem dX12_share_22 : decode cX12_share 22 = .ok (.istore_n 3, 1) := by decide +kernel
theorem dX12_share_23 : decode cX12_share 23 = .ok (.iinc 4 1, 3) := by decide +kernel
theorem dX12_share_26 : decode cX12_share 26 = .ok (.goto (-21), 3) := by decide +kernel
theorem dX12_share_29 : decode cX12_share 29 = .ok (.aload_n 0, 1) := by decide +kernel
theorem dX12_share_30 : decode cX12_share 30 = .ok (.getfield 488, 3) := by decide +kernel
theorem dX12_share_33 : decode cX12_share 33 = .ok (.iconst (-1), 1) := by decide +kernel
theorem dX12_share_34 : decode cX12_share 34 = .ok (.if_icmp .eq 12, 3) := by decide +kernel
theorem dX12_share_37 : decode cX12_share 37 = .ok (.iload_n 3, 1) := by decide +kernel
theorem dX12_share_38 : decode cX12_share 38 = .ok (.aload_n 0, 1) := by decide +kernel
theorem dX12_share_39 : decode cX12_share 39 = .ok (.getfield 488, 3) := by decide +kernel
theorem dX12_share_42 : decode cX12_share 42 = .ok (.if_icmp .lt 4, 3) := by decide +kernel
theorem dX12_share_45 : decode cX12_share 45 = .ok (.return_, 1) := by decide +kernel
theorem dX12_share_46 : decode cX12_share 46 = .ok (.iload_n 1, 1) := by decide +kernel
theorem dX12_share_47 : decode cX12_share 47 = .ok (.aload_n 0, 1) := by decide +kernel
theorem dX12_share_48 : decode cX12_share 48 = .ok (.getfield 69, 3) := by decide +kernel
theorem dX12_share_51 : decode cX12_share 51 = .ok (.if_icmp .ne 41, 3) := by decide +kernel
theorem dX12_share_54 : decode cX12_share 54 = .ok (.aload_n 0, 1) := by decide +kernel
theorem dX12_share_55 : decode cX12_share 55 = .ok (.iload_n 3, 1) := by decide +kernel
theorem dX12_share_56 : decode cX12_share 56 = .ok (.putfield 488, 3) := by decide +kernel
theorem dX12_share_59 : decode cX12_share 59 = .ok (.iconst 0, 1) := by decide +kernel
theorem dX12_share_60 : decode cX12_share 60 = .ok (.istore 4, 2) := by decide +kernel
theorem dX12_share_62 : decode cX12_share 62 = .ok (.iload 4, 2) := by decide +kernel
theorem dX12_share_64 : decode cX12_share 64 = .ok (.aload_n 0, 1) := by decide +kernel
theorem dX12_share_65 : decode cX12_share 65 = .ok (.getfield 69, 3) := by decide +kernel
theorem dX12_share_68 : decode cX12_share 68 = .ok (.if_icmp .ge 23, 3) := by decide +kernel
theorem dX12_share_71 : decode cX12_share 71 = .ok (.aload_n 0, 1) := by decide +kernel
theorem dX12_share_72 : decode cX12_share 72 = .ok (.getfield 148, 3) := by decide +kernel
theorem dX12_share_75 : decode cX12_share 75 = .ok (.iload 4, 2) := by decide +kernel
theorem dX12_share_77 : decode cX12_share 77 = .ok (.aload_n 0, 1) := by decide +kernel
theorem dX12_share_78 : decode cX12_share 78 = .ok (.getfield 151, 3) := by decide +kernel
theorem dX12_share_81 : decode cX12_share 81 = .ok (.iload 4, 2) := by decide +kernel
theorem dX12_share_83 : decode cX12_share 83 = .ok (.iaload, 1) := by decide +kernel
theorem dX12_share_84 : decode cX12_share 84 = .ok (.iastore, 1) := by decide +kernel
theorem dX12_share_85 : decode cX12_share 85 = .ok (.iinc 4 1, 3) := by decide +kernel
theorem dX12_share_88 : decode cX12_share 88 = .ok (.goto (-26), 3) := by decide +kernel
theorem dX12_share_91 : decode cX12_share 91 = .ok (.return_, 1) := by decide +kernel
theorem dX12_share_92 : decode cX12_share 92 = .ok (.bipush 6, 2) := by decide +kernel
theorem dX12_share_94 : decode cX12_share 94 = .ok (.aload_n 0, 1) := by decide +kernel
theorem dX12_share_95 : decode cX12_share 95 = .ok (.getfield 63, 3) := by decide +kernel
theorem dX12_share_98 : decode cX12_share 98 = .ok (.iload_n 1, 1) := by decide +kernel
theorem dX12_share_99 : decode cX12_share 99 = .ok (.iaload, 1) := by decide +kernel
theorem dX12_share_100 : decode cX12_share 100 = .ok (.imul, 1) := by decide +kernel
theorem dX12_share_101 : decode cX12_share 101 = .ok (.istore 4, 2) := by decide +kernel
theorem dX12_share_103 : decode cX12_share 103 = .ok (.aload_n 0, 1) := by decide +kernel
theorem dX12_share_104 : decode cX12_share 104 = .ok (.getfield 43, 3) := by decide +kernel
theorem dX12_share_107 : decode cX12_share 107 = .ok (.iload 4, 2) := by decide +kernel
theorem dX12_share_109 : decode cX12_share 109 = .ok (.iconst 1, 1) := by decide +kernel
theorem dX12_share_110 : decode cX12_share 110 = .ok (.iadd, 1) := by decide +kernel
theorem dX12_share_111 : decode cX12_share 111 = .ok (.iaload, 1) := by decide +kernel
theorem dX12_share_112 : decode cX12_share 112 = .ok (.aload_n 0, 1) := by decide +kernel
theorem dX12_share_113 : decode cX12_share 113 = .ok (.getfield 38, 3) := by decide +kernel
theorem dX12_share_116 : decode cX12_share 116 = .ok (.aload_n 0, 1) := by decide +kernel
theorem dX12_share_117 : decode cX12_share 117 = .ok (.getfield 43, 3) := by decide +kernel
theorem dX12_share_120 : decode cX12_share 120 = .ok (.iload 4, 2) := by decide +kernel
theorem dX12_share_122 : decode cX12_share 122 = .ok (.iaload, 1) := by decide +kernel
theorem dX12_share_123 : decode cX12_share 123 = .ok (.iaload, 1) := by decide +kernel
theorem dX12_share_124 : decode cX12_share 124 = .ok (.imul, 1) := by decide +kernel
theorem dX12_share_125 : decode cX12_share 125 = .ok (.istore 5, 2) := by decide +kernel
theorem dX12_share_127 : decode cX12_share 127 = .ok (.iconst 0, 1) := by decide +kernel
theorem dX12_share_128 : decode cX12_share 128 = .ok (.istore 6, 2) := by decide +kernel
theorem dX12_share_130 : decode cX12_share 130 = .ok (.iload 6, 2) := by decide +kernel
theorem dX12_share_132 : decode cX12_share 132 = .ok (.iload_n 2, 1) := by decide +kernel
theorem dX12_share_133 : decode cX12_share 133 = .ok (.if_icmp .ge 49, 3) := by decide +kernel
theorem dX12_share_136 : decode cX12_share 136 = .ok (.aload_n 0, 1) := by decide +kernel
theorem dX12_share_137 : decode cX12_share 137 = .ok (.getfield 154, 3) := by decide +kernel
theorem dX12_share_140 : decode cX12_share 140 = .ok (.iload 6, 2) := by decide +kernel
theorem dX12_share_142 : decode cX12_share 142 = .ok (.dup2, 1) := by decide +kernel
theorem dX12_share_143 : decode cX12_share 143 = .ok (.iaload, 1) := by decide +kernel
theorem dX12_share_144 : decode cX12_share 144 = .ok (.iload 5, 2) := by decide +kernel
theorem dX12_share_146 : decode cX12_share 146 = .ok (.iadd, 1) := by decide +kernel
theorem dX12_share_147 : decode cX12_share 147 = .ok (.iastore, 1) := by decide +kernel
theorem dX12_share_148 : decode cX12_share 148 = .ok (.aload_n 0, 1) := by decide +kernel
theorem dX12_share_149 : decode cX12_share 149 = .ok (.getfield 151, 3) := by decide +kernel
theorem dX12_share_152 : decode cX12_share 152 = .ok (.iload_n 1, 1) := by decide +kernel
theorem dX12_share_153 : decode cX12_share 153 = .ok (.iload 6, 2) := by decide +kernel
theorem dX12_share_155 : decode cX12_share 155 = .ok (.iastore, 1) := by decide +kernel
theorem dX12_share_156 : decode cX12_share 156 = .ok (.aload_n 0, 1) := by decide +kernel
theorem dX12_share_157 : decode cX12_share 157 = .ok (.iload_n 1, 1) := by decide +kernel
theorem dX12_share_158 : decode cX12_share 158 = .ok (.iconst 1, 1) := by decide +kernel
theorem dX12_share_159 : decode cX12_share 159 = .ok (.iadd, 1) := by decide +kernel
theorem dX12_share_160 : decode cX12_share 160 = .ok (.iload_n 2, 1) := by decide +kernel
theorem dX12_share_161 : decode cX12_share 161 = .ok (.invokevirtual 491, 3) := by decide +kernel
theorem dX12_share_164 : decode cX12_share 164 = .ok (.aload_n 0, 1) := by decide +kernel
theorem dX12_share_165 : decode cX12_share 165 = .ok (.getfield 154, 3) := by decide +kernel
theorem dX12_share_168 : decode cX12_share 168 = .ok (.iload 6, 2) := by decide +kernel
theorem dX12_share_170 : decode cX12_share 170 = .ok (.dup2, 1) := by decide +kernel
theorem dX12_share_171 : decode cX12_share 171 = .ok (.iaload, 1) := by decide +kernel
theorem dX12_share_172 : decode cX12_share 172 = .ok (.iload 5, 2) := by decide +kernel
theorem dX12_share_174 : decode cX12_share 174 = .ok (.isub, 1) := by decide +kernel
theorem dX12_share_175 : decode cX12_share 175 = .ok (.iastore, 1) := by decide +kernel
theorem dX12_share_176 : decode cX12_share 176 = .ok (.iinc 6 1, 3) := by decide +kernel
theorem dX12_share_179 : decode cX12_share 179 = .ok (.goto (-49), 3) := by decide +kernel
theorem dX12_share_182 : decode cX12_share 182 = .ok (.return_, 1) := by decide +kernel
theorem dX12_even_0 : decode cX12_even 0 = .ok (.aload_n 0, 1) := by decide +kernel
theorem dX12_even_1 : decode cX12_even 1 = .ok (.iconst 0, 1) := by decide +kernel
theorem dX12_even_2 : decode cX12_even 2 = .ok (.putfield 182, 3) := by decide +kernel
theorem dX12_even_5 : decode cX12_even 5 = .ok (.aload_n 0, 1) := by decide +kernel
theorem dX12_even_6 : decode cX12_even 6 = .ok (.getfield 69, 3) := by decide +kernel
theorem dX12_even_9 : decode cX12_even 9 = .ok (.iconst (-1), 1) := by decide +kernel
theorem dX12_even_10 : decode cX12_even 10 = .ok (.if_icmp .eq 12, 3) := by decide +kernel
theorem dX12_even_13 : decode cX12_even 13 = .ok (.iload_n 1, 1) := by decide +kernel
theorem dX12_even_14 : decode cX12_even 14 = .ok (.iconst 2, 1) := by decide +kernel
theorem dX12_even_15 : decode cX12_even 15 = .ok (.iconst 4, 1) := by decide +kernel
theorem dX12_even_16 : decode cX12_even 16 = .ok (.invokestatic 185, 3) := by decide +kernel
theorem dX12_even_19 : decode cX12_even 19 = .ok (.ifCond .ne 5, 3) := by decide +kernel
theorem dX12_even_22 : decode cX12_even 22 = .ok (.iconst (-1), 1) := by decide +kernel
theorem dX12_even_23 : decode cX12_even 23 = .ok (.ireturn, 1) := by decide +kernel
theorem dX12_even_24 : decode cX12_even 24 = .ok (.aload_n 0, 1) := by decide +kernel
theorem dX12_even_25 : decode cX12_even 25 = .ok (.iconst (-1), 1) := by decide +kernel
theorem dX12_even_26 : decode cX12_even 26 = .ok (.putfield 488, 3) := by decide +kernel
theorem dX12_even_29 : decode cX12_even 29 = .ok (.iconst 0, 1) := by decide +kernel
theorem dX12_even_30 : decode cX12_even 30 = .ok (.istore_n 2, 1) := by decide +kernel
theorem dX12_even_31 : decode cX12_even 31 = .ok (.iload_n 2, 1) := by decide +kernel
theorem dX12_even_32 : decode cX12_even 32 = .ok (.iconst 4, 1) := by decide +kernel
theorem dX12_even_33 : decode cX12_even 33 = .ok (.if_icmp .ge 16, 3) := by decide +kernel
theorem dX12_even_36 : decode cX12_even 36 = .ok (.aload_n 0, 1) := by decide +kernel
theorem dX12_even_37 : decode cX12_even 37 = .ok (.getfield 154, 3) := by decide +kernel
theorem dX12_even_40 : decode cX12_even 40 = .ok (.iload_n 2, 1) := by decide +kernel
theorem dX12_even_41 : decode cX12_even 41 = .ok (.iconst 0, 1) := by decide +kernel
theorem dX12_even_42 : decode cX12_even 42 = .ok (.iastore, 1) := by decide +kernel
theorem dX12_even_43 : decode cX12_even 43 = .ok (.iinc 2 1, 3) := by decide +kernel
theorem dX12_even_46 : decode cX12_even 46 = .ok (.goto (-15), 3) := by decide +kernel
theorem dX12_even_49 : decode cX12_even 49 = .ok (.aload_n 0, 1) := by decide +kernel
theorem dX12_even_50 : decode cX12_even 50 = .ok (.iconst 0, 1) := by decide +kernel
theorem dX12_even_51 : decode cX12_even 51 = .ok (.iload_n 1, 1) := by decide +kernel
theorem dX12_even_52 : decode cX12_even 52 = .ok (.invokevirtual 491, 3) := by decide +kernel
theorem dX12_even_55 : decode cX12_even 55 = .ok (.aload_n 0, 1) := by decide +kernel
theorem dX12_even_56 : decode cX12_even 56 = .ok (.aload_n 0, 1) := by decide +kernel
theorem dX12_even_57 : decode cX12_even 57 = .ok (.getfield 69, 3) := by decide +kernel
theorem dX12_even_60 : decode cX12_even 60 = .ok (.putfield 157, 3) := by decide +kernel
theorem dX12_even_63 : decode cX12_even 63 = .ok (.aload_n 0, 1) := by decide +kernel
theorem dX12_even_64 : decode cX12_even 64 = .ok (.getfield 488, 3) := by decide +kernel
theorem dX12_even_67 : decode cX12_even 67 = .ok (.ireturn, 1) := by decide +kernel
theorem dX12_gang_0 : decode cX12_gang 0 = .ok (.aload_n 0, 1) := by decide +kernel
theorem dX12_gang_1 : decode cX12_gang 1 = .ok (.iconst 0, 1) := by decide +kernel
theorem dX12_gang_2 : decode cX12_gang 2 = .ok (.putfield 182, 3) := by decide +kernel
theorem dX12_gang_5 : decode cX12_gang 5 = .ok (.iload_n 1, 1) := by decide +kernel
theorem dX12_gang_6 : decode cX12_gang 6 = .ok (.iconst 0, 1) := by decide +kernel
theorem dX12_gang_7 : decode cX12_gang 7 = .ok (.aload_n 0, 1) := by decide +kernel
theorem dX12_gang_8 : decode cX12_gang 8 = .ok (.getfield 157, 3) := by decide +kernel
theorem dX12_gang_11 : decode cX12_gang 11 = .ok (.iconst 1, 1) := by decide +kernel
theorem dX12_gang_12 : decode cX12_gang 12 = .ok (.isub, 1) := by decide +kernel
theorem dX12_gang_13 : decode cX12_gang 13 = .ok (.invokestatic 185, 3) := by decide +kernel
theorem dX12_gang_16 : decode cX12_gang 16 = .ok (.ifCond .eq 12, 3) := by decide +kernel
theorem dX12_gang_19 : decode cX12_gang 19 = .ok (.aload_n 0, 1) := by decide +kernel
theorem dX12_gang_20 : decode cX12_gang 20 = .ok (.getfield 148, 3) := by decide +kernel
theorem dX12_gang_23 : decode cX12_gang 23 = .ok (.iload_n 1, 1) := by decide +kernel
theorem dX12_gang_24 : decode cX12_gang 24 = .ok (.iaload, 1) := by decide +kernel
theorem dX12_gang_25 : decode cX12_gang 25 = .ok (.goto 8, 3) := by decide +kernel
theorem dX12_gang_28 : decode cX12_gang 28 = .ok (.aload_n 0, 1) := by decide +kernel
theorem dX12_gang_29 : decode cX12_gang 29 = .ok (.iconst 1, 1) := by decide +kernel
theorem dX12_gang_30 : decode cX12_gang 30 = .ok (.invokevirtual 292, 3) := by decide +kernel
theorem dX12_gang_33 : decode cX12_gang 33 = .ok (.ireturn, 1) := by decide +kernel
theorem dX12_isOwner_0 : decode cX12_isOwner 0 = .ok (.iload_n 0, 1) := by decide +kernel
theorem dX12_isOwner_1 : decode cX12_isOwner 1 = .ok (.iconst 0, 1) := by decide +kernel
theorem dX12_isOwner_2 : decode cX12_isOwner 2 = .ok (.iconst 5, 1) := by decide +kernel
theorem dX12_isOwner_3 : decode cX12_isOwner 3 = .ok (.invokestatic 185, 3) := by decide +kernel
theorem dX12_isOwner_6 : decode cX12_isOwner 6 = .ok (.ireturn, 1) := by decide +kernel
theorem dX12_means_0 : decode cX12_means 0 = .ok (.aload_n 0, 1) := by decide +kernel
theorem dX12_means_1 : decode cX12_means 1 = .ok (.iconst 0, 1) := by decide +kernel
theorem dX12_means_2 : decode cX12_means 2 = .ok (.putfield 182, 3) := by decide +kernel
theorem dX12_means_5 : decode cX12_means 5 = .ok (.iload_n 1, 1) := by decide +kernel
theorem dX12_means_6 : decode cX12_means 6 = .ok (.invokestatic 495, 3) := by decide +kernel
theorem dX12_means_9 : decode cX12_means 9 = .ok (.ifCond .ne 9, 3) := by decide +kernel
theorem dX12_means_12 : decode cX12_means 12 = .ok (.aload_n 0, 1) := by decide +kernel
theorem dX12_means_13 : decode cX12_means 13 = .ok (.iconst 1, 1) := by decide +kernel
theorem dX12_means_14 : decode cX12_means 14 = .ok (.invokevirtual 344, 3) := by decide +kernel
theorem dX12_means_17 : decode cX12_means 17 = .ok (.ireturn, 1) := by decide +kernel
theorem dX12_means_18 : decode cX12_means 18 = .ok (.iload_n 2, 1) := by decide +kernel
theorem dX12_means_19 : decode cX12_means 19 = .ok (.iconst 0, 1) := by decide +kernel
theorem dX12_means_20 : decode cX12_means 20 = .ok (.sipush 9999, 3) := by decide +kernel
theorem dX12_means_23 : decode cX12_means 23 = .ok (.invokestatic 185, 3) := by decide +kernel
theorem dX12_means_26 : decode cX12_means 26 = .ok (.ifCond .ne 5, 3) := by decide +kernel
theorem dX12_means_29 : decode cX12_means 29 = .ok (.iconst 0, 1) := by decide +kernel
theorem dX12_means_30 : decode cX12_means 30 = .ok (.ireturn, 1) := by decide +kernel
theorem dX12_means_31 : decode cX12_means 31 = .ok (.aload_n 0, 1) := by decide +kernel
theorem dX12_means_32 : decode cX12_means 32 = .ok (.getfield 160, 3) := by decide +kernel
theorem dX12_means_35 : decode cX12_means 35 = .ok (.iload_n 1, 1) := by decide +kernel
theorem dX12_means_36 : decode cX12_means 36 = .ok (.iload_n 2, 1) := by decide +kernel
theorem dX12_means_37 : decode cX12_means 37 = .ok (.iastore, 1) := by decide +kernel
theorem dX12_means_38 : decode cX12_means 38 = .ok (.iconst 1, 1) := by decide +kernel
theorem dX12_means_39 : decode cX12_means 39 = .ok (.ireturn, 1) := by decide +kernel
theorem dX12_part_0 : decode cX12_part 0 = .ok (.aload_n 0, 1) := by decide +kernel
theorem dX12_part_1 : decode cX12_part 1 = .ok (.iconst 0, 1) := by decide +kernel
theorem dX12_part_2 : decode cX12_part 2 = .ok (.putfield 182, 3) := by decide +kernel
theorem dX12_part_5 : decode cX12_part 5 = .ok (.aload_n 0, 1) := by decide +kernel
theorem dX12_part_6 : decode cX12_part 6 = .ok (.iload_n 1, 1) := by decide +kernel
theorem dX12_part_7 : decode cX12_part 7 = .ok (.invokevirtual 321, 3) := by decide +kernel
theorem dX12_part_10 : decode cX12_part 10 = .ok (.ifCond .eq 10, 3) := by decide +kernel
theorem dX12_part_13 : decode cX12_part 13 = .ok (.iload_n 2, 1) := by decide +kernel
theorem dX12_part_14 : decode cX12_part 14 = .ok (.invokestatic 495, 3) := by decide +kernel
theorem dX12_part_17 : decode cX12_part 17 = .ok (.ifCond .ne 9, 3) := by decide +kernel
theorem dX12_part_20 : decode cX12_part 20 = .ok (.aload_n 0, 1) := by decide +kernel
theorem dX12_part_21 : decode cX12_part 21 = .ok (.iconst 1, 1) := by decide +kernel
theorem dX12_part_22 : decode cX12_part 22 = .ok (.invokevirtual 344, 3) := by decide +kernel
theorem dX12_part_25 : decode cX12_part 25 = .ok (.ireturn, 1) := by decide +kernel
theorem dX12_part_26 : decode cX12_part 26 = .ok (.iload_n 3, 1) := by decide +kernel
theorem dX12_part_27 : decode cX12_part 27 = .ok (.iconst 0, 1) := by decide +kernel
theorem dX12_part_28 : decode cX12_part 28 = .ok (.bipush 100, 2) := by decide +kernel
theorem dX12_part_30 : decode cX12_part 30 = .ok (.invokestatic 185, 3) := by decide +kernel
theorem dX12_part_33 : decode cX12_part 33 = .ok (.ifCond .ne 5, 3) := by decide +kernel
theorem dX12_part_36 : decode cX12_part 36 = .ok (.iconst 0, 1) := by decide +kernel
theorem dX12_part_37 : decode cX12_part 37 = .ok (.ireturn, 1) := by decide +kernel
theorem dX12_part_38 : decode cX12_part 38 = .ok (.aload_n 0, 1) := by decide +kernel
theorem dX12_part_39 : decode cX12_part 39 = .ok (.getfield 163, 3) := by decide +kernel
theorem dX12_part_42 : decode cX12_part 42 = .ok (.bipush 6, 2) := by decide +kernel
theorem dX12_part_44 : decode cX12_part 44 = .ok (.iload_n 1, 1) := by decide +kernel
theorem dX12_part_45 : decode cX12_part 45 = .ok (.imul, 1) := by decide +kernel
theorem dX12_part_46 : decode cX12_part 46 = .ok (.iload_n 2, 1) := by decide +kernel
theorem dX12_part_47 : decode cX12_part 47 = .ok (.iadd, 1) := by decide +kernel
theorem dX12_part_48 : decode cX12_part 48 = .ok (.iload_n 3, 1) := by decide +kernel
theorem dX12_part_49 : decode cX12_part 49 = .ok (.iastore, 1) := by decide +kernel
theorem dX12_part_50 : decode cX12_part 50 = .ok (.iconst 1, 1) := by decide +kernel
theorem dX12_part_51 : decode cX12_part 51 = .ok (.ireturn, 1) := by decide +kernel
theorem dX12_isPaying_0 : decode cX12_isPaying 0 = .ok (.aload_n 0, 1) := by decide +kernel
theorem dX12_isPaying_1 : decode cX12_isPaying 1 = .ok (.getfield 160, 3) := by decide +kernel
theorem dX12_isPaying_4 : decode cX12_isPaying 4 = .ok (.iload_n 2, 1) := by decide +kernel
theorem dX12_isPaying_5 : decode cX12_isPaying 5 = .ok (.iaload, 1) := by decide +kernel
theorem dX12_isPaying_6 : decode cX12_isPaying 6 = .ok (.ifCond .le 21, 3) := by decide +kernel
theorem dX12_isPaying_9 : decode cX12_isPaying 9 = .ok (.aload_n 0, 1) := by decide +kernel
theorem dX12_isPaying_10 : decode cX12_isPaying 10 = .ok (.getfield 163, 3) := by decide +kernel
theorem dX12_isPaying_13 : decode cX12_isPaying 13 = .ok (.bipush 6, 2) := by decide +kernel
theorem dX12_isPaying_15 : decode cX12_isPaying 15 = .ok (.iload_n 1, 1) := by decide +kernel
theorem dX12_isPaying_16 : decode cX12_isPaying 16 = .ok (.imul, 1) := by decide +kernel
theorem dX12_isPaying_17 : decode cX12_isPaying 17 = .ok (.iload_n 2, 1) := by decide +kernel
theorem dX12_isPaying_18 : decode cX12_isPaying 18 = .ok (.iadd, 1) := by decide +kernel
theorem dX12_isPaying_19 : decode cX12_isPaying 19 = .ok (.iaload, 1) := by decide +kernel
theorem dX12_isPaying_20 : decode cX12_isPaying 20 = .ok (.ifCond .le 7, 3) := by decide +kernel
theorem dX12_isPaying_23 : decode cX12_isPaying 23 = .ok (.iconst 1, 1) := by decide +kernel
theorem dX12_isPaying_24 : decode cX12_isPaying 24 = .ok (.goto 4, 3) := by decide +kernel
theorem dX12_isPaying_27 : decode cX12_isPaying 27 = .ok (.iconst 0, 1) := by decide +kernel
theorem dX12_isPaying_28 : decode cX12_isPaying 28 = .ok (.ireturn, 1) := by decide +kernel
theorem dX12_pay_0 : decode cX12_pay 0 = .ok (.aload_n 0, 1) := by decide +kernel
theorem dX12_pay_1 : decode cX12_pay 1 = .ok (.getfield 160, 3) := by decide +kernel
theorem dX12_pay_4 : decode cX12_pay 4 = .ok (.iload_n 1, 1) := by decide +kernel
theorem dX12_pay_5 : decode cX12_pay 5 = .ok (.dup2, 1) := by decide +kernel
theorem dX12_pay_6 : decode cX12_pay 6 = .ok (.iaload, 1) := by decide +kernel
theorem dX12_pay_7 : decode cX12_pay 7 = .ok (.iload_n 2, 1) := by decide +kernel
theorem dX12_pay_8 : decode cX12_pay 8 = .ok (.isub, 1) := by decide +kernel
theorem dX12_pay_9 : decode cX12_pay 9 = .ok (.iastore, 1) := by decide +kernel
theorem dX12_pay_10 : decode cX12_pay 10 = .ok (.aload_n 0, 1) := by decide +kernel
theorem dX12_pay_11 : decode cX12_pay 11 = .ok (.getfield 166, 3) := by decide +kernel
theorem dX12_pay_14 : decode cX12_pay 14 = .ok (.iload_n 1, 1) := by decide +kernel
theorem dX12_pay_15 : decode cX12_pay 15 = .ok (.dup2, 1) := by decide +kernel
theorem dX12_pay_16 : decode cX12_pay 16 = .ok (.iaload, 1) := by decide +kernel
theorem dX12_pay_17 : decode cX12_pay 17 = .ok (.iload_n 2, 1) := by decide +kernel
theorem dX12_pay_18 : decode cX12_pay 18 = .ok (.iadd, 1) := by decide +kernel
theorem dX12_pay_19 : decode cX12_pay 19 = .ok (.iastore, 1) := by decide +kernel
theorem dX12_pay_20 : decode cX12_pay 20 = .ok (.return_, 1) := by decide +kernel
theorem dX12_round_0 : decode cX12_round 0 = .ok (.iconst 0, 1) := by decide +kernel
theorem dX12_round_1 : decode cX12_round 1 = .ok (.istore_n 3, 1) := by decide +kernel
theorem dX12_round_2 : decode cX12_round 2 = .ok (.iconst 0, 1) := by decide +kernel
theorem dX12_round_3 : decode cX12_round 3 = .ok (.istore 4, 2) := by decide +kernel
theorem dX12_round_5 : decode cX12_round 5 = .ok (.iload 4, 2) := by decide +kernel
theorem dX12_round_7 : decode cX12_round 7 = .ok (.bipush 6, 2) := by decide +kernel
theorem dX12_round_9 : decode cX12_round 9 = .ok (.if_icmp .ge 38, 3) := by decide +kernel
theorem dX12_round_12 : decode cX12_round 12 = .ok (.iload_n 3, 1) := by decide +kernel
theorem dX12_round_13 : decode cX12_round 13 = .ok (.aload_n 0, 1) := by decide +kernel
theorem dX12_round_14 : decode cX12_round 14 = .ok (.iload_n 1, 1) := by decide +kernel
theorem dX12_round_15 : decode cX12_round 15 = .ok (.iload 4, 2) := by decide +kernel
theorem dX12_round_17 : decode cX12_round 17 = .ok (.invokevirtual 498, 3) := by decide +kernel
theorem dX12_round_20 : decode cX12_round 20 = .ok (.ifCond .eq 18, 3) := by decide +kernel
theorem dX12_round_23 : decode cX12_round 23 = .ok (.aload_n 0, 1) := by decide +kernel
theorem dX12_round_24 : decode cX12_round 24 = .ok (.getfield 163, 3) := by decide +kernel
theorem dX12_round_27 : decode cX12_round 27 = .ok (.bipush 6, 2) := by decide +kernel
theorem dX12_round_29 : decode cX12_round 29 = .ok (.iload_n 1, 1) := by decide +kernel
theorem dX12_round_30 : decode cX12_round 30 = .ok (.imul, 1) := by decide +kernel
theorem dX12_round_31 : decode cX12_round 31 = .ok (.iload 4, 2) := by decide +kernel
theorem dX12_round_33 : decode cX12_round 33 = .ok (.iadd, 1) := by decide +kernel
theorem dX12_round_34 : decode cX12_round 34 = .ok (.iaload, 1) := by decide +kernel
theorem dX12_round_35 : decode cX12_round 35 = .ok (.goto 4, 3) := by decide +kernel
theorem dX12_round_38 : decode cX12_round 38 = .ok (.iconst 0, 1) := by decide +kernel
theorem dX12_round_39 : decode cX12_round 39 = .ok (.iadd, 1) := by decide +kernel
theorem dX12_round_40 : decode cX12_round 40 = .ok (.istore_n 3, 1) := by decide +kernel
theorem dX12_round_41 : decode cX12_round 41 = .ok (.iinc 4 1, 3) := by decide +kernel
theorem dX12_round_44 : decode cX12_round 44 = .ok (.goto (-39), 3) := by decide +kernel
theorem dX12_round_47 : decode cX12_round 47 = .ok (.iconst 0, 1) := by decide +kernel
theorem dX12_round_48 : decode cX12_round 48 = .ok (.istore 4, 2) := by decide +kernel
theorem dX12_round_50 : decode cX12_round 50 = .ok (.iconst 0, 1) := by decide +kernel
theorem dX12_round_51 : decode cX12_round 51 = .ok (.istore 5, 2) := by decide +kernel
theorem dX12_round_53 : decode cX12_round 53 = .ok (.iload 5, 2) := by decide +kernel
theorem dX12_round_55 : decode cX12_round 55 = .ok (.bipush 6, 2) := by decide +kernel
theorem dX12_round_57 : decode cX12_round 57 = .ok (.if_icmp .ge 68, 3) := by decide +kernel
theorem dX12_round_60 : decode cX12_round 60 = .ok (.aload_n 0, 1) := by decide +kernel
theorem dX12_round_61 : decode cX12_round 61 = .ok (.getfield 169, 3) := by decide +kernel
theorem dX12_round_64 : decode cX12_round 64 = .ok (.iload 5, 2) := by decide +kernel
theorem dX12_round_66 : decode cX12_round 66 = .ok (.aload_n 0, 1) := by decide +kernel
theorem dX12_round_67 : decode cX12_round 67 = .ok (.iload_n 1, 1) := by decide +kernel
theorem dX12_round_68 : decode cX12_round 68 = .ok (.iload 5, 2) := by decide +kernel
theorem dX12_round_70 : decode cX12_round 70 = .ok (.invokevirtual 498, 3) := by decide +kernel
theorem dX12_round_73 : decode cX12_round 73 = .ok (.ifCond .eq 32, 3) := by decide +kernel
theorem dX12_round_76 : decode cX12_round 76 = .ok (.aload_n 0, 1) := by decide +kernel
theorem dX12_round_77 : decode cX12_round 77 = .ok (.getfield 160, 3) := by decide +kernel
theorem dX12_round_80 : decode cX12_round 80 = .ok (.iload 5, 2) := by decide +kernel
theorem dX12_round_82 : decode cX12_round 82 = .ok (.iaload, 1) := by decide +kernel
theorem dX12_round_83 : decode cX12_round 83 = .ok (.iload_n 2, 1) := by decide +kernel
theorem dX12_round_84 : decode cX12_round 84 = .ok (.aload_n 0, 1) := by decide +kernel
theorem dX12_round_85 : decode cX12_round 85 = .ok (.getfield 163, 3) := by decide +kernel
theorem dX12_round_88 : decode cX12_round 88 = .ok (.bipush 6, 2) := by decide +kernel
theorem dX12_round_90 : decode cX12_round 90 = .ok (.iload_n 1, 1) := by decide +kernel
theorem dX12_round_91 : decode cX12_round 91 = .ok (.imul, 1) := by decide +kernel
theorem dX12_round_92 : decode cX12_round 92 = .ok (.iload 5, 2) := by decide +kernel
theorem dX12_round_94 : decode cX12_round 94 = .ok (.iadd, 1) := by decide +kernel
theorem dX12_round_95 : decode cX12_round 95 = .ok (.iaload, 1) := by decide +kernel
theorem dX12_round_96 : decode cX12_round 96 = .ok (.imul, 1) := by decide +kernel
theorem dX12_round_97 : decode cX12_round 97 = .ok (.iload_n 3, 1) := by decide +kernel
theorem dX12_round_98 : decode cX12_round 98 = .ok (.idiv, 1) := by decide +kernel
theorem dX12_round_99 : decode cX12_round 99 = .ok (.invokestatic 219, 3) := by decide +kernel
theorem dX12_round_102 : decode cX12_round 102 = .ok (.goto 4, 3) := by decide +kernel
theorem dX12_round_105 : decode cX12_round 105 = .ok (.iconst 0, 1) := by decide +kernel
theorem dX12_round_106 : decode cX12_round 106 = .ok (.iastore, 1) := by decide +kernel
theorem dX12_round_107 : decode cX12_round 107 = .ok (.iload 4, 2) := by decide +kernel
theorem dX12_round_109 : decode cX12_round 109 = .ok (.aload_n 0, 1) := by decide +kernel
theorem dX12_round_110 : decode cX12_round 110 = .ok (.getfield 169, 3) := by decide +kernel
theorem dX12_round_113 : decode cX12_round 113 = .ok (.iload 5, 2) := by decide +kernel
theorem dX12_round_115 : decode cX12_round 115 = .ok (.iaload, 1) := by decide +kernel
theorem dX12_round_116 : decode cX12_round 116 = .ok (.iadd, 1) := by decide +kernel
theorem dX12_round_117 : decode cX12_round 117 = .ok (.istore 4, 2) := by decide +kernel
theorem dX12_round_119 : decode cX12_round 119 = .ok (.iinc 5 1, 3) := by decide +kernel
theorem dX12_round_122 : decode cX12_round 122 = .ok (.goto (-69), 3) := by decide +kernel
theorem dX12_round_125 : decode cX12_round 125 = .ok (.iconst 0, 1) := by decide +kernel
theorem dX12_round_126 : decode cX12_round 126 = .ok (.istore 5, 2) := by decide +kernel
theorem dX12_round_128 : decode cX12_round 128 = .ok (.iload 5, 2) := by decide +kernel
theorem dX12_round_130 : decode cX12_round 130 = .ok (.bipush 6, 2) := by decide +kernel
theorem dX12_round_132 : decode cX12_round 132 = .ok (.if_icmp .ge 22, 3) := by decide +kernel
theorem dX12_round_135 : decode cX12_round 135 = .ok (.aload_n 0, 1) := by decide +kernel
theorem dX12_round_136 : decode cX12_round 136 = .ok (.iload 5, 2) := by decide +kernel
theorem dX12_round_138 : decode cX12_round 138 = .ok (.aload_n 0, 1) := by decide +kernel
theorem dX12_round_139 : decode cX12_round 139 = .ok (.getfield 169, 3) := by decide +kernel
theorem dX12_round_142 : decode cX12_round 142 = .ok (.iload 5, 2) := by decide +kernel
theorem dX12_round_144 : decode cX12_round 144 = .ok (.iaload, 1) := by decide +kernel
theorem dX12_round_145 : decode cX12_round 145 = .ok (.invokevirtual 501, 3) := by decide +kernel
theorem dX12_round_148 : decode cX12_round 148 = .ok (.iinc 5 1, 3) := by decide +kernel
theorem dX12_round_151 : decode cX12_round 151 = .ok (.goto (-23), 3) := by decide +kernel
theorem dX12_round_154 : decode cX12_round 154 = .ok (.iload 4, 2) := by decide +kernel
theorem dX12_round_156 : decode cX12_round 156 = .ok (.ireturn, 1) := by decide +kernel
theorem dX12_bill_0 : decode cX12_bill 0 = .ok (.aload_n 0, 1) := by decide +kernel
theorem dX12_bill_1 : decode cX12_bill 1 = .ok (.iconst 0, 1) := by decide +kernel
theorem dX12_bill_2 : decode cX12_bill 2 = .ok (.putfield 182, 3) := by decide +kernel
theorem dX12_bill_5 : decode cX12_bill 5 = .ok (.aload_n 0, 1) := by decide +kernel
theorem dX12_bill_6 : decode cX12_bill 6 = .ok (.iload_n 1, 1) := by decide +kernel
theorem dX12_bill_7 : decode cX12_bill 7 = .ok (.invokevirtual 321, 3) := by decide +kernel
theorem dX12_bill_10 : decode cX12_bill 10 = .ok (.ifCond .ne 9, 3) := by decide +kernel
theorem dX12_bill_13 : decode cX12_bill 13 = .ok (.aload_n 0, 1) := by decide +kernel
theorem dX12_bill_14 : decode cX12_bill 14 = .ok (.iconst 1, 1) := by decide +kernel
theorem dX12_bill_15 : decode cX12_bill 15 = .ok (.invokevirtual 292, 3) := by decide +kernel
theorem dX12_bill_18 : decode cX12_bill 18 = .ok (.ireturn, 1) := by decide +kernel
theorem dX12_bill_19 : decode cX12_bill 19 = .ok (.iload_n 2, 1) := by decide +kernel
theorem dX12_bill_20 : decode cX12_bill 20 = .ok (.iconst 1, 1) := by decide +kernel
theorem dX12_bill_21 : decode cX12_bill 21 = .ok (.ldc_w 504, 3) := by decide +kernel
theorem dX12_bill_24 : decode cX12_bill 24 = .ok (.invokestatic 185, 3) := by decide +kernel
theorem dX12_bill_27 : decode cX12_bill 27 = .ok (.ifCond .ne 9, 3) := by decide +kernel
theorem dX12_bill_30 : decode cX12_bill 30 = .ok (.aload_n 0, 1) := by decide +kernel
theorem dX12_bill_31 : decode cX12_bill 31 = .ok (.iconst 2, 1) := by decide +kernel
theorem dX12_bill_32 : decode cX12_bill 32 = .ok (.invokevirtual 292, 3) := by decide +kernel
theorem dX12_bill_35 : decode cX12_bill 35 = .ok (.ireturn, 1) := by decide +kernel
theorem dX12_bill_36 : decode cX12_bill 36 = .ok (.iconst 0, 1) := by decide +kernel
theorem dX12_bill_37 : decode cX12_bill 37 = .ok (.istore_n 3, 1) := by decide +kernel
theorem dX12_bill_38 : decode cX12_bill 38 = .ok (.iload_n 3, 1) := by decide +kernel
theorem dX12_bill_39 : decode cX12_bill 39 = .ok (.bipush 6, 2) := by decide +kernel
theorem dX12_bill_41 : decode cX12_bill 41 = .ok (.if_icmp .ge 16, 3) := by decide +kernel
theorem dX12_bill_44 : decode cX12_bill 44 = .ok (.aload_n 0, 1) := by decide +kernel
theorem dX12_bill_45 : decode cX12_bill 45 = .ok (.getfield 166, 3) := by decide +kernel
theorem dX12_bill_48 : decode cX12_bill 48 = .ok (.iload_n 3, 1) := by decide +kernel
theorem dX12_bill_49 : decode cX12_bill 49 = .ok (.iconst 0, 1) := by decide +kernel
theorem dX12_bill_50 : decode cX12_bill 50 = .ok (.iastore, 1) := by decide +kernel
theorem dX12_bill_51 : decode cX12_bill 51 = .ok (.iinc 3 1, 3) := by decide +kernel
theorem dX12_bill_54 : decode cX12_bill 54 = .ok (.goto (-16), 3) := by decide +kernel
theorem dX12_bill_57 : decode cX12_bill 57 = .ok (.iload_n 2, 1) := by decide +kernel
theorem dX12_bill_58 : decode cX12_bill 58 = .ok (.istore_n 3, 1) := by decide +kernel
theorem dX12_bill_59 : decode cX12_bill 59 = .ok (.iconst 1, 1) := by decide +kernel
theorem dX12_bill_60 : decode cX12_bill 60 = .ok (.istore 4, 2) := by decide +kernel
theorem dX12_bill_62 : decode cX12_bill 62 = .ok (.iload 4, 2) := by decide +kernel
theorem dX12_bill_64 : decode cX12_bill 64 = .ok (.ifCond .le 19, 3) := by decide +kernel
theorem dX12_bill_67 : decode cX12_bill 67 = .ok (.aload_n 0, 1) := by decide +kernel
theorem dX12_bill_68 : decode cX12_bill 68 = .ok (.iload_n 1, 1) := by decide +kernel
theorem dX12_bill_69 : decode cX12_bill 69 = .ok (.iload_n 3, 1) := by decide +kernel
theorem dX12_bill_70 : decode cX12_bill 70 = .ok (.invokevirtual 505, 3) := by decide +kernel
theorem dX12_bill_73 : decode cX12_bill 73 = .ok (.istore 4, 2) := by decide +kernel
theorem dX12_bill_75 : decode cX12_bill 75 = .ok (.iload_n 3, 1) := by decide +kernel
theorem dX12_bill_76 : decode cX12_bill 76 = .ok (.iload 4, 2) := by decide +kernel
theorem dX12_bill_78 : decode cX12_bill 78 = .ok (.isub, 1) := by decide +kernel
theorem dX12_bill_79 : decode cX12_bill 79 = .ok (.istore_n 3, 1) := by decide +kernel
theorem dX12_bill_80 : decode cX12_bill 80 = .ok (.goto (-18), 3) := by decide +kernel
theorem dX12_bill_83 : decode cX12_bill 83 = .ok (.iconst 0, 1) := by decide +kernel
theorem dX12_bill_84 : decode cX12_bill 84 = .ok (.istore 5, 2) := by decide +kernel
theorem dX12_bill_86 : decode cX12_bill 86 = .ok (.iload 5, 2) := by decide +kernel
theorem dX12_bill_88 : decode cX12_bill 88 = .ok (.bipush 6, 2) := by decide +kernel
theorem dX12_bill_90 : decode cX12_bill 90 = .ok (.if_icmp .ge 36, 3) := by decide +kernel
theorem dX12_bill_93 : decode cX12_bill 93 = .ok (.iload_n 3, 1) := by decide +kernel
theorem dX12_bill_94 : decode cX12_bill 94 = .ok (.ifCond .le 32, 3) := by decide +kernel
theorem dX12_bill_97 : decode cX12_bill 97 = .ok (.aload_n 0, 1) := by decide +kernel
theorem dX12_bill_98 : decode cX12_bill 98 = .ok (.iload_n 1, 1) := by decide +kernel
theorem dX12_bill_99 : decode cX12_bill 99 = .ok (.iload 5, 2) := by decide +kernel
theorem dX12_bill_101 : decode cX12_bill 101 = .ok (.invokevirtual 498, 3) := by decide +kernel
theorem dX12_bill_104 : decode cX12_bill 104 = .ok (.ifCond .ne 6, 3) := by decide +kernel
theorem dX12_bill_107 : decode cX12_bill 107 = .ok (.goto 13, 3) := by decide +kernel
theorem dX12_bill_110 : decode cX12_bill 110 = .ok (.aload_n 0, 1) := by decide +kernel
theorem dX12_bill_111 : decode cX12_bill 111 = .ok (.iload 5, 2) := by decide +kernel
theorem dX12_bill_113 : decode cX12_bill 113 = .ok (.iconst 1, 1) := by decide +kernel
theorem dX12_bill_114 : decode cX12_bill 114 = .ok (.invokevirtual 501, 3) := by decide +kernel
theorem dX12_bill_117 : decode cX12_bill 117 = .ok (.iinc 3 (-1), 3) := by decide +kernel
theorem dX12_bill_120 : decode cX12_bill 120 = .ok (.iinc 5 1, 3) := by decide +kernel
theorem dX12_bill_123 : decode cX12_bill 123 = .ok (.goto (-37), 3) := by decide +kernel
theorem dX12_bill_126 : decode cX12_bill 126 = .ok (.iload_n 3, 1) := by decide +kernel
theorem dX12_bill_127 : decode cX12_bill 127 = .ok (.ireturn, 1) := by decide +kernel
theorem dX12_paid_0 : decode cX12_paid 0 = .ok (.aload_n 0, 1) := by decide +kernel
theorem dX12_paid_1 : decode cX12_paid 1 = .ok (.iconst 0, 1) := by decide +kernel
theorem dX12_paid_2 : decode cX12_paid 2 = .ok (.putfield 182, 3) := by decide +kernel
theorem dX12_paid_5 : decode cX12_paid 5 = .ok (.iload_n 1, 1) := by decide +kernel
theorem dX12_paid_6 : decode cX12_paid 6 = .ok (.invokestatic 495, 3) := by decide +kernel
theorem dX12_paid_9 : decode cX12_paid 9 = .ok (.ifCond .eq 12, 3) := by decide +kernel
theorem dX12_paid_12 : decode cX12_paid 12 = .ok (.iload_n 2, 1) := by decide +kernel
theorem dX12_paid_13 : decode cX12_paid 13 = .ok (.ifCond .lt 8, 3) := by decide +kernel
theorem dX12_paid_16 : decode cX12_paid 16 = .ok (.iload_n 2, 1) := by decide +kernel
theorem dX12_paid_17 : decode cX12_paid 17 = .ok (.iconst 1, 1) := by decide +kernel
theorem dX12_paid_18 : decode cX12_paid 18 = .ok (.if_icmp .le 9, 3) := by decide +kernel
theorem dX12_paid_21 : decode cX12_paid 21 = .ok (.aload_n 0, 1) := by decide +kernel
theorem dX12_paid_22 : decode cX12_paid 22 = .ok (.iconst 1, 1) := by decide +kernel
theorem dX12_paid_23 : decode cX12_paid 23 = .ok (.invokevirtual 292, 3) := by decide +kernel
theorem dX12_paid_26 : decode cX12_paid 26 = .ok (.ireturn, 1) := by decide +kernel
theorem dX12_paid_27 : decode cX12_paid 27 = .ok (.iload_n 2, 1) := by decide +kernel
theorem dX12_paid_28 : decode cX12_paid 28 = .ok (.ifCond .ne 12, 3) := by decide +kernel
theorem dX12_paid_31 : decode cX12_paid 31 = .ok (.aload_n 0, 1) := by decide +kernel
theorem dX12_paid_32 : decode cX12_paid 32 = .ok (.getfield 166, 3) := by decide +kernel
theorem dX12_paid_35 : decode cX12_paid 35 = .ok (.iload_n 1, 1) := by decide +kernel
theorem dX12_paid_36 : decode cX12_paid 36 = .ok (.iaload, 1) := by decide +kernel
theorem dX12_paid_37 : decode cX12_paid 37 = .ok (.goto 9, 3) := by decide +kernel
theorem dX12_paid_40 : decode cX12_paid 40 = .ok (.aload_n 0, 1) := by decide +kernel
theorem dX12_paid_41 : decode cX12_paid 41 = .ok (.getfield 160, 3) := by decide +kernel
theorem dX12_paid_44 : decode cX12_paid 44 = .ok (.iload_n 1, 1) := by decide +kernel
theorem dX12_paid_45 : decode cX12_paid 45 = .ok (.iaload, 1) := by decide +kernel
theorem dX12_paid_46 : decode cX12_paid 46 = .ok (.ireturn, 1) := by decide +kernel
theorem dX12_storm_0 : decode cX12_storm 0 = .ok (.aload_n 0, 1) := by decide +kernel
theorem dX12_storm_1 : decode cX12_storm 1 = .ok (.iconst 0, 1) := by decide +kernel
theorem dX12_storm_2 : decode cX12_storm 2 = .ok (.putfield 182, 3) := by decide +kernel
theorem dX12_storm_5 : decode cX12_storm 5 = .ok (.iload_n 1, 1) := by decide +kernel
theorem dX12_storm_6 : decode cX12_storm 6 = .ok (.iconst 0, 1) := by decide +kernel
theorem dX12_storm_7 : decode cX12_storm 7 = .ok (.bipush 29, 2) := by decide +kernel
theorem dX12_storm_9 : decode cX12_storm 9 = .ok (.invokestatic 185, 3) := by decide +kernel
theorem dX12_storm_12 : decode cX12_storm 12 = .ok (.ifCond .eq 13, 3) := by decide +kernel
theorem dX12_storm_15 : decode cX12_storm 15 = .ok (.iload_n 2, 1) := by decide +kernel
theorem dX12_storm_16 : decode cX12_storm 16 = .ok (.iconst 0, 1) := by decide +kernel
theorem dX12_storm_17 : decode cX12_storm 17 = .ok (.bipush 100, 2) := by decide +kernel
theorem dX12_storm_19 : decode cX12_storm 19 = .ok (.invokestatic 185, 3) := by decide +kernel
theorem dX12_storm_22 : decode cX12_storm 22 = .ok (.ifCond .ne 5, 3) := by decide +kernel
theorem dX12_storm_25 : decode cX12_storm 25 = .ok (.iconst 0, 1) := by decide +kernel
theorem dX12_storm_26 : decode cX12_storm 26 = .ok (.ireturn, 1) := by decide +kernel
theorem dX12_storm_27 : decode cX12_storm 27 = .ok (.aload_n 0, 1) := by decide +kernel
theorem dX12_storm_28 : decode cX12_storm 28 = .ok (.getfield 172, 3) := by decide +kernel
theorem dX12_storm_31 : decode cX12_storm 31 = .ok (.iload_n 1, 1) := by decide +kernel
theorem dX12_storm_32 : decode cX12_storm 32 = .ok (.iload_n 2, 1) := by decide +kernel
theorem dX12_storm_33 : decode cX12_storm 33 = .ok (.iastore, 1) := by decide +kernel
theorem dX12_storm_34 : decode cX12_storm 34 = .ok (.iconst 1, 1) := by decide +kernel
theorem dX12_storm_35 : decode cX12_storm 35 = .ok (.ireturn, 1) := by decide +kernel
theorem dX12_lastDay_0 : decode cX12_lastDay 0 = .ok (.aload_n 0, 1) := by decide +kernel
theorem dX12_lastDay_1 : decode cX12_lastDay 1 = .ok (.getfield 66, 3) := by decide +kernel
theorem dX12_lastDay_4 : decode cX12_lastDay 4 = .ok (.iload_n 1, 1) := by decide +kernel
theorem dX12_lastDay_5 : decode cX12_lastDay 5 = .ok (.iaload, 1) := by decide +kernel
theorem dX12_lastDay_6 : decode cX12_lastDay 6 = .ok (.aload_n 0, 1) := by decide +kernel
theorem dX12_lastDay_7 : decode cX12_lastDay 7 = .ok (.getfield 43, 3) := by decide +kernel
theorem dX12_lastDay_10 : decode cX12_lastDay 10 = .ok (.bipush 6, 2) := by decide +kernel
theorem dX12_lastDay_12 : decode cX12_lastDay 12 = .ok (.aload_n 0, 1) := by decide +kernel
theorem dX12_lastDay_13 : decode cX12_lastDay 13 = .ok (.getfield 63, 3) := by decide +kernel
theorem dX12_lastDay_16 : decode cX12_lastDay 16 = .ok (.iload_n 1, 1) := by decide +kernel
theorem dX12_lastDay_17 : decode cX12_lastDay 17 = .ok (.iaload, 1) := by decide +kernel
theorem dX12_lastDay_18 : decode cX12_lastDay 18 = .ok (.imul, 1) := by decide +kernel
theorem dX12_lastDay_19 : decode cX12_lastDay 19 = .ok (.iconst 1, 1) := by decide +kernel
theorem dX12_lastDay_20 : decode cX12_lastDay 20 = .ok (.iadd, 1) := by decide +kernel
theorem dX12_lastDay_21 : decode cX12_lastDay 21 = .ok (.iaload, 1) := by decide +kernel
theorem dX12_lastDay_22 : decode cX12_lastDay 22 = .ok (.iadd, 1) := by decide +kernel
theorem dX12_lastDay_23 : decode cX12_lastDay 23 = .ok (.iconst 1, 1) := by decide +kernel
theorem dX12_lastDay_24 : decode cX12_lastDay 24 = .ok (.isub, 1) := by decide +kernel
theorem dX12_lastDay_25 : decode cX12_lastDay 25 = .ok (.ireturn, 1) := by decide +kernel
theorem dX12_odds_0 : decode cX12_odds 0 = .ok (.aload_n 0, 1) := by decide +kernel
theorem dX12_odds_1 : decode cX12_odds 1 = .ok (.iconst 0, 1) := by decide +kernel
theorem dX12_odds_2 : decode cX12_odds 2 = .ok (.putfield 182, 3) := by decide +kernel
theorem dX12_odds_5 : decode cX12_odds 5 = .ok (.iload_n 1, 1) := by decide +kernel
theorem dX12_odds_6 : decode cX12_odds 6 = .ok (.iconst 0, 1) := by decide +kernel
theorem dX12_odds_7 : decode cX12_odds 7 = .ok (.bipush 101, 2) := by decide +kernel
theorem dX12_odds_9 : decode cX12_odds 9 = .ok (.invokestatic 185, 3) := by decide +kernel
theorem dX12_odds_12 : decode cX12_odds 12 = .ok (.ifCond .ne 9, 3) := by decide +kernel
theorem dX12_odds_15 : decode cX12_odds 15 = .ok (.aload_n 0, 1) := by decide +kernel
theorem dX12_odds_16 : decode cX12_odds 16 = .ok (.iconst 1, 1) := by decide +kernel
theorem dX12_odds_17 : decode cX12_odds 17 = .ok (.invokevirtual 292, 3) := by decide +kernel
theorem dX12_odds_20 : decode cX12_odds 20 = .ok (.ireturn, 1) := by decide +kernel
theorem dX12_odds_21 : decode cX12_odds 21 = .ok (.aload_n 0, 1) := by decide +kernel
theorem dX12_odds_22 : decode cX12_odds 22 = .ok (.getfield 69, 3) := by decide +kernel
theorem dX12_odds_25 : decode cX12_odds 25 = .ok (.iconst (-1), 1) := by decide +kernel
theorem dX12_odds_26 : decode cX12_odds 26 = .ok (.if_icmp .ne 5, 3) := by decide +kernel
theorem dX12_odds_29 : decode cX12_odds 29 = .ok (.iconst (-1), 1) := by decide +kernel
theorem dX12_odds_30 : decode cX12_odds 30 = .ok (.ireturn, 1) := by decide +kernel
theorem dX12_odds_31 : decode cX12_odds 31 = .ok (.iload_n 1, 1) := by decide +kernel
theorem dX12_odds_32 : decode cX12_odds 32 = .ok (.ifCond .ne 65, 3) := by decide +kernel
theorem dX12_odds_35 : decode cX12_odds 35 = .ok (.ldc_w 508, 3) := by decide +kernel
theorem dX12_odds_38 : decode cX12_odds 38 = .ok (.istore_n 2, 1) := by decide +kernel
theorem dX12_odds_39 : decode cX12_odds 39 = .ok (.iconst 0, 1) := by decide +kernel
theorem dX12_odds_40 : decode cX12_odds 40 = .ok (.istore_n 3, 1) := by decide +kernel
theorem dX12_odds_41 : decode cX12_odds 41 = .ok (.iload_n 3, 1) := by decide +kernel
theorem dX12_odds_42 : decode cX12_odds 42 = .ok (.aload_n 0, 1) := by decide +kernel
theorem dX12_odds_43 : decode cX12_odds 43 = .ok (.getfield 69, 3) := by decide +kernel
theorem dX12_odds_46 : decode cX12_odds 46 = .ok (.if_icmp .ge 49, 3) := by decide +kernel
theorem dX12_odds_49 : decode cX12_odds 49 = .ok (.aload_n 0, 1) := by decide +kernel
theorem dX12_odds_50 : decode cX12_odds 50 = .ok (.getfield 66, 3) := by decide +kernel
theorem dX12_odds_53 : decode cX12_odds 53 = .ok (.iload_n 3, 1) := by decide +kernel
theorem dX12_odds_54 : decode cX12_odds 54 = .ok (.iaload, 1) := by decide +kernel
theorem dX12_odds_55 : decode cX12_odds 55 = .ok (.istore 4, 2) := by decide +kernel
theorem dX12_odds_57 : decode cX12_odds 57 = .ok (.iload 4, 2) := by decide +kernel
theorem dX12_odds_59 : decode cX12_odds 59 = .ok (.aload_n 0, 1) := by decide +kernel
theorem dX12_odds_60 : decode cX12_odds 60 = .ok (.iload_n 3, 1) := by decide +kernel
theorem dX12_odds_61 : decode cX12_odds 61 = .ok (.invokevirtual 509, 3) := by decide +kernel
theorem dX12_odds_64 : decode cX12_odds 64 = .ok (.if_icmp .gt 25, 3) := by decide +kernel
theorem dX12_odds_67 : decode cX12_odds 67 = .ok (.iload_n 2, 1) := by decide +kernel
theorem dX12_odds_68 : decode cX12_odds 68 = .ok (.bipush 100, 2) := by decide +kernel
theorem dX12_odds_70 : decode cX12_odds 70 = .ok (.aload_n 0, 1) := by decide +kernel
theorem dX12_odds_71 : decode cX12_odds 71 = .ok (.getfield 172, 3) := by decide +kernel
theorem dX12_odds_74 : decode cX12_odds 74 = .ok (.iload 4, 2) := by decide +kernel
theorem dX12_odds_76 : decode cX12_odds 76 = .ok (.iaload, 1) := by decide +kernel
theorem dX12_odds_77 : decode cX12_odds 77 = .ok (.isub, 1) := by decide +kernel
theorem dX12_odds_78 : decode cX12_odds 78 = .ok (.imul, 1) := by decide +kernel
theorem dX12_odds_79 : decode cX12_odds 79 = .ok (.bipush 100, 2) := by decide +kernel
theorem dX12_odds_81 : decode cX12_odds 81 = .ok (.idiv, 1) := by decide +kernel
theorem dX12_odds_82 : decode cX12_odds 82 = .ok (.istore_n 2, 1) := by decide +kernel
theorem dX12_odds_83 : decode cX12_odds 83 = .ok (.iinc 4 1, 3) := by decide +kernel
theorem dX12_odds_86 : decode cX12_odds 86 = .ok (.goto (-29), 3) := by decide +kernel
theorem dX12_odds_89 : decode cX12_odds 89 = .ok (.iinc 3 1, 3) := by decide +kernel
theorem dX12_odds_92 : decode cX12_odds 92 = .ok (.goto (-51), 3) := by decide +kernel
theorem dX12_odds_95 : decode cX12_odds 95 = .ok (.iload_n 2, 1) := by decide +kernel
theorem dX12_odds_96 : decode cX12_odds 96 = .ok (.ireturn, 1) := by decide +kernel
theorem dX12_odds_97 : decode cX12_odds 97 = .ok (.iconst 0, 1) := by decide +kernel
theorem dX12_odds_98 : decode cX12_odds 98 = .ok (.istore_n 2, 1) := by decide +kernel
theorem dX12_odds_99 : decode cX12_odds 99 = .ok (.iload_n 2, 1) := by decide +kernel
theorem dX12_odds_100 : decode cX12_odds 100 = .ok (.bipush 30, 2) := by decide +kernel
theorem dX12_odds_102 : decode cX12_odds 102 = .ok (.if_icmp .ge 21, 3) := by decide +kernel
theorem dX12_odds_105 : decode cX12_odds 105 = .ok (.aload_n 0, 1) := by decide +kernel
theorem dX12_odds_106 : decode cX12_odds 106 = .ok (.getfield 172, 3) := by decide +kernel
theorem dX12_odds_109 : decode cX12_odds 109 = .ok (.iload_n 2, 1) := by decide +kernel
theorem dX12_odds_110 : decode cX12_odds 110 = .ok (.iaload, 1) := by decide +kernel
theorem dX12_odds_111 : decode cX12_odds 111 = .ok (.iload_n 1, 1) := by decide +kernel
theorem dX12_odds_112 : decode cX12_odds 112 = .ok (.iconst 1, 1) := by decide +kernel
theorem dX12_odds_113 : decode cX12_odds 113 = .ok (.isub, 1) := by decide +kernel
theorem dX12_odds_114 : decode cX12_odds 114 = .ok (.if_icmp .gt 9, 3) := by decide +kernel
theorem dX12_odds_117 : decode cX12_odds 117 = .ok (.iinc 2 1, 3) := by decide +kernel
theorem dX12_odds_120 : decode cX12_odds 120 = .ok (.goto (-21), 3) := by decide +kernel
theorem dX12_odds_123 : decode cX12_odds 123 = .ok (.iconst 0, 1) := by decide +kernel
theorem dX12_odds_124 : decode cX12_odds 124 = .ok (.istore_n 3, 1) := by decide +kernel
theorem dX12_odds_125 : decode cX12_odds 125 = .ok (.iconst 0, 1) := by decide +kernel
theorem dX12_odds_126 : decode cX12_odds 126 = .ok (.istore 4, 2) := by decide +kernel
theorem dX12_odds_128 : decode cX12_odds 128 = .ok (.iload 4, 2) := by decide +kernel
theorem dX12_odds_130 : decode cX12_odds 130 = .ok (.aload_n 0, 1) := by decide +kernel
theorem dX12_odds_131 : decode cX12_odds 131 = .ok (.getfield 69, 3) := by decide +kernel
theorem dX12_odds_134 : decode cX12_odds 134 = .ok (.if_icmp .ge 27, 3) := by decide +kernel
theorem dX12_odds_137 : decode cX12_odds 137 = .ok (.iload_n 3, 1) := by decide +kernel
theorem dX12_odds_138 : decode cX12_odds 138 = .ok (.aload_n 0, 1) := by decide +kernel
theorem dX12_odds_139 : decode cX12_odds 139 = .ok (.iload 4, 2) := by decide +kernel
theorem dX12_odds_141 : decode cX12_odds 141 = .ok (.invokevirtual 509, 3) := by decide +kernel
theorem dX12_odds_144 : decode cX12_odds 144 = .ok (.iload_n 2, 1) := by decide +kernel
theorem dX12_odds_145 : decode cX12_odds 145 = .ok (.if_icmp .ge 7, 3) := by decide +kernel
theorem dX12_odds_148 : decode cX12_odds 148 = .ok (.iconst 1, 1) := by decide +kernel
theorem dX12_odds_149 : decode cX12_odds 149 = .ok (.goto 4, 3) := by decide +kernel
theorem dX12_odds_152 : decode cX12_odds 152 = .ok (.iconst 0, 1) := by decide +kernel
theorem dX12_odds_153 : decode cX12_odds 153 = .ok (.iadd, 1) := by decide +kernel
theorem dX12_odds_154 : decode cX12_odds 154 = .ok (.istore_n 3, 1) := by decide +kernel
theorem dX12_odds_155 : decode cX12_odds 155 = .ok (.iinc 4 1, 3) := by decide +kernel
theorem dX12_odds_158 : decode cX12_odds 158 = .ok (.goto (-30), 3) := by decide +kernel
theorem dX12_odds_161 : decode cX12_odds 161 = .ok (.iload_n 3, 1) := by decide +kernel
theorem dX12_odds_162 : decode cX12_odds 162 = .ok (.ireturn, 1) := by decide +kernel
