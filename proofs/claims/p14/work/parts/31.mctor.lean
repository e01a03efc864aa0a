theorem k_744 : Cond.methodLink RX7 1 Lib.objectInit ∈ tb := mt 744 (by decide +kernel) rfl
theorem k_947 : Cond.arrayClass .boolean ∈ tb := mt 947 (by decide +kernel) rfl
theorem dX7_init_0 : decode cX7_init 0 = .ok (.aload_n 0, 1) := by decide +kernel
theorem dX7_init_1 : decode cX7_init 1 = .ok (.invokespecial 1, 3) := by decide +kernel
theorem dX7_init_4 : decode cX7_init 4 = .ok (.aload_n 0, 1) := by decide +kernel
theorem dX7_init_5 : decode cX7_init 5 = .ok (.bipush 6, 2) := by decide +kernel
theorem dX7_init_7 : decode cX7_init 7 = .ok (.newarray .int, 2) := by decide +kernel
theorem dX7_init_9 : decode cX7_init 9 = .ok (.putfield 7, 3) := by decide +kernel
theorem dX7_init_12 : decode cX7_init 12 = .ok (.aload_n 0, 1) := by decide +kernel
theorem dX7_init_13 : decode cX7_init 13 = .ok (.bipush 48, 2) := by decide +kernel
theorem dX7_init_15 : decode cX7_init 15 = .ok (.newarray .int, 2) := by decide +kernel
theorem dX7_init_17 : decode cX7_init 17 = .ok (.putfield 13, 3) := by decide +kernel
theorem dX7_init_20 : decode cX7_init 20 = .ok (.aload_n 0, 1) := by decide +kernel
theorem dX7_init_21 : decode cX7_init 21 = .ok (.bipush 48, 2) := by decide +kernel
theorem dX7_init_23 : decode cX7_init 23 = .ok (.newarray .int, 2) := by decide +kernel
theorem dX7_init_25 : decode cX7_init 25 = .ok (.putfield 16, 3) := by decide +kernel
theorem dX7_init_28 : decode cX7_init 28 = .ok (.aload_n 0, 1) := by decide +kernel
theorem dX7_init_29 : decode cX7_init 29 = .ok (.bipush 48, 2) := by decide +kernel
theorem dX7_init_31 : decode cX7_init 31 = .ok (.newarray .int, 2) := by decide +kernel
theorem dX7_init_33 : decode cX7_init 33 = .ok (.putfield 19, 3) := by decide +kernel
theorem dX7_init_36 : decode cX7_init 36 = .ok (.aload_n 0, 1) := by decide +kernel
theorem dX7_init_37 : decode cX7_init 37 = .ok (.bipush 6, 2) := by decide +kernel
theorem dX7_init_39 : decode cX7_init 39 = .ok (.newarray .int, 2) := by decide +kernel
theorem dX7_init_41 : decode cX7_init 41 = .ok (.putfield 22, 3) := by decide +kernel
theorem dX7_init_44 : decode cX7_init 44 = .ok (.aload_n 0, 1) := by decide +kernel
theorem dX7_init_45 : decode cX7_init 45 = .ok (.bipush 6, 2) := by decide +kernel
theorem dX7_init_47 : decode cX7_init 47 = .ok (.newarray .int, 2) := by decide +kernel
theorem dX7_init_49 : decode cX7_init 49 = .ok (.putfield 25, 3) := by decide +kernel
theorem dX7_init_52 : decode cX7_init 52 = .ok (.aload_n 0, 1) := by decide +kernel
theorem dX7_init_53 : decode cX7_init 53 = .ok (.bipush 48, 2) := by decide +kernel
theorem dX7_init_55 : decode cX7_init 55 = .ok (.newarray .int, 2) := by decide +kernel
theorem dX7_init_57 : decode cX7_init 57 = .ok (.putfield 28, 3) := by decide +kernel
theorem dX7_init_60 : decode cX7_init 60 = .ok (.aload_n 0, 1) := by decide +kernel
theorem dX7_init_61 : decode cX7_init 61 = .ok (.bipush 12, 2) := by decide +kernel
theorem dX7_init_63 : decode cX7_init 63 = .ok (.newarray .int, 2) := by decide +kernel
theorem dX7_init_65 : decode cX7_init 65 = .ok (.putfield 31, 3) := by decide +kernel
theorem dX7_init_68 : decode cX7_init 68 = .ok (.aload_n 0, 1) := by decide +kernel
theorem dX7_init_69 : decode cX7_init 69 = .ok (.bipush 12, 2) := by decide +kernel
theorem dX7_init_71 : decode cX7_init 71 = .ok (.newarray .int, 2) := by decide +kernel
theorem dX7_init_73 : decode cX7_init 73 = .ok (.putfield 34, 3) := by decide +kernel
theorem dX7_init_76 : decode cX7_init 76 = .ok (.aload_n 0, 1) := by decide +kernel
theorem dX7_init_77 : decode cX7_init 77 = .ok (.sipush 192, 3) := by decide +kernel
theorem dX7_init_80 : decode cX7_init 80 = .ok (.newarray .int, 2) := by decide +kernel
theorem dX7_init_82 : decode cX7_init 82 = .ok (.putfield 37, 3) := by decide +kernel
theorem dX7_init_85 : decode cX7_init 85 = .ok (.aload_n 0, 1) := by decide +kernel
theorem dX7_init_86 : decode cX7_init 86 = .ok (.sipush 192, 3) := by decide +kernel
theorem dX7_init_89 : decode cX7_init 89 = .ok (.newarray .int, 2) := by decide +kernel
theorem dX7_init_91 : decode cX7_init 91 = .ok (.putfield 40, 3) := by decide +kernel
theorem dX7_init_94 : decode cX7_init 94 = .ok (.aload_n 0, 1) := by decide +kernel
theorem dX7_init_95 : decode cX7_init 95 = .ok (.sipush 192, 3) := by decide +kernel
theorem dX7_init_98 : decode cX7_init 98 = .ok (.newarray .int, 2) := by decide +kernel
theorem dX7_init_100 : decode cX7_init 100 = .ok (.putfield 43, 3) := by decide +kernel
theorem dX7_init_103 : decode cX7_init 103 = .ok (.aload_n 0, 1) := by decide +kernel
theorem dX7_init_104 : decode cX7_init 104 = .ok (.sipush 192, 3) := by decide +kernel
theorem dX7_init_107 : decode cX7_init 107 = .ok (.newarray .int, 2) := by decide +kernel
theorem dX7_init_109 : decode cX7_init 109 = .ok (.putfield 46, 3) := by decide +kernel
theorem dX7_init_112 : decode cX7_init 112 = .ok (.aload_n 0, 1) := by decide +kernel
theorem dX7_init_113 : decode cX7_init 113 = .ok (.iconst 2, 1) := by decide +kernel
theorem dX7_init_114 : decode cX7_init 114 = .ok (.newarray .int, 2) := by decide +kernel
theorem dX7_init_116 : decode cX7_init 116 = .ok (.putfield 49, 3) := by decide +kernel
theorem dX7_init_119 : decode cX7_init 119 = .ok (.aload_n 0, 1) := by decide +kernel
theorem dX7_init_120 : decode cX7_init 120 = .ok (.bipush 12, 2) := by decide +kernel
theorem dX7_init_122 : decode cX7_init 122 = .ok (.newarray .int, 2) := by decide +kernel
theorem dX7_init_124 : decode cX7_init 124 = .ok (.putfield 52, 3) := by decide +kernel
theorem dX7_init_127 : decode cX7_init 127 = .ok (.aload_n 0, 1) := by decide +kernel
theorem dX7_init_128 : decode cX7_init 128 = .ok (.bipush 12, 2) := by decide +kernel
theorem dX7_init_130 : decode cX7_init 130 = .ok (.newarray .int, 2) := by decide +kernel
theorem dX7_init_132 : decode cX7_init 132 = .ok (.putfield 55, 3) := by decide +kernel
theorem dX7_init_135 : decode cX7_init 135 = .ok (.aload_n 0, 1) := by decide +kernel
theorem dX7_init_136 : decode cX7_init 136 = .ok (.bipush 96, 2) := by decide +kernel
theorem dX7_init_138 : decode cX7_init 138 = .ok (.newarray .int, 2) := by decide +kernel
theorem dX7_init_140 : decode cX7_init 140 = .ok (.putfield 58, 3) := by decide +kernel
theorem dX7_init_143 : decode cX7_init 143 = .ok (.aload_n 0, 1) := by decide +kernel
theorem dX7_init_144 : decode cX7_init 144 = .ok (.bipush 96, 2) := by decide +kernel
theorem dX7_init_146 : decode cX7_init 146 = .ok (.newarray .int, 2) := by decide +kernel
theorem dX7_init_148 : decode cX7_init 148 = .ok (.putfield 61, 3) := by decide +kernel
theorem dX7_init_151 : decode cX7_init 151 = .ok (.aload_n 0, 1) := by decide +kernel
theorem dX7_init_152 : decode cX7_init 152 = .ok (.bipush 96, 2) := by decide +kernel
theorem dX7_init_154 : decode cX7_init 154 = .ok (.newarray .int, 2) := by decide +kernel
theorem dX7_init_156 : decode cX7_init 156 = .ok (.putfield 64, 3) := by decide +kernel
theorem dX7_init_159 : decode cX7_init 159 = .ok (.aload_n 0, 1) := by decide +kernel
theorem dX7_init_160 : decode cX7_init 160 = .ok (.bipush 12, 2) := by decide +kernel
theorem dX7_init_162 : decode cX7_init 162 = .ok (.newarray .boolean, 2) := by decide +kernel
theorem dX7_init_164 : decode cX7_init 164 = .ok (.putfield 67, 3) := by decide +kernel
theorem dX7_init_167 : decode cX7_init 167 = .ok (.aload_n 0, 1) := by decide +kernel
theorem dX7_init_168 : decode cX7_init 168 = .ok (.bipush 40, 2) := by decide +kernel
theorem dX7_init_170 : decode cX7_init 170 = .ok (.newarray .int, 2) := by decide +kernel
theorem dX7_init_172 : decode cX7_init 172 = .ok (.putfield 71, 3) := by decide +kernel
theorem dX7_init_175 : decode cX7_init 175 = .ok (.aload_n 0, 1) := by decide +kernel
theorem dX7_init_176 : decode cX7_init 176 = .ok (.bipush 20, 2) := by decide +kernel
theorem dX7_init_178 : decode cX7_init 178 = .ok (.newarray .int, 2) := by decide +kernel
theorem dX7_init_180 : decode cX7_init 180 = .ok (.putfield 74, 3) := by decide +kernel
theorem dX7_init_183 : decode cX7_init 183 = .ok (.aload_n 0, 1) := by decide +kernel
theorem dX7_init_184 : decode cX7_init 184 = .ok (.bipush 20, 2) := by decide +kernel
theorem dX7_init_186 : decode cX7_init 186 = .ok (.newarray .int, 2) := by decide +kernel
theorem dX7_init_188 : decode cX7_init 188 = .ok (.putfield 77, 3) := by decide +kernel
theorem dX7_init_191 : decode cX7_init 191 = .ok (.aload_n 0, 1) := by decide +kernel
theorem dX7_init_192 : decode cX7_init 192 = .ok (.bipush 20, 2) := by decide +kernel
theorem dX7_init_194 : decode cX7_init 194 = .ok (.newarray .int, 2) := by decide +kernel
theorem dX7_init_196 : decode cX7_init 196 = .ok (.putfield 80, 3) := by decide +kernel
theorem dX7_init_199 : decode cX7_init 199 = .ok (.aload_n 0, 1) := by decide +kernel
theorem dX7_init_200 : decode cX7_init 200 = .ok (.bipush 100, 2) := by decide +kernel
theorem dX7_init_202 : decode cX7_init 202 = .ok (.newarray .int, 2) := by decide +kernel
theorem dX7_init_204 : decode cX7_init 204 = .ok (.putfield 83, 3) := by decide +kernel
theorem dX7_init_207 : decode cX7_init 207 = .ok (.aload_n 0, 1) := by decide +kernel
theorem dX7_init_208 : decode cX7_init 208 = .ok (.bipush 6, 2) := by decide +kernel
theorem dX7_init_210 : decode cX7_init 210 = .ok (.newarray .int, 2) := by decide +kernel
theorem dX7_init_212 : decode cX7_init 212 = .ok (.putfield 86, 3) := by decide +kernel
theorem dX7_init_215 : decode cX7_init 215 = .ok (.aload_n 0, 1) := by decide +kernel
theorem dX7_init_216 : decode cX7_init 216 = .ok (.bipush 6, 2) := by decide +kernel
theorem dX7_init_218 : decode cX7_init 218 = .ok (.newarray .int, 2) := by decide +kernel
theorem dX7_init_220 : decode cX7_init 220 = .ok (.putfield 89, 3) := by decide +kernel
theorem dX7_init_223 : decode cX7_init 223 = .ok (.aload_n 0, 1) := by decide +kernel
theorem dX7_init_224 : decode cX7_init 224 = .ok (.bipush 6, 2) := by decide +kernel
theorem dX7_init_226 : decode cX7_init 226 = .ok (.newarray .int, 2) := by decide +kernel
theorem dX7_init_228 : decode cX7_init 228 = .ok (.putfield 92, 3) := by decide +kernel
theorem dX7_init_231 : decode cX7_init 231 = .ok (.aload_n 0, 1) := by decide +kernel
theorem dX7_init_232 : decode cX7_init 232 = .ok (.iconst 4, 1) := by decide +kernel
theorem dX7_init_233 : decode cX7_init 233 = .ok (.newarray .int, 2) := by decide +kernel
theorem dX7_init_235 : decode cX7_init 235 = .ok (.dup, 1) := by decide +kernel
theorem dX7_init_236 : decode cX7_init 236 = .ok (.iconst 0, 1) := by decide +kernel
theorem dX7_init_237 : decode cX7_init 237 = .ok (.iconst 1, 1) := by decide +kernel
theorem dX7_init_238 : decode cX7_init 238 = .ok (.iastore, 1) := by decide +kernel
theorem dX7_init_239 : decode cX7_init 239 = .ok (.dup, 1) := by decide +kernel
theorem dX7_init_240 : decode cX7_init 240 = .ok (.iconst 1, 1) := by decide +kernel
theorem dX7_init_241 : decode cX7_init 241 = .ok (.iconst 1, 1) := by decide +kernel
theorem dX7_init_242 : decode cX7_init 242 = .ok (.iastore, 1) := by decide +kernel
theorem dX7_init_243 : decode cX7_init 243 = .ok (.dup, 1) := by decide +kernel
theorem dX7_init_244 : decode cX7_init 244 = .ok (.iconst 2, 1) := by decide +kernel
theorem dX7_init_245 : decode cX7_init 245 = .ok (.iconst 1, 1) := by decide +kernel
theorem dX7_init_246 : decode cX7_init 246 = .ok (.iastore, 1) := by decide +kernel
theorem dX7_init_247 : decode cX7_init 247 = .ok (.dup, 1) := by decide +kernel
theorem dX7_init_248 : decode cX7_init 248 = .ok (.iconst 3, 1) := by decide +kernel
theorem dX7_init_249 : decode cX7_init 249 = .ok (.iconst 1, 1) := by decide +kernel
theorem dX7_init_250 : decode cX7_init 250 = .ok (.iastore, 1) := by decide +kernel
theorem dX7_init_251 : decode cX7_init 251 = .ok (.putfield 95, 3) := by decide +kernel
theorem dX7_init_254 : decode cX7_init 254 = .ok (.aload_n 0, 1) := by decide +kernel
theorem dX7_init_255 : decode cX7_init 255 = .ok (.bipush 8, 2) := by decide +kernel
theorem dX7_init_257 : decode cX7_init 257 = .ok (.newarray .int, 2) := by decide +kernel
theorem dX7_init_259 : decode cX7_init 259 = .ok (.putfield 98, 3) := by decide +kernel
theorem dX7_init_262 : decode cX7_init 262 = .ok (.aload_n 0, 1) := by decide +kernel
theorem dX7_init_263 : decode cX7_init 263 = .ok (.bipush 8, 2) := by decide +kernel
theorem dX7_init_265 : decode cX7_init 265 = .ok (.newarray .int, 2) := by decide +kernel
theorem dX7_init_267 : decode cX7_init 267 = .ok (.putfield 101, 3) := by decide +kernel
theorem dX7_init_270 : decode cX7_init 270 = .ok (.aload_n 0, 1) := by decide +kernel
theorem dX7_init_271 : decode cX7_init 271 = .ok (.bipush 8, 2) := by decide +kernel
theorem dX7_init_273 : decode cX7_init 273 = .ok (.newarray .int, 2) := by decide +kernel
theorem dX7_init_275 : decode cX7_init 275 = .ok (.putfield 104, 3) := by decide +kernel
theorem dX7_init_278 : decode cX7_init 278 = .ok (.aload_n 0, 1) := by decide +kernel
theorem dX7_init_279 : decode cX7_init 279 = .ok (.bipush 24, 2) := by decide +kernel
theorem dX7_init_281 : decode cX7_init 281 = .ok (.newarray .int, 2) := by decide +kernel
theorem dX7_init_283 : decode cX7_init 283 = .ok (.dup, 1) := by decide +kernel
theorem dX7_init_284 : decode cX7_init 284 = .ok (.iconst 0, 1) := by decide +kernel
theorem dX7_init_285 : decode cX7_init 285 = .ok (.bipush 115, 2) := by decide +kernel
theorem dX7_init_287 : decode cX7_init 287 = .ok (.iastore, 1) := by decide +kernel
theorem dX7_init_288 : decode cX7_init 288 = .ok (.dup, 1) := by decide +kernel
theorem dX7_init_289 : decode cX7_init 289 = .ok (.iconst 1, 1) := by decide +kernel
theorem dX7_init_290 : decode cX7_init 290 = .ok (.bipush 101, 2) := by decide +kernel
theorem dX7_init_292 : decode cX7_init 292 = .ok (.iastore, 1) := by decide +kernel
theorem dX7_init_293 : decode cX7_init 293 = .ok (.dup, 1) := by decide +kernel
theorem dX7_init_294 : decode cX7_init 294 = .ok (.iconst 2, 1) := by decide +kernel
theorem dX7_init_295 : decode cX7_init 295 = .ok (.bipush 116, 2) := by decide +kernel
theorem dX7_init_297 : decode cX7_init 297 = .ok (.iastore, 1) := by decide +kernel
theorem dX7_init_298 : decode cX7_init 298 = .ok (.dup, 1) := by decide +kernel
theorem dX7_init_299 : decode cX7_init 299 = .ok (.iconst 3, 1) := by decide +kernel
theorem dX7_init_300 : decode cX7_init 300 = .ok (.bipush 97, 2) := by decide +kernel
theorem dX7_init_302 : decode cX7_init 302 = .ok (.iastore, 1) := by decide +kernel
theorem dX7_init_303 : decode cX7_init 303 = .ok (.dup, 1) := by decide +kernel
theorem dX7_init_304 : decode cX7_init 304 = .ok (.iconst 4, 1) := by decide +kernel
theorem dX7_init_305 : decode cX7_init 305 = .ok (.bipush 100, 2) := by decide +kernel
theorem dX7_init_307 : decode cX7_init 307 = .ok (.iastore, 1) := by decide +kernel
theorem dX7_init_308 : decode cX7_init 308 = .ok (.dup, 1) := by decide +kernel
theorem dX7_init_309 : decode cX7_init 309 = .ok (.iconst 5, 1) := by decide +kernel
theorem dX7_init_310 : decode cX7_init 310 = .ok (.bipush 100, 2) := by decide +kernel
theorem dX7_init_312 : decode cX7_init 312 = .ok (.iastore, 1) := by decide +kernel
theorem dX7_init_313 : decode cX7_init 313 = .ok (.dup, 1) := by decide +kernel
theorem dX7_init_314 : decode cX7_init 314 = .ok (.bipush 6, 2) := by decide +kernel
theorem dX7_init_316 : decode cX7_init 316 = .ok (.bipush 109, 2) := by decide +kernel
theorem dX7_init_318 : decode cX7_init 318 = .ok (.iastore, 1) := by decide +kernel
theorem dX7_init_319 : decode cX7_init 319 = .ok (.dup, 1) := by decide +kernel
theorem dX7_init_320 : decode cX7_init 320 = .ok (.bipush 7, 2) := by decide +kernel
theorem dX7_init_322 : decode cX7_init 322 = .ok (.bipush 97, 2) := by decide +kernel
theorem dX7_init_324 : decode cX7_init 324 = .ok (.iastore, 1) := by decide +kernel
theorem dX7_init_325 : decode cX7_init 325 = .ok (.dup, 1) := by decide +kernel
theorem dX7_init_326 : decode cX7_init 326 = .ok (.bipush 8, 2) := by decide +kernel
theorem dX7_init_328 : decode cX7_init 328 = .ok (.bipush 120, 2) := by decide +kernel
theorem dX7_init_330 : decode cX7_init 330 = .ok (.iastore, 1) := by decide +kernel
theorem dX7_init_331 : decode cX7_init 331 = .ok (.dup, 1) := by decide +kernel
theorem dX7_init_332 : decode cX7_init 332 = .ok (.bipush 9, 2) := by decide +kernel
theorem dX7_init_334 : decode cX7_init 334 = .ok (.bipush 110, 2) := by decide +kernel
theorem dX7_init_336 : decode cX7_init 336 = .ok (.iastore, 1) := by decide +kernel
theorem dX7_init_337 : decode cX7_init 337 = .ok (.dup, 1) := by decide +kernel
theorem dX7_init_338 : decode cX7_init 338 = .ok (.bipush 10, 2) := by decide +kernel
theorem dX7_init_340 : decode cX7_init 340 = .ok (.bipush 101, 2) := by decide +kernel
theorem dX7_init_342 : decode cX7_init 342 = .ok (.iastore, 1) := by decide +kernel
theorem dX7_init_343 : decode cX7_init 343 = .ok (.dup, 1) := by decide +kernel
theorem dX7_init_344 : decode cX7_init 344 = .ok (.bipush 11, 2) := by decide +kernel
theorem dX7_init_346 : decode cX7_init 346 = .ok (.bipush 119, 2) := by decide +kernel
theorem dX7_init_348 : decode cX7_init 348 = .ok (.iastore, 1) := by decide +kernel
theorem dX7_init_349 : decode cX7_init 349 = .ok (.dup, 1) := by decide +kernel
theorem dX7_init_350 : decode cX7_init 350 = .ok (.bipush 12, 2) := by decide +kernel
theorem dX7_init_352 : decode cX7_init 352 = .ok (.bipush 103, 2) := by decide +kernel
theorem dX7_init_354 : decode cX7_init 354 = .ok (.iastore, 1) := by decide +kernel
theorem dX7_init_355 : decode cX7_init 355 = .ok (.dup, 1) := by decide +kernel
theorem dX7_init_356 : decode cX7_init 356 = .ok (.bipush 13, 2) := by decide +kernel
theorem dX7_init_358 : decode cX7_init 358 = .ok (.bipush 101, 2) := by decide +kernel
theorem dX7_init_360 : decode cX7_init 360 = .ok (.iastore, 1) := by decide +kernel
theorem dX7_init_361 : decode cX7_init 361 = .ok (.dup, 1) := by decide +kernel
theorem dX7_init_362 : decode cX7_init 362 = .ok (.bipush 14, 2) := by decide +kernel
theorem dX7_init_364 : decode cX7_init 364 = .ok (.bipush 116, 2) := by decide +kernel
theorem dX7_init_366 : decode cX7_init 366 = .ok (.iastore, 1) := by decide +kernel
theorem dX7_init_367 : decode cX7_init 367 = .ok (.dup, 1) := by decide +kernel
theorem dX7_init_368 : decode cX7_init 368 = .ok (.bipush 15, 2) := by decide +kernel
theorem dX7_init_370 : decode cX7_init 370 = .ok (.bipush 97, 2) := by decide +kernel
theorem dX7_init_372 : decode cX7_init 372 = .ok (.iastore, 1) := by decide +kernel
theorem dX7_init_373 : decode cX7_init 373 = .ok (.dup, 1) := by decide +kernel
theorem dX7_init_374 : decode cX7_init 374 = .ok (.bipush 16, 2) := by decide +kernel
theorem dX7_init_376 : decode cX7_init 376 = .ok (.bipush 115, 2) := by decide +kernel
theorem dX7_init_378 : decode cX7_init 378 = .ok (.iastore, 1) := by decide +kernel
theorem dX7_init_379 : decode cX7_init 379 = .ok (.dup, 1) := by decide +kernel
theorem dX7_init_380 : decode cX7_init 380 = .ok (.bipush 17, 2) := by decide +kernel
theorem dX7_init_382 : decode cX7_init 382 = .ok (.bipush 107, 2) := by decide +kernel
theorem dX7_init_384 : decode cX7_init 384 = .ok (.iastore, 1) := by decide +kernel
theorem dX7_init_385 : decode cX7_init 385 = .ok (.dup, 1) := by decide +kernel
theorem dX7_init_386 : decode cX7_init 386 = .ok (.bipush 18, 2) := by decide +kernel
theorem dX7_init_388 : decode cX7_init 388 = .ok (.bipush 100, 2) := by decide +kernel
theorem dX7_init_390 : decode cX7_init 390 = .ok (.iastore, 1) := by decide +kernel
theorem dX7_init_391 : decode cX7_init 391 = .ok (.dup, 1) := by decide +kernel
theorem dX7_init_392 : decode cX7_init 392 = .ok (.bipush 19, 2) := by decide +kernel
theorem dX7_init_394 : decode cX7_init 394 = .ok (.bipush 111, 2) := by decide +kernel
theorem dX7_init_396 : decode cX7_init 396 = .ok (.iastore, 1) := by decide +kernel
theorem dX7_init_397 : decode cX7_init 397 = .ok (.dup, 1) := by decide +kernel
theorem dX7_init_398 : decode cX7_init 398 = .ok (.bipush 20, 2) := by decide +kernel
theorem dX7_init_400 : decode cX7_init 400 = .ok (.iconst 0, 1) := by decide +kernel
theorem dX7_init_401 : decode cX7_init 401 = .ok (.iastore, 1) := by decide +kernel
theorem dX7_init_402 : decode cX7_init 402 = .ok (.dup, 1) := by decide +kernel
theorem dX7_init_403 : decode cX7_init 403 = .ok (.bipush 21, 2) := by decide +kernel
theorem dX7_init_405 : decode cX7_init 405 = .ok (.bipush 105, 2) := by decide +kernel
theorem dX7_init_407 : decode cX7_init 407 = .ok (.iastore, 1) := by decide +kernel
theorem dX7_init_408 : decode cX7_init 408 = .ok (.dup, 1) := by decide +kernel
theorem dX7_init_409 : decode cX7_init 409 = .ok (.bipush 22, 2) := by decide +kernel
theorem dX7_init_411 : decode cX7_init 411 = .ok (.bipush 102, 2) := by decide +kernel
theorem dX7_init_413 : decode cX7_init 413 = .ok (.iastore, 1) := by decide +kernel
theorem dX7_init_414 : decode cX7_init 414 = .ok (.dup, 1) := by decide +kernel
theorem dX7_init_415 : decode cX7_init 415 = .ok (.bipush 23, 2) := by decide +kernel
theorem dX7_init_417 : decode cX7_init 417 = .ok (.iconst 0, 1) := by decide +kernel
theorem dX7_init_418 : decode cX7_init 418 = .ok (.iastore, 1) := by decide +kernel
theorem dX7_init_419 : decode cX7_init 419 = .ok (.putfield 107, 3) := by decide +kernel
theorem dX7_init_422 : decode cX7_init 422 = .ok (.aload_n 0, 1) := by decide +kernel
theorem dX7_init_423 : decode cX7_init 423 = .ok (.bipush 7, 2) := by decide +kernel
theorem dX7_init_425 : decode cX7_init 425 = .ok (.newarray .int, 2) := by decide +kernel
theorem dX7_init_427 : decode cX7_init 427 = .ok (.putfield 110, 3) := by decide +kernel
theorem dX7_init_430 : decode cX7_init 430 = .ok (.aload_n 0, 1) := by decide +kernel
theorem dX7_init_431 : decode cX7_init 431 = .ok (.bipush 7, 2) := by decide +kernel
theorem dX7_init_433 : decode cX7_init 433 = .ok (.newarray .int, 2) := by decide +kernel
theorem dX7_init_435 : decode cX7_init 435 = .ok (.putfield 113, 3) := by decide +kernel
theorem dX7_init_438 : decode cX7_init 438 = .ok (.aload_n 0, 1) := by decide +kernel
theorem dX7_init_439 : decode cX7_init 439 = .ok (.bipush 7, 2) := by decide +kernel
theorem dX7_init_441 : decode cX7_init 441 = .ok (.newarray .int, 2) := by decide +kernel
theorem dX7_init_443 : decode cX7_init 443 = .ok (.putfield 116, 3) := by decide +kernel
theorem dX7_init_446 : decode cX7_init 446 = .ok (.aload_n 0, 1) := by decide +kernel
theorem dX7_init_447 : decode cX7_init 447 = .ok (.bipush 7, 2) := by decide +kernel
theorem dX7_init_449 : decode cX7_init 449 = .ok (.newarray .int, 2) := by decide +kernel
theorem dX7_init_451 : decode cX7_init 451 = .ok (.putfield 119, 3) := by decide +kernel
theorem dX7_init_454 : decode cX7_init 454 = .ok (.aload_n 0, 1) := by decide +kernel
theorem dX7_init_455 : decode cX7_init 455 = .ok (.bipush 7, 2) := by decide +kernel
theorem dX7_init_457 : decode cX7_init 457 = .ok (.newarray .int, 2) := by decide +kernel
theorem dX7_init_459 : decode cX7_init 459 = .ok (.putfield 122, 3) := by decide +kernel
theorem dX7_init_462 : decode cX7_init 462 = .ok (.aload_n 0, 1) := by decide +kernel
theorem dX7_init_463 : decode cX7_init 463 = .ok (.bipush 7, 2) := by decide +kernel
theorem dX7_init_465 : decode cX7_init 465 = .ok (.newarray .boolean, 2) := by decide +kernel
theorem dX7_init_467 : decode cX7_init 467 = .ok (.putfield 125, 3) := by decide +kernel
theorem dX7_init_470 : decode cX7_init 470 = .ok (.aload_n 0, 1) := by decide +kernel
theorem dX7_init_471 : decode cX7_init 471 = .ok (.sipush 1200, 3) := by decide +kernel
theorem dX7_init_474 : decode cX7_init 474 = .ok (.newarray .int, 2) := by decide +kernel
theorem dX7_init_476 : decode cX7_init 476 = .ok (.putfield 128, 3) := by decide +kernel
theorem dX7_init_479 : decode cX7_init 479 = .ok (.aload_n 0, 1) := by decide +kernel
theorem dX7_init_480 : decode cX7_init 480 = .ok (.bipush 48, 2) := by decide +kernel
theorem dX7_init_482 : decode cX7_init 482 = .ok (.newarray .int, 2) := by decide +kernel
theorem dX7_init_484 : decode cX7_init 484 = .ok (.putfield 131, 3) := by decide +kernel
theorem dX7_init_487 : decode cX7_init 487 = .ok (.aload_n 0, 1) := by decide +kernel
theorem dX7_init_488 : decode cX7_init 488 = .ok (.bipush 48, 2) := by decide +kernel
theorem dX7_init_490 : decode cX7_init 490 = .ok (.newarray .int, 2) := by decide +kernel
theorem dX7_init_492 : decode cX7_init 492 = .ok (.putfield 134, 3) := by decide +kernel
theorem dX7_init_495 : decode cX7_init 495 = .ok (.aload_n 0, 1) := by decide +kernel
theorem dX7_init_496 : decode cX7_init 496 = .ok (.bipush 48, 2) := by decide +kernel
theorem dX7_init_498 : decode cX7_init 498 = .ok (.newarray .int, 2) := by decide +kernel
theorem dX7_init_500 : decode cX7_init 500 = .ok (.putfield 137, 3) := by decide +kernel
theorem dX7_init_503 : decode cX7_init 503 = .ok (.aload_n 0, 1) := by decide +kernel
theorem dX7_init_504 : decode cX7_init 504 = .ok (.bipush 30, 2) := by decide +kernel
theorem dX7_init_506 : decode cX7_init 506 = .ok (.newarray .int, 2) := by decide +kernel
theorem dX7_init_508 : decode cX7_init 508 = .ok (.putfield 140, 3) := by decide +kernel
theorem dX7_init_511 : decode cX7_init 511 = .ok (.aload_n 0, 1) := by decide +kernel
theorem dX7_init_512 : decode cX7_init 512 = .ok (.sipush 1200, 3) := by decide +kernel
theorem dX7_init_515 : decode cX7_init 515 = .ok (.newarray .int, 2) := by decide +kernel
theorem dX7_init_517 : decode cX7_init 517 = .ok (.putfield 143, 3) := by decide +kernel
theorem dX7_init_520 : decode cX7_init 520 = .ok (.aload_n 0, 1) := by decide +kernel
theorem dX7_init_521 : decode cX7_init 521 = .ok (.bipush 6, 2) := by decide +kernel
theorem dX7_init_523 : decode cX7_init 523 = .ok (.newarray .int, 2) := by decide +kernel
theorem dX7_init_525 : decode cX7_init 525 = .ok (.putfield 146, 3) := by decide +kernel
theorem dX7_init_528 : decode cX7_init 528 = .ok (.aload_n 0, 1) := by decide +kernel
theorem dX7_init_529 : decode cX7_init 529 = .ok (.iconst 5, 1) := by decide +kernel
theorem dX7_init_530 : decode cX7_init 530 = .ok (.newarray .int, 2) := by decide +kernel
theorem dX7_init_532 : decode cX7_init 532 = .ok (.putfield 149, 3) := by decide +kernel
theorem dX7_init_535 : decode cX7_init 535 = .ok (.aload_n 0, 1) := by decide +kernel
theorem dX7_init_536 : decode cX7_init 536 = .ok (.sipush 624, 3) := by decide +kernel
theorem dX7_init_539 : decode cX7_init 539 = .ok (.newarray .int, 2) := by decide +kernel
theorem dX7_init_541 : decode cX7_init 541 = .ok (.putfield 152, 3) := by decide +kernel
theorem dX7_init_544 : decode cX7_init 544 = .ok (.aload_n 0, 1) := by decide +kernel
theorem dX7_init_545 : decode cX7_init 545 = .ok (.sipush 24000, 3) := by decide +kernel
theorem dX7_init_548 : decode cX7_init 548 = .ok (.newarray .int, 2) := by decide +kernel
theorem dX7_init_550 : decode cX7_init 550 = .ok (.putfield 155, 3) := by decide +kernel
theorem dX7_init_553 : decode cX7_init 553 = .ok (.aload_n 0, 1) := by decide +kernel
theorem dX7_init_554 : decode cX7_init 554 = .ok (.sipush 1000, 3) := by decide +kernel
theorem dX7_init_557 : decode cX7_init 557 = .ok (.newarray .int, 2) := by decide +kernel
theorem dX7_init_559 : decode cX7_init 559 = .ok (.putfield 158, 3) := by decide +kernel
theorem dX7_init_562 : decode cX7_init 562 = .ok (.aload_n 0, 1) := by decide +kernel
theorem dX7_init_563 : decode cX7_init 563 = .ok (.bipush 6, 2) := by decide +kernel
theorem dX7_init_565 : decode cX7_init 565 = .ok (.newarray .int, 2) := by decide +kernel
theorem dX7_init_567 : decode cX7_init 567 = .ok (.putfield 161, 3) := by decide +kernel
theorem dX7_init_570 : decode cX7_init 570 = .ok (.aload_n 0, 1) := by decide +kernel
theorem dX7_init_571 : decode cX7_init 571 = .ok (.bipush 6, 2) := by decide +kernel
theorem dX7_init_573 : decode cX7_init 573 = .ok (.newarray .int, 2) := by decide +kernel
theorem dX7_init_575 : decode cX7_init 575 = .ok (.putfield 164, 3) := by decide +kernel
theorem dX7_init_578 : decode cX7_init 578 = .ok (.return_, 1) := by decide +kernel
/-! a constructor with many fields: those that are done -/
def PF (L : List Nat) (g : GS) (h : Nat) : Prop := ∀ k, k ∈ L → Fok g 8 k (g.2.1 h k)
theorem PF.nil {g : GS} {h : Nat} : PF [] g h := fun k hk => by cases hk
theorem PF.cons {L : List Nat} {g : GS} {h k : Nat} {v : Value} (p : PF L g h) (e : g.2.1 h k = v) (q : Fok g 8 k v) : PF (k :: L) g h := fun x hx => by
  rcases List.mem_cons.mp hx with rfl | hx
  · rw [e]; exact q
  · exact p x hx
theorem PF.put {L : List Nat} {g : GS} {h k : Nat} {v : Value} (p : PF L g h) (q : Fok g 8 k v) : PF (k :: L) (sF g h k v) h := fun x hx => by
  show Fok g 8 x (if h = h ∧ x = k then v else g.2.1 h x)
  by_cases hn : x = k
  · rw [if_pos ⟨rfl, hn⟩, hn]; exact q
  · rw [if_neg (fun z => hn z.2)]
    rcases List.mem_cons.mp hx with hx | hx
    · exact absurd hx hn
    · exact p x hx
theorem PF.tC {L : List Nat} {g : GS} {h a j : Nat} {v : Int32} (p : PF L g h) : PF L (sC g a j v) h := p
theorem PF.pu {L : List Nat} {g g' : GS} {h : Nat} (p : PF L g h) (hx : Ex g g') (e : g'.2.1 h = g.2.1 h) : PF L g' h := fun k hk => by
  rw [e]
  exact fsm.mono hx (p k hk)
theorem PF.fin {L : List Nat} {g : GS} {h : Nat} (p : PF L g h) (hL : ∀ k, k < 67 → k ∈ L) (hr : g.1 h = 18) : ∀ k, Fok (sR g h 8) 8 k (g.2.1 h k) := fun k => by
  by_cases hk : k < 67
  · have h1 : fsm g (g.2.1 h k) (fsp 8 k) := p k (hL k hk)
    have hx : ∀ x, okR (g.1 x) → (sR g h 8).1 x = g.1 x := fun x hx => if_neg (fun q => by rw [q, hr] at hx; exact absurd hx (by decide))
    show fsm _ _ _
    unfold fsm at h1 ⊢
    split at h1
    · exact h1
    · exact h1
    · obtain ⟨h0, q, e, hq⟩ := h1
      exact ⟨h0, q, e, (hx q (by rw [hq]; exact h0)).trans hq⟩
    · obtain ⟨h0, q, e, hq, hn⟩ := h1
      exact ⟨h0, q, e, (hx q (by rw [hq]; exact h0)).trans hq, hn⟩
    · exact trivial
  · have e : fsp 8 k = ft := by
      unfold fsp
      rw [List.getD_eq_getElem?_getD, List.getElem?_eq_none (by show 67 ≤ k; omega)]
      rfl
    show fsm _ _ (fsp 8 k)
    rw [e]
    exact trivial
def ZC (g : GS) (a : Nat) : Prop := ∀ i, g.2.2.2.1 a i = 0
theorem ZC.tC {g : GS} {a b j : Nat} {v : Int32} (h : ZC g a) (n : a ≠ b) : ZC (sC g b j v) a := fun i => by
  show (if a = b ∧ i = j then v else g.2.2.2.1 a i) = 0
  rw [if_neg (fun q => n q.1)]
  exact h i
theorem ZC.pu {g g' : GS} {a : Nat} (h : ZC g a) (e : g'.2.2.2.1 a = g.2.2.2.1 a) : ZC g' a := fun i => by
  rw [e]
  exact h i
theorem ZC.PL {n : Nat} {g : GS} {na pa : Nat} (h : ZC g pa) : PL n g na pa := fun i _ => Or.inl (by rw [h i]; decide)
theorem sA_z {g : GS} {a r n : Nat} : ZC (sA g a r n) a := fun i => if_pos rfl

abbrev md_k_Model : Nat → Nat → Bool := mdf [(18, 1), (18, 2), (18, 3), (18, 4), (18, 5), (18, 6), (18, 7), (18, 8), (18, 9), (18, 10), (18, 11), (18, 12), (18, 13), (18, 14), (18, 15), (18, 16), (18, 17), (18, 18), (18, 19), (18, 20), (18, 23), (18, 25), (18, 26), (18, 27), (18, 28), (18, 31), (18, 32), (18, 33), (18, 35), (18, 39), (18, 40), (18, 41), (18, 42), (18, 43), (18, 44), (18, 45), (18, 46), (18, 47), (18, 48), (18, 53), (18, 54), (18, 55), (18, 56), (18, 57), (18, 58), (18, 59), (18, 61), (18, 62), (18, 63), (18, 64), (18, 65), (18, 66), (83, 99), (87, 99)]
set_option maxHeartbeats 4000000 in
set_option maxRecDepth 100000 in
theorem k_Model (l : Launch) (D : va_G) (cI cZ cS cR : ClassId) (N0 : NT) (g : GS) (hI : Inv g) (h : Nat) (r_h : g.1 h = 18) (kz0 : g.2.1 h 0 = .int 0) (kz21 : g.2.1 h 21 = .int 0) (kz22 : g.2.1 h 22 = .int 0) (kz24 : g.2.1 h 24 = .int 0) (kz29 : g.2.1 h 29 = .int 0) (kz30 : g.2.1 h 30 = .int 0) (kz34 : g.2.1 h 34 = .int 0) (kz36 : g.2.1 h 36 = .int 0) (kz37 : g.2.1 h 37 = .int 0) (kz38 : g.2.1 h 38 = .int 0) (kz49 : g.2.1 h 49 = .int 0) (kz50 : g.2.1 h 50 = .int 0) (kz51 : g.2.1 h 51 = .int 0) (kz52 : g.2.1 h 52 = .int 0) (kz60 : g.2.1 h 60 = .int 0) : Ty l D cI cZ cS cR N0 yX7_init cX7_init 1 none 0 52 29861 [.ref h] g (fun v g' => v = none ∧ Inv g' ∧ Exx h g g' ∧ Sm md_k_Model g g' ∧ g'.1 h = 8 ∧ (PX 48 2 3 71 72 g' h) ∧ (PX 8 39 40 84 85 g' h) ∧ (g'.2.1 h 22 = .int 0) ∧ (g'.2.1 h 34 = .int 0)) := by
  refine t_enter (by decide) (Nat.le_of_ble_eq_true rfl) ?_
  intro p e s m args below meth c ls H locs hB hr hin hl hT
  have hx := hB.1
  have hb := hB.2.1
  have hl : lv_has ls 1 [(0, .ref h)] := hl
  have hE : Ex g g := Ex.rf
  have hM : Sm md_k_Model g g := Sm.rf
  have hP : PF [60, 52, 51, 50, 49, 38, 37, 36, 34, 30, 29, 24, 22, 21, 0] g h := (PF.cons (PF.cons (PF.cons (PF.cons (PF.cons (PF.cons (PF.cons (PF.cons (PF.cons (PF.cons (PF.cons (PF.cons (PF.cons (PF.cons (PF.cons PF.nil kz0 (q_8_0 ⟨_, rfl, by decide, by decide⟩)) kz21 (q_8_21 ⟨_, rfl, by decide, by decide⟩)) kz22 (q_8_22 ⟨_, rfl⟩)) kz24 (q_8_24 ⟨_, rfl, by decide, by decide⟩)) kz29 (q_8_29 ⟨_, rfl, by decide, by decide⟩)) kz30 (q_8_30 ⟨_, rfl, by decide, by decide⟩)) kz34 (q_8_34 ⟨_, rfl, by decide, by decide⟩)) kz36 (q_8_36 ⟨_, rfl, by decide, by decide⟩)) kz37 (q_8_37 ⟨_, rfl, by decide, by decide⟩)) kz38 (q_8_38 ⟨_, rfl, by decide, by decide⟩)) kz49 (q_8_49 ⟨_, rfl, by decide, by decide⟩)) kz50 (q_8_50 ⟨_, rfl⟩)) kz51 (q_8_51 ⟨_, rfl, by decide, by decide⟩)) kz52 (q_8_52 ⟨_, rfl, by decide, by decide⟩)) kz60 (q_8_60 ⟨_, rfl, by decide, by decide⟩))
  refine lv_aload_n hx hb dX7_init_0 rfl (lv_at hl 0 rfl) ?_
  refine t_oinit hB k_744 k_78 k_79 hl.1 dX7_init_1 (Nat.le_of_ble_eq_true rfl) (Nat.le_of_ble_eq_true rfl) ?_
  refine lv_aload_n hx hb dX7_init_4 rfl (lv_at hl 0 rfl) ?_
  refine lv_bipush (v := 6) hx hb dX7_init_5 (by decide) ?_
  refine t_newi (N' := 6) hB hT 88 (by decide) k_101 (by decide) (by decide) (by decide) (Nat.le_of_ble_eq_true rfl) (Nat.le_of_ble_eq_true rfl) dX7_init_7 (fun q_1 H o_q_1 hT => ?_)
  have z_q_1 : g.1 q_1 = 0 := hE.z0 o_q_1
  have hI : Inv (sA g q_1 88 6) := hI.newi o_q_1 (by decide) (fun _ => rfl) ⟨by decide, by decide⟩ (fun _ => trivial)
  have hM : Sm md_k_Model g (sA g q_1 88 6) := hM.tr hE (Sm.push o_q_1 sA_g)
  have hE : Ex g (sA g q_1 88 6) := hE.tr (Ex.push o_q_1 sA_g)
  have hP : PF [60, 52, 51, 50, 49, 38, 37, 36, 34, 30, 29, 24, 22, 21, 0] (sA g q_1 88 6) h := hP.pu (Ex.push o_q_1 sA_g) (sA_g h (ne0 r_h o_q_1 (by decide))).2.1
  have r_2 : (sA g q_1 88 6).1 h = 18 := ((sA_g h (ne0 r_h o_q_1 (by decide))).1.trans r_h)
  have r_3 : (sA g q_1 88 6).1 q_1 = 88 := sA_r
  have n_4 : (sA g q_1 88 6).2.2.1 q_1 = 6 := sA_n
  have kn_5 : (sA g q_1 88 6).2.1 h 22 = .int 0 := ((congrFun (sA_g h (ne0 r_h o_q_1 (by decide))).2.1 22).trans kz22)
  have kn_6 : (sA g q_1 88 6).2.1 h 34 = .int 0 := ((congrFun (sA_g h (ne0 r_h o_q_1 (by decide))).2.1 34).trans kz34)
  generalize (sA g q_1 88 6) = g_7 at hT hI hM hE r_2 r_3 n_4 kn_5 kn_6 hP
  refine W.widen (k := 1) (n := 6) (Nat.le_of_ble_eq_true rfl) (Nat.le_of_ble_eq_true rfl) ?_
  refine t_put0 (ci := 7) (v := .ref q_1) hB hT (ro_ci r_2 rfl) (ro_n0 r_2 (by decide)) rfl 1 (by decide) k_746 (Or.inr ⟨hin, rfl⟩) rfl rfl dX7_init_9 (fun H locs hT => ?_)
  have hI : Inv (sF g_7 h 1 (.ref q_1)) := hI.sF (fk r_2 (show fsm _ _ ft from trivial))
  have hM : Sm md_k_Model g (sF g_7 h 1 (.ref q_1)) := hM.tr hE (Sm_sF (by rw [r_2]; rfl))
  have hE : Ex g (sF g_7 h 1 (.ref q_1)) := hE
  have hP : PF [1, 60, 52, 51, 50, 49, 38, 37, 36, 34, 30, 29, 24, 22, 21, 0] (sF g_7 h 1 (.ref q_1)) h := hP.put (q_8_1 (⟨_, rfl, r_3, n_4⟩))
  refine lv_aload_n hx hb dX7_init_12 rfl (lv_at hl 0 rfl) ?_
  refine lv_bipush (v := 48) hx hb dX7_init_13 (by decide) ?_
  refine t_newi (N' := 48) hB hT 71 (by decide) k_101 (by decide) (by decide) (by decide) (Nat.le_of_ble_eq_true rfl) (Nat.le_of_ble_eq_true rfl) dX7_init_15 (fun q_8 H o_q_8 hT => ?_)
  have z_q_8 : g.1 q_8 = 0 := hE.z0 o_q_8
  have hI : Inv (sA (sF g_7 h 1 (.ref q_1)) q_8 71 48) := hI.newi o_q_8 (by decide) (fun _ => rfl) trivial (fun _ => trivial)
  have hM : Sm md_k_Model g (sA (sF g_7 h 1 (.ref q_1)) q_8 71 48) := hM.tr hE (Sm.push o_q_8 sA_g)
  have hE : Ex g (sA (sF g_7 h 1 (.ref q_1)) q_8 71 48) := hE.tr (Ex.push o_q_8 sA_g)
  have hP : PF [1, 60, 52, 51, 50, 49, 38, 37, 36, 34, 30, 29, 24, 22, 21, 0] (sA (sF g_7 h 1 (.ref q_1)) q_8 71 48) h := hP.pu (Ex.push o_q_8 sA_g) (sA_g h (ne0 r_2 o_q_8 (by decide))).2.1
  have r_9 : (sA (sF g_7 h 1 (.ref q_1)) q_8 71 48).1 h = 18 := ((sA_g h (ne0 r_2 o_q_8 (by decide))).1.trans r_2)
  have r_10 : (sA (sF g_7 h 1 (.ref q_1)) q_8 71 48).1 q_8 = 71 := sA_r
  have n_11 : (sA (sF g_7 h 1 (.ref q_1)) q_8 71 48).2.2.1 q_8 = 48 := sA_n
  have kn_12 : (sA (sF g_7 h 1 (.ref q_1)) q_8 71 48).2.1 h 22 = .int 0 := ((congrFun (sA_g h (ne0 r_2 o_q_8 (by decide))).2.1 22).trans (sF_k kn_5 (by decide)))
  have kn_13 : (sA (sF g_7 h 1 (.ref q_1)) q_8 71 48).2.1 h 34 = .int 0 := ((congrFun (sA_g h (ne0 r_2 o_q_8 (by decide))).2.1 34).trans (sF_k kn_6 (by decide)))
  generalize (sA (sF g_7 h 1 (.ref q_1)) q_8 71 48) = g_14 at hT hI hM hE r_9 r_10 n_11 kn_12 kn_13 hP
  refine W.widen (k := 2) (n := 54) (Nat.le_of_ble_eq_true rfl) (Nat.le_of_ble_eq_true rfl) ?_
  refine t_put0 (ci := 7) (v := .ref q_8) hB hT (ro_ci r_9 rfl) (ro_n0 r_9 (by decide)) rfl 2 (by decide) k_747 (Or.inr ⟨hin, rfl⟩) rfl rfl dX7_init_17 (fun H locs hT => ?_)
  have hI : Inv (sF g_14 h 2 (.ref q_8)) := hI.sF (fk r_9 (show fsm _ _ ft from trivial))
  have hM : Sm md_k_Model g (sF g_14 h 2 (.ref q_8)) := hM.tr hE (Sm_sF (by rw [r_9]; rfl))
  have hE : Ex g (sF g_14 h 2 (.ref q_8)) := hE
  have hP : PF [2, 1, 60, 52, 51, 50, 49, 38, 37, 36, 34, 30, 29, 24, 22, 21, 0] (sF g_14 h 2 (.ref q_8)) h := hP.put (q_8_2 (⟨_, rfl, r_10, n_11⟩))
  refine lv_aload_n hx hb dX7_init_20 rfl (lv_at hl 0 rfl) ?_
  refine lv_bipush (v := 48) hx hb dX7_init_21 (by decide) ?_
  refine t_newi (N' := 48) hB hT 72 (by decide) k_101 (by decide) (by decide) (by decide) (Nat.le_of_ble_eq_true rfl) (Nat.le_of_ble_eq_true rfl) dX7_init_23 (fun q_15 H o_q_15 hT => ?_)
  have z_q_15 : g.1 q_15 = 0 := hE.z0 o_q_15
  have hI : Inv (sA (sF g_14 h 2 (.ref q_8)) q_15 72 48) := hI.newi o_q_15 (by decide) (fun _ => rfl) ⟨by decide, by decide⟩ (fun _ => trivial)
  have hM : Sm md_k_Model g (sA (sF g_14 h 2 (.ref q_8)) q_15 72 48) := hM.tr hE (Sm.push o_q_15 sA_g)
  have hE : Ex g (sA (sF g_14 h 2 (.ref q_8)) q_15 72 48) := hE.tr (Ex.push o_q_15 sA_g)
  have hP : PF [2, 1, 60, 52, 51, 50, 49, 38, 37, 36, 34, 30, 29, 24, 22, 21, 0] (sA (sF g_14 h 2 (.ref q_8)) q_15 72 48) h := hP.pu (Ex.push o_q_15 sA_g) (sA_g h (ne0 r_9 o_q_15 (by decide))).2.1
  have zP : ZC (sA (sF g_14 h 2 (.ref q_8)) q_15 72 48) q_15 := sA_z
  have r_16 : (sA (sF g_14 h 2 (.ref q_8)) q_15 72 48).1 h = 18 := ((sA_g h (ne0 r_9 o_q_15 (by decide))).1.trans r_9)
  have r_17 : (sA (sF g_14 h 2 (.ref q_8)) q_15 72 48).1 q_8 = 71 := ((sA_g q_8 (ne0 r_10 o_q_15 (by decide))).1.trans r_10)
  have r_18 : (sA (sF g_14 h 2 (.ref q_8)) q_15 72 48).1 q_15 = 72 := sA_r
  have n_19 : (sA (sF g_14 h 2 (.ref q_8)) q_15 72 48).2.2.1 q_8 = 48 := ((sA_g q_8 (ne0 r_10 o_q_15 (by decide))).2.2.1.trans n_11)
  have n_20 : (sA (sF g_14 h 2 (.ref q_8)) q_15 72 48).2.2.1 q_15 = 48 := sA_n
  have kn_21 : (sA (sF g_14 h 2 (.ref q_8)) q_15 72 48).2.1 h 22 = .int 0 := ((congrFun (sA_g h (ne0 r_9 o_q_15 (by decide))).2.1 22).trans (sF_k kn_12 (by decide)))
  have kn_22 : (sA (sF g_14 h 2 (.ref q_8)) q_15 72 48).2.1 h 34 = .int 0 := ((congrFun (sA_g h (ne0 r_9 o_q_15 (by decide))).2.1 34).trans (sF_k kn_13 (by decide)))
  have kn_23 : (sA (sF g_14 h 2 (.ref q_8)) q_15 72 48).2.1 h 2 = .ref q_8 := ((congrFun (sA_g h (ne0 r_9 o_q_15 (by decide))).2.1 2).trans sF_eq)
  generalize (sA (sF g_14 h 2 (.ref q_8)) q_15 72 48) = g_24 at hT hI hM hE r_16 r_17 r_18 n_19 n_20 kn_21 kn_22 kn_23 hP zP
  refine W.widen (k := 3) (n := 102) (Nat.le_of_ble_eq_true rfl) (Nat.le_of_ble_eq_true rfl) ?_
  refine t_put0 (ci := 7) (v := .ref q_15) hB hT (ro_ci r_16 rfl) (ro_n0 r_16 (by decide)) rfl 3 (by decide) k_748 (Or.inr ⟨hin, rfl⟩) rfl rfl dX7_init_25 (fun H locs hT => ?_)
  have hI : Inv (sF g_24 h 3 (.ref q_15)) := hI.sF (fk r_16 (show fsm _ _ ft from trivial))
  have hM : Sm md_k_Model g (sF g_24 h 3 (.ref q_15)) := hM.tr hE (Sm_sF (by rw [r_16]; rfl))
  have hE : Ex g (sF g_24 h 3 (.ref q_15)) := hE
  have hP : PF [3, 2, 1, 60, 52, 51, 50, 49, 38, 37, 36, 34, 30, 29, 24, 22, 21, 0] (sF g_24 h 3 (.ref q_15)) h := hP.put (q_8_3 (⟨_, rfl, r_18, n_20⟩))
  have zP : ZC (sF g_24 h 3 (.ref q_15)) q_15 := zP
  refine lv_aload_n hx hb dX7_init_28 rfl (lv_at hl 0 rfl) ?_
  refine lv_bipush (v := 48) hx hb dX7_init_29 (by decide) ?_
  refine t_newi (N' := 48) hB hT 73 (by decide) k_101 (by decide) (by decide) (by decide) (Nat.le_of_ble_eq_true rfl) (Nat.le_of_ble_eq_true rfl) dX7_init_31 (fun q_25 H o_q_25 hT => ?_)
  have z_q_25 : g.1 q_25 = 0 := hE.z0 o_q_25
  have hI : Inv (sA (sF g_24 h 3 (.ref q_15)) q_25 73 48) := hI.newi o_q_25 (by decide) (fun _ => rfl) ⟨by decide, by decide⟩ (fun _ => trivial)
  have hM : Sm md_k_Model g (sA (sF g_24 h 3 (.ref q_15)) q_25 73 48) := hM.tr hE (Sm.push o_q_25 sA_g)
  have hE : Ex g (sA (sF g_24 h 3 (.ref q_15)) q_25 73 48) := hE.tr (Ex.push o_q_25 sA_g)
  have hP : PF [3, 2, 1, 60, 52, 51, 50, 49, 38, 37, 36, 34, 30, 29, 24, 22, 21, 0] (sA (sF g_24 h 3 (.ref q_15)) q_25 73 48) h := hP.pu (Ex.push o_q_25 sA_g) (sA_g h (ne0 r_16 o_q_25 (by decide))).2.1
  have zP : ZC (sA (sF g_24 h 3 (.ref q_15)) q_25 73 48) q_15 := zP.pu (sA_g q_15 (ne0 r_18 o_q_25 (by decide))).2.2.2.1
  have r_26 : (sA (sF g_24 h 3 (.ref q_15)) q_25 73 48).1 h = 18 := ((sA_g h (ne0 r_16 o_q_25 (by decide))).1.trans r_16)
  have r_27 : (sA (sF g_24 h 3 (.ref q_15)) q_25 73 48).1 q_8 = 71 := ((sA_g q_8 (ne0 r_17 o_q_25 (by decide))).1.trans r_17)
  have r_28 : (sA (sF g_24 h 3 (.ref q_15)) q_25 73 48).1 q_15 = 72 := ((sA_g q_15 (ne0 r_18 o_q_25 (by decide))).1.trans r_18)
  have r_29 : (sA (sF g_24 h 3 (.ref q_15)) q_25 73 48).1 q_25 = 73 := sA_r
  have n_30 : (sA (sF g_24 h 3 (.ref q_15)) q_25 73 48).2.2.1 q_8 = 48 := ((sA_g q_8 (ne0 r_17 o_q_25 (by decide))).2.2.1.trans n_19)
  have n_31 : (sA (sF g_24 h 3 (.ref q_15)) q_25 73 48).2.2.1 q_15 = 48 := ((sA_g q_15 (ne0 r_18 o_q_25 (by decide))).2.2.1.trans n_20)
  have n_32 : (sA (sF g_24 h 3 (.ref q_15)) q_25 73 48).2.2.1 q_25 = 48 := sA_n
  have kn_33 : (sA (sF g_24 h 3 (.ref q_15)) q_25 73 48).2.1 h 22 = .int 0 := ((congrFun (sA_g h (ne0 r_16 o_q_25 (by decide))).2.1 22).trans (sF_k kn_21 (by decide)))
  have kn_34 : (sA (sF g_24 h 3 (.ref q_15)) q_25 73 48).2.1 h 34 = .int 0 := ((congrFun (sA_g h (ne0 r_16 o_q_25 (by decide))).2.1 34).trans (sF_k kn_22 (by decide)))
  have kn_35 : (sA (sF g_24 h 3 (.ref q_15)) q_25 73 48).2.1 h 2 = .ref q_8 := ((congrFun (sA_g h (ne0 r_16 o_q_25 (by decide))).2.1 2).trans (sF_k kn_23 (by decide)))
  have kn_36 : (sA (sF g_24 h 3 (.ref q_15)) q_25 73 48).2.1 h 3 = .ref q_15 := ((congrFun (sA_g h (ne0 r_16 o_q_25 (by decide))).2.1 3).trans sF_eq)
  generalize (sA (sF g_24 h 3 (.ref q_15)) q_25 73 48) = g_37 at hT hI hM hE r_26 r_27 r_28 r_29 n_30 n_31 n_32 kn_33 kn_34 kn_35 kn_36 hP zP
  refine W.widen (k := 4) (n := 150) (Nat.le_of_ble_eq_true rfl) (Nat.le_of_ble_eq_true rfl) ?_
  refine t_put0 (ci := 7) (v := .ref q_25) hB hT (ro_ci r_26 rfl) (ro_n0 r_26 (by decide)) rfl 4 (by decide) k_749 (Or.inr ⟨hin, rfl⟩) rfl rfl dX7_init_33 (fun H locs hT => ?_)
  have hI : Inv (sF g_37 h 4 (.ref q_25)) := hI.sF (fk r_26 (show fsm _ _ ft from trivial))
  have hM : Sm md_k_Model g (sF g_37 h 4 (.ref q_25)) := hM.tr hE (Sm_sF (by rw [r_26]; rfl))
  have hE : Ex g (sF g_37 h 4 (.ref q_25)) := hE
  have hP : PF [4, 3, 2, 1, 60, 52, 51, 50, 49, 38, 37, 36, 34, 30, 29, 24, 22, 21, 0] (sF g_37 h 4 (.ref q_25)) h := hP.put (q_8_4 (⟨_, rfl, r_29, n_32⟩))
  have zP : ZC (sF g_37 h 4 (.ref q_25)) q_15 := zP
  refine lv_aload_n hx hb dX7_init_36 rfl (lv_at hl 0 rfl) ?_
  refine lv_bipush (v := 6) hx hb dX7_init_37 (by decide) ?_
  refine t_newi (N' := 6) hB hT 74 (by decide) k_101 (by decide) (by decide) (by decide) (Nat.le_of_ble_eq_true rfl) (Nat.le_of_ble_eq_true rfl) dX7_init_39 (fun q_38 H o_q_38 hT => ?_)
  have z_q_38 : g.1 q_38 = 0 := hE.z0 o_q_38
  have hI : Inv (sA (sF g_37 h 4 (.ref q_25)) q_38 74 6) := hI.newi o_q_38 (by decide) (fun _ => rfl) trivial (fun _ => trivial)
  have hM : Sm md_k_Model g (sA (sF g_37 h 4 (.ref q_25)) q_38 74 6) := hM.tr hE (Sm.push o_q_38 sA_g)
  have hE : Ex g (sA (sF g_37 h 4 (.ref q_25)) q_38 74 6) := hE.tr (Ex.push o_q_38 sA_g)
  have hP : PF [4, 3, 2, 1, 60, 52, 51, 50, 49, 38, 37, 36, 34, 30, 29, 24, 22, 21, 0] (sA (sF g_37 h 4 (.ref q_25)) q_38 74 6) h := hP.pu (Ex.push o_q_38 sA_g) (sA_g h (ne0 r_26 o_q_38 (by decide))).2.1
  have zP : ZC (sA (sF g_37 h 4 (.ref q_25)) q_38 74 6) q_15 := zP.pu (sA_g q_15 (ne0 r_28 o_q_38 (by decide))).2.2.2.1
  have r_39 : (sA (sF g_37 h 4 (.ref q_25)) q_38 74 6).1 h = 18 := ((sA_g h (ne0 r_26 o_q_38 (by decide))).1.trans r_26)
  have r_40 : (sA (sF g_37 h 4 (.ref q_25)) q_38 74 6).1 q_8 = 71 := ((sA_g q_8 (ne0 r_27 o_q_38 (by decide))).1.trans r_27)
  have r_41 : (sA (sF g_37 h 4 (.ref q_25)) q_38 74 6).1 q_15 = 72 := ((sA_g q_15 (ne0 r_28 o_q_38 (by decide))).1.trans r_28)
  have r_42 : (sA (sF g_37 h 4 (.ref q_25)) q_38 74 6).1 q_38 = 74 := sA_r
  have n_43 : (sA (sF g_37 h 4 (.ref q_25)) q_38 74 6).2.2.1 q_8 = 48 := ((sA_g q_8 (ne0 r_27 o_q_38 (by decide))).2.2.1.trans n_30)
  have n_44 : (sA (sF g_37 h 4 (.ref q_25)) q_38 74 6).2.2.1 q_15 = 48 := ((sA_g q_15 (ne0 r_28 o_q_38 (by decide))).2.2.1.trans n_31)
  have n_45 : (sA (sF g_37 h 4 (.ref q_25)) q_38 74 6).2.2.1 q_38 = 6 := sA_n
  have kn_46 : (sA (sF g_37 h 4 (.ref q_25)) q_38 74 6).2.1 h 22 = .int 0 := ((congrFun (sA_g h (ne0 r_26 o_q_38 (by decide))).2.1 22).trans (sF_k kn_33 (by decide)))
  have kn_47 : (sA (sF g_37 h 4 (.ref q_25)) q_38 74 6).2.1 h 34 = .int 0 := ((congrFun (sA_g h (ne0 r_26 o_q_38 (by decide))).2.1 34).trans (sF_k kn_34 (by decide)))
  have kn_48 : (sA (sF g_37 h 4 (.ref q_25)) q_38 74 6).2.1 h 2 = .ref q_8 := ((congrFun (sA_g h (ne0 r_26 o_q_38 (by decide))).2.1 2).trans (sF_k kn_35 (by decide)))
  have kn_49 : (sA (sF g_37 h 4 (.ref q_25)) q_38 74 6).2.1 h 3 = .ref q_15 := ((congrFun (sA_g h (ne0 r_26 o_q_38 (by decide))).2.1 3).trans (sF_k kn_36 (by decide)))
  generalize (sA (sF g_37 h 4 (.ref q_25)) q_38 74 6) = g_50 at hT hI hM hE r_39 r_40 r_41 r_42 n_43 n_44 n_45 kn_46 kn_47 kn_48 kn_49 hP zP
  refine W.widen (k := 5) (n := 156) (Nat.le_of_ble_eq_true rfl) (Nat.le_of_ble_eq_true rfl) ?_
  refine t_put0 (ci := 7) (v := .ref q_38) hB hT (ro_ci r_39 rfl) (ro_n0 r_39 (by decide)) rfl 5 (by decide) k_750 (Or.inr ⟨hin, rfl⟩) rfl rfl dX7_init_41 (fun H locs hT => ?_)
  have hI : Inv (sF g_50 h 5 (.ref q_38)) := hI.sF (fk r_39 (show fsm _ _ ft from trivial))
  have hM : Sm md_k_Model g (sF g_50 h 5 (.ref q_38)) := hM.tr hE (Sm_sF (by rw [r_39]; rfl))
  have hE : Ex g (sF g_50 h 5 (.ref q_38)) := hE
  have hP : PF [5, 4, 3, 2, 1, 60, 52, 51, 50, 49, 38, 37, 36, 34, 30, 29, 24, 22, 21, 0] (sF g_50 h 5 (.ref q_38)) h := hP.put (q_8_5 (⟨_, rfl, r_42, n_45⟩))
  have zP : ZC (sF g_50 h 5 (.ref q_38)) q_15 := zP
  refine lv_aload_n hx hb dX7_init_44 rfl (lv_at hl 0 rfl) ?_
  refine lv_bipush (v := 6) hx hb dX7_init_45 (by decide) ?_
  refine t_newi (N' := 6) hB hT 75 (by decide) k_101 (by decide) (by decide) (by decide) (Nat.le_of_ble_eq_true rfl) (Nat.le_of_ble_eq_true rfl) dX7_init_47 (fun q_51 H o_q_51 hT => ?_)
  have z_q_51 : g.1 q_51 = 0 := hE.z0 o_q_51
  have hI : Inv (sA (sF g_50 h 5 (.ref q_38)) q_51 75 6) := hI.newi o_q_51 (by decide) (fun _ => rfl) trivial (fun _ => trivial)
  have hM : Sm md_k_Model g (sA (sF g_50 h 5 (.ref q_38)) q_51 75 6) := hM.tr hE (Sm.push o_q_51 sA_g)
  have hE : Ex g (sA (sF g_50 h 5 (.ref q_38)) q_51 75 6) := hE.tr (Ex.push o_q_51 sA_g)
  have hP : PF [5, 4, 3, 2, 1, 60, 52, 51, 50, 49, 38, 37, 36, 34, 30, 29, 24, 22, 21, 0] (sA (sF g_50 h 5 (.ref q_38)) q_51 75 6) h := hP.pu (Ex.push o_q_51 sA_g) (sA_g h (ne0 r_39 o_q_51 (by decide))).2.1
  have zP : ZC (sA (sF g_50 h 5 (.ref q_38)) q_51 75 6) q_15 := zP.pu (sA_g q_15 (ne0 r_41 o_q_51 (by decide))).2.2.2.1
  have r_52 : (sA (sF g_50 h 5 (.ref q_38)) q_51 75 6).1 h = 18 := ((sA_g h (ne0 r_39 o_q_51 (by decide))).1.trans r_39)
  have r_53 : (sA (sF g_50 h 5 (.ref q_38)) q_51 75 6).1 q_8 = 71 := ((sA_g q_8 (ne0 r_40 o_q_51 (by decide))).1.trans r_40)
  have r_54 : (sA (sF g_50 h 5 (.ref q_38)) q_51 75 6).1 q_15 = 72 := ((sA_g q_15 (ne0 r_41 o_q_51 (by decide))).1.trans r_41)
  have r_55 : (sA (sF g_50 h 5 (.ref q_38)) q_51 75 6).1 q_51 = 75 := sA_r
  have n_56 : (sA (sF g_50 h 5 (.ref q_38)) q_51 75 6).2.2.1 q_8 = 48 := ((sA_g q_8 (ne0 r_40 o_q_51 (by decide))).2.2.1.trans n_43)
  have n_57 : (sA (sF g_50 h 5 (.ref q_38)) q_51 75 6).2.2.1 q_15 = 48 := ((sA_g q_15 (ne0 r_41 o_q_51 (by decide))).2.2.1.trans n_44)
  have n_58 : (sA (sF g_50 h 5 (.ref q_38)) q_51 75 6).2.2.1 q_51 = 6 := sA_n
  have kn_59 : (sA (sF g_50 h 5 (.ref q_38)) q_51 75 6).2.1 h 22 = .int 0 := ((congrFun (sA_g h (ne0 r_39 o_q_51 (by decide))).2.1 22).trans (sF_k kn_46 (by decide)))
  have kn_60 : (sA (sF g_50 h 5 (.ref q_38)) q_51 75 6).2.1 h 34 = .int 0 := ((congrFun (sA_g h (ne0 r_39 o_q_51 (by decide))).2.1 34).trans (sF_k kn_47 (by decide)))
  have kn_61 : (sA (sF g_50 h 5 (.ref q_38)) q_51 75 6).2.1 h 2 = .ref q_8 := ((congrFun (sA_g h (ne0 r_39 o_q_51 (by decide))).2.1 2).trans (sF_k kn_48 (by decide)))
  have kn_62 : (sA (sF g_50 h 5 (.ref q_38)) q_51 75 6).2.1 h 3 = .ref q_15 := ((congrFun (sA_g h (ne0 r_39 o_q_51 (by decide))).2.1 3).trans (sF_k kn_49 (by decide)))
  generalize (sA (sF g_50 h 5 (.ref q_38)) q_51 75 6) = g_63 at hT hI hM hE r_52 r_53 r_54 r_55 n_56 n_57 n_58 kn_59 kn_60 kn_61 kn_62 hP zP
  refine W.widen (k := 6) (n := 162) (Nat.le_of_ble_eq_true rfl) (Nat.le_of_ble_eq_true rfl) ?_
  refine t_put0 (ci := 7) (v := .ref q_51) hB hT (ro_ci r_52 rfl) (ro_n0 r_52 (by decide)) rfl 6 (by decide) k_751 (Or.inr ⟨hin, rfl⟩) rfl rfl dX7_init_49 (fun H locs hT => ?_)
  have hI : Inv (sF g_63 h 6 (.ref q_51)) := hI.sF (fk r_52 (show fsm _ _ ft from trivial))
  have hM : Sm md_k_Model g (sF g_63 h 6 (.ref q_51)) := hM.tr hE (Sm_sF (by rw [r_52]; rfl))
  have hE : Ex g (sF g_63 h 6 (.ref q_51)) := hE
  have hP : PF [6, 5, 4, 3, 2, 1, 60, 52, 51, 50, 49, 38, 37, 36, 34, 30, 29, 24, 22, 21, 0] (sF g_63 h 6 (.ref q_51)) h := hP.put (q_8_6 (⟨_, rfl, r_55, n_58⟩))
  have zP : ZC (sF g_63 h 6 (.ref q_51)) q_15 := zP
  refine lv_aload_n hx hb dX7_init_52 rfl (lv_at hl 0 rfl) ?_
  refine lv_bipush (v := 48) hx hb dX7_init_53 (by decide) ?_
  refine t_newi (N' := 48) hB hT 56 (by decide) k_101 (by decide) (by decide) (by decide) (Nat.le_of_ble_eq_true rfl) (Nat.le_of_ble_eq_true rfl) dX7_init_55 (fun q_64 H o_q_64 hT => ?_)
  have z_q_64 : g.1 q_64 = 0 := hE.z0 o_q_64
  have hI : Inv (sA (sF g_63 h 6 (.ref q_51)) q_64 56 48) := hI.newi o_q_64 (by decide) (fun _ => rfl) ⟨by decide, by decide⟩ (fun _ => trivial)
  have hM : Sm md_k_Model g (sA (sF g_63 h 6 (.ref q_51)) q_64 56 48) := hM.tr hE (Sm.push o_q_64 sA_g)
  have hE : Ex g (sA (sF g_63 h 6 (.ref q_51)) q_64 56 48) := hE.tr (Ex.push o_q_64 sA_g)
  have hP : PF [6, 5, 4, 3, 2, 1, 60, 52, 51, 50, 49, 38, 37, 36, 34, 30, 29, 24, 22, 21, 0] (sA (sF g_63 h 6 (.ref q_51)) q_64 56 48) h := hP.pu (Ex.push o_q_64 sA_g) (sA_g h (ne0 r_52 o_q_64 (by decide))).2.1
  have zP : ZC (sA (sF g_63 h 6 (.ref q_51)) q_64 56 48) q_15 := zP.pu (sA_g q_15 (ne0 r_54 o_q_64 (by decide))).2.2.2.1
  have r_65 : (sA (sF g_63 h 6 (.ref q_51)) q_64 56 48).1 h = 18 := ((sA_g h (ne0 r_52 o_q_64 (by decide))).1.trans r_52)
  have r_66 : (sA (sF g_63 h 6 (.ref q_51)) q_64 56 48).1 q_8 = 71 := ((sA_g q_8 (ne0 r_53 o_q_64 (by decide))).1.trans r_53)
  have r_67 : (sA (sF g_63 h 6 (.ref q_51)) q_64 56 48).1 q_15 = 72 := ((sA_g q_15 (ne0 r_54 o_q_64 (by decide))).1.trans r_54)
  have r_68 : (sA (sF g_63 h 6 (.ref q_51)) q_64 56 48).1 q_64 = 56 := sA_r
  have n_69 : (sA (sF g_63 h 6 (.ref q_51)) q_64 56 48).2.2.1 q_8 = 48 := ((sA_g q_8 (ne0 r_53 o_q_64 (by decide))).2.2.1.trans n_56)
  have n_70 : (sA (sF g_63 h 6 (.ref q_51)) q_64 56 48).2.2.1 q_15 = 48 := ((sA_g q_15 (ne0 r_54 o_q_64 (by decide))).2.2.1.trans n_57)
  have n_71 : (sA (sF g_63 h 6 (.ref q_51)) q_64 56 48).2.2.1 q_64 = 48 := sA_n
  have kn_72 : (sA (sF g_63 h 6 (.ref q_51)) q_64 56 48).2.1 h 22 = .int 0 := ((congrFun (sA_g h (ne0 r_52 o_q_64 (by decide))).2.1 22).trans (sF_k kn_59 (by decide)))
  have kn_73 : (sA (sF g_63 h 6 (.ref q_51)) q_64 56 48).2.1 h 34 = .int 0 := ((congrFun (sA_g h (ne0 r_52 o_q_64 (by decide))).2.1 34).trans (sF_k kn_60 (by decide)))
  have kn_74 : (sA (sF g_63 h 6 (.ref q_51)) q_64 56 48).2.1 h 2 = .ref q_8 := ((congrFun (sA_g h (ne0 r_52 o_q_64 (by decide))).2.1 2).trans (sF_k kn_61 (by decide)))
  have kn_75 : (sA (sF g_63 h 6 (.ref q_51)) q_64 56 48).2.1 h 3 = .ref q_15 := ((congrFun (sA_g h (ne0 r_52 o_q_64 (by decide))).2.1 3).trans (sF_k kn_62 (by decide)))
  generalize (sA (sF g_63 h 6 (.ref q_51)) q_64 56 48) = g_76 at hT hI hM hE r_65 r_66 r_67 r_68 n_69 n_70 n_71 kn_72 kn_73 kn_74 kn_75 hP zP
  refine W.widen (k := 7) (n := 210) (Nat.le_of_ble_eq_true rfl) (Nat.le_of_ble_eq_true rfl) ?_
  refine t_put0 (ci := 7) (v := .ref q_64) hB hT (ro_ci r_65 rfl) (ro_n0 r_65 (by decide)) rfl 7 (by decide) k_752 (Or.inr ⟨hin, rfl⟩) rfl rfl dX7_init_57 (fun H locs hT => ?_)
  have hI : Inv (sF g_76 h 7 (.ref q_64)) := hI.sF (fk r_65 (show fsm _ _ ft from trivial))
  have hM : Sm md_k_Model g (sF g_76 h 7 (.ref q_64)) := hM.tr hE (Sm_sF (by rw [r_65]; rfl))
  have hE : Ex g (sF g_76 h 7 (.ref q_64)) := hE
  have hP : PF [7, 6, 5, 4, 3, 2, 1, 60, 52, 51, 50, 49, 38, 37, 36, 34, 30, 29, 24, 22, 21, 0] (sF g_76 h 7 (.ref q_64)) h := hP.put (q_8_7 (⟨_, rfl, r_68, n_71⟩))
  have zP : ZC (sF g_76 h 7 (.ref q_64)) q_15 := zP
  refine lv_aload_n hx hb dX7_init_60 rfl (lv_at hl 0 rfl) ?_
  refine lv_bipush (v := 12) hx hb dX7_init_61 (by decide) ?_
  refine t_newi (N' := 12) hB hT 56 (by decide) k_101 (by decide) (by decide) (by decide) (Nat.le_of_ble_eq_true rfl) (Nat.le_of_ble_eq_true rfl) dX7_init_63 (fun q_77 H o_q_77 hT => ?_)
  have z_q_77 : g.1 q_77 = 0 := hE.z0 o_q_77
  have hI : Inv (sA (sF g_76 h 7 (.ref q_64)) q_77 56 12) := hI.newi o_q_77 (by decide) (fun _ => rfl) ⟨by decide, by decide⟩ (fun _ => trivial)
  have hM : Sm md_k_Model g (sA (sF g_76 h 7 (.ref q_64)) q_77 56 12) := hM.tr hE (Sm.push o_q_77 sA_g)
  have hE : Ex g (sA (sF g_76 h 7 (.ref q_64)) q_77 56 12) := hE.tr (Ex.push o_q_77 sA_g)
  have hP : PF [7, 6, 5, 4, 3, 2, 1, 60, 52, 51, 50, 49, 38, 37, 36, 34, 30, 29, 24, 22, 21, 0] (sA (sF g_76 h 7 (.ref q_64)) q_77 56 12) h := hP.pu (Ex.push o_q_77 sA_g) (sA_g h (ne0 r_65 o_q_77 (by decide))).2.1
  have zP : ZC (sA (sF g_76 h 7 (.ref q_64)) q_77 56 12) q_15 := zP.pu (sA_g q_15 (ne0 r_67 o_q_77 (by decide))).2.2.2.1
  have r_78 : (sA (sF g_76 h 7 (.ref q_64)) q_77 56 12).1 h = 18 := ((sA_g h (ne0 r_65 o_q_77 (by decide))).1.trans r_65)
  have r_79 : (sA (sF g_76 h 7 (.ref q_64)) q_77 56 12).1 q_8 = 71 := ((sA_g q_8 (ne0 r_66 o_q_77 (by decide))).1.trans r_66)
  have r_80 : (sA (sF g_76 h 7 (.ref q_64)) q_77 56 12).1 q_15 = 72 := ((sA_g q_15 (ne0 r_67 o_q_77 (by decide))).1.trans r_67)
  have r_81 : (sA (sF g_76 h 7 (.ref q_64)) q_77 56 12).1 q_77 = 56 := sA_r
  have n_82 : (sA (sF g_76 h 7 (.ref q_64)) q_77 56 12).2.2.1 q_8 = 48 := ((sA_g q_8 (ne0 r_66 o_q_77 (by decide))).2.2.1.trans n_69)
  have n_83 : (sA (sF g_76 h 7 (.ref q_64)) q_77 56 12).2.2.1 q_15 = 48 := ((sA_g q_15 (ne0 r_67 o_q_77 (by decide))).2.2.1.trans n_70)
  have n_84 : (sA (sF g_76 h 7 (.ref q_64)) q_77 56 12).2.2.1 q_77 = 12 := sA_n
  have kn_85 : (sA (sF g_76 h 7 (.ref q_64)) q_77 56 12).2.1 h 22 = .int 0 := ((congrFun (sA_g h (ne0 r_65 o_q_77 (by decide))).2.1 22).trans (sF_k kn_72 (by decide)))
  have kn_86 : (sA (sF g_76 h 7 (.ref q_64)) q_77 56 12).2.1 h 34 = .int 0 := ((congrFun (sA_g h (ne0 r_65 o_q_77 (by decide))).2.1 34).trans (sF_k kn_73 (by decide)))
  have kn_87 : (sA (sF g_76 h 7 (.ref q_64)) q_77 56 12).2.1 h 2 = .ref q_8 := ((congrFun (sA_g h (ne0 r_65 o_q_77 (by decide))).2.1 2).trans (sF_k kn_74 (by decide)))
  have kn_88 : (sA (sF g_76 h 7 (.ref q_64)) q_77 56 12).2.1 h 3 = .ref q_15 := ((congrFun (sA_g h (ne0 r_65 o_q_77 (by decide))).2.1 3).trans (sF_k kn_75 (by decide)))
  generalize (sA (sF g_76 h 7 (.ref q_64)) q_77 56 12) = g_89 at hT hI hM hE r_78 r_79 r_80 r_81 n_82 n_83 n_84 kn_85 kn_86 kn_87 kn_88 hP zP
  refine W.widen (k := 8) (n := 222) (Nat.le_of_ble_eq_true rfl) (Nat.le_of_ble_eq_true rfl) ?_
  refine t_put0 (ci := 7) (v := .ref q_77) hB hT (ro_ci r_78 rfl) (ro_n0 r_78 (by decide)) rfl 8 (by decide) k_753 (Or.inr ⟨hin, rfl⟩) rfl rfl dX7_init_65 (fun H locs hT => ?_)
  have hI : Inv (sF g_89 h 8 (.ref q_77)) := hI.sF (fk r_78 (show fsm _ _ ft from trivial))
  have hM : Sm md_k_Model g (sF g_89 h 8 (.ref q_77)) := hM.tr hE (Sm_sF (by rw [r_78]; rfl))
  have hE : Ex g (sF g_89 h 8 (.ref q_77)) := hE
  have hP : PF [8, 7, 6, 5, 4, 3, 2, 1, 60, 52, 51, 50, 49, 38, 37, 36, 34, 30, 29, 24, 22, 21, 0] (sF g_89 h 8 (.ref q_77)) h := hP.put (q_8_8 (⟨_, rfl, r_81, n_84⟩))
  have zP : ZC (sF g_89 h 8 (.ref q_77)) q_15 := zP
  refine lv_aload_n hx hb dX7_init_68 rfl (lv_at hl 0 rfl) ?_
  refine lv_bipush (v := 12) hx hb dX7_init_69 (by decide) ?_
  refine t_newi (N' := 12) hB hT 54 (by decide) k_101 (by decide) (by decide) (by decide) (Nat.le_of_ble_eq_true rfl) (Nat.le_of_ble_eq_true rfl) dX7_init_71 (fun q_90 H o_q_90 hT => ?_)
  have z_q_90 : g.1 q_90 = 0 := hE.z0 o_q_90
  have hI : Inv (sA (sF g_89 h 8 (.ref q_77)) q_90 54 12) := hI.newi o_q_90 (by decide) (fun _ => rfl) ⟨by decide, by decide⟩ (fun _ => trivial)
  have hM : Sm md_k_Model g (sA (sF g_89 h 8 (.ref q_77)) q_90 54 12) := hM.tr hE (Sm.push o_q_90 sA_g)
  have hE : Ex g (sA (sF g_89 h 8 (.ref q_77)) q_90 54 12) := hE.tr (Ex.push o_q_90 sA_g)
  have hP : PF [8, 7, 6, 5, 4, 3, 2, 1, 60, 52, 51, 50, 49, 38, 37, 36, 34, 30, 29, 24, 22, 21, 0] (sA (sF g_89 h 8 (.ref q_77)) q_90 54 12) h := hP.pu (Ex.push o_q_90 sA_g) (sA_g h (ne0 r_78 o_q_90 (by decide))).2.1
  have zP : ZC (sA (sF g_89 h 8 (.ref q_77)) q_90 54 12) q_15 := zP.pu (sA_g q_15 (ne0 r_80 o_q_90 (by decide))).2.2.2.1
  have r_91 : (sA (sF g_89 h 8 (.ref q_77)) q_90 54 12).1 h = 18 := ((sA_g h (ne0 r_78 o_q_90 (by decide))).1.trans r_78)
  have r_92 : (sA (sF g_89 h 8 (.ref q_77)) q_90 54 12).1 q_8 = 71 := ((sA_g q_8 (ne0 r_79 o_q_90 (by decide))).1.trans r_79)
  have r_93 : (sA (sF g_89 h 8 (.ref q_77)) q_90 54 12).1 q_15 = 72 := ((sA_g q_15 (ne0 r_80 o_q_90 (by decide))).1.trans r_80)
  have r_94 : (sA (sF g_89 h 8 (.ref q_77)) q_90 54 12).1 q_90 = 54 := sA_r
  have n_95 : (sA (sF g_89 h 8 (.ref q_77)) q_90 54 12).2.2.1 q_8 = 48 := ((sA_g q_8 (ne0 r_79 o_q_90 (by decide))).2.2.1.trans n_82)
  have n_96 : (sA (sF g_89 h 8 (.ref q_77)) q_90 54 12).2.2.1 q_15 = 48 := ((sA_g q_15 (ne0 r_80 o_q_90 (by decide))).2.2.1.trans n_83)
  have n_97 : (sA (sF g_89 h 8 (.ref q_77)) q_90 54 12).2.2.1 q_90 = 12 := sA_n
  have kn_98 : (sA (sF g_89 h 8 (.ref q_77)) q_90 54 12).2.1 h 22 = .int 0 := ((congrFun (sA_g h (ne0 r_78 o_q_90 (by decide))).2.1 22).trans (sF_k kn_85 (by decide)))
  have kn_99 : (sA (sF g_89 h 8 (.ref q_77)) q_90 54 12).2.1 h 34 = .int 0 := ((congrFun (sA_g h (ne0 r_78 o_q_90 (by decide))).2.1 34).trans (sF_k kn_86 (by decide)))
  have kn_100 : (sA (sF g_89 h 8 (.ref q_77)) q_90 54 12).2.1 h 2 = .ref q_8 := ((congrFun (sA_g h (ne0 r_78 o_q_90 (by decide))).2.1 2).trans (sF_k kn_87 (by decide)))
  have kn_101 : (sA (sF g_89 h 8 (.ref q_77)) q_90 54 12).2.1 h 3 = .ref q_15 := ((congrFun (sA_g h (ne0 r_78 o_q_90 (by decide))).2.1 3).trans (sF_k kn_88 (by decide)))
  generalize (sA (sF g_89 h 8 (.ref q_77)) q_90 54 12) = g_102 at hT hI hM hE r_91 r_92 r_93 r_94 n_95 n_96 n_97 kn_98 kn_99 kn_100 kn_101 hP zP
  refine W.widen (k := 9) (n := 234) (Nat.le_of_ble_eq_true rfl) (Nat.le_of_ble_eq_true rfl) ?_
  refine t_put0 (ci := 7) (v := .ref q_90) hB hT (ro_ci r_91 rfl) (ro_n0 r_91 (by decide)) rfl 9 (by decide) k_754 (Or.inr ⟨hin, rfl⟩) rfl rfl dX7_init_73 (fun H locs hT => ?_)
  have hI : Inv (sF g_102 h 9 (.ref q_90)) := hI.sF (fk r_91 (show fsm _ _ ft from trivial))
  have hM : Sm md_k_Model g (sF g_102 h 9 (.ref q_90)) := hM.tr hE (Sm_sF (by rw [r_91]; rfl))
  have hE : Ex g (sF g_102 h 9 (.ref q_90)) := hE
  have hP : PF [9, 8, 7, 6, 5, 4, 3, 2, 1, 60, 52, 51, 50, 49, 38, 37, 36, 34, 30, 29, 24, 22, 21, 0] (sF g_102 h 9 (.ref q_90)) h := hP.put (q_8_9 (⟨_, rfl, r_94, n_97⟩))
  have zP : ZC (sF g_102 h 9 (.ref q_90)) q_15 := zP
  refine lv_aload_n hx hb dX7_init_76 rfl (lv_at hl 0 rfl) ?_
  refine lv_sipush (v := 192) hx hb dX7_init_77 (by decide) ?_
  refine t_newi (N' := 192) hB hT 50 (by decide) k_101 (by decide) (by decide) (by decide) (Nat.le_of_ble_eq_true rfl) (Nat.le_of_ble_eq_true rfl) dX7_init_80 (fun q_103 H o_q_103 hT => ?_)
  have z_q_103 : g.1 q_103 = 0 := hE.z0 o_q_103
  have hI : Inv (sA (sF g_102 h 9 (.ref q_90)) q_103 50 192) := hI.newi o_q_103 (by decide) (fun _ => rfl) trivial (fun _ => trivial)
  have hM : Sm md_k_Model g (sA (sF g_102 h 9 (.ref q_90)) q_103 50 192) := hM.tr hE (Sm.push o_q_103 sA_g)
  have hE : Ex g (sA (sF g_102 h 9 (.ref q_90)) q_103 50 192) := hE.tr (Ex.push o_q_103 sA_g)
  have hP : PF [9, 8, 7, 6, 5, 4, 3, 2, 1, 60, 52, 51, 50, 49, 38, 37, 36, 34, 30, 29, 24, 22, 21, 0] (sA (sF g_102 h 9 (.ref q_90)) q_103 50 192) h := hP.pu (Ex.push o_q_103 sA_g) (sA_g h (ne0 r_91 o_q_103 (by decide))).2.1
  have zP : ZC (sA (sF g_102 h 9 (.ref q_90)) q_103 50 192) q_15 := zP.pu (sA_g q_15 (ne0 r_93 o_q_103 (by decide))).2.2.2.1
  have r_104 : (sA (sF g_102 h 9 (.ref q_90)) q_103 50 192).1 h = 18 := ((sA_g h (ne0 r_91 o_q_103 (by decide))).1.trans r_91)
  have r_105 : (sA (sF g_102 h 9 (.ref q_90)) q_103 50 192).1 q_8 = 71 := ((sA_g q_8 (ne0 r_92 o_q_103 (by decide))).1.trans r_92)
  have r_106 : (sA (sF g_102 h 9 (.ref q_90)) q_103 50 192).1 q_15 = 72 := ((sA_g q_15 (ne0 r_93 o_q_103 (by decide))).1.trans r_93)
  have r_107 : (sA (sF g_102 h 9 (.ref q_90)) q_103 50 192).1 q_103 = 50 := sA_r
  have n_108 : (sA (sF g_102 h 9 (.ref q_90)) q_103 50 192).2.2.1 q_8 = 48 := ((sA_g q_8 (ne0 r_92 o_q_103 (by decide))).2.2.1.trans n_95)
  have n_109 : (sA (sF g_102 h 9 (.ref q_90)) q_103 50 192).2.2.1 q_15 = 48 := ((sA_g q_15 (ne0 r_93 o_q_103 (by decide))).2.2.1.trans n_96)
  have n_110 : (sA (sF g_102 h 9 (.ref q_90)) q_103 50 192).2.2.1 q_103 = 192 := sA_n
  have kn_111 : (sA (sF g_102 h 9 (.ref q_90)) q_103 50 192).2.1 h 22 = .int 0 := ((congrFun (sA_g h (ne0 r_91 o_q_103 (by decide))).2.1 22).trans (sF_k kn_98 (by decide)))
  have kn_112 : (sA (sF g_102 h 9 (.ref q_90)) q_103 50 192).2.1 h 34 = .int 0 := ((congrFun (sA_g h (ne0 r_91 o_q_103 (by decide))).2.1 34).trans (sF_k kn_99 (by decide)))
  have kn_113 : (sA (sF g_102 h 9 (.ref q_90)) q_103 50 192).2.1 h 2 = .ref q_8 := ((congrFun (sA_g h (ne0 r_91 o_q_103 (by decide))).2.1 2).trans (sF_k kn_100 (by decide)))
  have kn_114 : (sA (sF g_102 h 9 (.ref q_90)) q_103 50 192).2.1 h 3 = .ref q_15 := ((congrFun (sA_g h (ne0 r_91 o_q_103 (by decide))).2.1 3).trans (sF_k kn_101 (by decide)))
  generalize (sA (sF g_102 h 9 (.ref q_90)) q_103 50 192) = g_115 at hT hI hM hE r_104 r_105 r_106 r_107 n_108 n_109 n_110 kn_111 kn_112 kn_113 kn_114 hP zP
  refine W.widen (k := 10) (n := 426) (Nat.le_of_ble_eq_true rfl) (Nat.le_of_ble_eq_true rfl) ?_
  refine t_put0 (ci := 7) (v := .ref q_103) hB hT (ro_ci r_104 rfl) (ro_n0 r_104 (by decide)) rfl 10 (by decide) k_755 (Or.inr ⟨hin, rfl⟩) rfl rfl dX7_init_82 (fun H locs hT => ?_)
  have hI : Inv (sF g_115 h 10 (.ref q_103)) := hI.sF (fk r_104 (show fsm _ _ ft from trivial))
  have hM : Sm md_k_Model g (sF g_115 h 10 (.ref q_103)) := hM.tr hE (Sm_sF (by rw [r_104]; rfl))
  have hE : Ex g (sF g_115 h 10 (.ref q_103)) := hE
  have hP : PF [10, 9, 8, 7, 6, 5, 4, 3, 2, 1, 60, 52, 51, 50, 49, 38, 37, 36, 34, 30, 29, 24, 22, 21, 0] (sF g_115 h 10 (.ref q_103)) h := hP.put (q_8_10 (⟨_, rfl, r_107, n_110⟩))
  have zP : ZC (sF g_115 h 10 (.ref q_103)) q_15 := zP
  refine lv_aload_n hx hb dX7_init_85 rfl (lv_at hl 0 rfl) ?_
  refine lv_sipush (v := 192) hx hb dX7_init_86 (by decide) ?_
  refine t_newi (N' := 192) hB hT 50 (by decide) k_101 (by decide) (by decide) (by decide) (Nat.le_of_ble_eq_true rfl) (Nat.le_of_ble_eq_true rfl) dX7_init_89 (fun q_116 H o_q_116 hT => ?_)
  have z_q_116 : g.1 q_116 = 0 := hE.z0 o_q_116
  have hI : Inv (sA (sF g_115 h 10 (.ref q_103)) q_116 50 192) := hI.newi o_q_116 (by decide) (fun _ => rfl) trivial (fun _ => trivial)
  have hM : Sm md_k_Model g (sA (sF g_115 h 10 (.ref q_103)) q_116 50 192) := hM.tr hE (Sm.push o_q_116 sA_g)
  have hE : Ex g (sA (sF g_115 h 10 (.ref q_103)) q_116 50 192) := hE.tr (Ex.push o_q_116 sA_g)
  have hP : PF [10, 9, 8, 7, 6, 5, 4, 3, 2, 1, 60, 52, 51, 50, 49, 38, 37, 36, 34, 30, 29, 24, 22, 21, 0] (sA (sF g_115 h 10 (.ref q_103)) q_116 50 192) h := hP.pu (Ex.push o_q_116 sA_g) (sA_g h (ne0 r_104 o_q_116 (by decide))).2.1
  have zP : ZC (sA (sF g_115 h 10 (.ref q_103)) q_116 50 192) q_15 := zP.pu (sA_g q_15 (ne0 r_106 o_q_116 (by decide))).2.2.2.1
  have r_117 : (sA (sF g_115 h 10 (.ref q_103)) q_116 50 192).1 h = 18 := ((sA_g h (ne0 r_104 o_q_116 (by decide))).1.trans r_104)
  have r_118 : (sA (sF g_115 h 10 (.ref q_103)) q_116 50 192).1 q_8 = 71 := ((sA_g q_8 (ne0 r_105 o_q_116 (by decide))).1.trans r_105)
  have r_119 : (sA (sF g_115 h 10 (.ref q_103)) q_116 50 192).1 q_15 = 72 := ((sA_g q_15 (ne0 r_106 o_q_116 (by decide))).1.trans r_106)
  have r_120 : (sA (sF g_115 h 10 (.ref q_103)) q_116 50 192).1 q_116 = 50 := sA_r
  have n_121 : (sA (sF g_115 h 10 (.ref q_103)) q_116 50 192).2.2.1 q_8 = 48 := ((sA_g q_8 (ne0 r_105 o_q_116 (by decide))).2.2.1.trans n_108)
  have n_122 : (sA (sF g_115 h 10 (.ref q_103)) q_116 50 192).2.2.1 q_15 = 48 := ((sA_g q_15 (ne0 r_106 o_q_116 (by decide))).2.2.1.trans n_109)
  have n_123 : (sA (sF g_115 h 10 (.ref q_103)) q_116 50 192).2.2.1 q_116 = 192 := sA_n
  have kn_124 : (sA (sF g_115 h 10 (.ref q_103)) q_116 50 192).2.1 h 22 = .int 0 := ((congrFun (sA_g h (ne0 r_104 o_q_116 (by decide))).2.1 22).trans (sF_k kn_111 (by decide)))
  have kn_125 : (sA (sF g_115 h 10 (.ref q_103)) q_116 50 192).2.1 h 34 = .int 0 := ((congrFun (sA_g h (ne0 r_104 o_q_116 (by decide))).2.1 34).trans (sF_k kn_112 (by decide)))
  have kn_126 : (sA (sF g_115 h 10 (.ref q_103)) q_116 50 192).2.1 h 2 = .ref q_8 := ((congrFun (sA_g h (ne0 r_104 o_q_116 (by decide))).2.1 2).trans (sF_k kn_113 (by decide)))
  have kn_127 : (sA (sF g_115 h 10 (.ref q_103)) q_116 50 192).2.1 h 3 = .ref q_15 := ((congrFun (sA_g h (ne0 r_104 o_q_116 (by decide))).2.1 3).trans (sF_k kn_114 (by decide)))
  generalize (sA (sF g_115 h 10 (.ref q_103)) q_116 50 192) = g_128 at hT hI hM hE r_117 r_118 r_119 r_120 n_121 n_122 n_123 kn_124 kn_125 kn_126 kn_127 hP zP
  refine W.widen (k := 11) (n := 618) (Nat.le_of_ble_eq_true rfl) (Nat.le_of_ble_eq_true rfl) ?_
  refine t_put0 (ci := 7) (v := .ref q_116) hB hT (ro_ci r_117 rfl) (ro_n0 r_117 (by decide)) rfl 11 (by decide) k_756 (Or.inr ⟨hin, rfl⟩) rfl rfl dX7_init_91 (fun H locs hT => ?_)
  have hI : Inv (sF g_128 h 11 (.ref q_116)) := hI.sF (fk r_117 (show fsm _ _ ft from trivial))
  have hM : Sm md_k_Model g (sF g_128 h 11 (.ref q_116)) := hM.tr hE (Sm_sF (by rw [r_117]; rfl))
  have hE : Ex g (sF g_128 h 11 (.ref q_116)) := hE
  have hP : PF [11, 10, 9, 8, 7, 6, 5, 4, 3, 2, 1, 60, 52, 51, 50, 49, 38, 37, 36, 34, 30, 29, 24, 22, 21, 0] (sF g_128 h 11 (.ref q_116)) h := hP.put (q_8_11 (⟨_, rfl, r_120, n_123⟩))
  have zP : ZC (sF g_128 h 11 (.ref q_116)) q_15 := zP
  refine lv_aload_n hx hb dX7_init_94 rfl (lv_at hl 0 rfl) ?_
  refine lv_sipush (v := 192) hx hb dX7_init_95 (by decide) ?_
  refine t_newi (N' := 192) hB hT 58 (by decide) k_101 (by decide) (by decide) (by decide) (Nat.le_of_ble_eq_true rfl) (Nat.le_of_ble_eq_true rfl) dX7_init_98 (fun q_129 H o_q_129 hT => ?_)
  have z_q_129 : g.1 q_129 = 0 := hE.z0 o_q_129
  have hI : Inv (sA (sF g_128 h 11 (.ref q_116)) q_129 58 192) := hI.newi o_q_129 (by decide) (fun _ => rfl) ⟨by decide, by decide⟩ (fun _ => trivial)
  have hM : Sm md_k_Model g (sA (sF g_128 h 11 (.ref q_116)) q_129 58 192) := hM.tr hE (Sm.push o_q_129 sA_g)
  have hE : Ex g (sA (sF g_128 h 11 (.ref q_116)) q_129 58 192) := hE.tr (Ex.push o_q_129 sA_g)
  have hP : PF [11, 10, 9, 8, 7, 6, 5, 4, 3, 2, 1, 60, 52, 51, 50, 49, 38, 37, 36, 34, 30, 29, 24, 22, 21, 0] (sA (sF g_128 h 11 (.ref q_116)) q_129 58 192) h := hP.pu (Ex.push o_q_129 sA_g) (sA_g h (ne0 r_117 o_q_129 (by decide))).2.1
  have zP : ZC (sA (sF g_128 h 11 (.ref q_116)) q_129 58 192) q_15 := zP.pu (sA_g q_15 (ne0 r_119 o_q_129 (by decide))).2.2.2.1
  have r_130 : (sA (sF g_128 h 11 (.ref q_116)) q_129 58 192).1 h = 18 := ((sA_g h (ne0 r_117 o_q_129 (by decide))).1.trans r_117)
  have r_131 : (sA (sF g_128 h 11 (.ref q_116)) q_129 58 192).1 q_8 = 71 := ((sA_g q_8 (ne0 r_118 o_q_129 (by decide))).1.trans r_118)
  have r_132 : (sA (sF g_128 h 11 (.ref q_116)) q_129 58 192).1 q_15 = 72 := ((sA_g q_15 (ne0 r_119 o_q_129 (by decide))).1.trans r_119)
  have r_133 : (sA (sF g_128 h 11 (.ref q_116)) q_129 58 192).1 q_129 = 58 := sA_r
  have n_134 : (sA (sF g_128 h 11 (.ref q_116)) q_129 58 192).2.2.1 q_8 = 48 := ((sA_g q_8 (ne0 r_118 o_q_129 (by decide))).2.2.1.trans n_121)
  have n_135 : (sA (sF g_128 h 11 (.ref q_116)) q_129 58 192).2.2.1 q_15 = 48 := ((sA_g q_15 (ne0 r_119 o_q_129 (by decide))).2.2.1.trans n_122)
  have n_136 : (sA (sF g_128 h 11 (.ref q_116)) q_129 58 192).2.2.1 q_129 = 192 := sA_n
  have kn_137 : (sA (sF g_128 h 11 (.ref q_116)) q_129 58 192).2.1 h 22 = .int 0 := ((congrFun (sA_g h (ne0 r_117 o_q_129 (by decide))).2.1 22).trans (sF_k kn_124 (by decide)))
  have kn_138 : (sA (sF g_128 h 11 (.ref q_116)) q_129 58 192).2.1 h 34 = .int 0 := ((congrFun (sA_g h (ne0 r_117 o_q_129 (by decide))).2.1 34).trans (sF_k kn_125 (by decide)))
  have kn_139 : (sA (sF g_128 h 11 (.ref q_116)) q_129 58 192).2.1 h 2 = .ref q_8 := ((congrFun (sA_g h (ne0 r_117 o_q_129 (by decide))).2.1 2).trans (sF_k kn_126 (by decide)))
  have kn_140 : (sA (sF g_128 h 11 (.ref q_116)) q_129 58 192).2.1 h 3 = .ref q_15 := ((congrFun (sA_g h (ne0 r_117 o_q_129 (by decide))).2.1 3).trans (sF_k kn_127 (by decide)))
  generalize (sA (sF g_128 h 11 (.ref q_116)) q_129 58 192) = g_141 at hT hI hM hE r_130 r_131 r_132 r_133 n_134 n_135 n_136 kn_137 kn_138 kn_139 kn_140 hP zP
  refine W.widen (k := 12) (n := 810) (Nat.le_of_ble_eq_true rfl) (Nat.le_of_ble_eq_true rfl) ?_
  refine t_put0 (ci := 7) (v := .ref q_129) hB hT (ro_ci r_130 rfl) (ro_n0 r_130 (by decide)) rfl 12 (by decide) k_757 (Or.inr ⟨hin, rfl⟩) rfl rfl dX7_init_100 (fun H locs hT => ?_)
  have hI : Inv (sF g_141 h 12 (.ref q_129)) := hI.sF (fk r_130 (show fsm _ _ ft from trivial))
  have hM : Sm md_k_Model g (sF g_141 h 12 (.ref q_129)) := hM.tr hE (Sm_sF (by rw [r_130]; rfl))
  have hE : Ex g (sF g_141 h 12 (.ref q_129)) := hE
  have hP : PF [12, 11, 10, 9, 8, 7, 6, 5, 4, 3, 2, 1, 60, 52, 51, 50, 49, 38, 37, 36, 34, 30, 29, 24, 22, 21, 0] (sF g_141 h 12 (.ref q_129)) h := hP.put (q_8_12 (⟨_, rfl, r_133, n_136⟩))
  have zP : ZC (sF g_141 h 12 (.ref q_129)) q_15 := zP
  refine lv_aload_n hx hb dX7_init_103 rfl (lv_at hl 0 rfl) ?_
  refine lv_sipush (v := 192) hx hb dX7_init_104 (by decide) ?_
  refine t_newi (N' := 192) hB hT 50 (by decide) k_101 (by decide) (by decide) (by decide) (Nat.le_of_ble_eq_true rfl) (Nat.le_of_ble_eq_true rfl) dX7_init_107 (fun q_142 H o_q_142 hT => ?_)
  have z_q_142 : g.1 q_142 = 0 := hE.z0 o_q_142
  have hI : Inv (sA (sF g_141 h 12 (.ref q_129)) q_142 50 192) := hI.newi o_q_142 (by decide) (fun _ => rfl) trivial (fun _ => trivial)
  have hM : Sm md_k_Model g (sA (sF g_141 h 12 (.ref q_129)) q_142 50 192) := hM.tr hE (Sm.push o_q_142 sA_g)
  have hE : Ex g (sA (sF g_141 h 12 (.ref q_129)) q_142 50 192) := hE.tr (Ex.push o_q_142 sA_g)
  have hP : PF [12, 11, 10, 9, 8, 7, 6, 5, 4, 3, 2, 1, 60, 52, 51, 50, 49, 38, 37, 36, 34, 30, 29, 24, 22, 21, 0] (sA (sF g_141 h 12 (.ref q_129)) q_142 50 192) h := hP.pu (Ex.push o_q_142 sA_g) (sA_g h (ne0 r_130 o_q_142 (by decide))).2.1
  have zP : ZC (sA (sF g_141 h 12 (.ref q_129)) q_142 50 192) q_15 := zP.pu (sA_g q_15 (ne0 r_132 o_q_142 (by decide))).2.2.2.1
  have r_143 : (sA (sF g_141 h 12 (.ref q_129)) q_142 50 192).1 h = 18 := ((sA_g h (ne0 r_130 o_q_142 (by decide))).1.trans r_130)
  have r_144 : (sA (sF g_141 h 12 (.ref q_129)) q_142 50 192).1 q_8 = 71 := ((sA_g q_8 (ne0 r_131 o_q_142 (by decide))).1.trans r_131)
  have r_145 : (sA (sF g_141 h 12 (.ref q_129)) q_142 50 192).1 q_15 = 72 := ((sA_g q_15 (ne0 r_132 o_q_142 (by decide))).1.trans r_132)
  have r_146 : (sA (sF g_141 h 12 (.ref q_129)) q_142 50 192).1 q_142 = 50 := sA_r
  have n_147 : (sA (sF g_141 h 12 (.ref q_129)) q_142 50 192).2.2.1 q_8 = 48 := ((sA_g q_8 (ne0 r_131 o_q_142 (by decide))).2.2.1.trans n_134)
  have n_148 : (sA (sF g_141 h 12 (.ref q_129)) q_142 50 192).2.2.1 q_15 = 48 := ((sA_g q_15 (ne0 r_132 o_q_142 (by decide))).2.2.1.trans n_135)
  have n_149 : (sA (sF g_141 h 12 (.ref q_129)) q_142 50 192).2.2.1 q_142 = 192 := sA_n
  have kn_150 : (sA (sF g_141 h 12 (.ref q_129)) q_142 50 192).2.1 h 22 = .int 0 := ((congrFun (sA_g h (ne0 r_130 o_q_142 (by decide))).2.1 22).trans (sF_k kn_137 (by decide)))
  have kn_151 : (sA (sF g_141 h 12 (.ref q_129)) q_142 50 192).2.1 h 34 = .int 0 := ((congrFun (sA_g h (ne0 r_130 o_q_142 (by decide))).2.1 34).trans (sF_k kn_138 (by decide)))
  have kn_152 : (sA (sF g_141 h 12 (.ref q_129)) q_142 50 192).2.1 h 2 = .ref q_8 := ((congrFun (sA_g h (ne0 r_130 o_q_142 (by decide))).2.1 2).trans (sF_k kn_139 (by decide)))
  have kn_153 : (sA (sF g_141 h 12 (.ref q_129)) q_142 50 192).2.1 h 3 = .ref q_15 := ((congrFun (sA_g h (ne0 r_130 o_q_142 (by decide))).2.1 3).trans (sF_k kn_140 (by decide)))
  generalize (sA (sF g_141 h 12 (.ref q_129)) q_142 50 192) = g_154 at hT hI hM hE r_143 r_144 r_145 r_146 n_147 n_148 n_149 kn_150 kn_151 kn_152 kn_153 hP zP
  refine W.widen (k := 13) (n := 1002) (Nat.le_of_ble_eq_true rfl) (Nat.le_of_ble_eq_true rfl) ?_
  refine t_put0 (ci := 7) (v := .ref q_142) hB hT (ro_ci r_143 rfl) (ro_n0 r_143 (by decide)) rfl 13 (by decide) k_758 (Or.inr ⟨hin, rfl⟩) rfl rfl dX7_init_109 (fun H locs hT => ?_)
  have hI : Inv (sF g_154 h 13 (.ref q_142)) := hI.sF (fk r_143 (show fsm _ _ ft from trivial))
  have hM : Sm md_k_Model g (sF g_154 h 13 (.ref q_142)) := hM.tr hE (Sm_sF (by rw [r_143]; rfl))
  have hE : Ex g (sF g_154 h 13 (.ref q_142)) := hE
  have hP : PF [13, 12, 11, 10, 9, 8, 7, 6, 5, 4, 3, 2, 1, 60, 52, 51, 50, 49, 38, 37, 36, 34, 30, 29, 24, 22, 21, 0] (sF g_154 h 13 (.ref q_142)) h := hP.put (q_8_13 (⟨_, rfl, r_146, n_149⟩))
  have zP : ZC (sF g_154 h 13 (.ref q_142)) q_15 := zP
  refine lv_aload_n hx hb dX7_init_112 rfl (lv_at hl 0 rfl) ?_
  refine lv_iconst (v := 2) hx hb dX7_init_113 (by decide) ?_
  refine t_newi (N' := 2) hB hT 50 (by decide) k_101 (by decide) (by decide) (by decide) (Nat.le_of_ble_eq_true rfl) (Nat.le_of_ble_eq_true rfl) dX7_init_114 (fun q_155 H o_q_155 hT => ?_)
  have z_q_155 : g.1 q_155 = 0 := hE.z0 o_q_155
  have hI : Inv (sA (sF g_154 h 13 (.ref q_142)) q_155 50 2) := hI.newi o_q_155 (by decide) (fun _ => rfl) trivial (fun _ => trivial)
  have hM : Sm md_k_Model g (sA (sF g_154 h 13 (.ref q_142)) q_155 50 2) := hM.tr hE (Sm.push o_q_155 sA_g)
  have hE : Ex g (sA (sF g_154 h 13 (.ref q_142)) q_155 50 2) := hE.tr (Ex.push o_q_155 sA_g)
  have hP : PF [13, 12, 11, 10, 9, 8, 7, 6, 5, 4, 3, 2, 1, 60, 52, 51, 50, 49, 38, 37, 36, 34, 30, 29, 24, 22, 21, 0] (sA (sF g_154 h 13 (.ref q_142)) q_155 50 2) h := hP.pu (Ex.push o_q_155 sA_g) (sA_g h (ne0 r_143 o_q_155 (by decide))).2.1
  have zP : ZC (sA (sF g_154 h 13 (.ref q_142)) q_155 50 2) q_15 := zP.pu (sA_g q_15 (ne0 r_145 o_q_155 (by decide))).2.2.2.1
  have r_156 : (sA (sF g_154 h 13 (.ref q_142)) q_155 50 2).1 h = 18 := ((sA_g h (ne0 r_143 o_q_155 (by decide))).1.trans r_143)
  have r_157 : (sA (sF g_154 h 13 (.ref q_142)) q_155 50 2).1 q_8 = 71 := ((sA_g q_8 (ne0 r_144 o_q_155 (by decide))).1.trans r_144)
  have r_158 : (sA (sF g_154 h 13 (.ref q_142)) q_155 50 2).1 q_15 = 72 := ((sA_g q_15 (ne0 r_145 o_q_155 (by decide))).1.trans r_145)
  have r_159 : (sA (sF g_154 h 13 (.ref q_142)) q_155 50 2).1 q_155 = 50 := sA_r
  have n_160 : (sA (sF g_154 h 13 (.ref q_142)) q_155 50 2).2.2.1 q_8 = 48 := ((sA_g q_8 (ne0 r_144 o_q_155 (by decide))).2.2.1.trans n_147)
  have n_161 : (sA (sF g_154 h 13 (.ref q_142)) q_155 50 2).2.2.1 q_15 = 48 := ((sA_g q_15 (ne0 r_145 o_q_155 (by decide))).2.2.1.trans n_148)
  have n_162 : (sA (sF g_154 h 13 (.ref q_142)) q_155 50 2).2.2.1 q_155 = 2 := sA_n
  have kn_163 : (sA (sF g_154 h 13 (.ref q_142)) q_155 50 2).2.1 h 22 = .int 0 := ((congrFun (sA_g h (ne0 r_143 o_q_155 (by decide))).2.1 22).trans (sF_k kn_150 (by decide)))
  have kn_164 : (sA (sF g_154 h 13 (.ref q_142)) q_155 50 2).2.1 h 34 = .int 0 := ((congrFun (sA_g h (ne0 r_143 o_q_155 (by decide))).2.1 34).trans (sF_k kn_151 (by decide)))
  have kn_165 : (sA (sF g_154 h 13 (.ref q_142)) q_155 50 2).2.1 h 2 = .ref q_8 := ((congrFun (sA_g h (ne0 r_143 o_q_155 (by decide))).2.1 2).trans (sF_k kn_152 (by decide)))
  have kn_166 : (sA (sF g_154 h 13 (.ref q_142)) q_155 50 2).2.1 h 3 = .ref q_15 := ((congrFun (sA_g h (ne0 r_143 o_q_155 (by decide))).2.1 3).trans (sF_k kn_153 (by decide)))
  generalize (sA (sF g_154 h 13 (.ref q_142)) q_155 50 2) = g_167 at hT hI hM hE r_156 r_157 r_158 r_159 n_160 n_161 n_162 kn_163 kn_164 kn_165 kn_166 hP zP
  refine W.widen (k := 14) (n := 1004) (Nat.le_of_ble_eq_true rfl) (Nat.le_of_ble_eq_true rfl) ?_
  refine t_put0 (ci := 7) (v := .ref q_155) hB hT (ro_ci r_156 rfl) (ro_n0 r_156 (by decide)) rfl 14 (by decide) k_759 (Or.inr ⟨hin, rfl⟩) rfl rfl dX7_init_116 (fun H locs hT => ?_)
  have hI : Inv (sF g_167 h 14 (.ref q_155)) := hI.sF (fk r_156 (show fsm _ _ ft from trivial))
  have hM : Sm md_k_Model g (sF g_167 h 14 (.ref q_155)) := hM.tr hE (Sm_sF (by rw [r_156]; rfl))
  have hE : Ex g (sF g_167 h 14 (.ref q_155)) := hE
  have hP : PF [14, 13, 12, 11, 10, 9, 8, 7, 6, 5, 4, 3, 2, 1, 60, 52, 51, 50, 49, 38, 37, 36, 34, 30, 29, 24, 22, 21, 0] (sF g_167 h 14 (.ref q_155)) h := hP.put (q_8_14 (⟨_, rfl, r_159, n_162⟩))
  have zP : ZC (sF g_167 h 14 (.ref q_155)) q_15 := zP
  refine lv_aload_n hx hb dX7_init_119 rfl (lv_at hl 0 rfl) ?_
  refine lv_bipush (v := 12) hx hb dX7_init_120 (by decide) ?_
  refine t_newi (N' := 12) hB hT 50 (by decide) k_101 (by decide) (by decide) (by decide) (Nat.le_of_ble_eq_true rfl) (Nat.le_of_ble_eq_true rfl) dX7_init_122 (fun q_168 H o_q_168 hT => ?_)
  have z_q_168 : g.1 q_168 = 0 := hE.z0 o_q_168
  have hI : Inv (sA (sF g_167 h 14 (.ref q_155)) q_168 50 12) := hI.newi o_q_168 (by decide) (fun _ => rfl) trivial (fun _ => trivial)
  have hM : Sm md_k_Model g (sA (sF g_167 h 14 (.ref q_155)) q_168 50 12) := hM.tr hE (Sm.push o_q_168 sA_g)
  have hE : Ex g (sA (sF g_167 h 14 (.ref q_155)) q_168 50 12) := hE.tr (Ex.push o_q_168 sA_g)
  have hP : PF [14, 13, 12, 11, 10, 9, 8, 7, 6, 5, 4, 3, 2, 1, 60, 52, 51, 50, 49, 38, 37, 36, 34, 30, 29, 24, 22, 21, 0] (sA (sF g_167 h 14 (.ref q_155)) q_168 50 12) h := hP.pu (Ex.push o_q_168 sA_g) (sA_g h (ne0 r_156 o_q_168 (by decide))).2.1
  have zP : ZC (sA (sF g_167 h 14 (.ref q_155)) q_168 50 12) q_15 := zP.pu (sA_g q_15 (ne0 r_158 o_q_168 (by decide))).2.2.2.1
  have r_169 : (sA (sF g_167 h 14 (.ref q_155)) q_168 50 12).1 h = 18 := ((sA_g h (ne0 r_156 o_q_168 (by decide))).1.trans r_156)
  have r_170 : (sA (sF g_167 h 14 (.ref q_155)) q_168 50 12).1 q_8 = 71 := ((sA_g q_8 (ne0 r_157 o_q_168 (by decide))).1.trans r_157)
  have r_171 : (sA (sF g_167 h 14 (.ref q_155)) q_168 50 12).1 q_15 = 72 := ((sA_g q_15 (ne0 r_158 o_q_168 (by decide))).1.trans r_158)
  have r_172 : (sA (sF g_167 h 14 (.ref q_155)) q_168 50 12).1 q_168 = 50 := sA_r
  have n_173 : (sA (sF g_167 h 14 (.ref q_155)) q_168 50 12).2.2.1 q_8 = 48 := ((sA_g q_8 (ne0 r_157 o_q_168 (by decide))).2.2.1.trans n_160)
  have n_174 : (sA (sF g_167 h 14 (.ref q_155)) q_168 50 12).2.2.1 q_15 = 48 := ((sA_g q_15 (ne0 r_158 o_q_168 (by decide))).2.2.1.trans n_161)
  have n_175 : (sA (sF g_167 h 14 (.ref q_155)) q_168 50 12).2.2.1 q_168 = 12 := sA_n
  have kn_176 : (sA (sF g_167 h 14 (.ref q_155)) q_168 50 12).2.1 h 22 = .int 0 := ((congrFun (sA_g h (ne0 r_156 o_q_168 (by decide))).2.1 22).trans (sF_k kn_163 (by decide)))
  have kn_177 : (sA (sF g_167 h 14 (.ref q_155)) q_168 50 12).2.1 h 34 = .int 0 := ((congrFun (sA_g h (ne0 r_156 o_q_168 (by decide))).2.1 34).trans (sF_k kn_164 (by decide)))
  have kn_178 : (sA (sF g_167 h 14 (.ref q_155)) q_168 50 12).2.1 h 2 = .ref q_8 := ((congrFun (sA_g h (ne0 r_156 o_q_168 (by decide))).2.1 2).trans (sF_k kn_165 (by decide)))
  have kn_179 : (sA (sF g_167 h 14 (.ref q_155)) q_168 50 12).2.1 h 3 = .ref q_15 := ((congrFun (sA_g h (ne0 r_156 o_q_168 (by decide))).2.1 3).trans (sF_k kn_166 (by decide)))
  generalize (sA (sF g_167 h 14 (.ref q_155)) q_168 50 12) = g_180 at hT hI hM hE r_169 r_170 r_171 r_172 n_173 n_174 n_175 kn_176 kn_177 kn_178 kn_179 hP zP
  refine W.widen (k := 15) (n := 1016) (Nat.le_of_ble_eq_true rfl) (Nat.le_of_ble_eq_true rfl) ?_
  refine t_put0 (ci := 7) (v := .ref q_168) hB hT (ro_ci r_169 rfl) (ro_n0 r_169 (by decide)) rfl 15 (by decide) k_760 (Or.inr ⟨hin, rfl⟩) rfl rfl dX7_init_124 (fun H locs hT => ?_)
  have hI : Inv (sF g_180 h 15 (.ref q_168)) := hI.sF (fk r_169 (show fsm _ _ ft from trivial))
  have hM : Sm md_k_Model g (sF g_180 h 15 (.ref q_168)) := hM.tr hE (Sm_sF (by rw [r_169]; rfl))
  have hE : Ex g (sF g_180 h 15 (.ref q_168)) := hE
  have hP : PF [15, 14, 13, 12, 11, 10, 9, 8, 7, 6, 5, 4, 3, 2, 1, 60, 52, 51, 50, 49, 38, 37, 36, 34, 30, 29, 24, 22, 21, 0] (sF g_180 h 15 (.ref q_168)) h := hP.put (q_8_15 (⟨_, rfl, r_172, n_175⟩))
  have zP : ZC (sF g_180 h 15 (.ref q_168)) q_15 := zP
  refine lv_aload_n hx hb dX7_init_127 rfl (lv_at hl 0 rfl) ?_
  refine lv_bipush (v := 12) hx hb dX7_init_128 (by decide) ?_
  refine t_newi (N' := 12) hB hT 50 (by decide) k_101 (by decide) (by decide) (by decide) (Nat.le_of_ble_eq_true rfl) (Nat.le_of_ble_eq_true rfl) dX7_init_130 (fun q_181 H o_q_181 hT => ?_)
  have z_q_181 : g.1 q_181 = 0 := hE.z0 o_q_181
  have hI : Inv (sA (sF g_180 h 15 (.ref q_168)) q_181 50 12) := hI.newi o_q_181 (by decide) (fun _ => rfl) trivial (fun _ => trivial)
  have hM : Sm md_k_Model g (sA (sF g_180 h 15 (.ref q_168)) q_181 50 12) := hM.tr hE (Sm.push o_q_181 sA_g)
  have hE : Ex g (sA (sF g_180 h 15 (.ref q_168)) q_181 50 12) := hE.tr (Ex.push o_q_181 sA_g)
  have hP : PF [15, 14, 13, 12, 11, 10, 9, 8, 7, 6, 5, 4, 3, 2, 1, 60, 52, 51, 50, 49, 38, 37, 36, 34, 30, 29, 24, 22, 21, 0] (sA (sF g_180 h 15 (.ref q_168)) q_181 50 12) h := hP.pu (Ex.push o_q_181 sA_g) (sA_g h (ne0 r_169 o_q_181 (by decide))).2.1
  have zP : ZC (sA (sF g_180 h 15 (.ref q_168)) q_181 50 12) q_15 := zP.pu (sA_g q_15 (ne0 r_171 o_q_181 (by decide))).2.2.2.1
  have r_182 : (sA (sF g_180 h 15 (.ref q_168)) q_181 50 12).1 h = 18 := ((sA_g h (ne0 r_169 o_q_181 (by decide))).1.trans r_169)
  have r_183 : (sA (sF g_180 h 15 (.ref q_168)) q_181 50 12).1 q_8 = 71 := ((sA_g q_8 (ne0 r_170 o_q_181 (by decide))).1.trans r_170)
  have r_184 : (sA (sF g_180 h 15 (.ref q_168)) q_181 50 12).1 q_15 = 72 := ((sA_g q_15 (ne0 r_171 o_q_181 (by decide))).1.trans r_171)
  have r_185 : (sA (sF g_180 h 15 (.ref q_168)) q_181 50 12).1 q_181 = 50 := sA_r
  have n_186 : (sA (sF g_180 h 15 (.ref q_168)) q_181 50 12).2.2.1 q_8 = 48 := ((sA_g q_8 (ne0 r_170 o_q_181 (by decide))).2.2.1.trans n_173)
  have n_187 : (sA (sF g_180 h 15 (.ref q_168)) q_181 50 12).2.2.1 q_15 = 48 := ((sA_g q_15 (ne0 r_171 o_q_181 (by decide))).2.2.1.trans n_174)
  have n_188 : (sA (sF g_180 h 15 (.ref q_168)) q_181 50 12).2.2.1 q_181 = 12 := sA_n
  have kn_189 : (sA (sF g_180 h 15 (.ref q_168)) q_181 50 12).2.1 h 22 = .int 0 := ((congrFun (sA_g h (ne0 r_169 o_q_181 (by decide))).2.1 22).trans (sF_k kn_176 (by decide)))
  have kn_190 : (sA (sF g_180 h 15 (.ref q_168)) q_181 50 12).2.1 h 34 = .int 0 := ((congrFun (sA_g h (ne0 r_169 o_q_181 (by decide))).2.1 34).trans (sF_k kn_177 (by decide)))
  have kn_191 : (sA (sF g_180 h 15 (.ref q_168)) q_181 50 12).2.1 h 2 = .ref q_8 := ((congrFun (sA_g h (ne0 r_169 o_q_181 (by decide))).2.1 2).trans (sF_k kn_178 (by decide)))
  have kn_192 : (sA (sF g_180 h 15 (.ref q_168)) q_181 50 12).2.1 h 3 = .ref q_15 := ((congrFun (sA_g h (ne0 r_169 o_q_181 (by decide))).2.1 3).trans (sF_k kn_179 (by decide)))
  generalize (sA (sF g_180 h 15 (.ref q_168)) q_181 50 12) = g_193 at hT hI hM hE r_182 r_183 r_184 r_185 n_186 n_187 n_188 kn_189 kn_190 kn_191 kn_192 hP zP
  refine W.widen (k := 16) (n := 1028) (Nat.le_of_ble_eq_true rfl) (Nat.le_of_ble_eq_true rfl) ?_
  refine t_put0 (ci := 7) (v := .ref q_181) hB hT (ro_ci r_182 rfl) (ro_n0 r_182 (by decide)) rfl 16 (by decide) k_761 (Or.inr ⟨hin, rfl⟩) rfl rfl dX7_init_132 (fun H locs hT => ?_)
  have hI : Inv (sF g_193 h 16 (.ref q_181)) := hI.sF (fk r_182 (show fsm _ _ ft from trivial))
  have hM : Sm md_k_Model g (sF g_193 h 16 (.ref q_181)) := hM.tr hE (Sm_sF (by rw [r_182]; rfl))
  have hE : Ex g (sF g_193 h 16 (.ref q_181)) := hE
  have hP : PF [16, 15, 14, 13, 12, 11, 10, 9, 8, 7, 6, 5, 4, 3, 2, 1, 60, 52, 51, 50, 49, 38, 37, 36, 34, 30, 29, 24, 22, 21, 0] (sF g_193 h 16 (.ref q_181)) h := hP.put (q_8_16 (⟨_, rfl, r_185, n_188⟩))
  have zP : ZC (sF g_193 h 16 (.ref q_181)) q_15 := zP
  refine lv_aload_n hx hb dX7_init_135 rfl (lv_at hl 0 rfl) ?_
  refine lv_bipush (v := 96) hx hb dX7_init_136 (by decide) ?_
  refine t_newi (N' := 96) hB hT 50 (by decide) k_101 (by decide) (by decide) (by decide) (Nat.le_of_ble_eq_true rfl) (Nat.le_of_ble_eq_true rfl) dX7_init_138 (fun q_194 H o_q_194 hT => ?_)
  have z_q_194 : g.1 q_194 = 0 := hE.z0 o_q_194
  have hI : Inv (sA (sF g_193 h 16 (.ref q_181)) q_194 50 96) := hI.newi o_q_194 (by decide) (fun _ => rfl) trivial (fun _ => trivial)
  have hM : Sm md_k_Model g (sA (sF g_193 h 16 (.ref q_181)) q_194 50 96) := hM.tr hE (Sm.push o_q_194 sA_g)
  have hE : Ex g (sA (sF g_193 h 16 (.ref q_181)) q_194 50 96) := hE.tr (Ex.push o_q_194 sA_g)
  have hP : PF [16, 15, 14, 13, 12, 11, 10, 9, 8, 7, 6, 5, 4, 3, 2, 1, 60, 52, 51, 50, 49, 38, 37, 36, 34, 30, 29, 24, 22, 21, 0] (sA (sF g_193 h 16 (.ref q_181)) q_194 50 96) h := hP.pu (Ex.push o_q_194 sA_g) (sA_g h (ne0 r_182 o_q_194 (by decide))).2.1
  have zP : ZC (sA (sF g_193 h 16 (.ref q_181)) q_194 50 96) q_15 := zP.pu (sA_g q_15 (ne0 r_184 o_q_194 (by decide))).2.2.2.1
  have r_195 : (sA (sF g_193 h 16 (.ref q_181)) q_194 50 96).1 h = 18 := ((sA_g h (ne0 r_182 o_q_194 (by decide))).1.trans r_182)
  have r_196 : (sA (sF g_193 h 16 (.ref q_181)) q_194 50 96).1 q_8 = 71 := ((sA_g q_8 (ne0 r_183 o_q_194 (by decide))).1.trans r_183)
  have r_197 : (sA (sF g_193 h 16 (.ref q_181)) q_194 50 96).1 q_15 = 72 := ((sA_g q_15 (ne0 r_184 o_q_194 (by decide))).1.trans r_184)
  have r_198 : (sA (sF g_193 h 16 (.ref q_181)) q_194 50 96).1 q_194 = 50 := sA_r
  have n_199 : (sA (sF g_193 h 16 (.ref q_181)) q_194 50 96).2.2.1 q_8 = 48 := ((sA_g q_8 (ne0 r_183 o_q_194 (by decide))).2.2.1.trans n_186)
  have n_200 : (sA (sF g_193 h 16 (.ref q_181)) q_194 50 96).2.2.1 q_15 = 48 := ((sA_g q_15 (ne0 r_184 o_q_194 (by decide))).2.2.1.trans n_187)
  have n_201 : (sA (sF g_193 h 16 (.ref q_181)) q_194 50 96).2.2.1 q_194 = 96 := sA_n
  have kn_202 : (sA (sF g_193 h 16 (.ref q_181)) q_194 50 96).2.1 h 22 = .int 0 := ((congrFun (sA_g h (ne0 r_182 o_q_194 (by decide))).2.1 22).trans (sF_k kn_189 (by decide)))
  have kn_203 : (sA (sF g_193 h 16 (.ref q_181)) q_194 50 96).2.1 h 34 = .int 0 := ((congrFun (sA_g h (ne0 r_182 o_q_194 (by decide))).2.1 34).trans (sF_k kn_190 (by decide)))
  have kn_204 : (sA (sF g_193 h 16 (.ref q_181)) q_194 50 96).2.1 h 2 = .ref q_8 := ((congrFun (sA_g h (ne0 r_182 o_q_194 (by decide))).2.1 2).trans (sF_k kn_191 (by decide)))
  have kn_205 : (sA (sF g_193 h 16 (.ref q_181)) q_194 50 96).2.1 h 3 = .ref q_15 := ((congrFun (sA_g h (ne0 r_182 o_q_194 (by decide))).2.1 3).trans (sF_k kn_192 (by decide)))
  generalize (sA (sF g_193 h 16 (.ref q_181)) q_194 50 96) = g_206 at hT hI hM hE r_195 r_196 r_197 r_198 n_199 n_200 n_201 kn_202 kn_203 kn_204 kn_205 hP zP
  refine W.widen (k := 17) (n := 1124) (Nat.le_of_ble_eq_true rfl) (Nat.le_of_ble_eq_true rfl) ?_
  refine t_put0 (ci := 7) (v := .ref q_194) hB hT (ro_ci r_195 rfl) (ro_n0 r_195 (by decide)) rfl 17 (by decide) k_762 (Or.inr ⟨hin, rfl⟩) rfl rfl dX7_init_140 (fun H locs hT => ?_)
  have hI : Inv (sF g_206 h 17 (.ref q_194)) := hI.sF (fk r_195 (show fsm _ _ ft from trivial))
  have hM : Sm md_k_Model g (sF g_206 h 17 (.ref q_194)) := hM.tr hE (Sm_sF (by rw [r_195]; rfl))
  have hE : Ex g (sF g_206 h 17 (.ref q_194)) := hE
  have hP : PF [17, 16, 15, 14, 13, 12, 11, 10, 9, 8, 7, 6, 5, 4, 3, 2, 1, 60, 52, 51, 50, 49, 38, 37, 36, 34, 30, 29, 24, 22, 21, 0] (sF g_206 h 17 (.ref q_194)) h := hP.put (q_8_17 (⟨_, rfl, r_198, n_201⟩))
  have zP : ZC (sF g_206 h 17 (.ref q_194)) q_15 := zP
  refine lv_aload_n hx hb dX7_init_143 rfl (lv_at hl 0 rfl) ?_
  refine lv_bipush (v := 96) hx hb dX7_init_144 (by decide) ?_
  refine t_newi (N' := 96) hB hT 50 (by decide) k_101 (by decide) (by decide) (by decide) (Nat.le_of_ble_eq_true rfl) (Nat.le_of_ble_eq_true rfl) dX7_init_146 (fun q_207 H o_q_207 hT => ?_)
  have z_q_207 : g.1 q_207 = 0 := hE.z0 o_q_207
  have hI : Inv (sA (sF g_206 h 17 (.ref q_194)) q_207 50 96) := hI.newi o_q_207 (by decide) (fun _ => rfl) trivial (fun _ => trivial)
  have hM : Sm md_k_Model g (sA (sF g_206 h 17 (.ref q_194)) q_207 50 96) := hM.tr hE (Sm.push o_q_207 sA_g)
  have hE : Ex g (sA (sF g_206 h 17 (.ref q_194)) q_207 50 96) := hE.tr (Ex.push o_q_207 sA_g)
  have hP : PF [17, 16, 15, 14, 13, 12, 11, 10, 9, 8, 7, 6, 5, 4, 3, 2, 1, 60, 52, 51, 50, 49, 38, 37, 36, 34, 30, 29, 24, 22, 21, 0] (sA (sF g_206 h 17 (.ref q_194)) q_207 50 96) h := hP.pu (Ex.push o_q_207 sA_g) (sA_g h (ne0 r_195 o_q_207 (by decide))).2.1
  have zP : ZC (sA (sF g_206 h 17 (.ref q_194)) q_207 50 96) q_15 := zP.pu (sA_g q_15 (ne0 r_197 o_q_207 (by decide))).2.2.2.1
  have r_208 : (sA (sF g_206 h 17 (.ref q_194)) q_207 50 96).1 h = 18 := ((sA_g h (ne0 r_195 o_q_207 (by decide))).1.trans r_195)
  have r_209 : (sA (sF g_206 h 17 (.ref q_194)) q_207 50 96).1 q_8 = 71 := ((sA_g q_8 (ne0 r_196 o_q_207 (by decide))).1.trans r_196)
  have r_210 : (sA (sF g_206 h 17 (.ref q_194)) q_207 50 96).1 q_15 = 72 := ((sA_g q_15 (ne0 r_197 o_q_207 (by decide))).1.trans r_197)
  have r_211 : (sA (sF g_206 h 17 (.ref q_194)) q_207 50 96).1 q_207 = 50 := sA_r
  have n_212 : (sA (sF g_206 h 17 (.ref q_194)) q_207 50 96).2.2.1 q_8 = 48 := ((sA_g q_8 (ne0 r_196 o_q_207 (by decide))).2.2.1.trans n_199)
  have n_213 : (sA (sF g_206 h 17 (.ref q_194)) q_207 50 96).2.2.1 q_15 = 48 := ((sA_g q_15 (ne0 r_197 o_q_207 (by decide))).2.2.1.trans n_200)
  have n_214 : (sA (sF g_206 h 17 (.ref q_194)) q_207 50 96).2.2.1 q_207 = 96 := sA_n
  have kn_215 : (sA (sF g_206 h 17 (.ref q_194)) q_207 50 96).2.1 h 22 = .int 0 := ((congrFun (sA_g h (ne0 r_195 o_q_207 (by decide))).2.1 22).trans (sF_k kn_202 (by decide)))
  have kn_216 : (sA (sF g_206 h 17 (.ref q_194)) q_207 50 96).2.1 h 34 = .int 0 := ((congrFun (sA_g h (ne0 r_195 o_q_207 (by decide))).2.1 34).trans (sF_k kn_203 (by decide)))
  have kn_217 : (sA (sF g_206 h 17 (.ref q_194)) q_207 50 96).2.1 h 2 = .ref q_8 := ((congrFun (sA_g h (ne0 r_195 o_q_207 (by decide))).2.1 2).trans (sF_k kn_204 (by decide)))
  have kn_218 : (sA (sF g_206 h 17 (.ref q_194)) q_207 50 96).2.1 h 3 = .ref q_15 := ((congrFun (sA_g h (ne0 r_195 o_q_207 (by decide))).2.1 3).trans (sF_k kn_205 (by decide)))
  generalize (sA (sF g_206 h 17 (.ref q_194)) q_207 50 96) = g_219 at hT hI hM hE r_208 r_209 r_210 r_211 n_212 n_213 n_214 kn_215 kn_216 kn_217 kn_218 hP zP
  refine W.widen (k := 18) (n := 1220) (Nat.le_of_ble_eq_true rfl) (Nat.le_of_ble_eq_true rfl) ?_
  refine t_put0 (ci := 7) (v := .ref q_207) hB hT (ro_ci r_208 rfl) (ro_n0 r_208 (by decide)) rfl 18 (by decide) k_763 (Or.inr ⟨hin, rfl⟩) rfl rfl dX7_init_148 (fun H locs hT => ?_)
  have hI : Inv (sF g_219 h 18 (.ref q_207)) := hI.sF (fk r_208 (show fsm _ _ ft from trivial))
  have hM : Sm md_k_Model g (sF g_219 h 18 (.ref q_207)) := hM.tr hE (Sm_sF (by rw [r_208]; rfl))
  have hE : Ex g (sF g_219 h 18 (.ref q_207)) := hE
  have hP : PF [18, 17, 16, 15, 14, 13, 12, 11, 10, 9, 8, 7, 6, 5, 4, 3, 2, 1, 60, 52, 51, 50, 49, 38, 37, 36, 34, 30, 29, 24, 22, 21, 0] (sF g_219 h 18 (.ref q_207)) h := hP.put (q_8_18 (⟨_, rfl, r_211, n_214⟩))
  have zP : ZC (sF g_219 h 18 (.ref q_207)) q_15 := zP
  refine lv_aload_n hx hb dX7_init_151 rfl (lv_at hl 0 rfl) ?_
  refine lv_bipush (v := 96) hx hb dX7_init_152 (by decide) ?_
  refine t_newi (N' := 96) hB hT 50 (by decide) k_101 (by decide) (by decide) (by decide) (Nat.le_of_ble_eq_true rfl) (Nat.le_of_ble_eq_true rfl) dX7_init_154 (fun q_220 H o_q_220 hT => ?_)
  have z_q_220 : g.1 q_220 = 0 := hE.z0 o_q_220
  have hI : Inv (sA (sF g_219 h 18 (.ref q_207)) q_220 50 96) := hI.newi o_q_220 (by decide) (fun _ => rfl) trivial (fun _ => trivial)
  have hM : Sm md_k_Model g (sA (sF g_219 h 18 (.ref q_207)) q_220 50 96) := hM.tr hE (Sm.push o_q_220 sA_g)
  have hE : Ex g (sA (sF g_219 h 18 (.ref q_207)) q_220 50 96) := hE.tr (Ex.push o_q_220 sA_g)
  have hP : PF [18, 17, 16, 15, 14, 13, 12, 11, 10, 9, 8, 7, 6, 5, 4, 3, 2, 1, 60, 52, 51, 50, 49, 38, 37, 36, 34, 30, 29, 24, 22, 21, 0] (sA (sF g_219 h 18 (.ref q_207)) q_220 50 96) h := hP.pu (Ex.push o_q_220 sA_g) (sA_g h (ne0 r_208 o_q_220 (by decide))).2.1
  have zP : ZC (sA (sF g_219 h 18 (.ref q_207)) q_220 50 96) q_15 := zP.pu (sA_g q_15 (ne0 r_210 o_q_220 (by decide))).2.2.2.1
  have r_221 : (sA (sF g_219 h 18 (.ref q_207)) q_220 50 96).1 h = 18 := ((sA_g h (ne0 r_208 o_q_220 (by decide))).1.trans r_208)
  have r_222 : (sA (sF g_219 h 18 (.ref q_207)) q_220 50 96).1 q_8 = 71 := ((sA_g q_8 (ne0 r_209 o_q_220 (by decide))).1.trans r_209)
  have r_223 : (sA (sF g_219 h 18 (.ref q_207)) q_220 50 96).1 q_15 = 72 := ((sA_g q_15 (ne0 r_210 o_q_220 (by decide))).1.trans r_210)
  have r_224 : (sA (sF g_219 h 18 (.ref q_207)) q_220 50 96).1 q_220 = 50 := sA_r
  have n_225 : (sA (sF g_219 h 18 (.ref q_207)) q_220 50 96).2.2.1 q_8 = 48 := ((sA_g q_8 (ne0 r_209 o_q_220 (by decide))).2.2.1.trans n_212)
  have n_226 : (sA (sF g_219 h 18 (.ref q_207)) q_220 50 96).2.2.1 q_15 = 48 := ((sA_g q_15 (ne0 r_210 o_q_220 (by decide))).2.2.1.trans n_213)
  have n_227 : (sA (sF g_219 h 18 (.ref q_207)) q_220 50 96).2.2.1 q_220 = 96 := sA_n
  have kn_228 : (sA (sF g_219 h 18 (.ref q_207)) q_220 50 96).2.1 h 22 = .int 0 := ((congrFun (sA_g h (ne0 r_208 o_q_220 (by decide))).2.1 22).trans (sF_k kn_215 (by decide)))
  have kn_229 : (sA (sF g_219 h 18 (.ref q_207)) q_220 50 96).2.1 h 34 = .int 0 := ((congrFun (sA_g h (ne0 r_208 o_q_220 (by decide))).2.1 34).trans (sF_k kn_216 (by decide)))
  have kn_230 : (sA (sF g_219 h 18 (.ref q_207)) q_220 50 96).2.1 h 2 = .ref q_8 := ((congrFun (sA_g h (ne0 r_208 o_q_220 (by decide))).2.1 2).trans (sF_k kn_217 (by decide)))
  have kn_231 : (sA (sF g_219 h 18 (.ref q_207)) q_220 50 96).2.1 h 3 = .ref q_15 := ((congrFun (sA_g h (ne0 r_208 o_q_220 (by decide))).2.1 3).trans (sF_k kn_218 (by decide)))
  generalize (sA (sF g_219 h 18 (.ref q_207)) q_220 50 96) = g_232 at hT hI hM hE r_221 r_222 r_223 r_224 n_225 n_226 n_227 kn_228 kn_229 kn_230 kn_231 hP zP
  refine W.widen (k := 19) (n := 1316) (Nat.le_of_ble_eq_true rfl) (Nat.le_of_ble_eq_true rfl) ?_
  refine t_put0 (ci := 7) (v := .ref q_220) hB hT (ro_ci r_221 rfl) (ro_n0 r_221 (by decide)) rfl 19 (by decide) k_764 (Or.inr ⟨hin, rfl⟩) rfl rfl dX7_init_156 (fun H locs hT => ?_)
  have hI : Inv (sF g_232 h 19 (.ref q_220)) := hI.sF (fk r_221 (show fsm _ _ ft from trivial))
  have hM : Sm md_k_Model g (sF g_232 h 19 (.ref q_220)) := hM.tr hE (Sm_sF (by rw [r_221]; rfl))
  have hE : Ex g (sF g_232 h 19 (.ref q_220)) := hE
  have hP : PF [19, 18, 17, 16, 15, 14, 13, 12, 11, 10, 9, 8, 7, 6, 5, 4, 3, 2, 1, 60, 52, 51, 50, 49, 38, 37, 36, 34, 30, 29, 24, 22, 21, 0] (sF g_232 h 19 (.ref q_220)) h := hP.put (q_8_19 (⟨_, rfl, r_224, n_227⟩))
  have zP : ZC (sF g_232 h 19 (.ref q_220)) q_15 := zP
  refine lv_aload_n hx hb dX7_init_159 rfl (lv_at hl 0 rfl) ?_
  refine lv_bipush (v := 12) hx hb dX7_init_160 (by decide) ?_
  refine t_newz (N' := 12) hB hT k_947 (by decide) (by decide) (by decide) (Nat.le_of_ble_eq_true rfl) (Nat.le_of_ble_eq_true rfl) dX7_init_162 (fun q_233 H o_q_233 hT => ?_)
  have z_q_233 : g.1 q_233 = 0 := hE.z0 o_q_233
  have hI : Inv (sA (sF g_232 h 19 (.ref q_220)) q_233 40 12) := hI.newi o_q_233 (by decide) (fun _ => rfl) trivial (fun _ => trivial)
  have hM : Sm md_k_Model g (sA (sF g_232 h 19 (.ref q_220)) q_233 40 12) := hM.tr hE (Sm.push o_q_233 sA_g)
  have hE : Ex g (sA (sF g_232 h 19 (.ref q_220)) q_233 40 12) := hE.tr (Ex.push o_q_233 sA_g)
  have hP : PF [19, 18, 17, 16, 15, 14, 13, 12, 11, 10, 9, 8, 7, 6, 5, 4, 3, 2, 1, 60, 52, 51, 50, 49, 38, 37, 36, 34, 30, 29, 24, 22, 21, 0] (sA (sF g_232 h 19 (.ref q_220)) q_233 40 12) h := hP.pu (Ex.push o_q_233 sA_g) (sA_g h (ne0 r_221 o_q_233 (by decide))).2.1
  have zP : ZC (sA (sF g_232 h 19 (.ref q_220)) q_233 40 12) q_15 := zP.pu (sA_g q_15 (ne0 r_223 o_q_233 (by decide))).2.2.2.1
  have r_234 : (sA (sF g_232 h 19 (.ref q_220)) q_233 40 12).1 h = 18 := ((sA_g h (ne0 r_221 o_q_233 (by decide))).1.trans r_221)
  have r_235 : (sA (sF g_232 h 19 (.ref q_220)) q_233 40 12).1 q_8 = 71 := ((sA_g q_8 (ne0 r_222 o_q_233 (by decide))).1.trans r_222)
  have r_236 : (sA (sF g_232 h 19 (.ref q_220)) q_233 40 12).1 q_15 = 72 := ((sA_g q_15 (ne0 r_223 o_q_233 (by decide))).1.trans r_223)
  have r_237 : (sA (sF g_232 h 19 (.ref q_220)) q_233 40 12).1 q_233 = 40 := sA_r
  have n_238 : (sA (sF g_232 h 19 (.ref q_220)) q_233 40 12).2.2.1 q_8 = 48 := ((sA_g q_8 (ne0 r_222 o_q_233 (by decide))).2.2.1.trans n_225)
  have n_239 : (sA (sF g_232 h 19 (.ref q_220)) q_233 40 12).2.2.1 q_15 = 48 := ((sA_g q_15 (ne0 r_223 o_q_233 (by decide))).2.2.1.trans n_226)
  have n_240 : (sA (sF g_232 h 19 (.ref q_220)) q_233 40 12).2.2.1 q_233 = 12 := sA_n
  have kn_241 : (sA (sF g_232 h 19 (.ref q_220)) q_233 40 12).2.1 h 22 = .int 0 := ((congrFun (sA_g h (ne0 r_221 o_q_233 (by decide))).2.1 22).trans (sF_k kn_228 (by decide)))
  have kn_242 : (sA (sF g_232 h 19 (.ref q_220)) q_233 40 12).2.1 h 34 = .int 0 := ((congrFun (sA_g h (ne0 r_221 o_q_233 (by decide))).2.1 34).trans (sF_k kn_229 (by decide)))
  have kn_243 : (sA (sF g_232 h 19 (.ref q_220)) q_233 40 12).2.1 h 2 = .ref q_8 := ((congrFun (sA_g h (ne0 r_221 o_q_233 (by decide))).2.1 2).trans (sF_k kn_230 (by decide)))
  have kn_244 : (sA (sF g_232 h 19 (.ref q_220)) q_233 40 12).2.1 h 3 = .ref q_15 := ((congrFun (sA_g h (ne0 r_221 o_q_233 (by decide))).2.1 3).trans (sF_k kn_231 (by decide)))
  generalize (sA (sF g_232 h 19 (.ref q_220)) q_233 40 12) = g_245 at hT hI hM hE r_234 r_235 r_236 r_237 n_238 n_239 n_240 kn_241 kn_242 kn_243 kn_244 hP zP
  refine W.widen (k := 20) (n := 1328) (Nat.le_of_ble_eq_true rfl) (Nat.le_of_ble_eq_true rfl) ?_
  refine t_put0 (ci := 7) (v := .ref q_233) hB hT (ro_ci r_234 rfl) (ro_n0 r_234 (by decide)) rfl 20 (by decide) k_765 (Or.inr ⟨hin, rfl⟩) rfl rfl dX7_init_164 (fun H locs hT => ?_)
  have hI : Inv (sF g_245 h 20 (.ref q_233)) := hI.sF (fk r_234 (show fsm _ _ ft from trivial))
  have hM : Sm md_k_Model g (sF g_245 h 20 (.ref q_233)) := hM.tr hE (Sm_sF (by rw [r_234]; rfl))
  have hE : Ex g (sF g_245 h 20 (.ref q_233)) := hE
  have hP : PF [20, 19, 18, 17, 16, 15, 14, 13, 12, 11, 10, 9, 8, 7, 6, 5, 4, 3, 2, 1, 60, 52, 51, 50, 49, 38, 37, 36, 34, 30, 29, 24, 22, 21, 0] (sF g_245 h 20 (.ref q_233)) h := hP.put (q_8_20 (⟨_, rfl, r_237, n_240⟩))
  have zP : ZC (sF g_245 h 20 (.ref q_233)) q_15 := zP
  refine lv_aload_n hx hb dX7_init_167 rfl (lv_at hl 0 rfl) ?_
  refine lv_bipush (v := 40) hx hb dX7_init_168 (by decide) ?_
  refine t_newi (N' := 40) hB hT 50 (by decide) k_101 (by decide) (by decide) (by decide) (Nat.le_of_ble_eq_true rfl) (Nat.le_of_ble_eq_true rfl) dX7_init_170 (fun q_246 H o_q_246 hT => ?_)
  have z_q_246 : g.1 q_246 = 0 := hE.z0 o_q_246
  have hI : Inv (sA (sF g_245 h 20 (.ref q_233)) q_246 50 40) := hI.newi o_q_246 (by decide) (fun _ => rfl) trivial (fun _ => trivial)
  have hM : Sm md_k_Model g (sA (sF g_245 h 20 (.ref q_233)) q_246 50 40) := hM.tr hE (Sm.push o_q_246 sA_g)
  have hE : Ex g (sA (sF g_245 h 20 (.ref q_233)) q_246 50 40) := hE.tr (Ex.push o_q_246 sA_g)
  have hP : PF [20, 19, 18, 17, 16, 15, 14, 13, 12, 11, 10, 9, 8, 7, 6, 5, 4, 3, 2, 1, 60, 52, 51, 50, 49, 38, 37, 36, 34, 30, 29, 24, 22, 21, 0] (sA (sF g_245 h 20 (.ref q_233)) q_246 50 40) h := hP.pu (Ex.push o_q_246 sA_g) (sA_g h (ne0 r_234 o_q_246 (by decide))).2.1
  have zP : ZC (sA (sF g_245 h 20 (.ref q_233)) q_246 50 40) q_15 := zP.pu (sA_g q_15 (ne0 r_236 o_q_246 (by decide))).2.2.2.1
  have r_247 : (sA (sF g_245 h 20 (.ref q_233)) q_246 50 40).1 h = 18 := ((sA_g h (ne0 r_234 o_q_246 (by decide))).1.trans r_234)
  have r_248 : (sA (sF g_245 h 20 (.ref q_233)) q_246 50 40).1 q_8 = 71 := ((sA_g q_8 (ne0 r_235 o_q_246 (by decide))).1.trans r_235)
  have r_249 : (sA (sF g_245 h 20 (.ref q_233)) q_246 50 40).1 q_15 = 72 := ((sA_g q_15 (ne0 r_236 o_q_246 (by decide))).1.trans r_236)
  have r_250 : (sA (sF g_245 h 20 (.ref q_233)) q_246 50 40).1 q_246 = 50 := sA_r
  have n_251 : (sA (sF g_245 h 20 (.ref q_233)) q_246 50 40).2.2.1 q_8 = 48 := ((sA_g q_8 (ne0 r_235 o_q_246 (by decide))).2.2.1.trans n_238)
  have n_252 : (sA (sF g_245 h 20 (.ref q_233)) q_246 50 40).2.2.1 q_15 = 48 := ((sA_g q_15 (ne0 r_236 o_q_246 (by decide))).2.2.1.trans n_239)
  have n_253 : (sA (sF g_245 h 20 (.ref q_233)) q_246 50 40).2.2.1 q_246 = 40 := sA_n
  have kn_254 : (sA (sF g_245 h 20 (.ref q_233)) q_246 50 40).2.1 h 22 = .int 0 := ((congrFun (sA_g h (ne0 r_234 o_q_246 (by decide))).2.1 22).trans (sF_k kn_241 (by decide)))
  have kn_255 : (sA (sF g_245 h 20 (.ref q_233)) q_246 50 40).2.1 h 34 = .int 0 := ((congrFun (sA_g h (ne0 r_234 o_q_246 (by decide))).2.1 34).trans (sF_k kn_242 (by decide)))
  have kn_256 : (sA (sF g_245 h 20 (.ref q_233)) q_246 50 40).2.1 h 2 = .ref q_8 := ((congrFun (sA_g h (ne0 r_234 o_q_246 (by decide))).2.1 2).trans (sF_k kn_243 (by decide)))
  have kn_257 : (sA (sF g_245 h 20 (.ref q_233)) q_246 50 40).2.1 h 3 = .ref q_15 := ((congrFun (sA_g h (ne0 r_234 o_q_246 (by decide))).2.1 3).trans (sF_k kn_244 (by decide)))
  generalize (sA (sF g_245 h 20 (.ref q_233)) q_246 50 40) = g_258 at hT hI hM hE r_247 r_248 r_249 r_250 n_251 n_252 n_253 kn_254 kn_255 kn_256 kn_257 hP zP
  refine W.widen (k := 21) (n := 1368) (Nat.le_of_ble_eq_true rfl) (Nat.le_of_ble_eq_true rfl) ?_
  refine t_put0 (ci := 7) (v := .ref q_246) hB hT (ro_ci r_247 rfl) (ro_n0 r_247 (by decide)) rfl 23 (by decide) k_768 (Or.inr ⟨hin, rfl⟩) rfl rfl dX7_init_172 (fun H locs hT => ?_)
  have hI : Inv (sF g_258 h 23 (.ref q_246)) := hI.sF (fk r_247 (show fsm _ _ ft from trivial))
  have hM : Sm md_k_Model g (sF g_258 h 23 (.ref q_246)) := hM.tr hE (Sm_sF (by rw [r_247]; rfl))
  have hE : Ex g (sF g_258 h 23 (.ref q_246)) := hE
  have hP : PF [23, 20, 19, 18, 17, 16, 15, 14, 13, 12, 11, 10, 9, 8, 7, 6, 5, 4, 3, 2, 1, 60, 52, 51, 50, 49, 38, 37, 36, 34, 30, 29, 24, 22, 21, 0] (sF g_258 h 23 (.ref q_246)) h := hP.put (q_8_23 (⟨_, rfl, r_250, n_253⟩))
  have zP : ZC (sF g_258 h 23 (.ref q_246)) q_15 := zP
  refine lv_aload_n hx hb dX7_init_175 rfl (lv_at hl 0 rfl) ?_
  refine lv_bipush (v := 20) hx hb dX7_init_176 (by decide) ?_
  refine t_newi (N' := 20) hB hT 76 (by decide) k_101 (by decide) (by decide) (by decide) (Nat.le_of_ble_eq_true rfl) (Nat.le_of_ble_eq_true rfl) dX7_init_178 (fun q_259 H o_q_259 hT => ?_)
  have z_q_259 : g.1 q_259 = 0 := hE.z0 o_q_259
  have hI : Inv (sA (sF g_258 h 23 (.ref q_246)) q_259 76 20) := hI.newi o_q_259 (by decide) (fun _ => rfl) ⟨by decide, by decide⟩ (fun _ => trivial)
  have hM : Sm md_k_Model g (sA (sF g_258 h 23 (.ref q_246)) q_259 76 20) := hM.tr hE (Sm.push o_q_259 sA_g)
  have hE : Ex g (sA (sF g_258 h 23 (.ref q_246)) q_259 76 20) := hE.tr (Ex.push o_q_259 sA_g)
  have hP : PF [23, 20, 19, 18, 17, 16, 15, 14, 13, 12, 11, 10, 9, 8, 7, 6, 5, 4, 3, 2, 1, 60, 52, 51, 50, 49, 38, 37, 36, 34, 30, 29, 24, 22, 21, 0] (sA (sF g_258 h 23 (.ref q_246)) q_259 76 20) h := hP.pu (Ex.push o_q_259 sA_g) (sA_g h (ne0 r_247 o_q_259 (by decide))).2.1
  have zP : ZC (sA (sF g_258 h 23 (.ref q_246)) q_259 76 20) q_15 := zP.pu (sA_g q_15 (ne0 r_249 o_q_259 (by decide))).2.2.2.1
  have r_260 : (sA (sF g_258 h 23 (.ref q_246)) q_259 76 20).1 h = 18 := ((sA_g h (ne0 r_247 o_q_259 (by decide))).1.trans r_247)
  have r_261 : (sA (sF g_258 h 23 (.ref q_246)) q_259 76 20).1 q_8 = 71 := ((sA_g q_8 (ne0 r_248 o_q_259 (by decide))).1.trans r_248)
  have r_262 : (sA (sF g_258 h 23 (.ref q_246)) q_259 76 20).1 q_15 = 72 := ((sA_g q_15 (ne0 r_249 o_q_259 (by decide))).1.trans r_249)
  have r_263 : (sA (sF g_258 h 23 (.ref q_246)) q_259 76 20).1 q_259 = 76 := sA_r
  have n_264 : (sA (sF g_258 h 23 (.ref q_246)) q_259 76 20).2.2.1 q_8 = 48 := ((sA_g q_8 (ne0 r_248 o_q_259 (by decide))).2.2.1.trans n_251)
  have n_265 : (sA (sF g_258 h 23 (.ref q_246)) q_259 76 20).2.2.1 q_15 = 48 := ((sA_g q_15 (ne0 r_249 o_q_259 (by decide))).2.2.1.trans n_252)
  have n_266 : (sA (sF g_258 h 23 (.ref q_246)) q_259 76 20).2.2.1 q_259 = 20 := sA_n
  have kn_267 : (sA (sF g_258 h 23 (.ref q_246)) q_259 76 20).2.1 h 22 = .int 0 := ((congrFun (sA_g h (ne0 r_247 o_q_259 (by decide))).2.1 22).trans (sF_k kn_254 (by decide)))
  have kn_268 : (sA (sF g_258 h 23 (.ref q_246)) q_259 76 20).2.1 h 34 = .int 0 := ((congrFun (sA_g h (ne0 r_247 o_q_259 (by decide))).2.1 34).trans (sF_k kn_255 (by decide)))
  have kn_269 : (sA (sF g_258 h 23 (.ref q_246)) q_259 76 20).2.1 h 2 = .ref q_8 := ((congrFun (sA_g h (ne0 r_247 o_q_259 (by decide))).2.1 2).trans (sF_k kn_256 (by decide)))
  have kn_270 : (sA (sF g_258 h 23 (.ref q_246)) q_259 76 20).2.1 h 3 = .ref q_15 := ((congrFun (sA_g h (ne0 r_247 o_q_259 (by decide))).2.1 3).trans (sF_k kn_257 (by decide)))
  generalize (sA (sF g_258 h 23 (.ref q_246)) q_259 76 20) = g_271 at hT hI hM hE r_260 r_261 r_262 r_263 n_264 n_265 n_266 kn_267 kn_268 kn_269 kn_270 hP zP
  refine W.widen (k := 22) (n := 1388) (Nat.le_of_ble_eq_true rfl) (Nat.le_of_ble_eq_true rfl) ?_
  refine t_put0 (ci := 7) (v := .ref q_259) hB hT (ro_ci r_260 rfl) (ro_n0 r_260 (by decide)) rfl 25 (by decide) k_770 (Or.inr ⟨hin, rfl⟩) rfl rfl dX7_init_180 (fun H locs hT => ?_)
  have hI : Inv (sF g_271 h 25 (.ref q_259)) := hI.sF (fk r_260 (show fsm _ _ ft from trivial))
  have hM : Sm md_k_Model g (sF g_271 h 25 (.ref q_259)) := hM.tr hE (Sm_sF (by rw [r_260]; rfl))
  have hE : Ex g (sF g_271 h 25 (.ref q_259)) := hE
  have hP : PF [25, 23, 20, 19, 18, 17, 16, 15, 14, 13, 12, 11, 10, 9, 8, 7, 6, 5, 4, 3, 2, 1, 60, 52, 51, 50, 49, 38, 37, 36, 34, 30, 29, 24, 22, 21, 0] (sF g_271 h 25 (.ref q_259)) h := hP.put (q_8_25 (⟨_, rfl, r_263, n_266⟩))
  have zP : ZC (sF g_271 h 25 (.ref q_259)) q_15 := zP
  refine lv_aload_n hx hb dX7_init_183 rfl (lv_at hl 0 rfl) ?_
  refine lv_bipush (v := 20) hx hb dX7_init_184 (by decide) ?_
  refine t_newi (N' := 20) hB hT 77 (by decide) k_101 (by decide) (by decide) (by decide) (Nat.le_of_ble_eq_true rfl) (Nat.le_of_ble_eq_true rfl) dX7_init_186 (fun q_272 H o_q_272 hT => ?_)
  have z_q_272 : g.1 q_272 = 0 := hE.z0 o_q_272
  have hI : Inv (sA (sF g_271 h 25 (.ref q_259)) q_272 77 20) := hI.newi o_q_272 (by decide) (fun _ => rfl) ⟨by decide, by decide⟩ (fun _ => trivial)
  have hM : Sm md_k_Model g (sA (sF g_271 h 25 (.ref q_259)) q_272 77 20) := hM.tr hE (Sm.push o_q_272 sA_g)
  have hE : Ex g (sA (sF g_271 h 25 (.ref q_259)) q_272 77 20) := hE.tr (Ex.push o_q_272 sA_g)
  have hP : PF [25, 23, 20, 19, 18, 17, 16, 15, 14, 13, 12, 11, 10, 9, 8, 7, 6, 5, 4, 3, 2, 1, 60, 52, 51, 50, 49, 38, 37, 36, 34, 30, 29, 24, 22, 21, 0] (sA (sF g_271 h 25 (.ref q_259)) q_272 77 20) h := hP.pu (Ex.push o_q_272 sA_g) (sA_g h (ne0 r_260 o_q_272 (by decide))).2.1
  have zP : ZC (sA (sF g_271 h 25 (.ref q_259)) q_272 77 20) q_15 := zP.pu (sA_g q_15 (ne0 r_262 o_q_272 (by decide))).2.2.2.1
  have r_273 : (sA (sF g_271 h 25 (.ref q_259)) q_272 77 20).1 h = 18 := ((sA_g h (ne0 r_260 o_q_272 (by decide))).1.trans r_260)
  have r_274 : (sA (sF g_271 h 25 (.ref q_259)) q_272 77 20).1 q_8 = 71 := ((sA_g q_8 (ne0 r_261 o_q_272 (by decide))).1.trans r_261)
  have r_275 : (sA (sF g_271 h 25 (.ref q_259)) q_272 77 20).1 q_15 = 72 := ((sA_g q_15 (ne0 r_262 o_q_272 (by decide))).1.trans r_262)
  have r_276 : (sA (sF g_271 h 25 (.ref q_259)) q_272 77 20).1 q_272 = 77 := sA_r
  have n_277 : (sA (sF g_271 h 25 (.ref q_259)) q_272 77 20).2.2.1 q_8 = 48 := ((sA_g q_8 (ne0 r_261 o_q_272 (by decide))).2.2.1.trans n_264)
  have n_278 : (sA (sF g_271 h 25 (.ref q_259)) q_272 77 20).2.2.1 q_15 = 48 := ((sA_g q_15 (ne0 r_262 o_q_272 (by decide))).2.2.1.trans n_265)
  have n_279 : (sA (sF g_271 h 25 (.ref q_259)) q_272 77 20).2.2.1 q_272 = 20 := sA_n
  have kn_280 : (sA (sF g_271 h 25 (.ref q_259)) q_272 77 20).2.1 h 22 = .int 0 := ((congrFun (sA_g h (ne0 r_260 o_q_272 (by decide))).2.1 22).trans (sF_k kn_267 (by decide)))
  have kn_281 : (sA (sF g_271 h 25 (.ref q_259)) q_272 77 20).2.1 h 34 = .int 0 := ((congrFun (sA_g h (ne0 r_260 o_q_272 (by decide))).2.1 34).trans (sF_k kn_268 (by decide)))
  have kn_282 : (sA (sF g_271 h 25 (.ref q_259)) q_272 77 20).2.1 h 2 = .ref q_8 := ((congrFun (sA_g h (ne0 r_260 o_q_272 (by decide))).2.1 2).trans (sF_k kn_269 (by decide)))
  have kn_283 : (sA (sF g_271 h 25 (.ref q_259)) q_272 77 20).2.1 h 3 = .ref q_15 := ((congrFun (sA_g h (ne0 r_260 o_q_272 (by decide))).2.1 3).trans (sF_k kn_270 (by decide)))
  generalize (sA (sF g_271 h 25 (.ref q_259)) q_272 77 20) = g_284 at hT hI hM hE r_273 r_274 r_275 r_276 n_277 n_278 n_279 kn_280 kn_281 kn_282 kn_283 hP zP
  refine W.widen (k := 23) (n := 1408) (Nat.le_of_ble_eq_true rfl) (Nat.le_of_ble_eq_true rfl) ?_
  refine t_put0 (ci := 7) (v := .ref q_272) hB hT (ro_ci r_273 rfl) (ro_n0 r_273 (by decide)) rfl 26 (by decide) k_771 (Or.inr ⟨hin, rfl⟩) rfl rfl dX7_init_188 (fun H locs hT => ?_)
  have hI : Inv (sF g_284 h 26 (.ref q_272)) := hI.sF (fk r_273 (show fsm _ _ ft from trivial))
  have hM : Sm md_k_Model g (sF g_284 h 26 (.ref q_272)) := hM.tr hE (Sm_sF (by rw [r_273]; rfl))
  have hE : Ex g (sF g_284 h 26 (.ref q_272)) := hE
  have hP : PF [26, 25, 23, 20, 19, 18, 17, 16, 15, 14, 13, 12, 11, 10, 9, 8, 7, 6, 5, 4, 3, 2, 1, 60, 52, 51, 50, 49, 38, 37, 36, 34, 30, 29, 24, 22, 21, 0] (sF g_284 h 26 (.ref q_272)) h := hP.put (q_8_26 (⟨_, rfl, r_276, n_279⟩))
  have zP : ZC (sF g_284 h 26 (.ref q_272)) q_15 := zP
  refine lv_aload_n hx hb dX7_init_191 rfl (lv_at hl 0 rfl) ?_
  refine lv_bipush (v := 20) hx hb dX7_init_192 (by decide) ?_
  refine t_newi (N' := 20) hB hT 78 (by decide) k_101 (by decide) (by decide) (by decide) (Nat.le_of_ble_eq_true rfl) (Nat.le_of_ble_eq_true rfl) dX7_init_194 (fun q_285 H o_q_285 hT => ?_)
  have z_q_285 : g.1 q_285 = 0 := hE.z0 o_q_285
  have hI : Inv (sA (sF g_284 h 26 (.ref q_272)) q_285 78 20) := hI.newi o_q_285 (by decide) (fun _ => rfl) trivial (fun _ => trivial)
  have hM : Sm md_k_Model g (sA (sF g_284 h 26 (.ref q_272)) q_285 78 20) := hM.tr hE (Sm.push o_q_285 sA_g)
  have hE : Ex g (sA (sF g_284 h 26 (.ref q_272)) q_285 78 20) := hE.tr (Ex.push o_q_285 sA_g)
  have hP : PF [26, 25, 23, 20, 19, 18, 17, 16, 15, 14, 13, 12, 11, 10, 9, 8, 7, 6, 5, 4, 3, 2, 1, 60, 52, 51, 50, 49, 38, 37, 36, 34, 30, 29, 24, 22, 21, 0] (sA (sF g_284 h 26 (.ref q_272)) q_285 78 20) h := hP.pu (Ex.push o_q_285 sA_g) (sA_g h (ne0 r_273 o_q_285 (by decide))).2.1
  have zP : ZC (sA (sF g_284 h 26 (.ref q_272)) q_285 78 20) q_15 := zP.pu (sA_g q_15 (ne0 r_275 o_q_285 (by decide))).2.2.2.1
  have r_286 : (sA (sF g_284 h 26 (.ref q_272)) q_285 78 20).1 h = 18 := ((sA_g h (ne0 r_273 o_q_285 (by decide))).1.trans r_273)
  have r_287 : (sA (sF g_284 h 26 (.ref q_272)) q_285 78 20).1 q_8 = 71 := ((sA_g q_8 (ne0 r_274 o_q_285 (by decide))).1.trans r_274)
  have r_288 : (sA (sF g_284 h 26 (.ref q_272)) q_285 78 20).1 q_15 = 72 := ((sA_g q_15 (ne0 r_275 o_q_285 (by decide))).1.trans r_275)
  have r_289 : (sA (sF g_284 h 26 (.ref q_272)) q_285 78 20).1 q_285 = 78 := sA_r
  have n_290 : (sA (sF g_284 h 26 (.ref q_272)) q_285 78 20).2.2.1 q_8 = 48 := ((sA_g q_8 (ne0 r_274 o_q_285 (by decide))).2.2.1.trans n_277)
  have n_291 : (sA (sF g_284 h 26 (.ref q_272)) q_285 78 20).2.2.1 q_15 = 48 := ((sA_g q_15 (ne0 r_275 o_q_285 (by decide))).2.2.1.trans n_278)
  have n_292 : (sA (sF g_284 h 26 (.ref q_272)) q_285 78 20).2.2.1 q_285 = 20 := sA_n
  have kn_293 : (sA (sF g_284 h 26 (.ref q_272)) q_285 78 20).2.1 h 22 = .int 0 := ((congrFun (sA_g h (ne0 r_273 o_q_285 (by decide))).2.1 22).trans (sF_k kn_280 (by decide)))
  have kn_294 : (sA (sF g_284 h 26 (.ref q_272)) q_285 78 20).2.1 h 34 = .int 0 := ((congrFun (sA_g h (ne0 r_273 o_q_285 (by decide))).2.1 34).trans (sF_k kn_281 (by decide)))
  have kn_295 : (sA (sF g_284 h 26 (.ref q_272)) q_285 78 20).2.1 h 2 = .ref q_8 := ((congrFun (sA_g h (ne0 r_273 o_q_285 (by decide))).2.1 2).trans (sF_k kn_282 (by decide)))
  have kn_296 : (sA (sF g_284 h 26 (.ref q_272)) q_285 78 20).2.1 h 3 = .ref q_15 := ((congrFun (sA_g h (ne0 r_273 o_q_285 (by decide))).2.1 3).trans (sF_k kn_283 (by decide)))
  generalize (sA (sF g_284 h 26 (.ref q_272)) q_285 78 20) = g_297 at hT hI hM hE r_286 r_287 r_288 r_289 n_290 n_291 n_292 kn_293 kn_294 kn_295 kn_296 hP zP
  refine W.widen (k := 24) (n := 1428) (Nat.le_of_ble_eq_true rfl) (Nat.le_of_ble_eq_true rfl) ?_
  refine t_put0 (ci := 7) (v := .ref q_285) hB hT (ro_ci r_286 rfl) (ro_n0 r_286 (by decide)) rfl 27 (by decide) k_772 (Or.inr ⟨hin, rfl⟩) rfl rfl dX7_init_196 (fun H locs hT => ?_)
  have hI : Inv (sF g_297 h 27 (.ref q_285)) := hI.sF (fk r_286 (show fsm _ _ ft from trivial))
  have hM : Sm md_k_Model g (sF g_297 h 27 (.ref q_285)) := hM.tr hE (Sm_sF (by rw [r_286]; rfl))
  have hE : Ex g (sF g_297 h 27 (.ref q_285)) := hE
  have hP : PF [27, 26, 25, 23, 20, 19, 18, 17, 16, 15, 14, 13, 12, 11, 10, 9, 8, 7, 6, 5, 4, 3, 2, 1, 60, 52, 51, 50, 49, 38, 37, 36, 34, 30, 29, 24, 22, 21, 0] (sF g_297 h 27 (.ref q_285)) h := hP.put (q_8_27 (⟨_, rfl, r_289, n_292⟩))
  have zP : ZC (sF g_297 h 27 (.ref q_285)) q_15 := zP
  refine lv_aload_n hx hb dX7_init_199 rfl (lv_at hl 0 rfl) ?_
  refine lv_bipush (v := 100) hx hb dX7_init_200 (by decide) ?_
  refine t_newi (N' := 100) hB hT 79 (by decide) k_101 (by decide) (by decide) (by decide) (Nat.le_of_ble_eq_true rfl) (Nat.le_of_ble_eq_true rfl) dX7_init_202 (fun q_298 H o_q_298 hT => ?_)
  have z_q_298 : g.1 q_298 = 0 := hE.z0 o_q_298
  have hI : Inv (sA (sF g_297 h 27 (.ref q_285)) q_298 79 100) := hI.newi o_q_298 (by decide) (fun _ => rfl) trivial (fun _ => trivial)
  have hM : Sm md_k_Model g (sA (sF g_297 h 27 (.ref q_285)) q_298 79 100) := hM.tr hE (Sm.push o_q_298 sA_g)
  have hE : Ex g (sA (sF g_297 h 27 (.ref q_285)) q_298 79 100) := hE.tr (Ex.push o_q_298 sA_g)
  have hP : PF [27, 26, 25, 23, 20, 19, 18, 17, 16, 15, 14, 13, 12, 11, 10, 9, 8, 7, 6, 5, 4, 3, 2, 1, 60, 52, 51, 50, 49, 38, 37, 36, 34, 30, 29, 24, 22, 21, 0] (sA (sF g_297 h 27 (.ref q_285)) q_298 79 100) h := hP.pu (Ex.push o_q_298 sA_g) (sA_g h (ne0 r_286 o_q_298 (by decide))).2.1
  have zP : ZC (sA (sF g_297 h 27 (.ref q_285)) q_298 79 100) q_15 := zP.pu (sA_g q_15 (ne0 r_288 o_q_298 (by decide))).2.2.2.1
  have r_299 : (sA (sF g_297 h 27 (.ref q_285)) q_298 79 100).1 h = 18 := ((sA_g h (ne0 r_286 o_q_298 (by decide))).1.trans r_286)
  have r_300 : (sA (sF g_297 h 27 (.ref q_285)) q_298 79 100).1 q_8 = 71 := ((sA_g q_8 (ne0 r_287 o_q_298 (by decide))).1.trans r_287)
  have r_301 : (sA (sF g_297 h 27 (.ref q_285)) q_298 79 100).1 q_15 = 72 := ((sA_g q_15 (ne0 r_288 o_q_298 (by decide))).1.trans r_288)
  have r_302 : (sA (sF g_297 h 27 (.ref q_285)) q_298 79 100).1 q_298 = 79 := sA_r
  have n_303 : (sA (sF g_297 h 27 (.ref q_285)) q_298 79 100).2.2.1 q_8 = 48 := ((sA_g q_8 (ne0 r_287 o_q_298 (by decide))).2.2.1.trans n_290)
  have n_304 : (sA (sF g_297 h 27 (.ref q_285)) q_298 79 100).2.2.1 q_15 = 48 := ((sA_g q_15 (ne0 r_288 o_q_298 (by decide))).2.2.1.trans n_291)
  have n_305 : (sA (sF g_297 h 27 (.ref q_285)) q_298 79 100).2.2.1 q_298 = 100 := sA_n
  have kn_306 : (sA (sF g_297 h 27 (.ref q_285)) q_298 79 100).2.1 h 22 = .int 0 := ((congrFun (sA_g h (ne0 r_286 o_q_298 (by decide))).2.1 22).trans (sF_k kn_293 (by decide)))
  have kn_307 : (sA (sF g_297 h 27 (.ref q_285)) q_298 79 100).2.1 h 34 = .int 0 := ((congrFun (sA_g h (ne0 r_286 o_q_298 (by decide))).2.1 34).trans (sF_k kn_294 (by decide)))
  have kn_308 : (sA (sF g_297 h 27 (.ref q_285)) q_298 79 100).2.1 h 2 = .ref q_8 := ((congrFun (sA_g h (ne0 r_286 o_q_298 (by decide))).2.1 2).trans (sF_k kn_295 (by decide)))
  have kn_309 : (sA (sF g_297 h 27 (.ref q_285)) q_298 79 100).2.1 h 3 = .ref q_15 := ((congrFun (sA_g h (ne0 r_286 o_q_298 (by decide))).2.1 3).trans (sF_k kn_296 (by decide)))
  generalize (sA (sF g_297 h 27 (.ref q_285)) q_298 79 100) = g_310 at hT hI hM hE r_299 r_300 r_301 r_302 n_303 n_304 n_305 kn_306 kn_307 kn_308 kn_309 hP zP
  refine W.widen (k := 25) (n := 1528) (Nat.le_of_ble_eq_true rfl) (Nat.le_of_ble_eq_true rfl) ?_
  refine t_put0 (ci := 7) (v := .ref q_298) hB hT (ro_ci r_299 rfl) (ro_n0 r_299 (by decide)) rfl 28 (by decide) k_773 (Or.inr ⟨hin, rfl⟩) rfl rfl dX7_init_204 (fun H locs hT => ?_)
  have hI : Inv (sF g_310 h 28 (.ref q_298)) := hI.sF (fk r_299 (show fsm _ _ ft from trivial))
  have hM : Sm md_k_Model g (sF g_310 h 28 (.ref q_298)) := hM.tr hE (Sm_sF (by rw [r_299]; rfl))
  have hE : Ex g (sF g_310 h 28 (.ref q_298)) := hE
  have hP : PF [28, 27, 26, 25, 23, 20, 19, 18, 17, 16, 15, 14, 13, 12, 11, 10, 9, 8, 7, 6, 5, 4, 3, 2, 1, 60, 52, 51, 50, 49, 38, 37, 36, 34, 30, 29, 24, 22, 21, 0] (sF g_310 h 28 (.ref q_298)) h := hP.put (q_8_28 (⟨_, rfl, r_302, n_305⟩))
  have zP : ZC (sF g_310 h 28 (.ref q_298)) q_15 := zP
  refine lv_aload_n hx hb dX7_init_207 rfl (lv_at hl 0 rfl) ?_
  refine lv_bipush (v := 6) hx hb dX7_init_208 (by decide) ?_
  refine t_newi (N' := 6) hB hT 80 (by decide) k_101 (by decide) (by decide) (by decide) (Nat.le_of_ble_eq_true rfl) (Nat.le_of_ble_eq_true rfl) dX7_init_210 (fun q_311 H o_q_311 hT => ?_)
  have z_q_311 : g.1 q_311 = 0 := hE.z0 o_q_311
  have hI : Inv (sA (sF g_310 h 28 (.ref q_298)) q_311 80 6) := hI.newi o_q_311 (by decide) (fun _ => rfl) ⟨by decide, by decide⟩ (fun _ => trivial)
  have hM : Sm md_k_Model g (sA (sF g_310 h 28 (.ref q_298)) q_311 80 6) := hM.tr hE (Sm.push o_q_311 sA_g)
  have hE : Ex g (sA (sF g_310 h 28 (.ref q_298)) q_311 80 6) := hE.tr (Ex.push o_q_311 sA_g)
  have hP : PF [28, 27, 26, 25, 23, 20, 19, 18, 17, 16, 15, 14, 13, 12, 11, 10, 9, 8, 7, 6, 5, 4, 3, 2, 1, 60, 52, 51, 50, 49, 38, 37, 36, 34, 30, 29, 24, 22, 21, 0] (sA (sF g_310 h 28 (.ref q_298)) q_311 80 6) h := hP.pu (Ex.push o_q_311 sA_g) (sA_g h (ne0 r_299 o_q_311 (by decide))).2.1
  have zP : ZC (sA (sF g_310 h 28 (.ref q_298)) q_311 80 6) q_15 := zP.pu (sA_g q_15 (ne0 r_301 o_q_311 (by decide))).2.2.2.1
  have r_312 : (sA (sF g_310 h 28 (.ref q_298)) q_311 80 6).1 h = 18 := ((sA_g h (ne0 r_299 o_q_311 (by decide))).1.trans r_299)
  have r_313 : (sA (sF g_310 h 28 (.ref q_298)) q_311 80 6).1 q_8 = 71 := ((sA_g q_8 (ne0 r_300 o_q_311 (by decide))).1.trans r_300)
  have r_314 : (sA (sF g_310 h 28 (.ref q_298)) q_311 80 6).1 q_15 = 72 := ((sA_g q_15 (ne0 r_301 o_q_311 (by decide))).1.trans r_301)
  have r_315 : (sA (sF g_310 h 28 (.ref q_298)) q_311 80 6).1 q_311 = 80 := sA_r
  have n_316 : (sA (sF g_310 h 28 (.ref q_298)) q_311 80 6).2.2.1 q_8 = 48 := ((sA_g q_8 (ne0 r_300 o_q_311 (by decide))).2.2.1.trans n_303)
  have n_317 : (sA (sF g_310 h 28 (.ref q_298)) q_311 80 6).2.2.1 q_15 = 48 := ((sA_g q_15 (ne0 r_301 o_q_311 (by decide))).2.2.1.trans n_304)
  have n_318 : (sA (sF g_310 h 28 (.ref q_298)) q_311 80 6).2.2.1 q_311 = 6 := sA_n
  have kn_319 : (sA (sF g_310 h 28 (.ref q_298)) q_311 80 6).2.1 h 22 = .int 0 := ((congrFun (sA_g h (ne0 r_299 o_q_311 (by decide))).2.1 22).trans (sF_k kn_306 (by decide)))
  have kn_320 : (sA (sF g_310 h 28 (.ref q_298)) q_311 80 6).2.1 h 34 = .int 0 := ((congrFun (sA_g h (ne0 r_299 o_q_311 (by decide))).2.1 34).trans (sF_k kn_307 (by decide)))
  have kn_321 : (sA (sF g_310 h 28 (.ref q_298)) q_311 80 6).2.1 h 2 = .ref q_8 := ((congrFun (sA_g h (ne0 r_299 o_q_311 (by decide))).2.1 2).trans (sF_k kn_308 (by decide)))
  have kn_322 : (sA (sF g_310 h 28 (.ref q_298)) q_311 80 6).2.1 h 3 = .ref q_15 := ((congrFun (sA_g h (ne0 r_299 o_q_311 (by decide))).2.1 3).trans (sF_k kn_309 (by decide)))
  generalize (sA (sF g_310 h 28 (.ref q_298)) q_311 80 6) = g_323 at hT hI hM hE r_312 r_313 r_314 r_315 n_316 n_317 n_318 kn_319 kn_320 kn_321 kn_322 hP zP
  refine W.widen (k := 26) (n := 1534) (Nat.le_of_ble_eq_true rfl) (Nat.le_of_ble_eq_true rfl) ?_
  refine t_put0 (ci := 7) (v := .ref q_311) hB hT (ro_ci r_312 rfl) (ro_n0 r_312 (by decide)) rfl 31 (by decide) k_776 (Or.inr ⟨hin, rfl⟩) rfl rfl dX7_init_212 (fun H locs hT => ?_)
  have hI : Inv (sF g_323 h 31 (.ref q_311)) := hI.sF (fk r_312 (show fsm _ _ ft from trivial))
  have hM : Sm md_k_Model g (sF g_323 h 31 (.ref q_311)) := hM.tr hE (Sm_sF (by rw [r_312]; rfl))
  have hE : Ex g (sF g_323 h 31 (.ref q_311)) := hE
  have hP : PF [31, 28, 27, 26, 25, 23, 20, 19, 18, 17, 16, 15, 14, 13, 12, 11, 10, 9, 8, 7, 6, 5, 4, 3, 2, 1, 60, 52, 51, 50, 49, 38, 37, 36, 34, 30, 29, 24, 22, 21, 0] (sF g_323 h 31 (.ref q_311)) h := hP.put (q_8_31 (⟨_, rfl, r_315, n_318⟩))
  have zP : ZC (sF g_323 h 31 (.ref q_311)) q_15 := zP
  refine lv_aload_n hx hb dX7_init_215 rfl (lv_at hl 0 rfl) ?_
  refine lv_bipush (v := 6) hx hb dX7_init_216 (by decide) ?_
  refine t_newi (N' := 6) hB hT 81 (by decide) k_101 (by decide) (by decide) (by decide) (Nat.le_of_ble_eq_true rfl) (Nat.le_of_ble_eq_true rfl) dX7_init_218 (fun q_324 H o_q_324 hT => ?_)
  have z_q_324 : g.1 q_324 = 0 := hE.z0 o_q_324
  have hI : Inv (sA (sF g_323 h 31 (.ref q_311)) q_324 81 6) := hI.newi o_q_324 (by decide) (fun _ => rfl) ⟨by decide, by decide⟩ (fun _ => trivial)
  have hM : Sm md_k_Model g (sA (sF g_323 h 31 (.ref q_311)) q_324 81 6) := hM.tr hE (Sm.push o_q_324 sA_g)
  have hE : Ex g (sA (sF g_323 h 31 (.ref q_311)) q_324 81 6) := hE.tr (Ex.push o_q_324 sA_g)
  have hP : PF [31, 28, 27, 26, 25, 23, 20, 19, 18, 17, 16, 15, 14, 13, 12, 11, 10, 9, 8, 7, 6, 5, 4, 3, 2, 1, 60, 52, 51, 50, 49, 38, 37, 36, 34, 30, 29, 24, 22, 21, 0] (sA (sF g_323 h 31 (.ref q_311)) q_324 81 6) h := hP.pu (Ex.push o_q_324 sA_g) (sA_g h (ne0 r_312 o_q_324 (by decide))).2.1
  have zP : ZC (sA (sF g_323 h 31 (.ref q_311)) q_324 81 6) q_15 := zP.pu (sA_g q_15 (ne0 r_314 o_q_324 (by decide))).2.2.2.1
  have r_325 : (sA (sF g_323 h 31 (.ref q_311)) q_324 81 6).1 h = 18 := ((sA_g h (ne0 r_312 o_q_324 (by decide))).1.trans r_312)
  have r_326 : (sA (sF g_323 h 31 (.ref q_311)) q_324 81 6).1 q_8 = 71 := ((sA_g q_8 (ne0 r_313 o_q_324 (by decide))).1.trans r_313)
  have r_327 : (sA (sF g_323 h 31 (.ref q_311)) q_324 81 6).1 q_15 = 72 := ((sA_g q_15 (ne0 r_314 o_q_324 (by decide))).1.trans r_314)
  have r_328 : (sA (sF g_323 h 31 (.ref q_311)) q_324 81 6).1 q_324 = 81 := sA_r
  have n_329 : (sA (sF g_323 h 31 (.ref q_311)) q_324 81 6).2.2.1 q_8 = 48 := ((sA_g q_8 (ne0 r_313 o_q_324 (by decide))).2.2.1.trans n_316)
  have n_330 : (sA (sF g_323 h 31 (.ref q_311)) q_324 81 6).2.2.1 q_15 = 48 := ((sA_g q_15 (ne0 r_314 o_q_324 (by decide))).2.2.1.trans n_317)
  have n_331 : (sA (sF g_323 h 31 (.ref q_311)) q_324 81 6).2.2.1 q_324 = 6 := sA_n
  have kn_332 : (sA (sF g_323 h 31 (.ref q_311)) q_324 81 6).2.1 h 22 = .int 0 := ((congrFun (sA_g h (ne0 r_312 o_q_324 (by decide))).2.1 22).trans (sF_k kn_319 (by decide)))
  have kn_333 : (sA (sF g_323 h 31 (.ref q_311)) q_324 81 6).2.1 h 34 = .int 0 := ((congrFun (sA_g h (ne0 r_312 o_q_324 (by decide))).2.1 34).trans (sF_k kn_320 (by decide)))
  have kn_334 : (sA (sF g_323 h 31 (.ref q_311)) q_324 81 6).2.1 h 2 = .ref q_8 := ((congrFun (sA_g h (ne0 r_312 o_q_324 (by decide))).2.1 2).trans (sF_k kn_321 (by decide)))
  have kn_335 : (sA (sF g_323 h 31 (.ref q_311)) q_324 81 6).2.1 h 3 = .ref q_15 := ((congrFun (sA_g h (ne0 r_312 o_q_324 (by decide))).2.1 3).trans (sF_k kn_322 (by decide)))
  generalize (sA (sF g_323 h 31 (.ref q_311)) q_324 81 6) = g_336 at hT hI hM hE r_325 r_326 r_327 r_328 n_329 n_330 n_331 kn_332 kn_333 kn_334 kn_335 hP zP
  refine W.widen (k := 27) (n := 1540) (Nat.le_of_ble_eq_true rfl) (Nat.le_of_ble_eq_true rfl) ?_
  refine t_put0 (ci := 7) (v := .ref q_324) hB hT (ro_ci r_325 rfl) (ro_n0 r_325 (by decide)) rfl 32 (by decide) k_777 (Or.inr ⟨hin, rfl⟩) rfl rfl dX7_init_220 (fun H locs hT => ?_)
  have hI : Inv (sF g_336 h 32 (.ref q_324)) := hI.sF (fk r_325 (show fsm _ _ ft from trivial))
  have hM : Sm md_k_Model g (sF g_336 h 32 (.ref q_324)) := hM.tr hE (Sm_sF (by rw [r_325]; rfl))
  have hE : Ex g (sF g_336 h 32 (.ref q_324)) := hE
  have hP : PF [32, 31, 28, 27, 26, 25, 23, 20, 19, 18, 17, 16, 15, 14, 13, 12, 11, 10, 9, 8, 7, 6, 5, 4, 3, 2, 1, 60, 52, 51, 50, 49, 38, 37, 36, 34, 30, 29, 24, 22, 21, 0] (sF g_336 h 32 (.ref q_324)) h := hP.put (q_8_32 (⟨_, rfl, r_328, n_331⟩))
  have zP : ZC (sF g_336 h 32 (.ref q_324)) q_15 := zP
  refine lv_aload_n hx hb dX7_init_223 rfl (lv_at hl 0 rfl) ?_
  refine lv_bipush (v := 6) hx hb dX7_init_224 (by decide) ?_
  refine t_newi (N' := 6) hB hT 82 (by decide) k_101 (by decide) (by decide) (by decide) (Nat.le_of_ble_eq_true rfl) (Nat.le_of_ble_eq_true rfl) dX7_init_226 (fun q_337 H o_q_337 hT => ?_)
  have z_q_337 : g.1 q_337 = 0 := hE.z0 o_q_337
  have hI : Inv (sA (sF g_336 h 32 (.ref q_324)) q_337 82 6) := hI.newi o_q_337 (by decide) (fun _ => rfl) trivial (fun _ => trivial)
  have hM : Sm md_k_Model g (sA (sF g_336 h 32 (.ref q_324)) q_337 82 6) := hM.tr hE (Sm.push o_q_337 sA_g)
  have hE : Ex g (sA (sF g_336 h 32 (.ref q_324)) q_337 82 6) := hE.tr (Ex.push o_q_337 sA_g)
  have hP : PF [32, 31, 28, 27, 26, 25, 23, 20, 19, 18, 17, 16, 15, 14, 13, 12, 11, 10, 9, 8, 7, 6, 5, 4, 3, 2, 1, 60, 52, 51, 50, 49, 38, 37, 36, 34, 30, 29, 24, 22, 21, 0] (sA (sF g_336 h 32 (.ref q_324)) q_337 82 6) h := hP.pu (Ex.push o_q_337 sA_g) (sA_g h (ne0 r_325 o_q_337 (by decide))).2.1
  have zP : ZC (sA (sF g_336 h 32 (.ref q_324)) q_337 82 6) q_15 := zP.pu (sA_g q_15 (ne0 r_327 o_q_337 (by decide))).2.2.2.1
  have r_338 : (sA (sF g_336 h 32 (.ref q_324)) q_337 82 6).1 h = 18 := ((sA_g h (ne0 r_325 o_q_337 (by decide))).1.trans r_325)
  have r_339 : (sA (sF g_336 h 32 (.ref q_324)) q_337 82 6).1 q_8 = 71 := ((sA_g q_8 (ne0 r_326 o_q_337 (by decide))).1.trans r_326)
  have r_340 : (sA (sF g_336 h 32 (.ref q_324)) q_337 82 6).1 q_15 = 72 := ((sA_g q_15 (ne0 r_327 o_q_337 (by decide))).1.trans r_327)
  have r_341 : (sA (sF g_336 h 32 (.ref q_324)) q_337 82 6).1 q_337 = 82 := sA_r
  have n_342 : (sA (sF g_336 h 32 (.ref q_324)) q_337 82 6).2.2.1 q_8 = 48 := ((sA_g q_8 (ne0 r_326 o_q_337 (by decide))).2.2.1.trans n_329)
  have n_343 : (sA (sF g_336 h 32 (.ref q_324)) q_337 82 6).2.2.1 q_15 = 48 := ((sA_g q_15 (ne0 r_327 o_q_337 (by decide))).2.2.1.trans n_330)
  have n_344 : (sA (sF g_336 h 32 (.ref q_324)) q_337 82 6).2.2.1 q_337 = 6 := sA_n
  have kn_345 : (sA (sF g_336 h 32 (.ref q_324)) q_337 82 6).2.1 h 22 = .int 0 := ((congrFun (sA_g h (ne0 r_325 o_q_337 (by decide))).2.1 22).trans (sF_k kn_332 (by decide)))
  have kn_346 : (sA (sF g_336 h 32 (.ref q_324)) q_337 82 6).2.1 h 34 = .int 0 := ((congrFun (sA_g h (ne0 r_325 o_q_337 (by decide))).2.1 34).trans (sF_k kn_333 (by decide)))
  have kn_347 : (sA (sF g_336 h 32 (.ref q_324)) q_337 82 6).2.1 h 2 = .ref q_8 := ((congrFun (sA_g h (ne0 r_325 o_q_337 (by decide))).2.1 2).trans (sF_k kn_334 (by decide)))
  have kn_348 : (sA (sF g_336 h 32 (.ref q_324)) q_337 82 6).2.1 h 3 = .ref q_15 := ((congrFun (sA_g h (ne0 r_325 o_q_337 (by decide))).2.1 3).trans (sF_k kn_335 (by decide)))
  generalize (sA (sF g_336 h 32 (.ref q_324)) q_337 82 6) = g_349 at hT hI hM hE r_338 r_339 r_340 r_341 n_342 n_343 n_344 kn_345 kn_346 kn_347 kn_348 hP zP
  refine W.widen (k := 28) (n := 1546) (Nat.le_of_ble_eq_true rfl) (Nat.le_of_ble_eq_true rfl) ?_
  refine t_put0 (ci := 7) (v := .ref q_337) hB hT (ro_ci r_338 rfl) (ro_n0 r_338 (by decide)) rfl 33 (by decide) k_778 (Or.inr ⟨hin, rfl⟩) rfl rfl dX7_init_228 (fun H locs hT => ?_)
  have hI : Inv (sF g_349 h 33 (.ref q_337)) := hI.sF (fk r_338 (show fsm _ _ ft from trivial))
  have hM : Sm md_k_Model g (sF g_349 h 33 (.ref q_337)) := hM.tr hE (Sm_sF (by rw [r_338]; rfl))
  have hE : Ex g (sF g_349 h 33 (.ref q_337)) := hE
  have hP : PF [33, 32, 31, 28, 27, 26, 25, 23, 20, 19, 18, 17, 16, 15, 14, 13, 12, 11, 10, 9, 8, 7, 6, 5, 4, 3, 2, 1, 60, 52, 51, 50, 49, 38, 37, 36, 34, 30, 29, 24, 22, 21, 0] (sF g_349 h 33 (.ref q_337)) h := hP.put (q_8_33 (⟨_, rfl, r_341, n_344⟩))
  have zP : ZC (sF g_349 h 33 (.ref q_337)) q_15 := zP
  refine lv_aload_n hx hb dX7_init_231 rfl (lv_at hl 0 rfl) ?_
  refine lv_iconst (v := 4) hx hb dX7_init_232 (by decide) ?_
  refine t_newi (N' := 4) hB hT 83 (by decide) k_101 (by decide) (by decide) (by decide) (Nat.le_of_ble_eq_true rfl) (Nat.le_of_ble_eq_true rfl) dX7_init_233 (fun q_350 H o_q_350 hT => ?_)
  have z_q_350 : g.1 q_350 = 0 := hE.z0 o_q_350
  have hI : Inv (sA (sF g_349 h 33 (.ref q_337)) q_350 83 4) := hI.newi o_q_350 (by decide) (fun _ => rfl) trivial (fun _ => trivial)
  have hM : Sm md_k_Model g (sA (sF g_349 h 33 (.ref q_337)) q_350 83 4) := hM.tr hE (Sm.push o_q_350 sA_g)
  have hE : Ex g (sA (sF g_349 h 33 (.ref q_337)) q_350 83 4) := hE.tr (Ex.push o_q_350 sA_g)
  have hP : PF [33, 32, 31, 28, 27, 26, 25, 23, 20, 19, 18, 17, 16, 15, 14, 13, 12, 11, 10, 9, 8, 7, 6, 5, 4, 3, 2, 1, 60, 52, 51, 50, 49, 38, 37, 36, 34, 30, 29, 24, 22, 21, 0] (sA (sF g_349 h 33 (.ref q_337)) q_350 83 4) h := hP.pu (Ex.push o_q_350 sA_g) (sA_g h (ne0 r_338 o_q_350 (by decide))).2.1
  have zP : ZC (sA (sF g_349 h 33 (.ref q_337)) q_350 83 4) q_15 := zP.pu (sA_g q_15 (ne0 r_340 o_q_350 (by decide))).2.2.2.1
  have r_351 : (sA (sF g_349 h 33 (.ref q_337)) q_350 83 4).1 h = 18 := ((sA_g h (ne0 r_338 o_q_350 (by decide))).1.trans r_338)
  have r_352 : (sA (sF g_349 h 33 (.ref q_337)) q_350 83 4).1 q_8 = 71 := ((sA_g q_8 (ne0 r_339 o_q_350 (by decide))).1.trans r_339)
  have r_353 : (sA (sF g_349 h 33 (.ref q_337)) q_350 83 4).1 q_15 = 72 := ((sA_g q_15 (ne0 r_340 o_q_350 (by decide))).1.trans r_340)
  have r_354 : (sA (sF g_349 h 33 (.ref q_337)) q_350 83 4).1 q_350 = 83 := sA_r
  have n_355 : (sA (sF g_349 h 33 (.ref q_337)) q_350 83 4).2.2.1 q_8 = 48 := ((sA_g q_8 (ne0 r_339 o_q_350 (by decide))).2.2.1.trans n_342)
  have n_356 : (sA (sF g_349 h 33 (.ref q_337)) q_350 83 4).2.2.1 q_15 = 48 := ((sA_g q_15 (ne0 r_340 o_q_350 (by decide))).2.2.1.trans n_343)
  have n_357 : (sA (sF g_349 h 33 (.ref q_337)) q_350 83 4).2.2.1 q_350 = 4 := sA_n
  have kn_358 : (sA (sF g_349 h 33 (.ref q_337)) q_350 83 4).2.1 h 22 = .int 0 := ((congrFun (sA_g h (ne0 r_338 o_q_350 (by decide))).2.1 22).trans (sF_k kn_345 (by decide)))
  have kn_359 : (sA (sF g_349 h 33 (.ref q_337)) q_350 83 4).2.1 h 34 = .int 0 := ((congrFun (sA_g h (ne0 r_338 o_q_350 (by decide))).2.1 34).trans (sF_k kn_346 (by decide)))
  have kn_360 : (sA (sF g_349 h 33 (.ref q_337)) q_350 83 4).2.1 h 2 = .ref q_8 := ((congrFun (sA_g h (ne0 r_338 o_q_350 (by decide))).2.1 2).trans (sF_k kn_347 (by decide)))
  have kn_361 : (sA (sF g_349 h 33 (.ref q_337)) q_350 83 4).2.1 h 3 = .ref q_15 := ((congrFun (sA_g h (ne0 r_338 o_q_350 (by decide))).2.1 3).trans (sF_k kn_348 (by decide)))
  generalize (sA (sF g_349 h 33 (.ref q_337)) q_350 83 4) = g_362 at hT hI hM hE r_351 r_352 r_353 r_354 n_355 n_356 n_357 kn_358 kn_359 kn_360 kn_361 hP zP
  refine W.widen (k := 29) (n := 1550) (Nat.le_of_ble_eq_true rfl) (Nat.le_of_ble_eq_true rfl) ?_
  refine lv_dup hx hb dX7_init_235 rfl ?_
  refine lv_iconst (v := 0) hx hb dX7_init_236 (by decide) ?_
  refine lv_iconst (v := 1) hx hb dX7_init_237 (by decide) ?_
  have i_363 : vp_in (0 : Int32) 4 := (by unfold vp_in; decide)
  refine t_iast hB hT (ro_in r_354 (by decide)) n_357 i_363 dX7_init_238 (fun H locs hT => ?_)
  have hI : Inv (sC g_362 q_350 (0 : Int32).toNatClampNeg (1 : Int32)) := hI.sC (ck r_354 trivial)
  have hM : Sm md_k_Model g (sC g_362 q_350 (0 : Int32).toNatClampNeg (1 : Int32)) := hM.tr hE (Sm_sC (by rw [r_354]; rfl))
  have hE : Ex g (sC g_362 q_350 (0 : Int32).toNatClampNeg (1 : Int32)) := hE
  have hP : PF [33, 32, 31, 28, 27, 26, 25, 23, 20, 19, 18, 17, 16, 15, 14, 13, 12, 11, 10, 9, 8, 7, 6, 5, 4, 3, 2, 1, 60, 52, 51, 50, 49, 38, 37, 36, 34, 30, 29, 24, 22, 21, 0] (sC g_362 q_350 (0 : Int32).toNatClampNeg (1 : Int32)) h := hP.tC 
  have zP : ZC (sC g_362 q_350 (0 : Int32).toNatClampNeg (1 : Int32)) q_15 := zP.tC (ro_ne r_353 r_354 (by decide))
  refine lv_dup hx hb dX7_init_239 rfl ?_
  refine lv_iconst (v := 1) hx hb dX7_init_240 (by decide) ?_
  refine lv_iconst (v := 1) hx hb dX7_init_241 (by decide) ?_
  have i_364 : vp_in (1 : Int32) 4 := (by unfold vp_in; decide)
  refine t_iast hB hT (ro_in r_354 (by decide)) n_357 i_364 dX7_init_242 (fun H locs hT => ?_)
  have hI : Inv (sC (sC g_362 q_350 (0 : Int32).toNatClampNeg (1 : Int32)) q_350 (1 : Int32).toNatClampNeg (1 : Int32)) := hI.sC (ck r_354 trivial)
  have hM : Sm md_k_Model g (sC (sC g_362 q_350 (0 : Int32).toNatClampNeg (1 : Int32)) q_350 (1 : Int32).toNatClampNeg (1 : Int32)) := hM.tr hE (Sm_sC (by rw [r_354]; rfl))
  have hE : Ex g (sC (sC g_362 q_350 (0 : Int32).toNatClampNeg (1 : Int32)) q_350 (1 : Int32).toNatClampNeg (1 : Int32)) := hE
  have hP : PF [33, 32, 31, 28, 27, 26, 25, 23, 20, 19, 18, 17, 16, 15, 14, 13, 12, 11, 10, 9, 8, 7, 6, 5, 4, 3, 2, 1, 60, 52, 51, 50, 49, 38, 37, 36, 34, 30, 29, 24, 22, 21, 0] (sC (sC g_362 q_350 (0 : Int32).toNatClampNeg (1 : Int32)) q_350 (1 : Int32).toNatClampNeg (1 : Int32)) h := hP.tC 
  have zP : ZC (sC (sC g_362 q_350 (0 : Int32).toNatClampNeg (1 : Int32)) q_350 (1 : Int32).toNatClampNeg (1 : Int32)) q_15 := zP.tC (ro_ne r_353 r_354 (by decide))
  refine lv_dup hx hb dX7_init_243 rfl ?_
  refine lv_iconst (v := 2) hx hb dX7_init_244 (by decide) ?_
  refine lv_iconst (v := 1) hx hb dX7_init_245 (by decide) ?_
  have i_365 : vp_in (2 : Int32) 4 := (by unfold vp_in; decide)
  refine t_iast hB hT (ro_in r_354 (by decide)) n_357 i_365 dX7_init_246 (fun H locs hT => ?_)
  have hI : Inv (sC (sC (sC g_362 q_350 (0 : Int32).toNatClampNeg (1 : Int32)) q_350 (1 : Int32).toNatClampNeg (1 : Int32)) q_350 (2 : Int32).toNatClampNeg (1 : Int32)) := hI.sC (ck r_354 trivial)
  have hM : Sm md_k_Model g (sC (sC (sC g_362 q_350 (0 : Int32).toNatClampNeg (1 : Int32)) q_350 (1 : Int32).toNatClampNeg (1 : Int32)) q_350 (2 : Int32).toNatClampNeg (1 : Int32)) := hM.tr hE (Sm_sC (by rw [r_354]; rfl))
  have hE : Ex g (sC (sC (sC g_362 q_350 (0 : Int32).toNatClampNeg (1 : Int32)) q_350 (1 : Int32).toNatClampNeg (1 : Int32)) q_350 (2 : Int32).toNatClampNeg (1 : Int32)) := hE
  have hP : PF [33, 32, 31, 28, 27, 26, 25, 23, 20, 19, 18, 17, 16, 15, 14, 13, 12, 11, 10, 9, 8, 7, 6, 5, 4, 3, 2, 1, 60, 52, 51, 50, 49, 38, 37, 36, 34, 30, 29, 24, 22, 21, 0] (sC (sC (sC g_362 q_350 (0 : Int32).toNatClampNeg (1 : Int32)) q_350 (1 : Int32).toNatClampNeg (1 : Int32)) q_350 (2 : Int32).toNatClampNeg (1 : Int32)) h := hP.tC 
  have zP : ZC (sC (sC (sC g_362 q_350 (0 : Int32).toNatClampNeg (1 : Int32)) q_350 (1 : Int32).toNatClampNeg (1 : Int32)) q_350 (2 : Int32).toNatClampNeg (1 : Int32)) q_15 := zP.tC (ro_ne r_353 r_354 (by decide))
  refine lv_dup hx hb dX7_init_247 rfl ?_
  refine lv_iconst (v := 3) hx hb dX7_init_248 (by decide) ?_
  refine lv_iconst (v := 1) hx hb dX7_init_249 (by decide) ?_
  have i_366 : vp_in (3 : Int32) 4 := (by unfold vp_in; decide)
  refine t_iast hB hT (ro_in r_354 (by decide)) n_357 i_366 dX7_init_250 (fun H locs hT => ?_)
  have hI : Inv (sC (sC (sC (sC g_362 q_350 (0 : Int32).toNatClampNeg (1 : Int32)) q_350 (1 : Int32).toNatClampNeg (1 : Int32)) q_350 (2 : Int32).toNatClampNeg (1 : Int32)) q_350 (3 : Int32).toNatClampNeg (1 : Int32)) := hI.sC (ck r_354 trivial)
  have hM : Sm md_k_Model g (sC (sC (sC (sC g_362 q_350 (0 : Int32).toNatClampNeg (1 : Int32)) q_350 (1 : Int32).toNatClampNeg (1 : Int32)) q_350 (2 : Int32).toNatClampNeg (1 : Int32)) q_350 (3 : Int32).toNatClampNeg (1 : Int32)) := hM.tr hE (Sm_sC (by rw [r_354]; rfl))
  have hE : Ex g (sC (sC (sC (sC g_362 q_350 (0 : Int32).toNatClampNeg (1 : Int32)) q_350 (1 : Int32).toNatClampNeg (1 : Int32)) q_350 (2 : Int32).toNatClampNeg (1 : Int32)) q_350 (3 : Int32).toNatClampNeg (1 : Int32)) := hE
  have hP : PF [33, 32, 31, 28, 27, 26, 25, 23, 20, 19, 18, 17, 16, 15, 14, 13, 12, 11, 10, 9, 8, 7, 6, 5, 4, 3, 2, 1, 60, 52, 51, 50, 49, 38, 37, 36, 34, 30, 29, 24, 22, 21, 0] (sC (sC (sC (sC g_362 q_350 (0 : Int32).toNatClampNeg (1 : Int32)) q_350 (1 : Int32).toNatClampNeg (1 : Int32)) q_350 (2 : Int32).toNatClampNeg (1 : Int32)) q_350 (3 : Int32).toNatClampNeg (1 : Int32)) h := hP.tC 
  have zP : ZC (sC (sC (sC (sC g_362 q_350 (0 : Int32).toNatClampNeg (1 : Int32)) q_350 (1 : Int32).toNatClampNeg (1 : Int32)) q_350 (2 : Int32).toNatClampNeg (1 : Int32)) q_350 (3 : Int32).toNatClampNeg (1 : Int32)) q_15 := zP.tC (ro_ne r_353 r_354 (by decide))
  refine t_put0 (ci := 7) (v := .ref q_350) hB hT (ro_ci r_351 rfl) (ro_n0 r_351 (by decide)) rfl 35 (by decide) k_780 (Or.inr ⟨hin, rfl⟩) rfl rfl dX7_init_251 (fun H locs hT => ?_)
  have hI : Inv (sF (sC (sC (sC (sC g_362 q_350 (0 : Int32).toNatClampNeg (1 : Int32)) q_350 (1 : Int32).toNatClampNeg (1 : Int32)) q_350 (2 : Int32).toNatClampNeg (1 : Int32)) q_350 (3 : Int32).toNatClampNeg (1 : Int32)) h 35 (.ref q_350)) := hI.sF (fk r_351 (show fsm _ _ ft from trivial))
  have hM : Sm md_k_Model g (sF (sC (sC (sC (sC g_362 q_350 (0 : Int32).toNatClampNeg (1 : Int32)) q_350 (1 : Int32).toNatClampNeg (1 : Int32)) q_350 (2 : Int32).toNatClampNeg (1 : Int32)) q_350 (3 : Int32).toNatClampNeg (1 : Int32)) h 35 (.ref q_350)) := hM.tr hE (Sm_sF (by rw [r_351]; rfl))
  have hE : Ex g (sF (sC (sC (sC (sC g_362 q_350 (0 : Int32).toNatClampNeg (1 : Int32)) q_350 (1 : Int32).toNatClampNeg (1 : Int32)) q_350 (2 : Int32).toNatClampNeg (1 : Int32)) q_350 (3 : Int32).toNatClampNeg (1 : Int32)) h 35 (.ref q_350)) := hE
  have hP : PF [35, 33, 32, 31, 28, 27, 26, 25, 23, 20, 19, 18, 17, 16, 15, 14, 13, 12, 11, 10, 9, 8, 7, 6, 5, 4, 3, 2, 1, 60, 52, 51, 50, 49, 38, 37, 36, 34, 30, 29, 24, 22, 21, 0] (sF (sC (sC (sC (sC g_362 q_350 (0 : Int32).toNatClampNeg (1 : Int32)) q_350 (1 : Int32).toNatClampNeg (1 : Int32)) q_350 (2 : Int32).toNatClampNeg (1 : Int32)) q_350 (3 : Int32).toNatClampNeg (1 : Int32)) h 35 (.ref q_350)) h := hP.put (q_8_35 (⟨_, rfl, r_354, n_357⟩))
  have zP : ZC (sF (sC (sC (sC (sC g_362 q_350 (0 : Int32).toNatClampNeg (1 : Int32)) q_350 (1 : Int32).toNatClampNeg (1 : Int32)) q_350 (2 : Int32).toNatClampNeg (1 : Int32)) q_350 (3 : Int32).toNatClampNeg (1 : Int32)) h 35 (.ref q_350)) q_15 := zP
  refine lv_aload_n hx hb dX7_init_254 rfl (lv_at hl 0 rfl) ?_
  refine lv_bipush (v := 8) hx hb dX7_init_255 (by decide) ?_
  refine t_newi (N' := 8) hB hT 84 (by decide) k_101 (by decide) (by decide) (by decide) (Nat.le_of_ble_eq_true rfl) (Nat.le_of_ble_eq_true rfl) dX7_init_257 (fun q_367 H o_q_367 hT => ?_)
  have z_q_367 : g.1 q_367 = 0 := hE.z0 o_q_367
  have hI : Inv (sA (sF (sC (sC (sC (sC g_362 q_350 (0 : Int32).toNatClampNeg (1 : Int32)) q_350 (1 : Int32).toNatClampNeg (1 : Int32)) q_350 (2 : Int32).toNatClampNeg (1 : Int32)) q_350 (3 : Int32).toNatClampNeg (1 : Int32)) h 35 (.ref q_350)) q_367 84 8) := hI.newi o_q_367 (by decide) (fun _ => rfl) trivial (fun _ => trivial)
  have hM : Sm md_k_Model g (sA (sF (sC (sC (sC (sC g_362 q_350 (0 : Int32).toNatClampNeg (1 : Int32)) q_350 (1 : Int32).toNatClampNeg (1 : Int32)) q_350 (2 : Int32).toNatClampNeg (1 : Int32)) q_350 (3 : Int32).toNatClampNeg (1 : Int32)) h 35 (.ref q_350)) q_367 84 8) := hM.tr hE (Sm.push o_q_367 sA_g)
  have hE : Ex g (sA (sF (sC (sC (sC (sC g_362 q_350 (0 : Int32).toNatClampNeg (1 : Int32)) q_350 (1 : Int32).toNatClampNeg (1 : Int32)) q_350 (2 : Int32).toNatClampNeg (1 : Int32)) q_350 (3 : Int32).toNatClampNeg (1 : Int32)) h 35 (.ref q_350)) q_367 84 8) := hE.tr (Ex.push o_q_367 sA_g)
  have hP : PF [35, 33, 32, 31, 28, 27, 26, 25, 23, 20, 19, 18, 17, 16, 15, 14, 13, 12, 11, 10, 9, 8, 7, 6, 5, 4, 3, 2, 1, 60, 52, 51, 50, 49, 38, 37, 36, 34, 30, 29, 24, 22, 21, 0] (sA (sF (sC (sC (sC (sC g_362 q_350 (0 : Int32).toNatClampNeg (1 : Int32)) q_350 (1 : Int32).toNatClampNeg (1 : Int32)) q_350 (2 : Int32).toNatClampNeg (1 : Int32)) q_350 (3 : Int32).toNatClampNeg (1 : Int32)) h 35 (.ref q_350)) q_367 84 8) h := hP.pu (Ex.push o_q_367 sA_g) (sA_g h (ne0 r_351 o_q_367 (by decide))).2.1
  have zP : ZC (sA (sF (sC (sC (sC (sC g_362 q_350 (0 : Int32).toNatClampNeg (1 : Int32)) q_350 (1 : Int32).toNatClampNeg (1 : Int32)) q_350 (2 : Int32).toNatClampNeg (1 : Int32)) q_350 (3 : Int32).toNatClampNeg (1 : Int32)) h 35 (.ref q_350)) q_367 84 8) q_15 := zP.pu (sA_g q_15 (ne0 r_353 o_q_367 (by decide))).2.2.2.1
  have r_368 : (sA (sF (sC (sC (sC (sC g_362 q_350 (0 : Int32).toNatClampNeg (1 : Int32)) q_350 (1 : Int32).toNatClampNeg (1 : Int32)) q_350 (2 : Int32).toNatClampNeg (1 : Int32)) q_350 (3 : Int32).toNatClampNeg (1 : Int32)) h 35 (.ref q_350)) q_367 84 8).1 h = 18 := ((sA_g h (ne0 r_351 o_q_367 (by decide))).1.trans r_351)
  have r_369 : (sA (sF (sC (sC (sC (sC g_362 q_350 (0 : Int32).toNatClampNeg (1 : Int32)) q_350 (1 : Int32).toNatClampNeg (1 : Int32)) q_350 (2 : Int32).toNatClampNeg (1 : Int32)) q_350 (3 : Int32).toNatClampNeg (1 : Int32)) h 35 (.ref q_350)) q_367 84 8).1 q_8 = 71 := ((sA_g q_8 (ne0 r_352 o_q_367 (by decide))).1.trans r_352)
  have r_370 : (sA (sF (sC (sC (sC (sC g_362 q_350 (0 : Int32).toNatClampNeg (1 : Int32)) q_350 (1 : Int32).toNatClampNeg (1 : Int32)) q_350 (2 : Int32).toNatClampNeg (1 : Int32)) q_350 (3 : Int32).toNatClampNeg (1 : Int32)) h 35 (.ref q_350)) q_367 84 8).1 q_15 = 72 := ((sA_g q_15 (ne0 r_353 o_q_367 (by decide))).1.trans r_353)
  have r_371 : (sA (sF (sC (sC (sC (sC g_362 q_350 (0 : Int32).toNatClampNeg (1 : Int32)) q_350 (1 : Int32).toNatClampNeg (1 : Int32)) q_350 (2 : Int32).toNatClampNeg (1 : Int32)) q_350 (3 : Int32).toNatClampNeg (1 : Int32)) h 35 (.ref q_350)) q_367 84 8).1 q_367 = 84 := sA_r
  have n_372 : (sA (sF (sC (sC (sC (sC g_362 q_350 (0 : Int32).toNatClampNeg (1 : Int32)) q_350 (1 : Int32).toNatClampNeg (1 : Int32)) q_350 (2 : Int32).toNatClampNeg (1 : Int32)) q_350 (3 : Int32).toNatClampNeg (1 : Int32)) h 35 (.ref q_350)) q_367 84 8).2.2.1 q_8 = 48 := ((sA_g q_8 (ne0 r_352 o_q_367 (by decide))).2.2.1.trans n_355)
  have n_373 : (sA (sF (sC (sC (sC (sC g_362 q_350 (0 : Int32).toNatClampNeg (1 : Int32)) q_350 (1 : Int32).toNatClampNeg (1 : Int32)) q_350 (2 : Int32).toNatClampNeg (1 : Int32)) q_350 (3 : Int32).toNatClampNeg (1 : Int32)) h 35 (.ref q_350)) q_367 84 8).2.2.1 q_15 = 48 := ((sA_g q_15 (ne0 r_353 o_q_367 (by decide))).2.2.1.trans n_356)
  have n_374 : (sA (sF (sC (sC (sC (sC g_362 q_350 (0 : Int32).toNatClampNeg (1 : Int32)) q_350 (1 : Int32).toNatClampNeg (1 : Int32)) q_350 (2 : Int32).toNatClampNeg (1 : Int32)) q_350 (3 : Int32).toNatClampNeg (1 : Int32)) h 35 (.ref q_350)) q_367 84 8).2.2.1 q_367 = 8 := sA_n
  have kn_375 : (sA (sF (sC (sC (sC (sC g_362 q_350 (0 : Int32).toNatClampNeg (1 : Int32)) q_350 (1 : Int32).toNatClampNeg (1 : Int32)) q_350 (2 : Int32).toNatClampNeg (1 : Int32)) q_350 (3 : Int32).toNatClampNeg (1 : Int32)) h 35 (.ref q_350)) q_367 84 8).2.1 h 22 = .int 0 := ((congrFun (sA_g h (ne0 r_351 o_q_367 (by decide))).2.1 22).trans (sF_k kn_358 (by decide)))
  have kn_376 : (sA (sF (sC (sC (sC (sC g_362 q_350 (0 : Int32).toNatClampNeg (1 : Int32)) q_350 (1 : Int32).toNatClampNeg (1 : Int32)) q_350 (2 : Int32).toNatClampNeg (1 : Int32)) q_350 (3 : Int32).toNatClampNeg (1 : Int32)) h 35 (.ref q_350)) q_367 84 8).2.1 h 34 = .int 0 := ((congrFun (sA_g h (ne0 r_351 o_q_367 (by decide))).2.1 34).trans (sF_k kn_359 (by decide)))
  have kn_377 : (sA (sF (sC (sC (sC (sC g_362 q_350 (0 : Int32).toNatClampNeg (1 : Int32)) q_350 (1 : Int32).toNatClampNeg (1 : Int32)) q_350 (2 : Int32).toNatClampNeg (1 : Int32)) q_350 (3 : Int32).toNatClampNeg (1 : Int32)) h 35 (.ref q_350)) q_367 84 8).2.1 h 2 = .ref q_8 := ((congrFun (sA_g h (ne0 r_351 o_q_367 (by decide))).2.1 2).trans (sF_k kn_360 (by decide)))
  have kn_378 : (sA (sF (sC (sC (sC (sC g_362 q_350 (0 : Int32).toNatClampNeg (1 : Int32)) q_350 (1 : Int32).toNatClampNeg (1 : Int32)) q_350 (2 : Int32).toNatClampNeg (1 : Int32)) q_350 (3 : Int32).toNatClampNeg (1 : Int32)) h 35 (.ref q_350)) q_367 84 8).2.1 h 3 = .ref q_15 := ((congrFun (sA_g h (ne0 r_351 o_q_367 (by decide))).2.1 3).trans (sF_k kn_361 (by decide)))
  generalize (sA (sF (sC (sC (sC (sC g_362 q_350 (0 : Int32).toNatClampNeg (1 : Int32)) q_350 (1 : Int32).toNatClampNeg (1 : Int32)) q_350 (2 : Int32).toNatClampNeg (1 : Int32)) q_350 (3 : Int32).toNatClampNeg (1 : Int32)) h 35 (.ref q_350)) q_367 84 8) = g_379 at hT hI hM hE r_368 r_369 r_370 r_371 n_372 n_373 n_374 kn_375 kn_376 kn_377 kn_378 hP zP
  refine W.widen (k := 30) (n := 1558) (Nat.le_of_ble_eq_true rfl) (Nat.le_of_ble_eq_true rfl) ?_
  refine t_put0 (ci := 7) (v := .ref q_367) hB hT (ro_ci r_368 rfl) (ro_n0 r_368 (by decide)) rfl 39 (by decide) k_784 (Or.inr ⟨hin, rfl⟩) rfl rfl dX7_init_259 (fun H locs hT => ?_)
  have hI : Inv (sF g_379 h 39 (.ref q_367)) := hI.sF (fk r_368 (show fsm _ _ ft from trivial))
  have hM : Sm md_k_Model g (sF g_379 h 39 (.ref q_367)) := hM.tr hE (Sm_sF (by rw [r_368]; rfl))
  have hE : Ex g (sF g_379 h 39 (.ref q_367)) := hE
  have hP : PF [39, 35, 33, 32, 31, 28, 27, 26, 25, 23, 20, 19, 18, 17, 16, 15, 14, 13, 12, 11, 10, 9, 8, 7, 6, 5, 4, 3, 2, 1, 60, 52, 51, 50, 49, 38, 37, 36, 34, 30, 29, 24, 22, 21, 0] (sF g_379 h 39 (.ref q_367)) h := hP.put (q_8_39 (⟨_, rfl, r_371, n_374⟩))
  have zP : ZC (sF g_379 h 39 (.ref q_367)) q_15 := zP
  refine lv_aload_n hx hb dX7_init_262 rfl (lv_at hl 0 rfl) ?_
  refine lv_bipush (v := 8) hx hb dX7_init_263 (by decide) ?_
  refine t_newi (N' := 8) hB hT 85 (by decide) k_101 (by decide) (by decide) (by decide) (Nat.le_of_ble_eq_true rfl) (Nat.le_of_ble_eq_true rfl) dX7_init_265 (fun q_380 H o_q_380 hT => ?_)
  have z_q_380 : g.1 q_380 = 0 := hE.z0 o_q_380
  have hI : Inv (sA (sF g_379 h 39 (.ref q_367)) q_380 85 8) := hI.newi o_q_380 (by decide) (fun _ => rfl) ⟨by decide, by decide⟩ (fun _ => trivial)
  have hM : Sm md_k_Model g (sA (sF g_379 h 39 (.ref q_367)) q_380 85 8) := hM.tr hE (Sm.push o_q_380 sA_g)
  have hE : Ex g (sA (sF g_379 h 39 (.ref q_367)) q_380 85 8) := hE.tr (Ex.push o_q_380 sA_g)
  have hP : PF [39, 35, 33, 32, 31, 28, 27, 26, 25, 23, 20, 19, 18, 17, 16, 15, 14, 13, 12, 11, 10, 9, 8, 7, 6, 5, 4, 3, 2, 1, 60, 52, 51, 50, 49, 38, 37, 36, 34, 30, 29, 24, 22, 21, 0] (sA (sF g_379 h 39 (.ref q_367)) q_380 85 8) h := hP.pu (Ex.push o_q_380 sA_g) (sA_g h (ne0 r_368 o_q_380 (by decide))).2.1
  have zP : ZC (sA (sF g_379 h 39 (.ref q_367)) q_380 85 8) q_15 := zP.pu (sA_g q_15 (ne0 r_370 o_q_380 (by decide))).2.2.2.1
  have zN : ZC (sA (sF g_379 h 39 (.ref q_367)) q_380 85 8) q_380 := sA_z
  have r_381 : (sA (sF g_379 h 39 (.ref q_367)) q_380 85 8).1 h = 18 := ((sA_g h (ne0 r_368 o_q_380 (by decide))).1.trans r_368)
  have r_382 : (sA (sF g_379 h 39 (.ref q_367)) q_380 85 8).1 q_8 = 71 := ((sA_g q_8 (ne0 r_369 o_q_380 (by decide))).1.trans r_369)
  have r_383 : (sA (sF g_379 h 39 (.ref q_367)) q_380 85 8).1 q_15 = 72 := ((sA_g q_15 (ne0 r_370 o_q_380 (by decide))).1.trans r_370)
  have r_384 : (sA (sF g_379 h 39 (.ref q_367)) q_380 85 8).1 q_367 = 84 := ((sA_g q_367 (ne0 r_371 o_q_380 (by decide))).1.trans r_371)
  have r_385 : (sA (sF g_379 h 39 (.ref q_367)) q_380 85 8).1 q_380 = 85 := sA_r
  have n_386 : (sA (sF g_379 h 39 (.ref q_367)) q_380 85 8).2.2.1 q_8 = 48 := ((sA_g q_8 (ne0 r_369 o_q_380 (by decide))).2.2.1.trans n_372)
  have n_387 : (sA (sF g_379 h 39 (.ref q_367)) q_380 85 8).2.2.1 q_15 = 48 := ((sA_g q_15 (ne0 r_370 o_q_380 (by decide))).2.2.1.trans n_373)
  have n_388 : (sA (sF g_379 h 39 (.ref q_367)) q_380 85 8).2.2.1 q_367 = 8 := ((sA_g q_367 (ne0 r_371 o_q_380 (by decide))).2.2.1.trans n_374)
  have n_389 : (sA (sF g_379 h 39 (.ref q_367)) q_380 85 8).2.2.1 q_380 = 8 := sA_n
  have kn_390 : (sA (sF g_379 h 39 (.ref q_367)) q_380 85 8).2.1 h 22 = .int 0 := ((congrFun (sA_g h (ne0 r_368 o_q_380 (by decide))).2.1 22).trans (sF_k kn_375 (by decide)))
  have kn_391 : (sA (sF g_379 h 39 (.ref q_367)) q_380 85 8).2.1 h 34 = .int 0 := ((congrFun (sA_g h (ne0 r_368 o_q_380 (by decide))).2.1 34).trans (sF_k kn_376 (by decide)))
  have kn_392 : (sA (sF g_379 h 39 (.ref q_367)) q_380 85 8).2.1 h 2 = .ref q_8 := ((congrFun (sA_g h (ne0 r_368 o_q_380 (by decide))).2.1 2).trans (sF_k kn_377 (by decide)))
  have kn_393 : (sA (sF g_379 h 39 (.ref q_367)) q_380 85 8).2.1 h 3 = .ref q_15 := ((congrFun (sA_g h (ne0 r_368 o_q_380 (by decide))).2.1 3).trans (sF_k kn_378 (by decide)))
  have kn_394 : (sA (sF g_379 h 39 (.ref q_367)) q_380 85 8).2.1 h 39 = .ref q_367 := ((congrFun (sA_g h (ne0 r_368 o_q_380 (by decide))).2.1 39).trans sF_eq)
  generalize (sA (sF g_379 h 39 (.ref q_367)) q_380 85 8) = g_395 at hT hI hM hE r_381 r_382 r_383 r_384 r_385 n_386 n_387 n_388 n_389 kn_390 kn_391 kn_392 kn_393 kn_394 hP zP zN
  refine W.widen (k := 31) (n := 1566) (Nat.le_of_ble_eq_true rfl) (Nat.le_of_ble_eq_true rfl) ?_
  refine t_put0 (ci := 7) (v := .ref q_380) hB hT (ro_ci r_381 rfl) (ro_n0 r_381 (by decide)) rfl 40 (by decide) k_785 (Or.inr ⟨hin, rfl⟩) rfl rfl dX7_init_267 (fun H locs hT => ?_)
  have hI : Inv (sF g_395 h 40 (.ref q_380)) := hI.sF (fk r_381 (show fsm _ _ ft from trivial))
  have hM : Sm md_k_Model g (sF g_395 h 40 (.ref q_380)) := hM.tr hE (Sm_sF (by rw [r_381]; rfl))
  have hE : Ex g (sF g_395 h 40 (.ref q_380)) := hE
  have hP : PF [40, 39, 35, 33, 32, 31, 28, 27, 26, 25, 23, 20, 19, 18, 17, 16, 15, 14, 13, 12, 11, 10, 9, 8, 7, 6, 5, 4, 3, 2, 1, 60, 52, 51, 50, 49, 38, 37, 36, 34, 30, 29, 24, 22, 21, 0] (sF g_395 h 40 (.ref q_380)) h := hP.put (q_8_40 (⟨_, rfl, r_385, n_389⟩))
  have zP : ZC (sF g_395 h 40 (.ref q_380)) q_15 := zP
  have zN : ZC (sF g_395 h 40 (.ref q_380)) q_380 := zN
  refine lv_aload_n hx hb dX7_init_270 rfl (lv_at hl 0 rfl) ?_
  refine lv_bipush (v := 8) hx hb dX7_init_271 (by decide) ?_
  refine t_newi (N' := 8) hB hT 86 (by decide) k_101 (by decide) (by decide) (by decide) (Nat.le_of_ble_eq_true rfl) (Nat.le_of_ble_eq_true rfl) dX7_init_273 (fun q_396 H o_q_396 hT => ?_)
  have z_q_396 : g.1 q_396 = 0 := hE.z0 o_q_396
  have hI : Inv (sA (sF g_395 h 40 (.ref q_380)) q_396 86 8) := hI.newi o_q_396 (by decide) (fun _ => rfl) ⟨by decide, by decide⟩ (fun _ => trivial)
  have hM : Sm md_k_Model g (sA (sF g_395 h 40 (.ref q_380)) q_396 86 8) := hM.tr hE (Sm.push o_q_396 sA_g)
  have hE : Ex g (sA (sF g_395 h 40 (.ref q_380)) q_396 86 8) := hE.tr (Ex.push o_q_396 sA_g)
  have hP : PF [40, 39, 35, 33, 32, 31, 28, 27, 26, 25, 23, 20, 19, 18, 17, 16, 15, 14, 13, 12, 11, 10, 9, 8, 7, 6, 5, 4, 3, 2, 1, 60, 52, 51, 50, 49, 38, 37, 36, 34, 30, 29, 24, 22, 21, 0] (sA (sF g_395 h 40 (.ref q_380)) q_396 86 8) h := hP.pu (Ex.push o_q_396 sA_g) (sA_g h (ne0 r_381 o_q_396 (by decide))).2.1
  have zP : ZC (sA (sF g_395 h 40 (.ref q_380)) q_396 86 8) q_15 := zP.pu (sA_g q_15 (ne0 r_383 o_q_396 (by decide))).2.2.2.1
  have zN : ZC (sA (sF g_395 h 40 (.ref q_380)) q_396 86 8) q_380 := zN.pu (sA_g q_380 (ne0 r_385 o_q_396 (by decide))).2.2.2.1
  have r_397 : (sA (sF g_395 h 40 (.ref q_380)) q_396 86 8).1 h = 18 := ((sA_g h (ne0 r_381 o_q_396 (by decide))).1.trans r_381)
  have r_398 : (sA (sF g_395 h 40 (.ref q_380)) q_396 86 8).1 q_8 = 71 := ((sA_g q_8 (ne0 r_382 o_q_396 (by decide))).1.trans r_382)
  have r_399 : (sA (sF g_395 h 40 (.ref q_380)) q_396 86 8).1 q_15 = 72 := ((sA_g q_15 (ne0 r_383 o_q_396 (by decide))).1.trans r_383)
  have r_400 : (sA (sF g_395 h 40 (.ref q_380)) q_396 86 8).1 q_367 = 84 := ((sA_g q_367 (ne0 r_384 o_q_396 (by decide))).1.trans r_384)
  have r_401 : (sA (sF g_395 h 40 (.ref q_380)) q_396 86 8).1 q_380 = 85 := ((sA_g q_380 (ne0 r_385 o_q_396 (by decide))).1.trans r_385)
  have r_402 : (sA (sF g_395 h 40 (.ref q_380)) q_396 86 8).1 q_396 = 86 := sA_r
  have n_403 : (sA (sF g_395 h 40 (.ref q_380)) q_396 86 8).2.2.1 q_8 = 48 := ((sA_g q_8 (ne0 r_382 o_q_396 (by decide))).2.2.1.trans n_386)
  have n_404 : (sA (sF g_395 h 40 (.ref q_380)) q_396 86 8).2.2.1 q_15 = 48 := ((sA_g q_15 (ne0 r_383 o_q_396 (by decide))).2.2.1.trans n_387)
  have n_405 : (sA (sF g_395 h 40 (.ref q_380)) q_396 86 8).2.2.1 q_367 = 8 := ((sA_g q_367 (ne0 r_384 o_q_396 (by decide))).2.2.1.trans n_388)
  have n_406 : (sA (sF g_395 h 40 (.ref q_380)) q_396 86 8).2.2.1 q_380 = 8 := ((sA_g q_380 (ne0 r_385 o_q_396 (by decide))).2.2.1.trans n_389)
  have n_407 : (sA (sF g_395 h 40 (.ref q_380)) q_396 86 8).2.2.1 q_396 = 8 := sA_n
  have kn_408 : (sA (sF g_395 h 40 (.ref q_380)) q_396 86 8).2.1 h 22 = .int 0 := ((congrFun (sA_g h (ne0 r_381 o_q_396 (by decide))).2.1 22).trans (sF_k kn_390 (by decide)))
  have kn_409 : (sA (sF g_395 h 40 (.ref q_380)) q_396 86 8).2.1 h 34 = .int 0 := ((congrFun (sA_g h (ne0 r_381 o_q_396 (by decide))).2.1 34).trans (sF_k kn_391 (by decide)))
  have kn_410 : (sA (sF g_395 h 40 (.ref q_380)) q_396 86 8).2.1 h 2 = .ref q_8 := ((congrFun (sA_g h (ne0 r_381 o_q_396 (by decide))).2.1 2).trans (sF_k kn_392 (by decide)))
  have kn_411 : (sA (sF g_395 h 40 (.ref q_380)) q_396 86 8).2.1 h 3 = .ref q_15 := ((congrFun (sA_g h (ne0 r_381 o_q_396 (by decide))).2.1 3).trans (sF_k kn_393 (by decide)))
  have kn_412 : (sA (sF g_395 h 40 (.ref q_380)) q_396 86 8).2.1 h 39 = .ref q_367 := ((congrFun (sA_g h (ne0 r_381 o_q_396 (by decide))).2.1 39).trans (sF_k kn_394 (by decide)))
  have kn_413 : (sA (sF g_395 h 40 (.ref q_380)) q_396 86 8).2.1 h 40 = .ref q_380 := ((congrFun (sA_g h (ne0 r_381 o_q_396 (by decide))).2.1 40).trans sF_eq)
  generalize (sA (sF g_395 h 40 (.ref q_380)) q_396 86 8) = g_414 at hT hI hM hE r_397 r_398 r_399 r_400 r_401 r_402 n_403 n_404 n_405 n_406 n_407 kn_408 kn_409 kn_410 kn_411 kn_412 kn_413 hP zP zN
  refine W.widen (k := 32) (n := 1574) (Nat.le_of_ble_eq_true rfl) (Nat.le_of_ble_eq_true rfl) ?_
  refine t_put0 (ci := 7) (v := .ref q_396) hB hT (ro_ci r_397 rfl) (ro_n0 r_397 (by decide)) rfl 41 (by decide) k_786 (Or.inr ⟨hin, rfl⟩) rfl rfl dX7_init_275 (fun H locs hT => ?_)
  have hI : Inv (sF g_414 h 41 (.ref q_396)) := hI.sF (fk r_397 (show fsm _ _ ft from trivial))
  have hM : Sm md_k_Model g (sF g_414 h 41 (.ref q_396)) := hM.tr hE (Sm_sF (by rw [r_397]; rfl))
  have hE : Ex g (sF g_414 h 41 (.ref q_396)) := hE
  have hP : PF [41, 40, 39, 35, 33, 32, 31, 28, 27, 26, 25, 23, 20, 19, 18, 17, 16, 15, 14, 13, 12, 11, 10, 9, 8, 7, 6, 5, 4, 3, 2, 1, 60, 52, 51, 50, 49, 38, 37, 36, 34, 30, 29, 24, 22, 21, 0] (sF g_414 h 41 (.ref q_396)) h := hP.put (q_8_41 (⟨_, rfl, r_402, n_407⟩))
  have zP : ZC (sF g_414 h 41 (.ref q_396)) q_15 := zP
  have zN : ZC (sF g_414 h 41 (.ref q_396)) q_380 := zN
  refine lv_aload_n hx hb dX7_init_278 rfl (lv_at hl 0 rfl) ?_
  refine lv_bipush (v := 24) hx hb dX7_init_279 (by decide) ?_
  refine t_newi (N' := 24) hB hT 87 (by decide) k_101 (by decide) (by decide) (by decide) (Nat.le_of_ble_eq_true rfl) (Nat.le_of_ble_eq_true rfl) dX7_init_281 (fun q_415 H o_q_415 hT => ?_)
  have z_q_415 : g.1 q_415 = 0 := hE.z0 o_q_415
  have hI : Inv (sA (sF g_414 h 41 (.ref q_396)) q_415 87 24) := hI.newi o_q_415 (by decide) (fun _ => rfl) ⟨by decide, by decide⟩ (fun _ => trivial)
  have hM : Sm md_k_Model g (sA (sF g_414 h 41 (.ref q_396)) q_415 87 24) := hM.tr hE (Sm.push o_q_415 sA_g)
  have hE : Ex g (sA (sF g_414 h 41 (.ref q_396)) q_415 87 24) := hE.tr (Ex.push o_q_415 sA_g)
  have hP : PF [41, 40, 39, 35, 33, 32, 31, 28, 27, 26, 25, 23, 20, 19, 18, 17, 16, 15, 14, 13, 12, 11, 10, 9, 8, 7, 6, 5, 4, 3, 2, 1, 60, 52, 51, 50, 49, 38, 37, 36, 34, 30, 29, 24, 22, 21, 0] (sA (sF g_414 h 41 (.ref q_396)) q_415 87 24) h := hP.pu (Ex.push o_q_415 sA_g) (sA_g h (ne0 r_397 o_q_415 (by decide))).2.1
  have zP : ZC (sA (sF g_414 h 41 (.ref q_396)) q_415 87 24) q_15 := zP.pu (sA_g q_15 (ne0 r_399 o_q_415 (by decide))).2.2.2.1
  have zN : ZC (sA (sF g_414 h 41 (.ref q_396)) q_415 87 24) q_380 := zN.pu (sA_g q_380 (ne0 r_401 o_q_415 (by decide))).2.2.2.1
  have r_416 : (sA (sF g_414 h 41 (.ref q_396)) q_415 87 24).1 h = 18 := ((sA_g h (ne0 r_397 o_q_415 (by decide))).1.trans r_397)
  have r_417 : (sA (sF g_414 h 41 (.ref q_396)) q_415 87 24).1 q_8 = 71 := ((sA_g q_8 (ne0 r_398 o_q_415 (by decide))).1.trans r_398)
  have r_418 : (sA (sF g_414 h 41 (.ref q_396)) q_415 87 24).1 q_15 = 72 := ((sA_g q_15 (ne0 r_399 o_q_415 (by decide))).1.trans r_399)
  have r_419 : (sA (sF g_414 h 41 (.ref q_396)) q_415 87 24).1 q_367 = 84 := ((sA_g q_367 (ne0 r_400 o_q_415 (by decide))).1.trans r_400)
  have r_420 : (sA (sF g_414 h 41 (.ref q_396)) q_415 87 24).1 q_380 = 85 := ((sA_g q_380 (ne0 r_401 o_q_415 (by decide))).1.trans r_401)
  have r_421 : (sA (sF g_414 h 41 (.ref q_396)) q_415 87 24).1 q_415 = 87 := sA_r
  have n_422 : (sA (sF g_414 h 41 (.ref q_396)) q_415 87 24).2.2.1 q_8 = 48 := ((sA_g q_8 (ne0 r_398 o_q_415 (by decide))).2.2.1.trans n_403)
  have n_423 : (sA (sF g_414 h 41 (.ref q_396)) q_415 87 24).2.2.1 q_15 = 48 := ((sA_g q_15 (ne0 r_399 o_q_415 (by decide))).2.2.1.trans n_404)
  have n_424 : (sA (sF g_414 h 41 (.ref q_396)) q_415 87 24).2.2.1 q_367 = 8 := ((sA_g q_367 (ne0 r_400 o_q_415 (by decide))).2.2.1.trans n_405)
  have n_425 : (sA (sF g_414 h 41 (.ref q_396)) q_415 87 24).2.2.1 q_380 = 8 := ((sA_g q_380 (ne0 r_401 o_q_415 (by decide))).2.2.1.trans n_406)
  have n_426 : (sA (sF g_414 h 41 (.ref q_396)) q_415 87 24).2.2.1 q_415 = 24 := sA_n
  have kn_427 : (sA (sF g_414 h 41 (.ref q_396)) q_415 87 24).2.1 h 22 = .int 0 := ((congrFun (sA_g h (ne0 r_397 o_q_415 (by decide))).2.1 22).trans (sF_k kn_408 (by decide)))
  have kn_428 : (sA (sF g_414 h 41 (.ref q_396)) q_415 87 24).2.1 h 34 = .int 0 := ((congrFun (sA_g h (ne0 r_397 o_q_415 (by decide))).2.1 34).trans (sF_k kn_409 (by decide)))
  have kn_429 : (sA (sF g_414 h 41 (.ref q_396)) q_415 87 24).2.1 h 2 = .ref q_8 := ((congrFun (sA_g h (ne0 r_397 o_q_415 (by decide))).2.1 2).trans (sF_k kn_410 (by decide)))
  have kn_430 : (sA (sF g_414 h 41 (.ref q_396)) q_415 87 24).2.1 h 3 = .ref q_15 := ((congrFun (sA_g h (ne0 r_397 o_q_415 (by decide))).2.1 3).trans (sF_k kn_411 (by decide)))
  have kn_431 : (sA (sF g_414 h 41 (.ref q_396)) q_415 87 24).2.1 h 39 = .ref q_367 := ((congrFun (sA_g h (ne0 r_397 o_q_415 (by decide))).2.1 39).trans (sF_k kn_412 (by decide)))
  have kn_432 : (sA (sF g_414 h 41 (.ref q_396)) q_415 87 24).2.1 h 40 = .ref q_380 := ((congrFun (sA_g h (ne0 r_397 o_q_415 (by decide))).2.1 40).trans (sF_k kn_413 (by decide)))
  generalize (sA (sF g_414 h 41 (.ref q_396)) q_415 87 24) = g_433 at hT hI hM hE r_416 r_417 r_418 r_419 r_420 r_421 n_422 n_423 n_424 n_425 n_426 kn_427 kn_428 kn_429 kn_430 kn_431 kn_432 hP zP zN
  refine W.widen (k := 33) (n := 1598) (Nat.le_of_ble_eq_true rfl) (Nat.le_of_ble_eq_true rfl) ?_
  refine lv_dup hx hb dX7_init_283 rfl ?_
  refine lv_iconst (v := 0) hx hb dX7_init_284 (by decide) ?_
  refine lv_bipush (v := 115) hx hb dX7_init_285 (by decide) ?_
  have i_434 : vp_in (0 : Int32) 24 := (by unfold vp_in; decide)
  refine t_iast hB hT (ro_in r_421 (by decide)) n_426 i_434 dX7_init_287 (fun H locs hT => ?_)
  have hI : Inv (sC g_433 q_415 (0 : Int32).toNatClampNeg (115 : Int32)) := hI.sC (ck r_421 ⟨by decide, by decide⟩)
  have hM : Sm md_k_Model g (sC g_433 q_415 (0 : Int32).toNatClampNeg (115 : Int32)) := hM.tr hE (Sm_sC (by rw [r_421]; rfl))
  have hE : Ex g (sC g_433 q_415 (0 : Int32).toNatClampNeg (115 : Int32)) := hE
  have hP : PF [41, 40, 39, 35, 33, 32, 31, 28, 27, 26, 25, 23, 20, 19, 18, 17, 16, 15, 14, 13, 12, 11, 10, 9, 8, 7, 6, 5, 4, 3, 2, 1, 60, 52, 51, 50, 49, 38, 37, 36, 34, 30, 29, 24, 22, 21, 0] (sC g_433 q_415 (0 : Int32).toNatClampNeg (115 : Int32)) h := hP.tC 
  have zP : ZC (sC g_433 q_415 (0 : Int32).toNatClampNeg (115 : Int32)) q_15 := zP.tC (ro_ne r_418 r_421 (by decide))
  have zN : ZC (sC g_433 q_415 (0 : Int32).toNatClampNeg (115 : Int32)) q_380 := zN.tC (ro_ne r_420 r_421 (by decide))
  refine lv_dup hx hb dX7_init_288 rfl ?_
  refine lv_iconst (v := 1) hx hb dX7_init_289 (by decide) ?_
  refine lv_bipush (v := 101) hx hb dX7_init_290 (by decide) ?_
  have i_435 : vp_in (1 : Int32) 24 := (by unfold vp_in; decide)
  refine t_iast hB hT (ro_in r_421 (by decide)) n_426 i_435 dX7_init_292 (fun H locs hT => ?_)
  have hI : Inv (sC (sC g_433 q_415 (0 : Int32).toNatClampNeg (115 : Int32)) q_415 (1 : Int32).toNatClampNeg (101 : Int32)) := hI.sC (ck r_421 ⟨by decide, by decide⟩)
  have hM : Sm md_k_Model g (sC (sC g_433 q_415 (0 : Int32).toNatClampNeg (115 : Int32)) q_415 (1 : Int32).toNatClampNeg (101 : Int32)) := hM.tr hE (Sm_sC (by rw [r_421]; rfl))
  have hE : Ex g (sC (sC g_433 q_415 (0 : Int32).toNatClampNeg (115 : Int32)) q_415 (1 : Int32).toNatClampNeg (101 : Int32)) := hE
  have hP : PF [41, 40, 39, 35, 33, 32, 31, 28, 27, 26, 25, 23, 20, 19, 18, 17, 16, 15, 14, 13, 12, 11, 10, 9, 8, 7, 6, 5, 4, 3, 2, 1, 60, 52, 51, 50, 49, 38, 37, 36, 34, 30, 29, 24, 22, 21, 0] (sC (sC g_433 q_415 (0 : Int32).toNatClampNeg (115 : Int32)) q_415 (1 : Int32).toNatClampNeg (101 : Int32)) h := hP.tC 
  have zP : ZC (sC (sC g_433 q_415 (0 : Int32).toNatClampNeg (115 : Int32)) q_415 (1 : Int32).toNatClampNeg (101 : Int32)) q_15 := zP.tC (ro_ne r_418 r_421 (by decide))
  have zN : ZC (sC (sC g_433 q_415 (0 : Int32).toNatClampNeg (115 : Int32)) q_415 (1 : Int32).toNatClampNeg (101 : Int32)) q_380 := zN.tC (ro_ne r_420 r_421 (by decide))
  refine lv_dup hx hb dX7_init_293 rfl ?_
  refine lv_iconst (v := 2) hx hb dX7_init_294 (by decide) ?_
  refine lv_bipush (v := 116) hx hb dX7_init_295 (by decide) ?_
  have i_436 : vp_in (2 : Int32) 24 := (by unfold vp_in; decide)
  refine t_iast hB hT (ro_in r_421 (by decide)) n_426 i_436 dX7_init_297 (fun H locs hT => ?_)
  have hI : Inv (sC (sC (sC g_433 q_415 (0 : Int32).toNatClampNeg (115 : Int32)) q_415 (1 : Int32).toNatClampNeg (101 : Int32)) q_415 (2 : Int32).toNatClampNeg (116 : Int32)) := hI.sC (ck r_421 ⟨by decide, by decide⟩)
  have hM : Sm md_k_Model g (sC (sC (sC g_433 q_415 (0 : Int32).toNatClampNeg (115 : Int32)) q_415 (1 : Int32).toNatClampNeg (101 : Int32)) q_415 (2 : Int32).toNatClampNeg (116 : Int32)) := hM.tr hE (Sm_sC (by rw [r_421]; rfl))
  have hE : Ex g (sC (sC (sC g_433 q_415 (0 : Int32).toNatClampNeg (115 : Int32)) q_415 (1 : Int32).toNatClampNeg (101 : Int32)) q_415 (2 : Int32).toNatClampNeg (116 : Int32)) := hE
  have hP : PF [41, 40, 39, 35, 33, 32, 31, 28, 27, 26, 25, 23, 20, 19, 18, 17, 16, 15, 14, 13, 12, 11, 10, 9, 8, 7, 6, 5, 4, 3, 2, 1, 60, 52, 51, 50, 49, 38, 37, 36, 34, 30, 29, 24, 22, 21, 0] (sC (sC (sC g_433 q_415 (0 : Int32).toNatClampNeg (115 : Int32)) q_415 (1 : Int32).toNatClampNeg (101 : Int32)) q_415 (2 : Int32).toNatClampNeg (116 : Int32)) h := hP.tC 
  have zP : ZC (sC (sC (sC g_433 q_415 (0 : Int32).toNatClampNeg (115 : Int32)) q_415 (1 : Int32).toNatClampNeg (101 : Int32)) q_415 (2 : Int32).toNatClampNeg (116 : Int32)) q_15 := zP.tC (ro_ne r_418 r_421 (by decide))
  have zN : ZC (sC (sC (sC g_433 q_415 (0 : Int32).toNatClampNeg (115 : Int32)) q_415 (1 : Int32).toNatClampNeg (101 : Int32)) q_415 (2 : Int32).toNatClampNeg (116 : Int32)) q_380 := zN.tC (ro_ne r_420 r_421 (by decide))
  refine lv_dup hx hb dX7_init_298 rfl ?_
  refine lv_iconst (v := 3) hx hb dX7_init_299 (by decide) ?_
  refine lv_bipush (v := 97) hx hb dX7_init_300 (by decide) ?_
  have i_437 : vp_in (3 : Int32) 24 := (by unfold vp_in; decide)
  refine t_iast hB hT (ro_in r_421 (by decide)) n_426 i_437 dX7_init_302 (fun H locs hT => ?_)
  have hI : Inv (sC (sC (sC (sC g_433 q_415 (0 : Int32).toNatClampNeg (115 : Int32)) q_415 (1 : Int32).toNatClampNeg (101 : Int32)) q_415 (2 : Int32).toNatClampNeg (116 : Int32)) q_415 (3 : Int32).toNatClampNeg (97 : Int32)) := hI.sC (ck r_421 ⟨by decide, by decide⟩)
  have hM : Sm md_k_Model g (sC (sC (sC (sC g_433 q_415 (0 : Int32).toNatClampNeg (115 : Int32)) q_415 (1 : Int32).toNatClampNeg (101 : Int32)) q_415 (2 : Int32).toNatClampNeg (116 : Int32)) q_415 (3 : Int32).toNatClampNeg (97 : Int32)) := hM.tr hE (Sm_sC (by rw [r_421]; rfl))
  have hE : Ex g (sC (sC (sC (sC g_433 q_415 (0 : Int32).toNatClampNeg (115 : Int32)) q_415 (1 : Int32).toNatClampNeg (101 : Int32)) q_415 (2 : Int32).toNatClampNeg (116 : Int32)) q_415 (3 : Int32).toNatClampNeg (97 : Int32)) := hE
  have hP : PF [41, 40, 39, 35, 33, 32, 31, 28, 27, 26, 25, 23, 20, 19, 18, 17, 16, 15, 14, 13, 12, 11, 10, 9, 8, 7, 6, 5, 4, 3, 2, 1, 60, 52, 51, 50, 49, 38, 37, 36, 34, 30, 29, 24, 22, 21, 0] (sC (sC (sC (sC g_433 q_415 (0 : Int32).toNatClampNeg (115 : Int32)) q_415 (1 : Int32).toNatClampNeg (101 : Int32)) q_415 (2 : Int32).toNatClampNeg (116 : Int32)) q_415 (3 : Int32).toNatClampNeg (97 : Int32)) h := hP.tC 
  have zP : ZC (sC (sC (sC (sC g_433 q_415 (0 : Int32).toNatClampNeg (115 : Int32)) q_415 (1 : Int32).toNatClampNeg (101 : Int32)) q_415 (2 : Int32).toNatClampNeg (116 : Int32)) q_415 (3 : Int32).toNatClampNeg (97 : Int32)) q_15 := zP.tC (ro_ne r_418 r_421 (by decide))
  have zN : ZC (sC (sC (sC (sC g_433 q_415 (0 : Int32).toNatClampNeg (115 : Int32)) q_415 (1 : Int32).toNatClampNeg (101 : Int32)) q_415 (2 : Int32).toNatClampNeg (116 : Int32)) q_415 (3 : Int32).toNatClampNeg (97 : Int32)) q_380 := zN.tC (ro_ne r_420 r_421 (by decide))
  refine lv_dup hx hb dX7_init_303 rfl ?_
  refine lv_iconst (v := 4) hx hb dX7_init_304 (by decide) ?_
  refine lv_bipush (v := 100) hx hb dX7_init_305 (by decide) ?_
  have i_438 : vp_in (4 : Int32) 24 := (by unfold vp_in; decide)
  refine t_iast hB hT (ro_in r_421 (by decide)) n_426 i_438 dX7_init_307 (fun H locs hT => ?_)
  have hI : Inv (sC (sC (sC (sC (sC g_433 q_415 (0 : Int32).toNatClampNeg (115 : Int32)) q_415 (1 : Int32).toNatClampNeg (101 : Int32)) q_415 (2 : Int32).toNatClampNeg (116 : Int32)) q_415 (3 : Int32).toNatClampNeg (97 : Int32)) q_415 (4 : Int32).toNatClampNeg (100 : Int32)) := hI.sC (ck r_421 ⟨by decide, by decide⟩)
  have hM : Sm md_k_Model g (sC (sC (sC (sC (sC g_433 q_415 (0 : Int32).toNatClampNeg (115 : Int32)) q_415 (1 : Int32).toNatClampNeg (101 : Int32)) q_415 (2 : Int32).toNatClampNeg (116 : Int32)) q_415 (3 : Int32).toNatClampNeg (97 : Int32)) q_415 (4 : Int32).toNatClampNeg (100 : Int32)) := hM.tr hE (Sm_sC (by rw [r_421]; rfl))
  have hE : Ex g (sC (sC (sC (sC (sC g_433 q_415 (0 : Int32).toNatClampNeg (115 : Int32)) q_415 (1 : Int32).toNatClampNeg (101 : Int32)) q_415 (2 : Int32).toNatClampNeg (116 : Int32)) q_415 (3 : Int32).toNatClampNeg (97 : Int32)) q_415 (4 : Int32).toNatClampNeg (100 : Int32)) := hE
  have hP : PF [41, 40, 39, 35, 33, 32, 31, 28, 27, 26, 25, 23, 20, 19, 18, 17, 16, 15, 14, 13, 12, 11, 10, 9, 8, 7, 6, 5, 4, 3, 2, 1, 60, 52, 51, 50, 49, 38, 37, 36, 34, 30, 29, 24, 22, 21, 0] (sC (sC (sC (sC (sC g_433 q_415 (0 : Int32).toNatClampNeg (115 : Int32)) q_415 (1 : Int32).toNatClampNeg (101 : Int32)) q_415 (2 : Int32).toNatClampNeg (116 : Int32)) q_415 (3 : Int32).toNatClampNeg (97 : Int32)) q_415 (4 : Int32).toNatClampNeg (100 : Int32)) h := hP.tC 
  have zP : ZC (sC (sC (sC (sC (sC g_433 q_415 (0 : Int32).toNatClampNeg (115 : Int32)) q_415 (1 : Int32).toNatClampNeg (101 : Int32)) q_415 (2 : Int32).toNatClampNeg (116 : Int32)) q_415 (3 : Int32).toNatClampNeg (97 : Int32)) q_415 (4 : Int32).toNatClampNeg (100 : Int32)) q_15 := zP.tC (ro_ne r_418 r_421 (by decide))
  have zN : ZC (sC (sC (sC (sC (sC g_433 q_415 (0 : Int32).toNatClampNeg (115 : Int32)) q_415 (1 : Int32).toNatClampNeg (101 : Int32)) q_415 (2 : Int32).toNatClampNeg (116 : Int32)) q_415 (3 : Int32).toNatClampNeg (97 : Int32)) q_415 (4 : Int32).toNatClampNeg (100 : Int32)) q_380 := zN.tC (ro_ne r_420 r_421 (by decide))
  refine lv_dup hx hb dX7_init_308 rfl ?_
  refine lv_iconst (v := 5) hx hb dX7_init_309 (by decide) ?_
  refine lv_bipush (v := 100) hx hb dX7_init_310 (by decide) ?_
  have i_439 : vp_in (5 : Int32) 24 := (by unfold vp_in; decide)
  refine t_iast hB hT (ro_in r_421 (by decide)) n_426 i_439 dX7_init_312 (fun H locs hT => ?_)
  have hI : Inv (sC (sC (sC (sC (sC (sC g_433 q_415 (0 : Int32).toNatClampNeg (115 : Int32)) q_415 (1 : Int32).toNatClampNeg (101 : Int32)) q_415 (2 : Int32).toNatClampNeg (116 : Int32)) q_415 (3 : Int32).toNatClampNeg (97 : Int32)) q_415 (4 : Int32).toNatClampNeg (100 : Int32)) q_415 (5 : Int32).toNatClampNeg (100 : Int32)) := hI.sC (ck r_421 ⟨by decide, by decide⟩)
  have hM : Sm md_k_Model g (sC (sC (sC (sC (sC (sC g_433 q_415 (0 : Int32).toNatClampNeg (115 : Int32)) q_415 (1 : Int32).toNatClampNeg (101 : Int32)) q_415 (2 : Int32).toNatClampNeg (116 : Int32)) q_415 (3 : Int32).toNatClampNeg (97 : Int32)) q_415 (4 : Int32).toNatClampNeg (100 : Int32)) q_415 (5 : Int32).toNatClampNeg (100 : Int32)) := hM.tr hE (Sm_sC (by rw [r_421]; rfl))
  have hE : Ex g (sC (sC (sC (sC (sC (sC g_433 q_415 (0 : Int32).toNatClampNeg (115 : Int32)) q_415 (1 : Int32).toNatClampNeg (101 : Int32)) q_415 (2 : Int32).toNatClampNeg (116 : Int32)) q_415 (3 : Int32).toNatClampNeg (97 : Int32)) q_415 (4 : Int32).toNatClampNeg (100 : Int32)) q_415 (5 : Int32).toNatClampNeg (100 : Int32)) := hE
  have hP : PF [41, 40, 39, 35, 33, 32, 31, 28, 27, 26, 25, 23, 20, 19, 18, 17, 16, 15, 14, 13, 12, 11, 10, 9, 8, 7, 6, 5, 4, 3, 2, 1, 60, 52, 51, 50, 49, 38, 37, 36, 34, 30, 29, 24, 22, 21, 0] (sC (sC (sC (sC (sC (sC g_433 q_415 (0 : Int32).toNatClampNeg (115 : Int32)) q_415 (1 : Int32).toNatClampNeg (101 : Int32)) q_415 (2 : Int32).toNatClampNeg (116 : Int32)) q_415 (3 : Int32).toNatClampNeg (97 : Int32)) q_415 (4 : Int32).toNatClampNeg (100 : Int32)) q_415 (5 : Int32).toNatClampNeg (100 : Int32)) h := hP.tC 
  have zP : ZC (sC (sC (sC (sC (sC (sC g_433 q_415 (0 : Int32).toNatClampNeg (115 : Int32)) q_415 (1 : Int32).toNatClampNeg (101 : Int32)) q_415 (2 : Int32).toNatClampNeg (116 : Int32)) q_415 (3 : Int32).toNatClampNeg (97 : Int32)) q_415 (4 : Int32).toNatClampNeg (100 : Int32)) q_415 (5 : Int32).toNatClampNeg (100 : Int32)) q_15 := zP.tC (ro_ne r_418 r_421 (by decide))
  have zN : ZC (sC (sC (sC (sC (sC (sC g_433 q_415 (0 : Int32).toNatClampNeg (115 : Int32)) q_415 (1 : Int32).toNatClampNeg (101 : Int32)) q_415 (2 : Int32).toNatClampNeg (116 : Int32)) q_415 (3 : Int32).toNatClampNeg (97 : Int32)) q_415 (4 : Int32).toNatClampNeg (100 : Int32)) q_415 (5 : Int32).toNatClampNeg (100 : Int32)) q_380 := zN.tC (ro_ne r_420 r_421 (by decide))
  refine lv_dup hx hb dX7_init_313 rfl ?_
  refine lv_bipush (v := 6) hx hb dX7_init_314 (by decide) ?_
  refine lv_bipush (v := 109) hx hb dX7_init_316 (by decide) ?_
  have i_440 : vp_in (6 : Int32) 24 := (by unfold vp_in; decide)
  refine t_iast hB hT (ro_in r_421 (by decide)) n_426 i_440 dX7_init_318 (fun H locs hT => ?_)
  have hI : Inv (sC (sC (sC (sC (sC (sC (sC g_433 q_415 (0 : Int32).toNatClampNeg (115 : Int32)) q_415 (1 : Int32).toNatClampNeg (101 : Int32)) q_415 (2 : Int32).toNatClampNeg (116 : Int32)) q_415 (3 : Int32).toNatClampNeg (97 : Int32)) q_415 (4 : Int32).toNatClampNeg (100 : Int32)) q_415 (5 : Int32).toNatClampNeg (100 : Int32)) q_415 (6 : Int32).toNatClampNeg (109 : Int32)) := hI.sC (ck r_421 ⟨by decide, by decide⟩)
  have hM : Sm md_k_Model g (sC (sC (sC (sC (sC (sC (sC g_433 q_415 (0 : Int32).toNatClampNeg (115 : Int32)) q_415 (1 : Int32).toNatClampNeg (101 : Int32)) q_415 (2 : Int32).toNatClampNeg (116 : Int32)) q_415 (3 : Int32).toNatClampNeg (97 : Int32)) q_415 (4 : Int32).toNatClampNeg (100 : Int32)) q_415 (5 : Int32).toNatClampNeg (100 : Int32)) q_415 (6 : Int32).toNatClampNeg (109 : Int32)) := hM.tr hE (Sm_sC (by rw [r_421]; rfl))
  have hE : Ex g (sC (sC (sC (sC (sC (sC (sC g_433 q_415 (0 : Int32).toNatClampNeg (115 : Int32)) q_415 (1 : Int32).toNatClampNeg (101 : Int32)) q_415 (2 : Int32).toNatClampNeg (116 : Int32)) q_415 (3 : Int32).toNatClampNeg (97 : Int32)) q_415 (4 : Int32).toNatClampNeg (100 : Int32)) q_415 (5 : Int32).toNatClampNeg (100 : Int32)) q_415 (6 : Int32).toNatClampNeg (109 : Int32)) := hE
  have hP : PF [41, 40, 39, 35, 33, 32, 31, 28, 27, 26, 25, 23, 20, 19, 18, 17, 16, 15, 14, 13, 12, 11, 10, 9, 8, 7, 6, 5, 4, 3, 2, 1, 60, 52, 51, 50, 49, 38, 37, 36, 34, 30, 29, 24, 22, 21, 0] (sC (sC (sC (sC (sC (sC (sC g_433 q_415 (0 : Int32).toNatClampNeg (115 : Int32)) q_415 (1 : Int32).toNatClampNeg (101 : Int32)) q_415 (2 : Int32).toNatClampNeg (116 : Int32)) q_415 (3 : Int32).toNatClampNeg (97 : Int32)) q_415 (4 : Int32).toNatClampNeg (100 : Int32)) q_415 (5 : Int32).toNatClampNeg (100 : Int32)) q_415 (6 : Int32).toNatClampNeg (109 : Int32)) h := hP.tC 
  have zP : ZC (sC (sC (sC (sC (sC (sC (sC g_433 q_415 (0 : Int32).toNatClampNeg (115 : Int32)) q_415 (1 : Int32).toNatClampNeg (101 : Int32)) q_415 (2 : Int32).toNatClampNeg (116 : Int32)) q_415 (3 : Int32).toNatClampNeg (97 : Int32)) q_415 (4 : Int32).toNatClampNeg (100 : Int32)) q_415 (5 : Int32).toNatClampNeg (100 : Int32)) q_415 (6 : Int32).toNatClampNeg (109 : Int32)) q_15 := zP.tC (ro_ne r_418 r_421 (by decide))
  have zN : ZC (sC (sC (sC (sC (sC (sC (sC g_433 q_415 (0 : Int32).toNatClampNeg (115 : Int32)) q_415 (1 : Int32).toNatClampNeg (101 : Int32)) q_415 (2 : Int32).toNatClampNeg (116 : Int32)) q_415 (3 : Int32).toNatClampNeg (97 : Int32)) q_415 (4 : Int32).toNatClampNeg (100 : Int32)) q_415 (5 : Int32).toNatClampNeg (100 : Int32)) q_415 (6 : Int32).toNatClampNeg (109 : Int32)) q_380 := zN.tC (ro_ne r_420 r_421 (by decide))
  refine lv_dup hx hb dX7_init_319 rfl ?_
  refine lv_bipush (v := 7) hx hb dX7_init_320 (by decide) ?_
  refine lv_bipush (v := 97) hx hb dX7_init_322 (by decide) ?_
  have i_441 : vp_in (7 : Int32) 24 := (by unfold vp_in; decide)
  refine t_iast hB hT (ro_in r_421 (by decide)) n_426 i_441 dX7_init_324 (fun H locs hT => ?_)
  have hI : Inv (sC (sC (sC (sC (sC (sC (sC (sC g_433 q_415 (0 : Int32).toNatClampNeg (115 : Int32)) q_415 (1 : Int32).toNatClampNeg (101 : Int32)) q_415 (2 : Int32).toNatClampNeg (116 : Int32)) q_415 (3 : Int32).toNatClampNeg (97 : Int32)) q_415 (4 : Int32).toNatClampNeg (100 : Int32)) q_415 (5 : Int32).toNatClampNeg (100 : Int32)) q_415 (6 : Int32).toNatClampNeg (109 : Int32)) q_415 (7 : Int32).toNatClampNeg (97 : Int32)) := hI.sC (ck r_421 ⟨by decide, by decide⟩)
  have hM : Sm md_k_Model g (sC (sC (sC (sC (sC (sC (sC (sC g_433 q_415 (0 : Int32).toNatClampNeg (115 : Int32)) q_415 (1 : Int32).toNatClampNeg (101 : Int32)) q_415 (2 : Int32).toNatClampNeg (116 : Int32)) q_415 (3 : Int32).toNatClampNeg (97 : Int32)) q_415 (4 : Int32).toNatClampNeg (100 : Int32)) q_415 (5 : Int32).toNatClampNeg (100 : Int32)) q_415 (6 : Int32).toNatClampNeg (109 : Int32)) q_415 (7 : Int32).toNatClampNeg (97 : Int32)) := hM.tr hE (Sm_sC (by rw [r_421]; rfl))
  have hE : Ex g (sC (sC (sC (sC (sC (sC (sC (sC g_433 q_415 (0 : Int32).toNatClampNeg (115 : Int32)) q_415 (1 : Int32).toNatClampNeg (101 : Int32)) q_415 (2 : Int32).toNatClampNeg (116 : Int32)) q_415 (3 : Int32).toNatClampNeg (97 : Int32)) q_415 (4 : Int32).toNatClampNeg (100 : Int32)) q_415 (5 : Int32).toNatClampNeg (100 : Int32)) q_415 (6 : Int32).toNatClampNeg (109 : Int32)) q_415 (7 : Int32).toNatClampNeg (97 : Int32)) := hE
  have hP : PF [41, 40, 39, 35, 33, 32, 31, 28, 27, 26, 25, 23, 20, 19, 18, 17, 16, 15, 14, 13, 12, 11, 10, 9, 8, 7, 6, 5, 4, 3, 2, 1, 60, 52, 51, 50, 49, 38, 37, 36, 34, 30, 29, 24, 22, 21, 0] (sC (sC (sC (sC (sC (sC (sC (sC g_433 q_415 (0 : Int32).toNatClampNeg (115 : Int32)) q_415 (1 : Int32).toNatClampNeg (101 : Int32)) q_415 (2 : Int32).toNatClampNeg (116 : Int32)) q_415 (3 : Int32).toNatClampNeg (97 : Int32)) q_415 (4 : Int32).toNatClampNeg (100 : Int32)) q_415 (5 : Int32).toNatClampNeg (100 : Int32)) q_415 (6 : Int32).toNatClampNeg (109 : Int32)) q_415 (7 : Int32).toNatClampNeg (97 : Int32)) h := hP.tC 
  have zP : ZC (sC (sC (sC (sC (sC (sC (sC (sC g_433 q_415 (0 : Int32).toNatClampNeg (115 : Int32)) q_415 (1 : Int32).toNatClampNeg (101 : Int32)) q_415 (2 : Int32).toNatClampNeg (116 : Int32)) q_415 (3 : Int32).toNatClampNeg (97 : Int32)) q_415 (4 : Int32).toNatClampNeg (100 : Int32)) q_415 (5 : Int32).toNatClampNeg (100 : Int32)) q_415 (6 : Int32).toNatClampNeg (109 : Int32)) q_415 (7 : Int32).toNatClampNeg (97 : Int32)) q_15 := zP.tC (ro_ne r_418 r_421 (by decide))
  have zN : ZC (sC (sC (sC (sC (sC (sC (sC (sC g_433 q_415 (0 : Int32).toNatClampNeg (115 : Int32)) q_415 (1 : Int32).toNatClampNeg (101 : Int32)) q_415 (2 : Int32).toNatClampNeg (116 : Int32)) q_415 (3 : Int32).toNatClampNeg (97 : Int32)) q_415 (4 : Int32).toNatClampNeg (100 : Int32)) q_415 (5 : Int32).toNatClampNeg (100 : Int32)) q_415 (6 : Int32).toNatClampNeg (109 : Int32)) q_415 (7 : Int32).toNatClampNeg (97 : Int32)) q_380 := zN.tC (ro_ne r_420 r_421 (by decide))
  have r_442 : (sC (sC (sC (sC (sC (sC (sC (sC g_433 q_415 (0 : Int32).toNatClampNeg (115 : Int32)) q_415 (1 : Int32).toNatClampNeg (101 : Int32)) q_415 (2 : Int32).toNatClampNeg (116 : Int32)) q_415 (3 : Int32).toNatClampNeg (97 : Int32)) q_415 (4 : Int32).toNatClampNeg (100 : Int32)) q_415 (5 : Int32).toNatClampNeg (100 : Int32)) q_415 (6 : Int32).toNatClampNeg (109 : Int32)) q_415 (7 : Int32).toNatClampNeg (97 : Int32)).1 h = 18 := r_416
  have r_443 : (sC (sC (sC (sC (sC (sC (sC (sC g_433 q_415 (0 : Int32).toNatClampNeg (115 : Int32)) q_415 (1 : Int32).toNatClampNeg (101 : Int32)) q_415 (2 : Int32).toNatClampNeg (116 : Int32)) q_415 (3 : Int32).toNatClampNeg (97 : Int32)) q_415 (4 : Int32).toNatClampNeg (100 : Int32)) q_415 (5 : Int32).toNatClampNeg (100 : Int32)) q_415 (6 : Int32).toNatClampNeg (109 : Int32)) q_415 (7 : Int32).toNatClampNeg (97 : Int32)).1 q_8 = 71 := r_417
  have r_444 : (sC (sC (sC (sC (sC (sC (sC (sC g_433 q_415 (0 : Int32).toNatClampNeg (115 : Int32)) q_415 (1 : Int32).toNatClampNeg (101 : Int32)) q_415 (2 : Int32).toNatClampNeg (116 : Int32)) q_415 (3 : Int32).toNatClampNeg (97 : Int32)) q_415 (4 : Int32).toNatClampNeg (100 : Int32)) q_415 (5 : Int32).toNatClampNeg (100 : Int32)) q_415 (6 : Int32).toNatClampNeg (109 : Int32)) q_415 (7 : Int32).toNatClampNeg (97 : Int32)).1 q_15 = 72 := r_418
  have r_445 : (sC (sC (sC (sC (sC (sC (sC (sC g_433 q_415 (0 : Int32).toNatClampNeg (115 : Int32)) q_415 (1 : Int32).toNatClampNeg (101 : Int32)) q_415 (2 : Int32).toNatClampNeg (116 : Int32)) q_415 (3 : Int32).toNatClampNeg (97 : Int32)) q_415 (4 : Int32).toNatClampNeg (100 : Int32)) q_415 (5 : Int32).toNatClampNeg (100 : Int32)) q_415 (6 : Int32).toNatClampNeg (109 : Int32)) q_415 (7 : Int32).toNatClampNeg (97 : Int32)).1 q_367 = 84 := r_419
  have r_446 : (sC (sC (sC (sC (sC (sC (sC (sC g_433 q_415 (0 : Int32).toNatClampNeg (115 : Int32)) q_415 (1 : Int32).toNatClampNeg (101 : Int32)) q_415 (2 : Int32).toNatClampNeg (116 : Int32)) q_415 (3 : Int32).toNatClampNeg (97 : Int32)) q_415 (4 : Int32).toNatClampNeg (100 : Int32)) q_415 (5 : Int32).toNatClampNeg (100 : Int32)) q_415 (6 : Int32).toNatClampNeg (109 : Int32)) q_415 (7 : Int32).toNatClampNeg (97 : Int32)).1 q_380 = 85 := r_420
  have r_447 : (sC (sC (sC (sC (sC (sC (sC (sC g_433 q_415 (0 : Int32).toNatClampNeg (115 : Int32)) q_415 (1 : Int32).toNatClampNeg (101 : Int32)) q_415 (2 : Int32).toNatClampNeg (116 : Int32)) q_415 (3 : Int32).toNatClampNeg (97 : Int32)) q_415 (4 : Int32).toNatClampNeg (100 : Int32)) q_415 (5 : Int32).toNatClampNeg (100 : Int32)) q_415 (6 : Int32).toNatClampNeg (109 : Int32)) q_415 (7 : Int32).toNatClampNeg (97 : Int32)).1 q_415 = 87 := r_421
  have n_448 : (sC (sC (sC (sC (sC (sC (sC (sC g_433 q_415 (0 : Int32).toNatClampNeg (115 : Int32)) q_415 (1 : Int32).toNatClampNeg (101 : Int32)) q_415 (2 : Int32).toNatClampNeg (116 : Int32)) q_415 (3 : Int32).toNatClampNeg (97 : Int32)) q_415 (4 : Int32).toNatClampNeg (100 : Int32)) q_415 (5 : Int32).toNatClampNeg (100 : Int32)) q_415 (6 : Int32).toNatClampNeg (109 : Int32)) q_415 (7 : Int32).toNatClampNeg (97 : Int32)).2.2.1 q_8 = 48 := n_422
  have n_449 : (sC (sC (sC (sC (sC (sC (sC (sC g_433 q_415 (0 : Int32).toNatClampNeg (115 : Int32)) q_415 (1 : Int32).toNatClampNeg (101 : Int32)) q_415 (2 : Int32).toNatClampNeg (116 : Int32)) q_415 (3 : Int32).toNatClampNeg (97 : Int32)) q_415 (4 : Int32).toNatClampNeg (100 : Int32)) q_415 (5 : Int32).toNatClampNeg (100 : Int32)) q_415 (6 : Int32).toNatClampNeg (109 : Int32)) q_415 (7 : Int32).toNatClampNeg (97 : Int32)).2.2.1 q_15 = 48 := n_423
  have n_450 : (sC (sC (sC (sC (sC (sC (sC (sC g_433 q_415 (0 : Int32).toNatClampNeg (115 : Int32)) q_415 (1 : Int32).toNatClampNeg (101 : Int32)) q_415 (2 : Int32).toNatClampNeg (116 : Int32)) q_415 (3 : Int32).toNatClampNeg (97 : Int32)) q_415 (4 : Int32).toNatClampNeg (100 : Int32)) q_415 (5 : Int32).toNatClampNeg (100 : Int32)) q_415 (6 : Int32).toNatClampNeg (109 : Int32)) q_415 (7 : Int32).toNatClampNeg (97 : Int32)).2.2.1 q_367 = 8 := n_424
  have n_451 : (sC (sC (sC (sC (sC (sC (sC (sC g_433 q_415 (0 : Int32).toNatClampNeg (115 : Int32)) q_415 (1 : Int32).toNatClampNeg (101 : Int32)) q_415 (2 : Int32).toNatClampNeg (116 : Int32)) q_415 (3 : Int32).toNatClampNeg (97 : Int32)) q_415 (4 : Int32).toNatClampNeg (100 : Int32)) q_415 (5 : Int32).toNatClampNeg (100 : Int32)) q_415 (6 : Int32).toNatClampNeg (109 : Int32)) q_415 (7 : Int32).toNatClampNeg (97 : Int32)).2.2.1 q_380 = 8 := n_425
  have n_452 : (sC (sC (sC (sC (sC (sC (sC (sC g_433 q_415 (0 : Int32).toNatClampNeg (115 : Int32)) q_415 (1 : Int32).toNatClampNeg (101 : Int32)) q_415 (2 : Int32).toNatClampNeg (116 : Int32)) q_415 (3 : Int32).toNatClampNeg (97 : Int32)) q_415 (4 : Int32).toNatClampNeg (100 : Int32)) q_415 (5 : Int32).toNatClampNeg (100 : Int32)) q_415 (6 : Int32).toNatClampNeg (109 : Int32)) q_415 (7 : Int32).toNatClampNeg (97 : Int32)).2.2.1 q_415 = 24 := n_426
  have kn_453 : (sC (sC (sC (sC (sC (sC (sC (sC g_433 q_415 (0 : Int32).toNatClampNeg (115 : Int32)) q_415 (1 : Int32).toNatClampNeg (101 : Int32)) q_415 (2 : Int32).toNatClampNeg (116 : Int32)) q_415 (3 : Int32).toNatClampNeg (97 : Int32)) q_415 (4 : Int32).toNatClampNeg (100 : Int32)) q_415 (5 : Int32).toNatClampNeg (100 : Int32)) q_415 (6 : Int32).toNatClampNeg (109 : Int32)) q_415 (7 : Int32).toNatClampNeg (97 : Int32)).2.1 h 22 = .int 0 := kn_427
  have kn_454 : (sC (sC (sC (sC (sC (sC (sC (sC g_433 q_415 (0 : Int32).toNatClampNeg (115 : Int32)) q_415 (1 : Int32).toNatClampNeg (101 : Int32)) q_415 (2 : Int32).toNatClampNeg (116 : Int32)) q_415 (3 : Int32).toNatClampNeg (97 : Int32)) q_415 (4 : Int32).toNatClampNeg (100 : Int32)) q_415 (5 : Int32).toNatClampNeg (100 : Int32)) q_415 (6 : Int32).toNatClampNeg (109 : Int32)) q_415 (7 : Int32).toNatClampNeg (97 : Int32)).2.1 h 34 = .int 0 := kn_428
  have kn_455 : (sC (sC (sC (sC (sC (sC (sC (sC g_433 q_415 (0 : Int32).toNatClampNeg (115 : Int32)) q_415 (1 : Int32).toNatClampNeg (101 : Int32)) q_415 (2 : Int32).toNatClampNeg (116 : Int32)) q_415 (3 : Int32).toNatClampNeg (97 : Int32)) q_415 (4 : Int32).toNatClampNeg (100 : Int32)) q_415 (5 : Int32).toNatClampNeg (100 : Int32)) q_415 (6 : Int32).toNatClampNeg (109 : Int32)) q_415 (7 : Int32).toNatClampNeg (97 : Int32)).2.1 h 2 = .ref q_8 := kn_429
  have kn_456 : (sC (sC (sC (sC (sC (sC (sC (sC g_433 q_415 (0 : Int32).toNatClampNeg (115 : Int32)) q_415 (1 : Int32).toNatClampNeg (101 : Int32)) q_415 (2 : Int32).toNatClampNeg (116 : Int32)) q_415 (3 : Int32).toNatClampNeg (97 : Int32)) q_415 (4 : Int32).toNatClampNeg (100 : Int32)) q_415 (5 : Int32).toNatClampNeg (100 : Int32)) q_415 (6 : Int32).toNatClampNeg (109 : Int32)) q_415 (7 : Int32).toNatClampNeg (97 : Int32)).2.1 h 3 = .ref q_15 := kn_430
  have kn_457 : (sC (sC (sC (sC (sC (sC (sC (sC g_433 q_415 (0 : Int32).toNatClampNeg (115 : Int32)) q_415 (1 : Int32).toNatClampNeg (101 : Int32)) q_415 (2 : Int32).toNatClampNeg (116 : Int32)) q_415 (3 : Int32).toNatClampNeg (97 : Int32)) q_415 (4 : Int32).toNatClampNeg (100 : Int32)) q_415 (5 : Int32).toNatClampNeg (100 : Int32)) q_415 (6 : Int32).toNatClampNeg (109 : Int32)) q_415 (7 : Int32).toNatClampNeg (97 : Int32)).2.1 h 39 = .ref q_367 := kn_431
  have kn_458 : (sC (sC (sC (sC (sC (sC (sC (sC g_433 q_415 (0 : Int32).toNatClampNeg (115 : Int32)) q_415 (1 : Int32).toNatClampNeg (101 : Int32)) q_415 (2 : Int32).toNatClampNeg (116 : Int32)) q_415 (3 : Int32).toNatClampNeg (97 : Int32)) q_415 (4 : Int32).toNatClampNeg (100 : Int32)) q_415 (5 : Int32).toNatClampNeg (100 : Int32)) q_415 (6 : Int32).toNatClampNeg (109 : Int32)) q_415 (7 : Int32).toNatClampNeg (97 : Int32)).2.1 h 40 = .ref q_380 := kn_432
  have kn_459 : (sC (sC (sC (sC (sC (sC (sC (sC g_433 q_415 (0 : Int32).toNatClampNeg (115 : Int32)) q_415 (1 : Int32).toNatClampNeg (101 : Int32)) q_415 (2 : Int32).toNatClampNeg (116 : Int32)) q_415 (3 : Int32).toNatClampNeg (97 : Int32)) q_415 (4 : Int32).toNatClampNeg (100 : Int32)) q_415 (5 : Int32).toNatClampNeg (100 : Int32)) q_415 (6 : Int32).toNatClampNeg (109 : Int32)) q_415 (7 : Int32).toNatClampNeg (97 : Int32)).2.2.2.1 q_415 (0 : Int32).toNatClampNeg = 115 := (sC_i (sC_i (sC_i (sC_i (sC_i (sC_i (sC_i sC_eq (by decide)) (by decide)) (by decide)) (by decide)) (by decide)) (by decide)) (by decide))
  have kn_460 : (sC (sC (sC (sC (sC (sC (sC (sC g_433 q_415 (0 : Int32).toNatClampNeg (115 : Int32)) q_415 (1 : Int32).toNatClampNeg (101 : Int32)) q_415 (2 : Int32).toNatClampNeg (116 : Int32)) q_415 (3 : Int32).toNatClampNeg (97 : Int32)) q_415 (4 : Int32).toNatClampNeg (100 : Int32)) q_415 (5 : Int32).toNatClampNeg (100 : Int32)) q_415 (6 : Int32).toNatClampNeg (109 : Int32)) q_415 (7 : Int32).toNatClampNeg (97 : Int32)).2.2.2.1 q_415 (1 : Int32).toNatClampNeg = 101 := (sC_i (sC_i (sC_i (sC_i (sC_i (sC_i sC_eq (by decide)) (by decide)) (by decide)) (by decide)) (by decide)) (by decide))
  have kn_461 : (sC (sC (sC (sC (sC (sC (sC (sC g_433 q_415 (0 : Int32).toNatClampNeg (115 : Int32)) q_415 (1 : Int32).toNatClampNeg (101 : Int32)) q_415 (2 : Int32).toNatClampNeg (116 : Int32)) q_415 (3 : Int32).toNatClampNeg (97 : Int32)) q_415 (4 : Int32).toNatClampNeg (100 : Int32)) q_415 (5 : Int32).toNatClampNeg (100 : Int32)) q_415 (6 : Int32).toNatClampNeg (109 : Int32)) q_415 (7 : Int32).toNatClampNeg (97 : Int32)).2.2.2.1 q_415 (2 : Int32).toNatClampNeg = 116 := (sC_i (sC_i (sC_i (sC_i (sC_i sC_eq (by decide)) (by decide)) (by decide)) (by decide)) (by decide))
  have kn_462 : (sC (sC (sC (sC (sC (sC (sC (sC g_433 q_415 (0 : Int32).toNatClampNeg (115 : Int32)) q_415 (1 : Int32).toNatClampNeg (101 : Int32)) q_415 (2 : Int32).toNatClampNeg (116 : Int32)) q_415 (3 : Int32).toNatClampNeg (97 : Int32)) q_415 (4 : Int32).toNatClampNeg (100 : Int32)) q_415 (5 : Int32).toNatClampNeg (100 : Int32)) q_415 (6 : Int32).toNatClampNeg (109 : Int32)) q_415 (7 : Int32).toNatClampNeg (97 : Int32)).2.2.2.1 q_415 (3 : Int32).toNatClampNeg = 97 := (sC_i (sC_i (sC_i (sC_i sC_eq (by decide)) (by decide)) (by decide)) (by decide))
  have kn_463 : (sC (sC (sC (sC (sC (sC (sC (sC g_433 q_415 (0 : Int32).toNatClampNeg (115 : Int32)) q_415 (1 : Int32).toNatClampNeg (101 : Int32)) q_415 (2 : Int32).toNatClampNeg (116 : Int32)) q_415 (3 : Int32).toNatClampNeg (97 : Int32)) q_415 (4 : Int32).toNatClampNeg (100 : Int32)) q_415 (5 : Int32).toNatClampNeg (100 : Int32)) q_415 (6 : Int32).toNatClampNeg (109 : Int32)) q_415 (7 : Int32).toNatClampNeg (97 : Int32)).2.2.2.1 q_415 (4 : Int32).toNatClampNeg = 100 := (sC_i (sC_i (sC_i sC_eq (by decide)) (by decide)) (by decide))
  have kn_464 : (sC (sC (sC (sC (sC (sC (sC (sC g_433 q_415 (0 : Int32).toNatClampNeg (115 : Int32)) q_415 (1 : Int32).toNatClampNeg (101 : Int32)) q_415 (2 : Int32).toNatClampNeg (116 : Int32)) q_415 (3 : Int32).toNatClampNeg (97 : Int32)) q_415 (4 : Int32).toNatClampNeg (100 : Int32)) q_415 (5 : Int32).toNatClampNeg (100 : Int32)) q_415 (6 : Int32).toNatClampNeg (109 : Int32)) q_415 (7 : Int32).toNatClampNeg (97 : Int32)).2.2.2.1 q_415 (5 : Int32).toNatClampNeg = 100 := (sC_i (sC_i sC_eq (by decide)) (by decide))
  have kn_465 : (sC (sC (sC (sC (sC (sC (sC (sC g_433 q_415 (0 : Int32).toNatClampNeg (115 : Int32)) q_415 (1 : Int32).toNatClampNeg (101 : Int32)) q_415 (2 : Int32).toNatClampNeg (116 : Int32)) q_415 (3 : Int32).toNatClampNeg (97 : Int32)) q_415 (4 : Int32).toNatClampNeg (100 : Int32)) q_415 (5 : Int32).toNatClampNeg (100 : Int32)) q_415 (6 : Int32).toNatClampNeg (109 : Int32)) q_415 (7 : Int32).toNatClampNeg (97 : Int32)).2.2.2.1 q_415 (6 : Int32).toNatClampNeg = 109 := (sC_i sC_eq (by decide))
  have kn_466 : (sC (sC (sC (sC (sC (sC (sC (sC g_433 q_415 (0 : Int32).toNatClampNeg (115 : Int32)) q_415 (1 : Int32).toNatClampNeg (101 : Int32)) q_415 (2 : Int32).toNatClampNeg (116 : Int32)) q_415 (3 : Int32).toNatClampNeg (97 : Int32)) q_415 (4 : Int32).toNatClampNeg (100 : Int32)) q_415 (5 : Int32).toNatClampNeg (100 : Int32)) q_415 (6 : Int32).toNatClampNeg (109 : Int32)) q_415 (7 : Int32).toNatClampNeg (97 : Int32)).2.2.2.1 q_415 (7 : Int32).toNatClampNeg = 97 := sC_eq
  generalize (sC (sC (sC (sC (sC (sC (sC (sC g_433 q_415 (0 : Int32).toNatClampNeg (115 : Int32)) q_415 (1 : Int32).toNatClampNeg (101 : Int32)) q_415 (2 : Int32).toNatClampNeg (116 : Int32)) q_415 (3 : Int32).toNatClampNeg (97 : Int32)) q_415 (4 : Int32).toNatClampNeg (100 : Int32)) q_415 (5 : Int32).toNatClampNeg (100 : Int32)) q_415 (6 : Int32).toNatClampNeg (109 : Int32)) q_415 (7 : Int32).toNatClampNeg (97 : Int32)) = g_467 at hT hI hM hE r_442 r_443 r_444 r_445 r_446 r_447 n_448 n_449 n_450 n_451 n_452 kn_453 kn_454 kn_455 kn_456 kn_457 kn_458 kn_459 kn_460 kn_461 kn_462 kn_463 kn_464 kn_465 kn_466 hP zP zN
  refine lv_dup hx hb dX7_init_325 rfl ?_
  refine lv_bipush (v := 8) hx hb dX7_init_326 (by decide) ?_
  refine lv_bipush (v := 120) hx hb dX7_init_328 (by decide) ?_
  have i_468 : vp_in (8 : Int32) 24 := (by unfold vp_in; decide)
  refine t_iast hB hT (ro_in r_447 (by decide)) n_452 i_468 dX7_init_330 (fun H locs hT => ?_)
  have hI : Inv (sC g_467 q_415 (8 : Int32).toNatClampNeg (120 : Int32)) := hI.sC (ck r_447 ⟨by decide, by decide⟩)
  have hM : Sm md_k_Model g (sC g_467 q_415 (8 : Int32).toNatClampNeg (120 : Int32)) := hM.tr hE (Sm_sC (by rw [r_447]; rfl))
  have hE : Ex g (sC g_467 q_415 (8 : Int32).toNatClampNeg (120 : Int32)) := hE
  have hP : PF [41, 40, 39, 35, 33, 32, 31, 28, 27, 26, 25, 23, 20, 19, 18, 17, 16, 15, 14, 13, 12, 11, 10, 9, 8, 7, 6, 5, 4, 3, 2, 1, 60, 52, 51, 50, 49, 38, 37, 36, 34, 30, 29, 24, 22, 21, 0] (sC g_467 q_415 (8 : Int32).toNatClampNeg (120 : Int32)) h := hP.tC 
  have zP : ZC (sC g_467 q_415 (8 : Int32).toNatClampNeg (120 : Int32)) q_15 := zP.tC (ro_ne r_444 r_447 (by decide))
  have zN : ZC (sC g_467 q_415 (8 : Int32).toNatClampNeg (120 : Int32)) q_380 := zN.tC (ro_ne r_446 r_447 (by decide))
  refine lv_dup hx hb dX7_init_331 rfl ?_
  refine lv_bipush (v := 9) hx hb dX7_init_332 (by decide) ?_
  refine lv_bipush (v := 110) hx hb dX7_init_334 (by decide) ?_
  have i_469 : vp_in (9 : Int32) 24 := (by unfold vp_in; decide)
  refine t_iast hB hT (ro_in r_447 (by decide)) n_452 i_469 dX7_init_336 (fun H locs hT => ?_)
  have hI : Inv (sC (sC g_467 q_415 (8 : Int32).toNatClampNeg (120 : Int32)) q_415 (9 : Int32).toNatClampNeg (110 : Int32)) := hI.sC (ck r_447 ⟨by decide, by decide⟩)
  have hM : Sm md_k_Model g (sC (sC g_467 q_415 (8 : Int32).toNatClampNeg (120 : Int32)) q_415 (9 : Int32).toNatClampNeg (110 : Int32)) := hM.tr hE (Sm_sC (by rw [r_447]; rfl))
  have hE : Ex g (sC (sC g_467 q_415 (8 : Int32).toNatClampNeg (120 : Int32)) q_415 (9 : Int32).toNatClampNeg (110 : Int32)) := hE
  have hP : PF [41, 40, 39, 35, 33, 32, 31, 28, 27, 26, 25, 23, 20, 19, 18, 17, 16, 15, 14, 13, 12, 11, 10, 9, 8, 7, 6, 5, 4, 3, 2, 1, 60, 52, 51, 50, 49, 38, 37, 36, 34, 30, 29, 24, 22, 21, 0] (sC (sC g_467 q_415 (8 : Int32).toNatClampNeg (120 : Int32)) q_415 (9 : Int32).toNatClampNeg (110 : Int32)) h := hP.tC 
  have zP : ZC (sC (sC g_467 q_415 (8 : Int32).toNatClampNeg (120 : Int32)) q_415 (9 : Int32).toNatClampNeg (110 : Int32)) q_15 := zP.tC (ro_ne r_444 r_447 (by decide))
  have zN : ZC (sC (sC g_467 q_415 (8 : Int32).toNatClampNeg (120 : Int32)) q_415 (9 : Int32).toNatClampNeg (110 : Int32)) q_380 := zN.tC (ro_ne r_446 r_447 (by decide))
  refine lv_dup hx hb dX7_init_337 rfl ?_
  refine lv_bipush (v := 10) hx hb dX7_init_338 (by decide) ?_
  refine lv_bipush (v := 101) hx hb dX7_init_340 (by decide) ?_
  have i_470 : vp_in (10 : Int32) 24 := (by unfold vp_in; decide)
  refine t_iast hB hT (ro_in r_447 (by decide)) n_452 i_470 dX7_init_342 (fun H locs hT => ?_)
  have hI : Inv (sC (sC (sC g_467 q_415 (8 : Int32).toNatClampNeg (120 : Int32)) q_415 (9 : Int32).toNatClampNeg (110 : Int32)) q_415 (10 : Int32).toNatClampNeg (101 : Int32)) := hI.sC (ck r_447 ⟨by decide, by decide⟩)
  have hM : Sm md_k_Model g (sC (sC (sC g_467 q_415 (8 : Int32).toNatClampNeg (120 : Int32)) q_415 (9 : Int32).toNatClampNeg (110 : Int32)) q_415 (10 : Int32).toNatClampNeg (101 : Int32)) := hM.tr hE (Sm_sC (by rw [r_447]; rfl))
  have hE : Ex g (sC (sC (sC g_467 q_415 (8 : Int32).toNatClampNeg (120 : Int32)) q_415 (9 : Int32).toNatClampNeg (110 : Int32)) q_415 (10 : Int32).toNatClampNeg (101 : Int32)) := hE
  have hP : PF [41, 40, 39, 35, 33, 32, 31, 28, 27, 26, 25, 23, 20, 19, 18, 17, 16, 15, 14, 13, 12, 11, 10, 9, 8, 7, 6, 5, 4, 3, 2, 1, 60, 52, 51, 50, 49, 38, 37, 36, 34, 30, 29, 24, 22, 21, 0] (sC (sC (sC g_467 q_415 (8 : Int32).toNatClampNeg (120 : Int32)) q_415 (9 : Int32).toNatClampNeg (110 : Int32)) q_415 (10 : Int32).toNatClampNeg (101 : Int32)) h := hP.tC 
  have zP : ZC (sC (sC (sC g_467 q_415 (8 : Int32).toNatClampNeg (120 : Int32)) q_415 (9 : Int32).toNatClampNeg (110 : Int32)) q_415 (10 : Int32).toNatClampNeg (101 : Int32)) q_15 := zP.tC (ro_ne r_444 r_447 (by decide))
  have zN : ZC (sC (sC (sC g_467 q_415 (8 : Int32).toNatClampNeg (120 : Int32)) q_415 (9 : Int32).toNatClampNeg (110 : Int32)) q_415 (10 : Int32).toNatClampNeg (101 : Int32)) q_380 := zN.tC (ro_ne r_446 r_447 (by decide))
  refine lv_dup hx hb dX7_init_343 rfl ?_
  refine lv_bipush (v := 11) hx hb dX7_init_344 (by decide) ?_
  refine lv_bipush (v := 119) hx hb dX7_init_346 (by decide) ?_
  have i_471 : vp_in (11 : Int32) 24 := (by unfold vp_in; decide)
  refine t_iast hB hT (ro_in r_447 (by decide)) n_452 i_471 dX7_init_348 (fun H locs hT => ?_)
  have hI : Inv (sC (sC (sC (sC g_467 q_415 (8 : Int32).toNatClampNeg (120 : Int32)) q_415 (9 : Int32).toNatClampNeg (110 : Int32)) q_415 (10 : Int32).toNatClampNeg (101 : Int32)) q_415 (11 : Int32).toNatClampNeg (119 : Int32)) := hI.sC (ck r_447 ⟨by decide, by decide⟩)
  have hM : Sm md_k_Model g (sC (sC (sC (sC g_467 q_415 (8 : Int32).toNatClampNeg (120 : Int32)) q_415 (9 : Int32).toNatClampNeg (110 : Int32)) q_415 (10 : Int32).toNatClampNeg (101 : Int32)) q_415 (11 : Int32).toNatClampNeg (119 : Int32)) := hM.tr hE (Sm_sC (by rw [r_447]; rfl))
  have hE : Ex g (sC (sC (sC (sC g_467 q_415 (8 : Int32).toNatClampNeg (120 : Int32)) q_415 (9 : Int32).toNatClampNeg (110 : Int32)) q_415 (10 : Int32).toNatClampNeg (101 : Int32)) q_415 (11 : Int32).toNatClampNeg (119 : Int32)) := hE
  have hP : PF [41, 40, 39, 35, 33, 32, 31, 28, 27, 26, 25, 23, 20, 19, 18, 17, 16, 15, 14, 13, 12, 11, 10, 9, 8, 7, 6, 5, 4, 3, 2, 1, 60, 52, 51, 50, 49, 38, 37, 36, 34, 30, 29, 24, 22, 21, 0] (sC (sC (sC (sC g_467 q_415 (8 : Int32).toNatClampNeg (120 : Int32)) q_415 (9 : Int32).toNatClampNeg (110 : Int32)) q_415 (10 : Int32).toNatClampNeg (101 : Int32)) q_415 (11 : Int32).toNatClampNeg (119 : Int32)) h := hP.tC 
  have zP : ZC (sC (sC (sC (sC g_467 q_415 (8 : Int32).toNatClampNeg (120 : Int32)) q_415 (9 : Int32).toNatClampNeg (110 : Int32)) q_415 (10 : Int32).toNatClampNeg (101 : Int32)) q_415 (11 : Int32).toNatClampNeg (119 : Int32)) q_15 := zP.tC (ro_ne r_444 r_447 (by decide))
  have zN : ZC (sC (sC (sC (sC g_467 q_415 (8 : Int32).toNatClampNeg (120 : Int32)) q_415 (9 : Int32).toNatClampNeg (110 : Int32)) q_415 (10 : Int32).toNatClampNeg (101 : Int32)) q_415 (11 : Int32).toNatClampNeg (119 : Int32)) q_380 := zN.tC (ro_ne r_446 r_447 (by decide))
  refine lv_dup hx hb dX7_init_349 rfl ?_
  refine lv_bipush (v := 12) hx hb dX7_init_350 (by decide) ?_
  refine lv_bipush (v := 103) hx hb dX7_init_352 (by decide) ?_
  have i_472 : vp_in (12 : Int32) 24 := (by unfold vp_in; decide)
  refine t_iast hB hT (ro_in r_447 (by decide)) n_452 i_472 dX7_init_354 (fun H locs hT => ?_)
  have hI : Inv (sC (sC (sC (sC (sC g_467 q_415 (8 : Int32).toNatClampNeg (120 : Int32)) q_415 (9 : Int32).toNatClampNeg (110 : Int32)) q_415 (10 : Int32).toNatClampNeg (101 : Int32)) q_415 (11 : Int32).toNatClampNeg (119 : Int32)) q_415 (12 : Int32).toNatClampNeg (103 : Int32)) := hI.sC (ck r_447 ⟨by decide, by decide⟩)
  have hM : Sm md_k_Model g (sC (sC (sC (sC (sC g_467 q_415 (8 : Int32).toNatClampNeg (120 : Int32)) q_415 (9 : Int32).toNatClampNeg (110 : Int32)) q_415 (10 : Int32).toNatClampNeg (101 : Int32)) q_415 (11 : Int32).toNatClampNeg (119 : Int32)) q_415 (12 : Int32).toNatClampNeg (103 : Int32)) := hM.tr hE (Sm_sC (by rw [r_447]; rfl))
  have hE : Ex g (sC (sC (sC (sC (sC g_467 q_415 (8 : Int32).toNatClampNeg (120 : Int32)) q_415 (9 : Int32).toNatClampNeg (110 : Int32)) q_415 (10 : Int32).toNatClampNeg (101 : Int32)) q_415 (11 : Int32).toNatClampNeg (119 : Int32)) q_415 (12 : Int32).toNatClampNeg (103 : Int32)) := hE
  have hP : PF [41, 40, 39, 35, 33, 32, 31, 28, 27, 26, 25, 23, 20, 19, 18, 17, 16, 15, 14, 13, 12, 11, 10, 9, 8, 7, 6, 5, 4, 3, 2, 1, 60, 52, 51, 50, 49, 38, 37, 36, 34, 30, 29, 24, 22, 21, 0] (sC (sC (sC (sC (sC g_467 q_415 (8 : Int32).toNatClampNeg (120 : Int32)) q_415 (9 : Int32).toNatClampNeg (110 : Int32)) q_415 (10 : Int32).toNatClampNeg (101 : Int32)) q_415 (11 : Int32).toNatClampNeg (119 : Int32)) q_415 (12 : Int32).toNatClampNeg (103 : Int32)) h := hP.tC 
  have zP : ZC (sC (sC (sC (sC (sC g_467 q_415 (8 : Int32).toNatClampNeg (120 : Int32)) q_415 (9 : Int32).toNatClampNeg (110 : Int32)) q_415 (10 : Int32).toNatClampNeg (101 : Int32)) q_415 (11 : Int32).toNatClampNeg (119 : Int32)) q_415 (12 : Int32).toNatClampNeg (103 : Int32)) q_15 := zP.tC (ro_ne r_444 r_447 (by decide))
  have zN : ZC (sC (sC (sC (sC (sC g_467 q_415 (8 : Int32).toNatClampNeg (120 : Int32)) q_415 (9 : Int32).toNatClampNeg (110 : Int32)) q_415 (10 : Int32).toNatClampNeg (101 : Int32)) q_415 (11 : Int32).toNatClampNeg (119 : Int32)) q_415 (12 : Int32).toNatClampNeg (103 : Int32)) q_380 := zN.tC (ro_ne r_446 r_447 (by decide))
  refine lv_dup hx hb dX7_init_355 rfl ?_
  refine lv_bipush (v := 13) hx hb dX7_init_356 (by decide) ?_
  refine lv_bipush (v := 101) hx hb dX7_init_358 (by decide) ?_
  have i_473 : vp_in (13 : Int32) 24 := (by unfold vp_in; decide)
  refine t_iast hB hT (ro_in r_447 (by decide)) n_452 i_473 dX7_init_360 (fun H locs hT => ?_)
  have hI : Inv (sC (sC (sC (sC (sC (sC g_467 q_415 (8 : Int32).toNatClampNeg (120 : Int32)) q_415 (9 : Int32).toNatClampNeg (110 : Int32)) q_415 (10 : Int32).toNatClampNeg (101 : Int32)) q_415 (11 : Int32).toNatClampNeg (119 : Int32)) q_415 (12 : Int32).toNatClampNeg (103 : Int32)) q_415 (13 : Int32).toNatClampNeg (101 : Int32)) := hI.sC (ck r_447 ⟨by decide, by decide⟩)
  have hM : Sm md_k_Model g (sC (sC (sC (sC (sC (sC g_467 q_415 (8 : Int32).toNatClampNeg (120 : Int32)) q_415 (9 : Int32).toNatClampNeg (110 : Int32)) q_415 (10 : Int32).toNatClampNeg (101 : Int32)) q_415 (11 : Int32).toNatClampNeg (119 : Int32)) q_415 (12 : Int32).toNatClampNeg (103 : Int32)) q_415 (13 : Int32).toNatClampNeg (101 : Int32)) := hM.tr hE (Sm_sC (by rw [r_447]; rfl))
  have hE : Ex g (sC (sC (sC (sC (sC (sC g_467 q_415 (8 : Int32).toNatClampNeg (120 : Int32)) q_415 (9 : Int32).toNatClampNeg (110 : Int32)) q_415 (10 : Int32).toNatClampNeg (101 : Int32)) q_415 (11 : Int32).toNatClampNeg (119 : Int32)) q_415 (12 : Int32).toNatClampNeg (103 : Int32)) q_415 (13 : Int32).toNatClampNeg (101 : Int32)) := hE
  have hP : PF [41, 40, 39, 35, 33, 32, 31, 28, 27, 26, 25, 23, 20, 19, 18, 17, 16, 15, 14, 13, 12, 11, 10, 9, 8, 7, 6, 5, 4, 3, 2, 1, 60, 52, 51, 50, 49, 38, 37, 36, 34, 30, 29, 24, 22, 21, 0] (sC (sC (sC (sC (sC (sC g_467 q_415 (8 : Int32).toNatClampNeg (120 : Int32)) q_415 (9 : Int32).toNatClampNeg (110 : Int32)) q_415 (10 : Int32).toNatClampNeg (101 : Int32)) q_415 (11 : Int32).toNatClampNeg (119 : Int32)) q_415 (12 : Int32).toNatClampNeg (103 : Int32)) q_415 (13 : Int32).toNatClampNeg (101 : Int32)) h := hP.tC 
  have zP : ZC (sC (sC (sC (sC (sC (sC g_467 q_415 (8 : Int32).toNatClampNeg (120 : Int32)) q_415 (9 : Int32).toNatClampNeg (110 : Int32)) q_415 (10 : Int32).toNatClampNeg (101 : Int32)) q_415 (11 : Int32).toNatClampNeg (119 : Int32)) q_415 (12 : Int32).toNatClampNeg (103 : Int32)) q_415 (13 : Int32).toNatClampNeg (101 : Int32)) q_15 := zP.tC (ro_ne r_444 r_447 (by decide))
  have zN : ZC (sC (sC (sC (sC (sC (sC g_467 q_415 (8 : Int32).toNatClampNeg (120 : Int32)) q_415 (9 : Int32).toNatClampNeg (110 : Int32)) q_415 (10 : Int32).toNatClampNeg (101 : Int32)) q_415 (11 : Int32).toNatClampNeg (119 : Int32)) q_415 (12 : Int32).toNatClampNeg (103 : Int32)) q_415 (13 : Int32).toNatClampNeg (101 : Int32)) q_380 := zN.tC (ro_ne r_446 r_447 (by decide))
  refine lv_dup hx hb dX7_init_361 rfl ?_
  refine lv_bipush (v := 14) hx hb dX7_init_362 (by decide) ?_
  refine lv_bipush (v := 116) hx hb dX7_init_364 (by decide) ?_
  have i_474 : vp_in (14 : Int32) 24 := (by unfold vp_in; decide)
  refine t_iast hB hT (ro_in r_447 (by decide)) n_452 i_474 dX7_init_366 (fun H locs hT => ?_)
  have hI : Inv (sC (sC (sC (sC (sC (sC (sC g_467 q_415 (8 : Int32).toNatClampNeg (120 : Int32)) q_415 (9 : Int32).toNatClampNeg (110 : Int32)) q_415 (10 : Int32).toNatClampNeg (101 : Int32)) q_415 (11 : Int32).toNatClampNeg (119 : Int32)) q_415 (12 : Int32).toNatClampNeg (103 : Int32)) q_415 (13 : Int32).toNatClampNeg (101 : Int32)) q_415 (14 : Int32).toNatClampNeg (116 : Int32)) := hI.sC (ck r_447 ⟨by decide, by decide⟩)
  have hM : Sm md_k_Model g (sC (sC (sC (sC (sC (sC (sC g_467 q_415 (8 : Int32).toNatClampNeg (120 : Int32)) q_415 (9 : Int32).toNatClampNeg (110 : Int32)) q_415 (10 : Int32).toNatClampNeg (101 : Int32)) q_415 (11 : Int32).toNatClampNeg (119 : Int32)) q_415 (12 : Int32).toNatClampNeg (103 : Int32)) q_415 (13 : Int32).toNatClampNeg (101 : Int32)) q_415 (14 : Int32).toNatClampNeg (116 : Int32)) := hM.tr hE (Sm_sC (by rw [r_447]; rfl))
  have hE : Ex g (sC (sC (sC (sC (sC (sC (sC g_467 q_415 (8 : Int32).toNatClampNeg (120 : Int32)) q_415 (9 : Int32).toNatClampNeg (110 : Int32)) q_415 (10 : Int32).toNatClampNeg (101 : Int32)) q_415 (11 : Int32).toNatClampNeg (119 : Int32)) q_415 (12 : Int32).toNatClampNeg (103 : Int32)) q_415 (13 : Int32).toNatClampNeg (101 : Int32)) q_415 (14 : Int32).toNatClampNeg (116 : Int32)) := hE
  have hP : PF [41, 40, 39, 35, 33, 32, 31, 28, 27, 26, 25, 23, 20, 19, 18, 17, 16, 15, 14, 13, 12, 11, 10, 9, 8, 7, 6, 5, 4, 3, 2, 1, 60, 52, 51, 50, 49, 38, 37, 36, 34, 30, 29, 24, 22, 21, 0] (sC (sC (sC (sC (sC (sC (sC g_467 q_415 (8 : Int32).toNatClampNeg (120 : Int32)) q_415 (9 : Int32).toNatClampNeg (110 : Int32)) q_415 (10 : Int32).toNatClampNeg (101 : Int32)) q_415 (11 : Int32).toNatClampNeg (119 : Int32)) q_415 (12 : Int32).toNatClampNeg (103 : Int32)) q_415 (13 : Int32).toNatClampNeg (101 : Int32)) q_415 (14 : Int32).toNatClampNeg (116 : Int32)) h := hP.tC 
  have zP : ZC (sC (sC (sC (sC (sC (sC (sC g_467 q_415 (8 : Int32).toNatClampNeg (120 : Int32)) q_415 (9 : Int32).toNatClampNeg (110 : Int32)) q_415 (10 : Int32).toNatClampNeg (101 : Int32)) q_415 (11 : Int32).toNatClampNeg (119 : Int32)) q_415 (12 : Int32).toNatClampNeg (103 : Int32)) q_415 (13 : Int32).toNatClampNeg (101 : Int32)) q_415 (14 : Int32).toNatClampNeg (116 : Int32)) q_15 := zP.tC (ro_ne r_444 r_447 (by decide))
  have zN : ZC (sC (sC (sC (sC (sC (sC (sC g_467 q_415 (8 : Int32).toNatClampNeg (120 : Int32)) q_415 (9 : Int32).toNatClampNeg (110 : Int32)) q_415 (10 : Int32).toNatClampNeg (101 : Int32)) q_415 (11 : Int32).toNatClampNeg (119 : Int32)) q_415 (12 : Int32).toNatClampNeg (103 : Int32)) q_415 (13 : Int32).toNatClampNeg (101 : Int32)) q_415 (14 : Int32).toNatClampNeg (116 : Int32)) q_380 := zN.tC (ro_ne r_446 r_447 (by decide))
  refine lv_dup hx hb dX7_init_367 rfl ?_
  refine lv_bipush (v := 15) hx hb dX7_init_368 (by decide) ?_
  refine lv_bipush (v := 97) hx hb dX7_init_370 (by decide) ?_
  have i_475 : vp_in (15 : Int32) 24 := (by unfold vp_in; decide)
  refine t_iast hB hT (ro_in r_447 (by decide)) n_452 i_475 dX7_init_372 (fun H locs hT => ?_)
  have hI : Inv (sC (sC (sC (sC (sC (sC (sC (sC g_467 q_415 (8 : Int32).toNatClampNeg (120 : Int32)) q_415 (9 : Int32).toNatClampNeg (110 : Int32)) q_415 (10 : Int32).toNatClampNeg (101 : Int32)) q_415 (11 : Int32).toNatClampNeg (119 : Int32)) q_415 (12 : Int32).toNatClampNeg (103 : Int32)) q_415 (13 : Int32).toNatClampNeg (101 : Int32)) q_415 (14 : Int32).toNatClampNeg (116 : Int32)) q_415 (15 : Int32).toNatClampNeg (97 : Int32)) := hI.sC (ck r_447 ⟨by decide, by decide⟩)
  have hM : Sm md_k_Model g (sC (sC (sC (sC (sC (sC (sC (sC g_467 q_415 (8 : Int32).toNatClampNeg (120 : Int32)) q_415 (9 : Int32).toNatClampNeg (110 : Int32)) q_415 (10 : Int32).toNatClampNeg (101 : Int32)) q_415 (11 : Int32).toNatClampNeg (119 : Int32)) q_415 (12 : Int32).toNatClampNeg (103 : Int32)) q_415 (13 : Int32).toNatClampNeg (101 : Int32)) q_415 (14 : Int32).toNatClampNeg (116 : Int32)) q_415 (15 : Int32).toNatClampNeg (97 : Int32)) := hM.tr hE (Sm_sC (by rw [r_447]; rfl))
  have hE : Ex g (sC (sC (sC (sC (sC (sC (sC (sC g_467 q_415 (8 : Int32).toNatClampNeg (120 : Int32)) q_415 (9 : Int32).toNatClampNeg (110 : Int32)) q_415 (10 : Int32).toNatClampNeg (101 : Int32)) q_415 (11 : Int32).toNatClampNeg (119 : Int32)) q_415 (12 : Int32).toNatClampNeg (103 : Int32)) q_415 (13 : Int32).toNatClampNeg (101 : Int32)) q_415 (14 : Int32).toNatClampNeg (116 : Int32)) q_415 (15 : Int32).toNatClampNeg (97 : Int32)) := hE
  have hP : PF [41, 40, 39, 35, 33, 32, 31, 28, 27, 26, 25, 23, 20, 19, 18, 17, 16, 15, 14, 13, 12, 11, 10, 9, 8, 7, 6, 5, 4, 3, 2, 1, 60, 52, 51, 50, 49, 38, 37, 36, 34, 30, 29, 24, 22, 21, 0] (sC (sC (sC (sC (sC (sC (sC (sC g_467 q_415 (8 : Int32).toNatClampNeg (120 : Int32)) q_415 (9 : Int32).toNatClampNeg (110 : Int32)) q_415 (10 : Int32).toNatClampNeg (101 : Int32)) q_415 (11 : Int32).toNatClampNeg (119 : Int32)) q_415 (12 : Int32).toNatClampNeg (103 : Int32)) q_415 (13 : Int32).toNatClampNeg (101 : Int32)) q_415 (14 : Int32).toNatClampNeg (116 : Int32)) q_415 (15 : Int32).toNatClampNeg (97 : Int32)) h := hP.tC 
  have zP : ZC (sC (sC (sC (sC (sC (sC (sC (sC g_467 q_415 (8 : Int32).toNatClampNeg (120 : Int32)) q_415 (9 : Int32).toNatClampNeg (110 : Int32)) q_415 (10 : Int32).toNatClampNeg (101 : Int32)) q_415 (11 : Int32).toNatClampNeg (119 : Int32)) q_415 (12 : Int32).toNatClampNeg (103 : Int32)) q_415 (13 : Int32).toNatClampNeg (101 : Int32)) q_415 (14 : Int32).toNatClampNeg (116 : Int32)) q_415 (15 : Int32).toNatClampNeg (97 : Int32)) q_15 := zP.tC (ro_ne r_444 r_447 (by decide))
  have zN : ZC (sC (sC (sC (sC (sC (sC (sC (sC g_467 q_415 (8 : Int32).toNatClampNeg (120 : Int32)) q_415 (9 : Int32).toNatClampNeg (110 : Int32)) q_415 (10 : Int32).toNatClampNeg (101 : Int32)) q_415 (11 : Int32).toNatClampNeg (119 : Int32)) q_415 (12 : Int32).toNatClampNeg (103 : Int32)) q_415 (13 : Int32).toNatClampNeg (101 : Int32)) q_415 (14 : Int32).toNatClampNeg (116 : Int32)) q_415 (15 : Int32).toNatClampNeg (97 : Int32)) q_380 := zN.tC (ro_ne r_446 r_447 (by decide))
  have r_476 : (sC (sC (sC (sC (sC (sC (sC (sC g_467 q_415 (8 : Int32).toNatClampNeg (120 : Int32)) q_415 (9 : Int32).toNatClampNeg (110 : Int32)) q_415 (10 : Int32).toNatClampNeg (101 : Int32)) q_415 (11 : Int32).toNatClampNeg (119 : Int32)) q_415 (12 : Int32).toNatClampNeg (103 : Int32)) q_415 (13 : Int32).toNatClampNeg (101 : Int32)) q_415 (14 : Int32).toNatClampNeg (116 : Int32)) q_415 (15 : Int32).toNatClampNeg (97 : Int32)).1 h = 18 := r_442
  have r_477 : (sC (sC (sC (sC (sC (sC (sC (sC g_467 q_415 (8 : Int32).toNatClampNeg (120 : Int32)) q_415 (9 : Int32).toNatClampNeg (110 : Int32)) q_415 (10 : Int32).toNatClampNeg (101 : Int32)) q_415 (11 : Int32).toNatClampNeg (119 : Int32)) q_415 (12 : Int32).toNatClampNeg (103 : Int32)) q_415 (13 : Int32).toNatClampNeg (101 : Int32)) q_415 (14 : Int32).toNatClampNeg (116 : Int32)) q_415 (15 : Int32).toNatClampNeg (97 : Int32)).1 q_8 = 71 := r_443
  have r_478 : (sC (sC (sC (sC (sC (sC (sC (sC g_467 q_415 (8 : Int32).toNatClampNeg (120 : Int32)) q_415 (9 : Int32).toNatClampNeg (110 : Int32)) q_415 (10 : Int32).toNatClampNeg (101 : Int32)) q_415 (11 : Int32).toNatClampNeg (119 : Int32)) q_415 (12 : Int32).toNatClampNeg (103 : Int32)) q_415 (13 : Int32).toNatClampNeg (101 : Int32)) q_415 (14 : Int32).toNatClampNeg (116 : Int32)) q_415 (15 : Int32).toNatClampNeg (97 : Int32)).1 q_15 = 72 := r_444
  have r_479 : (sC (sC (sC (sC (sC (sC (sC (sC g_467 q_415 (8 : Int32).toNatClampNeg (120 : Int32)) q_415 (9 : Int32).toNatClampNeg (110 : Int32)) q_415 (10 : Int32).toNatClampNeg (101 : Int32)) q_415 (11 : Int32).toNatClampNeg (119 : Int32)) q_415 (12 : Int32).toNatClampNeg (103 : Int32)) q_415 (13 : Int32).toNatClampNeg (101 : Int32)) q_415 (14 : Int32).toNatClampNeg (116 : Int32)) q_415 (15 : Int32).toNatClampNeg (97 : Int32)).1 q_367 = 84 := r_445
  have r_480 : (sC (sC (sC (sC (sC (sC (sC (sC g_467 q_415 (8 : Int32).toNatClampNeg (120 : Int32)) q_415 (9 : Int32).toNatClampNeg (110 : Int32)) q_415 (10 : Int32).toNatClampNeg (101 : Int32)) q_415 (11 : Int32).toNatClampNeg (119 : Int32)) q_415 (12 : Int32).toNatClampNeg (103 : Int32)) q_415 (13 : Int32).toNatClampNeg (101 : Int32)) q_415 (14 : Int32).toNatClampNeg (116 : Int32)) q_415 (15 : Int32).toNatClampNeg (97 : Int32)).1 q_380 = 85 := r_446
  have r_481 : (sC (sC (sC (sC (sC (sC (sC (sC g_467 q_415 (8 : Int32).toNatClampNeg (120 : Int32)) q_415 (9 : Int32).toNatClampNeg (110 : Int32)) q_415 (10 : Int32).toNatClampNeg (101 : Int32)) q_415 (11 : Int32).toNatClampNeg (119 : Int32)) q_415 (12 : Int32).toNatClampNeg (103 : Int32)) q_415 (13 : Int32).toNatClampNeg (101 : Int32)) q_415 (14 : Int32).toNatClampNeg (116 : Int32)) q_415 (15 : Int32).toNatClampNeg (97 : Int32)).1 q_415 = 87 := r_447
  have n_482 : (sC (sC (sC (sC (sC (sC (sC (sC g_467 q_415 (8 : Int32).toNatClampNeg (120 : Int32)) q_415 (9 : Int32).toNatClampNeg (110 : Int32)) q_415 (10 : Int32).toNatClampNeg (101 : Int32)) q_415 (11 : Int32).toNatClampNeg (119 : Int32)) q_415 (12 : Int32).toNatClampNeg (103 : Int32)) q_415 (13 : Int32).toNatClampNeg (101 : Int32)) q_415 (14 : Int32).toNatClampNeg (116 : Int32)) q_415 (15 : Int32).toNatClampNeg (97 : Int32)).2.2.1 q_8 = 48 := n_448
  have n_483 : (sC (sC (sC (sC (sC (sC (sC (sC g_467 q_415 (8 : Int32).toNatClampNeg (120 : Int32)) q_415 (9 : Int32).toNatClampNeg (110 : Int32)) q_415 (10 : Int32).toNatClampNeg (101 : Int32)) q_415 (11 : Int32).toNatClampNeg (119 : Int32)) q_415 (12 : Int32).toNatClampNeg (103 : Int32)) q_415 (13 : Int32).toNatClampNeg (101 : Int32)) q_415 (14 : Int32).toNatClampNeg (116 : Int32)) q_415 (15 : Int32).toNatClampNeg (97 : Int32)).2.2.1 q_15 = 48 := n_449
  have n_484 : (sC (sC (sC (sC (sC (sC (sC (sC g_467 q_415 (8 : Int32).toNatClampNeg (120 : Int32)) q_415 (9 : Int32).toNatClampNeg (110 : Int32)) q_415 (10 : Int32).toNatClampNeg (101 : Int32)) q_415 (11 : Int32).toNatClampNeg (119 : Int32)) q_415 (12 : Int32).toNatClampNeg (103 : Int32)) q_415 (13 : Int32).toNatClampNeg (101 : Int32)) q_415 (14 : Int32).toNatClampNeg (116 : Int32)) q_415 (15 : Int32).toNatClampNeg (97 : Int32)).2.2.1 q_367 = 8 := n_450
  have n_485 : (sC (sC (sC (sC (sC (sC (sC (sC g_467 q_415 (8 : Int32).toNatClampNeg (120 : Int32)) q_415 (9 : Int32).toNatClampNeg (110 : Int32)) q_415 (10 : Int32).toNatClampNeg (101 : Int32)) q_415 (11 : Int32).toNatClampNeg (119 : Int32)) q_415 (12 : Int32).toNatClampNeg (103 : Int32)) q_415 (13 : Int32).toNatClampNeg (101 : Int32)) q_415 (14 : Int32).toNatClampNeg (116 : Int32)) q_415 (15 : Int32).toNatClampNeg (97 : Int32)).2.2.1 q_380 = 8 := n_451
  have n_486 : (sC (sC (sC (sC (sC (sC (sC (sC g_467 q_415 (8 : Int32).toNatClampNeg (120 : Int32)) q_415 (9 : Int32).toNatClampNeg (110 : Int32)) q_415 (10 : Int32).toNatClampNeg (101 : Int32)) q_415 (11 : Int32).toNatClampNeg (119 : Int32)) q_415 (12 : Int32).toNatClampNeg (103 : Int32)) q_415 (13 : Int32).toNatClampNeg (101 : Int32)) q_415 (14 : Int32).toNatClampNeg (116 : Int32)) q_415 (15 : Int32).toNatClampNeg (97 : Int32)).2.2.1 q_415 = 24 := n_452
  have kn_487 : (sC (sC (sC (sC (sC (sC (sC (sC g_467 q_415 (8 : Int32).toNatClampNeg (120 : Int32)) q_415 (9 : Int32).toNatClampNeg (110 : Int32)) q_415 (10 : Int32).toNatClampNeg (101 : Int32)) q_415 (11 : Int32).toNatClampNeg (119 : Int32)) q_415 (12 : Int32).toNatClampNeg (103 : Int32)) q_415 (13 : Int32).toNatClampNeg (101 : Int32)) q_415 (14 : Int32).toNatClampNeg (116 : Int32)) q_415 (15 : Int32).toNatClampNeg (97 : Int32)).2.1 h 22 = .int 0 := kn_453
  have kn_488 : (sC (sC (sC (sC (sC (sC (sC (sC g_467 q_415 (8 : Int32).toNatClampNeg (120 : Int32)) q_415 (9 : Int32).toNatClampNeg (110 : Int32)) q_415 (10 : Int32).toNatClampNeg (101 : Int32)) q_415 (11 : Int32).toNatClampNeg (119 : Int32)) q_415 (12 : Int32).toNatClampNeg (103 : Int32)) q_415 (13 : Int32).toNatClampNeg (101 : Int32)) q_415 (14 : Int32).toNatClampNeg (116 : Int32)) q_415 (15 : Int32).toNatClampNeg (97 : Int32)).2.1 h 34 = .int 0 := kn_454
  have kn_489 : (sC (sC (sC (sC (sC (sC (sC (sC g_467 q_415 (8 : Int32).toNatClampNeg (120 : Int32)) q_415 (9 : Int32).toNatClampNeg (110 : Int32)) q_415 (10 : Int32).toNatClampNeg (101 : Int32)) q_415 (11 : Int32).toNatClampNeg (119 : Int32)) q_415 (12 : Int32).toNatClampNeg (103 : Int32)) q_415 (13 : Int32).toNatClampNeg (101 : Int32)) q_415 (14 : Int32).toNatClampNeg (116 : Int32)) q_415 (15 : Int32).toNatClampNeg (97 : Int32)).2.1 h 2 = .ref q_8 := kn_455
  have kn_490 : (sC (sC (sC (sC (sC (sC (sC (sC g_467 q_415 (8 : Int32).toNatClampNeg (120 : Int32)) q_415 (9 : Int32).toNatClampNeg (110 : Int32)) q_415 (10 : Int32).toNatClampNeg (101 : Int32)) q_415 (11 : Int32).toNatClampNeg (119 : Int32)) q_415 (12 : Int32).toNatClampNeg (103 : Int32)) q_415 (13 : Int32).toNatClampNeg (101 : Int32)) q_415 (14 : Int32).toNatClampNeg (116 : Int32)) q_415 (15 : Int32).toNatClampNeg (97 : Int32)).2.1 h 3 = .ref q_15 := kn_456
  have kn_491 : (sC (sC (sC (sC (sC (sC (sC (sC g_467 q_415 (8 : Int32).toNatClampNeg (120 : Int32)) q_415 (9 : Int32).toNatClampNeg (110 : Int32)) q_415 (10 : Int32).toNatClampNeg (101 : Int32)) q_415 (11 : Int32).toNatClampNeg (119 : Int32)) q_415 (12 : Int32).toNatClampNeg (103 : Int32)) q_415 (13 : Int32).toNatClampNeg (101 : Int32)) q_415 (14 : Int32).toNatClampNeg (116 : Int32)) q_415 (15 : Int32).toNatClampNeg (97 : Int32)).2.1 h 39 = .ref q_367 := kn_457
  have kn_492 : (sC (sC (sC (sC (sC (sC (sC (sC g_467 q_415 (8 : Int32).toNatClampNeg (120 : Int32)) q_415 (9 : Int32).toNatClampNeg (110 : Int32)) q_415 (10 : Int32).toNatClampNeg (101 : Int32)) q_415 (11 : Int32).toNatClampNeg (119 : Int32)) q_415 (12 : Int32).toNatClampNeg (103 : Int32)) q_415 (13 : Int32).toNatClampNeg (101 : Int32)) q_415 (14 : Int32).toNatClampNeg (116 : Int32)) q_415 (15 : Int32).toNatClampNeg (97 : Int32)).2.1 h 40 = .ref q_380 := kn_458
  have kn_493 : (sC (sC (sC (sC (sC (sC (sC (sC g_467 q_415 (8 : Int32).toNatClampNeg (120 : Int32)) q_415 (9 : Int32).toNatClampNeg (110 : Int32)) q_415 (10 : Int32).toNatClampNeg (101 : Int32)) q_415 (11 : Int32).toNatClampNeg (119 : Int32)) q_415 (12 : Int32).toNatClampNeg (103 : Int32)) q_415 (13 : Int32).toNatClampNeg (101 : Int32)) q_415 (14 : Int32).toNatClampNeg (116 : Int32)) q_415 (15 : Int32).toNatClampNeg (97 : Int32)).2.2.2.1 q_415 (0 : Int32).toNatClampNeg = 115 := (sC_i (sC_i (sC_i (sC_i (sC_i (sC_i (sC_i (sC_i kn_459 (by decide)) (by decide)) (by decide)) (by decide)) (by decide)) (by decide)) (by decide)) (by decide))
  have kn_494 : (sC (sC (sC (sC (sC (sC (sC (sC g_467 q_415 (8 : Int32).toNatClampNeg (120 : Int32)) q_415 (9 : Int32).toNatClampNeg (110 : Int32)) q_415 (10 : Int32).toNatClampNeg (101 : Int32)) q_415 (11 : Int32).toNatClampNeg (119 : Int32)) q_415 (12 : Int32).toNatClampNeg (103 : Int32)) q_415 (13 : Int32).toNatClampNeg (101 : Int32)) q_415 (14 : Int32).toNatClampNeg (116 : Int32)) q_415 (15 : Int32).toNatClampNeg (97 : Int32)).2.2.2.1 q_415 (1 : Int32).toNatClampNeg = 101 := (sC_i (sC_i (sC_i (sC_i (sC_i (sC_i (sC_i (sC_i kn_460 (by decide)) (by decide)) (by decide)) (by decide)) (by decide)) (by decide)) (by decide)) (by decide))
  have kn_495 : (sC (sC (sC (sC (sC (sC (sC (sC g_467 q_415 (8 : Int32).toNatClampNeg (120 : Int32)) q_415 (9 : Int32).toNatClampNeg (110 : Int32)) q_415 (10 : Int32).toNatClampNeg (101 : Int32)) q_415 (11 : Int32).toNatClampNeg (119 : Int32)) q_415 (12 : Int32).toNatClampNeg (103 : Int32)) q_415 (13 : Int32).toNatClampNeg (101 : Int32)) q_415 (14 : Int32).toNatClampNeg (116 : Int32)) q_415 (15 : Int32).toNatClampNeg (97 : Int32)).2.2.2.1 q_415 (2 : Int32).toNatClampNeg = 116 := (sC_i (sC_i (sC_i (sC_i (sC_i (sC_i (sC_i (sC_i kn_461 (by decide)) (by decide)) (by decide)) (by decide)) (by decide)) (by decide)) (by decide)) (by decide))
  have kn_496 : (sC (sC (sC (sC (sC (sC (sC (sC g_467 q_415 (8 : Int32).toNatClampNeg (120 : Int32)) q_415 (9 : Int32).toNatClampNeg (110 : Int32)) q_415 (10 : Int32).toNatClampNeg (101 : Int32)) q_415 (11 : Int32).toNatClampNeg (119 : Int32)) q_415 (12 : Int32).toNatClampNeg (103 : Int32)) q_415 (13 : Int32).toNatClampNeg (101 : Int32)) q_415 (14 : Int32).toNatClampNeg (116 : Int32)) q_415 (15 : Int32).toNatClampNeg (97 : Int32)).2.2.2.1 q_415 (3 : Int32).toNatClampNeg = 97 := (sC_i (sC_i (sC_i (sC_i (sC_i (sC_i (sC_i (sC_i kn_462 (by decide)) (by decide)) (by decide)) (by decide)) (by decide)) (by decide)) (by decide)) (by decide))
  have kn_497 : (sC (sC (sC (sC (sC (sC (sC (sC g_467 q_415 (8 : Int32).toNatClampNeg (120 : Int32)) q_415 (9 : Int32).toNatClampNeg (110 : Int32)) q_415 (10 : Int32).toNatClampNeg (101 : Int32)) q_415 (11 : Int32).toNatClampNeg (119 : Int32)) q_415 (12 : Int32).toNatClampNeg (103 : Int32)) q_415 (13 : Int32).toNatClampNeg (101 : Int32)) q_415 (14 : Int32).toNatClampNeg (116 : Int32)) q_415 (15 : Int32).toNatClampNeg (97 : Int32)).2.2.2.1 q_415 (4 : Int32).toNatClampNeg = 100 := (sC_i (sC_i (sC_i (sC_i (sC_i (sC_i (sC_i (sC_i kn_463 (by decide)) (by decide)) (by decide)) (by decide)) (by decide)) (by decide)) (by decide)) (by decide))
  have kn_498 : (sC (sC (sC (sC (sC (sC (sC (sC g_467 q_415 (8 : Int32).toNatClampNeg (120 : Int32)) q_415 (9 : Int32).toNatClampNeg (110 : Int32)) q_415 (10 : Int32).toNatClampNeg (101 : Int32)) q_415 (11 : Int32).toNatClampNeg (119 : Int32)) q_415 (12 : Int32).toNatClampNeg (103 : Int32)) q_415 (13 : Int32).toNatClampNeg (101 : Int32)) q_415 (14 : Int32).toNatClampNeg (116 : Int32)) q_415 (15 : Int32).toNatClampNeg (97 : Int32)).2.2.2.1 q_415 (5 : Int32).toNatClampNeg = 100 := (sC_i (sC_i (sC_i (sC_i (sC_i (sC_i (sC_i (sC_i kn_464 (by decide)) (by decide)) (by decide)) (by decide)) (by decide)) (by decide)) (by decide)) (by decide))
  have kn_499 : (sC (sC (sC (sC (sC (sC (sC (sC g_467 q_415 (8 : Int32).toNatClampNeg (120 : Int32)) q_415 (9 : Int32).toNatClampNeg (110 : Int32)) q_415 (10 : Int32).toNatClampNeg (101 : Int32)) q_415 (11 : Int32).toNatClampNeg (119 : Int32)) q_415 (12 : Int32).toNatClampNeg (103 : Int32)) q_415 (13 : Int32).toNatClampNeg (101 : Int32)) q_415 (14 : Int32).toNatClampNeg (116 : Int32)) q_415 (15 : Int32).toNatClampNeg (97 : Int32)).2.2.2.1 q_415 (6 : Int32).toNatClampNeg = 109 := (sC_i (sC_i (sC_i (sC_i (sC_i (sC_i (sC_i (sC_i kn_465 (by decide)) (by decide)) (by decide)) (by decide)) (by decide)) (by decide)) (by decide)) (by decide))
  have kn_500 : (sC (sC (sC (sC (sC (sC (sC (sC g_467 q_415 (8 : Int32).toNatClampNeg (120 : Int32)) q_415 (9 : Int32).toNatClampNeg (110 : Int32)) q_415 (10 : Int32).toNatClampNeg (101 : Int32)) q_415 (11 : Int32).toNatClampNeg (119 : Int32)) q_415 (12 : Int32).toNatClampNeg (103 : Int32)) q_415 (13 : Int32).toNatClampNeg (101 : Int32)) q_415 (14 : Int32).toNatClampNeg (116 : Int32)) q_415 (15 : Int32).toNatClampNeg (97 : Int32)).2.2.2.1 q_415 (7 : Int32).toNatClampNeg = 97 := (sC_i (sC_i (sC_i (sC_i (sC_i (sC_i (sC_i (sC_i kn_466 (by decide)) (by decide)) (by decide)) (by decide)) (by decide)) (by decide)) (by decide)) (by decide))
  have kn_501 : (sC (sC (sC (sC (sC (sC (sC (sC g_467 q_415 (8 : Int32).toNatClampNeg (120 : Int32)) q_415 (9 : Int32).toNatClampNeg (110 : Int32)) q_415 (10 : Int32).toNatClampNeg (101 : Int32)) q_415 (11 : Int32).toNatClampNeg (119 : Int32)) q_415 (12 : Int32).toNatClampNeg (103 : Int32)) q_415 (13 : Int32).toNatClampNeg (101 : Int32)) q_415 (14 : Int32).toNatClampNeg (116 : Int32)) q_415 (15 : Int32).toNatClampNeg (97 : Int32)).2.2.2.1 q_415 (8 : Int32).toNatClampNeg = 120 := (sC_i (sC_i (sC_i (sC_i (sC_i (sC_i (sC_i sC_eq (by decide)) (by decide)) (by decide)) (by decide)) (by decide)) (by decide)) (by decide))
  have kn_502 : (sC (sC (sC (sC (sC (sC (sC (sC g_467 q_415 (8 : Int32).toNatClampNeg (120 : Int32)) q_415 (9 : Int32).toNatClampNeg (110 : Int32)) q_415 (10 : Int32).toNatClampNeg (101 : Int32)) q_415 (11 : Int32).toNatClampNeg (119 : Int32)) q_415 (12 : Int32).toNatClampNeg (103 : Int32)) q_415 (13 : Int32).toNatClampNeg (101 : Int32)) q_415 (14 : Int32).toNatClampNeg (116 : Int32)) q_415 (15 : Int32).toNatClampNeg (97 : Int32)).2.2.2.1 q_415 (9 : Int32).toNatClampNeg = 110 := (sC_i (sC_i (sC_i (sC_i (sC_i (sC_i sC_eq (by decide)) (by decide)) (by decide)) (by decide)) (by decide)) (by decide))
  have kn_503 : (sC (sC (sC (sC (sC (sC (sC (sC g_467 q_415 (8 : Int32).toNatClampNeg (120 : Int32)) q_415 (9 : Int32).toNatClampNeg (110 : Int32)) q_415 (10 : Int32).toNatClampNeg (101 : Int32)) q_415 (11 : Int32).toNatClampNeg (119 : Int32)) q_415 (12 : Int32).toNatClampNeg (103 : Int32)) q_415 (13 : Int32).toNatClampNeg (101 : Int32)) q_415 (14 : Int32).toNatClampNeg (116 : Int32)) q_415 (15 : Int32).toNatClampNeg (97 : Int32)).2.2.2.1 q_415 (10 : Int32).toNatClampNeg = 101 := (sC_i (sC_i (sC_i (sC_i (sC_i sC_eq (by decide)) (by decide)) (by decide)) (by decide)) (by decide))
  have kn_504 : (sC (sC (sC (sC (sC (sC (sC (sC g_467 q_415 (8 : Int32).toNatClampNeg (120 : Int32)) q_415 (9 : Int32).toNatClampNeg (110 : Int32)) q_415 (10 : Int32).toNatClampNeg (101 : Int32)) q_415 (11 : Int32).toNatClampNeg (119 : Int32)) q_415 (12 : Int32).toNatClampNeg (103 : Int32)) q_415 (13 : Int32).toNatClampNeg (101 : Int32)) q_415 (14 : Int32).toNatClampNeg (116 : Int32)) q_415 (15 : Int32).toNatClampNeg (97 : Int32)).2.2.2.1 q_415 (11 : Int32).toNatClampNeg = 119 := (sC_i (sC_i (sC_i (sC_i sC_eq (by decide)) (by decide)) (by decide)) (by decide))
  have kn_505 : (sC (sC (sC (sC (sC (sC (sC (sC g_467 q_415 (8 : Int32).toNatClampNeg (120 : Int32)) q_415 (9 : Int32).toNatClampNeg (110 : Int32)) q_415 (10 : Int32).toNatClampNeg (101 : Int32)) q_415 (11 : Int32).toNatClampNeg (119 : Int32)) q_415 (12 : Int32).toNatClampNeg (103 : Int32)) q_415 (13 : Int32).toNatClampNeg (101 : Int32)) q_415 (14 : Int32).toNatClampNeg (116 : Int32)) q_415 (15 : Int32).toNatClampNeg (97 : Int32)).2.2.2.1 q_415 (12 : Int32).toNatClampNeg = 103 := (sC_i (sC_i (sC_i sC_eq (by decide)) (by decide)) (by decide))
  have kn_506 : (sC (sC (sC (sC (sC (sC (sC (sC g_467 q_415 (8 : Int32).toNatClampNeg (120 : Int32)) q_415 (9 : Int32).toNatClampNeg (110 : Int32)) q_415 (10 : Int32).toNatClampNeg (101 : Int32)) q_415 (11 : Int32).toNatClampNeg (119 : Int32)) q_415 (12 : Int32).toNatClampNeg (103 : Int32)) q_415 (13 : Int32).toNatClampNeg (101 : Int32)) q_415 (14 : Int32).toNatClampNeg (116 : Int32)) q_415 (15 : Int32).toNatClampNeg (97 : Int32)).2.2.2.1 q_415 (13 : Int32).toNatClampNeg = 101 := (sC_i (sC_i sC_eq (by decide)) (by decide))
  have kn_507 : (sC (sC (sC (sC (sC (sC (sC (sC g_467 q_415 (8 : Int32).toNatClampNeg (120 : Int32)) q_415 (9 : Int32).toNatClampNeg (110 : Int32)) q_415 (10 : Int32).toNatClampNeg (101 : Int32)) q_415 (11 : Int32).toNatClampNeg (119 : Int32)) q_415 (12 : Int32).toNatClampNeg (103 : Int32)) q_415 (13 : Int32).toNatClampNeg (101 : Int32)) q_415 (14 : Int32).toNatClampNeg (116 : Int32)) q_415 (15 : Int32).toNatClampNeg (97 : Int32)).2.2.2.1 q_415 (14 : Int32).toNatClampNeg = 116 := (sC_i sC_eq (by decide))
  have kn_508 : (sC (sC (sC (sC (sC (sC (sC (sC g_467 q_415 (8 : Int32).toNatClampNeg (120 : Int32)) q_415 (9 : Int32).toNatClampNeg (110 : Int32)) q_415 (10 : Int32).toNatClampNeg (101 : Int32)) q_415 (11 : Int32).toNatClampNeg (119 : Int32)) q_415 (12 : Int32).toNatClampNeg (103 : Int32)) q_415 (13 : Int32).toNatClampNeg (101 : Int32)) q_415 (14 : Int32).toNatClampNeg (116 : Int32)) q_415 (15 : Int32).toNatClampNeg (97 : Int32)).2.2.2.1 q_415 (15 : Int32).toNatClampNeg = 97 := sC_eq
  generalize (sC (sC (sC (sC (sC (sC (sC (sC g_467 q_415 (8 : Int32).toNatClampNeg (120 : Int32)) q_415 (9 : Int32).toNatClampNeg (110 : Int32)) q_415 (10 : Int32).toNatClampNeg (101 : Int32)) q_415 (11 : Int32).toNatClampNeg (119 : Int32)) q_415 (12 : Int32).toNatClampNeg (103 : Int32)) q_415 (13 : Int32).toNatClampNeg (101 : Int32)) q_415 (14 : Int32).toNatClampNeg (116 : Int32)) q_415 (15 : Int32).toNatClampNeg (97 : Int32)) = g_509 at hT hI hM hE r_476 r_477 r_478 r_479 r_480 r_481 n_482 n_483 n_484 n_485 n_486 kn_487 kn_488 kn_489 kn_490 kn_491 kn_492 kn_493 kn_494 kn_495 kn_496 kn_497 kn_498 kn_499 kn_500 kn_501 kn_502 kn_503 kn_504 kn_505 kn_506 kn_507 kn_508 hP zP zN
  refine lv_dup hx hb dX7_init_373 rfl ?_
  refine lv_bipush (v := 16) hx hb dX7_init_374 (by decide) ?_
  refine lv_bipush (v := 115) hx hb dX7_init_376 (by decide) ?_
  have i_510 : vp_in (16 : Int32) 24 := (by unfold vp_in; decide)
  refine t_iast hB hT (ro_in r_481 (by decide)) n_486 i_510 dX7_init_378 (fun H locs hT => ?_)
  have hI : Inv (sC g_509 q_415 (16 : Int32).toNatClampNeg (115 : Int32)) := hI.sC (ck r_481 ⟨by decide, by decide⟩)
  have hM : Sm md_k_Model g (sC g_509 q_415 (16 : Int32).toNatClampNeg (115 : Int32)) := hM.tr hE (Sm_sC (by rw [r_481]; rfl))
  have hE : Ex g (sC g_509 q_415 (16 : Int32).toNatClampNeg (115 : Int32)) := hE
  have hP : PF [41, 40, 39, 35, 33, 32, 31, 28, 27, 26, 25, 23, 20, 19, 18, 17, 16, 15, 14, 13, 12, 11, 10, 9, 8, 7, 6, 5, 4, 3, 2, 1, 60, 52, 51, 50, 49, 38, 37, 36, 34, 30, 29, 24, 22, 21, 0] (sC g_509 q_415 (16 : Int32).toNatClampNeg (115 : Int32)) h := hP.tC 
  have zP : ZC (sC g_509 q_415 (16 : Int32).toNatClampNeg (115 : Int32)) q_15 := zP.tC (ro_ne r_478 r_481 (by decide))
  have zN : ZC (sC g_509 q_415 (16 : Int32).toNatClampNeg (115 : Int32)) q_380 := zN.tC (ro_ne r_480 r_481 (by decide))
  refine lv_dup hx hb dX7_init_379 rfl ?_
  refine lv_bipush (v := 17) hx hb dX7_init_380 (by decide) ?_
  refine lv_bipush (v := 107) hx hb dX7_init_382 (by decide) ?_
  have i_511 : vp_in (17 : Int32) 24 := (by unfold vp_in; decide)
  refine t_iast hB hT (ro_in r_481 (by decide)) n_486 i_511 dX7_init_384 (fun H locs hT => ?_)
  have hI : Inv (sC (sC g_509 q_415 (16 : Int32).toNatClampNeg (115 : Int32)) q_415 (17 : Int32).toNatClampNeg (107 : Int32)) := hI.sC (ck r_481 ⟨by decide, by decide⟩)
  have hM : Sm md_k_Model g (sC (sC g_509 q_415 (16 : Int32).toNatClampNeg (115 : Int32)) q_415 (17 : Int32).toNatClampNeg (107 : Int32)) := hM.tr hE (Sm_sC (by rw [r_481]; rfl))
  have hE : Ex g (sC (sC g_509 q_415 (16 : Int32).toNatClampNeg (115 : Int32)) q_415 (17 : Int32).toNatClampNeg (107 : Int32)) := hE
  have hP : PF [41, 40, 39, 35, 33, 32, 31, 28, 27, 26, 25, 23, 20, 19, 18, 17, 16, 15, 14, 13, 12, 11, 10, 9, 8, 7, 6, 5, 4, 3, 2, 1, 60, 52, 51, 50, 49, 38, 37, 36, 34, 30, 29, 24, 22, 21, 0] (sC (sC g_509 q_415 (16 : Int32).toNatClampNeg (115 : Int32)) q_415 (17 : Int32).toNatClampNeg (107 : Int32)) h := hP.tC 
  have zP : ZC (sC (sC g_509 q_415 (16 : Int32).toNatClampNeg (115 : Int32)) q_415 (17 : Int32).toNatClampNeg (107 : Int32)) q_15 := zP.tC (ro_ne r_478 r_481 (by decide))
  have zN : ZC (sC (sC g_509 q_415 (16 : Int32).toNatClampNeg (115 : Int32)) q_415 (17 : Int32).toNatClampNeg (107 : Int32)) q_380 := zN.tC (ro_ne r_480 r_481 (by decide))
  refine lv_dup hx hb dX7_init_385 rfl ?_
  refine lv_bipush (v := 18) hx hb dX7_init_386 (by decide) ?_
  refine lv_bipush (v := 100) hx hb dX7_init_388 (by decide) ?_
  have i_512 : vp_in (18 : Int32) 24 := (by unfold vp_in; decide)
  refine t_iast hB hT (ro_in r_481 (by decide)) n_486 i_512 dX7_init_390 (fun H locs hT => ?_)
  have hI : Inv (sC (sC (sC g_509 q_415 (16 : Int32).toNatClampNeg (115 : Int32)) q_415 (17 : Int32).toNatClampNeg (107 : Int32)) q_415 (18 : Int32).toNatClampNeg (100 : Int32)) := hI.sC (ck r_481 ⟨by decide, by decide⟩)
  have hM : Sm md_k_Model g (sC (sC (sC g_509 q_415 (16 : Int32).toNatClampNeg (115 : Int32)) q_415 (17 : Int32).toNatClampNeg (107 : Int32)) q_415 (18 : Int32).toNatClampNeg (100 : Int32)) := hM.tr hE (Sm_sC (by rw [r_481]; rfl))
  have hE : Ex g (sC (sC (sC g_509 q_415 (16 : Int32).toNatClampNeg (115 : Int32)) q_415 (17 : Int32).toNatClampNeg (107 : Int32)) q_415 (18 : Int32).toNatClampNeg (100 : Int32)) := hE
  have hP : PF [41, 40, 39, 35, 33, 32, 31, 28, 27, 26, 25, 23, 20, 19, 18, 17, 16, 15, 14, 13, 12, 11, 10, 9, 8, 7, 6, 5, 4, 3, 2, 1, 60, 52, 51, 50, 49, 38, 37, 36, 34, 30, 29, 24, 22, 21, 0] (sC (sC (sC g_509 q_415 (16 : Int32).toNatClampNeg (115 : Int32)) q_415 (17 : Int32).toNatClampNeg (107 : Int32)) q_415 (18 : Int32).toNatClampNeg (100 : Int32)) h := hP.tC 
  have zP : ZC (sC (sC (sC g_509 q_415 (16 : Int32).toNatClampNeg (115 : Int32)) q_415 (17 : Int32).toNatClampNeg (107 : Int32)) q_415 (18 : Int32).toNatClampNeg (100 : Int32)) q_15 := zP.tC (ro_ne r_478 r_481 (by decide))
  have zN : ZC (sC (sC (sC g_509 q_415 (16 : Int32).toNatClampNeg (115 : Int32)) q_415 (17 : Int32).toNatClampNeg (107 : Int32)) q_415 (18 : Int32).toNatClampNeg (100 : Int32)) q_380 := zN.tC (ro_ne r_480 r_481 (by decide))
  refine lv_dup hx hb dX7_init_391 rfl ?_
  refine lv_bipush (v := 19) hx hb dX7_init_392 (by decide) ?_
  refine lv_bipush (v := 111) hx hb dX7_init_394 (by decide) ?_
  have i_513 : vp_in (19 : Int32) 24 := (by unfold vp_in; decide)
  refine t_iast hB hT (ro_in r_481 (by decide)) n_486 i_513 dX7_init_396 (fun H locs hT => ?_)
  have hI : Inv (sC (sC (sC (sC g_509 q_415 (16 : Int32).toNatClampNeg (115 : Int32)) q_415 (17 : Int32).toNatClampNeg (107 : Int32)) q_415 (18 : Int32).toNatClampNeg (100 : Int32)) q_415 (19 : Int32).toNatClampNeg (111 : Int32)) := hI.sC (ck r_481 ⟨by decide, by decide⟩)
  have hM : Sm md_k_Model g (sC (sC (sC (sC g_509 q_415 (16 : Int32).toNatClampNeg (115 : Int32)) q_415 (17 : Int32).toNatClampNeg (107 : Int32)) q_415 (18 : Int32).toNatClampNeg (100 : Int32)) q_415 (19 : Int32).toNatClampNeg (111 : Int32)) := hM.tr hE (Sm_sC (by rw [r_481]; rfl))
  have hE : Ex g (sC (sC (sC (sC g_509 q_415 (16 : Int32).toNatClampNeg (115 : Int32)) q_415 (17 : Int32).toNatClampNeg (107 : Int32)) q_415 (18 : Int32).toNatClampNeg (100 : Int32)) q_415 (19 : Int32).toNatClampNeg (111 : Int32)) := hE
  have hP : PF [41, 40, 39, 35, 33, 32, 31, 28, 27, 26, 25, 23, 20, 19, 18, 17, 16, 15, 14, 13, 12, 11, 10, 9, 8, 7, 6, 5, 4, 3, 2, 1, 60, 52, 51, 50, 49, 38, 37, 36, 34, 30, 29, 24, 22, 21, 0] (sC (sC (sC (sC g_509 q_415 (16 : Int32).toNatClampNeg (115 : Int32)) q_415 (17 : Int32).toNatClampNeg (107 : Int32)) q_415 (18 : Int32).toNatClampNeg (100 : Int32)) q_415 (19 : Int32).toNatClampNeg (111 : Int32)) h := hP.tC 
  have zP : ZC (sC (sC (sC (sC g_509 q_415 (16 : Int32).toNatClampNeg (115 : Int32)) q_415 (17 : Int32).toNatClampNeg (107 : Int32)) q_415 (18 : Int32).toNatClampNeg (100 : Int32)) q_415 (19 : Int32).toNatClampNeg (111 : Int32)) q_15 := zP.tC (ro_ne r_478 r_481 (by decide))
  have zN : ZC (sC (sC (sC (sC g_509 q_415 (16 : Int32).toNatClampNeg (115 : Int32)) q_415 (17 : Int32).toNatClampNeg (107 : Int32)) q_415 (18 : Int32).toNatClampNeg (100 : Int32)) q_415 (19 : Int32).toNatClampNeg (111 : Int32)) q_380 := zN.tC (ro_ne r_480 r_481 (by decide))
  refine lv_dup hx hb dX7_init_397 rfl ?_
  refine lv_bipush (v := 20) hx hb dX7_init_398 (by decide) ?_
  refine lv_iconst (v := 0) hx hb dX7_init_400 (by decide) ?_
  have i_514 : vp_in (20 : Int32) 24 := (by unfold vp_in; decide)
  refine t_iast hB hT (ro_in r_481 (by decide)) n_486 i_514 dX7_init_401 (fun H locs hT => ?_)
  have hI : Inv (sC (sC (sC (sC (sC g_509 q_415 (16 : Int32).toNatClampNeg (115 : Int32)) q_415 (17 : Int32).toNatClampNeg (107 : Int32)) q_415 (18 : Int32).toNatClampNeg (100 : Int32)) q_415 (19 : Int32).toNatClampNeg (111 : Int32)) q_415 (20 : Int32).toNatClampNeg (0 : Int32)) := hI.sC (ck r_481 ⟨by decide, by decide⟩)
  have hM : Sm md_k_Model g (sC (sC (sC (sC (sC g_509 q_415 (16 : Int32).toNatClampNeg (115 : Int32)) q_415 (17 : Int32).toNatClampNeg (107 : Int32)) q_415 (18 : Int32).toNatClampNeg (100 : Int32)) q_415 (19 : Int32).toNatClampNeg (111 : Int32)) q_415 (20 : Int32).toNatClampNeg (0 : Int32)) := hM.tr hE (Sm_sC (by rw [r_481]; rfl))
  have hE : Ex g (sC (sC (sC (sC (sC g_509 q_415 (16 : Int32).toNatClampNeg (115 : Int32)) q_415 (17 : Int32).toNatClampNeg (107 : Int32)) q_415 (18 : Int32).toNatClampNeg (100 : Int32)) q_415 (19 : Int32).toNatClampNeg (111 : Int32)) q_415 (20 : Int32).toNatClampNeg (0 : Int32)) := hE
  have hP : PF [41, 40, 39, 35, 33, 32, 31, 28, 27, 26, 25, 23, 20, 19, 18, 17, 16, 15, 14, 13, 12, 11, 10, 9, 8, 7, 6, 5, 4, 3, 2, 1, 60, 52, 51, 50, 49, 38, 37, 36, 34, 30, 29, 24, 22, 21, 0] (sC (sC (sC (sC (sC g_509 q_415 (16 : Int32).toNatClampNeg (115 : Int32)) q_415 (17 : Int32).toNatClampNeg (107 : Int32)) q_415 (18 : Int32).toNatClampNeg (100 : Int32)) q_415 (19 : Int32).toNatClampNeg (111 : Int32)) q_415 (20 : Int32).toNatClampNeg (0 : Int32)) h := hP.tC 
  have zP : ZC (sC (sC (sC (sC (sC g_509 q_415 (16 : Int32).toNatClampNeg (115 : Int32)) q_415 (17 : Int32).toNatClampNeg (107 : Int32)) q_415 (18 : Int32).toNatClampNeg (100 : Int32)) q_415 (19 : Int32).toNatClampNeg (111 : Int32)) q_415 (20 : Int32).toNatClampNeg (0 : Int32)) q_15 := zP.tC (ro_ne r_478 r_481 (by decide))
  have zN : ZC (sC (sC (sC (sC (sC g_509 q_415 (16 : Int32).toNatClampNeg (115 : Int32)) q_415 (17 : Int32).toNatClampNeg (107 : Int32)) q_415 (18 : Int32).toNatClampNeg (100 : Int32)) q_415 (19 : Int32).toNatClampNeg (111 : Int32)) q_415 (20 : Int32).toNatClampNeg (0 : Int32)) q_380 := zN.tC (ro_ne r_480 r_481 (by decide))
  refine lv_dup hx hb dX7_init_402 rfl ?_
  refine lv_bipush (v := 21) hx hb dX7_init_403 (by decide) ?_
  refine lv_bipush (v := 105) hx hb dX7_init_405 (by decide) ?_
  have i_515 : vp_in (21 : Int32) 24 := (by unfold vp_in; decide)
  refine t_iast hB hT (ro_in r_481 (by decide)) n_486 i_515 dX7_init_407 (fun H locs hT => ?_)
  have hI : Inv (sC (sC (sC (sC (sC (sC g_509 q_415 (16 : Int32).toNatClampNeg (115 : Int32)) q_415 (17 : Int32).toNatClampNeg (107 : Int32)) q_415 (18 : Int32).toNatClampNeg (100 : Int32)) q_415 (19 : Int32).toNatClampNeg (111 : Int32)) q_415 (20 : Int32).toNatClampNeg (0 : Int32)) q_415 (21 : Int32).toNatClampNeg (105 : Int32)) := hI.sC (ck r_481 ⟨by decide, by decide⟩)
  have hM : Sm md_k_Model g (sC (sC (sC (sC (sC (sC g_509 q_415 (16 : Int32).toNatClampNeg (115 : Int32)) q_415 (17 : Int32).toNatClampNeg (107 : Int32)) q_415 (18 : Int32).toNatClampNeg (100 : Int32)) q_415 (19 : Int32).toNatClampNeg (111 : Int32)) q_415 (20 : Int32).toNatClampNeg (0 : Int32)) q_415 (21 : Int32).toNatClampNeg (105 : Int32)) := hM.tr hE (Sm_sC (by rw [r_481]; rfl))
  have hE : Ex g (sC (sC (sC (sC (sC (sC g_509 q_415 (16 : Int32).toNatClampNeg (115 : Int32)) q_415 (17 : Int32).toNatClampNeg (107 : Int32)) q_415 (18 : Int32).toNatClampNeg (100 : Int32)) q_415 (19 : Int32).toNatClampNeg (111 : Int32)) q_415 (20 : Int32).toNatClampNeg (0 : Int32)) q_415 (21 : Int32).toNatClampNeg (105 : Int32)) := hE
  have hP : PF [41, 40, 39, 35, 33, 32, 31, 28, 27, 26, 25, 23, 20, 19, 18, 17, 16, 15, 14, 13, 12, 11, 10, 9, 8, 7, 6, 5, 4, 3, 2, 1, 60, 52, 51, 50, 49, 38, 37, 36, 34, 30, 29, 24, 22, 21, 0] (sC (sC (sC (sC (sC (sC g_509 q_415 (16 : Int32).toNatClampNeg (115 : Int32)) q_415 (17 : Int32).toNatClampNeg (107 : Int32)) q_415 (18 : Int32).toNatClampNeg (100 : Int32)) q_415 (19 : Int32).toNatClampNeg (111 : Int32)) q_415 (20 : Int32).toNatClampNeg (0 : Int32)) q_415 (21 : Int32).toNatClampNeg (105 : Int32)) h := hP.tC 
  have zP : ZC (sC (sC (sC (sC (sC (sC g_509 q_415 (16 : Int32).toNatClampNeg (115 : Int32)) q_415 (17 : Int32).toNatClampNeg (107 : Int32)) q_415 (18 : Int32).toNatClampNeg (100 : Int32)) q_415 (19 : Int32).toNatClampNeg (111 : Int32)) q_415 (20 : Int32).toNatClampNeg (0 : Int32)) q_415 (21 : Int32).toNatClampNeg (105 : Int32)) q_15 := zP.tC (ro_ne r_478 r_481 (by decide))
  have zN : ZC (sC (sC (sC (sC (sC (sC g_509 q_415 (16 : Int32).toNatClampNeg (115 : Int32)) q_415 (17 : Int32).toNatClampNeg (107 : Int32)) q_415 (18 : Int32).toNatClampNeg (100 : Int32)) q_415 (19 : Int32).toNatClampNeg (111 : Int32)) q_415 (20 : Int32).toNatClampNeg (0 : Int32)) q_415 (21 : Int32).toNatClampNeg (105 : Int32)) q_380 := zN.tC (ro_ne r_480 r_481 (by decide))
  refine lv_dup hx hb dX7_init_408 rfl ?_
  refine lv_bipush (v := 22) hx hb dX7_init_409 (by decide) ?_
  refine lv_bipush (v := 102) hx hb dX7_init_411 (by decide) ?_
  have i_516 : vp_in (22 : Int32) 24 := (by unfold vp_in; decide)
  refine t_iast hB hT (ro_in r_481 (by decide)) n_486 i_516 dX7_init_413 (fun H locs hT => ?_)
  have hI : Inv (sC (sC (sC (sC (sC (sC (sC g_509 q_415 (16 : Int32).toNatClampNeg (115 : Int32)) q_415 (17 : Int32).toNatClampNeg (107 : Int32)) q_415 (18 : Int32).toNatClampNeg (100 : Int32)) q_415 (19 : Int32).toNatClampNeg (111 : Int32)) q_415 (20 : Int32).toNatClampNeg (0 : Int32)) q_415 (21 : Int32).toNatClampNeg (105 : Int32)) q_415 (22 : Int32).toNatClampNeg (102 : Int32)) := hI.sC (ck r_481 ⟨by decide, by decide⟩)
  have hM : Sm md_k_Model g (sC (sC (sC (sC (sC (sC (sC g_509 q_415 (16 : Int32).toNatClampNeg (115 : Int32)) q_415 (17 : Int32).toNatClampNeg (107 : Int32)) q_415 (18 : Int32).toNatClampNeg (100 : Int32)) q_415 (19 : Int32).toNatClampNeg (111 : Int32)) q_415 (20 : Int32).toNatClampNeg (0 : Int32)) q_415 (21 : Int32).toNatClampNeg (105 : Int32)) q_415 (22 : Int32).toNatClampNeg (102 : Int32)) := hM.tr hE (Sm_sC (by rw [r_481]; rfl))
  have hE : Ex g (sC (sC (sC (sC (sC (sC (sC g_509 q_415 (16 : Int32).toNatClampNeg (115 : Int32)) q_415 (17 : Int32).toNatClampNeg (107 : Int32)) q_415 (18 : Int32).toNatClampNeg (100 : Int32)) q_415 (19 : Int32).toNatClampNeg (111 : Int32)) q_415 (20 : Int32).toNatClampNeg (0 : Int32)) q_415 (21 : Int32).toNatClampNeg (105 : Int32)) q_415 (22 : Int32).toNatClampNeg (102 : Int32)) := hE
  have hP : PF [41, 40, 39, 35, 33, 32, 31, 28, 27, 26, 25, 23, 20, 19, 18, 17, 16, 15, 14, 13, 12, 11, 10, 9, 8, 7, 6, 5, 4, 3, 2, 1, 60, 52, 51, 50, 49, 38, 37, 36, 34, 30, 29, 24, 22, 21, 0] (sC (sC (sC (sC (sC (sC (sC g_509 q_415 (16 : Int32).toNatClampNeg (115 : Int32)) q_415 (17 : Int32).toNatClampNeg (107 : Int32)) q_415 (18 : Int32).toNatClampNeg (100 : Int32)) q_415 (19 : Int32).toNatClampNeg (111 : Int32)) q_415 (20 : Int32).toNatClampNeg (0 : Int32)) q_415 (21 : Int32).toNatClampNeg (105 : Int32)) q_415 (22 : Int32).toNatClampNeg (102 : Int32)) h := hP.tC 
  have zP : ZC (sC (sC (sC (sC (sC (sC (sC g_509 q_415 (16 : Int32).toNatClampNeg (115 : Int32)) q_415 (17 : Int32).toNatClampNeg (107 : Int32)) q_415 (18 : Int32).toNatClampNeg (100 : Int32)) q_415 (19 : Int32).toNatClampNeg (111 : Int32)) q_415 (20 : Int32).toNatClampNeg (0 : Int32)) q_415 (21 : Int32).toNatClampNeg (105 : Int32)) q_415 (22 : Int32).toNatClampNeg (102 : Int32)) q_15 := zP.tC (ro_ne r_478 r_481 (by decide))
  have zN : ZC (sC (sC (sC (sC (sC (sC (sC g_509 q_415 (16 : Int32).toNatClampNeg (115 : Int32)) q_415 (17 : Int32).toNatClampNeg (107 : Int32)) q_415 (18 : Int32).toNatClampNeg (100 : Int32)) q_415 (19 : Int32).toNatClampNeg (111 : Int32)) q_415 (20 : Int32).toNatClampNeg (0 : Int32)) q_415 (21 : Int32).toNatClampNeg (105 : Int32)) q_415 (22 : Int32).toNatClampNeg (102 : Int32)) q_380 := zN.tC (ro_ne r_480 r_481 (by decide))
  refine lv_dup hx hb dX7_init_414 rfl ?_
  refine lv_bipush (v := 23) hx hb dX7_init_415 (by decide) ?_
  refine lv_iconst (v := 0) hx hb dX7_init_417 (by decide) ?_
  have i_517 : vp_in (23 : Int32) 24 := (by unfold vp_in; decide)
  refine t_iast hB hT (ro_in r_481 (by decide)) n_486 i_517 dX7_init_418 (fun H locs hT => ?_)
  have hI : Inv (sC (sC (sC (sC (sC (sC (sC (sC g_509 q_415 (16 : Int32).toNatClampNeg (115 : Int32)) q_415 (17 : Int32).toNatClampNeg (107 : Int32)) q_415 (18 : Int32).toNatClampNeg (100 : Int32)) q_415 (19 : Int32).toNatClampNeg (111 : Int32)) q_415 (20 : Int32).toNatClampNeg (0 : Int32)) q_415 (21 : Int32).toNatClampNeg (105 : Int32)) q_415 (22 : Int32).toNatClampNeg (102 : Int32)) q_415 (23 : Int32).toNatClampNeg (0 : Int32)) := hI.sC (ck r_481 ⟨by decide, by decide⟩)
  have hM : Sm md_k_Model g (sC (sC (sC (sC (sC (sC (sC (sC g_509 q_415 (16 : Int32).toNatClampNeg (115 : Int32)) q_415 (17 : Int32).toNatClampNeg (107 : Int32)) q_415 (18 : Int32).toNatClampNeg (100 : Int32)) q_415 (19 : Int32).toNatClampNeg (111 : Int32)) q_415 (20 : Int32).toNatClampNeg (0 : Int32)) q_415 (21 : Int32).toNatClampNeg (105 : Int32)) q_415 (22 : Int32).toNatClampNeg (102 : Int32)) q_415 (23 : Int32).toNatClampNeg (0 : Int32)) := hM.tr hE (Sm_sC (by rw [r_481]; rfl))
  have hE : Ex g (sC (sC (sC (sC (sC (sC (sC (sC g_509 q_415 (16 : Int32).toNatClampNeg (115 : Int32)) q_415 (17 : Int32).toNatClampNeg (107 : Int32)) q_415 (18 : Int32).toNatClampNeg (100 : Int32)) q_415 (19 : Int32).toNatClampNeg (111 : Int32)) q_415 (20 : Int32).toNatClampNeg (0 : Int32)) q_415 (21 : Int32).toNatClampNeg (105 : Int32)) q_415 (22 : Int32).toNatClampNeg (102 : Int32)) q_415 (23 : Int32).toNatClampNeg (0 : Int32)) := hE
  have hP : PF [41, 40, 39, 35, 33, 32, 31, 28, 27, 26, 25, 23, 20, 19, 18, 17, 16, 15, 14, 13, 12, 11, 10, 9, 8, 7, 6, 5, 4, 3, 2, 1, 60, 52, 51, 50, 49, 38, 37, 36, 34, 30, 29, 24, 22, 21, 0] (sC (sC (sC (sC (sC (sC (sC (sC g_509 q_415 (16 : Int32).toNatClampNeg (115 : Int32)) q_415 (17 : Int32).toNatClampNeg (107 : Int32)) q_415 (18 : Int32).toNatClampNeg (100 : Int32)) q_415 (19 : Int32).toNatClampNeg (111 : Int32)) q_415 (20 : Int32).toNatClampNeg (0 : Int32)) q_415 (21 : Int32).toNatClampNeg (105 : Int32)) q_415 (22 : Int32).toNatClampNeg (102 : Int32)) q_415 (23 : Int32).toNatClampNeg (0 : Int32)) h := hP.tC 
  have zP : ZC (sC (sC (sC (sC (sC (sC (sC (sC g_509 q_415 (16 : Int32).toNatClampNeg (115 : Int32)) q_415 (17 : Int32).toNatClampNeg (107 : Int32)) q_415 (18 : Int32).toNatClampNeg (100 : Int32)) q_415 (19 : Int32).toNatClampNeg (111 : Int32)) q_415 (20 : Int32).toNatClampNeg (0 : Int32)) q_415 (21 : Int32).toNatClampNeg (105 : Int32)) q_415 (22 : Int32).toNatClampNeg (102 : Int32)) q_415 (23 : Int32).toNatClampNeg (0 : Int32)) q_15 := zP.tC (ro_ne r_478 r_481 (by decide))
  have zN : ZC (sC (sC (sC (sC (sC (sC (sC (sC g_509 q_415 (16 : Int32).toNatClampNeg (115 : Int32)) q_415 (17 : Int32).toNatClampNeg (107 : Int32)) q_415 (18 : Int32).toNatClampNeg (100 : Int32)) q_415 (19 : Int32).toNatClampNeg (111 : Int32)) q_415 (20 : Int32).toNatClampNeg (0 : Int32)) q_415 (21 : Int32).toNatClampNeg (105 : Int32)) q_415 (22 : Int32).toNatClampNeg (102 : Int32)) q_415 (23 : Int32).toNatClampNeg (0 : Int32)) q_380 := zN.tC (ro_ne r_480 r_481 (by decide))
  have r_518 : (sC (sC (sC (sC (sC (sC (sC (sC g_509 q_415 (16 : Int32).toNatClampNeg (115 : Int32)) q_415 (17 : Int32).toNatClampNeg (107 : Int32)) q_415 (18 : Int32).toNatClampNeg (100 : Int32)) q_415 (19 : Int32).toNatClampNeg (111 : Int32)) q_415 (20 : Int32).toNatClampNeg (0 : Int32)) q_415 (21 : Int32).toNatClampNeg (105 : Int32)) q_415 (22 : Int32).toNatClampNeg (102 : Int32)) q_415 (23 : Int32).toNatClampNeg (0 : Int32)).1 h = 18 := r_476
  have r_519 : (sC (sC (sC (sC (sC (sC (sC (sC g_509 q_415 (16 : Int32).toNatClampNeg (115 : Int32)) q_415 (17 : Int32).toNatClampNeg (107 : Int32)) q_415 (18 : Int32).toNatClampNeg (100 : Int32)) q_415 (19 : Int32).toNatClampNeg (111 : Int32)) q_415 (20 : Int32).toNatClampNeg (0 : Int32)) q_415 (21 : Int32).toNatClampNeg (105 : Int32)) q_415 (22 : Int32).toNatClampNeg (102 : Int32)) q_415 (23 : Int32).toNatClampNeg (0 : Int32)).1 q_8 = 71 := r_477
  have r_520 : (sC (sC (sC (sC (sC (sC (sC (sC g_509 q_415 (16 : Int32).toNatClampNeg (115 : Int32)) q_415 (17 : Int32).toNatClampNeg (107 : Int32)) q_415 (18 : Int32).toNatClampNeg (100 : Int32)) q_415 (19 : Int32).toNatClampNeg (111 : Int32)) q_415 (20 : Int32).toNatClampNeg (0 : Int32)) q_415 (21 : Int32).toNatClampNeg (105 : Int32)) q_415 (22 : Int32).toNatClampNeg (102 : Int32)) q_415 (23 : Int32).toNatClampNeg (0 : Int32)).1 q_15 = 72 := r_478
  have r_521 : (sC (sC (sC (sC (sC (sC (sC (sC g_509 q_415 (16 : Int32).toNatClampNeg (115 : Int32)) q_415 (17 : Int32).toNatClampNeg (107 : Int32)) q_415 (18 : Int32).toNatClampNeg (100 : Int32)) q_415 (19 : Int32).toNatClampNeg (111 : Int32)) q_415 (20 : Int32).toNatClampNeg (0 : Int32)) q_415 (21 : Int32).toNatClampNeg (105 : Int32)) q_415 (22 : Int32).toNatClampNeg (102 : Int32)) q_415 (23 : Int32).toNatClampNeg (0 : Int32)).1 q_367 = 84 := r_479
  have r_522 : (sC (sC (sC (sC (sC (sC (sC (sC g_509 q_415 (16 : Int32).toNatClampNeg (115 : Int32)) q_415 (17 : Int32).toNatClampNeg (107 : Int32)) q_415 (18 : Int32).toNatClampNeg (100 : Int32)) q_415 (19 : Int32).toNatClampNeg (111 : Int32)) q_415 (20 : Int32).toNatClampNeg (0 : Int32)) q_415 (21 : Int32).toNatClampNeg (105 : Int32)) q_415 (22 : Int32).toNatClampNeg (102 : Int32)) q_415 (23 : Int32).toNatClampNeg (0 : Int32)).1 q_380 = 85 := r_480
  have r_523 : (sC (sC (sC (sC (sC (sC (sC (sC g_509 q_415 (16 : Int32).toNatClampNeg (115 : Int32)) q_415 (17 : Int32).toNatClampNeg (107 : Int32)) q_415 (18 : Int32).toNatClampNeg (100 : Int32)) q_415 (19 : Int32).toNatClampNeg (111 : Int32)) q_415 (20 : Int32).toNatClampNeg (0 : Int32)) q_415 (21 : Int32).toNatClampNeg (105 : Int32)) q_415 (22 : Int32).toNatClampNeg (102 : Int32)) q_415 (23 : Int32).toNatClampNeg (0 : Int32)).1 q_415 = 87 := r_481
  have n_524 : (sC (sC (sC (sC (sC (sC (sC (sC g_509 q_415 (16 : Int32).toNatClampNeg (115 : Int32)) q_415 (17 : Int32).toNatClampNeg (107 : Int32)) q_415 (18 : Int32).toNatClampNeg (100 : Int32)) q_415 (19 : Int32).toNatClampNeg (111 : Int32)) q_415 (20 : Int32).toNatClampNeg (0 : Int32)) q_415 (21 : Int32).toNatClampNeg (105 : Int32)) q_415 (22 : Int32).toNatClampNeg (102 : Int32)) q_415 (23 : Int32).toNatClampNeg (0 : Int32)).2.2.1 q_8 = 48 := n_482
  have n_525 : (sC (sC (sC (sC (sC (sC (sC (sC g_509 q_415 (16 : Int32).toNatClampNeg (115 : Int32)) q_415 (17 : Int32).toNatClampNeg (107 : Int32)) q_415 (18 : Int32).toNatClampNeg (100 : Int32)) q_415 (19 : Int32).toNatClampNeg (111 : Int32)) q_415 (20 : Int32).toNatClampNeg (0 : Int32)) q_415 (21 : Int32).toNatClampNeg (105 : Int32)) q_415 (22 : Int32).toNatClampNeg (102 : Int32)) q_415 (23 : Int32).toNatClampNeg (0 : Int32)).2.2.1 q_15 = 48 := n_483
  have n_526 : (sC (sC (sC (sC (sC (sC (sC (sC g_509 q_415 (16 : Int32).toNatClampNeg (115 : Int32)) q_415 (17 : Int32).toNatClampNeg (107 : Int32)) q_415 (18 : Int32).toNatClampNeg (100 : Int32)) q_415 (19 : Int32).toNatClampNeg (111 : Int32)) q_415 (20 : Int32).toNatClampNeg (0 : Int32)) q_415 (21 : Int32).toNatClampNeg (105 : Int32)) q_415 (22 : Int32).toNatClampNeg (102 : Int32)) q_415 (23 : Int32).toNatClampNeg (0 : Int32)).2.2.1 q_367 = 8 := n_484
  have n_527 : (sC (sC (sC (sC (sC (sC (sC (sC g_509 q_415 (16 : Int32).toNatClampNeg (115 : Int32)) q_415 (17 : Int32).toNatClampNeg (107 : Int32)) q_415 (18 : Int32).toNatClampNeg (100 : Int32)) q_415 (19 : Int32).toNatClampNeg (111 : Int32)) q_415 (20 : Int32).toNatClampNeg (0 : Int32)) q_415 (21 : Int32).toNatClampNeg (105 : Int32)) q_415 (22 : Int32).toNatClampNeg (102 : Int32)) q_415 (23 : Int32).toNatClampNeg (0 : Int32)).2.2.1 q_380 = 8 := n_485
  have n_528 : (sC (sC (sC (sC (sC (sC (sC (sC g_509 q_415 (16 : Int32).toNatClampNeg (115 : Int32)) q_415 (17 : Int32).toNatClampNeg (107 : Int32)) q_415 (18 : Int32).toNatClampNeg (100 : Int32)) q_415 (19 : Int32).toNatClampNeg (111 : Int32)) q_415 (20 : Int32).toNatClampNeg (0 : Int32)) q_415 (21 : Int32).toNatClampNeg (105 : Int32)) q_415 (22 : Int32).toNatClampNeg (102 : Int32)) q_415 (23 : Int32).toNatClampNeg (0 : Int32)).2.2.1 q_415 = 24 := n_486
  have kn_529 : (sC (sC (sC (sC (sC (sC (sC (sC g_509 q_415 (16 : Int32).toNatClampNeg (115 : Int32)) q_415 (17 : Int32).toNatClampNeg (107 : Int32)) q_415 (18 : Int32).toNatClampNeg (100 : Int32)) q_415 (19 : Int32).toNatClampNeg (111 : Int32)) q_415 (20 : Int32).toNatClampNeg (0 : Int32)) q_415 (21 : Int32).toNatClampNeg (105 : Int32)) q_415 (22 : Int32).toNatClampNeg (102 : Int32)) q_415 (23 : Int32).toNatClampNeg (0 : Int32)).2.1 h 22 = .int 0 := kn_487
  have kn_530 : (sC (sC (sC (sC (sC (sC (sC (sC g_509 q_415 (16 : Int32).toNatClampNeg (115 : Int32)) q_415 (17 : Int32).toNatClampNeg (107 : Int32)) q_415 (18 : Int32).toNatClampNeg (100 : Int32)) q_415 (19 : Int32).toNatClampNeg (111 : Int32)) q_415 (20 : Int32).toNatClampNeg (0 : Int32)) q_415 (21 : Int32).toNatClampNeg (105 : Int32)) q_415 (22 : Int32).toNatClampNeg (102 : Int32)) q_415 (23 : Int32).toNatClampNeg (0 : Int32)).2.1 h 34 = .int 0 := kn_488
  have kn_531 : (sC (sC (sC (sC (sC (sC (sC (sC g_509 q_415 (16 : Int32).toNatClampNeg (115 : Int32)) q_415 (17 : Int32).toNatClampNeg (107 : Int32)) q_415 (18 : Int32).toNatClampNeg (100 : Int32)) q_415 (19 : Int32).toNatClampNeg (111 : Int32)) q_415 (20 : Int32).toNatClampNeg (0 : Int32)) q_415 (21 : Int32).toNatClampNeg (105 : Int32)) q_415 (22 : Int32).toNatClampNeg (102 : Int32)) q_415 (23 : Int32).toNatClampNeg (0 : Int32)).2.1 h 2 = .ref q_8 := kn_489
  have kn_532 : (sC (sC (sC (sC (sC (sC (sC (sC g_509 q_415 (16 : Int32).toNatClampNeg (115 : Int32)) q_415 (17 : Int32).toNatClampNeg (107 : Int32)) q_415 (18 : Int32).toNatClampNeg (100 : Int32)) q_415 (19 : Int32).toNatClampNeg (111 : Int32)) q_415 (20 : Int32).toNatClampNeg (0 : Int32)) q_415 (21 : Int32).toNatClampNeg (105 : Int32)) q_415 (22 : Int32).toNatClampNeg (102 : Int32)) q_415 (23 : Int32).toNatClampNeg (0 : Int32)).2.1 h 3 = .ref q_15 := kn_490
  have kn_533 : (sC (sC (sC (sC (sC (sC (sC (sC g_509 q_415 (16 : Int32).toNatClampNeg (115 : Int32)) q_415 (17 : Int32).toNatClampNeg (107 : Int32)) q_415 (18 : Int32).toNatClampNeg (100 : Int32)) q_415 (19 : Int32).toNatClampNeg (111 : Int32)) q_415 (20 : Int32).toNatClampNeg (0 : Int32)) q_415 (21 : Int32).toNatClampNeg (105 : Int32)) q_415 (22 : Int32).toNatClampNeg (102 : Int32)) q_415 (23 : Int32).toNatClampNeg (0 : Int32)).2.1 h 39 = .ref q_367 := kn_491
  have kn_534 : (sC (sC (sC (sC (sC (sC (sC (sC g_509 q_415 (16 : Int32).toNatClampNeg (115 : Int32)) q_415 (17 : Int32).toNatClampNeg (107 : Int32)) q_415 (18 : Int32).toNatClampNeg (100 : Int32)) q_415 (19 : Int32).toNatClampNeg (111 : Int32)) q_415 (20 : Int32).toNatClampNeg (0 : Int32)) q_415 (21 : Int32).toNatClampNeg (105 : Int32)) q_415 (22 : Int32).toNatClampNeg (102 : Int32)) q_415 (23 : Int32).toNatClampNeg (0 : Int32)).2.1 h 40 = .ref q_380 := kn_492
  have kn_535 : (sC (sC (sC (sC (sC (sC (sC (sC g_509 q_415 (16 : Int32).toNatClampNeg (115 : Int32)) q_415 (17 : Int32).toNatClampNeg (107 : Int32)) q_415 (18 : Int32).toNatClampNeg (100 : Int32)) q_415 (19 : Int32).toNatClampNeg (111 : Int32)) q_415 (20 : Int32).toNatClampNeg (0 : Int32)) q_415 (21 : Int32).toNatClampNeg (105 : Int32)) q_415 (22 : Int32).toNatClampNeg (102 : Int32)) q_415 (23 : Int32).toNatClampNeg (0 : Int32)).2.2.2.1 q_415 (0 : Int32).toNatClampNeg = 115 := (sC_i (sC_i (sC_i (sC_i (sC_i (sC_i (sC_i (sC_i kn_493 (by decide)) (by decide)) (by decide)) (by decide)) (by decide)) (by decide)) (by decide)) (by decide))
  have kn_536 : (sC (sC (sC (sC (sC (sC (sC (sC g_509 q_415 (16 : Int32).toNatClampNeg (115 : Int32)) q_415 (17 : Int32).toNatClampNeg (107 : Int32)) q_415 (18 : Int32).toNatClampNeg (100 : Int32)) q_415 (19 : Int32).toNatClampNeg (111 : Int32)) q_415 (20 : Int32).toNatClampNeg (0 : Int32)) q_415 (21 : Int32).toNatClampNeg (105 : Int32)) q_415 (22 : Int32).toNatClampNeg (102 : Int32)) q_415 (23 : Int32).toNatClampNeg (0 : Int32)).2.2.2.1 q_415 (1 : Int32).toNatClampNeg = 101 := (sC_i (sC_i (sC_i (sC_i (sC_i (sC_i (sC_i (sC_i kn_494 (by decide)) (by decide)) (by decide)) (by decide)) (by decide)) (by decide)) (by decide)) (by decide))
  have kn_537 : (sC (sC (sC (sC (sC (sC (sC (sC g_509 q_415 (16 : Int32).toNatClampNeg (115 : Int32)) q_415 (17 : Int32).toNatClampNeg (107 : Int32)) q_415 (18 : Int32).toNatClampNeg (100 : Int32)) q_415 (19 : Int32).toNatClampNeg (111 : Int32)) q_415 (20 : Int32).toNatClampNeg (0 : Int32)) q_415 (21 : Int32).toNatClampNeg (105 : Int32)) q_415 (22 : Int32).toNatClampNeg (102 : Int32)) q_415 (23 : Int32).toNatClampNeg (0 : Int32)).2.2.2.1 q_415 (2 : Int32).toNatClampNeg = 116 := (sC_i (sC_i (sC_i (sC_i (sC_i (sC_i (sC_i (sC_i kn_495 (by decide)) (by decide)) (by decide)) (by decide)) (by decide)) (by decide)) (by decide)) (by decide))
  have kn_538 : (sC (sC (sC (sC (sC (sC (sC (sC g_509 q_415 (16 : Int32).toNatClampNeg (115 : Int32)) q_415 (17 : Int32).toNatClampNeg (107 : Int32)) q_415 (18 : Int32).toNatClampNeg (100 : Int32)) q_415 (19 : Int32).toNatClampNeg (111 : Int32)) q_415 (20 : Int32).toNatClampNeg (0 : Int32)) q_415 (21 : Int32).toNatClampNeg (105 : Int32)) q_415 (22 : Int32).toNatClampNeg (102 : Int32)) q_415 (23 : Int32).toNatClampNeg (0 : Int32)).2.2.2.1 q_415 (3 : Int32).toNatClampNeg = 97 := (sC_i (sC_i (sC_i (sC_i (sC_i (sC_i (sC_i (sC_i kn_496 (by decide)) (by decide)) (by decide)) (by decide)) (by decide)) (by decide)) (by decide)) (by decide))
  have kn_539 : (sC (sC (sC (sC (sC (sC (sC (sC g_509 q_415 (16 : Int32).toNatClampNeg (115 : Int32)) q_415 (17 : Int32).toNatClampNeg (107 : Int32)) q_415 (18 : Int32).toNatClampNeg (100 : Int32)) q_415 (19 : Int32).toNatClampNeg (111 : Int32)) q_415 (20 : Int32).toNatClampNeg (0 : Int32)) q_415 (21 : Int32).toNatClampNeg (105 : Int32)) q_415 (22 : Int32).toNatClampNeg (102 : Int32)) q_415 (23 : Int32).toNatClampNeg (0 : Int32)).2.2.2.1 q_415 (4 : Int32).toNatClampNeg = 100 := (sC_i (sC_i (sC_i (sC_i (sC_i (sC_i (sC_i (sC_i kn_497 (by decide)) (by decide)) (by decide)) (by decide)) (by decide)) (by decide)) (by decide)) (by decide))
  have kn_540 : (sC (sC (sC (sC (sC (sC (sC (sC g_509 q_415 (16 : Int32).toNatClampNeg (115 : Int32)) q_415 (17 : Int32).toNatClampNeg (107 : Int32)) q_415 (18 : Int32).toNatClampNeg (100 : Int32)) q_415 (19 : Int32).toNatClampNeg (111 : Int32)) q_415 (20 : Int32).toNatClampNeg (0 : Int32)) q_415 (21 : Int32).toNatClampNeg (105 : Int32)) q_415 (22 : Int32).toNatClampNeg (102 : Int32)) q_415 (23 : Int32).toNatClampNeg (0 : Int32)).2.2.2.1 q_415 (5 : Int32).toNatClampNeg = 100 := (sC_i (sC_i (sC_i (sC_i (sC_i (sC_i (sC_i (sC_i kn_498 (by decide)) (by decide)) (by decide)) (by decide)) (by decide)) (by decide)) (by decide)) (by decide))
  have kn_541 : (sC (sC (sC (sC (sC (sC (sC (sC g_509 q_415 (16 : Int32).toNatClampNeg (115 : Int32)) q_415 (17 : Int32).toNatClampNeg (107 : Int32)) q_415 (18 : Int32).toNatClampNeg (100 : Int32)) q_415 (19 : Int32).toNatClampNeg (111 : Int32)) q_415 (20 : Int32).toNatClampNeg (0 : Int32)) q_415 (21 : Int32).toNatClampNeg (105 : Int32)) q_415 (22 : Int32).toNatClampNeg (102 : Int32)) q_415 (23 : Int32).toNatClampNeg (0 : Int32)).2.2.2.1 q_415 (6 : Int32).toNatClampNeg = 109 := (sC_i (sC_i (sC_i (sC_i (sC_i (sC_i (sC_i (sC_i kn_499 (by decide)) (by decide)) (by decide)) (by decide)) (by decide)) (by decide)) (by decide)) (by decide))
  have kn_542 : (sC (sC (sC (sC (sC (sC (sC (sC g_509 q_415 (16 : Int32).toNatClampNeg (115 : Int32)) q_415 (17 : Int32).toNatClampNeg (107 : Int32)) q_415 (18 : Int32).toNatClampNeg (100 : Int32)) q_415 (19 : Int32).toNatClampNeg (111 : Int32)) q_415 (20 : Int32).toNatClampNeg (0 : Int32)) q_415 (21 : Int32).toNatClampNeg (105 : Int32)) q_415 (22 : Int32).toNatClampNeg (102 : Int32)) q_415 (23 : Int32).toNatClampNeg (0 : Int32)).2.2.2.1 q_415 (7 : Int32).toNatClampNeg = 97 := (sC_i (sC_i (sC_i (sC_i (sC_i (sC_i (sC_i (sC_i kn_500 (by decide)) (by decide)) (by decide)) (by decide)) (by decide)) (by decide)) (by decide)) (by decide))
  have kn_543 : (sC (sC (sC (sC (sC (sC (sC (sC g_509 q_415 (16 : Int32).toNatClampNeg (115 : Int32)) q_415 (17 : Int32).toNatClampNeg (107 : Int32)) q_415 (18 : Int32).toNatClampNeg (100 : Int32)) q_415 (19 : Int32).toNatClampNeg (111 : Int32)) q_415 (20 : Int32).toNatClampNeg (0 : Int32)) q_415 (21 : Int32).toNatClampNeg (105 : Int32)) q_415 (22 : Int32).toNatClampNeg (102 : Int32)) q_415 (23 : Int32).toNatClampNeg (0 : Int32)).2.2.2.1 q_415 (8 : Int32).toNatClampNeg = 120 := (sC_i (sC_i (sC_i (sC_i (sC_i (sC_i (sC_i (sC_i kn_501 (by decide)) (by decide)) (by decide)) (by decide)) (by decide)) (by decide)) (by decide)) (by decide))
  have kn_544 : (sC (sC (sC (sC (sC (sC (sC (sC g_509 q_415 (16 : Int32).toNatClampNeg (115 : Int32)) q_415 (17 : Int32).toNatClampNeg (107 : Int32)) q_415 (18 : Int32).toNatClampNeg (100 : Int32)) q_415 (19 : Int32).toNatClampNeg (111 : Int32)) q_415 (20 : Int32).toNatClampNeg (0 : Int32)) q_415 (21 : Int32).toNatClampNeg (105 : Int32)) q_415 (22 : Int32).toNatClampNeg (102 : Int32)) q_415 (23 : Int32).toNatClampNeg (0 : Int32)).2.2.2.1 q_415 (9 : Int32).toNatClampNeg = 110 := (sC_i (sC_i (sC_i (sC_i (sC_i (sC_i (sC_i (sC_i kn_502 (by decide)) (by decide)) (by decide)) (by decide)) (by decide)) (by decide)) (by decide)) (by decide))
  have kn_545 : (sC (sC (sC (sC (sC (sC (sC (sC g_509 q_415 (16 : Int32).toNatClampNeg (115 : Int32)) q_415 (17 : Int32).toNatClampNeg (107 : Int32)) q_415 (18 : Int32).toNatClampNeg (100 : Int32)) q_415 (19 : Int32).toNatClampNeg (111 : Int32)) q_415 (20 : Int32).toNatClampNeg (0 : Int32)) q_415 (21 : Int32).toNatClampNeg (105 : Int32)) q_415 (22 : Int32).toNatClampNeg (102 : Int32)) q_415 (23 : Int32).toNatClampNeg (0 : Int32)).2.2.2.1 q_415 (10 : Int32).toNatClampNeg = 101 := (sC_i (sC_i (sC_i (sC_i (sC_i (sC_i (sC_i (sC_i kn_503 (by decide)) (by decide)) (by decide)) (by decide)) (by decide)) (by decide)) (by decide)) (by decide))
  have kn_546 : (sC (sC (sC (sC (sC (sC (sC (sC g_509 q_415 (16 : Int32).toNatClampNeg (115 : Int32)) q_415 (17 : Int32).toNatClampNeg (107 : Int32)) q_415 (18 : Int32).toNatClampNeg (100 : Int32)) q_415 (19 : Int32).toNatClampNeg (111 : Int32)) q_415 (20 : Int32).toNatClampNeg (0 : Int32)) q_415 (21 : Int32).toNatClampNeg (105 : Int32)) q_415 (22 : Int32).toNatClampNeg (102 : Int32)) q_415 (23 : Int32).toNatClampNeg (0 : Int32)).2.2.2.1 q_415 (11 : Int32).toNatClampNeg = 119 := (sC_i (sC_i (sC_i (sC_i (sC_i (sC_i (sC_i (sC_i kn_504 (by decide)) (by decide)) (by decide)) (by decide)) (by decide)) (by decide)) (by decide)) (by decide))
  have kn_547 : (sC (sC (sC (sC (sC (sC (sC (sC g_509 q_415 (16 : Int32).toNatClampNeg (115 : Int32)) q_415 (17 : Int32).toNatClampNeg (107 : Int32)) q_415 (18 : Int32).toNatClampNeg (100 : Int32)) q_415 (19 : Int32).toNatClampNeg (111 : Int32)) q_415 (20 : Int32).toNatClampNeg (0 : Int32)) q_415 (21 : Int32).toNatClampNeg (105 : Int32)) q_415 (22 : Int32).toNatClampNeg (102 : Int32)) q_415 (23 : Int32).toNatClampNeg (0 : Int32)).2.2.2.1 q_415 (12 : Int32).toNatClampNeg = 103 := (sC_i (sC_i (sC_i (sC_i (sC_i (sC_i (sC_i (sC_i kn_505 (by decide)) (by decide)) (by decide)) (by decide)) (by decide)) (by decide)) (by decide)) (by decide))
  have kn_548 : (sC (sC (sC (sC (sC (sC (sC (sC g_509 q_415 (16 : Int32).toNatClampNeg (115 : Int32)) q_415 (17 : Int32).toNatClampNeg (107 : Int32)) q_415 (18 : Int32).toNatClampNeg (100 : Int32)) q_415 (19 : Int32).toNatClampNeg (111 : Int32)) q_415 (20 : Int32).toNatClampNeg (0 : Int32)) q_415 (21 : Int32).toNatClampNeg (105 : Int32)) q_415 (22 : Int32).toNatClampNeg (102 : Int32)) q_415 (23 : Int32).toNatClampNeg (0 : Int32)).2.2.2.1 q_415 (13 : Int32).toNatClampNeg = 101 := (sC_i (sC_i (sC_i (sC_i (sC_i (sC_i (sC_i (sC_i kn_506 (by decide)) (by decide)) (by decide)) (by decide)) (by decide)) (by decide)) (by decide)) (by decide))
  have kn_549 : (sC (sC (sC (sC (sC (sC (sC (sC g_509 q_415 (16 : Int32).toNatClampNeg (115 : Int32)) q_415 (17 : Int32).toNatClampNeg (107 : Int32)) q_415 (18 : Int32).toNatClampNeg (100 : Int32)) q_415 (19 : Int32).toNatClampNeg (111 : Int32)) q_415 (20 : Int32).toNatClampNeg (0 : Int32)) q_415 (21 : Int32).toNatClampNeg (105 : Int32)) q_415 (22 : Int32).toNatClampNeg (102 : Int32)) q_415 (23 : Int32).toNatClampNeg (0 : Int32)).2.2.2.1 q_415 (14 : Int32).toNatClampNeg = 116 := (sC_i (sC_i (sC_i (sC_i (sC_i (sC_i (sC_i (sC_i kn_507 (by decide)) (by decide)) (by decide)) (by decide)) (by decide)) (by decide)) (by decide)) (by decide))
  have kn_550 : (sC (sC (sC (sC (sC (sC (sC (sC g_509 q_415 (16 : Int32).toNatClampNeg (115 : Int32)) q_415 (17 : Int32).toNatClampNeg (107 : Int32)) q_415 (18 : Int32).toNatClampNeg (100 : Int32)) q_415 (19 : Int32).toNatClampNeg (111 : Int32)) q_415 (20 : Int32).toNatClampNeg (0 : Int32)) q_415 (21 : Int32).toNatClampNeg (105 : Int32)) q_415 (22 : Int32).toNatClampNeg (102 : Int32)) q_415 (23 : Int32).toNatClampNeg (0 : Int32)).2.2.2.1 q_415 (15 : Int32).toNatClampNeg = 97 := (sC_i (sC_i (sC_i (sC_i (sC_i (sC_i (sC_i (sC_i kn_508 (by decide)) (by decide)) (by decide)) (by decide)) (by decide)) (by decide)) (by decide)) (by decide))
  have kn_551 : (sC (sC (sC (sC (sC (sC (sC (sC g_509 q_415 (16 : Int32).toNatClampNeg (115 : Int32)) q_415 (17 : Int32).toNatClampNeg (107 : Int32)) q_415 (18 : Int32).toNatClampNeg (100 : Int32)) q_415 (19 : Int32).toNatClampNeg (111 : Int32)) q_415 (20 : Int32).toNatClampNeg (0 : Int32)) q_415 (21 : Int32).toNatClampNeg (105 : Int32)) q_415 (22 : Int32).toNatClampNeg (102 : Int32)) q_415 (23 : Int32).toNatClampNeg (0 : Int32)).2.2.2.1 q_415 (16 : Int32).toNatClampNeg = 115 := (sC_i (sC_i (sC_i (sC_i (sC_i (sC_i (sC_i sC_eq (by decide)) (by decide)) (by decide)) (by decide)) (by decide)) (by decide)) (by decide))
  have kn_552 : (sC (sC (sC (sC (sC (sC (sC (sC g_509 q_415 (16 : Int32).toNatClampNeg (115 : Int32)) q_415 (17 : Int32).toNatClampNeg (107 : Int32)) q_415 (18 : Int32).toNatClampNeg (100 : Int32)) q_415 (19 : Int32).toNatClampNeg (111 : Int32)) q_415 (20 : Int32).toNatClampNeg (0 : Int32)) q_415 (21 : Int32).toNatClampNeg (105 : Int32)) q_415 (22 : Int32).toNatClampNeg (102 : Int32)) q_415 (23 : Int32).toNatClampNeg (0 : Int32)).2.2.2.1 q_415 (17 : Int32).toNatClampNeg = 107 := (sC_i (sC_i (sC_i (sC_i (sC_i (sC_i sC_eq (by decide)) (by decide)) (by decide)) (by decide)) (by decide)) (by decide))
  have kn_553 : (sC (sC (sC (sC (sC (sC (sC (sC g_509 q_415 (16 : Int32).toNatClampNeg (115 : Int32)) q_415 (17 : Int32).toNatClampNeg (107 : Int32)) q_415 (18 : Int32).toNatClampNeg (100 : Int32)) q_415 (19 : Int32).toNatClampNeg (111 : Int32)) q_415 (20 : Int32).toNatClampNeg (0 : Int32)) q_415 (21 : Int32).toNatClampNeg (105 : Int32)) q_415 (22 : Int32).toNatClampNeg (102 : Int32)) q_415 (23 : Int32).toNatClampNeg (0 : Int32)).2.2.2.1 q_415 (18 : Int32).toNatClampNeg = 100 := (sC_i (sC_i (sC_i (sC_i (sC_i sC_eq (by decide)) (by decide)) (by decide)) (by decide)) (by decide))
  have kn_554 : (sC (sC (sC (sC (sC (sC (sC (sC g_509 q_415 (16 : Int32).toNatClampNeg (115 : Int32)) q_415 (17 : Int32).toNatClampNeg (107 : Int32)) q_415 (18 : Int32).toNatClampNeg (100 : Int32)) q_415 (19 : Int32).toNatClampNeg (111 : Int32)) q_415 (20 : Int32).toNatClampNeg (0 : Int32)) q_415 (21 : Int32).toNatClampNeg (105 : Int32)) q_415 (22 : Int32).toNatClampNeg (102 : Int32)) q_415 (23 : Int32).toNatClampNeg (0 : Int32)).2.2.2.1 q_415 (19 : Int32).toNatClampNeg = 111 := (sC_i (sC_i (sC_i (sC_i sC_eq (by decide)) (by decide)) (by decide)) (by decide))
  have kn_555 : (sC (sC (sC (sC (sC (sC (sC (sC g_509 q_415 (16 : Int32).toNatClampNeg (115 : Int32)) q_415 (17 : Int32).toNatClampNeg (107 : Int32)) q_415 (18 : Int32).toNatClampNeg (100 : Int32)) q_415 (19 : Int32).toNatClampNeg (111 : Int32)) q_415 (20 : Int32).toNatClampNeg (0 : Int32)) q_415 (21 : Int32).toNatClampNeg (105 : Int32)) q_415 (22 : Int32).toNatClampNeg (102 : Int32)) q_415 (23 : Int32).toNatClampNeg (0 : Int32)).2.2.2.1 q_415 (20 : Int32).toNatClampNeg = 0 := (sC_i (sC_i (sC_i sC_eq (by decide)) (by decide)) (by decide))
  have kn_556 : (sC (sC (sC (sC (sC (sC (sC (sC g_509 q_415 (16 : Int32).toNatClampNeg (115 : Int32)) q_415 (17 : Int32).toNatClampNeg (107 : Int32)) q_415 (18 : Int32).toNatClampNeg (100 : Int32)) q_415 (19 : Int32).toNatClampNeg (111 : Int32)) q_415 (20 : Int32).toNatClampNeg (0 : Int32)) q_415 (21 : Int32).toNatClampNeg (105 : Int32)) q_415 (22 : Int32).toNatClampNeg (102 : Int32)) q_415 (23 : Int32).toNatClampNeg (0 : Int32)).2.2.2.1 q_415 (21 : Int32).toNatClampNeg = 105 := (sC_i (sC_i sC_eq (by decide)) (by decide))
  have kn_557 : (sC (sC (sC (sC (sC (sC (sC (sC g_509 q_415 (16 : Int32).toNatClampNeg (115 : Int32)) q_415 (17 : Int32).toNatClampNeg (107 : Int32)) q_415 (18 : Int32).toNatClampNeg (100 : Int32)) q_415 (19 : Int32).toNatClampNeg (111 : Int32)) q_415 (20 : Int32).toNatClampNeg (0 : Int32)) q_415 (21 : Int32).toNatClampNeg (105 : Int32)) q_415 (22 : Int32).toNatClampNeg (102 : Int32)) q_415 (23 : Int32).toNatClampNeg (0 : Int32)).2.2.2.1 q_415 (22 : Int32).toNatClampNeg = 102 := (sC_i sC_eq (by decide))
  have kn_558 : (sC (sC (sC (sC (sC (sC (sC (sC g_509 q_415 (16 : Int32).toNatClampNeg (115 : Int32)) q_415 (17 : Int32).toNatClampNeg (107 : Int32)) q_415 (18 : Int32).toNatClampNeg (100 : Int32)) q_415 (19 : Int32).toNatClampNeg (111 : Int32)) q_415 (20 : Int32).toNatClampNeg (0 : Int32)) q_415 (21 : Int32).toNatClampNeg (105 : Int32)) q_415 (22 : Int32).toNatClampNeg (102 : Int32)) q_415 (23 : Int32).toNatClampNeg (0 : Int32)).2.2.2.1 q_415 (23 : Int32).toNatClampNeg = 0 := sC_eq
  generalize (sC (sC (sC (sC (sC (sC (sC (sC g_509 q_415 (16 : Int32).toNatClampNeg (115 : Int32)) q_415 (17 : Int32).toNatClampNeg (107 : Int32)) q_415 (18 : Int32).toNatClampNeg (100 : Int32)) q_415 (19 : Int32).toNatClampNeg (111 : Int32)) q_415 (20 : Int32).toNatClampNeg (0 : Int32)) q_415 (21 : Int32).toNatClampNeg (105 : Int32)) q_415 (22 : Int32).toNatClampNeg (102 : Int32)) q_415 (23 : Int32).toNatClampNeg (0 : Int32)) = g_559 at hT hI hM hE r_518 r_519 r_520 r_521 r_522 r_523 n_524 n_525 n_526 n_527 n_528 kn_529 kn_530 kn_531 kn_532 kn_533 kn_534 kn_535 kn_536 kn_537 kn_538 kn_539 kn_540 kn_541 kn_542 kn_543 kn_544 kn_545 kn_546 kn_547 kn_548 kn_549 kn_550 kn_551 kn_552 kn_553 kn_554 kn_555 kn_556 kn_557 kn_558 hP zP zN
  refine t_put0 (ci := 7) (v := .ref q_415) hB hT (ro_ci r_518 rfl) (ro_n0 r_518 (by decide)) rfl 42 (by decide) k_787 (Or.inr ⟨hin, rfl⟩) rfl rfl dX7_init_419 (fun H locs hT => ?_)
  have hI : Inv (sF g_559 h 42 (.ref q_415)) := hI.sF (fk r_518 (show fsm _ _ ft from trivial))
  have hM : Sm md_k_Model g (sF g_559 h 42 (.ref q_415)) := hM.tr hE (Sm_sF (by rw [r_518]; rfl))
  have hE : Ex g (sF g_559 h 42 (.ref q_415)) := hE
  have hP : PF [42, 41, 40, 39, 35, 33, 32, 31, 28, 27, 26, 25, 23, 20, 19, 18, 17, 16, 15, 14, 13, 12, 11, 10, 9, 8, 7, 6, 5, 4, 3, 2, 1, 60, 52, 51, 50, 49, 38, 37, 36, 34, 30, 29, 24, 22, 21, 0] (sF g_559 h 42 (.ref q_415)) h := hP.put (q_8_42 (⟨_, rfl, r_523, n_528⟩))
  have zP : ZC (sF g_559 h 42 (.ref q_415)) q_15 := zP
  have zN : ZC (sF g_559 h 42 (.ref q_415)) q_380 := zN
  refine lv_aload_n hx hb dX7_init_422 rfl (lv_at hl 0 rfl) ?_
  refine lv_bipush (v := 7) hx hb dX7_init_423 (by decide) ?_
  refine t_newi (N' := 7) hB hT 51 (by decide) k_101 (by decide) (by decide) (by decide) (Nat.le_of_ble_eq_true rfl) (Nat.le_of_ble_eq_true rfl) dX7_init_425 (fun q_560 H o_q_560 hT => ?_)
  have z_q_560 : g.1 q_560 = 0 := hE.z0 o_q_560
  have hI : Inv (sA (sF g_559 h 42 (.ref q_415)) q_560 51 7) := hI.newi o_q_560 (by decide) (fun _ => rfl) ⟨by decide, by decide⟩ (fun _ => trivial)
  have hM : Sm md_k_Model g (sA (sF g_559 h 42 (.ref q_415)) q_560 51 7) := hM.tr hE (Sm.push o_q_560 sA_g)
  have hE : Ex g (sA (sF g_559 h 42 (.ref q_415)) q_560 51 7) := hE.tr (Ex.push o_q_560 sA_g)
  have hP : PF [42, 41, 40, 39, 35, 33, 32, 31, 28, 27, 26, 25, 23, 20, 19, 18, 17, 16, 15, 14, 13, 12, 11, 10, 9, 8, 7, 6, 5, 4, 3, 2, 1, 60, 52, 51, 50, 49, 38, 37, 36, 34, 30, 29, 24, 22, 21, 0] (sA (sF g_559 h 42 (.ref q_415)) q_560 51 7) h := hP.pu (Ex.push o_q_560 sA_g) (sA_g h (ne0 r_518 o_q_560 (by decide))).2.1
  have zP : ZC (sA (sF g_559 h 42 (.ref q_415)) q_560 51 7) q_15 := zP.pu (sA_g q_15 (ne0 r_520 o_q_560 (by decide))).2.2.2.1
  have zN : ZC (sA (sF g_559 h 42 (.ref q_415)) q_560 51 7) q_380 := zN.pu (sA_g q_380 (ne0 r_522 o_q_560 (by decide))).2.2.2.1
  have r_561 : (sA (sF g_559 h 42 (.ref q_415)) q_560 51 7).1 h = 18 := ((sA_g h (ne0 r_518 o_q_560 (by decide))).1.trans r_518)
  have r_562 : (sA (sF g_559 h 42 (.ref q_415)) q_560 51 7).1 q_8 = 71 := ((sA_g q_8 (ne0 r_519 o_q_560 (by decide))).1.trans r_519)
  have r_563 : (sA (sF g_559 h 42 (.ref q_415)) q_560 51 7).1 q_15 = 72 := ((sA_g q_15 (ne0 r_520 o_q_560 (by decide))).1.trans r_520)
  have r_564 : (sA (sF g_559 h 42 (.ref q_415)) q_560 51 7).1 q_367 = 84 := ((sA_g q_367 (ne0 r_521 o_q_560 (by decide))).1.trans r_521)
  have r_565 : (sA (sF g_559 h 42 (.ref q_415)) q_560 51 7).1 q_380 = 85 := ((sA_g q_380 (ne0 r_522 o_q_560 (by decide))).1.trans r_522)
  have r_566 : (sA (sF g_559 h 42 (.ref q_415)) q_560 51 7).1 q_560 = 51 := sA_r
  have n_567 : (sA (sF g_559 h 42 (.ref q_415)) q_560 51 7).2.2.1 q_8 = 48 := ((sA_g q_8 (ne0 r_519 o_q_560 (by decide))).2.2.1.trans n_524)
  have n_568 : (sA (sF g_559 h 42 (.ref q_415)) q_560 51 7).2.2.1 q_15 = 48 := ((sA_g q_15 (ne0 r_520 o_q_560 (by decide))).2.2.1.trans n_525)
  have n_569 : (sA (sF g_559 h 42 (.ref q_415)) q_560 51 7).2.2.1 q_367 = 8 := ((sA_g q_367 (ne0 r_521 o_q_560 (by decide))).2.2.1.trans n_526)
  have n_570 : (sA (sF g_559 h 42 (.ref q_415)) q_560 51 7).2.2.1 q_380 = 8 := ((sA_g q_380 (ne0 r_522 o_q_560 (by decide))).2.2.1.trans n_527)
  have n_571 : (sA (sF g_559 h 42 (.ref q_415)) q_560 51 7).2.2.1 q_560 = 7 := sA_n
  have kn_572 : (sA (sF g_559 h 42 (.ref q_415)) q_560 51 7).2.1 h 22 = .int 0 := ((congrFun (sA_g h (ne0 r_518 o_q_560 (by decide))).2.1 22).trans (sF_k kn_529 (by decide)))
  have kn_573 : (sA (sF g_559 h 42 (.ref q_415)) q_560 51 7).2.1 h 34 = .int 0 := ((congrFun (sA_g h (ne0 r_518 o_q_560 (by decide))).2.1 34).trans (sF_k kn_530 (by decide)))
  have kn_574 : (sA (sF g_559 h 42 (.ref q_415)) q_560 51 7).2.1 h 2 = .ref q_8 := ((congrFun (sA_g h (ne0 r_518 o_q_560 (by decide))).2.1 2).trans (sF_k kn_531 (by decide)))
  have kn_575 : (sA (sF g_559 h 42 (.ref q_415)) q_560 51 7).2.1 h 3 = .ref q_15 := ((congrFun (sA_g h (ne0 r_518 o_q_560 (by decide))).2.1 3).trans (sF_k kn_532 (by decide)))
  have kn_576 : (sA (sF g_559 h 42 (.ref q_415)) q_560 51 7).2.1 h 39 = .ref q_367 := ((congrFun (sA_g h (ne0 r_518 o_q_560 (by decide))).2.1 39).trans (sF_k kn_533 (by decide)))
  have kn_577 : (sA (sF g_559 h 42 (.ref q_415)) q_560 51 7).2.1 h 40 = .ref q_380 := ((congrFun (sA_g h (ne0 r_518 o_q_560 (by decide))).2.1 40).trans (sF_k kn_534 (by decide)))
  generalize (sA (sF g_559 h 42 (.ref q_415)) q_560 51 7) = g_578 at hT hI hM hE r_561 r_562 r_563 r_564 r_565 r_566 n_567 n_568 n_569 n_570 n_571 kn_572 kn_573 kn_574 kn_575 kn_576 kn_577 hP zP zN
  refine W.widen (k := 34) (n := 1605) (Nat.le_of_ble_eq_true rfl) (Nat.le_of_ble_eq_true rfl) ?_
  refine t_put0 (ci := 7) (v := .ref q_560) hB hT (ro_ci r_561 rfl) (ro_n0 r_561 (by decide)) rfl 43 (by decide) k_788 (Or.inr ⟨hin, rfl⟩) rfl rfl dX7_init_427 (fun H locs hT => ?_)
  have hI : Inv (sF g_578 h 43 (.ref q_560)) := hI.sF (fk r_561 (show fsm _ _ ft from trivial))
  have hM : Sm md_k_Model g (sF g_578 h 43 (.ref q_560)) := hM.tr hE (Sm_sF (by rw [r_561]; rfl))
  have hE : Ex g (sF g_578 h 43 (.ref q_560)) := hE
  have hP : PF [43, 42, 41, 40, 39, 35, 33, 32, 31, 28, 27, 26, 25, 23, 20, 19, 18, 17, 16, 15, 14, 13, 12, 11, 10, 9, 8, 7, 6, 5, 4, 3, 2, 1, 60, 52, 51, 50, 49, 38, 37, 36, 34, 30, 29, 24, 22, 21, 0] (sF g_578 h 43 (.ref q_560)) h := hP.put (q_8_43 (⟨_, rfl, r_566, n_571⟩))
  have zP : ZC (sF g_578 h 43 (.ref q_560)) q_15 := zP
  have zN : ZC (sF g_578 h 43 (.ref q_560)) q_380 := zN
  refine lv_aload_n hx hb dX7_init_430 rfl (lv_at hl 0 rfl) ?_
  refine lv_bipush (v := 7) hx hb dX7_init_431 (by decide) ?_
  refine t_newi (N' := 7) hB hT 56 (by decide) k_101 (by decide) (by decide) (by decide) (Nat.le_of_ble_eq_true rfl) (Nat.le_of_ble_eq_true rfl) dX7_init_433 (fun q_579 H o_q_579 hT => ?_)
  have z_q_579 : g.1 q_579 = 0 := hE.z0 o_q_579
  have hI : Inv (sA (sF g_578 h 43 (.ref q_560)) q_579 56 7) := hI.newi o_q_579 (by decide) (fun _ => rfl) ⟨by decide, by decide⟩ (fun _ => trivial)
  have hM : Sm md_k_Model g (sA (sF g_578 h 43 (.ref q_560)) q_579 56 7) := hM.tr hE (Sm.push o_q_579 sA_g)
  have hE : Ex g (sA (sF g_578 h 43 (.ref q_560)) q_579 56 7) := hE.tr (Ex.push o_q_579 sA_g)
  have hP : PF [43, 42, 41, 40, 39, 35, 33, 32, 31, 28, 27, 26, 25, 23, 20, 19, 18, 17, 16, 15, 14, 13, 12, 11, 10, 9, 8, 7, 6, 5, 4, 3, 2, 1, 60, 52, 51, 50, 49, 38, 37, 36, 34, 30, 29, 24, 22, 21, 0] (sA (sF g_578 h 43 (.ref q_560)) q_579 56 7) h := hP.pu (Ex.push o_q_579 sA_g) (sA_g h (ne0 r_561 o_q_579 (by decide))).2.1
  have zP : ZC (sA (sF g_578 h 43 (.ref q_560)) q_579 56 7) q_15 := zP.pu (sA_g q_15 (ne0 r_563 o_q_579 (by decide))).2.2.2.1
  have zN : ZC (sA (sF g_578 h 43 (.ref q_560)) q_579 56 7) q_380 := zN.pu (sA_g q_380 (ne0 r_565 o_q_579 (by decide))).2.2.2.1
  have r_580 : (sA (sF g_578 h 43 (.ref q_560)) q_579 56 7).1 h = 18 := ((sA_g h (ne0 r_561 o_q_579 (by decide))).1.trans r_561)
  have r_581 : (sA (sF g_578 h 43 (.ref q_560)) q_579 56 7).1 q_8 = 71 := ((sA_g q_8 (ne0 r_562 o_q_579 (by decide))).1.trans r_562)
  have r_582 : (sA (sF g_578 h 43 (.ref q_560)) q_579 56 7).1 q_15 = 72 := ((sA_g q_15 (ne0 r_563 o_q_579 (by decide))).1.trans r_563)
  have r_583 : (sA (sF g_578 h 43 (.ref q_560)) q_579 56 7).1 q_367 = 84 := ((sA_g q_367 (ne0 r_564 o_q_579 (by decide))).1.trans r_564)
  have r_584 : (sA (sF g_578 h 43 (.ref q_560)) q_579 56 7).1 q_380 = 85 := ((sA_g q_380 (ne0 r_565 o_q_579 (by decide))).1.trans r_565)
  have r_585 : (sA (sF g_578 h 43 (.ref q_560)) q_579 56 7).1 q_579 = 56 := sA_r
  have n_586 : (sA (sF g_578 h 43 (.ref q_560)) q_579 56 7).2.2.1 q_8 = 48 := ((sA_g q_8 (ne0 r_562 o_q_579 (by decide))).2.2.1.trans n_567)
  have n_587 : (sA (sF g_578 h 43 (.ref q_560)) q_579 56 7).2.2.1 q_15 = 48 := ((sA_g q_15 (ne0 r_563 o_q_579 (by decide))).2.2.1.trans n_568)
  have n_588 : (sA (sF g_578 h 43 (.ref q_560)) q_579 56 7).2.2.1 q_367 = 8 := ((sA_g q_367 (ne0 r_564 o_q_579 (by decide))).2.2.1.trans n_569)
  have n_589 : (sA (sF g_578 h 43 (.ref q_560)) q_579 56 7).2.2.1 q_380 = 8 := ((sA_g q_380 (ne0 r_565 o_q_579 (by decide))).2.2.1.trans n_570)
  have n_590 : (sA (sF g_578 h 43 (.ref q_560)) q_579 56 7).2.2.1 q_579 = 7 := sA_n
  have kn_591 : (sA (sF g_578 h 43 (.ref q_560)) q_579 56 7).2.1 h 22 = .int 0 := ((congrFun (sA_g h (ne0 r_561 o_q_579 (by decide))).2.1 22).trans (sF_k kn_572 (by decide)))
  have kn_592 : (sA (sF g_578 h 43 (.ref q_560)) q_579 56 7).2.1 h 34 = .int 0 := ((congrFun (sA_g h (ne0 r_561 o_q_579 (by decide))).2.1 34).trans (sF_k kn_573 (by decide)))
  have kn_593 : (sA (sF g_578 h 43 (.ref q_560)) q_579 56 7).2.1 h 2 = .ref q_8 := ((congrFun (sA_g h (ne0 r_561 o_q_579 (by decide))).2.1 2).trans (sF_k kn_574 (by decide)))
  have kn_594 : (sA (sF g_578 h 43 (.ref q_560)) q_579 56 7).2.1 h 3 = .ref q_15 := ((congrFun (sA_g h (ne0 r_561 o_q_579 (by decide))).2.1 3).trans (sF_k kn_575 (by decide)))
  have kn_595 : (sA (sF g_578 h 43 (.ref q_560)) q_579 56 7).2.1 h 39 = .ref q_367 := ((congrFun (sA_g h (ne0 r_561 o_q_579 (by decide))).2.1 39).trans (sF_k kn_576 (by decide)))
  have kn_596 : (sA (sF g_578 h 43 (.ref q_560)) q_579 56 7).2.1 h 40 = .ref q_380 := ((congrFun (sA_g h (ne0 r_561 o_q_579 (by decide))).2.1 40).trans (sF_k kn_577 (by decide)))
  generalize (sA (sF g_578 h 43 (.ref q_560)) q_579 56 7) = g_597 at hT hI hM hE r_580 r_581 r_582 r_583 r_584 r_585 n_586 n_587 n_588 n_589 n_590 kn_591 kn_592 kn_593 kn_594 kn_595 kn_596 hP zP zN
  refine W.widen (k := 35) (n := 1612) (Nat.le_of_ble_eq_true rfl) (Nat.le_of_ble_eq_true rfl) ?_
  refine t_put0 (ci := 7) (v := .ref q_579) hB hT (ro_ci r_580 rfl) (ro_n0 r_580 (by decide)) rfl 44 (by decide) k_789 (Or.inr ⟨hin, rfl⟩) rfl rfl dX7_init_435 (fun H locs hT => ?_)
  have hI : Inv (sF g_597 h 44 (.ref q_579)) := hI.sF (fk r_580 (show fsm _ _ ft from trivial))
  have hM : Sm md_k_Model g (sF g_597 h 44 (.ref q_579)) := hM.tr hE (Sm_sF (by rw [r_580]; rfl))
  have hE : Ex g (sF g_597 h 44 (.ref q_579)) := hE
  have hP : PF [44, 43, 42, 41, 40, 39, 35, 33, 32, 31, 28, 27, 26, 25, 23, 20, 19, 18, 17, 16, 15, 14, 13, 12, 11, 10, 9, 8, 7, 6, 5, 4, 3, 2, 1, 60, 52, 51, 50, 49, 38, 37, 36, 34, 30, 29, 24, 22, 21, 0] (sF g_597 h 44 (.ref q_579)) h := hP.put (q_8_44 (⟨_, rfl, r_585, n_590⟩))
  have zP : ZC (sF g_597 h 44 (.ref q_579)) q_15 := zP
  have zN : ZC (sF g_597 h 44 (.ref q_579)) q_380 := zN
  refine lv_aload_n hx hb dX7_init_438 rfl (lv_at hl 0 rfl) ?_
  refine lv_bipush (v := 7) hx hb dX7_init_439 (by decide) ?_
  refine t_newi (N' := 7) hB hT 50 (by decide) k_101 (by decide) (by decide) (by decide) (Nat.le_of_ble_eq_true rfl) (Nat.le_of_ble_eq_true rfl) dX7_init_441 (fun q_598 H o_q_598 hT => ?_)
  have z_q_598 : g.1 q_598 = 0 := hE.z0 o_q_598
  have hI : Inv (sA (sF g_597 h 44 (.ref q_579)) q_598 50 7) := hI.newi o_q_598 (by decide) (fun _ => rfl) trivial (fun _ => trivial)
  have hM : Sm md_k_Model g (sA (sF g_597 h 44 (.ref q_579)) q_598 50 7) := hM.tr hE (Sm.push o_q_598 sA_g)
  have hE : Ex g (sA (sF g_597 h 44 (.ref q_579)) q_598 50 7) := hE.tr (Ex.push o_q_598 sA_g)
  have hP : PF [44, 43, 42, 41, 40, 39, 35, 33, 32, 31, 28, 27, 26, 25, 23, 20, 19, 18, 17, 16, 15, 14, 13, 12, 11, 10, 9, 8, 7, 6, 5, 4, 3, 2, 1, 60, 52, 51, 50, 49, 38, 37, 36, 34, 30, 29, 24, 22, 21, 0] (sA (sF g_597 h 44 (.ref q_579)) q_598 50 7) h := hP.pu (Ex.push o_q_598 sA_g) (sA_g h (ne0 r_580 o_q_598 (by decide))).2.1
  have zP : ZC (sA (sF g_597 h 44 (.ref q_579)) q_598 50 7) q_15 := zP.pu (sA_g q_15 (ne0 r_582 o_q_598 (by decide))).2.2.2.1
  have zN : ZC (sA (sF g_597 h 44 (.ref q_579)) q_598 50 7) q_380 := zN.pu (sA_g q_380 (ne0 r_584 o_q_598 (by decide))).2.2.2.1
  have r_599 : (sA (sF g_597 h 44 (.ref q_579)) q_598 50 7).1 h = 18 := ((sA_g h (ne0 r_580 o_q_598 (by decide))).1.trans r_580)
  have r_600 : (sA (sF g_597 h 44 (.ref q_579)) q_598 50 7).1 q_8 = 71 := ((sA_g q_8 (ne0 r_581 o_q_598 (by decide))).1.trans r_581)
  have r_601 : (sA (sF g_597 h 44 (.ref q_579)) q_598 50 7).1 q_15 = 72 := ((sA_g q_15 (ne0 r_582 o_q_598 (by decide))).1.trans r_582)
  have r_602 : (sA (sF g_597 h 44 (.ref q_579)) q_598 50 7).1 q_367 = 84 := ((sA_g q_367 (ne0 r_583 o_q_598 (by decide))).1.trans r_583)
  have r_603 : (sA (sF g_597 h 44 (.ref q_579)) q_598 50 7).1 q_380 = 85 := ((sA_g q_380 (ne0 r_584 o_q_598 (by decide))).1.trans r_584)
  have r_604 : (sA (sF g_597 h 44 (.ref q_579)) q_598 50 7).1 q_598 = 50 := sA_r
  have n_605 : (sA (sF g_597 h 44 (.ref q_579)) q_598 50 7).2.2.1 q_8 = 48 := ((sA_g q_8 (ne0 r_581 o_q_598 (by decide))).2.2.1.trans n_586)
  have n_606 : (sA (sF g_597 h 44 (.ref q_579)) q_598 50 7).2.2.1 q_15 = 48 := ((sA_g q_15 (ne0 r_582 o_q_598 (by decide))).2.2.1.trans n_587)
  have n_607 : (sA (sF g_597 h 44 (.ref q_579)) q_598 50 7).2.2.1 q_367 = 8 := ((sA_g q_367 (ne0 r_583 o_q_598 (by decide))).2.2.1.trans n_588)
  have n_608 : (sA (sF g_597 h 44 (.ref q_579)) q_598 50 7).2.2.1 q_380 = 8 := ((sA_g q_380 (ne0 r_584 o_q_598 (by decide))).2.2.1.trans n_589)
  have n_609 : (sA (sF g_597 h 44 (.ref q_579)) q_598 50 7).2.2.1 q_598 = 7 := sA_n
  have kn_610 : (sA (sF g_597 h 44 (.ref q_579)) q_598 50 7).2.1 h 22 = .int 0 := ((congrFun (sA_g h (ne0 r_580 o_q_598 (by decide))).2.1 22).trans (sF_k kn_591 (by decide)))
  have kn_611 : (sA (sF g_597 h 44 (.ref q_579)) q_598 50 7).2.1 h 34 = .int 0 := ((congrFun (sA_g h (ne0 r_580 o_q_598 (by decide))).2.1 34).trans (sF_k kn_592 (by decide)))
  have kn_612 : (sA (sF g_597 h 44 (.ref q_579)) q_598 50 7).2.1 h 2 = .ref q_8 := ((congrFun (sA_g h (ne0 r_580 o_q_598 (by decide))).2.1 2).trans (sF_k kn_593 (by decide)))
  have kn_613 : (sA (sF g_597 h 44 (.ref q_579)) q_598 50 7).2.1 h 3 = .ref q_15 := ((congrFun (sA_g h (ne0 r_580 o_q_598 (by decide))).2.1 3).trans (sF_k kn_594 (by decide)))
  have kn_614 : (sA (sF g_597 h 44 (.ref q_579)) q_598 50 7).2.1 h 39 = .ref q_367 := ((congrFun (sA_g h (ne0 r_580 o_q_598 (by decide))).2.1 39).trans (sF_k kn_595 (by decide)))
  have kn_615 : (sA (sF g_597 h 44 (.ref q_579)) q_598 50 7).2.1 h 40 = .ref q_380 := ((congrFun (sA_g h (ne0 r_580 o_q_598 (by decide))).2.1 40).trans (sF_k kn_596 (by decide)))
  generalize (sA (sF g_597 h 44 (.ref q_579)) q_598 50 7) = g_616 at hT hI hM hE r_599 r_600 r_601 r_602 r_603 r_604 n_605 n_606 n_607 n_608 n_609 kn_610 kn_611 kn_612 kn_613 kn_614 kn_615 hP zP zN
  refine W.widen (k := 36) (n := 1619) (Nat.le_of_ble_eq_true rfl) (Nat.le_of_ble_eq_true rfl) ?_
  refine t_put0 (ci := 7) (v := .ref q_598) hB hT (ro_ci r_599 rfl) (ro_n0 r_599 (by decide)) rfl 45 (by decide) k_790 (Or.inr ⟨hin, rfl⟩) rfl rfl dX7_init_443 (fun H locs hT => ?_)
  have hI : Inv (sF g_616 h 45 (.ref q_598)) := hI.sF (fk r_599 (show fsm _ _ ft from trivial))
  have hM : Sm md_k_Model g (sF g_616 h 45 (.ref q_598)) := hM.tr hE (Sm_sF (by rw [r_599]; rfl))
  have hE : Ex g (sF g_616 h 45 (.ref q_598)) := hE
  have hP : PF [45, 44, 43, 42, 41, 40, 39, 35, 33, 32, 31, 28, 27, 26, 25, 23, 20, 19, 18, 17, 16, 15, 14, 13, 12, 11, 10, 9, 8, 7, 6, 5, 4, 3, 2, 1, 60, 52, 51, 50, 49, 38, 37, 36, 34, 30, 29, 24, 22, 21, 0] (sF g_616 h 45 (.ref q_598)) h := hP.put (q_8_45 (⟨_, rfl, r_604, n_609⟩))
  have zP : ZC (sF g_616 h 45 (.ref q_598)) q_15 := zP
  have zN : ZC (sF g_616 h 45 (.ref q_598)) q_380 := zN
  refine lv_aload_n hx hb dX7_init_446 rfl (lv_at hl 0 rfl) ?_
  refine lv_bipush (v := 7) hx hb dX7_init_447 (by decide) ?_
  refine t_newi (N' := 7) hB hT 55 (by decide) k_101 (by decide) (by decide) (by decide) (Nat.le_of_ble_eq_true rfl) (Nat.le_of_ble_eq_true rfl) dX7_init_449 (fun q_617 H o_q_617 hT => ?_)
  have z_q_617 : g.1 q_617 = 0 := hE.z0 o_q_617
  have hI : Inv (sA (sF g_616 h 45 (.ref q_598)) q_617 55 7) := hI.newi o_q_617 (by decide) (fun _ => rfl) ⟨by decide, by decide⟩ (fun _ => trivial)
  have hM : Sm md_k_Model g (sA (sF g_616 h 45 (.ref q_598)) q_617 55 7) := hM.tr hE (Sm.push o_q_617 sA_g)
  have hE : Ex g (sA (sF g_616 h 45 (.ref q_598)) q_617 55 7) := hE.tr (Ex.push o_q_617 sA_g)
  have hP : PF [45, 44, 43, 42, 41, 40, 39, 35, 33, 32, 31, 28, 27, 26, 25, 23, 20, 19, 18, 17, 16, 15, 14, 13, 12, 11, 10, 9, 8, 7, 6, 5, 4, 3, 2, 1, 60, 52, 51, 50, 49, 38, 37, 36, 34, 30, 29, 24, 22, 21, 0] (sA (sF g_616 h 45 (.ref q_598)) q_617 55 7) h := hP.pu (Ex.push o_q_617 sA_g) (sA_g h (ne0 r_599 o_q_617 (by decide))).2.1
  have zP : ZC (sA (sF g_616 h 45 (.ref q_598)) q_617 55 7) q_15 := zP.pu (sA_g q_15 (ne0 r_601 o_q_617 (by decide))).2.2.2.1
  have zN : ZC (sA (sF g_616 h 45 (.ref q_598)) q_617 55 7) q_380 := zN.pu (sA_g q_380 (ne0 r_603 o_q_617 (by decide))).2.2.2.1
  have r_618 : (sA (sF g_616 h 45 (.ref q_598)) q_617 55 7).1 h = 18 := ((sA_g h (ne0 r_599 o_q_617 (by decide))).1.trans r_599)
  have r_619 : (sA (sF g_616 h 45 (.ref q_598)) q_617 55 7).1 q_8 = 71 := ((sA_g q_8 (ne0 r_600 o_q_617 (by decide))).1.trans r_600)
  have r_620 : (sA (sF g_616 h 45 (.ref q_598)) q_617 55 7).1 q_15 = 72 := ((sA_g q_15 (ne0 r_601 o_q_617 (by decide))).1.trans r_601)
  have r_621 : (sA (sF g_616 h 45 (.ref q_598)) q_617 55 7).1 q_367 = 84 := ((sA_g q_367 (ne0 r_602 o_q_617 (by decide))).1.trans r_602)
  have r_622 : (sA (sF g_616 h 45 (.ref q_598)) q_617 55 7).1 q_380 = 85 := ((sA_g q_380 (ne0 r_603 o_q_617 (by decide))).1.trans r_603)
  have r_623 : (sA (sF g_616 h 45 (.ref q_598)) q_617 55 7).1 q_617 = 55 := sA_r
  have n_624 : (sA (sF g_616 h 45 (.ref q_598)) q_617 55 7).2.2.1 q_8 = 48 := ((sA_g q_8 (ne0 r_600 o_q_617 (by decide))).2.2.1.trans n_605)
  have n_625 : (sA (sF g_616 h 45 (.ref q_598)) q_617 55 7).2.2.1 q_15 = 48 := ((sA_g q_15 (ne0 r_601 o_q_617 (by decide))).2.2.1.trans n_606)
  have n_626 : (sA (sF g_616 h 45 (.ref q_598)) q_617 55 7).2.2.1 q_367 = 8 := ((sA_g q_367 (ne0 r_602 o_q_617 (by decide))).2.2.1.trans n_607)
  have n_627 : (sA (sF g_616 h 45 (.ref q_598)) q_617 55 7).2.2.1 q_380 = 8 := ((sA_g q_380 (ne0 r_603 o_q_617 (by decide))).2.2.1.trans n_608)
  have n_628 : (sA (sF g_616 h 45 (.ref q_598)) q_617 55 7).2.2.1 q_617 = 7 := sA_n
  have kn_629 : (sA (sF g_616 h 45 (.ref q_598)) q_617 55 7).2.1 h 22 = .int 0 := ((congrFun (sA_g h (ne0 r_599 o_q_617 (by decide))).2.1 22).trans (sF_k kn_610 (by decide)))
  have kn_630 : (sA (sF g_616 h 45 (.ref q_598)) q_617 55 7).2.1 h 34 = .int 0 := ((congrFun (sA_g h (ne0 r_599 o_q_617 (by decide))).2.1 34).trans (sF_k kn_611 (by decide)))
  have kn_631 : (sA (sF g_616 h 45 (.ref q_598)) q_617 55 7).2.1 h 2 = .ref q_8 := ((congrFun (sA_g h (ne0 r_599 o_q_617 (by decide))).2.1 2).trans (sF_k kn_612 (by decide)))
  have kn_632 : (sA (sF g_616 h 45 (.ref q_598)) q_617 55 7).2.1 h 3 = .ref q_15 := ((congrFun (sA_g h (ne0 r_599 o_q_617 (by decide))).2.1 3).trans (sF_k kn_613 (by decide)))
  have kn_633 : (sA (sF g_616 h 45 (.ref q_598)) q_617 55 7).2.1 h 39 = .ref q_367 := ((congrFun (sA_g h (ne0 r_599 o_q_617 (by decide))).2.1 39).trans (sF_k kn_614 (by decide)))
  have kn_634 : (sA (sF g_616 h 45 (.ref q_598)) q_617 55 7).2.1 h 40 = .ref q_380 := ((congrFun (sA_g h (ne0 r_599 o_q_617 (by decide))).2.1 40).trans (sF_k kn_615 (by decide)))
  generalize (sA (sF g_616 h 45 (.ref q_598)) q_617 55 7) = g_635 at hT hI hM hE r_618 r_619 r_620 r_621 r_622 r_623 n_624 n_625 n_626 n_627 n_628 kn_629 kn_630 kn_631 kn_632 kn_633 kn_634 hP zP zN
  refine W.widen (k := 37) (n := 1626) (Nat.le_of_ble_eq_true rfl) (Nat.le_of_ble_eq_true rfl) ?_
  refine t_put0 (ci := 7) (v := .ref q_617) hB hT (ro_ci r_618 rfl) (ro_n0 r_618 (by decide)) rfl 46 (by decide) k_791 (Or.inr ⟨hin, rfl⟩) rfl rfl dX7_init_451 (fun H locs hT => ?_)
  have hI : Inv (sF g_635 h 46 (.ref q_617)) := hI.sF (fk r_618 (show fsm _ _ ft from trivial))
  have hM : Sm md_k_Model g (sF g_635 h 46 (.ref q_617)) := hM.tr hE (Sm_sF (by rw [r_618]; rfl))
  have hE : Ex g (sF g_635 h 46 (.ref q_617)) := hE
  have hP : PF [46, 45, 44, 43, 42, 41, 40, 39, 35, 33, 32, 31, 28, 27, 26, 25, 23, 20, 19, 18, 17, 16, 15, 14, 13, 12, 11, 10, 9, 8, 7, 6, 5, 4, 3, 2, 1, 60, 52, 51, 50, 49, 38, 37, 36, 34, 30, 29, 24, 22, 21, 0] (sF g_635 h 46 (.ref q_617)) h := hP.put (q_8_46 (⟨_, rfl, r_623, n_628⟩))
  have zP : ZC (sF g_635 h 46 (.ref q_617)) q_15 := zP
  have zN : ZC (sF g_635 h 46 (.ref q_617)) q_380 := zN
  refine lv_aload_n hx hb dX7_init_454 rfl (lv_at hl 0 rfl) ?_
  refine lv_bipush (v := 7) hx hb dX7_init_455 (by decide) ?_
  refine t_newi (N' := 7) hB hT 58 (by decide) k_101 (by decide) (by decide) (by decide) (Nat.le_of_ble_eq_true rfl) (Nat.le_of_ble_eq_true rfl) dX7_init_457 (fun q_636 H o_q_636 hT => ?_)
  have z_q_636 : g.1 q_636 = 0 := hE.z0 o_q_636
  have hI : Inv (sA (sF g_635 h 46 (.ref q_617)) q_636 58 7) := hI.newi o_q_636 (by decide) (fun _ => rfl) ⟨by decide, by decide⟩ (fun _ => trivial)
  have hM : Sm md_k_Model g (sA (sF g_635 h 46 (.ref q_617)) q_636 58 7) := hM.tr hE (Sm.push o_q_636 sA_g)
  have hE : Ex g (sA (sF g_635 h 46 (.ref q_617)) q_636 58 7) := hE.tr (Ex.push o_q_636 sA_g)
  have hP : PF [46, 45, 44, 43, 42, 41, 40, 39, 35, 33, 32, 31, 28, 27, 26, 25, 23, 20, 19, 18, 17, 16, 15, 14, 13, 12, 11, 10, 9, 8, 7, 6, 5, 4, 3, 2, 1, 60, 52, 51, 50, 49, 38, 37, 36, 34, 30, 29, 24, 22, 21, 0] (sA (sF g_635 h 46 (.ref q_617)) q_636 58 7) h := hP.pu (Ex.push o_q_636 sA_g) (sA_g h (ne0 r_618 o_q_636 (by decide))).2.1
  have zP : ZC (sA (sF g_635 h 46 (.ref q_617)) q_636 58 7) q_15 := zP.pu (sA_g q_15 (ne0 r_620 o_q_636 (by decide))).2.2.2.1
  have zN : ZC (sA (sF g_635 h 46 (.ref q_617)) q_636 58 7) q_380 := zN.pu (sA_g q_380 (ne0 r_622 o_q_636 (by decide))).2.2.2.1
  have r_637 : (sA (sF g_635 h 46 (.ref q_617)) q_636 58 7).1 h = 18 := ((sA_g h (ne0 r_618 o_q_636 (by decide))).1.trans r_618)
  have r_638 : (sA (sF g_635 h 46 (.ref q_617)) q_636 58 7).1 q_8 = 71 := ((sA_g q_8 (ne0 r_619 o_q_636 (by decide))).1.trans r_619)
  have r_639 : (sA (sF g_635 h 46 (.ref q_617)) q_636 58 7).1 q_15 = 72 := ((sA_g q_15 (ne0 r_620 o_q_636 (by decide))).1.trans r_620)
  have r_640 : (sA (sF g_635 h 46 (.ref q_617)) q_636 58 7).1 q_367 = 84 := ((sA_g q_367 (ne0 r_621 o_q_636 (by decide))).1.trans r_621)
  have r_641 : (sA (sF g_635 h 46 (.ref q_617)) q_636 58 7).1 q_380 = 85 := ((sA_g q_380 (ne0 r_622 o_q_636 (by decide))).1.trans r_622)
  have r_642 : (sA (sF g_635 h 46 (.ref q_617)) q_636 58 7).1 q_636 = 58 := sA_r
  have n_643 : (sA (sF g_635 h 46 (.ref q_617)) q_636 58 7).2.2.1 q_8 = 48 := ((sA_g q_8 (ne0 r_619 o_q_636 (by decide))).2.2.1.trans n_624)
  have n_644 : (sA (sF g_635 h 46 (.ref q_617)) q_636 58 7).2.2.1 q_15 = 48 := ((sA_g q_15 (ne0 r_620 o_q_636 (by decide))).2.2.1.trans n_625)
  have n_645 : (sA (sF g_635 h 46 (.ref q_617)) q_636 58 7).2.2.1 q_367 = 8 := ((sA_g q_367 (ne0 r_621 o_q_636 (by decide))).2.2.1.trans n_626)
  have n_646 : (sA (sF g_635 h 46 (.ref q_617)) q_636 58 7).2.2.1 q_380 = 8 := ((sA_g q_380 (ne0 r_622 o_q_636 (by decide))).2.2.1.trans n_627)
  have n_647 : (sA (sF g_635 h 46 (.ref q_617)) q_636 58 7).2.2.1 q_636 = 7 := sA_n
  have kn_648 : (sA (sF g_635 h 46 (.ref q_617)) q_636 58 7).2.1 h 22 = .int 0 := ((congrFun (sA_g h (ne0 r_618 o_q_636 (by decide))).2.1 22).trans (sF_k kn_629 (by decide)))
  have kn_649 : (sA (sF g_635 h 46 (.ref q_617)) q_636 58 7).2.1 h 34 = .int 0 := ((congrFun (sA_g h (ne0 r_618 o_q_636 (by decide))).2.1 34).trans (sF_k kn_630 (by decide)))
  have kn_650 : (sA (sF g_635 h 46 (.ref q_617)) q_636 58 7).2.1 h 2 = .ref q_8 := ((congrFun (sA_g h (ne0 r_618 o_q_636 (by decide))).2.1 2).trans (sF_k kn_631 (by decide)))
  have kn_651 : (sA (sF g_635 h 46 (.ref q_617)) q_636 58 7).2.1 h 3 = .ref q_15 := ((congrFun (sA_g h (ne0 r_618 o_q_636 (by decide))).2.1 3).trans (sF_k kn_632 (by decide)))
  have kn_652 : (sA (sF g_635 h 46 (.ref q_617)) q_636 58 7).2.1 h 39 = .ref q_367 := ((congrFun (sA_g h (ne0 r_618 o_q_636 (by decide))).2.1 39).trans (sF_k kn_633 (by decide)))
  have kn_653 : (sA (sF g_635 h 46 (.ref q_617)) q_636 58 7).2.1 h 40 = .ref q_380 := ((congrFun (sA_g h (ne0 r_618 o_q_636 (by decide))).2.1 40).trans (sF_k kn_634 (by decide)))
  generalize (sA (sF g_635 h 46 (.ref q_617)) q_636 58 7) = g_654 at hT hI hM hE r_637 r_638 r_639 r_640 r_641 r_642 n_643 n_644 n_645 n_646 n_647 kn_648 kn_649 kn_650 kn_651 kn_652 kn_653 hP zP zN
  refine W.widen (k := 38) (n := 1633) (Nat.le_of_ble_eq_true rfl) (Nat.le_of_ble_eq_true rfl) ?_
  refine t_put0 (ci := 7) (v := .ref q_636) hB hT (ro_ci r_637 rfl) (ro_n0 r_637 (by decide)) rfl 47 (by decide) k_792 (Or.inr ⟨hin, rfl⟩) rfl rfl dX7_init_459 (fun H locs hT => ?_)
  have hI : Inv (sF g_654 h 47 (.ref q_636)) := hI.sF (fk r_637 (show fsm _ _ ft from trivial))
  have hM : Sm md_k_Model g (sF g_654 h 47 (.ref q_636)) := hM.tr hE (Sm_sF (by rw [r_637]; rfl))
  have hE : Ex g (sF g_654 h 47 (.ref q_636)) := hE
  have hP : PF [47, 46, 45, 44, 43, 42, 41, 40, 39, 35, 33, 32, 31, 28, 27, 26, 25, 23, 20, 19, 18, 17, 16, 15, 14, 13, 12, 11, 10, 9, 8, 7, 6, 5, 4, 3, 2, 1, 60, 52, 51, 50, 49, 38, 37, 36, 34, 30, 29, 24, 22, 21, 0] (sF g_654 h 47 (.ref q_636)) h := hP.put (q_8_47 (⟨_, rfl, r_642, n_647⟩))
  have zP : ZC (sF g_654 h 47 (.ref q_636)) q_15 := zP
  have zN : ZC (sF g_654 h 47 (.ref q_636)) q_380 := zN
  refine lv_aload_n hx hb dX7_init_462 rfl (lv_at hl 0 rfl) ?_
  refine lv_bipush (v := 7) hx hb dX7_init_463 (by decide) ?_
  refine t_newz (N' := 7) hB hT k_947 (by decide) (by decide) (by decide) (Nat.le_of_ble_eq_true rfl) (Nat.le_of_ble_eq_true rfl) dX7_init_465 (fun q_655 H o_q_655 hT => ?_)
  have z_q_655 : g.1 q_655 = 0 := hE.z0 o_q_655
  have hI : Inv (sA (sF g_654 h 47 (.ref q_636)) q_655 40 7) := hI.newi o_q_655 (by decide) (fun _ => rfl) trivial (fun _ => trivial)
  have hM : Sm md_k_Model g (sA (sF g_654 h 47 (.ref q_636)) q_655 40 7) := hM.tr hE (Sm.push o_q_655 sA_g)
  have hE : Ex g (sA (sF g_654 h 47 (.ref q_636)) q_655 40 7) := hE.tr (Ex.push o_q_655 sA_g)
  have hP : PF [47, 46, 45, 44, 43, 42, 41, 40, 39, 35, 33, 32, 31, 28, 27, 26, 25, 23, 20, 19, 18, 17, 16, 15, 14, 13, 12, 11, 10, 9, 8, 7, 6, 5, 4, 3, 2, 1, 60, 52, 51, 50, 49, 38, 37, 36, 34, 30, 29, 24, 22, 21, 0] (sA (sF g_654 h 47 (.ref q_636)) q_655 40 7) h := hP.pu (Ex.push o_q_655 sA_g) (sA_g h (ne0 r_637 o_q_655 (by decide))).2.1
  have zP : ZC (sA (sF g_654 h 47 (.ref q_636)) q_655 40 7) q_15 := zP.pu (sA_g q_15 (ne0 r_639 o_q_655 (by decide))).2.2.2.1
  have zN : ZC (sA (sF g_654 h 47 (.ref q_636)) q_655 40 7) q_380 := zN.pu (sA_g q_380 (ne0 r_641 o_q_655 (by decide))).2.2.2.1
  have r_656 : (sA (sF g_654 h 47 (.ref q_636)) q_655 40 7).1 h = 18 := ((sA_g h (ne0 r_637 o_q_655 (by decide))).1.trans r_637)
  have r_657 : (sA (sF g_654 h 47 (.ref q_636)) q_655 40 7).1 q_8 = 71 := ((sA_g q_8 (ne0 r_638 o_q_655 (by decide))).1.trans r_638)
  have r_658 : (sA (sF g_654 h 47 (.ref q_636)) q_655 40 7).1 q_15 = 72 := ((sA_g q_15 (ne0 r_639 o_q_655 (by decide))).1.trans r_639)
  have r_659 : (sA (sF g_654 h 47 (.ref q_636)) q_655 40 7).1 q_367 = 84 := ((sA_g q_367 (ne0 r_640 o_q_655 (by decide))).1.trans r_640)
  have r_660 : (sA (sF g_654 h 47 (.ref q_636)) q_655 40 7).1 q_380 = 85 := ((sA_g q_380 (ne0 r_641 o_q_655 (by decide))).1.trans r_641)
  have r_661 : (sA (sF g_654 h 47 (.ref q_636)) q_655 40 7).1 q_655 = 40 := sA_r
  have n_662 : (sA (sF g_654 h 47 (.ref q_636)) q_655 40 7).2.2.1 q_8 = 48 := ((sA_g q_8 (ne0 r_638 o_q_655 (by decide))).2.2.1.trans n_643)
  have n_663 : (sA (sF g_654 h 47 (.ref q_636)) q_655 40 7).2.2.1 q_15 = 48 := ((sA_g q_15 (ne0 r_639 o_q_655 (by decide))).2.2.1.trans n_644)
  have n_664 : (sA (sF g_654 h 47 (.ref q_636)) q_655 40 7).2.2.1 q_367 = 8 := ((sA_g q_367 (ne0 r_640 o_q_655 (by decide))).2.2.1.trans n_645)
  have n_665 : (sA (sF g_654 h 47 (.ref q_636)) q_655 40 7).2.2.1 q_380 = 8 := ((sA_g q_380 (ne0 r_641 o_q_655 (by decide))).2.2.1.trans n_646)
  have n_666 : (sA (sF g_654 h 47 (.ref q_636)) q_655 40 7).2.2.1 q_655 = 7 := sA_n
  have kn_667 : (sA (sF g_654 h 47 (.ref q_636)) q_655 40 7).2.1 h 22 = .int 0 := ((congrFun (sA_g h (ne0 r_637 o_q_655 (by decide))).2.1 22).trans (sF_k kn_648 (by decide)))
  have kn_668 : (sA (sF g_654 h 47 (.ref q_636)) q_655 40 7).2.1 h 34 = .int 0 := ((congrFun (sA_g h (ne0 r_637 o_q_655 (by decide))).2.1 34).trans (sF_k kn_649 (by decide)))
  have kn_669 : (sA (sF g_654 h 47 (.ref q_636)) q_655 40 7).2.1 h 2 = .ref q_8 := ((congrFun (sA_g h (ne0 r_637 o_q_655 (by decide))).2.1 2).trans (sF_k kn_650 (by decide)))
  have kn_670 : (sA (sF g_654 h 47 (.ref q_636)) q_655 40 7).2.1 h 3 = .ref q_15 := ((congrFun (sA_g h (ne0 r_637 o_q_655 (by decide))).2.1 3).trans (sF_k kn_651 (by decide)))
  have kn_671 : (sA (sF g_654 h 47 (.ref q_636)) q_655 40 7).2.1 h 39 = .ref q_367 := ((congrFun (sA_g h (ne0 r_637 o_q_655 (by decide))).2.1 39).trans (sF_k kn_652 (by decide)))
  have kn_672 : (sA (sF g_654 h 47 (.ref q_636)) q_655 40 7).2.1 h 40 = .ref q_380 := ((congrFun (sA_g h (ne0 r_637 o_q_655 (by decide))).2.1 40).trans (sF_k kn_653 (by decide)))
  generalize (sA (sF g_654 h 47 (.ref q_636)) q_655 40 7) = g_673 at hT hI hM hE r_656 r_657 r_658 r_659 r_660 r_661 n_662 n_663 n_664 n_665 n_666 kn_667 kn_668 kn_669 kn_670 kn_671 kn_672 hP zP zN
  refine W.widen (k := 39) (n := 1640) (Nat.le_of_ble_eq_true rfl) (Nat.le_of_ble_eq_true rfl) ?_
  refine t_put0 (ci := 7) (v := .ref q_655) hB hT (ro_ci r_656 rfl) (ro_n0 r_656 (by decide)) rfl 48 (by decide) k_793 (Or.inr ⟨hin, rfl⟩) rfl rfl dX7_init_467 (fun H locs hT => ?_)
  have hI : Inv (sF g_673 h 48 (.ref q_655)) := hI.sF (fk r_656 (show fsm _ _ ft from trivial))
  have hM : Sm md_k_Model g (sF g_673 h 48 (.ref q_655)) := hM.tr hE (Sm_sF (by rw [r_656]; rfl))
  have hE : Ex g (sF g_673 h 48 (.ref q_655)) := hE
  have hP : PF [48, 47, 46, 45, 44, 43, 42, 41, 40, 39, 35, 33, 32, 31, 28, 27, 26, 25, 23, 20, 19, 18, 17, 16, 15, 14, 13, 12, 11, 10, 9, 8, 7, 6, 5, 4, 3, 2, 1, 60, 52, 51, 50, 49, 38, 37, 36, 34, 30, 29, 24, 22, 21, 0] (sF g_673 h 48 (.ref q_655)) h := hP.put (q_8_48 (⟨_, rfl, r_661, n_666⟩))
  have zP : ZC (sF g_673 h 48 (.ref q_655)) q_15 := zP
  have zN : ZC (sF g_673 h 48 (.ref q_655)) q_380 := zN
  refine lv_aload_n hx hb dX7_init_470 rfl (lv_at hl 0 rfl) ?_
  refine lv_sipush (v := 1200) hx hb dX7_init_471 (by decide) ?_
  refine t_newi (N' := 1200) hB hT 56 (by decide) k_101 (by decide) (by decide) (by decide) (Nat.le_of_ble_eq_true rfl) (Nat.le_of_ble_eq_true rfl) dX7_init_474 (fun q_674 H o_q_674 hT => ?_)
  have z_q_674 : g.1 q_674 = 0 := hE.z0 o_q_674
  have hI : Inv (sA (sF g_673 h 48 (.ref q_655)) q_674 56 1200) := hI.newi o_q_674 (by decide) (fun _ => rfl) ⟨by decide, by decide⟩ (fun _ => trivial)
  have hM : Sm md_k_Model g (sA (sF g_673 h 48 (.ref q_655)) q_674 56 1200) := hM.tr hE (Sm.push o_q_674 sA_g)
  have hE : Ex g (sA (sF g_673 h 48 (.ref q_655)) q_674 56 1200) := hE.tr (Ex.push o_q_674 sA_g)
  have hP : PF [48, 47, 46, 45, 44, 43, 42, 41, 40, 39, 35, 33, 32, 31, 28, 27, 26, 25, 23, 20, 19, 18, 17, 16, 15, 14, 13, 12, 11, 10, 9, 8, 7, 6, 5, 4, 3, 2, 1, 60, 52, 51, 50, 49, 38, 37, 36, 34, 30, 29, 24, 22, 21, 0] (sA (sF g_673 h 48 (.ref q_655)) q_674 56 1200) h := hP.pu (Ex.push o_q_674 sA_g) (sA_g h (ne0 r_656 o_q_674 (by decide))).2.1
  have zP : ZC (sA (sF g_673 h 48 (.ref q_655)) q_674 56 1200) q_15 := zP.pu (sA_g q_15 (ne0 r_658 o_q_674 (by decide))).2.2.2.1
  have zN : ZC (sA (sF g_673 h 48 (.ref q_655)) q_674 56 1200) q_380 := zN.pu (sA_g q_380 (ne0 r_660 o_q_674 (by decide))).2.2.2.1
  have r_675 : (sA (sF g_673 h 48 (.ref q_655)) q_674 56 1200).1 h = 18 := ((sA_g h (ne0 r_656 o_q_674 (by decide))).1.trans r_656)
  have r_676 : (sA (sF g_673 h 48 (.ref q_655)) q_674 56 1200).1 q_8 = 71 := ((sA_g q_8 (ne0 r_657 o_q_674 (by decide))).1.trans r_657)
  have r_677 : (sA (sF g_673 h 48 (.ref q_655)) q_674 56 1200).1 q_15 = 72 := ((sA_g q_15 (ne0 r_658 o_q_674 (by decide))).1.trans r_658)
  have r_678 : (sA (sF g_673 h 48 (.ref q_655)) q_674 56 1200).1 q_367 = 84 := ((sA_g q_367 (ne0 r_659 o_q_674 (by decide))).1.trans r_659)
  have r_679 : (sA (sF g_673 h 48 (.ref q_655)) q_674 56 1200).1 q_380 = 85 := ((sA_g q_380 (ne0 r_660 o_q_674 (by decide))).1.trans r_660)
  have r_680 : (sA (sF g_673 h 48 (.ref q_655)) q_674 56 1200).1 q_674 = 56 := sA_r
  have n_681 : (sA (sF g_673 h 48 (.ref q_655)) q_674 56 1200).2.2.1 q_8 = 48 := ((sA_g q_8 (ne0 r_657 o_q_674 (by decide))).2.2.1.trans n_662)
  have n_682 : (sA (sF g_673 h 48 (.ref q_655)) q_674 56 1200).2.2.1 q_15 = 48 := ((sA_g q_15 (ne0 r_658 o_q_674 (by decide))).2.2.1.trans n_663)
  have n_683 : (sA (sF g_673 h 48 (.ref q_655)) q_674 56 1200).2.2.1 q_367 = 8 := ((sA_g q_367 (ne0 r_659 o_q_674 (by decide))).2.2.1.trans n_664)
  have n_684 : (sA (sF g_673 h 48 (.ref q_655)) q_674 56 1200).2.2.1 q_380 = 8 := ((sA_g q_380 (ne0 r_660 o_q_674 (by decide))).2.2.1.trans n_665)
  have n_685 : (sA (sF g_673 h 48 (.ref q_655)) q_674 56 1200).2.2.1 q_674 = 1200 := sA_n
  have kn_686 : (sA (sF g_673 h 48 (.ref q_655)) q_674 56 1200).2.1 h 22 = .int 0 := ((congrFun (sA_g h (ne0 r_656 o_q_674 (by decide))).2.1 22).trans (sF_k kn_667 (by decide)))
  have kn_687 : (sA (sF g_673 h 48 (.ref q_655)) q_674 56 1200).2.1 h 34 = .int 0 := ((congrFun (sA_g h (ne0 r_656 o_q_674 (by decide))).2.1 34).trans (sF_k kn_668 (by decide)))
  have kn_688 : (sA (sF g_673 h 48 (.ref q_655)) q_674 56 1200).2.1 h 2 = .ref q_8 := ((congrFun (sA_g h (ne0 r_656 o_q_674 (by decide))).2.1 2).trans (sF_k kn_669 (by decide)))
  have kn_689 : (sA (sF g_673 h 48 (.ref q_655)) q_674 56 1200).2.1 h 3 = .ref q_15 := ((congrFun (sA_g h (ne0 r_656 o_q_674 (by decide))).2.1 3).trans (sF_k kn_670 (by decide)))
  have kn_690 : (sA (sF g_673 h 48 (.ref q_655)) q_674 56 1200).2.1 h 39 = .ref q_367 := ((congrFun (sA_g h (ne0 r_656 o_q_674 (by decide))).2.1 39).trans (sF_k kn_671 (by decide)))
  have kn_691 : (sA (sF g_673 h 48 (.ref q_655)) q_674 56 1200).2.1 h 40 = .ref q_380 := ((congrFun (sA_g h (ne0 r_656 o_q_674 (by decide))).2.1 40).trans (sF_k kn_672 (by decide)))
  generalize (sA (sF g_673 h 48 (.ref q_655)) q_674 56 1200) = g_692 at hT hI hM hE r_675 r_676 r_677 r_678 r_679 r_680 n_681 n_682 n_683 n_684 n_685 kn_686 kn_687 kn_688 kn_689 kn_690 kn_691 hP zP zN
  refine W.widen (k := 40) (n := 2840) (Nat.le_of_ble_eq_true rfl) (Nat.le_of_ble_eq_true rfl) ?_
  refine t_put0 (ci := 7) (v := .ref q_674) hB hT (ro_ci r_675 rfl) (ro_n0 r_675 (by decide)) rfl 53 (by decide) k_798 (Or.inr ⟨hin, rfl⟩) rfl rfl dX7_init_476 (fun H locs hT => ?_)
  have hI : Inv (sF g_692 h 53 (.ref q_674)) := hI.sF (fk r_675 (show fsm _ _ ft from trivial))
  have hM : Sm md_k_Model g (sF g_692 h 53 (.ref q_674)) := hM.tr hE (Sm_sF (by rw [r_675]; rfl))
  have hE : Ex g (sF g_692 h 53 (.ref q_674)) := hE
  have hP : PF [53, 48, 47, 46, 45, 44, 43, 42, 41, 40, 39, 35, 33, 32, 31, 28, 27, 26, 25, 23, 20, 19, 18, 17, 16, 15, 14, 13, 12, 11, 10, 9, 8, 7, 6, 5, 4, 3, 2, 1, 60, 52, 51, 50, 49, 38, 37, 36, 34, 30, 29, 24, 22, 21, 0] (sF g_692 h 53 (.ref q_674)) h := hP.put (q_8_53 (⟨_, rfl, r_680, n_685⟩))
  have zP : ZC (sF g_692 h 53 (.ref q_674)) q_15 := zP
  have zN : ZC (sF g_692 h 53 (.ref q_674)) q_380 := zN
  refine lv_aload_n hx hb dX7_init_479 rfl (lv_at hl 0 rfl) ?_
  refine lv_bipush (v := 48) hx hb dX7_init_480 (by decide) ?_
  refine t_newi (N' := 48) hB hT 50 (by decide) k_101 (by decide) (by decide) (by decide) (Nat.le_of_ble_eq_true rfl) (Nat.le_of_ble_eq_true rfl) dX7_init_482 (fun q_693 H o_q_693 hT => ?_)
  have z_q_693 : g.1 q_693 = 0 := hE.z0 o_q_693
  have hI : Inv (sA (sF g_692 h 53 (.ref q_674)) q_693 50 48) := hI.newi o_q_693 (by decide) (fun _ => rfl) trivial (fun _ => trivial)
  have hM : Sm md_k_Model g (sA (sF g_692 h 53 (.ref q_674)) q_693 50 48) := hM.tr hE (Sm.push o_q_693 sA_g)
  have hE : Ex g (sA (sF g_692 h 53 (.ref q_674)) q_693 50 48) := hE.tr (Ex.push o_q_693 sA_g)
  have hP : PF [53, 48, 47, 46, 45, 44, 43, 42, 41, 40, 39, 35, 33, 32, 31, 28, 27, 26, 25, 23, 20, 19, 18, 17, 16, 15, 14, 13, 12, 11, 10, 9, 8, 7, 6, 5, 4, 3, 2, 1, 60, 52, 51, 50, 49, 38, 37, 36, 34, 30, 29, 24, 22, 21, 0] (sA (sF g_692 h 53 (.ref q_674)) q_693 50 48) h := hP.pu (Ex.push o_q_693 sA_g) (sA_g h (ne0 r_675 o_q_693 (by decide))).2.1
  have zP : ZC (sA (sF g_692 h 53 (.ref q_674)) q_693 50 48) q_15 := zP.pu (sA_g q_15 (ne0 r_677 o_q_693 (by decide))).2.2.2.1
  have zN : ZC (sA (sF g_692 h 53 (.ref q_674)) q_693 50 48) q_380 := zN.pu (sA_g q_380 (ne0 r_679 o_q_693 (by decide))).2.2.2.1
  have r_694 : (sA (sF g_692 h 53 (.ref q_674)) q_693 50 48).1 h = 18 := ((sA_g h (ne0 r_675 o_q_693 (by decide))).1.trans r_675)
  have r_695 : (sA (sF g_692 h 53 (.ref q_674)) q_693 50 48).1 q_8 = 71 := ((sA_g q_8 (ne0 r_676 o_q_693 (by decide))).1.trans r_676)
  have r_696 : (sA (sF g_692 h 53 (.ref q_674)) q_693 50 48).1 q_15 = 72 := ((sA_g q_15 (ne0 r_677 o_q_693 (by decide))).1.trans r_677)
  have r_697 : (sA (sF g_692 h 53 (.ref q_674)) q_693 50 48).1 q_367 = 84 := ((sA_g q_367 (ne0 r_678 o_q_693 (by decide))).1.trans r_678)
  have r_698 : (sA (sF g_692 h 53 (.ref q_674)) q_693 50 48).1 q_380 = 85 := ((sA_g q_380 (ne0 r_679 o_q_693 (by decide))).1.trans r_679)
  have r_699 : (sA (sF g_692 h 53 (.ref q_674)) q_693 50 48).1 q_693 = 50 := sA_r
  have n_700 : (sA (sF g_692 h 53 (.ref q_674)) q_693 50 48).2.2.1 q_8 = 48 := ((sA_g q_8 (ne0 r_676 o_q_693 (by decide))).2.2.1.trans n_681)
  have n_701 : (sA (sF g_692 h 53 (.ref q_674)) q_693 50 48).2.2.1 q_15 = 48 := ((sA_g q_15 (ne0 r_677 o_q_693 (by decide))).2.2.1.trans n_682)
  have n_702 : (sA (sF g_692 h 53 (.ref q_674)) q_693 50 48).2.2.1 q_367 = 8 := ((sA_g q_367 (ne0 r_678 o_q_693 (by decide))).2.2.1.trans n_683)
  have n_703 : (sA (sF g_692 h 53 (.ref q_674)) q_693 50 48).2.2.1 q_380 = 8 := ((sA_g q_380 (ne0 r_679 o_q_693 (by decide))).2.2.1.trans n_684)
  have n_704 : (sA (sF g_692 h 53 (.ref q_674)) q_693 50 48).2.2.1 q_693 = 48 := sA_n
  have kn_705 : (sA (sF g_692 h 53 (.ref q_674)) q_693 50 48).2.1 h 22 = .int 0 := ((congrFun (sA_g h (ne0 r_675 o_q_693 (by decide))).2.1 22).trans (sF_k kn_686 (by decide)))
  have kn_706 : (sA (sF g_692 h 53 (.ref q_674)) q_693 50 48).2.1 h 34 = .int 0 := ((congrFun (sA_g h (ne0 r_675 o_q_693 (by decide))).2.1 34).trans (sF_k kn_687 (by decide)))
  have kn_707 : (sA (sF g_692 h 53 (.ref q_674)) q_693 50 48).2.1 h 2 = .ref q_8 := ((congrFun (sA_g h (ne0 r_675 o_q_693 (by decide))).2.1 2).trans (sF_k kn_688 (by decide)))
  have kn_708 : (sA (sF g_692 h 53 (.ref q_674)) q_693 50 48).2.1 h 3 = .ref q_15 := ((congrFun (sA_g h (ne0 r_675 o_q_693 (by decide))).2.1 3).trans (sF_k kn_689 (by decide)))
  have kn_709 : (sA (sF g_692 h 53 (.ref q_674)) q_693 50 48).2.1 h 39 = .ref q_367 := ((congrFun (sA_g h (ne0 r_675 o_q_693 (by decide))).2.1 39).trans (sF_k kn_690 (by decide)))
  have kn_710 : (sA (sF g_692 h 53 (.ref q_674)) q_693 50 48).2.1 h 40 = .ref q_380 := ((congrFun (sA_g h (ne0 r_675 o_q_693 (by decide))).2.1 40).trans (sF_k kn_691 (by decide)))
  generalize (sA (sF g_692 h 53 (.ref q_674)) q_693 50 48) = g_711 at hT hI hM hE r_694 r_695 r_696 r_697 r_698 r_699 n_700 n_701 n_702 n_703 n_704 kn_705 kn_706 kn_707 kn_708 kn_709 kn_710 hP zP zN
  refine W.widen (k := 41) (n := 2888) (Nat.le_of_ble_eq_true rfl) (Nat.le_of_ble_eq_true rfl) ?_
  refine t_put0 (ci := 7) (v := .ref q_693) hB hT (ro_ci r_694 rfl) (ro_n0 r_694 (by decide)) rfl 54 (by decide) k_799 (Or.inr ⟨hin, rfl⟩) rfl rfl dX7_init_484 (fun H locs hT => ?_)
  have hI : Inv (sF g_711 h 54 (.ref q_693)) := hI.sF (fk r_694 (show fsm _ _ ft from trivial))
  have hM : Sm md_k_Model g (sF g_711 h 54 (.ref q_693)) := hM.tr hE (Sm_sF (by rw [r_694]; rfl))
  have hE : Ex g (sF g_711 h 54 (.ref q_693)) := hE
  have hP : PF [54, 53, 48, 47, 46, 45, 44, 43, 42, 41, 40, 39, 35, 33, 32, 31, 28, 27, 26, 25, 23, 20, 19, 18, 17, 16, 15, 14, 13, 12, 11, 10, 9, 8, 7, 6, 5, 4, 3, 2, 1, 60, 52, 51, 50, 49, 38, 37, 36, 34, 30, 29, 24, 22, 21, 0] (sF g_711 h 54 (.ref q_693)) h := hP.put (q_8_54 (⟨_, rfl, r_699, n_704⟩))
  have zP : ZC (sF g_711 h 54 (.ref q_693)) q_15 := zP
  have zN : ZC (sF g_711 h 54 (.ref q_693)) q_380 := zN
  refine lv_aload_n hx hb dX7_init_487 rfl (lv_at hl 0 rfl) ?_
  refine lv_bipush (v := 48) hx hb dX7_init_488 (by decide) ?_
  refine t_newi (N' := 48) hB hT 50 (by decide) k_101 (by decide) (by decide) (by decide) (Nat.le_of_ble_eq_true rfl) (Nat.le_of_ble_eq_true rfl) dX7_init_490 (fun q_712 H o_q_712 hT => ?_)
  have z_q_712 : g.1 q_712 = 0 := hE.z0 o_q_712
  have hI : Inv (sA (sF g_711 h 54 (.ref q_693)) q_712 50 48) := hI.newi o_q_712 (by decide) (fun _ => rfl) trivial (fun _ => trivial)
  have hM : Sm md_k_Model g (sA (sF g_711 h 54 (.ref q_693)) q_712 50 48) := hM.tr hE (Sm.push o_q_712 sA_g)
  have hE : Ex g (sA (sF g_711 h 54 (.ref q_693)) q_712 50 48) := hE.tr (Ex.push o_q_712 sA_g)
  have hP : PF [54, 53, 48, 47, 46, 45, 44, 43, 42, 41, 40, 39, 35, 33, 32, 31, 28, 27, 26, 25, 23, 20, 19, 18, 17, 16, 15, 14, 13, 12, 11, 10, 9, 8, 7, 6, 5, 4, 3, 2, 1, 60, 52, 51, 50, 49, 38, 37, 36, 34, 30, 29, 24, 22, 21, 0] (sA (sF g_711 h 54 (.ref q_693)) q_712 50 48) h := hP.pu (Ex.push o_q_712 sA_g) (sA_g h (ne0 r_694 o_q_712 (by decide))).2.1
  have zP : ZC (sA (sF g_711 h 54 (.ref q_693)) q_712 50 48) q_15 := zP.pu (sA_g q_15 (ne0 r_696 o_q_712 (by decide))).2.2.2.1
  have zN : ZC (sA (sF g_711 h 54 (.ref q_693)) q_712 50 48) q_380 := zN.pu (sA_g q_380 (ne0 r_698 o_q_712 (by decide))).2.2.2.1
  have r_713 : (sA (sF g_711 h 54 (.ref q_693)) q_712 50 48).1 h = 18 := ((sA_g h (ne0 r_694 o_q_712 (by decide))).1.trans r_694)
  have r_714 : (sA (sF g_711 h 54 (.ref q_693)) q_712 50 48).1 q_8 = 71 := ((sA_g q_8 (ne0 r_695 o_q_712 (by decide))).1.trans r_695)
  have r_715 : (sA (sF g_711 h 54 (.ref q_693)) q_712 50 48).1 q_15 = 72 := ((sA_g q_15 (ne0 r_696 o_q_712 (by decide))).1.trans r_696)
  have r_716 : (sA (sF g_711 h 54 (.ref q_693)) q_712 50 48).1 q_367 = 84 := ((sA_g q_367 (ne0 r_697 o_q_712 (by decide))).1.trans r_697)
  have r_717 : (sA (sF g_711 h 54 (.ref q_693)) q_712 50 48).1 q_380 = 85 := ((sA_g q_380 (ne0 r_698 o_q_712 (by decide))).1.trans r_698)
  have r_718 : (sA (sF g_711 h 54 (.ref q_693)) q_712 50 48).1 q_712 = 50 := sA_r
  have n_719 : (sA (sF g_711 h 54 (.ref q_693)) q_712 50 48).2.2.1 q_8 = 48 := ((sA_g q_8 (ne0 r_695 o_q_712 (by decide))).2.2.1.trans n_700)
  have n_720 : (sA (sF g_711 h 54 (.ref q_693)) q_712 50 48).2.2.1 q_15 = 48 := ((sA_g q_15 (ne0 r_696 o_q_712 (by decide))).2.2.1.trans n_701)
  have n_721 : (sA (sF g_711 h 54 (.ref q_693)) q_712 50 48).2.2.1 q_367 = 8 := ((sA_g q_367 (ne0 r_697 o_q_712 (by decide))).2.2.1.trans n_702)
  have n_722 : (sA (sF g_711 h 54 (.ref q_693)) q_712 50 48).2.2.1 q_380 = 8 := ((sA_g q_380 (ne0 r_698 o_q_712 (by decide))).2.2.1.trans n_703)
  have n_723 : (sA (sF g_711 h 54 (.ref q_693)) q_712 50 48).2.2.1 q_712 = 48 := sA_n
  have kn_724 : (sA (sF g_711 h 54 (.ref q_693)) q_712 50 48).2.1 h 22 = .int 0 := ((congrFun (sA_g h (ne0 r_694 o_q_712 (by decide))).2.1 22).trans (sF_k kn_705 (by decide)))
  have kn_725 : (sA (sF g_711 h 54 (.ref q_693)) q_712 50 48).2.1 h 34 = .int 0 := ((congrFun (sA_g h (ne0 r_694 o_q_712 (by decide))).2.1 34).trans (sF_k kn_706 (by decide)))
  have kn_726 : (sA (sF g_711 h 54 (.ref q_693)) q_712 50 48).2.1 h 2 = .ref q_8 := ((congrFun (sA_g h (ne0 r_694 o_q_712 (by decide))).2.1 2).trans (sF_k kn_707 (by decide)))
  have kn_727 : (sA (sF g_711 h 54 (.ref q_693)) q_712 50 48).2.1 h 3 = .ref q_15 := ((congrFun (sA_g h (ne0 r_694 o_q_712 (by decide))).2.1 3).trans (sF_k kn_708 (by decide)))
  have kn_728 : (sA (sF g_711 h 54 (.ref q_693)) q_712 50 48).2.1 h 39 = .ref q_367 := ((congrFun (sA_g h (ne0 r_694 o_q_712 (by decide))).2.1 39).trans (sF_k kn_709 (by decide)))
  have kn_729 : (sA (sF g_711 h 54 (.ref q_693)) q_712 50 48).2.1 h 40 = .ref q_380 := ((congrFun (sA_g h (ne0 r_694 o_q_712 (by decide))).2.1 40).trans (sF_k kn_710 (by decide)))
  generalize (sA (sF g_711 h 54 (.ref q_693)) q_712 50 48) = g_730 at hT hI hM hE r_713 r_714 r_715 r_716 r_717 r_718 n_719 n_720 n_721 n_722 n_723 kn_724 kn_725 kn_726 kn_727 kn_728 kn_729 hP zP zN
  refine W.widen (k := 42) (n := 2936) (Nat.le_of_ble_eq_true rfl) (Nat.le_of_ble_eq_true rfl) ?_
  refine t_put0 (ci := 7) (v := .ref q_712) hB hT (ro_ci r_713 rfl) (ro_n0 r_713 (by decide)) rfl 55 (by decide) k_800 (Or.inr ⟨hin, rfl⟩) rfl rfl dX7_init_492 (fun H locs hT => ?_)
  have hI : Inv (sF g_730 h 55 (.ref q_712)) := hI.sF (fk r_713 (show fsm _ _ ft from trivial))
  have hM : Sm md_k_Model g (sF g_730 h 55 (.ref q_712)) := hM.tr hE (Sm_sF (by rw [r_713]; rfl))
  have hE : Ex g (sF g_730 h 55 (.ref q_712)) := hE
  have hP : PF [55, 54, 53, 48, 47, 46, 45, 44, 43, 42, 41, 40, 39, 35, 33, 32, 31, 28, 27, 26, 25, 23, 20, 19, 18, 17, 16, 15, 14, 13, 12, 11, 10, 9, 8, 7, 6, 5, 4, 3, 2, 1, 60, 52, 51, 50, 49, 38, 37, 36, 34, 30, 29, 24, 22, 21, 0] (sF g_730 h 55 (.ref q_712)) h := hP.put (q_8_55 (⟨_, rfl, r_718, n_723⟩))
  have zP : ZC (sF g_730 h 55 (.ref q_712)) q_15 := zP
  have zN : ZC (sF g_730 h 55 (.ref q_712)) q_380 := zN
  refine lv_aload_n hx hb dX7_init_495 rfl (lv_at hl 0 rfl) ?_
  refine lv_bipush (v := 48) hx hb dX7_init_496 (by decide) ?_
  refine t_newi (N' := 48) hB hT 50 (by decide) k_101 (by decide) (by decide) (by decide) (Nat.le_of_ble_eq_true rfl) (Nat.le_of_ble_eq_true rfl) dX7_init_498 (fun q_731 H o_q_731 hT => ?_)
  have z_q_731 : g.1 q_731 = 0 := hE.z0 o_q_731
  have hI : Inv (sA (sF g_730 h 55 (.ref q_712)) q_731 50 48) := hI.newi o_q_731 (by decide) (fun _ => rfl) trivial (fun _ => trivial)
  have hM : Sm md_k_Model g (sA (sF g_730 h 55 (.ref q_712)) q_731 50 48) := hM.tr hE (Sm.push o_q_731 sA_g)
  have hE : Ex g (sA (sF g_730 h 55 (.ref q_712)) q_731 50 48) := hE.tr (Ex.push o_q_731 sA_g)
  have hP : PF [55, 54, 53, 48, 47, 46, 45, 44, 43, 42, 41, 40, 39, 35, 33, 32, 31, 28, 27, 26, 25, 23, 20, 19, 18, 17, 16, 15, 14, 13, 12, 11, 10, 9, 8, 7, 6, 5, 4, 3, 2, 1, 60, 52, 51, 50, 49, 38, 37, 36, 34, 30, 29, 24, 22, 21, 0] (sA (sF g_730 h 55 (.ref q_712)) q_731 50 48) h := hP.pu (Ex.push o_q_731 sA_g) (sA_g h (ne0 r_713 o_q_731 (by decide))).2.1
  have zP : ZC (sA (sF g_730 h 55 (.ref q_712)) q_731 50 48) q_15 := zP.pu (sA_g q_15 (ne0 r_715 o_q_731 (by decide))).2.2.2.1
  have zN : ZC (sA (sF g_730 h 55 (.ref q_712)) q_731 50 48) q_380 := zN.pu (sA_g q_380 (ne0 r_717 o_q_731 (by decide))).2.2.2.1
  have r_732 : (sA (sF g_730 h 55 (.ref q_712)) q_731 50 48).1 h = 18 := ((sA_g h (ne0 r_713 o_q_731 (by decide))).1.trans r_713)
  have r_733 : (sA (sF g_730 h 55 (.ref q_712)) q_731 50 48).1 q_8 = 71 := ((sA_g q_8 (ne0 r_714 o_q_731 (by decide))).1.trans r_714)
  have r_734 : (sA (sF g_730 h 55 (.ref q_712)) q_731 50 48).1 q_15 = 72 := ((sA_g q_15 (ne0 r_715 o_q_731 (by decide))).1.trans r_715)
  have r_735 : (sA (sF g_730 h 55 (.ref q_712)) q_731 50 48).1 q_367 = 84 := ((sA_g q_367 (ne0 r_716 o_q_731 (by decide))).1.trans r_716)
  have r_736 : (sA (sF g_730 h 55 (.ref q_712)) q_731 50 48).1 q_380 = 85 := ((sA_g q_380 (ne0 r_717 o_q_731 (by decide))).1.trans r_717)
  have r_737 : (sA (sF g_730 h 55 (.ref q_712)) q_731 50 48).1 q_731 = 50 := sA_r
  have n_738 : (sA (sF g_730 h 55 (.ref q_712)) q_731 50 48).2.2.1 q_8 = 48 := ((sA_g q_8 (ne0 r_714 o_q_731 (by decide))).2.2.1.trans n_719)
  have n_739 : (sA (sF g_730 h 55 (.ref q_712)) q_731 50 48).2.2.1 q_15 = 48 := ((sA_g q_15 (ne0 r_715 o_q_731 (by decide))).2.2.1.trans n_720)
  have n_740 : (sA (sF g_730 h 55 (.ref q_712)) q_731 50 48).2.2.1 q_367 = 8 := ((sA_g q_367 (ne0 r_716 o_q_731 (by decide))).2.2.1.trans n_721)
  have n_741 : (sA (sF g_730 h 55 (.ref q_712)) q_731 50 48).2.2.1 q_380 = 8 := ((sA_g q_380 (ne0 r_717 o_q_731 (by decide))).2.2.1.trans n_722)
  have n_742 : (sA (sF g_730 h 55 (.ref q_712)) q_731 50 48).2.2.1 q_731 = 48 := sA_n
  have kn_743 : (sA (sF g_730 h 55 (.ref q_712)) q_731 50 48).2.1 h 22 = .int 0 := ((congrFun (sA_g h (ne0 r_713 o_q_731 (by decide))).2.1 22).trans (sF_k kn_724 (by decide)))
  have kn_744 : (sA (sF g_730 h 55 (.ref q_712)) q_731 50 48).2.1 h 34 = .int 0 := ((congrFun (sA_g h (ne0 r_713 o_q_731 (by decide))).2.1 34).trans (sF_k kn_725 (by decide)))
  have kn_745 : (sA (sF g_730 h 55 (.ref q_712)) q_731 50 48).2.1 h 2 = .ref q_8 := ((congrFun (sA_g h (ne0 r_713 o_q_731 (by decide))).2.1 2).trans (sF_k kn_726 (by decide)))
  have kn_746 : (sA (sF g_730 h 55 (.ref q_712)) q_731 50 48).2.1 h 3 = .ref q_15 := ((congrFun (sA_g h (ne0 r_713 o_q_731 (by decide))).2.1 3).trans (sF_k kn_727 (by decide)))
  have kn_747 : (sA (sF g_730 h 55 (.ref q_712)) q_731 50 48).2.1 h 39 = .ref q_367 := ((congrFun (sA_g h (ne0 r_713 o_q_731 (by decide))).2.1 39).trans (sF_k kn_728 (by decide)))
  have kn_748 : (sA (sF g_730 h 55 (.ref q_712)) q_731 50 48).2.1 h 40 = .ref q_380 := ((congrFun (sA_g h (ne0 r_713 o_q_731 (by decide))).2.1 40).trans (sF_k kn_729 (by decide)))
  generalize (sA (sF g_730 h 55 (.ref q_712)) q_731 50 48) = g_749 at hT hI hM hE r_732 r_733 r_734 r_735 r_736 r_737 n_738 n_739 n_740 n_741 n_742 kn_743 kn_744 kn_745 kn_746 kn_747 kn_748 hP zP zN
  refine W.widen (k := 43) (n := 2984) (Nat.le_of_ble_eq_true rfl) (Nat.le_of_ble_eq_true rfl) ?_
  refine t_put0 (ci := 7) (v := .ref q_731) hB hT (ro_ci r_732 rfl) (ro_n0 r_732 (by decide)) rfl 56 (by decide) k_801 (Or.inr ⟨hin, rfl⟩) rfl rfl dX7_init_500 (fun H locs hT => ?_)
  have hI : Inv (sF g_749 h 56 (.ref q_731)) := hI.sF (fk r_732 (show fsm _ _ ft from trivial))
  have hM : Sm md_k_Model g (sF g_749 h 56 (.ref q_731)) := hM.tr hE (Sm_sF (by rw [r_732]; rfl))
  have hE : Ex g (sF g_749 h 56 (.ref q_731)) := hE
  have hP : PF [56, 55, 54, 53, 48, 47, 46, 45, 44, 43, 42, 41, 40, 39, 35, 33, 32, 31, 28, 27, 26, 25, 23, 20, 19, 18, 17, 16, 15, 14, 13, 12, 11, 10, 9, 8, 7, 6, 5, 4, 3, 2, 1, 60, 52, 51, 50, 49, 38, 37, 36, 34, 30, 29, 24, 22, 21, 0] (sF g_749 h 56 (.ref q_731)) h := hP.put (q_8_56 (⟨_, rfl, r_737, n_742⟩))
  have zP : ZC (sF g_749 h 56 (.ref q_731)) q_15 := zP
  have zN : ZC (sF g_749 h 56 (.ref q_731)) q_380 := zN
  refine lv_aload_n hx hb dX7_init_503 rfl (lv_at hl 0 rfl) ?_
  refine lv_bipush (v := 30) hx hb dX7_init_504 (by decide) ?_
  refine t_newi (N' := 30) hB hT 50 (by decide) k_101 (by decide) (by decide) (by decide) (Nat.le_of_ble_eq_true rfl) (Nat.le_of_ble_eq_true rfl) dX7_init_506 (fun q_750 H o_q_750 hT => ?_)
  have z_q_750 : g.1 q_750 = 0 := hE.z0 o_q_750
  have hI : Inv (sA (sF g_749 h 56 (.ref q_731)) q_750 50 30) := hI.newi o_q_750 (by decide) (fun _ => rfl) trivial (fun _ => trivial)
  have hM : Sm md_k_Model g (sA (sF g_749 h 56 (.ref q_731)) q_750 50 30) := hM.tr hE (Sm.push o_q_750 sA_g)
  have hE : Ex g (sA (sF g_749 h 56 (.ref q_731)) q_750 50 30) := hE.tr (Ex.push o_q_750 sA_g)
  have hP : PF [56, 55, 54, 53, 48, 47, 46, 45, 44, 43, 42, 41, 40, 39, 35, 33, 32, 31, 28, 27, 26, 25, 23, 20, 19, 18, 17, 16, 15, 14, 13, 12, 11, 10, 9, 8, 7, 6, 5, 4, 3, 2, 1, 60, 52, 51, 50, 49, 38, 37, 36, 34, 30, 29, 24, 22, 21, 0] (sA (sF g_749 h 56 (.ref q_731)) q_750 50 30) h := hP.pu (Ex.push o_q_750 sA_g) (sA_g h (ne0 r_732 o_q_750 (by decide))).2.1
  have zP : ZC (sA (sF g_749 h 56 (.ref q_731)) q_750 50 30) q_15 := zP.pu (sA_g q_15 (ne0 r_734 o_q_750 (by decide))).2.2.2.1
  have zN : ZC (sA (sF g_749 h 56 (.ref q_731)) q_750 50 30) q_380 := zN.pu (sA_g q_380 (ne0 r_736 o_q_750 (by decide))).2.2.2.1
  have r_751 : (sA (sF g_749 h 56 (.ref q_731)) q_750 50 30).1 h = 18 := ((sA_g h (ne0 r_732 o_q_750 (by decide))).1.trans r_732)
  have r_752 : (sA (sF g_749 h 56 (.ref q_731)) q_750 50 30).1 q_8 = 71 := ((sA_g q_8 (ne0 r_733 o_q_750 (by decide))).1.trans r_733)
  have r_753 : (sA (sF g_749 h 56 (.ref q_731)) q_750 50 30).1 q_15 = 72 := ((sA_g q_15 (ne0 r_734 o_q_750 (by decide))).1.trans r_734)
  have r_754 : (sA (sF g_749 h 56 (.ref q_731)) q_750 50 30).1 q_367 = 84 := ((sA_g q_367 (ne0 r_735 o_q_750 (by decide))).1.trans r_735)
  have r_755 : (sA (sF g_749 h 56 (.ref q_731)) q_750 50 30).1 q_380 = 85 := ((sA_g q_380 (ne0 r_736 o_q_750 (by decide))).1.trans r_736)
  have r_756 : (sA (sF g_749 h 56 (.ref q_731)) q_750 50 30).1 q_750 = 50 := sA_r
  have n_757 : (sA (sF g_749 h 56 (.ref q_731)) q_750 50 30).2.2.1 q_8 = 48 := ((sA_g q_8 (ne0 r_733 o_q_750 (by decide))).2.2.1.trans n_738)
  have n_758 : (sA (sF g_749 h 56 (.ref q_731)) q_750 50 30).2.2.1 q_15 = 48 := ((sA_g q_15 (ne0 r_734 o_q_750 (by decide))).2.2.1.trans n_739)
  have n_759 : (sA (sF g_749 h 56 (.ref q_731)) q_750 50 30).2.2.1 q_367 = 8 := ((sA_g q_367 (ne0 r_735 o_q_750 (by decide))).2.2.1.trans n_740)
  have n_760 : (sA (sF g_749 h 56 (.ref q_731)) q_750 50 30).2.2.1 q_380 = 8 := ((sA_g q_380 (ne0 r_736 o_q_750 (by decide))).2.2.1.trans n_741)
  have n_761 : (sA (sF g_749 h 56 (.ref q_731)) q_750 50 30).2.2.1 q_750 = 30 := sA_n
  have kn_762 : (sA (sF g_749 h 56 (.ref q_731)) q_750 50 30).2.1 h 22 = .int 0 := ((congrFun (sA_g h (ne0 r_732 o_q_750 (by decide))).2.1 22).trans (sF_k kn_743 (by decide)))
  have kn_763 : (sA (sF g_749 h 56 (.ref q_731)) q_750 50 30).2.1 h 34 = .int 0 := ((congrFun (sA_g h (ne0 r_732 o_q_750 (by decide))).2.1 34).trans (sF_k kn_744 (by decide)))
  have kn_764 : (sA (sF g_749 h 56 (.ref q_731)) q_750 50 30).2.1 h 2 = .ref q_8 := ((congrFun (sA_g h (ne0 r_732 o_q_750 (by decide))).2.1 2).trans (sF_k kn_745 (by decide)))
  have kn_765 : (sA (sF g_749 h 56 (.ref q_731)) q_750 50 30).2.1 h 3 = .ref q_15 := ((congrFun (sA_g h (ne0 r_732 o_q_750 (by decide))).2.1 3).trans (sF_k kn_746 (by decide)))
  have kn_766 : (sA (sF g_749 h 56 (.ref q_731)) q_750 50 30).2.1 h 39 = .ref q_367 := ((congrFun (sA_g h (ne0 r_732 o_q_750 (by decide))).2.1 39).trans (sF_k kn_747 (by decide)))
  have kn_767 : (sA (sF g_749 h 56 (.ref q_731)) q_750 50 30).2.1 h 40 = .ref q_380 := ((congrFun (sA_g h (ne0 r_732 o_q_750 (by decide))).2.1 40).trans (sF_k kn_748 (by decide)))
  generalize (sA (sF g_749 h 56 (.ref q_731)) q_750 50 30) = g_768 at hT hI hM hE r_751 r_752 r_753 r_754 r_755 r_756 n_757 n_758 n_759 n_760 n_761 kn_762 kn_763 kn_764 kn_765 kn_766 kn_767 hP zP zN
  refine W.widen (k := 44) (n := 3014) (Nat.le_of_ble_eq_true rfl) (Nat.le_of_ble_eq_true rfl) ?_
  refine t_put0 (ci := 7) (v := .ref q_750) hB hT (ro_ci r_751 rfl) (ro_n0 r_751 (by decide)) rfl 57 (by decide) k_802 (Or.inr ⟨hin, rfl⟩) rfl rfl dX7_init_508 (fun H locs hT => ?_)
  have hI : Inv (sF g_768 h 57 (.ref q_750)) := hI.sF (fk r_751 (show fsm _ _ ft from trivial))
  have hM : Sm md_k_Model g (sF g_768 h 57 (.ref q_750)) := hM.tr hE (Sm_sF (by rw [r_751]; rfl))
  have hE : Ex g (sF g_768 h 57 (.ref q_750)) := hE
  have hP : PF [57, 56, 55, 54, 53, 48, 47, 46, 45, 44, 43, 42, 41, 40, 39, 35, 33, 32, 31, 28, 27, 26, 25, 23, 20, 19, 18, 17, 16, 15, 14, 13, 12, 11, 10, 9, 8, 7, 6, 5, 4, 3, 2, 1, 60, 52, 51, 50, 49, 38, 37, 36, 34, 30, 29, 24, 22, 21, 0] (sF g_768 h 57 (.ref q_750)) h := hP.put (q_8_57 (⟨_, rfl, r_756, n_761⟩))
  have zP : ZC (sF g_768 h 57 (.ref q_750)) q_15 := zP
  have zN : ZC (sF g_768 h 57 (.ref q_750)) q_380 := zN
  refine lv_aload_n hx hb dX7_init_511 rfl (lv_at hl 0 rfl) ?_
  refine lv_sipush (v := 1200) hx hb dX7_init_512 (by decide) ?_
  refine t_newi (N' := 1200) hB hT 50 (by decide) k_101 (by decide) (by decide) (by decide) (Nat.le_of_ble_eq_true rfl) (Nat.le_of_ble_eq_true rfl) dX7_init_515 (fun q_769 H o_q_769 hT => ?_)
  have z_q_769 : g.1 q_769 = 0 := hE.z0 o_q_769
  have hI : Inv (sA (sF g_768 h 57 (.ref q_750)) q_769 50 1200) := hI.newi o_q_769 (by decide) (fun _ => rfl) trivial (fun _ => trivial)
  have hM : Sm md_k_Model g (sA (sF g_768 h 57 (.ref q_750)) q_769 50 1200) := hM.tr hE (Sm.push o_q_769 sA_g)
  have hE : Ex g (sA (sF g_768 h 57 (.ref q_750)) q_769 50 1200) := hE.tr (Ex.push o_q_769 sA_g)
  have hP : PF [57, 56, 55, 54, 53, 48, 47, 46, 45, 44, 43, 42, 41, 40, 39, 35, 33, 32, 31, 28, 27, 26, 25, 23, 20, 19, 18, 17, 16, 15, 14, 13, 12, 11, 10, 9, 8, 7, 6, 5, 4, 3, 2, 1, 60, 52, 51, 50, 49, 38, 37, 36, 34, 30, 29, 24, 22, 21, 0] (sA (sF g_768 h 57 (.ref q_750)) q_769 50 1200) h := hP.pu (Ex.push o_q_769 sA_g) (sA_g h (ne0 r_751 o_q_769 (by decide))).2.1
  have zP : ZC (sA (sF g_768 h 57 (.ref q_750)) q_769 50 1200) q_15 := zP.pu (sA_g q_15 (ne0 r_753 o_q_769 (by decide))).2.2.2.1
  have zN : ZC (sA (sF g_768 h 57 (.ref q_750)) q_769 50 1200) q_380 := zN.pu (sA_g q_380 (ne0 r_755 o_q_769 (by decide))).2.2.2.1
  have r_770 : (sA (sF g_768 h 57 (.ref q_750)) q_769 50 1200).1 h = 18 := ((sA_g h (ne0 r_751 o_q_769 (by decide))).1.trans r_751)
  have r_771 : (sA (sF g_768 h 57 (.ref q_750)) q_769 50 1200).1 q_8 = 71 := ((sA_g q_8 (ne0 r_752 o_q_769 (by decide))).1.trans r_752)
  have r_772 : (sA (sF g_768 h 57 (.ref q_750)) q_769 50 1200).1 q_15 = 72 := ((sA_g q_15 (ne0 r_753 o_q_769 (by decide))).1.trans r_753)
  have r_773 : (sA (sF g_768 h 57 (.ref q_750)) q_769 50 1200).1 q_367 = 84 := ((sA_g q_367 (ne0 r_754 o_q_769 (by decide))).1.trans r_754)
  have r_774 : (sA (sF g_768 h 57 (.ref q_750)) q_769 50 1200).1 q_380 = 85 := ((sA_g q_380 (ne0 r_755 o_q_769 (by decide))).1.trans r_755)
  have r_775 : (sA (sF g_768 h 57 (.ref q_750)) q_769 50 1200).1 q_769 = 50 := sA_r
  have n_776 : (sA (sF g_768 h 57 (.ref q_750)) q_769 50 1200).2.2.1 q_8 = 48 := ((sA_g q_8 (ne0 r_752 o_q_769 (by decide))).2.2.1.trans n_757)
  have n_777 : (sA (sF g_768 h 57 (.ref q_750)) q_769 50 1200).2.2.1 q_15 = 48 := ((sA_g q_15 (ne0 r_753 o_q_769 (by decide))).2.2.1.trans n_758)
  have n_778 : (sA (sF g_768 h 57 (.ref q_750)) q_769 50 1200).2.2.1 q_367 = 8 := ((sA_g q_367 (ne0 r_754 o_q_769 (by decide))).2.2.1.trans n_759)
  have n_779 : (sA (sF g_768 h 57 (.ref q_750)) q_769 50 1200).2.2.1 q_380 = 8 := ((sA_g q_380 (ne0 r_755 o_q_769 (by decide))).2.2.1.trans n_760)
  have n_780 : (sA (sF g_768 h 57 (.ref q_750)) q_769 50 1200).2.2.1 q_769 = 1200 := sA_n
  have kn_781 : (sA (sF g_768 h 57 (.ref q_750)) q_769 50 1200).2.1 h 22 = .int 0 := ((congrFun (sA_g h (ne0 r_751 o_q_769 (by decide))).2.1 22).trans (sF_k kn_762 (by decide)))
  have kn_782 : (sA (sF g_768 h 57 (.ref q_750)) q_769 50 1200).2.1 h 34 = .int 0 := ((congrFun (sA_g h (ne0 r_751 o_q_769 (by decide))).2.1 34).trans (sF_k kn_763 (by decide)))
  have kn_783 : (sA (sF g_768 h 57 (.ref q_750)) q_769 50 1200).2.1 h 2 = .ref q_8 := ((congrFun (sA_g h (ne0 r_751 o_q_769 (by decide))).2.1 2).trans (sF_k kn_764 (by decide)))
  have kn_784 : (sA (sF g_768 h 57 (.ref q_750)) q_769 50 1200).2.1 h 3 = .ref q_15 := ((congrFun (sA_g h (ne0 r_751 o_q_769 (by decide))).2.1 3).trans (sF_k kn_765 (by decide)))
  have kn_785 : (sA (sF g_768 h 57 (.ref q_750)) q_769 50 1200).2.1 h 39 = .ref q_367 := ((congrFun (sA_g h (ne0 r_751 o_q_769 (by decide))).2.1 39).trans (sF_k kn_766 (by decide)))
  have kn_786 : (sA (sF g_768 h 57 (.ref q_750)) q_769 50 1200).2.1 h 40 = .ref q_380 := ((congrFun (sA_g h (ne0 r_751 o_q_769 (by decide))).2.1 40).trans (sF_k kn_767 (by decide)))
  generalize (sA (sF g_768 h 57 (.ref q_750)) q_769 50 1200) = g_787 at hT hI hM hE r_770 r_771 r_772 r_773 r_774 r_775 n_776 n_777 n_778 n_779 n_780 kn_781 kn_782 kn_783 kn_784 kn_785 kn_786 hP zP zN
  refine W.widen (k := 45) (n := 4214) (Nat.le_of_ble_eq_true rfl) (Nat.le_of_ble_eq_true rfl) ?_
  refine t_put0 (ci := 7) (v := .ref q_769) hB hT (ro_ci r_770 rfl) (ro_n0 r_770 (by decide)) rfl 58 (by decide) k_803 (Or.inr ⟨hin, rfl⟩) rfl rfl dX7_init_517 (fun H locs hT => ?_)
  have hI : Inv (sF g_787 h 58 (.ref q_769)) := hI.sF (fk r_770 (show fsm _ _ ft from trivial))
  have hM : Sm md_k_Model g (sF g_787 h 58 (.ref q_769)) := hM.tr hE (Sm_sF (by rw [r_770]; rfl))
  have hE : Ex g (sF g_787 h 58 (.ref q_769)) := hE
  have hP : PF [58, 57, 56, 55, 54, 53, 48, 47, 46, 45, 44, 43, 42, 41, 40, 39, 35, 33, 32, 31, 28, 27, 26, 25, 23, 20, 19, 18, 17, 16, 15, 14, 13, 12, 11, 10, 9, 8, 7, 6, 5, 4, 3, 2, 1, 60, 52, 51, 50, 49, 38, 37, 36, 34, 30, 29, 24, 22, 21, 0] (sF g_787 h 58 (.ref q_769)) h := hP.put (q_8_58 (⟨_, rfl, r_775, n_780⟩))
  have zP : ZC (sF g_787 h 58 (.ref q_769)) q_15 := zP
  have zN : ZC (sF g_787 h 58 (.ref q_769)) q_380 := zN
  refine lv_aload_n hx hb dX7_init_520 rfl (lv_at hl 0 rfl) ?_
  refine lv_bipush (v := 6) hx hb dX7_init_521 (by decide) ?_
  refine t_newi (N' := 6) hB hT 50 (by decide) k_101 (by decide) (by decide) (by decide) (Nat.le_of_ble_eq_true rfl) (Nat.le_of_ble_eq_true rfl) dX7_init_523 (fun q_788 H o_q_788 hT => ?_)
  have z_q_788 : g.1 q_788 = 0 := hE.z0 o_q_788
  have hI : Inv (sA (sF g_787 h 58 (.ref q_769)) q_788 50 6) := hI.newi o_q_788 (by decide) (fun _ => rfl) trivial (fun _ => trivial)
  have hM : Sm md_k_Model g (sA (sF g_787 h 58 (.ref q_769)) q_788 50 6) := hM.tr hE (Sm.push o_q_788 sA_g)
  have hE : Ex g (sA (sF g_787 h 58 (.ref q_769)) q_788 50 6) := hE.tr (Ex.push o_q_788 sA_g)
  have hP : PF [58, 57, 56, 55, 54, 53, 48, 47, 46, 45, 44, 43, 42, 41, 40, 39, 35, 33, 32, 31, 28, 27, 26, 25, 23, 20, 19, 18, 17, 16, 15, 14, 13, 12, 11, 10, 9, 8, 7, 6, 5, 4, 3, 2, 1, 60, 52, 51, 50, 49, 38, 37, 36, 34, 30, 29, 24, 22, 21, 0] (sA (sF g_787 h 58 (.ref q_769)) q_788 50 6) h := hP.pu (Ex.push o_q_788 sA_g) (sA_g h (ne0 r_770 o_q_788 (by decide))).2.1
  have zP : ZC (sA (sF g_787 h 58 (.ref q_769)) q_788 50 6) q_15 := zP.pu (sA_g q_15 (ne0 r_772 o_q_788 (by decide))).2.2.2.1
  have zN : ZC (sA (sF g_787 h 58 (.ref q_769)) q_788 50 6) q_380 := zN.pu (sA_g q_380 (ne0 r_774 o_q_788 (by decide))).2.2.2.1
  have r_789 : (sA (sF g_787 h 58 (.ref q_769)) q_788 50 6).1 h = 18 := ((sA_g h (ne0 r_770 o_q_788 (by decide))).1.trans r_770)
  have r_790 : (sA (sF g_787 h 58 (.ref q_769)) q_788 50 6).1 q_8 = 71 := ((sA_g q_8 (ne0 r_771 o_q_788 (by decide))).1.trans r_771)
  have r_791 : (sA (sF g_787 h 58 (.ref q_769)) q_788 50 6).1 q_15 = 72 := ((sA_g q_15 (ne0 r_772 o_q_788 (by decide))).1.trans r_772)
  have r_792 : (sA (sF g_787 h 58 (.ref q_769)) q_788 50 6).1 q_367 = 84 := ((sA_g q_367 (ne0 r_773 o_q_788 (by decide))).1.trans r_773)
  have r_793 : (sA (sF g_787 h 58 (.ref q_769)) q_788 50 6).1 q_380 = 85 := ((sA_g q_380 (ne0 r_774 o_q_788 (by decide))).1.trans r_774)
  have r_794 : (sA (sF g_787 h 58 (.ref q_769)) q_788 50 6).1 q_788 = 50 := sA_r
  have n_795 : (sA (sF g_787 h 58 (.ref q_769)) q_788 50 6).2.2.1 q_8 = 48 := ((sA_g q_8 (ne0 r_771 o_q_788 (by decide))).2.2.1.trans n_776)
  have n_796 : (sA (sF g_787 h 58 (.ref q_769)) q_788 50 6).2.2.1 q_15 = 48 := ((sA_g q_15 (ne0 r_772 o_q_788 (by decide))).2.2.1.trans n_777)
  have n_797 : (sA (sF g_787 h 58 (.ref q_769)) q_788 50 6).2.2.1 q_367 = 8 := ((sA_g q_367 (ne0 r_773 o_q_788 (by decide))).2.2.1.trans n_778)
  have n_798 : (sA (sF g_787 h 58 (.ref q_769)) q_788 50 6).2.2.1 q_380 = 8 := ((sA_g q_380 (ne0 r_774 o_q_788 (by decide))).2.2.1.trans n_779)
  have n_799 : (sA (sF g_787 h 58 (.ref q_769)) q_788 50 6).2.2.1 q_788 = 6 := sA_n
  have kn_800 : (sA (sF g_787 h 58 (.ref q_769)) q_788 50 6).2.1 h 22 = .int 0 := ((congrFun (sA_g h (ne0 r_770 o_q_788 (by decide))).2.1 22).trans (sF_k kn_781 (by decide)))
  have kn_801 : (sA (sF g_787 h 58 (.ref q_769)) q_788 50 6).2.1 h 34 = .int 0 := ((congrFun (sA_g h (ne0 r_770 o_q_788 (by decide))).2.1 34).trans (sF_k kn_782 (by decide)))
  have kn_802 : (sA (sF g_787 h 58 (.ref q_769)) q_788 50 6).2.1 h 2 = .ref q_8 := ((congrFun (sA_g h (ne0 r_770 o_q_788 (by decide))).2.1 2).trans (sF_k kn_783 (by decide)))
  have kn_803 : (sA (sF g_787 h 58 (.ref q_769)) q_788 50 6).2.1 h 3 = .ref q_15 := ((congrFun (sA_g h (ne0 r_770 o_q_788 (by decide))).2.1 3).trans (sF_k kn_784 (by decide)))
  have kn_804 : (sA (sF g_787 h 58 (.ref q_769)) q_788 50 6).2.1 h 39 = .ref q_367 := ((congrFun (sA_g h (ne0 r_770 o_q_788 (by decide))).2.1 39).trans (sF_k kn_785 (by decide)))
  have kn_805 : (sA (sF g_787 h 58 (.ref q_769)) q_788 50 6).2.1 h 40 = .ref q_380 := ((congrFun (sA_g h (ne0 r_770 o_q_788 (by decide))).2.1 40).trans (sF_k kn_786 (by decide)))
  generalize (sA (sF g_787 h 58 (.ref q_769)) q_788 50 6) = g_806 at hT hI hM hE r_789 r_790 r_791 r_792 r_793 r_794 n_795 n_796 n_797 n_798 n_799 kn_800 kn_801 kn_802 kn_803 kn_804 kn_805 hP zP zN
  refine W.widen (k := 46) (n := 4220) (Nat.le_of_ble_eq_true rfl) (Nat.le_of_ble_eq_true rfl) ?_
  refine t_put0 (ci := 7) (v := .ref q_788) hB hT (ro_ci r_789 rfl) (ro_n0 r_789 (by decide)) rfl 59 (by decide) k_804 (Or.inr ⟨hin, rfl⟩) rfl rfl dX7_init_525 (fun H locs hT => ?_)
  have hI : Inv (sF g_806 h 59 (.ref q_788)) := hI.sF (fk r_789 (show fsm _ _ ft from trivial))
  have hM : Sm md_k_Model g (sF g_806 h 59 (.ref q_788)) := hM.tr hE (Sm_sF (by rw [r_789]; rfl))
  have hE : Ex g (sF g_806 h 59 (.ref q_788)) := hE
  have hP : PF [59, 58, 57, 56, 55, 54, 53, 48, 47, 46, 45, 44, 43, 42, 41, 40, 39, 35, 33, 32, 31, 28, 27, 26, 25, 23, 20, 19, 18, 17, 16, 15, 14, 13, 12, 11, 10, 9, 8, 7, 6, 5, 4, 3, 2, 1, 60, 52, 51, 50, 49, 38, 37, 36, 34, 30, 29, 24, 22, 21, 0] (sF g_806 h 59 (.ref q_788)) h := hP.put (q_8_59 (⟨_, rfl, r_794, n_799⟩))
  have zP : ZC (sF g_806 h 59 (.ref q_788)) q_15 := zP
  have zN : ZC (sF g_806 h 59 (.ref q_788)) q_380 := zN
  refine lv_aload_n hx hb dX7_init_528 rfl (lv_at hl 0 rfl) ?_
  refine lv_iconst (v := 5) hx hb dX7_init_529 (by decide) ?_
  refine t_newi (N' := 5) hB hT 52 (by decide) k_101 (by decide) (by decide) (by decide) (Nat.le_of_ble_eq_true rfl) (Nat.le_of_ble_eq_true rfl) dX7_init_530 (fun q_807 H o_q_807 hT => ?_)
  have z_q_807 : g.1 q_807 = 0 := hE.z0 o_q_807
  have hI : Inv (sA (sF g_806 h 59 (.ref q_788)) q_807 52 5) := hI.newi o_q_807 (by decide) (fun _ => rfl) ⟨by decide, by decide⟩ (fun _ => trivial)
  have hM : Sm md_k_Model g (sA (sF g_806 h 59 (.ref q_788)) q_807 52 5) := hM.tr hE (Sm.push o_q_807 sA_g)
  have hE : Ex g (sA (sF g_806 h 59 (.ref q_788)) q_807 52 5) := hE.tr (Ex.push o_q_807 sA_g)
  have hP : PF [59, 58, 57, 56, 55, 54, 53, 48, 47, 46, 45, 44, 43, 42, 41, 40, 39, 35, 33, 32, 31, 28, 27, 26, 25, 23, 20, 19, 18, 17, 16, 15, 14, 13, 12, 11, 10, 9, 8, 7, 6, 5, 4, 3, 2, 1, 60, 52, 51, 50, 49, 38, 37, 36, 34, 30, 29, 24, 22, 21, 0] (sA (sF g_806 h 59 (.ref q_788)) q_807 52 5) h := hP.pu (Ex.push o_q_807 sA_g) (sA_g h (ne0 r_789 o_q_807 (by decide))).2.1
  have zP : ZC (sA (sF g_806 h 59 (.ref q_788)) q_807 52 5) q_15 := zP.pu (sA_g q_15 (ne0 r_791 o_q_807 (by decide))).2.2.2.1
  have zN : ZC (sA (sF g_806 h 59 (.ref q_788)) q_807 52 5) q_380 := zN.pu (sA_g q_380 (ne0 r_793 o_q_807 (by decide))).2.2.2.1
  have r_808 : (sA (sF g_806 h 59 (.ref q_788)) q_807 52 5).1 h = 18 := ((sA_g h (ne0 r_789 o_q_807 (by decide))).1.trans r_789)
  have r_809 : (sA (sF g_806 h 59 (.ref q_788)) q_807 52 5).1 q_8 = 71 := ((sA_g q_8 (ne0 r_790 o_q_807 (by decide))).1.trans r_790)
  have r_810 : (sA (sF g_806 h 59 (.ref q_788)) q_807 52 5).1 q_15 = 72 := ((sA_g q_15 (ne0 r_791 o_q_807 (by decide))).1.trans r_791)
  have r_811 : (sA (sF g_806 h 59 (.ref q_788)) q_807 52 5).1 q_367 = 84 := ((sA_g q_367 (ne0 r_792 o_q_807 (by decide))).1.trans r_792)
  have r_812 : (sA (sF g_806 h 59 (.ref q_788)) q_807 52 5).1 q_380 = 85 := ((sA_g q_380 (ne0 r_793 o_q_807 (by decide))).1.trans r_793)
  have r_813 : (sA (sF g_806 h 59 (.ref q_788)) q_807 52 5).1 q_807 = 52 := sA_r
  have n_814 : (sA (sF g_806 h 59 (.ref q_788)) q_807 52 5).2.2.1 q_8 = 48 := ((sA_g q_8 (ne0 r_790 o_q_807 (by decide))).2.2.1.trans n_795)
  have n_815 : (sA (sF g_806 h 59 (.ref q_788)) q_807 52 5).2.2.1 q_15 = 48 := ((sA_g q_15 (ne0 r_791 o_q_807 (by decide))).2.2.1.trans n_796)
  have n_816 : (sA (sF g_806 h 59 (.ref q_788)) q_807 52 5).2.2.1 q_367 = 8 := ((sA_g q_367 (ne0 r_792 o_q_807 (by decide))).2.2.1.trans n_797)
  have n_817 : (sA (sF g_806 h 59 (.ref q_788)) q_807 52 5).2.2.1 q_380 = 8 := ((sA_g q_380 (ne0 r_793 o_q_807 (by decide))).2.2.1.trans n_798)
  have n_818 : (sA (sF g_806 h 59 (.ref q_788)) q_807 52 5).2.2.1 q_807 = 5 := sA_n
  have kn_819 : (sA (sF g_806 h 59 (.ref q_788)) q_807 52 5).2.1 h 22 = .int 0 := ((congrFun (sA_g h (ne0 r_789 o_q_807 (by decide))).2.1 22).trans (sF_k kn_800 (by decide)))
  have kn_820 : (sA (sF g_806 h 59 (.ref q_788)) q_807 52 5).2.1 h 34 = .int 0 := ((congrFun (sA_g h (ne0 r_789 o_q_807 (by decide))).2.1 34).trans (sF_k kn_801 (by decide)))
  have kn_821 : (sA (sF g_806 h 59 (.ref q_788)) q_807 52 5).2.1 h 2 = .ref q_8 := ((congrFun (sA_g h (ne0 r_789 o_q_807 (by decide))).2.1 2).trans (sF_k kn_802 (by decide)))
  have kn_822 : (sA (sF g_806 h 59 (.ref q_788)) q_807 52 5).2.1 h 3 = .ref q_15 := ((congrFun (sA_g h (ne0 r_789 o_q_807 (by decide))).2.1 3).trans (sF_k kn_803 (by decide)))
  have kn_823 : (sA (sF g_806 h 59 (.ref q_788)) q_807 52 5).2.1 h 39 = .ref q_367 := ((congrFun (sA_g h (ne0 r_789 o_q_807 (by decide))).2.1 39).trans (sF_k kn_804 (by decide)))
  have kn_824 : (sA (sF g_806 h 59 (.ref q_788)) q_807 52 5).2.1 h 40 = .ref q_380 := ((congrFun (sA_g h (ne0 r_789 o_q_807 (by decide))).2.1 40).trans (sF_k kn_805 (by decide)))
  generalize (sA (sF g_806 h 59 (.ref q_788)) q_807 52 5) = g_825 at hT hI hM hE r_808 r_809 r_810 r_811 r_812 r_813 n_814 n_815 n_816 n_817 n_818 kn_819 kn_820 kn_821 kn_822 kn_823 kn_824 hP zP zN
  refine W.widen (k := 47) (n := 4225) (Nat.le_of_ble_eq_true rfl) (Nat.le_of_ble_eq_true rfl) ?_
  refine t_put0 (ci := 7) (v := .ref q_807) hB hT (ro_ci r_808 rfl) (ro_n0 r_808 (by decide)) rfl 61 (by decide) k_806 (Or.inr ⟨hin, rfl⟩) rfl rfl dX7_init_532 (fun H locs hT => ?_)
  have hI : Inv (sF g_825 h 61 (.ref q_807)) := hI.sF (fk r_808 (show fsm _ _ ft from trivial))
  have hM : Sm md_k_Model g (sF g_825 h 61 (.ref q_807)) := hM.tr hE (Sm_sF (by rw [r_808]; rfl))
  have hE : Ex g (sF g_825 h 61 (.ref q_807)) := hE
  have hP : PF [61, 59, 58, 57, 56, 55, 54, 53, 48, 47, 46, 45, 44, 43, 42, 41, 40, 39, 35, 33, 32, 31, 28, 27, 26, 25, 23, 20, 19, 18, 17, 16, 15, 14, 13, 12, 11, 10, 9, 8, 7, 6, 5, 4, 3, 2, 1, 60, 52, 51, 50, 49, 38, 37, 36, 34, 30, 29, 24, 22, 21, 0] (sF g_825 h 61 (.ref q_807)) h := hP.put (q_8_61 (⟨_, rfl, r_813, n_818⟩))
  have zP : ZC (sF g_825 h 61 (.ref q_807)) q_15 := zP
  have zN : ZC (sF g_825 h 61 (.ref q_807)) q_380 := zN
  refine lv_aload_n hx hb dX7_init_535 rfl (lv_at hl 0 rfl) ?_
  refine lv_sipush (v := 624) hx hb dX7_init_536 (by decide) ?_
  refine t_newi (N' := 624) hB hT 50 (by decide) k_101 (by decide) (by decide) (by decide) (Nat.le_of_ble_eq_true rfl) (Nat.le_of_ble_eq_true rfl) dX7_init_539 (fun q_826 H o_q_826 hT => ?_)
  have z_q_826 : g.1 q_826 = 0 := hE.z0 o_q_826
  have hI : Inv (sA (sF g_825 h 61 (.ref q_807)) q_826 50 624) := hI.newi o_q_826 (by decide) (fun _ => rfl) trivial (fun _ => trivial)
  have hM : Sm md_k_Model g (sA (sF g_825 h 61 (.ref q_807)) q_826 50 624) := hM.tr hE (Sm.push o_q_826 sA_g)
  have hE : Ex g (sA (sF g_825 h 61 (.ref q_807)) q_826 50 624) := hE.tr (Ex.push o_q_826 sA_g)
  have hP : PF [61, 59, 58, 57, 56, 55, 54, 53, 48, 47, 46, 45, 44, 43, 42, 41, 40, 39, 35, 33, 32, 31, 28, 27, 26, 25, 23, 20, 19, 18, 17, 16, 15, 14, 13, 12, 11, 10, 9, 8, 7, 6, 5, 4, 3, 2, 1, 60, 52, 51, 50, 49, 38, 37, 36, 34, 30, 29, 24, 22, 21, 0] (sA (sF g_825 h 61 (.ref q_807)) q_826 50 624) h := hP.pu (Ex.push o_q_826 sA_g) (sA_g h (ne0 r_808 o_q_826 (by decide))).2.1
  have zP : ZC (sA (sF g_825 h 61 (.ref q_807)) q_826 50 624) q_15 := zP.pu (sA_g q_15 (ne0 r_810 o_q_826 (by decide))).2.2.2.1
  have zN : ZC (sA (sF g_825 h 61 (.ref q_807)) q_826 50 624) q_380 := zN.pu (sA_g q_380 (ne0 r_812 o_q_826 (by decide))).2.2.2.1
  have r_827 : (sA (sF g_825 h 61 (.ref q_807)) q_826 50 624).1 h = 18 := ((sA_g h (ne0 r_808 o_q_826 (by decide))).1.trans r_808)
  have r_828 : (sA (sF g_825 h 61 (.ref q_807)) q_826 50 624).1 q_8 = 71 := ((sA_g q_8 (ne0 r_809 o_q_826 (by decide))).1.trans r_809)
  have r_829 : (sA (sF g_825 h 61 (.ref q_807)) q_826 50 624).1 q_15 = 72 := ((sA_g q_15 (ne0 r_810 o_q_826 (by decide))).1.trans r_810)
  have r_830 : (sA (sF g_825 h 61 (.ref q_807)) q_826 50 624).1 q_367 = 84 := ((sA_g q_367 (ne0 r_811 o_q_826 (by decide))).1.trans r_811)
  have r_831 : (sA (sF g_825 h 61 (.ref q_807)) q_826 50 624).1 q_380 = 85 := ((sA_g q_380 (ne0 r_812 o_q_826 (by decide))).1.trans r_812)
  have r_832 : (sA (sF g_825 h 61 (.ref q_807)) q_826 50 624).1 q_826 = 50 := sA_r
  have n_833 : (sA (sF g_825 h 61 (.ref q_807)) q_826 50 624).2.2.1 q_8 = 48 := ((sA_g q_8 (ne0 r_809 o_q_826 (by decide))).2.2.1.trans n_814)
  have n_834 : (sA (sF g_825 h 61 (.ref q_807)) q_826 50 624).2.2.1 q_15 = 48 := ((sA_g q_15 (ne0 r_810 o_q_826 (by decide))).2.2.1.trans n_815)
  have n_835 : (sA (sF g_825 h 61 (.ref q_807)) q_826 50 624).2.2.1 q_367 = 8 := ((sA_g q_367 (ne0 r_811 o_q_826 (by decide))).2.2.1.trans n_816)
  have n_836 : (sA (sF g_825 h 61 (.ref q_807)) q_826 50 624).2.2.1 q_380 = 8 := ((sA_g q_380 (ne0 r_812 o_q_826 (by decide))).2.2.1.trans n_817)
  have n_837 : (sA (sF g_825 h 61 (.ref q_807)) q_826 50 624).2.2.1 q_826 = 624 := sA_n
  have kn_838 : (sA (sF g_825 h 61 (.ref q_807)) q_826 50 624).2.1 h 22 = .int 0 := ((congrFun (sA_g h (ne0 r_808 o_q_826 (by decide))).2.1 22).trans (sF_k kn_819 (by decide)))
  have kn_839 : (sA (sF g_825 h 61 (.ref q_807)) q_826 50 624).2.1 h 34 = .int 0 := ((congrFun (sA_g h (ne0 r_808 o_q_826 (by decide))).2.1 34).trans (sF_k kn_820 (by decide)))
  have kn_840 : (sA (sF g_825 h 61 (.ref q_807)) q_826 50 624).2.1 h 2 = .ref q_8 := ((congrFun (sA_g h (ne0 r_808 o_q_826 (by decide))).2.1 2).trans (sF_k kn_821 (by decide)))
  have kn_841 : (sA (sF g_825 h 61 (.ref q_807)) q_826 50 624).2.1 h 3 = .ref q_15 := ((congrFun (sA_g h (ne0 r_808 o_q_826 (by decide))).2.1 3).trans (sF_k kn_822 (by decide)))
  have kn_842 : (sA (sF g_825 h 61 (.ref q_807)) q_826 50 624).2.1 h 39 = .ref q_367 := ((congrFun (sA_g h (ne0 r_808 o_q_826 (by decide))).2.1 39).trans (sF_k kn_823 (by decide)))
  have kn_843 : (sA (sF g_825 h 61 (.ref q_807)) q_826 50 624).2.1 h 40 = .ref q_380 := ((congrFun (sA_g h (ne0 r_808 o_q_826 (by decide))).2.1 40).trans (sF_k kn_824 (by decide)))
  generalize (sA (sF g_825 h 61 (.ref q_807)) q_826 50 624) = g_844 at hT hI hM hE r_827 r_828 r_829 r_830 r_831 r_832 n_833 n_834 n_835 n_836 n_837 kn_838 kn_839 kn_840 kn_841 kn_842 kn_843 hP zP zN
  refine W.widen (k := 48) (n := 4849) (Nat.le_of_ble_eq_true rfl) (Nat.le_of_ble_eq_true rfl) ?_
  refine t_put0 (ci := 7) (v := .ref q_826) hB hT (ro_ci r_827 rfl) (ro_n0 r_827 (by decide)) rfl 62 (by decide) k_807 (Or.inr ⟨hin, rfl⟩) rfl rfl dX7_init_541 (fun H locs hT => ?_)
  have hI : Inv (sF g_844 h 62 (.ref q_826)) := hI.sF (fk r_827 (show fsm _ _ ft from trivial))
  have hM : Sm md_k_Model g (sF g_844 h 62 (.ref q_826)) := hM.tr hE (Sm_sF (by rw [r_827]; rfl))
  have hE : Ex g (sF g_844 h 62 (.ref q_826)) := hE
  have hP : PF [62, 61, 59, 58, 57, 56, 55, 54, 53, 48, 47, 46, 45, 44, 43, 42, 41, 40, 39, 35, 33, 32, 31, 28, 27, 26, 25, 23, 20, 19, 18, 17, 16, 15, 14, 13, 12, 11, 10, 9, 8, 7, 6, 5, 4, 3, 2, 1, 60, 52, 51, 50, 49, 38, 37, 36, 34, 30, 29, 24, 22, 21, 0] (sF g_844 h 62 (.ref q_826)) h := hP.put (q_8_62 (⟨_, rfl, r_832, n_837⟩))
  have zP : ZC (sF g_844 h 62 (.ref q_826)) q_15 := zP
  have zN : ZC (sF g_844 h 62 (.ref q_826)) q_380 := zN
  refine lv_aload_n hx hb dX7_init_544 rfl (lv_at hl 0 rfl) ?_
  refine lv_sipush (v := 24000) hx hb dX7_init_545 (by decide) ?_
  refine t_newi (N' := 24000) hB hT 50 (by decide) k_101 (by decide) (by decide) (by decide) (Nat.le_of_ble_eq_true rfl) (Nat.le_of_ble_eq_true rfl) dX7_init_548 (fun q_845 H o_q_845 hT => ?_)
  have z_q_845 : g.1 q_845 = 0 := hE.z0 o_q_845
  have hI : Inv (sA (sF g_844 h 62 (.ref q_826)) q_845 50 24000) := hI.newi o_q_845 (by decide) (fun _ => rfl) trivial (fun _ => trivial)
  have hM : Sm md_k_Model g (sA (sF g_844 h 62 (.ref q_826)) q_845 50 24000) := hM.tr hE (Sm.push o_q_845 sA_g)
  have hE : Ex g (sA (sF g_844 h 62 (.ref q_826)) q_845 50 24000) := hE.tr (Ex.push o_q_845 sA_g)
  have hP : PF [62, 61, 59, 58, 57, 56, 55, 54, 53, 48, 47, 46, 45, 44, 43, 42, 41, 40, 39, 35, 33, 32, 31, 28, 27, 26, 25, 23, 20, 19, 18, 17, 16, 15, 14, 13, 12, 11, 10, 9, 8, 7, 6, 5, 4, 3, 2, 1, 60, 52, 51, 50, 49, 38, 37, 36, 34, 30, 29, 24, 22, 21, 0] (sA (sF g_844 h 62 (.ref q_826)) q_845 50 24000) h := hP.pu (Ex.push o_q_845 sA_g) (sA_g h (ne0 r_827 o_q_845 (by decide))).2.1
  have zP : ZC (sA (sF g_844 h 62 (.ref q_826)) q_845 50 24000) q_15 := zP.pu (sA_g q_15 (ne0 r_829 o_q_845 (by decide))).2.2.2.1
  have zN : ZC (sA (sF g_844 h 62 (.ref q_826)) q_845 50 24000) q_380 := zN.pu (sA_g q_380 (ne0 r_831 o_q_845 (by decide))).2.2.2.1
  have r_846 : (sA (sF g_844 h 62 (.ref q_826)) q_845 50 24000).1 h = 18 := ((sA_g h (ne0 r_827 o_q_845 (by decide))).1.trans r_827)
  have r_847 : (sA (sF g_844 h 62 (.ref q_826)) q_845 50 24000).1 q_8 = 71 := ((sA_g q_8 (ne0 r_828 o_q_845 (by decide))).1.trans r_828)
  have r_848 : (sA (sF g_844 h 62 (.ref q_826)) q_845 50 24000).1 q_15 = 72 := ((sA_g q_15 (ne0 r_829 o_q_845 (by decide))).1.trans r_829)
  have r_849 : (sA (sF g_844 h 62 (.ref q_826)) q_845 50 24000).1 q_367 = 84 := ((sA_g q_367 (ne0 r_830 o_q_845 (by decide))).1.trans r_830)
  have r_850 : (sA (sF g_844 h 62 (.ref q_826)) q_845 50 24000).1 q_380 = 85 := ((sA_g q_380 (ne0 r_831 o_q_845 (by decide))).1.trans r_831)
  have r_851 : (sA (sF g_844 h 62 (.ref q_826)) q_845 50 24000).1 q_845 = 50 := sA_r
  have n_852 : (sA (sF g_844 h 62 (.ref q_826)) q_845 50 24000).2.2.1 q_8 = 48 := ((sA_g q_8 (ne0 r_828 o_q_845 (by decide))).2.2.1.trans n_833)
  have n_853 : (sA (sF g_844 h 62 (.ref q_826)) q_845 50 24000).2.2.1 q_15 = 48 := ((sA_g q_15 (ne0 r_829 o_q_845 (by decide))).2.2.1.trans n_834)
  have n_854 : (sA (sF g_844 h 62 (.ref q_826)) q_845 50 24000).2.2.1 q_367 = 8 := ((sA_g q_367 (ne0 r_830 o_q_845 (by decide))).2.2.1.trans n_835)
  have n_855 : (sA (sF g_844 h 62 (.ref q_826)) q_845 50 24000).2.2.1 q_380 = 8 := ((sA_g q_380 (ne0 r_831 o_q_845 (by decide))).2.2.1.trans n_836)
  have n_856 : (sA (sF g_844 h 62 (.ref q_826)) q_845 50 24000).2.2.1 q_845 = 24000 := sA_n
  have kn_857 : (sA (sF g_844 h 62 (.ref q_826)) q_845 50 24000).2.1 h 22 = .int 0 := ((congrFun (sA_g h (ne0 r_827 o_q_845 (by decide))).2.1 22).trans (sF_k kn_838 (by decide)))
  have kn_858 : (sA (sF g_844 h 62 (.ref q_826)) q_845 50 24000).2.1 h 34 = .int 0 := ((congrFun (sA_g h (ne0 r_827 o_q_845 (by decide))).2.1 34).trans (sF_k kn_839 (by decide)))
  have kn_859 : (sA (sF g_844 h 62 (.ref q_826)) q_845 50 24000).2.1 h 2 = .ref q_8 := ((congrFun (sA_g h (ne0 r_827 o_q_845 (by decide))).2.1 2).trans (sF_k kn_840 (by decide)))
  have kn_860 : (sA (sF g_844 h 62 (.ref q_826)) q_845 50 24000).2.1 h 3 = .ref q_15 := ((congrFun (sA_g h (ne0 r_827 o_q_845 (by decide))).2.1 3).trans (sF_k kn_841 (by decide)))
  have kn_861 : (sA (sF g_844 h 62 (.ref q_826)) q_845 50 24000).2.1 h 39 = .ref q_367 := ((congrFun (sA_g h (ne0 r_827 o_q_845 (by decide))).2.1 39).trans (sF_k kn_842 (by decide)))
  have kn_862 : (sA (sF g_844 h 62 (.ref q_826)) q_845 50 24000).2.1 h 40 = .ref q_380 := ((congrFun (sA_g h (ne0 r_827 o_q_845 (by decide))).2.1 40).trans (sF_k kn_843 (by decide)))
  generalize (sA (sF g_844 h 62 (.ref q_826)) q_845 50 24000) = g_863 at hT hI hM hE r_846 r_847 r_848 r_849 r_850 r_851 n_852 n_853 n_854 n_855 n_856 kn_857 kn_858 kn_859 kn_860 kn_861 kn_862 hP zP zN
  refine W.widen (k := 49) (n := 28849) (Nat.le_of_ble_eq_true rfl) (Nat.le_of_ble_eq_true rfl) ?_
  refine t_put0 (ci := 7) (v := .ref q_845) hB hT (ro_ci r_846 rfl) (ro_n0 r_846 (by decide)) rfl 63 (by decide) k_808 (Or.inr ⟨hin, rfl⟩) rfl rfl dX7_init_550 (fun H locs hT => ?_)
  have hI : Inv (sF g_863 h 63 (.ref q_845)) := hI.sF (fk r_846 (show fsm _ _ ft from trivial))
  have hM : Sm md_k_Model g (sF g_863 h 63 (.ref q_845)) := hM.tr hE (Sm_sF (by rw [r_846]; rfl))
  have hE : Ex g (sF g_863 h 63 (.ref q_845)) := hE
  have hP : PF [63, 62, 61, 59, 58, 57, 56, 55, 54, 53, 48, 47, 46, 45, 44, 43, 42, 41, 40, 39, 35, 33, 32, 31, 28, 27, 26, 25, 23, 20, 19, 18, 17, 16, 15, 14, 13, 12, 11, 10, 9, 8, 7, 6, 5, 4, 3, 2, 1, 60, 52, 51, 50, 49, 38, 37, 36, 34, 30, 29, 24, 22, 21, 0] (sF g_863 h 63 (.ref q_845)) h := hP.put (q_8_63 (⟨_, rfl, r_851, n_856⟩))
  have zP : ZC (sF g_863 h 63 (.ref q_845)) q_15 := zP
  have zN : ZC (sF g_863 h 63 (.ref q_845)) q_380 := zN
  refine lv_aload_n hx hb dX7_init_553 rfl (lv_at hl 0 rfl) ?_
  refine lv_sipush (v := 1000) hx hb dX7_init_554 (by decide) ?_
  refine t_newi (N' := 1000) hB hT 50 (by decide) k_101 (by decide) (by decide) (by decide) (Nat.le_of_ble_eq_true rfl) (Nat.le_of_ble_eq_true rfl) dX7_init_557 (fun q_864 H o_q_864 hT => ?_)
  have z_q_864 : g.1 q_864 = 0 := hE.z0 o_q_864
  have hI : Inv (sA (sF g_863 h 63 (.ref q_845)) q_864 50 1000) := hI.newi o_q_864 (by decide) (fun _ => rfl) trivial (fun _ => trivial)
  have hM : Sm md_k_Model g (sA (sF g_863 h 63 (.ref q_845)) q_864 50 1000) := hM.tr hE (Sm.push o_q_864 sA_g)
  have hE : Ex g (sA (sF g_863 h 63 (.ref q_845)) q_864 50 1000) := hE.tr (Ex.push o_q_864 sA_g)
  have hP : PF [63, 62, 61, 59, 58, 57, 56, 55, 54, 53, 48, 47, 46, 45, 44, 43, 42, 41, 40, 39, 35, 33, 32, 31, 28, 27, 26, 25, 23, 20, 19, 18, 17, 16, 15, 14, 13, 12, 11, 10, 9, 8, 7, 6, 5, 4, 3, 2, 1, 60, 52, 51, 50, 49, 38, 37, 36, 34, 30, 29, 24, 22, 21, 0] (sA (sF g_863 h 63 (.ref q_845)) q_864 50 1000) h := hP.pu (Ex.push o_q_864 sA_g) (sA_g h (ne0 r_846 o_q_864 (by decide))).2.1
  have zP : ZC (sA (sF g_863 h 63 (.ref q_845)) q_864 50 1000) q_15 := zP.pu (sA_g q_15 (ne0 r_848 o_q_864 (by decide))).2.2.2.1
  have zN : ZC (sA (sF g_863 h 63 (.ref q_845)) q_864 50 1000) q_380 := zN.pu (sA_g q_380 (ne0 r_850 o_q_864 (by decide))).2.2.2.1
  have r_865 : (sA (sF g_863 h 63 (.ref q_845)) q_864 50 1000).1 h = 18 := ((sA_g h (ne0 r_846 o_q_864 (by decide))).1.trans r_846)
  have r_866 : (sA (sF g_863 h 63 (.ref q_845)) q_864 50 1000).1 q_8 = 71 := ((sA_g q_8 (ne0 r_847 o_q_864 (by decide))).1.trans r_847)
  have r_867 : (sA (sF g_863 h 63 (.ref q_845)) q_864 50 1000).1 q_15 = 72 := ((sA_g q_15 (ne0 r_848 o_q_864 (by decide))).1.trans r_848)
  have r_868 : (sA (sF g_863 h 63 (.ref q_845)) q_864 50 1000).1 q_367 = 84 := ((sA_g q_367 (ne0 r_849 o_q_864 (by decide))).1.trans r_849)
  have r_869 : (sA (sF g_863 h 63 (.ref q_845)) q_864 50 1000).1 q_380 = 85 := ((sA_g q_380 (ne0 r_850 o_q_864 (by decide))).1.trans r_850)
  have r_870 : (sA (sF g_863 h 63 (.ref q_845)) q_864 50 1000).1 q_864 = 50 := sA_r
  have n_871 : (sA (sF g_863 h 63 (.ref q_845)) q_864 50 1000).2.2.1 q_8 = 48 := ((sA_g q_8 (ne0 r_847 o_q_864 (by decide))).2.2.1.trans n_852)
  have n_872 : (sA (sF g_863 h 63 (.ref q_845)) q_864 50 1000).2.2.1 q_15 = 48 := ((sA_g q_15 (ne0 r_848 o_q_864 (by decide))).2.2.1.trans n_853)
  have n_873 : (sA (sF g_863 h 63 (.ref q_845)) q_864 50 1000).2.2.1 q_367 = 8 := ((sA_g q_367 (ne0 r_849 o_q_864 (by decide))).2.2.1.trans n_854)
  have n_874 : (sA (sF g_863 h 63 (.ref q_845)) q_864 50 1000).2.2.1 q_380 = 8 := ((sA_g q_380 (ne0 r_850 o_q_864 (by decide))).2.2.1.trans n_855)
  have n_875 : (sA (sF g_863 h 63 (.ref q_845)) q_864 50 1000).2.2.1 q_864 = 1000 := sA_n
  have kn_876 : (sA (sF g_863 h 63 (.ref q_845)) q_864 50 1000).2.1 h 22 = .int 0 := ((congrFun (sA_g h (ne0 r_846 o_q_864 (by decide))).2.1 22).trans (sF_k kn_857 (by decide)))
  have kn_877 : (sA (sF g_863 h 63 (.ref q_845)) q_864 50 1000).2.1 h 34 = .int 0 := ((congrFun (sA_g h (ne0 r_846 o_q_864 (by decide))).2.1 34).trans (sF_k kn_858 (by decide)))
  have kn_878 : (sA (sF g_863 h 63 (.ref q_845)) q_864 50 1000).2.1 h 2 = .ref q_8 := ((congrFun (sA_g h (ne0 r_846 o_q_864 (by decide))).2.1 2).trans (sF_k kn_859 (by decide)))
  have kn_879 : (sA (sF g_863 h 63 (.ref q_845)) q_864 50 1000).2.1 h 3 = .ref q_15 := ((congrFun (sA_g h (ne0 r_846 o_q_864 (by decide))).2.1 3).trans (sF_k kn_860 (by decide)))
  have kn_880 : (sA (sF g_863 h 63 (.ref q_845)) q_864 50 1000).2.1 h 39 = .ref q_367 := ((congrFun (sA_g h (ne0 r_846 o_q_864 (by decide))).2.1 39).trans (sF_k kn_861 (by decide)))
  have kn_881 : (sA (sF g_863 h 63 (.ref q_845)) q_864 50 1000).2.1 h 40 = .ref q_380 := ((congrFun (sA_g h (ne0 r_846 o_q_864 (by decide))).2.1 40).trans (sF_k kn_862 (by decide)))
  generalize (sA (sF g_863 h 63 (.ref q_845)) q_864 50 1000) = g_882 at hT hI hM hE r_865 r_866 r_867 r_868 r_869 r_870 n_871 n_872 n_873 n_874 n_875 kn_876 kn_877 kn_878 kn_879 kn_880 kn_881 hP zP zN
  refine W.widen (k := 50) (n := 29849) (Nat.le_of_ble_eq_true rfl) (Nat.le_of_ble_eq_true rfl) ?_
  refine t_put0 (ci := 7) (v := .ref q_864) hB hT (ro_ci r_865 rfl) (ro_n0 r_865 (by decide)) rfl 64 (by decide) k_809 (Or.inr ⟨hin, rfl⟩) rfl rfl dX7_init_559 (fun H locs hT => ?_)
  have hI : Inv (sF g_882 h 64 (.ref q_864)) := hI.sF (fk r_865 (show fsm _ _ ft from trivial))
  have hM : Sm md_k_Model g (sF g_882 h 64 (.ref q_864)) := hM.tr hE (Sm_sF (by rw [r_865]; rfl))
  have hE : Ex g (sF g_882 h 64 (.ref q_864)) := hE
  have hP : PF [64, 63, 62, 61, 59, 58, 57, 56, 55, 54, 53, 48, 47, 46, 45, 44, 43, 42, 41, 40, 39, 35, 33, 32, 31, 28, 27, 26, 25, 23, 20, 19, 18, 17, 16, 15, 14, 13, 12, 11, 10, 9, 8, 7, 6, 5, 4, 3, 2, 1, 60, 52, 51, 50, 49, 38, 37, 36, 34, 30, 29, 24, 22, 21, 0] (sF g_882 h 64 (.ref q_864)) h := hP.put (q_8_64 (⟨_, rfl, r_870, n_875⟩))
  have zP : ZC (sF g_882 h 64 (.ref q_864)) q_15 := zP
  have zN : ZC (sF g_882 h 64 (.ref q_864)) q_380 := zN
  refine lv_aload_n hx hb dX7_init_562 rfl (lv_at hl 0 rfl) ?_
  refine lv_bipush (v := 6) hx hb dX7_init_563 (by decide) ?_
  refine t_newi (N' := 6) hB hT 50 (by decide) k_101 (by decide) (by decide) (by decide) (Nat.le_of_ble_eq_true rfl) (Nat.le_of_ble_eq_true rfl) dX7_init_565 (fun q_883 H o_q_883 hT => ?_)
  have z_q_883 : g.1 q_883 = 0 := hE.z0 o_q_883
  have hI : Inv (sA (sF g_882 h 64 (.ref q_864)) q_883 50 6) := hI.newi o_q_883 (by decide) (fun _ => rfl) trivial (fun _ => trivial)
  have hM : Sm md_k_Model g (sA (sF g_882 h 64 (.ref q_864)) q_883 50 6) := hM.tr hE (Sm.push o_q_883 sA_g)
  have hE : Ex g (sA (sF g_882 h 64 (.ref q_864)) q_883 50 6) := hE.tr (Ex.push o_q_883 sA_g)
  have hP : PF [64, 63, 62, 61, 59, 58, 57, 56, 55, 54, 53, 48, 47, 46, 45, 44, 43, 42, 41, 40, 39, 35, 33, 32, 31, 28, 27, 26, 25, 23, 20, 19, 18, 17, 16, 15, 14, 13, 12, 11, 10, 9, 8, 7, 6, 5, 4, 3, 2, 1, 60, 52, 51, 50, 49, 38, 37, 36, 34, 30, 29, 24, 22, 21, 0] (sA (sF g_882 h 64 (.ref q_864)) q_883 50 6) h := hP.pu (Ex.push o_q_883 sA_g) (sA_g h (ne0 r_865 o_q_883 (by decide))).2.1
  have zP : ZC (sA (sF g_882 h 64 (.ref q_864)) q_883 50 6) q_15 := zP.pu (sA_g q_15 (ne0 r_867 o_q_883 (by decide))).2.2.2.1
  have zN : ZC (sA (sF g_882 h 64 (.ref q_864)) q_883 50 6) q_380 := zN.pu (sA_g q_380 (ne0 r_869 o_q_883 (by decide))).2.2.2.1
  have r_884 : (sA (sF g_882 h 64 (.ref q_864)) q_883 50 6).1 h = 18 := ((sA_g h (ne0 r_865 o_q_883 (by decide))).1.trans r_865)
  have r_885 : (sA (sF g_882 h 64 (.ref q_864)) q_883 50 6).1 q_8 = 71 := ((sA_g q_8 (ne0 r_866 o_q_883 (by decide))).1.trans r_866)
  have r_886 : (sA (sF g_882 h 64 (.ref q_864)) q_883 50 6).1 q_15 = 72 := ((sA_g q_15 (ne0 r_867 o_q_883 (by decide))).1.trans r_867)
  have r_887 : (sA (sF g_882 h 64 (.ref q_864)) q_883 50 6).1 q_367 = 84 := ((sA_g q_367 (ne0 r_868 o_q_883 (by decide))).1.trans r_868)
  have r_888 : (sA (sF g_882 h 64 (.ref q_864)) q_883 50 6).1 q_380 = 85 := ((sA_g q_380 (ne0 r_869 o_q_883 (by decide))).1.trans r_869)
  have r_889 : (sA (sF g_882 h 64 (.ref q_864)) q_883 50 6).1 q_883 = 50 := sA_r
  have n_890 : (sA (sF g_882 h 64 (.ref q_864)) q_883 50 6).2.2.1 q_8 = 48 := ((sA_g q_8 (ne0 r_866 o_q_883 (by decide))).2.2.1.trans n_871)
  have n_891 : (sA (sF g_882 h 64 (.ref q_864)) q_883 50 6).2.2.1 q_15 = 48 := ((sA_g q_15 (ne0 r_867 o_q_883 (by decide))).2.2.1.trans n_872)
  have n_892 : (sA (sF g_882 h 64 (.ref q_864)) q_883 50 6).2.2.1 q_367 = 8 := ((sA_g q_367 (ne0 r_868 o_q_883 (by decide))).2.2.1.trans n_873)
  have n_893 : (sA (sF g_882 h 64 (.ref q_864)) q_883 50 6).2.2.1 q_380 = 8 := ((sA_g q_380 (ne0 r_869 o_q_883 (by decide))).2.2.1.trans n_874)
  have n_894 : (sA (sF g_882 h 64 (.ref q_864)) q_883 50 6).2.2.1 q_883 = 6 := sA_n
  have kn_895 : (sA (sF g_882 h 64 (.ref q_864)) q_883 50 6).2.1 h 22 = .int 0 := ((congrFun (sA_g h (ne0 r_865 o_q_883 (by decide))).2.1 22).trans (sF_k kn_876 (by decide)))
  have kn_896 : (sA (sF g_882 h 64 (.ref q_864)) q_883 50 6).2.1 h 34 = .int 0 := ((congrFun (sA_g h (ne0 r_865 o_q_883 (by decide))).2.1 34).trans (sF_k kn_877 (by decide)))
  have kn_897 : (sA (sF g_882 h 64 (.ref q_864)) q_883 50 6).2.1 h 2 = .ref q_8 := ((congrFun (sA_g h (ne0 r_865 o_q_883 (by decide))).2.1 2).trans (sF_k kn_878 (by decide)))
  have kn_898 : (sA (sF g_882 h 64 (.ref q_864)) q_883 50 6).2.1 h 3 = .ref q_15 := ((congrFun (sA_g h (ne0 r_865 o_q_883 (by decide))).2.1 3).trans (sF_k kn_879 (by decide)))
  have kn_899 : (sA (sF g_882 h 64 (.ref q_864)) q_883 50 6).2.1 h 39 = .ref q_367 := ((congrFun (sA_g h (ne0 r_865 o_q_883 (by decide))).2.1 39).trans (sF_k kn_880 (by decide)))
  have kn_900 : (sA (sF g_882 h 64 (.ref q_864)) q_883 50 6).2.1 h 40 = .ref q_380 := ((congrFun (sA_g h (ne0 r_865 o_q_883 (by decide))).2.1 40).trans (sF_k kn_881 (by decide)))
  generalize (sA (sF g_882 h 64 (.ref q_864)) q_883 50 6) = g_901 at hT hI hM hE r_884 r_885 r_886 r_887 r_888 r_889 n_890 n_891 n_892 n_893 n_894 kn_895 kn_896 kn_897 kn_898 kn_899 kn_900 hP zP zN
  refine W.widen (k := 51) (n := 29855) (Nat.le_of_ble_eq_true rfl) (Nat.le_of_ble_eq_true rfl) ?_
  refine t_put0 (ci := 7) (v := .ref q_883) hB hT (ro_ci r_884 rfl) (ro_n0 r_884 (by decide)) rfl 65 (by decide) k_810 (Or.inr ⟨hin, rfl⟩) rfl rfl dX7_init_567 (fun H locs hT => ?_)
  have hI : Inv (sF g_901 h 65 (.ref q_883)) := hI.sF (fk r_884 (show fsm _ _ ft from trivial))
  have hM : Sm md_k_Model g (sF g_901 h 65 (.ref q_883)) := hM.tr hE (Sm_sF (by rw [r_884]; rfl))
  have hE : Ex g (sF g_901 h 65 (.ref q_883)) := hE
  have hP : PF [65, 64, 63, 62, 61, 59, 58, 57, 56, 55, 54, 53, 48, 47, 46, 45, 44, 43, 42, 41, 40, 39, 35, 33, 32, 31, 28, 27, 26, 25, 23, 20, 19, 18, 17, 16, 15, 14, 13, 12, 11, 10, 9, 8, 7, 6, 5, 4, 3, 2, 1, 60, 52, 51, 50, 49, 38, 37, 36, 34, 30, 29, 24, 22, 21, 0] (sF g_901 h 65 (.ref q_883)) h := hP.put (q_8_65 (⟨_, rfl, r_889, n_894⟩))
  have zP : ZC (sF g_901 h 65 (.ref q_883)) q_15 := zP
  have zN : ZC (sF g_901 h 65 (.ref q_883)) q_380 := zN
  refine lv_aload_n hx hb dX7_init_570 rfl (lv_at hl 0 rfl) ?_
  refine lv_bipush (v := 6) hx hb dX7_init_571 (by decide) ?_
  refine t_newi (N' := 6) hB hT 50 (by decide) k_101 (by decide) (by decide) (by decide) (Nat.le_of_ble_eq_true rfl) (Nat.le_of_ble_eq_true rfl) dX7_init_573 (fun q_902 H o_q_902 hT => ?_)
  have z_q_902 : g.1 q_902 = 0 := hE.z0 o_q_902
  have hI : Inv (sA (sF g_901 h 65 (.ref q_883)) q_902 50 6) := hI.newi o_q_902 (by decide) (fun _ => rfl) trivial (fun _ => trivial)
  have hM : Sm md_k_Model g (sA (sF g_901 h 65 (.ref q_883)) q_902 50 6) := hM.tr hE (Sm.push o_q_902 sA_g)
  have hE : Ex g (sA (sF g_901 h 65 (.ref q_883)) q_902 50 6) := hE.tr (Ex.push o_q_902 sA_g)
  have hP : PF [65, 64, 63, 62, 61, 59, 58, 57, 56, 55, 54, 53, 48, 47, 46, 45, 44, 43, 42, 41, 40, 39, 35, 33, 32, 31, 28, 27, 26, 25, 23, 20, 19, 18, 17, 16, 15, 14, 13, 12, 11, 10, 9, 8, 7, 6, 5, 4, 3, 2, 1, 60, 52, 51, 50, 49, 38, 37, 36, 34, 30, 29, 24, 22, 21, 0] (sA (sF g_901 h 65 (.ref q_883)) q_902 50 6) h := hP.pu (Ex.push o_q_902 sA_g) (sA_g h (ne0 r_884 o_q_902 (by decide))).2.1
  have zP : ZC (sA (sF g_901 h 65 (.ref q_883)) q_902 50 6) q_15 := zP.pu (sA_g q_15 (ne0 r_886 o_q_902 (by decide))).2.2.2.1
  have zN : ZC (sA (sF g_901 h 65 (.ref q_883)) q_902 50 6) q_380 := zN.pu (sA_g q_380 (ne0 r_888 o_q_902 (by decide))).2.2.2.1
  have r_903 : (sA (sF g_901 h 65 (.ref q_883)) q_902 50 6).1 h = 18 := ((sA_g h (ne0 r_884 o_q_902 (by decide))).1.trans r_884)
  have r_904 : (sA (sF g_901 h 65 (.ref q_883)) q_902 50 6).1 q_8 = 71 := ((sA_g q_8 (ne0 r_885 o_q_902 (by decide))).1.trans r_885)
  have r_905 : (sA (sF g_901 h 65 (.ref q_883)) q_902 50 6).1 q_15 = 72 := ((sA_g q_15 (ne0 r_886 o_q_902 (by decide))).1.trans r_886)
  have r_906 : (sA (sF g_901 h 65 (.ref q_883)) q_902 50 6).1 q_367 = 84 := ((sA_g q_367 (ne0 r_887 o_q_902 (by decide))).1.trans r_887)
  have r_907 : (sA (sF g_901 h 65 (.ref q_883)) q_902 50 6).1 q_380 = 85 := ((sA_g q_380 (ne0 r_888 o_q_902 (by decide))).1.trans r_888)
  have r_908 : (sA (sF g_901 h 65 (.ref q_883)) q_902 50 6).1 q_902 = 50 := sA_r
  have n_909 : (sA (sF g_901 h 65 (.ref q_883)) q_902 50 6).2.2.1 q_8 = 48 := ((sA_g q_8 (ne0 r_885 o_q_902 (by decide))).2.2.1.trans n_890)
  have n_910 : (sA (sF g_901 h 65 (.ref q_883)) q_902 50 6).2.2.1 q_15 = 48 := ((sA_g q_15 (ne0 r_886 o_q_902 (by decide))).2.2.1.trans n_891)
  have n_911 : (sA (sF g_901 h 65 (.ref q_883)) q_902 50 6).2.2.1 q_367 = 8 := ((sA_g q_367 (ne0 r_887 o_q_902 (by decide))).2.2.1.trans n_892)
  have n_912 : (sA (sF g_901 h 65 (.ref q_883)) q_902 50 6).2.2.1 q_380 = 8 := ((sA_g q_380 (ne0 r_888 o_q_902 (by decide))).2.2.1.trans n_893)
  have n_913 : (sA (sF g_901 h 65 (.ref q_883)) q_902 50 6).2.2.1 q_902 = 6 := sA_n
  have kn_914 : (sA (sF g_901 h 65 (.ref q_883)) q_902 50 6).2.1 h 22 = .int 0 := ((congrFun (sA_g h (ne0 r_884 o_q_902 (by decide))).2.1 22).trans (sF_k kn_895 (by decide)))
  have kn_915 : (sA (sF g_901 h 65 (.ref q_883)) q_902 50 6).2.1 h 34 = .int 0 := ((congrFun (sA_g h (ne0 r_884 o_q_902 (by decide))).2.1 34).trans (sF_k kn_896 (by decide)))
  have kn_916 : (sA (sF g_901 h 65 (.ref q_883)) q_902 50 6).2.1 h 2 = .ref q_8 := ((congrFun (sA_g h (ne0 r_884 o_q_902 (by decide))).2.1 2).trans (sF_k kn_897 (by decide)))
  have kn_917 : (sA (sF g_901 h 65 (.ref q_883)) q_902 50 6).2.1 h 3 = .ref q_15 := ((congrFun (sA_g h (ne0 r_884 o_q_902 (by decide))).2.1 3).trans (sF_k kn_898 (by decide)))
  have kn_918 : (sA (sF g_901 h 65 (.ref q_883)) q_902 50 6).2.1 h 39 = .ref q_367 := ((congrFun (sA_g h (ne0 r_884 o_q_902 (by decide))).2.1 39).trans (sF_k kn_899 (by decide)))
  have kn_919 : (sA (sF g_901 h 65 (.ref q_883)) q_902 50 6).2.1 h 40 = .ref q_380 := ((congrFun (sA_g h (ne0 r_884 o_q_902 (by decide))).2.1 40).trans (sF_k kn_900 (by decide)))
  generalize (sA (sF g_901 h 65 (.ref q_883)) q_902 50 6) = g_920 at hT hI hM hE r_903 r_904 r_905 r_906 r_907 r_908 n_909 n_910 n_911 n_912 n_913 kn_914 kn_915 kn_916 kn_917 kn_918 kn_919 hP zP zN
  refine W.widen (k := 52) (n := 29861) (Nat.le_of_ble_eq_true rfl) (Nat.le_of_ble_eq_true rfl) ?_
  refine t_put0 (ci := 7) (v := .ref q_902) hB hT (ro_ci r_903 rfl) (ro_n0 r_903 (by decide)) rfl 66 (by decide) k_811 (Or.inr ⟨hin, rfl⟩) rfl rfl dX7_init_575 (fun H locs hT => ?_)
  have hI : Inv (sF g_920 h 66 (.ref q_902)) := hI.sF (fk r_903 (show fsm _ _ ft from trivial))
  have hM : Sm md_k_Model g (sF g_920 h 66 (.ref q_902)) := hM.tr hE (Sm_sF (by rw [r_903]; rfl))
  have hE : Ex g (sF g_920 h 66 (.ref q_902)) := hE
  have hP : PF [66, 65, 64, 63, 62, 61, 59, 58, 57, 56, 55, 54, 53, 48, 47, 46, 45, 44, 43, 42, 41, 40, 39, 35, 33, 32, 31, 28, 27, 26, 25, 23, 20, 19, 18, 17, 16, 15, 14, 13, 12, 11, 10, 9, 8, 7, 6, 5, 4, 3, 2, 1, 60, 52, 51, 50, 49, 38, 37, 36, 34, 30, 29, 24, 22, 21, 0] (sF g_920 h 66 (.ref q_902)) h := hP.put (q_8_66 (⟨_, rfl, r_908, n_913⟩))
  have zP : ZC (sF g_920 h 66 (.ref q_902)) q_15 := zP
  have zN : ZC (sF g_920 h 66 (.ref q_902)) q_380 := zN
  have hF := PF.fin hP (by decide) r_903
  have hT : Tv D cI cZ cS cR N0 s.heap H locs (sR (sF g_920 h 66 (.ref q_902)) h 8) := ⟨hT.1.promo (by rw [r_903]; decide) (by rw [r_903]; rfl) (Or.inl (by decide)), hT.2⟩
  have hI : Inv (sR (sF g_920 h 66 (.ref q_902)) h 8) := hI.promo (by rw [r_903]; decide) hF (fun _ _ => trivial) (fun _ _ => trivial)
  have hM : Sm md_k_Model g (sR (sF g_920 h 66 (.ref q_902)) h 8) := hM
  have hX : Exx h g (sR (sF g_920 h 66 (.ref q_902)) h 8) := Exx.promo hE
  exact t_vret hB hr hT (Nat.le_of_ble_eq_true rfl) (Nat.le_of_ble_eq_true rfl) dX7_init_578 ⟨rfl, hI, hX, hM, if_pos rfl, ⟨_, _, (sF_k kn_916 (by decide)), (sF_k kn_917 (by decide)), (sR_r r_904 (ro_ne r_904 r_903 (by decide))), (sR_r r_905 (ro_ne r_905 r_903 (by decide))), n_909, n_910, zP.PL⟩, ⟨_, _, (sF_k kn_918 (by decide)), (sF_k kn_919 (by decide)), (sR_r r_906 (ro_ne r_906 r_903 (by decide))), (sR_r r_907 (ro_ne r_907 r_903 (by decide))), n_911, n_912, zN.PL⟩, (sF_k kn_914 (by decide)), (sF_k kn_915 (by decide))⟩
