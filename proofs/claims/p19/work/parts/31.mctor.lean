theorem k_744 : Cond.methodLink RX7 1 Lib.objectInit ∈ tb := mt 744 (by decide +kernel) rfl
theorem k_947 : Cond.arrayClass .boolean ∈ tb := mt 947 (by decide +kernel) rfl
theorem dX7_init_0 : decode cX7_init 0 = .ok (.aload_n 0, 1) := by decide +kernel
theorem dX7_init_1 : decode cX7_init 1 = .ok (.invokespecial 1, 3) := by decide +kernel
theorem dX7_init_4 : decode cX7_init 4 = .ok (.aload_n 0, 1) := by decide +kernel
theorem dX7_init_5 : decode cX7_init 5 = .ok (.bipush 6, 2) := by decide +kernel
theorem dX7_init_7 : decode cX7_init 7 = .ok (.newarray .int, 2) := by decide +kernel
theorem dX7_init_9 : decode cX7_init 9 = .ok (.putfield 7, 3) := by decide +kernel
theorem dX7_init_12 : decode cX7_init 12 = .ok (.aload_n 0, 1) := by decide +kernel
theorem dX7_init_13 : decode cX7_init 13 = .ok (.bipush 48, 2) := by decide +kernel
theorem dX7_init_15 : decode cX7_init 15 = .ok (.newarray .int, 2) := by decide +kernel
theorem dX7_init_17 : decode cX7_init 17 = .ok (.putfield 13, 3) := by decide +kernel
theorem dX7_init_20 : decode cX7_init 20 = .ok (.aload_n 0, 1) := by decide +kernel
theorem dX7_init_21 : decode cX7_init 21 = .ok (.bipush 48, 2) := by decide +kernel
theorem dX7_init_23 : decode cX7_init 23 = .ok (.newarray .int, 2) := by decide +kernel
theorem dX7_init_25 : decode cX7_init 25 = .ok (.putfield 16, 3) := by decide +kernel
theorem dX7_init_28 : decode cX7_init 28 = .ok (.aload_n 0, 1) := by decide +kernel
theorem dX7_init_29 : decode cX7_init 29 = .ok (.bipush 48, 2) := by decide +kernel
theorem dX7_init_31 : decode cX7_init 31 = .ok (.newarray .int, 2) := by decide +kernel
theorem dX7_init_33 : decode cX7_init 33 = .ok (.putfield 19, 3) := by decide +kernel
theorem dX7_init_36 : decode cX7_init 36 = .ok (.aload_n 0, 1) := by decide +kernel
theorem dX7_init_37 : decode cX7_init 37 = .ok (.bipush 6, 2) := by decide +kernel
theorem dX7_init_39 : decode cX7_init 39 = .ok (.newarray .int, 2) := by decide +kernel
theorem dX7_init_41 : decode cX7_init 41 = .ok (.putfield 22, 3) := by decide +kernel
theorem dX7_init_44 : decode cX7_init 44 = .ok (.aload_n 0, 1) := by decide +kernel
theorem dX7_init_45 : decode cX7_init 45 = .ok (.bipush 6, 2) := by decide +kernel
theorem dX7_init_47 : decode cX7_init 47 = .ok (.newarray .int, 2) := by decide +kernel
theorem dX7_init_49 : decode cX7_init 49 = .ok (.putfield 25, 3) := by decide +kernel
theorem dX7_init_52 : decode cX7_init 52 = .ok (.aload_n 0, 1) := by decide +kernel
theorem dX7_init_53 : decode cX7_init 53 = .ok (.bipush 48, 2) := by decide +kernel
theorem dX7_init_55 : decode cX7_init 55 = .ok (.newarray .int, 2) := by decide +kernel
theorem dX7_init_57 : decode cX7_init 57 = .ok (.putfield 28, 3) := by decide +kernel
theorem dX7_init_60 : decode cX7_init 60 = .ok (.aload_n 0, 1) := by decide +kernel
theorem dX7_init_61 : decode cX7_init 61 = .ok (.bipush 12, 2) := by decide +kernel
theorem dX7_init_63 : decode cX7_init 63 = .ok (.newarray .int, 2) := by decide +kernel
theorem dX7_init_65 : decode cX7_init 65 = .ok (.putfield 31, 3) := by decide +kernel
theorem dX7_init_68 : decode cX7_init 68 = .ok (.aload_n 0, 1) := by decide +kernel
theorem dX7_init_69 : decode cX7_init 69 = .ok (.bipush 12, 2) := by decide +kernel
theorem dX7_init_71 : decode cX7_init 71 = .ok (.newarray .int, 2) := by decide +kernel
theorem dX7_init_73 : decode cX7_init 73 = .ok (.putfield 34, 3) := by decide +kernel
theorem dX7_init_76 : decode cX7_init 76 = .ok (.aload_n 0, 1) := by decide +kernel
theorem dX7_init_77 : decode cX7_init 77 = .ok (.sipush 192, 3) := by decide +kernel
theorem dX7_init_80 : decode cX7_init 80 = .ok (.newarray .int, 2) := by decide +kernel
theorem dX7_init_82 : decode cX7_init 82 = .ok (.putfield 37, 3) := by decide +kernel
theorem dX7_init_85 : decode cX7_init 85 = .ok (.aload_n 0, 1) := by decide +kernel
theorem dX7_init_86 : decode cX7_init 86 = .ok (.sipush 192, 3) := by decide +kernel
theorem dX7_init_89 : decode cX7_init 89 = .ok (.newarray .int, 2) := by decide +kernel
theorem dX7_init_91 : decode cX7_init 91 = .ok (.putfield 40, 3) := by decide +kernel
theorem dX7_init_94 : decode cX7_init 94 = .ok (.aload_n 0, 1) := by decide +kernel
theorem dX7_init_95 : decode cX7_init 95 = .ok (.sipush 192, 3) := by decide +kernel
theorem dX7_init_98 : decode cX7_init 98 = .ok (.newarray .int, 2) := by decide +kernel
theorem dX7_init_100 : decode cX7_init 100 = .ok (.putfield 43, 3) := by decide +kernel
theorem dX7_init_103 : decode cX7_init 103 = .ok (.aload_n 0, 1) := by decide +kernel
theorem dX7_init_104 : decode cX7_init 104 = .ok (.sipush 192, 3) := by decide +kernel
theorem dX7_init_107 : decode cX7_init 107 = .ok (.newarray .int, 2) := by decide +kernel
theorem dX7_init_109 : decode cX7_init 109 = .ok (.putfield 46, 3) := by decide +kernel
theorem dX7_init_112 : decode cX7_init 112 = .ok (.aload_n 0, 1) := by decide +kernel
theorem dX7_init_113 : decode cX7_init 113 = .ok (.iconst 2, 1) := by decide +kernel
theorem dX7_init_114 : decode cX7_init 114 = .ok (.newarray .int, 2) := by decide +kernel
theorem dX7_init_116 : decode cX7_init 116 = .ok (.putfield 49, 3) := by decide +kernel
theorem dX7_init_119 : decode cX7_init 119 = .ok (.aload_n 0, 1) := by decide +kernel
theorem dX7_init_120 : decode cX7_init 120 = .ok (.bipush 12, 2) := by decide +kernel
theorem dX7_init_122 : decode cX7_init 122 = .ok (.newarray .int, 2) := by decide +kernel
theorem dX7_init_124 : decode cX7_init 124 = .ok (.putfield 52, 3) := by decide +kernel
theorem dX7_init_127 : decode cX7_init 127 = .ok (.aload_n 0, 1) := by decide +kernel
theorem dX7_init_128 : decode cX7_init 128 = .ok (.bipush 12, 2) := by decide +kernel
theorem dX7_init_130 : decode cX7_init 130 = .ok (.newarray .int, 2) := by decide +kernel
theorem dX7_init_132 : decode cX7_init 132 = .ok (.putfield 55, 3) := by decide +kernel
theorem dX7_init_135 : decode cX7_init 135 = .ok (.aload_n 0, 1) := by decide +kernel
theorem dX7_init_136 : decode cX7_init 136 = .ok (.bipush 96, 2) := by decide +kernel
theorem dX7_init_138 : decode cX7_init 138 = .ok (.newarray .int, 2) := by decide +kernel
theorem dX7_init_140 : decode cX7_init 140 = .ok (.putfield 58, 3) := by decide +kernel
theorem dX7_init_143 : decode cX7_init 143 = .ok (.aload_n 0, 1) := by decide +kernel
theorem dX7_init_144 : decode cX7_init 144 = .ok (.bipush 96, 2) := by decide +kernel
theorem dX7_init_146 : decode cX7_init 146 = .ok (.newarray .int, 2) := by decide +kernel
theorem dX7_init_148 : decode cX7_init 148 = .ok (.putfield 61, 3) := by decide +kernel
theorem dX7_init_151 : decode cX7_init 151 = .ok (.aload_n 0, 1) := by decide +kernel
theorem dX7_init_152 : decode cX7_init 152 = .ok (.bipush 96, 2) := by decide +kernel
theorem dX7_init_154 : decode cX7_init 154 = .ok (.newarray .int, 2) := by decide +kernel
theorem dX7_init_156 : decode cX7_init 156 = .ok (.putfield 64, 3) := by decide +kernel
theorem dX7_init_159 : decode cX7_init 159 = .ok (.aload_n 0, 1) := by decide +kernel
theorem dX7_init_160 : decode cX7_init 160 = .ok (.bipush 12, 2) := by decide +kernel
theorem dX7_init_162 : decode cX7_init 162 = .ok (.newarray .boolean, 2) := by decide +kernel
theorem dX7_init_164 : decode cX7_init 164 = .ok (.putfield 67, 3) := by decide +kernel
theorem dX7_init_167 : decode cX7_init 167 = .ok (.aload_n 0, 1) := by decide +kernel
theorem dX7_init_168 : decode cX7_init 168 = .ok (.bipush 40, 2) := by decide +kernel
theorem dX7_init_170 : decode cX7_init 170 = .ok (.newarray .int, 2) := by decide +kernel
theorem dX7_init_172 : decode cX7_init 172 = .ok (.putfield 71, 3) := by decide +kernel
theorem dX7_init_175 : decode cX7_init 175 = .ok (.aload_n 0, 1) := by decide +kernel
theorem dX7_init_176 : decode cX7_init 176 = .ok (.bipush 20, 2) := by decide +kernel
theorem dX7_init_178 : decode cX7_init 178 = .ok (.newarray .int, 2) := by decide +kernel
theorem dX7_init_180 : decode cX7_init 180 = .ok (.putfield 74, 3) := by decide +kernel
theorem dX7_init_183 : decode cX7_init 183 = .ok (.aload_n 0, 1) := by decide +kernel
theorem dX7_init_184 : decode cX7_init 184 = .ok (.bipush 20, 2) := by decide +kernel
theorem dX7_init_186 : decode cX7_init 186 = .ok (.newarray .int, 2) := by decide +kernel
theorem dX7_init_188 : decode cX7_init 188 = .ok (.putfield 77, 3) := by decide +kernel
theorem dX7_init_191 : decode cX7_init 191 = .ok (.aload_n 0, 1) := by decide +kernel
theorem dX7_init_192 : decode cX7_init 192 = .ok (.bipush 20, 2) := by decide +kernel
theorem dX7_init_194 : decode cX7_init 194 = .ok (.newarray .int, 2) := by decide +kernel
theorem dX7_init_196 : decode cX7_init 196 = .ok (.putfield 80, 3) := by decide +kernel
theorem dX7_init_199 : decode cX7_init 199 = .ok (.aload_n 0, 1) := by decide +kernel
theorem dX7_init_200 : decode cX7_init 200 = .ok (.bipush 100, 2) := by decide +kernel
theorem dX7_init_202 : decode cX7_init 202 = .ok (.newarray .int, 2) := by decide +kernel
theorem dX7_init_204 : decode cX7_init 204 = .ok (.putfield 83, 3) := by decide +kernel
theorem dX7_init_207 : decode cX7_init 207 = .ok (.aload_n 0, 1) := by decide +kernel
theorem dX7_init_208 : decode cX7_init 208 = .ok (.bipush 6, 2) := by decide +kernel
theorem dX7_init_210 : decode cX7_init 210 = .ok (.newarray .int, 2) := by decide +kernel
theorem dX7_init_212 : decode cX7_init 212 = .ok (.putfield 86, 3) := by decide +kernel
theorem dX7_init_215 : decode cX7_init 215 = .ok (.aload_n 0, 1) := by decide +kernel
theorem dX7_init_216 : decode cX7_init 216 = .ok (.bipush 6, 2) := by decide +kernel
theorem dX7_init_218 : decode cX7_init 218 = .ok (.newarray .int, 2) := by decide +kernel
theorem dX7_init_220 : decode cX7_init 220 = .ok (.putfield 89, 3) := by decide +kernel
theorem dX7_init_223 : decode cX7_init 223 = .ok (.aload_n 0, 1) := by decide +kernel
theorem dX7_init_224 : decode cX7_init 224 = .ok (.bipush 6, 2) := by decide +kernel
theorem dX7_init_226 : decode cX7_init 226 = .ok (.newarray .int, 2) := by decide +kernel
theorem dX7_init_228 : decode cX7_init 228 = .ok (.putfield 92, 3) := by decide +kernel
theorem dX7_init_231 : decode cX7_init 231 = .ok (.aload_n 0, 1) := by decide +kernel
theorem dX7_init_232 : decode cX7_init 232 = .ok (.iconst 4, 1) := by decide +kernel
theorem dX7_init_233 : decode cX7_init 233 = .ok (.newarray .int, 2) := by decide +kernel
theorem dX7_init_235 : decode cX7_init 235 = .ok (.dup, 1) := by decide +kernel
theorem dX7_init_236 : decode cX7_init 236 = .ok (.iconst 0, 1) := by decide +kernel
theorem dX7_init_237 : decode cX7_init 237 = .ok (.iconst 1, 1) := by decide +kernel
theorem dX7_init_238 : decode cX7_init 238 = .ok (.iastore, 1) := by decide +kernel
theorem dX7_init_239 : decode cX7_init 239 = .ok (.dup, 1) := by decide +kernel
theorem dX7_init_240 : decode cX7_init 240 = .ok (.iconst 1, 1) := by decide +kernel
theorem dX7_init_241 : decode cX7_init 241 = .ok (.iconst 1, 1) := by decide +kernel
theorem dX7_init_242 : decode cX7_init 242 = .ok (.iastore, 1) := by decide +kernel
theorem dX7_init_243 : decode cX7_init 243 = .ok (.dup, 1) := by decide +kernel
theorem dX7_init_244 : decode cX7_init 244 = .ok (.iconst 2, 1) := by decide +kernel
theorem dX7_init_245 : decode cX7_init 245 = .ok (.iconst 1, 1) := by decide +kernel
theorem dX7_init_246 : decode cX7_init 246 = .ok (.iastore, 1) := by decide +kernel
theorem dX7_init_247 : decode cX7_init 247 = .ok (.dup, 1) := by decide +kernel
theorem dX7_init_248 : decode cX7_init 248 = .ok (.iconst 3, 1) := by decide +kernel
theorem dX7_init_249 : decode cX7_init 249 = .ok (.iconst 1, 1) := by decide +kernel
theorem dX7_init_250 : decode cX7_init 250 = .ok (.iastore, 1) := by decide +kernel
theorem dX7_init_251 : decode cX7_init 251 = .ok (.putfield 95, 3) := by decide +kernel
theorem dX7_init_254 : decode cX7_init 254 = .ok (.aload_n 0, 1) := by decide +kernel
theorem dX7_init_255 : decode cX7_init 255 = .ok (.bipush 8, 2) := by decide +kernel
theorem dX7_init_257 : decode cX7_init 257 = .ok (.newarray .int, 2) := by decide +kernel
theorem dX7_init_259 : decode cX7_init 259 = .ok (.putfield 98, 3) := by decide +kernel
theorem dX7_init_262 : decode cX7_init 262 = .ok (.aload_n 0, 1) := by decide +kernel
theorem dX7_init_263 : decode cX7_init 263 = .ok (.bipush 8, 2) := by decide +kernel
theorem dX7_init_265 : decode cX7_init 265 = .ok (.newarray .int, 2) := by decide +kernel
theorem dX7_init_267 : decode cX7_init 267 = .ok (.putfield 101, 3) := by decide +kernel
theorem dX7_init_270 : decode cX7_init 270 = .ok (.aload_n 0, 1) := by decide +kernel
theorem dX7_init_271 : decode cX7_init 271 = .ok (.bipush 8, 2) := by decide +kernel
theorem dX7_init_273 : decode cX7_init 273 = .ok (.newarray .int, 2) := by decide +kernel
theorem dX7_init_275 : decode cX7_init 275 = .ok (.putfield 104, 3) := by decide +kernel
theorem dX7_init_278 : decode cX7_init 278 = .ok (.aload_n 0, 1) := by decide +kernel
theorem dX7_init_279 : decode cX7_init 279 = .ok (.bipush 24, 2) := by decide +kernel
theorem dX7_init_281 : decode cX7_init 281 = .ok (.newarray .int, 2) := by decide +kernel
theorem dX7_init_283 : decode cX7_init 283 = .ok (.dup, 1) := by decide +kernel
theorem dX7_init_284 : decode cX7_init 284 = .ok (.iconst 0, 1) := by decide +kernel
theorem dX7_init_285 : decode cX7_init 285 = .ok (.bipush 115, 2) := by decide +kernel
theorem dX7_init_287 : decode cX7_init 287 = .ok (.iastore, 1) := by decide +kernel
theorem dX7_init_288 : decode cX7_init 288 = .ok (.dup, 1) := by decide +kernel
theorem dX7_init_289 : decode cX7_init 289 = .ok (.iconst 1, 1) := by decide +kernel
theorem dX7_init_290 : decode cX7_init 290 = .ok (.bipush 101, 2) := by decide +kernel
theorem dX7_init_292 : decode cX7_init 292 = .ok (.iastore, 1) := by decide +kernel
theorem dX7_init_293 : decode cX7_init 293 = .ok (.dup, 1) := by decide +kernel
theorem dX7_init_294 : decode cX7_init 294 = .ok (.iconst 2, 1) := by decide +kernel
theorem dX7_init_295 : decode cX7_init 295 = .ok (.bipush 116, 2) := by decide +kernel
theorem dX7_init_297 : decode cX7_init 297 = .ok (.iastore, 1) := by decide +kernel
theorem dX7_init_298 : decode cX7_init 298 = .ok (.dup, 1) := by decide +kernel
theorem dX7_init_299 : decode cX7_init 299 = .ok (.iconst 3, 1) := by decide +kernel
theorem dX7_init_300 : decode cX7_init 300 = .ok (.bipush 97, 2) := by decide +kernel
theorem dX7_init_302 : decode cX7_init 302 = .ok (.iastore, 1) := by decide +kernel
theorem dX7_init_303 : decode cX7_init 303 = .ok (.dup, 1) := by decide +kernel
theorem dX7_init_304 : decode cX7_init 304 = .ok (.iconst 4, 1) := by decide +kernel
theorem dX7_init_305 : decode cX7_init 305 = .ok (.bipush 100, 2) := by decide +kernel
theorem dX7_init_307 : decode cX7_init 307 = .ok (.iastore, 1) := by decide +kernel
theorem dX7_init_308 : decode cX7_init 308 = .ok (.dup, 1) := by decide +kernel
theorem dX7_init_309 : decode cX7_init 309 = .ok (.iconst 5, 1) := by decide +kernel
theorem dX7_init_310 : decode cX7_init 310 = .ok (.bipush 100, 2) := by decide +kernel
theorem dX7_init_312 : decode cX7_init 312 = .ok (.iastore, 1) := by decide +kernel
theorem dX7_init_313 : decode cX7_init 313 = .ok (.dup, 1) := by decide +kernel
theorem dX7_init_314 : decode cX7_init 314 = .ok (.bipush 6, 2) := by decide +kernel
theorem dX7_init_316 : decode cX7_init 316 = .ok (.bipush 109, 2) := by decide +kernel
theorem dX7_init_318 : decode cX7_init 318 = .ok (.iastore, 1) := by decide +kernel
theorem dX7_init_319 : decode cX7_init 319 = .ok (.dup, 1) := by decide +kernel
theorem dX7_init_320 : decode cX7_init 320 = .ok (.bipush 7, 2) := by decide +kernel
theorem dX7_init_322 : decode cX7_init 322 = .ok (.bipush 97, 2) := by decide +kernel
theorem dX7_init_324 : decode cX7_init 324 = .ok (.iastore, 1) := by decide +kernel
theorem dX7_init_325 : decode cX7_init 325 = .ok (.dup, 1) := by decide +kernel
theorem dX7_init_326 : decode cX7_init 326 = .ok (.bipush 8, 2) := by decide +kernel
theorem dX7_init_328 : decode cX7_init 328 = .ok (.bipush 120, 2) := by decide +kernel
theorem dX7_init_330 : decode cX7_init 330 = .ok (.iastore, 1) := by decide +kernel
theorem dX7_init_331 : decode cX7_init 331 = .ok (.dup, 1) := by decide +kernel
theorem dX7_init_332 : decode cX7_init 332 = .ok (.bipush 9, 2) := by decide +kernel
theorem dX7_init_334 : decode cX7_init 334 = .ok (.bipush 110, 2) := by decide +kernel
theorem dX7_init_336 : decode cX7_init 336 = .ok (.iastore, 1) := by decide +kernel
theorem dX7_init_337 : decode cX7_init 337 = .ok (.dup, 1) := by decide +kernel
theorem dX7_init_338 : decode cX7_init 338 = .ok (.bipush 10, 2) := by decide +kernel
theorem dX7_init_340 : decode cX7_init 340 = .ok (.bipush 101, 2) := by decide +kernel
theorem dX7_init_342 : decode cX7_init 342 = .ok (.iastore, 1) := by decide +kernel
theorem dX7_init_343 : decode cX7_init 343 = .ok (.dup, 1) := by decide +kernel
theorem dX7_init_344 : decode cX7_init 344 = .ok (.bipush 11, 2) := by decide +kernel
theorem dX7_init_346 : decode cX7_init 346 = .ok (.bipush 119, 2) := by decide +kernel
theorem dX7_init_348 : decode cX7_init 348 = .ok (.iastore, 1) := by decide +kernel
theorem dX7_init_349 : decode cX7_init 349 = .ok (.dup, 1) := by decide +kernel
theorem dX7_init_350 : decode cX7_init 350 = .ok (.bipush 12, 2) := by decide +kernel
theorem dX7_init_352 : decode cX7_init 352 = .ok (.bipush 103, 2) := by decide +kernel
theorem dX7_init_354 : decode cX7_init 354 = .ok (.iastore, 1) := by decide +kernel
theorem dX7_init_355 : decode cX7_init 355 = .ok (.dup, 1) := by decide +kernel
theorem dX7_init_356 : decode cX7_init 356 = .ok (.bipush 13, 2) := by decide +kernel
theorem dX7_init_358 : decode cX7_init 358 = .ok (.bipush 101, 2) := by decide +kernel
theorem dX7_init_360 : decode cX7_init 360 = .ok (.iastore, 1) := by decide +kernel
theorem dX7_init_361 : decode cX7_init 361 = .ok (.dup, 1) := by decide +kernel
theorem dX7_init_362 : decode cX7_init 362 = .ok (.bipush 14, 2) := by decide +kernel
theorem dX7_init_364 : decode cX7_init 364 = .ok (.bipush 116, 2) := by decide +kernel
theorem dX7_init_366 : decode cX7_init 366 = .ok (.iastore, 1) := by decide +kernel
theorem dX7_init_367 : decode cX7_init 367 = .ok (.dup, 1) := by decide +kernel
theorem dX7_init_368 : decode cX7_init 368 = .ok (.bipush 15, 2) := by decide +kernel
theorem dX7_init_370 : decode cX7_init 370 = .ok (.bipush 97, 2) := by decide +kernel
theorem dX7_init_372 : decode cX7_init 372 = .ok (.iastore, 1) := by decide +kernel
theorem dX7_init_373 : decode cX7_init 373 = .ok (.dup, 1) := by decide +kernel
theorem dX7_init_374 : decode cX7_init 374 = .ok (.bipush 16, 2) := by decide +kernel
theorem dX7_init_376 : decode cX7_init 376 = .ok (.bipush 115, 2) := by decide +kernel
theorem dX7_init_378 : decode cX7_init 378 = .ok (.iastore, 1) := by decide +kernel
theorem dX7_init_379 : decode cX7_init 379 = .ok (.dup, 1) := by decide +kernel
theorem dX7_init_380 : decode cX7_init 380 = .ok (.bipush 17, 2) := by decide +kernel
theorem dX7_init_382 : decode cX7_init 382 = .ok (.bipush 107, 2) := by decide +kernel
theorem dX7_init_384 : decode cX7_init 384 = .ok (.iastore, 1) := by decide +kernel
theorem dX7_init_385 : decode cX7_init 385 = .ok (.dup, 1) := by decide +kernel
theorem dX7_init_386 : decode cX7_init 386 = .ok (.bipush 18, 2) := by decide +kernel
theorem dX7_init_388 : decode cX7_init 388 = .ok (.bipush 100, 2) := by decide +kernel
theorem dX7_init_390 : decode cX7_init 390 = .ok (.iastore, 1) := by decide +kernel
theorem dX7_init_391 : decode cX7_init 391 = .ok (.dup, 1) := by decide +kernel
theorem dX7_init_392 : decode cX7_init 392 = .ok (.bipush 19, 2) := by decide +kernel
theorem dX7_init_394 : decode cX7_init 394 = .ok (.bipush 111, 2) := by decide +kernel
theorem dX7_init_396 : decode cX7_init 396 = .ok (.iastore, 1) := by decide +kernel
theorem dX7_init_397 : decode cX7_init 397 = .ok (.dup, 1) := by decide +kernel
theorem dX7_init_398 : decode cX7_init 398 = .ok (.bipush 20, 2) := by decide +kernel
theorem dX7_init_400 : decode cX7_init 400 = .ok (.iconst 0, 1) := by decide +kernel
theorem dX7_init_401 : decode cX7_init 401 = .ok (.iastore, 1) := by decide +kernel
theorem dX7_init_402 : decode cX7_init 402 = .ok (.dup, 1) := by decide +kernel
theorem dX7_init_403 : decode cX7_init 403 = .ok (.bipush 21, 2) := by decide +kernel
theorem dX7_init_405 : decode cX7_init 405 = .ok (.bipush 105, 2) := by decide +kernel
theorem dX7_init_407 : decode cX7_init 407 = .ok (.iastore, 1) := by decide +kernel
theorem dX7_init_408 : decode cX7_init 408 = .ok (.dup, 1) := by decide +kernel
theorem dX7_init_409 : decode cX7_init 409 = .ok (.bipush 22, 2) := by decide +kernel
theorem dX7_init_411 : decode cX7_init 411 = .ok (.bipush 102, 2) := by decide +kernel
theorem dX7_init_413 : decode cX7_init 413 = .ok (.iastore, 1) := by decide +kernel
theorem dX7_init_414 : decode cX7_init 414 = .ok (.dup, 1) := by decide +kernel
theorem dX7_init_415 : decode cX7_init 415 = .ok (.bipush 23, 2) := by decide +kernel
theorem dX7_init_417 : decode cX7_init 417 = .ok (.iconst 0, 1) := by decide +kernel
theorem dX7_init_418 : decode cX7_init 418 = .ok (.iastore, 1) := by decide +kernel
theorem dX7_init_419 : decode cX7_init 419 = .ok (.putfield 107, 3) := by decide +kernel
theorem dX7_init_422 : decode cX7_init 422 = .ok (.aload_n 0, 1) := by decide +kernel
theorem dX7_init_423 : decode cX7_init 423 = .ok (.bipush 7, 2) := by decide +kernel
theorem dX7_init_425 : decode cX7_init 425 = .ok (.newarray .int, 2) := by decide +kernel
theorem dX7_init_427 : decode cX7_init 427 = .ok (.putfield 110, 3) := by decide +kernel
theorem dX7_init_430 : decode cX7_init 430 = .ok (.aload_n 0, 1) := by decide +kernel
theorem dX7_init_431 : decode cX7_init 431 = .ok (.bipush 7, 2) := by decide +kernel
theorem dX7_init_433 : decode cX7_init 433 = .ok (.newarray .int, 2) := by decide +kernel
theorem dX7_init_435 : decode cX7_init 435 = .ok (.putfield 113, 3) := by decide +kernel
theorem dX7_init_438 : decode cX7_init 438 = .ok (.aload_n 0, 1) := by decide +kernel
theorem dX7_init_439 : decode cX7_init 439 = .ok (.bipush 7, 2) := by decide +kernel
theorem dX7_init_441 : decode cX7_init 441 = .ok (.newarray .int, 2) := by decide +kernel
theorem dX7_init_443 : decode cX7_init 443 = .ok (.putfield 116, 3) := by decide +kernel
theorem dX7_init_446 : decode cX7_init 446 = .ok (.aload_n 0, 1) := by decide +kernel
theorem dX7_init_447 : decode cX7_init 447 = .ok (.bipush 7, 2) := by decide +kernel
theorem dX7_init_449 : decode cX7_init 449 = .ok (.newarray .int, 2) := by decide +kernel
theorem dX7_init_451 : decode cX7_init 451 = .ok (.putfield 119, 3) := by decide +kernel
theorem dX7_init_454 : decode cX7_init 454 = .ok (.aload_n 0, 1) := by decide +kernel
theorem dX7_init_455 : decode cX7_init 455 = .ok (.bipush 7, 2) := by decide +kernel
theorem dX7_init_457 : decode cX7_init 457 = .ok (.newarray .int, 2) := by decide +kernel
theorem dX7_init_459 : decode cX7_init 459 = .ok (.putfield 122, 3) := by decide +kernel
theorem dX7_init_462 : decode cX7_init 462 = .ok (.aload_n 0, 1) := by decide +kernel
theorem dX7_init_463 : decode cX7_init 463 = .ok (.bipush 7, 2) := by decide +kernel
theorem dX7_init_465 : decode cX7_init 465 = .ok (.newarray .boolean, 2) := by decide +kernel
theorem dX7_init_467 : decode cX7_init 467 = .ok (.putfield 125, 3) := by decide +kernel
theorem dX7_init_470 : decode cX7_init 470 = .ok (.aload_n 0, 1) := by decide +kernel
theorem dX7_init_471 : decode cX7_init 471 = .ok (.sipush 1200, 3) := by decide +kernel
theorem dX7_init_474 : decode cX7_init 474 = .ok (.newarray .int, 2) := by decide +kernel
theorem dX7_init_476 : decode cX7_init 476 = .ok (.putfield 128, 3) := by decide +kernel
theorem dX7_init_479 : decode cX7_init 479 = .ok (.aload_n 0, 1) := by decide +kernel
theorem dX7_init_480 : decode cX7_init 480 = .ok (.bipush 48, 2) := by decide +kernel
theorem dX7_init_482 : decode cX7_init 482 = .ok (.newarray .int, 2) := by decide +kernel
theorem dX7_init_484 : decode cX7_init 484 = .ok (.putfield 131, 3) := by decide +kernel
theorem dX7_init_487 : decode cX7_init 487 = .ok (.aload_n 0, 1) := by decide +kernel
theorem dX7_init_488 : decode cX7_init 488 = .ok (.bipush 48, 2) := by decide +kernel
theorem dX7_init_490 : decode cX7_init 490 = .ok (.newarray .int, 2) := by decide +kernel
theorem dX7_init_492 : decode cX7_init 492 = .ok (.putfield 134, 3) := by decide +kernel
theorem dX7_init_495 : decode cX7_init 495 = .ok (.aload_n 0, 1) := by decide +kernel
theorem dX7_init_496 : decode cX7_init 496 = .ok (.bipush 48, 2) := by decide +kernel
theorem dX7_init_498 : decode cX7_init 498 = .ok (.newarray .int, 2) := by decide +kernel
theorem dX7_init_500 : decode cX7_init 500 = .ok (.putfield 137, 3) := by decide +kernel
theorem dX7_init_503 : decode cX7_init 503 = .ok (.aload_n 0, 1) := by decide +kernel
theorem dX7_init_504 : decode cX7_init 504 = .ok (.bipush 30, 2) := by decide +kernel
theorem dX7_init_506 : decode cX7_init 506 = .ok (.newarray .int, 2) := by decide +kernel
theorem dX7_init_508 : decode cX7_init 508 = .ok (.putfield 140, 3) := by decide +kernel
theorem dX7_init_511 : decode cX7_init 511 = .ok (.aload_n 0, 1) := by decide +kernel
theorem dX7_init_512 : decode cX7_init 512 = .ok (.sipush 1200, 3) := by decide +kernel
theorem dX7_init_515 : decode cX7_init 515 = .ok (.newarray .int, 2) := by decide +kernel
theorem dX7_init_517 : decode cX7_init 517 = .ok (.putfield 143, 3) := by decide +kernel
theorem dX7_init_520 : decode cX7_init 520 = .ok (.aload_n 0, 1) := by decide +kernel
theorem dX7_init_521 : decode cX7_init 521 = .ok (.bipush 6, 2) := by decide +kernel
theorem dX7_init_523 : decode cX7_init 523 = .ok (.newarray .int, 2) := by decide +kernel
theorem dX7_init_525 : decode cX7_init 525 = .ok (.putfield 146, 3) := by decide +kernel
theorem dX7_init_528 : decode cX7_init 528 = .ok (.aload_n 0, 1) := by decide +kernel
theorem dX7_init_529 : decode cX7_init 529 = .ok (.iconst 5, 1) := by decide +kernel
theorem dX7_init_530 : decode cX7_init 530 = .ok (.newarray .int, 2) := by decide +kernel
theorem dX7_init_532 : decode cX7_init 532 = .ok (.putfield 149, 3) := by decide +kernel
theorem dX7_init_535 : decode cX7_init 535 = .ok (.aload_n 0, 1) := by decide +kernel
theorem dX7_init_536 : decode cX7_init 536 = .ok (.sipush 624, 3) := by decide +kernel
theorem dX7_init_539 : decode cX7_init 539 = .ok (.newarray .int, 2) := by decide +kernel
theorem dX7_init_541 : decode cX7_init 541 = .ok (.putfield 152, 3) := by decide +kernel
theorem dX7_init_544 : decode cX7_init 544 = .ok (.aload_n 0, 1) := by decide +kernel
theorem dX7_init_545 : decode cX7_init 545 = .ok (.sipush 24000, 3) := by decide +kernel
theorem dX7_init_548 : decode cX7_init 548 = .ok (.newarray .int, 2) := by decide +kernel
theorem dX7_init_550 : decode cX7_init 550 = .ok (.putfield 155, 3) := by decide +kernel
theorem dX7_init_553 : decode cX7_init 553 = .ok (.aload_n 0, 1) := by decide +kernel
theorem dX7_init_554 : decode cX7_init 554 = .ok (.sipush 1000, 3) := by decide +kernel
theorem dX7_init_557 : decode cX7_init 557 = .ok (.newarray .int, 2) := by decide +kernel
theorem dX7_init_559 : decode cX7_init 559 = .ok (.putfield 158, 3) := by decide +kernel
theorem dX7_init_562 : decode cX7_init 562 = .ok (.aload_n 0, 1) := by decide +kernel
theorem dX7_init_563 : decode cX7_init 563 = .ok (.bipush 6, 2) := by decide +kernel
theorem dX7_init_565 : decode cX7_init 565 = .ok (.newarray .int, 2) := by decide +kernel
theorem dX7_init_567 : decode cX7_init 567 = .ok (.putfield 161, 3) := by decide +kernel
theorem dX7_init_570 : decode cX7_init 570 = .ok (.aload_n 0, 1) := by decide +kernel
theorem dX7_init_571 : decode cX7_init 571 = .ok (.bipush 6, 2) := by decide +kernel
theorem dX7_init_573 : decode cX7_init 573 = .ok (.newarray .int, 2) := by decide +kernel
theorem dX7_init_575 : decode cX7_init 575 = .ok (.putfield 164, 3) := by decide +kernel
theorem dX7_init_578 : decode cX7_init 578 = .ok (.return_, 1) := by decide +kernel
/-! a constructor with many fields: those that are done -/
def PF (L : List Nat) (g : GS) (h : Nat) : Prop := ∀ k, k ∈ L → Fok g 8 k (g.2.1 h k)
theorem PF.nil {g : GS} {h : Nat} : PF [] g h := fun k hk => by cases hk
theorem PF.cons {L : List Nat} {g : GS} {h k : Nat} {v : Value} (p : PF L g h) (e : g.2.1 h k = v) (q : Fok g 8 k v) : PF (k :: L) g h := fun x hx => by
  rcases List.mem_cons.mp hx with rfl | hx
  · rw [e]; exact q
  · exact p x hx
theorem PF.put {L : List Nat} {g : GS} {h k : Nat} {v : Value} (p : PF L g h) (q : Fok g 8 k v) : PF (k :: L) (sF g h k v) h := fun x hx => by
  show Fok g 8 x (if h = h ∧ x = k then v else g.2.1 h x)
  by_cases hn : x = k
  · rw [if_pos ⟨rfl, hn⟩, hn]; exact q
  · rw [if_neg (fun z => hn z.2)]
    rcases List.mem_cons.mp hx with hx | hx
    · exact absurd hx hn
    · exact p x hx
theorem PF.tC {L : List Nat} {g : GS} {h a j : Nat} {v : Int32} (p : PF L g h) : PF L (sC g a j v) h := p
theorem PF.pu {L : List Nat} {g g' : GS} {h : Nat} (p : PF L g h) (hx : Ex g g') (e : g'.2.1 h = g.2.1 h) : PF L g' h := fun k hk => by
  rw [e]
  exact fsm.mono hx (p k hk)
theorem PF.fin {L : List Nat} {g : GS} {h : Nat} (p : PF L g h) (hL : ∀ k, k < 67 → k ∈ L) (hr : g.1 h = 18) : ∀ k, Fok (sR g h 8) 8 k (g.2.1 h k) := fun k => by
  by_cases hk : k < 67
  · have h1 : fsm g (g.2.1 h k) (fsp 8 k) := p k (hL k hk)
    have hx : ∀ x, okR (g.1 x) → (sR g h 8).1 x = g.1 x := fun x hx => if_neg (fun q => by rw [q, hr] at hx; exact absurd hx (by decide))
    show fsm _ _ _
    unfold fsm at h1 ⊢
    split at h1
    · exact h1
    · exact h1
    · obtain ⟨h0, q, e, hq⟩ := h1
      exact ⟨h0, q, e, (hx q (by rw [hq]; exact h0)).trans hq⟩
    · obtain ⟨h0, q, e, hq, hn⟩ := h1
      exact ⟨h0, q, e, (hx q (by rw [hq]; exact h0)).trans hq, hn⟩
    · exact trivial
  · have e : fsp 8 k = ft := by
      unfold fsp
      rw [List.getD_eq_getElem?_getD, List.getElem?_eq_none (by show 67 ≤ k; omega)]
      rfl
    show fsm _ _ (fsp 8 k)
    rw [e]
    exact trivial
def ZC (g : GS) (a : Nat) : Prop := ∀ i, g.2.2.2.1 a i = 0
theorem ZC.tC {g : GS} {a b j : Nat} {v : Int32} (h : ZC g a) (n : a ≠ b) : ZC (sC g b j v) a := fun i => by
  show (if a = b ∧ i = j then v else g.2.2.2.1 a i) = 0
  rw [if_neg (fun q => n q.1)]
  exact h i
theorem ZC.pu {g g' : GS} {a : Nat} (h : ZC g a) (e : g'.2.2.2.1 a = g.2.2.2.1 a) : ZC g' a := fun i => by
  rw [e]
  exact h i
theorem ZC.PL {n : Nat} {g : GS} {na pa : Nat} (h : ZC g pa) : PL n g na pa := fun i _ => Or.inl (by rw [h i]; decide)
theorem sA_z {g : GS} {a r n : Nat} : ZC (sA g a r n) a := fun i => if_pos rfl

abbrev md_k_Model : Nat → Nat → Bool := mdf [(18, 1), (18, 2), (18, 3), (18, 4), (18, 5), (18, 6), (18, 7), (18, 8), (18, 9), (18, 10), (18, 11), (18, 12), (18, 13), (18, 14), (18, 15), (18, 16), (18, 17), (18, 18), (18, 19), (18, 20), (18, 23), (18, 25), (18, 26), (18, 27), (18, 28), (18, 31), (18, 32), (18, 33), (18, 35), (18, 39), (18, 40), (18, 41), (18, 42), (18, 43), (18, 44), (18, 45), (18, 46), (18, 47), (18, 48), (18, 53), (18, 54), (18, 55), (18, 56), (18, 57), (18, 58), (18, 59), (18, 61), (18, 62), (18, 63), (18, 64), (18, 65), (18, 66), (83, 99), (87, 99)]
set_option maxHeartbeats 4000000 in
set_option maxRecDepth 100000 in
theorem k_Model (l : Launch) (D : va_G) (cI cZ cS cR : ClassId) (N0 : NT) (g : GS) (hI : Inv g) (h : Nat) (r_h : g.1 h = 18) (kz0 : g.2.1 h 0 = .int 0) (kz21 : g.2.1 h 21 = .int 0) (kz22 : g.2.1 h 22 = .int 0) (kz24 : g.2.1 h 24 = .int 0) (kz29 : g.2.1 h 29 = .int 0) (kz30 : g.2.1 h 30 = .int 0) (kz34 : g.2.1 h 34 = .int 0) (kz36 : g.2.1 h 36 = .int 0) (kz37 : g.2.1 h 37 = .int 0) (kz38 : g.2.1 h 38 = .int 0) (kz49 : g.2.1 h 49 = .int 0) (kz50 : g.2.1 h 50 = .int 0) (kz51 : g.2.1 h 51 = .int 0) (kz52 : g.2.1 h 52 = .int 0) (kz60 : g.2.1 h 60 = .int 0) : Ty l D cI cZ cS cR N0 yX7_init cX7_init 1 none 0 52 29861 [.ref h] g (fun v g' => v = none ∧ Inv g' ∧ Exx h g g' ∧ Sm md_k_Model g g' ∧ g'.1 h = 8 ∧ (PX 48 2 3 71 72 g' h) ∧ (PX 8 39 40 84 85 g' h) ∧ (g'.2.1 h 22 = .int 0) ∧ (g'.2.1 h 34 = .int 0) ∧ (PO 35 83 g' h)) := by
  refine t_enter (by decide) (Nat.le_of_ble_eq_true rfl) ?_
  intro p e s m args below meth c ls H locs hB hr hin hl hT
  have hx := hB.1
  have hb := hB.2.1
  have hl : lv_has ls 1 [(0, .ref h)] := hl
  have hE : Ex g g := Ex.rf
  have hM : Sm md_k_Model g g := Sm.rf
  have hP : PF [60, 52, 51, 50, 49, 38, 37, 36, 34, 30, 29, 24, 22, 21, 0] g h := (PF.cons (PF.cons (PF.cons (PF.cons (PF.cons (PF.cons (PF.cons (PF.cons (PF.cons (PF.cons (PF.cons (PF.cons (PF.cons (PF.cons (PF.cons PF.nil kz0 (q_8_0 ⟨_, rfl, by decide, by decide⟩)) kz21 (q_8_21 ⟨_, rfl, by decide, by decide⟩)) kz22 (q_8_22 ⟨_, rfl⟩)) kz24 (q_8_24 ⟨_, rfl, by decide, by decide⟩)) kz29 (q_8_29 ⟨_, rfl, by decide, by decide⟩)) kz30 (q_8_30 ⟨_, rfl, by decide, by decide⟩)) kz34 (q_8_34 ⟨_, rfl, by decide, by decide⟩)) kz36 (q_8_36 ⟨_, rfl, by decide, by decide⟩)) kz37 (q_8_37 ⟨_, rfl, by decide, by decide⟩)) kz38 (q_8_38 ⟨_, rfl, by decide, by decide⟩)) kz49 (q_8_49 ⟨_, rfl, by decide, by decide⟩)) kz50 (q_8_50 ⟨_, rfl⟩)) kz51 (q_8_51 ⟨_, rfl, by decide, by decide⟩)) kz52 (q_8_52 ⟨_, rfl, by decide, by decide⟩)) kz60 (q_8_60 ⟨_, rfl, by decide, by decide⟩))
  refine lv_aload_n hx hb dX7_init_0 rfl (lv_at hl 0 rfl) ?_
  refine t_oinit hB k_744 k_78 k_79 hl.1 dX7_init_1 (Nat.le_of_ble_eq_true rfl) (Nat.le_of_ble_eq_true rfl) ?_
  refine lv_aload_n hx hb dX7_init_4 rfl (lv_at hl 0 rfl) ?_
  refine lv_bipush (v := 6) hx hb dX7_init_5 (by decide) ?_
  refine t_newi (N' := 6) hB hT 88 (by decide) k_101 (by decide) (by decide) (by decide) (Nat.le_of_ble_eq_true rfl) (Nat.le_of_ble_eq_true rfl) dX7_init_7 (fun q_1 H o_q_1 hT => ?_)
  have z_q_1 : g.1 q_1 = 0 := hE.z0 o_q_1
  have hI : Inv (sA g q_1 88 6) := hI.newi o_q_1 (by decide) (fun _ => rfl) ⟨by decide, by decide⟩ (fun _ => trivial)
  have hM : Sm md_k_Model g (sA g q_1 88 6) := hM.tr hE (Sm.push o_q_1 sA_g)
  have hE : Ex g (sA g q_1 88 6) := hE.tr (Ex.push o_q_1 sA_g)
  have hP : PF [60, 52, 51, 50, 49, 38, 37, 36, 34, 30, 29, 24, 22, 21, 0] (sA g q_1 88 6) h := hP.pu (Ex.push o_q_1 sA_g) (sA_g h (ne0 r_h o_q_1 (by decide))).2.1
  have r_2 : (sA g q_1 88 6).1 h = 18 := ((sA_g h (ne0 r_h o_q_1 (by decide))).1.trans r_h)
  have r_3 : (sA g q_1 88 6).1 q_1 = 88 := sA_r
  have n_4 : (sA g q_1 88 6).2.2.1 q_1 = 6 := sA_n
  have kn_5 : (sA g q_1 88 6).2.1 h 22 = .int 0 := ((congrFun (sA_g h (ne0 r_h o_q_1 (by decide))).2.1 22).trans kz22)
  have kn_6 : (sA g q_1 88 6).2.1 h 34 = .int 0 := ((congrFun (sA_g h (ne0 r_h o_q_1 (by decide))).2.1 34).trans kz34)
  generalize (sA g q_1 88 6) = g_7 at hT hI hM hE r_2 r_3 n_4 kn_5 kn_6 hP
  refine W.widen (k := 1) (n := 6) (Nat.le_of_ble_eq_true rfl) (Nat.le_of_ble_eq_true rfl) ?_
  refine t_put0 (ci := 7) (v := .ref q_1) hB hT (ro_ci r_2 rfl) (ro_n0 r_2 (by decide)) rfl 1 (by decide) k_746 (Or.inr ⟨hin, rfl⟩) rfl rfl dX7_init_9 (fun H locs hT => ?_)
  have hI : Inv (sF g_7 h 1 (.ref q_1)) := hI.sF (fk r_2 (show fsm _ _ ft from trivial))
  have hM : Sm md_k_Model g (sF g_7 h 1 (.ref q_1)) := hM.tr hE (Sm_sF (by rw [r_2]; rfl))
  have hE : Ex g (sF g_7 h 1 (.ref q_1)) := hE
  have hP : PF [1, 60, 52, 51, 50, 49, 38, 37, 36, 34, 30, 29, 24, 22, 21, 0] (sF g_7 h 1 (.ref q_1)) h := hP.put (q_8_1 (⟨_, rfl, r_3, n_4⟩))
  refine lv_aload_n hx hb dX7_init_12 rfl (lv_at hl 0 rfl) ?_
  refine lv_bipush (v := 48) hx hb dX7_init_13 (by decide) ?_
  refine t_newi (N' := 48) hB hT 71 (by decide) k_101 (by decide) (by decide) (by decide) (Nat.le_of_ble_eq_true rfl) (Nat.le_of_ble_eq_true rfl) dX7_init_15 (fun q_8 H o_q_8 hT => ?_)
  have z_q_8 : g.1 q_8 = 0 := hE.z0 o_q_8
  have hI : Inv (sA (sF g_7 h 1 (.ref q_1)) q_8 71 48) := hI.newi o_q_8 (by decide) (fun _ => rfl) trivial (fun _ => trivial)
  have hM : Sm md_k_Model g (sA (sF g_7 h 1 (.ref q_1)) q_8 71 48) := hM.tr hE (Sm.push o_q_8 sA_g)
  have hE : Ex g (sA (sF g_7 h 1 (.ref q_1)) q_8 71 48) := hE.tr (Ex.push o_q_8 sA_g)
  have hP : PF [1, 60, 52, 51, 50, 49, 38, 37, 36, 34, 30, 29, 24, 22, 21, 0] (sA (sF g_7 h 1 (.ref q_1)) q_8 71 48) h := hP.pu (Ex.push o_q_8 sA_g) (sA_g h (ne0 r_2 o_q_8 (by decide))).2.1
  have r_9 : (sA (sF g_7 h 1 (.ref q_1)) q_8 71 48).1 h = 18 := ((sA_g h (ne0 r_2 o_q_8 (by decide))).1.trans r_2)
  have r_10 : (sA (sF g_7 h 1 (.ref q_1)) q_8 71 48).1 q_8 = 71 := sA_r
  have n_11 : (sA (sF g_7 h 1 (.ref q_1)) q_8 71 48).2.2.1 q_8 = 48 := sA_n
  have kn_12 : (sA (sF g_7 h 1 (.ref q_1)) q_8 71 48).2.1 h 22 = .int 0 := ((congrFun (sA_g h (ne0 r_2 o_q_8 (by decide))).2.1 22).trans (sF_k kn_5 (by decide)))
  have kn_13 : (sA (sF g_7 h 1 (.ref q_1)) q_8 71 48).2.1 h 34 = .int 0 := ((congrFun (sA_g h (ne0 r_2 o_q_8 (by decide))).2.1 34).trans (sF_k kn_6 (by decide)))
  generalize (sA (sF g_7 h 1 (.ref q_1)) q_8 71 48) = g_14 at hT hI hM hE r_9 r_10 n_11 kn_12 kn_13 hP
  refine W.widen (k := 2) (n := 54) (Nat.le_of_ble_eq_true rfl) (Nat.le_of_ble_eq_true rfl) ?_
  refine t_put0 (ci := 7) (v := .ref q_8) hB hT (ro_ci r_9 rfl) (ro_n0 r_9 (by decide)) rfl 2 (by decide) k_747 (Or.inr ⟨hin, rfl⟩) rfl rfl dX7_init_17 (fun H locs hT => ?_)
  have hI : Inv (sF g_14 h 2 (.ref q_8)) := hI.sF (fk r_9 (show fsm _ _ ft from trivial))
  have hM : Sm md_k_Model g (sF g_14 h 2 (.ref q_8)) := hM.tr hE (Sm_sF (by rw [r_9]; rfl))
  have hE : Ex g (sF g_14 h 2 (.ref q_8)) := hE
  have hP : PF [2, 1, 60, 52, 51, 50, 49, 38, 37, 36, 34, 30, 29, 24, 22, 21, 0] (sF g_14 h 2 (.ref q_8)) h := hP.put (q_8_2 (⟨_, rfl, r_10, n_11⟩))
  refine lv_aload_n hx hb dX7_init_20 rfl (lv_at hl 0 rfl) ?_
  refine lv_bipush (v := 48) hx hb dX7_init_21 (by decide) ?_
  refine t_newi (N' := 48) hB hT 72 (by decide) k_101 (by decide) (by decide) (by decide) (Nat.le_of_ble_eq_true rfl) (Nat.le_of_ble_eq_true rfl) dX7_init_23 (fun q_15 H o_q_15 hT => ?_)
  have z_q_15 : g.1 q_15 = 0 := hE.z0 o_q_15
  have hI : Inv (sA (sF g_14 h 2 (.ref q_8)) q_15 72 48) := hI.newi o_q_15 (by decide) (fun _ => rfl) ⟨by decide, by decide⟩ (fun _ => trivial)
  have hM : Sm md_k_Model g (sA (sF g_14 h 2 (.ref q_8)) q_15 72 48) := hM.tr hE (Sm.push o_q_15 sA_g)
  have hE : Ex g (sA (sF g_14 h 2 (.ref q_8)) q_15 72 48) := hE.tr (Ex.push o_q_15 sA_g)
  have hP : PF [2, 1, 60, 52, 51, 50, 49, 38, 37, 36, 34, 30, 29, 24, 22, 21, 0] (sA (sF g_14 h 2 (.ref q_8)) q_15 72 48) h := hP.pu (Ex.push o_q_15 sA_g) (sA_g h (ne0 r_9 o_q_15 (by decide))).2.1
  have zP : ZC (sA (sF g_14 h 2 (.ref q_8)) q_15 72 48) q_15 := sA_z
  have r_16 : (sA (sF g_14 h 2 (.ref q_8)) q_15 72 48).1 h = 18 := ((sA_g h (ne0 r_9 o_q_15 (by decide))).1.trans r_9)
  have r_17 : (sA (sF g_14 h 2 (.ref q_8)) q_15 72 48).1 q_8 = 71 := ((sA_g q_8 (ne0 r_10 o_q_15 (by decide))).1.trans r_10)
  have r_18 : (sA (sF g_14 h 2 (.ref q_8)) q_15 72 48).1 q_15 = 72 := sA_r
  have n_19 : (sA (sF g_14 h 2 (.ref q_8)) q_15 72 48).2.2.1 q_8 = 48 := ((sA_g q_8 (ne0 r_10 o_q_15 (by decide))).2.2.1.trans n_11)
  have n_20 : (sA (sF g_14 h 2 (.ref q_8)) q_15 72 48).2.2.1 q_15 = 48 := sA_n
  have kn_21 : (sA (sF g_14 h 2 (.ref q_8)) q_15 72 48).2.1 h 22 = .int 0 := ((congrFun (sA_g h (ne0 r_9 o_q_15 (by decide))).2.1 22).trans (sF_k kn_12 (by decide)))
  have kn_22 : (sA (sF g_14 h 2 (.ref q_8)) q_15 72 48).2.1 h 34 = .int 0 := ((congrFun (sA_g h (ne0 r_9 o_q_15 (by decide))).2.1 34).trans (sF_k kn_13 (by decide)))
  have kn_23 : (sA (sF g_14 h 2 (.ref q_8)) q_15 72 48).2.1 h 2 = .ref q_8 := ((congrFun (sA_g h (ne0 r_9 o_q_15 (by decide))).2.1 2).trans sF_eq)
  generalize (sA (sF g_14 h 2 (.ref q_8)) q_15 72 48) = g_24 at hT hI hM hE r_16 r_17 r_18 n_19 n_20 kn_21 kn_22 kn_23 hP zP
  refine W.widen (k := 3) (n := 102) (Nat.le_of_ble_eq_true rfl) (Nat.le_of_ble_eq_true rfl) ?_
  refine t_put0 (ci := 7) (v := .ref q_15) hB hT (ro_ci r_16 rfl) (ro_n0 r_16 (by decide)) rfl 3 (by decide) k_748 (Or.inr ⟨hin, rfl⟩) rfl rfl dX7_init_25 (fun H locs hT => ?_)
  have hI : Inv (sF g_24 h 3 (.ref q_15)) := hI.sF (fk r_16 (show fsm _ _ ft from trivial))
  have hM : Sm md_k_Model g (sF g_24 h 3 (.ref q_15)) := hM.tr hE (Sm_sF (by rw [r_16]; rfl))
  have hE : Ex g (sF g_24 h 3 (.ref q_15)) := hE
  have hP : PF [3, 2, 1, 60, 52, 51, 50, 49, 38, 37, 36, 34, 30, 29, 24, 22, 21, 0] (sF g_24 h 3 (.ref q_15)) h := hP.put (q_8_3 (⟨_, rfl, r_18, n_20⟩))
  have zP : ZC (sF g_24 h 3 (.ref q_15)) q_15 := zP
  refine lv_aload_n hx hb dX7_init_28 rfl (lv_at hl 0 rfl) ?_
  refine lv_bipush (v := 48) hx hb dX7_init_29 (by decide) ?_
  refine t_newi (N' := 48) hB hT 73 (by decide) k_101 (by decide) (by decide) (by decide) (Nat.le_of_ble_eq_true rfl) (Nat.le_of_ble_eq_true rfl) dX7_init_31 (fun q_25 H o_q_25 hT => ?_)
  have z_q_25 : g.1 q_25 = 0 := hE.z0 o_q_25
  have hI : Inv (sA (sF g_24 h 3 (.ref q_15)) q_25 73 48) := hI.newi o_q_25 (by decide) (fun _ => rfl) ⟨by decide, by decide⟩ (fun _ => trivial)
  have hM : Sm md_k_Model g (sA (sF g_24 h 3 (.ref q_15)) q_25 73 48) := hM.tr hE (Sm.push o_q_25 sA_g)
  have hE : Ex g (sA (sF g_24 h 3 (.ref q_15)) q_25 73 48) := hE.tr (Ex.push o_q_25 sA_g)
  have hP : PF [3, 2, 1, 60, 52, 51, 50, 49, 38, 37, 36, 34, 30, 29, 24, 22, 21, 0] (sA (sF g_24 h 3 (.ref q_15)) q_25 73 48) h := hP.pu (Ex.push o_q_25 sA_g) (sA_g h (ne0 r_16 o_q_25 (by decide))).2.1
  have zP : ZC (sA (sF g_24 h 3 (.ref q_15)) q_25 73 48) q_15 := zP.pu (sA_g q_15 (ne0 r_18 o_q_25 (by decide))).2.2.2.1
  have r_26 : (sA (sF g_24 h 3 (.ref q_15)) q_25 73 48).1 h = 18 := ((sA_g h (ne0 r_16 o_q_25 (by decide))).1.trans r_16)
  have r_27 : (sA (sF g_24 h 3 (.ref q_15)) q_25 73 48).1 q_8 = 71 := ((sA_g q_8 (ne0 r_17 o_q_25 (by decide))).1.trans r_17)
  have r_28 : (sA (sF g_24 h 3 (.ref q_15)) q_25 73 48).1 q_15 = 72 := ((sA_g q_15 (ne0 r_18 o_q_25 (by decide))).1.trans r_18)
  have r_29 : (sA (sF g_24 h 3 (.ref q_15)) q_25 73 48).1 q_25 = 73 := sA_r
  have n_30 : (sA (sF g_24 h 3 (.ref q_15)) q_25 73 48).2.2.1 q_8 = 48 := ((sA_g q_8 (ne0 r_17 o_q_25 (by decide))).2.2.1.trans n_19)
  have n_31 : (sA (sF g_24 h 3 (.ref q_15)) q_25 73 48).2.2.1 q_15 = 48 := ((sA_g q_15 (ne0 r_18 o_q_25 (by decide))).2.2.1.trans n_20)
  have n_32 : (sA (sF g_24 h 3 (.ref q_15)) q_25 73 48).2.2.1 q_25 = 48 := sA_n
  have kn_33 : (sA (sF g_24 h 3 (.ref q_15)) q_25 73 48).2.1 h 22 = .int 0 := ((congrFun (sA_g h (ne0 r_16 o_q_25 (by decide))).2.1 22).trans (sF_k kn_21 (by decide)))
  have kn_34 : (sA (sF g_24 h 3 (.ref q_15)) q_25 73 48).2.1 h 34 = .int 0 := ((congrFun (sA_g h (ne0 r_16 o_q_25 (by decide))).2.1 34).trans (sF_k kn_22 (by decide)))
  have kn_35 : (sA (sF g_24 h 3 (.ref q_15)) q_25 73 48).2.1 h 2 = .ref q_8 := ((congrFun (sA_g h (ne0 r_16 o_q_25 (by decide))).2.1 2).trans (sF_k kn_23 (by decide)))
  have kn_36 : (sA (sF g_24 h 3 (.ref q_15)) q_25 73 48).2.1 h 3 = .ref q_15 := ((congrFun (sA_g h (ne0 r_16 o_q_25 (by decide))).2.1 3).trans sF_eq)
  generalize (sA (sF g_24 h 3 (.ref q_15)) q_25 73 48) = g_37 at hT hI hM hE r_26 r_27 r_28 r_29 n_30 n_31 n_32 kn_33 kn_34 kn_35 kn_36 hP zP
  refine W.widen (k := 4) (n := 150) (Nat.le_of_ble_eq_true rfl) (Nat.le_of_ble_eq_true rfl) ?_
  refine t_put0 (ci := 7) (v := .ref q_25) hB hT (ro_ci r_26 rfl) (ro_n0 r_26 (by decide)) rfl 4 (by decide) k_749 (Or.inr ⟨hin, rfl⟩) rfl rfl dX7_init_33 (fun H locs hT => ?_)
  have hI : Inv (sF g_37 h 4 (.ref q_25)) := hI.sF (fk r_26 (show fsm _ _ ft from trivial))
  have hM : Sm md_k_Model g (sF g_37 h 4 (.ref q_25)) := hM.tr hE (Sm_sF (by rw [r_26]; rfl))
  have hE : Ex g (sF g_37 h 4 (.ref q_25)) := hE
  have hP : PF [4, 3, 2, 1, 60, 52, 51, 50, 49, 38, 37, 36, 34, 30, 29, 24, 22, 21, 0] (sF g_37 h 4 (.ref q_25)) h := hP.put (q_8_4 (⟨_, rfl, r_29, n_32⟩))
  have zP : ZC (sF g_37 h 4 (.ref q_25)) q_15 := zP
  refine lv_aload_n hx hb dX7_init_36 rfl (lv_at hl 0 rfl) ?_
  refine lv_bipush (v := 6) hx hb dX7_init_37 (by decide) ?_
  refine t_newi (N' := 6) hB hT 74 (by decide) k_101 (by decide) (by decide) (by decide) (Nat.le_of_ble_eq_true rfl) (Nat.le_of_ble_eq_true rfl) dX7_init_39 (fun q_38 H o_q_38 hT => ?_)
  have z_q_38 : g.1 q_38 = 0 := hE.z0 o_q_38
  have hI : Inv (sA (sF g_37 h 4 (.ref q_25)) q_38 74 6) := hI.newi o_q_38 (by decide) (fun _ => rfl) trivial (fun _ => trivial)
  have hM : Sm md_k_Model g (sA (sF g_37 h 4 (.ref q_25)) q_38 74 6) := hM.tr hE (Sm.push o_q_38 sA_g)
  have hE : Ex g (sA (sF g_37 h 4 (.ref q_25)) q_38 74 6) := hE.tr (Ex.push o_q_38 sA_g)
  have hP : PF [4, 3, 2, 1, 60, 52, 51, 50, 49, 38, 37, 36, 34, 30, 29, 24, 22, 21, 0] (sA (sF g_37 h 4 (.ref q_25)) q_38 74 6) h := hP.pu (Ex.push o_q_38 sA_g) (sA_g h (ne0 r_26 o_q_38 (by decide))).2.1
  have zP : ZC (sA (sF g_37 h 4 (.ref q_25)) q_38 74 6) q_15 := zP.pu (sA_g q_15 (ne0 r_28 o_q_38 (by decide))).2.2.2.1
  have r_39 : (sA (sF g_37 h 4 (.ref q_25)) q_38 74 6).1 h = 18 := ((sA_g h (ne0 r_26 o_q_38 (by decide))).1.trans r_26)
  have r_40 : (sA (sF g_37 h 4 (.ref q_25)) q_38 74 6).1 q_8 = 71 := ((sA_g q_8 (ne0 r_27 o_q_38 (by decide))).1.trans r_27)
  have r_41 : (sA (sF g_37 h 4 (.ref q_25)) q_38 74 6).1 q_15 = 72 := ((sA_g q_15 (ne0 r_28 o_q_38 (by decide))).1.trans r_28)
  have r_42 : (sA (sF g_37 h 4 (.ref q_25)) q_38 74 6).1 q_38 = 74 := sA_r
  have n_43 : (sA (sF g_37 h 4 (.ref q_25)) q_38 74 6).2.2.1 q_8 = 48 := ((sA_g q_8 (ne0 r_27 o_q_38 (by decide))).2.2.1.trans n_30)
  have n_44 : (sA (sF g_37 h 4 (.ref q_25)) q_38 74 6).2.2.1 q_15 = 48 := ((sA_g q_15 (ne0 r_28 o_q_38 (by decide))).2.2.1.trans n_31)
  have n_45 : (sA (sF g_37 h 4 (.ref q_25)) q_38 74 6).2.2.1 q_38 = 6 := sA_n
  have kn_46 : (sA (sF g_37 h 4 (.ref q_25)) q_38 74 6).2.1 h 22 = .int 0 := ((congrFun (sA_g h (ne0 r_26 o_q_38 (by decide))).2.1 22).trans (sF_k kn_33 (by decide)))
  have kn_47 : (sA (sF g_37 h 4 (.ref q_25)) q_38 74 6).2.1 h 34 = .int 0 := ((congrFun (sA_g h (ne0 r_26 o_q_38 (by decide))).2.1 34).trans (sF_k kn_34 (by decide)))
  have kn_48 : (sA (sF g_37 h 4 (.ref q_25)) q_38 74 6).2.1 h 2 = .ref q_8 := ((congrFun (sA_g h (ne0 r_26 o_q_38 (by decide))).2.1 2).trans (sF_k kn_35 (by decide)))
  have kn_49 : (sA (sF g_37 h 4 (.ref q_25)) q_38 74 6).2.1 h 3 = .ref q_15 := ((congrFun (sA_g h (ne0 r_26 o_q_38 (by decide))).2.1 3).trans (sF_k kn_36 (by decide)))
  generalize (sA (sF g_37 h 4 (.ref q_25)) q_38 74 6) = g_50 at hT hI hM hE r_39 r_40 r_41 r_42 n_43 n_44 n_45 kn_46 kn_47 kn_48 kn_49 hP zP
  refine W.widen (k := 5) (n := 156) (Nat.le_of_ble_eq_true rfl) (Nat.le_of_ble_eq_true rfl) ?_
  refine t_put0 (ci := 7) (v := .ref q_38) hB hT (ro_ci r_39 rfl) (ro_n0 r_39 (by decide)) rfl 5 (by decide) k_750 (Or.inr ⟨hin, rfl⟩) rfl rfl dX7_init_41 (fun H locs hT => ?_)
  have hI : Inv (sF g_50 h 5 (.ref q_38)) := hI.sF (fk r_39 (show fsm _ _ ft from trivial))
  have hM : Sm md_k_Model g (sF g_50 h 5 (.ref q_38)) := hM.tr hE (Sm_sF (by rw [r_39]; rfl))
  have hE : Ex g (sF g_50 h 5 (.ref q_38)) := hE
  have hP : PF [5, 4, 3, 2, 1, 60, 52, 51, 50, 49, 38, 37, 36, 34, 30, 29, 24, 22, 21, 0] (sF g_50 h 5 (.ref q_38)) h := hP.put (q_8_5 (⟨_, rfl, r_42, n_45⟩))
  have zP : ZC (sF g_50 h 5 (.ref q_38)) q_15 := zP
  refine lv_aload_n hx hb dX7_init_44 rfl (lv_at hl 0 rfl) ?_
  refine lv_bipush (v := 6) hx hb dX7_init_45 (by decide) ?_
  refine t_newi (N' := 6) hB hT 75 (by decide) k_101 (by decide) (by decide) (by decide) (Nat.le_of_ble_eq_true rfl) (Nat.le_of_ble_eq_true rfl) dX7_init_47 (fun q_51 H o_q_51 hT => ?_)
  have z_q_51 : g.1 q_51 = 0 := hE.z0 o_q_51
  have hI : Inv (sA (sF g_50 h 5 (.ref q_38)) q_51 75 6) := hI.newi o_q_51 (by decide) (fun _ => rfl) trivial (fun _ => trivial)
  have hM : Sm md_k_Model g (sA (sF g_50 h 5 (.ref q_38)) q_51 75 6) := hM.tr hE (Sm.push o_q_51 sA_g)
  have hE : Ex g (sA (sF g_50 h 5 (.ref q_38)) q_51 75 6) := hE.tr (Ex.push o_q_51 sA_g)
  have hP : PF [5, 4, 3, 2, 1, 60, 52, 51, 50, 49, 38, 37, 36, 34, 30, 29, 24, 22, 21, 0] (sA (sF g_50 h 5 (.ref q_38)) q_51 75 6) h := hP.pu (Ex.push o_q_51 sA_g) (sA_g h (ne0 r_39 o_q_51 (by decide))).2.1
  have zP : ZC (sA (sF g_50 h 5 (.ref q_38)) q_51 75 6) q_15 := zP.pu (sA_g q_15 (ne0 r_41 o_q_51 (by decide))).2.2.2.1
  have r_52 : (sA (sF g_50 h 5 (.ref q_38)) q_51 75 6).1 h = 18 := ((sA_g h (ne0 r_39 o_q_51 (by decide))).1.trans r_39)
  have r_53 : (sA (sF g_50 h 5 (.ref q_38)) q_51 75 6).1 q_8 = 71 := ((sA_g q_8 (ne0 r_40 o_q_51 (by decide))).1.trans r_40)
  have r_54 : (sA (sF g_50 h 5 (.ref q_38)) q_51 75 6).1 q_15 = 72 := ((sA_g q_15 (ne0 r_41 o_q_51 (by decide))).1.trans r_41)
  have r_55 : (sA (sF g_50 h 5 (.ref q_38)) q_51 75 6).1 q_51 = 75 := sA_r
  have n_56 : (sA (sF g_50 h 5 (.ref q_38)) q_51 75 6).2.2.1 q_8 = 48 := ((sA_g q_8 (ne0 r_40 o_q_51 (by decide))).2.2.1.trans n_43)
  have n_57 : (sA (sF g_50 h 5 (.ref q_38)) q_51 75 6).2.2.1 q_15 = 48 := ((sA_g q_15 (ne0 r_41 o_q_51 (by decide))).2.2.1.trans n_44)
  have n_58 : (sA (sF g_50 h 5 (.ref q_38)) q_51 75 6).2.2.1 q_51 = 6 := sA_n
  have kn_59 : (sA (sF g_50 h 5 (.ref q_38)) q_51 75 6).2.1 h 22 = .int 0 := ((congrFun (sA_g h (ne0 r_39 o_q_51 (by decide))).2.1 22).trans (sF_k kn_46 (by decide)))
  have kn_60 : (sA (sF g_50 h 5 (.ref q_38)) q_51 75 6).2.1 h 34 = .int 0 := ((congrFun (sA_g h (ne0 r_39 o_q_51 (by decide))).2.1 34).trans (sF_k kn_47 (by decide)))
  have kn_61 : (sA (sF g_50 h 5 (.ref q_38)) q_51 75 6).2.1 h 2 = .ref q_8 := ((congrFun (sA_g h (ne0 r_39 o_q_51 (by decide))).2.1 2).trans (sF_k kn_48 (by decide)))
  have kn_62 : (sA (sF g_50 h 5 (.ref q_38)) q_51 75 6).2.1 h 3 = .ref q_15 := ((congrFun (sA_g h (ne0 r_39 o_q_51 (by decide))).2.1 3).trans (sF_k kn_49 (by decide)))
  generalize (sA (sF g_50 h 5 (.ref q_38)) q_51 75 6) = g_63 at hT hI hM hE r_52 r_53 r_54 r_55 n_56 n_57 n_58 kn_59 kn_60 kn_61 kn_62 hP zP
  refine W.widen (k := 6) (n := 162) (Nat.le_of_ble_eq_true rfl) (Nat.le_of_ble_eq_true rfl) ?_
  refine t_put0 (ci := 7) (v := .ref q_51) hB hT (ro_ci r_52 rfl) (ro_n0 r_52 (by decide)) rfl 6 (by decide) k_751 (Or.inr ⟨hin, rfl⟩) rfl rfl dX7_init_49 (fun H locs hT => ?_)
  have hI : Inv (sF g_63 h 6 (.ref q_51)) := hI.sF (fk r_52 (show fsm _ _ ft from trivial))
  have hM : Sm md_k_Model g (sF g_63 h 6 (.ref q_51)) := hM.tr hE (Sm_sF (by rw [r_52]; rfl))
  have hE : Ex g (sF g_63 h 6 (.ref q_51)) := hE
  have hP : PF [6, 5, 4, 3, 2, 1, 60, 52, 51, 50, 49, 38, 37, 36, 34, 30, 29, 24, 22, 21, 0] (sF g_63 h 6 (.ref q_51)) h := hP.put (q_8_6 (⟨_, rfl, r_55, n_58⟩))
  have zP : ZC (sF g_63 h 6 (.ref q_51)) q_15 := zP
  refine lv_aload_n hx hb dX7_init_52 rfl (lv_at hl 0 rfl) ?_
  refine lv_bipush (v := 48) hx hb dX7_init_53 (by decide) ?_
  refine t_newi (N' := 48) hB hT 56 (by decide) k_101 (by decide) (by decide) (by decide) (Nat.le_of_ble_eq_true rfl) (Nat.le_of_ble_eq_true rfl) dX7_init_55 (fun q_64 H o_q_64 hT => ?_)
  have z_q_64 : g.1 q_64 = 0 := hE.z0 o_q_64
  have hI : Inv (sA (sF g_63 h 6 (.ref q_51)) q_64 56 48) := hI.newi o_q_64 (by decide) (fun _ => rfl) ⟨by decide, by decide⟩ (fun _ => trivial)
  have hM : Sm md_k_Model g (sA (sF g_63 h 6 (.ref q_51)) q_64 56 48) := hM.tr hE (Sm.push o_q_64 sA_g)
  have hE : Ex g (sA (sF g_63 h 6 (.ref q_51)) q_64 56 48) := hE.tr (Ex.push o_q_64 sA_g)
  have hP : PF [6, 5, 4, 3, 2, 1, 60, 52, 51, 50, 49, 38, 37, 36, 34, 30, 29, 24, 22, 21, 0] (sA (sF g_63 h 6 (.ref q_51)) q_64 56 48) h := hP.pu (Ex.push o_q_64 sA_g) (sA_g h (ne0 r_52 o_q_64 (by decide))).2.1
  have zP : ZC (sA (sF g_63 h 6 (.ref q_51)) q_64 56 48) q_15 := zP.pu (sA_g q_15 (ne0 r_54 o_q_64 (by decide))).2.2.2.1
  have r_65 : (sA (sF g_63 h 6 (.ref q_51)) q_64 56 48).1 h = 18 := ((sA_g h (ne0 r_52 o_q_64 (by decide))).1.trans r_52)
  have r_66 : (sA (sF g_63 h 6 (.ref q_51)) q_64 56 48).1 q_8 = 71 := ((sA_g q_8 (ne0 r_53 o_q_64 (by decide))).1.trans r_53)
  have r_67 : (sA (sF g_63 h 6 (.ref q_51)) q_64 56 48).1 q_15 = 72 := ((sA_g q_15 (ne0 r_54 o_q_64 (by decide))).1.trans r_54)
  have r_68 : (sA (sF g_63 h 6 (.ref q_51)) q_64 56 48).1 q_64 = 56 := sA_r
  have n_69 : (sA (sF g_63 h 6 (.ref q_51)) q_64 56 48).2.2.1 q_8 = 48 := ((sA_g q_8 (ne0 r_53 o_q_64 (by decide))).2.2.1.trans n_56)
  have n_70 : (sA (sF g_63 h 6 (.ref q_51)) q_64 56 48).2.2.1 q_15 = 48 := ((sA_g q_15 (ne0 r_54 o_q_64 (by decide))).2.2.1.trans n_57)
  have n_71 : (sA (sF g_63 h 6 (.ref q_51)) q_64 56 48).2.2.1 q_64 = 48 := sA_n
  have kn_72 : (sA (sF g_63 h 6 (.ref q_51)) q_64 56 48).2.1 h 22 = .int 0 := ((congrFun (sA_g h (ne0 r_52 o_q_64 (by decide))).2.1 22).trans (sF_k kn_59 (by decide)))
  have kn_73 : (sA (sF g_63 h 6 (.ref q_51)) q_64 56 48).2.1 h 34 = .int 0 := ((congrFun (sA_g h (ne0 r_52 o_q_64 (by decide))).2.1 34).trans (sF_k kn_60 (by decide)))
  have kn_74 : (sA (sF g_63 h 6 (.ref q_51)) q_64 56 48).2.1 h 2 = .ref q_8 := ((congrFun (sA_g h (ne0 r_52 o_q_64 (by decide))).2.1 2).trans (sF_k kn_61 (by decide)))
  have kn_75 : (sA (sF g_63 h 6 (.ref q_51)) q_64 56 48).2.1 h 3 = .ref q_15 := ((congrFun (sA_g h (ne0 r_52 o_q_64 (by decide))).2.1 3).trans (sF_k kn_62 (by decide)))
  generalize (sA (sF g_63 h 6 (.ref q_51)) q_64 56 48) = g_76 at hT hI hM hE r_65 r_66 r_67 r_68 n_69 n_70 n_71 kn_72 kn_73 kn_74 kn_75 hP zP
  refine W.widen (k := 7) (n := 210) (Nat.le_of_ble_eq_true rfl) (Nat.le_of_ble_eq_true rfl) ?_
  refine t_put0 (ci := 7) (v := .ref q_64) hB hT (ro_ci r_65 rfl) (ro_n0 r_65 (by decide)) rfl 7 (by decide) k_752 (Or.inr ⟨hin, rfl⟩) rfl rfl dX7_init_57 (fun H locs hT => ?_)
  have hI : Inv (sF g_76 h 7 (.ref q_64)) := hI.sF (fk r_65 (show fsm _ _ ft from trivial))
  have hM : Sm md_k_Model g (sF g_76 h 7 (.ref q_64)) := hM.tr hE (Sm_sF (by rw [r_65]; rfl))
  have hE : Ex g (sF g_76 h 7 (.ref q_64)) := hE
  have hP : PF [7, 6, 5, 4, 3, 2, 1, 60, 52, 51, 50, 49, 38, 37, 36, 34, 30, 29, 24, 22, 21, 0] (sF g_76 h 7 (.ref q_64)) h := hP.put (q_8_7 (⟨_, rfl, r_68, n_71⟩))
  have zP : ZC (sF g_76 h 7 (.ref q_64)) q_15 := zP
  refine lv_aload_n hx hb dX7_init_60 rfl (lv_at hl 0 rfl) ?_
  refine lv_bipush (v := 12) hx hb dX7_init_61 (by decide) ?_
  refine t_newi (N' := 12) hB hT 56 (by decide) k_101 (by decide) (by decide) (by decide) (Nat.le_of_ble_eq_true rfl) (Nat.le_of_ble_eq_true rfl) dX7_init_63 (fun q_77 H o_q_77 hT => ?_)
  have z_q_77 : g.1 q_77 = 0 := hE.z0 o_q_77
  have hI : Inv (sA (sF g_76 h 7 (.ref q_64)) q_77 56 12) := hI.newi o_q_77 (by decide) (fun _ => rfl) ⟨by decide, by decide⟩ (fun _ => trivial)
  have hM : Sm md_k_Model g (sA (sF g_76 h 7 (.ref q_64)) q_77 56 12) := hM.tr hE (Sm.push o_q_77 sA_g)
  have hE : Ex g (sA (sF g_76 h 7 (.ref q_64)) q_77 56 12) := hE.tr (Ex.push o_q_77 sA_g)
  have hP : PF [7, 6, 5, 4, 3, 2, 1, 60, 52, 51, 50, 49, 38, 37, 36, 34, 30, 29, 24, 22, 21, 0] (sA (sF g_76 h 7 (.ref q_64)) q_77 56 12) h := hP.pu (Ex.push o_q_77 sA_g) (sA_g h (ne0 r_65 o_q_77 (by decide))).2.1
  have zP : ZC (sA (sF g_76 h 7 (.ref q_64)) q_77 56 12) q_15 := zP.pu (sA_g q_15 (ne0 r_67 o_q_77 (by decide))).2.2.2.1
  have r_78 : (sA (sF g_76 h 7 (.ref q_64)) q_77 56 12).1 h = 18 := ((sA_g h (ne0 r_65 o_q_77 (by decide))).1.trans r_65)
  have r_79 : (sA (sF g_76 h 7 (.ref q_64)) q_77 56 12).1 q_8 = 71 := ((sA_g q_8 (ne0 r_66 o_q_77 (by decide))).1.trans r_66)
  have r_80 : (sA (sF g_76 h 7 (.ref q_64)) q_77 56 12).1 q_15 = 72 := ((sA_g q_15 (ne0 r_67 o_q_77 (by decide))).1.trans r_67)
  have r_81 : (sA (sF g_76 h 7 (.ref q_64)) q_77 56 12).1 q_77 = 56 := sA_r
  have n_82 : (sA (sF g_76 h 7 (.ref q_64)) q_77 56 12).2.2.1 q_8 = 48 := ((sA_g q_8 (ne0 r_66 o_q_77 (by decide))).2.2.1.trans n_69)
  have n_83 : (sA (sF g_76 h 7 (.ref q_64)) q_77 56 12).2.2.1 q_15 = 48 := ((sA_g q_15 (ne0 r_67 o_q_77 (by decide))).2.2.1.trans n_70)
  have n_84 : (sA (sF g_76 h 7 (.ref q_64)) q_77 56 12).2.2.1 q_77 = 12 := sA_n
  have kn_85 : (sA (sF g_76 h 7 (.ref q_64)) q_77 56 12).2.1 h 22 = .int 0 := ((congrFun (sA_g h (ne0 r_65 o_q_77 (by decide))).2.1 22).trans (sF_k kn_72 (by decide)))
  have kn_86 : (sA (sF g_76 h 7 (.ref q_64)) q_77 56 12).2.1 h 34 = .int 0 := ((congrFun (sA_g h (ne0 r_65 o_q_77 (by decide))).2.1 34).trans (sF_k kn_73 (by decide)))
  have kn_87 : (sA (sF g_76 h 7 (.ref q_64)) q_77 56 12).2.1 h 2 = .ref q_8 := ((congrFun (sA_g h (ne0 r_65 o_q_77 (by decide))).2.1 2).trans (sF_k kn_74 (by decide)))
  have kn_88 : (sA (sF g_76 h 7 (.ref q_64)) q_77 56 12).2.1 h 3 = .ref q_15 := ((congrFun (sA_g h (ne0 r_65 o_q_77 (by decide))).2.1 3).trans (sF_k kn_75 (by decide)))
  generalize (sA (sF g_76 h 7 (.ref q_64)) q_77 56 12) = g_89 at hT hI hM hE r_78 r_79 r_80 r_81 n_82 n_83 n_84 kn_85 kn_86 kn_87 kn_88 hP zP
  refine W.widen (k := 8) (n := 222) (Nat.le_of_ble_eq_true rfl) (Nat.le_of_ble_eq_true rfl) ?_
  refine t_put0 (ci := 7) (v := .ref q_77) hB hT (ro_ci r_78 rfl) (ro_n0 r_78 (by decide)) rfl 8 (by decide) k_753 (Or.inr ⟨hin, rfl⟩) rfl rfl dX7_init_65 (fun H locs hT => ?_)
  have hI : Inv (sF g_89 h 8 (.ref q_77)) := hI.sF (fk r_78 (show fsm _ _ ft from trivial))
  have hM : Sm md_k_Model g (sF g_89 h 8 (.ref q_77)) := hM.tr hE (Sm_sF (by rw [r_78]; rfl))
  have hE : Ex g (sF g_89 h 8 (.ref q_77)) := hE
  have hP : PF [8, 7, 6, 5, 4, 3, 2, 1, 60, 52, 51, 50, 49, 38, 37, 36, 34, 30, 29, 24, 22, 21, 0] (sF g_89 h 8 (.ref q_77)) h := hP.put (q_8_8 (⟨_, rfl, r_81, n_84⟩))
  have zP : ZC (sF g_89 h 8 (.ref q_77)) q_15 := zP
  refine lv_aload_n hx hb dX7_init_68 rfl (lv_at hl 0 rfl) ?_
  refine lv_bipush (v := 12) hx hb dX7_init_69 (by decide) ?_
  refine t_newi (N' := 12) hB hT 54 (by decide) k_101 (by decide) (by decide) (by decide) (Nat.le_of_ble_eq_true rfl) (Nat.le_of_ble_eq_true rfl) dX7_init_71 (fun q_90 H o_q_90 hT => ?_)
  have z_q_90 : g.1 q_90 = 0 := hE.z0 o_q_90
  have hI : Inv (sA (sF g_89 h 8 (.ref q_77)) q_90 54 12) := hI.newi o_q_90 (by decide) (fun _ => rfl) ⟨by decide, by decide⟩ (fun _ => trivial)
  have hM : Sm md_k_Model g (sA (sF g_89 h 8 (.ref q_77)) q_90 54 12) := hM.tr hE (Sm.push o_q_90 sA_g)
  have hE : Ex g (sA (sF g_89 h 8 (.ref q_77)) q_90 54 12) := hE.tr (Ex.push o_q_90 sA_g)
  have hP : PF [8, 7, 6, 5, 4, 3, 2, 1, 60, 52, 51, 50, 49, 38, 37, 36, 34, 30, 29, 24, 22, 21, 0] (sA (sF g_89 h 8 (.ref q_77)) q_90 54 12) h := hP.pu (Ex.push o_q_90 sA_g) (sA_g h (ne0 r_78 o_q_90 (by decide))).2.1
  have zP : ZC (sA (sF g_89 h 8 (.ref q_77)) q_90 54 12) q_15 := zP.pu (sA_g q_15 (ne0 r_80 o_q_90 (by decide))).2.2.2.1
  have r_91 : (sA (sF g_89 h 8 (.ref q_77)) q_90 54 12).1 h = 18 := ((sA_g h (ne0 r_78 o_q_90 (by decide))).1.trans r_78)
  have r_92 : (sA (sF g_89 h 8 (.ref q_77)) q_90 54 12).1 q_8 = 71 := ((sA_g q_8 (ne0 r_79 o_q_90 (by decide))).1.trans r_79)
  have r_93 : (sA (sF g_89 h 8 (.ref q_77)) q_90 54 12).1 q_15 = 72 := ((sA_g q_15 (ne0 r_80 o_q_90 (by decide))).1.trans r_80)
  have r_94 : (sA (sF g_89 h 8 (.ref q_77)) q_90 54 12).1 q_90 = 54 := sA_r
  have n_95 : (sA (sF g_89 h 8 (.ref q_77)) q_90 54 12).2.2.1 q_8 = 48 := ((sA_g q_8 (ne0 r_79 o_q_90 (by decide))).2.2.1.trans n_82)
  have n_96 : (sA (sF g_89 h 8 (.ref q_77)) q_90 54 12).2.2.1 q_15 = 48 := ((sA_g q_15 (ne0 r_80 o_q_90 (by decide))).2.2.1.trans n_83)
  have n_97 : (sA (sF g_89 h 8 (.ref q_77)) q_90 54 12).2.2.1 q_90 = 12 := sA_n
  have kn_98 : (sA (sF g_89 h 8 (.ref q_77)) q_90 54 12).2.1 h 22 = .int 0 := ((congrFun (sA_g h (ne0 r_78 o_q_90 (by decide))).2.1 22).trans (sF_k kn_85 (by decide)))
  have kn_99 : (sA (sF g_89 h 8 (.ref q_77)) q_90 54 12).2.1 h 34 = .int 0 := ((congrFun (sA_g h (ne0 r_78 o_q_90 (by decide))).2.1 34).trans (sF_k kn_86 (by decide)))
  have kn_100 : (sA (sF g_89 h 8 (.ref q_77)) q_90 54 12).2.1 h 2 = .ref q_8 := ((congrFun (sA_g h (ne0 r_78 o_q_90 (by decide))).2.1 2).trans (sF_k kn_87 (by decide)))
  have kn_101 : (sA (sF g_89 h 8 (.ref q_77)) q_90 54 12).2.1 h 3 = .ref q_15 := ((congrFun (sA_g h (ne0 r_78 o_q_90 (by decide))).2.1 3).trans (sF_k kn_88 (by decide)))
  generalize (sA (sF g_89 h 8 (.ref q_77)) q_90 54 12) = g_102 at hT hI hM hE r_91 r_92 r_93 r_94 n_95 n_96 n_97 kn_98 kn_99 kn_100 kn_101 hP zP
  refine W.widen (k := 9) (n := 234) (Nat.le_of_ble_eq_true rfl) (Nat.le_of_ble_eq_true rfl) ?_
  refine t_put0 (ci := 7) (v := .ref q_90) hB hT (ro_ci r_91 rfl) (ro_n0 r_91 (by decide)) rfl 9 (by decide) k_754 (Or.inr ⟨hin, rfl⟩) rfl rfl dX7_init_73 (fun H locs hT => ?_)
  have hI : Inv (sF g_102 h 9 (.ref q_90)) := hI.sF (fk r_91 (show fsm _ _ ft from trivial))
  have hM : Sm md_k_Model g (sF g_102 h 9 (.ref q_90)) := hM.tr hE (Sm_sF (by rw [r_91]; rfl))
  have hE : Ex g (sF g_102 h 9 (.ref q_90)) := hE
  have hP : PF [9, 8, 7, 6, 5, 4, 3, 2, 1, 60, 52, 51, 50, 49, 38, 37, 36, 34, 30, 29, 24, 22, 21, 0] (sF g_102 h 9 (.ref q_90)) h := hP.put (q_8_9 (⟨_, rfl, r_94, n_97⟩))
  have zP : ZC (sF g_102 h 9 (.ref q_90)) q_15 := zP
  refine lv_aload_n hx hb dX7_init_76 rfl (lv_at hl 0 rfl) ?_
  refine lv_sipush (v := 192) hx hb dX7_init_77 (by decide) ?_
  refine t_newi (N' := 192) hB hT 50 (by decide) k_101 (by decide) (by decide) (by decide) (Nat.le_of_ble_eq_true rfl) (Nat.le_of_ble_eq_true rfl) dX7_init_80 (fun q_103 H o_q_103 hT => ?_)
  have z_q_103 : g.1 q_103 = 0 := hE.z0 o_q_103
  have hI : Inv (sA (sF g_102 h 9 (.ref q_90)) q_103 50 192) := hI.newi o_q_103 (by decide) (fun _ => rfl) trivial (fun _ => trivial)
  have hM : Sm md_k_Model g (sA (sF g_102 h 9 (.ref q_90)) q_103 50 192) := hM.tr hE (Sm.push o_q_103 sA_g)
  have hE : Ex g (sA (sF g_102 h 9 (.ref q_90)) q_103 50 192) := hE.tr (Ex.push o_q_103 sA_g)
  have hP : PF [9, 8, 7, 6, 5, 4, 3, 2, 1, 60, 52, 51, 50, 49, 38, 37, 36, 34, 30, 29, 24, 22, 21, 0] (sA (sF g_102 h 9 (.ref q_90)) q_103 50 192) h := hP.pu (Ex.push o_q_103 sA_g) (sA_g h (ne0 r_91 o_q_103 (by decide))).2.1
  have zP : ZC (sA (sF g_102 h 9 (.ref q_90)) q_103 50 192) q_15 := zP.pu (sA_g q_15 (ne0 r_93 o_q_103 (by decide))).2.2.2.1
  have r_104 : (sA (sF g_102 h 9 (.ref q_90)) q_103 50 192).1 h = 18 := ((sA_g h (ne0 r_91 o_q_103 (by decide))).1.trans r_91)
  have r_105 : (sA (sF g_102 h 9 (.ref q_90)) q_103 50 192).1 q_8 = 71 := ((sA_g q_8 (ne0 r_92 o_q_103 (by decide))).1.trans r_92)
  have r_106 : (sA (sF g_102 h 9 (.ref q_90)) q_103 50 192).1 q_15 = 72 := ((sA_g q_15 (ne0 r_93 o_q_103 (by decide))).1.trans r_93)
  have r_107 : (sA (sF g_102 h 9 (.ref q_90)) q_103 50 192).1 q_103 = 50 := sA_r
  have n_108 : (sA (sF g_102 h 9 (.ref q_90)) q_103 50 192).2.2.1 q_8 = 48 := ((sA_g q_8 (ne0 r_92 o_q_103 (by decide))).2.2.1.trans n_95)
  have n_109 : (sA (sF g_102 h 9 (.ref q_90)) q_103 50 192).2.2.1 q_15 = 48 := ((sA_g q_15 (ne0 r_93 o_q_103 (by decide))).2.2.1.trans n_96)
  have n_110 : (sA (sF g_102 h 9 (.ref q_90)) q_103 50 192).2.2.1 q_103 = 192 := sA_n
  have kn_111 : (sA (sF g_102 h 9 (.ref q_90)) q_103 50 192).2.1 h 22 = .int 0 := ((congrFun (sA_g h (ne0 r_91 o_q_103 (by decide))).2.1 22).trans (sF_k kn_98 (by decide)))
  have kn_112 : (sA (sF g_102 h 9 (.ref q_90)) q_103 50 192).2.1 h 34 = .int 0 := ((congrFun (sA_g h (ne0 r_91 o_q_103 (by decide))).2.1 34).trans (sF_k kn_99 (by decide)))
  have kn_113 : (sA (sF g_102 h 9 (.ref q_90)) q_103 50 192).2.1 h 2 = .ref q_8 := ((congrFun (sA_g h (ne0 r_91 o_q_103 (by decide))).2.1 2).trans (sF_k kn_100 (by decide)))
  have kn_114 : (sA (sF g_102 h 9 (.ref q_90)) q_103 50 192).2.1 h 3 = .ref q_15 := ((congrFun (sA_g h (ne0 r_91 o_q_103 (by decide))).2.1 3).trans (sF_k kn_101 (by decide)))
  generalize (sA (sF g_102 h 9 (.ref q_90)) q_103 50 192) = g_115 at hT hI hM hE r_104 r_105 r_106 r_107 n_108 n_109 n_110 kn_111 kn_112 kn_113 kn_114 hP zP
  refine W.widen (k := 10) (n := 426) (Nat.le_of_ble_eq_true rfl) (Nat.le_of_ble_eq_true rfl) ?_
  refine t_put0 (ci := 7) (v := .ref q_103) hB hT (ro_ci r_104 rfl) (ro_n0 r_104 (by decide)) rfl 10 (by decide) k_755 (Or.inr ⟨hin, rfl⟩) rfl rfl dX7_init_82 (fun H locs hT => ?_)
  have hI : Inv (sF g_115 h 10 (.ref q_103)) := hI.sF (fk r_104 (show fsm _ _ ft from trivial))
  have hM : Sm md_k_Model g (sF g_115 h 10 (.ref q_103)) := hM.tr hE (Sm_sF (by rw [r_104]; rfl))
  have hE : Ex g (sF g_115 h 10 (.ref q_103)) := hE
  have hP : PF [10, 9, 8, 7, 6, 5, 4, 3, 2, 1, 60, 52, 51, 50, 49, 38, 37, 36, 34, 30, 29, 24, 22, 21, 0] (sF g_115 h 10 (.ref q_103)) h := hP.put (q_8_10 (⟨_, rfl, r_107, n_110⟩))
  have zP : ZC (sF g_115 h 10 (.ref q_103)) q_15 := zP
  refine lv_aload_n hx hb dX7_init_85 rfl (lv_at hl 0 rfl) ?_
  refine lv_sipush (v := 192) hx hb dX7_init_86 (by decide) ?_
  refine t_newi (N' := 192) hB hT 50 (by decide) k_101 (by decide) (by decide) (by decide) (Nat.le_of_ble_eq_true rfl) (Nat.le_of_ble_eq_true rfl) dX7_init_89 (fun q_116 H o_q_116 hT => ?_)
  have z_q_116 : g.1 q_116 = 0 := hE.z0 o_q_116
  have hI : Inv (sA (sF g_115 h 10 (.ref q_103)) q_116 50 192) := hI.newi o_q_116 (by decide) (fun _ => rfl) trivial (fun _ => trivial)
  have hM : Sm md_k_Model g (sA (sF g_115 h 10 (.ref q_103)) q_116 50 192) := hM.tr hE (Sm.push o_q_116 sA_g)
  have hE : Ex g (sA (sF g_115 h 10 (.ref q_103)) q_116 50 192) := hE.tr (Ex.push o_q_116 sA_g)
  have hP : PF [10, 9, 8, 7, 6, 5, 4, 3, 2, 1, 60, 52, 51, 50, 49, 38, 37, 36, 34, 30, 29, 24, 22, 21, 0] (sA (sF g_115 h 10 (.ref q_103)) q_116 50 192) h := hP.pu (Ex.push o_q_116 sA_g) (sA_g h (ne0 r_104 o_q_116 (by decide))).2.1
  have zP : ZC (sA (sF g_115 h 10 (.ref q_103)) q_116 50 192) q_15 := zP.pu (sA_g q_15 (ne0 r_106 o_q_116 (by decide))).2.2.2.1
  have r_117 : (sA (sF g_115 h 10 (.ref q_103)) q_116 50 192).1 h = 18 := ((sA_g h (ne0 r_104 o_q_116 (by decide))).1.trans r_104)
  have r_118 : (sA (sF g_115 h 10 (.ref q_103)) q_116 50 192).1 q_8 = 71 := ((sA_g q_8 (ne0 r_105 o_q_116 (by decide))).1.trans r_105)
  have r_119 : (sA (sF g_115 h 10 (.ref q_103)) q_116 50 192).1 q_15 = 72 := ((sA_g q_15 (ne0 r_106 o_q_116 (by decide))).1.trans r_106)
  have r_120 : (sA (sF g_115 h 10 (.ref q_103)) q_116 50 192).1 q_116 = 50 := sA_r
  have n_121 : (sA (sF g_115 h 10 (.ref q_103)) q_116 50 192).2.2.1 q_8 = 48 := ((sA_g q_8 (ne0 r_105 o_q_116 (by decide))).2.2.1.trans n_108)
  have n_122 : (sA (sF g_115 h 10 (.ref q_103)) q_116 50 192).2.2.1 q_15 = 48 := ((sA_g q_15 (ne0 r_106 o_q_116 (by decide))).2.2.1.trans n_109)
  have n_123 : (sA (sF g_115 h 10 (.ref q_103)) q_116 50 192).2.2.1 q_116 = 192 := sA_n
  have kn_124 : (sA (sF g_115 h 10 (.ref q_103)) q_116 50 192).2.1 h 22 = .int 0 := ((congrFun (sA_g h (ne0 r_104 o_q_116 (by decide))).2.1 22).trans (sF_k kn_111 (by decide)))
  have kn_125 : (sA (sF g_115 h 10 (.ref q_103)) q_116 50 192).2.1 h 34 = .int 0 := ((congrFun (sA_g h (ne0 r_104 o_q_116 (by decide))).2.1 34).trans (sF_k kn_112 (by decide)))
  have kn_126 : (sA (sF g_115 h 10 (.ref q_103)) q_116 50 192).2.1 h 2 = .ref q_8 := ((congrFun (sA_g h (ne0 r_104 o_q_116 (by decide))).2.1 2).trans (sF_k kn_113 (by decide)))
  have kn_127 : (sA (sF g_115 h 10 (.ref q_103)) q_116 50 192).2.1 h 3 = .ref q_15 := ((congrFun (sA_g h (ne0 r_104 o_q_116 (by decide))).2.1 3).trans (sF_k kn_114 (by decide)))
  generalize (sA (sF g_115 h 10 (.ref q_103)) q_116 50 192) = g_128 at hT hI hM hE r_117 r_118 r_119 r_120 n_121 n_122 n_123 kn_124 kn_125 kn_126 kn_127 hP zP
  refine W.widen (k := 11) (n := 618) (Nat.le_of_ble_eq_true rfl) (Nat.le_of_ble_eq_true rfl) ?_
  refine t_put0 (ci := 7) (v := .ref q_116) hB hT (ro_ci r_117 rfl) (ro_n0 r_117 (by decide)) rfl 11 (by decide) k_756 (Or.inr ⟨hin, rfl⟩) rfl rfl dX7_init_91 (fun H locs hT => ?_)
  have hI : Inv (sF g_128 h 11 (.ref q_116)) := hI.sF (fk r_117 (show fsm _ _ ft from trivial))
  have hM : Sm md_k_Model g (sF g_128 h 11 (.ref q_116)) := hM.tr hE (Sm_sF (by rw [r_117]; rfl))
  have hE : Ex g (sF g_128 h 11 (.ref q_116)) := hE
  have hP : PF [11, 10, 9, 8, 7, 6, 5, 4, 3, 2, 1, 60, 52, 51, 50, 49, 38, 37, 36, 34, 30, 29, 24, 22, 21, 0] (sF g_128 h 11 (.ref q_116)) h := hP.put (q_8_11 (⟨_, rfl, r_120, n_123⟩))
  have zP : ZC (sF g_128 h 11 (.ref q_116)) q_15 := zP
  refine lv_aload_n hx hb dX7_init_94 rfl (lv_at hl 0 rfl) ?_
  refine lv_sipush (v := 192) hx hb dX7_init_95 (by decide) ?_
  refine t_newi (N' := 192) hB hT 58 (by decide) k_101 (by decide) (by decide) (by decide) (Nat.le_of_ble_eq_true rfl) (Nat.le_of_ble_eq_true rfl) dX7_init_98 (fun q_129 H o_q_129 hT => ?_)
  have z_q_129 : g.1 q_129 = 0 := hE.z0 o_q_129
  have hI : Inv (sA (sF g_128 h 11 (.ref q_116)) q_129 58 192) := hI.newi o_q_129 (by decide) (fun _ => rfl) ⟨by decide, by decide⟩ (fun _ => trivial)
  have hM : Sm md_k_Model g (sA (sF g_128 h 11 (.ref q_116)) q_129 58 192) := hM.tr hE (Sm.push o_q_129 sA_g)
  have hE : Ex g (sA (sF g_128 h 11 (.ref q_116)) q_129 58 192) := hE.tr (Ex.push o_q_129 sA_g)
  have hP : PF [11, 10, 9, 8, 7, 6, 5, 4, 3, 2, 1, 60, 52, 51, 50, 49, 38, 37, 36, 34, 30, 29, 24, 22, 21, 0] (sA (sF g_128 h 11 (.ref q_116)) q_129 58 192) h := hP.pu (Ex.push o_q_129 sA_g) (sA_g h (ne0 r_117 o_q_129 (by decide))).2.1
  have zP : ZC (sA (sF g_128 h 11 (.ref q_116)) q_129 58 192) q_15 := zP.pu (sA_g q_15 (ne0 r_119 o_q_129 (by decide))).2.2.2.1
  have r_130 : (sA (sF g_128 h 11 (.ref q_116)) q_129 58 192).1 h = 18 := ((sA_g h (ne0 r_117 o_q_129 (by decide))).1.trans r_117)
  have r_131 : (sA (sF g_128 h 11 (.ref q_116)) q_129 58 192).1 q_8 = 71 := ((sA_g q_8 (ne0 r_118 o_q_129 (by decide))).1.trans r_118)
  have r_132 : (sA (sF g_128 h 11 (.ref q_116)) q_129 58 192).1 q_15 = 72 := ((sA_g q_15 (ne0 r_119 o_q_129 (by decide))).1.trans r_119)
  have r_133 : (sA (sF g_128 h 11 (.ref q_116)) q_129 58 192).1 q_129 = 58 := sA_r
  have n_134 : (sA (sF g_128 h 11 (.ref q_116)) q_129 58 192).2.2.1 q_8 = 48 := ((sA_g q_8 (ne0 r_118 o_q_129 (by decide))).2.2.1.trans n_121)
  have n_135 : (sA (sF g_128 h 11 (.ref q_116)) q_129 58 192).2.2.1 q_15 = 48 := ((sA_g q_15 (ne0 r_119 o_q_129 (by decide))).2.2.1.trans n_122)
  have n_136 : (sA (sF g_128 h 11 (.ref q_116)) q_129 58 192).2.2.1 q_129 = 192 := sA_n
  have kn_137 : (sA (sF g_128 h 11 (.ref q_116)) q_129 58 192).2.1 h 22 = .int 0 := ((congrFun (sA_g h (ne0 r_117 o_q_129 (by decide))).2.1 22).trans (sF_k kn_124 (by decide)))
  have kn_138 : (sA (sF g_128 h 11 (.ref q_116)) q_129 58 192).2.1 h 34 = .int 0 := ((congrFun (sA_g h (ne0 r_117 o_q_129 (by decide))).2.1 34).trans (sF_k kn_125 (by decide)))
  have kn_139 : (sA (sF g_128 h 11 (.ref q_116)) q_129 58 192).2.1 h 2 = .ref q_8 := ((congrFun (sA_g h (ne0 r_117 o_q_129 (by decide))).2.1 2).trans (sF_k kn_126 (by decide)))
  have kn_140 : (sA (sF g_128 h 11 (.ref q_116)) q_129 58 192).2.1 h 3 = .ref q_15 := ((congrFun (sA_g h (ne0 r_117 o_q_129 (by decide))).2.1 3).trans (sF_k kn_127 (by decide)))
  generalize (sA (sF g_128 h 11 (.ref q_116)) q_129 58 192) = g_141 at hT hI hM hE r_130 r_131 r_132 r_133 n_134 n_135 n_136 kn_137 kn_138 kn_139 kn_140 hP zP
  refine W.widen (k := 12) (n := 810) (Nat.le_of_ble_eq_true rfl) (Nat.le_of_ble_eq_true rfl) ?_
  refine t_put0 (ci := 7) (v := .ref q_129) hB hT (ro_ci r_130 rfl) (ro_n0 r_130 (by decide)) rfl 12 (by decide) k_757 (Or.inr ⟨hin, rfl⟩) rfl rfl dX7_init_100 (fun H locs hT => ?_)
  have hI : Inv (sF g_141 h 12 (.ref q_129)) := hI.sF (fk r_130 (show fsm _ _ ft from trivial))
  have hM : Sm md_k_Model g (sF g_141 h 12 (.ref q_129)) := hM.tr hE (Sm_sF (by rw [r_130]; rfl))
  have hE : Ex g (sF g_141 h 12 (.ref q_129)) := hE
  have hP : PF [12, 11, 10, 9, 8, 7, 6, 5, 4, 3, 2, 1, 60, 52, 51, 50, 49, 38, 37, 36, 34, 30, 29, 24, 22, 21, 0] (sF g_141 h 12 (.ref q_129)) h := hP.put (q_8_12 (⟨_, rfl, r_133, n_136⟩))
  have zP : ZC (sF g_141 h 12 (.ref q_129)) q_15 := zP
  refine lv_aload_n hx hb dX7_init_103 rfl (lv_at hl 0 rfl) ?_
  refine lv_sipush (v := 192) hx hb dX7_init_104 (by decide) ?_
  refine t_newi (N' := 192) hB hT 50 (by decide) k_101 (by decide) (by decide) (by decide) (Nat.le_of_ble_eq_true rfl) (Nat.le_of_ble_eq_true rfl) dX7_init_107 (fun q_142 H o_q_142 hT => ?_)
  have z_q_142 : g.1 q_142 = 0 := hE.z0 o_q_142
  have hI : Inv (sA (sF g_141 h 12 (.ref q_129)) q_142 50 192) := hI.newi o_q_142 (by decide) (fun _ => rfl) trivial (fun _ => trivial)
  have hM : Sm md_k_Model g (sA (sF g_141 h 12 (.ref q_129)) q_142 50 192) := hM.tr hE (Sm.push o_q_142 sA_g)
  have hE : Ex g (sA (sF g_141 h 12 (.ref q_129)) q_142 50 192) := hE.tr (Ex.push o_q_142 sA_g)
  have hP : PF [12, 11, 10, 9, 8, 7, 6, 5, 4, 3, 2, 1, 60, 52, 51, 50, 49, 38, 37, 36, 34, 30, 29, 24, 22, 21, 0] (sA (sF g_141 h 12 (.ref q_129)) q_142 50 192) h := hP.pu (Ex.push o_q_142 sA_g) (sA_g h (ne0 r_130 o_q_142 (by decide))).2.1
  have zP : ZC (sA (sF g_141 h 12 (.ref q_129)) q_142 50 192) q_15 := zP.pu (sA_g q_15 (ne0 r_132 o_q_142 (by decide))).2.2.2.1
  have r_143 : (sA (sF g_141 h 12 (.ref q_129)) q_142 50 192).1 h = 18 := ((sA_g h (ne0 r_130 o_q_142 (by decide))).1.trans r_130)
  have r_144 : (sA (sF g_141 h 12 (.ref q_129)) q_142 50 192).1 q_8 = 71 := ((sA_g q_8 (ne0 r_131 o_q_142 (by decide))).1.trans r_131)
  have r_145 : (sA (sF g_141 h 12 (.ref q_129)) q_142 50 192).1 q_15 = 72 := ((sA_g q_15 (ne0 r_132 o_q_142 (by decide))).1.trans r_132)
  have r_146 : (sA (sF g_141 h 12 (.ref q_129)) q_142 50 192).1 q_142 = 50 := sA_r
  have n_147 : (sA (sF g_141 h 12 (.ref q_129)) q_142 50 192).2.2.1 q_8 = 48 := ((sA_g q_8 (ne0 r_131 o_q_142 (by decide))).2.2.1.trans n_134)
  have n_148 : (sA (sF g_141 h 12 (.ref q_129)) q_142 50 192).2.2.1 q_15 = 48 := ((sA_g q_15 (ne0 r_132 o_q_142 (by decide))).2.2.1.trans n_135)
  have n_149 : (sA (sF g_141 h 12 (.ref q_129)) q_142 50 192).2.2.1 q_142 = 192 := sA_n
  have kn_150 : (sA (sF g_141 h 12 (.ref q_129)) q_142 50 192).2.1 h 22 = .int 0 := ((congrFun (sA_g h (ne0 r_130 o_q_142 (by decide))).2.1 22).trans (sF_k kn_137 (by decide)))
  have kn_151 : (sA (sF g_141 h 12 (.ref q_129)) q_142 50 192).2.1 h 34 = .int 0 := ((congrFun (sA_g h (ne0 r_130 o_q_142 (by decide))).2.1 34).trans (sF_k kn_138 (by decide)))
  have kn_152 : (sA (sF g_141 h 12 (.ref q_129)) q_142 50 192).2.1 h 2 = .ref q_8 := ((congrFun (sA_g h (ne0 r_130 o_q_142 (by decide))).2.1 2).trans (sF_k kn_139 (by decide)))
  have kn_153 : (sA (sF g_141 h 12 (.ref q_129)) q_142 50 192).2.1 h 3 = .ref q_15 := ((congrFun (sA_g h (ne0 r_130 o_q_142 (by decide))).2.1 3).trans (sF_k kn_140 (by decide)))
  generalize (sA (sF g_141 h 12 (.ref q_129)) q_142 50 192) = g_154 at hT hI hM hE r_143 r_144 r_145 r_146 n_147 n_148 n_149 kn_150 kn_151 kn_152 kn_153 hP zP
  refine W.widen (k := 13) (n := 1002) (Nat.le_of_ble_eq_true rfl) (Nat.le_of_ble_eq_true rfl) ?_
  refine t_put0 (ci := 7) (v := .ref q_142) hB hT (ro_ci r_143 rfl) (ro_n0 r_143 (by decide)) rfl 13 (by decide) k_758 (Or.inr ⟨hin, rfl⟩) rfl rfl dX7_init_109 (fun H locs hT => ?_)
  have hI : Inv (sF g_154 h 13 (.ref q_142)) := hI.sF (fk r_143 (show fsm _ _ ft from trivial))
  have hM : Sm md_k_Model g (sF g_154 h 13 (.ref q_142)) := hM.tr hE (Sm_sF (by rw [r_143]; rfl))
  have hE : Ex g (sF g_154 h 13 (.ref q_142)) := hE
  have hP : PF [13, 12, 11, 10, 9, 8, 7, 6, 5, 4, 3, 2, 1, 60, 52, 51, 50, 49, 38, 37, 36, 34, 30, 29, 24, 22, 21, 0] (sF g_154 h 13 (.ref q_142)) h := hP.put (q_8_13 (⟨_, rfl, r_146, n_149⟩))
  have zP : ZC (sF g_154 h 13 (.ref q_142)) q_15 := zP
  refine lv_aload_n hx hb dX7_init_112 rfl (lv_at hl 0 rfl) ?_
  refine lv_iconst (v := 2) hx hb dX7_init_113 (by decide) ?_
  refine t_newi (N' := 2) hB hT 50 (by decide) k_101 (by decide) (by decide) (by decide) (Nat.le_of_ble_eq_true rfl) (Nat.le_of_ble_eq_true rfl) dX7_init_114 (fun q_155 H o_q_155 hT => ?_)
  have z_q_155 : g.1 q_155 = 0 := hE.z0 o_q_155
  have hI : Inv (sA (sF g_154 h 13 (.ref q_142)) q_155 50 2) := hI.newi o_q_155 (by decide) (fun _ => rfl) trivial (fun _ => trivial)
  have hM : Sm md_k_Model g (sA (sF g_154 h 13 (.ref q_142)) q_155 50 2) := hM.tr hE (Sm.push o_q_155 sA_g)
  have hE : Ex g (sA (sF g_154 h 13 (.ref q_142)) q_155 50 2) := hE.tr (Ex.push o_q_155 sA_g)
  have hP : PF [13, 12, 11, 10, 9, 8, 7, 6, 5, 4, 3, 2, 1, 60, 52, 51, 50, 49, 38, 37, 36, 34, 30, 29, 24, 22, 21, 0] (sA (sF g_154 h 13 (.ref q_142)) q_155 50 2) h := hP.pu (Ex.push o_q_155 sA_g) (sA_g h (ne0 r_143 o_q_155 (by decide))).2.1
  have zP : ZC (sA (sF g_154 h 13 (.ref q_142)) q_155 50 2) q_15 := zP.pu (sA_g q_15 (ne0 r_145 o_q_155 (by decide))).2.2.2.1
  have r_156 : (sA (sF g_154 h 13 (.ref q_142)) q_155 50 2).1 h = 18 := ((sA_g h (ne0 r_143 o_q_155 (by decide))).1.trans r_143)
  have r_157 : (sA (sF g_154 h 13 (.ref q_142)) q_155 50 2).1 q_8 = 71 := ((sA_g q_8 (ne0 r_144 o_q_155 (by decide))).1.trans r_144)
  have r_158 : (sA (sF g_154 h 13 (.ref q_142)) q_155 50 2).1 q_15 = 72 := ((sA_g q_15 (ne0 r_145 o_q_155 (by decide))).1.trans r_145)
  have r_159 : (sA (sF g_154 h 13 (.ref q_142)) q_155 50 2).1 q_155 = 50 := sA_r
  have n_160 : (sA (sF g_154 h 13 (.ref q_142)) q_155 50 2).2.2.1 q_8 = 48 := ((sA_g q_8 (ne0 r_144 o_q_155 (by decide))).2.2.1.trans n_147)
  have n_161 : (sA (sF g_154 h 13 (.ref q_142)) q_155 50 2).2.2.1 q_15 = 48 := ((sA_g q_15 (ne0 r_145 o_q_155 (by decide))).2.2.1.trans n_148)
  have n_162 : (sA (sF g_154 h 13 (.ref q_142)) q_155 50 2).2.2.1 q_155 = 2 := sA_n
  have kn_163 : (sA (sF g_154 h 13 (.ref q_142)) q_155 50 2).2.1 h 22 = .int 0 := ((congrFun (sA_g h (ne0 r_143 o_q_155 (by decide))).2.1 22).trans (sF_k kn_150 (by decide)))
  have kn_164 : (sA (sF g_154 h 13 (.ref q_142)) q_155 50 2).2.1 h 34 = .int 0 := ((congrFun (sA_g h (ne0 r_143 o_q_155 (by decide))).2.1 34).trans (sF_k kn_151 (by decide)))
  have kn_165 : (sA (sF g_154 h 13 (.ref q_142)) q_155 50 2).2.1 h 2 = .ref q_8 := ((congrFun (sA_g h (ne0 r_143 o_q_155 (by decide))).2.1 2).trans (sF_k kn_152 (by decide)))
  have kn_166 : (sA (sF g_154 h 13 (.ref q_142)) q_155 50 2).2.1 h 3 = .ref q_15 := ((congrFun (sA_g h (ne0 r_143 o_q_155 (by decide))).2.1 3).trans (sF_k kn_153 (by decide)))
  generalize (sA (sF g_154 h 13 (.ref q_142)) q_155 50 2) = g_167 at hT hI hM hE r_156 r_157 r_158 r_159 n_160 n_161 n_162 kn_163 kn_164 kn_165 kn_166 hP zP
  refine W.widen (k := 14) (n := 1004) (Nat.le_of_ble_eq_true rfl) (Nat.le_of_ble_eq_true rfl) ?_
  refine t_put0 (ci := 7) (v := .ref q_155) hB hT (ro_ci r_156 rfl) (ro_n0 r_156 (by decide)) rfl 14 (by decide) k_759 (Or.inr ⟨hin, rfl⟩) rfl rfl dX7_init_116 (fun H locs hT => ?_)
  have hI : Inv (sF g_167 h 14 (.ref q_155)) := hI.sF (fk r_156 (show fsm _ _ ft from trivial))
  have hM : Sm md_k_Model g (sF g_167 h 14 (.ref q_155)) := hM.tr hE (Sm_sF (by rw [r_156]; rfl))
  have hE : Ex g (sF g_167 h 14 (.ref q_155)) := hE
  have hP : PF [14, 13, 12, 11, 10, 9, 8, 7, 6, 5, 4, 3, 2, 1, 60, 52, 51, 50, 49, 38, 37, 36, 34, 30, 29, 24, 22, 21, 0] (sF g_167 h 14 (.ref q_155)) h := hP.put (q_8_14 (⟨_, rfl, r_159, n_162⟩))
  have zP : ZC (sF g_167 h 14 (.ref q_155)) q_15 := zP
  refine lv_aload_n hx hb dX7_init_119 rfl (lv_at hl 0 rfl) ?_
  refine lv_bipush (v := 12) hx hb dX7_init_120 (by decide) ?_
  refine t_newi (N' := 12) hB hT 50 (by decide) k_101 (by decide) (by decide) (by decide) (Nat.le_of_ble_eq_true rfl) (Nat.le_of_ble_eq_true rfl) dX7_init_122 (fun q_168 H o_q_168 hT => ?_)
  have z_q_168 : g.1 q_168 = 0 := hE.z0 o_q_168
  have hI : Inv (sA (sF g_167 h 14 (.ref q_155)) q_168 50 12) := hI.newi o_q_168 (by decide) (fun _ => rfl) trivial (fun _ => trivial)
  have hM : Sm md_k_Model g (sA (sF g_167 h 14 (.ref q_155)) q_168 50 12) := hM.tr hE (Sm.push o_q_168 sA_g)
  have hE : Ex g (sA (sF g_167 h 14 (.ref q_155)) q_168 50 12) := hE.tr (Ex.push o_q_168 sA_g)
  have hP : PF [14, 13, 12, 11, 10, 9, 8, 7, 6, 5, 4, 3, 2, 1, 60, 52, 51, 50, 49, 38, 37, 36, 34, 30, 29, 24, 22, 21, 0] (sA (sF g_167 h 14 (.ref q_155)) q_168 50 12) h := hP.pu (Ex.push o_q_168 sA_g) (sA_g h (ne0 r_156 o_q_168 (by decide))).2.1
  have zP : ZC (sA (sF g_167 h 14 (.ref q_155)) q_168 50 12) q_15 := zP.pu (sA_g q_15 (ne0 r_158 o_q_168 (by decide))).2.2.2.1
  have r_169 : (sA (sF g_167 h 14 (.ref q_155)) q_168 50 12).1 h = 18 := ((sA_g h (ne0 r_156 o_q_168 (by decide))).1.trans r_156)
  have r_170 : (sA (sF g_167 h 14 (.ref q_155)) q_168 50 12).1 q_8 = 71 := ((sA_g q_8 (ne0 r_157 o_q_168 (by decide))).1.trans r_157)
  have r_171 : (sA (sF g_167 h 14 (.ref q_155)) q_168 50 12).1 q_15 = 72 := ((sA_g q_15 (ne0 r_158 o_q_168 (by decide))).1.trans r_158)
  have r_172 : (sA (sF g_167 h 14 (.ref q_155)) q_168 50 12).1 q_168 = 50 := sA_r
  have n_173 : (sA (sF g_167 h 14 (.ref q_155)) q_168 50 12).2.2.1 q_8 = 48 := ((sA_g q_8 (ne0 r_157 o_q_168 (by decide))).2.2.1.trans n_160)
  have n_174 : (sA (sF g_167 h 14 (.ref q_155)) q_168 50 12).2.2.1 q_15 = 48 := ((sA_g q_15 (ne0 r_158 o_q_168 (by decide))).2.2.1.trans n_161)
  have n_175 : (sA (sF g_167 h 14 (.ref q_155)) q_168 50 12).2.2.1 q_168 = 12 := sA_n
  have kn_176 : (sA (sF g_167 h 14 (.ref q_155)) q_168 50 12).2.1 h 22 = .int 0 := ((congrFun (sA_g h (ne0 r_156 o_q_168 (by decide))).2.1 22).trans (sF_k kn_163 (by decide)))
  have kn_177 : (sA (sF g_167 h 14 (.ref q_155)) q_168 50 12).2.1 h 34 = .int 0 := ((congrFun (sA_g h (ne0 r_156 o_q_168 (by decide))).2.1 34).trans (sF_k kn_164 (by decide)))
  have kn_178 : (sA (sF g_167 h 14 (.ref q_155)) q_168 50 12).2.1 h 2 = .ref q_8 := ((congrFun (sA_g h (ne0 r_156 o_q_168 (by decide))).2.1 2).trans (sF_k kn_165 (by decide)))
  have kn_179 : (sA (sF g_167 h 14 (.ref q_155)) q_168 50 12).2.1 h 3 = .ref q_15 := ((congrFun (sA_g h (ne0 r_156 o_q_168 (by decide))).2.1 3).trans (sF_k kn_166 (by decide)))
  generalize (sA (sF g_167 h 14 (.ref q_155)) q_168 50 12) = g_180 at hT hI hM hE r_169 r_170 r_171 r_172 n_173 n_174 n_175 kn_176 kn_177 kn_178 kn_179 hP zP
  refine W.widen (k := 15) (n := 1016) (Nat.le_of_ble_eq_true rfl) (Nat.le_of_ble_eq_true rfl) ?_
  refine t_put0 (ci := 7) (v := .ref q_168) hB hT (ro_ci r_169 rfl) (ro_n0 r_169 (by decide)) rfl 15 (by decide) k_760 (Or.inr ⟨hin, rfl⟩) rfl rfl dX7_init_124 (fun H locs hT => ?_)
  have hI : Inv (sF g_180 h 15 (.ref q_168)) := hI.sF (fk r_169 (show fsm _ _ ft from trivial))
  have hM : Sm md_k_Model g (sF g_180 h 15 (.ref q_168)) := hM.tr hE (Sm_sF (by rw [r_169]; rfl))
  have hE : Ex g (sF g_180 h 15 (.ref q_168)) := hE
  have hP : PF [15, 14, 13, 12, 11, 10, 9, 8, 7, 6, 5, 4, 3, 2, 1, 60, 52, 51, 50, 49, 38, 37, 36, 34, 30, 29, 24, 22, 21, 0] (sF g_180 h 15 (.ref q_168)) h := hP.put (q_8_15 (⟨_, rfl, r_172, n_175⟩))
  have zP : ZC (sF g_180 h 15 (.ref q_168)) q_15 := zP
  refine lv_aload_n hx hb dX7_init_127 rfl (lv_at hl 0 rfl) ?_
  refine lv_bipush (v := 12) hx hb dX7_init_128 (by decide) ?_
  refine t_newi (N' := 12) hB hT 50 (by decide) k_101 (by decide) (by decide) (by decide) (Nat.le_of_ble_eq_true rfl) (Nat.le_of_ble_eq_true rfl) dX7_init_130 (fun q_181 H o_q_181 hT => ?_)
  have z_q_181 : g.1 q_181 = 0 := hE.z0 o_q_181
  have hI : Inv (sA (sF g_180 h 15 (.ref q_168)) q_181 50 12) := hI.newi o_q_181 (by decide) (fun _ => rfl) trivial (fun _ => trivial)
  have hM : Sm md_k_Model g (sA (sF g_180 h 15 (.ref q_168)) q_181 50 12) := hM.tr hE (Sm.push o_q_181 sA_g)
  have hE : Ex g (sA (sF g_180 h 15 (.ref q_168)) q_181 50 12) := hE.tr (Ex.push o_q_181 sA_g)
  have hP : PF [15, 14, 13, 12, 11, 10, 9, 8, 7, 6, 5, 4, 3, 2, 1, 60, 52, 51, 50, 49, 38, 37, 36, 34, 30, 29, 24, 22, 21, 0] (sA (sF g_180 h 15 (.ref q_168)) q_181 50 12) h := hP.pu (Ex.push o_q_181 sA_g) (sA_g h (ne0 r_169 o_q_181 (by decide))).2.1
  have zP : ZC (sA (sF g_180 h 15 (.ref q_168)) q_181 50 12) q_15 := zP.pu (sA_g q_15 (ne0 r_171 o_q_181 (by decide))).2.2.2.1
  have r_182 : (sA (sF g_180 h 15 (.ref q_168)) q_181 50 12).1 h = 18 := ((sA_g h (ne0 r_169 o_q_181 (by decide))).1.trans r_169)
  have r_183 : (sA (sF g_180 h 15 (.ref q_168)) q_181 50 12).1 q_8 = 71 := ((sA_g q_8 (ne0 r_170 o_q_181 (by decide))).1.trans r_170)
  have r_184 : (sA (sF g_180 h 15 (.ref q_168)) q_181 50 12).1 q_15 = 72 := ((sA_g q_15 (ne0 r_171 o_q_181 (by decide))).1.trans r_171)
  have r_185 : (sA (sF g_180 h 15 (.ref q_168)) q_181 50 12).1 q_181 = 50 := sA_r
  have n_186 : (sA (sF g_180 h 15 (.ref q_168)) q_181 50 12).2.2.1 q_8 = 48 := ((sA_g q_8 (ne0 r_170 o_q_181 (by decide))).2.2.1.trans n_173)
  have n_187 : (sA (sF g_180 h 15 (.ref q_168)) q_181 50 12).2.2.1 q_15 = 48 := ((sA_g q_15 (ne0 r_171 o_q_181 (by decide))).2.2.1.trans n_174)
  have n_188 : (sA (sF g_180 h 15 (.ref q_168)) q_181 50 12).2.2.1 q_181 = 12 := sA_n
  have kn_189 : (sA (sF g_180 h 15 (.ref q_168)) q_181 50 12).2.1 h 22 = .int 0 := ((congrFun (sA_g h (ne0 r_169 o_q_181 (by decide))).2.1 22).trans (sF_k kn_176 (by decide)))
  have kn_190 : (sA (sF g_180 h 15 (.ref q_168)) q_181 50 12).2.1 h 34 = .int 0 := ((congrFun (sA_g h (ne0 r_169 o_q_181 (by decide))).2.1 34).trans (sF_k kn_177 (by decide)))
  have kn_191 : (sA (sF g_180 h 15 (.ref q_168)) q_181 50 12).2.1 h 2 = .ref q_8 := ((congrFun (sA_g h (ne0 r_169 o_q_181 (by decide))).2.1 2).trans (sF_k kn_178 (by decide)))
  have kn_192 : (sA (sF g_180 h 15 (.ref q_168)) q_181 50 12).2.1 h 3 = .ref q_15 := ((congrFun (sA_g h (ne0 r_169 o_q_181 (by decide))).2.1 3).trans (sF_k kn_179 (by decide)))
  generalize (sA (sF g_180 h 15 (.ref q_168)) q_181 50 12) = g_193 at hT hI hM hE r_182 r_183 r_184 r_185 n_186 n_187 n_188 kn_189 kn_190 kn_191 kn_192 hP zP
  refine W.widen (k := 16) (n := 1028) (Nat.le_of_ble_eq_true rfl) (Nat.le_of_ble_eq_true rfl) ?_
  refine t_put0 (ci := 7) (v := .ref q_181) hB hT (ro_ci r_182 rfl) (ro_n0 r_182 (by decide)) rfl 16 (by decide) k_761 (Or.inr ⟨hin, rfl⟩) rfl rfl dX7_init_132 (fun H locs hT => ?_)
  have hI : Inv (sF g_193 h 16 (.ref q_181)) := hI.sF (fk r_182 (show fsm _ _ ft from trivial))
  have hM : Sm md_k_Model g (sF g_193 h 16 (.ref q_181)) := hM.tr hE (Sm_sF (by rw [r_182]; rfl))
  have hE : Ex g (sF g_193 h 16 (.ref q_181)) := hE
  have hP : PF [16, 15, 14, 13, 12, 11, 10, 9, 8, 7, 6, 5, 4, 3, 2, 1, 60, 52, 51, 50, 49, 38, 37, 36, 34, 30, 29, 24, 22, 21, 0] (sF g_193 h 16 (.ref q_181)) h := hP.put (q_8_16 (⟨_, rfl, r_185, n_188⟩))
  have zP : ZC (sF g_193 h 16 (.ref q_181)) q_15 := zP
  refine lv_aload_n hx hb dX7_init_135 rfl (lv_at hl 0 rfl) ?_
  refine lv_bipush (v := 96) hx hb dX7_init_136 (by decide) ?_
  refine t_newi (N' := 96) hB hT 50 (by decide) k_101 (by decide) (by decide) (by decide) (Nat.le_of_ble_eq_true rfl) (Nat.le_of_ble_eq_true rfl) dX7_init_138 (fun q_194 H o_q_194 hT => ?_)
  have z_q_194 : g.1 q_194 = 0 := hE.z0 o_q_194
  have hI : Inv (sA (sF g_193 h 16 (.ref q_181)) q_194 50 96) := hI.newi o_q_194 (by decide) (fun _ => rfl) trivial (fun _ => trivial)
  have hM : Sm md_k_Model g (sA (sF g_193 h 16 (.ref q_181)) q_194 50 96) := hM.tr hE (Sm.push o_q_194 sA_g)
  have hE : Ex g (sA (sF g_193 h 16 (.ref q_181)) q_194 50 96) := hE.tr (Ex.push o_q_194 sA_g)
  have hP : PF [16, 15, 14, 13, 12, 11, 10, 9, 8, 7, 6, 5, 4, 3, 2, 1, 60, 52, 51, 50, 49, 38, 37, 36, 34, 30, 29, 24, 22, 21, 0] (sA (sF g_193 h 16 (.ref q_181)) q_194 50 96) h := hP.pu (Ex.push o_q_194 sA_g) (sA_g h (ne0 r_182 o_q_194 (by decide))).2.1
  have zP : ZC (sA (sF g_193 h 16 (.ref q_181)) q_194 50 96) q_15 := zP.pu (sA_g q_15 (ne0 r_184 o_q_194 (by decide))).2.2.2.1
  have r_195 : (sA (sF g_193 h 16 (.ref q_181)) q_194 50 96).1 h = 18 := ((sA_g h (ne0 r_182 o_q_194 (by decide))).1.trans r_182)
  have r_196 : (sA (sF g_193 h 16 (.ref q_181)) q_194 50 96).1 q_8 = 71 := ((sA_g q_8 (ne0 r_183 o_q_194 (by decide))).1.trans r_183)
  have r_197 : (sA (sF g_193 h 16 (.ref q_181)) q_194 50 96).1 q_15 = 72 := ((sA_g q_15 (ne0 r_184 o_q_194 (by decide))).1.trans r_184)
  have r_198 : (sA (sF g_193 h 16 (.ref q_181)) q_194 50 96).1 q_194 = 50 := sA_r
  have n_199 : (sA (sF g_193 h 16 (.ref q_181)) q_194 50 96).2.2.1 q_8 = 48 := ((sA_g q_8 (ne0 r_183 o_q_194 (by decide))).2.2.1.trans n_186)
  have n_200 : (sA (sF g_193 h 16 (.ref q_181)) q_194 50 96).2.2.1 q_15 = 48 := ((sA_g q_15 (ne0 r_184 o_q_194 (by decide))).2.2.1.trans n_187)
  have n_201 : (sA (sF g_193 h 16 (.ref q_181)) q_194 50 96).2.2.1 q_194 = 96 := sA_n
  have kn_202 : (sA (sF g_193 h 16 (.ref q_181)) q_194 50 96).2.1 h 22 = .int 0 := ((congrFun (sA_g h (ne0 r_182 o_q_194 (by decide))).2.1 22).trans (sF_k kn_189 (by decide)))
  have kn_203 : (sA (sF g_193 h 16 (.ref q_181)) q_194 50 96).2.1 h 34 = .int 0 := ((congrFun (sA_g h (ne0 r_182 o_q_194 (by decide))).2.1 34).trans (sF_k kn_190 (by decide)))
  have kn_204 : (sA (sF g_193 h 16 (.ref q_181)) q_194 50 96).2.1 h 2 = .ref q_8 := ((congrFun (sA_g h (ne0 r_182 o_q_194 (by decide))).2.1 2).trans (sF_k kn_191 (by decide)))
  have kn_205 : (sA (sF g_193 h 16 (.ref q_181)) q_194 50 96).2.1 h 3 = .ref q_15 := ((congrFun (sA_g h (ne0 r_182 o_q_194 (by decide))).2.1 3).trans (sF_k kn_192 (by decide)))
  generalize (sA (sF g_193 h 16 (.ref q_181)) q_194 50 96) = g_206 at hT hI hM hE r_195 r_196 r_197 r_198 n_199 n_200 n_201 kn_202 kn_203 kn_204 kn_205 hP zP
  refine W.widen (k := 17) (n := 1124) (Nat.le_of_ble_eq_true rfl) (Nat.le_of_ble_eq_true rfl) ?_
  refine t_put0 (ci := 7) (v := .ref q_194) hB hT (ro_ci r_195 rfl) (ro_n0 r_195 (by decide)) rfl 17 (by decide) k_762 (Or.inr ⟨hin, rfl⟩) rfl rfl dX7_init_140 (fun H locs hT => ?_)
  have hI : Inv (sF g_206 h 17 (.ref q_194)) := hI.sF (fk r_195 (show fsm _ _ ft from trivial))
  have hM : Sm md_k_Model g (sF g_206 h 17 (.ref q_194)) := hM.tr hE (Sm_sF (by rw [r_195]; rfl))
  have hE : Ex g (sF g_206 h 17 (.ref q_194)) := hE
  have hP : PF [17, 16, 15, 14, 13, 12, 11, 10, 9, 8, 7, 6, 5, 4, 3, 2, 1, 60, 52, 51, 50, 49, 38, 37, 36, 34, 30, 29, 24, 22, 21, 0] (sF g_206 h 17 (.ref q_194)) h := hP.put (q_8_17 (⟨_, rfl, r_198, n_201⟩))
  have zP : ZC (sF g_206 h 17 (.ref q_194)) q_15 := zP
  refine lv_aload_n hx hb dX7_init_143 rfl (lv_at hl 0 rfl) ?_
  refine lv_bipush (v := 96) hx hb dX7_init_144 (by decide) ?_
  refine t_newi (N' := 96) hB hT 50 (by decide) k_101 (by decide) (by decide) (by decide) (Nat.le_of_ble_eq_true rfl) (Nat.le_of_ble_eq_true rfl) dX7_init_146 (fun q_207 H o_q_207 hT => ?_)
  have z_q_207 : g.1 q_207 = 0 := hE.z0 o_q_207
  have hI : Inv (sA (sF g_206 h 17 (.ref q_194)) q_207 50 96) := hI.newi o_q_207 (by decide) (fun _ => rfl) trivial (fun _ => trivial)
  have hM : Sm md_k_Model g (sA (sF g_206 h 17 (.ref q_194)) q_207 50 96) := hM.tr hE (Sm.push o_q_207 sA_g)
  have hE : Ex g (sA (sF g_206 h 17 (.ref q_194)) q_207 50 96) := hE.tr (Ex.push o_q_207 sA_g)
  have hP : PF [17, 16, 15, 14, 13, 12, 11, 10, 9, 8, 7, 6, 5, 4, 3, 2, 1, 60, 52, 51, 50, 49, 38, 37, 36, 34, 30, 29, 24, 22, 21, 0] (sA (sF g_206 h 17 (.ref q_194)) q_207 50 96) h := hP.pu (Ex.push o_q_207 sA_g) (sA_g h (ne0 r_195 o_q_207 (by decide))).2.1
  have zP : ZC (sA (sF g_206 h 17 (.ref q_194)) q_207 50 96) q_15 := zP.pu (sA_g q_15 (ne0 r_197 o_q_207 (by decide))).2.2.2.1
  have r_208 : (sA (sF g_206 h 17 (.ref q_194)) q_207 50 96).1 h = 18 := ((sA_g h (ne0 r_195 o_q_207 (by decide))).1.trans r_195)
  have r_209 : (sA (sF g_206 h 17 (.ref q_194)) q_207 50 96).1 q_8 = 71 := ((sA_g q_8 (ne0 r_196 o_q_207 (by decide))).1.trans r_196)
  have r_210 : (sA (sF g_206 h 17 (.ref q_194)) q_207 50 96).1 q_15 = 72 := ((sA_g q_15 (ne0 r_197 o_q_207 (by decide))).1.trans r_197)
  have r_211 : (sA (sF g_206 h 17 (.ref q_194)) q_207 50 96).1 q_207 = 50 := sA_r
  have n_212 : (sA (sF g_206 h 17 (.ref q_194)) q_207 50 96).2.2.1 q_8 = 48 := ((sA_g q_8 (ne0 r_196 o_q_207 (by decide))).2.2.1.trans n_199)
  have n_213 : (sA (sF g_206 h 17 (.ref q_194)) q_207 50 96).2.2.1 q_15 = 48 := ((sA_g q_15 (ne0 r_197 o_q_207 (by decide))).2.2.1.trans n_200)
  have n_214 : (sA (sF g_206 h 17 (.ref q_194)) q_207 50 96).2.2.1 q_207 = 96 := sA_n
  have kn_215 : (sA (sF g_206 h 17 (.ref q_194)) q_207 50 96).2.1 h 22 = .int 0 := ((congrFun (sA_g h (ne0 r_195 o_q_207 (by decide))).2.1 22).trans (sF_k kn_202 (by decide)))
  have kn_216 : (sA (sF g_206 h 17 (.ref q_194)) q_207 50 96).2.1 h 34 = .int 0 := ((congrFun (sA_g h (ne0 r_195 o_q_207 (by decide))).2.1 34).trans (sF_k kn_203 (by decide)))
  have kn_217 : (sA (sF g_206 h 17 (.ref q_194)) q_207 50 96).2.1 h 2 = .ref q_8 := ((congrFun (sA_g h (ne0 r_195 o_q_207 (by decide))).2.1 2).trans (sF_k kn_204 (by decide)))
  have kn_218 : (sA (sF g_206 h 17 (.ref q_194)) q_207 50 96).2.1 h 3 = .ref q_15 := ((congrFun (sA_g h (ne0 r_195 o_q_207 (by decide))).2.1 3).trans (sF_k kn_205 (by decide)))
  generalize (sA (sF g_206 h 17 (.ref q_194)) q_207 50 96) = g_219 at hT hI hM hE r_208 r_209 r_210 r_211 n_212 n_213 n_214 kn_215 kn_216 kn_217 kn_218 hP zP
  refine W.widen (k := 18) (n := 1220) (Nat.le_of_ble_eq_true rfl) (Nat.le_of_ble_eq_true rfl) ?_
  refine t_put0 (ci := 7) (v := .ref q_207) hB hT (ro_ci r_208 rfl) (ro_n0 r_208 (by decide)) rfl 18 (by decide) k_763 (Or.inr ⟨hin, rfl⟩) rfl rfl dX7_init_148 (fun H locs hT => ?_)
  have hI : Inv (sF g_219 h 18 (.ref q_207)) := hI.sF (fk r_208 (show fsm _ _ ft from trivial))
  have hM : Sm md_k_Model g (sF g_219 h 18 (.ref q_207)) := hM.tr hE (Sm_sF (by rw [r_208]; rfl))
  have hE : Ex g (sF g_219 h 18 (.ref q_207)) := hE
  have hP : PF [18, 17, 16, 15, 14, 13, 12, 11, 10, 9, 8, 7, 6, 5, 4, 3, 2, 1, 60, 52, 51, 50, 49, 38, 37, 36, 34, 30, 29, 24, 22, 21, 0] (sF g_219 h 18 (.ref q_207)) h := hP.put (q_8_18 (⟨_, rfl, r_211, n_214⟩))
  have zP : ZC (sF g_219 h 18 (.ref q_207)) q_15 := zP
  refine lv_aload_n hx hb dX7_init_151 rfl (lv_at hl 0 rfl) ?_
  refine lv_bipush (v := 96) hx hb dX7_init_152 (by decide) ?_
  refine t_newi (N' := 96) hB hT 50 (by decide) k_101 (by decide) (by decide) (by decide) (Nat.le_of_ble_eq_true rfl) (Nat.le_of_ble_eq_true rfl) dX7_init_154 (fun q_220 H o_q_220 hT => ?_)
  have z_q_220 : g.1 q_220 = 0 := hE.z0 o_q_220
  have hI : Inv (sA (sF g_219 h 18 (.ref q_207)) q_220 50 96) := hI.newi o_q_220 (by decide) (fun _ => rfl) trivial (fun _ => trivial)
  have hM : Sm md_k_Model g (sA (sF g_219 h 18 (.ref q_207)) q_220 50 96) := hM.tr hE (Sm.push o_q_220 sA_g)
  have hE : Ex g (sA (sF g_219 h 18 (.ref q_207)) q_220 50 96) := hE.tr (Ex.push o_q_220 sA_g)
  have hP : PF [18, 17, 16, 15, 14, 13, 12, 11, 10, 9, 8, 7, 6, 5, 4, 3, 2, 1, 60, 52, 51, 50, 49, 38, 37, 36, 34, 30, 29, 24, 22, 21, 0] (sA (sF g_219 h 18 (.ref q_207)) q_220 50 96) h := hP.pu (Ex.push o_q_220 sA_g) (sA_g h (ne0 r_208 o_q_220 (by decide))).2.1
  have zP : ZC (sA (sF g_219 h 18 (.ref q_207)) q_220 50 96) q_15 := zP.pu (sA_g q_15 (ne0 r_210 o_q_220 (by decide))).2.2.2.1
  have r_221 : (sA (sF g_219 h 18 (.ref q_207)) q_220 50 96).1 h = 18 := ((sA_g h (ne0 r_208 o_q_220 (by decide))).1.trans r_208)
  have r_222 : (sA (sF g_219 h 18 (.ref q_207)) q_220 50 96).1 q_8 = 71 := ((sA_g q_8 (ne0 r_209 o_q_220 (by decide))).1.trans r_209)
  have r_223 : (sA (sF g_219 h 18 (.ref q_207)) q_220 50 96).1 q_15 = 72 := ((sA_g q_15 (ne0 r_210 o_q_220 (by decide))).1.trans r_210)
  have r_224 : (sA (sF g_219 h 18 (.ref q_207)) q_220 50 96).1 q_220 = 50 := sA_r
  have n_225 : (sA (sF g_219 h 18 (.ref q_207)) q_220 50 96).2.2.1 q_8 = 48 := ((sA_g q_8 (ne0 r_209 o_q_220 (by decide))).2.2.1.trans n_212)
  have n_226 : (sA (sF g_219 h 18 (.ref q_207)) q_220 50 96).2.2.1 q_15 = 48 := ((sA_g q_15 (ne0 r_210 o_q_220 (by decide))).2.2.1.trans n_213)
  have n_227 : (sA (sF g_219 h 18 (.ref q_207)) q_220 50 96).2.2.1 q_220 = 96 := sA_n
  have kn_228 : (sA (sF g_219 h 18 (.ref q_207)) q_220 50 96).2.1 h 22 = .int 0 := ((congrFun (sA_g h (ne0 r_208 o_q_220 (by decide))).2.1 22).trans (sF_k kn_215 (by decide)))
  have kn_229 : (sA (sF g_219 h 18 (.ref q_207)) q_220 50 96).2.1 h 34 = .int 0 := ((congrFun (sA_g h (ne0 r_208 o_q_220 (by decide))).2.1 34).trans (sF_k kn_216 (by decide)))
  have kn_230 : (sA (sF g_219 h 18 (.ref q_207)) q_220 50 96).2.1 h 2 = .ref q_8 := ((congrFun (sA_g h (ne0 r_208 o_q_220 (by decide))).2.1 2).trans (sF_k kn_217 (by decide)))
  have kn_231 : (sA (sF g_219 h 18 (.ref q_207)) q_220 50 96).2.1 h 3 = .ref q_15 := ((congrFun (sA_g h (ne0 r_208 o_q_220 (by decide))).2.1 3).trans (sF_k kn_218 (by decide)))
  generalize (sA (sF g_219 h 18 (.ref q_207)) q_220 50 96) = g_232 at hT hI hM hE r_221 r_222 r_223 r_224 n_225 n_226 n_227 kn_228 kn_229 kn_230 kn_231 hP zP
  refine W.widen (k := 19) (n := 1316) (Nat.le_of_ble_eq_true rfl) (Nat.le_of_ble_eq_true rfl) ?_
  refine t_put0 (ci := 7) (v := .ref q_220) hB hT (ro_ci r_221 rfl) (ro_n0 r_221 (by decide)) rfl 19 (by decide) k_764 (Or.inr ⟨hin, rfl⟩) rfl rfl dX7_init_156 (fun H locs hT => ?_)
  have hI : Inv (sF g_232 h 19 (.ref q_220)) := hI.sF (fk r_221 (show fsm _ _ ft from trivial))
  have hM : Sm md_k_Model g (sF g_232 h 19 (.ref q_220)) := hM.tr hE (Sm_sF (by rw [r_221]; rfl))
  have hE : Ex g (sF g_232 h 19 (.ref q_220)) := hE
  have hP : PF [19, 18, 17, 16, 15, 14, 13, 12, 11, 10, 9, 8, 7, 6, 5, 4, 3, 2, 1, 60, 52, 51, 50, 49, 38, 37, 36, 34, 30, 29, 24, 22, 21, 0] (sF g_232 h 19 (.ref q_220)) h := hP.put (q_8_19 (⟨_, rfl, r_224, n_227⟩))
  have zP : ZC (sF g_232 h 19 (.ref q_220)) q_15 := zP
  refine lv_aload_n hx hb dX7_init_159 rfl (lv_at hl 0 rfl) ?_
  refine lv_bipush (v := 12) hx hb dX7_init_160 (by decide) ?_
  refine t_newz (N' := 12) hB hT k_947 (by decide) (by decide) (by decide) (Nat.le_of_ble_eq_true rfl) (Nat.le_of_ble_eq_true rfl) dX7_init_162 (fun q_233 H o_q_233 hT => ?_)
  have z_q_233 : g.1 q_233 = 0 := hE.z0 o_q_233
  have hI : Inv (sA (sF g_232 h 19 (.ref q_220)) q_233 40 12) := hI.newi o_q_233 (by decide) (fun _ => rfl) trivial (fun _ => trivial)
  have hM : Sm md_k_Model g (sA (sF g_232 h 19 (.ref q_220)) q_233 40 12) := hM.tr hE (Sm.push o_q_233 sA_g)
  have hE : Ex g (sA (sF g_232 h 19 (.ref q_220)) q_233 40 12) := hE.tr (Ex.push o_q_233 sA_g)
  have hP : PF [19, 18, 17, 16, 15, 14, 13, 12, 11, 10, 9, 8, 7, 6, 5, 4, 3, 2, 1, 60, 52, 51, 50, 49, 38, 37, 36, 34, 30, 29, 24, 22, 21, 0] (sA (sF g_232 h 19 (.ref q_220)) q_233 40 12) h := hP.pu (Ex.push o_q_233 sA_g) (sA_g h (ne0 r_221 o_q_233 (by decide))).2.1
  have zP : ZC (sA (sF g_232 h 19 (.ref q_220)) q_233 40 12) q_15 := zP.pu (sA_g q_15 (ne0 r_223 o_q_233 (by decide))).2.2.2.1
  have r_234 : (sA (sF g_232 h 19 (.ref q_220)) q_233 40 12).1 h = 18 := ((sA_g h (ne0 r_221 o_q_233 (by decide))).1.trans r_221)
  have r_235 : (sA (sF g_232 h 19 (.ref q_220)) q_233 40 12).1 q_8 = 71 := ((sA_g q_8 (ne0 r_222 o_q_233 (by decide))).1.trans r_222)
  have r_236 : (sA (sF g_232 h 19 (.ref q_220)) q_233 40 12).1 q_15 = 72 := ((sA_g q_15 (ne0 r_223 o_q_233 (by decide))).1.trans r_223)
  have r_237 : (sA (sF g_232 h 19 (.ref q_220)) q_233 40 12).1 q_233 = 40 := sA_r
  have n_238 : (sA (sF g_232 h 19 (.ref q_220)) q_233 40 12).2.2.1 q_8 = 48 := ((sA_g q_8 (ne0 r_222 o_q_233 (by decide))).2.2.1.trans n_225)
  have n_239 : (sA (sF g_232 h 19 (.ref q_220)) q_233 40 12).2.2.1 q_15 = 48 := ((sA_g q_15 (ne0 r_223 o_q_233 (by decide))).2.2.1.trans n_226)
  have n_240 : (sA (sF g_232 h 19 (.ref q_220)) q_233 40 12).2.2.1 q_233 = 12 := sA_n
  have kn_241 : (sA (sF g_232 h 19 (.ref q_220)) q_233 40 12).2.1 h 22 = .int 0 := ((congrFun (sA_g h (ne0 r_221 o_q_233 (by decide))).2.1 22).trans (sF_k kn_228 (by decide)))
  have kn_242 : (sA (sF g_232 h 19 (.ref q_220)) q_233 40 12).2.1 h 34 = .int 0 := ((congrFun (sA_g h (ne0 r_221 o_q_233 (by decide))).2.1 34).trans (sF_k kn_229 (by decide)))
  have kn_243 : (sA (sF g_232 h 19 (.ref q_220)) q_233 40 12).2.1 h 2 = .ref q_8 := ((congrFun (sA_g h (ne0 r_221 o_q_233 (by decide))).2.1 2).trans (sF_k kn_230 (by decide)))
  have kn_244 : (sA (sF g_232 h 19 (.ref q_220)) q_233 40 12).2.1 h 3 = .ref q_15 := ((congrFun (sA_g h (ne0 r_221 o_q_233 (by decide))).2.1 3).trans (sF_k kn_231 (by decide)))
  generalize (sA (sF g_232 h 19 (.ref q_220)) q_233 40 12) = g_245 at hT hI hM hE r_234 r_235 r_236 r_237 n_238 n_239 n_240 kn_241 kn_242 kn_243 kn_244 hP zP
  refine W.widen (k := 20) (n := 1328) (Nat.le_of_ble_eq_true rfl) (Nat.le_of_ble_eq_true rfl) ?_
  refine t_put0 (ci := 7) (v := .ref q_233) hB hT (ro_ci r_234 rfl) (ro_n0 r_234 (by decide)) rfl 20 (by decide) k_765 (Or.inr ⟨hin, rfl⟩) rfl rfl dX7_init_164 (fun H locs hT => ?_)
  have hI : Inv (sF g_245 h 20 (.ref q_233)) := hI.sF (fk r_234 (show fsm _ _ ft from trivial))
  have hM : Sm md_k_Model g (sF g_245 h 20 (.ref q_233)) := hM.tr hE (Sm_sF (by rw [r_234]; rfl))
  have hE : Ex g (sF g_245 h 20 (.ref q_233)) := hE
  have hP : PF [20, 19, 18, 17, 16, 15, 14, 13, 12, 11, 10, 9, 8, 7, 6, 5, 4, 3, 2, 1, 60, 52, 51, 50, 49, 38, 37, 36, 34, 30, 29, 24, 22, 21, 0] (sF g_245 h 20 (.ref q_233)) h := hP.put (q_8_20 (⟨_, rfl, r_237, n_240⟩))
  have zP : ZC (sF g_245 h 20 (.ref q_233)) q_15 := zP
  refine lv_aload_n hx hb dX7_init_167 rfl (lv_at hl 0 rfl) ?_
  refine lv_bipush (v := 40) hx hb dX7_init_168 (by decide) ?_
  refine t_newi (N' := 40) hB hT 50 (by decide) k_101 (by decide) (by decide) (by decide) (Nat.le_of_ble_eq_true rfl) (Nat.le_of_ble_eq_true rfl) dX7_init_170 (fun q_246 H o_q_246 hT => ?_)
  have z_q_246 : g.1 q_246 = 0 := hE.z0 o_q_246
  have hI : Inv (sA (sF g_245 h 20 (.ref q_233)) q_246 50 40) := hI.newi o_q_246 (by decide) (fun _ => rfl) trivial (fun _ => trivial)
  have hM : Sm md_k_Model g (sA (sF g_245 h 20 (.ref q_233)) q_246 50 40) := hM.tr hE (Sm.push o_q_246 sA_g)
  have hE : Ex g (sA (sF g_245 h 20 (.ref q_233)) q_246 50 40) := hE.tr (Ex.push o_q_246 sA_g)
  have hP : PF [20, 19, 18, 17, 16, 15, 14, 13, 12, 11, 10, 9, 8, 7, 6, 5, 4, 3, 2, 1, 60, 52, 51, 50, 49, 38, 37, 36, 34, 30, 29, 24, 22, 21, 0] (sA (sF g_245 h 20 (.ref q_233)) q_246 50 40) h := hP.pu (Ex.push o_q_246 sA_g) (sA_g h (ne0 r_234 o_q_246 (by decide))).2.1
  have zP : ZC (sA (sF g_245 h 20 (.ref q_233)) q_246 50 40) q_15 := zP.pu (sA_g q_15 (ne0 r_236 o_q_246 (by decide))).2.2.2.1
  have r_247 : (sA (sF g_245 h 20 (.ref q_233)) q_246 50 40).1 h = 18 := ((sA_g h (ne0 r_234 o_q_246 (by decide))).1.trans r_234)
  have r_248 : (sA (sF g_245 h 20 (.ref q_233)) q_246 50 40).1 q_8 = 71 := ((sA_g q_8 (ne0 r_235 o_q_246 (by decide))).1.trans r_235)
  have r_249 : (sA (sF g_245 h 20 (.ref q_233)) q_246 50 40).1 q_15 = 72 := ((sA_g q_15 (ne0 r_236 o_q_246 (by decide))).1.trans r_236)
  have r_250 : (sA (sF g_245 h 20 (.ref q_233)) q_246 50 40).1 q_246 = 50 := sA_r
  have n_251 : (sA (sF g_245 h 20 (.ref q_233)) q_246 50 40).2.2.1 q_8 = 48 := ((sA_g q_8 (ne0 r_235 o_q_246 (by decide))).2.2.1.trans n_238)
  have n_252 : (sA (sF g_245 h 20 (.ref q_233)) q_246 50 40).2.2.1 q_15 = 48 := ((sA_g q_15 (ne0 r_236 o_q_246 (by decide))).2.2.1.trans n_239)
  have n_253 : (sA (sF g_245 h 20 (.ref q_233)) q_246 50 40).2.2.1 q_246 = 40 := sA_n
  have kn_254 : (sA (sF g_245 h 20 (.ref q_233)) q_246 50 40).2.1 h 22 = .int 0 := ((congrFun (sA_g h (ne0 r_234 o_q_246 (by decide))).2.1 22).trans (sF_k kn_241 (by decide)))
  have kn_255 : (sA (sF g_245 h 20 (.ref q_233)) q_246 50 40).2.1 h 34 = .int 0 := ((congrFun (sA_g h (ne0 r_234 o_q_246 (by decide))).2.1 34).trans (sF_k kn_242 (by decide)))
  have kn_256 : (sA (sF g_245 h 20 (.ref q_233)) q_246 50 40).2.1 h 2 = .ref q_8 := ((congrFun (sA_g h (ne0 r_234 o_q_246 (by decide))).2.1 2).trans (sF_k kn_243 (by decide)))
  have kn_257 : (sA (sF g_245 h 20 (.ref q_233)) q_246 50 40).2.1 h 3 = .ref q_15 := ((congrFun (sA_g h (ne0 r_234 o_q_246 (by decide))).2.1 3).trans (sF_k kn_244 (by decide)))
  generalize (sA (sF g_245 h 20 (.ref q_233)) q_246 50 40) = g_258 at hT hI hM hE r_247 r_248 r_249 r_250 n_251 n_252 n_253 kn_254 kn_255 kn_256 kn_257 hP zP
  refine W.widen (k := 21) (n := 1368) (Nat.le_of_ble_eq_true rfl) (Nat.le_of_ble_eq_true rfl) ?_
  refine t_put0 (ci := 7) (v := .ref q_246) hB hT (ro_ci r_247 rfl) (ro_n0 r_247 (by decide)) rfl 23 (by decide) k_768 (Or.inr ⟨hin, rfl⟩) rfl rfl dX7_init_172 (fun H locs hT => ?_)
  have hI : Inv (sF g_258 h 23 (.ref q_246)) := hI.sF (fk r_247 (show fsm _ _ ft from trivial))
  have hM : Sm md_k_Model g (sF g_258 h 23 (.ref q_246)) := hM.tr hE (Sm_sF (by rw [r_247]; rfl))
  have hE : Ex g (sF g_258 h 23 (.ref q_246)) := hE
  have hP : PF [23, 20, 19, 18, 17, 16, 15, 14, 13, 12, 11, 10, 9, 8, 7, 6, 5, 4, 3, 2, 1, 60, 52, 51, 50, 49, 38, 37, 36, 34, 30, 29, 24, 22, 21, 0] (sF g_258 h 23 (.ref q_246)) h := hP.put (q_8_23 (⟨_, rfl, r_250, n_253⟩))
  have zP : ZC (sF g_258 h 23 (.ref q_246)) q_15 := zP
  refine lv_aload_n hx hb dX7_init_175 rfl (lv_at hl 0 rfl) ?_
  refine lv_bipush (v := 20) hx hb dX7_init_176 (by decide) ?_
  refine t_newi (N' := 20) hB hT 76 (by decide) k_101 (by decide) (by decide) (by decide) (Nat.le_of_ble_eq_true rfl) (Nat.le_of_ble_eq_true rfl) dX7_init_178 (fun q_259 H o_q_259 hT => ?_)
  have z_q_259 : g.1 q_259 = 0 := hE.z0 o_q_259
  have hI : Inv (sA (sF g_258 h 23 (.ref q_246)) q_259 76 20) := hI.newi o_q_259 (by decide) (fun _ => rfl) ⟨by decide, by decide⟩ (fun _ => trivial)
  have hM : Sm md_k_Model g (sA (sF g_258 h 23 (.ref q_246)) q_259 76 20) := hM.tr hE (Sm.push o_q_259 sA_g)
  have hE : Ex g (sA (sF g_258 h 23 (.ref q_246)) q_259 76 20) := hE.tr (Ex.push o_q_259 sA_g)
  have hP : PF [23, 20, 19, 18, 17, 16, 15, 14, 13, 12, 11, 10, 9, 8, 7, 6, 5, 4, 3, 2, 1, 60, 52, 51, 50, 49, 38, 37, 36, 34, 30, 29, 24, 22, 21, 0] (sA (sF g_258 h 23 (.ref q_246)) q_259 76 20) h := hP.pu (Ex.push o_q_259 sA_g) (sA_g h (ne0 r_247 o_q_259 (by decide))).2.1
  have zP : ZC (sA (sF g_258 h 23 (.ref q_246)) q_259 76 20) q_15 := zP.pu (sA_g q_15 (ne0 r_249 o_q_259 (by decide))).2.2.2.1
  have r_260 : (sA (sF g_258 h 23 (.ref q_246)) q_259 76 20).1 h = 18 := ((sA_g h (ne0 r_247 o_q_259 (by decide))).1.trans r_247)
  have r_261 : (sA (sF g_258 h 23 (.ref q_246)) q_259 76 20).1 q_8 = 71 := ((sA_g q_8 (ne0 r_248 o_q_259 (by decide))).1.trans r_248)
  have r_262 : (sA (sF g_258 h 23 (.ref q_246)) q_259 76 20).1 q_15 = 72 := ((sA_g q_15 (ne0 r_249 o_q_259 (by decide))).1.trans r_249)
  have r_263 : (sA (sF g_258 h 23 (.ref q_246)) q_259 76 20).1 q_259 = 76 := sA_r
  have n_264 : (sA (sF g_258 h 23 (.ref q_246)) q_259 76 20).2.2.1 q_8 = 48 := ((sA_g q_8 (ne0 r_248 o_q_259 (by decide))).2.2.1.trans n_251)
  have n_265 : (sA (sF g_258 h 23 (.ref q_246)) q_259 76 20).2.2.1 q_15 = 48 := ((sA_g q_15 (ne0 r_249 o_q_259 (by decide))).2.2.1.trans n_252)
  have n_266 : (sA (sF g_258 h 23 (.ref q_246)) q_259 76 20).2.2.1 q_259 = 20 := sA_n
  have kn_267 : (sA (sF g_258 h 23 (.ref q_246)) q_259 76 20).2.1 h 22 = .int 0 := ((congrFun (sA_g h (ne0 r_247 o_q_259 (by decide))).2.1 22).trans (sF_k kn_254 (by decide)))
  have kn_268 : (sA (sF g_258 h 23 (.ref q_246)) q_259 76 20).2.1 h 34 = .int 0 := ((congrFun (sA_g h (ne0 r_247 o_q_259 (by decide))).2.1 34).trans (sF_k kn_255 (by decide)))
  have kn_269 : (sA (sF g_258 h 23 (.ref q_246)) q_259 76 20).2.1 h 2 = .ref q_8 := ((congrFun (sA_g h (ne0 r_247 o_q_259 (by decide))).2.1 2).trans (sF_k kn_256 (by decide)))
  have kn_270 : (sA (sF g_258 h 23 (.ref q_246)) q_259 76 20).2.1 h 3 = .ref q_15 := ((congrFun (sA_g h (ne0 r_247 o_q_259 (by decide))).2.1 3).trans (sF_k kn_257 (by decide)))
  generalize (sA (sF g_258 h 23 (.ref q_246)) q_259 76 20) = g_271 at hT hI hM hE r_260 r_261 r_262 r_263 n_264 n_265 n_266 kn_267 kn_268 kn_269 kn_270 hP zP
  refine W.widen (k := 22) (n := 1388) (Nat.le_of_ble_eq_true rfl) (Nat.le_of_ble_eq_true rfl) ?_
  refine t_put0 (ci := 7) (v := .ref q_259) hB hT (ro_ci r_260 rfl) (ro_n0 r_260 (by decide)) rfl 25 (by decide) k_770 (Or.inr ⟨hin, rfl⟩) rfl rfl dX7_init_180 (fun H locs hT => ?_)
  have hI : Inv (sF g_271 h 25 (.ref q_259)) := hI.sF (fk r_260 (show fsm _ _ ft from trivial))
  have hM : Sm md_k_Model g (sF g_271 h 25 (.ref q_259)) := hM.tr hE (Sm_sF (by rw [r_260]; rfl))
  have hE : Ex g (sF g_271 h 25 (.ref q_259)) := hE
  have hP : PF [25, 23, 20, 19, 18, 17, 16, 15, 14, 13, 12, 11, 10, 9, 8, 7, 6, 5, 4, 3, 2, 1, 60, 52, 51, 50, 49, 38, 37, 36, 34, 30, 29, 24, 22, 21, 0] (sF g_271 h 25 (.ref q_259)) h := hP.put (q_8_25 (⟨_, rfl, r_263, n_266⟩))
  have zP : ZC (sF g_271 h 25 (.ref q_259)) q_15 := zP
  refine lv_aload_n hx hb dX7_init_183 rfl (lv_at hl 0 rfl) ?_
  refine lv_bipush (v := 20) hx hb dX7_init_184 (by decide) ?_
  refine t_newi (N' := 20) hB hT 77 (by decide) k_101 (by decide) (by decide) (by decide) (Nat.le_of_ble_eq_true rfl) (Nat.le_of_ble_eq_true rfl) dX7_init_186 (fun q_272 H o_q_272 hT => ?_)
  have z_q_272 : g.1 q_272 = 0 := hE.z0 o_q_272
  have hI : Inv (sA (sF g_271 h 25 (.ref q_259)) q_272 77 20) := hI.newi o_q_272 (by decide) (fun _ => rfl) ⟨by decide, by decide⟩ (fun _ => trivial)
  have hM : Sm md_k_Model g (sA (sF g_271 h 25 (.ref q_259)) q_272 77 20) := hM.tr hE (Sm.push o_q_272 sA_g)
  have hE : Ex g (sA (sF g_271 h 25 (.ref q_259)) q_272 77 20) := hE.tr (Ex.push o_q_272 sA_g)
  have hP : PF [25, 23, 20, 19, 18, 17, 16, 15, 14, 13, 12, 11, 10, 9, 8, 7, 6, 5, 4, 3, 2, 1, 60, 52, 51, 50, 49, 38, 37, 36, 34, 30, 29, 24, 22, 21, 0] (sA (sF g_271 h 25 (.ref q_259)) q_272 77 20) h := hP.pu (Ex.push o_q_272 sA_g) (sA_g h (ne0 r_260 o_q_272 (by decide))).2.1
  have zP : ZC (sA (sF g_271 h 25 (.ref q_259)) q_272 77 20) q_15 := zP.pu (sA_g q_15 (ne0 r_262 o_q_272 (by decide))).2.2.2.1
  have r_273 : (sA (sF g_271 h 25 (.ref q_259)) q_272 77 20).1 h = 18 := ((sA_g h (ne0 r_260 o_q_272 (by decide))).1.trans r_260)
  have r_274 : (sA (sF g_271 h 25 (.ref q_259)) q_272 77 20).1 q_8 = 71 := ((sA_g q_8 (ne0 r_261 o_q_272 (by decide))).1.trans r_261)
  have r_275 : (sA (sF g_271 h 25 (.ref q_259)) q_272 77 20).1 q_15 = 72 := ((sA_g q_15 (ne0 r_262 o_q_272 (by decide))).1.trans r_262)
  have r_276 : (sA (sF g_271 h 25 (.ref q_259)) q_272 77 20).1 q_272 = 77 := sA_r
  have n_277 : (sA (sF g_271 h 25 (.ref q_259)) q_272 77 20).2.2.1 q_8 = 48 := ((sA_g q_8 (ne0 r_261 o_q_272 (by decide))).2.2.1.trans n_264)
  have n_278 : (sA (sF g_271 h 25 (.ref q_259)) q_272 77 20).2.2.1 q_15 = 48 := ((sA_g q_15 (ne0 r_262 o_q_272 (by decide))).2.2.1.trans n_265)
  have n_279 : (sA (sF g_271 h 25 (.ref q_259)) q_272 77 20).2.2.1 q_272 = 20 := sA_n
  have kn_280 : (sA (sF g_271 h 25 (.ref q_259)) q_272 77 20).2.1 h 22 = .int 0 := ((congrFun (sA_g h (ne0 r_260 o_q_272 (by decide))).2.1 22).trans (sF_k kn_267 (by decide)))
  have kn_281 : (sA (sF g_271 h 25 (.ref q_259)) q_272 77 20).2.1 h 34 = .int 0 := ((congrFun (sA_g h (ne0 r_260 o_q_272 (by decide))).2.1 34).trans (sF_k kn_268 (by decide)))
  have kn_282 : (sA (sF g_271 h 25 (.ref q_259)) q_272 77 20).2.1 h 2 = .ref q_8 := ((congrFun (sA_g h (ne0 r_260 o_q_272 (by decide))).2.1 2).trans (sF_k kn_269 (by decide)))
  have kn_283 : (sA (sF g_271 h 25 (.ref q_259)) q_272 77 20).2.1 h 3 = .ref q_15 := ((congrFun (sA_g h (ne0 r_260 o_q_272 (by decide))).2.1 3).trans (sF_k kn_270 (by decide)))
  generalize (sA (sF g_271 h 25 (.ref q_259)) q_272 77 20) = g_284 at hT hI hM hE r_273 r_274 r_275 r_276 n_277 n_278 n_279 kn_280 kn_281 kn_282 kn_283 hP zP
  refine W.widen (k := 23) (n := 1408) (Nat.le_of_ble_eq_true rfl) (Nat.le_of_ble_eq_true rfl) ?_
  refine t_put0 (ci := 7) (v := .ref q_272) hB hT (ro_ci r_273 rfl) (ro_n0 r_273 (by decide)) rfl 26 (by decide) k_771 (Or.inr ⟨hin, rfl⟩) rfl rfl dX7_init_188 (fun H locs hT => ?_)
  have hI : Inv (sF g_284 h 26 (.ref q_272)) := hI.sF (fk r_273 (show fsm _ _ ft from trivial))
  have hM : Sm md_k_Model g (sF g_284 h 26 (.ref q_272)) := hM.tr hE (Sm_sF (by rw [r_273]; rfl))
  have hE : Ex g (sF g_284 h 26 (.ref q_272)) := hE
  have hP : PF [26, 25, 23, 20, 19, 18, 17, 16, 15, 14, 13, 12, 11, 10, 9, 8, 7, 6, 5, 4, 3, 2, 1, 60, 52, 51, 50, 49, 38, 37, 36, 34, 30, 29, 24, 22, 21, 0] (sF g_284 h 26 (.ref q_272)) h := hP.put (q_8_26 (⟨_, rfl, r_276, n_279⟩))
  have zP : ZC (sF g_284 h 26 (.ref q_272)) q_15 := zP
  refine lv_aload_n hx hb dX7_init_191 rfl (lv_at hl 0 rfl) ?_
  refine lv_bipush (v := 20) hx hb dX7_init_192 (by decide) ?_
  refine t_newi (N' := 20) hB hT 78 (by decide) k_101 (by decide) (by decide) (by decide) (Nat.le_of_ble_eq_true rfl) (Nat.le_of_ble_eq_true rfl) dX7_init_194 (fun q_285 H o_q_285 hT => ?_)
  have z_q_285 : g.1 q_285 = 0 := hE.z0 o_q_285
  have hI : Inv (sA (sF g_284 h 26 (.ref q_272)) q_285 78 20) := hI.newi o_q_285 (by decide) (fun _ => rfl) trivial (fun _ => trivial)
  have hM : Sm md_k_Model g (sA (sF g_284 h 26 (.ref q_272)) q_285 78 20) := hM.tr hE (Sm.push o_q_285 sA_g)
  have hE : Ex g (sA (sF g_284 h 26 (.ref q_272)) q_285 78 20) := hE.tr (Ex.push o_q_285 sA_g)
  have hP : PF [26, 25, 23, 20, 19, 18, 17, 16, 15, 14, 13, 12, 11, 10, 9, 8, 7, 6, 5, 4, 3, 2, 1, 60, 52, 51, 50, 49, 38, 37, 36, 34, 30, 29, 24, 22, 21, 0] (sA (sF g_284 h 26 (.ref q_272)) q_285 78 20) h := hP.pu (Ex.push o_q_285 sA_g) (sA_g h (ne0 r_273 o_q_285 (by decide))).2.1
  have zP : ZC (sA (sF g_284 h 26 (.ref q_272)) q_285 78 20) q_15 := zP.pu (sA_g q_15 (ne0 r_275 o_q_285 (by decide))).2.2.2.1
  have r_286 : (sA (sF g_284 h 26 (.ref q_272)) q_285 78 20).1 h = 18 := ((sA_g h (ne0 r_273 o_q_285 (by decide))).1.trans r_273)
  have r_287 : (sA (sF g_284 h 26 (.ref q_272)) q_285 78 20).1 q_8 = 71 := ((sA_g q_8 (ne0 r_274 o_q_285 (by decide))).1.trans r_274)
  have r_288 : (sA (sF g_284 h 26 (.ref q_272)) q_285 78 20).1 q_15 = 72 := ((sA_g q_15 (ne0 r_275 o_q_285 (by decide))).1.trans r_275)
  have r_289 : (sA (sF g_284 h 26 (.ref q_272)) q_285 78 20).1 q_285 = 78 := sA_r
  have n_290 : (sA (sF g_284 h 26 (.ref q_272)) q_285 78 20).2.2.1 q_8 = 48 := ((sA_g q_8 (ne0 r_274 o_q_285 (by decide))).2.2.1.trans n_277)
  have n_291 : (sA (sF g_284 h 26 (.ref q_272)) q_285 78 20).2.2.1 q_15 = 48 := ((sA_g q_15 (ne0 r_275 o_q_285 (by decide))).2.2.1.trans n_278)
  have n_292 : (sA (sF g_284 h 26 (.ref q_272)) q_285 78 20).2.2.1 q_285 = 20 := sA_n
  have kn_293 : (sA (sF g_284 h 26 (.ref q_272)) q_285 78 20).2.1 h 22 = .int 0 := ((congrFun (sA_g h (ne0 r_273 o_q_285 (by decide))).2.1 22).trans (sF_k kn_280 (by decide)))
  have kn_294 : (sA (sF g_284 h 26 (.ref q_272)) q_285 78 20).2.1 h 34 = .int 0 := ((congrFun (sA_g h (ne0 r_273 o_q_285 (by decide))).2.1 34).trans (sF_k kn_281 (by decide)))
  have kn_295 : (sA (sF g_284 h 26 (.ref q_272)) q_285 78 20).2.1 h 2 = .ref q_8 := ((congrFun (sA_g h (ne0 r_273 o_q_285 (by decide))).2.1 2).trans (sF_k kn_282 (by decide)))
  have kn_296 : (sA (sF g_284 h 26 (.ref q_272)) q_285 78 20).2.1 h 3 = .ref q_15 := ((congrFun (sA_g h (ne0 r_273 o_q_285 (by decide))).2.1 3).trans (sF_k kn_283 (by decide)))
  generalize (sA (sF g_284 h 26 (.ref q_272)) q_285 78 20) = g_297 at hT hI hM hE r_286 r_287 r_288 r_289 n_290 n_291 n_292 kn_293 kn_294 kn_295 kn_296 hP zP
  refine W.widen (k := 24) (n := 1428) (Nat.le_of_ble_eq_true rfl) (Nat.le_of_ble_eq_true rfl) ?_
  refine t_put0 (ci := 7) (v := .ref q_285) hB hT (ro_ci r_286 rfl) (ro_n0 r_286 (by decide)) rfl 27 (by decide) k_772 (Or.inr ⟨hin, rfl⟩) rfl rfl dX7_init_196 (fun H locs hT => ?_)
  have hI : Inv (sF g_297 h 27 (.ref q_285)) := hI.sF (fk r_286 (show fsm _ _ ft from trivial))
  have hM : Sm md_k_Model g (sF g_297 h 27 (.ref q_285)) := hM.tr hE (Sm_sF (by rw [r_286]; rfl))
  have hE : Ex g (sF g_297 h 27 (.ref q_285)) := hE
  have hP : PF [27, 26, 25, 23, 20, 19, 18, 17, 16, 15, 14, 13, 12, 11, 10, 9, 8, 7, 6, 5, 4, 3, 2, 1, 60, 52, 51, 50, 49, 38, 37, 36, 34, 30, 29, 24, 22, 21, 0] (sF g_297 h 27 (.ref q_285)) h := hP.put (q_8_27 (⟨_, rfl, r_289, n_292⟩))
  have zP : ZC (sF g_297 h 27 (.ref q_285)) q_15 := zP
  refine lv_aload_n hx hb dX7_init_199 rfl (lv_at hl 0 rfl) ?_
  refine lv_bipush (v := 100) hx hb dX7_init_200 (by decide) ?_
  refine t_newi (N' := 100) hB hT 79 (by decide) k_101 (by decide) (by decide) (by decide) (Nat.le_of_ble_eq_true rfl) (Nat.le_of_ble_eq_true rfl) dX7_init_202 (fun q_298 H o_q_298 hT => ?_)
  have z_q_298 : g.1 q_298 = 0 := hE.z0 o_q_298
  have hI : Inv (sA (sF g_297 h 27 (.ref q_285)) q_298 79 100) := hI.newi o_q_298 (by decide) (fun _ => rfl) trivial (fun _ => trivial)
  have hM : Sm md_k_Model g (sA (sF g_297 h 27 (.ref q_285)) q_298 79 100) := hM.tr hE (Sm.push o_q_298 sA_g)
  have hE : Ex g (sA (sF g_297 h 27 (.ref q_285)) q_298 79 100) := hE.tr (Ex.push o_q_298 sA_g)
  have hP : PF [27, 26, 25, 23, 20, 19, 18, 17, 16, 15, 14, 13, 12, 11, 10, 9, 8, 7, 6, 5, 4, 3, 2, 1, 60, 52, 51, 50, 49, 38, 37, 36, 34, 30, 29, 24, 22, 21, 0] (sA (sF g_297 h 27 (.ref q_285)) q_298 79 100) h := hP.pu (Ex.push o_q_298 sA_g) (sA_g h (ne0 r_286 o_q_298 (by decide))).2.1
  have zP : ZC (sA (sF g_297 h 27 (.ref q_285)) q_298 79 100) q_15 := zP.pu (sA_g q_15 (ne0 r_288 o_q_298 (by decide))).2.2.2.1
  have r_299 : (sA (sF g_297 h 27 (.ref q_285)) q_298 79 100).1 h = 18 := ((sA_g h (ne0 r_286 o_q_298 (by decide))).1.trans r_286)
  have r_300 : (sA (sF g_297 h 27 (.ref q_285)) q_298 79 100).1 q_8 = 71 := ((sA_g q_8 (ne0 r_287 o_q_298 (by decide))).1.trans r_287)
  have r_301 : (sA (sF g_297 h 27 (.ref q_285)) q_298 79 100).1 q_15 = 72 := ((sA_g q_15 (ne0 r_288 o_q_298 (by decide))).1.trans r_288)
  have r_302 : (sA (sF g_297 h 27 (.ref q_285)) q_298 79 100).1 q_298 = 79 := sA_r
  have n_303 : (sA (sF g_297 h 27 (.ref q_285)) q_298 79 100).2.2.1 q_8 = 48 := ((sA_g q_8 (ne0 r_287 o_q_298 (by decide))).2.2.1.trans n_290)
  have n_304 : (sA (sF g_297 h 27 (.ref q_285)) q_298 79 100).2.2.1 q_15 = 48 := ((sA_g q_15 (ne0 r_288 o_q_298 (by decide))).2.2.1.trans n_291)
  have n_305 : (sA (sF g_297 h 27 (.ref q_285)) q_298 79 100).2.2.1 q_298 = 100 := sA_n
  have kn_306 : (sA (sF g_297 h 27 (.ref q_285)) q_298 79 100).2.1 h 22 = .int 0 := ((congrFun (sA_g h (ne0 r_286 o_q_298 (by decide))).2.1 22).trans (sF_k kn_293 (by decide)))
  have kn_307 : (sA (sF g_297 h 27 (.ref q_285)) q_298 79 100).2.1 h 34 = .int 0 := ((congrFun (sA_g h (ne0 r_286 o_q_298 (by decide))).2.1 34).trans (sF_k kn_294 (by decide)))
  have kn_308 : (sA (sF g_297 h 27 (.ref q_285)) q_298 79 100).2.1 h 2 = .ref q_8 := ((congrFun (sA_g h (ne0 r_286 o_q_298 (by decide))).2.1 2).trans (sF_k kn_295 (by decide)))
  have kn_309 : (sA (sF g_297 h 27 (.ref q_285)) q_298 79 100).2.1 h 3 = .ref q_15 := ((congrFun (sA_g h (ne0 r_286 o_q_298 (by decide))).2.1 3).trans (sF_k kn_296 (by decide)))
  generalize (sA (sF g_297 h 27 (.ref q_285)) q_298 79 100) = g_310 at hT hI hM hE r_299 r_300 r_301 r_302 n_303 n_304 n_305 kn_306 kn_307 kn_308 kn_309 hP zP
  refine W.widen (k := 25) (n := 1528) (Nat.le_of_ble_eq_true rfl) (Nat.le_of_ble_eq_true rfl) ?_
  refine t_put0 (ci := 7) (v := .ref q_298) hB hT (ro_ci r_299 rfl) (ro_n0 r_299 (by decide)) rfl 28 (by decide) k_773 (Or.inr ⟨hin, rfl⟩) rfl rfl dX7_init_204 (fun H locs hT => ?_)
  have hI : Inv (sF g_310 h 28 (.ref q_298)) := hI.sF (fk r_299 (show fsm _ _ ft from trivial))
  have hM : Sm md_k_Model g (sF g_310 h 28 (.ref q_298)) := hM.tr hE (Sm_sF (by rw [r_299]; rfl))
  have hE : Ex g (sF g_310 h 28 (.ref q_298)) := hE
  have hP : PF [28, 27, 26, 25, 23, 20, 19, 18, 17, 16, 15, 14, 13, 12, 11, 10, 9, 8, 7, 6, 5, 4, 3, 2, 1, 60, 52, 51, 50, 49, 38, 37, 36, 34, 30, 29, 24, 22, 21, 0] (sF g_310 h 28 (.ref q_298)) h := hP.put (q_8_28 (⟨_, rfl, r_302, n_305⟩))
  have zP : ZC (sF g_310 h 28 (.ref q_298)) q_15 := zP
  refine lv_aload_n hx hb dX7_init_207 rfl (lv_at hl 0 rfl) ?_
  refine lv_bipush (v := 6) hx hb dX7_init_208 (by decide) ?_
  refine t_newi (N' := 6) hB hT 80 (by decide) k_101 (by decide) (by decide) (by decide) (Nat.le_of_ble_eq_true rfl) (Nat.le_of_ble_eq_true rfl) dX7_init_210 (fun q_311 H o_q_311 hT => ?_)
  have z_q_311 : g.1 q_311 = 0 := hE.z0 o_q_311
  have hI : Inv (sA (sF g_310 h 28 (.ref q_298)) q_311 80 6) := hI.newi o_q_311 (by decide) (fun _ => rfl) ⟨by decide, by decide⟩ (fun _ => trivial)
  have hM : Sm md_k_Model g (sA (sF g_310 h 28 (.ref q_298)) q_311 80 6) := hM.tr hE (Sm.push o_q_311 sA_g)
  have hE : Ex g (sA (sF g_310 h 28 (.ref q_298)) q_311 80 6) := hE.tr (Ex.push o_q_311 sA_g)
  have hP : PF [28, 27, 26, 25, 23, 20, 19, 18, 17, 16, 15, 14, 13, 12, 11, 10, 9, 8, 7, 6, 5, 4, 3, 2, 1, 60, 52, 51, 50, 49, 38, 37, 36, 34, 30, 29, 24, 22, 21, 0] (sA (sF g_310 h 28 (.ref q_298)) q_311 80 6) h := hP.pu (Ex.push o_q_311 sA_g) (sA_g h (ne0 r_299 o_q_311 (by decide))).2.1
  have zP : ZC (sA (sF g_310 h 28 (.ref q_298)) q_311 80 6) q_15 := zP.pu (sA_g q_15 (ne0 r_301 o_q_311 (by decide))).2.2.2.1
  have r_312 : (sA (sF g_310 h 28 (.ref q_298)) q_311 80 6).1 h = 18 := ((sA_g h (ne0 r_299 o_q_311 (by decide))).1.trans r_299)
  have r_313 : (sA (sF g_310 h 28 (.ref q_298)) q_311 80 6).1 q_8 = 71 := ((sA_g q_8 (ne0 r_300 o_q_311 (by decide))).1.trans r_300)
  have r_314 : (sA (sF g_310 h 28 (.ref q_298)) q_311 80 6).1 q_15 = 72 := ((sA_g q_15 (ne0 r_301 o_q_311 (by decide))).1.trans r_301)
  have r_315 : (sA (sF g_310 h 28 (.ref q_298)) q_311 80 6).1 q_311 = 80 := sA_r
  have n_316 : (sA (sF g_310 h 28 (.ref q_298)) q_311 80 6).2.2.1 q_8 = 48 := ((sA_g q_8 (ne0 r_300 o_q_311 (by decide))).2.2.1.trans n_303)
  have n_317 : (sA (sF g_310 h 28 (.ref q_298)) q_311 80 6).2.2.1 q_15 = 48 := ((sA_g q_15 (ne0 r_301 o_q_311 (by decide))).2.2.1.trans n_304)
  have n_318 : (sA (sF g_310 h 28 (.ref q_298)) q_311 80 6).2.2.1 q_311 = 6 := sA_n
  have kn_319 : (sA (sF g_310 h 28 (.ref q_298)) q_311 80 6).2.1 h 22 = .int 0 := ((congrFun (sA_g h (ne0 r_299 o_q_311 (by decide))).2.1 22).trans (sF_k kn_306 (by decide)))
  have kn_320 : (sA (sF g_310 h 28 (.ref q_298)) q_311 80 6).2.1 h 34 = .int 0 := ((congrFun (sA_g h (ne0 r_299 o_q_311 (by decide))).2.1 34).trans (sF_k kn_307 (by decide)))
  have kn_321 : (sA (sF g_310 h 28 (.ref q_298)) q_311 80 6).2.1 h 2 = .ref q_8 := ((congrFun (sA_g h (ne0 r_299 o_q_311 (by decide))).2.1 2).trans (sF_k kn_308 (by decide)))
  have kn_322 : (sA (sF g_310 h 28 (.ref q_298)) q_311 80 6).2.1 h 3 = .ref q_15 := ((congrFun (sA_g h (ne0 r_299 o_q_311 (by decide))).2.1 3).trans (sF_k kn_309 (by decide)))
  generalize (sA (sF g_310 h 28 (.ref q_298)) q_311 80 6) = g_323 at hT hI hM hE r_312 r_313 r_314 r_315 n_316 n_317 n_318 kn_319 kn_320 kn_321 kn_322 hP zP
  refine W.widen (k := 26) (n := 1534) (Nat.le_of_ble_eq_true rfl) (Nat.le_of_ble_eq_true rfl) ?_
  refine t_put0 (ci := 7) (v := .ref q_311) hB hT (ro_ci r_312 rfl) (ro_n0 r_312 (by decide)) rfl 31 (by decide) k_776 (Or.inr ⟨hin, rfl⟩) rfl rfl dX7_init_212 (fun H locs hT => ?_)
  have hI : Inv (sF g_323 h 31 (.ref q_311)) := hI.sF (fk r_312 (show fsm _ _ ft from trivial))
  have hM : Sm md_k_Model g (sF g_323 h 31 (.ref q_311)) := hM.tr hE (Sm_sF (by rw [r_312]; rfl))
  have hE : Ex g (sF g_323 h 31 (.ref q_311)) := hE
  have hP : PF [31, 28, 27, 26, 25, 23, 20, 19, 18, 17, 16, 15, 14, 13, 12, 11, 10, 9, 8, 7, 6, 5, 4, 3, 2, 1, 60, 52, 51, 50, 49, 38, 37, 36, 34, 30, 29, 24, 22, 21, 0] (sF g_323 h 31 (.ref q_311)) h := hP.put (q_8_31 (⟨_, rfl, r_315, n_318⟩))
  have zP : ZC (sF g_323 h 31 (.ref q_311)) q_15 := zP
  refine lv_aload_n hx hb dX7_init_215 rfl (lv_at hl 0 rfl) ?_
  refine lv_bipush (v := 6) hx hb dX7_init_216 (by decide) ?_
  refine t_newi (N' := 6) hB hT 81 (by decide) k_101 (by decide) (by decide) (by decide) (Nat.le_of_ble_eq_true rfl) (Nat.le_of_ble_eq_true rfl) dX7_init_218 (fun q_324 H o_q_324 hT => ?_)
  have z_q_324 : g.1 q_324 = 0 := hE.z0 o_q_324
  have hI : Inv (sA (sF g_323 h 31 (.ref q_311)) q_324 81 6) := hI.newi o_q_324 (by decide) (fun _ => rfl) ⟨by decide, by decide⟩ (fun _ => trivial)
  have hM : Sm md_k_Model g (sA (sF g_323 h 31 (.ref q_311)) q_324 81 6) := hM.tr hE (Sm.push o_q_324 sA_g)
  have hE : Ex g (sA (sF g_323 h 31 (.ref q_311)) q_324 81 6) := hE.tr (Ex.push o_q_324 sA_g)
  have hP : PF [31, 28, 27, 26, 25, 23, 20, 19, 18, 17, 16, 15, 14, 13, 12, 11, 10, 9, 8, 7, 6, 5, 4, 3, 2, 1, 60, 52, 51, 50, 49, 38, 37, 36, 34, 30, 29, 24, 22, 21, 0] (sA (sF g_323 h 31 (.ref q_311)) q_324 81 6) h := hP.pu (Ex.push o_q_324 sA_g) (sA_g h (ne0 r_312 o_q_324 (by decide))).2.1
  have zP : ZC (sA (sF g_323 h 31 (.ref q_311)) q_324 81 6) q_15 := zP.pu (sA_g q_15 (ne0 r_314 o_q_324 (by decide))).2.2.2.1
  have r_325 : (sA (sF g_323 h 31 (.ref q_311)) q_324 81 6).1 h = 18 := ((sA_g h (ne0 r_312 o_q_324 (by decide))).1.trans r_312)
  have r_326 : (sA (sF g_323 h 31 (.ref q_311)) q_324 81 6).1 q_8 = 71 := ((sA_g q_8 (ne0 r_313 o_q_324 (by decide))).1.trans r_313)
  have r_327 : (sA (sF g_323 h 31 (.ref q_311)) q_324 81 6).1 q_15 = 72 := ((sA_g q_15 (ne0 r_314 o_q_324 (by decide))).1.trans r_314)
  have r_328 : (sA (sF g_323 h 31 (.ref q_311)) q_324 81 6).1 q_324 = 81 := sA_r
  have n_329 : (sA (sF g_323 h 31 (.ref q_311)) q_324 81 6).2.2.1 q_8 = 48 := ((sA_g q_8 (ne0 r_313 o_q_324 (by decide))).2.2.1.trans n_316)
  have n_330 : (sA (sF g_323 h 31 (.ref q_311)) q_324 81 6).2.2.1 q_15 = 48 := ((sA_g q_15 (ne0 r_314 o_q_324 (by decide))).2.2.1.trans n_317)
  have n_331 : (sA (sF g_323 h 31 (.ref q_311)) q_324 81 6).2.2.1 q_324 = 6 := sA_n
  have kn_332 : (sA (sF g_323 h 31 (.ref q_311)) q_324 81 6).2.1 h 22 = .int 0 := ((congrFun (sA_g h (ne0 r_312 o_q_324 (by decide))).2.1 22).trans (sF_k kn_319 (by decide)))
  have kn_333 : (sA (sF g_323 h 31 (.ref q_311)) q_324 81 6).2.1 h 34 = .int 0 := ((congrFun (sA_g h (ne0 r_312 o_q_324 (by decide))).2.1 34).trans (sF_k kn_320 (by decide)))
  have kn_334 : (sA (sF g_323 h 31 (.ref q_311)) q_324 81 6).2.1 h 2 = .ref q_8 := ((congrFun (sA_g h (ne0 r_312 o_q_324 (by decide))).2.1 2).trans (sF_k kn_321 (by decide)))
  have kn_335 : (sA (sF g_323 h 31 (.ref q_311)) q_324 81 6).2.1 h 3 = .ref q_15 := ((congrFun (sA_g h (ne0 r_312 o_q_324 (by decide))).2.1 3).trans (sF_k kn_322 (by decide)))
  generalize (sA (sF g_323 h 31 (.ref q_311)) q_324 81 6) = g_336 at hT hI hM hE r_325 r_326 r_327 r_328 n_329 n_330 n_331 kn_332 kn_333 kn_334 kn_335 hP zP
  refine W.widen (k := 27) (n := 1540) (Nat.le_of_ble_eq_true rfl) (Nat.le_of_ble_eq_true rfl) ?_
  refine t_put0 (ci := 7) (v := .ref q_324) hB hT (ro_ci r_325 rfl) (ro_n0 r_325 (by decide)) rfl 32 (by decide) k_777 (Or.inr ⟨hin, rfl⟩) rfl rfl dX7_init_220 (fun H locs hT => ?_)
  have hI : Inv (sF g_336 h 32 (.ref q_324)) := hI.sF (fk r_325 (show fsm _ _ ft from trivial))
  have hM : Sm md_k_Model g (sF g_336 h 32 (.ref q_324)) := hM.tr hE (Sm_sF (by rw [r_325]; rfl))
  have hE : Ex g (sF g_336 h 32 (.ref q_324)) := hE
  have hP : PF [32, 31, 28, 27, 26, 25, 23, 20, 19, 18, 17, 16, 15, 14, 13, 12, 11, 10, 9, 8, 7, 6, 5, 4, 3, 2, 1, 60, 52, 51, 50, 49, 38, 37, 36, 34, 30, 29, 24, 22, 21, 0] (sF g_336 h 32 (.ref q_324)) h := hP.put (q_8_32 (⟨_, rfl, r_328, n_331⟩))
  have zP : ZC (sF g_336 h 32 (.ref q_324)) q_15 := zP
  refine lv_aload_n hx hb dX7_init_223 rfl (lv_at hl 0 rfl) ?_
  refine lv_bipush (v := 6) hx hb dX7_init_224 (by decide) ?_
  refine t_newi (N' := 6) hB hT 82 (by decide) k_101 (by decide) (by decide) (by decide) (Nat.le_of_ble_eq_true rfl) (Nat.le_of_ble_eq_true rfl) dX7_init_226 (fun q_337 H o_q_337 hT => ?_)
  have z_q_337 : g.1 q_337 = 0 := hE.z0 o_q_337
  have hI : Inv (sA (sF g_336 h 32 (.ref q_324)) q_337 82 6) := hI.newi o_q_337 (by decide) (fun _ => rfl) trivial (fun _ => trivial)
  have hM : Sm md_k_Model g (sA (sF g_336 h 32 (.ref q_324)) q_337 82 6) := hM.tr hE (Sm.push o_q_337 sA_g)
  have hE : Ex g (sA (sF g_336 h 32 (.ref q_324)) q_337 82 6) := hE.tr (Ex.push o_q_337 sA_g)
  have hP : PF [32, 31, 28, 27, 26, 25, 23, 20, 19, 18, 17, 16, 15, 14, 13, 12, 11, 10, 9, 8, 7, 6, 5, 4, 3, 2, 1, 60, 52, 51, 50, 49, 38, 37, 36, 34, 30, 29, 24, 22, 21, 0] (sA (sF g_336 h 32 (.ref q_324)) q_337 82 6) h := hP.pu (Ex.push o_q_337 sA_g) (sA_g h (ne0 r_325 o_q_337 (by decide))).2.1
  have zP : ZC (sA (sF g_336 h 32 (.ref q_324)) q_337 82 6) q_15 := zP.pu (sA_g q_15 (ne0 r_327 o_q_337 (by decide))).2.2.2.1
  have r_338 : (sA (sF g_336 h 32 (.ref q_324)) q_337 82 6).1 h = 18 := ((sA_g h (ne0 r_325 o_q_337 (by decide))).1.trans r_325)
  have r_339 : (sA (sF g_336 h 32 (.ref q_324)) q_337 82 6).1 q_8 = 71 := ((sA_g q_8 (ne0 r_326 o_q_337 (by decide))).1.trans r_326)
  have r_340 : (sA (sF g_336 h 32 (.ref q_324)) q_337 82 6).1 q_15 = 72 := ((sA_g q_15 (ne0 r_327 o_q_337 (by decide))).1.trans r_327)
  have r_341 : (sA (sF g_336 h 32 (.ref q_324)) q_337 82 6).1 q_337 = 82 := sA_r
  have n_342 : (sA (sF g_336 h 32 (.ref q_324)) q_337 82 6).2.2.1 q_8 = 48 := ((sA_g q_8 (ne0 r_326 o_q_337 (by decide))).2.2.1.trans n_329)
  have n_343 : (sA (sF g_336 h 32 (.ref q_324)) q_337 82 6).2.2.1 q_15 = 48 := ((sA_g q_15 (ne0 r_327 o_q_337 (by decide))).2.2.1.trans n_330)
  have n_344 : (sA (sF g_336 h 32 (.ref q_324)) q_337 82 6).2.2.1 q_337 = 6 := sA_n
  have kn_345 : (sA (sF g_336 h 32 (.ref q_324)) q_337 82 6).2.1 h 22 = .int 0 := ((congrFun (sA_g h (ne0 r_325 o_q_337 (by decide))).2.1 22).trans (sF_k kn_332 (by decide)))
  have kn_346 : (sA (sF g_336 h 32 (.ref q_324)) q_337 82 6).2.1 h 34 = .int 0 := ((congrFun (sA_g h (ne0 r_325 o_q_337 (by decide))).2.1 34).trans (sF_k kn_333 (by decide)))
  have kn_347 : (sA (sF g_336 h 32 (.ref q_324)) q_337 82 6).2.1 h 2 = .ref q_8 := ((congrFun (sA_g h (ne0 r_325 o_q_337 (by decide))).2.1 2).trans (sF_k kn_334 (by decide)))
  have kn_348 : (sA (sF g_336 h 32 (.ref q_324)) q_337 82 6).2.1 h 3 = .ref q_15 := ((congrFun (sA_g h (ne0 r_325 o_q_337 (by decide))).2.1 3).trans (sF_k kn_335 (by decide)))
  generalize (sA (sF g_336 h 32 (.ref q_324)) q_337 82 6) = g_349 at hT hI hM hE r_338 r_339 r_340 r_341 n_342 n_343 n_344 kn_345 kn_346 kn_347 kn_348 hP zP
  refine W.widen (k := 28) (n := 1546) (Nat.le_of_ble_eq_true rfl) (Nat.le_of_ble_eq_true rfl) ?_
  refine t_put0 (ci := 7) (v := .ref q_337) hB hT (ro_ci r_338 rfl) (ro_n0 r_338 (by decide)) rfl 33 (by decide) k_778 (Or.inr ⟨hin, rfl⟩) rfl rfl dX7_init_228 (fun H locs hT => ?_)
  have hI : Inv (sF g_349 h 33 (.ref q_337)) := hI.sF (fk r_338 (show fsm _ _ ft from trivial))
  have hM : Sm md_k_Model g (sF g_349 h 33 (.ref q_337)) := hM.tr hE (Sm_sF (by rw [r_338]; rfl))
  have hE : Ex g (sF g_349 h 33 (.ref q_337)) := hE
  have hP : PF [33, 32, 31, 28, 27, 26, 25, 23, 20, 19, 18, 17, 16, 15, 14, 13, 12, 11, 10, 9, 8, 7, 6, 5, 4, 3, 2, 1, 60, 52, 51, 50, 49, 38, 37, 36, 34, 30, 29, 24, 22, 21, 0] (sF g_349 h 33 (.ref q_337)) h := hP.put (q_8_33 (⟨_, rfl, r_341, n_344⟩))
  have zP : ZC (sF g_349 h 33 (.ref q_337)) q_15 := zP
  refine lv_aload_n hx hb dX7_init_231 rfl (lv_at hl 0 rfl) ?_
  refine lv_iconst (v := 4) hx hb dX7_init_232 (by decide) ?_
  refine t_newi (N' := 4) hB hT 83 (by decide) k_101 (by decide) (by decide) (by decide) (Nat.le_of_ble_eq_true rfl) (Nat.le_of_ble_eq_true rfl) dX7_init_233 (fun q_350 H o_q_350 hT => ?_)
  have z_q_350 : g.1 q_350 = 0 := hE.z0 o_q_350
  have hI : Inv (sA (sF g_349 h 33 (.ref q_337)) q_350 83 4) := hI.newi o_q_350 (by decide) (fun _ => rfl) trivial (fun _ => trivial)
  have hM : Sm md_k_Model g (sA (sF g_349 h 33 (.ref q_337)) q_350 83 4) := hM.tr hE (Sm.push o_q_350 sA_g)
  have hE : Ex g (sA (sF g_349 h 33 (.ref q_337)) q_350 83 4) := hE.tr (Ex.push o_q_350 sA_g)
  have hP : PF [33, 32, 31, 28, 27, 26, 25, 23, 20, 19, 18, 17, 16, 15, 14, 13, 12, 11, 10, 9, 8, 7, 6, 5, 4, 3, 2, 1, 60, 52, 51, 50, 49, 38, 37, 36, 34, 30, 29, 24, 22, 21, 0] (sA (sF g_349 h 33 (.ref q_337)) q_350 83 4) h := hP.pu (Ex.push o_q_350 sA_g) (sA_g h (ne0 r_338 o_q_350 (by decide))).2.1
  have zP : ZC (sA (sF g_349 h 33 (.ref q_337)) q_350 83 4) q_15 := zP.pu (sA_g q_15 (ne0 r_340 o_q_350 (by decide))).2.2.2.1
  have r_351 : (sA (sF g_349 h 33 (.ref q_337)) q_350 83 4).1 h = 18 := ((sA_g h (ne0 r_338 o_q_350 (by decide))).1.trans r_338)
  have r_352 : (sA (sF g_349 h 33 (.ref q_337)) q_350 83 4).1 q_8 = 71 := ((sA_g q_8 (ne0 r_339 o_q_350 (by decide))).1.trans r_339)
  have r_353 : (sA (sF g_349 h 33 (.ref q_337)) q_350 83 4).1 q_15 = 72 := ((sA_g q_15 (ne0 r_340 o_q_350 (by decide))).1.trans r_340)
  have r_354 : (sA (sF g_349 h 33 (.ref q_337)) q_350 83 4).1 q_350 = 83 := sA_r
  have n_355 : (sA (sF g_349 h 33 (.ref q_337)) q_350 83 4).2.2.1 q_8 = 48 := ((sA_g q_8 (ne0 r_339 o_q_350 (by decide))).2.2.1.trans n_342)
  have n_356 : (sA (sF g_349 h 33 (.ref q_337)) q_350 83 4).2.2.1 q_15 = 48 := ((sA_g q_15 (ne0 r_340 o_q_350 (by decide))).2.2.1.trans n_343)
  have n_357 : (sA (sF g_349 h 33 (.ref q_337)) q_350 83 4).2.2.1 q_350 = 4 := sA_n
  have kn_358 : (sA (sF g_349 h 33 (.ref q_337)) q_350 83 4).2.1 h 22 = .int 0 := ((congrFun (sA_g h (ne0 r_338 o_q_350 (by decide))).2.1 22).trans (sF_k kn_345 (by decide)))
  have kn_359 : (sA (sF g_349 h 33 (.ref q_337)) q_350 83 4).2.1 h 34 = .int 0 := ((congrFun (sA_g h (ne0 r_338 o_q_350 (by decide))).2.1 34).trans (sF_k kn_346 (by decide)))
  have kn_360 : (sA (sF g_349 h 33 (.ref q_337)) q_350 83 4).2.1 h 2 = .ref q_8 := ((congrFun (sA_g h (ne0 r_338 o_q_350 (by decide))).2.1 2).trans (sF_k kn_347 (by decide)))
  have kn_361 : (sA (sF g_349 h 33 (.ref q_337)) q_350 83 4).2.1 h 3 = .ref q_15 := ((congrFun (sA_g h (ne0 r_338 o_q_350 (by decide))).2.1 3).trans (sF_k kn_348 (by decide)))
  generalize (sA (sF g_349 h 33 (.ref q_337)) q_350 83 4) = g_362 at hT hI hM hE r_351 r_352 r_353 r_354 n_355 n_356 n_357 kn_358 kn_359 kn_360 kn_361 hP zP
  refine W.widen (k := 29) (n := 1550) (Nat.le_of_ble_eq_true rfl) (Nat.le_of_ble_eq_true rfl) ?_
  refine lv_dup hx hb dX7_init_235 rfl ?_
  refine lv_iconst (v := 0) hx hb dX7_init_236 (by decide) ?_
  refine lv_iconst (v := 1) hx hb dX7_init_237 (by decide) ?_
  have i_363 : vp_in (0 : Int32) 4 := (by unfold vp_in; decide)
  refine t_iast hB hT (ro_in r_354 (by decide)) n_357 i_363 dX7_init_238 (fun H locs hT => ?_)
  have hI : Inv (sC g_362 q_350 (0 : Int32).toNatClampNeg (1 : Int32)) := hI.sC (ck r_354 trivial)
  have hM : Sm md_k_Model g (sC g_362 q_350 (0 : Int32).toNatClampNeg (1 : Int32)) := hM.tr hE (Sm_sC (by rw [r_354]; rfl))
  have hE : Ex g (sC g_362 q_350 (0 : Int32).toNatClampNeg (1 : Int32)) := hE
  have hP : PF [33, 32, 31, 28, 27, 26, 25, 23, 20, 19, 18, 17, 16, 15, 14, 13, 12, 11, 10, 9, 8, 7, 6, 5, 4, 3, 2, 1, 60, 52, 51, 50, 49, 38, 37, 36, 34, 30, 29, 24, 22, 21, 0] (sC g_362 q_350 (0 : Int32).toNatClampNeg (1 : Int32)) h := hP.tC 
  have zP : ZC (sC g_362 q_350 (0 : Int32).toNatClampNeg (1 : Int32)) q_15 := zP.tC (ro_ne r_353 r_354 (by decide))
  refine lv_dup hx hb dX7_init_239 rfl ?_
  refine lv_iconst (v := 1) hx hb dX7_init_240 (by decide) ?_
  refine lv_iconst (v := 1) hx hb dX7_init_241 (by decide) ?_
  have i_364 : vp_in (1 : Int32) 4 := (by unfold vp_in; decide)
  refine t_iast hB hT (ro_in r_354 (by decide)) n_357 i_364 dX7_init_242 (fun H locs hT => ?_)
  have hI : Inv (sC (sC g_362 q_350 (0 : Int32).toNatClampNeg (1 : Int32)) q_350 (1 : Int32).toNatClampNeg (1 : Int32)) := hI.sC (ck r_354 trivial)
  have hM : Sm md_k_Model g (sC (sC g_362 q_350 (0 : Int32).toNatClampNeg (1 : Int32)) q_350 (1 : Int32).toNatClampNeg (1 : Int32)) := hM.tr hE (Sm_sC (by rw [r_354]; rfl))
  have hE : Ex g (sC (sC g_362 q_350 (0 : Int32).toNatClampNeg (1 : Int32)) q_350 (1 : Int32).toNatClampNeg (1 : Int32)) := hE
  have hP : PF [33, 32, 31, 28, 27, 26, 25, 23, 20, 19, 18, 17, 16, 15, 14, 13, 12, 11, 10, 9, 8, 7, 6, 5, 4, 3, 2, 1, 60, 52, 51, 50, 49, 38, 37, 36, 34, 30, 29, 24, 22, 21, 0] (sC (sC g_362 q_350 (0 : Int32).toNatClampNeg (1 : Int32)) q_350 (1 : Int32).toNatClampNeg (1 : Int32)) h := hP.tC 
  have zP : ZC (sC (sC g_362 q_350 (0 : Int32).toNatClampNeg (1 : Int32)) q_350 (1 : Int32).toNatClampNeg (1 : Int32)) q_15 := zP.tC (ro_ne r_353 r_354 (by decide))
  refine lv_dup hx hb dX7_init_243 rfl ?_
  refine lv_iconst (v := 2) hx hb dX7_init_244 (by decide) ?_
  refine lv_iconst (v := 1) hx hb dX7_init_245 (by decide) ?_
  have i_365 : vp_in (2 : Int32) 4 := (by unfold vp_in; decide)
  refine t_iast hB hT (ro_in r_354 (by decide)) n_357 i_365 dX7_init_246 (fun H locs hT => ?_)
  have hI : Inv (sC (sC (sC g_362 q_350 (0 : Int32).toNatClampNeg (1 : Int32)) q_350 (1 : Int32).toNatClampNeg (1 : Int32)) q_350 (2 : Int32).toNatClampNeg (1 : Int32)) := hI.sC (ck r_354 trivial)
  have hM : Sm md_k_Model g (sC (sC (sC g_362 q_350 (0 : Int32).toNatClampNeg (1 : Int32)) q_350 (1 : Int32).toNatClampNeg (1 : Int32)) q_350 (2 : Int32).toNatClampNeg (1 : Int32)) := hM.tr hE (Sm_sC (by rw [r_354]; rfl))
  have hE : Ex g (sC (sC (sC g_362 q_350 (0 : Int32).toNatClampNeg (1 : Int32)) q_350 (1 : Int32).toNatClampNeg (1 : Int32)) q_350 (2 : Int32).toNatClampNeg (1 : Int32)) := hE
  have hP : PF [33, 32, 31, 28, 27, 26, 25, 23, 20, 19, 18, 17, 16, 15, 14, 13, 12, 11, 10, 9, 8, 7, 6, 5, 4, 3, 2, 1, 60, 52, 51, 50, 49, 38, 37, 36, 34, 30, 29, 24, 22, 21, 0] (sC (sC (sC g_362 q_350 (0 : Int32).toNatClampNeg (1 : Int32)) q_350 (1 : Int32).toNatClampNeg (1 : Int32)) q_350 (2 : Int32).toNatClampNeg (1 : Int32)) h := hP.tC 
  have zP : ZC (sC (sC (sC g_362 q_350 (0 : Int32).toNatClampNeg (1 : Int32)) q_350 (1 : Int32).toNatClampNeg (1 : Int32)) q_350 (2 : Int32).toNatClampNeg (1 : Int32)) q_15 := zP.tC (ro_ne r_353 r_354 (by decide))
  refine lv_dup hx hb dX7_init_247 rfl ?_
  refine lv_iconst (v := 3) hx hb dX7_init_248 (by decide) ?_
  refine lv_iconst (v := 1) hx hb dX7_init_249 (by decide) ?_
  have i_366 : vp_in (3 : Int32) 4 := (by unfold vp_in; decide)
  refine t_iast hB hT (ro_in r_354 (by decide)) n_357 i_366 dX7_init_250 (fun H locs hT => ?_)
  have hI : Inv (sC (sC (sC (sC g_362 q_350 (0 : Int32).toNatClampNeg (1 : Int32)) q_350 (1 : Int32).toNatClampNeg (1 : Int32)) q_350 (2 : Int32).toNatClampNeg (1 : Int32)) q_350 (3 : Int32).toNatClampNeg (1 : Int32)) := hI.sC (ck r_354 trivial)
  have hM : Sm md_k_Model g (sC (sC (sC (sC g_362 q_350 (0 : Int32).toNatClampNeg (1 : Int32)) q_350 (1 : Int32).toNatClampNeg (1 : Int32)) q_350 (2 : Int32).toNatClampNeg (1 : Int32)) q_350 (3 : Int32).toNatClampNeg (1 : Int32)) := hM.tr hE (Sm_sC (by rw [r_354]; rfl))
  have hE : Ex g (sC (sC (sC (sC g_362 q_350 (0 : Int32).toNatClampNeg (1 : Int32)) q_350 (1 : Int32).toNatClampNeg (1 : Int32)) q_350 (2 : Int32).toNatClampNeg (1 : Int32)) q_350 (3 : Int32).toNatClampNeg (1 : Int32)) := hE
  have hP : PF [33, 32, 31, 28, 27, 26, 25, 23, 20, 19, 18, 17, 16, 15, 14, 13, 12, 11, 10, 9, 8, 7, 6, 5, 4, 3, 2, 1, 60, 52, 51, 50, 49, 38, 37, 36, 34, 30, 29, 24, 22, 21, 0] (sC (sC (sC (sC g_362 q_350 (0 : Int32).toNatClampNeg (1 : Int32)) q_350 (1 : Int32).toNatClampNeg (1 : Int32)) q_350 (2 : Int32).toNatClampNeg (1 : Int32)) q_350 (3 : Int32).toNatClampNeg (1 : Int32)) h := hP.tC 
  have zP : ZC (sC (sC (sC (sC g_362 q_350 (0 : Int32).toNatClampNeg (1 : Int32)) q_350 (1 : Int32).toNatClampNeg (1 : Int32)) q_350 (2 : Int32).toNatClampNeg (1 : Int32)) q_350 (3 : Int32).toNatClampNeg (1 : Int32)) q_15 := zP.tC (ro_ne r_353 r_354 (by decide))
  refine t_put0 (ci := 7) (v := .ref q_350) hB hT (ro_ci r_351 rfl) (ro_n0 r_351 (by decide)) rfl 35 (by decide) k_780 (Or.inr ⟨hin, rfl⟩) rfl rfl dX7_init_251 (fun H locs hT => ?_)
  have hI : Inv (sF (sC (sC (sC (sC g_362 q_350 (0 : Int32).toNatClampNeg (1 : Int32)) q_350 (1 : Int32).toNatClampNeg (1 : Int32)) q_350 (2 : Int32).toNatClampNeg (1 : Int32)) q_350 (3 : Int32).toNatClampNeg (1 : Int32)) h 35 (.ref q_350)) := hI.sF (fk r_351 (show fsm _ _ ft from trivial))
  have hM : Sm md_k_Model g (sF (sC (sC (sC (sC g_362 q_350 (0 : Int32).toNatClampNeg (1 : Int32)) q_350 (1 : Int32).toNatClampNeg (1 : Int32)) q_350 (2 : Int32).toNatClampNeg (1 : Int32)) q_350 (3 : Int32).toNatClampNeg (1 : Int32)) h 35 (.ref q_350)) := hM.tr hE (Sm_sF (by rw [r_351]; rfl))
  have hE : Ex g (sF (sC (sC (sC (sC g_362 q_350 (0 : Int32).toNatClampNeg (1 : Int32)) q_350 (1 : Int32).toNatClampNeg (1 : Int32)) q_350 (2 : Int32).toNatClampNeg (1 : Int32)) q_350 (3 : Int32).toNatClampNeg (1 : Int32)) h 35 (.ref q_350)) := hE
  have hP : PF [35, 33, 32, 31, 28, 27, 26, 25, 23, 20, 19, 18, 17, 16, 15, 14, 13, 12, 11, 10, 9, 8, 7, 6, 5, 4, 3, 2, 1, 60, 52, 51, 50, 49, 38, 37, 36, 34, 30, 29, 24, 22, 21, 0] (sF (sC (sC (sC (sC g_362 q_350 (0 : Int32).toNatClampNeg (1 : Int32)) q_350 (1 : Int32).toNatClampNeg (1 : Int32)) q_350 (2 : Int32).toNatClampNeg (1 : Int32)) q_350 (3 : Int32).toNatClampNeg (1 : Int32)) h 35 (.ref q_350)) h := hP.put (q_8_35 (⟨_, rfl, r_354, n_357⟩))
  have zP : ZC (sF (sC (sC (sC (sC g_362 q_350 (0 : Int32).toNatClampNeg (1 : Int32)) q_350 (1 : Int32).toNatClampNeg (1 : Int32)) q_350 (2 : Int32).toNatClampNeg (1 : Int32)) q_350 (3 : Int32).toNatClampNeg (1 : Int32)) h 35 (.ref q_350)) q_15 := zP
  refine lv_aload_n hx hb dX7_init_254 rfl (lv_at hl 0 rfl) ?_
  refine lv_bipush (v := 8) hx hb dX7_init_255 (by decide) ?_
  refine t_newi (N' := 8) hB hT 84 (by decide) k_101 (by decide) (by decide) (by decide) (Nat.le_of_ble_eq_true rfl) (Nat.le_of_ble_eq_true rfl) dX7_init_257 (fun q_367 H o_q_367 hT => ?_)
  have z_q_367 : g.1 q_367 = 0 := hE.z0 o_q_367
  have hI : Inv (sA (sF (sC (sC (sC (sC g_362 q_350 (0 : Int32).toNatClampNeg (1 : Int32)) q_350 (1 : Int32).toNatClampNeg (1 : Int32)) q_350 (2 : Int32).toNatClampNeg (1 : Int32)) q_350 (3 : Int32).toNatClampNeg (1 : Int32)) h 35 (.ref q_350)) q_367 84 8) := hI.newi o_q_367 (by decide) (fun _ => rfl) trivial (fun _ => trivial)
  have hM : Sm md_k_Model g (sA (sF (sC (sC (sC (sC g_362 q_350 (0 : Int32).toNatClampNeg (1 : Int32)) q_350 (1 : Int32).toNatClampNeg (1 : Int32)) q_350 (2 : Int32).toNatClampNeg (1 : Int32)) q_350 (3 : Int32).toNatClampNeg (1 : Int32)) h 35 (.ref q_350)) q_367 84 8) := hM.tr hE (Sm.push o_q_367 sA_g)
  have hE : Ex g (sA (sF (sC (sC (sC (sC g_362 q_350 (0 : Int32).toNatClampNeg (1 : Int32)) q_350 (1 : Int32).toNatClampNeg (1 : Int32)) q_350 (2 : Int32).toNatClampNeg (1 : Int32)) q_350 (3 : Int32).toNatClampNeg (1 : Int32)) h 35 (.ref q_350)) q_367 84 8) := hE.tr (Ex.push o_q_367 sA_g)
  have hP : PF [35, 33, 32, 31, 28, 27, 26, 25, 23, 20, 19, 18, 17, 16, 15, 14, 13, 12, 11, 10, 9, 8, 7, 6, 5, 4, 3, 2, 1, 60, 52, 51, 50, 49, 38, 37, 36, 34, 30, 29, 24, 22, 21, 0] (sA (sF (sC (sC (sC (sC g_362 q_350 (0 : Int32).toNatClampNeg (1 : Int32)) q_350 (1 : Int32).toNatClampNeg (1 : Int32)) q_350 (2 : Int32).toNatClampNeg (1 : Int32)) q_350 (3 : Int32).toNatClampNeg (1 : Int32)) h 35 (.ref q_350)) q_367 84 8) h := hP.pu (Ex.push o_q_367 sA_g) (sA_g h (ne0 r_351 o_q_367 (by decide))).2.1
  have zP : ZC (sA (sF (sC (sC (sC (sC g_362 q_350 (0 : Int32).toNatClampNeg (1 : Int32)) q_350 (1 : Int32).toNatClampNeg (1 : Int32)) q_350 (2 : Int32).toNatClampNeg (1 : Int32)) q_350 (3 : Int32).toNatClampNeg (1 : Int32)) h 35 (.ref q_350)) q_367 84 8) q_15 := zP.pu (sA_g q_15 (ne0 r_353 o_q_367 (by decide))).2.2.2.1
  have r_368 : (sA (sF (sC (sC (sC (sC g_362 q_350 (0 : Int32).toNatClampNeg (1 : Int32)) q_350 (1 : Int32).toNatClampNeg (1 : Int32)) q_350 (2 : Int32).toNatClampNeg (1 : Int32)) q_350 (3 : Int32).toNatClampNeg (1 : Int32)) h 35 (.ref q_350)) q_367 84 8).1 h = 18 := ((sA_g h (ne0 r_351 o_q_367 (by decide))).1.trans r_351)
  have r_369 : (sA (sF (sC (sC (sC (sC g_362 q_350 (0 : Int32).toNatClampNeg (1 : Int32)) q_350 (1 : Int32).toNatClampNeg (1 : Int32)) q_350 (2 : Int32).toNatClampNeg (1 : Int32)) q_350 (3 : Int32).toNatClampNeg (1 : Int32)) h 35 (.ref q_350)) q_367 84 8).1 q_8 = 71 := ((sA_g q_8 (ne0 r_352 o_q_367 (by decide))).1.trans r_352)
  have r_370 : (sA (sF (sC (sC (sC (sC g_362 q_350 (0 : Int32).toNatClampNeg (1 : Int32)) q_350 (1 : Int32).toNatClampNeg (1 : Int32)) q_350 (2 : Int32).toNatClampNeg (1 : Int32)) q_350 (3 : Int32).toNatClampNeg (1 : Int32)) h 35 (.ref q_350)) q_367 84 8).1 q_15 = 72 := ((sA_g q_15 (ne0 r_353 o_q_367 (by decide))).1.trans r_353)
  have r_371 : (sA (sF (sC (sC (sC (sC g_362 q_350 (0 : Int32).toNatClampNeg (1 : Int32)) q_350 (1 : Int32).toNatClampNeg (1 : Int32)) q_350 (2 : Int32).toNatClampNeg (1 : Int32)) q_350 (3 : Int32).toNatClampNeg (1 : Int32)) h 35 (.ref q_350)) q_367 84 8).1 q_350 = 83 := ((sA_g q_350 (ne0 r_354 o_q_367 (by decide))).1.trans r_354)
  have r_372 : (sA (sF (sC (sC (sC (sC g_362 q_350 (0 : Int32).toNatClampNeg (1 : Int32)) q_350 (1 : Int32).toNatClampNeg (1 : Int32)) q_350 (2 : Int32).toNatClampNeg (1 : Int32)) q_350 (3 : Int32).toNatClampNeg (1 : Int32)) h 35 (.ref q_350)) q_367 84 8).1 q_367 = 84 := sA_r
  have n_373 : (sA (sF (sC (sC (sC (sC g_362 q_350 (0 : Int32).toNatClampNeg (1 : Int32)) q_350 (1 : Int32).toNatClampNeg (1 : Int32)) q_350 (2 : Int32).toNatClampNeg (1 : Int32)) q_350 (3 : Int32).toNatClampNeg (1 : Int32)) h 35 (.ref q_350)) q_367 84 8).2.2.1 q_8 = 48 := ((sA_g q_8 (ne0 r_352 o_q_367 (by decide))).2.2.1.trans n_355)
  have n_374 : (sA (sF (sC (sC (sC (sC g_362 q_350 (0 : Int32).toNatClampNeg (1 : Int32)) q_350 (1 : Int32).toNatClampNeg (1 : Int32)) q_350 (2 : Int32).toNatClampNeg (1 : Int32)) q_350 (3 : Int32).toNatClampNeg (1 : Int32)) h 35 (.ref q_350)) q_367 84 8).2.2.1 q_15 = 48 := ((sA_g q_15 (ne0 r_353 o_q_367 (by decide))).2.2.1.trans n_356)
  have n_375 : (sA (sF (sC (sC (sC (sC g_362 q_350 (0 : Int32).toNatClampNeg (1 : Int32)) q_350 (1 : Int32).toNatClampNeg (1 : Int32)) q_350 (2 : Int32).toNatClampNeg (1 : Int32)) q_350 (3 : Int32).toNatClampNeg (1 : Int32)) h 35 (.ref q_350)) q_367 84 8).2.2.1 q_350 = 4 := ((sA_g q_350 (ne0 r_354 o_q_367 (by decide))).2.2.1.trans n_357)
  have n_376 : (sA (sF (sC (sC (sC (sC g_362 q_350 (0 : Int32).toNatClampNeg (1 : Int32)) q_350 (1 : Int32).toNatClampNeg (1 : Int32)) q_350 (2 : Int32).toNatClampNeg (1 : Int32)) q_350 (3 : Int32).toNatClampNeg (1 : Int32)) h 35 (.ref q_350)) q_367 84 8).2.2.1 q_367 = 8 := sA_n
  have kn_377 : (sA (sF (sC (sC (sC (sC g_362 q_350 (0 : Int32).toNatClampNeg (1 : Int32)) q_350 (1 : Int32).toNatClampNeg (1 : Int32)) q_350 (2 : Int32).toNatClampNeg (1 : Int32)) q_350 (3 : Int32).toNatClampNeg (1 : Int32)) h 35 (.ref q_350)) q_367 84 8).2.1 h 22 = .int 0 := ((congrFun (sA_g h (ne0 r_351 o_q_367 (by decide))).2.1 22).trans (sF_k kn_358 (by decide)))
  have kn_378 : (sA (sF (sC (sC (sC (sC g_362 q_350 (0 : Int32).toNatClampNeg (1 : Int32)) q_350 (1 : Int32).toNatClampNeg (1 : Int32)) q_350 (2 : Int32).toNatClampNeg (1 : Int32)) q_350 (3 : Int32).toNatClampNeg (1 : Int32)) h 35 (.ref q_350)) q_367 84 8).2.1 h 34 = .int 0 := ((congrFun (sA_g h (ne0 r_351 o_q_367 (by decide))).2.1 34).trans (sF_k kn_359 (by decide)))
  have kn_379 : (sA (sF (sC (sC (sC (sC g_362 q_350 (0 : Int32).toNatClampNeg (1 : Int32)) q_350 (1 : Int32).toNatClampNeg (1 : Int32)) q_350 (2 : Int32).toNatClampNeg (1 : Int32)) q_350 (3 : Int32).toNatClampNeg (1 : Int32)) h 35 (.ref q_350)) q_367 84 8).2.1 h 2 = .ref q_8 := ((congrFun (sA_g h (ne0 r_351 o_q_367 (by decide))).2.1 2).trans (sF_k kn_360 (by decide)))
  have kn_380 : (sA (sF (sC (sC (sC (sC g_362 q_350 (0 : Int32).toNatClampNeg (1 : Int32)) q_350 (1 : Int32).toNatClampNeg (1 : Int32)) q_350 (2 : Int32).toNatClampNeg (1 : Int32)) q_350 (3 : Int32).toNatClampNeg (1 : Int32)) h 35 (.ref q_350)) q_367 84 8).2.1 h 3 = .ref q_15 := ((congrFun (sA_g h (ne0 r_351 o_q_367 (by decide))).2.1 3).trans (sF_k kn_361 (by decide)))
  have kn_381 : (sA (sF (sC (sC (sC (sC g_362 q_350 (0 : Int32).toNatClampNeg (1 : Int32)) q_350 (1 : Int32).toNatClampNeg (1 : Int32)) q_350 (2 : Int32).toNatClampNeg (1 : Int32)) q_350 (3 : Int32).toNatClampNeg (1 : Int32)) h 35 (.ref q_350)) q_367 84 8).2.1 h 35 = .ref q_350 := ((congrFun (sA_g h (ne0 r_351 o_q_367 (by decide))).2.1 35).trans sF_eq)
  have kn_382 : (sA (sF (sC (sC (sC (sC g_362 q_350 (0 : Int32).toNatClampNeg (1 : Int32)) q_350 (1 : Int32).toNatClampNeg (1 : Int32)) q_350 (2 : Int32).toNatClampNeg (1 : Int32)) q_350 (3 : Int32).toNatClampNeg (1 : Int32)) h 35 (.ref q_350)) q_367 84 8).2.2.2.1 q_350 (0 : Int32).toNatClampNeg = 1 := ((congrFun (sA_g q_350 (ne0 r_354 o_q_367 (by decide))).2.2.2.1 _).trans (sC_i (sC_i (sC_i sC_eq (by decide)) (by decide)) (by decide)))
  have kn_383 : (sA (sF (sC (sC (sC (sC g_362 q_350 (0 : Int32).toNatClampNeg (1 : Int32)) q_350 (1 : Int32).toNatClampNeg (1 : Int32)) q_350 (2 : Int32).toNatClampNeg (1 : Int32)) q_350 (3 : Int32).toNatClampNeg (1 : Int32)) h 35 (.ref q_350)) q_367 84 8).2.2.2.1 q_350 (1 : Int32).toNatClampNeg = 1 := ((congrFun (sA_g q_350 (ne0 r_354 o_q_367 (by decide))).2.2.2.1 _).trans (sC_i (sC_i sC_eq (by decide)) (by decide)))
  have kn_384 : (sA (sF (sC (sC (sC (sC g_362 q_350 (0 : Int32).toNatClampNeg (1 : Int32)) q_350 (1 : Int32).toNatClampNeg (1 : Int32)) q_350 (2 : Int32).toNatClampNeg (1 : Int32)) q_350 (3 : Int32).toNatClampNeg (1 : Int32)) h 35 (.ref q_350)) q_367 84 8).2.2.2.1 q_350 (2 : Int32).toNatClampNeg = 1 := ((congrFun (sA_g q_350 (ne0 r_354 o_q_367 (by decide))).2.2.2.1 _).trans (sC_i sC_eq (by decide)))
  have kn_385 : (sA (sF (sC (sC (sC (sC g_362 q_350 (0 : Int32).toNatClampNeg (1 : Int32)) q_350 (1 : Int32).toNatClampNeg (1 : Int32)) q_350 (2 : Int32).toNatClampNeg (1 : Int32)) q_350 (3 : Int32).toNatClampNeg (1 : Int32)) h 35 (.ref q_350)) q_367 84 8).2.2.2.1 q_350 (3 : Int32).toNatClampNeg = 1 := ((congrFun (sA_g q_350 (ne0 r_354 o_q_367 (by decide))).2.2.2.1 _).trans sC_eq)
  generalize (sA (sF (sC (sC (sC (sC g_362 q_350 (0 : Int32).toNatClampNeg (1 : Int32)) q_350 (1 : Int32).toNatClampNeg (1 : Int32)) q_350 (2 : Int32).toNatClampNeg (1 : Int32)) q_350 (3 : Int32).toNatClampNeg (1 : Int32)) h 35 (.ref q_350)) q_367 84 8) = g_386 at hT hI hM hE r_368 r_369 r_370 r_371 r_372 n_373 n_374 n_375 n_376 kn_377 kn_378 kn_379 kn_380 kn_381 kn_382 kn_383 kn_384 kn_385 hP zP
  refine W.widen (k := 30) (n := 1558) (Nat.le_of_ble_eq_true rfl) (Nat.le_of_ble_eq_true rfl) ?_
  refine t_put0 (ci := 7) (v := .ref q_367) hB hT (ro_ci r_368 rfl) (ro_n0 r_368 (by decide)) rfl 39 (by decide) k_784 (Or.inr ⟨hin, rfl⟩) rfl rfl dX7_init_259 (fun H locs hT => ?_)
  have hI : Inv (sF g_386 h 39 (.ref q_367)) := hI.sF (fk r_368 (show fsm _ _ ft from trivial))
  have hM : Sm md_k_Model g (sF g_386 h 39 (.ref q_367)) := hM.tr hE (Sm_sF (by rw [r_368]; rfl))
  have hE : Ex g (sF g_386 h 39 (.ref q_367)) := hE
  have hP : PF [39, 35, 33, 32, 31, 28, 27, 26, 25, 23, 20, 19, 18, 17, 16, 15, 14, 13, 12, 11, 10, 9, 8, 7, 6, 5, 4, 3, 2, 1, 60, 52, 51, 50, 49, 38, 37, 36, 34, 30, 29, 24, 22, 21, 0] (sF g_386 h 39 (.ref q_367)) h := hP.put (q_8_39 (⟨_, rfl, r_372, n_376⟩))
  have zP : ZC (sF g_386 h 39 (.ref q_367)) q_15 := zP
  refine lv_aload_n hx hb dX7_init_262 rfl (lv_at hl 0 rfl) ?_
  refine lv_bipush (v := 8) hx hb dX7_init_263 (by decide) ?_
  refine t_newi (N' := 8) hB hT 85 (by decide) k_101 (by decide) (by decide) (by decide) (Nat.le_of_ble_eq_true rfl) (Nat.le_of_ble_eq_true rfl) dX7_init_265 (fun q_387 H o_q_387 hT => ?_)
  have z_q_387 : g.1 q_387 = 0 := hE.z0 o_q_387
  have hI : Inv (sA (sF g_386 h 39 (.ref q_367)) q_387 85 8) := hI.newi o_q_387 (by decide) (fun _ => rfl) ⟨by decide, by decide⟩ (fun _ => trivial)
  have hM : Sm md_k_Model g (sA (sF g_386 h 39 (.ref q_367)) q_387 85 8) := hM.tr hE (Sm.push o_q_387 sA_g)
  have hE : Ex g (sA (sF g_386 h 39 (.ref q_367)) q_387 85 8) := hE.tr (Ex.push o_q_387 sA_g)
  have hP : PF [39, 35, 33, 32, 31, 28, 27, 26, 25, 23, 20, 19, 18, 17, 16, 15, 14, 13, 12, 11, 10, 9, 8, 7, 6, 5, 4, 3, 2, 1, 60, 52, 51, 50, 49, 38, 37, 36, 34, 30, 29, 24, 22, 21, 0] (sA (sF g_386 h 39 (.ref q_367)) q_387 85 8) h := hP.pu (Ex.push o_q_387 sA_g) (sA_g h (ne0 r_368 o_q_387 (by decide))).2.1
  have zP : ZC (sA (sF g_386 h 39 (.ref q_367)) q_387 85 8) q_15 := zP.pu (sA_g q_15 (ne0 r_370 o_q_387 (by decide))).2.2.2.1
  have zN : ZC (sA (sF g_386 h 39 (.ref q_367)) q_387 85 8) q_387 := sA_z
  have r_388 : (sA (sF g_386 h 39 (.ref q_367)) q_387 85 8).1 h = 18 := ((sA_g h (ne0 r_368 o_q_387 (by decide))).1.trans r_368)
  have r_389 : (sA (sF g_386 h 39 (.ref q_367)) q_387 85 8).1 q_8 = 71 := ((sA_g q_8 (ne0 r_369 o_q_387 (by decide))).1.trans r_369)
  have r_390 : (sA (sF g_386 h 39 (.ref q_367)) q_387 85 8).1 q_15 = 72 := ((sA_g q_15 (ne0 r_370 o_q_387 (by decide))).1.trans r_370)
  have r_391 : (sA (sF g_386 h 39 (.ref q_367)) q_387 85 8).1 q_350 = 83 := ((sA_g q_350 (ne0 r_371 o_q_387 (by decide))).1.trans r_371)
  have r_392 : (sA (sF g_386 h 39 (.ref q_367)) q_387 85 8).1 q_367 = 84 := ((sA_g q_367 (ne0 r_372 o_q_387 (by decide))).1.trans r_372)
  have r_393 : (sA (sF g_386 h 39 (.ref q_367)) q_387 85 8).1 q_387 = 85 := sA_r
  have n_394 : (sA (sF g_386 h 39 (.ref q_367)) q_387 85 8).2.2.1 q_8 = 48 := ((sA_g q_8 (ne0 r_369 o_q_387 (by decide))).2.2.1.trans n_373)
  have n_395 : (sA (sF g_386 h 39 (.ref q_367)) q_387 85 8).2.2.1 q_15 = 48 := ((sA_g q_15 (ne0 r_370 o_q_387 (by decide))).2.2.1.trans n_374)
  have n_396 : (sA (sF g_386 h 39 (.ref q_367)) q_387 85 8).2.2.1 q_350 = 4 := ((sA_g q_350 (ne0 r_371 o_q_387 (by decide))).2.2.1.trans n_375)
  have n_397 : (sA (sF g_386 h 39 (.ref q_367)) q_387 85 8).2.2.1 q_367 = 8 := ((sA_g q_367 (ne0 r_372 o_q_387 (by decide))).2.2.1.trans n_376)
  have n_398 : (sA (sF g_386 h 39 (.ref q_367)) q_387 85 8).2.2.1 q_387 = 8 := sA_n
  have kn_399 : (sA (sF g_386 h 39 (.ref q_367)) q_387 85 8).2.1 h 22 = .int 0 := ((congrFun (sA_g h (ne0 r_368 o_q_387 (by decide))).2.1 22).trans (sF_k kn_377 (by decide)))
  have kn_400 : (sA (sF g_386 h 39 (.ref q_367)) q_387 85 8).2.1 h 34 = .int 0 := ((congrFun (sA_g h (ne0 r_368 o_q_387 (by decide))).2.1 34).trans (sF_k kn_378 (by decide)))
  have kn_401 : (sA (sF g_386 h 39 (.ref q_367)) q_387 85 8).2.1 h 2 = .ref q_8 := ((congrFun (sA_g h (ne0 r_368 o_q_387 (by decide))).2.1 2).trans (sF_k kn_379 (by decide)))
  have kn_402 : (sA (sF g_386 h 39 (.ref q_367)) q_387 85 8).2.1 h 3 = .ref q_15 := ((congrFun (sA_g h (ne0 r_368 o_q_387 (by decide))).2.1 3).trans (sF_k kn_380 (by decide)))
  have kn_403 : (sA (sF g_386 h 39 (.ref q_367)) q_387 85 8).2.1 h 35 = .ref q_350 := ((congrFun (sA_g h (ne0 r_368 o_q_387 (by decide))).2.1 35).trans (sF_k kn_381 (by decide)))
  have kn_404 : (sA (sF g_386 h 39 (.ref q_367)) q_387 85 8).2.1 h 39 = .ref q_367 := ((congrFun (sA_g h (ne0 r_368 o_q_387 (by decide))).2.1 39).trans sF_eq)
  have kn_405 : (sA (sF g_386 h 39 (.ref q_367)) q_387 85 8).2.2.2.1 q_350 (0 : Int32).toNatClampNeg = 1 := ((congrFun (sA_g q_350 (ne0 r_371 o_q_387 (by decide))).2.2.2.1 _).trans kn_382)
  have kn_406 : (sA (sF g_386 h 39 (.ref q_367)) q_387 85 8).2.2.2.1 q_350 (1 : Int32).toNatClampNeg = 1 := ((congrFun (sA_g q_350 (ne0 r_371 o_q_387 (by decide))).2.2.2.1 _).trans kn_383)
  have kn_407 : (sA (sF g_386 h 39 (.ref q_367)) q_387 85 8).2.2.2.1 q_350 (2 : Int32).toNatClampNeg = 1 := ((congrFun (sA_g q_350 (ne0 r_371 o_q_387 (by decide))).2.2.2.1 _).trans kn_384)
  have kn_408 : (sA (sF g_386 h 39 (.ref q_367)) q_387 85 8).2.2.2.1 q_350 (3 : Int32).toNatClampNeg = 1 := ((congrFun (sA_g q_350 (ne0 r_371 o_q_387 (by decide))).2.2.2.1 _).trans kn_385)
  generalize (sA (sF g_386 h 39 (.ref q_367)) q_387 85 8) = g_409 at hT hI hM hE r_388 r_389 r_390 r_391 r_392 r_393 n_394 n_395 n_396 n_397 n_398 kn_399 kn_400 kn_401 kn_402 kn_403 kn_404 kn_405 kn_406 kn_407 kn_408 hP zP zN
  refine W.widen (k := 31) (n := 1566) (Nat.le_of_ble_eq_true rfl) (Nat.le_of_ble_eq_true rfl) ?_
  refine t_put0 (ci := 7) (v := .ref q_387) hB hT (ro_ci r_388 rfl) (ro_n0 r_388 (by decide)) rfl 40 (by decide) k_785 (Or.inr ⟨hin, rfl⟩) rfl rfl dX7_init_267 (fun H locs hT => ?_)
  have hI : Inv (sF g_409 h 40 (.ref q_387)) := hI.sF (fk r_388 (show fsm _ _ ft from trivial))
  have hM : Sm md_k_Model g (sF g_409 h 40 (.ref q_387)) := hM.tr hE (Sm_sF (by rw [r_388]; rfl))
  have hE : Ex g (sF g_409 h 40 (.ref q_387)) := hE
  have hP : PF [40, 39, 35, 33, 32, 31, 28, 27, 26, 25, 23, 20, 19, 18, 17, 16, 15, 14, 13, 12, 11, 10, 9, 8, 7, 6, 5, 4, 3, 2, 1, 60, 52, 51, 50, 49, 38, 37, 36, 34, 30, 29, 24, 22, 21, 0] (sF g_409 h 40 (.ref q_387)) h := hP.put (q_8_40 (⟨_, rfl, r_393, n_398⟩))
  have zP : ZC (sF g_409 h 40 (.ref q_387)) q_15 := zP
  have zN : ZC (sF g_409 h 40 (.ref q_387)) q_387 := zN
  refine lv_aload_n hx hb dX7_init_270 rfl (lv_at hl 0 rfl) ?_
  refine lv_bipush (v := 8) hx hb dX7_init_271 (by decide) ?_
  refine t_newi (N' := 8) hB hT 86 (by decide) k_101 (by decide) (by decide) (by decide) (Nat.le_of_ble_eq_true rfl) (Nat.le_of_ble_eq_true rfl) dX7_init_273 (fun q_410 H o_q_410 hT => ?_)
  have z_q_410 : g.1 q_410 = 0 := hE.z0 o_q_410
  have hI : Inv (sA (sF g_409 h 40 (.ref q_387)) q_410 86 8) := hI.newi o_q_410 (by decide) (fun _ => rfl) ⟨by decide, by decide⟩ (fun _ => trivial)
  have hM : Sm md_k_Model g (sA (sF g_409 h 40 (.ref q_387)) q_410 86 8) := hM.tr hE (Sm.push o_q_410 sA_g)
  have hE : Ex g (sA (sF g_409 h 40 (.ref q_387)) q_410 86 8) := hE.tr (Ex.push o_q_410 sA_g)
  have hP : PF [40, 39, 35, 33, 32, 31, 28, 27, 26, 25, 23, 20, 19, 18, 17, 16, 15, 14, 13, 12, 11, 10, 9, 8, 7, 6, 5, 4, 3, 2, 1, 60, 52, 51, 50, 49, 38, 37, 36, 34, 30, 29, 24, 22, 21, 0] (sA (sF g_409 h 40 (.ref q_387)) q_410 86 8) h := hP.pu (Ex.push o_q_410 sA_g) (sA_g h (ne0 r_388 o_q_410 (by decide))).2.1
  have zP : ZC (sA (sF g_409 h 40 (.ref q_387)) q_410 86 8) q_15 := zP.pu (sA_g q_15 (ne0 r_390 o_q_410 (by decide))).2.2.2.1
  have zN : ZC (sA (sF g_409 h 40 (.ref q_387)) q_410 86 8) q_387 := zN.pu (sA_g q_387 (ne0 r_393 o_q_410 (by decide))).2.2.2.1
  have r_411 : (sA (sF g_409 h 40 (.ref q_387)) q_410 86 8).1 h = 18 := ((sA_g h (ne0 r_388 o_q_410 (by decide))).1.trans r_388)
  have r_412 : (sA (sF g_409 h 40 (.ref q_387)) q_410 86 8).1 q_8 = 71 := ((sA_g q_8 (ne0 r_389 o_q_410 (by decide))).1.trans r_389)
  have r_413 : (sA (sF g_409 h 40 (.ref q_387)) q_410 86 8).1 q_15 = 72 := ((sA_g q_15 (ne0 r_390 o_q_410 (by decide))).1.trans r_390)
  have r_414 : (sA (sF g_409 h 40 (.ref q_387)) q_410 86 8).1 q_350 = 83 := ((sA_g q_350 (ne0 r_391 o_q_410 (by decide))).1.trans r_391)
  have r_415 : (sA (sF g_409 h 40 (.ref q_387)) q_410 86 8).1 q_367 = 84 := ((sA_g q_367 (ne0 r_392 o_q_410 (by decide))).1.trans r_392)
  have r_416 : (sA (sF g_409 h 40 (.ref q_387)) q_410 86 8).1 q_387 = 85 := ((sA_g q_387 (ne0 r_393 o_q_410 (by decide))).1.trans r_393)
  have r_417 : (sA (sF g_409 h 40 (.ref q_387)) q_410 86 8).1 q_410 = 86 := sA_r
  have n_418 : (sA (sF g_409 h 40 (.ref q_387)) q_410 86 8).2.2.1 q_8 = 48 := ((sA_g q_8 (ne0 r_389 o_q_410 (by decide))).2.2.1.trans n_394)
  have n_419 : (sA (sF g_409 h 40 (.ref q_387)) q_410 86 8).2.2.1 q_15 = 48 := ((sA_g q_15 (ne0 r_390 o_q_410 (by decide))).2.2.1.trans n_395)
  have n_420 : (sA (sF g_409 h 40 (.ref q_387)) q_410 86 8).2.2.1 q_350 = 4 := ((sA_g q_350 (ne0 r_391 o_q_410 (by decide))).2.2.1.trans n_396)
  have n_421 : (sA (sF g_409 h 40 (.ref q_387)) q_410 86 8).2.2.1 q_367 = 8 := ((sA_g q_367 (ne0 r_392 o_q_410 (by decide))).2.2.1.trans n_397)
  have n_422 : (sA (sF g_409 h 40 (.ref q_387)) q_410 86 8).2.2.1 q_387 = 8 := ((sA_g q_387 (ne0 r_393 o_q_410 (by decide))).2.2.1.trans n_398)
  have n_423 : (sA (sF g_409 h 40 (.ref q_387)) q_410 86 8).2.2.1 q_410 = 8 := sA_n
  have kn_424 : (sA (sF g_409 h 40 (.ref q_387)) q_410 86 8).2.1 h 22 = .int 0 := ((congrFun (sA_g h (ne0 r_388 o_q_410 (by decide))).2.1 22).trans (sF_k kn_399 (by decide)))
  have kn_425 : (sA (sF g_409 h 40 (.ref q_387)) q_410 86 8).2.1 h 34 = .int 0 := ((congrFun (sA_g h (ne0 r_388 o_q_410 (by decide))).2.1 34).trans (sF_k kn_400 (by decide)))
  have kn_426 : (sA (sF g_409 h 40 (.ref q_387)) q_410 86 8).2.1 h 2 = .ref q_8 := ((congrFun (sA_g h (ne0 r_388 o_q_410 (by decide))).2.1 2).trans (sF_k kn_401 (by decide)))
  have kn_427 : (sA (sF g_409 h 40 (.ref q_387)) q_410 86 8).2.1 h 3 = .ref q_15 := ((congrFun (sA_g h (ne0 r_388 o_q_410 (by decide))).2.1 3).trans (sF_k kn_402 (by decide)))
  have kn_428 : (sA (sF g_409 h 40 (.ref q_387)) q_410 86 8).2.1 h 35 = .ref q_350 := ((congrFun (sA_g h (ne0 r_388 o_q_410 (by decide))).2.1 35).trans (sF_k kn_403 (by decide)))
  have kn_429 : (sA (sF g_409 h 40 (.ref q_387)) q_410 86 8).2.1 h 39 = .ref q_367 := ((congrFun (sA_g h (ne0 r_388 o_q_410 (by decide))).2.1 39).trans (sF_k kn_404 (by decide)))
  have kn_430 : (sA (sF g_409 h 40 (.ref q_387)) q_410 86 8).2.1 h 40 = .ref q_387 := ((congrFun (sA_g h (ne0 r_388 o_q_410 (by decide))).2.1 40).trans sF_eq)
  have kn_431 : (sA (sF g_409 h 40 (.ref q_387)) q_410 86 8).2.2.2.1 q_350 (0 : Int32).toNatClampNeg = 1 := ((congrFun (sA_g q_350 (ne0 r_391 o_q_410 (by decide))).2.2.2.1 _).trans kn_405)
  have kn_432 : (sA (sF g_409 h 40 (.ref q_387)) q_410 86 8).2.2.2.1 q_350 (1 : Int32).toNatClampNeg = 1 := ((congrFun (sA_g q_350 (ne0 r_391 o_q_410 (by decide))).2.2.2.1 _).trans kn_406)
  have kn_433 : (sA (sF g_409 h 40 (.ref q_387)) q_410 86 8).2.2.2.1 q_350 (2 : Int32).toNatClampNeg = 1 := ((congrFun (sA_g q_350 (ne0 r_391 o_q_410 (by decide))).2.2.2.1 _).trans kn_407)
  have kn_434 : (sA (sF g_409 h 40 (.ref q_387)) q_410 86 8).2.2.2.1 q_350 (3 : Int32).toNatClampNeg = 1 := ((congrFun (sA_g q_350 (ne0 r_391 o_q_410 (by decide))).2.2.2.1 _).trans kn_408)
  generalize (sA (sF g_409 h 40 (.ref q_387)) q_410 86 8) = g_435 at hT hI hM hE r_411 r_412 r_413 r_414 r_415 r_416 r_417 n_418 n_419 n_420 n_421 n_422 n_423 kn_424 kn_425 kn_426 kn_427 kn_428 kn_429 kn_430 kn_431 kn_432 kn_433 kn_434 hP zP zN
  refine W.widen (k := 32) (n := 1574) (Nat.le_of_ble_eq_true rfl) (Nat.le_of_ble_eq_true rfl) ?_
  refine t_put0 (ci := 7) (v := .ref q_410) hB hT (ro_ci r_411 rfl) (ro_n0 r_411 (by decide)) rfl 41 (by decide) k_786 (Or.inr ⟨hin, rfl⟩) rfl rfl dX7_init_275 (fun H locs hT => ?_)
  have hI : Inv (sF g_435 h 41 (.ref q_410)) := hI.sF (fk r_411 (show fsm _ _ ft from trivial))
  have hM : Sm md_k_Model g (sF g_435 h 41 (.ref q_410)) := hM.tr hE (Sm_sF (by rw [r_411]; rfl))
  have hE : Ex g (sF g_435 h 41 (.ref q_410)) := hE
  have hP : PF [41, 40, 39, 35, 33, 32, 31, 28, 27, 26, 25, 23, 20, 19, 18, 17, 16, 15, 14, 13, 12, 11, 10, 9, 8, 7, 6, 5, 4, 3, 2, 1, 60, 52, 51, 50, 49, 38, 37, 36, 34, 30, 29, 24, 22, 21, 0] (sF g_435 h 41 (.ref q_410)) h := hP.put (q_8_41 (⟨_, rfl, r_417, n_423⟩))
  have zP : ZC (sF g_435 h 41 (.ref q_410)) q_15 := zP
  have zN : ZC (sF g_435 h 41 (.ref q_410)) q_387 := zN
  refine lv_aload_n hx hb dX7_init_278 rfl (lv_at hl 0 rfl) ?_
  refine lv_bipush (v := 24) hx hb dX7_init_279 (by decide) ?_
  refine t_newi (N' := 24) hB hT 87 (by decide) k_101 (by decide) (by decide) (by decide) (Nat.le_of_ble_eq_true rfl) (Nat.le_of_ble_eq_true rfl) dX7_init_281 (fun q_436 H o_q_436 hT => ?_)
  have z_q_436 : g.1 q_436 = 0 := hE.z0 o_q_436
  have hI : Inv (sA (sF g_435 h 41 (.ref q_410)) q_436 87 24) := hI.newi o_q_436 (by decide) (fun _ => rfl) ⟨by decide, by decide⟩ (fun _ => trivial)
  have hM : Sm md_k_Model g (sA (sF g_435 h 41 (.ref q_410)) q_436 87 24) := hM.tr hE (Sm.push o_q_436 sA_g)
  have hE : Ex g (sA (sF g_435 h 41 (.ref q_410)) q_436 87 24) := hE.tr (Ex.push o_q_436 sA_g)
  have hP : PF [41, 40, 39, 35, 33, 32, 31, 28, 27, 26, 25, 23, 20, 19, 18, 17, 16, 15, 14, 13, 12, 11, 10, 9, 8, 7, 6, 5, 4, 3, 2, 1, 60, 52, 51, 50, 49, 38, 37, 36, 34, 30, 29, 24, 22, 21, 0] (sA (sF g_435 h 41 (.ref q_410)) q_436 87 24) h := hP.pu (Ex.push o_q_436 sA_g) (sA_g h (ne0 r_411 o_q_436 (by decide))).2.1
  have zP : ZC (sA (sF g_435 h 41 (.ref q_410)) q_436 87 24) q_15 := zP.pu (sA_g q_15 (ne0 r_413 o_q_436 (by decide))).2.2.2.1
  have zN : ZC (sA (sF g_435 h 41 (.ref q_410)) q_436 87 24) q_387 := zN.pu (sA_g q_387 (ne0 r_416 o_q_436 (by decide))).2.2.2.1
  have r_437 : (sA (sF g_435 h 41 (.ref q_410)) q_436 87 24).1 h = 18 := ((sA_g h (ne0 r_411 o_q_436 (by decide))).1.trans r_411)
  have r_438 : (sA (sF g_435 h 41 (.ref q_410)) q_436 87 24).1 q_8 = 71 := ((sA_g q_8 (ne0 r_412 o_q_436 (by decide))).1.trans r_412)
  have r_439 : (sA (sF g_435 h 41 (.ref q_410)) q_436 87 24).1 q_15 = 72 := ((sA_g q_15 (ne0 r_413 o_q_436 (by decide))).1.trans r_413)
  have r_440 : (sA (sF g_435 h 41 (.ref q_410)) q_436 87 24).1 q_350 = 83 := ((sA_g q_350 (ne0 r_414 o_q_436 (by decide))).1.trans r_414)
  have r_441 : (sA (sF g_435 h 41 (.ref q_410)) q_436 87 24).1 q_367 = 84 := ((sA_g q_367 (ne0 r_415 o_q_436 (by decide))).1.trans r_415)
  have r_442 : (sA (sF g_435 h 41 (.ref q_410)) q_436 87 24).1 q_387 = 85 := ((sA_g q_387 (ne0 r_416 o_q_436 (by decide))).1.trans r_416)
  have r_443 : (sA (sF g_435 h 41 (.ref q_410)) q_436 87 24).1 q_436 = 87 := sA_r
  have n_444 : (sA (sF g_435 h 41 (.ref q_410)) q_436 87 24).2.2.1 q_8 = 48 := ((sA_g q_8 (ne0 r_412 o_q_436 (by decide))).2.2.1.trans n_418)
  have n_445 : (sA (sF g_435 h 41 (.ref q_410)) q_436 87 24).2.2.1 q_15 = 48 := ((sA_g q_15 (ne0 r_413 o_q_436 (by decide))).2.2.1.trans n_419)
  have n_446 : (sA (sF g_435 h 41 (.ref q_410)) q_436 87 24).2.2.1 q_350 = 4 := ((sA_g q_350 (ne0 r_414 o_q_436 (by decide))).2.2.1.trans n_420)
  have n_447 : (sA (sF g_435 h 41 (.ref q_410)) q_436 87 24).2.2.1 q_367 = 8 := ((sA_g q_367 (ne0 r_415 o_q_436 (by decide))).2.2.1.trans n_421)
  have n_448 : (sA (sF g_435 h 41 (.ref q_410)) q_436 87 24).2.2.1 q_387 = 8 := ((sA_g q_387 (ne0 r_416 o_q_436 (by decide))).2.2.1.trans n_422)
  have n_449 : (sA (sF g_435 h 41 (.ref q_410)) q_436 87 24).2.2.1 q_436 = 24 := sA_n
  have kn_450 : (sA (sF g_435 h 41 (.ref q_410)) q_436 87 24).2.1 h 22 = .int 0 := ((congrFun (sA_g h (ne0 r_411 o_q_436 (by decide))).2.1 22).trans (sF_k kn_424 (by decide)))
  have kn_451 : (sA (sF g_435 h 41 (.ref q_410)) q_436 87 24).2.1 h 34 = .int 0 := ((congrFun (sA_g h (ne0 r_411 o_q_436 (by decide))).2.1 34).trans (sF_k kn_425 (by decide)))
  have kn_452 : (sA (sF g_435 h 41 (.ref q_410)) q_436 87 24).2.1 h 2 = .ref q_8 := ((congrFun (sA_g h (ne0 r_411 o_q_436 (by decide))).2.1 2).trans (sF_k kn_426 (by decide)))
  have kn_453 : (sA (sF g_435 h 41 (.ref q_410)) q_436 87 24).2.1 h 3 = .ref q_15 := ((congrFun (sA_g h (ne0 r_411 o_q_436 (by decide))).2.1 3).trans (sF_k kn_427 (by decide)))
  have kn_454 : (sA (sF g_435 h 41 (.ref q_410)) q_436 87 24).2.1 h 35 = .ref q_350 := ((congrFun (sA_g h (ne0 r_411 o_q_436 (by decide))).2.1 35).trans (sF_k kn_428 (by decide)))
  have kn_455 : (sA (sF g_435 h 41 (.ref q_410)) q_436 87 24).2.1 h 39 = .ref q_367 := ((congrFun (sA_g h (ne0 r_411 o_q_436 (by decide))).2.1 39).trans (sF_k kn_429 (by decide)))
  have kn_456 : (sA (sF g_435 h 41 (.ref q_410)) q_436 87 24).2.1 h 40 = .ref q_387 := ((congrFun (sA_g h (ne0 r_411 o_q_436 (by decide))).2.1 40).trans (sF_k kn_430 (by decide)))
  have kn_457 : (sA (sF g_435 h 41 (.ref q_410)) q_436 87 24).2.2.2.1 q_350 (0 : Int32).toNatClampNeg = 1 := ((congrFun (sA_g q_350 (ne0 r_414 o_q_436 (by decide))).2.2.2.1 _).trans kn_431)
  have kn_458 : (sA (sF g_435 h 41 (.ref q_410)) q_436 87 24).2.2.2.1 q_350 (1 : Int32).toNatClampNeg = 1 := ((congrFun (sA_g q_350 (ne0 r_414 o_q_436 (by decide))).2.2.2.1 _).trans kn_432)
  have kn_459 : (sA (sF g_435 h 41 (.ref q_410)) q_436 87 24).2.2.2.1 q_350 (2 : Int32).toNatClampNeg = 1 := ((congrFun (sA_g q_350 (ne0 r_414 o_q_436 (by decide))).2.2.2.1 _).trans kn_433)
  have kn_460 : (sA (sF g_435 h 41 (.ref q_410)) q_436 87 24).2.2.2.1 q_350 (3 : Int32).toNatClampNeg = 1 := ((congrFun (sA_g q_350 (ne0 r_414 o_q_436 (by decide))).2.2.2.1 _).trans kn_434)
  generalize (sA (sF g_435 h 41 (.ref q_410)) q_436 87 24) = g_461 at hT hI hM hE r_437 r_438 r_439 r_440 r_441 r_442 r_443 n_444 n_445 n_446 n_447 n_448 n_449 kn_450 kn_451 kn_452 kn_453 kn_454 kn_455 kn_456 kn_457 kn_458 kn_459 kn_460 hP zP zN
  refine W.widen (k := 33) (n := 1598) (Nat.le_of_ble_eq_true rfl) (Nat.le_of_ble_eq_true rfl) ?_
  refine lv_dup hx hb dX7_init_283 rfl ?_
  refine lv_iconst (v := 0) hx hb dX7_init_284 (by decide) ?_
  refine lv_bipush (v := 115) hx hb dX7_init_285 (by decide) ?_
  have i_462 : vp_in (0 : Int32) 24 := (by unfold vp_in; decide)
  refine t_iast hB hT (ro_in r_443 (by decide)) n_449 i_462 dX7_init_287 (fun H locs hT => ?_)
  have hI : Inv (sC g_461 q_436 (0 : Int32).toNatClampNeg (115 : Int32)) := hI.sC (ck r_443 ⟨by decide, by decide⟩)
  have hM : Sm md_k_Model g (sC g_461 q_436 (0 : Int32).toNatClampNeg (115 : Int32)) := hM.tr hE (Sm_sC (by rw [r_443]; rfl))
  have hE : Ex g (sC g_461 q_436 (0 : Int32).toNatClampNeg (115 : Int32)) := hE
  have hP : PF [41, 40, 39, 35, 33, 32, 31, 28, 27, 26, 25, 23, 20, 19, 18, 17, 16, 15, 14, 13, 12, 11, 10, 9, 8, 7, 6, 5, 4, 3, 2, 1, 60, 52, 51, 50, 49, 38, 37, 36, 34, 30, 29, 24, 22, 21, 0] (sC g_461 q_436 (0 : Int32).toNatClampNeg (115 : Int32)) h := hP.tC 
  have zP : ZC (sC g_461 q_436 (0 : Int32).toNatClampNeg (115 : Int32)) q_15 := zP.tC (ro_ne r_439 r_443 (by decide))
  have zN : ZC (sC g_461 q_436 (0 : Int32).toNatClampNeg (115 : Int32)) q_387 := zN.tC (ro_ne r_442 r_443 (by decide))
  refine lv_dup hx hb dX7_init_288 rfl ?_
  refine lv_iconst (v := 1) hx hb dX7_init_289 (by decide) ?_
  refine lv_bipush (v := 101) hx hb dX7_init_290 (by decide) ?_
  have i_463 : vp_in (1 : Int32) 24 := (by unfold vp_in; decide)
  refine t_iast hB hT (ro_in r_443 (by decide)) n_449 i_463 dX7_init_292 (fun H locs hT => ?_)
  have hI : Inv (sC (sC g_461 q_436 (0 : Int32).toNatClampNeg (115 : Int32)) q_436 (1 : Int32).toNatClampNeg (101 : Int32)) := hI.sC (ck r_443 ⟨by decide, by decide⟩)
  have hM : Sm md_k_Model g (sC (sC g_461 q_436 (0 : Int32).toNatClampNeg (115 : Int32)) q_436 (1 : Int32).toNatClampNeg (101 : Int32)) := hM.tr hE (Sm_sC (by rw [r_443]; rfl))
  have hE : Ex g (sC (sC g_461 q_436 (0 : Int32).toNatClampNeg (115 : Int32)) q_436 (1 : Int32).toNatClampNeg (101 : Int32)) := hE
  have hP : PF [41, 40, 39, 35, 33, 32, 31, 28, 27, 26, 25, 23, 20, 19, 18, 17, 16, 15, 14, 13, 12, 11, 10, 9, 8, 7, 6, 5, 4, 3, 2, 1, 60, 52, 51, 50, 49, 38, 37, 36, 34, 30, 29, 24, 22, 21, 0] (sC (sC g_461 q_436 (0 : Int32).toNatClampNeg (115 : Int32)) q_436 (1 : Int32).toNatClampNeg (101 : Int32)) h := hP.tC 
  have zP : ZC (sC (sC g_461 q_436 (0 : Int32).toNatClampNeg (115 : Int32)) q_436 (1 : Int32).toNatClampNeg (101 : Int32)) q_15 := zP.tC (ro_ne r_439 r_443 (by decide))
  have zN : ZC (sC (sC g_461 q_436 (0 : Int32).toNatClampNeg (115 : Int32)) q_436 (1 : Int32).toNatClampNeg (101 : Int32)) q_387 := zN.tC (ro_ne r_442 r_443 (by decide))
  refine lv_dup hx hb dX7_init_293 rfl ?_
  refine lv_iconst (v := 2) hx hb dX7_init_294 (by decide) ?_
  refine lv_bipush (v := 116) hx hb dX7_init_295 (by decide) ?_
  have i_464 : vp_in (2 : Int32) 24 := (by unfold vp_in; decide)
  refine t_iast hB hT (ro_in r_443 (by decide)) n_449 i_464 dX7_init_297 (fun H locs hT => ?_)
  have hI : Inv (sC (sC (sC g_461 q_436 (0 : Int32).toNatClampNeg (115 : Int32)) q_436 (1 : Int32).toNatClampNeg (101 : Int32)) q_436 (2 : Int32).toNatClampNeg (116 : Int32)) := hI.sC (ck r_443 ⟨by decide, by decide⟩)
  have hM : Sm md_k_Model g (sC (sC (sC g_461 q_436 (0 : Int32).toNatClampNeg (115 : Int32)) q_436 (1 : Int32).toNatClampNeg (101 : Int32)) q_436 (2 : Int32).toNatClampNeg (116 : Int32)) := hM.tr hE (Sm_sC (by rw [r_443]; rfl))
  have hE : Ex g (sC (sC (sC g_461 q_436 (0 : Int32).toNatClampNeg (115 : Int32)) q_436 (1 : Int32).toNatClampNeg (101 : Int32)) q_436 (2 : Int32).toNatClampNeg (116 : Int32)) := hE
  have hP : PF [41, 40, 39, 35, 33, 32, 31, 28, 27, 26, 25, 23, 20, 19, 18, 17, 16, 15, 14, 13, 12, 11, 10, 9, 8, 7, 6, 5, 4, 3, 2, 1, 60, 52, 51, 50, 49, 38, 37, 36, 34, 30, 29, 24, 22, 21, 0] (sC (sC (sC g_461 q_436 (0 : Int32).toNatClampNeg (115 : Int32)) q_436 (1 : Int32).toNatClampNeg (101 : Int32)) q_436 (2 : Int32).toNatClampNeg (116 : Int32)) h := hP.tC 
  have zP : ZC (sC (sC (sC g_461 q_436 (0 : Int32).toNatClampNeg (115 : Int32)) q_436 (1 : Int32).toNatClampNeg (101 : Int32)) q_436 (2 : Int32).toNatClampNeg (116 : Int32)) q_15 := zP.tC (ro_ne r_439 r_443 (by decide))
  have zN : ZC (sC (sC (sC g_461 q_436 (0 : Int32).toNatClampNeg (115 : Int32)) q_436 (1 : Int32).toNatClampNeg (101 : Int32)) q_436 (2 : Int32).toNatClampNeg (116 : Int32)) q_387 := zN.tC (ro_ne r_442 r_443 (by decide))
  refine lv_dup hx hb dX7_init_298 rfl ?_
  refine lv_iconst (v := 3) hx hb dX7_init_299 (by decide) ?_
  refine lv_bipush (v := 97) hx hb dX7_init_300 (by decide) ?_
  have i_465 : vp_in (3 : Int32) 24 := (by unfold vp_in; decide)
  refine t_iast hB hT (ro_in r_443 (by decide)) n_449 i_465 dX7_init_302 (fun H locs hT => ?_)
  have hI : Inv (sC (sC (sC (sC g_461 q_436 (0 : Int32).toNatClampNeg (115 : Int32)) q_436 (1 : Int32).toNatClampNeg (101 : Int32)) q_436 (2 : Int32).toNatClampNeg (116 : Int32)) q_436 (3 : Int32).toNatClampNeg (97 : Int32)) := hI.sC (ck r_443 ⟨by decide, by decide⟩)
  have hM : Sm md_k_Model g (sC (sC (sC (sC g_461 q_436 (0 : Int32).toNatClampNeg (115 : Int32)) q_436 (1 : Int32).toNatClampNeg (101 : Int32)) q_436 (2 : Int32).toNatClampNeg (116 : Int32)) q_436 (3 : Int32).toNatClampNeg (97 : Int32)) := hM.tr hE (Sm_sC (by rw [r_443]; rfl))
  have hE : Ex g (sC (sC (sC (sC g_461 q_436 (0 : Int32).toNatClampNeg (115 : Int32)) q_436 (1 : Int32).toNatClampNeg (101 : Int32)) q_436 (2 : Int32).toNatClampNeg (116 : Int32)) q_436 (3 : Int32).toNatClampNeg (97 : Int32)) := hE
  have hP : PF [41, 40, 39, 35, 33, 32, 31, 28, 27, 26, 25, 23, 20, 19, 18, 17, 16, 15, 14, 13, 12, 11, 10, 9, 8, 7, 6, 5, 4, 3, 2, 1, 60, 52, 51, 50, 49, 38, 37, 36, 34, 30, 29, 24, 22, 21, 0] (sC (sC (sC (sC g_461 q_436 (0 : Int32).toNatClampNeg (115 : Int32)) q_436 (1 : Int32).toNatClampNeg (101 : Int32)) q_436 (2 : Int32).toNatClampNeg (116 : Int32)) q_436 (3 : Int32).toNatClampNeg (97 : Int32)) h := hP.tC 
  have zP : ZC (sC (sC (sC (sC g_461 q_436 (0 : Int32).toNatClampNeg (115 : Int32)) q_436 (1 : Int32).toNatClampNeg (101 : Int32)) q_436 (2 : Int32).toNatClampNeg (116 : Int32)) q_436 (3 : Int32).toNatClampNeg (97 : Int32)) q_15 := zP.tC (ro_ne r_439 r_443 (by decide))
  have zN : ZC (sC (sC (sC (sC g_461 q_436 (0 : Int32).toNatClampNeg (115 : Int32)) q_436 (1 : Int32).toNatClampNeg (101 : Int32)) q_436 (2 : Int32).toNatClampNeg (116 : Int32)) q_436 (3 : Int32).toNatClampNeg (97 : Int32)) q_387 := zN.tC (ro_ne r_442 r_443 (by decide))
  refine lv_dup hx hb dX7_init_303 rfl ?_
  refine lv_iconst (v := 4) hx hb dX7_init_304 (by decide) ?_
  refine lv_bipush (v := 100) hx hb dX7_init_305 (by decide) ?_
  have i_466 : vp_in (4 : Int32) 24 := (by unfold vp_in; decide)
  refine t_iast hB hT (ro_in r_443 (by decide)) n_449 i_466 dX7_init_307 (fun H locs hT => ?_)
  have hI : Inv (sC (sC (sC (sC (sC g_461 q_436 (0 : Int32).toNatClampNeg (115 : Int32)) q_436 (1 : Int32).toNatClampNeg (101 : Int32)) q_436 (2 : Int32).toNatClampNeg (116 : Int32)) q_436 (3 : Int32).toNatClampNeg (97 : Int32)) q_436 (4 : Int32).toNatClampNeg (100 : Int32)) := hI.sC (ck r_443 ⟨by decide, by decide⟩)
  have hM : Sm md_k_Model g (sC (sC (sC (sC (sC g_461 q_436 (0 : Int32).toNatClampNeg (115 : Int32)) q_436 (1 : Int32).toNatClampNeg (101 : Int32)) q_436 (2 : Int32).toNatClampNeg (116 : Int32)) q_436 (3 : Int32).toNatClampNeg (97 : Int32)) q_436 (4 : Int32).toNatClampNeg (100 : Int32)) := hM.tr hE (Sm_sC (by rw [r_443]; rfl))
  have hE : Ex g (sC (sC (sC (sC (sC g_461 q_436 (0 : Int32).toNatClampNeg (115 : Int32)) q_436 (1 : Int32).toNatClampNeg (101 : Int32)) q_436 (2 : Int32).toNatClampNeg (116 : Int32)) q_436 (3 : Int32).toNatClampNeg (97 : Int32)) q_436 (4 : Int32).toNatClampNeg (100 : Int32)) := hE
  have hP : PF [41, 40, 39, 35, 33, 32, 31, 28, 27, 26, 25, 23, 20, 19, 18, 17, 16, 15, 14, 13, 12, 11, 10, 9, 8, 7, 6, 5, 4, 3, 2, 1, 60, 52, 51, 50, 49, 38, 37, 36, 34, 30, 29, 24, 22, 21, 0] (sC (sC (sC (sC (sC g_461 q_436 (0 : Int32).toNatClampNeg (115 : Int32)) q_436 (1 : Int32).toNatClampNeg (101 : Int32)) q_436 (2 : Int32).toNatClampNeg (116 : Int32)) q_436 (3 : Int32).toNatClampNeg (97 : Int32)) q_436 (4 : Int32).toNatClampNeg (100 : Int32)) h := hP.tC 
  have zP : ZC (sC (sC (sC (sC (sC g_461 q_436 (0 : Int32).toNatClampNeg (115 : Int32)) q_436 (1 : Int32).toNatClampNeg (101 : Int32)) q_436 (2 : Int32).toNatClampNeg (116 : Int32)) q_436 (3 : Int32).toNatClampNeg (97 : Int32)) q_436 (4 : Int32).toNatClampNeg (100 : Int32)) q_15 := zP.tC (ro_ne r_439 r_443 (by decide))
  have zN : ZC (sC (sC (sC (sC (sC g_461 q_436 (0 : Int32).toNatClampNeg (115 : Int32)) q_436 (1 : Int32).toNatClampNeg (101 : Int32)) q_436 (2 : Int32).toNatClampNeg (116 : Int32)) q_436 (3 : Int32).toNatClampNeg (97 : Int32)) q_436 (4 : Int32).toNatClampNeg (100 : Int32)) q_387 := zN.tC (ro_ne r_442 r_443 (by decide))
  refine lv_dup hx hb dX7_init_308 rfl ?_
  refine lv_iconst (v := 5) hx hb dX7_init_309 (by decide) ?_
  refine lv_bipush (v := 100) hx hb dX7_init_310 (by decide) ?_
  have i_467 : vp_in (5 : Int32) 24 := (by unfold vp_in; decide)
  refine t_iast hB hT (ro_in r_443 (by decide)) n_449 i_467 dX7_init_312 (fun H locs hT => ?_)
  have hI : Inv (sC (sC (sC (sC (sC (sC g_461 q_436 (0 : Int32).toNatClampNeg (115 : Int32)) q_436 (1 : Int32).toNatClampNeg (101 : Int32)) q_436 (2 : Int32).toNatClampNeg (116 : Int32)) q_436 (3 : Int32).toNatClampNeg (97 : Int32)) q_436 (4 : Int32).toNatClampNeg (100 : Int32)) q_436 (5 : Int32).toNatClampNeg (100 : Int32)) := hI.sC (ck r_443 ⟨by decide, by decide⟩)
  have hM : Sm md_k_Model g (sC (sC (sC (sC (sC (sC g_461 q_436 (0 : Int32).toNatClampNeg (115 : Int32)) q_436 (1 : Int32).toNatClampNeg (101 : Int32)) q_436 (2 : Int32).toNatClampNeg (116 : Int32)) q_436 (3 : Int32).toNatClampNeg (97 : Int32)) q_436 (4 : Int32).toNatClampNeg (100 : Int32)) q_436 (5 : Int32).toNatClampNeg (100 : Int32)) := hM.tr hE (Sm_sC (by rw [r_443]; rfl))
  have hE : Ex g (sC (sC (sC (sC (sC (sC g_461 q_436 (0 : Int32).toNatClampNeg (115 : Int32)) q_436 (1 : Int32).toNatClampNeg (101 : Int32)) q_436 (2 : Int32).toNatClampNeg (116 : Int32)) q_436 (3 : Int32).toNatClampNeg (97 : Int32)) q_436 (4 : Int32).toNatClampNeg (100 : Int32)) q_436 (5 : Int32).toNatClampNeg (100 : Int32)) := hE
  have hP : PF [41, 40, 39, 35, 33, 32, 31, 28, 27, 26, 25, 23, 20, 19, 18, 17, 16, 15, 14, 13, 12, 11, 10, 9, 8, 7, 6, 5, 4, 3, 2, 1, 60, 52, 51, 50, 49, 38, 37, 36, 34, 30, 29, 24, 22, 21, 0] (sC (sC (sC (sC (sC (sC g_461 q_436 (0 : Int32).toNatClampNeg (115 : Int32)) q_436 (1 : Int32).toNatClampNeg (101 : Int32)) q_436 (2 : Int32).toNatClampNeg (116 : Int32)) q_436 (3 : Int32).toNatClampNeg (97 : Int32)) q_436 (4 : Int32).toNatClampNeg (100 : Int32)) q_436 (5 : Int32).toNatClampNeg (100 : Int32)) h := hP.tC 
  have zP : ZC (sC (sC (sC (sC (sC (sC g_461 q_436 (0 : Int32).toNatClampNeg (115 : Int32)) q_436 (1 : Int32).toNatClampNeg (101 : Int32)) q_436 (2 : Int32).toNatClampNeg (116 : Int32)) q_436 (3 : Int32).toNatClampNeg (97 : Int32)) q_436 (4 : Int32).toNatClampNeg (100 : Int32)) q_436 (5 : Int32).toNatClampNeg (100 : Int32)) q_15 := zP.tC (ro_ne r_439 r_443 (by decide))
  have zN : ZC (sC (sC (sC (sC (sC (sC g_461 q_436 (0 : Int32).toNatClampNeg (115 : Int32)) q_436 (1 : Int32).toNatClampNeg (101 : Int32)) q_436 (2 : Int32).toNatClampNeg (116 : Int32)) q_436 (3 : Int32).toNatClampNeg (97 : Int32)) q_436 (4 : Int32).toNatClampNeg (100 : Int32)) q_436 (5 : Int32).toNatClampNeg (100 : Int32)) q_387 := zN.tC (ro_ne r_442 r_443 (by decide))
  refine lv_dup hx hb dX7_init_313 rfl ?_
  refine lv_bipush (v := 6) hx hb dX7_init_314 (by decide) ?_
  refine lv_bipush (v := 109) hx hb dX7_init_316 (by decide) ?_
  have i_468 : vp_in (6 : Int32) 24 := (by unfold vp_in; decide)
  refine t_iast hB hT (ro_in r_443 (by decide)) n_449 i_468 dX7_init_318 (fun H locs hT => ?_)
  have hI : Inv (sC (sC (sC (sC (sC (sC (sC g_461 q_436 (0 : Int32).toNatClampNeg (115 : Int32)) q_436 (1 : Int32).toNatClampNeg (101 : Int32)) q_436 (2 : Int32).toNatClampNeg (116 : Int32)) q_436 (3 : Int32).toNatClampNeg (97 : Int32)) q_436 (4 : Int32).toNatClampNeg (100 : Int32)) q_436 (5 : Int32).toNatClampNeg (100 : Int32)) q_436 (6 : Int32).toNatClampNeg (109 : Int32)) := hI.sC (ck r_443 ⟨by decide, by decide⟩)
  have hM : Sm md_k_Model g (sC (sC (sC (sC (sC (sC (sC g_461 q_436 (0 : Int32).toNatClampNeg (115 : Int32)) q_436 (1 : Int32).toNatClampNeg (101 : Int32)) q_436 (2 : Int32).toNatClampNeg (116 : Int32)) q_436 (3 : Int32).toNatClampNeg (97 : Int32)) q_436 (4 : Int32).toNatClampNeg (100 : Int32)) q_436 (5 : Int32).toNatClampNeg (100 : Int32)) q_436 (6 : Int32).toNatClampNeg (109 : Int32)) := hM.tr hE (Sm_sC (by rw [r_443]; rfl))
  have hE : Ex g (sC (sC (sC (sC (sC (sC (sC g_461 q_436 (0 : Int32).toNatClampNeg (115 : Int32)) q_436 (1 : Int32).toNatClampNeg (101 : Int32)) q_436 (2 : Int32).toNatClampNeg (116 : Int32)) q_436 (3 : Int32).toNatClampNeg (97 : Int32)) q_436 (4 : Int32).toNatClampNeg (100 : Int32)) q_436 (5 : Int32).toNatClampNeg (100 : Int32)) q_436 (6 : Int32).toNatClampNeg (109 : Int32)) := hE
  have hP : PF [41, 40, 39, 35, 33, 32, 31, 28, 27, 26, 25, 23, 20, 19, 18, 17, 16, 15, 14, 13, 12, 11, 10, 9, 8, 7, 6, 5, 4, 3, 2, 1, 60, 52, 51, 50, 49, 38, 37, 36, 34, 30, 29, 24, 22, 21, 0] (sC (sC (sC (sC (sC (sC (sC g_461 q_436 (0 : Int32).toNatClampNeg (115 : Int32)) q_436 (1 : Int32).toNatClampNeg (101 : Int32)) q_436 (2 : Int32).toNatClampNeg (116 : Int32)) q_436 (3 : Int32).toNatClampNeg (97 : Int32)) q_436 (4 : Int32).toNatClampNeg (100 : Int32)) q_436 (5 : Int32).toNatClampNeg (100 : Int32)) q_436 (6 : Int32).toNatClampNeg (109 : Int32)) h := hP.tC 
  have zP : ZC (sC (sC (sC (sC (sC (sC (sC g_461 q_436 (0 : Int32).toNatClampNeg (115 : Int32)) q_436 (1 : Int32).toNatClampNeg (101 : Int32)) q_436 (2 : Int32).toNatClampNeg (116 : Int32)) q_436 (3 : Int32).toNatClampNeg (97 : Int32)) q_436 (4 : Int32).toNatClampNeg (100 : Int32)) q_436 (5 : Int32).toNatClampNeg (100 : Int32)) q_436 (6 : Int32).toNatClampNeg (109 : Int32)) q_15 := zP.tC (ro_ne r_439 r_443 (by decide))
  have zN : ZC (sC (sC (sC (sC (sC (sC (sC g_461 q_436 (0 : Int32).toNatClampNeg (115 : Int32)) q_436 (1 : Int32).toNatClampNeg (101 : Int32)) q_436 (2 : Int32).toNatClampNeg (116 : Int32)) q_436 (3 : Int32).toNatClampNeg (97 : Int32)) q_436 (4 : Int32).toNatClampNeg (100 : Int32)) q_436 (5 : Int32).toNatClampNeg (100 : Int32)) q_436 (6 : Int32).toNatClampNeg (109 : Int32)) q_387 := zN.tC (ro_ne r_442 r_443 (by decide))
  refine lv_dup hx hb dX7_init_319 rfl ?_
  refine lv_bipush (v := 7) hx hb dX7_init_320 (by decide) ?_
  refine lv_bipush (v := 97) hx hb dX7_init_322 (by decide) ?_
  have i_469 : vp_in (7 : Int32) 24 := (by unfold vp_in; decide)
  refine t_iast hB hT (ro_in r_443 (by decide)) n_449 i_469 dX7_init_324 (fun H locs hT => ?_)
  have hI : Inv (sC (sC (sC (sC (sC (sC (sC (sC g_461 q_436 (0 : Int32).toNatClampNeg (115 : Int32)) q_436 (1 : Int32).toNatClampNeg (101 : Int32)) q_436 (2 : Int32).toNatClampNeg (116 : Int32)) q_436 (3 : Int32).toNatClampNeg (97 : Int32)) q_436 (4 : Int32).toNatClampNeg (100 : Int32)) q_436 (5 : Int32).toNatClampNeg (100 : Int32)) q_436 (6 : Int32).toNatClampNeg (109 : Int32)) q_436 (7 : Int32).toNatClampNeg (97 : Int32)) := hI.sC (ck r_443 ⟨by decide, by decide⟩)
  have hM : Sm md_k_Model g (sC (sC (sC (sC (sC (sC (sC (sC g_461 q_436 (0 : Int32).toNatClampNeg (115 : Int32)) q_436 (1 : Int32).toNatClampNeg (101 : Int32)) q_436 (2 : Int32).toNatClampNeg (116 : Int32)) q_436 (3 : Int32).toNatClampNeg (97 : Int32)) q_436 (4 : Int32).toNatClampNeg (100 : Int32)) q_436 (5 : Int32).toNatClampNeg (100 : Int32)) q_436 (6 : Int32).toNatClampNeg (109 : Int32)) q_436 (7 : Int32).toNatClampNeg (97 : Int32)) := hM.tr hE (Sm_sC (by rw [r_443]; rfl))
  have hE : Ex g (sC (sC (sC (sC (sC (sC (sC (sC g_461 q_436 (0 : Int32).toNatClampNeg (115 : Int32)) q_436 (1 : Int32).toNatClampNeg (101 : Int32)) q_436 (2 : Int32).toNatClampNeg (116 : Int32)) q_436 (3 : Int32).toNatClampNeg (97 : Int32)) q_436 (4 : Int32).toNatClampNeg (100 : Int32)) q_436 (5 : Int32).toNatClampNeg (100 : Int32)) q_436 (6 : Int32).toNatClampNeg (109 : Int32)) q_436 (7 : Int32).toNatClampNeg (97 : Int32)) := hE
  have hP : PF [41, 40, 39, 35, 33, 32, 31, 28, 27, 26, 25, 23, 20, 19, 18, 17, 16, 15, 14, 13, 12, 11, 10, 9, 8, 7, 6, 5, 4, 3, 2, 1, 60, 52, 51, 50, 49, 38, 37, 36, 34, 30, 29, 24, 22, 21, 0] (sC (sC (sC (sC (sC (sC (sC (sC g_461 q_436 (0 : Int32).toNatClampNeg (115 : Int32)) q_436 (1 : Int32).toNatClampNeg (101 : Int32)) q_436 (2 : Int32).toNatClampNeg (116 : Int32)) q_436 (3 : Int32).toNatClampNeg (97 : Int32)) q_436 (4 : Int32).toNatClampNeg (100 : Int32)) q_436 (5 : Int32).toNatClampNeg (100 : Int32)) q_436 (6 : Int32).toNatClampNeg (109 : Int32)) q_436 (7 : Int32).toNatClampNeg (97 : Int32)) h := hP.tC 
  have zP : ZC (sC (sC (sC (sC (sC (sC (sC (sC g_461 q_436 (0 : Int32).toNatClampNeg (115 : Int32)) q_436 (1 : Int32).toNatClampNeg (101 : Int32)) q_436 (2 : Int32).toNatClampNeg (116 : Int32)) q_436 (3 : Int32).toNatClampNeg (97 : Int32)) q_436 (4 : Int32).toNatClampNeg (100 : Int32)) q_436 (5 : Int32).toNatClampNeg (100 : Int32)) q_436 (6 : Int32).toNatClampNeg (109 : Int32)) q_436 (7 : Int32).toNatClampNeg (97 : Int32)) q_15 := zP.tC (ro_ne r_439 r_443 (by decide))
  have zN : ZC (sC (sC (sC (sC (sC (sC (sC (sC g_461 q_436 (0 : Int32).toNatClampNeg (115 : Int32)) q_436 (1 : Int32).toNatClampNeg (101 : Int32)) q_436 (2 : Int32).toNatClampNeg (116 : Int32)) q_436 (3 : Int32).toNatClampNeg (97 : Int32)) q_436 (4 : Int32).toNatClampNeg (100 : Int32)) q_436 (5 : Int32).toNatClampNeg (100 : Int32)) q_436 (6 : Int32).toNatClampNeg (109 : Int32)) q_436 (7 : Int32).toNatClampNeg (97 : Int32)) q_387 := zN.tC (ro_ne r_442 r_443 (by decide))
  have r_470 : (sC (sC (sC (sC (sC (sC (sC (sC g_461 q_436 (0 : Int32).toNatClampNeg (115 : Int32)) q_436 (1 : Int32).toNatClampNeg (101 : Int32)) q_436 (2 : Int32).toNatClampNeg (116 : Int32)) q_436 (3 : Int32).toNatClampNeg (97 : Int32)) q_436 (4 : Int32).toNatClampNeg (100 : Int32)) q_436 (5 : Int32).toNatClampNeg (100 : Int32)) q_436 (6 : Int32).toNatClampNeg (109 : Int32)) q_436 (7 : Int32).toNatClampNeg (97 : Int32)).1 h = 18 := r_437
  have r_471 : (sC (sC (sC (sC (sC (sC (sC (sC g_461 q_436 (0 : Int32).toNatClampNeg (115 : Int32)) q_436 (1 : Int32).toNatClampNeg (101 : Int32)) q_436 (2 : Int32).toNatClampNeg (116 : Int32)) q_436 (3 : Int32).toNatClampNeg (97 : Int32)) q_436 (4 : Int32).toNatClampNeg (100 : Int32)) q_436 (5 : Int32).toNatClampNeg (100 : Int32)) q_436 (6 : Int32).toNatClampNeg (109 : Int32)) q_436 (7 : Int32).toNatClampNeg (97 : Int32)).1 q_8 = 71 := r_438
  have r_472 : (sC (sC (sC (sC (sC (sC (sC (sC g_461 q_436 (0 : Int32).toNatClampNeg (115 : Int32)) q_436 (1 : Int32).toNatClampNeg (101 : Int32)) q_436 (2 : Int32).toNatClampNeg (116 : Int32)) q_436 (3 : Int32).toNatClampNeg (97 : Int32)) q_436 (4 : Int32).toNatClampNeg (100 : Int32)) q_436 (5 : Int32).toNatClampNeg (100 : Int32)) q_436 (6 : Int32).toNatClampNeg (109 : Int32)) q_436 (7 : Int32).toNatClampNeg (97 : Int32)).1 q_15 = 72 := r_439
  have r_473 : (sC (sC (sC (sC (sC (sC (sC (sC g_461 q_436 (0 : Int32).toNatClampNeg (115 : Int32)) q_436 (1 : Int32).toNatClampNeg (101 : Int32)) q_436 (2 : Int32).toNatClampNeg (116 : Int32)) q_436 (3 : Int32).toNatClampNeg (97 : Int32)) q_436 (4 : Int32).toNatClampNeg (100 : Int32)) q_436 (5 : Int32).toNatClampNeg (100 : Int32)) q_436 (6 : Int32).toNatClampNeg (109 : Int32)) q_436 (7 : Int32).toNatClampNeg (97 : Int32)).1 q_350 = 83 := r_440
  have r_474 : (sC (sC (sC (sC (sC (sC (sC (sC g_461 q_436 (0 : Int32).toNatClampNeg (115 : Int32)) q_436 (1 : Int32).toNatClampNeg (101 : Int32)) q_436 (2 : Int32).toNatClampNeg (116 : Int32)) q_436 (3 : Int32).toNatClampNeg (97 : Int32)) q_436 (4 : Int32).toNatClampNeg (100 : Int32)) q_436 (5 : Int32).toNatClampNeg (100 : Int32)) q_436 (6 : Int32).toNatClampNeg (109 : Int32)) q_436 (7 : Int32).toNatClampNeg (97 : Int32)).1 q_367 = 84 := r_441
  have r_475 : (sC (sC (sC (sC (sC (sC (sC (sC g_461 q_436 (0 : Int32).toNatClampNeg (115 : Int32)) q_436 (1 : Int32).toNatClampNeg (101 : Int32)) q_436 (2 : Int32).toNatClampNeg (116 : Int32)) q_436 (3 : Int32).toNatClampNeg (97 : Int32)) q_436 (4 : Int32).toNatClampNeg (100 : Int32)) q_436 (5 : Int32).toNatClampNeg (100 : Int32)) q_436 (6 : Int32).toNatClampNeg (109 : Int32)) q_436 (7 : Int32).toNatClampNeg (97 : Int32)).1 q_387 = 85 := r_442
  have r_476 : (sC (sC (sC (sC (sC (sC (sC (sC g_461 q_436 (0 : Int32).toNatClampNeg (115 : Int32)) q_436 (1 : Int32).toNatClampNeg (101 : Int32)) q_436 (2 : Int32).toNatClampNeg (116 : Int32)) q_436 (3 : Int32).toNatClampNeg (97 : Int32)) q_436 (4 : Int32).toNatClampNeg (100 : Int32)) q_436 (5 : Int32).toNatClampNeg (100 : Int32)) q_436 (6 : Int32).toNatClampNeg (109 : Int32)) q_436 (7 : Int32).toNatClampNeg (97 : Int32)).1 q_436 = 87 := r_443
  have n_477 : (sC (sC (sC (sC (sC (sC (sC (sC g_461 q_436 (0 : Int32).toNatClampNeg (115 : Int32)) q_436 (1 : Int32).toNatClampNeg (101 : Int32)) q_436 (2 : Int32).toNatClampNeg (116 : Int32)) q_436 (3 : Int32).toNatClampNeg (97 : Int32)) q_436 (4 : Int32).toNatClampNeg (100 : Int32)) q_436 (5 : Int32).toNatClampNeg (100 : Int32)) q_436 (6 : Int32).toNatClampNeg (109 : Int32)) q_436 (7 : Int32).toNatClampNeg (97 : Int32)).2.2.1 q_8 = 48 := n_444
  have n_478 : (sC (sC (sC (sC (sC (sC (sC (sC g_461 q_436 (0 : Int32).toNatClampNeg (115 : Int32)) q_436 (1 : Int32).toNatClampNeg (101 : Int32)) q_436 (2 : Int32).toNatClampNeg (116 : Int32)) q_436 (3 : Int32).toNatClampNeg (97 : Int32)) q_436 (4 : Int32).toNatClampNeg (100 : Int32)) q_436 (5 : Int32).toNatClampNeg (100 : Int32)) q_436 (6 : Int32).toNatClampNeg (109 : Int32)) q_436 (7 : Int32).toNatClampNeg (97 : Int32)).2.2.1 q_15 = 48 := n_445
  have n_479 : (sC (sC (sC (sC (sC (sC (sC (sC g_461 q_436 (0 : Int32).toNatClampNeg (115 : Int32)) q_436 (1 : Int32).toNatClampNeg (101 : Int32)) q_436 (2 : Int32).toNatClampNeg (116 : Int32)) q_436 (3 : Int32).toNatClampNeg (97 : Int32)) q_436 (4 : Int32).toNatClampNeg (100 : Int32)) q_436 (5 : Int32).toNatClampNeg (100 : Int32)) q_436 (6 : Int32).toNatClampNeg (109 : Int32)) q_436 (7 : Int32).toNatClampNeg (97 : Int32)).2.2.1 q_350 = 4 := n_446
  have n_480 : (sC (sC (sC (sC (sC (sC (sC (sC g_461 q_436 (0 : Int32).toNatClampNeg (115 : Int32)) q_436 (1 : Int32).toNatClampNeg (101 : Int32)) q_436 (2 : Int32).toNatClampNeg (116 : Int32)) q_436 (3 : Int32).toNatClampNeg (97 : Int32)) q_436 (4 : Int32).toNatClampNeg (100 : Int32)) q_436 (5 : Int32).toNatClampNeg (100 : Int32)) q_436 (6 : Int32).toNatClampNeg (109 : Int32)) q_436 (7 : Int32).toNatClampNeg (97 : Int32)).2.2.1 q_367 = 8 := n_447
  have n_481 : (sC (sC (sC (sC (sC (sC (sC (sC g_461 q_436 (0 : Int32).toNatClampNeg (115 : Int32)) q_436 (1 : Int32).toNatClampNeg (101 : Int32)) q_436 (2 : Int32).toNatClampNeg (116 : Int32)) q_436 (3 : Int32).toNatClampNeg (97 : Int32)) q_436 (4 : Int32).toNatClampNeg (100 : Int32)) q_436 (5 : Int32).toNatClampNeg (100 : Int32)) q_436 (6 : Int32).toNatClampNeg (109 : Int32)) q_436 (7 : Int32).toNatClampNeg (97 : Int32)).2.2.1 q_387 = 8 := n_448
  have n_482 : (sC (sC (sC (sC (sC (sC (sC (sC g_461 q_436 (0 : Int32).toNatClampNeg (115 : Int32)) q_436 (1 : Int32).toNatClampNeg (101 : Int32)) q_436 (2 : Int32).toNatClampNeg (116 : Int32)) q_436 (3 : Int32).toNatClampNeg (97 : Int32)) q_436 (4 : Int32).toNatClampNeg (100 : Int32)) q_436 (5 : Int32).toNatClampNeg (100 : Int32)) q_436 (6 : Int32).toNatClampNeg (109 : Int32)) q_436 (7 : Int32).toNatClampNeg (97 : Int32)).2.2.1 q_436 = 24 := n_449
  have kn_483 : (sC (sC (sC (sC (sC (sC (sC (sC g_461 q_436 (0 : Int32).toNatClampNeg (115 : Int32)) q_436 (1 : Int32).toNatClampNeg (101 : Int32)) q_436 (2 : Int32).toNatClampNeg (116 : Int32)) q_436 (3 : Int32).toNatClampNeg (97 : Int32)) q_436 (4 : Int32).toNatClampNeg (100 : Int32)) q_436 (5 : Int32).toNatClampNeg (100 : Int32)) q_436 (6 : Int32).toNatClampNeg (109 : Int32)) q_436 (7 : Int32).toNatClampNeg (97 : Int32)).2.1 h 22 = .int 0 := kn_450
  have kn_484 : (sC (sC (sC (sC (sC (sC (sC (sC g_461 q_436 (0 : Int32).toNatClampNeg (115 : Int32)) q_436 (1 : Int32).toNatClampNeg (101 : Int32)) q_436 (2 : Int32).toNatClampNeg (116 : Int32)) q_436 (3 : Int32).toNatClampNeg (97 : Int32)) q_436 (4 : Int32).toNatClampNeg (100 : Int32)) q_436 (5 : Int32).toNatClampNeg (100 : Int32)) q_436 (6 : Int32).toNatClampNeg (109 : Int32)) q_436 (7 : Int32).toNatClampNeg (97 : Int32)).2.1 h 34 = .int 0 := kn_451
  have kn_485 : (sC (sC (sC (sC (sC (sC (sC (sC g_461 q_436 (0 : Int32).toNatClampNeg (115 : Int32)) q_436 (1 : Int32).toNatClampNeg (101 : Int32)) q_436 (2 : Int32).toNatClampNeg (116 : Int32)) q_436 (3 : Int32).toNatClampNeg (97 : Int32)) q_436 (4 : Int32).toNatClampNeg (100 : Int32)) q_436 (5 : Int32).toNatClampNeg (100 : Int32)) q_436 (6 : Int32).toNatClampNeg (109 : Int32)) q_436 (7 : Int32).toNatClampNeg (97 : Int32)).2.1 h 2 = .ref q_8 := kn_452
  have kn_486 : (sC (sC (sC (sC (sC (sC (sC (sC g_461 q_436 (0 : Int32).toNatClampNeg (115 : Int32)) q_436 (1 : Int32).toNatClampNeg (101 : Int32)) q_436 (2 : Int32).toNatClampNeg (116 : Int32)) q_436 (3 : Int32).toNatClampNeg (97 : Int32)) q_436 (4 : Int32).toNatClampNeg (100 : Int32)) q_436 (5 : Int32).toNatClampNeg (100 : Int32)) q_436 (6 : Int32).toNatClampNeg (109 : Int32)) q_436 (7 : Int32).toNatClampNeg (97 : Int32)).2.1 h 3 = .ref q_15 := kn_453
  have kn_487 : (sC (sC (sC (sC (sC (sC (sC (sC g_461 q_436 (0 : Int32).toNatClampNeg (115 : Int32)) q_436 (1 : Int32).toNatClampNeg (101 : Int32)) q_436 (2 : Int32).toNatClampNeg (116 : Int32)) q_436 (3 : Int32).toNatClampNeg (97 : Int32)) q_436 (4 : Int32).toNatClampNeg (100 : Int32)) q_436 (5 : Int32).toNatClampNeg (100 : Int32)) q_436 (6 : Int32).toNatClampNeg (109 : Int32)) q_436 (7 : Int32).toNatClampNeg (97 : Int32)).2.1 h 35 = .ref q_350 := kn_454
  have kn_488 : (sC (sC (sC (sC (sC (sC (sC (sC g_461 q_436 (0 : Int32).toNatClampNeg (115 : Int32)) q_436 (1 : Int32).toNatClampNeg (101 : Int32)) q_436 (2 : Int32).toNatClampNeg (116 : Int32)) q_436 (3 : Int32).toNatClampNeg (97 : Int32)) q_436 (4 : Int32).toNatClampNeg (100 : Int32)) q_436 (5 : Int32).toNatClampNeg (100 : Int32)) q_436 (6 : Int32).toNatClampNeg (109 : Int32)) q_436 (7 : Int32).toNatClampNeg (97 : Int32)).2.1 h 39 = .ref q_367 := kn_455
  have kn_489 : (sC (sC (sC (sC (sC (sC (sC (sC g_461 q_436 (0 : Int32).toNatClampNeg (115 : Int32)) q_436 (1 : Int32).toNatClampNeg (101 : Int32)) q_436 (2 : Int32).toNatClampNeg (116 : Int32)) q_436 (3 : Int32).toNatClampNeg (97 : Int32)) q_436 (4 : Int32).toNatClampNeg (100 : Int32)) q_436 (5 : Int32).toNatClampNeg (100 : Int32)) q_436 (6 : Int32).toNatClampNeg (109 : Int32)) q_436 (7 : Int32).toNatClampNeg (97 : Int32)).2.1 h 40 = .ref q_387 := kn_456
  have kn_490 : (sC (sC (sC (sC (sC (sC (sC (sC g_461 q_436 (0 : Int32).toNatClampNeg (115 : Int32)) q_436 (1 : Int32).toNatClampNeg (101 : Int32)) q_436 (2 : Int32).toNatClampNeg (116 : Int32)) q_436 (3 : Int32).toNatClampNeg (97 : Int32)) q_436 (4 : Int32).toNatClampNeg (100 : Int32)) q_436 (5 : Int32).toNatClampNeg (100 : Int32)) q_436 (6 : Int32).toNatClampNeg (109 : Int32)) q_436 (7 : Int32).toNatClampNeg (97 : Int32)).2.2.2.1 q_350 (0 : Int32).toNatClampNeg = 1 := (sC_a (sC_a (sC_a (sC_a (sC_a (sC_a (sC_a (sC_a kn_457 (ro_ne r_440 r_443 (by decide))) (ro_ne r_440 r_443 (by decide))) (ro_ne r_440 r_443 (by decide))) (ro_ne r_440 r_443 (by decide))) (ro_ne r_440 r_443 (by decide))) (ro_ne r_440 r_443 (by decide))) (ro_ne r_440 r_443 (by decide))) (ro_ne r_440 r_443 (by decide)))
  have kn_491 : (sC (sC (sC (sC (sC (sC (sC (sC g_461 q_436 (0 : Int32).toNatClampNeg (115 : Int32)) q_436 (1 : Int32).toNatClampNeg (101 : Int32)) q_436 (2 : Int32).toNatClampNeg (116 : Int32)) q_436 (3 : Int32).toNatClampNeg (97 : Int32)) q_436 (4 : Int32).toNatClampNeg (100 : Int32)) q_436 (5 : Int32).toNatClampNeg (100 : Int32)) q_436 (6 : Int32).toNatClampNeg (109 : Int32)) q_436 (7 : Int32).toNatClampNeg (97 : Int32)).2.2.2.1 q_350 (1 : Int32).toNatClampNeg = 1 := (sC_a (sC_a (sC_a (sC_a (sC_a (sC_a (sC_a (sC_a kn_458 (ro_ne r_440 r_443 (by decide))) (ro_ne r_440 r_443 (by decide))) (ro_ne r_440 r_443 (by decide))) (ro_ne r_440 r_443 (by decide))) (ro_ne r_440 r_443 (by decide))) (ro_ne r_440 r_443 (by decide))) (ro_ne r_440 r_443 (by decide))) (ro_ne r_440 r_443 (by decide)))
  have kn_492 : (sC (sC (sC (sC (sC (sC (sC (sC g_461 q_436 (0 : Int32).toNatClampNeg (115 : Int32)) q_436 (1 : Int32).toNatClampNeg (101 : Int32)) q_436 (2 : Int32).toNatClampNeg (116 : Int32)) q_436 (3 : Int32).toNatClampNeg (97 : Int32)) q_436 (4 : Int32).toNatClampNeg (100 : Int32)) q_436 (5 : Int32).toNatClampNeg (100 : Int32)) q_436 (6 : Int32).toNatClampNeg (109 : Int32)) q_436 (7 : Int32).toNatClampNeg (97 : Int32)).2.2.2.1 q_350 (2 : Int32).toNatClampNeg = 1 := (sC_a (sC_a (sC_a (sC_a (sC_a (sC_a (sC_a (sC_a kn_459 (ro_ne r_440 r_443 (by decide))) (ro_ne r_440 r_443 (by decide))) (ro_ne r_440 r_443 (by decide))) (ro_ne r_440 r_443 (by decide))) (ro_ne r_440 r_443 (by decide))) (ro_ne r_440 r_443 (by decide))) (ro_ne r_440 r_443 (by decide))) (ro_ne r_440 r_443 (by decide)))
  have kn_493 : (sC (sC (sC (sC (sC (sC (sC (sC g_461 q_436 (0 : Int32).toNatClampNeg (115 : Int32)) q_436 (1 : Int32).toNatClampNeg (101 : Int32)) q_436 (2 : Int32).toNatClampNeg (116 : Int32)) q_436 (3 : Int32).toNatClampNeg (97 : Int32)) q_436 (4 : Int32).toNatClampNeg (100 : Int32)) q_436 (5 : Int32).toNatClampNeg (100 : Int32)) q_436 (6 : Int32).toNatClampNeg (109 : Int32)) q_436 (7 : Int32).toNatClampNeg (97 : Int32)).2.2.2.1 q_350 (3 : Int32).toNatClampNeg = 1 := (sC_a (sC_a (sC_a (sC_a (sC_a (sC_a (sC_a (sC_a kn_460 (ro_ne r_440 r_443 (by decide))) (ro_ne r_440 r_443 (by decide))) (ro_ne r_440 r_443 (by decide))) (ro_ne r_440 r_443 (by decide))) (ro_ne r_440 r_443 (by decide))) (ro_ne r_440 r_443 (by decide))) (ro_ne r_440 r_443 (by decide))) (ro_ne r_440 r_443 (by decide)))
  have kn_494 : (sC (sC (sC (sC (sC (sC (sC (sC g_461 q_436 (0 : Int32).toNatClampNeg (115 : Int32)) q_436 (1 : Int32).toNatClampNeg (101 : Int32)) q_436 (2 : Int32).toNatClampNeg (116 : Int32)) q_436 (3 : Int32).toNatClampNeg (97 : Int32)) q_436 (4 : Int32).toNatClampNeg (100 : Int32)) q_436 (5 : Int32).toNatClampNeg (100 : Int32)) q_436 (6 : Int32).toNatClampNeg (109 : Int32)) q_436 (7 : Int32).toNatClampNeg (97 : Int32)).2.2.2.1 q_436 (0 : Int32).toNatClampNeg = 115 := (sC_i (sC_i (sC_i (sC_i (sC_i (sC_i (sC_i sC_eq (by decide)) (by decide)) (by decide)) (by decide)) (by decide)) (by decide)) (by decide))
  have kn_495 : (sC (sC (sC (sC (sC (sC (sC (sC g_461 q_436 (0 : Int32).toNatClampNeg (115 : Int32)) q_436 (1 : Int32).toNatClampNeg (101 : Int32)) q_436 (2 : Int32).toNatClampNeg (116 : Int32)) q_436 (3 : Int32).toNatClampNeg (97 : Int32)) q_436 (4 : Int32).toNatClampNeg (100 : Int32)) q_436 (5 : Int32).toNatClampNeg (100 : Int32)) q_436 (6 : Int32).toNatClampNeg (109 : Int32)) q_436 (7 : Int32).toNatClampNeg (97 : Int32)).2.2.2.1 q_436 (1 : Int32).toNatClampNeg = 101 := (sC_i (sC_i (sC_i (sC_i (sC_i (sC_i sC_eq (by decide)) (by decide)) (by decide)) (by decide)) (by decide)) (by decide))
  have kn_496 : (sC (sC (sC (sC (sC (sC (sC (sC g_461 q_436 (0 : Int32).toNatClampNeg (115 : Int32)) q_436 (1 : Int32).toNatClampNeg (101 : Int32)) q_436 (2 : Int32).toNatClampNeg (116 : Int32)) q_436 (3 : Int32).toNatClampNeg (97 : Int32)) q_436 (4 : Int32).toNatClampNeg (100 : Int32)) q_436 (5 : Int32).toNatClampNeg (100 : Int32)) q_436 (6 : Int32).toNatClampNeg (109 : Int32)) q_436 (7 : Int32).toNatClampNeg (97 : Int32)).2.2.2.1 q_436 (2 : Int32).toNatClampNeg = 116 := (sC_i (sC_i (sC_i (sC_i (sC_i sC_eq (by decide)) (by decide)) (by decide)) (by decide)) (by decide))
  have kn_497 : (sC (sC (sC (sC (sC (sC (sC (sC g_461 q_436 (0 : Int32).toNatClampNeg (115 : Int32)) q_436 (1 : Int32).toNatClampNeg (101 : Int32)) q_436 (2 : Int32).toNatClampNeg (116 : Int32)) q_436 (3 : Int32).toNatClampNeg (97 : Int32)) q_436 (4 : Int32).toNatClampNeg (100 : Int32)) q_436 (5 : Int32).toNatClampNeg (100 : Int32)) q_436 (6 : Int32).toNatClampNeg (109 : Int32)) q_436 (7 : Int32).toNatClampNeg (97 : Int32)).2.2.2.1 q_436 (3 : Int32).toNatClampNeg = 97 := (sC_i (sC_i (sC_i (sC_i sC_eq (by decide)) (by decide)) (by decide)) (by decide))
  have kn_498 : (sC (sC (sC (sC (sC (sC (sC (sC g_461 q_436 (0 : Int32).toNatClampNeg (115 : Int32)) q_436 (1 : Int32).toNatClampNeg (101 : Int32)) q_436 (2 : Int32).toNatClampNeg (116 : Int32)) q_436 (3 : Int32).toNatClampNeg (97 : Int32)) q_436 (4 : Int32).toNatClampNeg (100 : Int32)) q_436 (5 : Int32).toNatClampNeg (100 : Int32)) q_436 (6 : Int32).toNatClampNeg (109 : Int32)) q_436 (7 : Int32).toNatClampNeg (97 : Int32)).2.2.2.1 q_436 (4 : Int32).toNatClampNeg = 100 := (sC_i (sC_i (sC_i sC_eq (by decide)) (by decide)) (by decide))
  have kn_499 : (sC (sC (sC (sC (sC (sC (sC (sC g_461 q_436 (0 : Int32).toNatClampNeg (115 : Int32)) q_436 (1 : Int32).toNatClampNeg (101 : Int32)) q_436 (2 : Int32).toNatClampNeg (116 : Int32)) q_436 (3 : Int32).toNatClampNeg (97 : Int32)) q_436 (4 : Int32).toNatClampNeg (100 : Int32)) q_436 (5 : Int32).toNatClampNeg (100 : Int32)) q_436 (6 : Int32).toNatClampNeg (109 : Int32)) q_436 (7 : Int32).toNatClampNeg (97 : Int32)).2.2.2.1 q_436 (5 : Int32).toNatClampNeg = 100 := (sC_i (sC_i sC_eq (by decide)) (by decide))
  have kn_500 : (sC (sC (sC (sC (sC (sC (sC (sC g_461 q_436 (0 : Int32).toNatClampNeg (115 : Int32)) q_436 (1 : Int32).toNatClampNeg (101 : Int32)) q_436 (2 : Int32).toNatClampNeg (116 : Int32)) q_436 (3 : Int32).toNatClampNeg (97 : Int32)) q_436 (4 : Int32).toNatClampNeg (100 : Int32)) q_436 (5 : Int32).toNatClampNeg (100 : Int32)) q_436 (6 : Int32).toNatClampNeg (109 : Int32)) q_436 (7 : Int32).toNatClampNeg (97 : Int32)).2.2.2.1 q_436 (6 : Int32).toNatClampNeg = 109 := (sC_i sC_eq (by decide))
  have kn_501 : (sC (sC (sC (sC (sC (sC (sC (sC g_461 q_436 (0 : Int32).toNatClampNeg (115 : Int32)) q_436 (1 : Int32).toNatClampNeg (101 : Int32)) q_436 (2 : Int32).toNatClampNeg (116 : Int32)) q_436 (3 : Int32).toNatClampNeg (97 : Int32)) q_436 (4 : Int32).toNatClampNeg (100 : Int32)) q_436 (5 : Int32).toNatClampNeg (100 : Int32)) q_436 (6 : Int32).toNatClampNeg (109 : Int32)) q_436 (7 : Int32).toNatClampNeg (97 : Int32)).2.2.2.1 q_436 (7 : Int32).toNatClampNeg = 97 := sC_eq
  generalize (sC (sC (sC (sC (sC (sC (sC (sC g_461 q_436 (0 : Int32).toNatClampNeg (115 : Int32)) q_436 (1 : Int32).toNatClampNeg (101 : Int32)) q_436 (2 : Int32).toNatClampNeg (116 : Int32)) q_436 (3 : Int32).toNatClampNeg (97 : Int32)) q_436 (4 : Int32).toNatClampNeg (100 : Int32)) q_436 (5 : Int32).toNatClampNeg (100 : Int32)) q_436 (6 : Int32).toNatClampNeg (109 : Int32)) q_436 (7 : Int32).toNatClampNeg (97 : Int32)) = g_502 at hT hI hM hE r_470 r_471 r_472 r_473 r_474 r_475 r_476 n_477 n_478 n_479 n_480 n_481 n_482 kn_483 kn_484 kn_485 kn_486 kn_487 kn_488 kn_489 kn_490 kn_491 kn_492 kn_493 kn_494 kn_495 kn_496 kn_497 kn_498 kn_499 kn_500 kn_501 hP zP zN
  refine lv_dup hx hb dX7_init_325 rfl ?_
  refine lv_bipush (v := 8) hx hb dX7_init_326 (by decide) ?_
  refine lv_bipush (v := 120) hx hb dX7_init_328 (by decide) ?_
  have i_503 : vp_in (8 : Int32) 24 := (by unfold vp_in; decide)
  refine t_iast hB hT (ro_in r_476 (by decide)) n_482 i_503 dX7_init_330 (fun H locs hT => ?_)
  have hI : Inv (sC g_502 q_436 (8 : Int32).toNatClampNeg (120 : Int32)) := hI.sC (ck r_476 ⟨by decide, by decide⟩)
  have hM : Sm md_k_Model g (sC g_502 q_436 (8 : Int32).toNatClampNeg (120 : Int32)) := hM.tr hE (Sm_sC (by rw [r_476]; rfl))
  have hE : Ex g (sC g_502 q_436 (8 : Int32).toNatClampNeg (120 : Int32)) := hE
  have hP : PF [41, 40, 39, 35, 33, 32, 31, 28, 27, 26, 25, 23, 20, 19, 18, 17, 16, 15, 14, 13, 12, 11, 10, 9, 8, 7, 6, 5, 4, 3, 2, 1, 60, 52, 51, 50, 49, 38, 37, 36, 34, 30, 29, 24, 22, 21, 0] (sC g_502 q_436 (8 : Int32).toNatClampNeg (120 : Int32)) h := hP.tC 
  have zP : ZC (sC g_502 q_436 (8 : Int32).toNatClampNeg (120 : Int32)) q_15 := zP.tC (ro_ne r_472 r_476 (by decide))
  have zN : ZC (sC g_502 q_436 (8 : Int32).toNatClampNeg (120 : Int32)) q_387 := zN.tC (ro_ne r_475 r_476 (by decide))
  refine lv_dup hx hb dX7_init_331 rfl ?_
  refine lv_bipush (v := 9) hx hb dX7_init_332 (by decide) ?_
  refine lv_bipush (v := 110) hx hb dX7_init_334 (by decide) ?_
  have i_504 : vp_in (9 : Int32) 24 := (by unfold vp_in; decide)
  refine t_iast hB hT (ro_in r_476 (by decide)) n_482 i_504 dX7_init_336 (fun H locs hT => ?_)
  have hI : Inv (sC (sC g_502 q_436 (8 : Int32).toNatClampNeg (120 : Int32)) q_436 (9 : Int32).toNatClampNeg (110 : Int32)) := hI.sC (ck r_476 ⟨by decide, by decide⟩)
  have hM : Sm md_k_Model g (sC (sC g_502 q_436 (8 : Int32).toNatClampNeg (120 : Int32)) q_436 (9 : Int32).toNatClampNeg (110 : Int32)) := hM.tr hE (Sm_sC (by rw [r_476]; rfl))
  have hE : Ex g (sC (sC g_502 q_436 (8 : Int32).toNatClampNeg (120 : Int32)) q_436 (9 : Int32).toNatClampNeg (110 : Int32)) := hE
  have hP : PF [41, 40, 39, 35, 33, 32, 31, 28, 27, 26, 25, 23, 20, 19, 18, 17, 16, 15, 14, 13, 12, 11, 10, 9, 8, 7, 6, 5, 4, 3, 2, 1, 60, 52, 51, 50, 49, 38, 37, 36, 34, 30, 29, 24, 22, 21, 0] (sC (sC g_502 q_436 (8 : Int32).toNatClampNeg (120 : Int32)) q_436 (9 : Int32).toNatClampNeg (110 : Int32)) h := hP.tC 
  have zP : ZC (sC (sC g_502 q_436 (8 : Int32).toNatClampNeg (120 : Int32)) q_436 (9 : Int32).toNatClampNeg (110 : Int32)) q_15 := zP.tC (ro_ne r_472 r_476 (by decide))
  have zN : ZC (sC (sC g_502 q_436 (8 : Int32).toNatClampNeg (120 : Int32)) q_436 (9 : Int32).toNatClampNeg (110 : Int32)) q_387 := zN.tC (ro_ne r_475 r_476 (by decide))
  refine lv_dup hx hb dX7_init_337 rfl ?_
  refine lv_bipush (v := 10) hx hb dX7_init_338 (by decide) ?_
  refine lv_bipush (v := 101) hx hb dX7_init_340 (by decide) ?_
  have i_505 : vp_in (10 : Int32) 24 := (by unfold vp_in; decide)
  refine t_iast hB hT (ro_in r_476 (by decide)) n_482 i_505 dX7_init_342 (fun H locs hT => ?_)
  have hI : Inv (sC (sC (sC g_502 q_436 (8 : Int32).toNatClampNeg (120 : Int32)) q_436 (9 : Int32).toNatClampNeg (110 : Int32)) q_436 (10 : Int32).toNatClampNeg (101 : Int32)) := hI.sC (ck r_476 ⟨by decide, by decide⟩)
  have hM : Sm md_k_Model g (sC (sC (sC g_502 q_436 (8 : Int32).toNatClampNeg (120 : Int32)) q_436 (9 : Int32).toNatClampNeg (110 : Int32)) q_436 (10 : Int32).toNatClampNeg (101 : Int32)) := hM.tr hE (Sm_sC (by rw [r_476]; rfl))
  have hE : Ex g (sC (sC (sC g_502 q_436 (8 : Int32).toNatClampNeg (120 : Int32)) q_436 (9 : Int32).toNatClampNeg (110 : Int32)) q_436 (10 : Int32).toNatClampNeg (101 : Int32)) := hE
  have hP : PF [41, 40, 39, 35, 33, 32, 31, 28, 27, 26, 25, 23, 20, 19, 18, 17, 16, 15, 14, 13, 12, 11, 10, 9, 8, 7, 6, 5, 4, 3, 2, 1, 60, 52, 51, 50, 49, 38, 37, 36, 34, 30, 29, 24, 22, 21, 0] (sC (sC (sC g_502 q_436 (8 : Int32).toNatClampNeg (120 : Int32)) q_436 (9 : Int32).toNatClampNeg (110 : Int32)) q_436 (10 : Int32).toNatClampNeg (101 : Int32)) h := hP.tC 
  have zP : ZC (sC (sC (sC g_502 q_436 (8 : Int32).toNatClampNeg (120 : Int32)) q_436 (9 : Int32).toNatClampNeg (110 : Int32)) q_436 (10 : Int32).toNatClampNeg (101 : Int32)) q_15 := zP.tC (ro_ne r_472 r_476 (by decide))
  have zN : ZC (sC (sC (sC g_502 q_436 (8 : Int32).toNatClampNeg (120 : Int32)) q_436 (9 : Int32).toNatClampNeg (110 : Int32)) q_436 (10 : Int32).toNatClampNeg (101 : Int32)) q_387 := zN.tC (ro_ne r_475 r_476 (by decide))
  refine lv_dup hx hb dX7_init_343 rfl ?_
  refine lv_bipush (v := 11) hx hb dX7_init_344 (by decide) ?_
  refine lv_bipush (v := 119) hx hb dX7_init_346 (by decide) ?_
  have i_506 : vp_in (11 : Int32) 24 := (by unfold vp_in; decide)
  refine t_iast hB hT (ro_in r_476 (by decide)) n_482 i_506 dX7_init_348 (fun H locs hT => ?_)
  have hI : Inv (sC (sC (sC (sC g_502 q_436 (8 : Int32).toNatClampNeg (120 : Int32)) q_436 (9 : Int32).toNatClampNeg (110 : Int32)) q_436 (10 : Int32).toNatClampNeg (101 : Int32)) q_436 (11 : Int32).toNatClampNeg (119 : Int32)) := hI.sC (ck r_476 ⟨by decide, by decide⟩)
  have hM : Sm md_k_Model g (sC (sC (sC (sC g_502 q_436 (8 : Int32).toNatClampNeg (120 : Int32)) q_436 (9 : Int32).toNatClampNeg (110 : Int32)) q_436 (10 : Int32).toNatClampNeg (101 : Int32)) q_436 (11 : Int32).toNatClampNeg (119 : Int32)) := hM.tr hE (Sm_sC (by rw [r_476]; rfl))
  have hE : Ex g (sC (sC (sC (sC g_502 q_436 (8 : Int32).toNatClampNeg (120 : Int32)) q_436 (9 : Int32).toNatClampNeg (110 : Int32)) q_436 (10 : Int32).toNatClampNeg (101 : Int32)) q_436 (11 : Int32).toNatClampNeg (119 : Int32)) := hE
  have hP : PF [41, 40, 39, 35, 33, 32, 31, 28, 27, 26, 25, 23, 20, 19, 18, 17, 16, 15, 14, 13, 12, 11, 10, 9, 8, 7, 6, 5, 4, 3, 2, 1, 60, 52, 51, 50, 49, 38, 37, 36, 34, 30, 29, 24, 22, 21, 0] (sC (sC (sC (sC g_502 q_436 (8 : Int32).toNatClampNeg (120 : Int32)) q_436 (9 : Int32).toNatClampNeg (110 : Int32)) q_436 (10 : Int32).toNatClampNeg (101 : Int32)) q_436 (11 : Int32).toNatClampNeg (119 : Int32)) h := hP.tC 
  have zP : ZC (sC (sC (sC (sC g_502 q_436 (8 : Int32).toNatClampNeg (120 : Int32)) q_436 (9 : Int32).toNatClampNeg (110 : Int32)) q_436 (10 : Int32).toNatClampNeg (101 : Int32)) q_436 (11 : Int32).toNatClampNeg (119 : Int32)) q_15 := zP.tC (ro_ne r_472 r_476 (by decide))
  have zN : ZC (sC (sC (sC (sC g_502 q_436 (8 : Int32).toNatClampNeg (120 : Int32)) q_436 (9 : Int32).toNatClampNeg (110 : Int32)) q_436 (10 : Int32).toNatClampNeg (101 : Int32)) q_436 (11 : Int32).toNatClampNeg (119 : Int32)) q_387 := zN.tC (ro_ne r_475 r_476 (by decide))
  refine lv_dup hx hb dX7_init_349 rfl ?_
  refine lv_bipush (v := 12) hx hb dX7_init_350 (by decide) ?_
  refine lv_bipush (v := 103) hx hb dX7_init_352 (by decide) ?_
  have i_507 : vp_in (12 : Int32) 24 := (by unfold vp_in; decide)
  refine t_iast hB hT (ro_in r_476 (by decide)) n_482 i_507 dX7_init_354 (fun H locs hT => ?_)
  have hI : Inv (sC (sC (sC (sC (sC g_502 q_436 (8 : Int32).toNatClampNeg (120 : Int32)) q_436 (9 : Int32).toNatClampNeg (110 : Int32)) q_436 (10 : Int32).toNatClampNeg (101 : Int32)) q_436 (11 : Int32).toNatClampNeg (119 : Int32)) q_436 (12 : Int32).toNatClampNeg (103 : Int32)) := hI.sC (ck r_476 ⟨by decide, by decide⟩)
  have hM : Sm md_k_Model g (sC (sC (sC (sC (sC g_502 q_436 (8 : Int32).toNatClampNeg (120 : Int32)) q_436 (9 : Int32).toNatClampNeg (110 : Int32)) q_436 (10 : Int32).toNatClampNeg (101 : Int32)) q_436 (11 : Int32).toNatClampNeg (119 : Int32)) q_436 (12 : Int32).toNatClampNeg (103 : Int32)) := hM.tr hE (Sm_sC (by rw [r_476]; rfl))
  have hE : Ex g (sC (sC (sC (sC (sC g_502 q_436 (8 : Int32).toNatClampNeg (120 : Int32)) q_436 (9 : Int32).toNatClampNeg (110 : Int32)) q_436 (10 : Int32).toNatClampNeg (101 : Int32)) q_436 (11 : Int32).toNatClampNeg (119 : Int32)) q_436 (12 : Int32).toNatClampNeg (103 : Int32)) := hE
  have hP : PF [41, 40, 39, 35, 33, 32, 31, 28, 27, 26, 25, 23, 20, 19, 18, 17, 16, 15, 14, 13, 12, 11, 10, 9, 8, 7, 6, 5, 4, 3, 2, 1, 60, 52, 51, 50, 49, 38, 37, 36, 34, 30, 29, 24, 22, 21, 0] (sC (sC (sC (sC (sC g_502 q_436 (8 : Int32).toNatClampNeg (120 : Int32)) q_436 (9 : Int32).toNatClampNeg (110 : Int32)) q_436 (10 : Int32).toNatClampNeg (101 : Int32)) q_436 (11 : Int32).toNatClampNeg (119 : Int32)) q_436 (12 : Int32).toNatClampNeg (103 : Int32)) h := hP.tC 
  have zP : ZC (sC (sC (sC (sC (sC g_502 q_436 (8 : Int32).toNatClampNeg (120 : Int32)) q_436 (9 : Int32).toNatClampNeg (110 : Int32)) q_436 (10 : Int32).toNatClampNeg (101 : Int32)) q_436 (11 : Int32).toNatClampNeg (119 : Int32)) q_436 (12 : Int32).toNatClampNeg (103 : Int32)) q_15 := zP.tC (ro_ne r_472 r_476 (by decide))
  have zN : ZC (sC (sC (sC (sC (sC g_502 q_436 (8 : Int32).toNatClampNeg (120 : Int32)) q_436 (9 : Int32).toNatClampNeg (110 : Int32)) q_436 (10 : Int32).toNatClampNeg (101 : Int32)) q_436 (11 : Int32).toNatClampNeg (119 : Int32)) q_436 (12 : Int32).toNatClampNeg (103 : Int32)) q_387 := zN.tC (ro_ne r_475 r_476 (by decide))
  refine lv_dup hx hb dX7_init_355 rfl ?_
  refine lv_bipush (v := 13) hx hb dX7_init_356 (by decide) ?_
  refine lv_bipush (v := 101) hx hb dX7_init_358 (by decide) ?_
  have i_508 : vp_in (13 : Int32) 24 := (by unfold vp_in; decide)
  refine t_iast hB hT (ro_in r_476 (by decide)) n_482 i_508 dX7_init_360 (fun H locs hT => ?_)
  have hI : Inv (sC (sC (sC (sC (sC (sC g_502 q_436 (8 : Int32).toNatClampNeg (120 : Int32)) q_436 (9 : Int32).toNatClampNeg (110 : Int32)) q_436 (10 : Int32).toNatClampNeg (101 : Int32)) q_436 (11 : Int32).toNatClampNeg (119 : Int32)) q_436 (12 : Int32).toNatClampNeg (103 : Int32)) q_436 (13 : Int32).toNatClampNeg (101 : Int32)) := hI.sC (ck r_476 ⟨by decide, by decide⟩)
  have hM : Sm md_k_Model g (sC (sC (sC (sC (sC (sC g_502 q_436 (8 : Int32).toNatClampNeg (120 : Int32)) q_436 (9 : Int32).toNatClampNeg (110 : Int32)) q_436 (10 : Int32).toNatClampNeg (101 : Int32)) q_436 (11 : Int32).toNatClampNeg (119 : Int32)) q_436 (12 : Int32).toNatClampNeg (103 : Int32)) q_436 (13 : Int32).toNatClampNeg (101 : Int32)) := hM.tr hE (Sm_sC (by rw [r_476]; rfl))
  have hE : Ex g (sC (sC (sC (sC (sC (sC g_502 q_436 (8 : Int32).toNatClampNeg (120 : Int32)) q_436 (9 : Int32).toNatClampNeg (110 : Int32)) q_436 (10 : Int32).toNatClampNeg (101 : Int32)) q_436 (11 : Int32).toNatClampNeg (119 : Int32)) q_436 (12 : Int32).toNatClampNeg (103 : Int32)) q_436 (13 : Int32).toNatClampNeg (101 : Int32)) := hE
  have hP : PF [41, 40, 39, 35, 33, 32, 31, 28, 27, 26, 25, 23, 20, 19, 18, 17, 16, 15, 14, 13, 12, 11, 10, 9, 8, 7, 6, 5, 4, 3, 2, 1, 60, 52, 51, 50, 49, 38, 37, 36, 34, 30, 29, 24, 22, 21, 0] (sC (sC (sC (sC (sC (sC g_502 q_436 (8 : Int32).toNatClampNeg (120 : Int32)) q_436 (9 : Int32).toNatClampNeg (110 : Int32)) q_436 (10 : Int32).toNatClampNeg (101 : Int32)) q_436 (11 : Int32).toNatClampNeg (119 : Int32)) q_436 (12 : Int32).toNatClampNeg (103 : Int32)) q_436 (13 : Int32).toNatClampNeg (101 : Int32)) h := hP.tC 
  have zP : ZC (sC (sC (sC (sC (sC (sC g_502 q_436 (8 : Int32).toNatClampNeg (120 : Int32)) q_436 (9 : Int32).toNatClampNeg (110 : Int32)) q_436 (10 : Int32).toNatClampNeg (101 : Int32)) q_436 (11 : Int32).toNatClampNeg (119 : Int32)) q_436 (12 : Int32).toNatClampNeg (103 : Int32)) q_436 (13 : Int32).toNatClampNeg (101 : Int32)) q_15 := zP.tC (ro_ne r_472 r_476 (by decide))
  have zN : ZC (sC (sC (sC (sC (sC (sC g_502 q_436 (8 : Int32).toNatClampNeg (120 : Int32)) q_436 (9 : Int32).toNatClampNeg (110 : Int32)) q_436 (10 : Int32).toNatClampNeg (101 : Int32)) q_436 (11 : Int32).toNatClampNeg (119 : Int32)) q_436 (12 : Int32).toNatClampNeg (103 : Int32)) q_436 (13 : Int32).toNatClampNeg (101 : Int32)) q_387 := zN.tC (ro_ne r_475 r_476 (by decide))
  refine lv_dup hx hb dX7_init_361 rfl ?_
  refine lv_bipush (v := 14) hx hb dX7_init_362 (by decide) ?_
  refine lv_bipush (v := 116) hx hb dX7_init_364 (by decide) ?_
  have i_509 : vp_in (14 : Int32) 24 := (by unfold vp_in; decide)
  refine t_iast hB hT (ro_in r_476 (by decide)) n_482 i_509 dX7_init_366 (fun H locs hT => ?_)
  have hI : Inv (sC (sC (sC (sC (sC (sC (sC g_502 q_436 (8 : Int32).toNatClampNeg (120 : Int32)) q_436 (9 : Int32).toNatClampNeg (110 : Int32)) q_436 (10 : Int32).toNatClampNeg (101 : Int32)) q_436 (11 : Int32).toNatClampNeg (119 : Int32)) q_436 (12 : Int32).toNatClampNeg (103 : Int32)) q_436 (13 : Int32).toNatClampNeg (101 : Int32)) q_436 (14 : Int32).toNatClampNeg (116 : Int32)) := hI.sC (ck r_476 ⟨by decide, by decide⟩)
  have hM : Sm md_k_Model g (sC (sC (sC (sC (sC (sC (sC g_502 q_436 (8 : Int32).toNatClampNeg (120 : Int32)) q_436 (9 : Int32).toNatClampNeg (110 : Int32)) q_436 (10 : Int32).toNatClampNeg (101 : Int32)) q_436 (11 : Int32).toNatClampNeg (119 : Int32)) q_436 (12 : Int32).toNatClampNeg (103 : Int32)) q_436 (13 : Int32).toNatClampNeg (101 : Int32)) q_436 (14 : Int32).toNatClampNeg (116 : Int32)) := hM.tr hE (Sm_sC (by rw [r_476]; rfl))
  have hE : Ex g (sC (sC (sC (sC (sC (sC (sC g_502 q_436 (8 : Int32).toNatClampNeg (120 : Int32)) q_436 (9 : Int32).toNatClampNeg (110 : Int32)) q_436 (10 : Int32).toNatClampNeg (101 : Int32)) q_436 (11 : Int32).toNatClampNeg (119 : Int32)) q_436 (12 : Int32).toNatClampNeg (103 : Int32)) q_436 (13 : Int32).toNatClampNeg (101 : Int32)) q_436 (14 : Int32).toNatClampNeg (116 : Int32)) := hE
  have hP : PF [41, 40, 39, 35, 33, 32, 31, 28, 27, 26, 25, 23, 20, 19, 18, 17, 16, 15, 14, 13, 12, 11, 10, 9, 8, 7, 6, 5, 4, 3, 2, 1, 60, 52, 51, 50, 49, 38, 37, 36, 34, 30, 29, 24, 22, 21, 0] (sC (sC (sC (sC (sC (sC (sC g_502 q_436 (8 : Int32).toNatClampNeg (120 : Int32)) q_436 (9 : Int32).toNatClampNeg (110 : Int32)) q_436 (10 : Int32).toNatClampNeg (101 : Int32)) q_436 (11 : Int32).toNatClampNeg (119 : Int32)) q_436 (12 : Int32).toNatClampNeg (103 : Int32)) q_436 (13 : Int32).toNatClampNeg (101 : Int32)) q_436 (14 : Int32).toNatClampNeg (116 : Int32)) h := hP.tC 
  have zP : ZC (sC (sC (sC (sC (sC (sC (sC g_502 q_436 (8 : Int32).toNatClampNeg (120 : Int32)) q_436 (9 : Int32).toNatClampNeg (110 : Int32)) q_436 (10 : Int32).toNatClampNeg (101 : Int32)) q_436 (11 : Int32).toNatClampNeg (119 : Int32)) q_436 (12 : Int32).toNatClampNeg (103 : Int32)) q_436 (13 : Int32).toNatClampNeg (101 : Int32)) q_436 (14 : Int32).toNatClampNeg (116 : Int32)) q_15 := zP.tC (ro_ne r_472 r_476 (by decide))
  have zN : ZC (sC (sC (sC (sC (sC (sC (sC g_502 q_436 (8 : Int32).toNatClampNeg (120 : Int32)) q_436 (9 : Int32).toNatClampNeg (110 : Int32)) q_436 (10 : Int32).toNatClampNeg (101 : Int32)) q_436 (11 : Int32).toNatClampNeg (119 : Int32)) q_436 (12 : Int32).toNatClampNeg (103 : Int32)) q_436 (13 : Int32).toNatClampNeg (101 : Int32)) q_436 (14 : Int32).toNatClampNeg (116 : Int32)) q_387 := zN.tC (ro_ne r_475 r_476 (by decide))
  refine lv_dup hx hb dX7_init_367 rfl ?_
  refine lv_bipush (v := 15) hx hb dX7_init_368 (by decide) ?_
  refine lv_bipush (v := 97) hx hb dX7_init_370 (by decide) ?_
  have i_510 : vp_in (15 : Int32) 24 := (by unfold vp_in; decide)
  refine t_iast hB hT (ro_in r_476 (by decide)) n_482 i_510 dX7_init_372 (fun H locs hT => ?_)
  have hI : Inv (sC (sC (sC (sC (sC (sC (sC (sC g_502 q_436 (8 : Int32).toNatClampNeg (120 : Int32)) q_436 (9 : Int32).toNatClampNeg (110 : Int32)) q_436 (10 : Int32).toNatClampNeg (101 : Int32)) q_436 (11 : Int32).toNatClampNeg (119 : Int32)) q_436 (12 : Int32).toNatClampNeg (103 : Int32)) q_436 (13 : Int32).toNatClampNeg (101 : Int32)) q_436 (14 : Int32).toNatClampNeg (116 : Int32)) q_436 (15 : Int32).toNatClampNeg (97 : Int32)) := hI.sC (ck r_476 ⟨by decide, by decide⟩)
  have hM : Sm md_k_Model g (sC (sC (sC (sC (sC (sC (sC (sC g_502 q_436 (8 : Int32).toNatClampNeg (120 : Int32)) q_436 (9 : Int32).toNatClampNeg (110 : Int32)) q_436 (10 : Int32).toNatClampNeg (101 : Int32)) q_436 (11 : Int32).toNatClampNeg (119 : Int32)) q_436 (12 : Int32).toNatClampNeg (103 : Int32)) q_436 (13 : Int32).toNatClampNeg (101 : Int32)) q_436 (14 : Int32).toNatClampNeg (116 : Int32)) q_436 (15 : Int32).toNatClampNeg (97 : Int32)) := hM.tr hE (Sm_sC (by rw [r_476]; rfl))
  have hE : Ex g (sC (sC (sC (sC (sC (sC (sC (sC g_502 q_436 (8 : Int32).toNatClampNeg (120 : Int32)) q_436 (9 : Int32).toNatClampNeg (110 : Int32)) q_436 (10 : Int32).toNatClampNeg (101 : Int32)) q_436 (11 : Int32).toNatClampNeg (119 : Int32)) q_436 (12 : Int32).toNatClampNeg (103 : Int32)) q_436 (13 : Int32).toNatClampNeg (101 : Int32)) q_436 (14 : Int32).toNatClampNeg (116 : Int32)) q_436 (15 : Int32).toNatClampNeg (97 : Int32)) := hE
  have hP : PF [41, 40, 39, 35, 33, 32, 31, 28, 27, 26, 25, 23, 20, 19, 18, 17, 16, 15, 14, 13, 12, 11, 10, 9, 8, 7, 6, 5, 4, 3, 2, 1, 60, 52, 51, 50, 49, 38, 37, 36, 34, 30, 29, 24, 22, 21, 0] (sC (sC (sC (sC (sC (sC (sC (sC g_502 q_436 (8 : Int32).toNatClampNeg (120 : Int32)) q_436 (9 : Int32).toNatClampNeg (110 : Int32)) q_436 (10 : Int32).toNatClampNeg (101 : Int32)) q_436 (11 : Int32).toNatClampNeg (119 : Int32)) q_436 (12 : Int32).toNatClampNeg (103 : Int32)) q_436 (13 : Int32).toNatClampNeg (101 : Int32)) q_436 (14 : Int32).toNatClampNeg (116 : Int32)) q_436 (15 : Int32).toNatClampNeg (97 : Int32)) h := hP.tC 
  have zP : ZC (sC (sC (sC (sC (sC (sC (sC (sC g_502 q_436 (8 : Int32).toNatClampNeg (120 : Int32)) q_436 (9 : Int32).toNatClampNeg (110 : Int32)) q_436 (10 : Int32).toNatClampNeg (101 : Int32)) q_436 (11 : Int32).toNatClampNeg (119 : Int32)) q_436 (12 : Int32).toNatClampNeg (103 : Int32)) q_436 (13 : Int32).toNatClampNeg (101 : Int32)) q_436 (14 : Int32).toNatClampNeg (116 : Int32)) q_436 (15 : Int32).toNatClampNeg (97 : Int32)) q_15 := zP.tC (ro_ne r_472 r_476 (by decide))
  have zN : ZC (sC (sC (sC (sC (sC (sC (sC (sC g_502 q_436 (8 : Int32).toNatClampNeg (120 : Int32)) q_436 (9 : Int32).toNatClampNeg (110 : Int32)) q_436 (10 : Int32).toNatClampNeg (101 : Int32)) q_436 (11 : Int32).toNatClampNeg (119 : Int32)) q_436 (12 : Int32).toNatClampNeg (103 : Int32)) q_436 (13 : Int32).toNatClampNeg (101 : Int32)) q_436 (14 : Int32).toNatClampNeg (116 : Int32)) q_436 (15 : Int32).toNatClampNeg (97 : Int32)) q_387 := zN.tC (ro_ne r_475 r_476 (by decide))
  have r_511 : (sC (sC (sC (sC (sC (sC (sC (sC g_502 q_436 (8 : Int32).toNatClampNeg (120 : Int32)) q_436 (9 : Int32).toNatClampNeg (110 : Int32)) q_436 (10 : Int32).toNatClampNeg (101 : Int32)) q_436 (11 : Int32).toNatClampNeg (119 : Int32)) q_436 (12 : Int32).toNatClampNeg (103 : Int32)) q_436 (13 : Int32).toNatClampNeg (101 : Int32)) q_436 (14 : Int32).toNatClampNeg (116 : Int32)) q_436 (15 : Int32).toNatClampNeg (97 : Int32)).1 h = 18 := r_470
  have r_512 : (sC (sC (sC (sC (sC (sC (sC (sC g_502 q_436 (8 : Int32).toNatClampNeg (120 : Int32)) q_436 (9 : Int32).toNatClampNeg (110 : Int32)) q_436 (10 : Int32).toNatClampNeg (101 : Int32)) q_436 (11 : Int32).toNatClampNeg (119 : Int32)) q_436 (12 : Int32).toNatClampNeg (103 : Int32)) q_436 (13 : Int32).toNatClampNeg (101 : Int32)) q_436 (14 : Int32).toNatClampNeg (116 : Int32)) q_436 (15 : Int32).toNatClampNeg (97 : Int32)).1 q_8 = 71 := r_471
  have r_513 : (sC (sC (sC (sC (sC (sC (sC (sC g_502 q_436 (8 : Int32).toNatClampNeg (120 : Int32)) q_436 (9 : Int32).toNatClampNeg (110 : Int32)) q_436 (10 : Int32).toNatClampNeg (101 : Int32)) q_436 (11 : Int32).toNatClampNeg (119 : Int32)) q_436 (12 : Int32).toNatClampNeg (103 : Int32)) q_436 (13 : Int32).toNatClampNeg (101 : Int32)) q_436 (14 : Int32).toNatClampNeg (116 : Int32)) q_436 (15 : Int32).toNatClampNeg (97 : Int32)).1 q_15 = 72 := r_472
  have r_514 : (sC (sC (sC (sC (sC (sC (sC (sC g_502 q_436 (8 : Int32).toNatClampNeg (120 : Int32)) q_436 (9 : Int32).toNatClampNeg (110 : Int32)) q_436 (10 : Int32).toNatClampNeg (101 : Int32)) q_436 (11 : Int32).toNatClampNeg (119 : Int32)) q_436 (12 : Int32).toNatClampNeg (103 : Int32)) q_436 (13 : Int32).toNatClampNeg (101 : Int32)) q_436 (14 : Int32).toNatClampNeg (116 : Int32)) q_436 (15 : Int32).toNatClampNeg (97 : Int32)).1 q_350 = 83 := r_473
  have r_515 : (sC (sC (sC (sC (sC (sC (sC (sC g_502 q_436 (8 : Int32).toNatClampNeg (120 : Int32)) q_436 (9 : Int32).toNatClampNeg (110 : Int32)) q_436 (10 : Int32).toNatClampNeg (101 : Int32)) q_436 (11 : Int32).toNatClampNeg (119 : Int32)) q_436 (12 : Int32).toNatClampNeg (103 : Int32)) q_436 (13 : Int32).toNatClampNeg (101 : Int32)) q_436 (14 : Int32).toNatClampNeg (116 : Int32)) q_436 (15 : Int32).toNatClampNeg (97 : Int32)).1 q_367 = 84 := r_474
  have r_516 : (sC (sC (sC (sC (sC (sC (sC (sC g_502 q_436 (8 : Int32).toNatClampNeg (120 : Int32)) q_436 (9 : Int32).toNatClampNeg (110 : Int32)) q_436 (10 : Int32).toNatClampNeg (101 : Int32)) q_436 (11 : Int32).toNatClampNeg (119 : Int32)) q_436 (12 : Int32).toNatClampNeg (103 : Int32)) q_436 (13 : Int32).toNatClampNeg (101 : Int32)) q_436 (14 : Int32).toNatClampNeg (116 : Int32)) q_436 (15 : Int32).toNatClampNeg (97 : Int32)).1 q_387 = 85 := r_475
  have r_517 : (sC (sC (sC (sC (sC (sC (sC (sC g_502 q_436 (8 : Int32).toNatClampNeg (120 : Int32)) q_436 (9 : Int32).toNatClampNeg (110 : Int32)) q_436 (10 : Int32).toNatClampNeg (101 : Int32)) q_436 (11 : Int32).toNatClampNeg (119 : Int32)) q_436 (12 : Int32).toNatClampNeg (103 : Int32)) q_436 (13 : Int32).toNatClampNeg (101 : Int32)) q_436 (14 : Int32).toNatClampNeg (116 : Int32)) q_436 (15 : Int32).toNatClampNeg (97 : Int32)).1 q_436 = 87 := r_476
  have n_518 : (sC (sC (sC (sC (sC (sC (sC (sC g_502 q_436 (8 : Int32).toNatClampNeg (120 : Int32)) q_436 (9 : Int32).toNatClampNeg (110 : Int32)) q_436 (10 : Int32).toNatClampNeg (101 : Int32)) q_436 (11 : Int32).toNatClampNeg (119 : Int32)) q_436 (12 : Int32).toNatClampNeg (103 : Int32)) q_436 (13 : Int32).toNatClampNeg (101 : Int32)) q_436 (14 : Int32).toNatClampNeg (116 : Int32)) q_436 (15 : Int32).toNatClampNeg (97 : Int32)).2.2.1 q_8 = 48 := n_477
  have n_519 : (sC (sC (sC (sC (sC (sC (sC (sC g_502 q_436 (8 : Int32).toNatClampNeg (120 : Int32)) q_436 (9 : Int32).toNatClampNeg (110 : Int32)) q_436 (10 : Int32).toNatClampNeg (101 : Int32)) q_436 (11 : Int32).toNatClampNeg (119 : Int32)) q_436 (12 : Int32).toNatClampNeg (103 : Int32)) q_436 (13 : Int32).toNatClampNeg (101 : Int32)) q_436 (14 : Int32).toNatClampNeg (116 : Int32)) q_436 (15 : Int32).toNatClampNeg (97 : Int32)).2.2.1 q_15 = 48 := n_478
  have n_520 : (sC (sC (sC (sC (sC (sC (sC (sC g_502 q_436 (8 : Int32).toNatClampNeg (120 : Int32)) q_436 (9 : Int32).toNatClampNeg (110 : Int32)) q_436 (10 : Int32).toNatClampNeg (101 : Int32)) q_436 (11 : Int32).toNatClampNeg (119 : Int32)) q_436 (12 : Int32).toNatClampNeg (103 : Int32)) q_436 (13 : Int32).toNatClampNeg (101 : Int32)) q_436 (14 : Int32).toNatClampNeg (116 : Int32)) q_436 (15 : Int32).toNatClampNeg (97 : Int32)).2.2.1 q_350 = 4 := n_479
  have n_521 : (sC (sC (sC (sC (sC (sC (sC (sC g_502 q_436 (8 : Int32).toNatClampNeg (120 : Int32)) q_436 (9 : Int32).toNatClampNeg (110 : Int32)) q_436 (10 : Int32).toNatClampNeg (101 : Int32)) q_436 (11 : Int32).toNatClampNeg (119 : Int32)) q_436 (12 : Int32).toNatClampNeg (103 : Int32)) q_436 (13 : Int32).toNatClampNeg (101 : Int32)) q_436 (14 : Int32).toNatClampNeg (116 : Int32)) q_436 (15 : Int32).toNatClampNeg (97 : Int32)).2.2.1 q_367 = 8 := n_480
  have n_522 : (sC (sC (sC (sC (sC (sC (sC (sC g_502 q_436 (8 : Int32).toNatClampNeg (120 : Int32)) q_436 (9 : Int32).toNatClampNeg (110 : Int32)) q_436 (10 : Int32).toNatClampNeg (101 : Int32)) q_436 (11 : Int32).toNatClampNeg (119 : Int32)) q_436 (12 : Int32).toNatClampNeg (103 : Int32)) q_436 (13 : Int32).toNatClampNeg (101 : Int32)) q_436 (14 : Int32).toNatClampNeg (116 : Int32)) q_436 (15 : Int32).toNatClampNeg (97 : Int32)).2.2.1 q_387 = 8 := n_481
  have n_523 : (sC (sC (sC (sC (sC (sC (sC (sC g_502 q_436 (8 : Int32).toNatClampNeg (120 : Int32)) q_436 (9 : Int32).toNatClampNeg (110 : Int32)) q_436 (10 : Int32).toNatClampNeg (101 : Int32)) q_436 (11 : Int32).toNatClampNeg (119 : Int32)) q_436 (12 : Int32).toNatClampNeg (103 : Int32)) q_436 (13 : Int32).toNatClampNeg (101 : Int32)) q_436 (14 : Int32).toNatClampNeg (116 : Int32)) q_436 (15 : Int32).toNatClampNeg (97 : Int32)).2.2.1 q_436 = 24 := n_482
  have kn_524 : (sC (sC (sC (sC (sC (sC (sC (sC g_502 q_436 (8 : Int32).toNatClampNeg (120 : Int32)) q_436 (9 : Int32).toNatClampNeg (110 : Int32)) q_436 (10 : Int32).toNatClampNeg (101 : Int32)) q_436 (11 : Int32).toNatClampNeg (119 : Int32)) q_436 (12 : Int32).toNatClampNeg (103 : Int32)) q_436 (13 : Int32).toNatClampNeg (101 : Int32)) q_436 (14 : Int32).toNatClampNeg (116 : Int32)) q_436 (15 : Int32).toNatClampNeg (97 : Int32)).2.1 h 22 = .int 0 := kn_483
  have kn_525 : (sC (sC (sC (sC (sC (sC (sC (sC g_502 q_436 (8 : Int32).toNatClampNeg (120 : Int32)) q_436 (9 : Int32).toNatClampNeg (110 : Int32)) q_436 (10 : Int32).toNatClampNeg (101 : Int32)) q_436 (11 : Int32).toNatClampNeg (119 : Int32)) q_436 (12 : Int32).toNatClampNeg (103 : Int32)) q_436 (13 : Int32).toNatClampNeg (101 : Int32)) q_436 (14 : Int32).toNatClampNeg (116 : Int32)) q_436 (15 : Int32).toNatClampNeg (97 : Int32)).2.1 h 34 = .int 0 := kn_484
  have kn_526 : (sC (sC (sC (sC (sC (sC (sC (sC g_502 q_436 (8 : Int32).toNatClampNeg (120 : Int32)) q_436 (9 : Int32).toNatClampNeg (110 : Int32)) q_436 (10 : Int32).toNatClampNeg (101 : Int32)) q_436 (11 : Int32).toNatClampNeg (119 : Int32)) q_436 (12 : Int32).toNatClampNeg (103 : Int32)) q_436 (13 : Int32).toNatClampNeg (101 : Int32)) q_436 (14 : Int32).toNatClampNeg (116 : Int32)) q_436 (15 : Int32).toNatClampNeg (97 : Int32)).2.1 h 2 = .ref q_8 := kn_485
  have kn_527 : (sC (sC (sC (sC (sC (sC (sC (sC g_502 q_436 (8 : Int32).toNatClampNeg (120 : Int32)) q_436 (9 : Int32).toNatClampNeg (110 : Int32)) q_436 (10 : Int32).toNatClampNeg (101 : Int32)) q_436 (11 : Int32).toNatClampNeg (119 : Int32)) q_436 (12 : Int32).toNatClampNeg (103 : Int32)) q_436 (13 : Int32).toNatClampNeg (101 : Int32)) q_436 (14 : Int32).toNatClampNeg (116 : Int32)) q_436 (15 : Int32).toNatClampNeg (97 : Int32)).2.1 h 3 = .ref q_15 := kn_486
  have kn_528 : (sC (sC (sC (sC (sC (sC (sC (sC g_502 q_436 (8 : Int32).toNatClampNeg (120 : Int32)) q_436 (9 : Int32).toNatClampNeg (110 : Int32)) q_436 (10 : Int32).toNatClampNeg (101 : Int32)) q_436 (11 : Int32).toNatClampNeg (119 : Int32)) q_436 (12 : Int32).toNatClampNeg (103 : Int32)) q_436 (13 : Int32).toNatClampNeg (101 : Int32)) q_436 (14 : Int32).toNatClampNeg (116 : Int32)) q_436 (15 : Int32).toNatClampNeg (97 : Int32)).2.1 h 35 = .ref q_350 := kn_487
  have kn_529 : (sC (sC (sC (sC (sC (sC (sC (sC g_502 q_436 (8 : Int32).toNatClampNeg (120 : Int32)) q_436 (9 : Int32).toNatClampNeg (110 : Int32)) q_436 (10 : Int32).toNatClampNeg (101 : Int32)) q_436 (11 : Int32).toNatClampNeg (119 : Int32)) q_436 (12 : Int32).toNatClampNeg (103 : Int32)) q_436 (13 : Int32).toNatClampNeg (101 : Int32)) q_436 (14 : Int32).toNatClampNeg (116 : Int32)) q_436 (15 : Int32).toNatClampNeg (97 : Int32)).2.1 h 39 = .ref q_367 := kn_488
  have kn_530 : (sC (sC (sC (sC (sC (sC (sC (sC g_502 q_436 (8 : Int32).toNatClampNeg (120 : Int32)) q_436 (9 : Int32).toNatClampNeg (110 : Int32)) q_436 (10 : Int32).toNatClampNeg (101 : Int32)) q_436 (11 : Int32).toNatClampNeg (119 : Int32)) q_436 (12 : Int32).toNatClampNeg (103 : Int32)) q_436 (13 : Int32).toNatClampNeg (101 : Int32)) q_436 (14 : Int32).toNatClampNeg (116 : Int32)) q_436 (15 : Int32).toNatClampNeg (97 : Int32)).2.1 h 40 = .ref q_387 := kn_489
  have kn_531 : (sC (sC (sC (sC (sC (sC (sC (sC g_502 q_436 (8 : Int32).toNatClampNeg (120 : Int32)) q_436 (9 : Int32).toNatClampNeg (110 : Int32)) q_436 (10 : Int32).toNatClampNeg (101 : Int32)) q_436 (11 : Int32).toNatClampNeg (119 : Int32)) q_436 (12 : Int32).toNatClampNeg (103 : Int32)) q_436 (13 : Int32).toNatClampNeg (101 : Int32)) q_436 (14 : Int32).toNatClampNeg (116 : Int32)) q_436 (15 : Int32).toNatClampNeg (97 : Int32)).2.2.2.1 q_350 (0 : Int32).toNatClampNeg = 1 := (sC_a (sC_a (sC_a (sC_a (sC_a (sC_a (sC_a (sC_a kn_490 (ro_ne r_473 r_476 (by decide))) (ro_ne r_473 r_476 (by decide))) (ro_ne r_473 r_476 (by decide))) (ro_ne r_473 r_476 (by decide))) (ro_ne r_473 r_476 (by decide))) (ro_ne r_473 r_476 (by decide))) (ro_ne r_473 r_476 (by decide))) (ro_ne r_473 r_476 (by decide)))
  have kn_532 : (sC (sC (sC (sC (sC (sC (sC (sC g_502 q_436 (8 : Int32).toNatClampNeg (120 : Int32)) q_436 (9 : Int32).toNatClampNeg (110 : Int32)) q_436 (10 : Int32).toNatClampNeg (101 : Int32)) q_436 (11 : Int32).toNatClampNeg (119 : Int32)) q_436 (12 : Int32).toNatClampNeg (103 : Int32)) q_436 (13 : Int32).toNatClampNeg (101 : Int32)) q_436 (14 : Int32).toNatClampNeg (116 : Int32)) q_436 (15 : Int32).toNatClampNeg (97 : Int32)).2.2.2.1 q_350 (1 : Int32).toNatClampNeg = 1 := (sC_a (sC_a (sC_a (sC_a (sC_a (sC_a (sC_a (sC_a kn_491 (ro_ne r_473 r_476 (by decide))) (ro_ne r_473 r_476 (by decide))) (ro_ne r_473 r_476 (by decide))) (ro_ne r_473 r_476 (by decide))) (ro_ne r_473 r_476 (by decide))) (ro_ne r_473 r_476 (by decide))) (ro_ne r_473 r_476 (by decide))) (ro_ne r_473 r_476 (by decide)))
  have kn_533 : (sC (sC (sC (sC (sC (sC (sC (sC g_502 q_436 (8 : Int32).toNatClampNeg (120 : Int32)) q_436 (9 : Int32).toNatClampNeg (110 : Int32)) q_436 (10 : Int32).toNatClampNeg (101 : Int32)) q_436 (11 : Int32).toNatClampNeg (119 : Int32)) q_436 (12 : Int32).toNatClampNeg (103 : Int32)) q_436 (13 : Int32).toNatClampNeg (101 : Int32)) q_436 (14 : Int32).toNatClampNeg (116 : Int32)) q_436 (15 : Int32).toNatClampNeg (97 : Int32)).2.2.2.1 q_350 (2 : Int32).toNatClampNeg = 1 := (sC_a (sC_a (sC_a (sC_a (sC_a (sC_a (sC_a (sC_a kn_492 (ro_ne r_473 r_476 (by decide))) (ro_ne r_473 r_476 (by decide))) (ro_ne r_473 r_476 (by decide))) (ro_ne r_473 r_476 (by decide))) (ro_ne r_473 r_476 (by decide))) (ro_ne r_473 r_476 (by decide))) (ro_ne r_473 r_476 (by decide))) (ro_ne r_473 r_476 (by decide)))
  have kn_534 : (sC (sC (sC (sC (sC (sC (sC (sC g_502 q_436 (8 : Int32).toNatClampNeg (120 : Int32)) q_436 (9 : Int32).toNatClampNeg (110 : Int32)) q_436 (10 : Int32).toNatClampNeg (101 : Int32)) q_436 (11 : Int32).toNatClampNeg (119 : Int32)) q_436 (12 : Int32).toNatClampNeg (103 : Int32)) q_436 (13 : Int32).toNatClampNeg (101 : Int32)) q_436 (14 : Int32).toNatClampNeg (116 : Int32)) q_436 (15 : Int32).toNatClampNeg (97 : Int32)).2.2.2.1 q_350 (3 : Int32).toNatClampNeg = 1 := (sC_a (sC_a (sC_a (sC_a (sC_a (sC_a (sC_a (sC_a kn_493 (ro_ne r_473 r_476 (by decide))) (ro_ne r_473 r_476 (by decide))) (ro_ne r_473 r_476 (by decide))) (ro_ne r_473 r_476 (by decide))) (ro_ne r_473 r_476 (by decide))) (ro_ne r_473 r_476 (by decide))) (ro_ne r_473 r_476 (by decide))) (ro_ne r_473 r_476 (by decide)))
  have kn_535 : (sC (sC (sC (sC (sC (sC (sC (sC g_502 q_436 (8 : Int32).toNatClampNeg (120 : Int32)) q_436 (9 : Int32).toNatClampNeg (110 : Int32)) q_436 (10 : Int32).toNatClampNeg (101 : Int32)) q_436 (11 : Int32).toNatClampNeg (119 : Int32)) q_436 (12 : Int32).toNatClampNeg (103 : Int32)) q_436 (13 : Int32).toNatClampNeg (101 : Int32)) q_436 (14 : Int32).toNatClampNeg (116 : Int32)) q_436 (15 : Int32).toNatClampNeg (97 : Int32)).2.2.2.1 q_436 (0 : Int32).toNatClampNeg = 115 := (sC_i (sC_i (sC_i (sC_i (sC_i (sC_i (sC_i (sC_i kn_494 (by decide)) (by decide)) (by decide)) (by decide)) (by decide)) (by decide)) (by decide)) (by decide))
  have kn_536 : (sC (sC (sC (sC (sC (sC (sC (sC g_502 q_436 (8 : Int32).toNatClampNeg (120 : Int32)) q_436 (9 : Int32).toNatClampNeg (110 : Int32)) q_436 (10 : Int32).toNatClampNeg (101 : Int32)) q_436 (11 : Int32).toNatClampNeg (119 : Int32)) q_436 (12 : Int32).toNatClampNeg (103 : Int32)) q_436 (13 : Int32).toNatClampNeg (101 : Int32)) q_436 (14 : Int32).toNatClampNeg (116 : Int32)) q_436 (15 : Int32).toNatClampNeg (97 : Int32)).2.2.2.1 q_436 (1 : Int32).toNatClampNeg = 101 := (sC_i (sC_i (sC_i (sC_i (sC_i (sC_i (sC_i (sC_i kn_495 (by decide)) (by decide)) (by decide)) (by decide)) (by decide)) (by decide)) (by decide)) (by decide))
  have kn_537 : (sC (sC (sC (sC (sC (sC (sC (sC g_502 q_436 (8 : Int32).toNatClampNeg (120 : Int32)) q_436 (9 : Int32).toNatClampNeg (110 : Int32)) q_436 (10 : Int32).toNatClampNeg (101 : Int32)) q_436 (11 : Int32).toNatClampNeg (119 : Int32)) q_436 (12 : Int32).toNatClampNeg (103 : Int32)) q_436 (13 : Int32).toNatClampNeg (101 : Int32)) q_436 (14 : Int32).toNatClampNeg (116 : Int32)) q_436 (15 : Int32).toNatClampNeg (97 : Int32)).2.2.2.1 q_436 (2 : Int32).toNatClampNeg = 116 := (sC_i (sC_i (sC_i (sC_i (sC_i (sC_i (sC_i (sC_i kn_496 (by decide)) (by decide)) (by decide)) (by decide)) (by decide)) (by decide)) (by decide)) (by decide))
  have kn_538 : (sC (sC (sC (sC (sC (sC (sC (sC g_502 q_436 (8 : Int32).toNatClampNeg (120 : Int32)) q_436 (9 : Int32).toNatClampNeg (110 : Int32)) q_436 (10 : Int32).toNatClampNeg (101 : Int32)) q_436 (11 : Int32).toNatClampNeg (119 : Int32)) q_436 (12 : Int32).toNatClampNeg (103 : Int32)) q_436 (13 : Int32).toNatClampNeg (101 : Int32)) q_436 (14 : Int32).toNatClampNeg (116 : Int32)) q_436 (15 : Int32).toNatClampNeg (97 : Int32)).2.2.2.1 q_436 (3 : Int32).toNatClampNeg = 97 := (sC_i (sC_i (sC_i (sC_i (sC_i (sC_i (sC_i (sC_i kn_497 (by decide)) (by decide)) (by decide)) (by decide)) (by decide)) (by decide)) (by decide)) (by decide))
  have kn_539 : (sC (sC (sC (sC (sC (sC (sC (sC g_502 q_436 (8 : Int32).toNatClampNeg (120 : Int32)) q_436 (9 : Int32).toNatClampNeg (110 : Int32)) q_436 (10 : Int32).toNatClampNeg (101 : Int32)) q_436 (11 : Int32).toNatClampNeg (119 : Int32)) q_436 (12 : Int32).toNatClampNeg (103 : Int32)) q_436 (13 : Int32).toNatClampNeg (101 : Int32)) q_436 (14 : Int32).toNatClampNeg (116 : Int32)) q_436 (15 : Int32).toNatClampNeg (97 : Int32)).2.2.2.1 q_436 (4 : Int32).toNatClampNeg = 100 := (sC_i (sC_i (sC_i (sC_i (sC_i (sC_i (sC_i (sC_i kn_498 (by decide)) (by decide)) (by decide)) (by decide)) (by decide)) (by decide)) (by decide)) (by decide))
  have kn_540 : (sC (sC (sC (sC (sC (sC (sC (sC g_502 q_436 (8 : Int32).toNatClampNeg (120 : Int32)) q_436 (9 : Int32).toNatClampNeg (110 : Int32)) q_436 (10 : Int32).toNatClampNeg (101 : Int32)) q_436 (11 : Int32).toNatClampNeg (119 : Int32)) q_436 (12 : Int32).toNatClampNeg (103 : Int32)) q_436 (13 : Int32).toNatClampNeg (101 : Int32)) q_436 (14 : Int32).toNatClampNeg (116 : Int32)) q_436 (15 : Int32).toNatClampNeg (97 : Int32)).2.2.2.1 q_436 (5 : Int32).toNatClampNeg = 100 := (sC_i (sC_i (sC_i (sC_i (sC_i (sC_i (sC_i (sC_i kn_499 (by decide)) (by decide)) (by decide)) (by decide)) (by decide)) (by decide)) (by decide)) (by decide))
  have kn_541 : (sC (sC (sC (sC (sC (sC (sC (sC g_502 q_436 (8 : Int32).toNatClampNeg (120 : Int32)) q_436 (9 : Int32).toNatClampNeg (110 : Int32)) q_436 (10 : Int32).toNatClampNeg (101 : Int32)) q_436 (11 : Int32).toNatClampNeg (119 : Int32)) q_436 (12 : Int32).toNatClampNeg (103 : Int32)) q_436 (13 : Int32).toNatClampNeg (101 : Int32)) q_436 (14 : Int32).toNatClampNeg (116 : Int32)) q_436 (15 : Int32).toNatClampNeg (97 : Int32)).2.2.2.1 q_436 (6 : Int32).toNatClampNeg = 109 := (sC_i (sC_i (sC_i (sC_i (sC_i (sC_i (sC_i (sC_i kn_500 (by decide)) (by decide)) (by decide)) (by decide)) (by decide)) (by decide)) (by decide)) (by decide))
  have kn_542 : (sC (sC (sC (sC (sC (sC (sC (sC g_502 q_436 (8 : Int32).toNatClampNeg (120 : Int32)) q_436 (9 : Int32).toNatClampNeg (110 : Int32)) q_436 (10 : Int32).toNatClampNeg (101 : Int32)) q_436 (11 : Int32).toNatClampNeg (119 : Int32)) q_436 (12 : Int32).toNatClampNeg (103 : Int32)) q_436 (13 : Int32).toNatClampNeg (101 : Int32)) q_436 (14 : Int32).toNatClampNeg (116 : Int32)) q_436 (15 : Int32).toNatClampNeg (97 : Int32)).2.2.2.1 q_436 (7 : Int32).toNatClampNeg = 97 := (sC_i (sC_i (sC_i (sC_i (sC_i (sC_i (sC_i (sC_i kn_501 (by decide)) (by decide)) (by decide)) (by decide)) (by decide)) (by decide)) (by decide)) (by decide))
  have kn_543 : (sC (sC (sC (sC (sC (sC (sC (sC g_502 q_436 (8 : Int32).toNatClampNeg (120 : Int32)) q_436 (9 : Int32).toNatClampNeg (110 : Int32)) q_436 (10 : Int32).toNatClampNeg (101 : Int32)) q_436 (11 : Int32).toNatClampNeg (119 : Int32)) q_436 (12 : Int32).toNatClampNeg (103 : Int32)) q_436 (13 : Int32).toNatClampNeg (101 : Int32)) q_436 (14 : Int32).toNatClampNeg (116 : Int32)) q_436 (15 : Int32).toNatClampNeg (97 : Int32)).2.2.2.1 q_436 (8 : Int32).toNatClampNeg = 120 := (sC_i (sC_i (sC_i (sC_i (sC_i (sC_i (sC_i sC_eq (by decide)) (by decide)) (by decide)) (by decide)) (by decide)) (by decide)) (by decide))
  have kn_544 : (sC (sC (sC (sC (sC (sC (sC (sC g_502 q_436 (8 : Int32).toNatClampNeg (120 : Int32)) q_436 (9 : Int32).toNatClampNeg (110 : Int32)) q_436 (10 : Int32).toNatClampNeg (101 : Int32)) q_436 (11 : Int32).toNatClampNeg (119 : Int32)) q_436 (12 : Int32).toNatClampNeg (103 : Int32)) q_436 (13 : Int32).toNatClampNeg (101 : Int32)) q_436 (14 : Int32).toNatClampNeg (116 : Int32)) q_436 (15 : Int32).toNatClampNeg (97 : Int32)).2.2.2.1 q_436 (9 : Int32).toNatClampNeg = 110 := (sC_i (sC_i (sC_i (sC_i (sC_i (sC_i sC_eq (by decide)) (by decide)) (by decide)) (by decide)) (by decide)) (by decide))
  have kn_545 : (sC (sC (sC (sC (sC (sC (sC (sC g_502 q_436 (8 : Int32).toNatClampNeg (120 : Int32)) q_436 (9 : Int32).toNatClampNeg (110 : Int32)) q_436 (10 : Int32).toNatClampNeg (101 : Int32)) q_436 (11 : Int32).toNatClampNeg (119 : Int32)) q_436 (12 : Int32).toNatClampNeg (103 : Int32)) q_436 (13 : Int32).toNatClampNeg (101 : Int32)) q_436 (14 : Int32).toNatClampNeg (116 : Int32)) q_436 (15 : Int32).toNatClampNeg (97 : Int32)).2.2.2.1 q_436 (10 : Int32).toNatClampNeg = 101 := (sC_i (sC_i (sC_i (sC_i (sC_i sC_eq (by decide)) (by decide)) (by decide)) (by decide)) (by decide))
  have kn_546 : (sC (sC (sC (sC (sC (sC (sC (sC g_502 q_436 (8 : Int32).toNatClampNeg (120 : Int32)) q_436 (9 : Int32).toNatClampNeg (110 : Int32)) q_436 (10 : Int32).toNatClampNeg (101 : Int32)) q_436 (11 : Int32).toNatClampNeg (119 : Int32)) q_436 (12 : Int32).toNatClampNeg (103 : Int32)) q_436 (13 : Int32).toNatClampNeg (101 : Int32)) q_436 (14 : Int32).toNatClampNeg (116 : Int32)) q_436 (15 : Int32).toNatClampNeg (97 : Int32)).2.2.2.1 q_436 (11 : Int32).toNatClampNeg = 119 := (sC_i (sC_i (sC_i (sC_i sC_eq (by decide)) (by decide)) (by decide)) (by decide))
  have kn_547 : (sC (sC (sC (sC (sC (sC (sC (sC g_502 q_436 (8 : Int32).toNatClampNeg (120 : Int32)) q_436 (9 : Int32).toNatClampNeg (110 : Int32)) q_436 (10 : Int32).toNatClampNeg (101 : Int32)) q_436 (11 : Int32).toNatClampNeg (119 : Int32)) q_436 (12 : Int32).toNatClampNeg (103 : Int32)) q_436 (13 : Int32).toNatClampNeg (101 : Int32)) q_436 (14 : Int32).toNatClampNeg (116 : Int32)) q_436 (15 : Int32).toNatClampNeg (97 : Int32)).2.2.2.1 q_436 (12 : Int32).toNatClampNeg = 103 := (sC_i (sC_i (sC_i sC_eq (by decide)) (by decide)) (by decide))
  have kn_548 : (sC (sC (sC (sC (sC (sC (sC (sC g_502 q_436 (8 : Int32).toNatClampNeg (120 : Int32)) q_436 (9 : Int32).toNatClampNeg (110 : Int32)) q_436 (10 : Int32).toNatClampNeg (101 : Int32)) q_436 (11 : Int32).toNatClampNeg (119 : Int32)) q_436 (12 : Int32).toNatClampNeg (103 : Int32)) q_436 (13 : Int32).toNatClampNeg (101 : Int32)) q_436 (14 : Int32).toNatClampNeg (116 : Int32)) q_436 (15 : Int32).toNatClampNeg (97 : Int32)).2.2.2.1 q_436 (13 : Int32).toNatClampNeg = 101 := (sC_i (sC_i sC_eq (by decide)) (by decide))
  have kn_549 : (sC (sC (sC (sC (sC (sC (sC (sC g_502 q_436 (8 : Int32).toNatClampNeg (120 : Int32)) q_436 (9 : Int32).toNatClampNeg (110 : Int32)) q_436 (10 : Int32).toNatClampNeg (101 : Int32)) q_436 (11 : Int32).toNatClampNeg (119 : Int32)) q_436 (12 : Int32).toNatClampNeg (103 : Int32)) q_436 (13 : Int32).toNatClampNeg (101 : Int32)) q_436 (14 : Int32).toNatClampNeg (116 : Int32)) q_436 (15 : Int32).toNatClampNeg (97 : Int32)).2.2.2.1 q_436 (14 : Int32).toNatClampNeg = 116 := (sC_i sC_eq (by decide))
  have kn_550 : (sC (sC (sC (sC (sC (sC (sC (sC g_502 q_436 (8 : Int32).toNatClampNeg (120 : Int32)) q_436 (9 : Int32).toNatClampNeg (110 : Int32)) q_436 (10 : Int32).toNatClampNeg (101 : Int32)) q_436 (11 : Int32).toNatClampNeg (119 : Int32)) q_436 (12 : Int32).toNatClampNeg (103 : Int32)) q_436 (13 : Int32).toNatClampNeg (101 : Int32)) q_436 (14 : Int32).toNatClampNeg (116 : Int32)) q_436 (15 : Int32).toNatClampNeg (97 : Int32)).2.2.2.1 q_436 (15 : Int32).toNatClampNeg = 97 := sC_eq
  generalize (sC (sC (sC (sC (sC (sC (sC (sC g_502 q_436 (8 : Int32).toNatClampNeg (120 : Int32)) q_436 (9 : Int32).toNatClampNeg (110 : Int32)) q_436 (10 : Int32).toNatClampNeg (101 : Int32)) q_436 (11 : Int32).toNatClampNeg (119 : Int32)) q_436 (12 : Int32).toNatClampNeg (103 : Int32)) q_436 (13 : Int32).toNatClampNeg (101 : Int32)) q_436 (14 : Int32).toNatClampNeg (116 : Int32)) q_436 (15 : Int32).toNatClampNeg (97 : Int32)) = g_551 at hT hI hM hE r_511 r_512 r_513 r_514 r_515 r_516 r_517 n_518 n_519 n_520 n_521 n_522 n_523 kn_524 kn_525 kn_526 kn_527 kn_528 kn_529 kn_530 kn_531 kn_532 kn_533 kn_534 kn_535 kn_536 kn_537 kn_538 kn_539 kn_540 kn_541 kn_542 kn_543 kn_544 kn_545 kn_546 kn_547 kn_548 kn_549 kn_550 hP zP zN
  refine lv_dup hx hb dX7_init_373 rfl ?_
  refine lv_bipush (v := 16) hx hb dX7_init_374 (by decide) ?_
  refine lv_bipush (v := 115) hx hb dX7_init_376 (by decide) ?_
  have i_552 : vp_in (16 : Int32) 24 := (by unfold vp_in; decide)
  refine t_iast hB hT (ro_in r_517 (by decide)) n_523 i_552 dX7_init_378 (fun H locs hT => ?_)
  have hI : Inv (sC g_551 q_436 (16 : Int32).toNatClampNeg (115 : Int32)) := hI.sC (ck r_517 ⟨by decide, by decide⟩)
  have hM : Sm md_k_Model g (sC g_551 q_436 (16 : Int32).toNatClampNeg (115 : Int32)) := hM.tr hE (Sm_sC (by rw [r_517]; rfl))
  have hE : Ex g (sC g_551 q_436 (16 : Int32).toNatClampNeg (115 : Int32)) := hE
  have hP : PF [41, 40, 39, 35, 33, 32, 31, 28, 27, 26, 25, 23, 20, 19, 18, 17, 16, 15, 14, 13, 12, 11, 10, 9, 8, 7, 6, 5, 4, 3, 2, 1, 60, 52, 51, 50, 49, 38, 37, 36, 34, 30, 29, 24, 22, 21, 0] (sC g_551 q_436 (16 : Int32).toNatClampNeg (115 : Int32)) h := hP.tC 
  have zP : ZC (sC g_551 q_436 (16 : Int32).toNatClampNeg (115 : Int32)) q_15 := zP.tC (ro_ne r_513 r_517 (by decide))
  have zN : ZC (sC g_551 q_436 (16 : Int32).toNatClampNeg (115 : Int32)) q_387 := zN.tC (ro_ne r_516 r_517 (by decide))
  refine lv_dup hx hb dX7_init_379 rfl ?_
  refine lv_bipush (v := 17) hx hb dX7_init_380 (by decide) ?_
  refine lv_bipush (v := 107) hx hb dX7_init_382 (by decide) ?_
  have i_553 : vp_in (17 : Int32) 24 := (by unfold vp_in; decide)
  refine t_iast hB hT (ro_in r_517 (by decide)) n_523 i_553 dX7_init_384 (fun H locs hT => ?_)
  have hI : Inv (sC (sC g_551 q_436 (16 : Int32).toNatClampNeg (115 : Int32)) q_436 (17 : Int32).toNatClampNeg (107 : Int32)) := hI.sC (ck r_517 ⟨by decide, by decide⟩)
  have hM : Sm md_k_Model g (sC (sC g_551 q_436 (16 : Int32).toNatClampNeg (115 : Int32)) q_436 (17 : Int32).toNatClampNeg (107 : Int32)) := hM.tr hE (Sm_sC (by rw [r_517]; rfl))
  have hE : Ex g (sC (sC g_551 q_436 (16 : Int32).toNatClampNeg (115 : Int32)) q_436 (17 : Int32).toNatClampNeg (107 : Int32)) := hE
  have hP : PF [41, 40, 39, 35, 33, 32, 31, 28, 27, 26, 25, 23, 20, 19, 18, 17, 16, 15, 14, 13, 12, 11, 10, 9, 8, 7, 6, 5, 4, 3, 2, 1, 60, 52, 51, 50, 49, 38, 37, 36, 34, 30, 29, 24, 22, 21, 0] (sC (sC g_551 q_436 (16 : Int32).toNatClampNeg (115 : Int32)) q_436 (17 : Int32).toNatClampNeg (107 : Int32)) h := hP.tC 
  have zP : ZC (sC (sC g_551 q_436 (16 : Int32).toNatClampNeg (115 : Int32)) q_436 (17 : Int32).toNatClampNeg (107 : Int32)) q_15 := zP.tC (ro_ne r_513 r_517 (by decide))
  have zN : ZC (sC (sC g_551 q_436 (16 : Int32).toNatClampNeg (115 : Int32)) q_436 (17 : Int32).toNatClampNeg (107 : Int32)) q_387 := zN.tC (ro_ne r_516 r_517 (by decide))
  refine lv_dup hx hb dX7_init_385 rfl ?_
  refine lv_bipush (v := 18) hx hb dX7_init_386 (by decide) ?_
  refine lv_bipush (v := 100) hx hb dX7_init_388 (by decide) ?_
  have i_554 : vp_in (18 : Int32) 24 := (by unfold vp_in; decide)
  refine t_iast hB hT (ro_in r_517 (by decide)) n_523 i_554 dX7_init_390 (fun H locs hT => ?_)
  have hI : Inv (sC (sC (sC g_551 q_436 (16 : Int32).toNatClampNeg (115 : Int32)) q_436 (17 : Int32).toNatClampNeg (107 : Int32)) q_436 (18 : Int32).toNatClampNeg (100 : Int32)) := hI.sC (ck r_517 ⟨by decide, by decide⟩)
  have hM : Sm md_k_Model g (sC (sC (sC g_551 q_436 (16 : Int32).toNatClampNeg (115 : Int32)) q_436 (17 : Int32).toNatClampNeg (107 : Int32)) q_436 (18 : Int32).toNatClampNeg (100 : Int32)) := hM.tr hE (Sm_sC (by rw [r_517]; rfl))
  have hE : Ex g (sC (sC (sC g_551 q_436 (16 : Int32).toNatClampNeg (115 : Int32)) q_436 (17 : Int32).toNatClampNeg (107 : Int32)) q_436 (18 : Int32).toNatClampNeg (100 : Int32)) := hE
  have hP : PF [41, 40, 39, 35, 33, 32, 31, 28, 27, 26, 25, 23, 20, 19, 18, 17, 16, 15, 14, 13, 12, 11, 10, 9, 8, 7, 6, 5, 4, 3, 2, 1, 60, 52, 51, 50, 49, 38, 37, 36, 34, 30, 29, 24, 22, 21, 0] (sC (sC (sC g_551 q_436 (16 : Int32).toNatClampNeg (115 : Int32)) q_436 (17 : Int32).toNatClampNeg (107 : Int32)) q_436 (18 : Int32).toNatClampNeg (100 : Int32)) h := hP.tC 
  have zP : ZC (sC (sC (sC g_551 q_436 (16 : Int32).toNatClampNeg (115 : Int32)) q_436 (17 : Int32).toNatClampNeg (107 : Int32)) q_436 (18 : Int32).toNatClampNeg (100 : Int32)) q_15 := zP.tC (ro_ne r_513 r_517 (by decide))
  have zN : ZC (sC (sC (sC g_551 q_436 (16 : Int32).toNatClampNeg (115 : Int32)) q_436 (17 : Int32).toNatClampNeg (107 : Int32)) q_436 (18 : Int32).toNatClampNeg (100 : Int32)) q_387 := zN.tC (ro_ne r_516 r_517 (by decide))
  refine lv_dup hx hb dX7_init_391 rfl ?_
  refine lv_bipush (v := 19) hx hb dX7_init_392 (by decide) ?_
  refine lv_bipush (v := 111) hx hb dX7_init_394 (by decide) ?_
  have i_555 : vp_in (19 : Int32) 24 := (by unfold vp_in; decide)
  refine t_iast hB hT (ro_in r_517 (by decide)) n_523 i_555 dX7_init_396 (fun H locs hT => ?_)
  have hI : Inv (sC (sC (sC (sC g_551 q_436 (16 : Int32).toNatClampNeg (115 : Int32)) q_436 (17 : Int32).toNatClampNeg (107 : Int32)) q_436 (18 : Int32).toNatClampNeg (100 : Int32)) q_436 (19 : Int32).toNatClampNeg (111 : Int32)) := hI.sC (ck r_517 ⟨by decide, by decide⟩)
  have hM : Sm md_k_Model g (sC (sC (sC (sC g_551 q_436 (16 : Int32).toNatClampNeg (115 : Int32)) q_436 (17 : Int32).toNatClampNeg (107 : Int32)) q_436 (18 : Int32).toNatClampNeg (100 : Int32)) q_436 (19 : Int32).toNatClampNeg (111 : Int32)) := hM.tr hE (Sm_sC (by rw [r_517]; rfl))
  have hE : Ex g (sC (sC (sC (sC g_551 q_436 (16 : Int32).toNatClampNeg (115 : Int32)) q_436 (17 : Int32).toNatClampNeg (107 : Int32)) q_436 (18 : Int32).toNatClampNeg (100 : Int32)) q_436 (19 : Int32).toNatClampNeg (111 : Int32)) := hE
  have hP : PF [41, 40, 39, 35, 33, 32, 31, 28, 27, 26, 25, 23, 20, 19, 18, 17, 16, 15, 14, 13, 12, 11, 10, 9, 8, 7, 6, 5, 4, 3, 2, 1, 60, 52, 51, 50, 49, 38, 37, 36, 34, 30, 29, 24, 22, 21, 0] (sC (sC (sC (sC g_551 q_436 (16 : Int32).toNatClampNeg (115 : Int32)) q_436 (17 : Int32).toNatClampNeg (107 : Int32)) q_436 (18 : Int32).toNatClampNeg (100 : Int32)) q_436 (19 : Int32).toNatClampNeg (111 : Int32)) h := hP.tC 
  have zP : ZC (sC (sC (sC (sC g_551 q_436 (16 : Int32).toNatClampNeg (115 : Int32)) q_436 (17 : Int32).toNatClampNeg (107 : Int32)) q_436 (18 : Int32).toNatClampNeg (100 : Int32)) q_436 (19 : Int32).toNatClampNeg (111 : Int32)) q_15 := zP.tC (ro_ne r_513 r_517 (by decide))
  have zN : ZC (sC (sC (sC (sC g_551 q_436 (16 : Int32).toNatClampNeg (115 : Int32)) q_436 (17 : Int32).toNatClampNeg (107 : Int32)) q_436 (18 : Int32).toNatClampNeg (100 : Int32)) q_436 (19 : Int32).toNatClampNeg (111 : Int32)) q_387 := zN.tC (ro_ne r_516 r_517 (by decide))
  refine lv_dup hx hb dX7_init_397 rfl ?_
  refine lv_bipush (v := 20) hx hb dX7_init_398 (by decide) ?_
  refine lv_iconst (v := 0) hx hb dX7_init_400 (by decide) ?_
  have i_556 : vp_in (20 : Int32) 24 := (by unfold vp_in; decide)
  refine t_iast hB hT (ro_in r_517 (by decide)) n_523 i_556 dX7_init_401 (fun H locs hT => ?_)
  have hI : Inv (sC (sC (sC (sC (sC g_551 q_436 (16 : Int32).toNatClampNeg (115 : Int32)) q_436 (17 : Int32).toNatClampNeg (107 : Int32)) q_436 (18 : Int32).toNatClampNeg (100 : Int32)) q_436 (19 : Int32).toNatClampNeg (111 : Int32)) q_436 (20 : Int32).toNatClampNeg (0 : Int32)) := hI.sC (ck r_517 ⟨by decide, by decide⟩)
  have hM : Sm md_k_Model g (sC (sC (sC (sC (sC g_551 q_436 (16 : Int32).toNatClampNeg (115 : Int32)) q_436 (17 : Int32).toNatClampNeg (107 : Int32)) q_436 (18 : Int32).toNatClampNeg (100 : Int32)) q_436 (19 : Int32).toNatClampNeg (111 : Int32)) q_436 (20 : Int32).toNatClampNeg (0 : Int32)) := hM.tr hE (Sm_sC (by rw [r_517]; rfl))
  have hE : Ex g (sC (sC (sC (sC (sC g_551 q_436 (16 : Int32).toNatClampNeg (115 : Int32)) q_436 (17 : Int32).toNatClampNeg (107 : Int32)) q_436 (18 : Int32).toNatClampNeg (100 : Int32)) q_436 (19 : Int32).toNatClampNeg (111 : Int32)) q_436 (20 : Int32).toNatClampNeg (0 : Int32)) := hE
  have hP : PF [41, 40, 39, 35, 33, 32, 31, 28, 27, 26, 25, 23, 20, 19, 18, 17, 16, 15, 14, 13, 12, 11, 10, 9, 8, 7, 6, 5, 4, 3, 2, 1, 60, 52, 51, 50, 49, 38, 37, 36, 34, 30, 29, 24, 22, 21, 0] (sC (sC (sC (sC (sC g_551 q_436 (16 : Int32).toNatClampNeg (115 : Int32)) q_436 (17 : Int32).toNatClampNeg (107 : Int32)) q_436 (18 : Int32).toNatClampNeg (100 : Int32)) q_436 (19 : Int32).toNatClampNeg (111 : Int32)) q_436 (20 : Int32).toNatClampNeg (0 : Int32)) h := hP.tC 
  have zP : ZC (sC (sC (sC (sC (sC g_551 q_436 (16 : Int32).toNatClampNeg (115 : Int32)) q_436 (17 : Int32).toNatClampNeg (107 : Int32)) q_436 (18 : Int32).toNatClampNeg (100 : Int32)) q_436 (19 : Int32).toNatClampNeg (111 : Int32)) q_436 (20 : Int32).toNatClampNeg (0 : Int32)) q_15 := zP.tC (ro_ne r_513 r_517 (by decide))
  have zN : ZC (sC (sC (sC (sC (sC g_551 q_436 (16 : Int32).toNatClampNeg (115 : Int32)) q_436 (17 : Int32).toNatClampNeg (107 : Int32)) q_436 (18 : Int32).toNatClampNeg (100 : Int32)) q_436 (19 : Int32).toNatClampNeg (111 : Int32)) q_436 (20 : Int32).toNatClampNeg (0 : Int32)) q_387 := zN.tC (ro_ne r_516 r_517 (by decide))
  refine lv_dup hx hb dX7_init_402 rfl ?_
  refine lv_bipush (v := 21) hx hb dX7_init_403 (by decide) ?_
  refine lv_bipush (v := 105) hx hb dX7_init_405 (by decide) ?_
  have i_557 : vp_in (21 : Int32) 24 := (by unfold vp_in; decide)
  refine t_iast hB hT (ro_in r_517 (by decide)) n_523 i_557 dX7_init_407 (fun H locs hT => ?_)
  have hI : Inv (sC (sC (sC (sC (sC (sC g_551 q_436 (16 : Int32).toNatClampNeg (115 : Int32)) q_436 (17 : Int32).toNatClampNeg (107 : Int32)) q_436 (18 : Int32).toNatClampNeg (100 : Int32)) q_436 (19 : Int32).toNatClampNeg (111 : Int32)) q_436 (20 : Int32).toNatClampNeg (0 : Int32)) q_436 (21 : Int32).toNatClampNeg (105 : Int32)) := hI.sC (ck r_517 ⟨by decide, by decide⟩)
  have hM : Sm md_k_Model g (sC (sC (sC (sC (sC (sC g_551 q_436 (16 : Int32).toNatClampNeg (115 : Int32)) q_436 (17 : Int32).toNatClampNeg (107 : Int32)) q_436 (18 : Int32).toNatClampNeg (100 : Int32)) q_436 (19 : Int32).toNatClampNeg (111 : Int32)) q_436 (20 : Int32).toNatClampNeg (0 : Int32)) q_436 (21 : Int32).toNatClampNeg (105 : Int32)) := hM.tr hE (Sm_sC (by rw [r_517]; rfl))
  have hE : Ex g (sC (sC (sC (sC (sC (sC g_551 q_436 (16 : Int32).toNatClampNeg (115 : Int32)) q_436 (17 : Int32).toNatClampNeg (107 : Int32)) q_436 (18 : Int32).toNatClampNeg (100 : Int32)) q_436 (19 : Int32).toNatClampNeg (111 : Int32)) q_436 (20 : Int32).toNatClampNeg (0 : Int32)) q_436 (21 : Int32).toNatClampNeg (105 : Int32)) := hE
  have hP : PF [41, 40, 39, 35, 33, 32, 31, 28, 27, 26, 25, 23, 20, 19, 18, 17, 16, 15, 14, 13, 12, 11, 10, 9, 8, 7, 6, 5, 4, 3, 2, 1, 60, 52, 51, 50, 49, 38, 37, 36, 34, 30, 29, 24, 22, 21, 0] (sC (sC (sC (sC (sC (sC g_551 q_436 (16 : Int32).toNatClampNeg (115 : Int32)) q_436 (17 : Int32).toNatClampNeg (107 : Int32)) q_436 (18 : Int32).toNatClampNeg (100 : Int32)) q_436 (19 : Int32).toNatClampNeg (111 : Int32)) q_436 (20 : Int32).toNatClampNeg (0 : Int32)) q_436 (21 : Int32).toNatClampNeg (105 : Int32)) h := hP.tC 
  have zP : ZC (sC (sC (sC (sC (sC (sC g_551 q_436 (16 : Int32).toNatClampNeg (115 : Int32)) q_436 (17 : Int32).toNatClampNeg (107 : Int32)) q_436 (18 : Int32).toNatClampNeg (100 : Int32)) q_436 (19 : Int32).toNatClampNeg (111 : Int32)) q_436 (20 : Int32).toNatClampNeg (0 : Int32)) q_436 (21 : Int32).toNatClampNeg (105 : Int32)) q_15 := zP.tC (ro_ne r_513 r_517 (by decide))
  have zN : ZC (sC (sC (sC (sC (sC (sC g_551 q_436 (16 : Int32).toNatClampNeg (115 : Int32)) q_436 (17 : Int32).toNatClampNeg (107 : Int32)) q_436 (18 : Int32).toNatClampNeg (100 : Int32)) q_436 (19 : Int32).toNatClampNeg (111 : Int32)) q_436 (20 : Int32).toNatClampNeg (0 : Int32)) q_436 (21 : Int32).toNatClampNeg (105 : Int32)) q_387 := zN.tC (ro_ne r_516 r_517 (by decide))
  refine lv_dup hx hb dX7_init_408 rfl ?_
  refine lv_bipush (v := 22) hx hb dX7_init_409 (by decide) ?_
  refine lv_bipush (v := 102) hx hb dX7_init_411 (by decide) ?_
  have i_558 : vp_in (22 : Int32) 24 := (by unfold vp_in; decide)
  refine t_iast hB hT (ro_in r_517 (by decide)) n_523 i_558 dX7_init_413 (fun H locs hT => ?_)
  have hI : Inv (sC (sC (sC (sC (sC (sC (sC g_551 q_436 (16 : Int32).toNatClampNeg (115 : Int32)) q_436 (17 : Int32).toNatClampNeg (107 : Int32)) q_436 (18 : Int32).toNatClampNeg (100 : Int32)) q_436 (19 : Int32).toNatClampNeg (111 : Int32)) q_436 (20 : Int32).toNatClampNeg (0 : Int32)) q_436 (21 : Int32).toNatClampNeg (105 : Int32)) q_436 (22 : Int32).toNatClampNeg (102 : Int32)) := hI.sC (ck r_517 ⟨by decide, by decide⟩)
  have hM : Sm md_k_Model g (sC (sC (sC (sC (sC (sC (sC g_551 q_436 (16 : Int32).toNatClampNeg (115 : Int32)) q_436 (17 : Int32).toNatClampNeg (107 : Int32)) q_436 (18 : Int32).toNatClampNeg (100 : Int32)) q_436 (19 : Int32).toNatClampNeg (111 : Int32)) q_436 (20 : Int32).toNatClampNeg (0 : Int32)) q_436 (21 : Int32).toNatClampNeg (105 : Int32)) q_436 (22 : Int32).toNatClampNeg (102 : Int32)) := hM.tr hE (Sm_sC (by rw [r_517]; rfl))
  have hE : Ex g (sC (sC (sC (sC (sC (sC (sC g_551 q_436 (16 : Int32).toNatClampNeg (115 : Int32)) q_436 (17 : Int32).toNatClampNeg (107 : Int32)) q_436 (18 : Int32).toNatClampNeg (100 : Int32)) q_436 (19 : Int32).toNatClampNeg (111 : Int32)) q_436 (20 : Int32).toNatClampNeg (0 : Int32)) q_436 (21 : Int32).toNatClampNeg (105 : Int32)) q_436 (22 : Int32).toNatClampNeg (102 : Int32)) := hE
  have hP : PF [41, 40, 39, 35, 33, 32, 31, 28, 27, 26, 25, 23, 20, 19, 18, 17, 16, 15, 14, 13, 12, 11, 10, 9, 8, 7, 6, 5, 4, 3, 2, 1, 60, 52, 51, 50, 49, 38, 37, 36, 34, 30, 29, 24, 22, 21, 0] (sC (sC (sC (sC (sC (sC (sC g_551 q_436 (16 : Int32).toNatClampNeg (115 : Int32)) q_436 (17 : Int32).toNatClampNeg (107 : Int32)) q_436 (18 : Int32).toNatClampNeg (100 : Int32)) q_436 (19 : Int32).toNatClampNeg (111 : Int32)) q_436 (20 : Int32).toNatClampNeg (0 : Int32)) q_436 (21 : Int32).toNatClampNeg (105 : Int32)) q_436 (22 : Int32).toNatClampNeg (102 : Int32)) h := hP.tC 
  have zP : ZC (sC (sC (sC (sC (sC (sC (sC g_551 q_436 (16 : Int32).toNatClampNeg (115 : Int32)) q_436 (17 : Int32).toNatClampNeg (107 : Int32)) q_436 (18 : Int32).toNatClampNeg (100 : Int32)) q_436 (19 : Int32).toNatClampNeg (111 : Int32)) q_436 (20 : Int32).toNatClampNeg (0 : Int32)) q_436 (21 : Int32).toNatClampNeg (105 : Int32)) q_436 (22 : Int32).toNatClampNeg (102 : Int32)) q_15 := zP.tC (ro_ne r_513 r_517 (by decide))
  have zN : ZC (sC (sC (sC (sC (sC (sC (sC g_551 q_436 (16 : Int32).toNatClampNeg (115 : Int32)) q_436 (17 : Int32).toNatClampNeg (107 : Int32)) q_436 (18 : Int32).toNatClampNeg (100 : Int32)) q_436 (19 : Int32).toNatClampNeg (111 : Int32)) q_436 (20 : Int32).toNatClampNeg (0 : Int32)) q_436 (21 : Int32).toNatClampNeg (105 : Int32)) q_436 (22 : Int32).toNatClampNeg (102 : Int32)) q_387 := zN.tC (ro_ne r_516 r_517 (by decide))
  refine lv_dup hx hb dX7_init_414 rfl ?_
  refine lv_bipush (v := 23) hx hb dX7_init_415 (by decide) ?_
  refine lv_iconst (v := 0) hx hb dX7_init_417 (by decide) ?_
  have i_559 : vp_in (23 : Int32) 24 := (by unfold vp_in; decide)
  refine t_iast hB hT (ro_in r_517 (by decide)) n_523 i_559 dX7_init_418 (fun H locs hT => ?_)
  have hI : Inv (sC (sC (sC (sC (sC (sC (sC (sC g_551 q_436 (16 : Int32).toNatClampNeg (115 : Int32)) q_436 (17 : Int32).toNatClampNeg (107 : Int32)) q_436 (18 : Int32).toNatClampNeg (100 : Int32)) q_436 (19 : Int32).toNatClampNeg (111 : Int32)) q_436 (20 : Int32).toNatClampNeg (0 : Int32)) q_436 (21 : Int32).toNatClampNeg (105 : Int32)) q_436 (22 : Int32).toNatClampNeg (102 : Int32)) q_436 (23 : Int32).toNatClampNeg (0 : Int32)) := hI.sC (ck r_517 ⟨by decide, by decide⟩)
  have hM : Sm md_k_Model g (sC (sC (sC (sC (sC (sC (sC (sC g_551 q_436 (16 : Int32).toNatClampNeg (115 : Int32)) q_436 (17 : Int32).toNatClampNeg (107 : Int32)) q_436 (18 : Int32).toNatClampNeg (100 : Int32)) q_436 (19 : Int32).toNatClampNeg (111 : Int32)) q_436 (20 : Int32).toNatClampNeg (0 : Int32)) q_436 (21 : Int32).toNatClampNeg (105 : Int32)) q_436 (22 : Int32).toNatClampNeg (102 : Int32)) q_436 (23 : Int32).toNatClampNeg (0 : Int32)) := hM.tr hE (Sm_sC (by rw [r_517]; rfl))
  have hE : Ex g (sC (sC (sC (sC (sC (sC (sC (sC g_551 q_436 (16 : Int32).toNatClampNeg (115 : Int32)) q_436 (17 : Int32).toNatClampNeg (107 : Int32)) q_436 (18 : Int32).toNatClampNeg (100 : Int32)) q_436 (19 : Int32).toNatClampNeg (111 : Int32)) q_436 (20 : Int32).toNatClampNeg (0 : Int32)) q_436 (21 : Int32).toNatClampNeg (105 : Int32)) q_436 (22 : Int32).toNatClampNeg (102 : Int32)) q_436 (23 : Int32).toNatClampNeg (0 : Int32)) := hE
  have hP : PF [41, 40, 39, 35, 33, 32, 31, 28, 27, 26, 25, 23, 20, 19, 18, 17, 16, 15, 14, 13, 12, 11, 10, 9, 8, 7, 6, 5, 4, 3, 2, 1, 60, 52, 51, 50, 49, 38, 37, 36, 34, 30, 29, 24, 22, 21, 0] (sC (sC (sC (sC (sC (sC (sC (sC g_551 q_436 (16 : Int32).toNatClampNeg (115 : Int32)) q_436 (17 : Int32).toNatClampNeg (107 : Int32)) q_436 (18 : Int32).toNatClampNeg (100 : Int32)) q_436 (19 : Int32).toNatClampNeg (111 : Int32)) q_436 (20 : Int32).toNatClampNeg (0 : Int32)) q_436 (21 : Int32).toNatClampNeg (105 : Int32)) q_436 (22 : Int32).toNatClampNeg (102 : Int32)) q_436 (23 : Int32).toNatClampNeg (0 : Int32)) h := hP.tC 
  have zP : ZC (sC (sC (sC (sC (sC (sC (sC (sC g_551 q_436 (16 : Int32).toNatClampNeg (115 : Int32)) q_436 (17 : Int32).toNatClampNeg (107 : Int32)) q_436 (18 : Int32).toNatClampNeg (100 : Int32)) q_436 (19 : Int32).toNatClampNeg (111 : Int32)) q_436 (20 : Int32).toNatClampNeg (0 : Int32)) q_436 (21 : Int32).toNatClampNeg (105 : Int32)) q_436 (22 : Int32).toNatClampNeg (102 : Int32)) q_436 (23 : Int32).toNatClampNeg (0 : Int32)) q_15 := zP.tC (ro_ne r_513 r_517 (by decide))
  have zN : ZC (sC (sC (sC (sC (sC (sC (sC (sC g_551 q_436 (16 : Int32).toNatClampNeg (115 : Int32)) q_436 (17 : Int32).toNatClampNeg (107 : Int32)) q_436 (18 : Int32).toNatClampNeg (100 : Int32)) q_436 (19 : Int32).toNatClampNeg (111 : Int32)) q_436 (20 : Int32).toNatClampNeg (0 : Int32)) q_436 (21 : Int32).toNatClampNeg (105 : Int32)) q_436 (22 : Int32).toNatClampNeg (102 : Int32)) q_436 (23 : Int32).toNatClampNeg (0 : Int32)) q_387 := zN.tC (ro_ne r_516 r_517 (by decide))
  have r_560 : (sC (sC (sC (sC (sC (sC (sC (sC g_551 q_436 (16 : Int32).toNatClampNeg (115 : Int32)) q_436 (17 : Int32).toNatClampNeg (107 : Int32)) q_436 (18 : Int32).toNatClampNeg (100 : Int32)) q_436 (19 : Int32).toNatClampNeg (111 : Int32)) q_436 (20 : Int32).toNatClampNeg (0 : Int32)) q_436 (21 : Int32).toNatClampNeg (105 : Int32)) q_436 (22 : Int32).toNatClampNeg (102 : Int32)) q_436 (23 : Int32).toNatClampNeg (0 : Int32)).1 h = 18 := r_511
  have r_561 : (sC (sC (sC (sC (sC (sC (sC (sC g_551 q_436 (16 : Int32).toNatClampNeg (115 : Int32)) q_436 (17 : Int32).toNatClampNeg (107 : Int32)) q_436 (18 : Int32).toNatClampNeg (100 : Int32)) q_436 (19 : Int32).toNatClampNeg (111 : Int32)) q_436 (20 : Int32).toNatClampNeg (0 : Int32)) q_436 (21 : Int32).toNatClampNeg (105 : Int32)) q_436 (22 : Int32).toNatClampNeg (102 : Int32)) q_436 (23 : Int32).toNatClampNeg (0 : Int32)).1 q_8 = 71 := r_512
  have r_562 : (sC (sC (sC (sC (sC (sC (sC (sC g_551 q_436 (16 : Int32).toNatClampNeg (115 : Int32)) q_436 (17 : Int32).toNatClampNeg (107 : Int32)) q_436 (18 : Int32).toNatClampNeg (100 : Int32)) q_436 (19 : Int32).toNatClampNeg (111 : Int32)) q_436 (20 : Int32).toNatClampNeg (0 : Int32)) q_436 (21 : Int32).toNatClampNeg (105 : Int32)) q_436 (22 : Int32).toNatClampNeg (102 : Int32)) q_436 (23 : Int32).toNatClampNeg (0 : Int32)).1 q_15 = 72 := r_513
  have r_563 : (sC (sC (sC (sC (sC (sC (sC (sC g_551 q_436 (16 : Int32).toNatClampNeg (115 : Int32)) q_436 (17 : Int32).toNatClampNeg (107 : Int32)) q_436 (18 : Int32).toNatClampNeg (100 : Int32)) q_436 (19 : Int32).toNatClampNeg (111 : Int32)) q_436 (20 : Int32).toNatClampNeg (0 : Int32)) q_436 (21 : Int32).toNatClampNeg (105 : Int32)) q_436 (22 : Int32).toNatClampNeg (102 : Int32)) q_436 (23 : Int32).toNatClampNeg (0 : Int32)).1 q_350 = 83 := r_514
  have r_564 : (sC (sC (sC (sC (sC (sC (sC (sC g_551 q_436 (16 : Int32).toNatClampNeg (115 : Int32)) q_436 (17 : Int32).toNatClampNeg (107 : Int32)) q_436 (18 : Int32).toNatClampNeg (100 : Int32)) q_436 (19 : Int32).toNatClampNeg (111 : Int32)) q_436 (20 : Int32).toNatClampNeg (0 : Int32)) q_436 (21 : Int32).toNatClampNeg (105 : Int32)) q_436 (22 : Int32).toNatClampNeg (102 : Int32)) q_436 (23 : Int32).toNatClampNeg (0 : Int32)).1 q_367 = 84 := r_515
  have r_565 : (sC (sC (sC (sC (sC (sC (sC (sC g_551 q_436 (16 : Int32).toNatClampNeg (115 : Int32)) q_436 (17 : Int32).toNatClampNeg (107 : Int32)) q_436 (18 : Int32).toNatClampNeg (100 : Int32)) q_436 (19 : Int32).toNatClampNeg (111 : Int32)) q_436 (20 : Int32).toNatClampNeg (0 : Int32)) q_436 (21 : Int32).toNatClampNeg (105 : Int32)) q_436 (22 : Int32).toNatClampNeg (102 : Int32)) q_436 (23 : Int32).toNatClampNeg (0 : Int32)).1 q_387 = 85 := r_516
  have r_566 : (sC (sC (sC (sC (sC (sC (sC (sC g_551 q_436 (16 : Int32).toNatClampNeg (115 : Int32)) q_436 (17 : Int32).toNatClampNeg (107 : Int32)) q_436 (18 : Int32).toNatClampNeg (100 : Int32)) q_436 (19 : Int32).toNatClampNeg (111 : Int32)) q_436 (20 : Int32).toNatClampNeg (0 : Int32)) q_436 (21 : Int32).toNatClampNeg (105 : Int32)) q_436 (22 : Int32).toNatClampNeg (102 : Int32)) q_436 (23 : Int32).toNatClampNeg (0 : Int32)).1 q_436 = 87 := r_517
  have n_567 : (sC (sC (sC (sC (sC (sC (sC (sC g_551 q_436 (16 : Int32).toNatClampNeg (115 : Int32)) q_436 (17 : Int32).toNatClampNeg (107 : Int32)) q_436 (18 : Int32).toNatClampNeg (100 : Int32)) q_436 (19 : Int32).toNatClampNeg (111 : Int32)) q_436 (20 : Int32).toNatClampNeg (0 : Int32)) q_436 (21 : Int32).toNatClampNeg (105 : Int32)) q_436 (22 : Int32).toNatClampNeg (102 : Int32)) q_436 (23 : Int32).toNatClampNeg (0 : Int32)).2.2.1 q_8 = 48 := n_518
  have n_568 : (sC (sC (sC (sC (sC (sC (sC (sC g_551 q_436 (16 : Int32).toNatClampNeg (115 : Int32)) q_436 (17 : Int32).toNatClampNeg (107 : Int32)) q_436 (18 : Int32).toNatClampNeg (100 : Int32)) q_436 (19 : Int32).toNatClampNeg (111 : Int32)) q_436 (20 : Int32).toNatClampNeg (0 : Int32)) q_436 (21 : Int32).toNatClampNeg (105 : Int32)) q_436 (22 : Int32).toNatClampNeg (102 : Int32)) q_436 (23 : Int32).toNatClampNeg (0 : Int32)).2.2.1 q_15 = 48 := n_519
  have n_569 : (sC (sC (sC (sC (sC (sC (sC (sC g_551 q_436 (16 : Int32).toNatClampNeg (115 : Int32)) q_436 (17 : Int32).toNatClampNeg (107 : Int32)) q_436 (18 : Int32).toNatClampNeg (100 : Int32)) q_436 (19 : Int32).toNatClampNeg (111 : Int32)) q_436 (20 : Int32).toNatClampNeg (0 : Int32)) q_436 (21 : Int32).toNatClampNeg (105 : Int32)) q_436 (22 : Int32).toNatClampNeg (102 : Int32)) q_436 (23 : Int32).toNatClampNeg (0 : Int32)).2.2.1 q_350 = 4 := n_520
  have n_570 : (sC (sC (sC (sC (sC (sC (sC (sC g_551 q_436 (16 : Int32).toNatClampNeg (115 : Int32)) q_436 (17 : Int32).toNatClampNeg (107 : Int32)) q_436 (18 : Int32).toNatClampNeg (100 : Int32)) q_436 (19 : Int32).toNatClampNeg (111 : Int32)) q_436 (20 : Int32).toNatClampNeg (0 : Int32)) q_436 (21 : Int32).toNatClampNeg (105 : Int32)) q_436 (22 : Int32).toNatClampNeg (102 : Int32)) q_436 (23 : Int32).toNatClampNeg (0 : Int32)).2.2.1 q_367 = 8 := n_521
  have n_571 : (sC (sC (sC (sC (sC (sC (sC (sC g_551 q_436 (16 : Int32).toNatClampNeg (115 : Int32)) q_436 (17 : Int32).toNatClampNeg (107 : Int32)) q_436 (18 : Int32).toNatClampNeg (100 : Int32)) q_436 (19 : Int32).toNatClampNeg (111 : Int32)) q_436 (20 : Int32).toNatClampNeg (0 : Int32)) q_436 (21 : Int32).toNatClampNeg (105 : Int32)) q_436 (22 : Int32).toNatClampNeg (102 : Int32)) q_436 (23 : Int32).toNatClampNeg (0 : Int32)).2.2.1 q_387 = 8 := n_522
  have n_572 : (sC (sC (sC (sC (sC (sC (sC (sC g_551 q_436 (16 : Int32).toNatClampNeg (115 : Int32)) q_436 (17 : Int32).toNatClampNeg (107 : Int32)) q_436 (18 : Int32).toNatClampNeg (100 : Int32)) q_436 (19 : Int32).toNatClampNeg (111 : Int32)) q_436 (20 : Int32).toNatClampNeg (0 : Int32)) q_436 (21 : Int32).toNatClampNeg (105 : Int32)) q_436 (22 : Int32).toNatClampNeg (102 : Int32)) q_436 (23 : Int32).toNatClampNeg (0 : Int32)).2.2.1 q_436 = 24 := n_523
  have kn_573 : (sC (sC (sC (sC (sC (sC (sC (sC g_551 q_436 (16 : Int32).toNatClampNeg (115 : Int32)) q_436 (17 : Int32).toNatClampNeg (107 : Int32)) q_436 (18 : Int32).toNatClampNeg (100 : Int32)) q_436 (19 : Int32).toNatClampNeg (111 : Int32)) q_436 (20 : Int32).toNatClampNeg (0 : Int32)) q_436 (21 : Int32).toNatClampNeg (105 : Int32)) q_436 (22 : Int32).toNatClampNeg (102 : Int32)) q_436 (23 : Int32).toNatClampNeg (0 : Int32)).2.1 h 22 = .int 0 := kn_524
  have kn_574 : (sC (sC (sC (sC (sC (sC (sC (sC g_551 q_436 (16 : Int32).toNatClampNeg (115 : Int32)) q_436 (17 : Int32).toNatClampNeg (107 : Int32)) q_436 (18 : Int32).toNatClampNeg (100 : Int32)) q_436 (19 : Int32).toNatClampNeg (111 : Int32)) q_436 (20 : Int32).toNatClampNeg (0 : Int32)) q_436 (21 : Int32).toNatClampNeg (105 : Int32)) q_436 (22 : Int32).toNatClampNeg (102 : Int32)) q_436 (23 : Int32).toNatClampNeg (0 : Int32)).2.1 h 34 = .int 0 := kn_525
  have kn_575 : (sC (sC (sC (sC (sC (sC (sC (sC g_551 q_436 (16 : Int32).toNatClampNeg (115 : Int32)) q_436 (17 : Int32).toNatClampNeg (107 : Int32)) q_436 (18 : Int32).toNatClampNeg (100 : Int32)) q_436 (19 : Int32).toNatClampNeg (111 : Int32)) q_436 (20 : Int32).toNatClampNeg (0 : Int32)) q_436 (21 : Int32).toNatClampNeg (105 : Int32)) q_436 (22 : Int32).toNatClampNeg (102 : Int32)) q_436 (23 : Int32).toNatClampNeg (0 : Int32)).2.1 h 2 = .ref q_8 := kn_526
  have kn_576 : (sC (sC (sC (sC (sC (sC (sC (sC g_551 q_436 (16 : Int32).toNatClampNeg (115 : Int32)) q_436 (17 : Int32).toNatClampNeg (107 : Int32)) q_436 (18 : Int32).toNatClampNeg (100 : Int32)) q_436 (19 : Int32).toNatClampNeg (111 : Int32)) q_436 (20 : Int32).toNatClampNeg (0 : Int32)) q_436 (21 : Int32).toNatClampNeg (105 : Int32)) q_436 (22 : Int32).toNatClampNeg (102 : Int32)) q_436 (23 : Int32).toNatClampNeg (0 : Int32)).2.1 h 3 = .ref q_15 := kn_527
  have kn_577 : (sC (sC (sC (sC (sC (sC (sC (sC g_551 q_436 (16 : Int32).toNatClampNeg (115 : Int32)) q_436 (17 : Int32).toNatClampNeg (107 : Int32)) q_436 (18 : Int32).toNatClampNeg (100 : Int32)) q_436 (19 : Int32).toNatClampNeg (111 : Int32)) q_436 (20 : Int32).toNatClampNeg (0 : Int32)) q_436 (21 : Int32).toNatClampNeg (105 : Int32)) q_436 (22 : Int32).toNatClampNeg (102 : Int32)) q_436 (23 : Int32).toNatClampNeg (0 : Int32)).2.1 h 35 = .ref q_350 := kn_528
  have kn_578 : (sC (sC (sC (sC (sC (sC (sC (sC g_551 q_436 (16 : Int32).toNatClampNeg (115 : Int32)) q_436 (17 : Int32).toNatClampNeg (107 : Int32)) q_436 (18 : Int32).toNatClampNeg (100 : Int32)) q_436 (19 : Int32).toNatClampNeg (111 : Int32)) q_436 (20 : Int32).toNatClampNeg (0 : Int32)) q_436 (21 : Int32).toNatClampNeg (105 : Int32)) q_436 (22 : Int32).toNatClampNeg (102 : Int32)) q_436 (23 : Int32).toNatClampNeg (0 : Int32)).2.1 h 39 = .ref q_367 := kn_529
  have kn_579 : (sC (sC (sC (sC (sC (sC (sC (sC g_551 q_436 (16 : Int32).toNatClampNeg (115 : Int32)) q_436 (17 : Int32).toNatClampNeg (107 : Int32)) q_436 (18 : Int32).toNatClampNeg (100 : Int32)) q_436 (19 : Int32).toNatClampNeg (111 : Int32)) q_436 (20 : Int32).toNatClampNeg (0 : Int32)) q_436 (21 : Int32).toNatClampNeg (105 : Int32)) q_436 (22 : Int32).toNatClampNeg (102 : Int32)) q_436 (23 : Int32).toNatClampNeg (0 : Int32)).2.1 h 40 = .ref q_387 := kn_530
  have kn_580 : (sC (sC (sC (sC (sC (sC (sC (sC g_551 q_436 (16 : Int32).toNatClampNeg (115 : Int32)) q_436 (17 : Int32).toNatClampNeg (107 : Int32)) q_436 (18 : Int32).toNatClampNeg (100 : Int32)) q_436 (19 : Int32).toNatClampNeg (111 : Int32)) q_436 (20 : Int32).toNatClampNeg (0 : Int32)) q_436 (21 : Int32).toNatClampNeg (105 : Int32)) q_436 (22 : Int32).toNatClampNeg (102 : Int32)) q_436 (23 : Int32).toNatClampNeg (0 : Int32)).2.2.2.1 q_350 (0 : Int32).toNatClampNeg = 1 := (sC_a (sC_a (sC_a (sC_a (sC_a (sC_a (sC_a (sC_a kn_531 (ro_ne r_514 r_517 (by decide))) (ro_ne r_514 r_517 (by decide))) (ro_ne r_514 r_517 (by decide))) (ro_ne r_514 r_517 (by decide))) (ro_ne r_514 r_517 (by decide))) (ro_ne r_514 r_517 (by decide))) (ro_ne r_514 r_517 (by decide))) (ro_ne r_514 r_517 (by decide)))
  have kn_581 : (sC (sC (sC (sC (sC (sC (sC (sC g_551 q_436 (16 : Int32).toNatClampNeg (115 : Int32)) q_436 (17 : Int32).toNatClampNeg (107 : Int32)) q_436 (18 : Int32).toNatClampNeg (100 : Int32)) q_436 (19 : Int32).toNatClampNeg (111 : Int32)) q_436 (20 : Int32).toNatClampNeg (0 : Int32)) q_436 (21 : Int32).toNatClampNeg (105 : Int32)) q_436 (22 : Int32).toNatClampNeg (102 : Int32)) q_436 (23 : Int32).toNatClampNeg (0 : Int32)).2.2.2.1 q_350 (1 : Int32).toNatClampNeg = 1 := (sC_a (sC_a (sC_a (sC_a (sC_a (sC_a (sC_a (sC_a kn_532 (ro_ne r_514 r_517 (by decide))) (ro_ne r_514 r_517 (by decide))) (ro_ne r_514 r_517 (by decide))) (ro_ne r_514 r_517 (by decide))) (ro_ne r_514 r_517 (by decide))) (ro_ne r_514 r_517 (by decide))) (ro_ne r_514 r_517 (by decide))) (ro_ne r_514 r_517 (by decide)))
  have kn_582 : (sC (sC (sC (sC (sC (sC (sC (sC g_551 q_436 (16 : Int32).toNatClampNeg (115 : Int32)) q_436 (17 : Int32).toNatClampNeg (107 : Int32)) q_436 (18 : Int32).toNatClampNeg (100 : Int32)) q_436 (19 : Int32).toNatClampNeg (111 : Int32)) q_436 (20 : Int32).toNatClampNeg (0 : Int32)) q_436 (21 : Int32).toNatClampNeg (105 : Int32)) q_436 (22 : Int32).toNatClampNeg (102 : Int32)) q_436 (23 : Int32).toNatClampNeg (0 : Int32)).2.2.2.1 q_350 (2 : Int32).toNatClampNeg = 1 := (sC_a (sC_a (sC_a (sC_a (sC_a (sC_a (sC_a (sC_a kn_533 (ro_ne r_514 r_517 (by decide))) (ro_ne r_514 r_517 (by decide))) (ro_ne r_514 r_517 (by decide))) (ro_ne r_514 r_517 (by decide))) (ro_ne r_514 r_517 (by decide))) (ro_ne r_514 r_517 (by decide))) (ro_ne r_514 r_517 (by decide))) (ro_ne r_514 r_517 (by decide)))
  have kn_583 : (sC (sC (sC (sC (sC (sC (sC (sC g_551 q_436 (16 : Int32).toNatClampNeg (115 : Int32)) q_436 (17 : Int32).toNatClampNeg (107 : Int32)) q_436 (18 : Int32).toNatClampNeg (100 : Int32)) q_436 (19 : Int32).toNatClampNeg (111 : Int32)) q_436 (20 : Int32).toNatClampNeg (0 : Int32)) q_436 (21 : Int32).toNatClampNeg (105 : Int32)) q_436 (22 : Int32).toNatClampNeg (102 : Int32)) q_436 (23 : Int32).toNatClampNeg (0 : Int32)).2.2.2.1 q_350 (3 : Int32).toNatClampNeg = 1 := (sC_a (sC_a (sC_a (sC_a (sC_a (sC_a (sC_a (sC_a kn_534 (ro_ne r_514 r_517 (by decide))) (ro_ne r_514 r_517 (by decide))) (ro_ne r_514 r_517 (by decide))) (ro_ne r_514 r_517 (by decide))) (ro_ne r_514 r_517 (by decide))) (ro_ne r_514 r_517 (by decide))) (ro_ne r_514 r_517 (by decide))) (ro_ne r_514 r_517 (by decide)))
  have kn_584 : (sC (sC (sC (sC (sC (sC (sC (sC g_551 q_436 (16 : Int32).toNatClampNeg (115 : Int32)) q_436 (17 : Int32).toNatClampNeg (107 : Int32)) q_436 (18 : Int32).toNatClampNeg (100 : Int32)) q_436 (19 : Int32).toNatClampNeg (111 : Int32)) q_436 (20 : Int32).toNatClampNeg (0 : Int32)) q_436 (21 : Int32).toNatClampNeg (105 : Int32)) q_436 (22 : Int32).toNatClampNeg (102 : Int32)) q_436 (23 : Int32).toNatClampNeg (0 : Int32)).2.2.2.1 q_436 (0 : Int32).toNatClampNeg = 115 := (sC_i (sC_i (sC_i (sC_i (sC_i (sC_i (sC_i (sC_i kn_535 (by decide)) (by decide)) (by decide)) (by decide)) (by decide)) (by decide)) (by decide)) (by decide))
  have kn_585 : (sC (sC (sC (sC (sC (sC (sC (sC g_551 q_436 (16 : Int32).toNatClampNeg (115 : Int32)) q_436 (17 : Int32).toNatClampNeg (107 : Int32)) q_436 (18 : Int32).toNatClampNeg (100 : Int32)) q_436 (19 : Int32).toNatClampNeg (111 : Int32)) q_436 (20 : Int32).toNatClampNeg (0 : Int32)) q_436 (21 : Int32).toNatClampNeg (105 : Int32)) q_436 (22 : Int32).toNatClampNeg (102 : Int32)) q_436 (23 : Int32).toNatClampNeg (0 : Int32)).2.2.2.1 q_436 (1 : Int32).toNatClampNeg = 101 := (sC_i (sC_i (sC_i (sC_i (sC_i (sC_i (sC_i (sC_i kn_536 (by decide)) (by decide)) (by decide)) (by decide)) (by decide)) (by decide)) (by decide)) (by decide))
  have kn_586 : (sC (sC (sC (sC (sC (sC (sC (sC g_551 q_436 (16 : Int32).toNatClampNeg (115 : Int32)) q_436 (17 : Int32).toNatClampNeg (107 : Int32)) q_436 (18 : Int32).toNatClampNeg (100 : Int32)) q_436 (19 : Int32).toNatClampNeg (111 : Int32)) q_436 (20 : Int32).toNatClampNeg (0 : Int32)) q_436 (21 : Int32).toNatClampNeg (105 : Int32)) q_436 (22 : Int32).toNatClampNeg (102 : Int32)) q_436 (23 : Int32).toNatClampNeg (0 : Int32)).2.2.2.1 q_436 (2 : Int32).toNatClampNeg = 116 := (sC_i (sC_i (sC_i (sC_i (sC_i (sC_i (sC_i (sC_i kn_537 (by decide)) (by decide)) (by decide)) (by decide)) (by decide)) (by decide)) (by decide)) (by decide))
  have kn_587 : (sC (sC (sC (sC (sC (sC (sC (sC g_551 q_436 (16 : Int32).toNatClampNeg (115 : Int32)) q_436 (17 : Int32).toNatClampNeg (107 : Int32)) q_436 (18 : Int32).toNatClampNeg (100 : Int32)) q_436 (19 : Int32).toNatClampNeg (111 : Int32)) q_436 (20 : Int32).toNatClampNeg (0 : Int32)) q_436 (21 : Int32).toNatClampNeg (105 : Int32)) q_436 (22 : Int32).toNatClampNeg (102 : Int32)) q_436 (23 : Int32).toNatClampNeg (0 : Int32)).2.2.2.1 q_436 (3 : Int32).toNatClampNeg = 97 := (sC_i (sC_i (sC_i (sC_i (sC_i (sC_i (sC_i (sC_i kn_538 (by decide)) (by decide)) (by decide)) (by decide)) (by decide)) (by decide)) (by decide)) (by decide))
  have kn_588 : (sC (sC (sC (sC (sC (sC (sC (sC g_551 q_436 (16 : Int32).toNatClampNeg (115 : Int32)) q_436 (17 : Int32).toNatClampNeg (107 : Int32)) q_436 (18 : Int32).toNatClampNeg (100 : Int32)) q_436 (19 : Int32).toNatClampNeg (111 : Int32)) q_436 (20 : Int32).toNatClampNeg (0 : Int32)) q_436 (21 : Int32).toNatClampNeg (105 : Int32)) q_436 (22 : Int32).toNatClampNeg (102 : Int32)) q_436 (23 : Int32).toNatClampNeg (0 : Int32)).2.2.2.1 q_436 (4 : Int32).toNatClampNeg = 100 := (sC_i (sC_i (sC_i (sC_i (sC_i (sC_i (sC_i (sC_i kn_539 (by decide)) (by decide)) (by decide)) (by decide)) (by decide)) (by decide)) (by decide)) (by decide))
  have kn_589 : (sC (sC (sC (sC (sC (sC (sC (sC g_551 q_436 (16 : Int32).toNatClampNeg (115 : Int32)) q_436 (17 : Int32).toNatClampNeg (107 : Int32)) q_436 (18 : Int32).toNatClampNeg (100 : Int32)) q_436 (19 : Int32).toNatClampNeg (111 : Int32)) q_436 (20 : Int32).toNatClampNeg (0 : Int32)) q_436 (21 : Int32).toNatClampNeg (105 : Int32)) q_436 (22 : Int32).toNatClampNeg (102 : Int32)) q_436 (23 : Int32).toNatClampNeg (0 : Int32)).2.2.2.1 q_436 (5 : Int32).toNatClampNeg = 100 := (sC_i (sC_i (sC_i (sC_i (sC_i (sC_i (sC_i (sC_i kn_540 (by decide)) (by decide)) (by decide)) (by decide)) (by decide)) (by decide)) (by decide)) (by decide))
  have kn_590 : (sC (sC (sC (sC (sC (sC (sC (sC g_551 q_436 (16 : Int32).toNatClampNeg (115 : Int32)) q_436 (17 : Int32).toNatClampNeg (107 : Int32)) q_436 (18 : Int32).toNatClampNeg (100 : Int32)) q_436 (19 : Int32).toNatClampNeg (111 : Int32)) q_436 (20 : Int32).toNatClampNeg (0 : Int32)) q_436 (21 : Int32).toNatClampNeg (105 : Int32)) q_436 (22 : Int32).toNatClampNeg (102 : Int32)) q_436 (23 : Int32).toNatClampNeg (0 : Int32)).2.2.2.1 q_436 (6 : Int32).toNatClampNeg = 109 := (sC_i (sC_i (sC_i (sC_i (sC_i (sC_i (sC_i (sC_i kn_541 (by decide)) (by decide)) (by decide)) (by decide)) (by decide)) (by decide)) (by decide)) (by decide))
  have kn_591 : (sC (sC (sC (sC (sC (sC (sC (sC g_551 q_436 (16 : Int32).toNatClampNeg (115 : Int32)) q_436 (17 : Int32).toNatClampNeg (107 : Int32)) q_436 (18 : Int32).toNatClampNeg (100 : Int32)) q_436 (19 : Int32).toNatClampNeg (111 : Int32)) q_436 (20 : Int32).toNatClampNeg (0 : Int32)) q_436 (21 : Int32).toNatClampNeg (105 : Int32)) q_436 (22 : Int32).toNatClampNeg (102 : Int32)) q_436 (23 : Int32).toNatClampNeg (0 : Int32)).2.2.2.1 q_436 (7 : Int32).toNatClampNeg = 97 := (sC_i (sC_i (sC_i (sC_i (sC_i (sC_i (sC_i (sC_i kn_542 (by decide)) (by decide)) (by decide)) (by decide)) (by decide)) (by decide)) (by decide)) (by decide))
  have kn_592 : (sC (sC (sC (sC (sC (sC (sC (sC g_551 q_436 (16 : Int32).toNatClampNeg (115 : Int32)) q_436 (17 : Int32).toNatClampNeg (107 : Int32)) q_436 (18 : Int32).toNatClampNeg (100 : Int32)) q_436 (19 : Int32).toNatClampNeg (111 : Int32)) q_436 (20 : Int32).toNatClampNeg (0 : Int32)) q_436 (21 : Int32).toNatClampNeg (105 : Int32)) q_436 (22 : Int32).toNatClampNeg (102 : Int32)) q_436 (23 : Int32).toNatClampNeg (0 : Int32)).2.2.2.1 q_436 (8 : Int32).toNatClampNeg = 120 := (sC_i (sC_i (sC_i (sC_i (sC_i (sC_i (sC_i (sC_i kn_543 (by decide)) (by decide)) (by decide)) (by decide)) (by decide)) (by decide)) (by decide)) (by decide))
  have kn_593 : (sC (sC (sC (sC (sC (sC (sC (sC g_551 q_436 (16 : Int32).toNatClampNeg (115 : Int32)) q_436 (17 : Int32).toNatClampNeg (107 : Int32)) q_436 (18 : Int32).toNatClampNeg (100 : Int32)) q_436 (19 : Int32).toNatClampNeg (111 : Int32)) q_436 (20 : Int32).toNatClampNeg (0 : Int32)) q_436 (21 : Int32).toNatClampNeg (105 : Int32)) q_436 (22 : Int32).toNatClampNeg (102 : Int32)) q_436 (23 : Int32).toNatClampNeg (0 : Int32)).2.2.2.1 q_436 (9 : Int32).toNatClampNeg = 110 := (sC_i (sC_i (sC_i (sC_i (sC_i (sC_i (sC_i (sC_i kn_544 (by decide)) (by decide)) (by decide)) (by decide)) (by decide)) (by decide)) (by decide)) (by decide))
  have kn_594 : (sC (sC (sC (sC (sC (sC (sC (sC g_551 q_436 (16 : Int32).toNatClampNeg (115 : Int32)) q_436 (17 : Int32).toNatClampNeg (107 : Int32)) q_436 (18 : Int32).toNatClampNeg (100 : Int32)) q_436 (19 : Int32).toNatClampNeg (111 : Int32)) q_436 (20 : Int32).toNatClampNeg (0 : Int32)) q_436 (21 : Int32).toNatClampNeg (105 : Int32)) q_436 (22 : Int32).toNatClampNeg (102 : Int32)) q_436 (23 : Int32).toNatClampNeg (0 : Int32)).2.2.2.1 q_436 (10 : Int32).toNatClampNeg = 101 := (sC_i (sC_i (sC_i (sC_i (sC_i (sC_i (sC_i (sC_i kn_545 (by decide)) (by decide)) (by decide)) (by decide)) (by decide)) (by decide)) (by decide)) (by decide))
  have kn_595 : (sC (sC (sC (sC (sC (sC (sC (sC g_551 q_436 (16 : Int32).toNatClampNeg (115 : Int32)) q_436 (17 : Int32).toNatClampNeg (107 : Int32)) q_436 (18 : Int32).toNatClampNeg (100 : Int32)) q_436 (19 : Int32).toNatClampNeg (111 : Int32)) q_436 (20 : Int32).toNatClampNeg (0 : Int32)) q_436 (21 : Int32).toNatClampNeg (105 : Int32)) q_436 (22 : Int32).toNatClampNeg (102 : Int32)) q_436 (23 : Int32).toNatClampNeg (0 : Int32)).2.2.2.1 q_436 (11 : Int32).toNatClampNeg = 119 := (sC_i (sC_i (sC_i (sC_i (sC_i (sC_i (sC_i (sC_i kn_546 (by decide)) (by decide)) (by decide)) (by decide)) (by decide)) (by decide)) (by decide)) (by decide))
  have kn_596 : (sC (sC (sC (sC (sC (sC (sC (sC g_551 q_436 (16 : Int32).toNatClampNeg (115 : Int32)) q_436 (17 : Int32).toNatClampNeg (107 : Int32)) q_436 (18 : Int32).toNatClampNeg (100 : Int32)) q_436 (19 : Int32).toNatClampNeg (111 : Int32)) q_436 (20 : Int32).toNatClampNeg (0 : Int32)) q_436 (21 : Int32).toNatClampNeg (105 : Int32)) q_436 (22 : Int32).toNatClampNeg (102 : Int32)) q_436 (23 : Int32).toNatClampNeg (0 : Int32)).2.2.2.1 q_436 (12 : Int32).toNatClampNeg = 103 := (sC_i (sC_i (sC_i (sC_i (sC_i (sC_i (sC_i (sC_i kn_547 (by decide)) (by decide)) (by decide)) (by decide)) (by decide)) (by decide)) (by decide)) (by decide))
  have kn_597 : (sC (sC (sC (sC (sC (sC (sC (sC g_551 q_436 (16 : Int32).toNatClampNeg (115 : Int32)) q_436 (17 : Int32).toNatClampNeg (107 : Int32)) q_436 (18 : Int32).toNatClampNeg (100 : Int32)) q_436 (19 : Int32).toNatClampNeg (111 : Int32)) q_436 (20 : Int32).toNatClampNeg (0 : Int32)) q_436 (21 : Int32).toNatClampNeg (105 : Int32)) q_436 (22 : Int32).toNatClampNeg (102 : Int32)) q_436 (23 : Int32).toNatClampNeg (0 : Int32)).2.2.2.1 q_436 (13 : Int32).toNatClampNeg = 101 := (sC_i (sC_i (sC_i (sC_i (sC_i (sC_i (sC_i (sC_i kn_548 (by decide)) (by decide)) (by decide)) (by decide)) (by decide)) (by decide)) (by decide)) (by decide))
  have kn_598 : (sC (sC (sC (sC (sC (sC (sC (sC g_551 q_436 (16 : Int32).toNatClampNeg (115 : Int32)) q_436 (17 : Int32).toNatClampNeg (107 : Int32)) q_436 (18 : Int32).toNatClampNeg (100 : Int32)) q_436 (19 : Int32).toNatClampNeg (111 : Int32)) q_436 (20 : Int32).toNatClampNeg (0 : Int32)) q_436 (21 : Int32).toNatClampNeg (105 : Int32)) q_436 (22 : Int32).toNatClampNeg (102 : Int32)) q_436 (23 : Int32).toNatClampNeg (0 : Int32)).2.2.2.1 q_436 (14 : Int32).toNatClampNeg = 116 := (sC_i (sC_i (sC_i (sC_i (sC_i (sC_i (sC_i (sC_i kn_549 (by decide)) (by decide)) (by decide)) (by decide)) (by decide)) (by decide)) (by decide)) (by decide))
  have kn_599 : (sC (sC (sC (sC (sC (sC (sC (sC g_551 q_436 (16 : Int32).toNatClampNeg (115 : Int32)) q_436 (17 : Int32).toNatClampNeg (107 : Int32)) q_436 (18 : Int32).toNatClampNeg (100 : Int32)) q_436 (19 : Int32).toNatClampNeg (111 : Int32)) q_436 (20 : Int32).toNatClampNeg (0 : Int32)) q_436 (21 : Int32).toNatClampNeg (105 : Int32)) q_436 (22 : Int32).toNatClampNeg (102 : Int32)) q_436 (23 : Int32).toNatClampNeg (0 : Int32)).2.2.2.1 q_436 (15 : Int32).toNatClampNeg = 97 := (sC_i (sC_i (sC_i (sC_i (sC_i (sC_i (sC_i (sC_i kn_550 (by decide)) (by decide)) (by decide)) (by decide)) (by decide)) (by decide)) (by decide)) (by decide))
  have kn_600 : (sC (sC (sC (sC (sC (sC (sC (sC g_551 q_436 (16 : Int32).toNatClampNeg (115 : Int32)) q_436 (17 : Int32).toNatClampNeg (107 : Int32)) q_436 (18 : Int32).toNatClampNeg (100 : Int32)) q_436 (19 : Int32).toNatClampNeg (111 : Int32)) q_436 (20 : Int32).toNatClampNeg (0 : Int32)) q_436 (21 : Int32).toNatClampNeg (105 : Int32)) q_436 (22 : Int32).toNatClampNeg (102 : Int32)) q_436 (23 : Int32).toNatClampNeg (0 : Int32)).2.2.2.1 q_436 (16 : Int32).toNatClampNeg = 115 := (sC_i (sC_i (sC_i (sC_i (sC_i (sC_i (sC_i sC_eq (by decide)) (by decide)) (by decide)) (by decide)) (by decide)) (by decide)) (by decide))
  have kn_601 : (sC (sC (sC (sC (sC (sC (sC (sC g_551 q_436 (16 : Int32).toNatClampNeg (115 : Int32)) q_436 (17 : Int32).toNatClampNeg (107 : Int32)) q_436 (18 : Int32).toNatClampNeg (100 : Int32)) q_436 (19 : Int32).toNatClampNeg (111 : Int32)) q_436 (20 : Int32).toNatClampNeg (0 : Int32)) q_436 (21 : Int32).toNatClampNeg (105 : Int32)) q_436 (22 : Int32).toNatClampNeg (102 : Int32)) q_436 (23 : Int32).toNatClampNeg (0 : Int32)).2.2.2.1 q_436 (17 : Int32).toNatClampNeg = 107 := (sC_i (sC_i (sC_i (sC_i (sC_i (sC_i sC_eq (by decide)) (by decide)) (by decide)) (by decide)) (by decide)) (by decide))
  have kn_602 : (sC (sC (sC (sC (sC (sC (sC (sC g_551 q_436 (16 : Int32).toNatClampNeg (115 : Int32)) q_436 (17 : Int32).toNatClampNeg (107 : Int32)) q_436 (18 : Int32).toNatClampNeg (100 : Int32)) q_436 (19 : Int32).toNatClampNeg (111 : Int32)) q_436 (20 : Int32).toNatClampNeg (0 : Int32)) q_436 (21 : Int32).toNatClampNeg (105 : Int32)) q_436 (22 : Int32).toNatClampNeg (102 : Int32)) q_436 (23 : Int32).toNatClampNeg (0 : Int32)).2.2.2.1 q_436 (18 : Int32).toNatClampNeg = 100 := (sC_i (sC_i (sC_i (sC_i (sC_i sC_eq (by decide)) (by decide)) (by decide)) (by decide)) (by decide))
  have kn_603 : (sC (sC (sC (sC (sC (sC (sC (sC g_551 q_436 (16 : Int32).toNatClampNeg (115 : Int32)) q_436 (17 : Int32).toNatClampNeg (107 : Int32)) q_436 (18 : Int32).toNatClampNeg (100 : Int32)) q_436 (19 : Int32).toNatClampNeg (111 : Int32)) q_436 (20 : Int32).toNatClampNeg (0 : Int32)) q_436 (21 : Int32).toNatClampNeg (105 : Int32)) q_436 (22 : Int32).toNatClampNeg (102 : Int32)) q_436 (23 : Int32).toNatClampNeg (0 : Int32)).2.2.2.1 q_436 (19 : Int32).toNatClampNeg = 111 := (sC_i (sC_i (sC_i (sC_i sC_eq (by decide)) (by decide)) (by decide)) (by decide))
  have kn_604 : (sC (sC (sC (sC (sC (sC (sC (sC g_551 q_436 (16 : Int32).toNatClampNeg (115 : Int32)) q_436 (17 : Int32).toNatClampNeg (107 : Int32)) q_436 (18 : Int32).toNatClampNeg (100 : Int32)) q_436 (19 : Int32).toNatClampNeg (111 : Int32)) q_436 (20 : Int32).toNatClampNeg (0 : Int32)) q_436 (21 : Int32).toNatClampNeg (105 : Int32)) q_436 (22 : Int32).toNatClampNeg (102 : Int32)) q_436 (23 : Int32).toNatClampNeg (0 : Int32)).2.2.2.1 q_436 (20 : Int32).toNatClampNeg = 0 := (sC_i (sC_i (sC_i sC_eq (by decide)) (by decide)) (by decide))
  have kn_605 : (sC (sC (sC (sC (sC (sC (sC (sC g_551 q_436 (16 : Int32).toNatClampNeg (115 : Int32)) q_436 (17 : Int32).toNatClampNeg (107 : Int32)) q_436 (18 : Int32).toNatClampNeg (100 : Int32)) q_436 (19 : Int32).toNatClampNeg (111 : Int32)) q_436 (20 : Int32).toNatClampNeg (0 : Int32)) q_436 (21 : Int32).toNatClampNeg (105 : Int32)) q_436 (22 : Int32).toNatClampNeg (102 : Int32)) q_436 (23 : Int32).toNatClampNeg (0 : Int32)).2.2.2.1 q_436 (21 : Int32).toNatClampNeg = 105 := (sC_i (sC_i sC_eq (by decide)) (by decide))
  have kn_606 : (sC (sC (sC (sC (sC (sC (sC (sC g_551 q_436 (16 : Int32).toNatClampNeg (115 : Int32)) q_436 (17 : Int32).toNatClampNeg (107 : Int32)) q_436 (18 : Int32).toNatClampNeg (100 : Int32)) q_436 (19 : Int32).toNatClampNeg (111 : Int32)) q_436 (20 : Int32).toNatClampNeg (0 : Int32)) q_436 (21 : Int32).toNatClampNeg (105 : Int32)) q_436 (22 : Int32).toNatClampNeg (102 : Int32)) q_436 (23 : Int32).toNatClampNeg (0 : Int32)).2.2.2.1 q_436 (22 : Int32).toNatClampNeg = 102 := (sC_i sC_eq (by decide))
  have kn_607 : (sC (sC (sC (sC (sC (sC (sC (sC g_551 q_436 (16 : Int32).toNatClampNeg (115 : Int32)) q_436 (17 : Int32).toNatClampNeg (107 : Int32)) q_436 (18 : Int32).toNatClampNeg (100 : Int32)) q_436 (19 : Int32).toNatClampNeg (111 : Int32)) q_436 (20 : Int32).toNatClampNeg (0 : Int32)) q_436 (21 : Int32).toNatClampNeg (105 : Int32)) q_436 (22 : Int32).toNatClampNeg (102 : Int32)) q_436 (23 : Int32).toNatClampNeg (0 : Int32)).2.2.2.1 q_436 (23 : Int32).toNatClampNeg = 0 := sC_eq
  generalize (sC (sC (sC (sC (sC (sC (sC (sC g_551 q_436 (16 : Int32).toNatClampNeg (115 : Int32)) q_436 (17 : Int32).toNatClampNeg (107 : Int32)) q_436 (18 : Int32).toNatClampNeg (100 : Int32)) q_436 (19 : Int32).toNatClampNeg (111 : Int32)) q_436 (20 : Int32).toNatClampNeg (0 : Int32)) q_436 (21 : Int32).toNatClampNeg (105 : Int32)) q_436 (22 : Int32).toNatClampNeg (102 : Int32)) q_436 (23 : Int32).toNatClampNeg (0 : Int32)) = g_608 at hT hI hM hE r_560 r_561 r_562 r_563 r_564 r_565 r_566 n_567 n_568 n_569 n_570 n_571 n_572 kn_573 kn_574 kn_575 kn_576 kn_577 kn_578 kn_579 kn_580 kn_581 kn_582 kn_583 kn_584 kn_585 kn_586 kn_587 kn_588 kn_589 kn_590 kn_591 kn_592 kn_593 kn_594 kn_595 kn_596 kn_597 kn_598 kn_599 kn_600 kn_601 kn_602 kn_603 kn_604 kn_605 kn_606 kn_607 hP zP zN
  refine t_put0 (ci := 7) (v := .ref q_436) hB hT (ro_ci r_560 rfl) (ro_n0 r_560 (by decide)) rfl 42 (by decide) k_787 (Or.inr ⟨hin, rfl⟩) rfl rfl dX7_init_419 (fun H locs hT => ?_)
  have hI : Inv (sF g_608 h 42 (.ref q_436)) := hI.sF (fk r_560 (show fsm _ _ ft from trivial))
  have hM : Sm md_k_Model g (sF g_608 h 42 (.ref q_436)) := hM.tr hE (Sm_sF (by rw [r_560]; rfl))
  have hE : Ex g (sF g_608 h 42 (.ref q_436)) := hE
  have hP : PF [42, 41, 40, 39, 35, 33, 32, 31, 28, 27, 26, 25, 23, 20, 19, 18, 17, 16, 15, 14, 13, 12, 11, 10, 9, 8, 7, 6, 5, 4, 3, 2, 1, 60, 52, 51, 50, 49, 38, 37, 36, 34, 30, 29, 24, 22, 21, 0] (sF g_608 h 42 (.ref q_436)) h := hP.put (q_8_42 (⟨_, rfl, r_566, n_572⟩))
  have zP : ZC (sF g_608 h 42 (.ref q_436)) q_15 := zP
  have zN : ZC (sF g_608 h 42 (.ref q_436)) q_387 := zN
  refine lv_aload_n hx hb dX7_init_422 rfl (lv_at hl 0 rfl) ?_
  refine lv_bipush (v := 7) hx hb dX7_init_423 (by decide) ?_
  refine t_newi (N' := 7) hB hT 51 (by decide) k_101 (by decide) (by decide) (by decide) (Nat.le_of_ble_eq_true rfl) (Nat.le_of_ble_eq_true rfl) dX7_init_425 (fun q_609 H o_q_609 hT => ?_)
  have z_q_609 : g.1 q_609 = 0 := hE.z0 o_q_609
  have hI : Inv (sA (sF g_608 h 42 (.ref q_436)) q_609 51 7) := hI.newi o_q_609 (by decide) (fun _ => rfl) ⟨by decide, by decide⟩ (fun _ => trivial)
  have hM : Sm md_k_Model g (sA (sF g_608 h 42 (.ref q_436)) q_609 51 7) := hM.tr hE (Sm.push o_q_609 sA_g)
  have hE : Ex g (sA (sF g_608 h 42 (.ref q_436)) q_609 51 7) := hE.tr (Ex.push o_q_609 sA_g)
  have hP : PF [42, 41, 40, 39, 35, 33, 32, 31, 28, 27, 26, 25, 23, 20, 19, 18, 17, 16, 15, 14, 13, 12, 11, 10, 9, 8, 7, 6, 5, 4, 3, 2, 1, 60, 52, 51, 50, 49, 38, 37, 36, 34, 30, 29, 24, 22, 21, 0] (sA (sF g_608 h 42 (.ref q_436)) q_609 51 7) h := hP.pu (Ex.push o_q_609 sA_g) (sA_g h (ne0 r_560 o_q_609 (by decide))).2.1
  have zP : ZC (sA (sF g_608 h 42 (.ref q_436)) q_609 51 7) q_15 := zP.pu (sA_g q_15 (ne0 r_562 o_q_609 (by decide))).2.2.2.1
  have zN : ZC (sA (sF g_608 h 42 (.ref q_436)) q_609 51 7) q_387 := zN.pu (sA_g q_387 (ne0 r_565 o_q_609 (by decide))).2.2.2.1
  have r_610 : (sA (sF g_608 h 42 (.ref q_436)) q_609 51 7).1 h = 18 := ((sA_g h (ne0 r_560 o_q_609 (by decide))).1.trans r_560)
  have r_611 : (sA (sF g_608 h 42 (.ref q_436)) q_609 51 7).1 q_8 = 71 := ((sA_g q_8 (ne0 r_561 o_q_609 (by decide))).1.trans r_561)
  have r_612 : (sA (sF g_608 h 42 (.ref q_436)) q_609 51 7).1 q_15 = 72 := ((sA_g q_15 (ne0 r_562 o_q_609 (by decide))).1.trans r_562)
  have r_613 : (sA (sF g_608 h 42 (.ref q_436)) q_609 51 7).1 q_350 = 83 := ((sA_g q_350 (ne0 r_563 o_q_609 (by decide))).1.trans r_563)
  have r_614 : (sA (sF g_608 h 42 (.ref q_436)) q_609 51 7).1 q_367 = 84 := ((sA_g q_367 (ne0 r_564 o_q_609 (by decide))).1.trans r_564)
  have r_615 : (sA (sF g_608 h 42 (.ref q_436)) q_609 51 7).1 q_387 = 85 := ((sA_g q_387 (ne0 r_565 o_q_609 (by decide))).1.trans r_565)
  have r_616 : (sA (sF g_608 h 42 (.ref q_436)) q_609 51 7).1 q_609 = 51 := sA_r
  have n_617 : (sA (sF g_608 h 42 (.ref q_436)) q_609 51 7).2.2.1 q_8 = 48 := ((sA_g q_8 (ne0 r_561 o_q_609 (by decide))).2.2.1.trans n_567)
  have n_618 : (sA (sF g_608 h 42 (.ref q_436)) q_609 51 7).2.2.1 q_15 = 48 := ((sA_g q_15 (ne0 r_562 o_q_609 (by decide))).2.2.1.trans n_568)
  have n_619 : (sA (sF g_608 h 42 (.ref q_436)) q_609 51 7).2.2.1 q_350 = 4 := ((sA_g q_350 (ne0 r_563 o_q_609 (by decide))).2.2.1.trans n_569)
  have n_620 : (sA (sF g_608 h 42 (.ref q_436)) q_609 51 7).2.2.1 q_367 = 8 := ((sA_g q_367 (ne0 r_564 o_q_609 (by decide))).2.2.1.trans n_570)
  have n_621 : (sA (sF g_608 h 42 (.ref q_436)) q_609 51 7).2.2.1 q_387 = 8 := ((sA_g q_387 (ne0 r_565 o_q_609 (by decide))).2.2.1.trans n_571)
  have n_622 : (sA (sF g_608 h 42 (.ref q_436)) q_609 51 7).2.2.1 q_609 = 7 := sA_n
  have kn_623 : (sA (sF g_608 h 42 (.ref q_436)) q_609 51 7).2.1 h 22 = .int 0 := ((congrFun (sA_g h (ne0 r_560 o_q_609 (by decide))).2.1 22).trans (sF_k kn_573 (by decide)))
  have kn_624 : (sA (sF g_608 h 42 (.ref q_436)) q_609 51 7).2.1 h 34 = .int 0 := ((congrFun (sA_g h (ne0 r_560 o_q_609 (by decide))).2.1 34).trans (sF_k kn_574 (by decide)))
  have kn_625 : (sA (sF g_608 h 42 (.ref q_436)) q_609 51 7).2.1 h 2 = .ref q_8 := ((congrFun (sA_g h (ne0 r_560 o_q_609 (by decide))).2.1 2).trans (sF_k kn_575 (by decide)))
  have kn_626 : (sA (sF g_608 h 42 (.ref q_436)) q_609 51 7).2.1 h 3 = .ref q_15 := ((congrFun (sA_g h (ne0 r_560 o_q_609 (by decide))).2.1 3).trans (sF_k kn_576 (by decide)))
  have kn_627 : (sA (sF g_608 h 42 (.ref q_436)) q_609 51 7).2.1 h 35 = .ref q_350 := ((congrFun (sA_g h (ne0 r_560 o_q_609 (by decide))).2.1 35).trans (sF_k kn_577 (by decide)))
  have kn_628 : (sA (sF g_608 h 42 (.ref q_436)) q_609 51 7).2.1 h 39 = .ref q_367 := ((congrFun (sA_g h (ne0 r_560 o_q_609 (by decide))).2.1 39).trans (sF_k kn_578 (by decide)))
  have kn_629 : (sA (sF g_608 h 42 (.ref q_436)) q_609 51 7).2.1 h 40 = .ref q_387 := ((congrFun (sA_g h (ne0 r_560 o_q_609 (by decide))).2.1 40).trans (sF_k kn_579 (by decide)))
  have kn_630 : (sA (sF g_608 h 42 (.ref q_436)) q_609 51 7).2.2.2.1 q_350 (0 : Int32).toNatClampNeg = 1 := ((congrFun (sA_g q_350 (ne0 r_563 o_q_609 (by decide))).2.2.2.1 _).trans kn_580)
  have kn_631 : (sA (sF g_608 h 42 (.ref q_436)) q_609 51 7).2.2.2.1 q_350 (1 : Int32).toNatClampNeg = 1 := ((congrFun (sA_g q_350 (ne0 r_563 o_q_609 (by decide))).2.2.2.1 _).trans kn_581)
  have kn_632 : (sA (sF g_608 h 42 (.ref q_436)) q_609 51 7).2.2.2.1 q_350 (2 : Int32).toNatClampNeg = 1 := ((congrFun (sA_g q_350 (ne0 r_563 o_q_609 (by decide))).2.2.2.1 _).trans kn_582)
  have kn_633 : (sA (sF g_608 h 42 (.ref q_436)) q_609 51 7).2.2.2.1 q_350 (3 : Int32).toNatClampNeg = 1 := ((congrFun (sA_g q_350 (ne0 r_563 o_q_609 (by decide))).2.2.2.1 _).trans kn_583)
  generalize (sA (sF g_608 h 42 (.ref q_436)) q_609 51 7) = g_634 at hT hI hM hE r_610 r_611 r_612 r_613 r_614 r_615 r_616 n_617 n_618 n_619 n_620 n_621 n_622 kn_623 kn_624 kn_625 kn_626 kn_627 kn_628 kn_629 kn_630 kn_631 kn_632 kn_633 hP zP zN
  refine W.widen (k := 34) (n := 1605) (Nat.le_of_ble_eq_true rfl) (Nat.le_of_ble_eq_true rfl) ?_
  refine t_put0 (ci := 7) (v := .ref q_609) hB hT (ro_ci r_610 rfl) (ro_n0 r_610 (by decide)) rfl 43 (by decide) k_788 (Or.inr ⟨hin, rfl⟩) rfl rfl dX7_init_427 (fun H locs hT => ?_)
  have hI : Inv (sF g_634 h 43 (.ref q_609)) := hI.sF (fk r_610 (show fsm _ _ ft from trivial))
  have hM : Sm md_k_Model g (sF g_634 h 43 (.ref q_609)) := hM.tr hE (Sm_sF (by rw [r_610]; rfl))
  have hE : Ex g (sF g_634 h 43 (.ref q_609)) := hE
  have hP : PF [43, 42, 41, 40, 39, 35, 33, 32, 31, 28, 27, 26, 25, 23, 20, 19, 18, 17, 16, 15, 14, 13, 12, 11, 10, 9, 8, 7, 6, 5, 4, 3, 2, 1, 60, 52, 51, 50, 49, 38, 37, 36, 34, 30, 29, 24, 22, 21, 0] (sF g_634 h 43 (.ref q_609)) h := hP.put (q_8_43 (⟨_, rfl, r_616, n_622⟩))
  have zP : ZC (sF g_634 h 43 (.ref q_609)) q_15 := zP
  have zN : ZC (sF g_634 h 43 (.ref q_609)) q_387 := zN
  refine lv_aload_n hx hb dX7_init_430 rfl (lv_at hl 0 rfl) ?_
  refine lv_bipush (v := 7) hx hb dX7_init_431 (by decide) ?_
  refine t_newi (N' := 7) hB hT 56 (by decide) k_101 (by decide) (by decide) (by decide) (Nat.le_of_ble_eq_true rfl) (Nat.le_of_ble_eq_true rfl) dX7_init_433 (fun q_635 H o_q_635 hT => ?_)
  have z_q_635 : g.1 q_635 = 0 := hE.z0 o_q_635
  have hI : Inv (sA (sF g_634 h 43 (.ref q_609)) q_635 56 7) := hI.newi o_q_635 (by decide) (fun _ => rfl) ⟨by decide, by decide⟩ (fun _ => trivial)
  have hM : Sm md_k_Model g (sA (sF g_634 h 43 (.ref q_609)) q_635 56 7) := hM.tr hE (Sm.push o_q_635 sA_g)
  have hE : Ex g (sA (sF g_634 h 43 (.ref q_609)) q_635 56 7) := hE.tr (Ex.push o_q_635 sA_g)
  have hP : PF [43, 42, 41, 40, 39, 35, 33, 32, 31, 28, 27, 26, 25, 23, 20, 19, 18, 17, 16, 15, 14, 13, 12, 11, 10, 9, 8, 7, 6, 5, 4, 3, 2, 1, 60, 52, 51, 50, 49, 38, 37, 36, 34, 30, 29, 24, 22, 21, 0] (sA (sF g_634 h 43 (.ref q_609)) q_635 56 7) h := hP.pu (Ex.push o_q_635 sA_g) (sA_g h (ne0 r_610 o_q_635 (by decide))).2.1
  have zP : ZC (sA (sF g_634 h 43 (.ref q_609)) q_635 56 7) q_15 := zP.pu (sA_g q_15 (ne0 r_612 o_q_635 (by decide))).2.2.2.1
  have zN : ZC (sA (sF g_634 h 43 (.ref q_609)) q_635 56 7) q_387 := zN.pu (sA_g q_387 (ne0 r_615 o_q_635 (by decide))).2.2.2.1
  have r_636 : (sA (sF g_634 h 43 (.ref q_609)) q_635 56 7).1 h = 18 := ((sA_g h (ne0 r_610 o_q_635 (by decide))).1.trans r_610)
  have r_637 : (sA (sF g_634 h 43 (.ref q_609)) q_635 56 7).1 q_8 = 71 := ((sA_g q_8 (ne0 r_611 o_q_635 (by decide))).1.trans r_611)
  have r_638 : (sA (sF g_634 h 43 (.ref q_609)) q_635 56 7).1 q_15 = 72 := ((sA_g q_15 (ne0 r_612 o_q_635 (by decide))).1.trans r_612)
  have r_639 : (sA (sF g_634 h 43 (.ref q_609)) q_635 56 7).1 q_350 = 83 := ((sA_g q_350 (ne0 r_613 o_q_635 (by decide))).1.trans r_613)
  have r_640 : (sA (sF g_634 h 43 (.ref q_609)) q_635 56 7).1 q_367 = 84 := ((sA_g q_367 (ne0 r_614 o_q_635 (by decide))).1.trans r_614)
  have r_641 : (sA (sF g_634 h 43 (.ref q_609)) q_635 56 7).1 q_387 = 85 := ((sA_g q_387 (ne0 r_615 o_q_635 (by decide))).1.trans r_615)
  have r_642 : (sA (sF g_634 h 43 (.ref q_609)) q_635 56 7).1 q_635 = 56 := sA_r
  have n_643 : (sA (sF g_634 h 43 (.ref q_609)) q_635 56 7).2.2.1 q_8 = 48 := ((sA_g q_8 (ne0 r_611 o_q_635 (by decide))).2.2.1.trans n_617)
  have n_644 : (sA (sF g_634 h 43 (.ref q_609)) q_635 56 7).2.2.1 q_15 = 48 := ((sA_g q_15 (ne0 r_612 o_q_635 (by decide))).2.2.1.trans n_618)
  have n_645 : (sA (sF g_634 h 43 (.ref q_609)) q_635 56 7).2.2.1 q_350 = 4 := ((sA_g q_350 (ne0 r_613 o_q_635 (by decide))).2.2.1.trans n_619)
  have n_646 : (sA (sF g_634 h 43 (.ref q_609)) q_635 56 7).2.2.1 q_367 = 8 := ((sA_g q_367 (ne0 r_614 o_q_635 (by decide))).2.2.1.trans n_620)
  have n_647 : (sA (sF g_634 h 43 (.ref q_609)) q_635 56 7).2.2.1 q_387 = 8 := ((sA_g q_387 (ne0 r_615 o_q_635 (by decide))).2.2.1.trans n_621)
  have n_648 : (sA (sF g_634 h 43 (.ref q_609)) q_635 56 7).2.2.1 q_635 = 7 := sA_n
  have kn_649 : (sA (sF g_634 h 43 (.ref q_609)) q_635 56 7).2.1 h 22 = .int 0 := ((congrFun (sA_g h (ne0 r_610 o_q_635 (by decide))).2.1 22).trans (sF_k kn_623 (by decide)))
  have kn_650 : (sA (sF g_634 h 43 (.ref q_609)) q_635 56 7).2.1 h 34 = .int 0 := ((congrFun (sA_g h (ne0 r_610 o_q_635 (by decide))).2.1 34).trans (sF_k kn_624 (by decide)))
  have kn_651 : (sA (sF g_634 h 43 (.ref q_609)) q_635 56 7).2.1 h 2 = .ref q_8 := ((congrFun (sA_g h (ne0 r_610 o_q_635 (by decide))).2.1 2).trans (sF_k kn_625 (by decide)))
  have kn_652 : (sA (sF g_634 h 43 (.ref q_609)) q_635 56 7).2.1 h 3 = .ref q_15 := ((congrFun (sA_g h (ne0 r_610 o_q_635 (by decide))).2.1 3).trans (sF_k kn_626 (by decide)))
  have kn_653 : (sA (sF g_634 h 43 (.ref q_609)) q_635 56 7).2.1 h 35 = .ref q_350 := ((congrFun (sA_g h (ne0 r_610 o_q_635 (by decide))).2.1 35).trans (sF_k kn_627 (by decide)))
  have kn_654 : (sA (sF g_634 h 43 (.ref q_609)) q_635 56 7).2.1 h 39 = .ref q_367 := ((congrFun (sA_g h (ne0 r_610 o_q_635 (by decide))).2.1 39).trans (sF_k kn_628 (by decide)))
  have kn_655 : (sA (sF g_634 h 43 (.ref q_609)) q_635 56 7).2.1 h 40 = .ref q_387 := ((congrFun (sA_g h (ne0 r_610 o_q_635 (by decide))).2.1 40).trans (sF_k kn_629 (by decide)))
  have kn_656 : (sA (sF g_634 h 43 (.ref q_609)) q_635 56 7).2.2.2.1 q_350 (0 : Int32).toNatClampNeg = 1 := ((congrFun (sA_g q_350 (ne0 r_613 o_q_635 (by decide))).2.2.2.1 _).trans kn_630)
  have kn_657 : (sA (sF g_634 h 43 (.ref q_609)) q_635 56 7).2.2.2.1 q_350 (1 : Int32).toNatClampNeg = 1 := ((congrFun (sA_g q_350 (ne0 r_613 o_q_635 (by decide))).2.2.2.1 _).trans kn_631)
  have kn_658 : (sA (sF g_634 h 43 (.ref q_609)) q_635 56 7).2.2.2.1 q_350 (2 : Int32).toNatClampNeg = 1 := ((congrFun (sA_g q_350 (ne0 r_613 o_q_635 (by decide))).2.2.2.1 _).trans kn_632)
  have kn_659 : (sA (sF g_634 h 43 (.ref q_609)) q_635 56 7).2.2.2.1 q_350 (3 : Int32).toNatClampNeg = 1 := ((congrFun (sA_g q_350 (ne0 r_613 o_q_635 (by decide))).2.2.2.1 _).trans kn_633)
  generalize (sA (sF g_634 h 43 (.ref q_609)) q_635 56 7) = g_660 at hT hI hM hE r_636 r_637 r_638 r_639 r_640 r_641 r_642 n_643 n_644 n_645 n_646 n_647 n_648 kn_649 kn_650 kn_651 kn_652 kn_653 kn_654 kn_655 kn_656 kn_657 kn_658 kn_659 hP zP zN
  refine W.widen (k := 35) (n := 1612) (Nat.le_of_ble_eq_true rfl) (Nat.le_of_ble_eq_true rfl) ?_
  refine t_put0 (ci := 7) (v := .ref q_635) hB hT (ro_ci r_636 rfl) (ro_n0 r_636 (by decide)) rfl 44 (by decide) k_789 (Or.inr ⟨hin, rfl⟩) rfl rfl dX7_init_435 (fun H locs hT => ?_)
  have hI : Inv (sF g_660 h 44 (.ref q_635)) := hI.sF (fk r_636 (show fsm _ _ ft from trivial))
  have hM : Sm md_k_Model g (sF g_660 h 44 (.ref q_635)) := hM.tr hE (Sm_sF (by rw [r_636]; rfl))
  have hE : Ex g (sF g_660 h 44 (.ref q_635)) := hE
  have hP : PF [44, 43, 42, 41, 40, 39, 35, 33, 32, 31, 28, 27, 26, 25, 23, 20, 19, 18, 17, 16, 15, 14, 13, 12, 11, 10, 9, 8, 7, 6, 5, 4, 3, 2, 1, 60, 52, 51, 50, 49, 38, 37, 36, 34, 30, 29, 24, 22, 21, 0] (sF g_660 h 44 (.ref q_635)) h := hP.put (q_8_44 (⟨_, rfl, r_642, n_648⟩))
  have zP : ZC (sF g_660 h 44 (.ref q_635)) q_15 := zP
  have zN : ZC (sF g_660 h 44 (.ref q_635)) q_387 := zN
  refine lv_aload_n hx hb dX7_init_438 rfl (lv_at hl 0 rfl) ?_
  refine lv_bipush (v := 7) hx hb dX7_init_439 (by decide) ?_
  refine t_newi (N' := 7) hB hT 50 (by decide) k_101 (by decide) (by decide) (by decide) (Nat.le_of_ble_eq_true rfl) (Nat.le_of_ble_eq_true rfl) dX7_init_441 (fun q_661 H o_q_661 hT => ?_)
  have z_q_661 : g.1 q_661 = 0 := hE.z0 o_q_661
  have hI : Inv (sA (sF g_660 h 44 (.ref q_635)) q_661 50 7) := hI.newi o_q_661 (by decide) (fun _ => rfl) trivial (fun _ => trivial)
  have hM : Sm md_k_Model g (sA (sF g_660 h 44 (.ref q_635)) q_661 50 7) := hM.tr hE (Sm.push o_q_661 sA_g)
  have hE : Ex g (sA (sF g_660 h 44 (.ref q_635)) q_661 50 7) := hE.tr (Ex.push o_q_661 sA_g)
  have hP : PF [44, 43, 42, 41, 40, 39, 35, 33, 32, 31, 28, 27, 26, 25, 23, 20, 19, 18, 17, 16, 15, 14, 13, 12, 11, 10, 9, 8, 7, 6, 5, 4, 3, 2, 1, 60, 52, 51, 50, 49, 38, 37, 36, 34, 30, 29, 24, 22, 21, 0] (sA (sF g_660 h 44 (.ref q_635)) q_661 50 7) h := hP.pu (Ex.push o_q_661 sA_g) (sA_g h (ne0 r_636 o_q_661 (by decide))).2.1
  have zP : ZC (sA (sF g_660 h 44 (.ref q_635)) q_661 50 7) q_15 := zP.pu (sA_g q_15 (ne0 r_638 o_q_661 (by decide))).2.2.2.1
  have zN : ZC (sA (sF g_660 h 44 (.ref q_635)) q_661 50 7) q_387 := zN.pu (sA_g q_387 (ne0 r_641 o_q_661 (by decide))).2.2.2.1
  have r_662 : (sA (sF g_660 h 44 (.ref q_635)) q_661 50 7).1 h = 18 := ((sA_g h (ne0 r_636 o_q_661 (by decide))).1.trans r_636)
  have r_663 : (sA (sF g_660 h 44 (.ref q_635)) q_661 50 7).1 q_8 = 71 := ((sA_g q_8 (ne0 r_637 o_q_661 (by decide))).1.trans r_637)
  have r_664 : (sA (sF g_660 h 44 (.ref q_635)) q_661 50 7).1 q_15 = 72 := ((sA_g q_15 (ne0 r_638 o_q_661 (by decide))).1.trans r_638)
  have r_665 : (sA (sF g_660 h 44 (.ref q_635)) q_661 50 7).1 q_350 = 83 := ((sA_g q_350 (ne0 r_639 o_q_661 (by decide))).1.trans r_639)
  have r_666 : (sA (sF g_660 h 44 (.ref q_635)) q_661 50 7).1 q_367 = 84 := ((sA_g q_367 (ne0 r_640 o_q_661 (by decide))).1.trans r_640)
  have r_667 : (sA (sF g_660 h 44 (.ref q_635)) q_661 50 7).1 q_387 = 85 := ((sA_g q_387 (ne0 r_641 o_q_661 (by decide))).1.trans r_641)
  have r_668 : (sA (sF g_660 h 44 (.ref q_635)) q_661 50 7).1 q_661 = 50 := sA_r
  have n_669 : (sA (sF g_660 h 44 (.ref q_635)) q_661 50 7).2.2.1 q_8 = 48 := ((sA_g q_8 (ne0 r_637 o_q_661 (by decide))).2.2.1.trans n_643)
  have n_670 : (sA (sF g_660 h 44 (.ref q_635)) q_661 50 7).2.2.1 q_15 = 48 := ((sA_g q_15 (ne0 r_638 o_q_661 (by decide))).2.2.1.trans n_644)
  have n_671 : (sA (sF g_660 h 44 (.ref q_635)) q_661 50 7).2.2.1 q_350 = 4 := ((sA_g q_350 (ne0 r_639 o_q_661 (by decide))).2.2.1.trans n_645)
  have n_672 : (sA (sF g_660 h 44 (.ref q_635)) q_661 50 7).2.2.1 q_367 = 8 := ((sA_g q_367 (ne0 r_640 o_q_661 (by decide))).2.2.1.trans n_646)
  have n_673 : (sA (sF g_660 h 44 (.ref q_635)) q_661 50 7).2.2.1 q_387 = 8 := ((sA_g q_387 (ne0 r_641 o_q_661 (by decide))).2.2.1.trans n_647)
  have n_674 : (sA (sF g_660 h 44 (.ref q_635)) q_661 50 7).2.2.1 q_661 = 7 := sA_n
  have kn_675 : (sA (sF g_660 h 44 (.ref q_635)) q_661 50 7).2.1 h 22 = .int 0 := ((congrFun (sA_g h (ne0 r_636 o_q_661 (by decide))).2.1 22).trans (sF_k kn_649 (by decide)))
  have kn_676 : (sA (sF g_660 h 44 (.ref q_635)) q_661 50 7).2.1 h 34 = .int 0 := ((congrFun (sA_g h (ne0 r_636 o_q_661 (by decide))).2.1 34).trans (sF_k kn_650 (by decide)))
  have kn_677 : (sA (sF g_660 h 44 (.ref q_635)) q_661 50 7).2.1 h 2 = .ref q_8 := ((congrFun (sA_g h (ne0 r_636 o_q_661 (by decide))).2.1 2).trans (sF_k kn_651 (by decide)))
  have kn_678 : (sA (sF g_660 h 44 (.ref q_635)) q_661 50 7).2.1 h 3 = .ref q_15 := ((congrFun (sA_g h (ne0 r_636 o_q_661 (by decide))).2.1 3).trans (sF_k kn_652 (by decide)))
  have kn_679 : (sA (sF g_660 h 44 (.ref q_635)) q_661 50 7).2.1 h 35 = .ref q_350 := ((congrFun (sA_g h (ne0 r_636 o_q_661 (by decide))).2.1 35).trans (sF_k kn_653 (by decide)))
  have kn_680 : (sA (sF g_660 h 44 (.ref q_635)) q_661 50 7).2.1 h 39 = .ref q_367 := ((congrFun (sA_g h (ne0 r_636 o_q_661 (by decide))).2.1 39).trans (sF_k kn_654 (by decide)))
  have kn_681 : (sA (sF g_660 h 44 (.ref q_635)) q_661 50 7).2.1 h 40 = .ref q_387 := ((congrFun (sA_g h (ne0 r_636 o_q_661 (by decide))).2.1 40).trans (sF_k kn_655 (by decide)))
  have kn_682 : (sA (sF g_660 h 44 (.ref q_635)) q_661 50 7).2.2.2.1 q_350 (0 : Int32).toNatClampNeg = 1 := ((congrFun (sA_g q_350 (ne0 r_639 o_q_661 (by decide))).2.2.2.1 _).trans kn_656)
  have kn_683 : (sA (sF g_660 h 44 (.ref q_635)) q_661 50 7).2.2.2.1 q_350 (1 : Int32).toNatClampNeg = 1 := ((congrFun (sA_g q_350 (ne0 r_639 o_q_661 (by decide))).2.2.2.1 _).trans kn_657)
  have kn_684 : (sA (sF g_660 h 44 (.ref q_635)) q_661 50 7).2.2.2.1 q_350 (2 : Int32).toNatClampNeg = 1 := ((congrFun (sA_g q_350 (ne0 r_639 o_q_661 (by decide))).2.2.2.1 _).trans kn_658)
  have kn_685 : (sA (sF g_660 h 44 (.ref q_635)) q_661 50 7).2.2.2.1 q_350 (3 : Int32).toNatClampNeg = 1 := ((congrFun (sA_g q_350 (ne0 r_639 o_q_661 (by decide))).2.2.2.1 _).trans kn_659)
  generalize (sA (sF g_660 h 44 (.ref q_635)) q_661 50 7) = g_686 at hT hI hM hE r_662 r_663 r_664 r_665 r_666 r_667 r_668 n_669 n_670 n_671 n_672 n_673 n_674 kn_675 kn_676 kn_677 kn_678 kn_679 kn_680 kn_681 kn_682 kn_683 kn_684 kn_685 hP zP zN
  refine W.widen (k := 36) (n := 1619) (Nat.le_of_ble_eq_true rfl) (Nat.le_of_ble_eq_true rfl) ?_
  refine t_put0 (ci := 7) (v := .ref q_661) hB hT (ro_ci r_662 rfl) (ro_n0 r_662 (by decide)) rfl 45 (by decide) k_790 (Or.inr ⟨hin, rfl⟩) rfl rfl dX7_init_443 (fun H locs hT => ?_)
  have hI : Inv (sF g_686 h 45 (.ref q_661)) := hI.sF (fk r_662 (show fsm _ _ ft from trivial))
  have hM : Sm md_k_Model g (sF g_686 h 45 (.ref q_661)) := hM.tr hE (Sm_sF (by rw [r_662]; rfl))
  have hE : Ex g (sF g_686 h 45 (.ref q_661)) := hE
  have hP : PF [45, 44, 43, 42, 41, 40, 39, 35, 33, 32, 31, 28, 27, 26, 25, 23, 20, 19, 18, 17, 16, 15, 14, 13, 12, 11, 10, 9, 8, 7, 6, 5, 4, 3, 2, 1, 60, 52, 51, 50, 49, 38, 37, 36, 34, 30, 29, 24, 22, 21, 0] (sF g_686 h 45 (.ref q_661)) h := hP.put (q_8_45 (⟨_, rfl, r_668, n_674⟩))
  have zP : ZC (sF g_686 h 45 (.ref q_661)) q_15 := zP
  have zN : ZC (sF g_686 h 45 (.ref q_661)) q_387 := zN
  refine lv_aload_n hx hb dX7_init_446 rfl (lv_at hl 0 rfl) ?_
  refine lv_bipush (v := 7) hx hb dX7_init_447 (by decide) ?_
  refine t_newi (N' := 7) hB hT 55 (by decide) k_101 (by decide) (by decide) (by decide) (Nat.le_of_ble_eq_true rfl) (Nat.le_of_ble_eq_true rfl) dX7_init_449 (fun q_687 H o_q_687 hT => ?_)
  have z_q_687 : g.1 q_687 = 0 := hE.z0 o_q_687
  have hI : Inv (sA (sF g_686 h 45 (.ref q_661)) q_687 55 7) := hI.newi o_q_687 (by decide) (fun _ => rfl) ⟨by decide, by decide⟩ (fun _ => trivial)
  have hM : Sm md_k_Model g (sA (sF g_686 h 45 (.ref q_661)) q_687 55 7) := hM.tr hE (Sm.push o_q_687 sA_g)
  have hE : Ex g (sA (sF g_686 h 45 (.ref q_661)) q_687 55 7) := hE.tr (Ex.push o_q_687 sA_g)
  have hP : PF [45, 44, 43, 42, 41, 40, 39, 35, 33, 32, 31, 28, 27, 26, 25, 23, 20, 19, 18, 17, 16, 15, 14, 13, 12, 11, 10, 9, 8, 7, 6, 5, 4, 3, 2, 1, 60, 52, 51, 50, 49, 38, 37, 36, 34, 30, 29, 24, 22, 21, 0] (sA (sF g_686 h 45 (.ref q_661)) q_687 55 7) h := hP.pu (Ex.push o_q_687 sA_g) (sA_g h (ne0 r_662 o_q_687 (by decide))).2.1
  have zP : ZC (sA (sF g_686 h 45 (.ref q_661)) q_687 55 7) q_15 := zP.pu (sA_g q_15 (ne0 r_664 o_q_687 (by decide))).2.2.2.1
  have zN : ZC (sA (sF g_686 h 45 (.ref q_661)) q_687 55 7) q_387 := zN.pu (sA_g q_387 (ne0 r_667 o_q_687 (by decide))).2.2.2.1
  have r_688 : (sA (sF g_686 h 45 (.ref q_661)) q_687 55 7).1 h = 18 := ((sA_g h (ne0 r_662 o_q_687 (by decide))).1.trans r_662)
  have r_689 : (sA (sF g_686 h 45 (.ref q_661)) q_687 55 7).1 q_8 = 71 := ((sA_g q_8 (ne0 r_663 o_q_687 (by decide))).1.trans r_663)
  have r_690 : (sA (sF g_686 h 45 (.ref q_661)) q_687 55 7).1 q_15 = 72 := ((sA_g q_15 (ne0 r_664 o_q_687 (by decide))).1.trans r_664)
  have r_691 : (sA (sF g_686 h 45 (.ref q_661)) q_687 55 7).1 q_350 = 83 := ((sA_g q_350 (ne0 r_665 o_q_687 (by decide))).1.trans r_665)
  have r_692 : (sA (sF g_686 h 45 (.ref q_661)) q_687 55 7).1 q_367 = 84 := ((sA_g q_367 (ne0 r_666 o_q_687 (by decide))).1.trans r_666)
  have r_693 : (sA (sF g_686 h 45 (.ref q_661)) q_687 55 7).1 q_387 = 85 := ((sA_g q_387 (ne0 r_667 o_q_687 (by decide))).1.trans r_667)
  have r_694 : (sA (sF g_686 h 45 (.ref q_661)) q_687 55 7).1 q_687 = 55 := sA_r
  have n_695 : (sA (sF g_686 h 45 (.ref q_661)) q_687 55 7).2.2.1 q_8 = 48 := ((sA_g q_8 (ne0 r_663 o_q_687 (by decide))).2.2.1.trans n_669)
  have n_696 : (sA (sF g_686 h 45 (.ref q_661)) q_687 55 7).2.2.1 q_15 = 48 := ((sA_g q_15 (ne0 r_664 o_q_687 (by decide))).2.2.1.trans n_670)
  have n_697 : (sA (sF g_686 h 45 (.ref q_661)) q_687 55 7).2.2.1 q_350 = 4 := ((sA_g q_350 (ne0 r_665 o_q_687 (by decide))).2.2.1.trans n_671)
  have n_698 : (sA (sF g_686 h 45 (.ref q_661)) q_687 55 7).2.2.1 q_367 = 8 := ((sA_g q_367 (ne0 r_666 o_q_687 (by decide))).2.2.1.trans n_672)
  have n_699 : (sA (sF g_686 h 45 (.ref q_661)) q_687 55 7).2.2.1 q_387 = 8 := ((sA_g q_387 (ne0 r_667 o_q_687 (by decide))).2.2.1.trans n_673)
  have n_700 : (sA (sF g_686 h 45 (.ref q_661)) q_687 55 7).2.2.1 q_687 = 7 := sA_n
  have kn_701 : (sA (sF g_686 h 45 (.ref q_661)) q_687 55 7).2.1 h 22 = .int 0 := ((congrFun (sA_g h (ne0 r_662 o_q_687 (by decide))).2.1 22).trans (sF_k kn_675 (by decide)))
  have kn_702 : (sA (sF g_686 h 45 (.ref q_661)) q_687 55 7).2.1 h 34 = .int 0 := ((congrFun (sA_g h (ne0 r_662 o_q_687 (by decide))).2.1 34).trans (sF_k kn_676 (by decide)))
  have kn_703 : (sA (sF g_686 h 45 (.ref q_661)) q_687 55 7).2.1 h 2 = .ref q_8 := ((congrFun (sA_g h (ne0 r_662 o_q_687 (by decide))).2.1 2).trans (sF_k kn_677 (by decide)))
  have kn_704 : (sA (sF g_686 h 45 (.ref q_661)) q_687 55 7).2.1 h 3 = .ref q_15 := ((congrFun (sA_g h (ne0 r_662 o_q_687 (by decide))).2.1 3).trans (sF_k kn_678 (by decide)))
  have kn_705 : (sA (sF g_686 h 45 (.ref q_661)) q_687 55 7).2.1 h 35 = .ref q_350 := ((congrFun (sA_g h (ne0 r_662 o_q_687 (by decide))).2.1 35).trans (sF_k kn_679 (by decide)))
  have kn_706 : (sA (sF g_686 h 45 (.ref q_661)) q_687 55 7).2.1 h 39 = .ref q_367 := ((congrFun (sA_g h (ne0 r_662 o_q_687 (by decide))).2.1 39).trans (sF_k kn_680 (by decide)))
  have kn_707 : (sA (sF g_686 h 45 (.ref q_661)) q_687 55 7).2.1 h 40 = .ref q_387 := ((congrFun (sA_g h (ne0 r_662 o_q_687 (by decide))).2.1 40).trans (sF_k kn_681 (by decide)))
  have kn_708 : (sA (sF g_686 h 45 (.ref q_661)) q_687 55 7).2.2.2.1 q_350 (0 : Int32).toNatClampNeg = 1 := ((congrFun (sA_g q_350 (ne0 r_665 o_q_687 (by decide))).2.2.2.1 _).trans kn_682)
  have kn_709 : (sA (sF g_686 h 45 (.ref q_661)) q_687 55 7).2.2.2.1 q_350 (1 : Int32).toNatClampNeg = 1 := ((congrFun (sA_g q_350 (ne0 r_665 o_q_687 (by decide))).2.2.2.1 _).trans kn_683)
  have kn_710 : (sA (sF g_686 h 45 (.ref q_661)) q_687 55 7).2.2.2.1 q_350 (2 : Int32).toNatClampNeg = 1 := ((congrFun (sA_g q_350 (ne0 r_665 o_q_687 (by decide))).2.2.2.1 _).trans kn_684)
  have kn_711 : (sA (sF g_686 h 45 (.ref q_661)) q_687 55 7).2.2.2.1 q_350 (3 : Int32).toNatClampNeg = 1 := ((congrFun (sA_g q_350 (ne0 r_665 o_q_687 (by decide))).2.2.2.1 _).trans kn_685)
  generalize (sA (sF g_686 h 45 (.ref q_661)) q_687 55 7) = g_712 at hT hI hM hE r_688 r_689 r_690 r_691 r_692 r_693 r_694 n_695 n_696 n_697 n_698 n_699 n_700 kn_701 kn_702 kn_703 kn_704 kn_705 kn_706 kn_707 kn_708 kn_709 kn_710 kn_711 hP zP zN
  refine W.widen (k := 37) (n := 1626) (Nat.le_of_ble_eq_true rfl) (Nat.le_of_ble_eq_true rfl) ?_
  refine t_put0 (ci := 7) (v := .ref q_687) hB hT (ro_ci r_688 rfl) (ro_n0 r_688 (by decide)) rfl 46 (by decide) k_791 (Or.inr ⟨hin, rfl⟩) rfl rfl dX7_init_451 (fun H locs hT => ?_)
  have hI : Inv (sF g_712 h 46 (.ref q_687)) := hI.sF (fk r_688 (show fsm _ _ ft from trivial))
  have hM : Sm md_k_Model g (sF g_712 h 46 (.ref q_687)) := hM.tr hE (Sm_sF (by rw [r_688]; rfl))
  have hE : Ex g (sF g_712 h 46 (.ref q_687)) := hE
  have hP : PF [46, 45, 44, 43, 42, 41, 40, 39, 35, 33, 32, 31, 28, 27, 26, 25, 23, 20, 19, 18, 17, 16, 15, 14, 13, 12, 11, 10, 9, 8, 7, 6, 5, 4, 3, 2, 1, 60, 52, 51, 50, 49, 38, 37, 36, 34, 30, 29, 24, 22, 21, 0] (sF g_712 h 46 (.ref q_687)) h := hP.put (q_8_46 (⟨_, rfl, r_694, n_700⟩))
  have zP : ZC (sF g_712 h 46 (.ref q_687)) q_15 := zP
  have zN : ZC (sF g_712 h 46 (.ref q_687)) q_387 := zN
  refine lv_aload_n hx hb dX7_init_454 rfl (lv_at hl 0 rfl) ?_
  refine lv_bipush (v := 7) hx hb dX7_init_455 (by decide) ?_
  refine t_newi (N' := 7) hB hT 58 (by decide) k_101 (by decide) (by decide) (by decide) (Nat.le_of_ble_eq_true rfl) (Nat.le_of_ble_eq_true rfl) dX7_init_457 (fun q_713 H o_q_713 hT => ?_)
  have z_q_713 : g.1 q_713 = 0 := hE.z0 o_q_713
  have hI : Inv (sA (sF g_712 h 46 (.ref q_687)) q_713 58 7) := hI.newi o_q_713 (by decide) (fun _ => rfl) ⟨by decide, by decide⟩ (fun _ => trivial)
  have hM : Sm md_k_Model g (sA (sF g_712 h 46 (.ref q_687)) q_713 58 7) := hM.tr hE (Sm.push o_q_713 sA_g)
  have hE : Ex g (sA (sF g_712 h 46 (.ref q_687)) q_713 58 7) := hE.tr (Ex.push o_q_713 sA_g)
  have hP : PF [46, 45, 44, 43, 42, 41, 40, 39, 35, 33, 32, 31, 28, 27, 26, 25, 23, 20, 19, 18, 17, 16, 15, 14, 13, 12, 11, 10, 9, 8, 7, 6, 5, 4, 3, 2, 1, 60, 52, 51, 50, 49, 38, 37, 36, 34, 30, 29, 24, 22, 21, 0] (sA (sF g_712 h 46 (.ref q_687)) q_713 58 7) h := hP.pu (Ex.push o_q_713 sA_g) (sA_g h (ne0 r_688 o_q_713 (by decide))).2.1
  have zP : ZC (sA (sF g_712 h 46 (.ref q_687)) q_713 58 7) q_15 := zP.pu (sA_g q_15 (ne0 r_690 o_q_713 (by decide))).2.2.2.1
  have zN : ZC (sA (sF g_712 h 46 (.ref q_687)) q_713 58 7) q_387 := zN.pu (sA_g q_387 (ne0 r_693 o_q_713 (by decide))).2.2.2.1
  have r_714 : (sA (sF g_712 h 46 (.ref q_687)) q_713 58 7).1 h = 18 := ((sA_g h (ne0 r_688 o_q_713 (by decide))).1.trans r_688)
  have r_715 : (sA (sF g_712 h 46 (.ref q_687)) q_713 58 7).1 q_8 = 71 := ((sA_g q_8 (ne0 r_689 o_q_713 (by decide))).1.trans r_689)
  have r_716 : (sA (sF g_712 h 46 (.ref q_687)) q_713 58 7).1 q_15 = 72 := ((sA_g q_15 (ne0 r_690 o_q_713 (by decide))).1.trans r_690)
  have r_717 : (sA (sF g_712 h 46 (.ref q_687)) q_713 58 7).1 q_350 = 83 := ((sA_g q_350 (ne0 r_691 o_q_713 (by decide))).1.trans r_691)
  have r_718 : (sA (sF g_712 h 46 (.ref q_687)) q_713 58 7).1 q_367 = 84 := ((sA_g q_367 (ne0 r_692 o_q_713 (by decide))).1.trans r_692)
  have r_719 : (sA (sF g_712 h 46 (.ref q_687)) q_713 58 7).1 q_387 = 85 := ((sA_g q_387 (ne0 r_693 o_q_713 (by decide))).1.trans r_693)
  have r_720 : (sA (sF g_712 h 46 (.ref q_687)) q_713 58 7).1 q_713 = 58 := sA_r
  have n_721 : (sA (sF g_712 h 46 (.ref q_687)) q_713 58 7).2.2.1 q_8 = 48 := ((sA_g q_8 (ne0 r_689 o_q_713 (by decide))).2.2.1.trans n_695)
  have n_722 : (sA (sF g_712 h 46 (.ref q_687)) q_713 58 7).2.2.1 q_15 = 48 := ((sA_g q_15 (ne0 r_690 o_q_713 (by decide))).2.2.1.trans n_696)
  have n_723 : (sA (sF g_712 h 46 (.ref q_687)) q_713 58 7).2.2.1 q_350 = 4 := ((sA_g q_350 (ne0 r_691 o_q_713 (by decide))).2.2.1.trans n_697)
  have n_724 : (sA (sF g_712 h 46 (.ref q_687)) q_713 58 7).2.2.1 q_367 = 8 := ((sA_g q_367 (ne0 r_692 o_q_713 (by decide))).2.2.1.trans n_698)
  have n_725 : (sA (sF g_712 h 46 (.ref q_687)) q_713 58 7).2.2.1 q_387 = 8 := ((sA_g q_387 (ne0 r_693 o_q_713 (by decide))).2.2.1.trans n_699)
  have n_726 : (sA (sF g_712 h 46 (.ref q_687)) q_713 58 7).2.2.1 q_713 = 7 := sA_n
  have kn_727 : (sA (sF g_712 h 46 (.ref q_687)) q_713 58 7).2.1 h 22 = .int 0 := ((congrFun (sA_g h (ne0 r_688 o_q_713 (by decide))).2.1 22).trans (sF_k kn_701 (by decide)))
  have kn_728 : (sA (sF g_712 h 46 (.ref q_687)) q_713 58 7).2.1 h 34 = .int 0 := ((congrFun (sA_g h (ne0 r_688 o_q_713 (by decide))).2.1 34).trans (sF_k kn_702 (by decide)))
  have kn_729 : (sA (sF g_712 h 46 (.ref q_687)) q_713 58 7).2.1 h 2 = .ref q_8 := ((congrFun (sA_g h (ne0 r_688 o_q_713 (by decide))).2.1 2).trans (sF_k kn_703 (by decide)))
  have kn_730 : (sA (sF g_712 h 46 (.ref q_687)) q_713 58 7).2.1 h 3 = .ref q_15 := ((congrFun (sA_g h (ne0 r_688 o_q_713 (by decide))).2.1 3).trans (sF_k kn_704 (by decide)))
  have kn_731 : (sA (sF g_712 h 46 (.ref q_687)) q_713 58 7).2.1 h 35 = .ref q_350 := ((congrFun (sA_g h (ne0 r_688 o_q_713 (by decide))).2.1 35).trans (sF_k kn_705 (by decide)))
  have kn_732 : (sA (sF g_712 h 46 (.ref q_687)) q_713 58 7).2.1 h 39 = .ref q_367 := ((congrFun (sA_g h (ne0 r_688 o_q_713 (by decide))).2.1 39).trans (sF_k kn_706 (by decide)))
  have kn_733 : (sA (sF g_712 h 46 (.ref q_687)) q_713 58 7).2.1 h 40 = .ref q_387 := ((congrFun (sA_g h (ne0 r_688 o_q_713 (by decide))).2.1 40).trans (sF_k kn_707 (by decide)))
  have kn_734 : (sA (sF g_712 h 46 (.ref q_687)) q_713 58 7).2.2.2.1 q_350 (0 : Int32).toNatClampNeg = 1 := ((congrFun (sA_g q_350 (ne0 r_691 o_q_713 (by decide))).2.2.2.1 _).trans kn_708)
  have kn_735 : (sA (sF g_712 h 46 (.ref q_687)) q_713 58 7).2.2.2.1 q_350 (1 : Int32).toNatClampNeg = 1 := ((congrFun (sA_g q_350 (ne0 r_691 o_q_713 (by decide))).2.2.2.1 _).trans kn_709)
  have kn_736 : (sA (sF g_712 h 46 (.ref q_687)) q_713 58 7).2.2.2.1 q_350 (2 : Int32).toNatClampNeg = 1 := ((congrFun (sA_g q_350 (ne0 r_691 o_q_713 (by decide))).2.2.2.1 _).trans kn_710)
  have kn_737 : (sA (sF g_712 h 46 (.ref q_687)) q_713 58 7).2.2.2.1 q_350 (3 : Int32).toNatClampNeg = 1 := ((congrFun (sA_g q_350 (ne0 r_691 o_q_713 (by decide))).2.2.2.1 _).trans kn_711)
  generalize (sA (sF g_712 h 46 (.ref q_687)) q_713 58 7) = g_738 at hT hI hM hE r_714 r_715 r_716 r_717 r_718 r_719 r_720 n_721 n_722 n_723 n_724 n_725 n_726 kn_727 kn_728 kn_729 kn_730 kn_731 kn_732 kn_733 kn_734 kn_735 kn_736 kn_737 hP zP zN
  refine W.widen (k := 38) (n := 1633) (Nat.le_of_ble_eq_true rfl) (Nat.le_of_ble_eq_true rfl) ?_
  refine t_put0 (ci := 7) (v := .ref q_713) hB hT (ro_ci r_714 rfl) (ro_n0 r_714 (by decide)) rfl 47 (by decide) k_792 (Or.inr ⟨hin, rfl⟩) rfl rfl dX7_init_459 (fun H locs hT => ?_)
  have hI : Inv (sF g_738 h 47 (.ref q_713)) := hI.sF (fk r_714 (show fsm _ _ ft from trivial))
  have hM : Sm md_k_Model g (sF g_738 h 47 (.ref q_713)) := hM.tr hE (Sm_sF (by rw [r_714]; rfl))
  have hE : Ex g (sF g_738 h 47 (.ref q_713)) := hE
  have hP : PF [47, 46, 45, 44, 43, 42, 41, 40, 39, 35, 33, 32, 31, 28, 27, 26, 25, 23, 20, 19, 18, 17, 16, 15, 14, 13, 12, 11, 10, 9, 8, 7, 6, 5, 4, 3, 2, 1, 60, 52, 51, 50, 49, 38, 37, 36, 34, 30, 29, 24, 22, 21, 0] (sF g_738 h 47 (.ref q_713)) h := hP.put (q_8_47 (⟨_, rfl, r_720, n_726⟩))
  have zP : ZC (sF g_738 h 47 (.ref q_713)) q_15 := zP
  have zN : ZC (sF g_738 h 47 (.ref q_713)) q_387 := zN
  refine lv_aload_n hx hb dX7_init_462 rfl (lv_at hl 0 rfl) ?_
  refine lv_bipush (v := 7) hx hb dX7_init_463 (by decide) ?_
  refine t_newz (N' := 7) hB hT k_947 (by decide) (by decide) (by decide) (Nat.le_of_ble_eq_true rfl) (Nat.le_of_ble_eq_true rfl) dX7_init_465 (fun q_739 H o_q_739 hT => ?_)
  have z_q_739 : g.1 q_739 = 0 := hE.z0 o_q_739
  have hI : Inv (sA (sF g_738 h 47 (.ref q_713)) q_739 40 7) := hI.newi o_q_739 (by decide) (fun _ => rfl) trivial (fun _ => trivial)
  have hM : Sm md_k_Model g (sA (sF g_738 h 47 (.ref q_713)) q_739 40 7) := hM.tr hE (Sm.push o_q_739 sA_g)
  have hE : Ex g (sA (sF g_738 h 47 (.ref q_713)) q_739 40 7) := hE.tr (Ex.push o_q_739 sA_g)
  have hP : PF [47, 46, 45, 44, 43, 42, 41, 40, 39, 35, 33, 32, 31, 28, 27, 26, 25, 23, 20, 19, 18, 17, 16, 15, 14, 13, 12, 11, 10, 9, 8, 7, 6, 5, 4, 3, 2, 1, 60, 52, 51, 50, 49, 38, 37, 36, 34, 30, 29, 24, 22, 21, 0] (sA (sF g_738 h 47 (.ref q_713)) q_739 40 7) h := hP.pu (Ex.push o_q_739 sA_g) (sA_g h (ne0 r_714 o_q_739 (by decide))).2.1
  have zP : ZC (sA (sF g_738 h 47 (.ref q_713)) q_739 40 7) q_15 := zP.pu (sA_g q_15 (ne0 r_716 o_q_739 (by decide))).2.2.2.1
  have zN : ZC (sA (sF g_738 h 47 (.ref q_713)) q_739 40 7) q_387 := zN.pu (sA_g q_387 (ne0 r_719 o_q_739 (by decide))).2.2.2.1
  have r_740 : (sA (sF g_738 h 47 (.ref q_713)) q_739 40 7).1 h = 18 := ((sA_g h (ne0 r_714 o_q_739 (by decide))).1.trans r_714)
  have r_741 : (sA (sF g_738 h 47 (.ref q_713)) q_739 40 7).1 q_8 = 71 := ((sA_g q_8 (ne0 r_715 o_q_739 (by decide))).1.trans r_715)
  have r_742 : (sA (sF g_738 h 47 (.ref q_713)) q_739 40 7).1 q_15 = 72 := ((sA_g q_15 (ne0 r_716 o_q_739 (by decide))).1.trans r_716)
  have r_743 : (sA (sF g_738 h 47 (.ref q_713)) q_739 40 7).1 q_350 = 83 := ((sA_g q_350 (ne0 r_717 o_q_739 (by decide))).1.trans r_717)
  have r_744 : (sA (sF g_738 h 47 (.ref q_713)) q_739 40 7).1 q_367 = 84 := ((sA_g q_367 (ne0 r_718 o_q_739 (by decide))).1.trans r_718)
  have r_745 : (sA (sF g_738 h 47 (.ref q_713)) q_739 40 7).1 q_387 = 85 := ((sA_g q_387 (ne0 r_719 o_q_739 (by decide))).1.trans r_719)
  have r_746 : (sA (sF g_738 h 47 (.ref q_713)) q_739 40 7).1 q_739 = 40 := sA_r
  have n_747 : (sA (sF g_738 h 47 (.ref q_713)) q_739 40 7).2.2.1 q_8 = 48 := ((sA_g q_8 (ne0 r_715 o_q_739 (by decide))).2.2.1.trans n_721)
  have n_748 : (sA (sF g_738 h 47 (.ref q_713)) q_739 40 7).2.2.1 q_15 = 48 := ((sA_g q_15 (ne0 r_716 o_q_739 (by decide))).2.2.1.trans n_722)
  have n_749 : (sA (sF g_738 h 47 (.ref q_713)) q_739 40 7).2.2.1 q_350 = 4 := ((sA_g q_350 (ne0 r_717 o_q_739 (by decide))).2.2.1.trans n_723)
  have n_750 : (sA (sF g_738 h 47 (.ref q_713)) q_739 40 7).2.2.1 q_367 = 8 := ((sA_g q_367 (ne0 r_718 o_q_739 (by decide))).2.2.1.trans n_724)
  have n_751 : (sA (sF g_738 h 47 (.ref q_713)) q_739 40 7).2.2.1 q_387 = 8 := ((sA_g q_387 (ne0 r_719 o_q_739 (by decide))).2.2.1.trans n_725)
  have n_752 : (sA (sF g_738 h 47 (.ref q_713)) q_739 40 7).2.2.1 q_739 = 7 := sA_n
  have kn_753 : (sA (sF g_738 h 47 (.ref q_713)) q_739 40 7).2.1 h 22 = .int 0 := ((congrFun (sA_g h (ne0 r_714 o_q_739 (by decide))).2.1 22).trans (sF_k kn_727 (by decide)))
  have kn_754 : (sA (sF g_738 h 47 (.ref q_713)) q_739 40 7).2.1 h 34 = .int 0 := ((congrFun (sA_g h (ne0 r_714 o_q_739 (by decide))).2.1 34).trans (sF_k kn_728 (by decide)))
  have kn_755 : (sA (sF g_738 h 47 (.ref q_713)) q_739 40 7).2.1 h 2 = .ref q_8 := ((congrFun (sA_g h (ne0 r_714 o_q_739 (by decide))).2.1 2).trans (sF_k kn_729 (by decide)))
  have kn_756 : (sA (sF g_738 h 47 (.ref q_713)) q_739 40 7).2.1 h 3 = .ref q_15 := ((congrFun (sA_g h (ne0 r_714 o_q_739 (by decide))).2.1 3).trans (sF_k kn_730 (by decide)))
  have kn_757 : (sA (sF g_738 h 47 (.ref q_713)) q_739 40 7).2.1 h 35 = .ref q_350 := ((congrFun (sA_g h (ne0 r_714 o_q_739 (by decide))).2.1 35).trans (sF_k kn_731 (by decide)))
  have kn_758 : (sA (sF g_738 h 47 (.ref q_713)) q_739 40 7).2.1 h 39 = .ref q_367 := ((congrFun (sA_g h (ne0 r_714 o_q_739 (by decide))).2.1 39).trans (sF_k kn_732 (by decide)))
  have kn_759 : (sA (sF g_738 h 47 (.ref q_713)) q_739 40 7).2.1 h 40 = .ref q_387 := ((congrFun (sA_g h (ne0 r_714 o_q_739 (by decide))).2.1 40).trans (sF_k kn_733 (by decide)))
  have kn_760 : (sA (sF g_738 h 47 (.ref q_713)) q_739 40 7).2.2.2.1 q_350 (0 : Int32).toNatClampNeg = 1 := ((congrFun (sA_g q_350 (ne0 r_717 o_q_739 (by decide))).2.2.2.1 _).trans kn_734)
  have kn_761 : (sA (sF g_738 h 47 (.ref q_713)) q_739 40 7).2.2.2.1 q_350 (1 : Int32).toNatClampNeg = 1 := ((congrFun (sA_g q_350 (ne0 r_717 o_q_739 (by decide))).2.2.2.1 _).trans kn_735)
  have kn_762 : (sA (sF g_738 h 47 (.ref q_713)) q_739 40 7).2.2.2.1 q_350 (2 : Int32).toNatClampNeg = 1 := ((congrFun (sA_g q_350 (ne0 r_717 o_q_739 (by decide))).2.2.2.1 _).trans kn_736)
  have kn_763 : (sA (sF g_738 h 47 (.ref q_713)) q_739 40 7).2.2.2.1 q_350 (3 : Int32).toNatClampNeg = 1 := ((congrFun (sA_g q_350 (ne0 r_717 o_q_739 (by decide))).2.2.2.1 _).trans kn_737)
  generalize (sA (sF g_738 h 47 (.ref q_713)) q_739 40 7) = g_764 at hT hI hM hE r_740 r_741 r_742 r_743 r_744 r_745 r_746 n_747 n_748 n_749 n_750 n_751 n_752 kn_753 kn_754 kn_755 kn_756 kn_757 kn_758 kn_759 kn_760 kn_761 kn_762 kn_763 hP zP zN
  refine W.widen (k := 39) (n := 1640) (Nat.le_of_ble_eq_true rfl) (Nat.le_of_ble_eq_true rfl) ?_
  refine t_put0 (ci := 7) (v := .ref q_739) hB hT (ro_ci r_740 rfl) (ro_n0 r_740 (by decide)) rfl 48 (by decide) k_793 (Or.inr ⟨hin, rfl⟩) rfl rfl dX7_init_467 (fun H locs hT => ?_)
  have hI : Inv (sF g_764 h 48 (.ref q_739)) := hI.sF (fk r_740 (show fsm _ _ ft from trivial))
  have hM : Sm md_k_Model g (sF g_764 h 48 (.ref q_739)) := hM.tr hE (Sm_sF (by rw [r_740]; rfl))
  have hE : Ex g (sF g_764 h 48 (.ref q_739)) := hE
  have hP : PF [48, 47, 46, 45, 44, 43, 42, 41, 40, 39, 35, 33, 32, 31, 28, 27, 26, 25, 23, 20, 19, 18, 17, 16, 15, 14, 13, 12, 11, 10, 9, 8, 7, 6, 5, 4, 3, 2, 1, 60, 52, 51, 50, 49, 38, 37, 36, 34, 30, 29, 24, 22, 21, 0] (sF g_764 h 48 (.ref q_739)) h := hP.put (q_8_48 (⟨_, rfl, r_746, n_752⟩))
  have zP : ZC (sF g_764 h 48 (.ref q_739)) q_15 := zP
  have zN : ZC (sF g_764 h 48 (.ref q_739)) q_387 := zN
  refine lv_aload_n hx hb dX7_init_470 rfl (lv_at hl 0 rfl) ?_
  refine lv_sipush (v := 1200) hx hb dX7_init_471 (by decide) ?_
  refine t_newi (N' := 1200) hB hT 56 (by decide) k_101 (by decide) (by decide) (by decide) (Nat.le_of_ble_eq_true rfl) (Nat.le_of_ble_eq_true rfl) dX7_init_474 (fun q_765 H o_q_765 hT => ?_)
  have z_q_765 : g.1 q_765 = 0 := hE.z0 o_q_765
  have hI : Inv (sA (sF g_764 h 48 (.ref q_739)) q_765 56 1200) := hI.newi o_q_765 (by decide) (fun _ => rfl) ⟨by decide, by decide⟩ (fun _ => trivial)
  have hM : Sm md_k_Model g (sA (sF g_764 h 48 (.ref q_739)) q_765 56 1200) := hM.tr hE (Sm.push o_q_765 sA_g)
  have hE : Ex g (sA (sF g_764 h 48 (.ref q_739)) q_765 56 1200) := hE.tr (Ex.push o_q_765 sA_g)
  have hP : PF [48, 47, 46, 45, 44, 43, 42, 41, 40, 39, 35, 33, 32, 31, 28, 27, 26, 25, 23, 20, 19, 18, 17, 16, 15, 14, 13, 12, 11, 10, 9, 8, 7, 6, 5, 4, 3, 2, 1, 60, 52, 51, 50, 49, 38, 37, 36, 34, 30, 29, 24, 22, 21, 0] (sA (sF g_764 h 48 (.ref q_739)) q_765 56 1200) h := hP.pu (Ex.push o_q_765 sA_g) (sA_g h (ne0 r_740 o_q_765 (by decide))).2.1
  have zP : ZC (sA (sF g_764 h 48 (.ref q_739)) q_765 56 1200) q_15 := zP.pu (sA_g q_15 (ne0 r_742 o_q_765 (by decide))).2.2.2.1
  have zN : ZC (sA (sF g_764 h 48 (.ref q_739)) q_765 56 1200) q_387 := zN.pu (sA_g q_387 (ne0 r_745 o_q_765 (by decide))).2.2.2.1
  have r_766 : (sA (sF g_764 h 48 (.ref q_739)) q_765 56 1200).1 h = 18 := ((sA_g h (ne0 r_740 o_q_765 (by decide))).1.trans r_740)
  have r_767 : (sA (sF g_764 h 48 (.ref q_739)) q_765 56 1200).1 q_8 = 71 := ((sA_g q_8 (ne0 r_741 o_q_765 (by decide))).1.trans r_741)
  have r_768 : (sA (sF g_764 h 48 (.ref q_739)) q_765 56 1200).1 q_15 = 72 := ((sA_g q_15 (ne0 r_742 o_q_765 (by decide))).1.trans r_742)
  have r_769 : (sA (sF g_764 h 48 (.ref q_739)) q_765 56 1200).1 q_350 = 83 := ((sA_g q_350 (ne0 r_743 o_q_765 (by decide))).1.trans r_743)
  have r_770 : (sA (sF g_764 h 48 (.ref q_739)) q_765 56 1200).1 q_367 = 84 := ((sA_g q_367 (ne0 r_744 o_q_765 (by decide))).1.trans r_744)
  have r_771 : (sA (sF g_764 h 48 (.ref q_739)) q_765 56 1200).1 q_387 = 85 := ((sA_g q_387 (ne0 r_745 o_q_765 (by decide))).1.trans r_745)
  have r_772 : (sA (sF g_764 h 48 (.ref q_739)) q_765 56 1200).1 q_765 = 56 := sA_r
  have n_773 : (sA (sF g_764 h 48 (.ref q_739)) q_765 56 1200).2.2.1 q_8 = 48 := ((sA_g q_8 (ne0 r_741 o_q_765 (by decide))).2.2.1.trans n_747)
  have n_774 : (sA (sF g_764 h 48 (.ref q_739)) q_765 56 1200).2.2.1 q_15 = 48 := ((sA_g q_15 (ne0 r_742 o_q_765 (by decide))).2.2.1.trans n_748)
  have n_775 : (sA (sF g_764 h 48 (.ref q_739)) q_765 56 1200).2.2.1 q_350 = 4 := ((sA_g q_350 (ne0 r_743 o_q_765 (by decide))).2.2.1.trans n_749)
  have n_776 : (sA (sF g_764 h 48 (.ref q_739)) q_765 56 1200).2.2.1 q_367 = 8 := ((sA_g q_367 (ne0 r_744 o_q_765 (by decide))).2.2.1.trans n_750)
  have n_777 : (sA (sF g_764 h 48 (.ref q_739)) q_765 56 1200).2.2.1 q_387 = 8 := ((sA_g q_387 (ne0 r_745 o_q_765 (by decide))).2.2.1.trans n_751)
  have n_778 : (sA (sF g_764 h 48 (.ref q_739)) q_765 56 1200).2.2.1 q_765 = 1200 := sA_n
  have kn_779 : (sA (sF g_764 h 48 (.ref q_739)) q_765 56 1200).2.1 h 22 = .int 0 := ((congrFun (sA_g h (ne0 r_740 o_q_765 (by decide))).2.1 22).trans (sF_k kn_753 (by decide)))
  have kn_780 : (sA (sF g_764 h 48 (.ref q_739)) q_765 56 1200).2.1 h 34 = .int 0 := ((congrFun (sA_g h (ne0 r_740 o_q_765 (by decide))).2.1 34).trans (sF_k kn_754 (by decide)))
  have kn_781 : (sA (sF g_764 h 48 (.ref q_739)) q_765 56 1200).2.1 h 2 = .ref q_8 := ((congrFun (sA_g h (ne0 r_740 o_q_765 (by decide))).2.1 2).trans (sF_k kn_755 (by decide)))
  have kn_782 : (sA (sF g_764 h 48 (.ref q_739)) q_765 56 1200).2.1 h 3 = .ref q_15 := ((congrFun (sA_g h (ne0 r_740 o_q_765 (by decide))).2.1 3).trans (sF_k kn_756 (by decide)))
  have kn_783 : (sA (sF g_764 h 48 (.ref q_739)) q_765 56 1200).2.1 h 35 = .ref q_350 := ((congrFun (sA_g h (ne0 r_740 o_q_765 (by decide))).2.1 35).trans (sF_k kn_757 (by decide)))
  have kn_784 : (sA (sF g_764 h 48 (.ref q_739)) q_765 56 1200).2.1 h 39 = .ref q_367 := ((congrFun (sA_g h (ne0 r_740 o_q_765 (by decide))).2.1 39).trans (sF_k kn_758 (by decide)))
  have kn_785 : (sA (sF g_764 h 48 (.ref q_739)) q_765 56 1200).2.1 h 40 = .ref q_387 := ((congrFun (sA_g h (ne0 r_740 o_q_765 (by decide))).2.1 40).trans (sF_k kn_759 (by decide)))
  have kn_786 : (sA (sF g_764 h 48 (.ref q_739)) q_765 56 1200).2.2.2.1 q_350 (0 : Int32).toNatClampNeg = 1 := ((congrFun (sA_g q_350 (ne0 r_743 o_q_765 (by decide))).2.2.2.1 _).trans kn_760)
  have kn_787 : (sA (sF g_764 h 48 (.ref q_739)) q_765 56 1200).2.2.2.1 q_350 (1 : Int32).toNatClampNeg = 1 := ((congrFun (sA_g q_350 (ne0 r_743 o_q_765 (by decide))).2.2.2.1 _).trans kn_761)
  have kn_788 : (sA (sF g_764 h 48 (.ref q_739)) q_765 56 1200).2.2.2.1 q_350 (2 : Int32).toNatClampNeg = 1 := ((congrFun (sA_g q_350 (ne0 r_743 o_q_765 (by decide))).2.2.2.1 _).trans kn_762)
  have kn_789 : (sA (sF g_764 h 48 (.ref q_739)) q_765 56 1200).2.2.2.1 q_350 (3 : Int32).toNatClampNeg = 1 := ((congrFun (sA_g q_350 (ne0 r_743 o_q_765 (by decide))).2.2.2.1 _).trans kn_763)
  generalize (sA (sF g_764 h 48 (.ref q_739)) q_765 56 1200) = g_790 at hT hI hM hE r_766 r_767 r_768 r_769 r_770 r_771 r_772 n_773 n_774 n_775 n_776 n_777 n_778 kn_779 kn_780 kn_781 kn_782 kn_783 kn_784 kn_785 kn_786 kn_787 kn_788 kn_789 hP zP zN
  refine W.widen (k := 40) (n := 2840) (Nat.le_of_ble_eq_true rfl) (Nat.le_of_ble_eq_true rfl) ?_
  refine t_put0 (ci := 7) (v := .ref q_765) hB hT (ro_ci r_766 rfl) (ro_n0 r_766 (by decide)) rfl 53 (by decide) k_798 (Or.inr ⟨hin, rfl⟩) rfl rfl dX7_init_476 (fun H locs hT => ?_)
  have hI : Inv (sF g_790 h 53 (.ref q_765)) := hI.sF (fk r_766 (show fsm _ _ ft from trivial))
  have hM : Sm md_k_Model g (sF g_790 h 53 (.ref q_765)) := hM.tr hE (Sm_sF (by rw [r_766]; rfl))
  have hE : Ex g (sF g_790 h 53 (.ref q_765)) := hE
  have hP : PF [53, 48, 47, 46, 45, 44, 43, 42, 41, 40, 39, 35, 33, 32, 31, 28, 27, 26, 25, 23, 20, 19, 18, 17, 16, 15, 14, 13, 12, 11, 10, 9, 8, 7, 6, 5, 4, 3, 2, 1, 60, 52, 51, 50, 49, 38, 37, 36, 34, 30, 29, 24, 22, 21, 0] (sF g_790 h 53 (.ref q_765)) h := hP.put (q_8_53 (⟨_, rfl, r_772, n_778⟩))
  have zP : ZC (sF g_790 h 53 (.ref q_765)) q_15 := zP
  have zN : ZC (sF g_790 h 53 (.ref q_765)) q_387 := zN
  refine lv_aload_n hx hb dX7_init_479 rfl (lv_at hl 0 rfl) ?_
  refine lv_bipush (v := 48) hx hb dX7_init_480 (by decide) ?_
  refine t_newi (N' := 48) hB hT 50 (by decide) k_101 (by decide) (by decide) (by decide) (Nat.le_of_ble_eq_true rfl) (Nat.le_of_ble_eq_true rfl) dX7_init_482 (fun q_791 H o_q_791 hT => ?_)
  have z_q_791 : g.1 q_791 = 0 := hE.z0 o_q_791
  have hI : Inv (sA (sF g_790 h 53 (.ref q_765)) q_791 50 48) := hI.newi o_q_791 (by decide) (fun _ => rfl) trivial (fun _ => trivial)
  have hM : Sm md_k_Model g (sA (sF g_790 h 53 (.ref q_765)) q_791 50 48) := hM.tr hE (Sm.push o_q_791 sA_g)
  have hE : Ex g (sA (sF g_790 h 53 (.ref q_765)) q_791 50 48) := hE.tr (Ex.push o_q_791 sA_g)
  have hP : PF [53, 48, 47, 46, 45, 44, 43, 42, 41, 40, 39, 35, 33, 32, 31, 28, 27, 26, 25, 23, 20, 19, 18, 17, 16, 15, 14, 13, 12, 11, 10, 9, 8, 7, 6, 5, 4, 3, 2, 1, 60, 52, 51, 50, 49, 38, 37, 36, 34, 30, 29, 24, 22, 21, 0] (sA (sF g_790 h 53 (.ref q_765)) q_791 50 48) h := hP.pu (Ex.push o_q_791 sA_g) (sA_g h (ne0 r_766 o_q_791 (by decide))).2.1
  have zP : ZC (sA (sF g_790 h 53 (.ref q_765)) q_791 50 48) q_15 := zP.pu (sA_g q_15 (ne0 r_768 o_q_791 (by decide))).2.2.2.1
  have zN : ZC (sA (sF g_790 h 53 (.ref q_765)) q_791 50 48) q_387 := zN.pu (sA_g q_387 (ne0 r_771 o_q_791 (by decide))).2.2.2.1
  have r_792 : (sA (sF g_790 h 53 (.ref q_765)) q_791 50 48).1 h = 18 := ((sA_g h (ne0 r_766 o_q_791 (by decide))).1.trans r_766)
  have r_793 : (sA (sF g_790 h 53 (.ref q_765)) q_791 50 48).1 q_8 = 71 := ((sA_g q_8 (ne0 r_767 o_q_791 (by decide))).1.trans r_767)
  have r_794 : (sA (sF g_790 h 53 (.ref q_765)) q_791 50 48).1 q_15 = 72 := ((sA_g q_15 (ne0 r_768 o_q_791 (by decide))).1.trans r_768)
  have r_795 : (sA (sF g_790 h 53 (.ref q_765)) q_791 50 48).1 q_350 = 83 := ((sA_g q_350 (ne0 r_769 o_q_791 (by decide))).1.trans r_769)
  have r_796 : (sA (sF g_790 h 53 (.ref q_765)) q_791 50 48).1 q_367 = 84 := ((sA_g q_367 (ne0 r_770 o_q_791 (by decide))).1.trans r_770)
  have r_797 : (sA (sF g_790 h 53 (.ref q_765)) q_791 50 48).1 q_387 = 85 := ((sA_g q_387 (ne0 r_771 o_q_791 (by decide))).1.trans r_771)
  have r_798 : (sA (sF g_790 h 53 (.ref q_765)) q_791 50 48).1 q_791 = 50 := sA_r
  have n_799 : (sA (sF g_790 h 53 (.ref q_765)) q_791 50 48).2.2.1 q_8 = 48 := ((sA_g q_8 (ne0 r_767 o_q_791 (by decide))).2.2.1.trans n_773)
  have n_800 : (sA (sF g_790 h 53 (.ref q_765)) q_791 50 48).2.2.1 q_15 = 48 := ((sA_g q_15 (ne0 r_768 o_q_791 (by decide))).2.2.1.trans n_774)
  have n_801 : (sA (sF g_790 h 53 (.ref q_765)) q_791 50 48).2.2.1 q_350 = 4 := ((sA_g q_350 (ne0 r_769 o_q_791 (by decide))).2.2.1.trans n_775)
  have n_802 : (sA (sF g_790 h 53 (.ref q_765)) q_791 50 48).2.2.1 q_367 = 8 := ((sA_g q_367 (ne0 r_770 o_q_791 (by decide))).2.2.1.trans n_776)
  have n_803 : (sA (sF g_790 h 53 (.ref q_765)) q_791 50 48).2.2.1 q_387 = 8 := ((sA_g q_387 (ne0 r_771 o_q_791 (by decide))).2.2.1.trans n_777)
  have n_804 : (sA (sF g_790 h 53 (.ref q_765)) q_791 50 48).2.2.1 q_791 = 48 := sA_n
  have kn_805 : (sA (sF g_790 h 53 (.ref q_765)) q_791 50 48).2.1 h 22 = .int 0 := ((congrFun (sA_g h (ne0 r_766 o_q_791 (by decide))).2.1 22).trans (sF_k kn_779 (by decide)))
  have kn_806 : (sA (sF g_790 h 53 (.ref q_765)) q_791 50 48).2.1 h 34 = .int 0 := ((congrFun (sA_g h (ne0 r_766 o_q_791 (by decide))).2.1 34).trans (sF_k kn_780 (by decide)))
  have kn_807 : (sA (sF g_790 h 53 (.ref q_765)) q_791 50 48).2.1 h 2 = .ref q_8 := ((congrFun (sA_g h (ne0 r_766 o_q_791 (by decide))).2.1 2).trans (sF_k kn_781 (by decide)))
  have kn_808 : (sA (sF g_790 h 53 (.ref q_765)) q_791 50 48).2.1 h 3 = .ref q_15 := ((congrFun (sA_g h (ne0 r_766 o_q_791 (by decide))).2.1 3).trans (sF_k kn_782 (by decide)))
  have kn_809 : (sA (sF g_790 h 53 (.ref q_765)) q_791 50 48).2.1 h 35 = .ref q_350 := ((congrFun (sA_g h (ne0 r_766 o_q_791 (by decide))).2.1 35).trans (sF_k kn_783 (by decide)))
  have kn_810 : (sA (sF g_790 h 53 (.ref q_765)) q_791 50 48).2.1 h 39 = .ref q_367 := ((congrFun (sA_g h (ne0 r_766 o_q_791 (by decide))).2.1 39).trans (sF_k kn_784 (by decide)))
  have kn_811 : (sA (sF g_790 h 53 (.ref q_765)) q_791 50 48).2.1 h 40 = .ref q_387 := ((congrFun (sA_g h (ne0 r_766 o_q_791 (by decide))).2.1 40).trans (sF_k kn_785 (by decide)))
  have kn_812 : (sA (sF g_790 h 53 (.ref q_765)) q_791 50 48).2.2.2.1 q_350 (0 : Int32).toNatClampNeg = 1 := ((congrFun (sA_g q_350 (ne0 r_769 o_q_791 (by decide))).2.2.2.1 _).trans kn_786)
  have kn_813 : (sA (sF g_790 h 53 (.ref q_765)) q_791 50 48).2.2.2.1 q_350 (1 : Int32).toNatClampNeg = 1 := ((congrFun (sA_g q_350 (ne0 r_769 o_q_791 (by decide))).2.2.2.1 _).trans kn_787)
  have kn_814 : (sA (sF g_790 h 53 (.ref q_765)) q_791 50 48).2.2.2.1 q_350 (2 : Int32).toNatClampNeg = 1 := ((congrFun (sA_g q_350 (ne0 r_769 o_q_791 (by decide))).2.2.2.1 _).trans kn_788)
  have kn_815 : (sA (sF g_790 h 53 (.ref q_765)) q_791 50 48).2.2.2.1 q_350 (3 : Int32).toNatClampNeg = 1 := ((congrFun (sA_g q_350 (ne0 r_769 o_q_791 (by decide))).2.2.2.1 _).trans kn_789)
  generalize (sA (sF g_790 h 53 (.ref q_765)) q_791 50 48) = g_816 at hT hI hM hE r_792 r_793 r_794 r_795 r_796 r_797 r_798 n_799 n_800 n_801 n_802 n_803 n_804 kn_805 kn_806 kn_807 kn_808 kn_809 kn_810 kn_811 kn_812 kn_813 kn_814 kn_815 hP zP zN
  refine W.widen (k := 41) (n := 2888) (Nat.le_of_ble_eq_true rfl) (Nat.le_of_ble_eq_true rfl) ?_
  refine t_put0 (ci := 7) (v := .ref q_791) hB hT (ro_ci r_792 rfl) (ro_n0 r_792 (by decide)) rfl 54 (by decide) k_799 (Or.inr ⟨hin, rfl⟩) rfl rfl dX7_init_484 (fun H locs hT => ?_)
  have hI : Inv (sF g_816 h 54 (.ref q_791)) := hI.sF (fk r_792 (show fsm _ _ ft from trivial))
  have hM : Sm md_k_Model g (sF g_816 h 54 (.ref q_791)) := hM.tr hE (Sm_sF (by rw [r_792]; rfl))
  have hE : Ex g (sF g_816 h 54 (.ref q_791)) := hE
  have hP : PF [54, 53, 48, 47, 46, 45, 44, 43, 42, 41, 40, 39, 35, 33, 32, 31, 28, 27, 26, 25, 23, 20, 19, 18, 17, 16, 15, 14, 13, 12, 11, 10, 9, 8, 7, 6, 5, 4, 3, 2, 1, 60, 52, 51, 50, 49, 38, 37, 36, 34, 30, 29, 24, 22, 21, 0] (sF g_816 h 54 (.ref q_791)) h := hP.put (q_8_54 (⟨_, rfl, r_798, n_804⟩))
  have zP : ZC (sF g_816 h 54 (.ref q_791)) q_15 := zP
  have zN : ZC (sF g_816 h 54 (.ref q_791)) q_387 := zN
  refine lv_aload_n hx hb dX7_init_487 rfl (lv_at hl 0 rfl) ?_
  refine lv_bipush (v := 48) hx hb dX7_init_488 (by decide) ?_
  refine t_newi (N' := 48) hB hT 50 (by decide) k_101 (by decide) (by decide) (by decide) (Nat.le_of_ble_eq_true rfl) (Nat.le_of_ble_eq_true rfl) dX7_init_490 (fun q_817 H o_q_817 hT => ?_)
  have z_q_817 : g.1 q_817 = 0 := hE.z0 o_q_817
  have hI : Inv (sA (sF g_816 h 54 (.ref q_791)) q_817 50 48) := hI.newi o_q_817 (by decide) (fun _ => rfl) trivial (fun _ => trivial)
  have hM : Sm md_k_Model g (sA (sF g_816 h 54 (.ref q_791)) q_817 50 48) := hM.tr hE (Sm.push o_q_817 sA_g)
  have hE : Ex g (sA (sF g_816 h 54 (.ref q_791)) q_817 50 48) := hE.tr (Ex.push o_q_817 sA_g)
  have hP : PF [54, 53, 48, 47, 46, 45, 44, 43, 42, 41, 40, 39, 35, 33, 32, 31, 28, 27, 26, 25, 23, 20, 19, 18, 17, 16, 15, 14, 13, 12, 11, 10, 9, 8, 7, 6, 5, 4, 3, 2, 1, 60, 52, 51, 50, 49, 38, 37, 36, 34, 30, 29, 24, 22, 21, 0] (sA (sF g_816 h 54 (.ref q_791)) q_817 50 48) h := hP.pu (Ex.push o_q_817 sA_g) (sA_g h (ne0 r_792 o_q_817 (by decide))).2.1
  have zP : ZC (sA (sF g_816 h 54 (.ref q_791)) q_817 50 48) q_15 := zP.pu (sA_g q_15 (ne0 r_794 o_q_817 (by decide))).2.2.2.1
  have zN : ZC (sA (sF g_816 h 54 (.ref q_791)) q_817 50 48) q_387 := zN.pu (sA_g q_387 (ne0 r_797 o_q_817 (by decide))).2.2.2.1
  have r_818 : (sA (sF g_816 h 54 (.ref q_791)) q_817 50 48).1 h = 18 := ((sA_g h (ne0 r_792 o_q_817 (by decide))).1.trans r_792)
  have r_819 : (sA (sF g_816 h 54 (.ref q_791)) q_817 50 48).1 q_8 = 71 := ((sA_g q_8 (ne0 r_793 o_q_817 (by decide))).1.trans r_793)
  have r_820 : (sA (sF g_816 h 54 (.ref q_791)) q_817 50 48).1 q_15 = 72 := ((sA_g q_15 (ne0 r_794 o_q_817 (by decide))).1.trans r_794)
  have r_821 : (sA (sF g_816 h 54 (.ref q_791)) q_817 50 48).1 q_350 = 83 := ((sA_g q_350 (ne0 r_795 o_q_817 (by decide))).1.trans r_795)
  have r_822 : (sA (sF g_816 h 54 (.ref q_791)) q_817 50 48).1 q_367 = 84 := ((sA_g q_367 (ne0 r_796 o_q_817 (by decide))).1.trans r_796)
  have r_823 : (sA (sF g_816 h 54 (.ref q_791)) q_817 50 48).1 q_387 = 85 := ((sA_g q_387 (ne0 r_797 o_q_817 (by decide))).1.trans r_797)
  have r_824 : (sA (sF g_816 h 54 (.ref q_791)) q_817 50 48).1 q_817 = 50 := sA_r
  have n_825 : (sA (sF g_816 h 54 (.ref q_791)) q_817 50 48).2.2.1 q_8 = 48 := ((sA_g q_8 (ne0 r_793 o_q_817 (by decide))).2.2.1.trans n_799)
  have n_826 : (sA (sF g_816 h 54 (.ref q_791)) q_817 50 48).2.2.1 q_15 = 48 := ((sA_g q_15 (ne0 r_794 o_q_817 (by decide))).2.2.1.trans n_800)
  have n_827 : (sA (sF g_816 h 54 (.ref q_791)) q_817 50 48).2.2.1 q_350 = 4 := ((sA_g q_350 (ne0 r_795 o_q_817 (by decide))).2.2.1.trans n_801)
  have n_828 : (sA (sF g_816 h 54 (.ref q_791)) q_817 50 48).2.2.1 q_367 = 8 := ((sA_g q_367 (ne0 r_796 o_q_817 (by decide))).2.2.1.trans n_802)
  have n_829 : (sA (sF g_816 h 54 (.ref q_791)) q_817 50 48).2.2.1 q_387 = 8 := ((sA_g q_387 (ne0 r_797 o_q_817 (by decide))).2.2.1.trans n_803)
  have n_830 : (sA (sF g_816 h 54 (.ref q_791)) q_817 50 48).2.2.1 q_817 = 48 := sA_n
  have kn_831 : (sA (sF g_816 h 54 (.ref q_791)) q_817 50 48).2.1 h 22 = .int 0 := ((congrFun (sA_g h (ne0 r_792 o_q_817 (by decide))).2.1 22).trans (sF_k kn_805 (by decide)))
  have kn_832 : (sA (sF g_816 h 54 (.ref q_791)) q_817 50 48).2.1 h 34 = .int 0 := ((congrFun (sA_g h (ne0 r_792 o_q_817 (by decide))).2.1 34).trans (sF_k kn_806 (by decide)))
  have kn_833 : (sA (sF g_816 h 54 (.ref q_791)) q_817 50 48).2.1 h 2 = .ref q_8 := ((congrFun (sA_g h (ne0 r_792 o_q_817 (by decide))).2.1 2).trans (sF_k kn_807 (by decide)))
  have kn_834 : (sA (sF g_816 h 54 (.ref q_791)) q_817 50 48).2.1 h 3 = .ref q_15 := ((congrFun (sA_g h (ne0 r_792 o_q_817 (by decide))).2.1 3).trans (sF_k kn_808 (by decide)))
  have kn_835 : (sA (sF g_816 h 54 (.ref q_791)) q_817 50 48).2.1 h 35 = .ref q_350 := ((congrFun (sA_g h (ne0 r_792 o_q_817 (by decide))).2.1 35).trans (sF_k kn_809 (by decide)))
  have kn_836 : (sA (sF g_816 h 54 (.ref q_791)) q_817 50 48).2.1 h 39 = .ref q_367 := ((congrFun (sA_g h (ne0 r_792 o_q_817 (by decide))).2.1 39).trans (sF_k kn_810 (by decide)))
  have kn_837 : (sA (sF g_816 h 54 (.ref q_791)) q_817 50 48).2.1 h 40 = .ref q_387 := ((congrFun (sA_g h (ne0 r_792 o_q_817 (by decide))).2.1 40).trans (sF_k kn_811 (by decide)))
  have kn_838 : (sA (sF g_816 h 54 (.ref q_791)) q_817 50 48).2.2.2.1 q_350 (0 : Int32).toNatClampNeg = 1 := ((congrFun (sA_g q_350 (ne0 r_795 o_q_817 (by decide))).2.2.2.1 _).trans kn_812)
  have kn_839 : (sA (sF g_816 h 54 (.ref q_791)) q_817 50 48).2.2.2.1 q_350 (1 : Int32).toNatClampNeg = 1 := ((congrFun (sA_g q_350 (ne0 r_795 o_q_817 (by decide))).2.2.2.1 _).trans kn_813)
  have kn_840 : (sA (sF g_816 h 54 (.ref q_791)) q_817 50 48).2.2.2.1 q_350 (2 : Int32).toNatClampNeg = 1 := ((congrFun (sA_g q_350 (ne0 r_795 o_q_817 (by decide))).2.2.2.1 _).trans kn_814)
  have kn_841 : (sA (sF g_816 h 54 (.ref q_791)) q_817 50 48).2.2.2.1 q_350 (3 : Int32).toNatClampNeg = 1 := ((congrFun (sA_g q_350 (ne0 r_795 o_q_817 (by decide))).2.2.2.1 _).trans kn_815)
  generalize (sA (sF g_816 h 54 (.ref q_791)) q_817 50 48) = g_842 at hT hI hM hE r_818 r_819 r_820 r_821 r_822 r_823 r_824 n_825 n_826 n_827 n_828 n_829 n_830 kn_831 kn_832 kn_833 kn_834 kn_835 kn_836 kn_837 kn_838 kn_839 kn_840 kn_841 hP zP zN
  refine W.widen (k := 42) (n := 2936) (Nat.le_of_ble_eq_true rfl) (Nat.le_of_ble_eq_true rfl) ?_
  refine t_put0 (ci := 7) (v := .ref q_817) hB hT (ro_ci r_818 rfl) (ro_n0 r_818 (by decide)) rfl 55 (by decide) k_800 (Or.inr ⟨hin, rfl⟩) rfl rfl dX7_init_492 (fun H locs hT => ?_)
  have hI : Inv (sF g_842 h 55 (.ref q_817)) := hI.sF (fk r_818 (show fsm _ _ ft from trivial))
  have hM : Sm md_k_Model g (sF g_842 h 55 (.ref q_817)) := hM.tr hE (Sm_sF (by rw [r_818]; rfl))
  have hE : Ex g (sF g_842 h 55 (.ref q_817)) := hE
  have hP : PF [55, 54, 53, 48, 47, 46, 45, 44, 43, 42, 41, 40, 39, 35, 33, 32, 31, 28, 27, 26, 25, 23, 20, 19, 18, 17, 16, 15, 14, 13, 12, 11, 10, 9, 8, 7, 6, 5, 4, 3, 2, 1, 60, 52, 51, 50, 49, 38, 37, 36, 34, 30, 29, 24, 22, 21, 0] (sF g_842 h 55 (.ref q_817)) h := hP.put (q_8_55 (⟨_, rfl, r_824, n_830⟩))
  have zP : ZC (sF g_842 h 55 (.ref q_817)) q_15 := zP
  have zN : ZC (sF g_842 h 55 (.ref q_817)) q_387 := zN
  refine lv_aload_n hx hb dX7_init_495 rfl (lv_at hl 0 rfl) ?_
  refine lv_bipush (v := 48) hx hb dX7_init_496 (by decide) ?_
  refine t_newi (N' := 48) hB hT 50 (by decide) k_101 (by decide) (by decide) (by decide) (Nat.le_of_ble_eq_true rfl) (Nat.le_of_ble_eq_true rfl) dX7_init_498 (fun q_843 H o_q_843 hT => ?_)
  have z_q_843 : g.1 q_843 = 0 := hE.z0 o_q_843
  have hI : Inv (sA (sF g_842 h 55 (.ref q_817)) q_843 50 48) := hI.newi o_q_843 (by decide) (fun _ => rfl) trivial (fun _ => trivial)
  have hM : Sm md_k_Model g (sA (sF g_842 h 55 (.ref q_817)) q_843 50 48) := hM.tr hE (Sm.push o_q_843 sA_g)
  have hE : Ex g (sA (sF g_842 h 55 (.ref q_817)) q_843 50 48) := hE.tr (Ex.push o_q_843 sA_g)
  have hP : PF [55, 54, 53, 48, 47, 46, 45, 44, 43, 42, 41, 40, 39, 35, 33, 32, 31, 28, 27, 26, 25, 23, 20, 19, 18, 17, 16, 15, 14, 13, 12, 11, 10, 9, 8, 7, 6, 5, 4, 3, 2, 1, 60, 52, 51, 50, 49, 38, 37, 36, 34, 30, 29, 24, 22, 21, 0] (sA (sF g_842 h 55 (.ref q_817)) q_843 50 48) h := hP.pu (Ex.push o_q_843 sA_g) (sA_g h (ne0 r_818 o_q_843 (by decide))).2.1
  have zP : ZC (sA (sF g_842 h 55 (.ref q_817)) q_843 50 48) q_15 := zP.pu (sA_g q_15 (ne0 r_820 o_q_843 (by decide))).2.2.2.1
  have zN : ZC (sA (sF g_842 h 55 (.ref q_817)) q_843 50 48) q_387 := zN.pu (sA_g q_387 (ne0 r_823 o_q_843 (by decide))).2.2.2.1
  have r_844 : (sA (sF g_842 h 55 (.ref q_817)) q_843 50 48).1 h = 18 := ((sA_g h (ne0 r_818 o_q_843 (by decide))).1.trans r_818)
  have r_845 : (sA (sF g_842 h 55 (.ref q_817)) q_843 50 48).1 q_8 = 71 := ((sA_g q_8 (ne0 r_819 o_q_843 (by decide))).1.trans r_819)
  have r_846 : (sA (sF g_842 h 55 (.ref q_817)) q_843 50 48).1 q_15 = 72 := ((sA_g q_15 (ne0 r_820 o_q_843 (by decide))).1.trans r_820)
  have r_847 : (sA (sF g_842 h 55 (.ref q_817)) q_843 50 48).1 q_350 = 83 := ((sA_g q_350 (ne0 r_821 o_q_843 (by decide))).1.trans r_821)
  have r_848 : (sA (sF g_842 h 55 (.ref q_817)) q_843 50 48).1 q_367 = 84 := ((sA_g q_367 (ne0 r_822 o_q_843 (by decide))).1.trans r_822)
  have r_849 : (sA (sF g_842 h 55 (.ref q_817)) q_843 50 48).1 q_387 = 85 := ((sA_g q_387 (ne0 r_823 o_q_843 (by decide))).1.trans r_823)
  have r_850 : (sA (sF g_842 h 55 (.ref q_817)) q_843 50 48).1 q_843 = 50 := sA_r
  have n_851 : (sA (sF g_842 h 55 (.ref q_817)) q_843 50 48).2.2.1 q_8 = 48 := ((sA_g q_8 (ne0 r_819 o_q_843 (by decide))).2.2.1.trans n_825)
  have n_852 : (sA (sF g_842 h 55 (.ref q_817)) q_843 50 48).2.2.1 q_15 = 48 := ((sA_g q_15 (ne0 r_820 o_q_843 (by decide))).2.2.1.trans n_826)
  have n_853 : (sA (sF g_842 h 55 (.ref q_817)) q_843 50 48).2.2.1 q_350 = 4 := ((sA_g q_350 (ne0 r_821 o_q_843 (by decide))).2.2.1.trans n_827)
  have n_854 : (sA (sF g_842 h 55 (.ref q_817)) q_843 50 48).2.2.1 q_367 = 8 := ((sA_g q_367 (ne0 r_822 o_q_843 (by decide))).2.2.1.trans n_828)
  have n_855 : (sA (sF g_842 h 55 (.ref q_817)) q_843 50 48).2.2.1 q_387 = 8 := ((sA_g q_387 (ne0 r_823 o_q_843 (by decide))).2.2.1.trans n_829)
  have n_856 : (sA (sF g_842 h 55 (.ref q_817)) q_843 50 48).2.2.1 q_843 = 48 := sA_n
  have kn_857 : (sA (sF g_842 h 55 (.ref q_817)) q_843 50 48).2.1 h 22 = .int 0 := ((congrFun (sA_g h (ne0 r_818 o_q_843 (by decide))).2.1 22).trans (sF_k kn_831 (by decide)))
  have kn_858 : (sA (sF g_842 h 55 (.ref q_817)) q_843 50 48).2.1 h 34 = .int 0 := ((congrFun (sA_g h (ne0 r_818 o_q_843 (by decide))).2.1 34).trans (sF_k kn_832 (by decide)))
  have kn_859 : (sA (sF g_842 h 55 (.ref q_817)) q_843 50 48).2.1 h 2 = .ref q_8 := ((congrFun (sA_g h (ne0 r_818 o_q_843 (by decide))).2.1 2).trans (sF_k kn_833 (by decide)))
  have kn_860 : (sA (sF g_842 h 55 (.ref q_817)) q_843 50 48).2.1 h 3 = .ref q_15 := ((congrFun (sA_g h (ne0 r_818 o_q_843 (by decide))).2.1 3).trans (sF_k kn_834 (by decide)))
  have kn_861 : (sA (sF g_842 h 55 (.ref q_817)) q_843 50 48).2.1 h 35 = .ref q_350 := ((congrFun (sA_g h (ne0 r_818 o_q_843 (by decide))).2.1 35).trans (sF_k kn_835 (by decide)))
  have kn_862 : (sA (sF g_842 h 55 (.ref q_817)) q_843 50 48).2.1 h 39 = .ref q_367 := ((congrFun (sA_g h (ne0 r_818 o_q_843 (by decide))).2.1 39).trans (sF_k kn_836 (by decide)))
  have kn_863 : (sA (sF g_842 h 55 (.ref q_817)) q_843 50 48).2.1 h 40 = .ref q_387 := ((congrFun (sA_g h (ne0 r_818 o_q_843 (by decide))).2.1 40).trans (sF_k kn_837 (by decide)))
  have kn_864 : (sA (sF g_842 h 55 (.ref q_817)) q_843 50 48).2.2.2.1 q_350 (0 : Int32).toNatClampNeg = 1 := ((congrFun (sA_g q_350 (ne0 r_821 o_q_843 (by decide))).2.2.2.1 _).trans kn_838)
  have kn_865 : (sA (sF g_842 h 55 (.ref q_817)) q_843 50 48).2.2.2.1 q_350 (1 : Int32).toNatClampNeg = 1 := ((congrFun (sA_g q_350 (ne0 r_821 o_q_843 (by decide))).2.2.2.1 _).trans kn_839)
  have kn_866 : (sA (sF g_842 h 55 (.ref q_817)) q_843 50 48).2.2.2.1 q_350 (2 : Int32).toNatClampNeg = 1 := ((congrFun (sA_g q_350 (ne0 r_821 o_q_843 (by decide))).2.2.2.1 _).trans kn_840)
  have kn_867 : (sA (sF g_842 h 55 (.ref q_817)) q_843 50 48).2.2.2.1 q_350 (3 : Int32).toNatClampNeg = 1 := ((congrFun (sA_g q_350 (ne0 r_821 o_q_843 (by decide))).2.2.2.1 _).trans kn_841)
  generalize (sA (sF g_842 h 55 (.ref q_817)) q_843 50 48) = g_868 at hT hI hM hE r_844 r_845 r_846 r_847 r_848 r_849 r_850 n_851 n_852 n_853 n_854 n_855 n_856 kn_857 kn_858 kn_859 kn_860 kn_861 kn_862 kn_863 kn_864 kn_865 kn_866 kn_867 hP zP zN
  refine W.widen (k := 43) (n := 2984) (Nat.le_of_ble_eq_true rfl) (Nat.le_of_ble_eq_true rfl) ?_
  refine t_put0 (ci := 7) (v := .ref q_843) hB hT (ro_ci r_844 rfl) (ro_n0 r_844 (by decide)) rfl 56 (by decide) k_801 (Or.inr ⟨hin, rfl⟩) rfl rfl dX7_init_500 (fun H locs hT => ?_)
  have hI : Inv (sF g_868 h 56 (.ref q_843)) := hI.sF (fk r_844 (show fsm _ _ ft from trivial))
  have hM : Sm md_k_Model g (sF g_868 h 56 (.ref q_843)) := hM.tr hE (Sm_sF (by rw [r_844]; rfl))
  have hE : Ex g (sF g_868 h 56 (.ref q_843)) := hE
  have hP : PF [56, 55, 54, 53, 48, 47, 46, 45, 44, 43, 42, 41, 40, 39, 35, 33, 32, 31, 28, 27, 26, 25, 23, 20, 19, 18, 17, 16, 15, 14, 13, 12, 11, 10, 9, 8, 7, 6, 5, 4, 3, 2, 1, 60, 52, 51, 50, 49, 38, 37, 36, 34, 30, 29, 24, 22, 21, 0] (sF g_868 h 56 (.ref q_843)) h := hP.put (q_8_56 (⟨_, rfl, r_850, n_856⟩))
  have zP : ZC (sF g_868 h 56 (.ref q_843)) q_15 := zP
  have zN : ZC (sF g_868 h 56 (.ref q_843)) q_387 := zN
  refine lv_aload_n hx hb dX7_init_503 rfl (lv_at hl 0 rfl) ?_
  refine lv_bipush (v := 30) hx hb dX7_init_504 (by decide) ?_
  refine t_newi (N' := 30) hB hT 50 (by decide) k_101 (by decide) (by decide) (by decide) (Nat.le_of_ble_eq_true rfl) (Nat.le_of_ble_eq_true rfl) dX7_init_506 (fun q_869 H o_q_869 hT => ?_)
  have z_q_869 : g.1 q_869 = 0 := hE.z0 o_q_869
  have hI : Inv (sA (sF g_868 h 56 (.ref q_843)) q_869 50 30) := hI.newi o_q_869 (by decide) (fun _ => rfl) trivial (fun _ => trivial)
  have hM : Sm md_k_Model g (sA (sF g_868 h 56 (.ref q_843)) q_869 50 30) := hM.tr hE (Sm.push o_q_869 sA_g)
  have hE : Ex g (sA (sF g_868 h 56 (.ref q_843)) q_869 50 30) := hE.tr (Ex.push o_q_869 sA_g)
  have hP : PF [56, 55, 54, 53, 48, 47, 46, 45, 44, 43, 42, 41, 40, 39, 35, 33, 32, 31, 28, 27, 26, 25, 23, 20, 19, 18, 17, 16, 15, 14, 13, 12, 11, 10, 9, 8, 7, 6, 5, 4, 3, 2, 1, 60, 52, 51, 50, 49, 38, 37, 36, 34, 30, 29, 24, 22, 21, 0] (sA (sF g_868 h 56 (.ref q_843)) q_869 50 30) h := hP.pu (Ex.push o_q_869 sA_g) (sA_g h (ne0 r_844 o_q_869 (by decide))).2.1
  have zP : ZC (sA (sF g_868 h 56 (.ref q_843)) q_869 50 30) q_15 := zP.pu (sA_g q_15 (ne0 r_846 o_q_869 (by decide))).2.2.2.1
  have zN : ZC (sA (sF g_868 h 56 (.ref q_843)) q_869 50 30) q_387 := zN.pu (sA_g q_387 (ne0 r_849 o_q_869 (by decide))).2.2.2.1
  have r_870 : (sA (sF g_868 h 56 (.ref q_843)) q_869 50 30).1 h = 18 := ((sA_g h (ne0 r_844 o_q_869 (by decide))).1.trans r_844)
  have r_871 : (sA (sF g_868 h 56 (.ref q_843)) q_869 50 30).1 q_8 = 71 := ((sA_g q_8 (ne0 r_845 o_q_869 (by decide))).1.trans r_845)
  have r_872 : (sA (sF g_868 h 56 (.ref q_843)) q_869 50 30).1 q_15 = 72 := ((sA_g q_15 (ne0 r_846 o_q_869 (by decide))).1.trans r_846)
  have r_873 : (sA (sF g_868 h 56 (.ref q_843)) q_869 50 30).1 q_350 = 83 := ((sA_g q_350 (ne0 r_847 o_q_869 (by decide))).1.trans r_847)
  have r_874 : (sA (sF g_868 h 56 (.ref q_843)) q_869 50 30).1 q_367 = 84 := ((sA_g q_367 (ne0 r_848 o_q_869 (by decide))).1.trans r_848)
  have r_875 : (sA (sF g_868 h 56 (.ref q_843)) q_869 50 30).1 q_387 = 85 := ((sA_g q_387 (ne0 r_849 o_q_869 (by decide))).1.trans r_849)
  have r_876 : (sA (sF g_868 h 56 (.ref q_843)) q_869 50 30).1 q_869 = 50 := sA_r
  have n_877 : (sA (sF g_868 h 56 (.ref q_843)) q_869 50 30).2.2.1 q_8 = 48 := ((sA_g q_8 (ne0 r_845 o_q_869 (by decide))).2.2.1.trans n_851)
  have n_878 : (sA (sF g_868 h 56 (.ref q_843)) q_869 50 30).2.2.1 q_15 = 48 := ((sA_g q_15 (ne0 r_846 o_q_869 (by decide))).2.2.1.trans n_852)
  have n_879 : (sA (sF g_868 h 56 (.ref q_843)) q_869 50 30).2.2.1 q_350 = 4 := ((sA_g q_350 (ne0 r_847 o_q_869 (by decide))).2.2.1.trans n_853)
  have n_880 : (sA (sF g_868 h 56 (.ref q_843)) q_869 50 30).2.2.1 q_367 = 8 := ((sA_g q_367 (ne0 r_848 o_q_869 (by decide))).2.2.1.trans n_854)
  have n_881 : (sA (sF g_868 h 56 (.ref q_843)) q_869 50 30).2.2.1 q_387 = 8 := ((sA_g q_387 (ne0 r_849 o_q_869 (by decide))).2.2.1.trans n_855)
  have n_882 : (sA (sF g_868 h 56 (.ref q_843)) q_869 50 30).2.2.1 q_869 = 30 := sA_n
  have kn_883 : (sA (sF g_868 h 56 (.ref q_843)) q_869 50 30).2.1 h 22 = .int 0 := ((congrFun (sA_g h (ne0 r_844 o_q_869 (by decide))).2.1 22).trans (sF_k kn_857 (by decide)))
  have kn_884 : (sA (sF g_868 h 56 (.ref q_843)) q_869 50 30).2.1 h 34 = .int 0 := ((congrFun (sA_g h (ne0 r_844 o_q_869 (by decide))).2.1 34).trans (sF_k kn_858 (by decide)))
  have kn_885 : (sA (sF g_868 h 56 (.ref q_843)) q_869 50 30).2.1 h 2 = .ref q_8 := ((congrFun (sA_g h (ne0 r_844 o_q_869 (by decide))).2.1 2).trans (sF_k kn_859 (by decide)))
  have kn_886 : (sA (sF g_868 h 56 (.ref q_843)) q_869 50 30).2.1 h 3 = .ref q_15 := ((congrFun (sA_g h (ne0 r_844 o_q_869 (by decide))).2.1 3).trans (sF_k kn_860 (by decide)))
  have kn_887 : (sA (sF g_868 h 56 (.ref q_843)) q_869 50 30).2.1 h 35 = .ref q_350 := ((congrFun (sA_g h (ne0 r_844 o_q_869 (by decide))).2.1 35).trans (sF_k kn_861 (by decide)))
  have kn_888 : (sA (sF g_868 h 56 (.ref q_843)) q_869 50 30).2.1 h 39 = .ref q_367 := ((congrFun (sA_g h (ne0 r_844 o_q_869 (by decide))).2.1 39).trans (sF_k kn_862 (by decide)))
  have kn_889 : (sA (sF g_868 h 56 (.ref q_843)) q_869 50 30).2.1 h 40 = .ref q_387 := ((congrFun (sA_g h (ne0 r_844 o_q_869 (by decide))).2.1 40).trans (sF_k kn_863 (by decide)))
  have kn_890 : (sA (sF g_868 h 56 (.ref q_843)) q_869 50 30).2.2.2.1 q_350 (0 : Int32).toNatClampNeg = 1 := ((congrFun (sA_g q_350 (ne0 r_847 o_q_869 (by decide))).2.2.2.1 _).trans kn_864)
  have kn_891 : (sA (sF g_868 h 56 (.ref q_843)) q_869 50 30).2.2.2.1 q_350 (1 : Int32).toNatClampNeg = 1 := ((congrFun (sA_g q_350 (ne0 r_847 o_q_869 (by decide))).2.2.2.1 _).trans kn_865)
  have kn_892 : (sA (sF g_868 h 56 (.ref q_843)) q_869 50 30).2.2.2.1 q_350 (2 : Int32).toNatClampNeg = 1 := ((congrFun (sA_g q_350 (ne0 r_847 o_q_869 (by decide))).2.2.2.1 _).trans kn_866)
  have kn_893 : (sA (sF g_868 h 56 (.ref q_843)) q_869 50 30).2.2.2.1 q_350 (3 : Int32).toNatClampNeg = 1 := ((congrFun (sA_g q_350 (ne0 r_847 o_q_869 (by decide))).2.2.2.1 _).trans kn_867)
  generalize (sA (sF g_868 h 56 (.ref q_843)) q_869 50 30) = g_894 at hT hI hM hE r_870 r_871 r_872 r_873 r_874 r_875 r_876 n_877 n_878 n_879 n_880 n_881 n_882 kn_883 kn_884 kn_885 kn_886 kn_887 kn_888 kn_889 kn_890 kn_891 kn_892 kn_893 hP zP zN
  refine W.widen (k := 44) (n := 3014) (Nat.le_of_ble_eq_true rfl) (Nat.le_of_ble_eq_true rfl) ?_
  refine t_put0 (ci := 7) (v := .ref q_869) hB hT (ro_ci r_870 rfl) (ro_n0 r_870 (by decide)) rfl 57 (by decide) k_802 (Or.inr ⟨hin, rfl⟩) rfl rfl dX7_init_508 (fun H locs hT => ?_)
  have hI : Inv (sF g_894 h 57 (.ref q_869)) := hI.sF (fk r_870 (show fsm _ _ ft from trivial))
  have hM : Sm md_k_Model g (sF g_894 h 57 (.ref q_869)) := hM.tr hE (Sm_sF (by rw [r_870]; rfl))
  have hE : Ex g (sF g_894 h 57 (.ref q_869)) := hE
  have hP : PF [57, 56, 55, 54, 53, 48, 47, 46, 45, 44, 43, 42, 41, 40, 39, 35, 33, 32, 31, 28, 27, 26, 25, 23, 20, 19, 18, 17, 16, 15, 14, 13, 12, 11, 10, 9, 8, 7, 6, 5, 4, 3, 2, 1, 60, 52, 51, 50, 49, 38, 37, 36, 34, 30, 29, 24, 22, 21, 0] (sF g_894 h 57 (.ref q_869)) h := hP.put (q_8_57 (⟨_, rfl, r_876, n_882⟩))
  have zP : ZC (sF g_894 h 57 (.ref q_869)) q_15 := zP
  have zN : ZC (sF g_894 h 57 (.ref q_869)) q_387 := zN
  refine lv_aload_n hx hb dX7_init_511 rfl (lv_at hl 0 rfl) ?_
  refine lv_sipush (v := 1200) hx hb dX7_init_512 (by decide) ?_
  refine t_newi (N' := 1200) hB hT 50 (by decide) k_101 (by decide) (by decide) (by decide) (Nat.le_of_ble_eq_true rfl) (Nat.le_of_ble_eq_true rfl) dX7_init_515 (fun q_895 H o_q_895 hT => ?_)
  have z_q_895 : g.1 q_895 = 0 := hE.z0 o_q_895
  have hI : Inv (sA (sF g_894 h 57 (.ref q_869)) q_895 50 1200) := hI.newi o_q_895 (by decide) (fun _ => rfl) trivial (fun _ => trivial)
  have hM : Sm md_k_Model g (sA (sF g_894 h 57 (.ref q_869)) q_895 50 1200) := hM.tr hE (Sm.push o_q_895 sA_g)
  have hE : Ex g (sA (sF g_894 h 57 (.ref q_869)) q_895 50 1200) := hE.tr (Ex.push o_q_895 sA_g)
  have hP : PF [57, 56, 55, 54, 53, 48, 47, 46, 45, 44, 43, 42, 41, 40, 39, 35, 33, 32, 31, 28, 27, 26, 25, 23, 20, 19, 18, 17, 16, 15, 14, 13, 12, 11, 10, 9, 8, 7, 6, 5, 4, 3, 2, 1, 60, 52, 51, 50, 49, 38, 37, 36, 34, 30, 29, 24, 22, 21, 0] (sA (sF g_894 h 57 (.ref q_869)) q_895 50 1200) h := hP.pu (Ex.push o_q_895 sA_g) (sA_g h (ne0 r_870 o_q_895 (by decide))).2.1
  have zP : ZC (sA (sF g_894 h 57 (.ref q_869)) q_895 50 1200) q_15 := zP.pu (sA_g q_15 (ne0 r_872 o_q_895 (by decide))).2.2.2.1
  have zN : ZC (sA (sF g_894 h 57 (.ref q_869)) q_895 50 1200) q_387 := zN.pu (sA_g q_387 (ne0 r_875 o_q_895 (by decide))).2.2.2.1
  have r_896 : (sA (sF g_894 h 57 (.ref q_869)) q_895 50 1200).1 h = 18 := ((sA_g h (ne0 r_870 o_q_895 (by decide))).1.trans r_870)
  have r_897 : (sA (sF g_894 h 57 (.ref q_869)) q_895 50 1200).1 q_8 = 71 := ((sA_g q_8 (ne0 r_871 o_q_895 (by decide))).1.trans r_871)
  have r_898 : (sA (sF g_894 h 57 (.ref q_869)) q_895 50 1200).1 q_15 = 72 := ((sA_g q_15 (ne0 r_872 o_q_895 (by decide))).1.trans r_872)
  have r_899 : (sA (sF g_894 h 57 (.ref q_869)) q_895 50 1200).1 q_350 = 83 := ((sA_g q_350 (ne0 r_873 o_q_895 (by decide))).1.trans r_873)
  have r_900 : (sA (sF g_894 h 57 (.ref q_869)) q_895 50 1200).1 q_367 = 84 := ((sA_g q_367 (ne0 r_874 o_q_895 (by decide))).1.trans r_874)
  have r_901 : (sA (sF g_894 h 57 (.ref q_869)) q_895 50 1200).1 q_387 = 85 := ((sA_g q_387 (ne0 r_875 o_q_895 (by decide))).1.trans r_875)
  have r_902 : (sA (sF g_894 h 57 (.ref q_869)) q_895 50 1200).1 q_895 = 50 := sA_r
  have n_903 : (sA (sF g_894 h 57 (.ref q_869)) q_895 50 1200).2.2.1 q_8 = 48 := ((sA_g q_8 (ne0 r_871 o_q_895 (by decide))).2.2.1.trans n_877)
  have n_904 : (sA (sF g_894 h 57 (.ref q_869)) q_895 50 1200).2.2.1 q_15 = 48 := ((sA_g q_15 (ne0 r_872 o_q_895 (by decide))).2.2.1.trans n_878)
  have n_905 : (sA (sF g_894 h 57 (.ref q_869)) q_895 50 1200).2.2.1 q_350 = 4 := ((sA_g q_350 (ne0 r_873 o_q_895 (by decide))).2.2.1.trans n_879)
  have n_906 : (sA (sF g_894 h 57 (.ref q_869)) q_895 50 1200).2.2.1 q_367 = 8 := ((sA_g q_367 (ne0 r_874 o_q_895 (by decide))).2.2.1.trans n_880)
  have n_907 : (sA (sF g_894 h 57 (.ref q_869)) q_895 50 1200).2.2.1 q_387 = 8 := ((sA_g q_387 (ne0 r_875 o_q_895 (by decide))).2.2.1.trans n_881)
  have n_908 : (sA (sF g_894 h 57 (.ref q_869)) q_895 50 1200).2.2.1 q_895 = 1200 := sA_n
  have kn_909 : (sA (sF g_894 h 57 (.ref q_869)) q_895 50 1200).2.1 h 22 = .int 0 := ((congrFun (sA_g h (ne0 r_870 o_q_895 (by decide))).2.1 22).trans (sF_k kn_883 (by decide)))
  have kn_910 : (sA (sF g_894 h 57 (.ref q_869)) q_895 50 1200).2.1 h 34 = .int 0 := ((congrFun (sA_g h (ne0 r_870 o_q_895 (by decide))).2.1 34).trans (sF_k kn_884 (by decide)))
  have kn_911 : (sA (sF g_894 h 57 (.ref q_869)) q_895 50 1200).2.1 h 2 = .ref q_8 := ((congrFun (sA_g h (ne0 r_870 o_q_895 (by decide))).2.1 2).trans (sF_k kn_885 (by decide)))
  have kn_912 : (sA (sF g_894 h 57 (.ref q_869)) q_895 50 1200).2.1 h 3 = .ref q_15 := ((congrFun (sA_g h (ne0 r_870 o_q_895 (by decide))).2.1 3).trans (sF_k kn_886 (by decide)))
  have kn_913 : (sA (sF g_894 h 57 (.ref q_869)) q_895 50 1200).2.1 h 35 = .ref q_350 := ((congrFun (sA_g h (ne0 r_870 o_q_895 (by decide))).2.1 35).trans (sF_k kn_887 (by decide)))
  have kn_914 : (sA (sF g_894 h 57 (.ref q_869)) q_895 50 1200).2.1 h 39 = .ref q_367 := ((congrFun (sA_g h (ne0 r_870 o_q_895 (by decide))).2.1 39).trans (sF_k kn_888 (by decide)))
  have kn_915 : (sA (sF g_894 h 57 (.ref q_869)) q_895 50 1200).2.1 h 40 = .ref q_387 := ((congrFun (sA_g h (ne0 r_870 o_q_895 (by decide))).2.1 40).trans (sF_k kn_889 (by decide)))
  have kn_916 : (sA (sF g_894 h 57 (.ref q_869)) q_895 50 1200).2.2.2.1 q_350 (0 : Int32).toNatClampNeg = 1 := ((congrFun (sA_g q_350 (ne0 r_873 o_q_895 (by decide))).2.2.2.1 _).trans kn_890)
  have kn_917 : (sA (sF g_894 h 57 (.ref q_869)) q_895 50 1200).2.2.2.1 q_350 (1 : Int32).toNatClampNeg = 1 := ((congrFun (sA_g q_350 (ne0 r_873 o_q_895 (by decide))).2.2.2.1 _).trans kn_891)
  have kn_918 : (sA (sF g_894 h 57 (.ref q_869)) q_895 50 1200).2.2.2.1 q_350 (2 : Int32).toNatClampNeg = 1 := ((congrFun (sA_g q_350 (ne0 r_873 o_q_895 (by decide))).2.2.2.1 _).trans kn_892)
  have kn_919 : (sA (sF g_894 h 57 (.ref q_869)) q_895 50 1200).2.2.2.1 q_350 (3 : Int32).toNatClampNeg = 1 := ((congrFun (sA_g q_350 (ne0 r_873 o_q_895 (by decide))).2.2.2.1 _).trans kn_893)
  generalize (sA (sF g_894 h 57 (.ref q_869)) q_895 50 1200) = g_920 at hT hI hM hE r_896 r_897 r_898 r_899 r_900 r_901 r_902 n_903 n_904 n_905 n_906 n_907 n_908 kn_909 kn_910 kn_911 kn_912 kn_913 kn_914 kn_915 kn_916 kn_917 kn_918 kn_919 hP zP zN
  refine W.widen (k := 45) (n := 4214) (Nat.le_of_ble_eq_true rfl) (Nat.le_of_ble_eq_true rfl) ?_
  refine t_put0 (ci := 7) (v := .ref q_895) hB hT (ro_ci r_896 rfl) (ro_n0 r_896 (by decide)) rfl 58 (by decide) k_803 (Or.inr ⟨hin, rfl⟩) rfl rfl dX7_init_517 (fun H locs hT => ?_)
  have hI : Inv (sF g_920 h 58 (.ref q_895)) := hI.sF (fk r_896 (show fsm _ _ ft from trivial))
  have hM : Sm md_k_Model g (sF g_920 h 58 (.ref q_895)) := hM.tr hE (Sm_sF (by rw [r_896]; rfl))
  have hE : Ex g (sF g_920 h 58 (.ref q_895)) := hE
  have hP : PF [58, 57, 56, 55, 54, 53, 48, 47, 46, 45, 44, 43, 42, 41, 40, 39, 35, 33, 32, 31, 28, 27, 26, 25, 23, 20, 19, 18, 17, 16, 15, 14, 13, 12, 11, 10, 9, 8, 7, 6, 5, 4, 3, 2, 1, 60, 52, 51, 50, 49, 38, 37, 36, 34, 30, 29, 24, 22, 21, 0] (sF g_920 h 58 (.ref q_895)) h := hP.put (q_8_58 (⟨_, rfl, r_902, n_908⟩))
  have zP : ZC (sF g_920 h 58 (.ref q_895)) q_15 := zP
  have zN : ZC (sF g_920 h 58 (.ref q_895)) q_387 := zN
  refine lv_aload_n hx hb dX7_init_520 rfl (lv_at hl 0 rfl) ?_
  refine lv_bipush (v := 6) hx hb dX7_init_521 (by decide) ?_
  refine t_newi (N' := 6) hB hT 50 (by decide) k_101 (by decide) (by decide) (by decide) (Nat.le_of_ble_eq_true rfl) (Nat.le_of_ble_eq_true rfl) dX7_init_523 (fun q_921 H o_q_921 hT => ?_)
  have z_q_921 : g.1 q_921 = 0 := hE.z0 o_q_921
  have hI : Inv (sA (sF g_920 h 58 (.ref q_895)) q_921 50 6) := hI.newi o_q_921 (by decide) (fun _ => rfl) trivial (fun _ => trivial)
  have hM : Sm md_k_Model g (sA (sF g_920 h 58 (.ref q_895)) q_921 50 6) := hM.tr hE (Sm.push o_q_921 sA_g)
  have hE : Ex g (sA (sF g_920 h 58 (.ref q_895)) q_921 50 6) := hE.tr (Ex.push o_q_921 sA_g)
  have hP : PF [58, 57, 56, 55, 54, 53, 48, 47, 46, 45, 44, 43, 42, 41, 40, 39, 35, 33, 32, 31, 28, 27, 26, 25, 23, 20, 19, 18, 17, 16, 15, 14, 13, 12, 11, 10, 9, 8, 7, 6, 5, 4, 3, 2, 1, 60, 52, 51, 50, 49, 38, 37, 36, 34, 30, 29, 24, 22, 21, 0] (sA (sF g_920 h 58 (.ref q_895)) q_921 50 6) h := hP.pu (Ex.push o_q_921 sA_g) (sA_g h (ne0 r_896 o_q_921 (by decide))).2.1
  have zP : ZC (sA (sF g_920 h 58 (.ref q_895)) q_921 50 6) q_15 := zP.pu (sA_g q_15 (ne0 r_898 o_q_921 (by decide))).2.2.2.1
  have zN : ZC (sA (sF g_920 h 58 (.ref q_895)) q_921 50 6) q_387 := zN.pu (sA_g q_387 (ne0 r_901 o_q_921 (by decide))).2.2.2.1
  have r_922 : (sA (sF g_920 h 58 (.ref q_895)) q_921 50 6).1 h = 18 := ((sA_g h (ne0 r_896 o_q_921 (by decide))).1.trans r_896)
  have r_923 : (sA (sF g_920 h 58 (.ref q_895)) q_921 50 6).1 q_8 = 71 := ((sA_g q_8 (ne0 r_897 o_q_921 (by decide))).1.trans r_897)
  have r_924 : (sA (sF g_920 h 58 (.ref q_895)) q_921 50 6).1 q_15 = 72 := ((sA_g q_15 (ne0 r_898 o_q_921 (by decide))).1.trans r_898)
  have r_925 : (sA (sF g_920 h 58 (.ref q_895)) q_921 50 6).1 q_350 = 83 := ((sA_g q_350 (ne0 r_899 o_q_921 (by decide))).1.trans r_899)
  have r_926 : (sA (sF g_920 h 58 (.ref q_895)) q_921 50 6).1 q_367 = 84 := ((sA_g q_367 (ne0 r_900 o_q_921 (by decide))).1.trans r_900)
  have r_927 : (sA (sF g_920 h 58 (.ref q_895)) q_921 50 6).1 q_387 = 85 := ((sA_g q_387 (ne0 r_901 o_q_921 (by decide))).1.trans r_901)
  have r_928 : (sA (sF g_920 h 58 (.ref q_895)) q_921 50 6).1 q_921 = 50 := sA_r
  have n_929 : (sA (sF g_920 h 58 (.ref q_895)) q_921 50 6).2.2.1 q_8 = 48 := ((sA_g q_8 (ne0 r_897 o_q_921 (by decide))).2.2.1.trans n_903)
  have n_930 : (sA (sF g_920 h 58 (.ref q_895)) q_921 50 6).2.2.1 q_15 = 48 := ((sA_g q_15 (ne0 r_898 o_q_921 (by decide))).2.2.1.trans n_904)
  have n_931 : (sA (sF g_920 h 58 (.ref q_895)) q_921 50 6).2.2.1 q_350 = 4 := ((sA_g q_350 (ne0 r_899 o_q_921 (by decide))).2.2.1.trans n_905)
  have n_932 : (sA (sF g_920 h 58 (.ref q_895)) q_921 50 6).2.2.1 q_367 = 8 := ((sA_g q_367 (ne0 r_900 o_q_921 (by decide))).2.2.1.trans n_906)
  have n_933 : (sA (sF g_920 h 58 (.ref q_895)) q_921 50 6).2.2.1 q_387 = 8 := ((sA_g q_387 (ne0 r_901 o_q_921 (by decide))).2.2.1.trans n_907)
  have n_934 : (sA (sF g_920 h 58 (.ref q_895)) q_921 50 6).2.2.1 q_921 = 6 := sA_n
  have kn_935 : (sA (sF g_920 h 58 (.ref q_895)) q_921 50 6).2.1 h 22 = .int 0 := ((congrFun (sA_g h (ne0 r_896 o_q_921 (by decide))).2.1 22).trans (sF_k kn_909 (by decide)))
  have kn_936 : (sA (sF g_920 h 58 (.ref q_895)) q_921 50 6).2.1 h 34 = .int 0 := ((congrFun (sA_g h (ne0 r_896 o_q_921 (by decide))).2.1 34).trans (sF_k kn_910 (by decide)))
  have kn_937 : (sA (sF g_920 h 58 (.ref q_895)) q_921 50 6).2.1 h 2 = .ref q_8 := ((congrFun (sA_g h (ne0 r_896 o_q_921 (by decide))).2.1 2).trans (sF_k kn_911 (by decide)))
  have kn_938 : (sA (sF g_920 h 58 (.ref q_895)) q_921 50 6).2.1 h 3 = .ref q_15 := ((congrFun (sA_g h (ne0 r_896 o_q_921 (by decide))).2.1 3).trans (sF_k kn_912 (by decide)))
  have kn_939 : (sA (sF g_920 h 58 (.ref q_895)) q_921 50 6).2.1 h 35 = .ref q_350 := ((congrFun (sA_g h (ne0 r_896 o_q_921 (by decide))).2.1 35).trans (sF_k kn_913 (by decide)))
  have kn_940 : (sA (sF g_920 h 58 (.ref q_895)) q_921 50 6).2.1 h 39 = .ref q_367 := ((congrFun (sA_g h (ne0 r_896 o_q_921 (by decide))).2.1 39).trans (sF_k kn_914 (by decide)))
  have kn_941 : (sA (sF g_920 h 58 (.ref q_895)) q_921 50 6).2.1 h 40 = .ref q_387 := ((congrFun (sA_g h (ne0 r_896 o_q_921 (by decide))).2.1 40).trans (sF_k kn_915 (by decide)))
  have kn_942 : (sA (sF g_920 h 58 (.ref q_895)) q_921 50 6).2.2.2.1 q_350 (0 : Int32).toNatClampNeg = 1 := ((congrFun (sA_g q_350 (ne0 r_899 o_q_921 (by decide))).2.2.2.1 _).trans kn_916)
  have kn_943 : (sA (sF g_920 h 58 (.ref q_895)) q_921 50 6).2.2.2.1 q_350 (1 : Int32).toNatClampNeg = 1 := ((congrFun (sA_g q_350 (ne0 r_899 o_q_921 (by decide))).2.2.2.1 _).trans kn_917)
  have kn_944 : (sA (sF g_920 h 58 (.ref q_895)) q_921 50 6).2.2.2.1 q_350 (2 : Int32).toNatClampNeg = 1 := ((congrFun (sA_g q_350 (ne0 r_899 o_q_921 (by decide))).2.2.2.1 _).trans kn_918)
  have kn_945 : (sA (sF g_920 h 58 (.ref q_895)) q_921 50 6).2.2.2.1 q_350 (3 : Int32).toNatClampNeg = 1 := ((congrFun (sA_g q_350 (ne0 r_899 o_q_921 (by decide))).2.2.2.1 _).trans kn_919)
  generalize (sA (sF g_920 h 58 (.ref q_895)) q_921 50 6) = g_946 at hT hI hM hE r_922 r_923 r_924 r_925 r_926 r_927 r_928 n_929 n_930 n_931 n_932 n_933 n_934 kn_935 kn_936 kn_937 kn_938 kn_939 kn_940 kn_941 kn_942 kn_943 kn_944 kn_945 hP zP zN
  refine W.widen (k := 46) (n := 4220) (Nat.le_of_ble_eq_true rfl) (Nat.le_of_ble_eq_true rfl) ?_
  refine t_put0 (ci := 7) (v := .ref q_921) hB hT (ro_ci r_922 rfl) (ro_n0 r_922 (by decide)) rfl 59 (by decide) k_804 (Or.inr ⟨hin, rfl⟩) rfl rfl dX7_init_525 (fun H locs hT => ?_)
  have hI : Inv (sF g_946 h 59 (.ref q_921)) := hI.sF (fk r_922 (show fsm _ _ ft from trivial))
  have hM : Sm md_k_Model g (sF g_946 h 59 (.ref q_921)) := hM.tr hE (Sm_sF (by rw [r_922]; rfl))
  have hE : Ex g (sF g_946 h 59 (.ref q_921)) := hE
  have hP : PF [59, 58, 57, 56, 55, 54, 53, 48, 47, 46, 45, 44, 43, 42, 41, 40, 39, 35, 33, 32, 31, 28, 27, 26, 25, 23, 20, 19, 18, 17, 16, 15, 14, 13, 12, 11, 10, 9, 8, 7, 6, 5, 4, 3, 2, 1, 60, 52, 51, 50, 49, 38, 37, 36, 34, 30, 29, 24, 22, 21, 0] (sF g_946 h 59 (.ref q_921)) h := hP.put (q_8_59 (⟨_, rfl, r_928, n_934⟩))
  have zP : ZC (sF g_946 h 59 (.ref q_921)) q_15 := zP
  have zN : ZC (sF g_946 h 59 (.ref q_921)) q_387 := zN
  refine lv_aload_n hx hb dX7_init_528 rfl (lv_at hl 0 rfl) ?_
  refine lv_iconst (v := 5) hx hb dX7_init_529 (by decide) ?_
  refine t_newi (N' := 5) hB hT 52 (by decide) k_101 (by decide) (by decide) (by decide) (Nat.le_of_ble_eq_true rfl) (Nat.le_of_ble_eq_true rfl) dX7_init_530 (fun q_947 H o_q_947 hT => ?_)
  have z_q_947 : g.1 q_947 = 0 := hE.z0 o_q_947
  have hI : Inv (sA (sF g_946 h 59 (.ref q_921)) q_947 52 5) := hI.newi o_q_947 (by decide) (fun _ => rfl) ⟨by decide, by decide⟩ (fun _ => trivial)
  have hM : Sm md_k_Model g (sA (sF g_946 h 59 (.ref q_921)) q_947 52 5) := hM.tr hE (Sm.push o_q_947 sA_g)
  have hE : Ex g (sA (sF g_946 h 59 (.ref q_921)) q_947 52 5) := hE.tr (Ex.push o_q_947 sA_g)
  have hP : PF [59, 58, 57, 56, 55, 54, 53, 48, 47, 46, 45, 44, 43, 42, 41, 40, 39, 35, 33, 32, 31, 28, 27, 26, 25, 23, 20, 19, 18, 17, 16, 15, 14, 13, 12, 11, 10, 9, 8, 7, 6, 5, 4, 3, 2, 1, 60, 52, 51, 50, 49, 38, 37, 36, 34, 30, 29, 24, 22, 21, 0] (sA (sF g_946 h 59 (.ref q_921)) q_947 52 5) h := hP.pu (Ex.push o_q_947 sA_g) (sA_g h (ne0 r_922 o_q_947 (by decide))).2.1
  have zP : ZC (sA (sF g_946 h 59 (.ref q_921)) q_947 52 5) q_15 := zP.pu (sA_g q_15 (ne0 r_924 o_q_947 (by decide))).2.2.2.1
  have zN : ZC (sA (sF g_946 h 59 (.ref q_921)) q_947 52 5) q_387 := zN.pu (sA_g q_387 (ne0 r_927 o_q_947 (by decide))).2.2.2.1
  have r_948 : (sA (sF g_946 h 59 (.ref q_921)) q_947 52 5).1 h = 18 := ((sA_g h (ne0 r_922 o_q_947 (by decide))).1.trans r_922)
  have r_949 : (sA (sF g_946 h 59 (.ref q_921)) q_947 52 5).1 q_8 = 71 := ((sA_g q_8 (ne0 r_923 o_q_947 (by decide))).1.trans r_923)
  have r_950 : (sA (sF g_946 h 59 (.ref q_921)) q_947 52 5).1 q_15 = 72 := ((sA_g q_15 (ne0 r_924 o_q_947 (by decide))).1.trans r_924)
  have r_951 : (sA (sF g_946 h 59 (.ref q_921)) q_947 52 5).1 q_350 = 83 := ((sA_g q_350 (ne0 r_925 o_q_947 (by decide))).1.trans r_925)
  have r_952 : (sA (sF g_946 h 59 (.ref q_921)) q_947 52 5).1 q_367 = 84 := ((sA_g q_367 (ne0 r_926 o_q_947 (by decide))).1.trans r_926)
  have r_953 : (sA (sF g_946 h 59 (.ref q_921)) q_947 52 5).1 q_387 = 85 := ((sA_g q_387 (ne0 r_927 o_q_947 (by decide))).1.trans r_927)
  have r_954 : (sA (sF g_946 h 59 (.ref q_921)) q_947 52 5).1 q_947 = 52 := sA_r
  have n_955 : (sA (sF g_946 h 59 (.ref q_921)) q_947 52 5).2.2.1 q_8 = 48 := ((sA_g q_8 (ne0 r_923 o_q_947 (by decide))).2.2.1.trans n_929)
  have n_956 : (sA (sF g_946 h 59 (.ref q_921)) q_947 52 5).2.2.1 q_15 = 48 := ((sA_g q_15 (ne0 r_924 o_q_947 (by decide))).2.2.1.trans n_930)
  have n_957 : (sA (sF g_946 h 59 (.ref q_921)) q_947 52 5).2.2.1 q_350 = 4 := ((sA_g q_350 (ne0 r_925 o_q_947 (by decide))).2.2.1.trans n_931)
  have n_958 : (sA (sF g_946 h 59 (.ref q_921)) q_947 52 5).2.2.1 q_367 = 8 := ((sA_g q_367 (ne0 r_926 o_q_947 (by decide))).2.2.1.trans n_932)
  have n_959 : (sA (sF g_946 h 59 (.ref q_921)) q_947 52 5).2.2.1 q_387 = 8 := ((sA_g q_387 (ne0 r_927 o_q_947 (by decide))).2.2.1.trans n_933)
  have n_960 : (sA (sF g_946 h 59 (.ref q_921)) q_947 52 5).2.2.1 q_947 = 5 := sA_n
  have kn_961 : (sA (sF g_946 h 59 (.ref q_921)) q_947 52 5).2.1 h 22 = .int 0 := ((congrFun (sA_g h (ne0 r_922 o_q_947 (by decide))).2.1 22).trans (sF_k kn_935 (by decide)))
  have kn_962 : (sA (sF g_946 h 59 (.ref q_921)) q_947 52 5).2.1 h 34 = .int 0 := ((congrFun (sA_g h (ne0 r_922 o_q_947 (by decide))).2.1 34).trans (sF_k kn_936 (by decide)))
  have kn_963 : (sA (sF g_946 h 59 (.ref q_921)) q_947 52 5).2.1 h 2 = .ref q_8 := ((congrFun (sA_g h (ne0 r_922 o_q_947 (by decide))).2.1 2).trans (sF_k kn_937 (by decide)))
  have kn_964 : (sA (sF g_946 h 59 (.ref q_921)) q_947 52 5).2.1 h 3 = .ref q_15 := ((congrFun (sA_g h (ne0 r_922 o_q_947 (by decide))).2.1 3).trans (sF_k kn_938 (by decide)))
  have kn_965 : (sA (sF g_946 h 59 (.ref q_921)) q_947 52 5).2.1 h 35 = .ref q_350 := ((congrFun (sA_g h (ne0 r_922 o_q_947 (by decide))).2.1 35).trans (sF_k kn_939 (by decide)))
  have kn_966 : (sA (sF g_946 h 59 (.ref q_921)) q_947 52 5).2.1 h 39 = .ref q_367 := ((congrFun (sA_g h (ne0 r_922 o_q_947 (by decide))).2.1 39).trans (sF_k kn_940 (by decide)))
  have kn_967 : (sA (sF g_946 h 59 (.ref q_921)) q_947 52 5).2.1 h 40 = .ref q_387 := ((congrFun (sA_g h (ne0 r_922 o_q_947 (by decide))).2.1 40).trans (sF_k kn_941 (by decide)))
  have kn_968 : (sA (sF g_946 h 59 (.ref q_921)) q_947 52 5).2.2.2.1 q_350 (0 : Int32).toNatClampNeg = 1 := ((congrFun (sA_g q_350 (ne0 r_925 o_q_947 (by decide))).2.2.2.1 _).trans kn_942)
  have kn_969 : (sA (sF g_946 h 59 (.ref q_921)) q_947 52 5).2.2.2.1 q_350 (1 : Int32).toNatClampNeg = 1 := ((congrFun (sA_g q_350 (ne0 r_925 o_q_947 (by decide))).2.2.2.1 _).trans kn_943)
  have kn_970 : (sA (sF g_946 h 59 (.ref q_921)) q_947 52 5).2.2.2.1 q_350 (2 : Int32).toNatClampNeg = 1 := ((congrFun (sA_g q_350 (ne0 r_925 o_q_947 (by decide))).2.2.2.1 _).trans kn_944)
  have kn_971 : (sA (sF g_946 h 59 (.ref q_921)) q_947 52 5).2.2.2.1 q_350 (3 : Int32).toNatClampNeg = 1 := ((congrFun (sA_g q_350 (ne0 r_925 o_q_947 (by decide))).2.2.2.1 _).trans kn_945)
  generalize (sA (sF g_946 h 59 (.ref q_921)) q_947 52 5) = g_972 at hT hI hM hE r_948 r_949 r_950 r_951 r_952 r_953 r_954 n_955 n_956 n_957 n_958 n_959 n_960 kn_961 kn_962 kn_963 kn_964 kn_965 kn_966 kn_967 kn_968 kn_969 kn_970 kn_971 hP zP zN
  refine W.widen (k := 47) (n := 4225) (Nat.le_of_ble_eq_true rfl) (Nat.le_of_ble_eq_true rfl) ?_
  refine t_put0 (ci := 7) (v := .ref q_947) hB hT (ro_ci r_948 rfl) (ro_n0 r_948 (by decide)) rfl 61 (by decide) k_806 (Or.inr ⟨hin, rfl⟩) rfl rfl dX7_init_532 (fun H locs hT => ?_)
  have hI : Inv (sF g_972 h 61 (.ref q_947)) := hI.sF (fk r_948 (show fsm _ _ ft from trivial))
  have hM : Sm md_k_Model g (sF g_972 h 61 (.ref q_947)) := hM.tr hE (Sm_sF (by rw [r_948]; rfl))
  have hE : Ex g (sF g_972 h 61 (.ref q_947)) := hE
  have hP : PF [61, 59, 58, 57, 56, 55, 54, 53, 48, 47, 46, 45, 44, 43, 42, 41, 40, 39, 35, 33, 32, 31, 28, 27, 26, 25, 23, 20, 19, 18, 17, 16, 15, 14, 13, 12, 11, 10, 9, 8, 7, 6, 5, 4, 3, 2, 1, 60, 52, 51, 50, 49, 38, 37, 36, 34, 30, 29, 24, 22, 21, 0] (sF g_972 h 61 (.ref q_947)) h := hP.put (q_8_61 (⟨_, rfl, r_954, n_960⟩))
  have zP : ZC (sF g_972 h 61 (.ref q_947)) q_15 := zP
  have zN : ZC (sF g_972 h 61 (.ref q_947)) q_387 := zN
  refine lv_aload_n hx hb dX7_init_535 rfl (lv_at hl 0 rfl) ?_
  refine lv_sipush (v := 624) hx hb dX7_init_536 (by decide) ?_
  refine t_newi (N' := 624) hB hT 50 (by decide) k_101 (by decide) (by decide) (by decide) (Nat.le_of_ble_eq_true rfl) (Nat.le_of_ble_eq_true rfl) dX7_init_539 (fun q_973 H o_q_973 hT => ?_)
  have z_q_973 : g.1 q_973 = 0 := hE.z0 o_q_973
  have hI : Inv (sA (sF g_972 h 61 (.ref q_947)) q_973 50 624) := hI.newi o_q_973 (by decide) (fun _ => rfl) trivial (fun _ => trivial)
  have hM : Sm md_k_Model g (sA (sF g_972 h 61 (.ref q_947)) q_973 50 624) := hM.tr hE (Sm.push o_q_973 sA_g)
  have hE : Ex g (sA (sF g_972 h 61 (.ref q_947)) q_973 50 624) := hE.tr (Ex.push o_q_973 sA_g)
  have hP : PF [61, 59, 58, 57, 56, 55, 54, 53, 48, 47, 46, 45, 44, 43, 42, 41, 40, 39, 35, 33, 32, 31, 28, 27, 26, 25, 23, 20, 19, 18, 17, 16, 15, 14, 13, 12, 11, 10, 9, 8, 7, 6, 5, 4, 3, 2, 1, 60, 52, 51, 50, 49, 38, 37, 36, 34, 30, 29, 24, 22, 21, 0] (sA (sF g_972 h 61 (.ref q_947)) q_973 50 624) h := hP.pu (Ex.push o_q_973 sA_g) (sA_g h (ne0 r_948 o_q_973 (by decide))).2.1
  have zP : ZC (sA (sF g_972 h 61 (.ref q_947)) q_973 50 624) q_15 := zP.pu (sA_g q_15 (ne0 r_950 o_q_973 (by decide))).2.2.2.1
  have zN : ZC (sA (sF g_972 h 61 (.ref q_947)) q_973 50 624) q_387 := zN.pu (sA_g q_387 (ne0 r_953 o_q_973 (by decide))).2.2.2.1
  have r_974 : (sA (sF g_972 h 61 (.ref q_947)) q_973 50 624).1 h = 18 := ((sA_g h (ne0 r_948 o_q_973 (by decide))).1.trans r_948)
  have r_975 : (sA (sF g_972 h 61 (.ref q_947)) q_973 50 624).1 q_8 = 71 := ((sA_g q_8 (ne0 r_949 o_q_973 (by decide))).1.trans r_949)
  have r_976 : (sA (sF g_972 h 61 (.ref q_947)) q_973 50 624).1 q_15 = 72 := ((sA_g q_15 (ne0 r_950 o_q_973 (by decide))).1.trans r_950)
  have r_977 : (sA (sF g_972 h 61 (.ref q_947)) q_973 50 624).1 q_350 = 83 := ((sA_g q_350 (ne0 r_951 o_q_973 (by decide))).1.trans r_951)
  have r_978 : (sA (sF g_972 h 61 (.ref q_947)) q_973 50 624).1 q_367 = 84 := ((sA_g q_367 (ne0 r_952 o_q_973 (by decide))).1.trans r_952)
  have r_979 : (sA (sF g_972 h 61 (.ref q_947)) q_973 50 624).1 q_387 = 85 := ((sA_g q_387 (ne0 r_953 o_q_973 (by decide))).1.trans r_953)
  have r_980 : (sA (sF g_972 h 61 (.ref q_947)) q_973 50 624).1 q_973 = 50 := sA_r
  have n_981 : (sA (sF g_972 h 61 (.ref q_947)) q_973 50 624).2.2.1 q_8 = 48 := ((sA_g q_8 (ne0 r_949 o_q_973 (by decide))).2.2.1.trans n_955)
  have n_982 : (sA (sF g_972 h 61 (.ref q_947)) q_973 50 624).2.2.1 q_15 = 48 := ((sA_g q_15 (ne0 r_950 o_q_973 (by decide))).2.2.1.trans n_956)
  have n_983 : (sA (sF g_972 h 61 (.ref q_947)) q_973 50 624).2.2.1 q_350 = 4 := ((sA_g q_350 (ne0 r_951 o_q_973 (by decide))).2.2.1.trans n_957)
  have n_984 : (sA (sF g_972 h 61 (.ref q_947)) q_973 50 624).2.2.1 q_367 = 8 := ((sA_g q_367 (ne0 r_952 o_q_973 (by decide))).2.2.1.trans n_958)
  have n_985 : (sA (sF g_972 h 61 (.ref q_947)) q_973 50 624).2.2.1 q_387 = 8 := ((sA_g q_387 (ne0 r_953 o_q_973 (by decide))).2.2.1.trans n_959)
  have n_986 : (sA (sF g_972 h 61 (.ref q_947)) q_973 50 624).2.2.1 q_973 = 624 := sA_n
  have kn_987 : (sA (sF g_972 h 61 (.ref q_947)) q_973 50 624).2.1 h 22 = .int 0 := ((congrFun (sA_g h (ne0 r_948 o_q_973 (by decide))).2.1 22).trans (sF_k kn_961 (by decide)))
  have kn_988 : (sA (sF g_972 h 61 (.ref q_947)) q_973 50 624).2.1 h 34 = .int 0 := ((congrFun (sA_g h (ne0 r_948 o_q_973 (by decide))).2.1 34).trans (sF_k kn_962 (by decide)))
  have kn_989 : (sA (sF g_972 h 61 (.ref q_947)) q_973 50 624).2.1 h 2 = .ref q_8 := ((congrFun (sA_g h (ne0 r_948 o_q_973 (by decide))).2.1 2).trans (sF_k kn_963 (by decide)))
  have kn_990 : (sA (sF g_972 h 61 (.ref q_947)) q_973 50 624).2.1 h 3 = .ref q_15 := ((congrFun (sA_g h (ne0 r_948 o_q_973 (by decide))).2.1 3).trans (sF_k kn_964 (by decide)))
  have kn_991 : (sA (sF g_972 h 61 (.ref q_947)) q_973 50 624).2.1 h 35 = .ref q_350 := ((congrFun (sA_g h (ne0 r_948 o_q_973 (by decide))).2.1 35).trans (sF_k kn_965 (by decide)))
  have kn_992 : (sA (sF g_972 h 61 (.ref q_947)) q_973 50 624).2.1 h 39 = .ref q_367 := ((congrFun (sA_g h (ne0 r_948 o_q_973 (by decide))).2.1 39).trans (sF_k kn_966 (by decide)))
  have kn_993 : (sA (sF g_972 h 61 (.ref q_947)) q_973 50 624).2.1 h 40 = .ref q_387 := ((congrFun (sA_g h (ne0 r_948 o_q_973 (by decide))).2.1 40).trans (sF_k kn_967 (by decide)))
  have kn_994 : (sA (sF g_972 h 61 (.ref q_947)) q_973 50 624).2.2.2.1 q_350 (0 : Int32).toNatClampNeg = 1 := ((congrFun (sA_g q_350 (ne0 r_951 o_q_973 (by decide))).2.2.2.1 _).trans kn_968)
  have kn_995 : (sA (sF g_972 h 61 (.ref q_947)) q_973 50 624).2.2.2.1 q_350 (1 : Int32).toNatClampNeg = 1 := ((congrFun (sA_g q_350 (ne0 r_951 o_q_973 (by decide))).2.2.2.1 _).trans kn_969)
  have kn_996 : (sA (sF g_972 h 61 (.ref q_947)) q_973 50 624).2.2.2.1 q_350 (2 : Int32).toNatClampNeg = 1 := ((congrFun (sA_g q_350 (ne0 r_951 o_q_973 (by decide))).2.2.2.1 _).trans kn_970)
  have kn_997 : (sA (sF g_972 h 61 (.ref q_947)) q_973 50 624).2.2.2.1 q_350 (3 : Int32).toNatClampNeg = 1 := ((congrFun (sA_g q_350 (ne0 r_951 o_q_973 (by decide))).2.2.2.1 _).trans kn_971)
  generalize (sA (sF g_972 h 61 (.ref q_947)) q_973 50 624) = g_998 at hT hI hM hE r_974 r_975 r_976 r_977 r_978 r_979 r_980 n_981 n_982 n_983 n_984 n_985 n_986 kn_987 kn_988 kn_989 kn_990 kn_991 kn_992 kn_993 kn_994 kn_995 kn_996 kn_997 hP zP zN
  refine W.widen (k := 48) (n := 4849) (Nat.le_of_ble_eq_true rfl) (Nat.le_of_ble_eq_true rfl) ?_
  refine t_put0 (ci := 7) (v := .ref q_973) hB hT (ro_ci r_974 rfl) (ro_n0 r_974 (by decide)) rfl 62 (by decide) k_807 (Or.inr ⟨hin, rfl⟩) rfl rfl dX7_init_541 (fun H locs hT => ?_)
  have hI : Inv (sF g_998 h 62 (.ref q_973)) := hI.sF (fk r_974 (show fsm _ _ ft from trivial))
  have hM : Sm md_k_Model g (sF g_998 h 62 (.ref q_973)) := hM.tr hE (Sm_sF (by rw [r_974]; rfl))
  have hE : Ex g (sF g_998 h 62 (.ref q_973)) := hE
  have hP : PF [62, 61, 59, 58, 57, 56, 55, 54, 53, 48, 47, 46, 45, 44, 43, 42, 41, 40, 39, 35, 33, 32, 31, 28, 27, 26, 25, 23, 20, 19, 18, 17, 16, 15, 14, 13, 12, 11, 10, 9, 8, 7, 6, 5, 4, 3, 2, 1, 60, 52, 51, 50, 49, 38, 37, 36, 34, 30, 29, 24, 22, 21, 0] (sF g_998 h 62 (.ref q_973)) h := hP.put (q_8_62 (⟨_, rfl, r_980, n_986⟩))
  have zP : ZC (sF g_998 h 62 (.ref q_973)) q_15 := zP
  have zN : ZC (sF g_998 h 62 (.ref q_973)) q_387 := zN
  refine lv_aload_n hx hb dX7_init_544 rfl (lv_at hl 0 rfl) ?_
  refine lv_sipush (v := 24000) hx hb dX7_init_545 (by decide) ?_
  refine t_newi (N' := 24000) hB hT 50 (by decide) k_101 (by decide) (by decide) (by decide) (Nat.le_of_ble_eq_true rfl) (Nat.le_of_ble_eq_true rfl) dX7_init_548 (fun q_999 H o_q_999 hT => ?_)
  have z_q_999 : g.1 q_999 = 0 := hE.z0 o_q_999
  have hI : Inv (sA (sF g_998 h 62 (.ref q_973)) q_999 50 24000) := hI.newi o_q_999 (by decide) (fun _ => rfl) trivial (fun _ => trivial)
  have hM : Sm md_k_Model g (sA (sF g_998 h 62 (.ref q_973)) q_999 50 24000) := hM.tr hE (Sm.push o_q_999 sA_g)
  have hE : Ex g (sA (sF g_998 h 62 (.ref q_973)) q_999 50 24000) := hE.tr (Ex.push o_q_999 sA_g)
  have hP : PF [62, 61, 59, 58, 57, 56, 55, 54, 53, 48, 47, 46, 45, 44, 43, 42, 41, 40, 39, 35, 33, 32, 31, 28, 27, 26, 25, 23, 20, 19, 18, 17, 16, 15, 14, 13, 12, 11, 10, 9, 8, 7, 6, 5, 4, 3, 2, 1, 60, 52, 51, 50, 49, 38, 37, 36, 34, 30, 29, 24, 22, 21, 0] (sA (sF g_998 h 62 (.ref q_973)) q_999 50 24000) h := hP.pu (Ex.push o_q_999 sA_g) (sA_g h (ne0 r_974 o_q_999 (by decide))).2.1
  have zP : ZC (sA (sF g_998 h 62 (.ref q_973)) q_999 50 24000) q_15 := zP.pu (sA_g q_15 (ne0 r_976 o_q_999 (by decide))).2.2.2.1
  have zN : ZC (sA (sF g_998 h 62 (.ref q_973)) q_999 50 24000) q_387 := zN.pu (sA_g q_387 (ne0 r_979 o_q_999 (by decide))).2.2.2.1
  have r_1000 : (sA (sF g_998 h 62 (.ref q_973)) q_999 50 24000).1 h = 18 := ((sA_g h (ne0 r_974 o_q_999 (by decide))).1.trans r_974)
  have r_1001 : (sA (sF g_998 h 62 (.ref q_973)) q_999 50 24000).1 q_8 = 71 := ((sA_g q_8 (ne0 r_975 o_q_999 (by decide))).1.trans r_975)
  have r_1002 : (sA (sF g_998 h 62 (.ref q_973)) q_999 50 24000).1 q_15 = 72 := ((sA_g q_15 (ne0 r_976 o_q_999 (by decide))).1.trans r_976)
  have r_1003 : (sA (sF g_998 h 62 (.ref q_973)) q_999 50 24000).1 q_350 = 83 := ((sA_g q_350 (ne0 r_977 o_q_999 (by decide))).1.trans r_977)
  have r_1004 : (sA (sF g_998 h 62 (.ref q_973)) q_999 50 24000).1 q_367 = 84 := ((sA_g q_367 (ne0 r_978 o_q_999 (by decide))).1.trans r_978)
  have r_1005 : (sA (sF g_998 h 62 (.ref q_973)) q_999 50 24000).1 q_387 = 85 := ((sA_g q_387 (ne0 r_979 o_q_999 (by decide))).1.trans r_979)
  have r_1006 : (sA (sF g_998 h 62 (.ref q_973)) q_999 50 24000).1 q_999 = 50 := sA_r
  have n_1007 : (sA (sF g_998 h 62 (.ref q_973)) q_999 50 24000).2.2.1 q_8 = 48 := ((sA_g q_8 (ne0 r_975 o_q_999 (by decide))).2.2.1.trans n_981)
  have n_1008 : (sA (sF g_998 h 62 (.ref q_973)) q_999 50 24000).2.2.1 q_15 = 48 := ((sA_g q_15 (ne0 r_976 o_q_999 (by decide))).2.2.1.trans n_982)
  have n_1009 : (sA (sF g_998 h 62 (.ref q_973)) q_999 50 24000).2.2.1 q_350 = 4 := ((sA_g q_350 (ne0 r_977 o_q_999 (by decide))).2.2.1.trans n_983)
  have n_1010 : (sA (sF g_998 h 62 (.ref q_973)) q_999 50 24000).2.2.1 q_367 = 8 := ((sA_g q_367 (ne0 r_978 o_q_999 (by decide))).2.2.1.trans n_984)
  have n_1011 : (sA (sF g_998 h 62 (.ref q_973)) q_999 50 24000).2.2.1 q_387 = 8 := ((sA_g q_387 (ne0 r_979 o_q_999 (by decide))).2.2.1.trans n_985)
  have n_1012 : (sA (sF g_998 h 62 (.ref q_973)) q_999 50 24000).2.2.1 q_999 = 24000 := sA_n
  have kn_1013 : (sA (sF g_998 h 62 (.ref q_973)) q_999 50 24000).2.1 h 22 = .int 0 := ((congrFun (sA_g h (ne0 r_974 o_q_999 (by decide))).2.1 22).trans (sF_k kn_987 (by decide)))
  have kn_1014 : (sA (sF g_998 h 62 (.ref q_973)) q_999 50 24000).2.1 h 34 = .int 0 := ((congrFun (sA_g h (ne0 r_974 o_q_999 (by decide))).2.1 34).trans (sF_k kn_988 (by decide)))
  have kn_1015 : (sA (sF g_998 h 62 (.ref q_973)) q_999 50 24000).2.1 h 2 = .ref q_8 := ((congrFun (sA_g h (ne0 r_974 o_q_999 (by decide))).2.1 2).trans (sF_k kn_989 (by decide)))
  have kn_1016 : (sA (sF g_998 h 62 (.ref q_973)) q_999 50 24000).2.1 h 3 = .ref q_15 := ((congrFun (sA_g h (ne0 r_974 o_q_999 (by decide))).2.1 3).trans (sF_k kn_990 (by decide)))
  have kn_1017 : (sA (sF g_998 h 62 (.ref q_973)) q_999 50 24000).2.1 h 35 = .ref q_350 := ((congrFun (sA_g h (ne0 r_974 o_q_999 (by decide))).2.1 35).trans (sF_k kn_991 (by decide)))
  have kn_1018 : (sA (sF g_998 h 62 (.ref q_973)) q_999 50 24000).2.1 h 39 = .ref q_367 := ((congrFun (sA_g h (ne0 r_974 o_q_999 (by decide))).2.1 39).trans (sF_k kn_992 (by decide)))
  have kn_1019 : (sA (sF g_998 h 62 (.ref q_973)) q_999 50 24000).2.1 h 40 = .ref q_387 := ((congrFun (sA_g h (ne0 r_974 o_q_999 (by decide))).2.1 40).trans (sF_k kn_993 (by decide)))
  have kn_1020 : (sA (sF g_998 h 62 (.ref q_973)) q_999 50 24000).2.2.2.1 q_350 (0 : Int32).toNatClampNeg = 1 := ((congrFun (sA_g q_350 (ne0 r_977 o_q_999 (by decide))).2.2.2.1 _).trans kn_994)
  have kn_1021 : (sA (sF g_998 h 62 (.ref q_973)) q_999 50 24000).2.2.2.1 q_350 (1 : Int32).toNatClampNeg = 1 := ((congrFun (sA_g q_350 (ne0 r_977 o_q_999 (by decide))).2.2.2.1 _).trans kn_995)
  have kn_1022 : (sA (sF g_998 h 62 (.ref q_973)) q_999 50 24000).2.2.2.1 q_350 (2 : Int32).toNatClampNeg = 1 := ((congrFun (sA_g q_350 (ne0 r_977 o_q_999 (by decide))).2.2.2.1 _).trans kn_996)
  have kn_1023 : (sA (sF g_998 h 62 (.ref q_973)) q_999 50 24000).2.2.2.1 q_350 (3 : Int32).toNatClampNeg = 1 := ((congrFun (sA_g q_350 (ne0 r_977 o_q_999 (by decide))).2.2.2.1 _).trans kn_997)
  generalize (sA (sF g_998 h 62 (.ref q_973)) q_999 50 24000) = g_1024 at hT hI hM hE r_1000 r_1001 r_1002 r_1003 r_1004 r_1005 r_1006 n_1007 n_1008 n_1009 n_1010 n_1011 n_1012 kn_1013 kn_1014 kn_1015 kn_1016 kn_1017 kn_1018 kn_1019 kn_1020 kn_1021 kn_1022 kn_1023 hP zP zN
  refine W.widen (k := 49) (n := 28849) (Nat.le_of_ble_eq_true rfl) (Nat.le_of_ble_eq_true rfl) ?_
  refine t_put0 (ci := 7) (v := .ref q_999) hB hT (ro_ci r_1000 rfl) (ro_n0 r_1000 (by decide)) rfl 63 (by decide) k_808 (Or.inr ⟨hin, rfl⟩) rfl rfl dX7_init_550 (fun H locs hT => ?_)
  have hI : Inv (sF g_1024 h 63 (.ref q_999)) := hI.sF (fk r_1000 (show fsm _ _ ft from trivial))
  have hM : Sm md_k_Model g (sF g_1024 h 63 (.ref q_999)) := hM.tr hE (Sm_sF (by rw [r_1000]; rfl))
  have hE : Ex g (sF g_1024 h 63 (.ref q_999)) := hE
  have hP : PF [63, 62, 61, 59, 58, 57, 56, 55, 54, 53, 48, 47, 46, 45, 44, 43, 42, 41, 40, 39, 35, 33, 32, 31, 28, 27, 26, 25, 23, 20, 19, 18, 17, 16, 15, 14, 13, 12, 11, 10, 9, 8, 7, 6, 5, 4, 3, 2, 1, 60, 52, 51, 50, 49, 38, 37, 36, 34, 30, 29, 24, 22, 21, 0] (sF g_1024 h 63 (.ref q_999)) h := hP.put (q_8_63 (⟨_, rfl, r_1006, n_1012⟩))
  have zP : ZC (sF g_1024 h 63 (.ref q_999)) q_15 := zP
  have zN : ZC (sF g_1024 h 63 (.ref q_999)) q_387 := zN
  refine lv_aload_n hx hb dX7_init_553 rfl (lv_at hl 0 rfl) ?_
  refine lv_sipush (v := 1000) hx hb dX7_init_554 (by decide) ?_
  refine t_newi (N' := 1000) hB hT 50 (by decide) k_101 (by decide) (by decide) (by decide) (Nat.le_of_ble_eq_true rfl) (Nat.le_of_ble_eq_true rfl) dX7_init_557 (fun q_1025 H o_q_1025 hT => ?_)
  have z_q_1025 : g.1 q_1025 = 0 := hE.z0 o_q_1025
  have hI : Inv (sA (sF g_1024 h 63 (.ref q_999)) q_1025 50 1000) := hI.newi o_q_1025 (by decide) (fun _ => rfl) trivial (fun _ => trivial)
  have hM : Sm md_k_Model g (sA (sF g_1024 h 63 (.ref q_999)) q_1025 50 1000) := hM.tr hE (Sm.push o_q_1025 sA_g)
  have hE : Ex g (sA (sF g_1024 h 63 (.ref q_999)) q_1025 50 1000) := hE.tr (Ex.push o_q_1025 sA_g)
  have hP : PF [63, 62, 61, 59, 58, 57, 56, 55, 54, 53, 48, 47, 46, 45, 44, 43, 42, 41, 40, 39, 35, 33, 32, 31, 28, 27, 26, 25, 23, 20, 19, 18, 17, 16, 15, 14, 13, 12, 11, 10, 9, 8, 7, 6, 5, 4, 3, 2, 1, 60, 52, 51, 50, 49, 38, 37, 36, 34, 30, 29, 24, 22, 21, 0] (sA (sF g_1024 h 63 (.ref q_999)) q_1025 50 1000) h := hP.pu (Ex.push o_q_1025 sA_g) (sA_g h (ne0 r_1000 o_q_1025 (by decide))).2.1
  have zP : ZC (sA (sF g_1024 h 63 (.ref q_999)) q_1025 50 1000) q_15 := zP.pu (sA_g q_15 (ne0 r_1002 o_q_1025 (by decide))).2.2.2.1
  have zN : ZC (sA (sF g_1024 h 63 (.ref q_999)) q_1025 50 1000) q_387 := zN.pu (sA_g q_387 (ne0 r_1005 o_q_1025 (by decide))).2.2.2.1
  have r_1026 : (sA (sF g_1024 h 63 (.ref q_999)) q_1025 50 1000).1 h = 18 := ((sA_g h (ne0 r_1000 o_q_1025 (by decide))).1.trans r_1000)
  have r_1027 : (sA (sF g_1024 h 63 (.ref q_999)) q_1025 50 1000).1 q_8 = 71 := ((sA_g q_8 (ne0 r_1001 o_q_1025 (by decide))).1.trans r_1001)
  have r_1028 : (sA (sF g_1024 h 63 (.ref q_999)) q_1025 50 1000).1 q_15 = 72 := ((sA_g q_15 (ne0 r_1002 o_q_1025 (by decide))).1.trans r_1002)
  have r_1029 : (sA (sF g_1024 h 63 (.ref q_999)) q_1025 50 1000).1 q_350 = 83 := ((sA_g q_350 (ne0 r_1003 o_q_1025 (by decide))).1.trans r_1003)
  have r_1030 : (sA (sF g_1024 h 63 (.ref q_999)) q_1025 50 1000).1 q_367 = 84 := ((sA_g q_367 (ne0 r_1004 o_q_1025 (by decide))).1.trans r_1004)
  have r_1031 : (sA (sF g_1024 h 63 (.ref q_999)) q_1025 50 1000).1 q_387 = 85 := ((sA_g q_387 (ne0 r_1005 o_q_1025 (by decide))).1.trans r_1005)
  have r_1032 : (sA (sF g_1024 h 63 (.ref q_999)) q_1025 50 1000).1 q_1025 = 50 := sA_r
  have n_1033 : (sA (sF g_1024 h 63 (.ref q_999)) q_1025 50 1000).2.2.1 q_8 = 48 := ((sA_g q_8 (ne0 r_1001 o_q_1025 (by decide))).2.2.1.trans n_1007)
  have n_1034 : (sA (sF g_1024 h 63 (.ref q_999)) q_1025 50 1000).2.2.1 q_15 = 48 := ((sA_g q_15 (ne0 r_1002 o_q_1025 (by decide))).2.2.1.trans n_1008)
  have n_1035 : (sA (sF g_1024 h 63 (.ref q_999)) q_1025 50 1000).2.2.1 q_350 = 4 := ((sA_g q_350 (ne0 r_1003 o_q_1025 (by decide))).2.2.1.trans n_1009)
  have n_1036 : (sA (sF g_1024 h 63 (.ref q_999)) q_1025 50 1000).2.2.1 q_367 = 8 := ((sA_g q_367 (ne0 r_1004 o_q_1025 (by decide))).2.2.1.trans n_1010)
  have n_1037 : (sA (sF g_1024 h 63 (.ref q_999)) q_1025 50 1000).2.2.1 q_387 = 8 := ((sA_g q_387 (ne0 r_1005 o_q_1025 (by decide))).2.2.1.trans n_1011)
  have n_1038 : (sA (sF g_1024 h 63 (.ref q_999)) q_1025 50 1000).2.2.1 q_1025 = 1000 := sA_n
  have kn_1039 : (sA (sF g_1024 h 63 (.ref q_999)) q_1025 50 1000).2.1 h 22 = .int 0 := ((congrFun (sA_g h (ne0 r_1000 o_q_1025 (by decide))).2.1 22).trans (sF_k kn_1013 (by decide)))
  have kn_1040 : (sA (sF g_1024 h 63 (.ref q_999)) q_1025 50 1000).2.1 h 34 = .int 0 := ((congrFun (sA_g h (ne0 r_1000 o_q_1025 (by decide))).2.1 34).trans (sF_k kn_1014 (by decide)))
  have kn_1041 : (sA (sF g_1024 h 63 (.ref q_999)) q_1025 50 1000).2.1 h 2 = .ref q_8 := ((congrFun (sA_g h (ne0 r_1000 o_q_1025 (by decide))).2.1 2).trans (sF_k kn_1015 (by decide)))
  have kn_1042 : (sA (sF g_1024 h 63 (.ref q_999)) q_1025 50 1000).2.1 h 3 = .ref q_15 := ((congrFun (sA_g h (ne0 r_1000 o_q_1025 (by decide))).2.1 3).trans (sF_k kn_1016 (by decide)))
  have kn_1043 : (sA (sF g_1024 h 63 (.ref q_999)) q_1025 50 1000).2.1 h 35 = .ref q_350 := ((congrFun (sA_g h (ne0 r_1000 o_q_1025 (by decide))).2.1 35).trans (sF_k kn_1017 (by decide)))
  have kn_1044 : (sA (sF g_1024 h 63 (.ref q_999)) q_1025 50 1000).2.1 h 39 = .ref q_367 := ((congrFun (sA_g h (ne0 r_1000 o_q_1025 (by decide))).2.1 39).trans (sF_k kn_1018 (by decide)))
  have kn_1045 : (sA (sF g_1024 h 63 (.ref q_999)) q_1025 50 1000).2.1 h 40 = .ref q_387 := ((congrFun (sA_g h (ne0 r_1000 o_q_1025 (by decide))).2.1 40).trans (sF_k kn_1019 (by decide)))
  have kn_1046 : (sA (sF g_1024 h 63 (.ref q_999)) q_1025 50 1000).2.2.2.1 q_350 (0 : Int32).toNatClampNeg = 1 := ((congrFun (sA_g q_350 (ne0 r_1003 o_q_1025 (by decide))).2.2.2.1 _).trans kn_1020)
  have kn_1047 : (sA (sF g_1024 h 63 (.ref q_999)) q_1025 50 1000).2.2.2.1 q_350 (1 : Int32).toNatClampNeg = 1 := ((congrFun (sA_g q_350 (ne0 r_1003 o_q_1025 (by decide))).2.2.2.1 _).trans kn_1021)
  have kn_1048 : (sA (sF g_1024 h 63 (.ref q_999)) q_1025 50 1000).2.2.2.1 q_350 (2 : Int32).toNatClampNeg = 1 := ((congrFun (sA_g q_350 (ne0 r_1003 o_q_1025 (by decide))).2.2.2.1 _).trans kn_1022)
  have kn_1049 : (sA (sF g_1024 h 63 (.ref q_999)) q_1025 50 1000).2.2.2.1 q_350 (3 : Int32).toNatClampNeg = 1 := ((congrFun (sA_g q_350 (ne0 r_1003 o_q_1025 (by decide))).2.2.2.1 _).trans kn_1023)
  generalize (sA (sF g_1024 h 63 (.ref q_999)) q_1025 50 1000) = g_1050 at hT hI hM hE r_1026 r_1027 r_1028 r_1029 r_1030 r_1031 r_1032 n_1033 n_1034 n_1035 n_1036 n_1037 n_1038 kn_1039 kn_1040 kn_1041 kn_1042 kn_1043 kn_1044 kn_1045 kn_1046 kn_1047 kn_1048 kn_1049 hP zP zN
  refine W.widen (k := 50) (n := 29849) (Nat.le_of_ble_eq_true rfl) (Nat.le_of_ble_eq_true rfl) ?_
  refine t_put0 (ci := 7) (v := .ref q_1025) hB hT (ro_ci r_1026 rfl) (ro_n0 r_1026 (by decide)) rfl 64 (by decide) k_809 (Or.inr ⟨hin, rfl⟩) rfl rfl dX7_init_559 (fun H locs hT => ?_)
  have hI : Inv (sF g_1050 h 64 (.ref q_1025)) := hI.sF (fk r_1026 (show fsm _ _ ft from trivial))
  have hM : Sm md_k_Model g (sF g_1050 h 64 (.ref q_1025)) := hM.tr hE (Sm_sF (by rw [r_1026]; rfl))
  have hE : Ex g (sF g_1050 h 64 (.ref q_1025)) := hE
  have hP : PF [64, 63, 62, 61, 59, 58, 57, 56, 55, 54, 53, 48, 47, 46, 45, 44, 43, 42, 41, 40, 39, 35, 33, 32, 31, 28, 27, 26, 25, 23, 20, 19, 18, 17, 16, 15, 14, 13, 12, 11, 10, 9, 8, 7, 6, 5, 4, 3, 2, 1, 60, 52, 51, 50, 49, 38, 37, 36, 34, 30, 29, 24, 22, 21, 0] (sF g_1050 h 64 (.ref q_1025)) h := hP.put (q_8_64 (⟨_, rfl, r_1032, n_1038⟩))
  have zP : ZC (sF g_1050 h 64 (.ref q_1025)) q_15 := zP
  have zN : ZC (sF g_1050 h 64 (.ref q_1025)) q_387 := zN
  refine lv_aload_n hx hb dX7_init_562 rfl (lv_at hl 0 rfl) ?_
  refine lv_bipush (v := 6) hx hb dX7_init_563 (by decide) ?_
  refine t_newi (N' := 6) hB hT 50 (by decide) k_101 (by decide) (by decide) (by decide) (Nat.le_of_ble_eq_true rfl) (Nat.le_of_ble_eq_true rfl) dX7_init_565 (fun q_1051 H o_q_1051 hT => ?_)
  have z_q_1051 : g.1 q_1051 = 0 := hE.z0 o_q_1051
  have hI : Inv (sA (sF g_1050 h 64 (.ref q_1025)) q_1051 50 6) := hI.newi o_q_1051 (by decide) (fun _ => rfl) trivial (fun _ => trivial)
  have hM : Sm md_k_Model g (sA (sF g_1050 h 64 (.ref q_1025)) q_1051 50 6) := hM.tr hE (Sm.push o_q_1051 sA_g)
  have hE : Ex g (sA (sF g_1050 h 64 (.ref q_1025)) q_1051 50 6) := hE.tr (Ex.push o_q_1051 sA_g)
  have hP : PF [64, 63, 62, 61, 59, 58, 57, 56, 55, 54, 53, 48, 47, 46, 45, 44, 43, 42, 41, 40, 39, 35, 33, 32, 31, 28, 27, 26, 25, 23, 20, 19, 18, 17, 16, 15, 14, 13, 12, 11, 10, 9, 8, 7, 6, 5, 4, 3, 2, 1, 60, 52, 51, 50, 49, 38, 37, 36, 34, 30, 29, 24, 22, 21, 0] (sA (sF g_1050 h 64 (.ref q_1025)) q_1051 50 6) h := hP.pu (Ex.push o_q_1051 sA_g) (sA_g h (ne0 r_1026 o_q_1051 (by decide))).2.1
  have zP : ZC (sA (sF g_1050 h 64 (.ref q_1025)) q_1051 50 6) q_15 := zP.pu (sA_g q_15 (ne0 r_1028 o_q_1051 (by decide))).2.2.2.1
  have zN : ZC (sA (sF g_1050 h 64 (.ref q_1025)) q_1051 50 6) q_387 := zN.pu (sA_g q_387 (ne0 r_1031 o_q_1051 (by decide))).2.2.2.1
  have r_1052 : (sA (sF g_1050 h 64 (.ref q_1025)) q_1051 50 6).1 h = 18 := ((sA_g h (ne0 r_1026 o_q_1051 (by decide))).1.trans r_1026)
  have r_1053 : (sA (sF g_1050 h 64 (.ref q_1025)) q_1051 50 6).1 q_8 = 71 := ((sA_g q_8 (ne0 r_1027 o_q_1051 (by decide))).1.trans r_1027)
  have r_1054 : (sA (sF g_1050 h 64 (.ref q_1025)) q_1051 50 6).1 q_15 = 72 := ((sA_g q_15 (ne0 r_1028 o_q_1051 (by decide))).1.trans r_1028)
  have r_1055 : (sA (sF g_1050 h 64 (.ref q_1025)) q_1051 50 6).1 q_350 = 83 := ((sA_g q_350 (ne0 r_1029 o_q_1051 (by decide))).1.trans r_1029)
  have r_1056 : (sA (sF g_1050 h 64 (.ref q_1025)) q_1051 50 6).1 q_367 = 84 := ((sA_g q_367 (ne0 r_1030 o_q_1051 (by decide))).1.trans r_1030)
  have r_1057 : (sA (sF g_1050 h 64 (.ref q_1025)) q_1051 50 6).1 q_387 = 85 := ((sA_g q_387 (ne0 r_1031 o_q_1051 (by decide))).1.trans r_1031)
  have r_1058 : (sA (sF g_1050 h 64 (.ref q_1025)) q_1051 50 6).1 q_1051 = 50 := sA_r
  have n_1059 : (sA (sF g_1050 h 64 (.ref q_1025)) q_1051 50 6).2.2.1 q_8 = 48 := ((sA_g q_8 (ne0 r_1027 o_q_1051 (by decide))).2.2.1.trans n_1033)
  have n_1060 : (sA (sF g_1050 h 64 (.ref q_1025)) q_1051 50 6).2.2.1 q_15 = 48 := ((sA_g q_15 (ne0 r_1028 o_q_1051 (by decide))).2.2.1.trans n_1034)
  have n_1061 : (sA (sF g_1050 h 64 (.ref q_1025)) q_1051 50 6).2.2.1 q_350 = 4 := ((sA_g q_350 (ne0 r_1029 o_q_1051 (by decide))).2.2.1.trans n_1035)
  have n_1062 : (sA (sF g_1050 h 64 (.ref q_1025)) q_1051 50 6).2.2.1 q_367 = 8 := ((sA_g q_367 (ne0 r_1030 o_q_1051 (by decide))).2.2.1.trans n_1036)
  have n_1063 : (sA (sF g_1050 h 64 (.ref q_1025)) q_1051 50 6).2.2.1 q_387 = 8 := ((sA_g q_387 (ne0 r_1031 o_q_1051 (by decide))).2.2.1.trans n_1037)
  have n_1064 : (sA (sF g_1050 h 64 (.ref q_1025)) q_1051 50 6).2.2.1 q_1051 = 6 := sA_n
  have kn_1065 : (sA (sF g_1050 h 64 (.ref q_1025)) q_1051 50 6).2.1 h 22 = .int 0 := ((congrFun (sA_g h (ne0 r_1026 o_q_1051 (by decide))).2.1 22).trans (sF_k kn_1039 (by decide)))
  have kn_1066 : (sA (sF g_1050 h 64 (.ref q_1025)) q_1051 50 6).2.1 h 34 = .int 0 := ((congrFun (sA_g h (ne0 r_1026 o_q_1051 (by decide))).2.1 34).trans (sF_k kn_1040 (by decide)))
  have kn_1067 : (sA (sF g_1050 h 64 (.ref q_1025)) q_1051 50 6).2.1 h 2 = .ref q_8 := ((congrFun (sA_g h (ne0 r_1026 o_q_1051 (by decide))).2.1 2).trans (sF_k kn_1041 (by decide)))
  have kn_1068 : (sA (sF g_1050 h 64 (.ref q_1025)) q_1051 50 6).2.1 h 3 = .ref q_15 := ((congrFun (sA_g h (ne0 r_1026 o_q_1051 (by decide))).2.1 3).trans (sF_k kn_1042 (by decide)))
  have kn_1069 : (sA (sF g_1050 h 64 (.ref q_1025)) q_1051 50 6).2.1 h 35 = .ref q_350 := ((congrFun (sA_g h (ne0 r_1026 o_q_1051 (by decide))).2.1 35).trans (sF_k kn_1043 (by decide)))
  have kn_1070 : (sA (sF g_1050 h 64 (.ref q_1025)) q_1051 50 6).2.1 h 39 = .ref q_367 := ((congrFun (sA_g h (ne0 r_1026 o_q_1051 (by decide))).2.1 39).trans (sF_k kn_1044 (by decide)))
  have kn_1071 : (sA (sF g_1050 h 64 (.ref q_1025)) q_1051 50 6).2.1 h 40 = .ref q_387 := ((congrFun (sA_g h (ne0 r_1026 o_q_1051 (by decide))).2.1 40).trans (sF_k kn_1045 (by decide)))
  have kn_1072 : (sA (sF g_1050 h 64 (.ref q_1025)) q_1051 50 6).2.2.2.1 q_350 (0 : Int32).toNatClampNeg = 1 := ((congrFun (sA_g q_350 (ne0 r_1029 o_q_1051 (by decide))).2.2.2.1 _).trans kn_1046)
  have kn_1073 : (sA (sF g_1050 h 64 (.ref q_1025)) q_1051 50 6).2.2.2.1 q_350 (1 : Int32).toNatClampNeg = 1 := ((congrFun (sA_g q_350 (ne0 r_1029 o_q_1051 (by decide))).2.2.2.1 _).trans kn_1047)
  have kn_1074 : (sA (sF g_1050 h 64 (.ref q_1025)) q_1051 50 6).2.2.2.1 q_350 (2 : Int32).toNatClampNeg = 1 := ((congrFun (sA_g q_350 (ne0 r_1029 o_q_1051 (by decide))).2.2.2.1 _).trans kn_1048)
  have kn_1075 : (sA (sF g_1050 h 64 (.ref q_1025)) q_1051 50 6).2.2.2.1 q_350 (3 : Int32).toNatClampNeg = 1 := ((congrFun (sA_g q_350 (ne0 r_1029 o_q_1051 (by decide))).2.2.2.1 _).trans kn_1049)
  generalize (sA (sF g_1050 h 64 (.ref q_1025)) q_1051 50 6) = g_1076 at hT hI hM hE r_1052 r_1053 r_1054 r_1055 r_1056 r_1057 r_1058 n_1059 n_1060 n_1061 n_1062 n_1063 n_1064 kn_1065 kn_1066 kn_1067 kn_1068 kn_1069 kn_1070 kn_1071 kn_1072 kn_1073 kn_1074 kn_1075 hP zP zN
  refine W.widen (k := 51) (n := 29855) (Nat.le_of_ble_eq_true rfl) (Nat.le_of_ble_eq_true rfl) ?_
  refine t_put0 (ci := 7) (v := .ref q_1051) hB hT (ro_ci r_1052 rfl) (ro_n0 r_1052 (by decide)) rfl 65 (by decide) k_810 (Or.inr ⟨hin, rfl⟩) rfl rfl dX7_init_567 (fun H locs hT => ?_)
  have hI : Inv (sF g_1076 h 65 (.ref q_1051)) := hI.sF (fk r_1052 (show fsm _ _ ft from trivial))
  have hM : Sm md_k_Model g (sF g_1076 h 65 (.ref q_1051)) := hM.tr hE (Sm_sF (by rw [r_1052]; rfl))
  have hE : Ex g (sF g_1076 h 65 (.ref q_1051)) := hE
  have hP : PF [65, 64, 63, 62, 61, 59, 58, 57, 56, 55, 54, 53, 48, 47, 46, 45, 44, 43, 42, 41, 40, 39, 35, 33, 32, 31, 28, 27, 26, 25, 23, 20, 19, 18, 17, 16, 15, 14, 13, 12, 11, 10, 9, 8, 7, 6, 5, 4, 3, 2, 1, 60, 52, 51, 50, 49, 38, 37, 36, 34, 30, 29, 24, 22, 21, 0] (sF g_1076 h 65 (.ref q_1051)) h := hP.put (q_8_65 (⟨_, rfl, r_1058, n_1064⟩))
  have zP : ZC (sF g_1076 h 65 (.ref q_1051)) q_15 := zP
  have zN : ZC (sF g_1076 h 65 (.ref q_1051)) q_387 := zN
  refine lv_aload_n hx hb dX7_init_570 rfl (lv_at hl 0 rfl) ?_
  refine lv_bipush (v := 6) hx hb dX7_init_571 (by decide) ?_
  refine t_newi (N' := 6) hB hT 50 (by decide) k_101 (by decide) (by decide) (by decide) (Nat.le_of_ble_eq_true rfl) (Nat.le_of_ble_eq_true rfl) dX7_init_573 (fun q_1077 H o_q_1077 hT => ?_)
  have z_q_1077 : g.1 q_1077 = 0 := hE.z0 o_q_1077
  have hI : Inv (sA (sF g_1076 h 65 (.ref q_1051)) q_1077 50 6) := hI.newi o_q_1077 (by decide) (fun _ => rfl) trivial (fun _ => trivial)
  have hM : Sm md_k_Model g (sA (sF g_1076 h 65 (.ref q_1051)) q_1077 50 6) := hM.tr hE (Sm.push o_q_1077 sA_g)
  have hE : Ex g (sA (sF g_1076 h 65 (.ref q_1051)) q_1077 50 6) := hE.tr (Ex.push o_q_1077 sA_g)
  have hP : PF [65, 64, 63, 62, 61, 59, 58, 57, 56, 55, 54, 53, 48, 47, 46, 45, 44, 43, 42, 41, 40, 39, 35, 33, 32, 31, 28, 27, 26, 25, 23, 20, 19, 18, 17, 16, 15, 14, 13, 12, 11, 10, 9, 8, 7, 6, 5, 4, 3, 2, 1, 60, 52, 51, 50, 49, 38, 37, 36, 34, 30, 29, 24, 22, 21, 0] (sA (sF g_1076 h 65 (.ref q_1051)) q_1077 50 6) h := hP.pu (Ex.push o_q_1077 sA_g) (sA_g h (ne0 r_1052 o_q_1077 (by decide))).2.1
  have zP : ZC (sA (sF g_1076 h 65 (.ref q_1051)) q_1077 50 6) q_15 := zP.pu (sA_g q_15 (ne0 r_1054 o_q_1077 (by decide))).2.2.2.1
  have zN : ZC (sA (sF g_1076 h 65 (.ref q_1051)) q_1077 50 6) q_387 := zN.pu (sA_g q_387 (ne0 r_1057 o_q_1077 (by decide))).2.2.2.1
  have r_1078 : (sA (sF g_1076 h 65 (.ref q_1051)) q_1077 50 6).1 h = 18 := ((sA_g h (ne0 r_1052 o_q_1077 (by decide))).1.trans r_1052)
  have r_1079 : (sA (sF g_1076 h 65 (.ref q_1051)) q_1077 50 6).1 q_8 = 71 := ((sA_g q_8 (ne0 r_1053 o_q_1077 (by decide))).1.trans r_1053)
  have r_1080 : (sA (sF g_1076 h 65 (.ref q_1051)) q_1077 50 6).1 q_15 = 72 := ((sA_g q_15 (ne0 r_1054 o_q_1077 (by decide))).1.trans r_1054)
  have r_1081 : (sA (sF g_1076 h 65 (.ref q_1051)) q_1077 50 6).1 q_350 = 83 := ((sA_g q_350 (ne0 r_1055 o_q_1077 (by decide))).1.trans r_1055)
  have r_1082 : (sA (sF g_1076 h 65 (.ref q_1051)) q_1077 50 6).1 q_367 = 84 := ((sA_g q_367 (ne0 r_1056 o_q_1077 (by decide))).1.trans r_1056)
  have r_1083 : (sA (sF g_1076 h 65 (.ref q_1051)) q_1077 50 6).1 q_387 = 85 := ((sA_g q_387 (ne0 r_1057 o_q_1077 (by decide))).1.trans r_1057)
  have r_1084 : (sA (sF g_1076 h 65 (.ref q_1051)) q_1077 50 6).1 q_1077 = 50 := sA_r
  have n_1085 : (sA (sF g_1076 h 65 (.ref q_1051)) q_1077 50 6).2.2.1 q_8 = 48 := ((sA_g q_8 (ne0 r_1053 o_q_1077 (by decide))).2.2.1.trans n_1059)
  have n_1086 : (sA (sF g_1076 h 65 (.ref q_1051)) q_1077 50 6).2.2.1 q_15 = 48 := ((sA_g q_15 (ne0 r_1054 o_q_1077 (by decide))).2.2.1.trans n_1060)
  have n_1087 : (sA (sF g_1076 h 65 (.ref q_1051)) q_1077 50 6).2.2.1 q_350 = 4 := ((sA_g q_350 (ne0 r_1055 o_q_1077 (by decide))).2.2.1.trans n_1061)
  have n_1088 : (sA (sF g_1076 h 65 (.ref q_1051)) q_1077 50 6).2.2.1 q_367 = 8 := ((sA_g q_367 (ne0 r_1056 o_q_1077 (by decide))).2.2.1.trans n_1062)
  have n_1089 : (sA (sF g_1076 h 65 (.ref q_1051)) q_1077 50 6).2.2.1 q_387 = 8 := ((sA_g q_387 (ne0 r_1057 o_q_1077 (by decide))).2.2.1.trans n_1063)
  have n_1090 : (sA (sF g_1076 h 65 (.ref q_1051)) q_1077 50 6).2.2.1 q_1077 = 6 := sA_n
  have kn_1091 : (sA (sF g_1076 h 65 (.ref q_1051)) q_1077 50 6).2.1 h 22 = .int 0 := ((congrFun (sA_g h (ne0 r_1052 o_q_1077 (by decide))).2.1 22).trans (sF_k kn_1065 (by decide)))
  have kn_1092 : (sA (sF g_1076 h 65 (.ref q_1051)) q_1077 50 6).2.1 h 34 = .int 0 := ((congrFun (sA_g h (ne0 r_1052 o_q_1077 (by decide))).2.1 34).trans (sF_k kn_1066 (by decide)))
  have kn_1093 : (sA (sF g_1076 h 65 (.ref q_1051)) q_1077 50 6).2.1 h 2 = .ref q_8 := ((congrFun (sA_g h (ne0 r_1052 o_q_1077 (by decide))).2.1 2).trans (sF_k kn_1067 (by decide)))
  have kn_1094 : (sA (sF g_1076 h 65 (.ref q_1051)) q_1077 50 6).2.1 h 3 = .ref q_15 := ((congrFun (sA_g h (ne0 r_1052 o_q_1077 (by decide))).2.1 3).trans (sF_k kn_1068 (by decide)))
  have kn_1095 : (sA (sF g_1076 h 65 (.ref q_1051)) q_1077 50 6).2.1 h 35 = .ref q_350 := ((congrFun (sA_g h (ne0 r_1052 o_q_1077 (by decide))).2.1 35).trans (sF_k kn_1069 (by decide)))
  have kn_1096 : (sA (sF g_1076 h 65 (.ref q_1051)) q_1077 50 6).2.1 h 39 = .ref q_367 := ((congrFun (sA_g h (ne0 r_1052 o_q_1077 (by decide))).2.1 39).trans (sF_k kn_1070 (by decide)))
  have kn_1097 : (sA (sF g_1076 h 65 (.ref q_1051)) q_1077 50 6).2.1 h 40 = .ref q_387 := ((congrFun (sA_g h (ne0 r_1052 o_q_1077 (by decide))).2.1 40).trans (sF_k kn_1071 (by decide)))
  have kn_1098 : (sA (sF g_1076 h 65 (.ref q_1051)) q_1077 50 6).2.2.2.1 q_350 (0 : Int32).toNatClampNeg = 1 := ((congrFun (sA_g q_350 (ne0 r_1055 o_q_1077 (by decide))).2.2.2.1 _).trans kn_1072)
  have kn_1099 : (sA (sF g_1076 h 65 (.ref q_1051)) q_1077 50 6).2.2.2.1 q_350 (1 : Int32).toNatClampNeg = 1 := ((congrFun (sA_g q_350 (ne0 r_1055 o_q_1077 (by decide))).2.2.2.1 _).trans kn_1073)
  have kn_1100 : (sA (sF g_1076 h 65 (.ref q_1051)) q_1077 50 6).2.2.2.1 q_350 (2 : Int32).toNatClampNeg = 1 := ((congrFun (sA_g q_350 (ne0 r_1055 o_q_1077 (by decide))).2.2.2.1 _).trans kn_1074)
  have kn_1101 : (sA (sF g_1076 h 65 (.ref q_1051)) q_1077 50 6).2.2.2.1 q_350 (3 : Int32).toNatClampNeg = 1 := ((congrFun (sA_g q_350 (ne0 r_1055 o_q_1077 (by decide))).2.2.2.1 _).trans kn_1075)
  generalize (sA (sF g_1076 h 65 (.ref q_1051)) q_1077 50 6) = g_1102 at hT hI hM hE r_1078 r_1079 r_1080 r_1081 r_1082 r_1083 r_1084 n_1085 n_1086 n_1087 n_1088 n_1089 n_1090 kn_1091 kn_1092 kn_1093 kn_1094 kn_1095 kn_1096 kn_1097 kn_1098 kn_1099 kn_1100 kn_1101 hP zP zN
  refine W.widen (k := 52) (n := 29861) (Nat.le_of_ble_eq_true rfl) (Nat.le_of_ble_eq_true rfl) ?_
  refine t_put0 (ci := 7) (v := .ref q_1077) hB hT (ro_ci r_1078 rfl) (ro_n0 r_1078 (by decide)) rfl 66 (by decide) k_811 (Or.inr ⟨hin, rfl⟩) rfl rfl dX7_init_575 (fun H locs hT => ?_)
  have hI : Inv (sF g_1102 h 66 (.ref q_1077)) := hI.sF (fk r_1078 (show fsm _ _ ft from trivial))
  have hM : Sm md_k_Model g (sF g_1102 h 66 (.ref q_1077)) := hM.tr hE (Sm_sF (by rw [r_1078]; rfl))
  have hE : Ex g (sF g_1102 h 66 (.ref q_1077)) := hE
  have hP : PF [66, 65, 64, 63, 62, 61, 59, 58, 57, 56, 55, 54, 53, 48, 47, 46, 45, 44, 43, 42, 41, 40, 39, 35, 33, 32, 31, 28, 27, 26, 25, 23, 20, 19, 18, 17, 16, 15, 14, 13, 12, 11, 10, 9, 8, 7, 6, 5, 4, 3, 2, 1, 60, 52, 51, 50, 49, 38, 37, 36, 34, 30, 29, 24, 22, 21, 0] (sF g_1102 h 66 (.ref q_1077)) h := hP.put (q_8_66 (⟨_, rfl, r_1084, n_1090⟩))
  have zP : ZC (sF g_1102 h 66 (.ref q_1077)) q_15 := zP
  have zN : ZC (sF g_1102 h 66 (.ref q_1077)) q_387 := zN
  have hF := PF.fin hP (by decide) r_1078
  have hT : Tv D cI cZ cS cR N0 s.heap H locs (sR (sF g_1102 h 66 (.ref q_1077)) h 8) := ⟨hT.1.promo (by rw [r_1078]; decide) (by rw [r_1078]; rfl) (Or.inl (by decide)), hT.2⟩
  have hI : Inv (sR (sF g_1102 h 66 (.ref q_1077)) h 8) := hI.promo (by rw [r_1078]; decide) hF (fun _ _ => trivial) (fun _ _ => trivial)
  have hM : Sm md_k_Model g (sR (sF g_1102 h 66 (.ref q_1077)) h 8) := hM
  have hX : Exx h g (sR (sF g_1102 h 66 (.ref q_1077)) h 8) := Exx.promo hE
  exact t_vret hB hr hT (Nat.le_of_ble_eq_true rfl) (Nat.le_of_ble_eq_true rfl) dX7_init_578 ⟨rfl, hI, hX, hM, if_pos rfl, ⟨_, _, (sF_k kn_1093 (by decide)), (sF_k kn_1094 (by decide)), (sR_r r_1079 (ro_ne r_1079 r_1078 (by decide))), (sR_r r_1080 (ro_ne r_1080 r_1078 (by decide))), n_1085, n_1086, zP.PL⟩, ⟨_, _, (sF_k kn_1096 (by decide)), (sF_k kn_1097 (by decide)), (sR_r r_1082 (ro_ne r_1082 r_1078 (by decide))), (sR_r r_1083 (ro_ne r_1083 r_1078 (by decide))), n_1088, n_1089, zN.PL⟩, (sF_k kn_1091 (by decide)), (sF_k kn_1092 (by decide)), ⟨_, (sF_k kn_1095 (by decide)), sR_r r_1081 (ro_ne r_1081 r_1078 (by decide)), n_1087, fun i hi => match i, hi with | 0, _ => kn_1098 | 1, _ => kn_1099 | 2, _ => kn_1100 | 3, _ => kn_1101 | k + 4, h => absurd h (by omega)⟩⟩
