theorem k_744 : Cond.methodLink RX7 1 Lib.objectInit ∈ tb := mt 744 (by decide +kernel) rfl
theorem k_947 : Cond.arrayClass .boolean ∈ tb := mt 947 (by decide +kernel) rfl
theorem dX7_init_0 : decode cX7_init 0 = .ok (.aload_n 0, 1) := by decide +kernel
theorem dX7_init_1 : decode cX7_init 1 = .ok (.invokespecial 1, 3) := by decide +kernel
theorem dX7_init_4 : decode cX7_init 4 = .ok (.aload_n 0, 1) := by decide +kernel
theorem dX7_init_5 : decode cX7_init 5 = .ok (.bipush 6, 2) := by decide +kernel
theorem dX7_init_7 : decode cX7_init 7 = .ok (.newarray .int, 2) := by decide +kernel
theorem dX7_init_9 : decode cX7_init 9 = .ok (.putfield 7, 3) := by decide +kernel
theorem dX7_init_12 : decode cX7_init 12 = .ok (.aload_n 0, 1) := by decide +kernel
theorem dX7_init_13 : decode cX7_init 13 = .ok (.bipush 48, 2) := by decide +kernel
theorem dX7_init_15 : decode cX7_init 15 = .ok (.newarray .int, 2) := by decide +kernel
theorem dX7_init_17 : decode cX7_init 17 = .ok (.putfield 13, 3) := by decide +kernel
theorem dX7_init_20 : decode cX7_init 20 = .ok (.aload_n 0, 1) := by decide +kernel
theorem dX7_init_21 : decode cX7_init 21 = .ok (.bipush 48, 2) := by decide +kernel
theorem dX7_init_23 : decode cX7_init 23 = .ok (.newarray .int, 2) := by decide +kernel
theorem dX7_init_25 : decode cX7_init 25 = .ok (.putfield 16, 3) := by decide +kernel
theorem dX7_init_28 : decode cX7_init 28 = .ok (.aload_n 0, 1) := by decide +kernel
theorem dX7_init_29 : decode cX7_init 29 = .ok (.bipush 48, 2) := by decide +kernel
theorem dX7_init_31 : decode cX7_init 31 = .ok (.newarray .int, 2) := by decide +kernel
theorem dX7_init_33 : decode cX7_init 33 = .ok (.putfield 19, 3) := by decide +kernel
theorem dX7_init_36 : decode cX7_init 36 = .ok (.aload_n 0, 1) := by decide +kernel
theorem dX7_init_37 : decode cX7_init 37 = .ok (.bipush 6, 2) := by decide +kernel
theorem dX7_init_39 : decode cX7_init 39 = .ok (.newarray .int, 2) := by decide +kernel
theorem dX7_init_41 : decode cX7_init 41 = .ok (.putfield 22, 3) := by decide +kernel
theorem dX7_init_44 : decode cX7_init 44 = .ok (.aload_n 0, 1) := by decide +kernel
theorem dX7_init_45 : decode cX7_init 45 = .ok (.bipush 6, 2) := by decide +kernel
theorem dX7_init_47 : decode cX7_init 47 = .ok (.newarray .int, 2) := by decide +kernel
theorem dX7_init_49 : decode cX7_init 49 = .ok (.putfield 25, 3) := by decide +kernel
theorem dX7_init_52 : decode cX7_init 52 = .ok (.aload_n 0, 1) := by decide +kernel
theorem dX7_init_53 : decode cX7_init 53 = .ok (.bipush 48, 2) := by decide +kernel
theorem dX7_init_55 : decode cX7_init 55 = .ok (.newarray .int, 2) := by decide +kernel
theorem dX7_init_57 : decode cX7_init 57 = .ok (.putfield 28, 3) := by decide +kernel
theorem dX7_init_60 : decode cX7_init 60 = .ok (.aload_n 0, 1) := by decide +kernel
theorem dX7_init_61 : decode cX7_init 61 = .ok (.bipush 12, 2) := by decide +kernel
theorem dX7_init_63 : decode cX7_init 63 = .ok (.newarray .int, 2) := by decide +kernel
theorem dX7_init_65 : decode cX7_init 65 = .ok (.putfield 31, 3) := by decide +kernel
theorem dX7_init_68 : decode cX7_init 68 = .ok (.aload_n 0, 1) := by decide +kernel
theorem dX7_init_69 : decode cX7_init 69 = .ok (.bipush 12, 2) := by decide +kernel
theorem dX7_init_71 : decode cX7_init 71 = .ok (.newarray .int, 2) := by decide +kernel
theorem dX7_init_73 : decode cX7_init 73 = .ok (.putfield 34, 3) := by decide +kernel
theorem dX7_init_76 : decode cX7_init 76 = .ok (.aload_n 0, 1) := by decide +kernel
theorem dX7_init_77 : decode cX7_init 77 = .ok (.sipush 192, 3) := by decide +kernel
theorem dX7_init_80 : decode cX7_init 80 = .ok (.newarray .int, 2) := by decide +kernel
theorem dX7_init_82 : decode cX7_init 82 = .ok (.putfield 37, 3) := by decide +kernel
theorem dX7_init_85 : decode cX7_init 85 = .ok (.aload_n 0, 1) := by decide +kernel
theorem dX7_init_86 : decode cX7_init 86 = .ok (.sipush 192, 3) := by decide +kernel
theorem dX7_init_89 : decode cX7_init 89 = .ok (.newarray .int, 2) := by decide +kernel
theorem dX7_init_91 : decode cX7_init 91 = .ok (.putfield 40, 3) := by decide +kernel
theorem dX7_init_94 : decode cX7_init 94 = .ok (.aload_n 0, 1) := by decide +kernel
theorem dX7_init_95 : decode cX7_init 95 = .ok (.sipush 192, 3) := by decide +kernel
theorem dX7_init_98 : decode cX7_init 98 = .ok (.newarray .int, 2) := by decide +kernel
theorem dX7_init_100 : decode cX7_init 100 = .ok (.putfield 43, 3) := by decide +kernel
theorem dX7_init_103 : decode cX7_init 103 = .ok (.aload_n 0, 1) := by decide +kernel
theorem dX7_init_104 : decode cX7_init 104 = .ok (.sipush 192, 3) := by decide +kernel
theorem dX7_init_107 : decode cX7_init 107 = .ok (.newarray .int, 2) := by decide +kernel
theorem dX7_init_109 : decode cX7_init 109 = .ok (.putfield 46, 3) := by decide +kernel
theorem dX7_init_112 : decode cX7_init 112 = .ok (.aload_n 0, 1) := by decide +kernel
theorem dX7_init_113 : decode cX7_init 113 = .ok (.iconst 2, 1) := by decide +kernel
theorem dX7_init_114 : decode cX7_init 114 = .ok (.newarray .int, 2) := by decide +kernel
theorem dX7_init_116 : decode cX7_init 116 = .ok (.putfield 49, 3) := by decide +kernel
theorem dX7_init_119 : decode cX7_init 119 = .ok (.aload_n 0, 1) := by decide +kernel
theorem dX7_init_120 : decode cX7_init 120 = .ok (.bipush 12, 2) := by decide +kernel
theorem dX7_init_122 : decode cX7_init 122 = .ok (.newarray .int, 2) := by decide +kernel
theorem dX7_init_124 : decode cX7_init 124 = .ok (.putfield 52, 3) := by decide +kernel
theorem dX7_init_127 : decode cX7_init 127 = .ok (.aload_n 0, 1) := by decide +kernel
theorem dX7_init_128 : decode cX7_init 128 = .ok (.bipush 12, 2) := by decide +kernel
theorem dX7_init_130 : decode cX7_init 130 = .ok (.newarray .int, 2) := by decide +kernel
theorem dX7_init_132 : decode cX7_init 132 = .ok (.putfield 55, 3) := by decide +kernel
theorem dX7_init_135 : decode cX7_init 135 = .ok (.aload_n 0, 1) := by decide +kernel
theorem dX7_init_136 : decode cX7_init 136 = .ok (.bipush 96, 2) := by decide +kernel
theorem dX7_init_138 : decode cX7_init 138 = .ok (.newarray .int, 2) := by decide +kernel
theorem dX7_init_140 : decode cX7_init 140 = .ok (.putfield 58, 3) := by decide +kernel
theorem dX7_init_143 : decode cX7_init 143 = .ok (.aload_n 0, 1) := by decide +kernel
theorem dX7_init_144 : decode cX7_init 144 = .ok (.bipush 96, 2) := by decide +kernel
theorem dX7_init_146 : decode cX7_init 146 = .ok (.newarray .int, 2) := by decide +kernel
theorem dX7_init_148 : decode cX7_init 148 = .ok (.putfield 61, 3) := by decide +kernel
theorem dX7_init_151 : decode cX7_init 151 = .ok (.aload_n 0, 1) := by decide +kernel
theorem dX7_init_152 : decode cX7_init 152 = .ok (.bipush 96, 2) := by decide +kernel
theorem dX7_init_154 : decode cX7_init 154 = .ok (.newarray .int, 2) := by decide +kernel
theorem dX7_init_156 : decode cX7_init 156 = .ok (.putfield 64, 3) := by decide +kernel
theorem dX7_init_159 : decode cX7_init 159 = .ok (.aload_n 0, 1) := by decide +kernel
theorem dX7_init_160 : decode cX7_init 160 = .ok (.bipush 12, 2) := by decide +kernel
theorem dX7_init_162 : decode cX7_init 162 = .ok (.newarray .boolean, 2) := by decide +kernel
theorem dX7_init_164 : decode cX7_init 164 = .ok (.putfield 67, 3) := by decide +kernel
theorem dX7_init_167 : decode cX7_init 167 = .ok (.aload_n 0, 1) := by decide +kernel
theorem dX7_init_168 : decode cX7_init 168 = .ok (.bipush 40, 2) := by decide +kernel
theorem dX7_init_170 : decode cX7_init 170 = .ok (.newarray .int, 2) := by decide +kernel
theorem dX7_init_172 : decode cX7_init 172 = .ok (.putfield 71, 3) := by decide +kernel
theorem dX7_init_175 : decode cX7_init 175 = .ok (.aload_n 0, 1) := by decide +kernel
theorem dX7_init_176 : decode cX7_init 176 = .ok (.bipush 20, 2) := by decide +kernel
theorem dX7_init_178 : decode cX7_init 178 = .ok (.newarray .int, 2) := by decide +kernel
theorem dX7_init_180 : decode cX7_init 180 = .ok (.putfield 74, 3) := by decide +kernel
theorem dX7_init_183 : decode cX7_init 183 = .ok (.aload_n 0, 1) := by decide +kernel
theorem dX7_init_184 : decode cX7_init 184 = .ok (.bipush 20, 2) := by decide +kernel
theorem dX7_init_186 : decode cX7_init 186 = .ok (.newarray .int, 2) := by decide +kernel
theorem dX7_init_188 : decode cX7_init 188 = .ok (.putfield 77, 3) := by decide +kernel
theorem dX7_init_191 : decode cX7_init 191 = .ok (.aload_n 0, 1) := by decide +kernel
theorem dX7_init_192 : decode cX7_init 192 = .ok (.bipush 20, 2) := by decide +kernel
theorem dX7_init_194 : decode cX7_init 194 = .ok (.newarray .int, 2) := by decide +kernel
theorem dX7_init_196 : decode cX7_init 196 = .ok (.putfield 80, 3) := by decide +kernel
theorem dX7_init_199 : decode cX7_init 199 = .ok (.aload_n 0, 1) := by decide +kernel
theorem dX7_init_200 : decode cX7_init 200 = .ok (.bipush 100, 2) := by decide +kernel
theorem dX7_init_202 : decode cX7_init 202 = .ok (.newarray .int, 2) := by decide +kernel
theorem dX7_init_204 : decode cX7_init 204 = .ok (.putfield 83, 3) := by decide +kernel
theorem dX7_init_207 : decode cX7_init 207 = .ok (.aload_n 0, 1) := by decide +kernel
theorem dX7_init_208 : decode cX7_init 208 = .ok (.bipush 6, 2) := by decide +kernel
theorem dX7_init_210 : decode cX7_init 210 = .ok (.newarray .int, 2) := by decide +kernel
theorem dX7_init_212 : decode cX7_init 212 = .ok (.putfield 86, 3) := by decide +kernel
theorem dX7_init_215 : decode cX7_init 215 = .ok (.aload_n 0, 1) := by decide +kernel
theorem dX7_init_216 : decode cX7_init 216 = .ok (.bipush 6, 2) := by decide +kernel
theorem dX7_init_218 : decode cX7_init 218 = .ok (.newarray .int, 2) := by decide +kernel
theorem dX7_init_220 : decode cX7_init 220 = .ok (.putfield 89, 3) := by decide +kernel
theorem dX7_init_223 : decode cX7_init 223 = .ok (.aload_n 0, 1) := by decide +kernel
theorem dX7_init_224 : decode cX7_init 224 = .ok (.bipush 6, 2) := by decide +kernel
theorem dX7_init_226 : decode cX7_init 226 = .ok (.newarray .int, 2) := by decide +kernel
theorem dX7_init_228 : decode cX7_init 228 = .ok (.putfield 92, 3) := by decide +kernel
theorem dX7_init_231 : decode cX7_init 231 = .ok (.aload_n 0, 1) := by decide +kernel
theorem dX7_init_232 : decode cX7_init 232 = .ok (.iconst 4, 1) := by decide +kernel
theorem dX7_init_233 : decode cX7_init 233 = .ok (.newarray .int, 2) := by decide +kernel
theorem dX7_init_235 : decode cX7_init 235 = .ok (.dup, 1) := by decide +kernel
theorem dX7_init_236 : decode cX7_init 236 = .ok (.iconst 0, 1) := by decide +kernel
theorem dX7_init_237 : decode cX7_init 237 = .ok (.iconst 1, 1) := by decide +kernel
theorem dX7_init_238 : decode cX7_init 238 = .ok (.iastore, 1) := by decide +kernel
theorem dX7_init_239 : decode cX7_init 239 = .ok (.dup, 1) := by decide +kernel
theorem dX7_init_240 : decode cX7_init 240 = .ok (.iconst 1, 1) := by decide +kernel
theorem dX7_init_241 : decode cX7_init 241 = .ok (.iconst 1, 1) := by decide +kernel
theorem dX7_init_242 : decode cX7_init 242 = .ok (.iastore, 1) := by decide +kernel
theorem dX7_init_243 : decode cX7_init 243 = .ok (.dup, 1) := by decide +kernel
theorem dX7_init_244 : decode cX7_init 244 = .ok (.iconst 2, 1) := by decide +kernel
theorem dX7_init_245 : decode cX7_init 245 = .ok (.iconst 1, 1) := by decide +kernel
theorem dX7_init_246 : decode cX7_init 246 = .ok (.iastore, 1) := by decide +kernel
theorem dX7_init_247 : decode cX7_init 247 = .ok (.dup, 1) := by decide +kernel
theorem dX7_init_248 : decode cX7_init 248 = .ok (.iconst 3, 1) := by decide +kernel
theorem dX7_init_249 : decode cX7_init 249 = .ok (.iconst 1, 1) := by decide +kernel
theorem dX7_init_250 : decode cX7_init 250 = .ok (.iastore, 1) := by decide +kernel
theorem dX7_init_251 : decode cX7_init 251 = .ok (.putfield 95, 3) := by decide +kernel
theorem dX7_init_254 : decode cX7_init 254 = .ok (.aload_n 0, 1) := by decide +kernel
theorem dX7_init_255 : decode cX7_init 255 = .ok (.bipush 8, 2) := by decide +kernel
theorem dX7_init_257 : decode cX7_init 257 = .ok (.newarray .int, 2) := by decide +kernel
theorem dX7_init_259 : decode cX7_init 259 = .ok (.putfield 98, 3) := by decide +kernel
theorem dX7_init_262 : decode cX7_init 262 = .ok (.aload_n 0, 1) := by decide +kernel
theorem dX7_init_263 : decode cX7_init 263 = .ok (.bipush 8, 2) := by decide +kernel
theorem dX7_init_265 : decode cX7_init 265 = .ok (.newarray .int, 2) := by decide +kernel
theorem dX7_init_267 : decode cX7_init 267 = .ok (.putfield 101, 3) := by decide +kernel
theorem dX7_init_270 : decode cX7_init 270 = .ok (.aload_n 0, 1) := by decide +kernel
theorem dX7_init_271 : decode cX7_init 271 = .ok (.bipush 8, 2) := by decide +kernel
theorem dX7_init_273 : decode cX7_init 273 = .ok (.newarray .int, 2) := by decide +kernel
theorem dX7_init_275 : decode cX7_init 275 = .ok (.putfield 104, 3) := by decide +kernel
theorem dX7_init_278 : decode cX7_init 278 = .ok (.aload_n 0, 1) := by decide +kernel
theorem dX7_init_279 : decode cX7_init 279 = .ok (.bipush 24, 2) := by decide +kernel
theorem dX7_init_281 : decode cX7_init 281 = .ok (.newarray .int, 2) := by decide +kernel
theorem dX7_init_283 : decode cX7_init 283 = .ok (.dup, 1) := by decide +kernel
theorem dX7_init_284 : decode cX7_init 284 = .ok (.iconst 0, 1) := by decide +kernel
theorem dX7_init_285 : decode cX7_init 285 = .ok (.bipush 115, 2) := by decide +kernel
theorem dX7_init_287 : decode cX7_init 287 = .ok (.iastore, 1) := by decide +kernel
theorem dX7_init_288 : decode cX7_init 288 = .ok (.dup, 1) := by decide +kernel
theorem dX7_init_289 : decode cX7_init 289 = .ok (.iconst 1, 1) := by decide +kernel
theorem dX7_init_290 : decode cX7_init 290 = .ok (.bipush 101, 2) := by decide +kernel
theorem dX7_init_292 : decode cX7_init 292 = .ok (.iastore, 1) := by decide +kernel
theorem dX7_init_293 : decode cX7_init 293 = .ok (.dup, 1) := by decide +kernel
theorem dX7_init_294 : decode cX7_init 294 = .ok (.iconst 2, 1) := by decide +kernel
theorem dX7_init_295 : decode cX7_init 295 = .ok (.bipush 116, 2) := by decide +kernel
theorem dX7_init_297 : decode cX7_init 297 = .ok (.iastore, 1) := by decide +kernel
theorem dX7_init_298 : decode cX7_init 298 = .ok (.dup, 1) := by decide +kernel
theorem dX7_init_299 : decode cX7_init 299 = .ok (.iconst 3, 1) := by decide +kernel
theorem dX7_init_300 : decode cX7_init 300 = .ok (.bipush 97, 2) := by decide +kernel
theorem dX7_init_302 : decode cX7_init 302 = .ok (.iastore, 1) := by decide +kernel
theorem dX7_init_303 : decode cX7_init 303 = .ok (.dup, 1) := by decide +kernel
theorem dX7_init_304 : decode cX7_init 304 = .ok (.iconst 4, 1) := by decide +kernel
theorem dX7_init_305 : decode cX7_init 305 = .ok (.bipush 100, 2) := by decide +kernel
theorem dX7_init_307 : decode cX7_init 307 = .ok (.iastore, 1) := by decide +kernel
theorem dX7_init_308 : decode cX7_init 308 = .ok (.dup, 1) := by decide +kernel
theorem dX7_init_309 : decode cX7_init 309 = .ok (.iconst 5, 1) := by decide +kernel
theorem dX7_init_310 : decode cX7_init 310 = .ok (.bipush 100, 2) := by decide +kernel
theorem dX7_init_312 : decode cX7_init 312 = .ok (.iastore, 1) := by decide +kernel
theorem dX7_init_313 : decode cX7_init 313 = .ok (.dup, 1) := by decide +kernel
theorem dX7_init_314 : decode cX7_init 314 = .ok (.bipush 6, 2) := by decide +kernel
theorem dX7_init_316 : decode cX7_init 316 = .ok (.bipush 109, 2) := by decide +kernel
theorem dX7_init_318 : decode cX7_init 318 = .ok (.iastore, 1) := by decide +kernel
theorem dX7_init_319 : decode cX7_init 319 = .ok (.dup, 1) := by decide +kernel
theorem dX7_init_320 : decode cX7_init 320 = .ok (.bipush 7, 2) := by decide +kernel
theorem dX7_init_322 : decode cX7_init 322 = .ok (.bipush 97, 2) := by decide +kernel
theorem dX7_init_324 : decode cX7_init 324 = .ok (.iastore, 1) := by decide +kernel
theorem dX7_init_325 : decode cX7_init 325 = .ok (.dup, 1) := by decide +kernel
theorem dX7_init_326 : decode cX7_init 326 = .ok (.bipush 8, 2) := by decide +kernel
theorem dX7_init_328 : decode cX7_init 328 = .ok (.bipush 120, 2) := by decide +kernel
theorem dX7_init_330 : decode cX7_init 330 = .ok (.iastore, 1) := by decide +kernel
theorem dX7_init_331 : decode cX7_init 331 = .ok (.dup, 1) := by decide +kernel
theorem dX7_init_332 : decode cX7_init 332 = .ok (.bipush 9, 2) := by decide +kernel
theorem dX7_init_334 : decode cX7_init 334 = .ok (.bipush 110, 2) := by decide +kernel
theorem dX7_init_336 : decode cX7_init 336 = .ok (.iastore, 1) := by decide +kernel
theorem dX7_init_337 : decode cX7_init 337 = .ok (.dup, 1) := by decide +kernel
theorem dX7_init_338 : decode cX7_init 338 = .ok (.bipush 10, 2) := by decide +kernel
theorem dX7_init_340 : decode cX7_init 340 = .ok (.bipush 101, 2) := by decide +kernel
theorem dX7_init_342 : decode cX7_init 342 = .ok (.iastore, 1) := by decide +kernel
theorem dX7_init_343 : decode cX7_init 343 = .ok (.dup, 1) := by decide +kernel
theorem dX7_init_344 : decode cX7_init 344 = .ok (.bipush 11, 2) := by decide +kernel
theorem dX7_init_346 : decode cX7_init 346 = .ok (.bipush 119, 2) := by decide +kernel
theorem dX7_init_348 : decode cX7_init 348 = .ok (.iastore, 1) := by decide +kernel
theorem dX7_init_349 : decode cX7_init 349 = .ok (.dup, 1) := by decide +kernel
theorem dX7_init_350 : decode cX7_init 350 = .ok (.bipush 12, 2) := by decide +kernel
theorem dX7_init_352 : decode cX7_init 352 = .ok (.bipush 103, 2) := by decide +kernel
theorem dX7_init_354 : decode cX7_init 354 = .ok (.iastore, 1) := by decide +kernel
theorem dX7_init_355 : decode cX7_init 355 = .ok (.dup, 1) := by decide +kernel
theorem dX7_init_356 : decode cX7_init 356 = .ok (.bipush 13, 2) := by decide +kernel
theorem dX7_init_358 : decode cX7_init 358 = .ok (.bipush 101, 2) := by decide +kernel
theorem dX7_init_360 : decode cX7_init 360 = .ok (.iastore, 1) := by decide +kernel
theorem dX7_init_361 : decode cX7_init 361 = .ok (.dup, 1) := by decide +kernel
theorem dX7_init_362 : decode cX7_init 362 = .ok (.bipush 14, 2) := by decide +kernel
theorem dX7_init_364 : decode cX7_init 364 = .ok (.bipush 116, 2) := by decide +kernel
theorem dX7_init_366 : decode cX7_init 366 = .ok (.iastore, 1) := by decide +kernel
theorem dX7_init_367 : decode cX7_init 367 = .ok (.dup, 1) := by decide +kernel
theorem dX7_init_368 : decode cX7_init 368 = .ok (.bipush 15, 2) := by decide +kernel
theorem dX7_init_370 : decode cX7_init 370 = .ok (.bipush 97, 2) := by decide +kernel
theorem dX7_init_372 : decode cX7_init 372 = .ok (.iastore, 1) := by decide +kernel
theorem dX7_init_373 : decode cX7_init 373 = .ok (.dup, 1) := by decide +kernel
theorem dX7_init_374 : decode cX7_init 374 = .ok (.bipush 16, 2) := by decide +kernel
theorem dX7_init_376 : decode cX7_init 376 = .ok (.bipush 115, 2) := by decide +kernel
theorem dX7_init_378 : decode cX7_init 378 = .ok (.iastore, 1) := by decide +kernel
theorem dX7_init_379 : decode cX7_init 379 = .ok (.dup, 1) := by decide +kernel
theorem dX7_init_380 : decode cX7_init 380 = .ok (.bipush 17, 2) := by decide +kernel
theorem dX7_init_382 : decode cX7_init 382 = .ok (.bipush 107, 2) := by decide +kernel
theorem dX7_init_384 : decode cX7_init 384 = .ok (.iastore, 1) := by decide +kernel
theorem dX7_init_385 : decode cX7_init 385 = .ok (.dup, 1) := by decide +kernel
theorem dX7_init_386 : decode cX7_init 386 = .ok (.bipush 18, 2) := by decide +kernel
theorem dX7_init_388 : decode cX7_init 388 = .ok (.bipush 100, 2) := by decide +kernel
theorem dX7_init_390 : decode cX7_init 390 = .ok (.iastore, 1) := by decide +kernel
theorem dX7_init_391 : decode cX7_init 391 = .ok (.dup, 1) := by decide +kernel
theorem dX7_init_392 : decode cX7_init 392 = .ok (.bipush 19, 2) := by decide +kernel
theorem dX7_init_394 : decode cX7_init 394 = .ok (.bipush 111, 2) := by decide +kernel
theorem dX7_init_396 : decode cX7_init 396 = .ok (.iastore, 1) := by decide +kernel
theorem dX7_init_397 : decode cX7_init 397 = .ok (.dup, 1) := by decide +kernel
theorem dX7_init_398 : decode cX7_init 398 = .ok (.bipush 20, 2) := by decide +kernel
theorem dX7_init_400 : decode cX7_init 400 = .ok (.iconst 0, 1) := by decide +kernel
theorem dX7_init_401 : decode cX7_init 401 = .ok (.iastore, 1) := by decide +kernel
theorem dX7_init_402 : decode cX7_init 402 = .ok (.dup, 1) := by decide +kernel
theorem dX7_init_403 : decode cX7_init 403 = .ok (.bipush 21, 2) := by decide +kernel
theorem dX7_init_405 : decode cX7_init 405 = .ok (.bipush 105, 2) := by decide +kernel
theorem dX7_init_407 : decode cX7_init 407 = .ok (.iastore, 1) := by decide +kernel
theorem dX7_init_408 : decode cX7_init 408 = .ok (.dup, 1) := by decide +kernel
theorem dX7_init_409 : decode cX7_init 409 = .ok (.bipush 22, 2) := by decide +kernel
theorem dX7_init_411 : decode cX7_init 411 = .ok (.bipush 102, 2) := by decide +kernel
theorem dX7_init_413 : decode cX7_init 413 = .ok (.iastore, 1) := by decide +kernel
theorem dX7_init_414 : decode cX7_init 414 = .ok (.dup, 1) := by decide +kernel
theorem dX7_init_415 : decode cX7_init 415 = .ok (.bipush 23, 2) := by decide +kernel
theorem dX7_init_417 : decode cX7_init 417 = .ok (.iconst 0, 1) := by decide +kernel
theorem dX7_init_418 : decode cX7_init 418 = .ok (.iastore, 1) := by decide +kernel
theorem dX7_init_419 : decode cX7_init 419 = .ok (.putfield 107, 3) := by decide +kernel
theorem dX7_init_422 : decode cX7_init 422 = .ok (.aload_n 0, 1) := by decide +kernel
theorem dX7_init_423 : decode cX7_init 423 = .ok (.bipush 7, 2) := by decide +kernel
theorem dX7_init_425 : decode cX7_init 425 = .ok (.newarray .int, 2) := by decide +kernel
theorem dX7_init_427 : decode cX7_init 427 = .ok (.putfield 110, 3) := by decide +kernel
theorem dX7_init_430 : decode cX7_init 430 = .ok (.aload_n 0, 1) := by decide +kernel
theorem dX7_init_431 : decode cX7_init 431 = .ok (.bipush 7, 2) := by decide +kernel
theorem dX7_init_433 : decode cX7_init 433 = .ok (.newarray .int, 2) := by decide +kernel
theorem dX7_init_435 : decode cX7_init 435 = .ok (.putfield 113, 3) := by decide +kernel
theorem dX7_init_438 : decode cX7_init 438 = .ok (.aload_n 0, 1) := by decide +kernel
theorem dX7_init_439 : decode cX7_init 439 = .ok (.bipush 7, 2) := by decide +kernel
theorem dX7_init_441 : decode cX7_init 441 = .ok (.newarray .int, 2) := by decide +kernel
theorem dX7_init_443 : decode cX7_init 443 = .ok (.putfield 116, 3) := by decide +kernel
theorem dX7_init_446 : decode cX7_init 446 = .ok (.aload_n 0, 1) := by decide +kernel
theorem dX7_init_447 : decode cX7_init 447 = .ok (.bipush 7, 2) := by decide +kernel
theorem dX7_init_449 : decode cX7_init 449 = .ok (.newarray .int, 2) := by decide +kernel
theorem dX7_init_451 : decode cX7_init 451 = .ok (.putfield 119, 3) := by decide +kernel
theorem dX7_init_454 : decode cX7_init 454 = .ok (.aload_n 0, 1) := by decide +kernel
theorem dX7_init_455 : decode cX7_init 455 = .ok (.bipush 7, 2) := by decide +kernel
theorem dX7_init_457 : decode cX7_init 457 = .ok (.newarray .int, 2) := by decide +kernel
theorem dX7_init_459 : decode cX7_init 459 = .ok (.putfield 122, 3) := by decide +kernel
theorem dX7_init_462 : decode cX7_init 462 = .ok (.aload_n 0, 1) := by decide +kernel
theorem dX7_init_463 : decode cX7_init 463 = .ok (.bipush 7, 2) := by decide +kernel
theorem dX7_init_465 : decode cX7_init 465 = .ok (.newarray .boolean, 2) := by decide +kernel
theorem dX7_init_467 : decode cX7_init 467 = .ok (.putfield 125, 3) := by decide +kernel
theorem dX7_init_470 : decode cX7_init 470 = .ok (.aload_n 0, 1) := by decide +kernel
theorem dX7_init_471 : decode cX7_init 471 = .ok (.sipush 1200, 3) := by decide +kernel
theorem dX7_init_474 : decode cX7_init 474 = .ok (.newarray .int, 2) := by decide +kernel
theorem dX7_init_476 : decode cX7_init 476 = .ok (.putfield 128, 3) := by decide +kernel
theorem dX7_init_479 : decode cX7_init 479 = .ok (.aload_n 0, 1) := by decide +kernel
theorem dX7_init_480 : decode cX7_init 480 = .ok (.bipush 48, 2) := by decide +kernel
theorem dX7_init_482 : decode cX7_init 482 = .ok (.newarray .int, 2) := by decide +kernel
theorem dX7_init_484 : decode cX7_init 484 = .ok (.putfield 131, 3) := by decide +kernel
theorem dX7_init_487 : decode cX7_init 487 = .ok (.aload_n 0, 1) := by decide +kernel
theorem dX7_init_488 : decode cX7_init 488 = .ok (.bipush 48, 2) := by decide +kernel
theorem dX7_init_490 : decode cX7_init 490 = .ok (.newarray .int, 2) := by decide +kernel
theorem dX7_init_492 : decode cX7_init 492 = .ok (.putfield 134, 3) := by decide +kernel
theorem dX7_init_495 : decode cX7_init 495 = .ok (.aload_n 0, 1) := by decide +kernel
theorem dX7_init_496 : decode cX7_init 496 = .ok (.bipush 48, 2) := by decide +kernel
theorem dX7_init_498 : decode cX7_init 498 = .ok (.newarray .int, 2) := by decide +kernel
theorem dX7_init_500 : decode cX7_init 500 = .ok (.putfield 137, 3) := by decide +kernel
theorem dX7_init_503 : decode cX7_init 503 = .ok (.aload_n 0, 1) := by decide +kernel
theorem dX7_init_504 : decode cX7_init 504 = .ok (.bipush 30, 2) := by decide +kernel
theorem dX7_init_506 : decode cX7_init 506 = .ok (.newarray .int, 2) := by decide +kernel
theorem dX7_init_508 : decode cX7_init 508 = .ok (.putfield 140, 3) := by decide +kernel
theorem dX7_init_511 : decode cX7_init 511 = .ok (.aload_n 0, 1) := by decide +kernel
theorem dX7_init_512 : decode cX7_init 512 = .ok (.sipush 1200, 3) := by decide +kernel
theorem dX7_init_515 : decode cX7_init 515 = .ok (.newarray .int, 2) := by decide +kernel
theorem dX7_init_517 : decode cX7_init 517 = .ok (.putfield 143, 3) := by decide +kernel
theorem dX7_init_520 : decode cX7_init 520 = .ok (.aload_n 0, 1) := by decide +kernel
theorem dX7_init_521 : decode cX7_init 521 = .ok (.bipush 6, 2) := by decide +kernel
theorem dX7_init_523 : decode cX7_init 523 = .ok (.newarray .int, 2) := by decide +kernel
theorem dX7_init_525 : decode cX7_init 525 = .ok (.putfield 146, 3) := by decide +kernel
theorem dX7_init_528 : decode cX7_init 528 = .ok (.aload_n 0, 1) := by decide +kernel
theorem dX7_init_529 : decode cX7_init 529 = .ok (.iconst 5, 1) := by decide +kernel
theorem dX7_init_530 : decode cX7_init 530 = .ok (.newarray .int, 2) := by decide +kernel
theorem dX7_init_532 : decode cX7_init 532 = .ok (.putfield 149, 3) := by decide +kernel
theorem dX7_init_535 : decode cX7_init 535 = .ok (.aload_n 0, 1) := by decide +kernel
theorem dX7_init_536 : decode cX7_init 536 = .ok (.sipush 624, 3) := by decide +kernel
theorem dX7_init_539 : decode cX7_init 539 = .ok (.newarray .int, 2) := by decide +kernel
theorem dX7_init_541 : decode cX7_init 541 = .ok (.putfield 152, 3) := by decide +kernel
theorem dX7_init_544 : decode cX7_init 544 = .ok (.aload_n 0, 1) := by decide +kernel
theorem dX7_init_545 : decode cX7_init 545 = .ok (.sipush 24000, 3) := by decide +kernel
theorem dX7_init_548 : decode cX7_init 548 = .ok (.newarray .int, 2) := by decide +kernel
theorem dX7_init_550 : decode cX7_init 550 = .ok (.putfield 155, 3) := by decide +kernel
theorem dX7_init_553 : decode cX7_init 553 = .ok (.aload_n 0, 1) := by decide +kernel
theorem dX7_init_554 : decode cX7_init 554 = .ok (.sipush 1000, 3) := by decide +kernel
theorem dX7_init_557 : decode cX7_init 557 = .ok (.newarray .int, 2) := by decide +kernel
theorem dX7_init_559 : decode cX7_init 559 = .ok (.putfield 158, 3) := by decide +kernel
theorem dX7_init_562 : decode cX7_init 562 = .ok (.aload_n 0, 1) := by decide +kernel
theorem dX7_init_563 : decode cX7_init 563 = .ok (.bipush 6, 2) := by decide +kernel
theorem dX7_init_565 : decode cX7_init 565 = .ok (.newarray .int, 2) := by decide +kernel
theorem dX7_init_567 : decode cX7_init 567 = .ok (.putfield 161, 3) := by decide +kernel
theorem dX7_init_570 : decode cX7_init 570 = .ok (.aload_n 0, 1) := by decide +kernel
theorem dX7_init_571 : decode cX7_init 571 = .ok (.bipush 6, 2) := by decide +kernel
theorem dX7_init_573 : decode cX7_init 573 = .ok (.newarray .int, 2) := by decide +kernel
theorem dX7_init_575 : decode cX7_init 575 = .ok (.putfield 164, 3) := by decide +kernel
theorem dX7_init_578 : decode cX7_init 578 = .ok (.return_, 1) := by decide +kernel
/-! a constructor with many fields: those that are done -/
def PF (L : List Nat) (g : GS) (h : Nat) : Prop := ∀ k, k ∈ L → Fok g 8 k (g.2.1 h k)
theorem PF.nil {g : GS} {h : Nat} : PF [] g h := fun k hk => by cases hk
theorem PF.cons {L : List Nat} {g : GS} {h k : Nat} {v : Value} (p : PF L g h) (e : g.2.1 h k = v) (q : Fok g 8 k v) : PF (k :: L) g h := fun x hx => by
  rcases List.mem_cons.mp hx with rfl | hx
  · rw [e]; exact q
  · exact p x hx
theorem PF.put {L : List Nat} {g : GS} {h k : Nat} {v : Value} (p : PF L g h) (q : Fok g 8 k v) : PF (k :: L) (sF g h k v) h := fun x hx => by
  show Fok g 8 x (if h = h ∧ x = k then v else g.2.1 h x)
  by_cases hn : x = k
  · rw [if_pos ⟨rfl, hn⟩, hn]; exact q
  · rw [if_neg (fun z => hn z.2)]
    rcases List.mem_cons.mp hx with hx | hx
    · exact absurd hx hn
    · exact p x hx
theorem PF.tC {L : List Nat} {g : GS} {h a j : Nat} {v : Int32} (p : PF L g h) : PF L (sC g a j v) h := p
theorem PF.pu {L : List Nat} {g g' : GS} {h : Nat} (p : PF L g h) (hx : Ex g g') (e : g'.2.1 h = g.2.1 h) : PF L g' h := fun k hk => by
  rw [e]
  exact fsm.mono hx (p k hk)
theorem PF.fin {L : List Nat} {g : GS} {h : Nat} (p : PF L g h) (hL : ∀ k, k < 67 → k ∈ L) (hr : g.1 h = 18) : ∀ k, Fok (sR g h 8) 8 k (g.2.1 h k) := fun k => by
  by_cases hk : k < 67
  · have h1 : fsm g (g.2.1 h k) (fsp 8 k) := p k (hL k hk)
    have hx : ∀ x, okR (g.1 x) → (sR g h 8).1 x = g.1 x := fun x hx => if_neg (fun q => by rw [q, hr] at hx; exact absurd hx (by decide))
    show fsm _ _ _
    unfold fsm at h1 ⊢
    split at h1
    · exact h1
    · exact h1
    · obtain ⟨h0, q, e, hq⟩ := h1
      exact ⟨h0, q, e, (hx q (by rw [hq]; exact h0)).trans hq⟩
    · obtain ⟨h0, q, e, hq, hn⟩ := h1
      exact ⟨h0, q, e, (hx q (by rw [hq]; exact h0)).trans hq, hn⟩
    · exact trivial
  · have e : fsp 8 k = ft := by
      unfold fsp
      rw [List.getD_eq_getElem?_getD, List.getElem?_eq_none (by show 67 ≤ k; omega)]
      rfl
    show fsm _ _ (fsp 8 k)
    rw [e]
    exact trivial
def ZC (g : GS) (a : Nat) : Prop := ∀ i, g.2.2.2.1 a i = 0
theorem ZC.tC {g : GS} {a b j : Nat} {v : Int32} (h : ZC g a) (n : a ≠ b) : ZC (sC g b j v) a := fun i => by
  show (if a = b ∧ i = j then v else g.2.2.2.1 a i) = 0
  rw [if_neg (fun q => n q.1)]
  exact h i
theorem ZC.pu {g g' : GS} {a : Nat} (h : ZC g a) (e : g'.2.2.2.1 a = g.2.2.2.1 a) : ZC g' a := fun i => by
  rw [e]
  exact h i
theorem ZC.PL {n : Nat} {g : GS} {na pa : Nat} (h : ZC g pa) : PL n g na pa := fun i _ => Or.inl (by rw [h i]; decide)
theorem sA_z {g : GS} {a r n : Nat} : ZC (sA g a r n) a := fun i => if_pos rfl

abbrev md_k_Model : Nat → Nat → Bool := mdf [(18, 1), (18, 2), (18, 3), (18, 4), (18, 5), (18, 6), (18, 7), (18, 8), (18, 9), (18, 10), (18, 11), (18, 12), (18, 13), (18, 14), (18, 15), (18, 16), (18, 17), (18, 18), (18, 19), (18, 20), (18, 23), (18, 25), (18, 26), (18, 27), (18, 28), (18, 31), (18, 32), (18, 33), (18, 35), (18, 39), (18, 40), (18, 41), (18, 42), (18, 43), (18, 44), (18, 45), (18, 46), (18, 47), (18, 48), (18, 53), (18, 54), (18, 55), (18, 56), (18, 57), (18, 58), (18, 59), (18, 61), (18, 62), (18, 63), (18, 64), (18, 65), (18, 66), (83, 99), (87, 99)]
set_option maxHeartbeats 4000000 in
set_option maxRecDepth 100000 in
theorem k_Model (l : Launch) (D : va_G) (cI cZ cS cR : ClassId) (N0 : NT) (g : GS) (hI : Inv g) (h : Nat) (r_h : g.1 h = 18) (kz0 : g.2.1 h 0 = .int 0) (kz21 : g.2.1 h 21 = .int 0) (kz22 : g.2.1 h 22 = .int 0) (kz24 : g.2.1 h 24 = .int 0) (kz29 : g.2.1 h 29 = .int 0) (kz30 : g.2.1 h 30 = .int 0) (kz34 : g.2.1 h 34 = .int 0) (kz36 : g.2.1 h 36 = .int 0) (kz37 : g.2.1 h 37 = .int 0) (kz38 : g.2.1 h 38 = .int 0) (kz49 : g.2.1 h 49 = .int 0) (kz50 : g.2.1 h 50 = .int 0) (kz51 : g.2.1 h 51 = .int 0) (kz52 : g.2.1 h 52 = .int 0) (kz60 : g.2.1 h 60 = .int 0) : Ty l D cI cZ cS cR N0 yX7_init cX7_init 1 none 0 52 29861 [.ref h] g (fun v g' => v = none ∧ Inv g' ∧ Exx h g g' ∧ Sm md_k_Model g g' ∧ g'.1 h = 8 ∧ (PX 48 2 3 71 72 g' h) ∧ (PX 8 39 40 84 85 g' h) ∧ (g'.2.1 h 22 = .int 0) ∧ (g'.2.1 h 34 = .int 0) ∧ (g'.2.1 h 0 = .int 0) ∧ (g'.2.1 h 29 = .int 0) ∧ (g'.2.1 h 30 = .int 0) ∧ (g'.2.1 h 24 = .int 0) ∧ (WO 42 g' h)) := by
  refine t_enter (by decide) (Nat.le_of_ble_eq_true rfl) ?_
  intro p e s m args below meth c ls H locs hB hr hin hl hT
  have hx := hB.1
  have hb := hB.2.1
  have hl : lv_has ls 1 [(0, .ref h)] := hl
  replace hE : Ex g g := Ex.rf
  replace hM : Sm md_k_Model g g := Sm.rf
  replace hP : PF [60, 52, 51, 50, 49, 38, 37, 36, 34, 30, 29, 24, 22, 21, 0] g h := (PF.cons (PF.cons (PF.cons (PF.cons (PF.cons (PF.cons (PF.cons (PF.cons (PF.cons (PF.cons (PF.cons (PF.cons (PF.cons (PF.cons (PF.cons PF.nil kz0 (q_8_0 ⟨_, rfl, by decide, by decide⟩)) kz21 (q_8_21 ⟨_, rfl, by decide, by decide⟩)) kz22 (q_8_22 ⟨_, rfl⟩)) kz24 (q_8_24 ⟨_, rfl, by decide, by decide⟩)) kz29 (q_8_29 ⟨_, rfl, by decide, by decide⟩)) kz30 (q_8_30 ⟨_, rfl, by decide, by decide⟩)) kz34 (q_8_34 ⟨_, rfl, by decide, by decide⟩)) kz36 (q_8_36 ⟨_, rfl, by decide, by decide⟩)) kz37 (q_8_37 ⟨_, rfl, by decide, by decide⟩)) kz38 (q_8_38 ⟨_, rfl, by decide, by decide⟩)) kz49 (q_8_49 ⟨_, rfl, by decide, by decide⟩)) kz50 (q_8_50 ⟨_, rfl⟩)) kz51 (q_8_51 ⟨_, rfl, by decide, by decide⟩)) kz52 (q_8_52 ⟨_, rfl, by decide, by decide⟩)) kz60 (q_8_60 ⟨_, rfl, by decide, by decide⟩))
  refine lv_aload_n hx hb dX7_init_0 rfl (lv_at hl 0 rfl) ?_
  refine t_oinit hB k_744 k_78 k_79 hl.1 dX7_init_1 (Nat.le_of_ble_eq_true rfl) (Nat.le_of_ble_eq_true rfl) ?_
  refine lv_aload_n hx hb dX7_init_4 rfl (lv_at hl 0 rfl) ?_
  refine lv_bipush (v := 6) hx hb dX7_init_5 (by decide) ?_
  refine t_newi (N' := 6) hB hT 88 (by decide) k_101 (by decide) (by decide) (by decide) (Nat.le_of_ble_eq_true rfl) (Nat.le_of_ble_eq_true rfl) dX7_init_7 (fun q_1 H o_q_1 hT => ?_)
  have z_q_1 : g.1 q_1 = 0 := hE.z0 o_q_1
  replace hI : Inv (sA g q_1 88 6) := hI.newi o_q_1 (by decide) (fun _ => rfl) ⟨by decide, by decide⟩ (fun _ => trivial)
  replace hM : Sm md_k_Model g (sA g q_1 88 6) := hM.tr hE (Sm.push o_q_1 sA_g)
  replace hE : Ex g (sA g q_1 88 6) := hE.tr (Ex.push o_q_1 sA_g)
  replace hP : PF [60, 52, 51, 50, 49, 38, 37, 36, 34, 30, 29, 24, 22, 21, 0] (sA g q_1 88 6) h := hP.pu (Ex.push o_q_1 sA_g) (sA_g h (ne0 r_h o_q_1 (by decide))).2.1
  have r_2 : (sA g q_1 88 6).1 h = 18 := ((sA_g h (ne0 r_h o_q_1 (by decide))).1.trans r_h)
  have r_3 : (sA g q_1 88 6).1 q_1 = 88 := sA_r
  have n_4 : (sA g q_1 88 6).2.2.1 q_1 = 6 := sA_n
  have kn_5 : (sA g q_1 88 6).2.1 h 0 = .int 0 := ((congrFun (sA_g h (ne0 r_h o_q_1 (by decide))).2.1 0).trans kz0)
  have kn_6 : (sA g q_1 88 6).2.1 h 22 = .int 0 := ((congrFun (sA_g h (ne0 r_h o_q_1 (by decide))).2.1 22).trans kz22)
  have kn_7 : (sA g q_1 88 6).2.1 h 24 = .int 0 := ((congrFun (sA_g h (ne0 r_h o_q_1 (by decide))).2.1 24).trans kz24)
  have kn_8 : (sA g q_1 88 6).2.1 h 29 = .int 0 := ((congrFun (sA_g h (ne0 r_h o_q_1 (by decide))).2.1 29).trans kz29)
  have kn_9 : (sA g q_1 88 6).2.1 h 30 = .int 0 := ((congrFun (sA_g h (ne0 r_h o_q_1 (by decide))).2.1 30).trans kz30)
  have kn_10 : (sA g q_1 88 6).2.1 h 34 = .int 0 := ((congrFun (sA_g h (ne0 r_h o_q_1 (by decide))).2.1 34).trans kz34)
  generalize (sA g q_1 88 6) = g_11 at hT hI hM hE r_2 r_3 n_4 kn_5 kn_6 kn_7 kn_8 kn_9 kn_10 hP
  refine W.widen (k := 1) (n := 6) (Nat.le_of_ble_eq_true rfl) (Nat.le_of_ble_eq_true rfl) ?_
  refine t_put0 (ci := 7) (v := .ref q_1) hB hT (ro_ci r_2 rfl) (ro_n0 r_2 (by decide)) rfl 1 (by decide) k_746 (Or.inr ⟨hin, rfl⟩) rfl rfl dX7_init_9 (fun H locs hT => ?_)
  replace hI : Inv (sF g_11 h 1 (.ref q_1)) := hI.sF (fk r_2 (show fsm _ _ ft from trivial))
  replace hM : Sm md_k_Model g (sF g_11 h 1 (.ref q_1)) := hM.tr hE (Sm_sF (by rw [r_2]; rfl))
  replace hE : Ex g (sF g_11 h 1 (.ref q_1)) := hE
  replace hP : PF [1, 60, 52, 51, 50, 49, 38, 37, 36, 34, 30, 29, 24, 22, 21, 0] (sF g_11 h 1 (.ref q_1)) h := hP.put (q_8_1 (⟨_, rfl, r_3, n_4⟩))
  refine lv_aload_n hx hb dX7_init_12 rfl (lv_at hl 0 rfl) ?_
  refine lv_bipush (v := 48) hx hb dX7_init_13 (by decide) ?_
  refine t_newi (N' := 48) hB hT 71 (by decide) k_101 (by decide) (by decide) (by decide) (Nat.le_of_ble_eq_true rfl) (Nat.le_of_ble_eq_true rfl) dX7_init_15 (fun q_12 H o_q_12 hT => ?_)
  have z_q_12 : g.1 q_12 = 0 := hE.z0 o_q_12
  replace hI : Inv (sA (sF g_11 h 1 (.ref q_1)) q_12 71 48) := hI.newi o_q_12 (by decide) (fun _ => rfl) trivial (fun _ => trivial)
  replace hM : Sm md_k_Model g (sA (sF g_11 h 1 (.ref q_1)) q_12 71 48) := hM.tr hE (Sm.push o_q_12 sA_g)
  replace hE : Ex g (sA (sF g_11 h 1 (.ref q_1)) q_12 71 48) := hE.tr (Ex.push o_q_12 sA_g)
  replace hP : PF [1, 60, 52, 51, 50, 49, 38, 37, 36, 34, 30, 29, 24, 22, 21, 0] (sA (sF g_11 h 1 (.ref q_1)) q_12 71 48) h := hP.pu (Ex.push o_q_12 sA_g) (sA_g h (ne0 r_2 o_q_12 (by decide))).2.1
  have r_13 : (sA (sF g_11 h 1 (.ref q_1)) q_12 71 48).1 h = 18 := ((sA_g h (ne0 r_2 o_q_12 (by decide))).1.trans r_2)
  have r_14 : (sA (sF g_11 h 1 (.ref q_1)) q_12 71 48).1 q_12 = 71 := sA_r
  have n_15 : (sA (sF g_11 h 1 (.ref q_1)) q_12 71 48).2.2.1 q_12 = 48 := sA_n
  have kn_16 : (sA (sF g_11 h 1 (.ref q_1)) q_12 71 48).2.1 h 0 = .int 0 := ((congrFun (sA_g h (ne0 r_2 o_q_12 (by decide))).2.1 0).trans (sF_k kn_5 (by decide)))
  have kn_17 : (sA (sF g_11 h 1 (.ref q_1)) q_12 71 48).2.1 h 22 = .int 0 := ((congrFun (sA_g h (ne0 r_2 o_q_12 (by decide))).2.1 22).trans (sF_k kn_6 (by decide)))
  have kn_18 : (sA (sF g_11 h 1 (.ref q_1)) q_12 71 48).2.1 h 24 = .int 0 := ((congrFun (sA_g h (ne0 r_2 o_q_12 (by decide))).2.1 24).trans (sF_k kn_7 (by decide)))
  have kn_19 : (sA (sF g_11 h 1 (.ref q_1)) q_12 71 48).2.1 h 29 = .int 0 := ((congrFun (sA_g h (ne0 r_2 o_q_12 (by decide))).2.1 29).trans (sF_k kn_8 (by decide)))
  have kn_20 : (sA (sF g_11 h 1 (.ref q_1)) q_12 71 48).2.1 h 30 = .int 0 := ((congrFun (sA_g h (ne0 r_2 o_q_12 (by decide))).2.1 30).trans (sF_k kn_9 (by decide)))
  have kn_21 : (sA (sF g_11 h 1 (.ref q_1)) q_12 71 48).2.1 h 34 = .int 0 := ((congrFun (sA_g h (ne0 r_2 o_q_12 (by decide))).2.1 34).trans (sF_k kn_10 (by decide)))
  generalize (sA (sF g_11 h 1 (.ref q_1)) q_12 71 48) = g_22 at hT hI hM hE r_13 r_14 n_15 kn_16 kn_17 kn_18 kn_19 kn_20 kn_21 hP
  clear kn_10 kn_5 kn_6 kn_7 kn_8 kn_9 r_2
  refine W.widen (k := 2) (n := 54) (Nat.le_of_ble_eq_true rfl) (Nat.le_of_ble_eq_true rfl) ?_
  refine t_put0 (ci := 7) (v := .ref q_12) hB hT (ro_ci r_13 rfl) (ro_n0 r_13 (by decide)) rfl 2 (by decide) k_747 (Or.inr ⟨hin, rfl⟩) rfl rfl dX7_init_17 (fun H locs hT => ?_)
  replace hI : Inv (sF g_22 h 2 (.ref q_12)) := hI.sF (fk r_13 (show fsm _ _ ft from trivial))
  replace hM : Sm md_k_Model g (sF g_22 h 2 (.ref q_12)) := hM.tr hE (Sm_sF (by rw [r_13]; rfl))
  replace hE : Ex g (sF g_22 h 2 (.ref q_12)) := hE
  replace hP : PF [2, 1, 60, 52, 51, 50, 49, 38, 37, 36, 34, 30, 29, 24, 22, 21, 0] (sF g_22 h 2 (.ref q_12)) h := hP.put (q_8_2 (⟨_, rfl, r_14, n_15⟩))
  refine lv_aload_n hx hb dX7_init_20 rfl (lv_at hl 0 rfl) ?_
  refine lv_bipush (v := 48) hx hb dX7_init_21 (by decide) ?_
  refine t_newi (N' := 48) hB hT 72 (by decide) k_101 (by decide) (by decide) (by decide) (Nat.le_of_ble_eq_true rfl) (Nat.le_of_ble_eq_true rfl) dX7_init_23 (fun q_23 H o_q_23 hT => ?_)
  have z_q_23 : g.1 q_23 = 0 := hE.z0 o_q_23
  replace hI : Inv (sA (sF g_22 h 2 (.ref q_12)) q_23 72 48) := hI.newi o_q_23 (by decide) (fun _ => rfl) ⟨by decide, by decide⟩ (fun _ => trivial)
  replace hM : Sm md_k_Model g (sA (sF g_22 h 2 (.ref q_12)) q_23 72 48) := hM.tr hE (Sm.push o_q_23 sA_g)
  replace hE : Ex g (sA (sF g_22 h 2 (.ref q_12)) q_23 72 48) := hE.tr (Ex.push o_q_23 sA_g)
  replace hP : PF [2, 1, 60, 52, 51, 50, 49, 38, 37, 36, 34, 30, 29, 24, 22, 21, 0] (sA (sF g_22 h 2 (.ref q_12)) q_23 72 48) h := hP.pu (Ex.push o_q_23 sA_g) (sA_g h (ne0 r_13 o_q_23 (by decide))).2.1
  have zP : ZC (sA (sF g_22 h 2 (.ref q_12)) q_23 72 48) q_23 := sA_z
  have r_24 : (sA (sF g_22 h 2 (.ref q_12)) q_23 72 48).1 h = 18 := ((sA_g h (ne0 r_13 o_q_23 (by decide))).1.trans r_13)
  have r_25 : (sA (sF g_22 h 2 (.ref q_12)) q_23 72 48).1 q_12 = 71 := ((sA_g q_12 (ne0 r_14 o_q_23 (by decide))).1.trans r_14)
  have r_26 : (sA (sF g_22 h 2 (.ref q_12)) q_23 72 48).1 q_23 = 72 := sA_r
  have n_27 : (sA (sF g_22 h 2 (.ref q_12)) q_23 72 48).2.2.1 q_12 = 48 := ((sA_g q_12 (ne0 r_14 o_q_23 (by decide))).2.2.1.trans n_15)
  have n_28 : (sA (sF g_22 h 2 (.ref q_12)) q_23 72 48).2.2.1 q_23 = 48 := sA_n
  have kn_29 : (sA (sF g_22 h 2 (.ref q_12)) q_23 72 48).2.1 h 0 = .int 0 := ((congrFun (sA_g h (ne0 r_13 o_q_23 (by decide))).2.1 0).trans (sF_k kn_16 (by decide)))
  have kn_30 : (sA (sF g_22 h 2 (.ref q_12)) q_23 72 48).2.1 h 22 = .int 0 := ((congrFun (sA_g h (ne0 r_13 o_q_23 (by decide))).2.1 22).trans (sF_k kn_17 (by decide)))
  have kn_31 : (sA (sF g_22 h 2 (.ref q_12)) q_23 72 48).2.1 h 24 = .int 0 := ((congrFun (sA_g h (ne0 r_13 o_q_23 (by decide))).2.1 24).trans (sF_k kn_18 (by decide)))
  have kn_32 : (sA (sF g_22 h 2 (.ref q_12)) q_23 72 48).2.1 h 29 = .int 0 := ((congrFun (sA_g h (ne0 r_13 o_q_23 (by decide))).2.1 29).trans (sF_k kn_19 (by decide)))
  have kn_33 : (sA (sF g_22 h 2 (.ref q_12)) q_23 72 48).2.1 h 30 = .int 0 := ((congrFun (sA_g h (ne0 r_13 o_q_23 (by decide))).2.1 30).trans (sF_k kn_20 (by decide)))
  have kn_34 : (sA (sF g_22 h 2 (.ref q_12)) q_23 72 48).2.1 h 34 = .int 0 := ((congrFun (sA_g h (ne0 r_13 o_q_23 (by decide))).2.1 34).trans (sF_k kn_21 (by decide)))
  have kn_35 : (sA (sF g_22 h 2 (.ref q_12)) q_23 72 48).2.1 h 2 = .ref q_12 := ((congrFun (sA_g h (ne0 r_13 o_q_23 (by decide))).2.1 2).trans sF_eq)
  generalize (sA (sF g_22 h 2 (.ref q_12)) q_23 72 48) = g_36 at hT hI hM hE r_24 r_25 r_26 n_27 n_28 kn_29 kn_30 kn_31 kn_32 kn_33 kn_34 kn_35 hP zP
  clear kn_16 kn_17 kn_18 kn_19 kn_20 kn_21 n_15 r_13 r_14
  refine W.widen (k := 3) (n := 102) (Nat.le_of_ble_eq_true rfl) (Nat.le_of_ble_eq_true rfl) ?_
  refine t_put0 (ci := 7) (v := .ref q_23) hB hT (ro_ci r_24 rfl) (ro_n0 r_24 (by decide)) rfl 3 (by decide) k_748 (Or.inr ⟨hin, rfl⟩) rfl rfl dX7_init_25 (fun H locs hT => ?_)
  replace hI : Inv (sF g_36 h 3 (.ref q_23)) := hI.sF (fk r_24 (show fsm _ _ ft from trivial))
  replace hM : Sm md_k_Model g (sF g_36 h 3 (.ref q_23)) := hM.tr hE (Sm_sF (by rw [r_24]; rfl))
  replace hE : Ex g (sF g_36 h 3 (.ref q_23)) := hE
  replace hP : PF [3, 2, 1, 60, 52, 51, 50, 49, 38, 37, 36, 34, 30, 29, 24, 22, 21, 0] (sF g_36 h 3 (.ref q_23)) h := hP.put (q_8_3 (⟨_, rfl, r_26, n_28⟩))
  have zP : ZC (sF g_36 h 3 (.ref q_23)) q_23 := zP
  refine lv_aload_n hx hb dX7_init_28 rfl (lv_at hl 0 rfl) ?_
  refine lv_bipush (v := 48) hx hb dX7_init_29 (by decide) ?_
  refine t_newi (N' := 48) hB hT 73 (by decide) k_101 (by decide) (by decide) (by decide) (Nat.le_of_ble_eq_true rfl) (Nat.le_of_ble_eq_true rfl) dX7_init_31 (fun q_37 H o_q_37 hT => ?_)
  have z_q_37 : g.1 q_37 = 0 := hE.z0 o_q_37
  replace hI : Inv (sA (sF g_36 h 3 (.ref q_23)) q_37 73 48) := hI.newi o_q_37 (by decide) (fun _ => rfl) ⟨by decide, by decide⟩ (fun _ => trivial)
  replace hM : Sm md_k_Model g (sA (sF g_36 h 3 (.ref q_23)) q_37 73 48) := hM.tr hE (Sm.push o_q_37 sA_g)
  replace hE : Ex g (sA (sF g_36 h 3 (.ref q_23)) q_37 73 48) := hE.tr (Ex.push o_q_37 sA_g)
  replace hP : PF [3, 2, 1, 60, 52, 51, 50, 49, 38, 37, 36, 34, 30, 29, 24, 22, 21, 0] (sA (sF g_36 h 3 (.ref q_23)) q_37 73 48) h := hP.pu (Ex.push o_q_37 sA_g) (sA_g h (ne0 r_24 o_q_37 (by decide))).2.1
  have zP : ZC (sA (sF g_36 h 3 (.ref q_23)) q_37 73 48) q_23 := zP.pu (sA_g q_23 (ne0 r_26 o_q_37 (by decide))).2.2.2.1
  have r_38 : (sA (sF g_36 h 3 (.ref q_23)) q_37 73 48).1 h = 18 := ((sA_g h (ne0 r_24 o_q_37 (by decide))).1.trans r_24)
  have r_39 : (sA (sF g_36 h 3 (.ref q_23)) q_37 73 48).1 q_12 = 71 := ((sA_g q_12 (ne0 r_25 o_q_37 (by decide))).1.trans r_25)
  have r_40 : (sA (sF g_36 h 3 (.ref q_23)) q_37 73 48).1 q_23 = 72 := ((sA_g q_23 (ne0 r_26 o_q_37 (by decide))).1.trans r_26)
  have r_41 : (sA (sF g_36 h 3 (.ref q_23)) q_37 73 48).1 q_37 = 73 := sA_r
  have n_42 : (sA (sF g_36 h 3 (.ref q_23)) q_37 73 48).2.2.1 q_12 = 48 := ((sA_g q_12 (ne0 r_25 o_q_37 (by decide))).2.2.1.trans n_27)
  have n_43 : (sA (sF g_36 h 3 (.ref q_23)) q_37 73 48).2.2.1 q_23 = 48 := ((sA_g q_23 (ne0 r_26 o_q_37 (by decide))).2.2.1.trans n_28)
  have n_44 : (sA (sF g_36 h 3 (.ref q_23)) q_37 73 48).2.2.1 q_37 = 48 := sA_n
  have kn_45 : (sA (sF g_36 h 3 (.ref q_23)) q_37 73 48).2.1 h 0 = .int 0 := ((congrFun (sA_g h (ne0 r_24 o_q_37 (by decide))).2.1 0).trans (sF_k kn_29 (by decide)))
  have kn_46 : (sA (sF g_36 h 3 (.ref q_23)) q_37 73 48).2.1 h 22 = .int 0 := ((congrFun (sA_g h (ne0 r_24 o_q_37 (by decide))).2.1 22).trans (sF_k kn_30 (by decide)))
  have kn_47 : (sA (sF g_36 h 3 (.ref q_23)) q_37 73 48).2.1 h 24 = .int 0 := ((congrFun (sA_g h (ne0 r_24 o_q_37 (by decide))).2.1 24).trans (sF_k kn_31 (by decide)))
  have kn_48 : (sA (sF g_36 h 3 (.ref q_23)) q_37 73 48).2.1 h 29 = .int 0 := ((congrFun (sA_g h (ne0 r_24 o_q_37 (by decide))).2.1 29).trans (sF_k kn_32 (by decide)))
  have kn_49 : (sA (sF g_36 h 3 (.ref q_23)) q_37 73 48).2.1 h 30 = .int 0 := ((congrFun (sA_g h (ne0 r_24 o_q_37 (by decide))).2.1 30).trans (sF_k kn_33 (by decide)))
  have kn_50 : (sA (sF g_36 h 3 (.ref q_23)) q_37 73 48).2.1 h 34 = .int 0 := ((congrFun (sA_g h (ne0 r_24 o_q_37 (by decide))).2.1 34).trans (sF_k kn_34 (by decide)))
  have kn_51 : (sA (sF g_36 h 3 (.ref q_23)) q_37 73 48).2.1 h 2 = .ref q_12 := ((congrFun (sA_g h (ne0 r_24 o_q_37 (by decide))).2.1 2).trans (sF_k kn_35 (by decide)))
  have kn_52 : (sA (sF g_36 h 3 (.ref q_23)) q_37 73 48).2.1 h 3 = .ref q_23 := ((congrFun (sA_g h (ne0 r_24 o_q_37 (by decide))).2.1 3).trans sF_eq)
  generalize (sA (sF g_36 h 3 (.ref q_23)) q_37 73 48) = g_53 at hT hI hM hE r_38 r_39 r_40 r_41 n_42 n_43 n_44 kn_45 kn_46 kn_47 kn_48 kn_49 kn_50 kn_51 kn_52 hP zP
  clear kn_29 kn_30 kn_31 kn_32 kn_33 kn_34 kn_35 n_27 n_28 r_24 r_25 r_26
  refine W.widen (k := 4) (n := 150) (Nat.le_of_ble_eq_true rfl) (Nat.le_of_ble_eq_true rfl) ?_
  refine t_put0 (ci := 7) (v := .ref q_37) hB hT (ro_ci r_38 rfl) (ro_n0 r_38 (by decide)) rfl 4 (by decide) k_749 (Or.inr ⟨hin, rfl⟩) rfl rfl dX7_init_33 (fun H locs hT => ?_)
  replace hI : Inv (sF g_53 h 4 (.ref q_37)) := hI.sF (fk r_38 (show fsm _ _ ft from trivial))
  replace hM : Sm md_k_Model g (sF g_53 h 4 (.ref q_37)) := hM.tr hE (Sm_sF (by rw [r_38]; rfl))
  replace hE : Ex g (sF g_53 h 4 (.ref q_37)) := hE
  replace hP : PF [4, 3, 2, 1, 60, 52, 51, 50, 49, 38, 37, 36, 34, 30, 29, 24, 22, 21, 0] (sF g_53 h 4 (.ref q_37)) h := hP.put (q_8_4 (⟨_, rfl, r_41, n_44⟩))
  have zP : ZC (sF g_53 h 4 (.ref q_37)) q_23 := zP
  refine lv_aload_n hx hb dX7_init_36 rfl (lv_at hl 0 rfl) ?_
  refine lv_bipush (v := 6) hx hb dX7_init_37 (by decide) ?_
  refine t_newi (N' := 6) hB hT 74 (by decide) k_101 (by decide) (by decide) (by decide) (Nat.le_of_ble_eq_true rfl) (Nat.le_of_ble_eq_true rfl) dX7_init_39 (fun q_54 H o_q_54 hT => ?_)
  have z_q_54 : g.1 q_54 = 0 := hE.z0 o_q_54
  replace hI : Inv (sA (sF g_53 h 4 (.ref q_37)) q_54 74 6) := hI.newi o_q_54 (by decide) (fun _ => rfl) trivial (fun _ => trivial)
  replace hM : Sm md_k_Model g (sA (sF g_53 h 4 (.ref q_37)) q_54 74 6) := hM.tr hE (Sm.push o_q_54 sA_g)
  replace hE : Ex g (sA (sF g_53 h 4 (.ref q_37)) q_54 74 6) := hE.tr (Ex.push o_q_54 sA_g)
  replace hP : PF [4, 3, 2, 1, 60, 52, 51, 50, 49, 38, 37, 36, 34, 30, 29, 24, 22, 21, 0] (sA (sF g_53 h 4 (.ref q_37)) q_54 74 6) h := hP.pu (Ex.push o_q_54 sA_g) (sA_g h (ne0 r_38 o_q_54 (by decide))).2.1
  have zP : ZC (sA (sF g_53 h 4 (.ref q_37)) q_54 74 6) q_23 := zP.pu (sA_g q_23 (ne0 r_40 o_q_54 (by decide))).2.2.2.1
  have r_55 : (sA (sF g_53 h 4 (.ref q_37)) q_54 74 6).1 h = 18 := ((sA_g h (ne0 r_38 o_q_54 (by decide))).1.trans r_38)
  have r_56 : (sA (sF g_53 h 4 (.ref q_37)) q_54 74 6).1 q_12 = 71 := ((sA_g q_12 (ne0 r_39 o_q_54 (by decide))).1.trans r_39)
  have r_57 : (sA (sF g_53 h 4 (.ref q_37)) q_54 74 6).1 q_23 = 72 := ((sA_g q_23 (ne0 r_40 o_q_54 (by decide))).1.trans r_40)
  have r_58 : (sA (sF g_53 h 4 (.ref q_37)) q_54 74 6).1 q_54 = 74 := sA_r
  have n_59 : (sA (sF g_53 h 4 (.ref q_37)) q_54 74 6).2.2.1 q_12 = 48 := ((sA_g q_12 (ne0 r_39 o_q_54 (by decide))).2.2.1.trans n_42)
  have n_60 : (sA (sF g_53 h 4 (.ref q_37)) q_54 74 6).2.2.1 q_23 = 48 := ((sA_g q_23 (ne0 r_40 o_q_54 (by decide))).2.2.1.trans n_43)
  have n_61 : (sA (sF g_53 h 4 (.ref q_37)) q_54 74 6).2.2.1 q_54 = 6 := sA_n
  have kn_62 : (sA (sF g_53 h 4 (.ref q_37)) q_54 74 6).2.1 h 0 = .int 0 := ((congrFun (sA_g h (ne0 r_38 o_q_54 (by decide))).2.1 0).trans (sF_k kn_45 (by decide)))
  have kn_63 : (sA (sF g_53 h 4 (.ref q_37)) q_54 74 6).2.1 h 22 = .int 0 := ((congrFun (sA_g h (ne0 r_38 o_q_54 (by decide))).2.1 22).trans (sF_k kn_46 (by decide)))
  have kn_64 : (sA (sF g_53 h 4 (.ref q_37)) q_54 74 6).2.1 h 24 = .int 0 := ((congrFun (sA_g h (ne0 r_38 o_q_54 (by decide))).2.1 24).trans (sF_k kn_47 (by decide)))
  have kn_65 : (sA (sF g_53 h 4 (.ref q_37)) q_54 74 6).2.1 h 29 = .int 0 := ((congrFun (sA_g h (ne0 r_38 o_q_54 (by decide))).2.1 29).trans (sF_k kn_48 (by decide)))
  have kn_66 : (sA (sF g_53 h 4 (.ref q_37)) q_54 74 6).2.1 h 30 = .int 0 := ((congrFun (sA_g h (ne0 r_38 o_q_54 (by decide))).2.1 30).trans (sF_k kn_49 (by decide)))
  have kn_67 : (sA (sF g_53 h 4 (.ref q_37)) q_54 74 6).2.1 h 34 = .int 0 := ((congrFun (sA_g h (ne0 r_38 o_q_54 (by decide))).2.1 34).trans (sF_k kn_50 (by decide)))
  have kn_68 : (sA (sF g_53 h 4 (.ref q_37)) q_54 74 6).2.1 h 2 = .ref q_12 := ((congrFun (sA_g h (ne0 r_38 o_q_54 (by decide))).2.1 2).trans (sF_k kn_51 (by decide)))
  have kn_69 : (sA (sF g_53 h 4 (.ref q_37)) q_54 74 6).2.1 h 3 = .ref q_23 := ((congrFun (sA_g h (ne0 r_38 o_q_54 (by decide))).2.1 3).trans (sF_k kn_52 (by decide)))
  generalize (sA (sF g_53 h 4 (.ref q_37)) q_54 74 6) = g_70 at hT hI hM hE r_55 r_56 r_57 r_58 n_59 n_60 n_61 kn_62 kn_63 kn_64 kn_65 kn_66 kn_67 kn_68 kn_69 hP zP
  clear kn_45 kn_46 kn_47 kn_48 kn_49 kn_50 kn_51 kn_52 n_42 n_43 r_38 r_39 r_40
  refine W.widen (k := 5) (n := 156) (Nat.le_of_ble_eq_true rfl) (Nat.le_of_ble_eq_true rfl) ?_
  refine t_put0 (ci := 7) (v := .ref q_54) hB hT (ro_ci r_55 rfl) (ro_n0 r_55 (by decide)) rfl 5 (by decide) k_750 (Or.inr ⟨hin, rfl⟩) rfl rfl dX7_init_41 (fun H locs hT => ?_)
  replace hI : Inv (sF g_70 h 5 (.ref q_54)) := hI.sF (fk r_55 (show fsm _ _ ft from trivial))
  replace hM : Sm md_k_Model g (sF g_70 h 5 (.ref q_54)) := hM.tr hE (Sm_sF (by rw [r_55]; rfl))
  replace hE : Ex g (sF g_70 h 5 (.ref q_54)) := hE
  replace hP : PF [5, 4, 3, 2, 1, 60, 52, 51, 50, 49, 38, 37, 36, 34, 30, 29, 24, 22, 21, 0] (sF g_70 h 5 (.ref q_54)) h := hP.put (q_8_5 (⟨_, rfl, r_58, n_61⟩))
  have zP : ZC (sF g_70 h 5 (.ref q_54)) q_23 := zP
  refine lv_aload_n hx hb dX7_init_44 rfl (lv_at hl 0 rfl) ?_
  refine lv_bipush (v := 6) hx hb dX7_init_45 (by decide) ?_
  refine t_newi (N' := 6) hB hT 75 (by decide) k_101 (by decide) (by decide) (by decide) (Nat.le_of_ble_eq_true rfl) (Nat.le_of_ble_eq_true rfl) dX7_init_47 (fun q_71 H o_q_71 hT => ?_)
  have z_q_71 : g.1 q_71 = 0 := hE.z0 o_q_71
  replace hI : Inv (sA (sF g_70 h 5 (.ref q_54)) q_71 75 6) := hI.newi o_q_71 (by decide) (fun _ => rfl) trivial (fun _ => trivial)
  replace hM : Sm md_k_Model g (sA (sF g_70 h 5 (.ref q_54)) q_71 75 6) := hM.tr hE (Sm.push o_q_71 sA_g)
  replace hE : Ex g (sA (sF g_70 h 5 (.ref q_54)) q_71 75 6) := hE.tr (Ex.push o_q_71 sA_g)
  replace hP : PF [5, 4, 3, 2, 1, 60, 52, 51, 50, 49, 38, 37, 36, 34, 30, 29, 24, 22, 21, 0] (sA (sF g_70 h 5 (.ref q_54)) q_71 75 6) h := hP.pu (Ex.push o_q_71 sA_g) (sA_g h (ne0 r_55 o_q_71 (by decide))).2.1
  have zP : ZC (sA (sF g_70 h 5 (.ref q_54)) q_71 75 6) q_23 := zP.pu (sA_g q_23 (ne0 r_57 o_q_71 (by decide))).2.2.2.1
  have r_72 : (sA (sF g_70 h 5 (.ref q_54)) q_71 75 6).1 h = 18 := ((sA_g h (ne0 r_55 o_q_71 (by decide))).1.trans r_55)
  have r_73 : (sA (sF g_70 h 5 (.ref q_54)) q_71 75 6).1 q_12 = 71 := ((sA_g q_12 (ne0 r_56 o_q_71 (by decide))).1.trans r_56)
  have r_74 : (sA (sF g_70 h 5 (.ref q_54)) q_71 75 6).1 q_23 = 72 := ((sA_g q_23 (ne0 r_57 o_q_71 (by decide))).1.trans r_57)
  have r_75 : (sA (sF g_70 h 5 (.ref q_54)) q_71 75 6).1 q_71 = 75 := sA_r
  have n_76 : (sA (sF g_70 h 5 (.ref q_54)) q_71 75 6).2.2.1 q_12 = 48 := ((sA_g q_12 (ne0 r_56 o_q_71 (by decide))).2.2.1.trans n_59)
  have n_77 : (sA (sF g_70 h 5 (.ref q_54)) q_71 75 6).2.2.1 q_23 = 48 := ((sA_g q_23 (ne0 r_57 o_q_71 (by decide))).2.2.1.trans n_60)
  have n_78 : (sA (sF g_70 h 5 (.ref q_54)) q_71 75 6).2.2.1 q_71 = 6 := sA_n
  have kn_79 : (sA (sF g_70 h 5 (.ref q_54)) q_71 75 6).2.1 h 0 = .int 0 := ((congrFun (sA_g h (ne0 r_55 o_q_71 (by decide))).2.1 0).trans (sF_k kn_62 (by decide)))
  have kn_80 : (sA (sF g_70 h 5 (.ref q_54)) q_71 75 6).2.1 h 22 = .int 0 := ((congrFun (sA_g h (ne0 r_55 o_q_71 (by decide))).2.1 22).trans (sF_k kn_63 (by decide)))
  have kn_81 : (sA (sF g_70 h 5 (.ref q_54)) q_71 75 6).2.1 h 24 = .int 0 := ((congrFun (sA_g h (ne0 r_55 o_q_71 (by decide))).2.1 24).trans (sF_k kn_64 (by decide)))
  have kn_82 : (sA (sF g_70 h 5 (.ref q_54)) q_71 75 6).2.1 h 29 = .int 0 := ((congrFun (sA_g h (ne0 r_55 o_q_71 (by decide))).2.1 29).trans (sF_k kn_65 (by decide)))
  have kn_83 : (sA (sF g_70 h 5 (.ref q_54)) q_71 75 6).2.1 h 30 = .int 0 := ((congrFun (sA_g h (ne0 r_55 o_q_71 (by decide))).2.1 30).trans (sF_k kn_66 (by decide)))
  have kn_84 : (sA (sF g_70 h 5 (.ref q_54)) q_71 75 6).2.1 h 34 = .int 0 := ((congrFun (sA_g h (ne0 r_55 o_q_71 (by decide))).2.1 34).trans (sF_k kn_67 (by decide)))
  have kn_85 : (sA (sF g_70 h 5 (.ref q_54)) q_71 75 6).2.1 h 2 = .ref q_12 := ((congrFun (sA_g h (ne0 r_55 o_q_71 (by decide))).2.1 2).trans (sF_k kn_68 (by decide)))
  have kn_86 : (sA (sF g_70 h 5 (.ref q_54)) q_71 75 6).2.1 h 3 = .ref q_23 := ((congrFun (sA_g h (ne0 r_55 o_q_71 (by decide))).2.1 3).trans (sF_k kn_69 (by decide)))
  generalize (sA (sF g_70 h 5 (.ref q_54)) q_71 75 6) = g_87 at hT hI hM hE r_72 r_73 r_74 r_75 n_76 n_77 n_78 kn_79 kn_80 kn_81 kn_82 kn_83 kn_84 kn_85 kn_86 hP zP
  clear kn_62 kn_63 kn_64 kn_65 kn_66 kn_67 kn_68 kn_69 n_59 n_60 r_55 r_56 r_57
  refine W.widen (k := 6) (n := 162) (Nat.le_of_ble_eq_true rfl) (Nat.le_of_ble_eq_true rfl) ?_
  refine t_put0 (ci := 7) (v := .ref q_71) hB hT (ro_ci r_72 rfl) (ro_n0 r_72 (by decide)) rfl 6 (by decide) k_751 (Or.inr ⟨hin, rfl⟩) rfl rfl dX7_init_49 (fun H locs hT => ?_)
  replace hI : Inv (sF g_87 h 6 (.ref q_71)) := hI.sF (fk r_72 (show fsm _ _ ft from trivial))
  replace hM : Sm md_k_Model g (sF g_87 h 6 (.ref q_71)) := hM.tr hE (Sm_sF (by rw [r_72]; rfl))
  replace hE : Ex g (sF g_87 h 6 (.ref q_71)) := hE
  replace hP : PF [6, 5, 4, 3, 2, 1, 60, 52, 51, 50, 49, 38, 37, 36, 34, 30, 29, 24, 22, 21, 0] (sF g_87 h 6 (.ref q_71)) h := hP.put (q_8_6 (⟨_, rfl, r_75, n_78⟩))
  have zP : ZC (sF g_87 h 6 (.ref q_71)) q_23 := zP
  refine lv_aload_n hx hb dX7_init_52 rfl (lv_at hl 0 rfl) ?_
  refine lv_bipush (v := 48) hx hb dX7_init_53 (by decide) ?_
  refine t_newi (N' := 48) hB hT 56 (by decide) k_101 (by decide) (by decide) (by decide) (Nat.le_of_ble_eq_true rfl) (Nat.le_of_ble_eq_true rfl) dX7_init_55 (fun q_88 H o_q_88 hT => ?_)
  have z_q_88 : g.1 q_88 = 0 := hE.z0 o_q_88
  replace hI : Inv (sA (sF g_87 h 6 (.ref q_71)) q_88 56 48) := hI.newi o_q_88 (by decide) (fun _ => rfl) ⟨by decide, by decide⟩ (fun _ => trivial)
  replace hM : Sm md_k_Model g (sA (sF g_87 h 6 (.ref q_71)) q_88 56 48) := hM.tr hE (Sm.push o_q_88 sA_g)
  replace hE : Ex g (sA (sF g_87 h 6 (.ref q_71)) q_88 56 48) := hE.tr (Ex.push o_q_88 sA_g)
  replace hP : PF [6, 5, 4, 3, 2, 1, 60, 52, 51, 50, 49, 38, 37, 36, 34, 30, 29, 24, 22, 21, 0] (sA (sF g_87 h 6 (.ref q_71)) q_88 56 48) h := hP.pu (Ex.push o_q_88 sA_g) (sA_g h (ne0 r_72 o_q_88 (by decide))).2.1
  have zP : ZC (sA (sF g_87 h 6 (.ref q_71)) q_88 56 48) q_23 := zP.pu (sA_g q_23 (ne0 r_74 o_q_88 (by decide))).2.2.2.1
  have r_89 : (sA (sF g_87 h 6 (.ref q_71)) q_88 56 48).1 h = 18 := ((sA_g h (ne0 r_72 o_q_88 (by decide))).1.trans r_72)
  have r_90 : (sA (sF g_87 h 6 (.ref q_71)) q_88 56 48).1 q_12 = 71 := ((sA_g q_12 (ne0 r_73 o_q_88 (by decide))).1.trans r_73)
  have r_91 : (sA (sF g_87 h 6 (.ref q_71)) q_88 56 48).1 q_23 = 72 := ((sA_g q_23 (ne0 r_74 o_q_88 (by decide))).1.trans r_74)
  have r_92 : (sA (sF g_87 h 6 (.ref q_71)) q_88 56 48).1 q_88 = 56 := sA_r
  have n_93 : (sA (sF g_87 h 6 (.ref q_71)) q_88 56 48).2.2.1 q_12 = 48 := ((sA_g q_12 (ne0 r_73 o_q_88 (by decide))).2.2.1.trans n_76)
  have n_94 : (sA (sF g_87 h 6 (.ref q_71)) q_88 56 48).2.2.1 q_23 = 48 := ((sA_g q_23 (ne0 r_74 o_q_88 (by decide))).2.2.1.trans n_77)
  have n_95 : (sA (sF g_87 h 6 (.ref q_71)) q_88 56 48).2.2.1 q_88 = 48 := sA_n
  have kn_96 : (sA (sF g_87 h 6 (.ref q_71)) q_88 56 48).2.1 h 0 = .int 0 := ((congrFun (sA_g h (ne0 r_72 o_q_88 (by decide))).2.1 0).trans (sF_k kn_79 (by decide)))
  have kn_97 : (sA (sF g_87 h 6 (.ref q_71)) q_88 56 48).2.1 h 22 = .int 0 := ((congrFun (sA_g h (ne0 r_72 o_q_88 (by decide))).2.1 22).trans (sF_k kn_80 (by decide)))
  have kn_98 : (sA (sF g_87 h 6 (.ref q_71)) q_88 56 48).2.1 h 24 = .int 0 := ((congrFun (sA_g h (ne0 r_72 o_q_88 (by decide))).2.1 24).trans (sF_k kn_81 (by decide)))
  have kn_99 : (sA (sF g_87 h 6 (.ref q_71)) q_88 56 48).2.1 h 29 = .int 0 := ((congrFun (sA_g h (ne0 r_72 o_q_88 (by decide))).2.1 29).trans (sF_k kn_82 (by decide)))
  have kn_100 : (sA (sF g_87 h 6 (.ref q_71)) q_88 56 48).2.1 h 30 = .int 0 := ((congrFun (sA_g h (ne0 r_72 o_q_88 (by decide))).2.1 30).trans (sF_k kn_83 (by decide)))
  have kn_101 : (sA (sF g_87 h 6 (.ref q_71)) q_88 56 48).2.1 h 34 = .int 0 := ((congrFun (sA_g h (ne0 r_72 o_q_88 (by decide))).2.1 34).trans (sF_k kn_84 (by decide)))
  have kn_102 : (sA (sF g_87 h 6 (.ref q_71)) q_88 56 48).2.1 h 2 = .ref q_12 := ((congrFun (sA_g h (ne0 r_72 o_q_88 (by decide))).2.1 2).trans (sF_k kn_85 (by decide)))
  have kn_103 : (sA (sF g_87 h 6 (.ref q_71)) q_88 56 48).2.1 h 3 = .ref q_23 := ((congrFun (sA_g h (ne0 r_72 o_q_88 (by decide))).2.1 3).trans (sF_k kn_86 (by decide)))
  generalize (sA (sF g_87 h 6 (.ref q_71)) q_88 56 48) = g_104 at hT hI hM hE r_89 r_90 r_91 r_92 n_93 n_94 n_95 kn_96 kn_97 kn_98 kn_99 kn_100 kn_101 kn_102 kn_103 hP zP
  clear kn_79 kn_80 kn_81 kn_82 kn_83 kn_84 kn_85 kn_86 n_76 n_77 r_72 r_73 r_74
  refine W.widen (k := 7) (n := 210) (Nat.le_of_ble_eq_true rfl) (Nat.le_of_ble_eq_true rfl) ?_
  refine t_put0 (ci := 7) (v := .ref q_88) hB hT (ro_ci r_89 rfl) (ro_n0 r_89 (by decide)) rfl 7 (by decide) k_752 (Or.inr ⟨hin, rfl⟩) rfl rfl dX7_init_57 (fun H locs hT => ?_)
  replace hI : Inv (sF g_104 h 7 (.ref q_88)) := hI.sF (fk r_89 (show fsm _ _ ft from trivial))
  replace hM : Sm md_k_Model g (sF g_104 h 7 (.ref q_88)) := hM.tr hE (Sm_sF (by rw [r_89]; rfl))
  replace hE : Ex g (sF g_104 h 7 (.ref q_88)) := hE
  replace hP : PF [7, 6, 5, 4, 3, 2, 1, 60, 52, 51, 50, 49, 38, 37, 36, 34, 30, 29, 24, 22, 21, 0] (sF g_104 h 7 (.ref q_88)) h := hP.put (q_8_7 (⟨_, rfl, r_92, n_95⟩))
  have zP : ZC (sF g_104 h 7 (.ref q_88)) q_23 := zP
  refine lv_aload_n hx hb dX7_init_60 rfl (lv_at hl 0 rfl) ?_
  refine lv_bipush (v := 12) hx hb dX7_init_61 (by decide) ?_
  refine t_newi (N' := 12) hB hT 56 (by decide) k_101 (by decide) (by decide) (by decide) (Nat.le_of_ble_eq_true rfl) (Nat.le_of_ble_eq_true rfl) dX7_init_63 (fun q_105 H o_q_105 hT => ?_)
  have z_q_105 : g.1 q_105 = 0 := hE.z0 o_q_105
  replace hI : Inv (sA (sF g_104 h 7 (.ref q_88)) q_105 56 12) := hI.newi o_q_105 (by decide) (fun _ => rfl) ⟨by decide, by decide⟩ (fun _ => trivial)
  replace hM : Sm md_k_Model g (sA (sF g_104 h 7 (.ref q_88)) q_105 56 12) := hM.tr hE (Sm.push o_q_105 sA_g)
  replace hE : Ex g (sA (sF g_104 h 7 (.ref q_88)) q_105 56 12) := hE.tr (Ex.push o_q_105 sA_g)
  replace hP : PF [7, 6, 5, 4, 3, 2, 1, 60, 52, 51, 50, 49, 38, 37, 36, 34, 30, 29, 24, 22, 21, 0] (sA (sF g_104 h 7 (.ref q_88)) q_105 56 12) h := hP.pu (Ex.push o_q_105 sA_g) (sA_g h (ne0 r_89 o_q_105 (by decide))).2.1
  have zP : ZC (sA (sF g_104 h 7 (.ref q_88)) q_105 56 12) q_23 := zP.pu (sA_g q_23 (ne0 r_91 o_q_105 (by decide))).2.2.2.1
  have r_106 : (sA (sF g_104 h 7 (.ref q_88)) q_105 56 12).1 h = 18 := ((sA_g h (ne0 r_89 o_q_105 (by decide))).1.trans r_89)
  have r_107 : (sA (sF g_104 h 7 (.ref q_88)) q_105 56 12).1 q_12 = 71 := ((sA_g q_12 (ne0 r_90 o_q_105 (by decide))).1.trans r_90)
  have r_108 : (sA (sF g_104 h 7 (.ref q_88)) q_105 56 12).1 q_23 = 72 := ((sA_g q_23 (ne0 r_91 o_q_105 (by decide))).1.trans r_91)
  have r_109 : (sA (sF g_104 h 7 (.ref q_88)) q_105 56 12).1 q_105 = 56 := sA_r
  have n_110 : (sA (sF g_104 h 7 (.ref q_88)) q_105 56 12).2.2.1 q_12 = 48 := ((sA_g q_12 (ne0 r_90 o_q_105 (by decide))).2.2.1.trans n_93)
  have n_111 : (sA (sF g_104 h 7 (.ref q_88)) q_105 56 12).2.2.1 q_23 = 48 := ((sA_g q_23 (ne0 r_91 o_q_105 (by decide))).2.2.1.trans n_94)
  have n_112 : (sA (sF g_104 h 7 (.ref q_88)) q_105 56 12).2.2.1 q_105 = 12 := sA_n
  have kn_113 : (sA (sF g_104 h 7 (.ref q_88)) q_105 56 12).2.1 h 0 = .int 0 := ((congrFun (sA_g h (ne0 r_89 o_q_105 (by decide))).2.1 0).trans (sF_k kn_96 (by decide)))
  have kn_114 : (sA (sF g_104 h 7 (.ref q_88)) q_105 56 12).2.1 h 22 = .int 0 := ((congrFun (sA_g h (ne0 r_89 o_q_105 (by decide))).2.1 22).trans (sF_k kn_97 (by decide)))
  have kn_115 : (sA (sF g_104 h 7 (.ref q_88)) q_105 56 12).2.1 h 24 = .int 0 := ((congrFun (sA_g h (ne0 r_89 o_q_105 (by decide))).2.1 24).trans (sF_k kn_98 (by decide)))
  have kn_116 : (sA (sF g_104 h 7 (.ref q_88)) q_105 56 12).2.1 h 29 = .int 0 := ((congrFun (sA_g h (ne0 r_89 o_q_105 (by decide))).2.1 29).trans (sF_k kn_99 (by decide)))
  have kn_117 : (sA (sF g_104 h 7 (.ref q_88)) q_105 56 12).2.1 h 30 = .int 0 := ((congrFun (sA_g h (ne0 r_89 o_q_105 (by decide))).2.1 30).trans (sF_k kn_100 (by decide)))
  have kn_118 : (sA (sF g_104 h 7 (.ref q_88)) q_105 56 12).2.1 h 34 = .int 0 := ((congrFun (sA_g h (ne0 r_89 o_q_105 (by decide))).2.1 34).trans (sF_k kn_101 (by decide)))
  have kn_119 : (sA (sF g_104 h 7 (.ref q_88)) q_105 56 12).2.1 h 2 = .ref q_12 := ((congrFun (sA_g h (ne0 r_89 o_q_105 (by decide))).2.1 2).trans (sF_k kn_102 (by decide)))
  have kn_120 : (sA (sF g_104 h 7 (.ref q_88)) q_105 56 12).2.1 h 3 = .ref q_23 := ((congrFun (sA_g h (ne0 r_89 o_q_105 (by decide))).2.1 3).trans (sF_k kn_103 (by decide)))
  generalize (sA (sF g_104 h 7 (.ref q_88)) q_105 56 12) = g_121 at hT hI hM hE r_106 r_107 r_108 r_109 n_110 n_111 n_112 kn_113 kn_114 kn_115 kn_116 kn_117 kn_118 kn_119 kn_120 hP zP
  clear kn_100 kn_101 kn_102 kn_103 kn_96 kn_97 kn_98 kn_99 n_93 n_94 r_89 r_90 r_91
  refine W.widen (k := 8) (n := 222) (Nat.le_of_ble_eq_true rfl) (Nat.le_of_ble_eq_true rfl) ?_
  refine t_put0 (ci := 7) (v := .ref q_105) hB hT (ro_ci r_106 rfl) (ro_n0 r_106 (by decide)) rfl 8 (by decide) k_753 (Or.inr ⟨hin, rfl⟩) rfl rfl dX7_init_65 (fun H locs hT => ?_)
  replace hI : Inv (sF g_121 h 8 (.ref q_105)) := hI.sF (fk r_106 (show fsm _ _ ft from trivial))
  replace hM : Sm md_k_Model g (sF g_121 h 8 (.ref q_105)) := hM.tr hE (Sm_sF (by rw [r_106]; rfl))
  replace hE : Ex g (sF g_121 h 8 (.ref q_105)) := hE
  replace hP : PF [8, 7, 6, 5, 4, 3, 2, 1, 60, 52, 51, 50, 49, 38, 37, 36, 34, 30, 29, 24, 22, 21, 0] (sF g_121 h 8 (.ref q_105)) h := hP.put (q_8_8 (⟨_, rfl, r_109, n_112⟩))
  have zP : ZC (sF g_121 h 8 (.ref q_105)) q_23 := zP
  refine lv_aload_n hx hb dX7_init_68 rfl (lv_at hl 0 rfl) ?_
  refine lv_bipush (v := 12) hx hb dX7_init_69 (by decide) ?_
  refine t_newi (N' := 12) hB hT 54 (by decide) k_101 (by decide) (by decide) (by decide) (Nat.le_of_ble_eq_true rfl) (Nat.le_of_ble_eq_true rfl) dX7_init_71 (fun q_122 H o_q_122 hT => ?_)
  have z_q_122 : g.1 q_122 = 0 := hE.z0 o_q_122
  replace hI : Inv (sA (sF g_121 h 8 (.ref q_105)) q_122 54 12) := hI.newi o_q_122 (by decide) (fun _ => rfl) ⟨by decide, by decide⟩ (fun _ => trivial)
  replace hM : Sm md_k_Model g (sA (sF g_121 h 8 (.ref q_105)) q_122 54 12) := hM.tr hE (Sm.push o_q_122 sA_g)
  replace hE : Ex g (sA (sF g_121 h 8 (.ref q_105)) q_122 54 12) := hE.tr (Ex.push o_q_122 sA_g)
  replace hP : PF [8, 7, 6, 5, 4, 3, 2, 1, 60, 52, 51, 50, 49, 38, 37, 36, 34, 30, 29, 24, 22, 21, 0] (sA (sF g_121 h 8 (.ref q_105)) q_122 54 12) h := hP.pu (Ex.push o_q_122 sA_g) (sA_g h (ne0 r_106 o_q_122 (by decide))).2.1
  have zP : ZC (sA (sF g_121 h 8 (.ref q_105)) q_122 54 12) q_23 := zP.pu (sA_g q_23 (ne0 r_108 o_q_122 (by decide))).2.2.2.1
  have r_123 : (sA (sF g_121 h 8 (.ref q_105)) q_122 54 12).1 h = 18 := ((sA_g h (ne0 r_106 o_q_122 (by decide))).1.trans r_106)
  have r_124 : (sA (sF g_121 h 8 (.ref q_105)) q_122 54 12).1 q_12 = 71 := ((sA_g q_12 (ne0 r_107 o_q_122 (by decide))).1.trans r_107)
  have r_125 : (sA (sF g_121 h 8 (.ref q_105)) q_122 54 12).1 q_23 = 72 := ((sA_g q_23 (ne0 r_108 o_q_122 (by decide))).1.trans r_108)
  have r_126 : (sA (sF g_121 h 8 (.ref q_105)) q_122 54 12).1 q_122 = 54 := sA_r
  have n_127 : (sA (sF g_121 h 8 (.ref q_105)) q_122 54 12).2.2.1 q_12 = 48 := ((sA_g q_12 (ne0 r_107 o_q_122 (by decide))).2.2.1.trans n_110)
  have n_128 : (sA (sF g_121 h 8 (.ref q_105)) q_122 54 12).2.2.1 q_23 = 48 := ((sA_g q_23 (ne0 r_108 o_q_122 (by decide))).2.2.1.trans n_111)
  have n_129 : (sA (sF g_121 h 8 (.ref q_105)) q_122 54 12).2.2.1 q_122 = 12 := sA_n
  have kn_130 : (sA (sF g_121 h 8 (.ref q_105)) q_122 54 12).2.1 h 0 = .int 0 := ((congrFun (sA_g h (ne0 r_106 o_q_122 (by decide))).2.1 0).trans (sF_k kn_113 (by decide)))
  have kn_131 : (sA (sF g_121 h 8 (.ref q_105)) q_122 54 12).2.1 h 22 = .int 0 := ((congrFun (sA_g h (ne0 r_106 o_q_122 (by decide))).2.1 22).trans (sF_k kn_114 (by decide)))
  have kn_132 : (sA (sF g_121 h 8 (.ref q_105)) q_122 54 12).2.1 h 24 = .int 0 := ((congrFun (sA_g h (ne0 r_106 o_q_122 (by decide))).2.1 24).trans (sF_k kn_115 (by decide)))
  have kn_133 : (sA (sF g_121 h 8 (.ref q_105)) q_122 54 12).2.1 h 29 = .int 0 := ((congrFun (sA_g h (ne0 r_106 o_q_122 (by decide))).2.1 29).trans (sF_k kn_116 (by decide)))
  have kn_134 : (sA (sF g_121 h 8 (.ref q_105)) q_122 54 12).2.1 h 30 = .int 0 := ((congrFun (sA_g h (ne0 r_106 o_q_122 (by decide))).2.1 30).trans (sF_k kn_117 (by decide)))
  have kn_135 : (sA (sF g_121 h 8 (.ref q_105)) q_122 54 12).2.1 h 34 = .int 0 := ((congrFun (sA_g h (ne0 r_106 o_q_122 (by decide))).2.1 34).trans (sF_k kn_118 (by decide)))
  have kn_136 : (sA (sF g_121 h 8 (.ref q_105)) q_122 54 12).2.1 h 2 = .ref q_12 := ((congrFun (sA_g h (ne0 r_106 o_q_122 (by decide))).2.1 2).trans (sF_k kn_119 (by decide)))
  have kn_137 : (sA (sF g_121 h 8 (.ref q_105)) q_122 54 12).2.1 h 3 = .ref q_23 := ((congrFun (sA_g h (ne0 r_106 o_q_122 (by decide))).2.1 3).trans (sF_k kn_120 (by decide)))
  generalize (sA (sF g_121 h 8 (.ref q_105)) q_122 54 12) = g_138 at hT hI hM hE r_123 r_124 r_125 r_126 n_127 n_128 n_129 kn_130 kn_131 kn_132 kn_133 kn_134 kn_135 kn_136 kn_137 hP zP
  clear kn_113 kn_114 kn_115 kn_116 kn_117 kn_118 kn_119 kn_120 n_110 n_111 r_106 r_107 r_108
  refine W.widen (k := 9) (n := 234) (Nat.le_of_ble_eq_true rfl) (Nat.le_of_ble_eq_true rfl) ?_
  refine t_put0 (ci := 7) (v := .ref q_122) hB hT (ro_ci r_123 rfl) (ro_n0 r_123 (by decide)) rfl 9 (by decide) k_754 (Or.inr ⟨hin, rfl⟩) rfl rfl dX7_init_73 (fun H locs hT => ?_)
  replace hI : Inv (sF g_138 h 9 (.ref q_122)) := hI.sF (fk r_123 (show fsm _ _ ft from trivial))
  replace hM : Sm md_k_Model g (sF g_138 h 9 (.ref q_122)) := hM.tr hE (Sm_sF (by rw [r_123]; rfl))
  replace hE : Ex g (sF g_138 h 9 (.ref q_122)) := hE
  replace hP : PF [9, 8, 7, 6, 5, 4, 3, 2, 1, 60, 52, 51, 50, 49, 38, 37, 36, 34, 30, 29, 24, 22, 21, 0] (sF g_138 h 9 (.ref q_122)) h := hP.put (q_8_9 (⟨_, rfl, r_126, n_129⟩))
  have zP : ZC (sF g_138 h 9 (.ref q_122)) q_23 := zP
  refine lv_aload_n hx hb dX7_init_76 rfl (lv_at hl 0 rfl) ?_
  refine lv_sipush (v := 192) hx hb dX7_init_77 (by decide) ?_
  refine t_newi (N' := 192) hB hT 50 (by decide) k_101 (by decide) (by decide) (by decide) (Nat.le_of_ble_eq_true rfl) (Nat.le_of_ble_eq_true rfl) dX7_init_80 (fun q_139 H o_q_139 hT => ?_)
  have z_q_139 : g.1 q_139 = 0 := hE.z0 o_q_139
  replace hI : Inv (sA (sF g_138 h 9 (.ref q_122)) q_139 50 192) := hI.newi o_q_139 (by decide) (fun _ => rfl) trivial (fun _ => trivial)
  replace hM : Sm md_k_Model g (sA (sF g_138 h 9 (.ref q_122)) q_139 50 192) := hM.tr hE (Sm.push o_q_139 sA_g)
  replace hE : Ex g (sA (sF g_138 h 9 (.ref q_122)) q_139 50 192) := hE.tr (Ex.push o_q_139 sA_g)
  replace hP : PF [9, 8, 7, 6, 5, 4, 3, 2, 1, 60, 52, 51, 50, 49, 38, 37, 36, 34, 30, 29, 24, 22, 21, 0] (sA (sF g_138 h 9 (.ref q_122)) q_139 50 192) h := hP.pu (Ex.push o_q_139 sA_g) (sA_g h (ne0 r_123 o_q_139 (by decide))).2.1
  have zP : ZC (sA (sF g_138 h 9 (.ref q_122)) q_139 50 192) q_23 := zP.pu (sA_g q_23 (ne0 r_125 o_q_139 (by decide))).2.2.2.1
  have r_140 : (sA (sF g_138 h 9 (.ref q_122)) q_139 50 192).1 h = 18 := ((sA_g h (ne0 r_123 o_q_139 (by decide))).1.trans r_123)
  have r_141 : (sA (sF g_138 h 9 (.ref q_122)) q_139 50 192).1 q_12 = 71 := ((sA_g q_12 (ne0 r_124 o_q_139 (by decide))).1.trans r_124)
  have r_142 : (sA (sF g_138 h 9 (.ref q_122)) q_139 50 192).1 q_23 = 72 := ((sA_g q_23 (ne0 r_125 o_q_139 (by decide))).1.trans r_125)
  have r_143 : (sA (sF g_138 h 9 (.ref q_122)) q_139 50 192).1 q_139 = 50 := sA_r
  have n_144 : (sA (sF g_138 h 9 (.ref q_122)) q_139 50 192).2.2.1 q_12 = 48 := ((sA_g q_12 (ne0 r_124 o_q_139 (by decide))).2.2.1.trans n_127)
  have n_145 : (sA (sF g_138 h 9 (.ref q_122)) q_139 50 192).2.2.1 q_23 = 48 := ((sA_g q_23 (ne0 r_125 o_q_139 (by decide))).2.2.1.trans n_128)
  have n_146 : (sA (sF g_138 h 9 (.ref q_122)) q_139 50 192).2.2.1 q_139 = 192 := sA_n
  have kn_147 : (sA (sF g_138 h 9 (.ref q_122)) q_139 50 192).2.1 h 0 = .int 0 := ((congrFun (sA_g h (ne0 r_123 o_q_139 (by decide))).2.1 0).trans (sF_k kn_130 (by decide)))
  have kn_148 : (sA (sF g_138 h 9 (.ref q_122)) q_139 50 192).2.1 h 22 = .int 0 := ((congrFun (sA_g h (ne0 r_123 o_q_139 (by decide))).2.1 22).trans (sF_k kn_131 (by decide)))
  have kn_149 : (sA (sF g_138 h 9 (.ref q_122)) q_139 50 192).2.1 h 24 = .int 0 := ((congrFun (sA_g h (ne0 r_123 o_q_139 (by decide))).2.1 24).trans (sF_k kn_132 (by decide)))
  have kn_150 : (sA (sF g_138 h 9 (.ref q_122)) q_139 50 192).2.1 h 29 = .int 0 := ((congrFun (sA_g h (ne0 r_123 o_q_139 (by decide))).2.1 29).trans (sF_k kn_133 (by decide)))
  have kn_151 : (sA (sF g_138 h 9 (.ref q_122)) q_139 50 192).2.1 h 30 = .int 0 := ((congrFun (sA_g h (ne0 r_123 o_q_139 (by decide))).2.1 30).trans (sF_k kn_134 (by decide)))
  have kn_152 : (sA (sF g_138 h 9 (.ref q_122)) q_139 50 192).2.1 h 34 = .int 0 := ((congrFun (sA_g h (ne0 r_123 o_q_139 (by decide))).2.1 34).trans (sF_k kn_135 (by decide)))
  have kn_153 : (sA (sF g_138 h 9 (.ref q_122)) q_139 50 192).2.1 h 2 = .ref q_12 := ((congrFun (sA_g h (ne0 r_123 o_q_139 (by decide))).2.1 2).trans (sF_k kn_136 (by decide)))
  have kn_154 : (sA (sF g_138 h 9 (.ref q_122)) q_139 50 192).2.1 h 3 = .ref q_23 := ((congrFun (sA_g h (ne0 r_123 o_q_139 (by decide))).2.1 3).trans (sF_k kn_137 (by decide)))
  generalize (sA (sF g_138 h 9 (.ref q_122)) q_139 50 192) = g_155 at hT hI hM hE r_140 r_141 r_142 r_143 n_144 n_145 n_146 kn_147 kn_148 kn_149 kn_150 kn_151 kn_152 kn_153 kn_154 hP zP
  clear kn_130 kn_131 kn_132 kn_133 kn_134 kn_135 kn_136 kn_137 n_127 n_128 r_123 r_124 r_125
  refine W.widen (k := 10) (n := 426) (Nat.le_of_ble_eq_true rfl) (Nat.le_of_ble_eq_true rfl) ?_
  refine t_put0 (ci := 7) (v := .ref q_139) hB hT (ro_ci r_140 rfl) (ro_n0 r_140 (by decide)) rfl 10 (by decide) k_755 (Or.inr ⟨hin, rfl⟩) rfl rfl dX7_init_82 (fun H locs hT => ?_)
  replace hI : Inv (sF g_155 h 10 (.ref q_139)) := hI.sF (fk r_140 (show fsm _ _ ft from trivial))
  replace hM : Sm md_k_Model g (sF g_155 h 10 (.ref q_139)) := hM.tr hE (Sm_sF (by rw [r_140]; rfl))
  replace hE : Ex g (sF g_155 h 10 (.ref q_139)) := hE
  replace hP : PF [10, 9, 8, 7, 6, 5, 4, 3, 2, 1, 60, 52, 51, 50, 49, 38, 37, 36, 34, 30, 29, 24, 22, 21, 0] (sF g_155 h 10 (.ref q_139)) h := hP.put (q_8_10 (⟨_, rfl, r_143, n_146⟩))
  have zP : ZC (sF g_155 h 10 (.ref q_139)) q_23 := zP
  refine lv_aload_n hx hb dX7_init_85 rfl (lv_at hl 0 rfl) ?_
  refine lv_sipush (v := 192) hx hb dX7_init_86 (by decide) ?_
  refine t_newi (N' := 192) hB hT 50 (by decide) k_101 (by decide) (by decide) (by decide) (Nat.le_of_ble_eq_true rfl) (Nat.le_of_ble_eq_true rfl) dX7_init_89 (fun q_156 H o_q_156 hT => ?_)
  have z_q_156 : g.1 q_156 = 0 := hE.z0 o_q_156
  replace hI : Inv (sA (sF g_155 h 10 (.ref q_139)) q_156 50 192) := hI.newi o_q_156 (by decide) (fun _ => rfl) trivial (fun _ => trivial)
  replace hM : Sm md_k_Model g (sA (sF g_155 h 10 (.ref q_139)) q_156 50 192) := hM.tr hE (Sm.push o_q_156 sA_g)
  replace hE : Ex g (sA (sF g_155 h 10 (.ref q_139)) q_156 50 192) := hE.tr (Ex.push o_q_156 sA_g)
  replace hP : PF [10, 9, 8, 7, 6, 5, 4, 3, 2, 1, 60, 52, 51, 50, 49, 38, 37, 36, 34, 30, 29, 24, 22, 21, 0] (sA (sF g_155 h 10 (.ref q_139)) q_156 50 192) h := hP.pu (Ex.push o_q_156 sA_g) (sA_g h (ne0 r_140 o_q_156 (by decide))).2.1
  have zP : ZC (sA (sF g_155 h 10 (.ref q_139)) q_156 50 192) q_23 := zP.pu (sA_g q_23 (ne0 r_142 o_q_156 (by decide))).2.2.2.1
  have r_157 : (sA (sF g_155 h 10 (.ref q_139)) q_156 50 192).1 h = 18 := ((sA_g h (ne0 r_140 o_q_156 (by decide))).1.trans r_140)
  have r_158 : (sA (sF g_155 h 10 (.ref q_139)) q_156 50 192).1 q_12 = 71 := ((sA_g q_12 (ne0 r_141 o_q_156 (by decide))).1.trans r_141)
  have r_159 : (sA (sF g_155 h 10 (.ref q_139)) q_156 50 192).1 q_23 = 72 := ((sA_g q_23 (ne0 r_142 o_q_156 (by decide))).1.trans r_142)
  have r_160 : (sA (sF g_155 h 10 (.ref q_139)) q_156 50 192).1 q_156 = 50 := sA_r
  have n_161 : (sA (sF g_155 h 10 (.ref q_139)) q_156 50 192).2.2.1 q_12 = 48 := ((sA_g q_12 (ne0 r_141 o_q_156 (by decide))).2.2.1.trans n_144)
  have n_162 : (sA (sF g_155 h 10 (.ref q_139)) q_156 50 192).2.2.1 q_23 = 48 := ((sA_g q_23 (ne0 r_142 o_q_156 (by decide))).2.2.1.trans n_145)
  have n_163 : (sA (sF g_155 h 10 (.ref q_139)) q_156 50 192).2.2.1 q_156 = 192 := sA_n
  have kn_164 : (sA (sF g_155 h 10 (.ref q_139)) q_156 50 192).2.1 h 0 = .int 0 := ((congrFun (sA_g h (ne0 r_140 o_q_156 (by decide))).2.1 0).trans (sF_k kn_147 (by decide)))
  have kn_165 : (sA (sF g_155 h 10 (.ref q_139)) q_156 50 192).2.1 h 22 = .int 0 := ((congrFun (sA_g h (ne0 r_140 o_q_156 (by decide))).2.1 22).trans (sF_k kn_148 (by decide)))
  have kn_166 : (sA (sF g_155 h 10 (.ref q_139)) q_156 50 192).2.1 h 24 = .int 0 := ((congrFun (sA_g h (ne0 r_140 o_q_156 (by decide))).2.1 24).trans (sF_k kn_149 (by decide)))
  have kn_167 : (sA (sF g_155 h 10 (.ref q_139)) q_156 50 192).2.1 h 29 = .int 0 := ((congrFun (sA_g h (ne0 r_140 o_q_156 (by decide))).2.1 29).trans (sF_k kn_150 (by decide)))
  have kn_168 : (sA (sF g_155 h 10 (.ref q_139)) q_156 50 192).2.1 h 30 = .int 0 := ((congrFun (sA_g h (ne0 r_140 o_q_156 (by decide))).2.1 30).trans (sF_k kn_151 (by decide)))
  have kn_169 : (sA (sF g_155 h 10 (.ref q_139)) q_156 50 192).2.1 h 34 = .int 0 := ((congrFun (sA_g h (ne0 r_140 o_q_156 (by decide))).2.1 34).trans (sF_k kn_152 (by decide)))
  have kn_170 : (sA (sF g_155 h 10 (.ref q_139)) q_156 50 192).2.1 h 2 = .ref q_12 := ((congrFun (sA_g h (ne0 r_140 o_q_156 (by decide))).2.1 2).trans (sF_k kn_153 (by decide)))
  have kn_171 : (sA (sF g_155 h 10 (.ref q_139)) q_156 50 192).2.1 h 3 = .ref q_23 := ((congrFun (sA_g h (ne0 r_140 o_q_156 (by decide))).2.1 3).trans (sF_k kn_154 (by decide)))
  generalize (sA (sF g_155 h 10 (.ref q_139)) q_156 50 192) = g_172 at hT hI hM hE r_157 r_158 r_159 r_160 n_161 n_162 n_163 kn_164 kn_165 kn_166 kn_167 kn_168 kn_169 kn_170 kn_171 hP zP
  clear kn_147 kn_148 kn_149 kn_150 kn_151 kn_152 kn_153 kn_154 n_144 n_145 r_140 r_141 r_142
  refine W.widen (k := 11) (n := 618) (Nat.le_of_ble_eq_true rfl) (Nat.le_of_ble_eq_true rfl) ?_
  refine t_put0 (ci := 7) (v := .ref q_156) hB hT (ro_ci r_157 rfl) (ro_n0 r_157 (by decide)) rfl 11 (by decide) k_756 (Or.inr ⟨hin, rfl⟩) rfl rfl dX7_init_91 (fun H locs hT => ?_)
  replace hI : Inv (sF g_172 h 11 (.ref q_156)) := hI.sF (fk r_157 (show fsm _ _ ft from trivial))
  replace hM : Sm md_k_Model g (sF g_172 h 11 (.ref q_156)) := hM.tr hE (Sm_sF (by rw [r_157]; rfl))
  replace hE : Ex g (sF g_172 h 11 (.ref q_156)) := hE
  replace hP : PF [11, 10, 9, 8, 7, 6, 5, 4, 3, 2, 1, 60, 52, 51, 50, 49, 38, 37, 36, 34, 30, 29, 24, 22, 21, 0] (sF g_172 h 11 (.ref q_156)) h := hP.put (q_8_11 (⟨_, rfl, r_160, n_163⟩))
  have zP : ZC (sF g_172 h 11 (.ref q_156)) q_23 := zP
  refine lv_aload_n hx hb dX7_init_94 rfl (lv_at hl 0 rfl) ?_
  refine lv_sipush (v := 192) hx hb dX7_init_95 (by decide) ?_
  refine t_newi (N' := 192) hB hT 58 (by decide) k_101 (by decide) (by decide) (by decide) (Nat.le_of_ble_eq_true rfl) (Nat.le_of_ble_eq_true rfl) dX7_init_98 (fun q_173 H o_q_173 hT => ?_)
  have z_q_173 : g.1 q_173 = 0 := hE.z0 o_q_173
  replace hI : Inv (sA (sF g_172 h 11 (.ref q_156)) q_173 58 192) := hI.newi o_q_173 (by decide) (fun _ => rfl) ⟨by decide, by decide⟩ (fun _ => trivial)
  replace hM : Sm md_k_Model g (sA (sF g_172 h 11 (.ref q_156)) q_173 58 192) := hM.tr hE (Sm.push o_q_173 sA_g)
  replace hE : Ex g (sA (sF g_172 h 11 (.ref q_156)) q_173 58 192) := hE.tr (Ex.push o_q_173 sA_g)
  replace hP : PF [11, 10, 9, 8, 7, 6, 5, 4, 3, 2, 1, 60, 52, 51, 50, 49, 38, 37, 36, 34, 30, 29, 24, 22, 21, 0] (sA (sF g_172 h 11 (.ref q_156)) q_173 58 192) h := hP.pu (Ex.push o_q_173 sA_g) (sA_g h (ne0 r_157 o_q_173 (by decide))).2.1
  have zP : ZC (sA (sF g_172 h 11 (.ref q_156)) q_173 58 192) q_23 := zP.pu (sA_g q_23 (ne0 r_159 o_q_173 (by decide))).2.2.2.1
  have r_174 : (sA (sF g_172 h 11 (.ref q_156)) q_173 58 192).1 h = 18 := ((sA_g h (ne0 r_157 o_q_173 (by decide))).1.trans r_157)
  have r_175 : (sA (sF g_172 h 11 (.ref q_156)) q_173 58 192).1 q_12 = 71 := ((sA_g q_12 (ne0 r_158 o_q_173 (by decide))).1.trans r_158)
  have r_176 : (sA (sF g_172 h 11 (.ref q_156)) q_173 58 192).1 q_23 = 72 := ((sA_g q_23 (ne0 r_159 o_q_173 (by decide))).1.trans r_159)
  have r_177 : (sA (sF g_172 h 11 (.ref q_156)) q_173 58 192).1 q_173 = 58 := sA_r
  have n_178 : (sA (sF g_172 h 11 (.ref q_156)) q_173 58 192).2.2.1 q_12 = 48 := ((sA_g q_12 (ne0 r_158 o_q_173 (by decide))).2.2.1.trans n_161)
  have n_179 : (sA (sF g_172 h 11 (.ref q_156)) q_173 58 192).2.2.1 q_23 = 48 := ((sA_g q_23 (ne0 r_159 o_q_173 (by decide))).2.2.1.trans n_162)
  have n_180 : (sA (sF g_172 h 11 (.ref q_156)) q_173 58 192).2.2.1 q_173 = 192 := sA_n
  have kn_181 : (sA (sF g_172 h 11 (.ref q_156)) q_173 58 192).2.1 h 0 = .int 0 := ((congrFun (sA_g h (ne0 r_157 o_q_173 (by decide))).2.1 0).trans (sF_k kn_164 (by decide)))
  have kn_182 : (sA (sF g_172 h 11 (.ref q_156)) q_173 58 192).2.1 h 22 = .int 0 := ((congrFun (sA_g h (ne0 r_157 o_q_173 (by decide))).2.1 22).trans (sF_k kn_165 (by decide)))
  have kn_183 : (sA (sF g_172 h 11 (.ref q_156)) q_173 58 192).2.1 h 24 = .int 0 := ((congrFun (sA_g h (ne0 r_157 o_q_173 (by decide))).2.1 24).trans (sF_k kn_166 (by decide)))
  have kn_184 : (sA (sF g_172 h 11 (.ref q_156)) q_173 58 192).2.1 h 29 = .int 0 := ((congrFun (sA_g h (ne0 r_157 o_q_173 (by decide))).2.1 29).trans (sF_k kn_167 (by decide)))
  have kn_185 : (sA (sF g_172 h 11 (.ref q_156)) q_173 58 192).2.1 h 30 = .int 0 := ((congrFun (sA_g h (ne0 r_157 o_q_173 (by decide))).2.1 30).trans (sF_k kn_168 (by decide)))
  have kn_186 : (sA (sF g_172 h 11 (.ref q_156)) q_173 58 192).2.1 h 34 = .int 0 := ((congrFun (sA_g h (ne0 r_157 o_q_173 (by decide))).2.1 34).trans (sF_k kn_169 (by decide)))
  have kn_187 : (sA (sF g_172 h 11 (.ref q_156)) q_173 58 192).2.1 h 2 = .ref q_12 := ((congrFun (sA_g h (ne0 r_157 o_q_173 (by decide))).2.1 2).trans (sF_k kn_170 (by decide)))
  have kn_188 : (sA (sF g_172 h 11 (.ref q_156)) q_173 58 192).2.1 h 3 = .ref q_23 := ((congrFun (sA_g h (ne0 r_157 o_q_173 (by decide))).2.1 3).trans (sF_k kn_171 (by decide)))
  generalize (sA (sF g_172 h 11 (.ref q_156)) q_173 58 192) = g_189 at hT hI hM hE r_174 r_175 r_176 r_177 n_178 n_179 n_180 kn_181 kn_182 kn_183 kn_184 kn_185 kn_186 kn_187 kn_188 hP zP
  clear kn_164 kn_165 kn_166 kn_167 kn_168 kn_169 kn_170 kn_171 n_161 n_162 r_157 r_158 r_159
  refine W.widen (k := 12) (n := 810) (Nat.le_of_ble_eq_true rfl) (Nat.le_of_ble_eq_true rfl) ?_
  refine t_put0 (ci := 7) (v := .ref q_173) hB hT (ro_ci r_174 rfl) (ro_n0 r_174 (by decide)) rfl 12 (by decide) k_757 (Or.inr ⟨hin, rfl⟩) rfl rfl dX7_init_100 (fun H locs hT => ?_)
  replace hI : Inv (sF g_189 h 12 (.ref q_173)) := hI.sF (fk r_174 (show fsm _ _ ft from trivial))
  replace hM : Sm md_k_Model g (sF g_189 h 12 (.ref q_173)) := hM.tr hE (Sm_sF (by rw [r_174]; rfl))
  replace hE : Ex g (sF g_189 h 12 (.ref q_173)) := hE
  replace hP : PF [12, 11, 10, 9, 8, 7, 6, 5, 4, 3, 2, 1, 60, 52, 51, 50, 49, 38, 37, 36, 34, 30, 29, 24, 22, 21, 0] (sF g_189 h 12 (.ref q_173)) h := hP.put (q_8_12 (⟨_, rfl, r_177, n_180⟩))
  have zP : ZC (sF g_189 h 12 (.ref q_173)) q_23 := zP
  refine lv_aload_n hx hb dX7_init_103 rfl (lv_at hl 0 rfl) ?_
  refine lv_sipush (v := 192) hx hb dX7_init_104 (by decide) ?_
  refine t_newi (N' := 192) hB hT 50 (by decide) k_101 (by decide) (by decide) (by decide) (Nat.le_of_ble_eq_true rfl) (Nat.le_of_ble_eq_true rfl) dX7_init_107 (fun q_190 H o_q_190 hT => ?_)
  have z_q_190 : g.1 q_190 = 0 := hE.z0 o_q_190
  replace hI : Inv (sA (sF g_189 h 12 (.ref q_173)) q_190 50 192) := hI.newi o_q_190 (by decide) (fun _ => rfl) trivial (fun _ => trivial)
  replace hM : Sm md_k_Model g (sA (sF g_189 h 12 (.ref q_173)) q_190 50 192) := hM.tr hE (Sm.push o_q_190 sA_g)
  replace hE : Ex g (sA (sF g_189 h 12 (.ref q_173)) q_190 50 192) := hE.tr (Ex.push o_q_190 sA_g)
  replace hP : PF [12, 11, 10, 9, 8, 7, 6, 5, 4, 3, 2, 1, 60, 52, 51, 50, 49, 38, 37, 36, 34, 30, 29, 24, 22, 21, 0] (sA (sF g_189 h 12 (.ref q_173)) q_190 50 192) h := hP.pu (Ex.push o_q_190 sA_g) (sA_g h (ne0 r_174 o_q_190 (by decide))).2.1
  have zP : ZC (sA (sF g_189 h 12 (.ref q_173)) q_190 50 192) q_23 := zP.pu (sA_g q_23 (ne0 r_176 o_q_190 (by decide))).2.2.2.1
  have r_191 : (sA (sF g_189 h 12 (.ref q_173)) q_190 50 192).1 h = 18 := ((sA_g h (ne0 r_174 o_q_190 (by decide))).1.trans r_174)
  have r_192 : (sA (sF g_189 h 12 (.ref q_173)) q_190 50 192).1 q_12 = 71 := ((sA_g q_12 (ne0 r_175 o_q_190 (by decide))).1.trans r_175)
  have r_193 : (sA (sF g_189 h 12 (.ref q_173)) q_190 50 192).1 q_23 = 72 := ((sA_g q_23 (ne0 r_176 o_q_190 (by decide))).1.trans r_176)
  have r_194 : (sA (sF g_189 h 12 (.ref q_173)) q_190 50 192).1 q_190 = 50 := sA_r
  have n_195 : (sA (sF g_189 h 12 (.ref q_173)) q_190 50 192).2.2.1 q_12 = 48 := ((sA_g q_12 (ne0 r_175 o_q_190 (by decide))).2.2.1.trans n_178)
  have n_196 : (sA (sF g_189 h 12 (.ref q_173)) q_190 50 192).2.2.1 q_23 = 48 := ((sA_g q_23 (ne0 r_176 o_q_190 (by decide))).2.2.1.trans n_179)
  have n_197 : (sA (sF g_189 h 12 (.ref q_173)) q_190 50 192).2.2.1 q_190 = 192 := sA_n
  have kn_198 : (sA (sF g_189 h 12 (.ref q_173)) q_190 50 192).2.1 h 0 = .int 0 := ((congrFun (sA_g h (ne0 r_174 o_q_190 (by decide))).2.1 0).trans (sF_k kn_181 (by decide)))
  have kn_199 : (sA (sF g_189 h 12 (.ref q_173)) q_190 50 192).2.1 h 22 = .int 0 := ((congrFun (sA_g h (ne0 r_174 o_q_190 (by decide))).2.1 22).trans (sF_k kn_182 (by decide)))
  have kn_200 : (sA (sF g_189 h 12 (.ref q_173)) q_190 50 192).2.1 h 24 = .int 0 := ((congrFun (sA_g h (ne0 r_174 o_q_190 (by decide))).2.1 24).trans (sF_k kn_183 (by decide)))
  have kn_201 : (sA (sF g_189 h 12 (.ref q_173)) q_190 50 192).2.1 h 29 = .int 0 := ((congrFun (sA_g h (ne0 r_174 o_q_190 (by decide))).2.1 29).trans (sF_k kn_184 (by decide)))
  have kn_202 : (sA (sF g_189 h 12 (.ref q_173)) q_190 50 192).2.1 h 30 = .int 0 := ((congrFun (sA_g h (ne0 r_174 o_q_190 (by decide))).2.1 30).trans (sF_k kn_185 (by decide)))
  have kn_203 : (sA (sF g_189 h 12 (.ref q_173)) q_190 50 192).2.1 h 34 = .int 0 := ((congrFun (sA_g h (ne0 r_174 o_q_190 (by decide))).2.1 34).trans (sF_k kn_186 (by decide)))
  have kn_204 : (sA (sF g_189 h 12 (.ref q_173)) q_190 50 192).2.1 h 2 = .ref q_12 := ((congrFun (sA_g h (ne0 r_174 o_q_190 (by decide))).2.1 2).trans (sF_k kn_187 (by decide)))
  have kn_205 : (sA (sF g_189 h 12 (.ref q_173)) q_190 50 192).2.1 h 3 = .ref q_23 := ((congrFun (sA_g h (ne0 r_174 o_q_190 (by decide))).2.1 3).trans (sF_k kn_188 (by decide)))
  generalize (sA (sF g_189 h 12 (.ref q_173)) q_190 50 192) = g_206 at hT hI hM hE r_191 r_192 r_193 r_194 n_195 n_196 n_197 kn_198 kn_199 kn_200 kn_201 kn_202 kn_203 kn_204 kn_205 hP zP
  clear kn_181 kn_182 kn_183 kn_184 kn_185 kn_186 kn_187 kn_188 n_178 n_179 r_174 r_175 r_176
  refine W.widen (k := 13) (n := 1002) (Nat.le_of_ble_eq_true rfl) (Nat.le_of_ble_eq_true rfl) ?_
  refine t_put0 (ci := 7) (v := .ref q_190) hB hT (ro_ci r_191 rfl) (ro_n0 r_191 (by decide)) rfl 13 (by decide) k_758 (Or.inr ⟨hin, rfl⟩) rfl rfl dX7_init_109 (fun H locs hT => ?_)
  replace hI : Inv (sF g_206 h 13 (.ref q_190)) := hI.sF (fk r_191 (show fsm _ _ ft from trivial))
  replace hM : Sm md_k_Model g (sF g_206 h 13 (.ref q_190)) := hM.tr hE (Sm_sF (by rw [r_191]; rfl))
  replace hE : Ex g (sF g_206 h 13 (.ref q_190)) := hE
  replace hP : PF [13, 12, 11, 10, 9, 8, 7, 6, 5, 4, 3, 2, 1, 60, 52, 51, 50, 49, 38, 37, 36, 34, 30, 29, 24, 22, 21, 0] (sF g_206 h 13 (.ref q_190)) h := hP.put (q_8_13 (⟨_, rfl, r_194, n_197⟩))
  have zP : ZC (sF g_206 h 13 (.ref q_190)) q_23 := zP
  refine lv_aload_n hx hb dX7_init_112 rfl (lv_at hl 0 rfl) ?_
  refine lv_iconst (v := 2) hx hb dX7_init_113 (by decide) ?_
  refine t_newi (N' := 2) hB hT 50 (by decide) k_101 (by decide) (by decide) (by decide) (Nat.le_of_ble_eq_true rfl) (Nat.le_of_ble_eq_true rfl) dX7_init_114 (fun q_207 H o_q_207 hT => ?_)
  have z_q_207 : g.1 q_207 = 0 := hE.z0 o_q_207
  replace hI : Inv (sA (sF g_206 h 13 (.ref q_190)) q_207 50 2) := hI.newi o_q_207 (by decide) (fun _ => rfl) trivial (fun _ => trivial)
  replace hM : Sm md_k_Model g (sA (sF g_206 h 13 (.ref q_190)) q_207 50 2) := hM.tr hE (Sm.push o_q_207 sA_g)
  replace hE : Ex g (sA (sF g_206 h 13 (.ref q_190)) q_207 50 2) := hE.tr (Ex.push o_q_207 sA_g)
  replace hP : PF [13, 12, 11, 10, 9, 8, 7, 6, 5, 4, 3, 2, 1, 60, 52, 51, 50, 49, 38, 37, 36, 34, 30, 29, 24, 22, 21, 0] (sA (sF g_206 h 13 (.ref q_190)) q_207 50 2) h := hP.pu (Ex.push o_q_207 sA_g) (sA_g h (ne0 r_191 o_q_207 (by decide))).2.1
  have zP : ZC (sA (sF g_206 h 13 (.ref q_190)) q_207 50 2) q_23 := zP.pu (sA_g q_23 (ne0 r_193 o_q_207 (by decide))).2.2.2.1
  have r_208 : (sA (sF g_206 h 13 (.ref q_190)) q_207 50 2).1 h = 18 := ((sA_g h (ne0 r_191 o_q_207 (by decide))).1.trans r_191)
  have r_209 : (sA (sF g_206 h 13 (.ref q_190)) q_207 50 2).1 q_12 = 71 := ((sA_g q_12 (ne0 r_192 o_q_207 (by decide))).1.trans r_192)
  have r_210 : (sA (sF g_206 h 13 (.ref q_190)) q_207 50 2).1 q_23 = 72 := ((sA_g q_23 (ne0 r_193 o_q_207 (by decide))).1.trans r_193)
  have r_211 : (sA (sF g_206 h 13 (.ref q_190)) q_207 50 2).1 q_207 = 50 := sA_r
  have n_212 : (sA (sF g_206 h 13 (.ref q_190)) q_207 50 2).2.2.1 q_12 = 48 := ((sA_g q_12 (ne0 r_192 o_q_207 (by decide))).2.2.1.trans n_195)
  have n_213 : (sA (sF g_206 h 13 (.ref q_190)) q_207 50 2).2.2.1 q_23 = 48 := ((sA_g q_23 (ne0 r_193 o_q_207 (by decide))).2.2.1.trans n_196)
  have n_214 : (sA (sF g_206 h 13 (.ref q_190)) q_207 50 2).2.2.1 q_207 = 2 := sA_n
  have kn_215 : (sA (sF g_206 h 13 (.ref q_190)) q_207 50 2).2.1 h 0 = .int 0 := ((congrFun (sA_g h (ne0 r_191 o_q_207 (by decide))).2.1 0).trans (sF_k kn_198 (by decide)))
  have kn_216 : (sA (sF g_206 h 13 (.ref q_190)) q_207 50 2).2.1 h 22 = .int 0 := ((congrFun (sA_g h (ne0 r_191 o_q_207 (by decide))).2.1 22).trans (sF_k kn_199 (by decide)))
  have kn_217 : (sA (sF g_206 h 13 (.ref q_190)) q_207 50 2).2.1 h 24 = .int 0 := ((congrFun (sA_g h (ne0 r_191 o_q_207 (by decide))).2.1 24).trans (sF_k kn_200 (by decide)))
  have kn_218 : (sA (sF g_206 h 13 (.ref q_190)) q_207 50 2).2.1 h 29 = .int 0 := ((congrFun (sA_g h (ne0 r_191 o_q_207 (by decide))).2.1 29).trans (sF_k kn_201 (by decide)))
  have kn_219 : (sA (sF g_206 h 13 (.ref q_190)) q_207 50 2).2.1 h 30 = .int 0 := ((congrFun (sA_g h (ne0 r_191 o_q_207 (by decide))).2.1 30).trans (sF_k kn_202 (by decide)))
  have kn_220 : (sA (sF g_206 h 13 (.ref q_190)) q_207 50 2).2.1 h 34 = .int 0 := ((congrFun (sA_g h (ne0 r_191 o_q_207 (by decide))).2.1 34).trans (sF_k kn_203 (by decide)))
  have kn_221 : (sA (sF g_206 h 13 (.ref q_190)) q_207 50 2).2.1 h 2 = .ref q_12 := ((congrFun (sA_g h (ne0 r_191 o_q_207 (by decide))).2.1 2).trans (sF_k kn_204 (by decide)))
  have kn_222 : (sA (sF g_206 h 13 (.ref q_190)) q_207 50 2).2.1 h 3 = .ref q_23 := ((congrFun (sA_g h (ne0 r_191 o_q_207 (by decide))).2.1 3).trans (sF_k kn_205 (by decide)))
  generalize (sA (sF g_206 h 13 (.ref q_190)) q_207 50 2) = g_223 at hT hI hM hE r_208 r_209 r_210 r_211 n_212 n_213 n_214 kn_215 kn_216 kn_217 kn_218 kn_219 kn_220 kn_221 kn_222 hP zP
  clear kn_198 kn_199 kn_200 kn_201 kn_202 kn_203 kn_204 kn_205 n_195 n_196 r_191 r_192 r_193
  refine W.widen (k := 14) (n := 1004) (Nat.le_of_ble_eq_true rfl) (Nat.le_of_ble_eq_true rfl) ?_
  refine t_put0 (ci := 7) (v := .ref q_207) hB hT (ro_ci r_208 rfl) (ro_n0 r_208 (by decide)) rfl 14 (by decide) k_759 (Or.inr ⟨hin, rfl⟩) rfl rfl dX7_init_116 (fun H locs hT => ?_)
  replace hI : Inv (sF g_223 h 14 (.ref q_207)) := hI.sF (fk r_208 (show fsm _ _ ft from trivial))
  replace hM : Sm md_k_Model g (sF g_223 h 14 (.ref q_207)) := hM.tr hE (Sm_sF (by rw [r_208]; rfl))
  replace hE : Ex g (sF g_223 h 14 (.ref q_207)) := hE
  replace hP : PF [14, 13, 12, 11, 10, 9, 8, 7, 6, 5, 4, 3, 2, 1, 60, 52, 51, 50, 49, 38, 37, 36, 34, 30, 29, 24, 22, 21, 0] (sF g_223 h 14 (.ref q_207)) h := hP.put (q_8_14 (⟨_, rfl, r_211, n_214⟩))
  have zP : ZC (sF g_223 h 14 (.ref q_207)) q_23 := zP
  refine lv_aload_n hx hb dX7_init_119 rfl (lv_at hl 0 rfl) ?_
  refine lv_bipush (v := 12) hx hb dX7_init_120 (by decide) ?_
  refine t_newi (N' := 12) hB hT 50 (by decide) k_101 (by decide) (by decide) (by decide) (Nat.le_of_ble_eq_true rfl) (Nat.le_of_ble_eq_true rfl) dX7_init_122 (fun q_224 H o_q_224 hT => ?_)
  have z_q_224 : g.1 q_224 = 0 := hE.z0 o_q_224
  replace hI : Inv (sA (sF g_223 h 14 (.ref q_207)) q_224 50 12) := hI.newi o_q_224 (by decide) (fun _ => rfl) trivial (fun _ => trivial)
  replace hM : Sm md_k_Model g (sA (sF g_223 h 14 (.ref q_207)) q_224 50 12) := hM.tr hE (Sm.push o_q_224 sA_g)
  replace hE : Ex g (sA (sF g_223 h 14 (.ref q_207)) q_224 50 12) := hE.tr (Ex.push o_q_224 sA_g)
  replace hP : PF [14, 13, 12, 11, 10, 9, 8, 7, 6, 5, 4, 3, 2, 1, 60, 52, 51, 50, 49, 38, 37, 36, 34, 30, 29, 24, 22, 21, 0] (sA (sF g_223 h 14 (.ref q_207)) q_224 50 12) h := hP.pu (Ex.push o_q_224 sA_g) (sA_g h (ne0 r_208 o_q_224 (by decide))).2.1
  have zP : ZC (sA (sF g_223 h 14 (.ref q_207)) q_224 50 12) q_23 := zP.pu (sA_g q_23 (ne0 r_210 o_q_224 (by decide))).2.2.2.1
  have r_225 : (sA (sF g_223 h 14 (.ref q_207)) q_224 50 12).1 h = 18 := ((sA_g h (ne0 r_208 o_q_224 (by decide))).1.trans r_208)
  have r_226 : (sA (sF g_223 h 14 (.ref q_207)) q_224 50 12).1 q_12 = 71 := ((sA_g q_12 (ne0 r_209 o_q_224 (by decide))).1.trans r_209)
  have r_227 : (sA (sF g_223 h 14 (.ref q_207)) q_224 50 12).1 q_23 = 72 := ((sA_g q_23 (ne0 r_210 o_q_224 (by decide))).1.trans r_210)
  have r_228 : (sA (sF g_223 h 14 (.ref q_207)) q_224 50 12).1 q_224 = 50 := sA_r
  have n_229 : (sA (sF g_223 h 14 (.ref q_207)) q_224 50 12).2.2.1 q_12 = 48 := ((sA_g q_12 (ne0 r_209 o_q_224 (by decide))).2.2.1.trans n_212)
  have n_230 : (sA (sF g_223 h 14 (.ref q_207)) q_224 50 12).2.2.1 q_23 = 48 := ((sA_g q_23 (ne0 r_210 o_q_224 (by decide))).2.2.1.trans n_213)
  have n_231 : (sA (sF g_223 h 14 (.ref q_207)) q_224 50 12).2.2.1 q_224 = 12 := sA_n
  have kn_232 : (sA (sF g_223 h 14 (.ref q_207)) q_224 50 12).2.1 h 0 = .int 0 := ((congrFun (sA_g h (ne0 r_208 o_q_224 (by decide))).2.1 0).trans (sF_k kn_215 (by decide)))
  have kn_233 : (sA (sF g_223 h 14 (.ref q_207)) q_224 50 12).2.1 h 22 = .int 0 := ((congrFun (sA_g h (ne0 r_208 o_q_224 (by decide))).2.1 22).trans (sF_k kn_216 (by decide)))
  have kn_234 : (sA (sF g_223 h 14 (.ref q_207)) q_224 50 12).2.1 h 24 = .int 0 := ((congrFun (sA_g h (ne0 r_208 o_q_224 (by decide))).2.1 24).trans (sF_k kn_217 (by decide)))
  have kn_235 : (sA (sF g_223 h 14 (.ref q_207)) q_224 50 12).2.1 h 29 = .int 0 := ((congrFun (sA_g h (ne0 r_208 o_q_224 (by decide))).2.1 29).trans (sF_k kn_218 (by decide)))
  have kn_236 : (sA (sF g_223 h 14 (.ref q_207)) q_224 50 12).2.1 h 30 = .int 0 := ((congrFun (sA_g h (ne0 r_208 o_q_224 (by decide))).2.1 30).trans (sF_k kn_219 (by decide)))
  have kn_237 : (sA (sF g_223 h 14 (.ref q_207)) q_224 50 12).2.1 h 34 = .int 0 := ((congrFun (sA_g h (ne0 r_208 o_q_224 (by decide))).2.1 34).trans (sF_k kn_220 (by decide)))
  have kn_238 : (sA (sF g_223 h 14 (.ref q_207)) q_224 50 12).2.1 h 2 = .ref q_12 := ((congrFun (sA_g h (ne0 r_208 o_q_224 (by decide))).2.1 2).trans (sF_k kn_221 (by decide)))
  have kn_239 : (sA (sF g_223 h 14 (.ref q_207)) q_224 50 12).2.1 h 3 = .ref q_23 := ((congrFun (sA_g h (ne0 r_208 o_q_224 (by decide))).2.1 3).trans (sF_k kn_222 (by decide)))
  generalize (sA (sF g_223 h 14 (.ref q_207)) q_224 50 12) = g_240 at hT hI hM hE r_225 r_226 r_227 r_228 n_229 n_230 n_231 kn_232 kn_233 kn_234 kn_235 kn_236 kn_237 kn_238 kn_239 hP zP
  clear kn_215 kn_216 kn_217 kn_218 kn_219 kn_220 kn_221 kn_222 n_212 n_213 r_208 r_209 r_210
  refine W.widen (k := 15) (n := 1016) (Nat.le_of_ble_eq_true rfl) (Nat.le_of_ble_eq_true rfl) ?_
  refine t_put0 (ci := 7) (v := .ref q_224) hB hT (ro_ci r_225 rfl) (ro_n0 r_225 (by decide)) rfl 15 (by decide) k_760 (Or.inr ⟨hin, rfl⟩) rfl rfl dX7_init_124 (fun H locs hT => ?_)
  replace hI : Inv (sF g_240 h 15 (.ref q_224)) := hI.sF (fk r_225 (show fsm _ _ ft from trivial))
  replace hM : Sm md_k_Model g (sF g_240 h 15 (.ref q_224)) := hM.tr hE (Sm_sF (by rw [r_225]; rfl))
  replace hE : Ex g (sF g_240 h 15 (.ref q_224)) := hE
  replace hP : PF [15, 14, 13, 12, 11, 10, 9, 8, 7, 6, 5, 4, 3, 2, 1, 60, 52, 51, 50, 49, 38, 37, 36, 34, 30, 29, 24, 22, 21, 0] (sF g_240 h 15 (.ref q_224)) h := hP.put (q_8_15 (⟨_, rfl, r_228, n_231⟩))
  have zP : ZC (sF g_240 h 15 (.ref q_224)) q_23 := zP
  refine lv_aload_n hx hb dX7_init_127 rfl (lv_at hl 0 rfl) ?_
  refine lv_bipush (v := 12) hx hb dX7_init_128 (by decide) ?_
  refine t_newi (N' := 12) hB hT 50 (by decide) k_101 (by decide) (by decide) (by decide) (Nat.le_of_ble_eq_true rfl) (Nat.le_of_ble_eq_true rfl) dX7_init_130 (fun q_241 H o_q_241 hT => ?_)
  have z_q_241 : g.1 q_241 = 0 := hE.z0 o_q_241
  replace hI : Inv (sA (sF g_240 h 15 (.ref q_224)) q_241 50 12) := hI.newi o_q_241 (by decide) (fun _ => rfl) trivial (fun _ => trivial)
  replace hM : Sm md_k_Model g (sA (sF g_240 h 15 (.ref q_224)) q_241 50 12) := hM.tr hE (Sm.push o_q_241 sA_g)
  replace hE : Ex g (sA (sF g_240 h 15 (.ref q_224)) q_241 50 12) := hE.tr (Ex.push o_q_241 sA_g)
  replace hP : PF [15, 14, 13, 12, 11, 10, 9, 8, 7, 6, 5, 4, 3, 2, 1, 60, 52, 51, 50, 49, 38, 37, 36, 34, 30, 29, 24, 22, 21, 0] (sA (sF g_240 h 15 (.ref q_224)) q_241 50 12) h := hP.pu (Ex.push o_q_241 sA_g) (sA_g h (ne0 r_225 o_q_241 (by decide))).2.1
  have zP : ZC (sA (sF g_240 h 15 (.ref q_224)) q_241 50 12) q_23 := zP.pu (sA_g q_23 (ne0 r_227 o_q_241 (by decide))).2.2.2.1
  have r_242 : (sA (sF g_240 h 15 (.ref q_224)) q_241 50 12).1 h = 18 := ((sA_g h (ne0 r_225 o_q_241 (by decide))).1.trans r_225)
  have r_243 : (sA (sF g_240 h 15 (.ref q_224)) q_241 50 12).1 q_12 = 71 := ((sA_g q_12 (ne0 r_226 o_q_241 (by decide))).1.trans r_226)
  have r_244 : (sA (sF g_240 h 15 (.ref q_224)) q_241 50 12).1 q_23 = 72 := ((sA_g q_23 (ne0 r_227 o_q_241 (by decide))).1.trans r_227)
  have r_245 : (sA (sF g_240 h 15 (.ref q_224)) q_241 50 12).1 q_241 = 50 := sA_r
  have n_246 : (sA (sF g_240 h 15 (.ref q_224)) q_241 50 12).2.2.1 q_12 = 48 := ((sA_g q_12 (ne0 r_226 o_q_241 (by decide))).2.2.1.trans n_229)
  have n_247 : (sA (sF g_240 h 15 (.ref q_224)) q_241 50 12).2.2.1 q_23 = 48 := ((sA_g q_23 (ne0 r_227 o_q_241 (by decide))).2.2.1.trans n_230)
  have n_248 : (sA (sF g_240 h 15 (.ref q_224)) q_241 50 12).2.2.1 q_241 = 12 := sA_n
  have kn_249 : (sA (sF g_240 h 15 (.ref q_224)) q_241 50 12).2.1 h 0 = .int 0 := ((congrFun (sA_g h (ne0 r_225 o_q_241 (by decide))).2.1 0).trans (sF_k kn_232 (by decide)))
  have kn_250 : (sA (sF g_240 h 15 (.ref q_224)) q_241 50 12).2.1 h 22 = .int 0 := ((congrFun (sA_g h (ne0 r_225 o_q_241 (by decide))).2.1 22).trans (sF_k kn_233 (by decide)))
  have kn_251 : (sA (sF g_240 h 15 (.ref q_224)) q_241 50 12).2.1 h 24 = .int 0 := ((congrFun (sA_g h (ne0 r_225 o_q_241 (by decide))).2.1 24).trans (sF_k kn_234 (by decide)))
  have kn_252 : (sA (sF g_240 h 15 (.ref q_224)) q_241 50 12).2.1 h 29 = .int 0 := ((congrFun (sA_g h (ne0 r_225 o_q_241 (by decide))).2.1 29).trans (sF_k kn_235 (by decide)))
  have kn_253 : (sA (sF g_240 h 15 (.ref q_224)) q_241 50 12).2.1 h 30 = .int 0 := ((congrFun (sA_g h (ne0 r_225 o_q_241 (by decide))).2.1 30).trans (sF_k kn_236 (by decide)))
  have kn_254 : (sA (sF g_240 h 15 (.ref q_224)) q_241 50 12).2.1 h 34 = .int 0 := ((congrFun (sA_g h (ne0 r_225 o_q_241 (by decide))).2.1 34).trans (sF_k kn_237 (by decide)))
  have kn_255 : (sA (sF g_240 h 15 (.ref q_224)) q_241 50 12).2.1 h 2 = .ref q_12 := ((congrFun (sA_g h (ne0 r_225 o_q_241 (by decide))).2.1 2).trans (sF_k kn_238 (by decide)))
  have kn_256 : (sA (sF g_240 h 15 (.ref q_224)) q_241 50 12).2.1 h 3 = .ref q_23 := ((congrFun (sA_g h (ne0 r_225 o_q_241 (by decide))).2.1 3).trans (sF_k kn_239 (by decide)))
  generalize (sA (sF g_240 h 15 (.ref q_224)) q_241 50 12) = g_257 at hT hI hM hE r_242 r_243 r_244 r_245 n_246 n_247 n_248 kn_249 kn_250 kn_251 kn_252 kn_253 kn_254 kn_255 kn_256 hP zP
  clear kn_232 kn_233 kn_234 kn_235 kn_236 kn_237 kn_238 kn_239 n_229 n_230 r_225 r_226 r_227
  refine W.widen (k := 16) (n := 1028) (Nat.le_of_ble_eq_true rfl) (Nat.le_of_ble_eq_true rfl) ?_
  refine t_put0 (ci := 7) (v := .ref q_241) hB hT (ro_ci r_242 rfl) (ro_n0 r_242 (by decide)) rfl 16 (by decide) k_761 (Or.inr ⟨hin, rfl⟩) rfl rfl dX7_init_132 (fun H locs hT => ?_)
  replace hI : Inv (sF g_257 h 16 (.ref q_241)) := hI.sF (fk r_242 (show fsm _ _ ft from trivial))
  replace hM : Sm md_k_Model g (sF g_257 h 16 (.ref q_241)) := hM.tr hE (Sm_sF (by rw [r_242]; rfl))
  replace hE : Ex g (sF g_257 h 16 (.ref q_241)) := hE
  replace hP : PF [16, 15, 14, 13, 12, 11, 10, 9, 8, 7, 6, 5, 4, 3, 2, 1, 60, 52, 51, 50, 49, 38, 37, 36, 34, 30, 29, 24, 22, 21, 0] (sF g_257 h 16 (.ref q_241)) h := hP.put (q_8_16 (⟨_, rfl, r_245, n_248⟩))
  have zP : ZC (sF g_257 h 16 (.ref q_241)) q_23 := zP
  refine lv_aload_n hx hb dX7_init_135 rfl (lv_at hl 0 rfl) ?_
  refine lv_bipush (v := 96) hx hb dX7_init_136 (by decide) ?_
  refine t_newi (N' := 96) hB hT 50 (by decide) k_101 (by decide) (by decide) (by decide) (Nat.le_of_ble_eq_true rfl) (Nat.le_of_ble_eq_true rfl) dX7_init_138 (fun q_258 H o_q_258 hT => ?_)
  have z_q_258 : g.1 q_258 = 0 := hE.z0 o_q_258
  replace hI : Inv (sA (sF g_257 h 16 (.ref q_241)) q_258 50 96) := hI.newi o_q_258 (by decide) (fun _ => rfl) trivial (fun _ => trivial)
  replace hM : Sm md_k_Model g (sA (sF g_257 h 16 (.ref q_241)) q_258 50 96) := hM.tr hE (Sm.push o_q_258 sA_g)
  replace hE : Ex g (sA (sF g_257 h 16 (.ref q_241)) q_258 50 96) := hE.tr (Ex.push o_q_258 sA_g)
  replace hP : PF [16, 15, 14, 13, 12, 11, 10, 9, 8, 7, 6, 5, 4, 3, 2, 1, 60, 52, 51, 50, 49, 38, 37, 36, 34, 30, 29, 24, 22, 21, 0] (sA (sF g_257 h 16 (.ref q_241)) q_258 50 96) h := hP.pu (Ex.push o_q_258 sA_g) (sA_g h (ne0 r_242 o_q_258 (by decide))).2.1
  have zP : ZC (sA (sF g_257 h 16 (.ref q_241)) q_258 50 96) q_23 := zP.pu (sA_g q_23 (ne0 r_244 o_q_258 (by decide))).2.2.2.1
  have r_259 : (sA (sF g_257 h 16 (.ref q_241)) q_258 50 96).1 h = 18 := ((sA_g h (ne0 r_242 o_q_258 (by decide))).1.trans r_242)
  have r_260 : (sA (sF g_257 h 16 (.ref q_241)) q_258 50 96).1 q_12 = 71 := ((sA_g q_12 (ne0 r_243 o_q_258 (by decide))).1.trans r_243)
  have r_261 : (sA (sF g_257 h 16 (.ref q_241)) q_258 50 96).1 q_23 = 72 := ((sA_g q_23 (ne0 r_244 o_q_258 (by decide))).1.trans r_244)
  have r_262 : (sA (sF g_257 h 16 (.ref q_241)) q_258 50 96).1 q_258 = 50 := sA_r
  have n_263 : (sA (sF g_257 h 16 (.ref q_241)) q_258 50 96).2.2.1 q_12 = 48 := ((sA_g q_12 (ne0 r_243 o_q_258 (by decide))).2.2.1.trans n_246)
  have n_264 : (sA (sF g_257 h 16 (.ref q_241)) q_258 50 96).2.2.1 q_23 = 48 := ((sA_g q_23 (ne0 r_244 o_q_258 (by decide))).2.2.1.trans n_247)
  have n_265 : (sA (sF g_257 h 16 (.ref q_241)) q_258 50 96).2.2.1 q_258 = 96 := sA_n
  have kn_266 : (sA (sF g_257 h 16 (.ref q_241)) q_258 50 96).2.1 h 0 = .int 0 := ((congrFun (sA_g h (ne0 r_242 o_q_258 (by decide))).2.1 0).trans (sF_k kn_249 (by decide)))
  have kn_267 : (sA (sF g_257 h 16 (.ref q_241)) q_258 50 96).2.1 h 22 = .int 0 := ((congrFun (sA_g h (ne0 r_242 o_q_258 (by decide))).2.1 22).trans (sF_k kn_250 (by decide)))
  have kn_268 : (sA (sF g_257 h 16 (.ref q_241)) q_258 50 96).2.1 h 24 = .int 0 := ((congrFun (sA_g h (ne0 r_242 o_q_258 (by decide))).2.1 24).trans (sF_k kn_251 (by decide)))
  have kn_269 : (sA (sF g_257 h 16 (.ref q_241)) q_258 50 96).2.1 h 29 = .int 0 := ((congrFun (sA_g h (ne0 r_242 o_q_258 (by decide))).2.1 29).trans (sF_k kn_252 (by decide)))
  have kn_270 : (sA (sF g_257 h 16 (.ref q_241)) q_258 50 96).2.1 h 30 = .int 0 := ((congrFun (sA_g h (ne0 r_242 o_q_258 (by decide))).2.1 30).trans (sF_k kn_253 (by decide)))
  have kn_271 : (sA (sF g_257 h 16 (.ref q_241)) q_258 50 96).2.1 h 34 = .int 0 := ((congrFun (sA_g h (ne0 r_242 o_q_258 (by decide))).2.1 34).trans (sF_k kn_254 (by decide)))
  have kn_272 : (sA (sF g_257 h 16 (.ref q_241)) q_258 50 96).2.1 h 2 = .ref q_12 := ((congrFun (sA_g h (ne0 r_242 o_q_258 (by decide))).2.1 2).trans (sF_k kn_255 (by decide)))
  have kn_273 : (sA (sF g_257 h 16 (.ref q_241)) q_258 50 96).2.1 h 3 = .ref q_23 := ((congrFun (sA_g h (ne0 r_242 o_q_258 (by decide))).2.1 3).trans (sF_k kn_256 (by decide)))
  generalize (sA (sF g_257 h 16 (.ref q_241)) q_258 50 96) = g_274 at hT hI hM hE r_259 r_260 r_261 r_262 n_263 n_264 n_265 kn_266 kn_267 kn_268 kn_269 kn_270 kn_271 kn_272 kn_273 hP zP
  clear kn_249 kn_250 kn_251 kn_252 kn_253 kn_254 kn_255 kn_256 n_246 n_247 r_242 r_243 r_244
  refine W.widen (k := 17) (n := 1124) (Nat.le_of_ble_eq_true rfl) (Nat.le_of_ble_eq_true rfl) ?_
  refine t_put0 (ci := 7) (v := .ref q_258) hB hT (ro_ci r_259 rfl) (ro_n0 r_259 (by decide)) rfl 17 (by decide) k_762 (Or.inr ⟨hin, rfl⟩) rfl rfl dX7_init_140 (fun H locs hT => ?_)
  replace hI : Inv (sF g_274 h 17 (.ref q_258)) := hI.sF (fk r_259 (show fsm _ _ ft from trivial))
  replace hM : Sm md_k_Model g (sF g_274 h 17 (.ref q_258)) := hM.tr hE (Sm_sF (by rw [r_259]; rfl))
  replace hE : Ex g (sF g_274 h 17 (.ref q_258)) := hE
  replace hP : PF [17, 16, 15, 14, 13, 12, 11, 10, 9, 8, 7, 6, 5, 4, 3, 2, 1, 60, 52, 51, 50, 49, 38, 37, 36, 34, 30, 29, 24, 22, 21, 0] (sF g_274 h 17 (.ref q_258)) h := hP.put (q_8_17 (⟨_, rfl, r_262, n_265⟩))
  have zP : ZC (sF g_274 h 17 (.ref q_258)) q_23 := zP
  refine lv_aload_n hx hb dX7_init_143 rfl (lv_at hl 0 rfl) ?_
  refine lv_bipush (v := 96) hx hb dX7_init_144 (by decide) ?_
  refine t_newi (N' := 96) hB hT 50 (by decide) k_101 (by decide) (by decide) (by decide) (Nat.le_of_ble_eq_true rfl) (Nat.le_of_ble_eq_true rfl) dX7_init_146 (fun q_275 H o_q_275 hT => ?_)
  have z_q_275 : g.1 q_275 = 0 := hE.z0 o_q_275
  replace hI : Inv (sA (sF g_274 h 17 (.ref q_258)) q_275 50 96) := hI.newi o_q_275 (by decide) (fun _ => rfl) trivial (fun _ => trivial)
  replace hM : Sm md_k_Model g (sA (sF g_274 h 17 (.ref q_258)) q_275 50 96) := hM.tr hE (Sm.push o_q_275 sA_g)
  replace hE : Ex g (sA (sF g_274 h 17 (.ref q_258)) q_275 50 96) := hE.tr (Ex.push o_q_275 sA_g)
  replace hP : PF [17, 16, 15, 14, 13, 12, 11, 10, 9, 8, 7, 6, 5, 4, 3, 2, 1, 60, 52, 51, 50, 49, 38, 37, 36, 34, 30, 29, 24, 22, 21, 0] (sA (sF g_274 h 17 (.ref q_258)) q_275 50 96) h := hP.pu (Ex.push o_q_275 sA_g) (sA_g h (ne0 r_259 o_q_275 (by decide))).2.1
  have zP : ZC (sA (sF g_274 h 17 (.ref q_258)) q_275 50 96) q_23 := zP.pu (sA_g q_23 (ne0 r_261 o_q_275 (by decide))).2.2.2.1
  have r_276 : (sA (sF g_274 h 17 (.ref q_258)) q_275 50 96).1 h = 18 := ((sA_g h (ne0 r_259 o_q_275 (by decide))).1.trans r_259)
  have r_277 : (sA (sF g_274 h 17 (.ref q_258)) q_275 50 96).1 q_12 = 71 := ((sA_g q_12 (ne0 r_260 o_q_275 (by decide))).1.trans r_260)
  have r_278 : (sA (sF g_274 h 17 (.ref q_258)) q_275 50 96).1 q_23 = 72 := ((sA_g q_23 (ne0 r_261 o_q_275 (by decide))).1.trans r_261)
  have r_279 : (sA (sF g_274 h 17 (.ref q_258)) q_275 50 96).1 q_275 = 50 := sA_r
  have n_280 : (sA (sF g_274 h 17 (.ref q_258)) q_275 50 96).2.2.1 q_12 = 48 := ((sA_g q_12 (ne0 r_260 o_q_275 (by decide))).2.2.1.trans n_263)
  have n_281 : (sA (sF g_274 h 17 (.ref q_258)) q_275 50 96).2.2.1 q_23 = 48 := ((sA_g q_23 (ne0 r_261 o_q_275 (by decide))).2.2.1.trans n_264)
  have n_282 : (sA (sF g_274 h 17 (.ref q_258)) q_275 50 96).2.2.1 q_275 = 96 := sA_n
  have kn_283 : (sA (sF g_274 h 17 (.ref q_258)) q_275 50 96).2.1 h 0 = .int 0 := ((congrFun (sA_g h (ne0 r_259 o_q_275 (by decide))).2.1 0).trans (sF_k kn_266 (by decide)))
  have kn_284 : (sA (sF g_274 h 17 (.ref q_258)) q_275 50 96).2.1 h 22 = .int 0 := ((congrFun (sA_g h (ne0 r_259 o_q_275 (by decide))).2.1 22).trans (sF_k kn_267 (by decide)))
  have kn_285 : (sA (sF g_274 h 17 (.ref q_258)) q_275 50 96).2.1 h 24 = .int 0 := ((congrFun (sA_g h (ne0 r_259 o_q_275 (by decide))).2.1 24).trans (sF_k kn_268 (by decide)))
  have kn_286 : (sA (sF g_274 h 17 (.ref q_258)) q_275 50 96).2.1 h 29 = .int 0 := ((congrFun (sA_g h (ne0 r_259 o_q_275 (by decide))).2.1 29).trans (sF_k kn_269 (by decide)))
  have kn_287 : (sA (sF g_274 h 17 (.ref q_258)) q_275 50 96).2.1 h 30 = .int 0 := ((congrFun (sA_g h (ne0 r_259 o_q_275 (by decide))).2.1 30).trans (sF_k kn_270 (by decide)))
  have kn_288 : (sA (sF g_274 h 17 (.ref q_258)) q_275 50 96).2.1 h 34 = .int 0 := ((congrFun (sA_g h (ne0 r_259 o_q_275 (by decide))).2.1 34).trans (sF_k kn_271 (by decide)))
  have kn_289 : (sA (sF g_274 h 17 (.ref q_258)) q_275 50 96).2.1 h 2 = .ref q_12 := ((congrFun (sA_g h (ne0 r_259 o_q_275 (by decide))).2.1 2).trans (sF_k kn_272 (by decide)))
  have kn_290 : (sA (sF g_274 h 17 (.ref q_258)) q_275 50 96).2.1 h 3 = .ref q_23 := ((congrFun (sA_g h (ne0 r_259 o_q_275 (by decide))).2.1 3).trans (sF_k kn_273 (by decide)))
  generalize (sA (sF g_274 h 17 (.ref q_258)) q_275 50 96) = g_291 at hT hI hM hE r_276 r_277 r_278 r_279 n_280 n_281 n_282 kn_283 kn_284 kn_285 kn_286 kn_287 kn_288 kn_289 kn_290 hP zP
  clear kn_266 kn_267 kn_268 kn_269 kn_270 kn_271 kn_272 kn_273 n_263 n_264 r_259 r_260 r_261
  refine W.widen (k := 18) (n := 1220) (Nat.le_of_ble_eq_true rfl) (Nat.le_of_ble_eq_true rfl) ?_
  refine t_put0 (ci := 7) (v := .ref q_275) hB hT (ro_ci r_276 rfl) (ro_n0 r_276 (by decide)) rfl 18 (by decide) k_763 (Or.inr ⟨hin, rfl⟩) rfl rfl dX7_init_148 (fun H locs hT => ?_)
  replace hI : Inv (sF g_291 h 18 (.ref q_275)) := hI.sF (fk r_276 (show fsm _ _ ft from trivial))
  replace hM : Sm md_k_Model g (sF g_291 h 18 (.ref q_275)) := hM.tr hE (Sm_sF (by rw [r_276]; rfl))
  replace hE : Ex g (sF g_291 h 18 (.ref q_275)) := hE
  replace hP : PF [18, 17, 16, 15, 14, 13, 12, 11, 10, 9, 8, 7, 6, 5, 4, 3, 2, 1, 60, 52, 51, 50, 49, 38, 37, 36, 34, 30, 29, 24, 22, 21, 0] (sF g_291 h 18 (.ref q_275)) h := hP.put (q_8_18 (⟨_, rfl, r_279, n_282⟩))
  have zP : ZC (sF g_291 h 18 (.ref q_275)) q_23 := zP
  refine lv_aload_n hx hb dX7_init_151 rfl (lv_at hl 0 rfl) ?_
  refine lv_bipush (v := 96) hx hb dX7_init_152 (by decide) ?_
  refine t_newi (N' := 96) hB hT 50 (by decide) k_101 (by decide) (by decide) (by decide) (Nat.le_of_ble_eq_true rfl) (Nat.le_of_ble_eq_true rfl) dX7_init_154 (fun q_292 H o_q_292 hT => ?_)
  have z_q_292 : g.1 q_292 = 0 := hE.z0 o_q_292
  replace hI : Inv (sA (sF g_291 h 18 (.ref q_275)) q_292 50 96) := hI.newi o_q_292 (by decide) (fun _ => rfl) trivial (fun _ => trivial)
  replace hM : Sm md_k_Model g (sA (sF g_291 h 18 (.ref q_275)) q_292 50 96) := hM.tr hE (Sm.push o_q_292 sA_g)
  replace hE : Ex g (sA (sF g_291 h 18 (.ref q_275)) q_292 50 96) := hE.tr (Ex.push o_q_292 sA_g)
  replace hP : PF [18, 17, 16, 15, 14, 13, 12, 11, 10, 9, 8, 7, 6, 5, 4, 3, 2, 1, 60, 52, 51, 50, 49, 38, 37, 36, 34, 30, 29, 24, 22, 21, 0] (sA (sF g_291 h 18 (.ref q_275)) q_292 50 96) h := hP.pu (Ex.push o_q_292 sA_g) (sA_g h (ne0 r_276 o_q_292 (by decide))).2.1
  have zP : ZC (sA (sF g_291 h 18 (.ref q_275)) q_292 50 96) q_23 := zP.pu (sA_g q_23 (ne0 r_278 o_q_292 (by decide))).2.2.2.1
  have r_293 : (sA (sF g_291 h 18 (.ref q_275)) q_292 50 96).1 h = 18 := ((sA_g h (ne0 r_276 o_q_292 (by decide))).1.trans r_276)
  have r_294 : (sA (sF g_291 h 18 (.ref q_275)) q_292 50 96).1 q_12 = 71 := ((sA_g q_12 (ne0 r_277 o_q_292 (by decide))).1.trans r_277)
  have r_295 : (sA (sF g_291 h 18 (.ref q_275)) q_292 50 96).1 q_23 = 72 := ((sA_g q_23 (ne0 r_278 o_q_292 (by decide))).1.trans r_278)
  have r_296 : (sA (sF g_291 h 18 (.ref q_275)) q_292 50 96).1 q_292 = 50 := sA_r
  have n_297 : (sA (sF g_291 h 18 (.ref q_275)) q_292 50 96).2.2.1 q_12 = 48 := ((sA_g q_12 (ne0 r_277 o_q_292 (by decide))).2.2.1.trans n_280)
  have n_298 : (sA (sF g_291 h 18 (.ref q_275)) q_292 50 96).2.2.1 q_23 = 48 := ((sA_g q_23 (ne0 r_278 o_q_292 (by decide))).2.2.1.trans n_281)
  have n_299 : (sA (sF g_291 h 18 (.ref q_275)) q_292 50 96).2.2.1 q_292 = 96 := sA_n
  have kn_300 : (sA (sF g_291 h 18 (.ref q_275)) q_292 50 96).2.1 h 0 = .int 0 := ((congrFun (sA_g h (ne0 r_276 o_q_292 (by decide))).2.1 0).trans (sF_k kn_283 (by decide)))
  have kn_301 : (sA (sF g_291 h 18 (.ref q_275)) q_292 50 96).2.1 h 22 = .int 0 := ((congrFun (sA_g h (ne0 r_276 o_q_292 (by decide))).2.1 22).trans (sF_k kn_284 (by decide)))
  have kn_302 : (sA (sF g_291 h 18 (.ref q_275)) q_292 50 96).2.1 h 24 = .int 0 := ((congrFun (sA_g h (ne0 r_276 o_q_292 (by decide))).2.1 24).trans (sF_k kn_285 (by decide)))
  have kn_303 : (sA (sF g_291 h 18 (.ref q_275)) q_292 50 96).2.1 h 29 = .int 0 := ((congrFun (sA_g h (ne0 r_276 o_q_292 (by decide))).2.1 29).trans (sF_k kn_286 (by decide)))
  have kn_304 : (sA (sF g_291 h 18 (.ref q_275)) q_292 50 96).2.1 h 30 = .int 0 := ((congrFun (sA_g h (ne0 r_276 o_q_292 (by decide))).2.1 30).trans (sF_k kn_287 (by decide)))
  have kn_305 : (sA (sF g_291 h 18 (.ref q_275)) q_292 50 96).2.1 h 34 = .int 0 := ((congrFun (sA_g h (ne0 r_276 o_q_292 (by decide))).2.1 34).trans (sF_k kn_288 (by decide)))
  have kn_306 : (sA (sF g_291 h 18 (.ref q_275)) q_292 50 96).2.1 h 2 = .ref q_12 := ((congrFun (sA_g h (ne0 r_276 o_q_292 (by decide))).2.1 2).trans (sF_k kn_289 (by decide)))
  have kn_307 : (sA (sF g_291 h 18 (.ref q_275)) q_292 50 96).2.1 h 3 = .ref q_23 := ((congrFun (sA_g h (ne0 r_276 o_q_292 (by decide))).2.1 3).trans (sF_k kn_290 (by decide)))
  generalize (sA (sF g_291 h 18 (.ref q_275)) q_292 50 96) = g_308 at hT hI hM hE r_293 r_294 r_295 r_296 n_297 n_298 n_299 kn_300 kn_301 kn_302 kn_303 kn_304 kn_305 kn_306 kn_307 hP zP
  clear kn_283 kn_284 kn_285 kn_286 kn_287 kn_288 kn_289 kn_290 n_280 n_281 r_276 r_277 r_278
  refine W.widen (k := 19) (n := 1316) (Nat.le_of_ble_eq_true rfl) (Nat.le_of_ble_eq_true rfl) ?_
  refine t_put0 (ci := 7) (v := .ref q_292) hB hT (ro_ci r_293 rfl) (ro_n0 r_293 (by decide)) rfl 19 (by decide) k_764 (Or.inr ⟨hin, rfl⟩) rfl rfl dX7_init_156 (fun H locs hT => ?_)
  replace hI : Inv (sF g_308 h 19 (.ref q_292)) := hI.sF (fk r_293 (show fsm _ _ ft from trivial))
  replace hM : Sm md_k_Model g (sF g_308 h 19 (.ref q_292)) := hM.tr hE (Sm_sF (by rw [r_293]; rfl))
  replace hE : Ex g (sF g_308 h 19 (.ref q_292)) := hE
  replace hP : PF [19, 18, 17, 16, 15, 14, 13, 12, 11, 10, 9, 8, 7, 6, 5, 4, 3, 2, 1, 60, 52, 51, 50, 49, 38, 37, 36, 34, 30, 29, 24, 22, 21, 0] (sF g_308 h 19 (.ref q_292)) h := hP.put (q_8_19 (⟨_, rfl, r_296, n_299⟩))
  have zP : ZC (sF g_308 h 19 (.ref q_292)) q_23 := zP
  refine lv_aload_n hx hb dX7_init_159 rfl (lv_at hl 0 rfl) ?_
  refine lv_bipush (v := 12) hx hb dX7_init_160 (by decide) ?_
  refine t_newz (N' := 12) hB hT k_947 (by decide) (by decide) (by decide) (Nat.le_of_ble_eq_true rfl) (Nat.le_of_ble_eq_true rfl) dX7_init_162 (fun q_309 H o_q_309 hT => ?_)
  have z_q_309 : g.1 q_309 = 0 := hE.z0 o_q_309
  replace hI : Inv (sA (sF g_308 h 19 (.ref q_292)) q_309 40 12) := hI.newi o_q_309 (by decide) (fun _ => rfl) trivial (fun _ => trivial)
  replace hM : Sm md_k_Model g (sA (sF g_308 h 19 (.ref q_292)) q_309 40 12) := hM.tr hE (Sm.push o_q_309 sA_g)
  replace hE : Ex g (sA (sF g_308 h 19 (.ref q_292)) q_309 40 12) := hE.tr (Ex.push o_q_309 sA_g)
  replace hP : PF [19, 18, 17, 16, 15, 14, 13, 12, 11, 10, 9, 8, 7, 6, 5, 4, 3, 2, 1, 60, 52, 51, 50, 49, 38, 37, 36, 34, 30, 29, 24, 22, 21, 0] (sA (sF g_308 h 19 (.ref q_292)) q_309 40 12) h := hP.pu (Ex.push o_q_309 sA_g) (sA_g h (ne0 r_293 o_q_309 (by decide))).2.1
  have zP : ZC (sA (sF g_308 h 19 (.ref q_292)) q_309 40 12) q_23 := zP.pu (sA_g q_23 (ne0 r_295 o_q_309 (by decide))).2.2.2.1
  have r_310 : (sA (sF g_308 h 19 (.ref q_292)) q_309 40 12).1 h = 18 := ((sA_g h (ne0 r_293 o_q_309 (by decide))).1.trans r_293)
  have r_311 : (sA (sF g_308 h 19 (.ref q_292)) q_309 40 12).1 q_12 = 71 := ((sA_g q_12 (ne0 r_294 o_q_309 (by decide))).1.trans r_294)
  have r_312 : (sA (sF g_308 h 19 (.ref q_292)) q_309 40 12).1 q_23 = 72 := ((sA_g q_23 (ne0 r_295 o_q_309 (by decide))).1.trans r_295)
  have r_313 : (sA (sF g_308 h 19 (.ref q_292)) q_309 40 12).1 q_309 = 40 := sA_r
  have n_314 : (sA (sF g_308 h 19 (.ref q_292)) q_309 40 12).2.2.1 q_12 = 48 := ((sA_g q_12 (ne0 r_294 o_q_309 (by decide))).2.2.1.trans n_297)
  have n_315 : (sA (sF g_308 h 19 (.ref q_292)) q_309 40 12).2.2.1 q_23 = 48 := ((sA_g q_23 (ne0 r_295 o_q_309 (by decide))).2.2.1.trans n_298)
  have n_316 : (sA (sF g_308 h 19 (.ref q_292)) q_309 40 12).2.2.1 q_309 = 12 := sA_n
  have kn_317 : (sA (sF g_308 h 19 (.ref q_292)) q_309 40 12).2.1 h 0 = .int 0 := ((congrFun (sA_g h (ne0 r_293 o_q_309 (by decide))).2.1 0).trans (sF_k kn_300 (by decide)))
  have kn_318 : (sA (sF g_308 h 19 (.ref q_292)) q_309 40 12).2.1 h 22 = .int 0 := ((congrFun (sA_g h (ne0 r_293 o_q_309 (by decide))).2.1 22).trans (sF_k kn_301 (by decide)))
  have kn_319 : (sA (sF g_308 h 19 (.ref q_292)) q_309 40 12).2.1 h 24 = .int 0 := ((congrFun (sA_g h (ne0 r_293 o_q_309 (by decide))).2.1 24).trans (sF_k kn_302 (by decide)))
  have kn_320 : (sA (sF g_308 h 19 (.ref q_292)) q_309 40 12).2.1 h 29 = .int 0 := ((congrFun (sA_g h (ne0 r_293 o_q_309 (by decide))).2.1 29).trans (sF_k kn_303 (by decide)))
  have kn_321 : (sA (sF g_308 h 19 (.ref q_292)) q_309 40 12).2.1 h 30 = .int 0 := ((congrFun (sA_g h (ne0 r_293 o_q_309 (by decide))).2.1 30).trans (sF_k kn_304 (by decide)))
  have kn_322 : (sA (sF g_308 h 19 (.ref q_292)) q_309 40 12).2.1 h 34 = .int 0 := ((congrFun (sA_g h (ne0 r_293 o_q_309 (by decide))).2.1 34).trans (sF_k kn_305 (by decide)))
  have kn_323 : (sA (sF g_308 h 19 (.ref q_292)) q_309 40 12).2.1 h 2 = .ref q_12 := ((congrFun (sA_g h (ne0 r_293 o_q_309 (by decide))).2.1 2).trans (sF_k kn_306 (by decide)))
  have kn_324 : (sA (sF g_308 h 19 (.ref q_292)) q_309 40 12).2.1 h 3 = .ref q_23 := ((congrFun (sA_g h (ne0 r_293 o_q_309 (by decide))).2.1 3).trans (sF_k kn_307 (by decide)))
  generalize (sA (sF g_308 h 19 (.ref q_292)) q_309 40 12) = g_325 at hT hI hM hE r_310 r_311 r_312 r_313 n_314 n_315 n_316 kn_317 kn_318 kn_319 kn_320 kn_321 kn_322 kn_323 kn_324 hP zP
  clear kn_300 kn_301 kn_302 kn_303 kn_304 kn_305 kn_306 kn_307 n_297 n_298 r_293 r_294 r_295
  refine W.widen (k := 20) (n := 1328) (Nat.le_of_ble_eq_true rfl) (Nat.le_of_ble_eq_true rfl) ?_
  refine t_put0 (ci := 7) (v := .ref q_309) hB hT (ro_ci r_310 rfl) (ro_n0 r_310 (by decide)) rfl 20 (by decide) k_765 (Or.inr ⟨hin, rfl⟩) rfl rfl dX7_init_164 (fun H locs hT => ?_)
  replace hI : Inv (sF g_325 h 20 (.ref q_309)) := hI.sF (fk r_310 (show fsm _ _ ft from trivial))
  replace hM : Sm md_k_Model g (sF g_325 h 20 (.ref q_309)) := hM.tr hE (Sm_sF (by rw [r_310]; rfl))
  replace hE : Ex g (sF g_325 h 20 (.ref q_309)) := hE
  replace hP : PF [20, 19, 18, 17, 16, 15, 14, 13, 12, 11, 10, 9, 8, 7, 6, 5, 4, 3, 2, 1, 60, 52, 51, 50, 49, 38, 37, 36, 34, 30, 29, 24, 22, 21, 0] (sF g_325 h 20 (.ref q_309)) h := hP.put (q_8_20 (⟨_, rfl, r_313, n_316⟩))
  have zP : ZC (sF g_325 h 20 (.ref q_309)) q_23 := zP
  refine lv_aload_n hx hb dX7_init_167 rfl (lv_at hl 0 rfl) ?_
  refine lv_bipush (v := 40) hx hb dX7_init_168 (by decide) ?_
  refine t_newi (N' := 40) hB hT 50 (by decide) k_101 (by decide) (by decide) (by decide) (Nat.le_of_ble_eq_true rfl) (Nat.le_of_ble_eq_true rfl) dX7_init_170 (fun q_326 H o_q_326 hT => ?_)
  have z_q_326 : g.1 q_326 = 0 := hE.z0 o_q_326
  replace hI : Inv (sA (sF g_325 h 20 (.ref q_309)) q_326 50 40) := hI.newi o_q_326 (by decide) (fun _ => rfl) trivial (fun _ => trivial)
  replace hM : Sm md_k_Model g (sA (sF g_325 h 20 (.ref q_309)) q_326 50 40) := hM.tr hE (Sm.push o_q_326 sA_g)
  replace hE : Ex g (sA (sF g_325 h 20 (.ref q_309)) q_326 50 40) := hE.tr (Ex.push o_q_326 sA_g)
  replace hP : PF [20, 19, 18, 17, 16, 15, 14, 13, 12, 11, 10, 9, 8, 7, 6, 5, 4, 3, 2, 1, 60, 52, 51, 50, 49, 38, 37, 36, 34, 30, 29, 24, 22, 21, 0] (sA (sF g_325 h 20 (.ref q_309)) q_326 50 40) h := hP.pu (Ex.push o_q_326 sA_g) (sA_g h (ne0 r_310 o_q_326 (by decide))).2.1
  have zP : ZC (sA (sF g_325 h 20 (.ref q_309)) q_326 50 40) q_23 := zP.pu (sA_g q_23 (ne0 r_312 o_q_326 (by decide))).2.2.2.1
  have r_327 : (sA (sF g_325 h 20 (.ref q_309)) q_326 50 40).1 h = 18 := ((sA_g h (ne0 r_310 o_q_326 (by decide))).1.trans r_310)
  have r_328 : (sA (sF g_325 h 20 (.ref q_309)) q_326 50 40).1 q_12 = 71 := ((sA_g q_12 (ne0 r_311 o_q_326 (by decide))).1.trans r_311)
  have r_329 : (sA (sF g_325 h 20 (.ref q_309)) q_326 50 40).1 q_23 = 72 := ((sA_g q_23 (ne0 r_312 o_q_326 (by decide))).1.trans r_312)
  have r_330 : (sA (sF g_325 h 20 (.ref q_309)) q_326 50 40).1 q_326 = 50 := sA_r
  have n_331 : (sA (sF g_325 h 20 (.ref q_309)) q_326 50 40).2.2.1 q_12 = 48 := ((sA_g q_12 (ne0 r_311 o_q_326 (by decide))).2.2.1.trans n_314)
  have n_332 : (sA (sF g_325 h 20 (.ref q_309)) q_326 50 40).2.2.1 q_23 = 48 := ((sA_g q_23 (ne0 r_312 o_q_326 (by decide))).2.2.1.trans n_315)
  have n_333 : (sA (sF g_325 h 20 (.ref q_309)) q_326 50 40).2.2.1 q_326 = 40 := sA_n
  have kn_334 : (sA (sF g_325 h 20 (.ref q_309)) q_326 50 40).2.1 h 0 = .int 0 := ((congrFun (sA_g h (ne0 r_310 o_q_326 (by decide))).2.1 0).trans (sF_k kn_317 (by decide)))
  have kn_335 : (sA (sF g_325 h 20 (.ref q_309)) q_326 50 40).2.1 h 22 = .int 0 := ((congrFun (sA_g h (ne0 r_310 o_q_326 (by decide))).2.1 22).trans (sF_k kn_318 (by decide)))
  have kn_336 : (sA (sF g_325 h 20 (.ref q_309)) q_326 50 40).2.1 h 24 = .int 0 := ((congrFun (sA_g h (ne0 r_310 o_q_326 (by decide))).2.1 24).trans (sF_k kn_319 (by decide)))
  have kn_337 : (sA (sF g_325 h 20 (.ref q_309)) q_326 50 40).2.1 h 29 = .int 0 := ((congrFun (sA_g h (ne0 r_310 o_q_326 (by decide))).2.1 29).trans (sF_k kn_320 (by decide)))
  have kn_338 : (sA (sF g_325 h 20 (.ref q_309)) q_326 50 40).2.1 h 30 = .int 0 := ((congrFun (sA_g h (ne0 r_310 o_q_326 (by decide))).2.1 30).trans (sF_k kn_321 (by decide)))
  have kn_339 : (sA (sF g_325 h 20 (.ref q_309)) q_326 50 40).2.1 h 34 = .int 0 := ((congrFun (sA_g h (ne0 r_310 o_q_326 (by decide))).2.1 34).trans (sF_k kn_322 (by decide)))
  have kn_340 : (sA (sF g_325 h 20 (.ref q_309)) q_326 50 40).2.1 h 2 = .ref q_12 := ((congrFun (sA_g h (ne0 r_310 o_q_326 (by decide))).2.1 2).trans (sF_k kn_323 (by decide)))
  have kn_341 : (sA (sF g_325 h 20 (.ref q_309)) q_326 50 40).2.1 h 3 = .ref q_23 := ((congrFun (sA_g h (ne0 r_310 o_q_326 (by decide))).2.1 3).trans (sF_k kn_324 (by decide)))
  generalize (sA (sF g_325 h 20 (.ref q_309)) q_326 50 40) = g_342 at hT hI hM hE r_327 r_328 r_329 r_330 n_331 n_332 n_333 kn_334 kn_335 kn_336 kn_337 kn_338 kn_339 kn_340 kn_341 hP zP
  clear kn_317 kn_318 kn_319 kn_320 kn_321 kn_322 kn_323 kn_324 n_314 n_315 r_310 r_311 r_312
  refine W.widen (k := 21) (n := 1368) (Nat.le_of_ble_eq_true rfl) (Nat.le_of_ble_eq_true rfl) ?_
  refine t_put0 (ci := 7) (v := .ref q_326) hB hT (ro_ci r_327 rfl) (ro_n0 r_327 (by decide)) rfl 23 (by decide) k_768 (Or.inr ⟨hin, rfl⟩) rfl rfl dX7_init_172 (fun H locs hT => ?_)
  replace hI : Inv (sF g_342 h 23 (.ref q_326)) := hI.sF (fk r_327 (show fsm _ _ ft from trivial))
  replace hM : Sm md_k_Model g (sF g_342 h 23 (.ref q_326)) := hM.tr hE (Sm_sF (by rw [r_327]; rfl))
  replace hE : Ex g (sF g_342 h 23 (.ref q_326)) := hE
  replace hP : PF [23, 20, 19, 18, 17, 16, 15, 14, 13, 12, 11, 10, 9, 8, 7, 6, 5, 4, 3, 2, 1, 60, 52, 51, 50, 49, 38, 37, 36, 34, 30, 29, 24, 22, 21, 0] (sF g_342 h 23 (.ref q_326)) h := hP.put (q_8_23 (⟨_, rfl, r_330, n_333⟩))
  have zP : ZC (sF g_342 h 23 (.ref q_326)) q_23 := zP
  refine lv_aload_n hx hb dX7_init_175 rfl (lv_at hl 0 rfl) ?_
  refine lv_bipush (v := 20) hx hb dX7_init_176 (by decide) ?_
  refine t_newi (N' := 20) hB hT 76 (by decide) k_101 (by decide) (by decide) (by decide) (Nat.le_of_ble_eq_true rfl) (Nat.le_of_ble_eq_true rfl) dX7_init_178 (fun q_343 H o_q_343 hT => ?_)
  have z_q_343 : g.1 q_343 = 0 := hE.z0 o_q_343
  replace hI : Inv (sA (sF g_342 h 23 (.ref q_326)) q_343 76 20) := hI.newi o_q_343 (by decide) (fun _ => rfl) ⟨by decide, by decide⟩ (fun _ => trivial)
  replace hM : Sm md_k_Model g (sA (sF g_342 h 23 (.ref q_326)) q_343 76 20) := hM.tr hE (Sm.push o_q_343 sA_g)
  replace hE : Ex g (sA (sF g_342 h 23 (.ref q_326)) q_343 76 20) := hE.tr (Ex.push o_q_343 sA_g)
  replace hP : PF [23, 20, 19, 18, 17, 16, 15, 14, 13, 12, 11, 10, 9, 8, 7, 6, 5, 4, 3, 2, 1, 60, 52, 51, 50, 49, 38, 37, 36, 34, 30, 29, 24, 22, 21, 0] (sA (sF g_342 h 23 (.ref q_326)) q_343 76 20) h := hP.pu (Ex.push o_q_343 sA_g) (sA_g h (ne0 r_327 o_q_343 (by decide))).2.1
  have zP : ZC (sA (sF g_342 h 23 (.ref q_326)) q_343 76 20) q_23 := zP.pu (sA_g q_23 (ne0 r_329 o_q_343 (by decide))).2.2.2.1
  have r_344 : (sA (sF g_342 h 23 (.ref q_326)) q_343 76 20).1 h = 18 := ((sA_g h (ne0 r_327 o_q_343 (by decide))).1.trans r_327)
  have r_345 : (sA (sF g_342 h 23 (.ref q_326)) q_343 76 20).1 q_12 = 71 := ((sA_g q_12 (ne0 r_328 o_q_343 (by decide))).1.trans r_328)
  have r_346 : (sA (sF g_342 h 23 (.ref q_326)) q_343 76 20).1 q_23 = 72 := ((sA_g q_23 (ne0 r_329 o_q_343 (by decide))).1.trans r_329)
  have r_347 : (sA (sF g_342 h 23 (.ref q_326)) q_343 76 20).1 q_343 = 76 := sA_r
  have n_348 : (sA (sF g_342 h 23 (.ref q_326)) q_343 76 20).2.2.1 q_12 = 48 := ((sA_g q_12 (ne0 r_328 o_q_343 (by decide))).2.2.1.trans n_331)
  have n_349 : (sA (sF g_342 h 23 (.ref q_326)) q_343 76 20).2.2.1 q_23 = 48 := ((sA_g q_23 (ne0 r_329 o_q_343 (by decide))).2.2.1.trans n_332)
  have n_350 : (sA (sF g_342 h 23 (.ref q_326)) q_343 76 20).2.2.1 q_343 = 20 := sA_n
  have kn_351 : (sA (sF g_342 h 23 (.ref q_326)) q_343 76 20).2.1 h 0 = .int 0 := ((congrFun (sA_g h (ne0 r_327 o_q_343 (by decide))).2.1 0).trans (sF_k kn_334 (by decide)))
  have kn_352 : (sA (sF g_342 h 23 (.ref q_326)) q_343 76 20).2.1 h 22 = .int 0 := ((congrFun (sA_g h (ne0 r_327 o_q_343 (by decide))).2.1 22).trans (sF_k kn_335 (by decide)))
  have kn_353 : (sA (sF g_342 h 23 (.ref q_326)) q_343 76 20).2.1 h 24 = .int 0 := ((congrFun (sA_g h (ne0 r_327 o_q_343 (by decide))).2.1 24).trans (sF_k kn_336 (by decide)))
  have kn_354 : (sA (sF g_342 h 23 (.ref q_326)) q_343 76 20).2.1 h 29 = .int 0 := ((congrFun (sA_g h (ne0 r_327 o_q_343 (by decide))).2.1 29).trans (sF_k kn_337 (by decide)))
  have kn_355 : (sA (sF g_342 h 23 (.ref q_326)) q_343 76 20).2.1 h 30 = .int 0 := ((congrFun (sA_g h (ne0 r_327 o_q_343 (by decide))).2.1 30).trans (sF_k kn_338 (by decide)))
  have kn_356 : (sA (sF g_342 h 23 (.ref q_326)) q_343 76 20).2.1 h 34 = .int 0 := ((congrFun (sA_g h (ne0 r_327 o_q_343 (by decide))).2.1 34).trans (sF_k kn_339 (by decide)))
  have kn_357 : (sA (sF g_342 h 23 (.ref q_326)) q_343 76 20).2.1 h 2 = .ref q_12 := ((congrFun (sA_g h (ne0 r_327 o_q_343 (by decide))).2.1 2).trans (sF_k kn_340 (by decide)))
  have kn_358 : (sA (sF g_342 h 23 (.ref q_326)) q_343 76 20).2.1 h 3 = .ref q_23 := ((congrFun (sA_g h (ne0 r_327 o_q_343 (by decide))).2.1 3).trans (sF_k kn_341 (by decide)))
  generalize (sA (sF g_342 h 23 (.ref q_326)) q_343 76 20) = g_359 at hT hI hM hE r_344 r_345 r_346 r_347 n_348 n_349 n_350 kn_351 kn_352 kn_353 kn_354 kn_355 kn_356 kn_357 kn_358 hP zP
  clear kn_334 kn_335 kn_336 kn_337 kn_338 kn_339 kn_340 kn_341 n_331 n_332 r_327 r_328 r_329
  refine W.widen (k := 22) (n := 1388) (Nat.le_of_ble_eq_true rfl) (Nat.le_of_ble_eq_true rfl) ?_
  refine t_put0 (ci := 7) (v := .ref q_343) hB hT (ro_ci r_344 rfl) (ro_n0 r_344 (by decide)) rfl 25 (by decide) k_770 (Or.inr ⟨hin, rfl⟩) rfl rfl dX7_init_180 (fun H locs hT => ?_)
  replace hI : Inv (sF g_359 h 25 (.ref q_343)) := hI.sF (fk r_344 (show fsm _ _ ft from trivial))
  replace hM : Sm md_k_Model g (sF g_359 h 25 (.ref q_343)) := hM.tr hE (Sm_sF (by rw [r_344]; rfl))
  replace hE : Ex g (sF g_359 h 25 (.ref q_343)) := hE
  replace hP : PF [25, 23, 20, 19, 18, 17, 16, 15, 14, 13, 12, 11, 10, 9, 8, 7, 6, 5, 4, 3, 2, 1, 60, 52, 51, 50, 49, 38, 37, 36, 34, 30, 29, 24, 22, 21, 0] (sF g_359 h 25 (.ref q_343)) h := hP.put (q_8_25 (⟨_, rfl, r_347, n_350⟩))
  have zP : ZC (sF g_359 h 25 (.ref q_343)) q_23 := zP
  refine lv_aload_n hx hb dX7_init_183 rfl (lv_at hl 0 rfl) ?_
  refine lv_bipush (v := 20) hx hb dX7_init_184 (by decide) ?_
  refine t_newi (N' := 20) hB hT 77 (by decide) k_101 (by decide) (by decide) (by decide) (Nat.le_of_ble_eq_true rfl) (Nat.le_of_ble_eq_true rfl) dX7_init_186 (fun q_360 H o_q_360 hT => ?_)
  have z_q_360 : g.1 q_360 = 0 := hE.z0 o_q_360
  replace hI : Inv (sA (sF g_359 h 25 (.ref q_343)) q_360 77 20) := hI.newi o_q_360 (by decide) (fun _ => rfl) ⟨by decide, by decide⟩ (fun _ => trivial)
  replace hM : Sm md_k_Model g (sA (sF g_359 h 25 (.ref q_343)) q_360 77 20) := hM.tr hE (Sm.push o_q_360 sA_g)
  replace hE : Ex g (sA (sF g_359 h 25 (.ref q_343)) q_360 77 20) := hE.tr (Ex.push o_q_360 sA_g)
  replace hP : PF [25, 23, 20, 19, 18, 17, 16, 15, 14, 13, 12, 11, 10, 9, 8, 7, 6, 5, 4, 3, 2, 1, 60, 52, 51, 50, 49, 38, 37, 36, 34, 30, 29, 24, 22, 21, 0] (sA (sF g_359 h 25 (.ref q_343)) q_360 77 20) h := hP.pu (Ex.push o_q_360 sA_g) (sA_g h (ne0 r_344 o_q_360 (by decide))).2.1
  have zP : ZC (sA (sF g_359 h 25 (.ref q_343)) q_360 77 20) q_23 := zP.pu (sA_g q_23 (ne0 r_346 o_q_360 (by decide))).2.2.2.1
  have r_361 : (sA (sF g_359 h 25 (.ref q_343)) q_360 77 20).1 h = 18 := ((sA_g h (ne0 r_344 o_q_360 (by decide))).1.trans r_344)
  have r_362 : (sA (sF g_359 h 25 (.ref q_343)) q_360 77 20).1 q_12 = 71 := ((sA_g q_12 (ne0 r_345 o_q_360 (by decide))).1.trans r_345)
  have r_363 : (sA (sF g_359 h 25 (.ref q_343)) q_360 77 20).1 q_23 = 72 := ((sA_g q_23 (ne0 r_346 o_q_360 (by decide))).1.trans r_346)
  have r_364 : (sA (sF g_359 h 25 (.ref q_343)) q_360 77 20).1 q_360 = 77 := sA_r
  have n_365 : (sA (sF g_359 h 25 (.ref q_343)) q_360 77 20).2.2.1 q_12 = 48 := ((sA_g q_12 (ne0 r_345 o_q_360 (by decide))).2.2.1.trans n_348)
  have n_366 : (sA (sF g_359 h 25 (.ref q_343)) q_360 77 20).2.2.1 q_23 = 48 := ((sA_g q_23 (ne0 r_346 o_q_360 (by decide))).2.2.1.trans n_349)
  have n_367 : (sA (sF g_359 h 25 (.ref q_343)) q_360 77 20).2.2.1 q_360 = 20 := sA_n
  have kn_368 : (sA (sF g_359 h 25 (.ref q_343)) q_360 77 20).2.1 h 0 = .int 0 := ((congrFun (sA_g h (ne0 r_344 o_q_360 (by decide))).2.1 0).trans (sF_k kn_351 (by decide)))
  have kn_369 : (sA (sF g_359 h 25 (.ref q_343)) q_360 77 20).2.1 h 22 = .int 0 := ((congrFun (sA_g h (ne0 r_344 o_q_360 (by decide))).2.1 22).trans (sF_k kn_352 (by decide)))
  have kn_370 : (sA (sF g_359 h 25 (.ref q_343)) q_360 77 20).2.1 h 24 = .int 0 := ((congrFun (sA_g h (ne0 r_344 o_q_360 (by decide))).2.1 24).trans (sF_k kn_353 (by decide)))
  have kn_371 : (sA (sF g_359 h 25 (.ref q_343)) q_360 77 20).2.1 h 29 = .int 0 := ((congrFun (sA_g h (ne0 r_344 o_q_360 (by decide))).2.1 29).trans (sF_k kn_354 (by decide)))
  have kn_372 : (sA (sF g_359 h 25 (.ref q_343)) q_360 77 20).2.1 h 30 = .int 0 := ((congrFun (sA_g h (ne0 r_344 o_q_360 (by decide))).2.1 30).trans (sF_k kn_355 (by decide)))
  have kn_373 : (sA (sF g_359 h 25 (.ref q_343)) q_360 77 20).2.1 h 34 = .int 0 := ((congrFun (sA_g h (ne0 r_344 o_q_360 (by decide))).2.1 34).trans (sF_k kn_356 (by decide)))
  have kn_374 : (sA (sF g_359 h 25 (.ref q_343)) q_360 77 20).2.1 h 2 = .ref q_12 := ((congrFun (sA_g h (ne0 r_344 o_q_360 (by decide))).2.1 2).trans (sF_k kn_357 (by decide)))
  have kn_375 : (sA (sF g_359 h 25 (.ref q_343)) q_360 77 20).2.1 h 3 = .ref q_23 := ((congrFun (sA_g h (ne0 r_344 o_q_360 (by decide))).2.1 3).trans (sF_k kn_358 (by decide)))
  generalize (sA (sF g_359 h 25 (.ref q_343)) q_360 77 20) = g_376 at hT hI hM hE r_361 r_362 r_363 r_364 n_365 n_366 n_367 kn_368 kn_369 kn_370 kn_371 kn_372 kn_373 kn_374 kn_375 hP zP
  clear kn_351 kn_352 kn_353 kn_354 kn_355 kn_356 kn_357 kn_358 n_348 n_349 r_344 r_345 r_346
  refine W.widen (k := 23) (n := 1408) (Nat.le_of_ble_eq_true rfl) (Nat.le_of_ble_eq_true rfl) ?_
  refine t_put0 (ci := 7) (v := .ref q_360) hB hT (ro_ci r_361 rfl) (ro_n0 r_361 (by decide)) rfl 26 (by decide) k_771 (Or.inr ⟨hin, rfl⟩) rfl rfl dX7_init_188 (fun H locs hT => ?_)
  replace hI : Inv (sF g_376 h 26 (.ref q_360)) := hI.sF (fk r_361 (show fsm _ _ ft from trivial))
  replace hM : Sm md_k_Model g (sF g_376 h 26 (.ref q_360)) := hM.tr hE (Sm_sF (by rw [r_361]; rfl))
  replace hE : Ex g (sF g_376 h 26 (.ref q_360)) := hE
  replace hP : PF [26, 25, 23, 20, 19, 18, 17, 16, 15, 14, 13, 12, 11, 10, 9, 8, 7, 6, 5, 4, 3, 2, 1, 60, 52, 51, 50, 49, 38, 37, 36, 34, 30, 29, 24, 22, 21, 0] (sF g_376 h 26 (.ref q_360)) h := hP.put (q_8_26 (⟨_, rfl, r_364, n_367⟩))
  have zP : ZC (sF g_376 h 26 (.ref q_360)) q_23 := zP
  refine lv_aload_n hx hb dX7_init_191 rfl (lv_at hl 0 rfl) ?_
  refine lv_bipush (v := 20) hx hb dX7_init_192 (by decide) ?_
  refine t_newi (N' := 20) hB hT 78 (by decide) k_101 (by decide) (by decide) (by decide) (Nat.le_of_ble_eq_true rfl) (Nat.le_of_ble_eq_true rfl) dX7_init_194 (fun q_377 H o_q_377 hT => ?_)
  have z_q_377 : g.1 q_377 = 0 := hE.z0 o_q_377
  replace hI : Inv (sA (sF g_376 h 26 (.ref q_360)) q_377 78 20) := hI.newi o_q_377 (by decide) (fun _ => rfl) trivial (fun _ => trivial)
  replace hM : Sm md_k_Model g (sA (sF g_376 h 26 (.ref q_360)) q_377 78 20) := hM.tr hE (Sm.push o_q_377 sA_g)
  replace hE : Ex g (sA (sF g_376 h 26 (.ref q_360)) q_377 78 20) := hE.tr (Ex.push o_q_377 sA_g)
  replace hP : PF [26, 25, 23, 20, 19, 18, 17, 16, 15, 14, 13, 12, 11, 10, 9, 8, 7, 6, 5, 4, 3, 2, 1, 60, 52, 51, 50, 49, 38, 37, 36, 34, 30, 29, 24, 22, 21, 0] (sA (sF g_376 h 26 (.ref q_360)) q_377 78 20) h := hP.pu (Ex.push o_q_377 sA_g) (sA_g h (ne0 r_361 o_q_377 (by decide))).2.1
  have zP : ZC (sA (sF g_376 h 26 (.ref q_360)) q_377 78 20) q_23 := zP.pu (sA_g q_23 (ne0 r_363 o_q_377 (by decide))).2.2.2.1
  have r_378 : (sA (sF g_376 h 26 (.ref q_360)) q_377 78 20).1 h = 18 := ((sA_g h (ne0 r_361 o_q_377 (by decide))).1.trans r_361)
  have r_379 : (sA (sF g_376 h 26 (.ref q_360)) q_377 78 20).1 q_12 = 71 := ((sA_g q_12 (ne0 r_362 o_q_377 (by decide))).1.trans r_362)
  have r_380 : (sA (sF g_376 h 26 (.ref q_360)) q_377 78 20).1 q_23 = 72 := ((sA_g q_23 (ne0 r_363 o_q_377 (by decide))).1.trans r_363)
  have r_381 : (sA (sF g_376 h 26 (.ref q_360)) q_377 78 20).1 q_377 = 78 := sA_r
  have n_382 : (sA (sF g_376 h 26 (.ref q_360)) q_377 78 20).2.2.1 q_12 = 48 := ((sA_g q_12 (ne0 r_362 o_q_377 (by decide))).2.2.1.trans n_365)
  have n_383 : (sA (sF g_376 h 26 (.ref q_360)) q_377 78 20).2.2.1 q_23 = 48 := ((sA_g q_23 (ne0 r_363 o_q_377 (by decide))).2.2.1.trans n_366)
  have n_384 : (sA (sF g_376 h 26 (.ref q_360)) q_377 78 20).2.2.1 q_377 = 20 := sA_n
  have kn_385 : (sA (sF g_376 h 26 (.ref q_360)) q_377 78 20).2.1 h 0 = .int 0 := ((congrFun (sA_g h (ne0 r_361 o_q_377 (by decide))).2.1 0).trans (sF_k kn_368 (by decide)))
  have kn_386 : (sA (sF g_376 h 26 (.ref q_360)) q_377 78 20).2.1 h 22 = .int 0 := ((congrFun (sA_g h (ne0 r_361 o_q_377 (by decide))).2.1 22).trans (sF_k kn_369 (by decide)))
  have kn_387 : (sA (sF g_376 h 26 (.ref q_360)) q_377 78 20).2.1 h 24 = .int 0 := ((congrFun (sA_g h (ne0 r_361 o_q_377 (by decide))).2.1 24).trans (sF_k kn_370 (by decide)))
  have kn_388 : (sA (sF g_376 h 26 (.ref q_360)) q_377 78 20).2.1 h 29 = .int 0 := ((congrFun (sA_g h (ne0 r_361 o_q_377 (by decide))).2.1 29).trans (sF_k kn_371 (by decide)))
  have kn_389 : (sA (sF g_376 h 26 (.ref q_360)) q_377 78 20).2.1 h 30 = .int 0 := ((congrFun (sA_g h (ne0 r_361 o_q_377 (by decide))).2.1 30).trans (sF_k kn_372 (by decide)))
  have kn_390 : (sA (sF g_376 h 26 (.ref q_360)) q_377 78 20).2.1 h 34 = .int 0 := ((congrFun (sA_g h (ne0 r_361 o_q_377 (by decide))).2.1 34).trans (sF_k kn_373 (by decide)))
  have kn_391 : (sA (sF g_376 h 26 (.ref q_360)) q_377 78 20).2.1 h 2 = .ref q_12 := ((congrFun (sA_g h (ne0 r_361 o_q_377 (by decide))).2.1 2).trans (sF_k kn_374 (by decide)))
  have kn_392 : (sA (sF g_376 h 26 (.ref q_360)) q_377 78 20).2.1 h 3 = .ref q_23 := ((congrFun (sA_g h (ne0 r_361 o_q_377 (by decide))).2.1 3).trans (sF_k kn_375 (by decide)))
  generalize (sA (sF g_376 h 26 (.ref q_360)) q_377 78 20) = g_393 at hT hI hM hE r_378 r_379 r_380 r_381 n_382 n_383 n_384 kn_385 kn_386 kn_387 kn_388 kn_389 kn_390 kn_391 kn_392 hP zP
  clear kn_368 kn_369 kn_370 kn_371 kn_372 kn_373 kn_374 kn_375 n_365 n_366 r_361 r_362 r_363
  refine W.widen (k := 24) (n := 1428) (Nat.le_of_ble_eq_true rfl) (Nat.le_of_ble_eq_true rfl) ?_
  refine t_put0 (ci := 7) (v := .ref q_377) hB hT (ro_ci r_378 rfl) (ro_n0 r_378 (by decide)) rfl 27 (by decide) k_772 (Or.inr ⟨hin, rfl⟩) rfl rfl dX7_init_196 (fun H locs hT => ?_)
  replace hI : Inv (sF g_393 h 27 (.ref q_377)) := hI.sF (fk r_378 (show fsm _ _ ft from trivial))
  replace hM : Sm md_k_Model g (sF g_393 h 27 (.ref q_377)) := hM.tr hE (Sm_sF (by rw [r_378]; rfl))
  replace hE : Ex g (sF g_393 h 27 (.ref q_377)) := hE
  replace hP : PF [27, 26, 25, 23, 20, 19, 18, 17, 16, 15, 14, 13, 12, 11, 10, 9, 8, 7, 6, 5, 4, 3, 2, 1, 60, 52, 51, 50, 49, 38, 37, 36, 34, 30, 29, 24, 22, 21, 0] (sF g_393 h 27 (.ref q_377)) h := hP.put (q_8_27 (⟨_, rfl, r_381, n_384⟩))
  have zP : ZC (sF g_393 h 27 (.ref q_377)) q_23 := zP
  refine lv_aload_n hx hb dX7_init_199 rfl (lv_at hl 0 rfl) ?_
  refine lv_bipush (v := 100) hx hb dX7_init_200 (by decide) ?_
  refine t_newi (N' := 100) hB hT 79 (by decide) k_101 (by decide) (by decide) (by decide) (Nat.le_of_ble_eq_true rfl) (Nat.le_of_ble_eq_true rfl) dX7_init_202 (fun q_394 H o_q_394 hT => ?_)
  have z_q_394 : g.1 q_394 = 0 := hE.z0 o_q_394
  replace hI : Inv (sA (sF g_393 h 27 (.ref q_377)) q_394 79 100) := hI.newi o_q_394 (by decide) (fun _ => rfl) ⟨by decide, by decide⟩ (fun _ => trivial)
  replace hM : Sm md_k_Model g (sA (sF g_393 h 27 (.ref q_377)) q_394 79 100) := hM.tr hE (Sm.push o_q_394 sA_g)
  replace hE : Ex g (sA (sF g_393 h 27 (.ref q_377)) q_394 79 100) := hE.tr (Ex.push o_q_394 sA_g)
  replace hP : PF [27, 26, 25, 23, 20, 19, 18, 17, 16, 15, 14, 13, 12, 11, 10, 9, 8, 7, 6, 5, 4, 3, 2, 1, 60, 52, 51, 50, 49, 38, 37, 36, 34, 30, 29, 24, 22, 21, 0] (sA (sF g_393 h 27 (.ref q_377)) q_394 79 100) h := hP.pu (Ex.push o_q_394 sA_g) (sA_g h (ne0 r_378 o_q_394 (by decide))).2.1
  have zP : ZC (sA (sF g_393 h 27 (.ref q_377)) q_394 79 100) q_23 := zP.pu (sA_g q_23 (ne0 r_380 o_q_394 (by decide))).2.2.2.1
  have r_395 : (sA (sF g_393 h 27 (.ref q_377)) q_394 79 100).1 h = 18 := ((sA_g h (ne0 r_378 o_q_394 (by decide))).1.trans r_378)
  have r_396 : (sA (sF g_393 h 27 (.ref q_377)) q_394 79 100).1 q_12 = 71 := ((sA_g q_12 (ne0 r_379 o_q_394 (by decide))).1.trans r_379)
  have r_397 : (sA (sF g_393 h 27 (.ref q_377)) q_394 79 100).1 q_23 = 72 := ((sA_g q_23 (ne0 r_380 o_q_394 (by decide))).1.trans r_380)
  have r_398 : (sA (sF g_393 h 27 (.ref q_377)) q_394 79 100).1 q_394 = 79 := sA_r
  have n_399 : (sA (sF g_393 h 27 (.ref q_377)) q_394 79 100).2.2.1 q_12 = 48 := ((sA_g q_12 (ne0 r_379 o_q_394 (by decide))).2.2.1.trans n_382)
  have n_400 : (sA (sF g_393 h 27 (.ref q_377)) q_394 79 100).2.2.1 q_23 = 48 := ((sA_g q_23 (ne0 r_380 o_q_394 (by decide))).2.2.1.trans n_383)
  have n_401 : (sA (sF g_393 h 27 (.ref q_377)) q_394 79 100).2.2.1 q_394 = 100 := sA_n
  have kn_402 : (sA (sF g_393 h 27 (.ref q_377)) q_394 79 100).2.1 h 0 = .int 0 := ((congrFun (sA_g h (ne0 r_378 o_q_394 (by decide))).2.1 0).trans (sF_k kn_385 (by decide)))
  have kn_403 : (sA (sF g_393 h 27 (.ref q_377)) q_394 79 100).2.1 h 22 = .int 0 := ((congrFun (sA_g h (ne0 r_378 o_q_394 (by decide))).2.1 22).trans (sF_k kn_386 (by decide)))
  have kn_404 : (sA (sF g_393 h 27 (.ref q_377)) q_394 79 100).2.1 h 24 = .int 0 := ((congrFun (sA_g h (ne0 r_378 o_q_394 (by decide))).2.1 24).trans (sF_k kn_387 (by decide)))
  have kn_405 : (sA (sF g_393 h 27 (.ref q_377)) q_394 79 100).2.1 h 29 = .int 0 := ((congrFun (sA_g h (ne0 r_378 o_q_394 (by decide))).2.1 29).trans (sF_k kn_388 (by decide)))
  have kn_406 : (sA (sF g_393 h 27 (.ref q_377)) q_394 79 100).2.1 h 30 = .int 0 := ((congrFun (sA_g h (ne0 r_378 o_q_394 (by decide))).2.1 30).trans (sF_k kn_389 (by decide)))
  have kn_407 : (sA (sF g_393 h 27 (.ref q_377)) q_394 79 100).2.1 h 34 = .int 0 := ((congrFun (sA_g h (ne0 r_378 o_q_394 (by decide))).2.1 34).trans (sF_k kn_390 (by decide)))
  have kn_408 : (sA (sF g_393 h 27 (.ref q_377)) q_394 79 100).2.1 h 2 = .ref q_12 := ((congrFun (sA_g h (ne0 r_378 o_q_394 (by decide))).2.1 2).trans (sF_k kn_391 (by decide)))
  have kn_409 : (sA (sF g_393 h 27 (.ref q_377)) q_394 79 100).2.1 h 3 = .ref q_23 := ((congrFun (sA_g h (ne0 r_378 o_q_394 (by decide))).2.1 3).trans (sF_k kn_392 (by decide)))
  generalize (sA (sF g_393 h 27 (.ref q_377)) q_394 79 100) = g_410 at hT hI hM hE r_395 r_396 r_397 r_398 n_399 n_400 n_401 kn_402 kn_403 kn_404 kn_405 kn_406 kn_407 kn_408 kn_409 hP zP
  clear kn_385 kn_386 kn_387 kn_388 kn_389 kn_390 kn_391 kn_392 n_382 n_383 r_378 r_379 r_380
  refine W.widen (k := 25) (n := 1528) (Nat.le_of_ble_eq_true rfl) (Nat.le_of_ble_eq_true rfl) ?_
  refine t_put0 (ci := 7) (v := .ref q_394) hB hT (ro_ci r_395 rfl) (ro_n0 r_395 (by decide)) rfl 28 (by decide) k_773 (Or.inr ⟨hin, rfl⟩) rfl rfl dX7_init_204 (fun H locs hT => ?_)
  replace hI : Inv (sF g_410 h 28 (.ref q_394)) := hI.sF (fk r_395 (show fsm _ _ ft from trivial))
  replace hM : Sm md_k_Model g (sF g_410 h 28 (.ref q_394)) := hM.tr hE (Sm_sF (by rw [r_395]; rfl))
  replace hE : Ex g (sF g_410 h 28 (.ref q_394)) := hE
  replace hP : PF [28, 27, 26, 25, 23, 20, 19, 18, 17, 16, 15, 14, 13, 12, 11, 10, 9, 8, 7, 6, 5, 4, 3, 2, 1, 60, 52, 51, 50, 49, 38, 37, 36, 34, 30, 29, 24, 22, 21, 0] (sF g_410 h 28 (.ref q_394)) h := hP.put (q_8_28 (⟨_, rfl, r_398, n_401⟩))
  have zP : ZC (sF g_410 h 28 (.ref q_394)) q_23 := zP
  refine lv_aload_n hx hb dX7_init_207 rfl (lv_at hl 0 rfl) ?_
  refine lv_bipush (v := 6) hx hb dX7_init_208 (by decide) ?_
  refine t_newi (N' := 6) hB hT 80 (by decide) k_101 (by decide) (by decide) (by decide) (Nat.le_of_ble_eq_true rfl) (Nat.le_of_ble_eq_true rfl) dX7_init_210 (fun q_411 H o_q_411 hT => ?_)
  have z_q_411 : g.1 q_411 = 0 := hE.z0 o_q_411
  replace hI : Inv (sA (sF g_410 h 28 (.ref q_394)) q_411 80 6) := hI.newi o_q_411 (by decide) (fun _ => rfl) ⟨by decide, by decide⟩ (fun _ => trivial)
  replace hM : Sm md_k_Model g (sA (sF g_410 h 28 (.ref q_394)) q_411 80 6) := hM.tr hE (Sm.push o_q_411 sA_g)
  replace hE : Ex g (sA (sF g_410 h 28 (.ref q_394)) q_411 80 6) := hE.tr (Ex.push o_q_411 sA_g)
  replace hP : PF [28, 27, 26, 25, 23, 20, 19, 18, 17, 16, 15, 14, 13, 12, 11, 10, 9, 8, 7, 6, 5, 4, 3, 2, 1, 60, 52, 51, 50, 49, 38, 37, 36, 34, 30, 29, 24, 22, 21, 0] (sA (sF g_410 h 28 (.ref q_394)) q_411 80 6) h := hP.pu (Ex.push o_q_411 sA_g) (sA_g h (ne0 r_395 o_q_411 (by decide))).2.1
  have zP : ZC (sA (sF g_410 h 28 (.ref q_394)) q_411 80 6) q_23 := zP.pu (sA_g q_23 (ne0 r_397 o_q_411 (by decide))).2.2.2.1
  have r_412 : (sA (sF g_410 h 28 (.ref q_394)) q_411 80 6).1 h = 18 := ((sA_g h (ne0 r_395 o_q_411 (by decide))).1.trans r_395)
  have r_413 : (sA (sF g_410 h 28 (.ref q_394)) q_411 80 6).1 q_12 = 71 := ((sA_g q_12 (ne0 r_396 o_q_411 (by decide))).1.trans r_396)
  have r_414 : (sA (sF g_410 h 28 (.ref q_394)) q_411 80 6).1 q_23 = 72 := ((sA_g q_23 (ne0 r_397 o_q_411 (by decide))).1.trans r_397)
  have r_415 : (sA (sF g_410 h 28 (.ref q_394)) q_411 80 6).1 q_411 = 80 := sA_r
  have n_416 : (sA (sF g_410 h 28 (.ref q_394)) q_411 80 6).2.2.1 q_12 = 48 := ((sA_g q_12 (ne0 r_396 o_q_411 (by decide))).2.2.1.trans n_399)
  have n_417 : (sA (sF g_410 h 28 (.ref q_394)) q_411 80 6).2.2.1 q_23 = 48 := ((sA_g q_23 (ne0 r_397 o_q_411 (by decide))).2.2.1.trans n_400)
  have n_418 : (sA (sF g_410 h 28 (.ref q_394)) q_411 80 6).2.2.1 q_411 = 6 := sA_n
  have kn_419 : (sA (sF g_410 h 28 (.ref q_394)) q_411 80 6).2.1 h 0 = .int 0 := ((congrFun (sA_g h (ne0 r_395 o_q_411 (by decide))).2.1 0).trans (sF_k kn_402 (by decide)))
  have kn_420 : (sA (sF g_410 h 28 (.ref q_394)) q_411 80 6).2.1 h 22 = .int 0 := ((congrFun (sA_g h (ne0 r_395 o_q_411 (by decide))).2.1 22).trans (sF_k kn_403 (by decide)))
  have kn_421 : (sA (sF g_410 h 28 (.ref q_394)) q_411 80 6).2.1 h 24 = .int 0 := ((congrFun (sA_g h (ne0 r_395 o_q_411 (by decide))).2.1 24).trans (sF_k kn_404 (by decide)))
  have kn_422 : (sA (sF g_410 h 28 (.ref q_394)) q_411 80 6).2.1 h 29 = .int 0 := ((congrFun (sA_g h (ne0 r_395 o_q_411 (by decide))).2.1 29).trans (sF_k kn_405 (by decide)))
  have kn_423 : (sA (sF g_410 h 28 (.ref q_394)) q_411 80 6).2.1 h 30 = .int 0 := ((congrFun (sA_g h (ne0 r_395 o_q_411 (by decide))).2.1 30).trans (sF_k kn_406 (by decide)))
  have kn_424 : (sA (sF g_410 h 28 (.ref q_394)) q_411 80 6).2.1 h 34 = .int 0 := ((congrFun (sA_g h (ne0 r_395 o_q_411 (by decide))).2.1 34).trans (sF_k kn_407 (by decide)))
  have kn_425 : (sA (sF g_410 h 28 (.ref q_394)) q_411 80 6).2.1 h 2 = .ref q_12 := ((congrFun (sA_g h (ne0 r_395 o_q_411 (by decide))).2.1 2).trans (sF_k kn_408 (by decide)))
  have kn_426 : (sA (sF g_410 h 28 (.ref q_394)) q_411 80 6).2.1 h 3 = .ref q_23 := ((congrFun (sA_g h (ne0 r_395 o_q_411 (by decide))).2.1 3).trans (sF_k kn_409 (by decide)))
  generalize (sA (sF g_410 h 28 (.ref q_394)) q_411 80 6) = g_427 at hT hI hM hE r_412 r_413 r_414 r_415 n_416 n_417 n_418 kn_419 kn_420 kn_421 kn_422 kn_423 kn_424 kn_425 kn_426 hP zP
  clear kn_402 kn_403 kn_404 kn_405 kn_406 kn_407 kn_408 kn_409 n_399 n_400 r_395 r_396 r_397
  refine W.widen (k := 26) (n := 1534) (Nat.le_of_ble_eq_true rfl) (Nat.le_of_ble_eq_true rfl) ?_
  refine t_put0 (ci := 7) (v := .ref q_411) hB hT (ro_ci r_412 rfl) (ro_n0 r_412 (by decide)) rfl 31 (by decide) k_776 (Or.inr ⟨hin, rfl⟩) rfl rfl dX7_init_212 (fun H locs hT => ?_)
  replace hI : Inv (sF g_427 h 31 (.ref q_411)) := hI.sF (fk r_412 (show fsm _ _ ft from trivial))
  replace hM : Sm md_k_Model g (sF g_427 h 31 (.ref q_411)) := hM.tr hE (Sm_sF (by rw [r_412]; rfl))
  replace hE : Ex g (sF g_427 h 31 (.ref q_411)) := hE
  replace hP : PF [31, 28, 27, 26, 25, 23, 20, 19, 18, 17, 16, 15, 14, 13, 12, 11, 10, 9, 8, 7, 6, 5, 4, 3, 2, 1, 60, 52, 51, 50, 49, 38, 37, 36, 34, 30, 29, 24, 22, 21, 0] (sF g_427 h 31 (.ref q_411)) h := hP.put (q_8_31 (⟨_, rfl, r_415, n_418⟩))
  have zP : ZC (sF g_427 h 31 (.ref q_411)) q_23 := zP
  refine lv_aload_n hx hb dX7_init_215 rfl (lv_at hl 0 rfl) ?_
  refine lv_bipush (v := 6) hx hb dX7_init_216 (by decide) ?_
  refine t_newi (N' := 6) hB hT 81 (by decide) k_101 (by decide) (by decide) (by decide) (Nat.le_of_ble_eq_true rfl) (Nat.le_of_ble_eq_true rfl) dX7_init_218 (fun q_428 H o_q_428 hT => ?_)
  have z_q_428 : g.1 q_428 = 0 := hE.z0 o_q_428
  replace hI : Inv (sA (sF g_427 h 31 (.ref q_411)) q_428 81 6) := hI.newi o_q_428 (by decide) (fun _ => rfl) ⟨by decide, by decide⟩ (fun _ => trivial)
  replace hM : Sm md_k_Model g (sA (sF g_427 h 31 (.ref q_411)) q_428 81 6) := hM.tr hE (Sm.push o_q_428 sA_g)
  replace hE : Ex g (sA (sF g_427 h 31 (.ref q_411)) q_428 81 6) := hE.tr (Ex.push o_q_428 sA_g)
  replace hP : PF [31, 28, 27, 26, 25, 23, 20, 19, 18, 17, 16, 15, 14, 13, 12, 11, 10, 9, 8, 7, 6, 5, 4, 3, 2, 1, 60, 52, 51, 50, 49, 38, 37, 36, 34, 30, 29, 24, 22, 21, 0] (sA (sF g_427 h 31 (.ref q_411)) q_428 81 6) h := hP.pu (Ex.push o_q_428 sA_g) (sA_g h (ne0 r_412 o_q_428 (by decide))).2.1
  have zP : ZC (sA (sF g_427 h 31 (.ref q_411)) q_428 81 6) q_23 := zP.pu (sA_g q_23 (ne0 r_414 o_q_428 (by decide))).2.2.2.1
  have r_429 : (sA (sF g_427 h 31 (.ref q_411)) q_428 81 6).1 h = 18 := ((sA_g h (ne0 r_412 o_q_428 (by decide))).1.trans r_412)
  have r_430 : (sA (sF g_427 h 31 (.ref q_411)) q_428 81 6).1 q_12 = 71 := ((sA_g q_12 (ne0 r_413 o_q_428 (by decide))).1.trans r_413)
  have r_431 : (sA (sF g_427 h 31 (.ref q_411)) q_428 81 6).1 q_23 = 72 := ((sA_g q_23 (ne0 r_414 o_q_428 (by decide))).1.trans r_414)
  have r_432 : (sA (sF g_427 h 31 (.ref q_411)) q_428 81 6).1 q_428 = 81 := sA_r
  have n_433 : (sA (sF g_427 h 31 (.ref q_411)) q_428 81 6).2.2.1 q_12 = 48 := ((sA_g q_12 (ne0 r_413 o_q_428 (by decide))).2.2.1.trans n_416)
  have n_434 : (sA (sF g_427 h 31 (.ref q_411)) q_428 81 6).2.2.1 q_23 = 48 := ((sA_g q_23 (ne0 r_414 o_q_428 (by decide))).2.2.1.trans n_417)
  have n_435 : (sA (sF g_427 h 31 (.ref q_411)) q_428 81 6).2.2.1 q_428 = 6 := sA_n
  have kn_436 : (sA (sF g_427 h 31 (.ref q_411)) q_428 81 6).2.1 h 0 = .int 0 := ((congrFun (sA_g h (ne0 r_412 o_q_428 (by decide))).2.1 0).trans (sF_k kn_419 (by decide)))
  have kn_437 : (sA (sF g_427 h 31 (.ref q_411)) q_428 81 6).2.1 h 22 = .int 0 := ((congrFun (sA_g h (ne0 r_412 o_q_428 (by decide))).2.1 22).trans (sF_k kn_420 (by decide)))
  have kn_438 : (sA (sF g_427 h 31 (.ref q_411)) q_428 81 6).2.1 h 24 = .int 0 := ((congrFun (sA_g h (ne0 r_412 o_q_428 (by decide))).2.1 24).trans (sF_k kn_421 (by decide)))
  have kn_439 : (sA (sF g_427 h 31 (.ref q_411)) q_428 81 6).2.1 h 29 = .int 0 := ((congrFun (sA_g h (ne0 r_412 o_q_428 (by decide))).2.1 29).trans (sF_k kn_422 (by decide)))
  have kn_440 : (sA (sF g_427 h 31 (.ref q_411)) q_428 81 6).2.1 h 30 = .int 0 := ((congrFun (sA_g h (ne0 r_412 o_q_428 (by decide))).2.1 30).trans (sF_k kn_423 (by decide)))
  have kn_441 : (sA (sF g_427 h 31 (.ref q_411)) q_428 81 6).2.1 h 34 = .int 0 := ((congrFun (sA_g h (ne0 r_412 o_q_428 (by decide))).2.1 34).trans (sF_k kn_424 (by decide)))
  have kn_442 : (sA (sF g_427 h 31 (.ref q_411)) q_428 81 6).2.1 h 2 = .ref q_12 := ((congrFun (sA_g h (ne0 r_412 o_q_428 (by decide))).2.1 2).trans (sF_k kn_425 (by decide)))
  have kn_443 : (sA (sF g_427 h 31 (.ref q_411)) q_428 81 6).2.1 h 3 = .ref q_23 := ((congrFun (sA_g h (ne0 r_412 o_q_428 (by decide))).2.1 3).trans (sF_k kn_426 (by decide)))
  generalize (sA (sF g_427 h 31 (.ref q_411)) q_428 81 6) = g_444 at hT hI hM hE r_429 r_430 r_431 r_432 n_433 n_434 n_435 kn_436 kn_437 kn_438 kn_439 kn_440 kn_441 kn_442 kn_443 hP zP
  clear kn_419 kn_420 kn_421 kn_422 kn_423 kn_424 kn_425 kn_426 n_416 n_417 r_412 r_413 r_414
  refine W.widen (k := 27) (n := 1540) (Nat.le_of_ble_eq_true rfl) (Nat.le_of_ble_eq_true rfl) ?_
  refine t_put0 (ci := 7) (v := .ref q_428) hB hT (ro_ci r_429 rfl) (ro_n0 r_429 (by decide)) rfl 32 (by decide) k_777 (Or.inr ⟨hin, rfl⟩) rfl rfl dX7_init_220 (fun H locs hT => ?_)
  replace hI : Inv (sF g_444 h 32 (.ref q_428)) := hI.sF (fk r_429 (show fsm _ _ ft from trivial))
  replace hM : Sm md_k_Model g (sF g_444 h 32 (.ref q_428)) := hM.tr hE (Sm_sF (by rw [r_429]; rfl))
  replace hE : Ex g (sF g_444 h 32 (.ref q_428)) := hE
  replace hP : PF [32, 31, 28, 27, 26, 25, 23, 20, 19, 18, 17, 16, 15, 14, 13, 12, 11, 10, 9, 8, 7, 6, 5, 4, 3, 2, 1, 60, 52, 51, 50, 49, 38, 37, 36, 34, 30, 29, 24, 22, 21, 0] (sF g_444 h 32 (.ref q_428)) h := hP.put (q_8_32 (⟨_, rfl, r_432, n_435⟩))
  have zP : ZC (sF g_444 h 32 (.ref q_428)) q_23 := zP
  refine lv_aload_n hx hb dX7_init_223 rfl (lv_at hl 0 rfl) ?_
  refine lv_bipush (v := 6) hx hb dX7_init_224 (by decide) ?_
  refine t_newi (N' := 6) hB hT 82 (by decide) k_101 (by decide) (by decide) (by decide) (Nat.le_of_ble_eq_true rfl) (Nat.le_of_ble_eq_true rfl) dX7_init_226 (fun q_445 H o_q_445 hT => ?_)
  have z_q_445 : g.1 q_445 = 0 := hE.z0 o_q_445
  replace hI : Inv (sA (sF g_444 h 32 (.ref q_428)) q_445 82 6) := hI.newi o_q_445 (by decide) (fun _ => rfl) trivial (fun _ => trivial)
  replace hM : Sm md_k_Model g (sA (sF g_444 h 32 (.ref q_428)) q_445 82 6) := hM.tr hE (Sm.push o_q_445 sA_g)
  replace hE : Ex g (sA (sF g_444 h 32 (.ref q_428)) q_445 82 6) := hE.tr (Ex.push o_q_445 sA_g)
  replace hP : PF [32, 31, 28, 27, 26, 25, 23, 20, 19, 18, 17, 16, 15, 14, 13, 12, 11, 10, 9, 8, 7, 6, 5, 4, 3, 2, 1, 60, 52, 51, 50, 49, 38, 37, 36, 34, 30, 29, 24, 22, 21, 0] (sA (sF g_444 h 32 (.ref q_428)) q_445 82 6) h := hP.pu (Ex.push o_q_445 sA_g) (sA_g h (ne0 r_429 o_q_445 (by decide))).2.1
  have zP : ZC (sA (sF g_444 h 32 (.ref q_428)) q_445 82 6) q_23 := zP.pu (sA_g q_23 (ne0 r_431 o_q_445 (by decide))).2.2.2.1
  have r_446 : (sA (sF g_444 h 32 (.ref q_428)) q_445 82 6).1 h = 18 := ((sA_g h (ne0 r_429 o_q_445 (by decide))).1.trans r_429)
  have r_447 : (sA (sF g_444 h 32 (.ref q_428)) q_445 82 6).1 q_12 = 71 := ((sA_g q_12 (ne0 r_430 o_q_445 (by decide))).1.trans r_430)
  have r_448 : (sA (sF g_444 h 32 (.ref q_428)) q_445 82 6).1 q_23 = 72 := ((sA_g q_23 (ne0 r_431 o_q_445 (by decide))).1.trans r_431)
  have r_449 : (sA (sF g_444 h 32 (.ref q_428)) q_445 82 6).1 q_445 = 82 := sA_r
  have n_450 : (sA (sF g_444 h 32 (.ref q_428)) q_445 82 6).2.2.1 q_12 = 48 := ((sA_g q_12 (ne0 r_430 o_q_445 (by decide))).2.2.1.trans n_433)
  have n_451 : (sA (sF g_444 h 32 (.ref q_428)) q_445 82 6).2.2.1 q_23 = 48 := ((sA_g q_23 (ne0 r_431 o_q_445 (by decide))).2.2.1.trans n_434)
  have n_452 : (sA (sF g_444 h 32 (.ref q_428)) q_445 82 6).2.2.1 q_445 = 6 := sA_n
  have kn_453 : (sA (sF g_444 h 32 (.ref q_428)) q_445 82 6).2.1 h 0 = .int 0 := ((congrFun (sA_g h (ne0 r_429 o_q_445 (by decide))).2.1 0).trans (sF_k kn_436 (by decide)))
  have kn_454 : (sA (sF g_444 h 32 (.ref q_428)) q_445 82 6).2.1 h 22 = .int 0 := ((congrFun (sA_g h (ne0 r_429 o_q_445 (by decide))).2.1 22).trans (sF_k kn_437 (by decide)))
  have kn_455 : (sA (sF g_444 h 32 (.ref q_428)) q_445 82 6).2.1 h 24 = .int 0 := ((congrFun (sA_g h (ne0 r_429 o_q_445 (by decide))).2.1 24).trans (sF_k kn_438 (by decide)))
  have kn_456 : (sA (sF g_444 h 32 (.ref q_428)) q_445 82 6).2.1 h 29 = .int 0 := ((congrFun (sA_g h (ne0 r_429 o_q_445 (by decide))).2.1 29).trans (sF_k kn_439 (by decide)))
  have kn_457 : (sA (sF g_444 h 32 (.ref q_428)) q_445 82 6).2.1 h 30 = .int 0 := ((congrFun (sA_g h (ne0 r_429 o_q_445 (by decide))).2.1 30).trans (sF_k kn_440 (by decide)))
  have kn_458 : (sA (sF g_444 h 32 (.ref q_428)) q_445 82 6).2.1 h 34 = .int 0 := ((congrFun (sA_g h (ne0 r_429 o_q_445 (by decide))).2.1 34).trans (sF_k kn_441 (by decide)))
  have kn_459 : (sA (sF g_444 h 32 (.ref q_428)) q_445 82 6).2.1 h 2 = .ref q_12 := ((congrFun (sA_g h (ne0 r_429 o_q_445 (by decide))).2.1 2).trans (sF_k kn_442 (by decide)))
  have kn_460 : (sA (sF g_444 h 32 (.ref q_428)) q_445 82 6).2.1 h 3 = .ref q_23 := ((congrFun (sA_g h (ne0 r_429 o_q_445 (by decide))).2.1 3).trans (sF_k kn_443 (by decide)))
  generalize (sA (sF g_444 h 32 (.ref q_428)) q_445 82 6) = g_461 at hT hI hM hE r_446 r_447 r_448 r_449 n_450 n_451 n_452 kn_453 kn_454 kn_455 kn_456 kn_457 kn_458 kn_459 kn_460 hP zP
  clear kn_436 kn_437 kn_438 kn_439 kn_440 kn_441 kn_442 kn_443 n_433 n_434 r_429 r_430 r_431
  refine W.widen (k := 28) (n := 1546) (Nat.le_of_ble_eq_true rfl) (Nat.le_of_ble_eq_true rfl) ?_
  refine t_put0 (ci := 7) (v := .ref q_445) hB hT (ro_ci r_446 rfl) (ro_n0 r_446 (by decide)) rfl 33 (by decide) k_778 (Or.inr ⟨hin, rfl⟩) rfl rfl dX7_init_228 (fun H locs hT => ?_)
  replace hI : Inv (sF g_461 h 33 (.ref q_445)) := hI.sF (fk r_446 (show fsm _ _ ft from trivial))
  replace hM : Sm md_k_Model g (sF g_461 h 33 (.ref q_445)) := hM.tr hE (Sm_sF (by rw [r_446]; rfl))
  replace hE : Ex g (sF g_461 h 33 (.ref q_445)) := hE
  replace hP : PF [33, 32, 31, 28, 27, 26, 25, 23, 20, 19, 18, 17, 16, 15, 14, 13, 12, 11, 10, 9, 8, 7, 6, 5, 4, 3, 2, 1, 60, 52, 51, 50, 49, 38, 37, 36, 34, 30, 29, 24, 22, 21, 0] (sF g_461 h 33 (.ref q_445)) h := hP.put (q_8_33 (⟨_, rfl, r_449, n_452⟩))
  have zP : ZC (sF g_461 h 33 (.ref q_445)) q_23 := zP
  refine lv_aload_n hx hb dX7_init_231 rfl (lv_at hl 0 rfl) ?_
  refine lv_iconst (v := 4) hx hb dX7_init_232 (by decide) ?_
  refine t_newi (N' := 4) hB hT 83 (by decide) k_101 (by decide) (by decide) (by decide) (Nat.le_of_ble_eq_true rfl) (Nat.le_of_ble_eq_true rfl) dX7_init_233 (fun q_462 H o_q_462 hT => ?_)
  have z_q_462 : g.1 q_462 = 0 := hE.z0 o_q_462
  replace hI : Inv (sA (sF g_461 h 33 (.ref q_445)) q_462 83 4) := hI.newi o_q_462 (by decide) (fun _ => rfl) trivial (fun _ => trivial)
  replace hM : Sm md_k_Model g (sA (sF g_461 h 33 (.ref q_445)) q_462 83 4) := hM.tr hE (Sm.push o_q_462 sA_g)
  replace hE : Ex g (sA (sF g_461 h 33 (.ref q_445)) q_462 83 4) := hE.tr (Ex.push o_q_462 sA_g)
  replace hP : PF [33, 32, 31, 28, 27, 26, 25, 23, 20, 19, 18, 17, 16, 15, 14, 13, 12, 11, 10, 9, 8, 7, 6, 5, 4, 3, 2, 1, 60, 52, 51, 50, 49, 38, 37, 36, 34, 30, 29, 24, 22, 21, 0] (sA (sF g_461 h 33 (.ref q_445)) q_462 83 4) h := hP.pu (Ex.push o_q_462 sA_g) (sA_g h (ne0 r_446 o_q_462 (by decide))).2.1
  have zP : ZC (sA (sF g_461 h 33 (.ref q_445)) q_462 83 4) q_23 := zP.pu (sA_g q_23 (ne0 r_448 o_q_462 (by decide))).2.2.2.1
  have r_463 : (sA (sF g_461 h 33 (.ref q_445)) q_462 83 4).1 h = 18 := ((sA_g h (ne0 r_446 o_q_462 (by decide))).1.trans r_446)
  have r_464 : (sA (sF g_461 h 33 (.ref q_445)) q_462 83 4).1 q_12 = 71 := ((sA_g q_12 (ne0 r_447 o_q_462 (by decide))).1.trans r_447)
  have r_465 : (sA (sF g_461 h 33 (.ref q_445)) q_462 83 4).1 q_23 = 72 := ((sA_g q_23 (ne0 r_448 o_q_462 (by decide))).1.trans r_448)
  have r_466 : (sA (sF g_461 h 33 (.ref q_445)) q_462 83 4).1 q_462 = 83 := sA_r
  have n_467 : (sA (sF g_461 h 33 (.ref q_445)) q_462 83 4).2.2.1 q_12 = 48 := ((sA_g q_12 (ne0 r_447 o_q_462 (by decide))).2.2.1.trans n_450)
  have n_468 : (sA (sF g_461 h 33 (.ref q_445)) q_462 83 4).2.2.1 q_23 = 48 := ((sA_g q_23 (ne0 r_448 o_q_462 (by decide))).2.2.1.trans n_451)
  have n_469 : (sA (sF g_461 h 33 (.ref q_445)) q_462 83 4).2.2.1 q_462 = 4 := sA_n
  have kn_470 : (sA (sF g_461 h 33 (.ref q_445)) q_462 83 4).2.1 h 0 = .int 0 := ((congrFun (sA_g h (ne0 r_446 o_q_462 (by decide))).2.1 0).trans (sF_k kn_453 (by decide)))
  have kn_471 : (sA (sF g_461 h 33 (.ref q_445)) q_462 83 4).2.1 h 22 = .int 0 := ((congrFun (sA_g h (ne0 r_446 o_q_462 (by decide))).2.1 22).trans (sF_k kn_454 (by decide)))
  have kn_472 : (sA (sF g_461 h 33 (.ref q_445)) q_462 83 4).2.1 h 24 = .int 0 := ((congrFun (sA_g h (ne0 r_446 o_q_462 (by decide))).2.1 24).trans (sF_k kn_455 (by decide)))
  have kn_473 : (sA (sF g_461 h 33 (.ref q_445)) q_462 83 4).2.1 h 29 = .int 0 := ((congrFun (sA_g h (ne0 r_446 o_q_462 (by decide))).2.1 29).trans (sF_k kn_456 (by decide)))
  have kn_474 : (sA (sF g_461 h 33 (.ref q_445)) q_462 83 4).2.1 h 30 = .int 0 := ((congrFun (sA_g h (ne0 r_446 o_q_462 (by decide))).2.1 30).trans (sF_k kn_457 (by decide)))
  have kn_475 : (sA (sF g_461 h 33 (.ref q_445)) q_462 83 4).2.1 h 34 = .int 0 := ((congrFun (sA_g h (ne0 r_446 o_q_462 (by decide))).2.1 34).trans (sF_k kn_458 (by decide)))
  have kn_476 : (sA (sF g_461 h 33 (.ref q_445)) q_462 83 4).2.1 h 2 = .ref q_12 := ((congrFun (sA_g h (ne0 r_446 o_q_462 (by decide))).2.1 2).trans (sF_k kn_459 (by decide)))
  have kn_477 : (sA (sF g_461 h 33 (.ref q_445)) q_462 83 4).2.1 h 3 = .ref q_23 := ((congrFun (sA_g h (ne0 r_446 o_q_462 (by decide))).2.1 3).trans (sF_k kn_460 (by decide)))
  generalize (sA (sF g_461 h 33 (.ref q_445)) q_462 83 4) = g_478 at hT hI hM hE r_463 r_464 r_465 r_466 n_467 n_468 n_469 kn_470 kn_471 kn_472 kn_473 kn_474 kn_475 kn_476 kn_477 hP zP
  clear kn_453 kn_454 kn_455 kn_456 kn_457 kn_458 kn_459 kn_460 n_450 n_451 r_446 r_447 r_448
  refine W.widen (k := 29) (n := 1550) (Nat.le_of_ble_eq_true rfl) (Nat.le_of_ble_eq_true rfl) ?_
  refine lv_dup hx hb dX7_init_235 rfl ?_
  refine lv_iconst (v := 0) hx hb dX7_init_236 (by decide) ?_
  refine lv_iconst (v := 1) hx hb dX7_init_237 (by decide) ?_
  have i_479 : vp_in (0 : Int32) 4 := (by unfold vp_in; decide)
  refine t_iast hB hT (ro_in r_466 (by decide)) n_469 i_479 dX7_init_238 (fun H locs hT => ?_)
  replace hI : Inv (sC g_478 q_462 (0 : Int32).toNatClampNeg (1 : Int32)) := hI.sC (ck r_466 trivial)
  replace hM : Sm md_k_Model g (sC g_478 q_462 (0 : Int32).toNatClampNeg (1 : Int32)) := hM.tr hE (Sm_sC (by rw [r_466]; rfl))
  replace hE : Ex g (sC g_478 q_462 (0 : Int32).toNatClampNeg (1 : Int32)) := hE
  replace hP : PF [33, 32, 31, 28, 27, 26, 25, 23, 20, 19, 18, 17, 16, 15, 14, 13, 12, 11, 10, 9, 8, 7, 6, 5, 4, 3, 2, 1, 60, 52, 51, 50, 49, 38, 37, 36, 34, 30, 29, 24, 22, 21, 0] (sC g_478 q_462 (0 : Int32).toNatClampNeg (1 : Int32)) h := hP.tC 
  have zP : ZC (sC g_478 q_462 (0 : Int32).toNatClampNeg (1 : Int32)) q_23 := zP.tC (ro_ne r_465 r_466 (by decide))
  refine lv_dup hx hb dX7_init_239 rfl ?_
  refine lv_iconst (v := 1) hx hb dX7_init_240 (by decide) ?_
  refine lv_iconst (v := 1) hx hb dX7_init_241 (by decide) ?_
  have i_480 : vp_in (1 : Int32) 4 := (by unfold vp_in; decide)
  refine t_iast hB hT (ro_in r_466 (by decide)) n_469 i_480 dX7_init_242 (fun H locs hT => ?_)
  replace hI : Inv (sC (sC g_478 q_462 (0 : Int32).toNatClampNeg (1 : Int32)) q_462 (1 : Int32).toNatClampNeg (1 : Int32)) := hI.sC (ck r_466 trivial)
  replace hM : Sm md_k_Model g (sC (sC g_478 q_462 (0 : Int32).toNatClampNeg (1 : Int32)) q_462 (1 : Int32).toNatClampNeg (1 : Int32)) := hM.tr hE (Sm_sC (by rw [r_466]; rfl))
  replace hE : Ex g (sC (sC g_478 q_462 (0 : Int32).toNatClampNeg (1 : Int32)) q_462 (1 : Int32).toNatClampNeg (1 : Int32)) := hE
  replace hP : PF [33, 32, 31, 28, 27, 26, 25, 23, 20, 19, 18, 17, 16, 15, 14, 13, 12, 11, 10, 9, 8, 7, 6, 5, 4, 3, 2, 1, 60, 52, 51, 50, 49, 38, 37, 36, 34, 30, 29, 24, 22, 21, 0] (sC (sC g_478 q_462 (0 : Int32).toNatClampNeg (1 : Int32)) q_462 (1 : Int32).toNatClampNeg (1 : Int32)) h := hP.tC 
  have zP : ZC (sC (sC g_478 q_462 (0 : Int32).toNatClampNeg (1 : Int32)) q_462 (1 : Int32).toNatClampNeg (1 : Int32)) q_23 := zP.tC (ro_ne r_465 r_466 (by decide))
  refine lv_dup hx hb dX7_init_243 rfl ?_
  refine lv_iconst (v := 2) hx hb dX7_init_244 (by decide) ?_
  refine lv_iconst (v := 1) hx hb dX7_init_245 (by decide) ?_
  have i_481 : vp_in (2 : Int32) 4 := (by unfold vp_in; decide)
  refine t_iast hB hT (ro_in r_466 (by decide)) n_469 i_481 dX7_init_246 (fun H locs hT => ?_)
  replace hI : Inv (sC (sC (sC g_478 q_462 (0 : Int32).toNatClampNeg (1 : Int32)) q_462 (1 : Int32).toNatClampNeg (1 : Int32)) q_462 (2 : Int32).toNatClampNeg (1 : Int32)) := hI.sC (ck r_466 trivial)
  replace hM : Sm md_k_Model g (sC (sC (sC g_478 q_462 (0 : Int32).toNatClampNeg (1 : Int32)) q_462 (1 : Int32).toNatClampNeg (1 : Int32)) q_462 (2 : Int32).toNatClampNeg (1 : Int32)) := hM.tr hE (Sm_sC (by rw [r_466]; rfl))
  replace hE : Ex g (sC (sC (sC g_478 q_462 (0 : Int32).toNatClampNeg (1 : Int32)) q_462 (1 : Int32).toNatClampNeg (1 : Int32)) q_462 (2 : Int32).toNatClampNeg (1 : Int32)) := hE
  replace hP : PF [33, 32, 31, 28, 27, 26, 25, 23, 20, 19, 18, 17, 16, 15, 14, 13, 12, 11, 10, 9, 8, 7, 6, 5, 4, 3, 2, 1, 60, 52, 51, 50, 49, 38, 37, 36, 34, 30, 29, 24, 22, 21, 0] (sC (sC (sC g_478 q_462 (0 : Int32).toNatClampNeg (1 : Int32)) q_462 (1 : Int32).toNatClampNeg (1 : Int32)) q_462 (2 : Int32).toNatClampNeg (1 : Int32)) h := hP.tC 
  have zP : ZC (sC (sC (sC g_478 q_462 (0 : Int32).toNatClampNeg (1 : Int32)) q_462 (1 : Int32).toNatClampNeg (1 : Int32)) q_462 (2 : Int32).toNatClampNeg (1 : Int32)) q_23 := zP.tC (ro_ne r_465 r_466 (by decide))
  refine lv_dup hx hb dX7_init_247 rfl ?_
  refine lv_iconst (v := 3) hx hb dX7_init_248 (by decide) ?_
  refine lv_iconst (v := 1) hx hb dX7_init_249 (by decide) ?_
  have i_482 : vp_in (3 : Int32) 4 := (by unfold vp_in; decide)
  refine t_iast hB hT (ro_in r_466 (by decide)) n_469 i_482 dX7_init_250 (fun H locs hT => ?_)
  replace hI : Inv (sC (sC (sC (sC g_478 q_462 (0 : Int32).toNatClampNeg (1 : Int32)) q_462 (1 : Int32).toNatClampNeg (1 : Int32)) q_462 (2 : Int32).toNatClampNeg (1 : Int32)) q_462 (3 : Int32).toNatClampNeg (1 : Int32)) := hI.sC (ck r_466 trivial)
  replace hM : Sm md_k_Model g (sC (sC (sC (sC g_478 q_462 (0 : Int32).toNatClampNeg (1 : Int32)) q_462 (1 : Int32).toNatClampNeg (1 : Int32)) q_462 (2 : Int32).toNatClampNeg (1 : Int32)) q_462 (3 : Int32).toNatClampNeg (1 : Int32)) := hM.tr hE (Sm_sC (by rw [r_466]; rfl))
  replace hE : Ex g (sC (sC (sC (sC g_478 q_462 (0 : Int32).toNatClampNeg (1 : Int32)) q_462 (1 : Int32).toNatClampNeg (1 : Int32)) q_462 (2 : Int32).toNatClampNeg (1 : Int32)) q_462 (3 : Int32).toNatClampNeg (1 : Int32)) := hE
  replace hP : PF [33, 32, 31, 28, 27, 26, 25, 23, 20, 19, 18, 17, 16, 15, 14, 13, 12, 11, 10, 9, 8, 7, 6, 5, 4, 3, 2, 1, 60, 52, 51, 50, 49, 38, 37, 36, 34, 30, 29, 24, 22, 21, 0] (sC (sC (sC (sC g_478 q_462 (0 : Int32).toNatClampNeg (1 : Int32)) q_462 (1 : Int32).toNatClampNeg (1 : Int32)) q_462 (2 : Int32).toNatClampNeg (1 : Int32)) q_462 (3 : Int32).toNatClampNeg (1 : Int32)) h := hP.tC 
  have zP : ZC (sC (sC (sC (sC g_478 q_462 (0 : Int32).toNatClampNeg (1 : Int32)) q_462 (1 : Int32).toNatClampNeg (1 : Int32)) q_462 (2 : Int32).toNatClampNeg (1 : Int32)) q_462 (3 : Int32).toNatClampNeg (1 : Int32)) q_23 := zP.tC (ro_ne r_465 r_466 (by decide))
  refine t_put0 (ci := 7) (v := .ref q_462) hB hT (ro_ci r_463 rfl) (ro_n0 r_463 (by decide)) rfl 35 (by decide) k_780 (Or.inr ⟨hin, rfl⟩) rfl rfl dX7_init_251 (fun H locs hT => ?_)
  replace hI : Inv (sF (sC (sC (sC (sC g_478 q_462 (0 : Int32).toNatClampNeg (1 : Int32)) q_462 (1 : Int32).toNatClampNeg (1 : Int32)) q_462 (2 : Int32).toNatClampNeg (1 : Int32)) q_462 (3 : Int32).toNatClampNeg (1 : Int32)) h 35 (.ref q_462)) := hI.sF (fk r_463 (show fsm _ _ ft from trivial))
  replace hM : Sm md_k_Model g (sF (sC (sC (sC (sC g_478 q_462 (0 : Int32).toNatClampNeg (1 : Int32)) q_462 (1 : Int32).toNatClampNeg (1 : Int32)) q_462 (2 : Int32).toNatClampNeg (1 : Int32)) q_462 (3 : Int32).toNatClampNeg (1 : Int32)) h 35 (.ref q_462)) := hM.tr hE (Sm_sF (by rw [r_463]; rfl))
  replace hE : Ex g (sF (sC (sC (sC (sC g_478 q_462 (0 : Int32).toNatClampNeg (1 : Int32)) q_462 (1 : Int32).toNatClampNeg (1 : Int32)) q_462 (2 : Int32).toNatClampNeg (1 : Int32)) q_462 (3 : Int32).toNatClampNeg (1 : Int32)) h 35 (.ref q_462)) := hE
  replace hP : PF [35, 33, 32, 31, 28, 27, 26, 25, 23, 20, 19, 18, 17, 16, 15, 14, 13, 12, 11, 10, 9, 8, 7, 6, 5, 4, 3, 2, 1, 60, 52, 51, 50, 49, 38, 37, 36, 34, 30, 29, 24, 22, 21, 0] (sF (sC (sC (sC (sC g_478 q_462 (0 : Int32).toNatClampNeg (1 : Int32)) q_462 (1 : Int32).toNatClampNeg (1 : Int32)) q_462 (2 : Int32).toNatClampNeg (1 : Int32)) q_462 (3 : Int32).toNatClampNeg (1 : Int32)) h 35 (.ref q_462)) h := hP.put (q_8_35 (⟨_, rfl, r_466, n_469⟩))
  have zP : ZC (sF (sC (sC (sC (sC g_478 q_462 (0 : Int32).toNatClampNeg (1 : Int32)) q_462 (1 : Int32).toNatClampNeg (1 : Int32)) q_462 (2 : Int32).toNatClampNeg (1 : Int32)) q_462 (3 : Int32).toNatClampNeg (1 : Int32)) h 35 (.ref q_462)) q_23 := zP
  refine lv_aload_n hx hb dX7_init_254 rfl (lv_at hl 0 rfl) ?_
  refine lv_bipush (v := 8) hx hb dX7_init_255 (by decide) ?_
  refine t_newi (N' := 8) hB hT 84 (by decide) k_101 (by decide) (by decide) (by decide) (Nat.le_of_ble_eq_true rfl) (Nat.le_of_ble_eq_true rfl) dX7_init_257 (fun q_483 H o_q_483 hT => ?_)
  have z_q_483 : g.1 q_483 = 0 := hE.z0 o_q_483
  replace hI : Inv (sA (sF (sC (sC (sC (sC g_478 q_462 (0 : Int32).toNatClampNeg (1 : Int32)) q_462 (1 : Int32).toNatClampNeg (1 : Int32)) q_462 (2 : Int32).toNatClampNeg (1 : Int32)) q_462 (3 : Int32).toNatClampNeg (1 : Int32)) h 35 (.ref q_462)) q_483 84 8) := hI.newi o_q_483 (by decide) (fun _ => rfl) trivial (fun _ => trivial)
  replace hM : Sm md_k_Model g (sA (sF (sC (sC (sC (sC g_478 q_462 (0 : Int32).toNatClampNeg (1 : Int32)) q_462 (1 : Int32).toNatClampNeg (1 : Int32)) q_462 (2 : Int32).toNatClampNeg (1 : Int32)) q_462 (3 : Int32).toNatClampNeg (1 : Int32)) h 35 (.ref q_462)) q_483 84 8) := hM.tr hE (Sm.push o_q_483 sA_g)
  replace hE : Ex g (sA (sF (sC (sC (sC (sC g_478 q_462 (0 : Int32).toNatClampNeg (1 : Int32)) q_462 (1 : Int32).toNatClampNeg (1 : Int32)) q_462 (2 : Int32).toNatClampNeg (1 : Int32)) q_462 (3 : Int32).toNatClampNeg (1 : Int32)) h 35 (.ref q_462)) q_483 84 8) := hE.tr (Ex.push o_q_483 sA_g)
  replace hP : PF [35, 33, 32, 31, 28, 27, 26, 25, 23, 20, 19, 18, 17, 16, 15, 14, 13, 12, 11, 10, 9, 8, 7, 6, 5, 4, 3, 2, 1, 60, 52, 51, 50, 49, 38, 37, 36, 34, 30, 29, 24, 22, 21, 0] (sA (sF (sC (sC (sC (sC g_478 q_462 (0 : Int32).toNatClampNeg (1 : Int32)) q_462 (1 : Int32).toNatClampNeg (1 : Int32)) q_462 (2 : Int32).toNatClampNeg (1 : Int32)) q_462 (3 : Int32).toNatClampNeg (1 : Int32)) h 35 (.ref q_462)) q_483 84 8) h := hP.pu (Ex.push o_q_483 sA_g) (sA_g h (ne0 r_463 o_q_483 (by decide))).2.1
  have zP : ZC (sA (sF (sC (sC (sC (sC g_478 q_462 (0 : Int32).toNatClampNeg (1 : Int32)) q_462 (1 : Int32).toNatClampNeg (1 : Int32)) q_462 (2 : Int32).toNatClampNeg (1 : Int32)) q_462 (3 : Int32).toNatClampNeg (1 : Int32)) h 35 (.ref q_462)) q_483 84 8) q_23 := zP.pu (sA_g q_23 (ne0 r_465 o_q_483 (by decide))).2.2.2.1
  have r_484 : (sA (sF (sC (sC (sC (sC g_478 q_462 (0 : Int32).toNatClampNeg (1 : Int32)) q_462 (1 : Int32).toNatClampNeg (1 : Int32)) q_462 (2 : Int32).toNatClampNeg (1 : Int32)) q_462 (3 : Int32).toNatClampNeg (1 : Int32)) h 35 (.ref q_462)) q_483 84 8).1 h = 18 := ((sA_g h (ne0 r_463 o_q_483 (by decide))).1.trans r_463)
  have r_485 : (sA (sF (sC (sC (sC (sC g_478 q_462 (0 : Int32).toNatClampNeg (1 : Int32)) q_462 (1 : Int32).toNatClampNeg (1 : Int32)) q_462 (2 : Int32).toNatClampNeg (1 : Int32)) q_462 (3 : Int32).toNatClampNeg (1 : Int32)) h 35 (.ref q_462)) q_483 84 8).1 q_12 = 71 := ((sA_g q_12 (ne0 r_464 o_q_483 (by decide))).1.trans r_464)
  have r_486 : (sA (sF (sC (sC (sC (sC g_478 q_462 (0 : Int32).toNatClampNeg (1 : Int32)) q_462 (1 : Int32).toNatClampNeg (1 : Int32)) q_462 (2 : Int32).toNatClampNeg (1 : Int32)) q_462 (3 : Int32).toNatClampNeg (1 : Int32)) h 35 (.ref q_462)) q_483 84 8).1 q_23 = 72 := ((sA_g q_23 (ne0 r_465 o_q_483 (by decide))).1.trans r_465)
  have r_487 : (sA (sF (sC (sC (sC (sC g_478 q_462 (0 : Int32).toNatClampNeg (1 : Int32)) q_462 (1 : Int32).toNatClampNeg (1 : Int32)) q_462 (2 : Int32).toNatClampNeg (1 : Int32)) q_462 (3 : Int32).toNatClampNeg (1 : Int32)) h 35 (.ref q_462)) q_483 84 8).1 q_483 = 84 := sA_r
  have n_488 : (sA (sF (sC (sC (sC (sC g_478 q_462 (0 : Int32).toNatClampNeg (1 : Int32)) q_462 (1 : Int32).toNatClampNeg (1 : Int32)) q_462 (2 : Int32).toNatClampNeg (1 : Int32)) q_462 (3 : Int32).toNatClampNeg (1 : Int32)) h 35 (.ref q_462)) q_483 84 8).2.2.1 q_12 = 48 := ((sA_g q_12 (ne0 r_464 o_q_483 (by decide))).2.2.1.trans n_467)
  have n_489 : (sA (sF (sC (sC (sC (sC g_478 q_462 (0 : Int32).toNatClampNeg (1 : Int32)) q_462 (1 : Int32).toNatClampNeg (1 : Int32)) q_462 (2 : Int32).toNatClampNeg (1 : Int32)) q_462 (3 : Int32).toNatClampNeg (1 : Int32)) h 35 (.ref q_462)) q_483 84 8).2.2.1 q_23 = 48 := ((sA_g q_23 (ne0 r_465 o_q_483 (by decide))).2.2.1.trans n_468)
  have n_490 : (sA (sF (sC (sC (sC (sC g_478 q_462 (0 : Int32).toNatClampNeg (1 : Int32)) q_462 (1 : Int32).toNatClampNeg (1 : Int32)) q_462 (2 : Int32).toNatClampNeg (1 : Int32)) q_462 (3 : Int32).toNatClampNeg (1 : Int32)) h 35 (.ref q_462)) q_483 84 8).2.2.1 q_483 = 8 := sA_n
  have kn_491 : (sA (sF (sC (sC (sC (sC g_478 q_462 (0 : Int32).toNatClampNeg (1 : Int32)) q_462 (1 : Int32).toNatClampNeg (1 : Int32)) q_462 (2 : Int32).toNatClampNeg (1 : Int32)) q_462 (3 : Int32).toNatClampNeg (1 : Int32)) h 35 (.ref q_462)) q_483 84 8).2.1 h 0 = .int 0 := ((congrFun (sA_g h (ne0 r_463 o_q_483 (by decide))).2.1 0).trans (sF_k kn_470 (by decide)))
  have kn_492 : (sA (sF (sC (sC (sC (sC g_478 q_462 (0 : Int32).toNatClampNeg (1 : Int32)) q_462 (1 : Int32).toNatClampNeg (1 : Int32)) q_462 (2 : Int32).toNatClampNeg (1 : Int32)) q_462 (3 : Int32).toNatClampNeg (1 : Int32)) h 35 (.ref q_462)) q_483 84 8).2.1 h 22 = .int 0 := ((congrFun (sA_g h (ne0 r_463 o_q_483 (by decide))).2.1 22).trans (sF_k kn_471 (by decide)))
  have kn_493 : (sA (sF (sC (sC (sC (sC g_478 q_462 (0 : Int32).toNatClampNeg (1 : Int32)) q_462 (1 : Int32).toNatClampNeg (1 : Int32)) q_462 (2 : Int32).toNatClampNeg (1 : Int32)) q_462 (3 : Int32).toNatClampNeg (1 : Int32)) h 35 (.ref q_462)) q_483 84 8).2.1 h 24 = .int 0 := ((congrFun (sA_g h (ne0 r_463 o_q_483 (by decide))).2.1 24).trans (sF_k kn_472 (by decide)))
  have kn_494 : (sA (sF (sC (sC (sC (sC g_478 q_462 (0 : Int32).toNatClampNeg (1 : Int32)) q_462 (1 : Int32).toNatClampNeg (1 : Int32)) q_462 (2 : Int32).toNatClampNeg (1 : Int32)) q_462 (3 : Int32).toNatClampNeg (1 : Int32)) h 35 (.ref q_462)) q_483 84 8).2.1 h 29 = .int 0 := ((congrFun (sA_g h (ne0 r_463 o_q_483 (by decide))).2.1 29).trans (sF_k kn_473 (by decide)))
  have kn_495 : (sA (sF (sC (sC (sC (sC g_478 q_462 (0 : Int32).toNatClampNeg (1 : Int32)) q_462 (1 : Int32).toNatClampNeg (1 : Int32)) q_462 (2 : Int32).toNatClampNeg (1 : Int32)) q_462 (3 : Int32).toNatClampNeg (1 : Int32)) h 35 (.ref q_462)) q_483 84 8).2.1 h 30 = .int 0 := ((congrFun (sA_g h (ne0 r_463 o_q_483 (by decide))).2.1 30).trans (sF_k kn_474 (by decide)))
  have kn_496 : (sA (sF (sC (sC (sC (sC g_478 q_462 (0 : Int32).toNatClampNeg (1 : Int32)) q_462 (1 : Int32).toNatClampNeg (1 : Int32)) q_462 (2 : Int32).toNatClampNeg (1 : Int32)) q_462 (3 : Int32).toNatClampNeg (1 : Int32)) h 35 (.ref q_462)) q_483 84 8).2.1 h 34 = .int 0 := ((congrFun (sA_g h (ne0 r_463 o_q_483 (by decide))).2.1 34).trans (sF_k kn_475 (by decide)))
  have kn_497 : (sA (sF (sC (sC (sC (sC g_478 q_462 (0 : Int32).toNatClampNeg (1 : Int32)) q_462 (1 : Int32).toNatClampNeg (1 : Int32)) q_462 (2 : Int32).toNatClampNeg (1 : Int32)) q_462 (3 : Int32).toNatClampNeg (1 : Int32)) h 35 (.ref q_462)) q_483 84 8).2.1 h 2 = .ref q_12 := ((congrFun (sA_g h (ne0 r_463 o_q_483 (by decide))).2.1 2).trans (sF_k kn_476 (by decide)))
  have kn_498 : (sA (sF (sC (sC (sC (sC g_478 q_462 (0 : Int32).toNatClampNeg (1 : Int32)) q_462 (1 : Int32).toNatClampNeg (1 : Int32)) q_462 (2 : Int32).toNatClampNeg (1 : Int32)) q_462 (3 : Int32).toNatClampNeg (1 : Int32)) h 35 (.ref q_462)) q_483 84 8).2.1 h 3 = .ref q_23 := ((congrFun (sA_g h (ne0 r_463 o_q_483 (by decide))).2.1 3).trans (sF_k kn_477 (by decide)))
  generalize (sA (sF (sC (sC (sC (sC g_478 q_462 (0 : Int32).toNatClampNeg (1 : Int32)) q_462 (1 : Int32).toNatClampNeg (1 : Int32)) q_462 (2 : Int32).toNatClampNeg (1 : Int32)) q_462 (3 : Int32).toNatClampNeg (1 : Int32)) h 35 (.ref q_462)) q_483 84 8) = g_499 at hT hI hM hE r_484 r_485 r_486 r_487 n_488 n_489 n_490 kn_491 kn_492 kn_493 kn_494 kn_495 kn_496 kn_497 kn_498 hP zP
  clear kn_470 kn_471 kn_472 kn_473 kn_474 kn_475 kn_476 kn_477 n_467 n_468 r_463 r_464 r_465
  refine W.widen (k := 30) (n := 1558) (Nat.le_of_ble_eq_true rfl) (Nat.le_of_ble_eq_true rfl) ?_
  refine t_put0 (ci := 7) (v := .ref q_483) hB hT (ro_ci r_484 rfl) (ro_n0 r_484 (by decide)) rfl 39 (by decide) k_784 (Or.inr ⟨hin, rfl⟩) rfl rfl dX7_init_259 (fun H locs hT => ?_)
  replace hI : Inv (sF g_499 h 39 (.ref q_483)) := hI.sF (fk r_484 (show fsm _ _ ft from trivial))
  replace hM : Sm md_k_Model g (sF g_499 h 39 (.ref q_483)) := hM.tr hE (Sm_sF (by rw [r_484]; rfl))
  replace hE : Ex g (sF g_499 h 39 (.ref q_483)) := hE
  replace hP : PF [39, 35, 33, 32, 31, 28, 27, 26, 25, 23, 20, 19, 18, 17, 16, 15, 14, 13, 12, 11, 10, 9, 8, 7, 6, 5, 4, 3, 2, 1, 60, 52, 51, 50, 49, 38, 37, 36, 34, 30, 29, 24, 22, 21, 0] (sF g_499 h 39 (.ref q_483)) h := hP.put (q_8_39 (⟨_, rfl, r_487, n_490⟩))
  have zP : ZC (sF g_499 h 39 (.ref q_483)) q_23 := zP
  refine lv_aload_n hx hb dX7_init_262 rfl (lv_at hl 0 rfl) ?_
  refine lv_bipush (v := 8) hx hb dX7_init_263 (by decide) ?_
  refine t_newi (N' := 8) hB hT 85 (by decide) k_101 (by decide) (by decide) (by decide) (Nat.le_of_ble_eq_true rfl) (Nat.le_of_ble_eq_true rfl) dX7_init_265 (fun q_500 H o_q_500 hT => ?_)
  have z_q_500 : g.1 q_500 = 0 := hE.z0 o_q_500
  replace hI : Inv (sA (sF g_499 h 39 (.ref q_483)) q_500 85 8) := hI.newi o_q_500 (by decide) (fun _ => rfl) ⟨by decide, by decide⟩ (fun _ => trivial)
  replace hM : Sm md_k_Model g (sA (sF g_499 h 39 (.ref q_483)) q_500 85 8) := hM.tr hE (Sm.push o_q_500 sA_g)
  replace hE : Ex g (sA (sF g_499 h 39 (.ref q_483)) q_500 85 8) := hE.tr (Ex.push o_q_500 sA_g)
  replace hP : PF [39, 35, 33, 32, 31, 28, 27, 26, 25, 23, 20, 19, 18, 17, 16, 15, 14, 13, 12, 11, 10, 9, 8, 7, 6, 5, 4, 3, 2, 1, 60, 52, 51, 50, 49, 38, 37, 36, 34, 30, 29, 24, 22, 21, 0] (sA (sF g_499 h 39 (.ref q_483)) q_500 85 8) h := hP.pu (Ex.push o_q_500 sA_g) (sA_g h (ne0 r_484 o_q_500 (by decide))).2.1
  have zP : ZC (sA (sF g_499 h 39 (.ref q_483)) q_500 85 8) q_23 := zP.pu (sA_g q_23 (ne0 r_486 o_q_500 (by decide))).2.2.2.1
  have zN : ZC (sA (sF g_499 h 39 (.ref q_483)) q_500 85 8) q_500 := sA_z
  have r_501 : (sA (sF g_499 h 39 (.ref q_483)) q_500 85 8).1 h = 18 := ((sA_g h (ne0 r_484 o_q_500 (by decide))).1.trans r_484)
  have r_502 : (sA (sF g_499 h 39 (.ref q_483)) q_500 85 8).1 q_12 = 71 := ((sA_g q_12 (ne0 r_485 o_q_500 (by decide))).1.trans r_485)
  have r_503 : (sA (sF g_499 h 39 (.ref q_483)) q_500 85 8).1 q_23 = 72 := ((sA_g q_23 (ne0 r_486 o_q_500 (by decide))).1.trans r_486)
  have r_504 : (sA (sF g_499 h 39 (.ref q_483)) q_500 85 8).1 q_483 = 84 := ((sA_g q_483 (ne0 r_487 o_q_500 (by decide))).1.trans r_487)
  have r_505 : (sA (sF g_499 h 39 (.ref q_483)) q_500 85 8).1 q_500 = 85 := sA_r
  have n_506 : (sA (sF g_499 h 39 (.ref q_483)) q_500 85 8).2.2.1 q_12 = 48 := ((sA_g q_12 (ne0 r_485 o_q_500 (by decide))).2.2.1.trans n_488)
  have n_507 : (sA (sF g_499 h 39 (.ref q_483)) q_500 85 8).2.2.1 q_23 = 48 := ((sA_g q_23 (ne0 r_486 o_q_500 (by decide))).2.2.1.trans n_489)
  have n_508 : (sA (sF g_499 h 39 (.ref q_483)) q_500 85 8).2.2.1 q_483 = 8 := ((sA_g q_483 (ne0 r_487 o_q_500 (by decide))).2.2.1.trans n_490)
  have n_509 : (sA (sF g_499 h 39 (.ref q_483)) q_500 85 8).2.2.1 q_500 = 8 := sA_n
  have kn_510 : (sA (sF g_499 h 39 (.ref q_483)) q_500 85 8).2.1 h 0 = .int 0 := ((congrFun (sA_g h (ne0 r_484 o_q_500 (by decide))).2.1 0).trans (sF_k kn_491 (by decide)))
  have kn_511 : (sA (sF g_499 h 39 (.ref q_483)) q_500 85 8).2.1 h 22 = .int 0 := ((congrFun (sA_g h (ne0 r_484 o_q_500 (by decide))).2.1 22).trans (sF_k kn_492 (by decide)))
  have kn_512 : (sA (sF g_499 h 39 (.ref q_483)) q_500 85 8).2.1 h 24 = .int 0 := ((congrFun (sA_g h (ne0 r_484 o_q_500 (by decide))).2.1 24).trans (sF_k kn_493 (by decide)))
  have kn_513 : (sA (sF g_499 h 39 (.ref q_483)) q_500 85 8).2.1 h 29 = .int 0 := ((congrFun (sA_g h (ne0 r_484 o_q_500 (by decide))).2.1 29).trans (sF_k kn_494 (by decide)))
  have kn_514 : (sA (sF g_499 h 39 (.ref q_483)) q_500 85 8).2.1 h 30 = .int 0 := ((congrFun (sA_g h (ne0 r_484 o_q_500 (by decide))).2.1 30).trans (sF_k kn_495 (by decide)))
  have kn_515 : (sA (sF g_499 h 39 (.ref q_483)) q_500 85 8).2.1 h 34 = .int 0 := ((congrFun (sA_g h (ne0 r_484 o_q_500 (by decide))).2.1 34).trans (sF_k kn_496 (by decide)))
  have kn_516 : (sA (sF g_499 h 39 (.ref q_483)) q_500 85 8).2.1 h 2 = .ref q_12 := ((congrFun (sA_g h (ne0 r_484 o_q_500 (by decide))).2.1 2).trans (sF_k kn_497 (by decide)))
  have kn_517 : (sA (sF g_499 h 39 (.ref q_483)) q_500 85 8).2.1 h 3 = .ref q_23 := ((congrFun (sA_g h (ne0 r_484 o_q_500 (by decide))).2.1 3).trans (sF_k kn_498 (by decide)))
  have kn_518 : (sA (sF g_499 h 39 (.ref q_483)) q_500 85 8).2.1 h 39 = .ref q_483 := ((congrFun (sA_g h (ne0 r_484 o_q_500 (by decide))).2.1 39).trans sF_eq)
  generalize (sA (sF g_499 h 39 (.ref q_483)) q_500 85 8) = g_519 at hT hI hM hE r_501 r_502 r_503 r_504 r_505 n_506 n_507 n_508 n_509 kn_510 kn_511 kn_512 kn_513 kn_514 kn_515 kn_516 kn_517 kn_518 hP zP zN
  clear kn_491 kn_492 kn_493 kn_494 kn_495 kn_496 kn_497 kn_498 n_488 n_489 n_490 r_484 r_485 r_486 r_487
  refine W.widen (k := 31) (n := 1566) (Nat.le_of_ble_eq_true rfl) (Nat.le_of_ble_eq_true rfl) ?_
  refine t_put0 (ci := 7) (v := .ref q_500) hB hT (ro_ci r_501 rfl) (ro_n0 r_501 (by decide)) rfl 40 (by decide) k_785 (Or.inr ⟨hin, rfl⟩) rfl rfl dX7_init_267 (fun H locs hT => ?_)
  replace hI : Inv (sF g_519 h 40 (.ref q_500)) := hI.sF (fk r_501 (show fsm _ _ ft from trivial))
  replace hM : Sm md_k_Model g (sF g_519 h 40 (.ref q_500)) := hM.tr hE (Sm_sF (by rw [r_501]; rfl))
  replace hE : Ex g (sF g_519 h 40 (.ref q_500)) := hE
  replace hP : PF [40, 39, 35, 33, 32, 31, 28, 27, 26, 25, 23, 20, 19, 18, 17, 16, 15, 14, 13, 12, 11, 10, 9, 8, 7, 6, 5, 4, 3, 2, 1, 60, 52, 51, 50, 49, 38, 37, 36, 34, 30, 29, 24, 22, 21, 0] (sF g_519 h 40 (.ref q_500)) h := hP.put (q_8_40 (⟨_, rfl, r_505, n_509⟩))
  have zP : ZC (sF g_519 h 40 (.ref q_500)) q_23 := zP
  have zN : ZC (sF g_519 h 40 (.ref q_500)) q_500 := zN
  refine lv_aload_n hx hb dX7_init_270 rfl (lv_at hl 0 rfl) ?_
  refine lv_bipush (v := 8) hx hb dX7_init_271 (by decide) ?_
  refine t_newi (N' := 8) hB hT 86 (by decide) k_101 (by decide) (by decide) (by decide) (Nat.le_of_ble_eq_true rfl) (Nat.le_of_ble_eq_true rfl) dX7_init_273 (fun q_520 H o_q_520 hT => ?_)
  have z_q_520 : g.1 q_520 = 0 := hE.z0 o_q_520
  replace hI : Inv (sA (sF g_519 h 40 (.ref q_500)) q_520 86 8) := hI.newi o_q_520 (by decide) (fun _ => rfl) ⟨by decide, by decide⟩ (fun _ => trivial)
  replace hM : Sm md_k_Model g (sA (sF g_519 h 40 (.ref q_500)) q_520 86 8) := hM.tr hE (Sm.push o_q_520 sA_g)
  replace hE : Ex g (sA (sF g_519 h 40 (.ref q_500)) q_520 86 8) := hE.tr (Ex.push o_q_520 sA_g)
  replace hP : PF [40, 39, 35, 33, 32, 31, 28, 27, 26, 25, 23, 20, 19, 18, 17, 16, 15, 14, 13, 12, 11, 10, 9, 8, 7, 6, 5, 4, 3, 2, 1, 60, 52, 51, 50, 49, 38, 37, 36, 34, 30, 29, 24, 22, 21, 0] (sA (sF g_519 h 40 (.ref q_500)) q_520 86 8) h := hP.pu (Ex.push o_q_520 sA_g) (sA_g h (ne0 r_501 o_q_520 (by decide))).2.1
  have zP : ZC (sA (sF g_519 h 40 (.ref q_500)) q_520 86 8) q_23 := zP.pu (sA_g q_23 (ne0 r_503 o_q_520 (by decide))).2.2.2.1
  have zN : ZC (sA (sF g_519 h 40 (.ref q_500)) q_520 86 8) q_500 := zN.pu (sA_g q_500 (ne0 r_505 o_q_520 (by decide))).2.2.2.1
  have r_521 : (sA (sF g_519 h 40 (.ref q_500)) q_520 86 8).1 h = 18 := ((sA_g h (ne0 r_501 o_q_520 (by decide))).1.trans r_501)
  have r_522 : (sA (sF g_519 h 40 (.ref q_500)) q_520 86 8).1 q_12 = 71 := ((sA_g q_12 (ne0 r_502 o_q_520 (by decide))).1.trans r_502)
  have r_523 : (sA (sF g_519 h 40 (.ref q_500)) q_520 86 8).1 q_23 = 72 := ((sA_g q_23 (ne0 r_503 o_q_520 (by decide))).1.trans r_503)
  have r_524 : (sA (sF g_519 h 40 (.ref q_500)) q_520 86 8).1 q_483 = 84 := ((sA_g q_483 (ne0 r_504 o_q_520 (by decide))).1.trans r_504)
  have r_525 : (sA (sF g_519 h 40 (.ref q_500)) q_520 86 8).1 q_500 = 85 := ((sA_g q_500 (ne0 r_505 o_q_520 (by decide))).1.trans r_505)
  have r_526 : (sA (sF g_519 h 40 (.ref q_500)) q_520 86 8).1 q_520 = 86 := sA_r
  have n_527 : (sA (sF g_519 h 40 (.ref q_500)) q_520 86 8).2.2.1 q_12 = 48 := ((sA_g q_12 (ne0 r_502 o_q_520 (by decide))).2.2.1.trans n_506)
  have n_528 : (sA (sF g_519 h 40 (.ref q_500)) q_520 86 8).2.2.1 q_23 = 48 := ((sA_g q_23 (ne0 r_503 o_q_520 (by decide))).2.2.1.trans n_507)
  have n_529 : (sA (sF g_519 h 40 (.ref q_500)) q_520 86 8).2.2.1 q_483 = 8 := ((sA_g q_483 (ne0 r_504 o_q_520 (by decide))).2.2.1.trans n_508)
  have n_530 : (sA (sF g_519 h 40 (.ref q_500)) q_520 86 8).2.2.1 q_500 = 8 := ((sA_g q_500 (ne0 r_505 o_q_520 (by decide))).2.2.1.trans n_509)
  have n_531 : (sA (sF g_519 h 40 (.ref q_500)) q_520 86 8).2.2.1 q_520 = 8 := sA_n
  have kn_532 : (sA (sF g_519 h 40 (.ref q_500)) q_520 86 8).2.1 h 0 = .int 0 := ((congrFun (sA_g h (ne0 r_501 o_q_520 (by decide))).2.1 0).trans (sF_k kn_510 (by decide)))
  have kn_533 : (sA (sF g_519 h 40 (.ref q_500)) q_520 86 8).2.1 h 22 = .int 0 := ((congrFun (sA_g h (ne0 r_501 o_q_520 (by decide))).2.1 22).trans (sF_k kn_511 (by decide)))
  have kn_534 : (sA (sF g_519 h 40 (.ref q_500)) q_520 86 8).2.1 h 24 = .int 0 := ((congrFun (sA_g h (ne0 r_501 o_q_520 (by decide))).2.1 24).trans (sF_k kn_512 (by decide)))
  have kn_535 : (sA (sF g_519 h 40 (.ref q_500)) q_520 86 8).2.1 h 29 = .int 0 := ((congrFun (sA_g h (ne0 r_501 o_q_520 (by decide))).2.1 29).trans (sF_k kn_513 (by decide)))
  have kn_536 : (sA (sF g_519 h 40 (.ref q_500)) q_520 86 8).2.1 h 30 = .int 0 := ((congrFun (sA_g h (ne0 r_501 o_q_520 (by decide))).2.1 30).trans (sF_k kn_514 (by decide)))
  have kn_537 : (sA (sF g_519 h 40 (.ref q_500)) q_520 86 8).2.1 h 34 = .int 0 := ((congrFun (sA_g h (ne0 r_501 o_q_520 (by decide))).2.1 34).trans (sF_k kn_515 (by decide)))
  have kn_538 : (sA (sF g_519 h 40 (.ref q_500)) q_520 86 8).2.1 h 2 = .ref q_12 := ((congrFun (sA_g h (ne0 r_501 o_q_520 (by decide))).2.1 2).trans (sF_k kn_516 (by decide)))
  have kn_539 : (sA (sF g_519 h 40 (.ref q_500)) q_520 86 8).2.1 h 3 = .ref q_23 := ((congrFun (sA_g h (ne0 r_501 o_q_520 (by decide))).2.1 3).trans (sF_k kn_517 (by decide)))
  have kn_540 : (sA (sF g_519 h 40 (.ref q_500)) q_520 86 8).2.1 h 39 = .ref q_483 := ((congrFun (sA_g h (ne0 r_501 o_q_520 (by decide))).2.1 39).trans (sF_k kn_518 (by decide)))
  have kn_541 : (sA (sF g_519 h 40 (.ref q_500)) q_520 86 8).2.1 h 40 = .ref q_500 := ((congrFun (sA_g h (ne0 r_501 o_q_520 (by decide))).2.1 40).trans sF_eq)
  generalize (sA (sF g_519 h 40 (.ref q_500)) q_520 86 8) = g_542 at hT hI hM hE r_521 r_522 r_523 r_524 r_525 r_526 n_527 n_528 n_529 n_530 n_531 kn_532 kn_533 kn_534 kn_535 kn_536 kn_537 kn_538 kn_539 kn_540 kn_541 hP zP zN
  clear kn_510 kn_511 kn_512 kn_513 kn_514 kn_515 kn_516 kn_517 kn_518 n_506 n_507 n_508 n_509 r_501 r_502 r_503 r_504 r_505
  refine W.widen (k := 32) (n := 1574) (Nat.le_of_ble_eq_true rfl) (Nat.le_of_ble_eq_true rfl) ?_
  refine t_put0 (ci := 7) (v := .ref q_520) hB hT (ro_ci r_521 rfl) (ro_n0 r_521 (by decide)) rfl 41 (by decide) k_786 (Or.inr ⟨hin, rfl⟩) rfl rfl dX7_init_275 (fun H locs hT => ?_)
  replace hI : Inv (sF g_542 h 41 (.ref q_520)) := hI.sF (fk r_521 (show fsm _ _ ft from trivial))
  replace hM : Sm md_k_Model g (sF g_542 h 41 (.ref q_520)) := hM.tr hE (Sm_sF (by rw [r_521]; rfl))
  replace hE : Ex g (sF g_542 h 41 (.ref q_520)) := hE
  replace hP : PF [41, 40, 39, 35, 33, 32, 31, 28, 27, 26, 25, 23, 20, 19, 18, 17, 16, 15, 14, 13, 12, 11, 10, 9, 8, 7, 6, 5, 4, 3, 2, 1, 60, 52, 51, 50, 49, 38, 37, 36, 34, 30, 29, 24, 22, 21, 0] (sF g_542 h 41 (.ref q_520)) h := hP.put (q_8_41 (⟨_, rfl, r_526, n_531⟩))
  have zP : ZC (sF g_542 h 41 (.ref q_520)) q_23 := zP
  have zN : ZC (sF g_542 h 41 (.ref q_520)) q_500 := zN
  refine lv_aload_n hx hb dX7_init_278 rfl (lv_at hl 0 rfl) ?_
  refine lv_bipush (v := 24) hx hb dX7_init_279 (by decide) ?_
  refine t_newi (N' := 24) hB hT 87 (by decide) k_101 (by decide) (by decide) (by decide) (Nat.le_of_ble_eq_true rfl) (Nat.le_of_ble_eq_true rfl) dX7_init_281 (fun q_543 H o_q_543 hT => ?_)
  have z_q_543 : g.1 q_543 = 0 := hE.z0 o_q_543
  replace hI : Inv (sA (sF g_542 h 41 (.ref q_520)) q_543 87 24) := hI.newi o_q_543 (by decide) (fun _ => rfl) ⟨by decide, by decide⟩ (fun _ => trivial)
  replace hM : Sm md_k_Model g (sA (sF g_542 h 41 (.ref q_520)) q_543 87 24) := hM.tr hE (Sm.push o_q_543 sA_g)
  replace hE : Ex g (sA (sF g_542 h 41 (.ref q_520)) q_543 87 24) := hE.tr (Ex.push o_q_543 sA_g)
  replace hP : PF [41, 40, 39, 35, 33, 32, 31, 28, 27, 26, 25, 23, 20, 19, 18, 17, 16, 15, 14, 13, 12, 11, 10, 9, 8, 7, 6, 5, 4, 3, 2, 1, 60, 52, 51, 50, 49, 38, 37, 36, 34, 30, 29, 24, 22, 21, 0] (sA (sF g_542 h 41 (.ref q_520)) q_543 87 24) h := hP.pu (Ex.push o_q_543 sA_g) (sA_g h (ne0 r_521 o_q_543 (by decide))).2.1
  have zP : ZC (sA (sF g_542 h 41 (.ref q_520)) q_543 87 24) q_23 := zP.pu (sA_g q_23 (ne0 r_523 o_q_543 (by decide))).2.2.2.1
  have zN : ZC (sA (sF g_542 h 41 (.ref q_520)) q_543 87 24) q_500 := zN.pu (sA_g q_500 (ne0 r_525 o_q_543 (by decide))).2.2.2.1
  have r_544 : (sA (sF g_542 h 41 (.ref q_520)) q_543 87 24).1 h = 18 := ((sA_g h (ne0 r_521 o_q_543 (by decide))).1.trans r_521)
  have r_545 : (sA (sF g_542 h 41 (.ref q_520)) q_543 87 24).1 q_12 = 71 := ((sA_g q_12 (ne0 r_522 o_q_543 (by decide))).1.trans r_522)
  have r_546 : (sA (sF g_542 h 41 (.ref q_520)) q_543 87 24).1 q_23 = 72 := ((sA_g q_23 (ne0 r_523 o_q_543 (by decide))).1.trans r_523)
  have r_547 : (sA (sF g_542 h 41 (.ref q_520)) q_543 87 24).1 q_483 = 84 := ((sA_g q_483 (ne0 r_524 o_q_543 (by decide))).1.trans r_524)
  have r_548 : (sA (sF g_542 h 41 (.ref q_520)) q_543 87 24).1 q_500 = 85 := ((sA_g q_500 (ne0 r_525 o_q_543 (by decide))).1.trans r_525)
  have r_549 : (sA (sF g_542 h 41 (.ref q_520)) q_543 87 24).1 q_543 = 87 := sA_r
  have n_550 : (sA (sF g_542 h 41 (.ref q_520)) q_543 87 24).2.2.1 q_12 = 48 := ((sA_g q_12 (ne0 r_522 o_q_543 (by decide))).2.2.1.trans n_527)
  have n_551 : (sA (sF g_542 h 41 (.ref q_520)) q_543 87 24).2.2.1 q_23 = 48 := ((sA_g q_23 (ne0 r_523 o_q_543 (by decide))).2.2.1.trans n_528)
  have n_552 : (sA (sF g_542 h 41 (.ref q_520)) q_543 87 24).2.2.1 q_483 = 8 := ((sA_g q_483 (ne0 r_524 o_q_543 (by decide))).2.2.1.trans n_529)
  have n_553 : (sA (sF g_542 h 41 (.ref q_520)) q_543 87 24).2.2.1 q_500 = 8 := ((sA_g q_500 (ne0 r_525 o_q_543 (by decide))).2.2.1.trans n_530)
  have n_554 : (sA (sF g_542 h 41 (.ref q_520)) q_543 87 24).2.2.1 q_543 = 24 := sA_n
  have kn_555 : (sA (sF g_542 h 41 (.ref q_520)) q_543 87 24).2.1 h 0 = .int 0 := ((congrFun (sA_g h (ne0 r_521 o_q_543 (by decide))).2.1 0).trans (sF_k kn_532 (by decide)))
  have kn_556 : (sA (sF g_542 h 41 (.ref q_520)) q_543 87 24).2.1 h 22 = .int 0 := ((congrFun (sA_g h (ne0 r_521 o_q_543 (by decide))).2.1 22).trans (sF_k kn_533 (by decide)))
  have kn_557 : (sA (sF g_542 h 41 (.ref q_520)) q_543 87 24).2.1 h 24 = .int 0 := ((congrFun (sA_g h (ne0 r_521 o_q_543 (by decide))).2.1 24).trans (sF_k kn_534 (by decide)))
  have kn_558 : (sA (sF g_542 h 41 (.ref q_520)) q_543 87 24).2.1 h 29 = .int 0 := ((congrFun (sA_g h (ne0 r_521 o_q_543 (by decide))).2.1 29).trans (sF_k kn_535 (by decide)))
  have kn_559 : (sA (sF g_542 h 41 (.ref q_520)) q_543 87 24).2.1 h 30 = .int 0 := ((congrFun (sA_g h (ne0 r_521 o_q_543 (by decide))).2.1 30).trans (sF_k kn_536 (by decide)))
  have kn_560 : (sA (sF g_542 h 41 (.ref q_520)) q_543 87 24).2.1 h 34 = .int 0 := ((congrFun (sA_g h (ne0 r_521 o_q_543 (by decide))).2.1 34).trans (sF_k kn_537 (by decide)))
  have kn_561 : (sA (sF g_542 h 41 (.ref q_520)) q_543 87 24).2.1 h 2 = .ref q_12 := ((congrFun (sA_g h (ne0 r_521 o_q_543 (by decide))).2.1 2).trans (sF_k kn_538 (by decide)))
  have kn_562 : (sA (sF g_542 h 41 (.ref q_520)) q_543 87 24).2.1 h 3 = .ref q_23 := ((congrFun (sA_g h (ne0 r_521 o_q_543 (by decide))).2.1 3).trans (sF_k kn_539 (by decide)))
  have kn_563 : (sA (sF g_542 h 41 (.ref q_520)) q_543 87 24).2.1 h 39 = .ref q_483 := ((congrFun (sA_g h (ne0 r_521 o_q_543 (by decide))).2.1 39).trans (sF_k kn_540 (by decide)))
  have kn_564 : (sA (sF g_542 h 41 (.ref q_520)) q_543 87 24).2.1 h 40 = .ref q_500 := ((congrFun (sA_g h (ne0 r_521 o_q_543 (by decide))).2.1 40).trans (sF_k kn_541 (by decide)))
  generalize (sA (sF g_542 h 41 (.ref q_520)) q_543 87 24) = g_565 at hT hI hM hE r_544 r_545 r_546 r_547 r_548 r_549 n_550 n_551 n_552 n_553 n_554 kn_555 kn_556 kn_557 kn_558 kn_559 kn_560 kn_561 kn_562 kn_563 kn_564 hP zP zN
  clear kn_532 kn_533 kn_534 kn_535 kn_536 kn_537 kn_538 kn_539 kn_540 kn_541 n_527 n_528 n_529 n_530 r_521 r_522 r_523 r_524 r_525
  refine W.widen (k := 33) (n := 1598) (Nat.le_of_ble_eq_true rfl) (Nat.le_of_ble_eq_true rfl) ?_
  refine lv_dup hx hb dX7_init_283 rfl ?_
  refine lv_iconst (v := 0) hx hb dX7_init_284 (by decide) ?_
  refine lv_bipush (v := 115) hx hb dX7_init_285 (by decide) ?_
  have i_566 : vp_in (0 : Int32) 24 := (by unfold vp_in; decide)
  refine t_iast hB hT (ro_in r_549 (by decide)) n_554 i_566 dX7_init_287 (fun H locs hT => ?_)
  replace hI : Inv (sC g_565 q_543 (0 : Int32).toNatClampNeg (115 : Int32)) := hI.sC (ck r_549 ⟨by decide, by decide⟩)
  replace hM : Sm md_k_Model g (sC g_565 q_543 (0 : Int32).toNatClampNeg (115 : Int32)) := hM.tr hE (Sm_sC (by rw [r_549]; rfl))
  replace hE : Ex g (sC g_565 q_543 (0 : Int32).toNatClampNeg (115 : Int32)) := hE
  replace hP : PF [41, 40, 39, 35, 33, 32, 31, 28, 27, 26, 25, 23, 20, 19, 18, 17, 16, 15, 14, 13, 12, 11, 10, 9, 8, 7, 6, 5, 4, 3, 2, 1, 60, 52, 51, 50, 49, 38, 37, 36, 34, 30, 29, 24, 22, 21, 0] (sC g_565 q_543 (0 : Int32).toNatClampNeg (115 : Int32)) h := hP.tC 
  have zP : ZC (sC g_565 q_543 (0 : Int32).toNatClampNeg (115 : Int32)) q_23 := zP.tC (ro_ne r_546 r_549 (by decide))
  have zN : ZC (sC g_565 q_543 (0 : Int32).toNatClampNeg (115 : Int32)) q_500 := zN.tC (ro_ne r_548 r_549 (by decide))
  refine lv_dup hx hb dX7_init_288 rfl ?_
  refine lv_iconst (v := 1) hx hb dX7_init_289 (by decide) ?_
  refine lv_bipush (v := 101) hx hb dX7_init_290 (by decide) ?_
  have i_567 : vp_in (1 : Int32) 24 := (by unfold vp_in; decide)
  refine t_iast hB hT (ro_in r_549 (by decide)) n_554 i_567 dX7_init_292 (fun H locs hT => ?_)
  replace hI : Inv (sC (sC g_565 q_543 (0 : Int32).toNatClampNeg (115 : Int32)) q_543 (1 : Int32).toNatClampNeg (101 : Int32)) := hI.sC (ck r_549 ⟨by decide, by decide⟩)
  replace hM : Sm md_k_Model g (sC (sC g_565 q_543 (0 : Int32).toNatClampNeg (115 : Int32)) q_543 (1 : Int32).toNatClampNeg (101 : Int32)) := hM.tr hE (Sm_sC (by rw [r_549]; rfl))
  replace hE : Ex g (sC (sC g_565 q_543 (0 : Int32).toNatClampNeg (115 : Int32)) q_543 (1 : Int32).toNatClampNeg (101 : Int32)) := hE
  replace hP : PF [41, 40, 39, 35, 33, 32, 31, 28, 27, 26, 25, 23, 20, 19, 18, 17, 16, 15, 14, 13, 12, 11, 10, 9, 8, 7, 6, 5, 4, 3, 2, 1, 60, 52, 51, 50, 49, 38, 37, 36, 34, 30, 29, 24, 22, 21, 0] (sC (sC g_565 q_543 (0 : Int32).toNatClampNeg (115 : Int32)) q_543 (1 : Int32).toNatClampNeg (101 : Int32)) h := hP.tC 
  have zP : ZC (sC (sC g_565 q_543 (0 : Int32).toNatClampNeg (115 : Int32)) q_543 (1 : Int32).toNatClampNeg (101 : Int32)) q_23 := zP.tC (ro_ne r_546 r_549 (by decide))
  have zN : ZC (sC (sC g_565 q_543 (0 : Int32).toNatClampNeg (115 : Int32)) q_543 (1 : Int32).toNatClampNeg (101 : Int32)) q_500 := zN.tC (ro_ne r_548 r_549 (by decide))
  refine lv_dup hx hb dX7_init_293 rfl ?_
  refine lv_iconst (v := 2) hx hb dX7_init_294 (by decide) ?_
  refine lv_bipush (v := 116) hx hb dX7_init_295 (by decide) ?_
  have i_568 : vp_in (2 : Int32) 24 := (by unfold vp_in; decide)
  refine t_iast hB hT (ro_in r_549 (by decide)) n_554 i_568 dX7_init_297 (fun H locs hT => ?_)
  replace hI : Inv (sC (sC (sC g_565 q_543 (0 : Int32).toNatClampNeg (115 : Int32)) q_543 (1 : Int32).toNatClampNeg (101 : Int32)) q_543 (2 : Int32).toNatClampNeg (116 : Int32)) := hI.sC (ck r_549 ⟨by decide, by decide⟩)
  replace hM : Sm md_k_Model g (sC (sC (sC g_565 q_543 (0 : Int32).toNatClampNeg (115 : Int32)) q_543 (1 : Int32).toNatClampNeg (101 : Int32)) q_543 (2 : Int32).toNatClampNeg (116 : Int32)) := hM.tr hE (Sm_sC (by rw [r_549]; rfl))
  replace hE : Ex g (sC (sC (sC g_565 q_543 (0 : Int32).toNatClampNeg (115 : Int32)) q_543 (1 : Int32).toNatClampNeg (101 : Int32)) q_543 (2 : Int32).toNatClampNeg (116 : Int32)) := hE
  replace hP : PF [41, 40, 39, 35, 33, 32, 31, 28, 27, 26, 25, 23, 20, 19, 18, 17, 16, 15, 14, 13, 12, 11, 10, 9, 8, 7, 6, 5, 4, 3, 2, 1, 60, 52, 51, 50, 49, 38, 37, 36, 34, 30, 29, 24, 22, 21, 0] (sC (sC (sC g_565 q_543 (0 : Int32).toNatClampNeg (115 : Int32)) q_543 (1 : Int32).toNatClampNeg (101 : Int32)) q_543 (2 : Int32).toNatClampNeg (116 : Int32)) h := hP.tC 
  have zP : ZC (sC (sC (sC g_565 q_543 (0 : Int32).toNatClampNeg (115 : Int32)) q_543 (1 : Int32).toNatClampNeg (101 : Int32)) q_543 (2 : Int32).toNatClampNeg (116 : Int32)) q_23 := zP.tC (ro_ne r_546 r_549 (by decide))
  have zN : ZC (sC (sC (sC g_565 q_543 (0 : Int32).toNatClampNeg (115 : Int32)) q_543 (1 : Int32).toNatClampNeg (101 : Int32)) q_543 (2 : Int32).toNatClampNeg (116 : Int32)) q_500 := zN.tC (ro_ne r_548 r_549 (by decide))
  refine lv_dup hx hb dX7_init_298 rfl ?_
  refine lv_iconst (v := 3) hx hb dX7_init_299 (by decide) ?_
  refine lv_bipush (v := 97) hx hb dX7_init_300 (by decide) ?_
  have i_569 : vp_in (3 : Int32) 24 := (by unfold vp_in; decide)
  refine t_iast hB hT (ro_in r_549 (by decide)) n_554 i_569 dX7_init_302 (fun H locs hT => ?_)
  replace hI : Inv (sC (sC (sC (sC g_565 q_543 (0 : Int32).toNatClampNeg (115 : Int32)) q_543 (1 : Int32).toNatClampNeg (101 : Int32)) q_543 (2 : Int32).toNatClampNeg (116 : Int32)) q_543 (3 : Int32).toNatClampNeg (97 : Int32)) := hI.sC (ck r_549 ⟨by decide, by decide⟩)
  replace hM : Sm md_k_Model g (sC (sC (sC (sC g_565 q_543 (0 : Int32).toNatClampNeg (115 : Int32)) q_543 (1 : Int32).toNatClampNeg (101 : Int32)) q_543 (2 : Int32).toNatClampNeg (116 : Int32)) q_543 (3 : Int32).toNatClampNeg (97 : Int32)) := hM.tr hE (Sm_sC (by rw [r_549]; rfl))
  replace hE : Ex g (sC (sC (sC (sC g_565 q_543 (0 : Int32).toNatClampNeg (115 : Int32)) q_543 (1 : Int32).toNatClampNeg (101 : Int32)) q_543 (2 : Int32).toNatClampNeg (116 : Int32)) q_543 (3 : Int32).toNatClampNeg (97 : Int32)) := hE
  replace hP : PF [41, 40, 39, 35, 33, 32, 31, 28, 27, 26, 25, 23, 20, 19, 18, 17, 16, 15, 14, 13, 12, 11, 10, 9, 8, 7, 6, 5, 4, 3, 2, 1, 60, 52, 51, 50, 49, 38, 37, 36, 34, 30, 29, 24, 22, 21, 0] (sC (sC (sC (sC g_565 q_543 (0 : Int32).toNatClampNeg (115 : Int32)) q_543 (1 : Int32).toNatClampNeg (101 : Int32)) q_543 (2 : Int32).toNatClampNeg (116 : Int32)) q_543 (3 : Int32).toNatClampNeg (97 : Int32)) h := hP.tC 
  have zP : ZC (sC (sC (sC (sC g_565 q_543 (0 : Int32).toNatClampNeg (115 : Int32)) q_543 (1 : Int32).toNatClampNeg (101 : Int32)) q_543 (2 : Int32).toNatClampNeg (116 : Int32)) q_543 (3 : Int32).toNatClampNeg (97 : Int32)) q_23 := zP.tC (ro_ne r_546 r_549 (by decide))
  have zN : ZC (sC (sC (sC (sC g_565 q_543 (0 : Int32).toNatClampNeg (115 : Int32)) q_543 (1 : Int32).toNatClampNeg (101 : Int32)) q_543 (2 : Int32).toNatClampNeg (116 : Int32)) q_543 (3 : Int32).toNatClampNeg (97 : Int32)) q_500 := zN.tC (ro_ne r_548 r_549 (by decide))
  refine lv_dup hx hb dX7_init_303 rfl ?_
  refine lv_iconst (v := 4) hx hb dX7_init_304 (by decide) ?_
  refine lv_bipush (v := 100) hx hb dX7_init_305 (by decide) ?_
  have i_570 : vp_in (4 : Int32) 24 := (by unfold vp_in; decide)
  refine t_iast hB hT (ro_in r_549 (by decide)) n_554 i_570 dX7_init_307 (fun H locs hT => ?_)
  replace hI : Inv (sC (sC (sC (sC (sC g_565 q_543 (0 : Int32).toNatClampNeg (115 : Int32)) q_543 (1 : Int32).toNatClampNeg (101 : Int32)) q_543 (2 : Int32).toNatClampNeg (116 : Int32)) q_543 (3 : Int32).toNatClampNeg (97 : Int32)) q_543 (4 : Int32).toNatClampNeg (100 : Int32)) := hI.sC (ck r_549 ⟨by decide, by decide⟩)
  replace hM : Sm md_k_Model g (sC (sC (sC (sC (sC g_565 q_543 (0 : Int32).toNatClampNeg (115 : Int32)) q_543 (1 : Int32).toNatClampNeg (101 : Int32)) q_543 (2 : Int32).toNatClampNeg (116 : Int32)) q_543 (3 : Int32).toNatClampNeg (97 : Int32)) q_543 (4 : Int32).toNatClampNeg (100 : Int32)) := hM.tr hE (Sm_sC (by rw [r_549]; rfl))
  replace hE : Ex g (sC (sC (sC (sC (sC g_565 q_543 (0 : Int32).toNatClampNeg (115 : Int32)) q_543 (1 : Int32).toNatClampNeg (101 : Int32)) q_543 (2 : Int32).toNatClampNeg (116 : Int32)) q_543 (3 : Int32).toNatClampNeg (97 : Int32)) q_543 (4 : Int32).toNatClampNeg (100 : Int32)) := hE
  replace hP : PF [41, 40, 39, 35, 33, 32, 31, 28, 27, 26, 25, 23, 20, 19, 18, 17, 16, 15, 14, 13, 12, 11, 10, 9, 8, 7, 6, 5, 4, 3, 2, 1, 60, 52, 51, 50, 49, 38, 37, 36, 34, 30, 29, 24, 22, 21, 0] (sC (sC (sC (sC (sC g_565 q_543 (0 : Int32).toNatClampNeg (115 : Int32)) q_543 (1 : Int32).toNatClampNeg (101 : Int32)) q_543 (2 : Int32).toNatClampNeg (116 : Int32)) q_543 (3 : Int32).toNatClampNeg (97 : Int32)) q_543 (4 : Int32).toNatClampNeg (100 : Int32)) h := hP.tC 
  have zP : ZC (sC (sC (sC (sC (sC g_565 q_543 (0 : Int32).toNatClampNeg (115 : Int32)) q_543 (1 : Int32).toNatClampNeg (101 : Int32)) q_543 (2 : Int32).toNatClampNeg (116 : Int32)) q_543 (3 : Int32).toNatClampNeg (97 : Int32)) q_543 (4 : Int32).toNatClampNeg (100 : Int32)) q_23 := zP.tC (ro_ne r_546 r_549 (by decide))
  have zN : ZC (sC (sC (sC (sC (sC g_565 q_543 (0 : Int32).toNatClampNeg (115 : Int32)) q_543 (1 : Int32).toNatClampNeg (101 : Int32)) q_543 (2 : Int32).toNatClampNeg (116 : Int32)) q_543 (3 : Int32).toNatClampNeg (97 : Int32)) q_543 (4 : Int32).toNatClampNeg (100 : Int32)) q_500 := zN.tC (ro_ne r_548 r_549 (by decide))
  refine lv_dup hx hb dX7_init_308 rfl ?_
  refine lv_iconst (v := 5) hx hb dX7_init_309 (by decide) ?_
  refine lv_bipush (v := 100) hx hb dX7_init_310 (by decide) ?_
  have i_571 : vp_in (5 : Int32) 24 := (by unfold vp_in; decide)
  refine t_iast hB hT (ro_in r_549 (by decide)) n_554 i_571 dX7_init_312 (fun H locs hT => ?_)
  replace hI : Inv (sC (sC (sC (sC (sC (sC g_565 q_543 (0 : Int32).toNatClampNeg (115 : Int32)) q_543 (1 : Int32).toNatClampNeg (101 : Int32)) q_543 (2 : Int32).toNatClampNeg (116 : Int32)) q_543 (3 : Int32).toNatClampNeg (97 : Int32)) q_543 (4 : Int32).toNatClampNeg (100 : Int32)) q_543 (5 : Int32).toNatClampNeg (100 : Int32)) := hI.sC (ck r_549 ⟨by decide, by decide⟩)
  replace hM : Sm md_k_Model g (sC (sC (sC (sC (sC (sC g_565 q_543 (0 : Int32).toNatClampNeg (115 : Int32)) q_543 (1 : Int32).toNatClampNeg (101 : Int32)) q_543 (2 : Int32).toNatClampNeg (116 : Int32)) q_543 (3 : Int32).toNatClampNeg (97 : Int32)) q_543 (4 : Int32).toNatClampNeg (100 : Int32)) q_543 (5 : Int32).toNatClampNeg (100 : Int32)) := hM.tr hE (Sm_sC (by rw [r_549]; rfl))
  replace hE : Ex g (sC (sC (sC (sC (sC (sC g_565 q_543 (0 : Int32).toNatClampNeg (115 : Int32)) q_543 (1 : Int32).toNatClampNeg (101 : Int32)) q_543 (2 : Int32).toNatClampNeg (116 : Int32)) q_543 (3 : Int32).toNatClampNeg (97 : Int32)) q_543 (4 : Int32).toNatClampNeg (100 : Int32)) q_543 (5 : Int32).toNatClampNeg (100 : Int32)) := hE
  replace hP : PF [41, 40, 39, 35, 33, 32, 31, 28, 27, 26, 25, 23, 20, 19, 18, 17, 16, 15, 14, 13, 12, 11, 10, 9, 8, 7, 6, 5, 4, 3, 2, 1, 60, 52, 51, 50, 49, 38, 37, 36, 34, 30, 29, 24, 22, 21, 0] (sC (sC (sC (sC (sC (sC g_565 q_543 (0 : Int32).toNatClampNeg (115 : Int32)) q_543 (1 : Int32).toNatClampNeg (101 : Int32)) q_543 (2 : Int32).toNatClampNeg (116 : Int32)) q_543 (3 : Int32).toNatClampNeg (97 : Int32)) q_543 (4 : Int32).toNatClampNeg (100 : Int32)) q_543 (5 : Int32).toNatClampNeg (100 : Int32)) h := hP.tC 
  have zP : ZC (sC (sC (sC (sC (sC (sC g_565 q_543 (0 : Int32).toNatClampNeg (115 : Int32)) q_543 (1 : Int32).toNatClampNeg (101 : Int32)) q_543 (2 : Int32).toNatClampNeg (116 : Int32)) q_543 (3 : Int32).toNatClampNeg (97 : Int32)) q_543 (4 : Int32).toNatClampNeg (100 : Int32)) q_543 (5 : Int32).toNatClampNeg (100 : Int32)) q_23 := zP.tC (ro_ne r_546 r_549 (by decide))
  have zN : ZC (sC (sC (sC (sC (sC (sC g_565 q_543 (0 : Int32).toNatClampNeg (115 : Int32)) q_543 (1 : Int32).toNatClampNeg (101 : Int32)) q_543 (2 : Int32).toNatClampNeg (116 : Int32)) q_543 (3 : Int32).toNatClampNeg (97 : Int32)) q_543 (4 : Int32).toNatClampNeg (100 : Int32)) q_543 (5 : Int32).toNatClampNeg (100 : Int32)) q_500 := zN.tC (ro_ne r_548 r_549 (by decide))
  refine lv_dup hx hb dX7_init_313 rfl ?_
  refine lv_bipush (v := 6) hx hb dX7_init_314 (by decide) ?_
  refine lv_bipush (v := 109) hx hb dX7_init_316 (by decide) ?_
  have i_572 : vp_in (6 : Int32) 24 := (by unfold vp_in; decide)
  refine t_iast hB hT (ro_in r_549 (by decide)) n_554 i_572 dX7_init_318 (fun H locs hT => ?_)
  replace hI : Inv (sC (sC (sC (sC (sC (sC (sC g_565 q_543 (0 : Int32).toNatClampNeg (115 : Int32)) q_543 (1 : Int32).toNatClampNeg (101 : Int32)) q_543 (2 : Int32).toNatClampNeg (116 : Int32)) q_543 (3 : Int32).toNatClampNeg (97 : Int32)) q_543 (4 : Int32).toNatClampNeg (100 : Int32)) q_543 (5 : Int32).toNatClampNeg (100 : Int32)) q_543 (6 : Int32).toNatClampNeg (109 : Int32)) := hI.sC (ck r_549 ⟨by decide, by decide⟩)
  replace hM : Sm md_k_Model g (sC (sC (sC (sC (sC (sC (sC g_565 q_543 (0 : Int32).toNatClampNeg (115 : Int32)) q_543 (1 : Int32).toNatClampNeg (101 : Int32)) q_543 (2 : Int32).toNatClampNeg (116 : Int32)) q_543 (3 : Int32).toNatClampNeg (97 : Int32)) q_543 (4 : Int32).toNatClampNeg (100 : Int32)) q_543 (5 : Int32).toNatClampNeg (100 : Int32)) q_543 (6 : Int32).toNatClampNeg (109 : Int32)) := hM.tr hE (Sm_sC (by rw [r_549]; rfl))
  replace hE : Ex g (sC (sC (sC (sC (sC (sC (sC g_565 q_543 (0 : Int32).toNatClampNeg (115 : Int32)) q_543 (1 : Int32).toNatClampNeg (101 : Int32)) q_543 (2 : Int32).toNatClampNeg (116 : Int32)) q_543 (3 : Int32).toNatClampNeg (97 : Int32)) q_543 (4 : Int32).toNatClampNeg (100 : Int32)) q_543 (5 : Int32).toNatClampNeg (100 : Int32)) q_543 (6 : Int32).toNatClampNeg (109 : Int32)) := hE
  replace hP : PF [41, 40, 39, 35, 33, 32, 31, 28, 27, 26, 25, 23, 20, 19, 18, 17, 16, 15, 14, 13, 12, 11, 10, 9, 8, 7, 6, 5, 4, 3, 2, 1, 60, 52, 51, 50, 49, 38, 37, 36, 34, 30, 29, 24, 22, 21, 0] (sC (sC (sC (sC (sC (sC (sC g_565 q_543 (0 : Int32).toNatClampNeg (115 : Int32)) q_543 (1 : Int32).toNatClampNeg (101 : Int32)) q_543 (2 : Int32).toNatClampNeg (116 : Int32)) q_543 (3 : Int32).toNatClampNeg (97 : Int32)) q_543 (4 : Int32).toNatClampNeg (100 : Int32)) q_543 (5 : Int32).toNatClampNeg (100 : Int32)) q_543 (6 : Int32).toNatClampNeg (109 : Int32)) h := hP.tC 
  have zP : ZC (sC (sC (sC (sC (sC (sC (sC g_565 q_543 (0 : Int32).toNatClampNeg (115 : Int32)) q_543 (1 : Int32).toNatClampNeg (101 : Int32)) q_543 (2 : Int32).toNatClampNeg (116 : Int32)) q_543 (3 : Int32).toNatClampNeg (97 : Int32)) q_543 (4 : Int32).toNatClampNeg (100 : Int32)) q_543 (5 : Int32).toNatClampNeg (100 : Int32)) q_543 (6 : Int32).toNatClampNeg (109 : Int32)) q_23 := zP.tC (ro_ne r_546 r_549 (by decide))
  have zN : ZC (sC (sC (sC (sC (sC (sC (sC g_565 q_543 (0 : Int32).toNatClampNeg (115 : Int32)) q_543 (1 : Int32).toNatClampNeg (101 : Int32)) q_543 (2 : Int32).toNatClampNeg (116 : Int32)) q_543 (3 : Int32).toNatClampNeg (97 : Int32)) q_543 (4 : Int32).toNatClampNeg (100 : Int32)) q_543 (5 : Int32).toNatClampNeg (100 : Int32)) q_543 (6 : Int32).toNatClampNeg (109 : Int32)) q_500 := zN.tC (ro_ne r_548 r_549 (by decide))
  refine lv_dup hx hb dX7_init_319 rfl ?_
  refine lv_bipush (v := 7) hx hb dX7_init_320 (by decide) ?_
  refine lv_bipush (v := 97) hx hb dX7_init_322 (by decide) ?_
  have i_573 : vp_in (7 : Int32) 24 := (by unfold vp_in; decide)
  refine t_iast hB hT (ro_in r_549 (by decide)) n_554 i_573 dX7_init_324 (fun H locs hT => ?_)
  replace hI : Inv (sC (sC (sC (sC (sC (sC (sC (sC g_565 q_543 (0 : Int32).toNatClampNeg (115 : Int32)) q_543 (1 : Int32).toNatClampNeg (101 : Int32)) q_543 (2 : Int32).toNatClampNeg (116 : Int32)) q_543 (3 : Int32).toNatClampNeg (97 : Int32)) q_543 (4 : Int32).toNatClampNeg (100 : Int32)) q_543 (5 : Int32).toNatClampNeg (100 : Int32)) q_543 (6 : Int32).toNatClampNeg (109 : Int32)) q_543 (7 : Int32).toNatClampNeg (97 : Int32)) := hI.sC (ck r_549 ⟨by decide, by decide⟩)
  replace hM : Sm md_k_Model g (sC (sC (sC (sC (sC (sC (sC (sC g_565 q_543 (0 : Int32).toNatClampNeg (115 : Int32)) q_543 (1 : Int32).toNatClampNeg (101 : Int32)) q_543 (2 : Int32).toNatClampNeg (116 : Int32)) q_543 (3 : Int32).toNatClampNeg (97 : Int32)) q_543 (4 : Int32).toNatClampNeg (100 : Int32)) q_543 (5 : Int32).toNatClampNeg (100 : Int32)) q_543 (6 : Int32).toNatClampNeg (109 : Int32)) q_543 (7 : Int32).toNatClampNeg (97 : Int32)) := hM.tr hE (Sm_sC (by rw [r_549]; rfl))
  replace hE : Ex g (sC (sC (sC (sC (sC (sC (sC (sC g_565 q_543 (0 : Int32).toNatClampNeg (115 : Int32)) q_543 (1 : Int32).toNatClampNeg (101 : Int32)) q_543 (2 : Int32).toNatClampNeg (116 : Int32)) q_543 (3 : Int32).toNatClampNeg (97 : Int32)) q_543 (4 : Int32).toNatClampNeg (100 : Int32)) q_543 (5 : Int32).toNatClampNeg (100 : Int32)) q_543 (6 : Int32).toNatClampNeg (109 : Int32)) q_543 (7 : Int32).toNatClampNeg (97 : Int32)) := hE
  replace hP : PF [41, 40, 39, 35, 33, 32, 31, 28, 27, 26, 25, 23, 20, 19, 18, 17, 16, 15, 14, 13, 12, 11, 10, 9, 8, 7, 6, 5, 4, 3, 2, 1, 60, 52, 51, 50, 49, 38, 37, 36, 34, 30, 29, 24, 22, 21, 0] (sC (sC (sC (sC (sC (sC (sC (sC g_565 q_543 (0 : Int32).toNatClampNeg (115 : Int32)) q_543 (1 : Int32).toNatClampNeg (101 : Int32)) q_543 (2 : Int32).toNatClampNeg (116 : Int32)) q_543 (3 : Int32).toNatClampNeg (97 : Int32)) q_543 (4 : Int32).toNatClampNeg (100 : Int32)) q_543 (5 : Int32).toNatClampNeg (100 : Int32)) q_543 (6 : Int32).toNatClampNeg (109 : Int32)) q_543 (7 : Int32).toNatClampNeg (97 : Int32)) h := hP.tC 
  have zP : ZC (sC (sC (sC (sC (sC (sC (sC (sC g_565 q_543 (0 : Int32).toNatClampNeg (115 : Int32)) q_543 (1 : Int32).toNatClampNeg (101 : Int32)) q_543 (2 : Int32).toNatClampNeg (116 : Int32)) q_543 (3 : Int32).toNatClampNeg (97 : Int32)) q_543 (4 : Int32).toNatClampNeg (100 : Int32)) q_543 (5 : Int32).toNatClampNeg (100 : Int32)) q_543 (6 : Int32).toNatClampNeg (109 : Int32)) q_543 (7 : Int32).toNatClampNeg (97 : Int32)) q_23 := zP.tC (ro_ne r_546 r_549 (by decide))
  have zN : ZC (sC (sC (sC (sC (sC (sC (sC (sC g_565 q_543 (0 : Int32).toNatClampNeg (115 : Int32)) q_543 (1 : Int32).toNatClampNeg (101 : Int32)) q_543 (2 : Int32).toNatClampNeg (116 : Int32)) q_543 (3 : Int32).toNatClampNeg (97 : Int32)) q_543 (4 : Int32).toNatClampNeg (100 : Int32)) q_543 (5 : Int32).toNatClampNeg (100 : Int32)) q_543 (6 : Int32).toNatClampNeg (109 : Int32)) q_543 (7 : Int32).toNatClampNeg (97 : Int32)) q_500 := zN.tC (ro_ne r_548 r_549 (by decide))
  have r_574 : (sC (sC (sC (sC (sC (sC (sC (sC g_565 q_543 (0 : Int32).toNatClampNeg (115 : Int32)) q_543 (1 : Int32).toNatClampNeg (101 : Int32)) q_543 (2 : Int32).toNatClampNeg (116 : Int32)) q_543 (3 : Int32).toNatClampNeg (97 : Int32)) q_543 (4 : Int32).toNatClampNeg (100 : Int32)) q_543 (5 : Int32).toNatClampNeg (100 : Int32)) q_543 (6 : Int32).toNatClampNeg (109 : Int32)) q_543 (7 : Int32).toNatClampNeg (97 : Int32)).1 h = 18 := r_544
  have r_575 : (sC (sC (sC (sC (sC (sC (sC (sC g_565 q_543 (0 : Int32).toNatClampNeg (115 : Int32)) q_543 (1 : Int32).toNatClampNeg (101 : Int32)) q_543 (2 : Int32).toNatClampNeg (116 : Int32)) q_543 (3 : Int32).toNatClampNeg (97 : Int32)) q_543 (4 : Int32).toNatClampNeg (100 : Int32)) q_543 (5 : Int32).toNatClampNeg (100 : Int32)) q_543 (6 : Int32).toNatClampNeg (109 : Int32)) q_543 (7 : Int32).toNatClampNeg (97 : Int32)).1 q_12 = 71 := r_545
  have r_576 : (sC (sC (sC (sC (sC (sC (sC (sC g_565 q_543 (0 : Int32).toNatClampNeg (115 : Int32)) q_543 (1 : Int32).toNatClampNeg (101 : Int32)) q_543 (2 : Int32).toNatClampNeg (116 : Int32)) q_543 (3 : Int32).toNatClampNeg (97 : Int32)) q_543 (4 : Int32).toNatClampNeg (100 : Int32)) q_543 (5 : Int32).toNatClampNeg (100 : Int32)) q_543 (6 : Int32).toNatClampNeg (109 : Int32)) q_543 (7 : Int32).toNatClampNeg (97 : Int32)).1 q_23 = 72 := r_546
  have r_577 : (sC (sC (sC (sC (sC (sC (sC (sC g_565 q_543 (0 : Int32).toNatClampNeg (115 : Int32)) q_543 (1 : Int32).toNatClampNeg (101 : Int32)) q_543 (2 : Int32).toNatClampNeg (116 : Int32)) q_543 (3 : Int32).toNatClampNeg (97 : Int32)) q_543 (4 : Int32).toNatClampNeg (100 : Int32)) q_543 (5 : Int32).toNatClampNeg (100 : Int32)) q_543 (6 : Int32).toNatClampNeg (109 : Int32)) q_543 (7 : Int32).toNatClampNeg (97 : Int32)).1 q_483 = 84 := r_547
  have r_578 : (sC (sC (sC (sC (sC (sC (sC (sC g_565 q_543 (0 : Int32).toNatClampNeg (115 : Int32)) q_543 (1 : Int32).toNatClampNeg (101 : Int32)) q_543 (2 : Int32).toNatClampNeg (116 : Int32)) q_543 (3 : Int32).toNatClampNeg (97 : Int32)) q_543 (4 : Int32).toNatClampNeg (100 : Int32)) q_543 (5 : Int32).toNatClampNeg (100 : Int32)) q_543 (6 : Int32).toNatClampNeg (109 : Int32)) q_543 (7 : Int32).toNatClampNeg (97 : Int32)).1 q_500 = 85 := r_548
  have r_579 : (sC (sC (sC (sC (sC (sC (sC (sC g_565 q_543 (0 : Int32).toNatClampNeg (115 : Int32)) q_543 (1 : Int32).toNatClampNeg (101 : Int32)) q_543 (2 : Int32).toNatClampNeg (116 : Int32)) q_543 (3 : Int32).toNatClampNeg (97 : Int32)) q_543 (4 : Int32).toNatClampNeg (100 : Int32)) q_543 (5 : Int32).toNatClampNeg (100 : Int32)) q_543 (6 : Int32).toNatClampNeg (109 : Int32)) q_543 (7 : Int32).toNatClampNeg (97 : Int32)).1 q_543 = 87 := r_549
  have n_580 : (sC (sC (sC (sC (sC (sC (sC (sC g_565 q_543 (0 : Int32).toNatClampNeg (115 : Int32)) q_543 (1 : Int32).toNatClampNeg (101 : Int32)) q_543 (2 : Int32).toNatClampNeg (116 : Int32)) q_543 (3 : Int32).toNatClampNeg (97 : Int32)) q_543 (4 : Int32).toNatClampNeg (100 : Int32)) q_543 (5 : Int32).toNatClampNeg (100 : Int32)) q_543 (6 : Int32).toNatClampNeg (109 : Int32)) q_543 (7 : Int32).toNatClampNeg (97 : Int32)).2.2.1 q_12 = 48 := n_550
  have n_581 : (sC (sC (sC (sC (sC (sC (sC (sC g_565 q_543 (0 : Int32).toNatClampNeg (115 : Int32)) q_543 (1 : Int32).toNatClampNeg (101 : Int32)) q_543 (2 : Int32).toNatClampNeg (116 : Int32)) q_543 (3 : Int32).toNatClampNeg (97 : Int32)) q_543 (4 : Int32).toNatClampNeg (100 : Int32)) q_543 (5 : Int32).toNatClampNeg (100 : Int32)) q_543 (6 : Int32).toNatClampNeg (109 : Int32)) q_543 (7 : Int32).toNatClampNeg (97 : Int32)).2.2.1 q_23 = 48 := n_551
  have n_582 : (sC (sC (sC (sC (sC (sC (sC (sC g_565 q_543 (0 : Int32).toNatClampNeg (115 : Int32)) q_543 (1 : Int32).toNatClampNeg (101 : Int32)) q_543 (2 : Int32).toNatClampNeg (116 : Int32)) q_543 (3 : Int32).toNatClampNeg (97 : Int32)) q_543 (4 : Int32).toNatClampNeg (100 : Int32)) q_543 (5 : Int32).toNatClampNeg (100 : Int32)) q_543 (6 : Int32).toNatClampNeg (109 : Int32)) q_543 (7 : Int32).toNatClampNeg (97 : Int32)).2.2.1 q_483 = 8 := n_552
  have n_583 : (sC (sC (sC (sC (sC (sC (sC (sC g_565 q_543 (0 : Int32).toNatClampNeg (115 : Int32)) q_543 (1 : Int32).toNatClampNeg (101 : Int32)) q_543 (2 : Int32).toNatClampNeg (116 : Int32)) q_543 (3 : Int32).toNatClampNeg (97 : Int32)) q_543 (4 : Int32).toNatClampNeg (100 : Int32)) q_543 (5 : Int32).toNatClampNeg (100 : Int32)) q_543 (6 : Int32).toNatClampNeg (109 : Int32)) q_543 (7 : Int32).toNatClampNeg (97 : Int32)).2.2.1 q_500 = 8 := n_553
  have n_584 : (sC (sC (sC (sC (sC (sC (sC (sC g_565 q_543 (0 : Int32).toNatClampNeg (115 : Int32)) q_543 (1 : Int32).toNatClampNeg (101 : Int32)) q_543 (2 : Int32).toNatClampNeg (116 : Int32)) q_543 (3 : Int32).toNatClampNeg (97 : Int32)) q_543 (4 : Int32).toNatClampNeg (100 : Int32)) q_543 (5 : Int32).toNatClampNeg (100 : Int32)) q_543 (6 : Int32).toNatClampNeg (109 : Int32)) q_543 (7 : Int32).toNatClampNeg (97 : Int32)).2.2.1 q_543 = 24 := n_554
  have kn_585 : (sC (sC (sC (sC (sC (sC (sC (sC g_565 q_543 (0 : Int32).toNatClampNeg (115 : Int32)) q_543 (1 : Int32).toNatClampNeg (101 : Int32)) q_543 (2 : Int32).toNatClampNeg (116 : Int32)) q_543 (3 : Int32).toNatClampNeg (97 : Int32)) q_543 (4 : Int32).toNatClampNeg (100 : Int32)) q_543 (5 : Int32).toNatClampNeg (100 : Int32)) q_543 (6 : Int32).toNatClampNeg (109 : Int32)) q_543 (7 : Int32).toNatClampNeg (97 : Int32)).2.1 h 0 = .int 0 := kn_555
  have kn_586 : (sC (sC (sC (sC (sC (sC (sC (sC g_565 q_543 (0 : Int32).toNatClampNeg (115 : Int32)) q_543 (1 : Int32).toNatClampNeg (101 : Int32)) q_543 (2 : Int32).toNatClampNeg (116 : Int32)) q_543 (3 : Int32).toNatClampNeg (97 : Int32)) q_543 (4 : Int32).toNatClampNeg (100 : Int32)) q_543 (5 : Int32).toNatClampNeg (100 : Int32)) q_543 (6 : Int32).toNatClampNeg (109 : Int32)) q_543 (7 : Int32).toNatClampNeg (97 : Int32)).2.1 h 22 = .int 0 := kn_556
  have kn_587 : (sC (sC (sC (sC (sC (sC (sC (sC g_565 q_543 (0 : Int32).toNatClampNeg (115 : Int32)) q_543 (1 : Int32).toNatClampNeg (101 : Int32)) q_543 (2 : Int32).toNatClampNeg (116 : Int32)) q_543 (3 : Int32).toNatClampNeg (97 : Int32)) q_543 (4 : Int32).toNatClampNeg (100 : Int32)) q_543 (5 : Int32).toNatClampNeg (100 : Int32)) q_543 (6 : Int32).toNatClampNeg (109 : Int32)) q_543 (7 : Int32).toNatClampNeg (97 : Int32)).2.1 h 24 = .int 0 := kn_557
  have kn_588 : (sC (sC (sC (sC (sC (sC (sC (sC g_565 q_543 (0 : Int32).toNatClampNeg (115 : Int32)) q_543 (1 : Int32).toNatClampNeg (101 : Int32)) q_543 (2 : Int32).toNatClampNeg (116 : Int32)) q_543 (3 : Int32).toNatClampNeg (97 : Int32)) q_543 (4 : Int32).toNatClampNeg (100 : Int32)) q_543 (5 : Int32).toNatClampNeg (100 : Int32)) q_543 (6 : Int32).toNatClampNeg (109 : Int32)) q_543 (7 : Int32).toNatClampNeg (97 : Int32)).2.1 h 29 = .int 0 := kn_558
  have kn_589 : (sC (sC (sC (sC (sC (sC (sC (sC g_565 q_543 (0 : Int32).toNatClampNeg (115 : Int32)) q_543 (1 : Int32).toNatClampNeg (101 : Int32)) q_543 (2 : Int32).toNatClampNeg (116 : Int32)) q_543 (3 : Int32).toNatClampNeg (97 : Int32)) q_543 (4 : Int32).toNatClampNeg (100 : Int32)) q_543 (5 : Int32).toNatClampNeg (100 : Int32)) q_543 (6 : Int32).toNatClampNeg (109 : Int32)) q_543 (7 : Int32).toNatClampNeg (97 : Int32)).2.1 h 30 = .int 0 := kn_559
  have kn_590 : (sC (sC (sC (sC (sC (sC (sC (sC g_565 q_543 (0 : Int32).toNatClampNeg (115 : Int32)) q_543 (1 : Int32).toNatClampNeg (101 : Int32)) q_543 (2 : Int32).toNatClampNeg (116 : Int32)) q_543 (3 : Int32).toNatClampNeg (97 : Int32)) q_543 (4 : Int32).toNatClampNeg (100 : Int32)) q_543 (5 : Int32).toNatClampNeg (100 : Int32)) q_543 (6 : Int32).toNatClampNeg (109 : Int32)) q_543 (7 : Int32).toNatClampNeg (97 : Int32)).2.1 h 34 = .int 0 := kn_560
  have kn_591 : (sC (sC (sC (sC (sC (sC (sC (sC g_565 q_543 (0 : Int32).toNatClampNeg (115 : Int32)) q_543 (1 : Int32).toNatClampNeg (101 : Int32)) q_543 (2 : Int32).toNatClampNeg (116 : Int32)) q_543 (3 : Int32).toNatClampNeg (97 : Int32)) q_543 (4 : Int32).toNatClampNeg (100 : Int32)) q_543 (5 : Int32).toNatClampNeg (100 : Int32)) q_543 (6 : Int32).toNatClampNeg (109 : Int32)) q_543 (7 : Int32).toNatClampNeg (97 : Int32)).2.1 h 2 = .ref q_12 := kn_561
  have kn_592 : (sC (sC (sC (sC (sC (sC (sC (sC g_565 q_543 (0 : Int32).toNatClampNeg (115 : Int32)) q_543 (1 : Int32).toNatClampNeg (101 : Int32)) q_543 (2 : Int32).toNatClampNeg (116 : Int32)) q_543 (3 : Int32).toNatClampNeg (97 : Int32)) q_543 (4 : Int32).toNatClampNeg (100 : Int32)) q_543 (5 : Int32).toNatClampNeg (100 : Int32)) q_543 (6 : Int32).toNatClampNeg (109 : Int32)) q_543 (7 : Int32).toNatClampNeg (97 : Int32)).2.1 h 3 = .ref q_23 := kn_562
  have kn_593 : (sC (sC (sC (sC (sC (sC (sC (sC g_565 q_543 (0 : Int32).toNatClampNeg (115 : Int32)) q_543 (1 : Int32).toNatClampNeg (101 : Int32)) q_543 (2 : Int32).toNatClampNeg (116 : Int32)) q_543 (3 : Int32).toNatClampNeg (97 : Int32)) q_543 (4 : Int32).toNatClampNeg (100 : Int32)) q_543 (5 : Int32).toNatClampNeg (100 : Int32)) q_543 (6 : Int32).toNatClampNeg (109 : Int32)) q_543 (7 : Int32).toNatClampNeg (97 : Int32)).2.1 h 39 = .ref q_483 := kn_563
  have kn_594 : (sC (sC (sC (sC (sC (sC (sC (sC g_565 q_543 (0 : Int32).toNatClampNeg (115 : Int32)) q_543 (1 : Int32).toNatClampNeg (101 : Int32)) q_543 (2 : Int32).toNatClampNeg (116 : Int32)) q_543 (3 : Int32).toNatClampNeg (97 : Int32)) q_543 (4 : Int32).toNatClampNeg (100 : Int32)) q_543 (5 : Int32).toNatClampNeg (100 : Int32)) q_543 (6 : Int32).toNatClampNeg (109 : Int32)) q_543 (7 : Int32).toNatClampNeg (97 : Int32)).2.1 h 40 = .ref q_500 := kn_564
  have kn_595 : (sC (sC (sC (sC (sC (sC (sC (sC g_565 q_543 (0 : Int32).toNatClampNeg (115 : Int32)) q_543 (1 : Int32).toNatClampNeg (101 : Int32)) q_543 (2 : Int32).toNatClampNeg (116 : Int32)) q_543 (3 : Int32).toNatClampNeg (97 : Int32)) q_543 (4 : Int32).toNatClampNeg (100 : Int32)) q_543 (5 : Int32).toNatClampNeg (100 : Int32)) q_543 (6 : Int32).toNatClampNeg (109 : Int32)) q_543 (7 : Int32).toNatClampNeg (97 : Int32)).2.2.2.1 q_543 (0 : Int32).toNatClampNeg = 115 := (sC_i (sC_i (sC_i (sC_i (sC_i (sC_i (sC_i sC_eq (by decide)) (by decide)) (by decide)) (by decide)) (by decide)) (by decide)) (by decide))
  have kn_596 : (sC (sC (sC (sC (sC (sC (sC (sC g_565 q_543 (0 : Int32).toNatClampNeg (115 : Int32)) q_543 (1 : Int32).toNatClampNeg (101 : Int32)) q_543 (2 : Int32).toNatClampNeg (116 : Int32)) q_543 (3 : Int32).toNatClampNeg (97 : Int32)) q_543 (4 : Int32).toNatClampNeg (100 : Int32)) q_543 (5 : Int32).toNatClampNeg (100 : Int32)) q_543 (6 : Int32).toNatClampNeg (109 : Int32)) q_543 (7 : Int32).toNatClampNeg (97 : Int32)).2.2.2.1 q_543 (1 : Int32).toNatClampNeg = 101 := (sC_i (sC_i (sC_i (sC_i (sC_i (sC_i sC_eq (by decide)) (by decide)) (by decide)) (by decide)) (by decide)) (by decide))
  have kn_597 : (sC (sC (sC (sC (sC (sC (sC (sC g_565 q_543 (0 : Int32).toNatClampNeg (115 : Int32)) q_543 (1 : Int32).toNatClampNeg (101 : Int32)) q_543 (2 : Int32).toNatClampNeg (116 : Int32)) q_543 (3 : Int32).toNatClampNeg (97 : Int32)) q_543 (4 : Int32).toNatClampNeg (100 : Int32)) q_543 (5 : Int32).toNatClampNeg (100 : Int32)) q_543 (6 : Int32).toNatClampNeg (109 : Int32)) q_543 (7 : Int32).toNatClampNeg (97 : Int32)).2.2.2.1 q_543 (2 : Int32).toNatClampNeg = 116 := (sC_i (sC_i (sC_i (sC_i (sC_i sC_eq (by decide)) (by decide)) (by decide)) (by decide)) (by decide))
  have kn_598 : (sC (sC (sC (sC (sC (sC (sC (sC g_565 q_543 (0 : Int32).toNatClampNeg (115 : Int32)) q_543 (1 : Int32).toNatClampNeg (101 : Int32)) q_543 (2 : Int32).toNatClampNeg (116 : Int32)) q_543 (3 : Int32).toNatClampNeg (97 : Int32)) q_543 (4 : Int32).toNatClampNeg (100 : Int32)) q_543 (5 : Int32).toNatClampNeg (100 : Int32)) q_543 (6 : Int32).toNatClampNeg (109 : Int32)) q_543 (7 : Int32).toNatClampNeg (97 : Int32)).2.2.2.1 q_543 (3 : Int32).toNatClampNeg = 97 := (sC_i (sC_i (sC_i (sC_i sC_eq (by decide)) (by decide)) (by decide)) (by decide))
  have kn_599 : (sC (sC (sC (sC (sC (sC (sC (sC g_565 q_543 (0 : Int32).toNatClampNeg (115 : Int32)) q_543 (1 : Int32).toNatClampNeg (101 : Int32)) q_543 (2 : Int32).toNatClampNeg (116 : Int32)) q_543 (3 : Int32).toNatClampNeg (97 : Int32)) q_543 (4 : Int32).toNatClampNeg (100 : Int32)) q_543 (5 : Int32).toNatClampNeg (100 : Int32)) q_543 (6 : Int32).toNatClampNeg (109 : Int32)) q_543 (7 : Int32).toNatClampNeg (97 : Int32)).2.2.2.1 q_543 (4 : Int32).toNatClampNeg = 100 := (sC_i (sC_i (sC_i sC_eq (by decide)) (by decide)) (by decide))
  have kn_600 : (sC (sC (sC (sC (sC (sC (sC (sC g_565 q_543 (0 : Int32).toNatClampNeg (115 : Int32)) q_543 (1 : Int32).toNatClampNeg (101 : Int32)) q_543 (2 : Int32).toNatClampNeg (116 : Int32)) q_543 (3 : Int32).toNatClampNeg (97 : Int32)) q_543 (4 : Int32).toNatClampNeg (100 : Int32)) q_543 (5 : Int32).toNatClampNeg (100 : Int32)) q_543 (6 : Int32).toNatClampNeg (109 : Int32)) q_543 (7 : Int32).toNatClampNeg (97 : Int32)).2.2.2.1 q_543 (5 : Int32).toNatClampNeg = 100 := (sC_i (sC_i sC_eq (by decide)) (by decide))
  have kn_601 : (sC (sC (sC (sC (sC (sC (sC (sC g_565 q_543 (0 : Int32).toNatClampNeg (115 : Int32)) q_543 (1 : Int32).toNatClampNeg (101 : Int32)) q_543 (2 : Int32).toNatClampNeg (116 : Int32)) q_543 (3 : Int32).toNatClampNeg (97 : Int32)) q_543 (4 : Int32).toNatClampNeg (100 : Int32)) q_543 (5 : Int32).toNatClampNeg (100 : Int32)) q_543 (6 : Int32).toNatClampNeg (109 : Int32)) q_543 (7 : Int32).toNatClampNeg (97 : Int32)).2.2.2.1 q_543 (6 : Int32).toNatClampNeg = 109 := (sC_i sC_eq (by decide))
  have kn_602 : (sC (sC (sC (sC (sC (sC (sC (sC g_565 q_543 (0 : Int32).toNatClampNeg (115 : Int32)) q_543 (1 : Int32).toNatClampNeg (101 : Int32)) q_543 (2 : Int32).toNatClampNeg (116 : Int32)) q_543 (3 : Int32).toNatClampNeg (97 : Int32)) q_543 (4 : Int32).toNatClampNeg (100 : Int32)) q_543 (5 : Int32).toNatClampNeg (100 : Int32)) q_543 (6 : Int32).toNatClampNeg (109 : Int32)) q_543 (7 : Int32).toNatClampNeg (97 : Int32)).2.2.2.1 q_543 (7 : Int32).toNatClampNeg = 97 := sC_eq
  generalize (sC (sC (sC (sC (sC (sC (sC (sC g_565 q_543 (0 : Int32).toNatClampNeg (115 : Int32)) q_543 (1 : Int32).toNatClampNeg (101 : Int32)) q_543 (2 : Int32).toNatClampNeg (116 : Int32)) q_543 (3 : Int32).toNatClampNeg (97 : Int32)) q_543 (4 : Int32).toNatClampNeg (100 : Int32)) q_543 (5 : Int32).toNatClampNeg (100 : Int32)) q_543 (6 : Int32).toNatClampNeg (109 : Int32)) q_543 (7 : Int32).toNatClampNeg (97 : Int32)) = g_603 at hT hI hM hE r_574 r_575 r_576 r_577 r_578 r_579 n_580 n_581 n_582 n_583 n_584 kn_585 kn_586 kn_587 kn_588 kn_589 kn_590 kn_591 kn_592 kn_593 kn_594 kn_595 kn_596 kn_597 kn_598 kn_599 kn_600 kn_601 kn_602 hP zP zN
  clear kn_555 kn_556 kn_557 kn_558 kn_559 kn_560 kn_561 kn_562 kn_563 kn_564 n_550 n_551 n_552 n_553 n_554 r_544 r_545 r_546 r_547 r_548 r_549
  refine lv_dup hx hb dX7_init_325 rfl ?_
  refine lv_bipush (v := 8) hx hb dX7_init_326 (by decide) ?_
  refine lv_bipush (v := 120) hx hb dX7_init_328 (by decide) ?_
  have i_604 : vp_in (8 : Int32) 24 := (by unfold vp_in; decide)
  refine t_iast hB hT (ro_in r_579 (by decide)) n_584 i_604 dX7_init_330 (fun H locs hT => ?_)
  replace hI : Inv (sC g_603 q_543 (8 : Int32).toNatClampNeg (120 : Int32)) := hI.sC (ck r_579 ⟨by decide, by decide⟩)
  replace hM : Sm md_k_Model g (sC g_603 q_543 (8 : Int32).toNatClampNeg (120 : Int32)) := hM.tr hE (Sm_sC (by rw [r_579]; rfl))
  replace hE : Ex g (sC g_603 q_543 (8 : Int32).toNatClampNeg (120 : Int32)) := hE
  replace hP : PF [41, 40, 39, 35, 33, 32, 31, 28, 27, 26, 25, 23, 20, 19, 18, 17, 16, 15, 14, 13, 12, 11, 10, 9, 8, 7, 6, 5, 4, 3, 2, 1, 60, 52, 51, 50, 49, 38, 37, 36, 34, 30, 29, 24, 22, 21, 0] (sC g_603 q_543 (8 : Int32).toNatClampNeg (120 : Int32)) h := hP.tC 
  have zP : ZC (sC g_603 q_543 (8 : Int32).toNatClampNeg (120 : Int32)) q_23 := zP.tC (ro_ne r_576 r_579 (by decide))
  have zN : ZC (sC g_603 q_543 (8 : Int32).toNatClampNeg (120 : Int32)) q_500 := zN.tC (ro_ne r_578 r_579 (by decide))
  refine lv_dup hx hb dX7_init_331 rfl ?_
  refine lv_bipush (v := 9) hx hb dX7_init_332 (by decide) ?_
  refine lv_bipush (v := 110) hx hb dX7_init_334 (by decide) ?_
  have i_605 : vp_in (9 : Int32) 24 := (by unfold vp_in; decide)
  refine t_iast hB hT (ro_in r_579 (by decide)) n_584 i_605 dX7_init_336 (fun H locs hT => ?_)
  replace hI : Inv (sC (sC g_603 q_543 (8 : Int32).toNatClampNeg (120 : Int32)) q_543 (9 : Int32).toNatClampNeg (110 : Int32)) := hI.sC (ck r_579 ⟨by decide, by decide⟩)
  replace hM : Sm md_k_Model g (sC (sC g_603 q_543 (8 : Int32).toNatClampNeg (120 : Int32)) q_543 (9 : Int32).toNatClampNeg (110 : Int32)) := hM.tr hE (Sm_sC (by rw [r_579]; rfl))
  replace hE : Ex g (sC (sC g_603 q_543 (8 : Int32).toNatClampNeg (120 : Int32)) q_543 (9 : Int32).toNatClampNeg (110 : Int32)) := hE
  replace hP : PF [41, 40, 39, 35, 33, 32, 31, 28, 27, 26, 25, 23, 20, 19, 18, 17, 16, 15, 14, 13, 12, 11, 10, 9, 8, 7, 6, 5, 4, 3, 2, 1, 60, 52, 51, 50, 49, 38, 37, 36, 34, 30, 29, 24, 22, 21, 0] (sC (sC g_603 q_543 (8 : Int32).toNatClampNeg (120 : Int32)) q_543 (9 : Int32).toNatClampNeg (110 : Int32)) h := hP.tC 
  have zP : ZC (sC (sC g_603 q_543 (8 : Int32).toNatClampNeg (120 : Int32)) q_543 (9 : Int32).toNatClampNeg (110 : Int32)) q_23 := zP.tC (ro_ne r_576 r_579 (by decide))
  have zN : ZC (sC (sC g_603 q_543 (8 : Int32).toNatClampNeg (120 : Int32)) q_543 (9 : Int32).toNatClampNeg (110 : Int32)) q_500 := zN.tC (ro_ne r_578 r_579 (by decide))
  refine lv_dup hx hb dX7_init_337 rfl ?_
  refine lv_bipush (v := 10) hx hb dX7_init_338 (by decide) ?_
  refine lv_bipush (v := 101) hx hb dX7_init_340 (by decide) ?_
  have i_606 : vp_in (10 : Int32) 24 := (by unfold vp_in; decide)
  refine t_iast hB hT (ro_in r_579 (by decide)) n_584 i_606 dX7_init_342 (fun H locs hT => ?_)
  replace hI : Inv (sC (sC (sC g_603 q_543 (8 : Int32).toNatClampNeg (120 : Int32)) q_543 (9 : Int32).toNatClampNeg (110 : Int32)) q_543 (10 : Int32).toNatClampNeg (101 : Int32)) := hI.sC (ck r_579 ⟨by decide, by decide⟩)
  replace hM : Sm md_k_Model g (sC (sC (sC g_603 q_543 (8 : Int32).toNatClampNeg (120 : Int32)) q_543 (9 : Int32).toNatClampNeg (110 : Int32)) q_543 (10 : Int32).toNatClampNeg (101 : Int32)) := hM.tr hE (Sm_sC (by rw [r_579]; rfl))
  replace hE : Ex g (sC (sC (sC g_603 q_543 (8 : Int32).toNatClampNeg (120 : Int32)) q_543 (9 : Int32).toNatClampNeg (110 : Int32)) q_543 (10 : Int32).toNatClampNeg (101 : Int32)) := hE
  replace hP : PF [41, 40, 39, 35, 33, 32, 31, 28, 27, 26, 25, 23, 20, 19, 18, 17, 16, 15, 14, 13, 12, 11, 10, 9, 8, 7, 6, 5, 4, 3, 2, 1, 60, 52, 51, 50, 49, 38, 37, 36, 34, 30, 29, 24, 22, 21, 0] (sC (sC (sC g_603 q_543 (8 : Int32).toNatClampNeg (120 : Int32)) q_543 (9 : Int32).toNatClampNeg (110 : Int32)) q_543 (10 : Int32).toNatClampNeg (101 : Int32)) h := hP.tC 
  have zP : ZC (sC (sC (sC g_603 q_543 (8 : Int32).toNatClampNeg (120 : Int32)) q_543 (9 : Int32).toNatClampNeg (110 : Int32)) q_543 (10 : Int32).toNatClampNeg (101 : Int32)) q_23 := zP.tC (ro_ne r_576 r_579 (by decide))
  have zN : ZC (sC (sC (sC g_603 q_543 (8 : Int32).toNatClampNeg (120 : Int32)) q_543 (9 : Int32).toNatClampNeg (110 : Int32)) q_543 (10 : Int32).toNatClampNeg (101 : Int32)) q_500 := zN.tC (ro_ne r_578 r_579 (by decide))
  refine lv_dup hx hb dX7_init_343 rfl ?_
  refine lv_bipush (v := 11) hx hb dX7_init_344 (by decide) ?_
  refine lv_bipush (v := 119) hx hb dX7_init_346 (by decide) ?_
  have i_607 : vp_in (11 : Int32) 24 := (by unfold vp_in; decide)
  refine t_iast hB hT (ro_in r_579 (by decide)) n_584 i_607 dX7_init_348 (fun H locs hT => ?_)
  replace hI : Inv (sC (sC (sC (sC g_603 q_543 (8 : Int32).toNatClampNeg (120 : Int32)) q_543 (9 : Int32).toNatClampNeg (110 : Int32)) q_543 (10 : Int32).toNatClampNeg (101 : Int32)) q_543 (11 : Int32).toNatClampNeg (119 : Int32)) := hI.sC (ck r_579 ⟨by decide, by decide⟩)
  replace hM : Sm md_k_Model g (sC (sC (sC (sC g_603 q_543 (8 : Int32).toNatClampNeg (120 : Int32)) q_543 (9 : Int32).toNatClampNeg (110 : Int32)) q_543 (10 : Int32).toNatClampNeg (101 : Int32)) q_543 (11 : Int32).toNatClampNeg (119 : Int32)) := hM.tr hE (Sm_sC (by rw [r_579]; rfl))
  replace hE : Ex g (sC (sC (sC (sC g_603 q_543 (8 : Int32).toNatClampNeg (120 : Int32)) q_543 (9 : Int32).toNatClampNeg (110 : Int32)) q_543 (10 : Int32).toNatClampNeg (101 : Int32)) q_543 (11 : Int32).toNatClampNeg (119 : Int32)) := hE
  replace hP : PF [41, 40, 39, 35, 33, 32, 31, 28, 27, 26, 25, 23, 20, 19, 18, 17, 16, 15, 14, 13, 12, 11, 10, 9, 8, 7, 6, 5, 4, 3, 2, 1, 60, 52, 51, 50, 49, 38, 37, 36, 34, 30, 29, 24, 22, 21, 0] (sC (sC (sC (sC g_603 q_543 (8 : Int32).toNatClampNeg (120 : Int32)) q_543 (9 : Int32).toNatClampNeg (110 : Int32)) q_543 (10 : Int32).toNatClampNeg (101 : Int32)) q_543 (11 : Int32).toNatClampNeg (119 : Int32)) h := hP.tC 
  have zP : ZC (sC (sC (sC (sC g_603 q_543 (8 : Int32).toNatClampNeg (120 : Int32)) q_543 (9 : Int32).toNatClampNeg (110 : Int32)) q_543 (10 : Int32).toNatClampNeg (101 : Int32)) q_543 (11 : Int32).toNatClampNeg (119 : Int32)) q_23 := zP.tC (ro_ne r_576 r_579 (by decide))
  have zN : ZC (sC (sC (sC (sC g_603 q_543 (8 : Int32).toNatClampNeg (120 : Int32)) q_543 (9 : Int32).toNatClampNeg (110 : Int32)) q_543 (10 : Int32).toNatClampNeg (101 : Int32)) q_543 (11 : Int32).toNatClampNeg (119 : Int32)) q_500 := zN.tC (ro_ne r_578 r_579 (by decide))
  refine lv_dup hx hb dX7_init_349 rfl ?_
  refine lv_bipush (v := 12) hx hb dX7_init_350 (by decide) ?_
  refine lv_bipush (v := 103) hx hb dX7_init_352 (by decide) ?_
  have i_608 : vp_in (12 : Int32) 24 := (by unfold vp_in; decide)
  refine t_iast hB hT (ro_in r_579 (by decide)) n_584 i_608 dX7_init_354 (fun H locs hT => ?_)
  replace hI : Inv (sC (sC (sC (sC (sC g_603 q_543 (8 : Int32).toNatClampNeg (120 : Int32)) q_543 (9 : Int32).toNatClampNeg (110 : Int32)) q_543 (10 : Int32).toNatClampNeg (101 : Int32)) q_543 (11 : Int32).toNatClampNeg (119 : Int32)) q_543 (12 : Int32).toNatClampNeg (103 : Int32)) := hI.sC (ck r_579 ⟨by decide, by decide⟩)
  replace hM : Sm md_k_Model g (sC (sC (sC (sC (sC g_603 q_543 (8 : Int32).toNatClampNeg (120 : Int32)) q_543 (9 : Int32).toNatClampNeg (110 : Int32)) q_543 (10 : Int32).toNatClampNeg (101 : Int32)) q_543 (11 : Int32).toNatClampNeg (119 : Int32)) q_543 (12 : Int32).toNatClampNeg (103 : Int32)) := hM.tr hE (Sm_sC (by rw [r_579]; rfl))
  replace hE : Ex g (sC (sC (sC (sC (sC g_603 q_543 (8 : Int32).toNatClampNeg (120 : Int32)) q_543 (9 : Int32).toNatClampNeg (110 : Int32)) q_543 (10 : Int32).toNatClampNeg (101 : Int32)) q_543 (11 : Int32).toNatClampNeg (119 : Int32)) q_543 (12 : Int32).toNatClampNeg (103 : Int32)) := hE
  replace hP : PF [41, 40, 39, 35, 33, 32, 31, 28, 27, 26, 25, 23, 20, 19, 18, 17, 16, 15, 14, 13, 12, 11, 10, 9, 8, 7, 6, 5, 4, 3, 2, 1, 60, 52, 51, 50, 49, 38, 37, 36, 34, 30, 29, 24, 22, 21, 0] (sC (sC (sC (sC (sC g_603 q_543 (8 : Int32).toNatClampNeg (120 : Int32)) q_543 (9 : Int32).toNatClampNeg (110 : Int32)) q_543 (10 : Int32).toNatClampNeg (101 : Int32)) q_543 (11 : Int32).toNatClampNeg (119 : Int32)) q_543 (12 : Int32).toNatClampNeg (103 : Int32)) h := hP.tC 
  have zP : ZC (sC (sC (sC (sC (sC g_603 q_543 (8 : Int32).toNatClampNeg (120 : Int32)) q_543 (9 : Int32).toNatClampNeg (110 : Int32)) q_543 (10 : Int32).toNatClampNeg (101 : Int32)) q_543 (11 : Int32).toNatClampNeg (119 : Int32)) q_543 (12 : Int32).toNatClampNeg (103 : Int32)) q_23 := zP.tC (ro_ne r_576 r_579 (by decide))
  have zN : ZC (sC (sC (sC (sC (sC g_603 q_543 (8 : Int32).toNatClampNeg (120 : Int32)) q_543 (9 : Int32).toNatClampNeg (110 : Int32)) q_543 (10 : Int32).toNatClampNeg (101 : Int32)) q_543 (11 : Int32).toNatClampNeg (119 : Int32)) q_543 (12 : Int32).toNatClampNeg (103 : Int32)) q_500 := zN.tC (ro_ne r_578 r_579 (by decide))
  refine lv_dup hx hb dX7_init_355 rfl ?_
  refine lv_bipush (v := 13) hx hb dX7_init_356 (by decide) ?_
  refine lv_bipush (v := 101) hx hb dX7_init_358 (by decide) ?_
  have i_609 : vp_in (13 : Int32) 24 := (by unfold vp_in; decide)
  refine t_iast hB hT (ro_in r_579 (by decide)) n_584 i_609 dX7_init_360 (fun H locs hT => ?_)
  replace hI : Inv (sC (sC (sC (sC (sC (sC g_603 q_543 (8 : Int32).toNatClampNeg (120 : Int32)) q_543 (9 : Int32).toNatClampNeg (110 : Int32)) q_543 (10 : Int32).toNatClampNeg (101 : Int32)) q_543 (11 : Int32).toNatClampNeg (119 : Int32)) q_543 (12 : Int32).toNatClampNeg (103 : Int32)) q_543 (13 : Int32).toNatClampNeg (101 : Int32)) := hI.sC (ck r_579 ⟨by decide, by decide⟩)
  replace hM : Sm md_k_Model g (sC (sC (sC (sC (sC (sC g_603 q_543 (8 : Int32).toNatClampNeg (120 : Int32)) q_543 (9 : Int32).toNatClampNeg (110 : Int32)) q_543 (10 : Int32).toNatClampNeg (101 : Int32)) q_543 (11 : Int32).toNatClampNeg (119 : Int32)) q_543 (12 : Int32).toNatClampNeg (103 : Int32)) q_543 (13 : Int32).toNatClampNeg (101 : Int32)) := hM.tr hE (Sm_sC (by rw [r_579]; rfl))
  replace hE : Ex g (sC (sC (sC (sC (sC (sC g_603 q_543 (8 : Int32).toNatClampNeg (120 : Int32)) q_543 (9 : Int32).toNatClampNeg (110 : Int32)) q_543 (10 : Int32).toNatClampNeg (101 : Int32)) q_543 (11 : Int32).toNatClampNeg (119 : Int32)) q_543 (12 : Int32).toNatClampNeg (103 : Int32)) q_543 (13 : Int32).toNatClampNeg (101 : Int32)) := hE
  replace hP : PF [41, 40, 39, 35, 33, 32, 31, 28, 27, 26, 25, 23, 20, 19, 18, 17, 16, 15, 14, 13, 12, 11, 10, 9, 8, 7, 6, 5, 4, 3, 2, 1, 60, 52, 51, 50, 49, 38, 37, 36, 34, 30, 29, 24, 22, 21, 0] (sC (sC (sC (sC (sC (sC g_603 q_543 (8 : Int32).toNatClampNeg (120 : Int32)) q_543 (9 : Int32).toNatClampNeg (110 : Int32)) q_543 (10 : Int32).toNatClampNeg (101 : Int32)) q_543 (11 : Int32).toNatClampNeg (119 : Int32)) q_543 (12 : Int32).toNatClampNeg (103 : Int32)) q_543 (13 : Int32).toNatClampNeg (101 : Int32)) h := hP.tC 
  have zP : ZC (sC (sC (sC (sC (sC (sC g_603 q_543 (8 : Int32).toNatClampNeg (120 : Int32)) q_543 (9 : Int32).toNatClampNeg (110 : Int32)) q_543 (10 : Int32).toNatClampNeg (101 : Int32)) q_543 (11 : Int32).toNatClampNeg (119 : Int32)) q_543 (12 : Int32).toNatClampNeg (103 : Int32)) q_543 (13 : Int32).toNatClampNeg (101 : Int32)) q_23 := zP.tC (ro_ne r_576 r_579 (by decide))
  have zN : ZC (sC (sC (sC (sC (sC (sC g_603 q_543 (8 : Int32).toNatClampNeg (120 : Int32)) q_543 (9 : Int32).toNatClampNeg (110 : Int32)) q_543 (10 : Int32).toNatClampNeg (101 : Int32)) q_543 (11 : Int32).toNatClampNeg (119 : Int32)) q_543 (12 : Int32).toNatClampNeg (103 : Int32)) q_543 (13 : Int32).toNatClampNeg (101 : Int32)) q_500 := zN.tC (ro_ne r_578 r_579 (by decide))
  refine lv_dup hx hb dX7_init_361 rfl ?_
  refine lv_bipush (v := 14) hx hb dX7_init_362 (by decide) ?_
  refine lv_bipush (v := 116) hx hb dX7_init_364 (by decide) ?_
  have i_610 : vp_in (14 : Int32) 24 := (by unfold vp_in; decide)
  refine t_iast hB hT (ro_in r_579 (by decide)) n_584 i_610 dX7_init_366 (fun H locs hT => ?_)
  replace hI : Inv (sC (sC (sC (sC (sC (sC (sC g_603 q_543 (8 : Int32).toNatClampNeg (120 : Int32)) q_543 (9 : Int32).toNatClampNeg (110 : Int32)) q_543 (10 : Int32).toNatClampNeg (101 : Int32)) q_543 (11 : Int32).toNatClampNeg (119 : Int32)) q_543 (12 : Int32).toNatClampNeg (103 : Int32)) q_543 (13 : Int32).toNatClampNeg (101 : Int32)) q_543 (14 : Int32).toNatClampNeg (116 : Int32)) := hI.sC (ck r_579 ⟨by decide, by decide⟩)
  replace hM : Sm md_k_Model g (sC (sC (sC (sC (sC (sC (sC g_603 q_543 (8 : Int32).toNatClampNeg (120 : Int32)) q_543 (9 : Int32).toNatClampNeg (110 : Int32)) q_543 (10 : Int32).toNatClampNeg (101 : Int32)) q_543 (11 : Int32).toNatClampNeg (119 : Int32)) q_543 (12 : Int32).toNatClampNeg (103 : Int32)) q_543 (13 : Int32).toNatClampNeg (101 : Int32)) q_543 (14 : Int32).toNatClampNeg (116 : Int32)) := hM.tr hE (Sm_sC (by rw [r_579]; rfl))
  replace hE : Ex g (sC (sC (sC (sC (sC (sC (sC g_603 q_543 (8 : Int32).toNatClampNeg (120 : Int32)) q_543 (9 : Int32).toNatClampNeg (110 : Int32)) q_543 (10 : Int32).toNatClampNeg (101 : Int32)) q_543 (11 : Int32).toNatClampNeg (119 : Int32)) q_543 (12 : Int32).toNatClampNeg (103 : Int32)) q_543 (13 : Int32).toNatClampNeg (101 : Int32)) q_543 (14 : Int32).toNatClampNeg (116 : Int32)) := hE
  replace hP : PF [41, 40, 39, 35, 33, 32, 31, 28, 27, 26, 25, 23, 20, 19, 18, 17, 16, 15, 14, 13, 12, 11, 10, 9, 8, 7, 6, 5, 4, 3, 2, 1, 60, 52, 51, 50, 49, 38, 37, 36, 34, 30, 29, 24, 22, 21, 0] (sC (sC (sC (sC (sC (sC (sC g_603 q_543 (8 : Int32).toNatClampNeg (120 : Int32)) q_543 (9 : Int32).toNatClampNeg (110 : Int32)) q_543 (10 : Int32).toNatClampNeg (101 : Int32)) q_543 (11 : Int32).toNatClampNeg (119 : Int32)) q_543 (12 : Int32).toNatClampNeg (103 : Int32)) q_543 (13 : Int32).toNatClampNeg (101 : Int32)) q_543 (14 : Int32).toNatClampNeg (116 : Int32)) h := hP.tC 
  have zP : ZC (sC (sC (sC (sC (sC (sC (sC g_603 q_543 (8 : Int32).toNatClampNeg (120 : Int32)) q_543 (9 : Int32).toNatClampNeg (110 : Int32)) q_543 (10 : Int32).toNatClampNeg (101 : Int32)) q_543 (11 : Int32).toNatClampNeg (119 : Int32)) q_543 (12 : Int32).toNatClampNeg (103 : Int32)) q_543 (13 : Int32).toNatClampNeg (101 : Int32)) q_543 (14 : Int32).toNatClampNeg (116 : Int32)) q_23 := zP.tC (ro_ne r_576 r_579 (by decide))
  have zN : ZC (sC (sC (sC (sC (sC (sC (sC g_603 q_543 (8 : Int32).toNatClampNeg (120 : Int32)) q_543 (9 : Int32).toNatClampNeg (110 : Int32)) q_543 (10 : Int32).toNatClampNeg (101 : Int32)) q_543 (11 : Int32).toNatClampNeg (119 : Int32)) q_543 (12 : Int32).toNatClampNeg (103 : Int32)) q_543 (13 : Int32).toNatClampNeg (101 : Int32)) q_543 (14 : Int32).toNatClampNeg (116 : Int32)) q_500 := zN.tC (ro_ne r_578 r_579 (by decide))
  refine lv_dup hx hb dX7_init_367 rfl ?_
  refine lv_bipush (v := 15) hx hb dX7_init_368 (by decide) ?_
  refine lv_bipush (v := 97) hx hb dX7_init_370 (by decide) ?_
  have i_611 : vp_in (15 : Int32) 24 := (by unfold vp_in; decide)
  refine t_iast hB hT (ro_in r_579 (by decide)) n_584 i_611 dX7_init_372 (fun H locs hT => ?_)
  replace hI : Inv (sC (sC (sC (sC (sC (sC (sC (sC g_603 q_543 (8 : Int32).toNatClampNeg (120 : Int32)) q_543 (9 : Int32).toNatClampNeg (110 : Int32)) q_543 (10 : Int32).toNatClampNeg (101 : Int32)) q_543 (11 : Int32).toNatClampNeg (119 : Int32)) q_543 (12 : Int32).toNatClampNeg (103 : Int32)) q_543 (13 : Int32).toNatClampNeg (101 : Int32)) q_543 (14 : Int32).toNatClampNeg (116 : Int32)) q_543 (15 : Int32).toNatClampNeg (97 : Int32)) := hI.sC (ck r_579 ⟨by decide, by decide⟩)
  replace hM : Sm md_k_Model g (sC (sC (sC (sC (sC (sC (sC (sC g_603 q_543 (8 : Int32).toNatClampNeg (120 : Int32)) q_543 (9 : Int32).toNatClampNeg (110 : Int32)) q_543 (10 : Int32).toNatClampNeg (101 : Int32)) q_543 (11 : Int32).toNatClampNeg (119 : Int32)) q_543 (12 : Int32).toNatClampNeg (103 : Int32)) q_543 (13 : Int32).toNatClampNeg (101 : Int32)) q_543 (14 : Int32).toNatClampNeg (116 : Int32)) q_543 (15 : Int32).toNatClampNeg (97 : Int32)) := hM.tr hE (Sm_sC (by rw [r_579]; rfl))
  replace hE : Ex g (sC (sC (sC (sC (sC (sC (sC (sC g_603 q_543 (8 : Int32).toNatClampNeg (120 : Int32)) q_543 (9 : Int32).toNatClampNeg (110 : Int32)) q_543 (10 : Int32).toNatClampNeg (101 : Int32)) q_543 (11 : Int32).toNatClampNeg (119 : Int32)) q_543 (12 : Int32).toNatClampNeg (103 : Int32)) q_543 (13 : Int32).toNatClampNeg (101 : Int32)) q_543 (14 : Int32).toNatClampNeg (116 : Int32)) q_543 (15 : Int32).toNatClampNeg (97 : Int32)) := hE
  replace hP : PF [41, 40, 39, 35, 33, 32, 31, 28, 27, 26, 25, 23, 20, 19, 18, 17, 16, 15, 14, 13, 12, 11, 10, 9, 8, 7, 6, 5, 4, 3, 2, 1, 60, 52, 51, 50, 49, 38, 37, 36, 34, 30, 29, 24, 22, 21, 0] (sC (sC (sC (sC (sC (sC (sC (sC g_603 q_543 (8 : Int32).toNatClampNeg (120 : Int32)) q_543 (9 : Int32).toNatClampNeg (110 : Int32)) q_543 (10 : Int32).toNatClampNeg (101 : Int32)) q_543 (11 : Int32).toNatClampNeg (119 : Int32)) q_543 (12 : Int32).toNatClampNeg (103 : Int32)) q_543 (13 : Int32).toNatClampNeg (101 : Int32)) q_543 (14 : Int32).toNatClampNeg (116 : Int32)) q_543 (15 : Int32).toNatClampNeg (97 : Int32)) h := hP.tC 
  have zP : ZC (sC (sC (sC (sC (sC (sC (sC (sC g_603 q_543 (8 : Int32).toNatClampNeg (120 : Int32)) q_543 (9 : Int32).toNatClampNeg (110 : Int32)) q_543 (10 : Int32).toNatClampNeg (101 : Int32)) q_543 (11 : Int32).toNatClampNeg (119 : Int32)) q_543 (12 : Int32).toNatClampNeg (103 : Int32)) q_543 (13 : Int32).toNatClampNeg (101 : Int32)) q_543 (14 : Int32).toNatClampNeg (116 : Int32)) q_543 (15 : Int32).toNatClampNeg (97 : Int32)) q_23 := zP.tC (ro_ne r_576 r_579 (by decide))
  have zN : ZC (sC (sC (sC (sC (sC (sC (sC (sC g_603 q_543 (8 : Int32).toNatClampNeg (120 : Int32)) q_543 (9 : Int32).toNatClampNeg (110 : Int32)) q_543 (10 : Int32).toNatClampNeg (101 : Int32)) q_543 (11 : Int32).toNatClampNeg (119 : Int32)) q_543 (12 : Int32).toNatClampNeg (103 : Int32)) q_543 (13 : Int32).toNatClampNeg (101 : Int32)) q_543 (14 : Int32).toNatClampNeg (116 : Int32)) q_543 (15 : Int32).toNatClampNeg (97 : Int32)) q_500 := zN.tC (ro_ne r_578 r_579 (by decide))
  have r_612 : (sC (sC (sC (sC (sC (sC (sC (sC g_603 q_543 (8 : Int32).toNatClampNeg (120 : Int32)) q_543 (9 : Int32).toNatClampNeg (110 : Int32)) q_543 (10 : Int32).toNatClampNeg (101 : Int32)) q_543 (11 : Int32).toNatClampNeg (119 : Int32)) q_543 (12 : Int32).toNatClampNeg (103 : Int32)) q_543 (13 : Int32).toNatClampNeg (101 : Int32)) q_543 (14 : Int32).toNatClampNeg (116 : Int32)) q_543 (15 : Int32).toNatClampNeg (97 : Int32)).1 h = 18 := r_574
  have r_613 : (sC (sC (sC (sC (sC (sC (sC (sC g_603 q_543 (8 : Int32).toNatClampNeg (120 : Int32)) q_543 (9 : Int32).toNatClampNeg (110 : Int32)) q_543 (10 : Int32).toNatClampNeg (101 : Int32)) q_543 (11 : Int32).toNatClampNeg (119 : Int32)) q_543 (12 : Int32).toNatClampNeg (103 : Int32)) q_543 (13 : Int32).toNatClampNeg (101 : Int32)) q_543 (14 : Int32).toNatClampNeg (116 : Int32)) q_543 (15 : Int32).toNatClampNeg (97 : Int32)).1 q_12 = 71 := r_575
  have r_614 : (sC (sC (sC (sC (sC (sC (sC (sC g_603 q_543 (8 : Int32).toNatClampNeg (120 : Int32)) q_543 (9 : Int32).toNatClampNeg (110 : Int32)) q_543 (10 : Int32).toNatClampNeg (101 : Int32)) q_543 (11 : Int32).toNatClampNeg (119 : Int32)) q_543 (12 : Int32).toNatClampNeg (103 : Int32)) q_543 (13 : Int32).toNatClampNeg (101 : Int32)) q_543 (14 : Int32).toNatClampNeg (116 : Int32)) q_543 (15 : Int32).toNatClampNeg (97 : Int32)).1 q_23 = 72 := r_576
  have r_615 : (sC (sC (sC (sC (sC (sC (sC (sC g_603 q_543 (8 : Int32).toNatClampNeg (120 : Int32)) q_543 (9 : Int32).toNatClampNeg (110 : Int32)) q_543 (10 : Int32).toNatClampNeg (101 : Int32)) q_543 (11 : Int32).toNatClampNeg (119 : Int32)) q_543 (12 : Int32).toNatClampNeg (103 : Int32)) q_543 (13 : Int32).toNatClampNeg (101 : Int32)) q_543 (14 : Int32).toNatClampNeg (116 : Int32)) q_543 (15 : Int32).toNatClampNeg (97 : Int32)).1 q_483 = 84 := r_577
  have r_616 : (sC (sC (sC (sC (sC (sC (sC (sC g_603 q_543 (8 : Int32).toNatClampNeg (120 : Int32)) q_543 (9 : Int32).toNatClampNeg (110 : Int32)) q_543 (10 : Int32).toNatClampNeg (101 : Int32)) q_543 (11 : Int32).toNatClampNeg (119 : Int32)) q_543 (12 : Int32).toNatClampNeg (103 : Int32)) q_543 (13 : Int32).toNatClampNeg (101 : Int32)) q_543 (14 : Int32).toNatClampNeg (116 : Int32)) q_543 (15 : Int32).toNatClampNeg (97 : Int32)).1 q_500 = 85 := r_578
  have r_617 : (sC (sC (sC (sC (sC (sC (sC (sC g_603 q_543 (8 : Int32).toNatClampNeg (120 : Int32)) q_543 (9 : Int32).toNatClampNeg (110 : Int32)) q_543 (10 : Int32).toNatClampNeg (101 : Int32)) q_543 (11 : Int32).toNatClampNeg (119 : Int32)) q_543 (12 : Int32).toNatClampNeg (103 : Int32)) q_543 (13 : Int32).toNatClampNeg (101 : Int32)) q_543 (14 : Int32).toNatClampNeg (116 : Int32)) q_543 (15 : Int32).toNatClampNeg (97 : Int32)).1 q_543 = 87 := r_579
  have n_618 : (sC (sC (sC (sC (sC (sC (sC (sC g_603 q_543 (8 : Int32).toNatClampNeg (120 : Int32)) q_543 (9 : Int32).toNatClampNeg (110 : Int32)) q_543 (10 : Int32).toNatClampNeg (101 : Int32)) q_543 (11 : Int32).toNatClampNeg (119 : Int32)) q_543 (12 : Int32).toNatClampNeg (103 : Int32)) q_543 (13 : Int32).toNatClampNeg (101 : Int32)) q_543 (14 : Int32).toNatClampNeg (116 : Int32)) q_543 (15 : Int32).toNatClampNeg (97 : Int32)).2.2.1 q_12 = 48 := n_580
  have n_619 : (sC (sC (sC (sC (sC (sC (sC (sC g_603 q_543 (8 : Int32).toNatClampNeg (120 : Int32)) q_543 (9 : Int32).toNatClampNeg (110 : Int32)) q_543 (10 : Int32).toNatClampNeg (101 : Int32)) q_543 (11 : Int32).toNatClampNeg (119 : Int32)) q_543 (12 : Int32).toNatClampNeg (103 : Int32)) q_543 (13 : Int32).toNatClampNeg (101 : Int32)) q_543 (14 : Int32).toNatClampNeg (116 : Int32)) q_543 (15 : Int32).toNatClampNeg (97 : Int32)).2.2.1 q_23 = 48 := n_581
  have n_620 : (sC (sC (sC (sC (sC (sC (sC (sC g_603 q_543 (8 : Int32).toNatClampNeg (120 : Int32)) q_543 (9 : Int32).toNatClampNeg (110 : Int32)) q_543 (10 : Int32).toNatClampNeg (101 : Int32)) q_543 (11 : Int32).toNatClampNeg (119 : Int32)) q_543 (12 : Int32).toNatClampNeg (103 : Int32)) q_543 (13 : Int32).toNatClampNeg (101 : Int32)) q_543 (14 : Int32).toNatClampNeg (116 : Int32)) q_543 (15 : Int32).toNatClampNeg (97 : Int32)).2.2.1 q_483 = 8 := n_582
  have n_621 : (sC (sC (sC (sC (sC (sC (sC (sC g_603 q_543 (8 : Int32).toNatClampNeg (120 : Int32)) q_543 (9 : Int32).toNatClampNeg (110 : Int32)) q_543 (10 : Int32).toNatClampNeg (101 : Int32)) q_543 (11 : Int32).toNatClampNeg (119 : Int32)) q_543 (12 : Int32).toNatClampNeg (103 : Int32)) q_543 (13 : Int32).toNatClampNeg (101 : Int32)) q_543 (14 : Int32).toNatClampNeg (116 : Int32)) q_543 (15 : Int32).toNatClampNeg (97 : Int32)).2.2.1 q_500 = 8 := n_583
  have n_622 : (sC (sC (sC (sC (sC (sC (sC (sC g_603 q_543 (8 : Int32).toNatClampNeg (120 : Int32)) q_543 (9 : Int32).toNatClampNeg (110 : Int32)) q_543 (10 : Int32).toNatClampNeg (101 : Int32)) q_543 (11 : Int32).toNatClampNeg (119 : Int32)) q_543 (12 : Int32).toNatClampNeg (103 : Int32)) q_543 (13 : Int32).toNatClampNeg (101 : Int32)) q_543 (14 : Int32).toNatClampNeg (116 : Int32)) q_543 (15 : Int32).toNatClampNeg (97 : Int32)).2.2.1 q_543 = 24 := n_584
  have kn_623 : (sC (sC (sC (sC (sC (sC (sC (sC g_603 q_543 (8 : Int32).toNatClampNeg (120 : Int32)) q_543 (9 : Int32).toNatClampNeg (110 : Int32)) q_543 (10 : Int32).toNatClampNeg (101 : Int32)) q_543 (11 : Int32).toNatClampNeg (119 : Int32)) q_543 (12 : Int32).toNatClampNeg (103 : Int32)) q_543 (13 : Int32).toNatClampNeg (101 : Int32)) q_543 (14 : Int32).toNatClampNeg (116 : Int32)) q_543 (15 : Int32).toNatClampNeg (97 : Int32)).2.1 h 0 = .int 0 := kn_585
  have kn_624 : (sC (sC (sC (sC (sC (sC (sC (sC g_603 q_543 (8 : Int32).toNatClampNeg (120 : Int32)) q_543 (9 : Int32).toNatClampNeg (110 : Int32)) q_543 (10 : Int32).toNatClampNeg (101 : Int32)) q_543 (11 : Int32).toNatClampNeg (119 : Int32)) q_543 (12 : Int32).toNatClampNeg (103 : Int32)) q_543 (13 : Int32).toNatClampNeg (101 : Int32)) q_543 (14 : Int32).toNatClampNeg (116 : Int32)) q_543 (15 : Int32).toNatClampNeg (97 : Int32)).2.1 h 22 = .int 0 := kn_586
  have kn_625 : (sC (sC (sC (sC (sC (sC (sC (sC g_603 q_543 (8 : Int32).toNatClampNeg (120 : Int32)) q_543 (9 : Int32).toNatClampNeg (110 : Int32)) q_543 (10 : Int32).toNatClampNeg (101 : Int32)) q_543 (11 : Int32).toNatClampNeg (119 : Int32)) q_543 (12 : Int32).toNatClampNeg (103 : Int32)) q_543 (13 : Int32).toNatClampNeg (101 : Int32)) q_543 (14 : Int32).toNatClampNeg (116 : Int32)) q_543 (15 : Int32).toNatClampNeg (97 : Int32)).2.1 h 24 = .int 0 := kn_587
  have kn_626 : (sC (sC (sC (sC (sC (sC (sC (sC g_603 q_543 (8 : Int32).toNatClampNeg (120 : Int32)) q_543 (9 : Int32).toNatClampNeg (110 : Int32)) q_543 (10 : Int32).toNatClampNeg (101 : Int32)) q_543 (11 : Int32).toNatClampNeg (119 : Int32)) q_543 (12 : Int32).toNatClampNeg (103 : Int32)) q_543 (13 : Int32).toNatClampNeg (101 : Int32)) q_543 (14 : Int32).toNatClampNeg (116 : Int32)) q_543 (15 : Int32).toNatClampNeg (97 : Int32)).2.1 h 29 = .int 0 := kn_588
  have kn_627 : (sC (sC (sC (sC (sC (sC (sC (sC g_603 q_543 (8 : Int32).toNatClampNeg (120 : Int32)) q_543 (9 : Int32).toNatClampNeg (110 : Int32)) q_543 (10 : Int32).toNatClampNeg (101 : Int32)) q_543 (11 : Int32).toNatClampNeg (119 : Int32)) q_543 (12 : Int32).toNatClampNeg (103 : Int32)) q_543 (13 : Int32).toNatClampNeg (101 : Int32)) q_543 (14 : Int32).toNatClampNeg (116 : Int32)) q_543 (15 : Int32).toNatClampNeg (97 : Int32)).2.1 h 30 = .int 0 := kn_589
  have kn_628 : (sC (sC (sC (sC (sC (sC (sC (sC g_603 q_543 (8 : Int32).toNatClampNeg (120 : Int32)) q_543 (9 : Int32).toNatClampNeg (110 : Int32)) q_543 (10 : Int32).toNatClampNeg (101 : Int32)) q_543 (11 : Int32).toNatClampNeg (119 : Int32)) q_543 (12 : Int32).toNatClampNeg (103 : Int32)) q_543 (13 : Int32).toNatClampNeg (101 : Int32)) q_543 (14 : Int32).toNatClampNeg (116 : Int32)) q_543 (15 : Int32).toNatClampNeg (97 : Int32)).2.1 h 34 = .int 0 := kn_590
  have kn_629 : (sC (sC (sC (sC (sC (sC (sC (sC g_603 q_543 (8 : Int32).toNatClampNeg (120 : Int32)) q_543 (9 : Int32).toNatClampNeg (110 : Int32)) q_543 (10 : Int32).toNatClampNeg (101 : Int32)) q_543 (11 : Int32).toNatClampNeg (119 : Int32)) q_543 (12 : Int32).toNatClampNeg (103 : Int32)) q_543 (13 : Int32).toNatClampNeg (101 : Int32)) q_543 (14 : Int32).toNatClampNeg (116 : Int32)) q_543 (15 : Int32).toNatClampNeg (97 : Int32)).2.1 h 2 = .ref q_12 := kn_591
  have kn_630 : (sC (sC (sC (sC (sC (sC (sC (sC g_603 q_543 (8 : Int32).toNatClampNeg (120 : Int32)) q_543 (9 : Int32).toNatClampNeg (110 : Int32)) q_543 (10 : Int32).toNatClampNeg (101 : Int32)) q_543 (11 : Int32).toNatClampNeg (119 : Int32)) q_543 (12 : Int32).toNatClampNeg (103 : Int32)) q_543 (13 : Int32).toNatClampNeg (101 : Int32)) q_543 (14 : Int32).toNatClampNeg (116 : Int32)) q_543 (15 : Int32).toNatClampNeg (97 : Int32)).2.1 h 3 = .ref q_23 := kn_592
  have kn_631 : (sC (sC (sC (sC (sC (sC (sC (sC g_603 q_543 (8 : Int32).toNatClampNeg (120 : Int32)) q_543 (9 : Int32).toNatClampNeg (110 : Int32)) q_543 (10 : Int32).toNatClampNeg (101 : Int32)) q_543 (11 : Int32).toNatClampNeg (119 : Int32)) q_543 (12 : Int32).toNatClampNeg (103 : Int32)) q_543 (13 : Int32).toNatClampNeg (101 : Int32)) q_543 (14 : Int32).toNatClampNeg (116 : Int32)) q_543 (15 : Int32).toNatClampNeg (97 : Int32)).2.1 h 39 = .ref q_483 := kn_593
  have kn_632 : (sC (sC (sC (sC (sC (sC (sC (sC g_603 q_543 (8 : Int32).toNatClampNeg (120 : Int32)) q_543 (9 : Int32).toNatClampNeg (110 : Int32)) q_543 (10 : Int32).toNatClampNeg (101 : Int32)) q_543 (11 : Int32).toNatClampNeg (119 : Int32)) q_543 (12 : Int32).toNatClampNeg (103 : Int32)) q_543 (13 : Int32).toNatClampNeg (101 : Int32)) q_543 (14 : Int32).toNatClampNeg (116 : Int32)) q_543 (15 : Int32).toNatClampNeg (97 : Int32)).2.1 h 40 = .ref q_500 := kn_594
  have kn_633 : (sC (sC (sC (sC (sC (sC (sC (sC g_603 q_543 (8 : Int32).toNatClampNeg (120 : Int32)) q_543 (9 : Int32).toNatClampNeg (110 : Int32)) q_543 (10 : Int32).toNatClampNeg (101 : Int32)) q_543 (11 : Int32).toNatClampNeg (119 : Int32)) q_543 (12 : Int32).toNatClampNeg (103 : Int32)) q_543 (13 : Int32).toNatClampNeg (101 : Int32)) q_543 (14 : Int32).toNatClampNeg (116 : Int32)) q_543 (15 : Int32).toNatClampNeg (97 : Int32)).2.2.2.1 q_543 (0 : Int32).toNatClampNeg = 115 := (sC_i (sC_i (sC_i (sC_i (sC_i (sC_i (sC_i (sC_i kn_595 (by decide)) (by decide)) (by decide)) (by decide)) (by decide)) (by decide)) (by decide)) (by decide))
  have kn_634 : (sC (sC (sC (sC (sC (sC (sC (sC g_603 q_543 (8 : Int32).toNatClampNeg (120 : Int32)) q_543 (9 : Int32).toNatClampNeg (110 : Int32)) q_543 (10 : Int32).toNatClampNeg (101 : Int32)) q_543 (11 : Int32).toNatClampNeg (119 : Int32)) q_543 (12 : Int32).toNatClampNeg (103 : Int32)) q_543 (13 : Int32).toNatClampNeg (101 : Int32)) q_543 (14 : Int32).toNatClampNeg (116 : Int32)) q_543 (15 : Int32).toNatClampNeg (97 : Int32)).2.2.2.1 q_543 (1 : Int32).toNatClampNeg = 101 := (sC_i (sC_i (sC_i (sC_i (sC_i (sC_i (sC_i (sC_i kn_596 (by decide)) (by decide)) (by decide)) (by decide)) (by decide)) (by decide)) (by decide)) (by decide))
  have kn_635 : (sC (sC (sC (sC (sC (sC (sC (sC g_603 q_543 (8 : Int32).toNatClampNeg (120 : Int32)) q_543 (9 : Int32).toNatClampNeg (110 : Int32)) q_543 (10 : Int32).toNatClampNeg (101 : Int32)) q_543 (11 : Int32).toNatClampNeg (119 : Int32)) q_543 (12 : Int32).toNatClampNeg (103 : Int32)) q_543 (13 : Int32).toNatClampNeg (101 : Int32)) q_543 (14 : Int32).toNatClampNeg (116 : Int32)) q_543 (15 : Int32).toNatClampNeg (97 : Int32)).2.2.2.1 q_543 (2 : Int32).toNatClampNeg = 116 := (sC_i (sC_i (sC_i (sC_i (sC_i (sC_i (sC_i (sC_i kn_597 (by decide)) (by decide)) (by decide)) (by decide)) (by decide)) (by decide)) (by decide)) (by decide))
  have kn_636 : (sC (sC (sC (sC (sC (sC (sC (sC g_603 q_543 (8 : Int32).toNatClampNeg (120 : Int32)) q_543 (9 : Int32).toNatClampNeg (110 : Int32)) q_543 (10 : Int32).toNatClampNeg (101 : Int32)) q_543 (11 : Int32).toNatClampNeg (119 : Int32)) q_543 (12 : Int32).toNatClampNeg (103 : Int32)) q_543 (13 : Int32).toNatClampNeg (101 : Int32)) q_543 (14 : Int32).toNatClampNeg (116 : Int32)) q_543 (15 : Int32).toNatClampNeg (97 : Int32)).2.2.2.1 q_543 (3 : Int32).toNatClampNeg = 97 := (sC_i (sC_i (sC_i (sC_i (sC_i (sC_i (sC_i (sC_i kn_598 (by decide)) (by decide)) (by decide)) (by decide)) (by decide)) (by decide)) (by decide)) (by decide))
  have kn_637 : (sC (sC (sC (sC (sC (sC (sC (sC g_603 q_543 (8 : Int32).toNatClampNeg (120 : Int32)) q_543 (9 : Int32).toNatClampNeg (110 : Int32)) q_543 (10 : Int32).toNatClampNeg (101 : Int32)) q_543 (11 : Int32).toNatClampNeg (119 : Int32)) q_543 (12 : Int32).toNatClampNeg (103 : Int32)) q_543 (13 : Int32).toNatClampNeg (101 : Int32)) q_543 (14 : Int32).toNatClampNeg (116 : Int32)) q_543 (15 : Int32).toNatClampNeg (97 : Int32)).2.2.2.1 q_543 (4 : Int32).toNatClampNeg = 100 := (sC_i (sC_i (sC_i (sC_i (sC_i (sC_i (sC_i (sC_i kn_599 (by decide)) (by decide)) (by decide)) (by decide)) (by decide)) (by decide)) (by decide)) (by decide))
  have kn_638 : (sC (sC (sC (sC (sC (sC (sC (sC g_603 q_543 (8 : Int32).toNatClampNeg (120 : Int32)) q_543 (9 : Int32).toNatClampNeg (110 : Int32)) q_543 (10 : Int32).toNatClampNeg (101 : Int32)) q_543 (11 : Int32).toNatClampNeg (119 : Int32)) q_543 (12 : Int32).toNatClampNeg (103 : Int32)) q_543 (13 : Int32).toNatClampNeg (101 : Int32)) q_543 (14 : Int32).toNatClampNeg (116 : Int32)) q_543 (15 : Int32).toNatClampNeg (97 : Int32)).2.2.2.1 q_543 (5 : Int32).toNatClampNeg = 100 := (sC_i (sC_i (sC_i (sC_i (sC_i (sC_i (sC_i (sC_i kn_600 (by decide)) (by decide)) (by decide)) (by decide)) (by decide)) (by decide)) (by decide)) (by decide))
  have kn_639 : (sC (sC (sC (sC (sC (sC (sC (sC g_603 q_543 (8 : Int32).toNatClampNeg (120 : Int32)) q_543 (9 : Int32).toNatClampNeg (110 : Int32)) q_543 (10 : Int32).toNatClampNeg (101 : Int32)) q_543 (11 : Int32).toNatClampNeg (119 : Int32)) q_543 (12 : Int32).toNatClampNeg (103 : Int32)) q_543 (13 : Int32).toNatClampNeg (101 : Int32)) q_543 (14 : Int32).toNatClampNeg (116 : Int32)) q_543 (15 : Int32).toNatClampNeg (97 : Int32)).2.2.2.1 q_543 (6 : Int32).toNatClampNeg = 109 := (sC_i (sC_i (sC_i (sC_i (sC_i (sC_i (sC_i (sC_i kn_601 (by decide)) (by decide)) (by decide)) (by decide)) (by decide)) (by decide)) (by decide)) (by decide))
  have kn_640 : (sC (sC (sC (sC (sC (sC (sC (sC g_603 q_543 (8 : Int32).toNatClampNeg (120 : Int32)) q_543 (9 : Int32).toNatClampNeg (110 : Int32)) q_543 (10 : Int32).toNatClampNeg (101 : Int32)) q_543 (11 : Int32).toNatClampNeg (119 : Int32)) q_543 (12 : Int32).toNatClampNeg (103 : Int32)) q_543 (13 : Int32).toNatClampNeg (101 : Int32)) q_543 (14 : Int32).toNatClampNeg (116 : Int32)) q_543 (15 : Int32).toNatClampNeg (97 : Int32)).2.2.2.1 q_543 (7 : Int32).toNatClampNeg = 97 := (sC_i (sC_i (sC_i (sC_i (sC_i (sC_i (sC_i (sC_i kn_602 (by decide)) (by decide)) (by decide)) (by decide)) (by decide)) (by decide)) (by decide)) (by decide))
  have kn_641 : (sC (sC (sC (sC (sC (sC (sC (sC g_603 q_543 (8 : Int32).toNatClampNeg (120 : Int32)) q_543 (9 : Int32).toNatClampNeg (110 : Int32)) q_543 (10 : Int32).toNatClampNeg (101 : Int32)) q_543 (11 : Int32).toNatClampNeg (119 : Int32)) q_543 (12 : Int32).toNatClampNeg (103 : Int32)) q_543 (13 : Int32).toNatClampNeg (101 : Int32)) q_543 (14 : Int32).toNatClampNeg (116 : Int32)) q_543 (15 : Int32).toNatClampNeg (97 : Int32)).2.2.2.1 q_543 (8 : Int32).toNatClampNeg = 120 := (sC_i (sC_i (sC_i (sC_i (sC_i (sC_i (sC_i sC_eq (by decide)) (by decide)) (by decide)) (by decide)) (by decide)) (by decide)) (by decide))
  have kn_642 : (sC (sC (sC (sC (sC (sC (sC (sC g_603 q_543 (8 : Int32).toNatClampNeg (120 : Int32)) q_543 (9 : Int32).toNatClampNeg (110 : Int32)) q_543 (10 : Int32).toNatClampNeg (101 : Int32)) q_543 (11 : Int32).toNatClampNeg (119 : Int32)) q_543 (12 : Int32).toNatClampNeg (103 : Int32)) q_543 (13 : Int32).toNatClampNeg (101 : Int32)) q_543 (14 : Int32).toNatClampNeg (116 : Int32)) q_543 (15 : Int32).toNatClampNeg (97 : Int32)).2.2.2.1 q_543 (9 : Int32).toNatClampNeg = 110 := (sC_i (sC_i (sC_i (sC_i (sC_i (sC_i sC_eq (by decide)) (by decide)) (by decide)) (by decide)) (by decide)) (by decide))
  have kn_643 : (sC (sC (sC (sC (sC (sC (sC (sC g_603 q_543 (8 : Int32).toNatClampNeg (120 : Int32)) q_543 (9 : Int32).toNatClampNeg (110 : Int32)) q_543 (10 : Int32).toNatClampNeg (101 : Int32)) q_543 (11 : Int32).toNatClampNeg (119 : Int32)) q_543 (12 : Int32).toNatClampNeg (103 : Int32)) q_543 (13 : Int32).toNatClampNeg (101 : Int32)) q_543 (14 : Int32).toNatClampNeg (116 : Int32)) q_543 (15 : Int32).toNatClampNeg (97 : Int32)).2.2.2.1 q_543 (10 : Int32).toNatClampNeg = 101 := (sC_i (sC_i (sC_i (sC_i (sC_i sC_eq (by decide)) (by decide)) (by decide)) (by decide)) (by decide))
  have kn_644 : (sC (sC (sC (sC (sC (sC (sC (sC g_603 q_543 (8 : Int32).toNatClampNeg (120 : Int32)) q_543 (9 : Int32).toNatClampNeg (110 : Int32)) q_543 (10 : Int32).toNatClampNeg (101 : Int32)) q_543 (11 : Int32).toNatClampNeg (119 : Int32)) q_543 (12 : Int32).toNatClampNeg (103 : Int32)) q_543 (13 : Int32).toNatClampNeg (101 : Int32)) q_543 (14 : Int32).toNatClampNeg (116 : Int32)) q_543 (15 : Int32).toNatClampNeg (97 : Int32)).2.2.2.1 q_543 (11 : Int32).toNatClampNeg = 119 := (sC_i (sC_i (sC_i (sC_i sC_eq (by decide)) (by decide)) (by decide)) (by decide))
  have kn_645 : (sC (sC (sC (sC (sC (sC (sC (sC g_603 q_543 (8 : Int32).toNatClampNeg (120 : Int32)) q_543 (9 : Int32).toNatClampNeg (110 : Int32)) q_543 (10 : Int32).toNatClampNeg (101 : Int32)) q_543 (11 : Int32).toNatClampNeg (119 : Int32)) q_543 (12 : Int32).toNatClampNeg (103 : Int32)) q_543 (13 : Int32).toNatClampNeg (101 : Int32)) q_543 (14 : Int32).toNatClampNeg (116 : Int32)) q_543 (15 : Int32).toNatClampNeg (97 : Int32)).2.2.2.1 q_543 (12 : Int32).toNatClampNeg = 103 := (sC_i (sC_i (sC_i sC_eq (by decide)) (by decide)) (by decide))
  have kn_646 : (sC (sC (sC (sC (sC (sC (sC (sC g_603 q_543 (8 : Int32).toNatClampNeg (120 : Int32)) q_543 (9 : Int32).toNatClampNeg (110 : Int32)) q_543 (10 : Int32).toNatClampNeg (101 : Int32)) q_543 (11 : Int32).toNatClampNeg (119 : Int32)) q_543 (12 : Int32).toNatClampNeg (103 : Int32)) q_543 (13 : Int32).toNatClampNeg (101 : Int32)) q_543 (14 : Int32).toNatClampNeg (116 : Int32)) q_543 (15 : Int32).toNatClampNeg (97 : Int32)).2.2.2.1 q_543 (13 : Int32).toNatClampNeg = 101 := (sC_i (sC_i sC_eq (by decide)) (by decide))
  have kn_647 : (sC (sC (sC (sC (sC (sC (sC (sC g_603 q_543 (8 : Int32).toNatClampNeg (120 : Int32)) q_543 (9 : Int32).toNatClampNeg (110 : Int32)) q_543 (10 : Int32).toNatClampNeg (101 : Int32)) q_543 (11 : Int32).toNatClampNeg (119 : Int32)) q_543 (12 : Int32).toNatClampNeg (103 : Int32)) q_543 (13 : Int32).toNatClampNeg (101 : Int32)) q_543 (14 : Int32).toNatClampNeg (116 : Int32)) q_543 (15 : Int32).toNatClampNeg (97 : Int32)).2.2.2.1 q_543 (14 : Int32).toNatClampNeg = 116 := (sC_i sC_eq (by decide))
  have kn_648 : (sC (sC (sC (sC (sC (sC (sC (sC g_603 q_543 (8 : Int32).toNatClampNeg (120 : Int32)) q_543 (9 : Int32).toNatClampNeg (110 : Int32)) q_543 (10 : Int32).toNatClampNeg (101 : Int32)) q_543 (11 : Int32).toNatClampNeg (119 : Int32)) q_543 (12 : Int32).toNatClampNeg (103 : Int32)) q_543 (13 : Int32).toNatClampNeg (101 : Int32)) q_543 (14 : Int32).toNatClampNeg (116 : Int32)) q_543 (15 : Int32).toNatClampNeg (97 : Int32)).2.2.2.1 q_543 (15 : Int32).toNatClampNeg = 97 := sC_eq
  generalize (sC (sC (sC (sC (sC (sC (sC (sC g_603 q_543 (8 : Int32).toNatClampNeg (120 : Int32)) q_543 (9 : Int32).toNatClampNeg (110 : Int32)) q_543 (10 : Int32).toNatClampNeg (101 : Int32)) q_543 (11 : Int32).toNatClampNeg (119 : Int32)) q_543 (12 : Int32).toNatClampNeg (103 : Int32)) q_543 (13 : Int32).toNatClampNeg (101 : Int32)) q_543 (14 : Int32).toNatClampNeg (116 : Int32)) q_543 (15 : Int32).toNatClampNeg (97 : Int32)) = g_649 at hT hI hM hE r_612 r_613 r_614 r_615 r_616 r_617 n_618 n_619 n_620 n_621 n_622 kn_623 kn_624 kn_625 kn_626 kn_627 kn_628 kn_629 kn_630 kn_631 kn_632 kn_633 kn_634 kn_635 kn_636 kn_637 kn_638 kn_639 kn_640 kn_641 kn_642 kn_643 kn_644 kn_645 kn_646 kn_647 kn_648 hP zP zN
  clear kn_585 kn_586 kn_587 kn_588 kn_589 kn_590 kn_591 kn_592 kn_593 kn_594 kn_595 kn_596 kn_597 kn_598 kn_599 kn_600 kn_601 kn_602 n_580 n_581 n_582 n_583 n_584 r_574 r_575 r_576 r_577 r_578 r_579
  refine lv_dup hx hb dX7_init_373 rfl ?_
  refine lv_bipush (v := 16) hx hb dX7_init_374 (by decide) ?_
  refine lv_bipush (v := 115) hx hb dX7_init_376 (by decide) ?_
  have i_650 : vp_in (16 : Int32) 24 := (by unfold vp_in; decide)
  refine t_iast hB hT (ro_in r_617 (by decide)) n_622 i_650 dX7_init_378 (fun H locs hT => ?_)
  replace hI : Inv (sC g_649 q_543 (16 : Int32).toNatClampNeg (115 : Int32)) := hI.sC (ck r_617 ⟨by decide, by decide⟩)
  replace hM : Sm md_k_Model g (sC g_649 q_543 (16 : Int32).toNatClampNeg (115 : Int32)) := hM.tr hE (Sm_sC (by rw [r_617]; rfl))
  replace hE : Ex g (sC g_649 q_543 (16 : Int32).toNatClampNeg (115 : Int32)) := hE
  replace hP : PF [41, 40, 39, 35, 33, 32, 31, 28, 27, 26, 25, 23, 20, 19, 18, 17, 16, 15, 14, 13, 12, 11, 10, 9, 8, 7, 6, 5, 4, 3, 2, 1, 60, 52, 51, 50, 49, 38, 37, 36, 34, 30, 29, 24, 22, 21, 0] (sC g_649 q_543 (16 : Int32).toNatClampNeg (115 : Int32)) h := hP.tC 
  have zP : ZC (sC g_649 q_543 (16 : Int32).toNatClampNeg (115 : Int32)) q_23 := zP.tC (ro_ne r_614 r_617 (by decide))
  have zN : ZC (sC g_649 q_543 (16 : Int32).toNatClampNeg (115 : Int32)) q_500 := zN.tC (ro_ne r_616 r_617 (by decide))
  refine lv_dup hx hb dX7_init_379 rfl ?_
  refine lv_bipush (v := 17) hx hb dX7_init_380 (by decide) ?_
  refine lv_bipush (v := 107) hx hb dX7_init_382 (by decide) ?_
  have i_651 : vp_in (17 : Int32) 24 := (by unfold vp_in; decide)
  refine t_iast hB hT (ro_in r_617 (by decide)) n_622 i_651 dX7_init_384 (fun H locs hT => ?_)
  replace hI : Inv (sC (sC g_649 q_543 (16 : Int32).toNatClampNeg (115 : Int32)) q_543 (17 : Int32).toNatClampNeg (107 : Int32)) := hI.sC (ck r_617 ⟨by decide, by decide⟩)
  replace hM : Sm md_k_Model g (sC (sC g_649 q_543 (16 : Int32).toNatClampNeg (115 : Int32)) q_543 (17 : Int32).toNatClampNeg (107 : Int32)) := hM.tr hE (Sm_sC (by rw [r_617]; rfl))
  replace hE : Ex g (sC (sC g_649 q_543 (16 : Int32).toNatClampNeg (115 : Int32)) q_543 (17 : Int32).toNatClampNeg (107 : Int32)) := hE
  replace hP : PF [41, 40, 39, 35, 33, 32, 31, 28, 27, 26, 25, 23, 20, 19, 18, 17, 16, 15, 14, 13, 12, 11, 10, 9, 8, 7, 6, 5, 4, 3, 2, 1, 60, 52, 51, 50, 49, 38, 37, 36, 34, 30, 29, 24, 22, 21, 0] (sC (sC g_649 q_543 (16 : Int32).toNatClampNeg (115 : Int32)) q_543 (17 : Int32).toNatClampNeg (107 : Int32)) h := hP.tC 
  have zP : ZC (sC (sC g_649 q_543 (16 : Int32).toNatClampNeg (115 : Int32)) q_543 (17 : Int32).toNatClampNeg (107 : Int32)) q_23 := zP.tC (ro_ne r_614 r_617 (by decide))
  have zN : ZC (sC (sC g_649 q_543 (16 : Int32).toNatClampNeg (115 : Int32)) q_543 (17 : Int32).toNatClampNeg (107 : Int32)) q_500 := zN.tC (ro_ne r_616 r_617 (by decide))
  refine lv_dup hx hb dX7_init_385 rfl ?_
  refine lv_bipush (v := 18) hx hb dX7_init_386 (by decide) ?_
  refine lv_bipush (v := 100) hx hb dX7_init_388 (by decide) ?_
  have i_652 : vp_in (18 : Int32) 24 := (by unfold vp_in; decide)
  refine t_iast hB hT (ro_in r_617 (by decide)) n_622 i_652 dX7_init_390 (fun H locs hT => ?_)
  replace hI : Inv (sC (sC (sC g_649 q_543 (16 : Int32).toNatClampNeg (115 : Int32)) q_543 (17 : Int32).toNatClampNeg (107 : Int32)) q_543 (18 : Int32).toNatClampNeg (100 : Int32)) := hI.sC (ck r_617 ⟨by decide, by decide⟩)
  replace hM : Sm md_k_Model g (sC (sC (sC g_649 q_543 (16 : Int32).toNatClampNeg (115 : Int32)) q_543 (17 : Int32).toNatClampNeg (107 : Int32)) q_543 (18 : Int32).toNatClampNeg (100 : Int32)) := hM.tr hE (Sm_sC (by rw [r_617]; rfl))
  replace hE : Ex g (sC (sC (sC g_649 q_543 (16 : Int32).toNatClampNeg (115 : Int32)) q_543 (17 : Int32).toNatClampNeg (107 : Int32)) q_543 (18 : Int32).toNatClampNeg (100 : Int32)) := hE
  replace hP : PF [41, 40, 39, 35, 33, 32, 31, 28, 27, 26, 25, 23, 20, 19, 18, 17, 16, 15, 14, 13, 12, 11, 10, 9, 8, 7, 6, 5, 4, 3, 2, 1, 60, 52, 51, 50, 49, 38, 37, 36, 34, 30, 29, 24, 22, 21, 0] (sC (sC (sC g_649 q_543 (16 : Int32).toNatClampNeg (115 : Int32)) q_543 (17 : Int32).toNatClampNeg (107 : Int32)) q_543 (18 : Int32).toNatClampNeg (100 : Int32)) h := hP.tC 
  have zP : ZC (sC (sC (sC g_649 q_543 (16 : Int32).toNatClampNeg (115 : Int32)) q_543 (17 : Int32).toNatClampNeg (107 : Int32)) q_543 (18 : Int32).toNatClampNeg (100 : Int32)) q_23 := zP.tC (ro_ne r_614 r_617 (by decide))
  have zN : ZC (sC (sC (sC g_649 q_543 (16 : Int32).toNatClampNeg (115 : Int32)) q_543 (17 : Int32).toNatClampNeg (107 : Int32)) q_543 (18 : Int32).toNatClampNeg (100 : Int32)) q_500 := zN.tC (ro_ne r_616 r_617 (by decide))
  refine lv_dup hx hb dX7_init_391 rfl ?_
  refine lv_bipush (v := 19) hx hb dX7_init_392 (by decide) ?_
  refine lv_bipush (v := 111) hx hb dX7_init_394 (by decide) ?_
  have i_653 : vp_in (19 : Int32) 24 := (by unfold vp_in; decide)
  refine t_iast hB hT (ro_in r_617 (by decide)) n_622 i_653 dX7_init_396 (fun H locs hT => ?_)
  replace hI : Inv (sC (sC (sC (sC g_649 q_543 (16 : Int32).toNatClampNeg (115 : Int32)) q_543 (17 : Int32).toNatClampNeg (107 : Int32)) q_543 (18 : Int32).toNatClampNeg (100 : Int32)) q_543 (19 : Int32).toNatClampNeg (111 : Int32)) := hI.sC (ck r_617 ⟨by decide, by decide⟩)
  replace hM : Sm md_k_Model g (sC (sC (sC (sC g_649 q_543 (16 : Int32).toNatClampNeg (115 : Int32)) q_543 (17 : Int32).toNatClampNeg (107 : Int32)) q_543 (18 : Int32).toNatClampNeg (100 : Int32)) q_543 (19 : Int32).toNatClampNeg (111 : Int32)) := hM.tr hE (Sm_sC (by rw [r_617]; rfl))
  replace hE : Ex g (sC (sC (sC (sC g_649 q_543 (16 : Int32).toNatClampNeg (115 : Int32)) q_543 (17 : Int32).toNatClampNeg (107 : Int32)) q_543 (18 : Int32).toNatClampNeg (100 : Int32)) q_543 (19 : Int32).toNatClampNeg (111 : Int32)) := hE
  replace hP : PF [41, 40, 39, 35, 33, 32, 31, 28, 27, 26, 25, 23, 20, 19, 18, 17, 16, 15, 14, 13, 12, 11, 10, 9, 8, 7, 6, 5, 4, 3, 2, 1, 60, 52, 51, 50, 49, 38, 37, 36, 34, 30, 29, 24, 22, 21, 0] (sC (sC (sC (sC g_649 q_543 (16 : Int32).toNatClampNeg (115 : Int32)) q_543 (17 : Int32).toNatClampNeg (107 : Int32)) q_543 (18 : Int32).toNatClampNeg (100 : Int32)) q_543 (19 : Int32).toNatClampNeg (111 : Int32)) h := hP.tC 
  have zP : ZC (sC (sC (sC (sC g_649 q_543 (16 : Int32).toNatClampNeg (115 : Int32)) q_543 (17 : Int32).toNatClampNeg (107 : Int32)) q_543 (18 : Int32).toNatClampNeg (100 : Int32)) q_543 (19 : Int32).toNatClampNeg (111 : Int32)) q_23 := zP.tC (ro_ne r_614 r_617 (by decide))
  have zN : ZC (sC (sC (sC (sC g_649 q_543 (16 : Int32).toNatClampNeg (115 : Int32)) q_543 (17 : Int32).toNatClampNeg (107 : Int32)) q_543 (18 : Int32).toNatClampNeg (100 : Int32)) q_543 (19 : Int32).toNatClampNeg (111 : Int32)) q_500 := zN.tC (ro_ne r_616 r_617 (by decide))
  refine lv_dup hx hb dX7_init_397 rfl ?_
  refine lv_bipush (v := 20) hx hb dX7_init_398 (by decide) ?_
  refine lv_iconst (v := 0) hx hb dX7_init_400 (by decide) ?_
  have i_654 : vp_in (20 : Int32) 24 := (by unfold vp_in; decide)
  refine t_iast hB hT (ro_in r_617 (by decide)) n_622 i_654 dX7_init_401 (fun H locs hT => ?_)
  replace hI : Inv (sC (sC (sC (sC (sC g_649 q_543 (16 : Int32).toNatClampNeg (115 : Int32)) q_543 (17 : Int32).toNatClampNeg (107 : Int32)) q_543 (18 : Int32).toNatClampNeg (100 : Int32)) q_543 (19 : Int32).toNatClampNeg (111 : Int32)) q_543 (20 : Int32).toNatClampNeg (0 : Int32)) := hI.sC (ck r_617 ⟨by decide, by decide⟩)
  replace hM : Sm md_k_Model g (sC (sC (sC (sC (sC g_649 q_543 (16 : Int32).toNatClampNeg (115 : Int32)) q_543 (17 : Int32).toNatClampNeg (107 : Int32)) q_543 (18 : Int32).toNatClampNeg (100 : Int32)) q_543 (19 : Int32).toNatClampNeg (111 : Int32)) q_543 (20 : Int32).toNatClampNeg (0 : Int32)) := hM.tr hE (Sm_sC (by rw [r_617]; rfl))
  replace hE : Ex g (sC (sC (sC (sC (sC g_649 q_543 (16 : Int32).toNatClampNeg (115 : Int32)) q_543 (17 : Int32).toNatClampNeg (107 : Int32)) q_543 (18 : Int32).toNatClampNeg (100 : Int32)) q_543 (19 : Int32).toNatClampNeg (111 : Int32)) q_543 (20 : Int32).toNatClampNeg (0 : Int32)) := hE
  replace hP : PF [41, 40, 39, 35, 33, 32, 31, 28, 27, 26, 25, 23, 20, 19, 18, 17, 16, 15, 14, 13, 12, 11, 10, 9, 8, 7, 6, 5, 4, 3, 2, 1, 60, 52, 51, 50, 49, 38, 37, 36, 34, 30, 29, 24, 22, 21, 0] (sC (sC (sC (sC (sC g_649 q_543 (16 : Int32).toNatClampNeg (115 : Int32)) q_543 (17 : Int32).toNatClampNeg (107 : Int32)) q_543 (18 : Int32).toNatClampNeg (100 : Int32)) q_543 (19 : Int32).toNatClampNeg (111 : Int32)) q_543 (20 : Int32).toNatClampNeg (0 : Int32)) h := hP.tC 
  have zP : ZC (sC (sC (sC (sC (sC g_649 q_543 (16 : Int32).toNatClampNeg (115 : Int32)) q_543 (17 : Int32).toNatClampNeg (107 : Int32)) q_543 (18 : Int32).toNatClampNeg (100 : Int32)) q_543 (19 : Int32).toNatClampNeg (111 : Int32)) q_543 (20 : Int32).toNatClampNeg (0 : Int32)) q_23 := zP.tC (ro_ne r_614 r_617 (by decide))
  have zN : ZC (sC (sC (sC (sC (sC g_649 q_543 (16 : Int32).toNatClampNeg (115 : Int32)) q_543 (17 : Int32).toNatClampNeg (107 : Int32)) q_543 (18 : Int32).toNatClampNeg (100 : Int32)) q_543 (19 : Int32).toNatClampNeg (111 : Int32)) q_543 (20 : Int32).toNatClampNeg (0 : Int32)) q_500 := zN.tC (ro_ne r_616 r_617 (by decide))
  refine lv_dup hx hb dX7_init_402 rfl ?_
  refine lv_bipush (v := 21) hx hb dX7_init_403 (by decide) ?_
  refine lv_bipush (v := 105) hx hb dX7_init_405 (by decide) ?_
  have i_655 : vp_in (21 : Int32) 24 := (by unfold vp_in; decide)
  refine t_iast hB hT (ro_in r_617 (by decide)) n_622 i_655 dX7_init_407 (fun H locs hT => ?_)
  replace hI : Inv (sC (sC (sC (sC (sC (sC g_649 q_543 (16 : Int32).toNatClampNeg (115 : Int32)) q_543 (17 : Int32).toNatClampNeg (107 : Int32)) q_543 (18 : Int32).toNatClampNeg (100 : Int32)) q_543 (19 : Int32).toNatClampNeg (111 : Int32)) q_543 (20 : Int32).toNatClampNeg (0 : Int32)) q_543 (21 : Int32).toNatClampNeg (105 : Int32)) := hI.sC (ck r_617 ⟨by decide, by decide⟩)
  replace hM : Sm md_k_Model g (sC (sC (sC (sC (sC (sC g_649 q_543 (16 : Int32).toNatClampNeg (115 : Int32)) q_543 (17 : Int32).toNatClampNeg (107 : Int32)) q_543 (18 : Int32).toNatClampNeg (100 : Int32)) q_543 (19 : Int32).toNatClampNeg (111 : Int32)) q_543 (20 : Int32).toNatClampNeg (0 : Int32)) q_543 (21 : Int32).toNatClampNeg (105 : Int32)) := hM.tr hE (Sm_sC (by rw [r_617]; rfl))
  replace hE : Ex g (sC (sC (sC (sC (sC (sC g_649 q_543 (16 : Int32).toNatClampNeg (115 : Int32)) q_543 (17 : Int32).toNatClampNeg (107 : Int32)) q_543 (18 : Int32).toNatClampNeg (100 : Int32)) q_543 (19 : Int32).toNatClampNeg (111 : Int32)) q_543 (20 : Int32).toNatClampNeg (0 : Int32)) q_543 (21 : Int32).toNatClampNeg (105 : Int32)) := hE
  replace hP : PF [41, 40, 39, 35, 33, 32, 31, 28, 27, 26, 25, 23, 20, 19, 18, 17, 16, 15, 14, 13, 12, 11, 10, 9, 8, 7, 6, 5, 4, 3, 2, 1, 60, 52, 51, 50, 49, 38, 37, 36, 34, 30, 29, 24, 22, 21, 0] (sC (sC (sC (sC (sC (sC g_649 q_543 (16 : Int32).toNatClampNeg (115 : Int32)) q_543 (17 : Int32).toNatClampNeg (107 : Int32)) q_543 (18 : Int32).toNatClampNeg (100 : Int32)) q_543 (19 : Int32).toNatClampNeg (111 : Int32)) q_543 (20 : Int32).toNatClampNeg (0 : Int32)) q_543 (21 : Int32).toNatClampNeg (105 : Int32)) h := hP.tC 
  have zP : ZC (sC (sC (sC (sC (sC (sC g_649 q_543 (16 : Int32).toNatClampNeg (115 : Int32)) q_543 (17 : Int32).toNatClampNeg (107 : Int32)) q_543 (18 : Int32).toNatClampNeg (100 : Int32)) q_543 (19 : Int32).toNatClampNeg (111 : Int32)) q_543 (20 : Int32).toNatClampNeg (0 : Int32)) q_543 (21 : Int32).toNatClampNeg (105 : Int32)) q_23 := zP.tC (ro_ne r_614 r_617 (by decide))
  have zN : ZC (sC (sC (sC (sC (sC (sC g_649 q_543 (16 : Int32).toNatClampNeg (115 : Int32)) q_543 (17 : Int32).toNatClampNeg (107 : Int32)) q_543 (18 : Int32).toNatClampNeg (100 : Int32)) q_543 (19 : Int32).toNatClampNeg (111 : Int32)) q_543 (20 : Int32).toNatClampNeg (0 : Int32)) q_543 (21 : Int32).toNatClampNeg (105 : Int32)) q_500 := zN.tC (ro_ne r_616 r_617 (by decide))
  refine lv_dup hx hb dX7_init_408 rfl ?_
  refine lv_bipush (v := 22) hx hb dX7_init_409 (by decide) ?_
  refine lv_bipush (v := 102) hx hb dX7_init_411 (by decide) ?_
  have i_656 : vp_in (22 : Int32) 24 := (by unfold vp_in; decide)
  refine t_iast hB hT (ro_in r_617 (by decide)) n_622 i_656 dX7_init_413 (fun H locs hT => ?_)
  replace hI : Inv (sC (sC (sC (sC (sC (sC (sC g_649 q_543 (16 : Int32).toNatClampNeg (115 : Int32)) q_543 (17 : Int32).toNatClampNeg (107 : Int32)) q_543 (18 : Int32).toNatClampNeg (100 : Int32)) q_543 (19 : Int32).toNatClampNeg (111 : Int32)) q_543 (20 : Int32).toNatClampNeg (0 : Int32)) q_543 (21 : Int32).toNatClampNeg (105 : Int32)) q_543 (22 : Int32).toNatClampNeg (102 : Int32)) := hI.sC (ck r_617 ⟨by decide, by decide⟩)
  replace hM : Sm md_k_Model g (sC (sC (sC (sC (sC (sC (sC g_649 q_543 (16 : Int32).toNatClampNeg (115 : Int32)) q_543 (17 : Int32).toNatClampNeg (107 : Int32)) q_543 (18 : Int32).toNatClampNeg (100 : Int32)) q_543 (19 : Int32).toNatClampNeg (111 : Int32)) q_543 (20 : Int32).toNatClampNeg (0 : Int32)) q_543 (21 : Int32).toNatClampNeg (105 : Int32)) q_543 (22 : Int32).toNatClampNeg (102 : Int32)) := hM.tr hE (Sm_sC (by rw [r_617]; rfl))
  replace hE : Ex g (sC (sC (sC (sC (sC (sC (sC g_649 q_543 (16 : Int32).toNatClampNeg (115 : Int32)) q_543 (17 : Int32).toNatClampNeg (107 : Int32)) q_543 (18 : Int32).toNatClampNeg (100 : Int32)) q_543 (19 : Int32).toNatClampNeg (111 : Int32)) q_543 (20 : Int32).toNatClampNeg (0 : Int32)) q_543 (21 : Int32).toNatClampNeg (105 : Int32)) q_543 (22 : Int32).toNatClampNeg (102 : Int32)) := hE
  replace hP : PF [41, 40, 39, 35, 33, 32, 31, 28, 27, 26, 25, 23, 20, 19, 18, 17, 16, 15, 14, 13, 12, 11, 10, 9, 8, 7, 6, 5, 4, 3, 2, 1, 60, 52, 51, 50, 49, 38, 37, 36, 34, 30, 29, 24, 22, 21, 0] (sC (sC (sC (sC (sC (sC (sC g_649 q_543 (16 : Int32).toNatClampNeg (115 : Int32)) q_543 (17 : Int32).toNatClampNeg (107 : Int32)) q_543 (18 : Int32).toNatClampNeg (100 : Int32)) q_543 (19 : Int32).toNatClampNeg (111 : Int32)) q_543 (20 : Int32).toNatClampNeg (0 : Int32)) q_543 (21 : Int32).toNatClampNeg (105 : Int32)) q_543 (22 : Int32).toNatClampNeg (102 : Int32)) h := hP.tC 
  have zP : ZC (sC (sC (sC (sC (sC (sC (sC g_649 q_543 (16 : Int32).toNatClampNeg (115 : Int32)) q_543 (17 : Int32).toNatClampNeg (107 : Int32)) q_543 (18 : Int32).toNatClampNeg (100 : Int32)) q_543 (19 : Int32).toNatClampNeg (111 : Int32)) q_543 (20 : Int32).toNatClampNeg (0 : Int32)) q_543 (21 : Int32).toNatClampNeg (105 : Int32)) q_543 (22 : Int32).toNatClampNeg (102 : Int32)) q_23 := zP.tC (ro_ne r_614 r_617 (by decide))
  have zN : ZC (sC (sC (sC (sC (sC (sC (sC g_649 q_543 (16 : Int32).toNatClampNeg (115 : Int32)) q_543 (17 : Int32).toNatClampNeg (107 : Int32)) q_543 (18 : Int32).toNatClampNeg (100 : Int32)) q_543 (19 : Int32).toNatClampNeg (111 : Int32)) q_543 (20 : Int32).toNatClampNeg (0 : Int32)) q_543 (21 : Int32).toNatClampNeg (105 : Int32)) q_543 (22 : Int32).toNatClampNeg (102 : Int32)) q_500 := zN.tC (ro_ne r_616 r_617 (by decide))
  refine lv_dup hx hb dX7_init_414 rfl ?_
  refine lv_bipush (v := 23) hx hb dX7_init_415 (by decide) ?_
  refine lv_iconst (v := 0) hx hb dX7_init_417 (by decide) ?_
  have i_657 : vp_in (23 : Int32) 24 := (by unfold vp_in; decide)
  refine t_iast hB hT (ro_in r_617 (by decide)) n_622 i_657 dX7_init_418 (fun H locs hT => ?_)
  replace hI : Inv (sC (sC (sC (sC (sC (sC (sC (sC g_649 q_543 (16 : Int32).toNatClampNeg (115 : Int32)) q_543 (17 : Int32).toNatClampNeg (107 : Int32)) q_543 (18 : Int32).toNatClampNeg (100 : Int32)) q_543 (19 : Int32).toNatClampNeg (111 : Int32)) q_543 (20 : Int32).toNatClampNeg (0 : Int32)) q_543 (21 : Int32).toNatClampNeg (105 : Int32)) q_543 (22 : Int32).toNatClampNeg (102 : Int32)) q_543 (23 : Int32).toNatClampNeg (0 : Int32)) := hI.sC (ck r_617 ⟨by decide, by decide⟩)
  replace hM : Sm md_k_Model g (sC (sC (sC (sC (sC (sC (sC (sC g_649 q_543 (16 : Int32).toNatClampNeg (115 : Int32)) q_543 (17 : Int32).toNatClampNeg (107 : Int32)) q_543 (18 : Int32).toNatClampNeg (100 : Int32)) q_543 (19 : Int32).toNatClampNeg (111 : Int32)) q_543 (20 : Int32).toNatClampNeg (0 : Int32)) q_543 (21 : Int32).toNatClampNeg (105 : Int32)) q_543 (22 : Int32).toNatClampNeg (102 : Int32)) q_543 (23 : Int32).toNatClampNeg (0 : Int32)) := hM.tr hE (Sm_sC (by rw [r_617]; rfl))
  replace hE : Ex g (sC (sC (sC (sC (sC (sC (sC (sC g_649 q_543 (16 : Int32).toNatClampNeg (115 : Int32)) q_543 (17 : Int32).toNatClampNeg (107 : Int32)) q_543 (18 : Int32).toNatClampNeg (100 : Int32)) q_543 (19 : Int32).toNatClampNeg (111 : Int32)) q_543 (20 : Int32).toNatClampNeg (0 : Int32)) q_543 (21 : Int32).toNatClampNeg (105 : Int32)) q_543 (22 : Int32).toNatClampNeg (102 : Int32)) q_543 (23 : Int32).toNatClampNeg (0 : Int32)) := hE
  replace hP : PF [41, 40, 39, 35, 33, 32, 31, 28, 27, 26, 25, 23, 20, 19, 18, 17, 16, 15, 14, 13, 12, 11, 10, 9, 8, 7, 6, 5, 4, 3, 2, 1, 60, 52, 51, 50, 49, 38, 37, 36, 34, 30, 29, 24, 22, 21, 0] (sC (sC (sC (sC (sC (sC (sC (sC g_649 q_543 (16 : Int32).toNatClampNeg (115 : Int32)) q_543 (17 : Int32).toNatClampNeg (107 : Int32)) q_543 (18 : Int32).toNatClampNeg (100 : Int32)) q_543 (19 : Int32).toNatClampNeg (111 : Int32)) q_543 (20 : Int32).toNatClampNeg (0 : Int32)) q_543 (21 : Int32).toNatClampNeg (105 : Int32)) q_543 (22 : Int32).toNatClampNeg (102 : Int32)) q_543 (23 : Int32).toNatClampNeg (0 : Int32)) h := hP.tC 
  have zP : ZC (sC (sC (sC (sC (sC (sC (sC (sC g_649 q_543 (16 : Int32).toNatClampNeg (115 : Int32)) q_543 (17 : Int32).toNatClampNeg (107 : Int32)) q_543 (18 : Int32).toNatClampNeg (100 : Int32)) q_543 (19 : Int32).toNatClampNeg (111 : Int32)) q_543 (20 : Int32).toNatClampNeg (0 : Int32)) q_543 (21 : Int32).toNatClampNeg (105 : Int32)) q_543 (22 : Int32).toNatClampNeg (102 : Int32)) q_543 (23 : Int32).toNatClampNeg (0 : Int32)) q_23 := zP.tC (ro_ne r_614 r_617 (by decide))
  have zN : ZC (sC (sC (sC (sC (sC (sC (sC (sC g_649 q_543 (16 : Int32).toNatClampNeg (115 : Int32)) q_543 (17 : Int32).toNatClampNeg (107 : Int32)) q_543 (18 : Int32).toNatClampNeg (100 : Int32)) q_543 (19 : Int32).toNatClampNeg (111 : Int32)) q_543 (20 : Int32).toNatClampNeg (0 : Int32)) q_543 (21 : Int32).toNatClampNeg (105 : Int32)) q_543 (22 : Int32).toNatClampNeg (102 : Int32)) q_543 (23 : Int32).toNatClampNeg (0 : Int32)) q_500 := zN.tC (ro_ne r_616 r_617 (by decide))
  have r_658 : (sC (sC (sC (sC (sC (sC (sC (sC g_649 q_543 (16 : Int32).toNatClampNeg (115 : Int32)) q_543 (17 : Int32).toNatClampNeg (107 : Int32)) q_543 (18 : Int32).toNatClampNeg (100 : Int32)) q_543 (19 : Int32).toNatClampNeg (111 : Int32)) q_543 (20 : Int32).toNatClampNeg (0 : Int32)) q_543 (21 : Int32).toNatClampNeg (105 : Int32)) q_543 (22 : Int32).toNatClampNeg (102 : Int32)) q_543 (23 : Int32).toNatClampNeg (0 : Int32)).1 h = 18 := r_612
  have r_659 : (sC (sC (sC (sC (sC (sC (sC (sC g_649 q_543 (16 : Int32).toNatClampNeg (115 : Int32)) q_543 (17 : Int32).toNatClampNeg (107 : Int32)) q_543 (18 : Int32).toNatClampNeg (100 : Int32)) q_543 (19 : Int32).toNatClampNeg (111 : Int32)) q_543 (20 : Int32).toNatClampNeg (0 : Int32)) q_543 (21 : Int32).toNatClampNeg (105 : Int32)) q_543 (22 : Int32).toNatClampNeg (102 : Int32)) q_543 (23 : Int32).toNatClampNeg (0 : Int32)).1 q_12 = 71 := r_613
  have r_660 : (sC (sC (sC (sC (sC (sC (sC (sC g_649 q_543 (16 : Int32).toNatClampNeg (115 : Int32)) q_543 (17 : Int32).toNatClampNeg (107 : Int32)) q_543 (18 : Int32).toNatClampNeg (100 : Int32)) q_543 (19 : Int32).toNatClampNeg (111 : Int32)) q_543 (20 : Int32).toNatClampNeg (0 : Int32)) q_543 (21 : Int32).toNatClampNeg (105 : Int32)) q_543 (22 : Int32).toNatClampNeg (102 : Int32)) q_543 (23 : Int32).toNatClampNeg (0 : Int32)).1 q_23 = 72 := r_614
  have r_661 : (sC (sC (sC (sC (sC (sC (sC (sC g_649 q_543 (16 : Int32).toNatClampNeg (115 : Int32)) q_543 (17 : Int32).toNatClampNeg (107 : Int32)) q_543 (18 : Int32).toNatClampNeg (100 : Int32)) q_543 (19 : Int32).toNatClampNeg (111 : Int32)) q_543 (20 : Int32).toNatClampNeg (0 : Int32)) q_543 (21 : Int32).toNatClampNeg (105 : Int32)) q_543 (22 : Int32).toNatClampNeg (102 : Int32)) q_543 (23 : Int32).toNatClampNeg (0 : Int32)).1 q_483 = 84 := r_615
  have r_662 : (sC (sC (sC (sC (sC (sC (sC (sC g_649 q_543 (16 : Int32).toNatClampNeg (115 : Int32)) q_543 (17 : Int32).toNatClampNeg (107 : Int32)) q_543 (18 : Int32).toNatClampNeg (100 : Int32)) q_543 (19 : Int32).toNatClampNeg (111 : Int32)) q_543 (20 : Int32).toNatClampNeg (0 : Int32)) q_543 (21 : Int32).toNatClampNeg (105 : Int32)) q_543 (22 : Int32).toNatClampNeg (102 : Int32)) q_543 (23 : Int32).toNatClampNeg (0 : Int32)).1 q_500 = 85 := r_616
  have r_663 : (sC (sC (sC (sC (sC (sC (sC (sC g_649 q_543 (16 : Int32).toNatClampNeg (115 : Int32)) q_543 (17 : Int32).toNatClampNeg (107 : Int32)) q_543 (18 : Int32).toNatClampNeg (100 : Int32)) q_543 (19 : Int32).toNatClampNeg (111 : Int32)) q_543 (20 : Int32).toNatClampNeg (0 : Int32)) q_543 (21 : Int32).toNatClampNeg (105 : Int32)) q_543 (22 : Int32).toNatClampNeg (102 : Int32)) q_543 (23 : Int32).toNatClampNeg (0 : Int32)).1 q_543 = 87 := r_617
  have n_664 : (sC (sC (sC (sC (sC (sC (sC (sC g_649 q_543 (16 : Int32).toNatClampNeg (115 : Int32)) q_543 (17 : Int32).toNatClampNeg (107 : Int32)) q_543 (18 : Int32).toNatClampNeg (100 : Int32)) q_543 (19 : Int32).toNatClampNeg (111 : Int32)) q_543 (20 : Int32).toNatClampNeg (0 : Int32)) q_543 (21 : Int32).toNatClampNeg (105 : Int32)) q_543 (22 : Int32).toNatClampNeg (102 : Int32)) q_543 (23 : Int32).toNatClampNeg (0 : Int32)).2.2.1 q_12 = 48 := n_618
  have n_665 : (sC (sC (sC (sC (sC (sC (sC (sC g_649 q_543 (16 : Int32).toNatClampNeg (115 : Int32)) q_543 (17 : Int32).toNatClampNeg (107 : Int32)) q_543 (18 : Int32).toNatClampNeg (100 : Int32)) q_543 (19 : Int32).toNatClampNeg (111 : Int32)) q_543 (20 : Int32).toNatClampNeg (0 : Int32)) q_543 (21 : Int32).toNatClampNeg (105 : Int32)) q_543 (22 : Int32).toNatClampNeg (102 : Int32)) q_543 (23 : Int32).toNatClampNeg (0 : Int32)).2.2.1 q_23 = 48 := n_619
  have n_666 : (sC (sC (sC (sC (sC (sC (sC (sC g_649 q_543 (16 : Int32).toNatClampNeg (115 : Int32)) q_543 (17 : Int32).toNatClampNeg (107 : Int32)) q_543 (18 : Int32).toNatClampNeg (100 : Int32)) q_543 (19 : Int32).toNatClampNeg (111 : Int32)) q_543 (20 : Int32).toNatClampNeg (0 : Int32)) q_543 (21 : Int32).toNatClampNeg (105 : Int32)) q_543 (22 : Int32).toNatClampNeg (102 : Int32)) q_543 (23 : Int32).toNatClampNeg (0 : Int32)).2.2.1 q_483 = 8 := n_620
  have n_667 : (sC (sC (sC (sC (sC (sC (sC (sC g_649 q_543 (16 : Int32).toNatClampNeg (115 : Int32)) q_543 (17 : Int32).toNatClampNeg (107 : Int32)) q_543 (18 : Int32).toNatClampNeg (100 : Int32)) q_543 (19 : Int32).toNatClampNeg (111 : Int32)) q_543 (20 : Int32).toNatClampNeg (0 : Int32)) q_543 (21 : Int32).toNatClampNeg (105 : Int32)) q_543 (22 : Int32).toNatClampNeg (102 : Int32)) q_543 (23 : Int32).toNatClampNeg (0 : Int32)).2.2.1 q_500 = 8 := n_621
  have n_668 : (sC (sC (sC (sC (sC (sC (sC (sC g_649 q_543 (16 : Int32).toNatClampNeg (115 : Int32)) q_543 (17 : Int32).toNatClampNeg (107 : Int32)) q_543 (18 : Int32).toNatClampNeg (100 : Int32)) q_543 (19 : Int32).toNatClampNeg (111 : Int32)) q_543 (20 : Int32).toNatClampNeg (0 : Int32)) q_543 (21 : Int32).toNatClampNeg (105 : Int32)) q_543 (22 : Int32).toNatClampNeg (102 : Int32)) q_543 (23 : Int32).toNatClampNeg (0 : Int32)).2.2.1 q_543 = 24 := n_622
  have kn_669 : (sC (sC (sC (sC (sC (sC (sC (sC g_649 q_543 (16 : Int32).toNatClampNeg (115 : Int32)) q_543 (17 : Int32).toNatClampNeg (107 : Int32)) q_543 (18 : Int32).toNatClampNeg (100 : Int32)) q_543 (19 : Int32).toNatClampNeg (111 : Int32)) q_543 (20 : Int32).toNatClampNeg (0 : Int32)) q_543 (21 : Int32).toNatClampNeg (105 : Int32)) q_543 (22 : Int32).toNatClampNeg (102 : Int32)) q_543 (23 : Int32).toNatClampNeg (0 : Int32)).2.1 h 0 = .int 0 := kn_623
  have kn_670 : (sC (sC (sC (sC (sC (sC (sC (sC g_649 q_543 (16 : Int32).toNatClampNeg (115 : Int32)) q_543 (17 : Int32).toNatClampNeg (107 : Int32)) q_543 (18 : Int32).toNatClampNeg (100 : Int32)) q_543 (19 : Int32).toNatClampNeg (111 : Int32)) q_543 (20 : Int32).toNatClampNeg (0 : Int32)) q_543 (21 : Int32).toNatClampNeg (105 : Int32)) q_543 (22 : Int32).toNatClampNeg (102 : Int32)) q_543 (23 : Int32).toNatClampNeg (0 : Int32)).2.1 h 22 = .int 0 := kn_624
  have kn_671 : (sC (sC (sC (sC (sC (sC (sC (sC g_649 q_543 (16 : Int32).toNatClampNeg (115 : Int32)) q_543 (17 : Int32).toNatClampNeg (107 : Int32)) q_543 (18 : Int32).toNatClampNeg (100 : Int32)) q_543 (19 : Int32).toNatClampNeg (111 : Int32)) q_543 (20 : Int32).toNatClampNeg (0 : Int32)) q_543 (21 : Int32).toNatClampNeg (105 : Int32)) q_543 (22 : Int32).toNatClampNeg (102 : Int32)) q_543 (23 : Int32).toNatClampNeg (0 : Int32)).2.1 h 24 = .int 0 := kn_625
  have kn_672 : (sC (sC (sC (sC (sC (sC (sC (sC g_649 q_543 (16 : Int32).toNatClampNeg (115 : Int32)) q_543 (17 : Int32).toNatClampNeg (107 : Int32)) q_543 (18 : Int32).toNatClampNeg (100 : Int32)) q_543 (19 : Int32).toNatClampNeg (111 : Int32)) q_543 (20 : Int32).toNatClampNeg (0 : Int32)) q_543 (21 : Int32).toNatClampNeg (105 : Int32)) q_543 (22 : Int32).toNatClampNeg (102 : Int32)) q_543 (23 : Int32).toNatClampNeg (0 : Int32)).2.1 h 29 = .int 0 := kn_626
  have kn_673 : (sC (sC (sC (sC (sC (sC (sC (sC g_649 q_543 (16 : Int32).toNatClampNeg (115 : Int32)) q_543 (17 : Int32).toNatClampNeg (107 : Int32)) q_543 (18 : Int32).toNatClampNeg (100 : Int32)) q_543 (19 : Int32).toNatClampNeg (111 : Int32)) q_543 (20 : Int32).toNatClampNeg (0 : Int32)) q_543 (21 : Int32).toNatClampNeg (105 : Int32)) q_543 (22 : Int32).toNatClampNeg (102 : Int32)) q_543 (23 : Int32).toNatClampNeg (0 : Int32)).2.1 h 30 = .int 0 := kn_627
  have kn_674 : (sC (sC (sC (sC (sC (sC (sC (sC g_649 q_543 (16 : Int32).toNatClampNeg (115 : Int32)) q_543 (17 : Int32).toNatClampNeg (107 : Int32)) q_543 (18 : Int32).toNatClampNeg (100 : Int32)) q_543 (19 : Int32).toNatClampNeg (111 : Int32)) q_543 (20 : Int32).toNatClampNeg (0 : Int32)) q_543 (21 : Int32).toNatClampNeg (105 : Int32)) q_543 (22 : Int32).toNatClampNeg (102 : Int32)) q_543 (23 : Int32).toNatClampNeg (0 : Int32)).2.1 h 34 = .int 0 := kn_628
  have kn_675 : (sC (sC (sC (sC (sC (sC (sC (sC g_649 q_543 (16 : Int32).toNatClampNeg (115 : Int32)) q_543 (17 : Int32).toNatClampNeg (107 : Int32)) q_543 (18 : Int32).toNatClampNeg (100 : Int32)) q_543 (19 : Int32).toNatClampNeg (111 : Int32)) q_543 (20 : Int32).toNatClampNeg (0 : Int32)) q_543 (21 : Int32).toNatClampNeg (105 : Int32)) q_543 (22 : Int32).toNatClampNeg (102 : Int32)) q_543 (23 : Int32).toNatClampNeg (0 : Int32)).2.1 h 2 = .ref q_12 := kn_629
  have kn_676 : (sC (sC (sC (sC (sC (sC (sC (sC g_649 q_543 (16 : Int32).toNatClampNeg (115 : Int32)) q_543 (17 : Int32).toNatClampNeg (107 : Int32)) q_543 (18 : Int32).toNatClampNeg (100 : Int32)) q_543 (19 : Int32).toNatClampNeg (111 : Int32)) q_543 (20 : Int32).toNatClampNeg (0 : Int32)) q_543 (21 : Int32).toNatClampNeg (105 : Int32)) q_543 (22 : Int32).toNatClampNeg (102 : Int32)) q_543 (23 : Int32).toNatClampNeg (0 : Int32)).2.1 h 3 = .ref q_23 := kn_630
  have kn_677 : (sC (sC (sC (sC (sC (sC (sC (sC g_649 q_543 (16 : Int32).toNatClampNeg (115 : Int32)) q_543 (17 : Int32).toNatClampNeg (107 : Int32)) q_543 (18 : Int32).toNatClampNeg (100 : Int32)) q_543 (19 : Int32).toNatClampNeg (111 : Int32)) q_543 (20 : Int32).toNatClampNeg (0 : Int32)) q_543 (21 : Int32).toNatClampNeg (105 : Int32)) q_543 (22 : Int32).toNatClampNeg (102 : Int32)) q_543 (23 : Int32).toNatClampNeg (0 : Int32)).2.1 h 39 = .ref q_483 := kn_631
  have kn_678 : (sC (sC (sC (sC (sC (sC (sC (sC g_649 q_543 (16 : Int32).toNatClampNeg (115 : Int32)) q_543 (17 : Int32).toNatClampNeg (107 : Int32)) q_543 (18 : Int32).toNatClampNeg (100 : Int32)) q_543 (19 : Int32).toNatClampNeg (111 : Int32)) q_543 (20 : Int32).toNatClampNeg (0 : Int32)) q_543 (21 : Int32).toNatClampNeg (105 : Int32)) q_543 (22 : Int32).toNatClampNeg (102 : Int32)) q_543 (23 : Int32).toNatClampNeg (0 : Int32)).2.1 h 40 = .ref q_500 := kn_632
  have kn_679 : (sC (sC (sC (sC (sC (sC (sC (sC g_649 q_543 (16 : Int32).toNatClampNeg (115 : Int32)) q_543 (17 : Int32).toNatClampNeg (107 : Int32)) q_543 (18 : Int32).toNatClampNeg (100 : Int32)) q_543 (19 : Int32).toNatClampNeg (111 : Int32)) q_543 (20 : Int32).toNatClampNeg (0 : Int32)) q_543 (21 : Int32).toNatClampNeg (105 : Int32)) q_543 (22 : Int32).toNatClampNeg (102 : Int32)) q_543 (23 : Int32).toNatClampNeg (0 : Int32)).2.2.2.1 q_543 (0 : Int32).toNatClampNeg = 115 := (sC_i (sC_i (sC_i (sC_i (sC_i (sC_i (sC_i (sC_i kn_633 (by decide)) (by decide)) (by decide)) (by decide)) (by decide)) (by decide)) (by decide)) (by decide))
  have kn_680 : (sC (sC (sC (sC (sC (sC (sC (sC g_649 q_543 (16 : Int32).toNatClampNeg (115 : Int32)) q_543 (17 : Int32).toNatClampNeg (107 : Int32)) q_543 (18 : Int32).toNatClampNeg (100 : Int32)) q_543 (19 : Int32).toNatClampNeg (111 : Int32)) q_543 (20 : Int32).toNatClampNeg (0 : Int32)) q_543 (21 : Int32).toNatClampNeg (105 : Int32)) q_543 (22 : Int32).toNatClampNeg (102 : Int32)) q_543 (23 : Int32).toNatClampNeg (0 : Int32)).2.2.2.1 q_543 (1 : Int32).toNatClampNeg = 101 := (sC_i (sC_i (sC_i (sC_i (sC_i (sC_i (sC_i (sC_i kn_634 (by decide)) (by decide)) (by decide)) (by decide)) (by decide)) (by decide)) (by decide)) (by decide))
  have kn_681 : (sC (sC (sC (sC (sC (sC (sC (sC g_649 q_543 (16 : Int32).toNatClampNeg (115 : Int32)) q_543 (17 : Int32).toNatClampNeg (107 : Int32)) q_543 (18 : Int32).toNatClampNeg (100 : Int32)) q_543 (19 : Int32).toNatClampNeg (111 : Int32)) q_543 (20 : Int32).toNatClampNeg (0 : Int32)) q_543 (21 : Int32).toNatClampNeg (105 : Int32)) q_543 (22 : Int32).toNatClampNeg (102 : Int32)) q_543 (23 : Int32).toNatClampNeg (0 : Int32)).2.2.2.1 q_543 (2 : Int32).toNatClampNeg = 116 := (sC_i (sC_i (sC_i (sC_i (sC_i (sC_i (sC_i (sC_i kn_635 (by decide)) (by decide)) (by decide)) (by decide)) (by decide)) (by decide)) (by decide)) (by decide))
  have kn_682 : (sC (sC (sC (sC (sC (sC (sC (sC g_649 q_543 (16 : Int32).toNatClampNeg (115 : Int32)) q_543 (17 : Int32).toNatClampNeg (107 : Int32)) q_543 (18 : Int32).toNatClampNeg (100 : Int32)) q_543 (19 : Int32).toNatClampNeg (111 : Int32)) q_543 (20 : Int32).toNatClampNeg (0 : Int32)) q_543 (21 : Int32).toNatClampNeg (105 : Int32)) q_543 (22 : Int32).toNatClampNeg (102 : Int32)) q_543 (23 : Int32).toNatClampNeg (0 : Int32)).2.2.2.1 q_543 (3 : Int32).toNatClampNeg = 97 := (sC_i (sC_i (sC_i (sC_i (sC_i (sC_i (sC_i (sC_i kn_636 (by decide)) (by decide)) (by decide)) (by decide)) (by decide)) (by decide)) (by decide)) (by decide))
  have kn_683 : (sC (sC (sC (sC (sC (sC (sC (sC g_649 q_543 (16 : Int32).toNatClampNeg (115 : Int32)) q_543 (17 : Int32).toNatClampNeg (107 : Int32)) q_543 (18 : Int32).toNatClampNeg (100 : Int32)) q_543 (19 : Int32).toNatClampNeg (111 : Int32)) q_543 (20 : Int32).toNatClampNeg (0 : Int32)) q_543 (21 : Int32).toNatClampNeg (105 : Int32)) q_543 (22 : Int32).toNatClampNeg (102 : Int32)) q_543 (23 : Int32).toNatClampNeg (0 : Int32)).2.2.2.1 q_543 (4 : Int32).toNatClampNeg = 100 := (sC_i (sC_i (sC_i (sC_i (sC_i (sC_i (sC_i (sC_i kn_637 (by decide)) (by decide)) (by decide)) (by decide)) (by decide)) (by decide)) (by decide)) (by decide))
  have kn_684 : (sC (sC (sC (sC (sC (sC (sC (sC g_649 q_543 (16 : Int32).toNatClampNeg (115 : Int32)) q_543 (17 : Int32).toNatClampNeg (107 : Int32)) q_543 (18 : Int32).toNatClampNeg (100 : Int32)) q_543 (19 : Int32).toNatClampNeg (111 : Int32)) q_543 (20 : Int32).toNatClampNeg (0 : Int32)) q_543 (21 : Int32).toNatClampNeg (105 : Int32)) q_543 (22 : Int32).toNatClampNeg (102 : Int32)) q_543 (23 : Int32).toNatClampNeg (0 : Int32)).2.2.2.1 q_543 (5 : Int32).toNatClampNeg = 100 := (sC_i (sC_i (sC_i (sC_i (sC_i (sC_i (sC_i (sC_i kn_638 (by decide)) (by decide)) (by decide)) (by decide)) (by decide)) (by decide)) (by decide)) (by decide))
  have kn_685 : (sC (sC (sC (sC (sC (sC (sC (sC g_649 q_543 (16 : Int32).toNatClampNeg (115 : Int32)) q_543 (17 : Int32).toNatClampNeg (107 : Int32)) q_543 (18 : Int32).toNatClampNeg (100 : Int32)) q_543 (19 : Int32).toNatClampNeg (111 : Int32)) q_543 (20 : Int32).toNatClampNeg (0 : Int32)) q_543 (21 : Int32).toNatClampNeg (105 : Int32)) q_543 (22 : Int32).toNatClampNeg (102 : Int32)) q_543 (23 : Int32).toNatClampNeg (0 : Int32)).2.2.2.1 q_543 (6 : Int32).toNatClampNeg = 109 := (sC_i (sC_i (sC_i (sC_i (sC_i (sC_i (sC_i (sC_i kn_639 (by decide)) (by decide)) (by decide)) (by decide)) (by decide)) (by decide)) (by decide)) (by decide))
  have kn_686 : (sC (sC (sC (sC (sC (sC (sC (sC g_649 q_543 (16 : Int32).toNatClampNeg (115 : Int32)) q_543 (17 : Int32).toNatClampNeg (107 : Int32)) q_543 (18 : Int32).toNatClampNeg (100 : Int32)) q_543 (19 : Int32).toNatClampNeg (111 : Int32)) q_543 (20 : Int32).toNatClampNeg (0 : Int32)) q_543 (21 : Int32).toNatClampNeg (105 : Int32)) q_543 (22 : Int32).toNatClampNeg (102 : Int32)) q_543 (23 : Int32).toNatClampNeg (0 : Int32)).2.2.2.1 q_543 (7 : Int32).toNatClampNeg = 97 := (sC_i (sC_i (sC_i (sC_i (sC_i (sC_i (sC_i (sC_i kn_640 (by decide)) (by decide)) (by decide)) (by decide)) (by decide)) (by decide)) (by decide)) (by decide))
  have kn_687 : (sC (sC (sC (sC (sC (sC (sC (sC g_649 q_543 (16 : Int32).toNatClampNeg (115 : Int32)) q_543 (17 : Int32).toNatClampNeg (107 : Int32)) q_543 (18 : Int32).toNatClampNeg (100 : Int32)) q_543 (19 : Int32).toNatClampNeg (111 : Int32)) q_543 (20 : Int32).toNatClampNeg (0 : Int32)) q_543 (21 : Int32).toNatClampNeg (105 : Int32)) q_543 (22 : Int32).toNatClampNeg (102 : Int32)) q_543 (23 : Int32).toNatClampNeg (0 : Int32)).2.2.2.1 q_543 (8 : Int32).toNatClampNeg = 120 := (sC_i (sC_i (sC_i (sC_i (sC_i (sC_i (sC_i (sC_i kn_641 (by decide)) (by decide)) (by decide)) (by decide)) (by decide)) (by decide)) (by decide)) (by decide))
  have kn_688 : (sC (sC (sC (sC (sC (sC (sC (sC g_649 q_543 (16 : Int32).toNatClampNeg (115 : Int32)) q_543 (17 : Int32).toNatClampNeg (107 : Int32)) q_543 (18 : Int32).toNatClampNeg (100 : Int32)) q_543 (19 : Int32).toNatClampNeg (111 : Int32)) q_543 (20 : Int32).toNatClampNeg (0 : Int32)) q_543 (21 : Int32).toNatClampNeg (105 : Int32)) q_543 (22 : Int32).toNatClampNeg (102 : Int32)) q_543 (23 : Int32).toNatClampNeg (0 : Int32)).2.2.2.1 q_543 (9 : Int32).toNatClampNeg = 110 := (sC_i (sC_i (sC_i (sC_i (sC_i (sC_i (sC_i (sC_i kn_642 (by decide)) (by decide)) (by decide)) (by decide)) (by decide)) (by decide)) (by decide)) (by decide))
  have kn_689 : (sC (sC (sC (sC (sC (sC (sC (sC g_649 q_543 (16 : Int32).toNatClampNeg (115 : Int32)) q_543 (17 : Int32).toNatClampNeg (107 : Int32)) q_543 (18 : Int32).toNatClampNeg (100 : Int32)) q_543 (19 : Int32).toNatClampNeg (111 : Int32)) q_543 (20 : Int32).toNatClampNeg (0 : Int32)) q_543 (21 : Int32).toNatClampNeg (105 : Int32)) q_543 (22 : Int32).toNatClampNeg (102 : Int32)) q_543 (23 : Int32).toNatClampNeg (0 : Int32)).2.2.2.1 q_543 (10 : Int32).toNatClampNeg = 101 := (sC_i (sC_i (sC_i (sC_i (sC_i (sC_i (sC_i (sC_i kn_643 (by decide)) (by decide)) (by decide)) (by decide)) (by decide)) (by decide)) (by decide)) (by decide))
  have kn_690 : (sC (sC (sC (sC (sC (sC (sC (sC g_649 q_543 (16 : Int32).toNatClampNeg (115 : Int32)) q_543 (17 : Int32).toNatClampNeg (107 : Int32)) q_543 (18 : Int32).toNatClampNeg (100 : Int32)) q_543 (19 : Int32).toNatClampNeg (111 : Int32)) q_543 (20 : Int32).toNatClampNeg (0 : Int32)) q_543 (21 : Int32).toNatClampNeg (105 : Int32)) q_543 (22 : Int32).toNatClampNeg (102 : Int32)) q_543 (23 : Int32).toNatClampNeg (0 : Int32)).2.2.2.1 q_543 (11 : Int32).toNatClampNeg = 119 := (sC_i (sC_i (sC_i (sC_i (sC_i (sC_i (sC_i (sC_i kn_644 (by decide)) (by decide)) (by decide)) (by decide)) (by decide)) (by decide)) (by decide)) (by decide))
  have kn_691 : (sC (sC (sC (sC (sC (sC (sC (sC g_649 q_543 (16 : Int32).toNatClampNeg (115 : Int32)) q_543 (17 : Int32).toNatClampNeg (107 : Int32)) q_543 (18 : Int32).toNatClampNeg (100 : Int32)) q_543 (19 : Int32).toNatClampNeg (111 : Int32)) q_543 (20 : Int32).toNatClampNeg (0 : Int32)) q_543 (21 : Int32).toNatClampNeg (105 : Int32)) q_543 (22 : Int32).toNatClampNeg (102 : Int32)) q_543 (23 : Int32).toNatClampNeg (0 : Int32)).2.2.2.1 q_543 (12 : Int32).toNatClampNeg = 103 := (sC_i (sC_i (sC_i (sC_i (sC_i (sC_i (sC_i (sC_i kn_645 (by decide)) (by decide)) (by decide)) (by decide)) (by decide)) (by decide)) (by decide)) (by decide))
  have kn_692 : (sC (sC (sC (sC (sC (sC (sC (sC g_649 q_543 (16 : Int32).toNatClampNeg (115 : Int32)) q_543 (17 : Int32).toNatClampNeg (107 : Int32)) q_543 (18 : Int32).toNatClampNeg (100 : Int32)) q_543 (19 : Int32).toNatClampNeg (111 : Int32)) q_543 (20 : Int32).toNatClampNeg (0 : Int32)) q_543 (21 : Int32).toNatClampNeg (105 : Int32)) q_543 (22 : Int32).toNatClampNeg (102 : Int32)) q_543 (23 : Int32).toNatClampNeg (0 : Int32)).2.2.2.1 q_543 (13 : Int32).toNatClampNeg = 101 := (sC_i (sC_i (sC_i (sC_i (sC_i (sC_i (sC_i (sC_i kn_646 (by decide)) (by decide)) (by decide)) (by decide)) (by decide)) (by decide)) (by decide)) (by decide))
  have kn_693 : (sC (sC (sC (sC (sC (sC (sC (sC g_649 q_543 (16 : Int32).toNatClampNeg (115 : Int32)) q_543 (17 : Int32).toNatClampNeg (107 : Int32)) q_543 (18 : Int32).toNatClampNeg (100 : Int32)) q_543 (19 : Int32).toNatClampNeg (111 : Int32)) q_543 (20 : Int32).toNatClampNeg (0 : Int32)) q_543 (21 : Int32).toNatClampNeg (105 : Int32)) q_543 (22 : Int32).toNatClampNeg (102 : Int32)) q_543 (23 : Int32).toNatClampNeg (0 : Int32)).2.2.2.1 q_543 (14 : Int32).toNatClampNeg = 116 := (sC_i (sC_i (sC_i (sC_i (sC_i (sC_i (sC_i (sC_i kn_647 (by decide)) (by decide)) (by decide)) (by decide)) (by decide)) (by decide)) (by decide)) (by decide))
  have kn_694 : (sC (sC (sC (sC (sC (sC (sC (sC g_649 q_543 (16 : Int32).toNatClampNeg (115 : Int32)) q_543 (17 : Int32).toNatClampNeg (107 : Int32)) q_543 (18 : Int32).toNatClampNeg (100 : Int32)) q_543 (19 : Int32).toNatClampNeg (111 : Int32)) q_543 (20 : Int32).toNatClampNeg (0 : Int32)) q_543 (21 : Int32).toNatClampNeg (105 : Int32)) q_543 (22 : Int32).toNatClampNeg (102 : Int32)) q_543 (23 : Int32).toNatClampNeg (0 : Int32)).2.2.2.1 q_543 (15 : Int32).toNatClampNeg = 97 := (sC_i (sC_i (sC_i (sC_i (sC_i (sC_i (sC_i (sC_i kn_648 (by decide)) (by decide)) (by decide)) (by decide)) (by decide)) (by decide)) (by decide)) (by decide))
  have kn_695 : (sC (sC (sC (sC (sC (sC (sC (sC g_649 q_543 (16 : Int32).toNatClampNeg (115 : Int32)) q_543 (17 : Int32).toNatClampNeg (107 : Int32)) q_543 (18 : Int32).toNatClampNeg (100 : Int32)) q_543 (19 : Int32).toNatClampNeg (111 : Int32)) q_543 (20 : Int32).toNatClampNeg (0 : Int32)) q_543 (21 : Int32).toNatClampNeg (105 : Int32)) q_543 (22 : Int32).toNatClampNeg (102 : Int32)) q_543 (23 : Int32).toNatClampNeg (0 : Int32)).2.2.2.1 q_543 (16 : Int32).toNatClampNeg = 115 := (sC_i (sC_i (sC_i (sC_i (sC_i (sC_i (sC_i sC_eq (by decide)) (by decide)) (by decide)) (by decide)) (by decide)) (by decide)) (by decide))
  have kn_696 : (sC (sC (sC (sC (sC (sC (sC (sC g_649 q_543 (16 : Int32).toNatClampNeg (115 : Int32)) q_543 (17 : Int32).toNatClampNeg (107 : Int32)) q_543 (18 : Int32).toNatClampNeg (100 : Int32)) q_543 (19 : Int32).toNatClampNeg (111 : Int32)) q_543 (20 : Int32).toNatClampNeg (0 : Int32)) q_543 (21 : Int32).toNatClampNeg (105 : Int32)) q_543 (22 : Int32).toNatClampNeg (102 : Int32)) q_543 (23 : Int32).toNatClampNeg (0 : Int32)).2.2.2.1 q_543 (17 : Int32).toNatClampNeg = 107 := (sC_i (sC_i (sC_i (sC_i (sC_i (sC_i sC_eq (by decide)) (by decide)) (by decide)) (by decide)) (by decide)) (by decide))
  have kn_697 : (sC (sC (sC (sC (sC (sC (sC (sC g_649 q_543 (16 : Int32).toNatClampNeg (115 : Int32)) q_543 (17 : Int32).toNatClampNeg (107 : Int32)) q_543 (18 : Int32).toNatClampNeg (100 : Int32)) q_543 (19 : Int32).toNatClampNeg (111 : Int32)) q_543 (20 : Int32).toNatClampNeg (0 : Int32)) q_543 (21 : Int32).toNatClampNeg (105 : Int32)) q_543 (22 : Int32).toNatClampNeg (102 : Int32)) q_543 (23 : Int32).toNatClampNeg (0 : Int32)).2.2.2.1 q_543 (18 : Int32).toNatClampNeg = 100 := (sC_i (sC_i (sC_i (sC_i (sC_i sC_eq (by decide)) (by decide)) (by decide)) (by decide)) (by decide))
  have kn_698 : (sC (sC (sC (sC (sC (sC (sC (sC g_649 q_543 (16 : Int32).toNatClampNeg (115 : Int32)) q_543 (17 : Int32).toNatClampNeg (107 : Int32)) q_543 (18 : Int32).toNatClampNeg (100 : Int32)) q_543 (19 : Int32).toNatClampNeg (111 : Int32)) q_543 (20 : Int32).toNatClampNeg (0 : Int32)) q_543 (21 : Int32).toNatClampNeg (105 : Int32)) q_543 (22 : Int32).toNatClampNeg (102 : Int32)) q_543 (23 : Int32).toNatClampNeg (0 : Int32)).2.2.2.1 q_543 (19 : Int32).toNatClampNeg = 111 := (sC_i (sC_i (sC_i (sC_i sC_eq (by decide)) (by decide)) (by decide)) (by decide))
  have kn_699 : (sC (sC (sC (sC (sC (sC (sC (sC g_649 q_543 (16 : Int32).toNatClampNeg (115 : Int32)) q_543 (17 : Int32).toNatClampNeg (107 : Int32)) q_543 (18 : Int32).toNatClampNeg (100 : Int32)) q_543 (19 : Int32).toNatClampNeg (111 : Int32)) q_543 (20 : Int32).toNatClampNeg (0 : Int32)) q_543 (21 : Int32).toNatClampNeg (105 : Int32)) q_543 (22 : Int32).toNatClampNeg (102 : Int32)) q_543 (23 : Int32).toNatClampNeg (0 : Int32)).2.2.2.1 q_543 (20 : Int32).toNatClampNeg = 0 := (sC_i (sC_i (sC_i sC_eq (by decide)) (by decide)) (by decide))
  have kn_700 : (sC (sC (sC (sC (sC (sC (sC (sC g_649 q_543 (16 : Int32).toNatClampNeg (115 : Int32)) q_543 (17 : Int32).toNatClampNeg (107 : Int32)) q_543 (18 : Int32).toNatClampNeg (100 : Int32)) q_543 (19 : Int32).toNatClampNeg (111 : Int32)) q_543 (20 : Int32).toNatClampNeg (0 : Int32)) q_543 (21 : Int32).toNatClampNeg (105 : Int32)) q_543 (22 : Int32).toNatClampNeg (102 : Int32)) q_543 (23 : Int32).toNatClampNeg (0 : Int32)).2.2.2.1 q_543 (21 : Int32).toNatClampNeg = 105 := (sC_i (sC_i sC_eq (by decide)) (by decide))
  have kn_701 : (sC (sC (sC (sC (sC (sC (sC (sC g_649 q_543 (16 : Int32).toNatClampNeg (115 : Int32)) q_543 (17 : Int32).toNatClampNeg (107 : Int32)) q_543 (18 : Int32).toNatClampNeg (100 : Int32)) q_543 (19 : Int32).toNatClampNeg (111 : Int32)) q_543 (20 : Int32).toNatClampNeg (0 : Int32)) q_543 (21 : Int32).toNatClampNeg (105 : Int32)) q_543 (22 : Int32).toNatClampNeg (102 : Int32)) q_543 (23 : Int32).toNatClampNeg (0 : Int32)).2.2.2.1 q_543 (22 : Int32).toNatClampNeg = 102 := (sC_i sC_eq (by decide))
  have kn_702 : (sC (sC (sC (sC (sC (sC (sC (sC g_649 q_543 (16 : Int32).toNatClampNeg (115 : Int32)) q_543 (17 : Int32).toNatClampNeg (107 : Int32)) q_543 (18 : Int32).toNatClampNeg (100 : Int32)) q_543 (19 : Int32).toNatClampNeg (111 : Int32)) q_543 (20 : Int32).toNatClampNeg (0 : Int32)) q_543 (21 : Int32).toNatClampNeg (105 : Int32)) q_543 (22 : Int32).toNatClampNeg (102 : Int32)) q_543 (23 : Int32).toNatClampNeg (0 : Int32)).2.2.2.1 q_543 (23 : Int32).toNatClampNeg = 0 := sC_eq
  generalize (sC (sC (sC (sC (sC (sC (sC (sC g_649 q_543 (16 : Int32).toNatClampNeg (115 : Int32)) q_543 (17 : Int32).toNatClampNeg (107 : Int32)) q_543 (18 : Int32).toNatClampNeg (100 : Int32)) q_543 (19 : Int32).toNatClampNeg (111 : Int32)) q_543 (20 : Int32).toNatClampNeg (0 : Int32)) q_543 (21 : Int32).toNatClampNeg (105 : Int32)) q_543 (22 : Int32).toNatClampNeg (102 : Int32)) q_543 (23 : Int32).toNatClampNeg (0 : Int32)) = g_703 at hT hI hM hE r_658 r_659 r_660 r_661 r_662 r_663 n_664 n_665 n_666 n_667 n_668 kn_669 kn_670 kn_671 kn_672 kn_673 kn_674 kn_675 kn_676 kn_677 kn_678 kn_679 kn_680 kn_681 kn_682 kn_683 kn_684 kn_685 kn_686 kn_687 kn_688 kn_689 kn_690 kn_691 kn_692 kn_693 kn_694 kn_695 kn_696 kn_697 kn_698 kn_699 kn_700 kn_701 kn_702 hP zP zN
  clear kn_623 kn_624 kn_625 kn_626 kn_627 kn_628 kn_629 kn_630 kn_631 kn_632 kn_633 kn_634 kn_635 kn_636 kn_637 kn_638 kn_639 kn_640 kn_641 kn_642 kn_643 kn_644 kn_645 kn_646 kn_647 kn_648 n_618 n_619 n_620 n_621 n_622 r_612 r_613 r_614 r_615 r_616 r_617
  refine t_put0 (ci := 7) (v := .ref q_543) hB hT (ro_ci r_658 rfl) (ro_n0 r_658 (by decide)) rfl 42 (by decide) k_787 (Or.inr ⟨hin, rfl⟩) rfl rfl dX7_init_419 (fun H locs hT => ?_)
  replace hI : Inv (sF g_703 h 42 (.ref q_543)) := hI.sF (fk r_658 (show fsm _ _ ft from trivial))
  replace hM : Sm md_k_Model g (sF g_703 h 42 (.ref q_543)) := hM.tr hE (Sm_sF (by rw [r_658]; rfl))
  replace hE : Ex g (sF g_703 h 42 (.ref q_543)) := hE
  replace hP : PF [42, 41, 40, 39, 35, 33, 32, 31, 28, 27, 26, 25, 23, 20, 19, 18, 17, 16, 15, 14, 13, 12, 11, 10, 9, 8, 7, 6, 5, 4, 3, 2, 1, 60, 52, 51, 50, 49, 38, 37, 36, 34, 30, 29, 24, 22, 21, 0] (sF g_703 h 42 (.ref q_543)) h := hP.put (q_8_42 (⟨_, rfl, r_663, n_668⟩))
  have zP : ZC (sF g_703 h 42 (.ref q_543)) q_23 := zP
  have zN : ZC (sF g_703 h 42 (.ref q_543)) q_500 := zN
  refine lv_aload_n hx hb dX7_init_422 rfl (lv_at hl 0 rfl) ?_
  refine lv_bipush (v := 7) hx hb dX7_init_423 (by decide) ?_
  refine t_newi (N' := 7) hB hT 51 (by decide) k_101 (by decide) (by decide) (by decide) (Nat.le_of_ble_eq_true rfl) (Nat.le_of_ble_eq_true rfl) dX7_init_425 (fun q_704 H o_q_704 hT => ?_)
  have z_q_704 : g.1 q_704 = 0 := hE.z0 o_q_704
  replace hI : Inv (sA (sF g_703 h 42 (.ref q_543)) q_704 51 7) := hI.newi o_q_704 (by decide) (fun _ => rfl) ⟨by decide, by decide⟩ (fun _ => trivial)
  replace hM : Sm md_k_Model g (sA (sF g_703 h 42 (.ref q_543)) q_704 51 7) := hM.tr hE (Sm.push o_q_704 sA_g)
  replace hE : Ex g (sA (sF g_703 h 42 (.ref q_543)) q_704 51 7) := hE.tr (Ex.push o_q_704 sA_g)
  replace hP : PF [42, 41, 40, 39, 35, 33, 32, 31, 28, 27, 26, 25, 23, 20, 19, 18, 17, 16, 15, 14, 13, 12, 11, 10, 9, 8, 7, 6, 5, 4, 3, 2, 1, 60, 52, 51, 50, 49, 38, 37, 36, 34, 30, 29, 24, 22, 21, 0] (sA (sF g_703 h 42 (.ref q_543)) q_704 51 7) h := hP.pu (Ex.push o_q_704 sA_g) (sA_g h (ne0 r_658 o_q_704 (by decide))).2.1
  have zP : ZC (sA (sF g_703 h 42 (.ref q_543)) q_704 51 7) q_23 := zP.pu (sA_g q_23 (ne0 r_660 o_q_704 (by decide))).2.2.2.1
  have zN : ZC (sA (sF g_703 h 42 (.ref q_543)) q_704 51 7) q_500 := zN.pu (sA_g q_500 (ne0 r_662 o_q_704 (by decide))).2.2.2.1
  have r_705 : (sA (sF g_703 h 42 (.ref q_543)) q_704 51 7).1 h = 18 := ((sA_g h (ne0 r_658 o_q_704 (by decide))).1.trans r_658)
  have r_706 : (sA (sF g_703 h 42 (.ref q_543)) q_704 51 7).1 q_12 = 71 := ((sA_g q_12 (ne0 r_659 o_q_704 (by decide))).1.trans r_659)
  have r_707 : (sA (sF g_703 h 42 (.ref q_543)) q_704 51 7).1 q_23 = 72 := ((sA_g q_23 (ne0 r_660 o_q_704 (by decide))).1.trans r_660)
  have r_708 : (sA (sF g_703 h 42 (.ref q_543)) q_704 51 7).1 q_483 = 84 := ((sA_g q_483 (ne0 r_661 o_q_704 (by decide))).1.trans r_661)
  have r_709 : (sA (sF g_703 h 42 (.ref q_543)) q_704 51 7).1 q_500 = 85 := ((sA_g q_500 (ne0 r_662 o_q_704 (by decide))).1.trans r_662)
  have r_710 : (sA (sF g_703 h 42 (.ref q_543)) q_704 51 7).1 q_543 = 87 := ((sA_g q_543 (ne0 r_663 o_q_704 (by decide))).1.trans r_663)
  have r_711 : (sA (sF g_703 h 42 (.ref q_543)) q_704 51 7).1 q_704 = 51 := sA_r
  have n_712 : (sA (sF g_703 h 42 (.ref q_543)) q_704 51 7).2.2.1 q_12 = 48 := ((sA_g q_12 (ne0 r_659 o_q_704 (by decide))).2.2.1.trans n_664)
  have n_713 : (sA (sF g_703 h 42 (.ref q_543)) q_704 51 7).2.2.1 q_23 = 48 := ((sA_g q_23 (ne0 r_660 o_q_704 (by decide))).2.2.1.trans n_665)
  have n_714 : (sA (sF g_703 h 42 (.ref q_543)) q_704 51 7).2.2.1 q_483 = 8 := ((sA_g q_483 (ne0 r_661 o_q_704 (by decide))).2.2.1.trans n_666)
  have n_715 : (sA (sF g_703 h 42 (.ref q_543)) q_704 51 7).2.2.1 q_500 = 8 := ((sA_g q_500 (ne0 r_662 o_q_704 (by decide))).2.2.1.trans n_667)
  have n_716 : (sA (sF g_703 h 42 (.ref q_543)) q_704 51 7).2.2.1 q_543 = 24 := ((sA_g q_543 (ne0 r_663 o_q_704 (by decide))).2.2.1.trans n_668)
  have n_717 : (sA (sF g_703 h 42 (.ref q_543)) q_704 51 7).2.2.1 q_704 = 7 := sA_n
  have kn_718 : (sA (sF g_703 h 42 (.ref q_543)) q_704 51 7).2.1 h 0 = .int 0 := ((congrFun (sA_g h (ne0 r_658 o_q_704 (by decide))).2.1 0).trans (sF_k kn_669 (by decide)))
  have kn_719 : (sA (sF g_703 h 42 (.ref q_543)) q_704 51 7).2.1 h 22 = .int 0 := ((congrFun (sA_g h (ne0 r_658 o_q_704 (by decide))).2.1 22).trans (sF_k kn_670 (by decide)))
  have kn_720 : (sA (sF g_703 h 42 (.ref q_543)) q_704 51 7).2.1 h 24 = .int 0 := ((congrFun (sA_g h (ne0 r_658 o_q_704 (by decide))).2.1 24).trans (sF_k kn_671 (by decide)))
  have kn_721 : (sA (sF g_703 h 42 (.ref q_543)) q_704 51 7).2.1 h 29 = .int 0 := ((congrFun (sA_g h (ne0 r_658 o_q_704 (by decide))).2.1 29).trans (sF_k kn_672 (by decide)))
  have kn_722 : (sA (sF g_703 h 42 (.ref q_543)) q_704 51 7).2.1 h 30 = .int 0 := ((congrFun (sA_g h (ne0 r_658 o_q_704 (by decide))).2.1 30).trans (sF_k kn_673 (by decide)))
  have kn_723 : (sA (sF g_703 h 42 (.ref q_543)) q_704 51 7).2.1 h 34 = .int 0 := ((congrFun (sA_g h (ne0 r_658 o_q_704 (by decide))).2.1 34).trans (sF_k kn_674 (by decide)))
  have kn_724 : (sA (sF g_703 h 42 (.ref q_543)) q_704 51 7).2.1 h 2 = .ref q_12 := ((congrFun (sA_g h (ne0 r_658 o_q_704 (by decide))).2.1 2).trans (sF_k kn_675 (by decide)))
  have kn_725 : (sA (sF g_703 h 42 (.ref q_543)) q_704 51 7).2.1 h 3 = .ref q_23 := ((congrFun (sA_g h (ne0 r_658 o_q_704 (by decide))).2.1 3).trans (sF_k kn_676 (by decide)))
  have kn_726 : (sA (sF g_703 h 42 (.ref q_543)) q_704 51 7).2.1 h 39 = .ref q_483 := ((congrFun (sA_g h (ne0 r_658 o_q_704 (by decide))).2.1 39).trans (sF_k kn_677 (by decide)))
  have kn_727 : (sA (sF g_703 h 42 (.ref q_543)) q_704 51 7).2.1 h 40 = .ref q_500 := ((congrFun (sA_g h (ne0 r_658 o_q_704 (by decide))).2.1 40).trans (sF_k kn_678 (by decide)))
  have kn_728 : (sA (sF g_703 h 42 (.ref q_543)) q_704 51 7).2.1 h 42 = .ref q_543 := ((congrFun (sA_g h (ne0 r_658 o_q_704 (by decide))).2.1 42).trans sF_eq)
  have kn_729 : (sA (sF g_703 h 42 (.ref q_543)) q_704 51 7).2.2.2.1 q_543 (0 : Int32).toNatClampNeg = 115 := ((congrFun (sA_g q_543 (ne0 r_663 o_q_704 (by decide))).2.2.2.1 _).trans kn_679)
  have kn_730 : (sA (sF g_703 h 42 (.ref q_543)) q_704 51 7).2.2.2.1 q_543 (1 : Int32).toNatClampNeg = 101 := ((congrFun (sA_g q_543 (ne0 r_663 o_q_704 (by decide))).2.2.2.1 _).trans kn_680)
  have kn_731 : (sA (sF g_703 h 42 (.ref q_543)) q_704 51 7).2.2.2.1 q_543 (2 : Int32).toNatClampNeg = 116 := ((congrFun (sA_g q_543 (ne0 r_663 o_q_704 (by decide))).2.2.2.1 _).trans kn_681)
  have kn_732 : (sA (sF g_703 h 42 (.ref q_543)) q_704 51 7).2.2.2.1 q_543 (3 : Int32).toNatClampNeg = 97 := ((congrFun (sA_g q_543 (ne0 r_663 o_q_704 (by decide))).2.2.2.1 _).trans kn_682)
  have kn_733 : (sA (sF g_703 h 42 (.ref q_543)) q_704 51 7).2.2.2.1 q_543 (4 : Int32).toNatClampNeg = 100 := ((congrFun (sA_g q_543 (ne0 r_663 o_q_704 (by decide))).2.2.2.1 _).trans kn_683)
  have kn_734 : (sA (sF g_703 h 42 (.ref q_543)) q_704 51 7).2.2.2.1 q_543 (5 : Int32).toNatClampNeg = 100 := ((congrFun (sA_g q_543 (ne0 r_663 o_q_704 (by decide))).2.2.2.1 _).trans kn_684)
  have kn_735 : (sA (sF g_703 h 42 (.ref q_543)) q_704 51 7).2.2.2.1 q_543 (6 : Int32).toNatClampNeg = 109 := ((congrFun (sA_g q_543 (ne0 r_663 o_q_704 (by decide))).2.2.2.1 _).trans kn_685)
  have kn_736 : (sA (sF g_703 h 42 (.ref q_543)) q_704 51 7).2.2.2.1 q_543 (7 : Int32).toNatClampNeg = 97 := ((congrFun (sA_g q_543 (ne0 r_663 o_q_704 (by decide))).2.2.2.1 _).trans kn_686)
  have kn_737 : (sA (sF g_703 h 42 (.ref q_543)) q_704 51 7).2.2.2.1 q_543 (8 : Int32).toNatClampNeg = 120 := ((congrFun (sA_g q_543 (ne0 r_663 o_q_704 (by decide))).2.2.2.1 _).trans kn_687)
  have kn_738 : (sA (sF g_703 h 42 (.ref q_543)) q_704 51 7).2.2.2.1 q_543 (9 : Int32).toNatClampNeg = 110 := ((congrFun (sA_g q_543 (ne0 r_663 o_q_704 (by decide))).2.2.2.1 _).trans kn_688)
  have kn_739 : (sA (sF g_703 h 42 (.ref q_543)) q_704 51 7).2.2.2.1 q_543 (10 : Int32).toNatClampNeg = 101 := ((congrFun (sA_g q_543 (ne0 r_663 o_q_704 (by decide))).2.2.2.1 _).trans kn_689)
  have kn_740 : (sA (sF g_703 h 42 (.ref q_543)) q_704 51 7).2.2.2.1 q_543 (11 : Int32).toNatClampNeg = 119 := ((congrFun (sA_g q_543 (ne0 r_663 o_q_704 (by decide))).2.2.2.1 _).trans kn_690)
  have kn_741 : (sA (sF g_703 h 42 (.ref q_543)) q_704 51 7).2.2.2.1 q_543 (12 : Int32).toNatClampNeg = 103 := ((congrFun (sA_g q_543 (ne0 r_663 o_q_704 (by decide))).2.2.2.1 _).trans kn_691)
  have kn_742 : (sA (sF g_703 h 42 (.ref q_543)) q_704 51 7).2.2.2.1 q_543 (13 : Int32).toNatClampNeg = 101 := ((congrFun (sA_g q_543 (ne0 r_663 o_q_704 (by decide))).2.2.2.1 _).trans kn_692)
  have kn_743 : (sA (sF g_703 h 42 (.ref q_543)) q_704 51 7).2.2.2.1 q_543 (14 : Int32).toNatClampNeg = 116 := ((congrFun (sA_g q_543 (ne0 r_663 o_q_704 (by decide))).2.2.2.1 _).trans kn_693)
  have kn_744 : (sA (sF g_703 h 42 (.ref q_543)) q_704 51 7).2.2.2.1 q_543 (15 : Int32).toNatClampNeg = 97 := ((congrFun (sA_g q_543 (ne0 r_663 o_q_704 (by decide))).2.2.2.1 _).trans kn_694)
  have kn_745 : (sA (sF g_703 h 42 (.ref q_543)) q_704 51 7).2.2.2.1 q_543 (16 : Int32).toNatClampNeg = 115 := ((congrFun (sA_g q_543 (ne0 r_663 o_q_704 (by decide))).2.2.2.1 _).trans kn_695)
  have kn_746 : (sA (sF g_703 h 42 (.ref q_543)) q_704 51 7).2.2.2.1 q_543 (17 : Int32).toNatClampNeg = 107 := ((congrFun (sA_g q_543 (ne0 r_663 o_q_704 (by decide))).2.2.2.1 _).trans kn_696)
  have kn_747 : (sA (sF g_703 h 42 (.ref q_543)) q_704 51 7).2.2.2.1 q_543 (18 : Int32).toNatClampNeg = 100 := ((congrFun (sA_g q_543 (ne0 r_663 o_q_704 (by decide))).2.2.2.1 _).trans kn_697)
  have kn_748 : (sA (sF g_703 h 42 (.ref q_543)) q_704 51 7).2.2.2.1 q_543 (19 : Int32).toNatClampNeg = 111 := ((congrFun (sA_g q_543 (ne0 r_663 o_q_704 (by decide))).2.2.2.1 _).trans kn_698)
  have kn_749 : (sA (sF g_703 h 42 (.ref q_543)) q_704 51 7).2.2.2.1 q_543 (20 : Int32).toNatClampNeg = 0 := ((congrFun (sA_g q_543 (ne0 r_663 o_q_704 (by decide))).2.2.2.1 _).trans kn_699)
  have kn_750 : (sA (sF g_703 h 42 (.ref q_543)) q_704 51 7).2.2.2.1 q_543 (21 : Int32).toNatClampNeg = 105 := ((congrFun (sA_g q_543 (ne0 r_663 o_q_704 (by decide))).2.2.2.1 _).trans kn_700)
  have kn_751 : (sA (sF g_703 h 42 (.ref q_543)) q_704 51 7).2.2.2.1 q_543 (22 : Int32).toNatClampNeg = 102 := ((congrFun (sA_g q_543 (ne0 r_663 o_q_704 (by decide))).2.2.2.1 _).trans kn_701)
  have kn_752 : (sA (sF g_703 h 42 (.ref q_543)) q_704 51 7).2.2.2.1 q_543 (23 : Int32).toNatClampNeg = 0 := ((congrFun (sA_g q_543 (ne0 r_663 o_q_704 (by decide))).2.2.2.1 _).trans kn_702)
  generalize (sA (sF g_703 h 42 (.ref q_543)) q_704 51 7) = g_753 at hT hI hM hE r_705 r_706 r_707 r_708 r_709 r_710 r_711 n_712 n_713 n_714 n_715 n_716 n_717 kn_718 kn_719 kn_720 kn_721 kn_722 kn_723 kn_724 kn_725 kn_726 kn_727 kn_728 kn_729 kn_730 kn_731 kn_732 kn_733 kn_734 kn_735 kn_736 kn_737 kn_738 kn_739 kn_740 kn_741 kn_742 kn_743 kn_744 kn_745 kn_746 kn_747 kn_748 kn_749 kn_750 kn_751 kn_752 hP zP zN
  clear kn_669 kn_670 kn_671 kn_672 kn_673 kn_674 kn_675 kn_676 kn_677 kn_678 kn_679 kn_680 kn_681 kn_682 kn_683 kn_684 kn_685 kn_686 kn_687 kn_688 kn_689 kn_690 kn_691 kn_692 kn_693 kn_694 kn_695 kn_696 kn_697 kn_698 kn_699 kn_700 kn_701 kn_702 n_664 n_665 n_666 n_667 n_668 r_658 r_659 r_660 r_661 r_662 r_663
  refine W.widen (k := 34) (n := 1605) (Nat.le_of_ble_eq_true rfl) (Nat.le_of_ble_eq_true rfl) ?_
  refine t_put0 (ci := 7) (v := .ref q_704) hB hT (ro_ci r_705 rfl) (ro_n0 r_705 (by decide)) rfl 43 (by decide) k_788 (Or.inr ⟨hin, rfl⟩) rfl rfl dX7_init_427 (fun H locs hT => ?_)
  replace hI : Inv (sF g_753 h 43 (.ref q_704)) := hI.sF (fk r_705 (show fsm _ _ ft from trivial))
  replace hM : Sm md_k_Model g (sF g_753 h 43 (.ref q_704)) := hM.tr hE (Sm_sF (by rw [r_705]; rfl))
  replace hE : Ex g (sF g_753 h 43 (.ref q_704)) := hE
  replace hP : PF [43, 42, 41, 40, 39, 35, 33, 32, 31, 28, 27, 26, 25, 23, 20, 19, 18, 17, 16, 15, 14, 13, 12, 11, 10, 9, 8, 7, 6, 5, 4, 3, 2, 1, 60, 52, 51, 50, 49, 38, 37, 36, 34, 30, 29, 24, 22, 21, 0] (sF g_753 h 43 (.ref q_704)) h := hP.put (q_8_43 (⟨_, rfl, r_711, n_717⟩))
  have zP : ZC (sF g_753 h 43 (.ref q_704)) q_23 := zP
  have zN : ZC (sF g_753 h 43 (.ref q_704)) q_500 := zN
  refine lv_aload_n hx hb dX7_init_430 rfl (lv_at hl 0 rfl) ?_
  refine lv_bipush (v := 7) hx hb dX7_init_431 (by decide) ?_
  refine t_newi (N' := 7) hB hT 56 (by decide) k_101 (by decide) (by decide) (by decide) (Nat.le_of_ble_eq_true rfl) (Nat.le_of_ble_eq_true rfl) dX7_init_433 (fun q_754 H o_q_754 hT => ?_)
  have z_q_754 : g.1 q_754 = 0 := hE.z0 o_q_754
  replace hI : Inv (sA (sF g_753 h 43 (.ref q_704)) q_754 56 7) := hI.newi o_q_754 (by decide) (fun _ => rfl) ⟨by decide, by decide⟩ (fun _ => trivial)
  replace hM : Sm md_k_Model g (sA (sF g_753 h 43 (.ref q_704)) q_754 56 7) := hM.tr hE (Sm.push o_q_754 sA_g)
  replace hE : Ex g (sA (sF g_753 h 43 (.ref q_704)) q_754 56 7) := hE.tr (Ex.push o_q_754 sA_g)
  replace hP : PF [43, 42, 41, 40, 39, 35, 33, 32, 31, 28, 27, 26, 25, 23, 20, 19, 18, 17, 16, 15, 14, 13, 12, 11, 10, 9, 8, 7, 6, 5, 4, 3, 2, 1, 60, 52, 51, 50, 49, 38, 37, 36, 34, 30, 29, 24, 22, 21, 0] (sA (sF g_753 h 43 (.ref q_704)) q_754 56 7) h := hP.pu (Ex.push o_q_754 sA_g) (sA_g h (ne0 r_705 o_q_754 (by decide))).2.1
  have zP : ZC (sA (sF g_753 h 43 (.ref q_704)) q_754 56 7) q_23 := zP.pu (sA_g q_23 (ne0 r_707 o_q_754 (by decide))).2.2.2.1
  have zN : ZC (sA (sF g_753 h 43 (.ref q_704)) q_754 56 7) q_500 := zN.pu (sA_g q_500 (ne0 r_709 o_q_754 (by decide))).2.2.2.1
  have r_755 : (sA (sF g_753 h 43 (.ref q_704)) q_754 56 7).1 h = 18 := ((sA_g h (ne0 r_705 o_q_754 (by decide))).1.trans r_705)
  have r_756 : (sA (sF g_753 h 43 (.ref q_704)) q_754 56 7).1 q_12 = 71 := ((sA_g q_12 (ne0 r_706 o_q_754 (by decide))).1.trans r_706)
  have r_757 : (sA (sF g_753 h 43 (.ref q_704)) q_754 56 7).1 q_23 = 72 := ((sA_g q_23 (ne0 r_707 o_q_754 (by decide))).1.trans r_707)
  have r_758 : (sA (sF g_753 h 43 (.ref q_704)) q_754 56 7).1 q_483 = 84 := ((sA_g q_483 (ne0 r_708 o_q_754 (by decide))).1.trans r_708)
  have r_759 : (sA (sF g_753 h 43 (.ref q_704)) q_754 56 7).1 q_500 = 85 := ((sA_g q_500 (ne0 r_709 o_q_754 (by decide))).1.trans r_709)
  have r_760 : (sA (sF g_753 h 43 (.ref q_704)) q_754 56 7).1 q_543 = 87 := ((sA_g q_543 (ne0 r_710 o_q_754 (by decide))).1.trans r_710)
  have r_761 : (sA (sF g_753 h 43 (.ref q_704)) q_754 56 7).1 q_754 = 56 := sA_r
  have n_762 : (sA (sF g_753 h 43 (.ref q_704)) q_754 56 7).2.2.1 q_12 = 48 := ((sA_g q_12 (ne0 r_706 o_q_754 (by decide))).2.2.1.trans n_712)
  have n_763 : (sA (sF g_753 h 43 (.ref q_704)) q_754 56 7).2.2.1 q_23 = 48 := ((sA_g q_23 (ne0 r_707 o_q_754 (by decide))).2.2.1.trans n_713)
  have n_764 : (sA (sF g_753 h 43 (.ref q_704)) q_754 56 7).2.2.1 q_483 = 8 := ((sA_g q_483 (ne0 r_708 o_q_754 (by decide))).2.2.1.trans n_714)
  have n_765 : (sA (sF g_753 h 43 (.ref q_704)) q_754 56 7).2.2.1 q_500 = 8 := ((sA_g q_500 (ne0 r_709 o_q_754 (by decide))).2.2.1.trans n_715)
  have n_766 : (sA (sF g_753 h 43 (.ref q_704)) q_754 56 7).2.2.1 q_543 = 24 := ((sA_g q_543 (ne0 r_710 o_q_754 (by decide))).2.2.1.trans n_716)
  have n_767 : (sA (sF g_753 h 43 (.ref q_704)) q_754 56 7).2.2.1 q_754 = 7 := sA_n
  have kn_768 : (sA (sF g_753 h 43 (.ref q_704)) q_754 56 7).2.1 h 0 = .int 0 := ((congrFun (sA_g h (ne0 r_705 o_q_754 (by decide))).2.1 0).trans (sF_k kn_718 (by decide)))
  have kn_769 : (sA (sF g_753 h 43 (.ref q_704)) q_754 56 7).2.1 h 22 = .int 0 := ((congrFun (sA_g h (ne0 r_705 o_q_754 (by decide))).2.1 22).trans (sF_k kn_719 (by decide)))
  have kn_770 : (sA (sF g_753 h 43 (.ref q_704)) q_754 56 7).2.1 h 24 = .int 0 := ((congrFun (sA_g h (ne0 r_705 o_q_754 (by decide))).2.1 24).trans (sF_k kn_720 (by decide)))
  have kn_771 : (sA (sF g_753 h 43 (.ref q_704)) q_754 56 7).2.1 h 29 = .int 0 := ((congrFun (sA_g h (ne0 r_705 o_q_754 (by decide))).2.1 29).trans (sF_k kn_721 (by decide)))
  have kn_772 : (sA (sF g_753 h 43 (.ref q_704)) q_754 56 7).2.1 h 30 = .int 0 := ((congrFun (sA_g h (ne0 r_705 o_q_754 (by decide))).2.1 30).trans (sF_k kn_722 (by decide)))
  have kn_773 : (sA (sF g_753 h 43 (.ref q_704)) q_754 56 7).2.1 h 34 = .int 0 := ((congrFun (sA_g h (ne0 r_705 o_q_754 (by decide))).2.1 34).trans (sF_k kn_723 (by decide)))
  have kn_774 : (sA (sF g_753 h 43 (.ref q_704)) q_754 56 7).2.1 h 2 = .ref q_12 := ((congrFun (sA_g h (ne0 r_705 o_q_754 (by decide))).2.1 2).trans (sF_k kn_724 (by decide)))
  have kn_775 : (sA (sF g_753 h 43 (.ref q_704)) q_754 56 7).2.1 h 3 = .ref q_23 := ((congrFun (sA_g h (ne0 r_705 o_q_754 (by decide))).2.1 3).trans (sF_k kn_725 (by decide)))
  have kn_776 : (sA (sF g_753 h 43 (.ref q_704)) q_754 56 7).2.1 h 39 = .ref q_483 := ((congrFun (sA_g h (ne0 r_705 o_q_754 (by decide))).2.1 39).trans (sF_k kn_726 (by decide)))
  have kn_777 : (sA (sF g_753 h 43 (.ref q_704)) q_754 56 7).2.1 h 40 = .ref q_500 := ((congrFun (sA_g h (ne0 r_705 o_q_754 (by decide))).2.1 40).trans (sF_k kn_727 (by decide)))
  have kn_778 : (sA (sF g_753 h 43 (.ref q_704)) q_754 56 7).2.1 h 42 = .ref q_543 := ((congrFun (sA_g h (ne0 r_705 o_q_754 (by decide))).2.1 42).trans (sF_k kn_728 (by decide)))
  have kn_779 : (sA (sF g_753 h 43 (.ref q_704)) q_754 56 7).2.2.2.1 q_543 (0 : Int32).toNatClampNeg = 115 := ((congrFun (sA_g q_543 (ne0 r_710 o_q_754 (by decide))).2.2.2.1 _).trans kn_729)
  have kn_780 : (sA (sF g_753 h 43 (.ref q_704)) q_754 56 7).2.2.2.1 q_543 (1 : Int32).toNatClampNeg = 101 := ((congrFun (sA_g q_543 (ne0 r_710 o_q_754 (by decide))).2.2.2.1 _).trans kn_730)
  have kn_781 : (sA (sF g_753 h 43 (.ref q_704)) q_754 56 7).2.2.2.1 q_543 (2 : Int32).toNatClampNeg = 116 := ((congrFun (sA_g q_543 (ne0 r_710 o_q_754 (by decide))).2.2.2.1 _).trans kn_731)
  have kn_782 : (sA (sF g_753 h 43 (.ref q_704)) q_754 56 7).2.2.2.1 q_543 (3 : Int32).toNatClampNeg = 97 := ((congrFun (sA_g q_543 (ne0 r_710 o_q_754 (by decide))).2.2.2.1 _).trans kn_732)
  have kn_783 : (sA (sF g_753 h 43 (.ref q_704)) q_754 56 7).2.2.2.1 q_543 (4 : Int32).toNatClampNeg = 100 := ((congrFun (sA_g q_543 (ne0 r_710 o_q_754 (by decide))).2.2.2.1 _).trans kn_733)
  have kn_784 : (sA (sF g_753 h 43 (.ref q_704)) q_754 56 7).2.2.2.1 q_543 (5 : Int32).toNatClampNeg = 100 := ((congrFun (sA_g q_543 (ne0 r_710 o_q_754 (by decide))).2.2.2.1 _).trans kn_734)
  have kn_785 : (sA (sF g_753 h 43 (.ref q_704)) q_754 56 7).2.2.2.1 q_543 (6 : Int32).toNatClampNeg = 109 := ((congrFun (sA_g q_543 (ne0 r_710 o_q_754 (by decide))).2.2.2.1 _).trans kn_735)
  have kn_786 : (sA (sF g_753 h 43 (.ref q_704)) q_754 56 7).2.2.2.1 q_543 (7 : Int32).toNatClampNeg = 97 := ((congrFun (sA_g q_543 (ne0 r_710 o_q_754 (by decide))).2.2.2.1 _).trans kn_736)
  have kn_787 : (sA (sF g_753 h 43 (.ref q_704)) q_754 56 7).2.2.2.1 q_543 (8 : Int32).toNatClampNeg = 120 := ((congrFun (sA_g q_543 (ne0 r_710 o_q_754 (by decide))).2.2.2.1 _).trans kn_737)
  have kn_788 : (sA (sF g_753 h 43 (.ref q_704)) q_754 56 7).2.2.2.1 q_543 (9 : Int32).toNatClampNeg = 110 := ((congrFun (sA_g q_543 (ne0 r_710 o_q_754 (by decide))).2.2.2.1 _).trans kn_738)
  have kn_789 : (sA (sF g_753 h 43 (.ref q_704)) q_754 56 7).2.2.2.1 q_543 (10 : Int32).toNatClampNeg = 101 := ((congrFun (sA_g q_543 (ne0 r_710 o_q_754 (by decide))).2.2.2.1 _).trans kn_739)
  have kn_790 : (sA (sF g_753 h 43 (.ref q_704)) q_754 56 7).2.2.2.1 q_543 (11 : Int32).toNatClampNeg = 119 := ((congrFun (sA_g q_543 (ne0 r_710 o_q_754 (by decide))).2.2.2.1 _).trans kn_740)
  have kn_791 : (sA (sF g_753 h 43 (.ref q_704)) q_754 56 7).2.2.2.1 q_543 (12 : Int32).toNatClampNeg = 103 := ((congrFun (sA_g q_543 (ne0 r_710 o_q_754 (by decide))).2.2.2.1 _).trans kn_741)
  have kn_792 : (sA (sF g_753 h 43 (.ref q_704)) q_754 56 7).2.2.2.1 q_543 (13 : Int32).toNatClampNeg = 101 := ((congrFun (sA_g q_543 (ne0 r_710 o_q_754 (by decide))).2.2.2.1 _).trans kn_742)
  have kn_793 : (sA (sF g_753 h 43 (.ref q_704)) q_754 56 7).2.2.2.1 q_543 (14 : Int32).toNatClampNeg = 116 := ((congrFun (sA_g q_543 (ne0 r_710 o_q_754 (by decide))).2.2.2.1 _).trans kn_743)
  have kn_794 : (sA (sF g_753 h 43 (.ref q_704)) q_754 56 7).2.2.2.1 q_543 (15 : Int32).toNatClampNeg = 97 := ((congrFun (sA_g q_543 (ne0 r_710 o_q_754 (by decide))).2.2.2.1 _).trans kn_744)
  have kn_795 : (sA (sF g_753 h 43 (.ref q_704)) q_754 56 7).2.2.2.1 q_543 (16 : Int32).toNatClampNeg = 115 := ((congrFun (sA_g q_543 (ne0 r_710 o_q_754 (by decide))).2.2.2.1 _).trans kn_745)
  have kn_796 : (sA (sF g_753 h 43 (.ref q_704)) q_754 56 7).2.2.2.1 q_543 (17 : Int32).toNatClampNeg = 107 := ((congrFun (sA_g q_543 (ne0 r_710 o_q_754 (by decide))).2.2.2.1 _).trans kn_746)
  have kn_797 : (sA (sF g_753 h 43 (.ref q_704)) q_754 56 7).2.2.2.1 q_543 (18 : Int32).toNatClampNeg = 100 := ((congrFun (sA_g q_543 (ne0 r_710 o_q_754 (by decide))).2.2.2.1 _).trans kn_747)
  have kn_798 : (sA (sF g_753 h 43 (.ref q_704)) q_754 56 7).2.2.2.1 q_543 (19 : Int32).toNatClampNeg = 111 := ((congrFun (sA_g q_543 (ne0 r_710 o_q_754 (by decide))).2.2.2.1 _).trans kn_748)
  have kn_799 : (sA (sF g_753 h 43 (.ref q_704)) q_754 56 7).2.2.2.1 q_543 (20 : Int32).toNatClampNeg = 0 := ((congrFun (sA_g q_543 (ne0 r_710 o_q_754 (by decide))).2.2.2.1 _).trans kn_749)
  have kn_800 : (sA (sF g_753 h 43 (.ref q_704)) q_754 56 7).2.2.2.1 q_543 (21 : Int32).toNatClampNeg = 105 := ((congrFun (sA_g q_543 (ne0 r_710 o_q_754 (by decide))).2.2.2.1 _).trans kn_750)
  have kn_801 : (sA (sF g_753 h 43 (.ref q_704)) q_754 56 7).2.2.2.1 q_543 (22 : Int32).toNatClampNeg = 102 := ((congrFun (sA_g q_543 (ne0 r_710 o_q_754 (by decide))).2.2.2.1 _).trans kn_751)
  have kn_802 : (sA (sF g_753 h 43 (.ref q_704)) q_754 56 7).2.2.2.1 q_543 (23 : Int32).toNatClampNeg = 0 := ((congrFun (sA_g q_543 (ne0 r_710 o_q_754 (by decide))).2.2.2.1 _).trans kn_752)
  generalize (sA (sF g_753 h 43 (.ref q_704)) q_754 56 7) = g_803 at hT hI hM hE r_755 r_756 r_757 r_758 r_759 r_760 r_761 n_762 n_763 n_764 n_765 n_766 n_767 kn_768 kn_769 kn_770 kn_771 kn_772 kn_773 kn_774 kn_775 kn_776 kn_777 kn_778 kn_779 kn_780 kn_781 kn_782 kn_783 kn_784 kn_785 kn_786 kn_787 kn_788 kn_789 kn_790 kn_791 kn_792 kn_793 kn_794 kn_795 kn_796 kn_797 kn_798 kn_799 kn_800 kn_801 kn_802 hP zP zN
  clear kn_718 kn_719 kn_720 kn_721 kn_722 kn_723 kn_724 kn_725 kn_726 kn_727 kn_728 kn_729 kn_730 kn_731 kn_732 kn_733 kn_734 kn_735 kn_736 kn_737 kn_738 kn_739 kn_740 kn_741 kn_742 kn_743 kn_744 kn_745 kn_746 kn_747 kn_748 kn_749 kn_750 kn_751 kn_752 n_712 n_713 n_714 n_715 n_716 r_705 r_706 r_707 r_708 r_709 r_710
  refine W.widen (k := 35) (n := 1612) (Nat.le_of_ble_eq_true rfl) (Nat.le_of_ble_eq_true rfl) ?_
  refine t_put0 (ci := 7) (v := .ref q_754) hB hT (ro_ci r_755 rfl) (ro_n0 r_755 (by decide)) rfl 44 (by decide) k_789 (Or.inr ⟨hin, rfl⟩) rfl rfl dX7_init_435 (fun H locs hT => ?_)
  replace hI : Inv (sF g_803 h 44 (.ref q_754)) := hI.sF (fk r_755 (show fsm _ _ ft from trivial))
  replace hM : Sm md_k_Model g (sF g_803 h 44 (.ref q_754)) := hM.tr hE (Sm_sF (by rw [r_755]; rfl))
  replace hE : Ex g (sF g_803 h 44 (.ref q_754)) := hE
  replace hP : PF [44, 43, 42, 41, 40, 39, 35, 33, 32, 31, 28, 27, 26, 25, 23, 20, 19, 18, 17, 16, 15, 14, 13, 12, 11, 10, 9, 8, 7, 6, 5, 4, 3, 2, 1, 60, 52, 51, 50, 49, 38, 37, 36, 34, 30, 29, 24, 22, 21, 0] (sF g_803 h 44 (.ref q_754)) h := hP.put (q_8_44 (⟨_, rfl, r_761, n_767⟩))
  have zP : ZC (sF g_803 h 44 (.ref q_754)) q_23 := zP
  have zN : ZC (sF g_803 h 44 (.ref q_754)) q_500 := zN
  refine lv_aload_n hx hb dX7_init_438 rfl (lv_at hl 0 rfl) ?_
  refine lv_bipush (v := 7) hx hb dX7_init_439 (by decide) ?_
  refine t_newi (N' := 7) hB hT 50 (by decide) k_101 (by decide) (by decide) (by decide) (Nat.le_of_ble_eq_true rfl) (Nat.le_of_ble_eq_true rfl) dX7_init_441 (fun q_804 H o_q_804 hT => ?_)
  have z_q_804 : g.1 q_804 = 0 := hE.z0 o_q_804
  replace hI : Inv (sA (sF g_803 h 44 (.ref q_754)) q_804 50 7) := hI.newi o_q_804 (by decide) (fun _ => rfl) trivial (fun _ => trivial)
  replace hM : Sm md_k_Model g (sA (sF g_803 h 44 (.ref q_754)) q_804 50 7) := hM.tr hE (Sm.push o_q_804 sA_g)
  replace hE : Ex g (sA (sF g_803 h 44 (.ref q_754)) q_804 50 7) := hE.tr (Ex.push o_q_804 sA_g)
  replace hP : PF [44, 43, 42, 41, 40, 39, 35, 33, 32, 31, 28, 27, 26, 25, 23, 20, 19, 18, 17, 16, 15, 14, 13, 12, 11, 10, 9, 8, 7, 6, 5, 4, 3, 2, 1, 60, 52, 51, 50, 49, 38, 37, 36, 34, 30, 29, 24, 22, 21, 0] (sA (sF g_803 h 44 (.ref q_754)) q_804 50 7) h := hP.pu (Ex.push o_q_804 sA_g) (sA_g h (ne0 r_755 o_q_804 (by decide))).2.1
  have zP : ZC (sA (sF g_803 h 44 (.ref q_754)) q_804 50 7) q_23 := zP.pu (sA_g q_23 (ne0 r_757 o_q_804 (by decide))).2.2.2.1
  have zN : ZC (sA (sF g_803 h 44 (.ref q_754)) q_804 50 7) q_500 := zN.pu (sA_g q_500 (ne0 r_759 o_q_804 (by decide))).2.2.2.1
  have r_805 : (sA (sF g_803 h 44 (.ref q_754)) q_804 50 7).1 h = 18 := ((sA_g h (ne0 r_755 o_q_804 (by decide))).1.trans r_755)
  have r_806 : (sA (sF g_803 h 44 (.ref q_754)) q_804 50 7).1 q_12 = 71 := ((sA_g q_12 (ne0 r_756 o_q_804 (by decide))).1.trans r_756)
  have r_807 : (sA (sF g_803 h 44 (.ref q_754)) q_804 50 7).1 q_23 = 72 := ((sA_g q_23 (ne0 r_757 o_q_804 (by decide))).1.trans r_757)
  have r_808 : (sA (sF g_803 h 44 (.ref q_754)) q_804 50 7).1 q_483 = 84 := ((sA_g q_483 (ne0 r_758 o_q_804 (by decide))).1.trans r_758)
  have r_809 : (sA (sF g_803 h 44 (.ref q_754)) q_804 50 7).1 q_500 = 85 := ((sA_g q_500 (ne0 r_759 o_q_804 (by decide))).1.trans r_759)
  have r_810 : (sA (sF g_803 h 44 (.ref q_754)) q_804 50 7).1 q_543 = 87 := ((sA_g q_543 (ne0 r_760 o_q_804 (by decide))).1.trans r_760)
  have r_811 : (sA (sF g_803 h 44 (.ref q_754)) q_804 50 7).1 q_804 = 50 := sA_r
  have n_812 : (sA (sF g_803 h 44 (.ref q_754)) q_804 50 7).2.2.1 q_12 = 48 := ((sA_g q_12 (ne0 r_756 o_q_804 (by decide))).2.2.1.trans n_762)
  have n_813 : (sA (sF g_803 h 44 (.ref q_754)) q_804 50 7).2.2.1 q_23 = 48 := ((sA_g q_23 (ne0 r_757 o_q_804 (by decide))).2.2.1.trans n_763)
  have n_814 : (sA (sF g_803 h 44 (.ref q_754)) q_804 50 7).2.2.1 q_483 = 8 := ((sA_g q_483 (ne0 r_758 o_q_804 (by decide))).2.2.1.trans n_764)
  have n_815 : (sA (sF g_803 h 44 (.ref q_754)) q_804 50 7).2.2.1 q_500 = 8 := ((sA_g q_500 (ne0 r_759 o_q_804 (by decide))).2.2.1.trans n_765)
  have n_816 : (sA (sF g_803 h 44 (.ref q_754)) q_804 50 7).2.2.1 q_543 = 24 := ((sA_g q_543 (ne0 r_760 o_q_804 (by decide))).2.2.1.trans n_766)
  have n_817 : (sA (sF g_803 h 44 (.ref q_754)) q_804 50 7).2.2.1 q_804 = 7 := sA_n
  have kn_818 : (sA (sF g_803 h 44 (.ref q_754)) q_804 50 7).2.1 h 0 = .int 0 := ((congrFun (sA_g h (ne0 r_755 o_q_804 (by decide))).2.1 0).trans (sF_k kn_768 (by decide)))
  have kn_819 : (sA (sF g_803 h 44 (.ref q_754)) q_804 50 7).2.1 h 22 = .int 0 := ((congrFun (sA_g h (ne0 r_755 o_q_804 (by decide))).2.1 22).trans (sF_k kn_769 (by decide)))
  have kn_820 : (sA (sF g_803 h 44 (.ref q_754)) q_804 50 7).2.1 h 24 = .int 0 := ((congrFun (sA_g h (ne0 r_755 o_q_804 (by decide))).2.1 24).trans (sF_k kn_770 (by decide)))
  have kn_821 : (sA (sF g_803 h 44 (.ref q_754)) q_804 50 7).2.1 h 29 = .int 0 := ((congrFun (sA_g h (ne0 r_755 o_q_804 (by decide))).2.1 29).trans (sF_k kn_771 (by decide)))
  have kn_822 : (sA (sF g_803 h 44 (.ref q_754)) q_804 50 7).2.1 h 30 = .int 0 := ((congrFun (sA_g h (ne0 r_755 o_q_804 (by decide))).2.1 30).trans (sF_k kn_772 (by decide)))
  have kn_823 : (sA (sF g_803 h 44 (.ref q_754)) q_804 50 7).2.1 h 34 = .int 0 := ((congrFun (sA_g h (ne0 r_755 o_q_804 (by decide))).2.1 34).trans (sF_k kn_773 (by decide)))
  have kn_824 : (sA (sF g_803 h 44 (.ref q_754)) q_804 50 7).2.1 h 2 = .ref q_12 := ((congrFun (sA_g h (ne0 r_755 o_q_804 (by decide))).2.1 2).trans (sF_k kn_774 (by decide)))
  have kn_825 : (sA (sF g_803 h 44 (.ref q_754)) q_804 50 7).2.1 h 3 = .ref q_23 := ((congrFun (sA_g h (ne0 r_755 o_q_804 (by decide))).2.1 3).trans (sF_k kn_775 (by decide)))
  have kn_826 : (sA (sF g_803 h 44 (.ref q_754)) q_804 50 7).2.1 h 39 = .ref q_483 := ((congrFun (sA_g h (ne0 r_755 o_q_804 (by decide))).2.1 39).trans (sF_k kn_776 (by decide)))
  have kn_827 : (sA (sF g_803 h 44 (.ref q_754)) q_804 50 7).2.1 h 40 = .ref q_500 := ((congrFun (sA_g h (ne0 r_755 o_q_804 (by decide))).2.1 40).trans (sF_k kn_777 (by decide)))
  have kn_828 : (sA (sF g_803 h 44 (.ref q_754)) q_804 50 7).2.1 h 42 = .ref q_543 := ((congrFun (sA_g h (ne0 r_755 o_q_804 (by decide))).2.1 42).trans (sF_k kn_778 (by decide)))
  have kn_829 : (sA (sF g_803 h 44 (.ref q_754)) q_804 50 7).2.2.2.1 q_543 (0 : Int32).toNatClampNeg = 115 := ((congrFun (sA_g q_543 (ne0 r_760 o_q_804 (by decide))).2.2.2.1 _).trans kn_779)
  have kn_830 : (sA (sF g_803 h 44 (.ref q_754)) q_804 50 7).2.2.2.1 q_543 (1 : Int32).toNatClampNeg = 101 := ((congrFun (sA_g q_543 (ne0 r_760 o_q_804 (by decide))).2.2.2.1 _).trans kn_780)
  have kn_831 : (sA (sF g_803 h 44 (.ref q_754)) q_804 50 7).2.2.2.1 q_543 (2 : Int32).toNatClampNeg = 116 := ((congrFun (sA_g q_543 (ne0 r_760 o_q_804 (by decide))).2.2.2.1 _).trans kn_781)
  have kn_832 : (sA (sF g_803 h 44 (.ref q_754)) q_804 50 7).2.2.2.1 q_543 (3 : Int32).toNatClampNeg = 97 := ((congrFun (sA_g q_543 (ne0 r_760 o_q_804 (by decide))).2.2.2.1 _).trans kn_782)
  have kn_833 : (sA (sF g_803 h 44 (.ref q_754)) q_804 50 7).2.2.2.1 q_543 (4 : Int32).toNatClampNeg = 100 := ((congrFun (sA_g q_543 (ne0 r_760 o_q_804 (by decide))).2.2.2.1 _).trans kn_783)
  have kn_834 : (sA (sF g_803 h 44 (.ref q_754)) q_804 50 7).2.2.2.1 q_543 (5 : Int32).toNatClampNeg = 100 := ((congrFun (sA_g q_543 (ne0 r_760 o_q_804 (by decide))).2.2.2.1 _).trans kn_784)
  have kn_835 : (sA (sF g_803 h 44 (.ref q_754)) q_804 50 7).2.2.2.1 q_543 (6 : Int32).toNatClampNeg = 109 := ((congrFun (sA_g q_543 (ne0 r_760 o_q_804 (by decide))).2.2.2.1 _).trans kn_785)
  have kn_836 : (sA (sF g_803 h 44 (.ref q_754)) q_804 50 7).2.2.2.1 q_543 (7 : Int32).toNatClampNeg = 97 := ((congrFun (sA_g q_543 (ne0 r_760 o_q_804 (by decide))).2.2.2.1 _).trans kn_786)
  have kn_837 : (sA (sF g_803 h 44 (.ref q_754)) q_804 50 7).2.2.2.1 q_543 (8 : Int32).toNatClampNeg = 120 := ((congrFun (sA_g q_543 (ne0 r_760 o_q_804 (by decide))).2.2.2.1 _).trans kn_787)
  have kn_838 : (sA (sF g_803 h 44 (.ref q_754)) q_804 50 7).2.2.2.1 q_543 (9 : Int32).toNatClampNeg = 110 := ((congrFun (sA_g q_543 (ne0 r_760 o_q_804 (by decide))).2.2.2.1 _).trans kn_788)
  have kn_839 : (sA (sF g_803 h 44 (.ref q_754)) q_804 50 7).2.2.2.1 q_543 (10 : Int32).toNatClampNeg = 101 := ((congrFun (sA_g q_543 (ne0 r_760 o_q_804 (by decide))).2.2.2.1 _).trans kn_789)
  have kn_840 : (sA (sF g_803 h 44 (.ref q_754)) q_804 50 7).2.2.2.1 q_543 (11 : Int32).toNatClampNeg = 119 := ((congrFun (sA_g q_543 (ne0 r_760 o_q_804 (by decide))).2.2.2.1 _).trans kn_790)
  have kn_841 : (sA (sF g_803 h 44 (.ref q_754)) q_804 50 7).2.2.2.1 q_543 (12 : Int32).toNatClampNeg = 103 := ((congrFun (sA_g q_543 (ne0 r_760 o_q_804 (by decide))).2.2.2.1 _).trans kn_791)
  have kn_842 : (sA (sF g_803 h 44 (.ref q_754)) q_804 50 7).2.2.2.1 q_543 (13 : Int32).toNatClampNeg = 101 := ((congrFun (sA_g q_543 (ne0 r_760 o_q_804 (by decide))).2.2.2.1 _).trans kn_792)
  have kn_843 : (sA (sF g_803 h 44 (.ref q_754)) q_804 50 7).2.2.2.1 q_543 (14 : Int32).toNatClampNeg = 116 := ((congrFun (sA_g q_543 (ne0 r_760 o_q_804 (by decide))).2.2.2.1 _).trans kn_793)
  have kn_844 : (sA (sF g_803 h 44 (.ref q_754)) q_804 50 7).2.2.2.1 q_543 (15 : Int32).toNatClampNeg = 97 := ((congrFun (sA_g q_543 (ne0 r_760 o_q_804 (by decide))).2.2.2.1 _).trans kn_794)
  have kn_845 : (sA (sF g_803 h 44 (.ref q_754)) q_804 50 7).2.2.2.1 q_543 (16 : Int32).toNatClampNeg = 115 := ((congrFun (sA_g q_543 (ne0 r_760 o_q_804 (by decide))).2.2.2.1 _).trans kn_795)
  have kn_846 : (sA (sF g_803 h 44 (.ref q_754)) q_804 50 7).2.2.2.1 q_543 (17 : Int32).toNatClampNeg = 107 := ((congrFun (sA_g q_543 (ne0 r_760 o_q_804 (by decide))).2.2.2.1 _).trans kn_796)
  have kn_847 : (sA (sF g_803 h 44 (.ref q_754)) q_804 50 7).2.2.2.1 q_543 (18 : Int32).toNatClampNeg = 100 := ((congrFun (sA_g q_543 (ne0 r_760 o_q_804 (by decide))).2.2.2.1 _).trans kn_797)
  have kn_848 : (sA (sF g_803 h 44 (.ref q_754)) q_804 50 7).2.2.2.1 q_543 (19 : Int32).toNatClampNeg = 111 := ((congrFun (sA_g q_543 (ne0 r_760 o_q_804 (by decide))).2.2.2.1 _).trans kn_798)
  have kn_849 : (sA (sF g_803 h 44 (.ref q_754)) q_804 50 7).2.2.2.1 q_543 (20 : Int32).toNatClampNeg = 0 := ((congrFun (sA_g q_543 (ne0 r_760 o_q_804 (by decide))).2.2.2.1 _).trans kn_799)
  have kn_850 : (sA (sF g_803 h 44 (.ref q_754)) q_804 50 7).2.2.2.1 q_543 (21 : Int32).toNatClampNeg = 105 := ((congrFun (sA_g q_543 (ne0 r_760 o_q_804 (by decide))).2.2.2.1 _).trans kn_800)
  have kn_851 : (sA (sF g_803 h 44 (.ref q_754)) q_804 50 7).2.2.2.1 q_543 (22 : Int32).toNatClampNeg = 102 := ((congrFun (sA_g q_543 (ne0 r_760 o_q_804 (by decide))).2.2.2.1 _).trans kn_801)
  have kn_852 : (sA (sF g_803 h 44 (.ref q_754)) q_804 50 7).2.2.2.1 q_543 (23 : Int32).toNatClampNeg = 0 := ((congrFun (sA_g q_543 (ne0 r_760 o_q_804 (by decide))).2.2.2.1 _).trans kn_802)
  generalize (sA (sF g_803 h 44 (.ref q_754)) q_804 50 7) = g_853 at hT hI hM hE r_805 r_806 r_807 r_808 r_809 r_810 r_811 n_812 n_813 n_814 n_815 n_816 n_817 kn_818 kn_819 kn_820 kn_821 kn_822 kn_823 kn_824 kn_825 kn_826 kn_827 kn_828 kn_829 kn_830 kn_831 kn_832 kn_833 kn_834 kn_835 kn_836 kn_837 kn_838 kn_839 kn_840 kn_841 kn_842 kn_843 kn_844 kn_845 kn_846 kn_847 kn_848 kn_849 kn_850 kn_851 kn_852 hP zP zN
  clear kn_768 kn_769 kn_770 kn_771 kn_772 kn_773 kn_774 kn_775 kn_776 kn_777 kn_778 kn_779 kn_780 kn_781 kn_782 kn_783 kn_784 kn_785 kn_786 kn_787 kn_788 kn_789 kn_790 kn_791 kn_792 kn_793 kn_794 kn_795 kn_796 kn_797 kn_798 kn_799 kn_800 kn_801 kn_802 n_762 n_763 n_764 n_765 n_766 r_755 r_756 r_757 r_758 r_759 r_760
  refine W.widen (k := 36) (n := 1619) (Nat.le_of_ble_eq_true rfl) (Nat.le_of_ble_eq_true rfl) ?_
  refine t_put0 (ci := 7) (v := .ref q_804) hB hT (ro_ci r_805 rfl) (ro_n0 r_805 (by decide)) rfl 45 (by decide) k_790 (Or.inr ⟨hin, rfl⟩) rfl rfl dX7_init_443 (fun H locs hT => ?_)
  replace hI : Inv (sF g_853 h 45 (.ref q_804)) := hI.sF (fk r_805 (show fsm _ _ ft from trivial))
  replace hM : Sm md_k_Model g (sF g_853 h 45 (.ref q_804)) := hM.tr hE (Sm_sF (by rw [r_805]; rfl))
  replace hE : Ex g (sF g_853 h 45 (.ref q_804)) := hE
  replace hP : PF [45, 44, 43, 42, 41, 40, 39, 35, 33, 32, 31, 28, 27, 26, 25, 23, 20, 19, 18, 17, 16, 15, 14, 13, 12, 11, 10, 9, 8, 7, 6, 5, 4, 3, 2, 1, 60, 52, 51, 50, 49, 38, 37, 36, 34, 30, 29, 24, 22, 21, 0] (sF g_853 h 45 (.ref q_804)) h := hP.put (q_8_45 (⟨_, rfl, r_811, n_817⟩))
  have zP : ZC (sF g_853 h 45 (.ref q_804)) q_23 := zP
  have zN : ZC (sF g_853 h 45 (.ref q_804)) q_500 := zN
  refine lv_aload_n hx hb dX7_init_446 rfl (lv_at hl 0 rfl) ?_
  refine lv_bipush (v := 7) hx hb dX7_init_447 (by decide) ?_
  refine t_newi (N' := 7) hB hT 55 (by decide) k_101 (by decide) (by decide) (by decide) (Nat.le_of_ble_eq_true rfl) (Nat.le_of_ble_eq_true rfl) dX7_init_449 (fun q_854 H o_q_854 hT => ?_)
  have z_q_854 : g.1 q_854 = 0 := hE.z0 o_q_854
  replace hI : Inv (sA (sF g_853 h 45 (.ref q_804)) q_854 55 7) := hI.newi o_q_854 (by decide) (fun _ => rfl) ⟨by decide, by decide⟩ (fun _ => trivial)
  replace hM : Sm md_k_Model g (sA (sF g_853 h 45 (.ref q_804)) q_854 55 7) := hM.tr hE (Sm.push o_q_854 sA_g)
  replace hE : Ex g (sA (sF g_853 h 45 (.ref q_804)) q_854 55 7) := hE.tr (Ex.push o_q_854 sA_g)
  replace hP : PF [45, 44, 43, 42, 41, 40, 39, 35, 33, 32, 31, 28, 27, 26, 25, 23, 20, 19, 18, 17, 16, 15, 14, 13, 12, 11, 10, 9, 8, 7, 6, 5, 4, 3, 2, 1, 60, 52, 51, 50, 49, 38, 37, 36, 34, 30, 29, 24, 22, 21, 0] (sA (sF g_853 h 45 (.ref q_804)) q_854 55 7) h := hP.pu (Ex.push o_q_854 sA_g) (sA_g h (ne0 r_805 o_q_854 (by decide))).2.1
  have zP : ZC (sA (sF g_853 h 45 (.ref q_804)) q_854 55 7) q_23 := zP.pu (sA_g q_23 (ne0 r_807 o_q_854 (by decide))).2.2.2.1
  have zN : ZC (sA (sF g_853 h 45 (.ref q_804)) q_854 55 7) q_500 := zN.pu (sA_g q_500 (ne0 r_809 o_q_854 (by decide))).2.2.2.1
  have r_855 : (sA (sF g_853 h 45 (.ref q_804)) q_854 55 7).1 h = 18 := ((sA_g h (ne0 r_805 o_q_854 (by decide))).1.trans r_805)
  have r_856 : (sA (sF g_853 h 45 (.ref q_804)) q_854 55 7).1 q_12 = 71 := ((sA_g q_12 (ne0 r_806 o_q_854 (by decide))).1.trans r_806)
  have r_857 : (sA (sF g_853 h 45 (.ref q_804)) q_854 55 7).1 q_23 = 72 := ((sA_g q_23 (ne0 r_807 o_q_854 (by decide))).1.trans r_807)
  have r_858 : (sA (sF g_853 h 45 (.ref q_804)) q_854 55 7).1 q_483 = 84 := ((sA_g q_483 (ne0 r_808 o_q_854 (by decide))).1.trans r_808)
  have r_859 : (sA (sF g_853 h 45 (.ref q_804)) q_854 55 7).1 q_500 = 85 := ((sA_g q_500 (ne0 r_809 o_q_854 (by decide))).1.trans r_809)
  have r_860 : (sA (sF g_853 h 45 (.ref q_804)) q_854 55 7).1 q_543 = 87 := ((sA_g q_543 (ne0 r_810 o_q_854 (by decide))).1.trans r_810)
  have r_861 : (sA (sF g_853 h 45 (.ref q_804)) q_854 55 7).1 q_854 = 55 := sA_r
  have n_862 : (sA (sF g_853 h 45 (.ref q_804)) q_854 55 7).2.2.1 q_12 = 48 := ((sA_g q_12 (ne0 r_806 o_q_854 (by decide))).2.2.1.trans n_812)
  have n_863 : (sA (sF g_853 h 45 (.ref q_804)) q_854 55 7).2.2.1 q_23 = 48 := ((sA_g q_23 (ne0 r_807 o_q_854 (by decide))).2.2.1.trans n_813)
  have n_864 : (sA (sF g_853 h 45 (.ref q_804)) q_854 55 7).2.2.1 q_483 = 8 := ((sA_g q_483 (ne0 r_808 o_q_854 (by decide))).2.2.1.trans n_814)
  have n_865 : (sA (sF g_853 h 45 (.ref q_804)) q_854 55 7).2.2.1 q_500 = 8 := ((sA_g q_500 (ne0 r_809 o_q_854 (by decide))).2.2.1.trans n_815)
  have n_866 : (sA (sF g_853 h 45 (.ref q_804)) q_854 55 7).2.2.1 q_543 = 24 := ((sA_g q_543 (ne0 r_810 o_q_854 (by decide))).2.2.1.trans n_816)
  have n_867 : (sA (sF g_853 h 45 (.ref q_804)) q_854 55 7).2.2.1 q_854 = 7 := sA_n
  have kn_868 : (sA (sF g_853 h 45 (.ref q_804)) q_854 55 7).2.1 h 0 = .int 0 := ((congrFun (sA_g h (ne0 r_805 o_q_854 (by decide))).2.1 0).trans (sF_k kn_818 (by decide)))
  have kn_869 : (sA (sF g_853 h 45 (.ref q_804)) q_854 55 7).2.1 h 22 = .int 0 := ((congrFun (sA_g h (ne0 r_805 o_q_854 (by decide))).2.1 22).trans (sF_k kn_819 (by decide)))
  have kn_870 : (sA (sF g_853 h 45 (.ref q_804)) q_854 55 7).2.1 h 24 = .int 0 := ((congrFun (sA_g h (ne0 r_805 o_q_854 (by decide))).2.1 24).trans (sF_k kn_820 (by decide)))
  have kn_871 : (sA (sF g_853 h 45 (.ref q_804)) q_854 55 7).2.1 h 29 = .int 0 := ((congrFun (sA_g h (ne0 r_805 o_q_854 (by decide))).2.1 29).trans (sF_k kn_821 (by decide)))
  have kn_872 : (sA (sF g_853 h 45 (.ref q_804)) q_854 55 7).2.1 h 30 = .int 0 := ((congrFun (sA_g h (ne0 r_805 o_q_854 (by decide))).2.1 30).trans (sF_k kn_822 (by decide)))
  have kn_873 : (sA (sF g_853 h 45 (.ref q_804)) q_854 55 7).2.1 h 34 = .int 0 := ((congrFun (sA_g h (ne0 r_805 o_q_854 (by decide))).2.1 34).trans (sF_k kn_823 (by decide)))
  have kn_874 : (sA (sF g_853 h 45 (.ref q_804)) q_854 55 7).2.1 h 2 = .ref q_12 := ((congrFun (sA_g h (ne0 r_805 o_q_854 (by decide))).2.1 2).trans (sF_k kn_824 (by decide)))
  have kn_875 : (sA (sF g_853 h 45 (.ref q_804)) q_854 55 7).2.1 h 3 = .ref q_23 := ((congrFun (sA_g h (ne0 r_805 o_q_854 (by decide))).2.1 3).trans (sF_k kn_825 (by decide)))
  have kn_876 : (sA (sF g_853 h 45 (.ref q_804)) q_854 55 7).2.1 h 39 = .ref q_483 := ((congrFun (sA_g h (ne0 r_805 o_q_854 (by decide))).2.1 39).trans (sF_k kn_826 (by decide)))
  have kn_877 : (sA (sF g_853 h 45 (.ref q_804)) q_854 55 7).2.1 h 40 = .ref q_500 := ((congrFun (sA_g h (ne0 r_805 o_q_854 (by decide))).2.1 40).trans (sF_k kn_827 (by decide)))
  have kn_878 : (sA (sF g_853 h 45 (.ref q_804)) q_854 55 7).2.1 h 42 = .ref q_543 := ((congrFun (sA_g h (ne0 r_805 o_q_854 (by decide))).2.1 42).trans (sF_k kn_828 (by decide)))
  have kn_879 : (sA (sF g_853 h 45 (.ref q_804)) q_854 55 7).2.2.2.1 q_543 (0 : Int32).toNatClampNeg = 115 := ((congrFun (sA_g q_543 (ne0 r_810 o_q_854 (by decide))).2.2.2.1 _).trans kn_829)
  have kn_880 : (sA (sF g_853 h 45 (.ref q_804)) q_854 55 7).2.2.2.1 q_543 (1 : Int32).toNatClampNeg = 101 := ((congrFun (sA_g q_543 (ne0 r_810 o_q_854 (by decide))).2.2.2.1 _).trans kn_830)
  have kn_881 : (sA (sF g_853 h 45 (.ref q_804)) q_854 55 7).2.2.2.1 q_543 (2 : Int32).toNatClampNeg = 116 := ((congrFun (sA_g q_543 (ne0 r_810 o_q_854 (by decide))).2.2.2.1 _).trans kn_831)
  have kn_882 : (sA (sF g_853 h 45 (.ref q_804)) q_854 55 7).2.2.2.1 q_543 (3 : Int32).toNatClampNeg = 97 := ((congrFun (sA_g q_543 (ne0 r_810 o_q_854 (by decide))).2.2.2.1 _).trans kn_832)
  have kn_883 : (sA (sF g_853 h 45 (.ref q_804)) q_854 55 7).2.2.2.1 q_543 (4 : Int32).toNatClampNeg = 100 := ((congrFun (sA_g q_543 (ne0 r_810 o_q_854 (by decide))).2.2.2.1 _).trans kn_833)
  have kn_884 : (sA (sF g_853 h 45 (.ref q_804)) q_854 55 7).2.2.2.1 q_543 (5 : Int32).toNatClampNeg = 100 := ((congrFun (sA_g q_543 (ne0 r_810 o_q_854 (by decide))).2.2.2.1 _).trans kn_834)
  have kn_885 : (sA (sF g_853 h 45 (.ref q_804)) q_854 55 7).2.2.2.1 q_543 (6 : Int32).toNatClampNeg = 109 := ((congrFun (sA_g q_543 (ne0 r_810 o_q_854 (by decide))).2.2.2.1 _).trans kn_835)
  have kn_886 : (sA (sF g_853 h 45 (.ref q_804)) q_854 55 7).2.2.2.1 q_543 (7 : Int32).toNatClampNeg = 97 := ((congrFun (sA_g q_543 (ne0 r_810 o_q_854 (by decide))).2.2.2.1 _).trans kn_836)
  have kn_887 : (sA (sF g_853 h 45 (.ref q_804)) q_854 55 7).2.2.2.1 q_543 (8 : Int32).toNatClampNeg = 120 := ((congrFun (sA_g q_543 (ne0 r_810 o_q_854 (by decide))).2.2.2.1 _).trans kn_837)
  have kn_888 : (sA (sF g_853 h 45 (.ref q_804)) q_854 55 7).2.2.2.1 q_543 (9 : Int32).toNatClampNeg = 110 := ((congrFun (sA_g q_543 (ne0 r_810 o_q_854 (by decide))).2.2.2.1 _).trans kn_838)
  have kn_889 : (sA (sF g_853 h 45 (.ref q_804)) q_854 55 7).2.2.2.1 q_543 (10 : Int32).toNatClampNeg = 101 := ((congrFun (sA_g q_543 (ne0 r_810 o_q_854 (by decide))).2.2.2.1 _).trans kn_839)
  have kn_890 : (sA (sF g_853 h 45 (.ref q_804)) q_854 55 7).2.2.2.1 q_543 (11 : Int32).toNatClampNeg = 119 := ((congrFun (sA_g q_543 (ne0 r_810 o_q_854 (by decide))).2.2.2.1 _).trans kn_840)
  have kn_891 : (sA (sF g_853 h 45 (.ref q_804)) q_854 55 7).2.2.2.1 q_543 (12 : Int32).toNatClampNeg = 103 := ((congrFun (sA_g q_543 (ne0 r_810 o_q_854 (by decide))).2.2.2.1 _).trans kn_841)
  have kn_892 : (sA (sF g_853 h 45 (.ref q_804)) q_854 55 7).2.2.2.1 q_543 (13 : Int32).toNatClampNeg = 101 := ((congrFun (sA_g q_543 (ne0 r_810 o_q_854 (by decide))).2.2.2.1 _).trans kn_842)
  have kn_893 : (sA (sF g_853 h 45 (.ref q_804)) q_854 55 7).2.2.2.1 q_543 (14 : Int32).toNatClampNeg = 116 := ((congrFun (sA_g q_543 (ne0 r_810 o_q_854 (by decide))).2.2.2.1 _).trans kn_843)
  have kn_894 : (sA (sF g_853 h 45 (.ref q_804)) q_854 55 7).2.2.2.1 q_543 (15 : Int32).toNatClampNeg = 97 := ((congrFun (sA_g q_543 (ne0 r_810 o_q_854 (by decide))).2.2.2.1 _).trans kn_844)
  have kn_895 : (sA (sF g_853 h 45 (.ref q_804)) q_854 55 7).2.2.2.1 q_543 (16 : Int32).toNatClampNeg = 115 := ((congrFun (sA_g q_543 (ne0 r_810 o_q_854 (by decide))).2.2.2.1 _).trans kn_845)
  have kn_896 : (sA (sF g_853 h 45 (.ref q_804)) q_854 55 7).2.2.2.1 q_543 (17 : Int32).toNatClampNeg = 107 := ((congrFun (sA_g q_543 (ne0 r_810 o_q_854 (by decide))).2.2.2.1 _).trans kn_846)
  have kn_897 : (sA (sF g_853 h 45 (.ref q_804)) q_854 55 7).2.2.2.1 q_543 (18 : Int32).toNatClampNeg = 100 := ((congrFun (sA_g q_543 (ne0 r_810 o_q_854 (by decide))).2.2.2.1 _).trans kn_847)
  have kn_898 : (sA (sF g_853 h 45 (.ref q_804)) q_854 55 7).2.2.2.1 q_543 (19 : Int32).toNatClampNeg = 111 := ((congrFun (sA_g q_543 (ne0 r_810 o_q_854 (by decide))).2.2.2.1 _).trans kn_848)
  have kn_899 : (sA (sF g_853 h 45 (.ref q_804)) q_854 55 7).2.2.2.1 q_543 (20 : Int32).toNatClampNeg = 0 := ((congrFun (sA_g q_543 (ne0 r_810 o_q_854 (by decide))).2.2.2.1 _).trans kn_849)
  have kn_900 : (sA (sF g_853 h 45 (.ref q_804)) q_854 55 7).2.2.2.1 q_543 (21 : Int32).toNatClampNeg = 105 := ((congrFun (sA_g q_543 (ne0 r_810 o_q_854 (by decide))).2.2.2.1 _).trans kn_850)
  have kn_901 : (sA (sF g_853 h 45 (.ref q_804)) q_854 55 7).2.2.2.1 q_543 (22 : Int32).toNatClampNeg = 102 := ((congrFun (sA_g q_543 (ne0 r_810 o_q_854 (by decide))).2.2.2.1 _).trans kn_851)
  have kn_902 : (sA (sF g_853 h 45 (.ref q_804)) q_854 55 7).2.2.2.1 q_543 (23 : Int32).toNatClampNeg = 0 := ((congrFun (sA_g q_543 (ne0 r_810 o_q_854 (by decide))).2.2.2.1 _).trans kn_852)
  generalize (sA (sF g_853 h 45 (.ref q_804)) q_854 55 7) = g_903 at hT hI hM hE r_855 r_856 r_857 r_858 r_859 r_860 r_861 n_862 n_863 n_864 n_865 n_866 n_867 kn_868 kn_869 kn_870 kn_871 kn_872 kn_873 kn_874 kn_875 kn_876 kn_877 kn_878 kn_879 kn_880 kn_881 kn_882 kn_883 kn_884 kn_885 kn_886 kn_887 kn_888 kn_889 kn_890 kn_891 kn_892 kn_893 kn_894 kn_895 kn_896 kn_897 kn_898 kn_899 kn_900 kn_901 kn_902 hP zP zN
  clear kn_818 kn_819 kn_820 kn_821 kn_822 kn_823 kn_824 kn_825 kn_826 kn_827 kn_828 kn_829 kn_830 kn_831 kn_832 kn_833 kn_834 kn_835 kn_836 kn_837 kn_838 kn_839 kn_840 kn_841 kn_842 kn_843 kn_844 kn_845 kn_846 kn_847 kn_848 kn_849 kn_850 kn_851 kn_852 n_812 n_813 n_814 n_815 n_816 r_805 r_806 r_807 r_808 r_809 r_810
  refine W.widen (k := 37) (n := 1626) (Nat.le_of_ble_eq_true rfl) (Nat.le_of_ble_eq_true rfl) ?_
  refine t_put0 (ci := 7) (v := .ref q_854) hB hT (ro_ci r_855 rfl) (ro_n0 r_855 (by decide)) rfl 46 (by decide) k_791 (Or.inr ⟨hin, rfl⟩) rfl rfl dX7_init_451 (fun H locs hT => ?_)
  replace hI : Inv (sF g_903 h 46 (.ref q_854)) := hI.sF (fk r_855 (show fsm _ _ ft from trivial))
  replace hM : Sm md_k_Model g (sF g_903 h 46 (.ref q_854)) := hM.tr hE (Sm_sF (by rw [r_855]; rfl))
  replace hE : Ex g (sF g_903 h 46 (.ref q_854)) := hE
  replace hP : PF [46, 45, 44, 43, 42, 41, 40, 39, 35, 33, 32, 31, 28, 27, 26, 25, 23, 20, 19, 18, 17, 16, 15, 14, 13, 12, 11, 10, 9, 8, 7, 6, 5, 4, 3, 2, 1, 60, 52, 51, 50, 49, 38, 37, 36, 34, 30, 29, 24, 22, 21, 0] (sF g_903 h 46 (.ref q_854)) h := hP.put (q_8_46 (⟨_, rfl, r_861, n_867⟩))
  have zP : ZC (sF g_903 h 46 (.ref q_854)) q_23 := zP
  have zN : ZC (sF g_903 h 46 (.ref q_854)) q_500 := zN
  refine lv_aload_n hx hb dX7_init_454 rfl (lv_at hl 0 rfl) ?_
  refine lv_bipush (v := 7) hx hb dX7_init_455 (by decide) ?_
  refine t_newi (N' := 7) hB hT 58 (by decide) k_101 (by decide) (by decide) (by decide) (Nat.le_of_ble_eq_true rfl) (Nat.le_of_ble_eq_true rfl) dX7_init_457 (fun q_904 H o_q_904 hT => ?_)
  have z_q_904 : g.1 q_904 = 0 := hE.z0 o_q_904
  replace hI : Inv (sA (sF g_903 h 46 (.ref q_854)) q_904 58 7) := hI.newi o_q_904 (by decide) (fun _ => rfl) ⟨by decide, by decide⟩ (fun _ => trivial)
  replace hM : Sm md_k_Model g (sA (sF g_903 h 46 (.ref q_854)) q_904 58 7) := hM.tr hE (Sm.push o_q_904 sA_g)
  replace hE : Ex g (sA (sF g_903 h 46 (.ref q_854)) q_904 58 7) := hE.tr (Ex.push o_q_904 sA_g)
  replace hP : PF [46, 45, 44, 43, 42, 41, 40, 39, 35, 33, 32, 31, 28, 27, 26, 25, 23, 20, 19, 18, 17, 16, 15, 14, 13, 12, 11, 10, 9, 8, 7, 6, 5, 4, 3, 2, 1, 60, 52, 51, 50, 49, 38, 37, 36, 34, 30, 29, 24, 22, 21, 0] (sA (sF g_903 h 46 (.ref q_854)) q_904 58 7) h := hP.pu (Ex.push o_q_904 sA_g) (sA_g h (ne0 r_855 o_q_904 (by decide))).2.1
  have zP : ZC (sA (sF g_903 h 46 (.ref q_854)) q_904 58 7) q_23 := zP.pu (sA_g q_23 (ne0 r_857 o_q_904 (by decide))).2.2.2.1
  have zN : ZC (sA (sF g_903 h 46 (.ref q_854)) q_904 58 7) q_500 := zN.pu (sA_g q_500 (ne0 r_859 o_q_904 (by decide))).2.2.2.1
  have r_905 : (sA (sF g_903 h 46 (.ref q_854)) q_904 58 7).1 h = 18 := ((sA_g h (ne0 r_855 o_q_904 (by decide))).1.trans r_855)
  have r_906 : (sA (sF g_903 h 46 (.ref q_854)) q_904 58 7).1 q_12 = 71 := ((sA_g q_12 (ne0 r_856 o_q_904 (by decide))).1.trans r_856)
  have r_907 : (sA (sF g_903 h 46 (.ref q_854)) q_904 58 7).1 q_23 = 72 := ((sA_g q_23 (ne0 r_857 o_q_904 (by decide))).1.trans r_857)
  have r_908 : (sA (sF g_903 h 46 (.ref q_854)) q_904 58 7).1 q_483 = 84 := ((sA_g q_483 (ne0 r_858 o_q_904 (by decide))).1.trans r_858)
  have r_909 : (sA (sF g_903 h 46 (.ref q_854)) q_904 58 7).1 q_500 = 85 := ((sA_g q_500 (ne0 r_859 o_q_904 (by decide))).1.trans r_859)
  have r_910 : (sA (sF g_903 h 46 (.ref q_854)) q_904 58 7).1 q_543 = 87 := ((sA_g q_543 (ne0 r_860 o_q_904 (by decide))).1.trans r_860)
  have r_911 : (sA (sF g_903 h 46 (.ref q_854)) q_904 58 7).1 q_904 = 58 := sA_r
  have n_912 : (sA (sF g_903 h 46 (.ref q_854)) q_904 58 7).2.2.1 q_12 = 48 := ((sA_g q_12 (ne0 r_856 o_q_904 (by decide))).2.2.1.trans n_862)
  have n_913 : (sA (sF g_903 h 46 (.ref q_854)) q_904 58 7).2.2.1 q_23 = 48 := ((sA_g q_23 (ne0 r_857 o_q_904 (by decide))).2.2.1.trans n_863)
  have n_914 : (sA (sF g_903 h 46 (.ref q_854)) q_904 58 7).2.2.1 q_483 = 8 := ((sA_g q_483 (ne0 r_858 o_q_904 (by decide))).2.2.1.trans n_864)
  have n_915 : (sA (sF g_903 h 46 (.ref q_854)) q_904 58 7).2.2.1 q_500 = 8 := ((sA_g q_500 (ne0 r_859 o_q_904 (by decide))).2.2.1.trans n_865)
  have n_916 : (sA (sF g_903 h 46 (.ref q_854)) q_904 58 7).2.2.1 q_543 = 24 := ((sA_g q_543 (ne0 r_860 o_q_904 (by decide))).2.2.1.trans n_866)
  have n_917 : (sA (sF g_903 h 46 (.ref q_854)) q_904 58 7).2.2.1 q_904 = 7 := sA_n
  have kn_918 : (sA (sF g_903 h 46 (.ref q_854)) q_904 58 7).2.1 h 0 = .int 0 := ((congrFun (sA_g h (ne0 r_855 o_q_904 (by decide))).2.1 0).trans (sF_k kn_868 (by decide)))
  have kn_919 : (sA (sF g_903 h 46 (.ref q_854)) q_904 58 7).2.1 h 22 = .int 0 := ((congrFun (sA_g h (ne0 r_855 o_q_904 (by decide))).2.1 22).trans (sF_k kn_869 (by decide)))
  have kn_920 : (sA (sF g_903 h 46 (.ref q_854)) q_904 58 7).2.1 h 24 = .int 0 := ((congrFun (sA_g h (ne0 r_855 o_q_904 (by decide))).2.1 24).trans (sF_k kn_870 (by decide)))
  have kn_921 : (sA (sF g_903 h 46 (.ref q_854)) q_904 58 7).2.1 h 29 = .int 0 := ((congrFun (sA_g h (ne0 r_855 o_q_904 (by decide))).2.1 29).trans (sF_k kn_871 (by decide)))
  have kn_922 : (sA (sF g_903 h 46 (.ref q_854)) q_904 58 7).2.1 h 30 = .int 0 := ((congrFun (sA_g h (ne0 r_855 o_q_904 (by decide))).2.1 30).trans (sF_k kn_872 (by decide)))
  have kn_923 : (sA (sF g_903 h 46 (.ref q_854)) q_904 58 7).2.1 h 34 = .int 0 := ((congrFun (sA_g h (ne0 r_855 o_q_904 (by decide))).2.1 34).trans (sF_k kn_873 (by decide)))
  have kn_924 : (sA (sF g_903 h 46 (.ref q_854)) q_904 58 7).2.1 h 2 = .ref q_12 := ((congrFun (sA_g h (ne0 r_855 o_q_904 (by decide))).2.1 2).trans (sF_k kn_874 (by decide)))
  have kn_925 : (sA (sF g_903 h 46 (.ref q_854)) q_904 58 7).2.1 h 3 = .ref q_23 := ((congrFun (sA_g h (ne0 r_855 o_q_904 (by decide))).2.1 3).trans (sF_k kn_875 (by decide)))
  have kn_926 : (sA (sF g_903 h 46 (.ref q_854)) q_904 58 7).2.1 h 39 = .ref q_483 := ((congrFun (sA_g h (ne0 r_855 o_q_904 (by decide))).2.1 39).trans (sF_k kn_876 (by decide)))
  have kn_927 : (sA (sF g_903 h 46 (.ref q_854)) q_904 58 7).2.1 h 40 = .ref q_500 := ((congrFun (sA_g h (ne0 r_855 o_q_904 (by decide))).2.1 40).trans (sF_k kn_877 (by decide)))
  have kn_928 : (sA (sF g_903 h 46 (.ref q_854)) q_904 58 7).2.1 h 42 = .ref q_543 := ((congrFun (sA_g h (ne0 r_855 o_q_904 (by decide))).2.1 42).trans (sF_k kn_878 (by decide)))
  have kn_929 : (sA (sF g_903 h 46 (.ref q_854)) q_904 58 7).2.2.2.1 q_543 (0 : Int32).toNatClampNeg = 115 := ((congrFun (sA_g q_543 (ne0 r_860 o_q_904 (by decide))).2.2.2.1 _).trans kn_879)
  have kn_930 : (sA (sF g_903 h 46 (.ref q_854)) q_904 58 7).2.2.2.1 q_543 (1 : Int32).toNatClampNeg = 101 := ((congrFun (sA_g q_543 (ne0 r_860 o_q_904 (by decide))).2.2.2.1 _).trans kn_880)
  have kn_931 : (sA (sF g_903 h 46 (.ref q_854)) q_904 58 7).2.2.2.1 q_543 (2 : Int32).toNatClampNeg = 116 := ((congrFun (sA_g q_543 (ne0 r_860 o_q_904 (by decide))).2.2.2.1 _).trans kn_881)
  have kn_932 : (sA (sF g_903 h 46 (.ref q_854)) q_904 58 7).2.2.2.1 q_543 (3 : Int32).toNatClampNeg = 97 := ((congrFun (sA_g q_543 (ne0 r_860 o_q_904 (by decide))).2.2.2.1 _).trans kn_882)
  have kn_933 : (sA (sF g_903 h 46 (.ref q_854)) q_904 58 7).2.2.2.1 q_543 (4 : Int32).toNatClampNeg = 100 := ((congrFun (sA_g q_543 (ne0 r_860 o_q_904 (by decide))).2.2.2.1 _).trans kn_883)
  have kn_934 : (sA (sF g_903 h 46 (.ref q_854)) q_904 58 7).2.2.2.1 q_543 (5 : Int32).toNatClampNeg = 100 := ((congrFun (sA_g q_543 (ne0 r_860 o_q_904 (by decide))).2.2.2.1 _).trans kn_884)
  have kn_935 : (sA (sF g_903 h 46 (.ref q_854)) q_904 58 7).2.2.2.1 q_543 (6 : Int32).toNatClampNeg = 109 := ((congrFun (sA_g q_543 (ne0 r_860 o_q_904 (by decide))).2.2.2.1 _).trans kn_885)
  have kn_936 : (sA (sF g_903 h 46 (.ref q_854)) q_904 58 7).2.2.2.1 q_543 (7 : Int32).toNatClampNeg = 97 := ((congrFun (sA_g q_543 (ne0 r_860 o_q_904 (by decide))).2.2.2.1 _).trans kn_886)
  have kn_937 : (sA (sF g_903 h 46 (.ref q_854)) q_904 58 7).2.2.2.1 q_543 (8 : Int32).toNatClampNeg = 120 := ((congrFun (sA_g q_543 (ne0 r_860 o_q_904 (by decide))).2.2.2.1 _).trans kn_887)
  have kn_938 : (sA (sF g_903 h 46 (.ref q_854)) q_904 58 7).2.2.2.1 q_543 (9 : Int32).toNatClampNeg = 110 := ((congrFun (sA_g q_543 (ne0 r_860 o_q_904 (by decide))).2.2.2.1 _).trans kn_888)
  have kn_939 : (sA (sF g_903 h 46 (.ref q_854)) q_904 58 7).2.2.2.1 q_543 (10 : Int32).toNatClampNeg = 101 := ((congrFun (sA_g q_543 (ne0 r_860 o_q_904 (by decide))).2.2.2.1 _).trans kn_889)
  have kn_940 : (sA (sF g_903 h 46 (.ref q_854)) q_904 58 7).2.2.2.1 q_543 (11 : Int32).toNatClampNeg = 119 := ((congrFun (sA_g q_543 (ne0 r_860 o_q_904 (by decide))).2.2.2.1 _).trans kn_890)
  have kn_941 : (sA (sF g_903 h 46 (.ref q_854)) q_904 58 7).2.2.2.1 q_543 (12 : Int32).toNatClampNeg = 103 := ((congrFun (sA_g q_543 (ne0 r_860 o_q_904 (by decide))).2.2.2.1 _).trans kn_891)
  have kn_942 : (sA (sF g_903 h 46 (.ref q_854)) q_904 58 7).2.2.2.1 q_543 (13 : Int32).toNatClampNeg = 101 := ((congrFun (sA_g q_543 (ne0 r_860 o_q_904 (by decide))).2.2.2.1 _).trans kn_892)
  have kn_943 : (sA (sF g_903 h 46 (.ref q_854)) q_904 58 7).2.2.2.1 q_543 (14 : Int32).toNatClampNeg = 116 := ((congrFun (sA_g q_543 (ne0 r_860 o_q_904 (by decide))).2.2.2.1 _).trans kn_893)
  have kn_944 : (sA (sF g_903 h 46 (.ref q_854)) q_904 58 7).2.2.2.1 q_543 (15 : Int32).toNatClampNeg = 97 := ((congrFun (sA_g q_543 (ne0 r_860 o_q_904 (by decide))).2.2.2.1 _).trans kn_894)
  have kn_945 : (sA (sF g_903 h 46 (.ref q_854)) q_904 58 7).2.2.2.1 q_543 (16 : Int32).toNatClampNeg = 115 := ((congrFun (sA_g q_543 (ne0 r_860 o_q_904 (by decide))).2.2.2.1 _).trans kn_895)
  have kn_946 : (sA (sF g_903 h 46 (.ref q_854)) q_904 58 7).2.2.2.1 q_543 (17 : Int32).toNatClampNeg = 107 := ((congrFun (sA_g q_543 (ne0 r_860 o_q_904 (by decide))).2.2.2.1 _).trans kn_896)
  have kn_947 : (sA (sF g_903 h 46 (.ref q_854)) q_904 58 7).2.2.2.1 q_543 (18 : Int32).toNatClampNeg = 100 := ((congrFun (sA_g q_543 (ne0 r_860 o_q_904 (by decide))).2.2.2.1 _).trans kn_897)
  have kn_948 : (sA (sF g_903 h 46 (.ref q_854)) q_904 58 7).2.2.2.1 q_543 (19 : Int32).toNatClampNeg = 111 := ((congrFun (sA_g q_543 (ne0 r_860 o_q_904 (by decide))).2.2.2.1 _).trans kn_898)
  have kn_949 : (sA (sF g_903 h 46 (.ref q_854)) q_904 58 7).2.2.2.1 q_543 (20 : Int32).toNatClampNeg = 0 := ((congrFun (sA_g q_543 (ne0 r_860 o_q_904 (by decide))).2.2.2.1 _).trans kn_899)
  have kn_950 : (sA (sF g_903 h 46 (.ref q_854)) q_904 58 7).2.2.2.1 q_543 (21 : Int32).toNatClampNeg = 105 := ((congrFun (sA_g q_543 (ne0 r_860 o_q_904 (by decide))).2.2.2.1 _).trans kn_900)
  have kn_951 : (sA (sF g_903 h 46 (.ref q_854)) q_904 58 7).2.2.2.1 q_543 (22 : Int32).toNatClampNeg = 102 := ((congrFun (sA_g q_543 (ne0 r_860 o_q_904 (by decide))).2.2.2.1 _).trans kn_901)
  have kn_952 : (sA (sF g_903 h 46 (.ref q_854)) q_904 58 7).2.2.2.1 q_543 (23 : Int32).toNatClampNeg = 0 := ((congrFun (sA_g q_543 (ne0 r_860 o_q_904 (by decide))).2.2.2.1 _).trans kn_902)
  generalize (sA (sF g_903 h 46 (.ref q_854)) q_904 58 7) = g_953 at hT hI hM hE r_905 r_906 r_907 r_908 r_909 r_910 r_911 n_912 n_913 n_914 n_915 n_916 n_917 kn_918 kn_919 kn_920 kn_921 kn_922 kn_923 kn_924 kn_925 kn_926 kn_927 kn_928 kn_929 kn_930 kn_931 kn_932 kn_933 kn_934 kn_935 kn_936 kn_937 kn_938 kn_939 kn_940 kn_941 kn_942 kn_943 kn_944 kn_945 kn_946 kn_947 kn_948 kn_949 kn_950 kn_951 kn_952 hP zP zN
  clear kn_868 kn_869 kn_870 kn_871 kn_872 kn_873 kn_874 kn_875 kn_876 kn_877 kn_878 kn_879 kn_880 kn_881 kn_882 kn_883 kn_884 kn_885 kn_886 kn_887 kn_888 kn_889 kn_890 kn_891 kn_892 kn_893 kn_894 kn_895 kn_896 kn_897 kn_898 kn_899 kn_900 kn_901 kn_902 n_862 n_863 n_864 n_865 n_866 r_855 r_856 r_857 r_858 r_859 r_860
  refine W.widen (k := 38) (n := 1633) (Nat.le_of_ble_eq_true rfl) (Nat.le_of_ble_eq_true rfl) ?_
  refine t_put0 (ci := 7) (v := .ref q_904) hB hT (ro_ci r_905 rfl) (ro_n0 r_905 (by decide)) rfl 47 (by decide) k_792 (Or.inr ⟨hin, rfl⟩) rfl rfl dX7_init_459 (fun H locs hT => ?_)
  replace hI : Inv (sF g_953 h 47 (.ref q_904)) := hI.sF (fk r_905 (show fsm _ _ ft from trivial))
  replace hM : Sm md_k_Model g (sF g_953 h 47 (.ref q_904)) := hM.tr hE (Sm_sF (by rw [r_905]; rfl))
  replace hE : Ex g (sF g_953 h 47 (.ref q_904)) := hE
  replace hP : PF [47, 46, 45, 44, 43, 42, 41, 40, 39, 35, 33, 32, 31, 28, 27, 26, 25, 23, 20, 19, 18, 17, 16, 15, 14, 13, 12, 11, 10, 9, 8, 7, 6, 5, 4, 3, 2, 1, 60, 52, 51, 50, 49, 38, 37, 36, 34, 30, 29, 24, 22, 21, 0] (sF g_953 h 47 (.ref q_904)) h := hP.put (q_8_47 (⟨_, rfl, r_911, n_917⟩))
  have zP : ZC (sF g_953 h 47 (.ref q_904)) q_23 := zP
  have zN : ZC (sF g_953 h 47 (.ref q_904)) q_500 := zN
  refine lv_aload_n hx hb dX7_init_462 rfl (lv_at hl 0 rfl) ?_
  refine lv_bipush (v := 7) hx hb dX7_init_463 (by decide) ?_
  refine t_newz (N' := 7) hB hT k_947 (by decide) (by decide) (by decide) (Nat.le_of_ble_eq_true rfl) (Nat.le_of_ble_eq_true rfl) dX7_init_465 (fun q_954 H o_q_954 hT => ?_)
  have z_q_954 : g.1 q_954 = 0 := hE.z0 o_q_954
  replace hI : Inv (sA (sF g_953 h 47 (.ref q_904)) q_954 40 7) := hI.newi o_q_954 (by decide) (fun _ => rfl) trivial (fun _ => trivial)
  replace hM : Sm md_k_Model g (sA (sF g_953 h 47 (.ref q_904)) q_954 40 7) := hM.tr hE (Sm.push o_q_954 sA_g)
  replace hE : Ex g (sA (sF g_953 h 47 (.ref q_904)) q_954 40 7) := hE.tr (Ex.push o_q_954 sA_g)
  replace hP : PF [47, 46, 45, 44, 43, 42, 41, 40, 39, 35, 33, 32, 31, 28, 27, 26, 25, 23, 20, 19, 18, 17, 16, 15, 14, 13, 12, 11, 10, 9, 8, 7, 6, 5, 4, 3, 2, 1, 60, 52, 51, 50, 49, 38, 37, 36, 34, 30, 29, 24, 22, 21, 0] (sA (sF g_953 h 47 (.ref q_904)) q_954 40 7) h := hP.pu (Ex.push o_q_954 sA_g) (sA_g h (ne0 r_905 o_q_954 (by decide))).2.1
  have zP : ZC (sA (sF g_953 h 47 (.ref q_904)) q_954 40 7) q_23 := zP.pu (sA_g q_23 (ne0 r_907 o_q_954 (by decide))).2.2.2.1
  have zN : ZC (sA (sF g_953 h 47 (.ref q_904)) q_954 40 7) q_500 := zN.pu (sA_g q_500 (ne0 r_909 o_q_954 (by decide))).2.2.2.1
  have r_955 : (sA (sF g_953 h 47 (.ref q_904)) q_954 40 7).1 h = 18 := ((sA_g h (ne0 r_905 o_q_954 (by decide))).1.trans r_905)
  have r_956 : (sA (sF g_953 h 47 (.ref q_904)) q_954 40 7).1 q_12 = 71 := ((sA_g q_12 (ne0 r_906 o_q_954 (by decide))).1.trans r_906)
  have r_957 : (sA (sF g_953 h 47 (.ref q_904)) q_954 40 7).1 q_23 = 72 := ((sA_g q_23 (ne0 r_907 o_q_954 (by decide))).1.trans r_907)
  have r_958 : (sA (sF g_953 h 47 (.ref q_904)) q_954 40 7).1 q_483 = 84 := ((sA_g q_483 (ne0 r_908 o_q_954 (by decide))).1.trans r_908)
  have r_959 : (sA (sF g_953 h 47 (.ref q_904)) q_954 40 7).1 q_500 = 85 := ((sA_g q_500 (ne0 r_909 o_q_954 (by decide))).1.trans r_909)
  have r_960 : (sA (sF g_953 h 47 (.ref q_904)) q_954 40 7).1 q_543 = 87 := ((sA_g q_543 (ne0 r_910 o_q_954 (by decide))).1.trans r_910)
  have r_961 : (sA (sF g_953 h 47 (.ref q_904)) q_954 40 7).1 q_954 = 40 := sA_r
  have n_962 : (sA (sF g_953 h 47 (.ref q_904)) q_954 40 7).2.2.1 q_12 = 48 := ((sA_g q_12 (ne0 r_906 o_q_954 (by decide))).2.2.1.trans n_912)
  have n_963 : (sA (sF g_953 h 47 (.ref q_904)) q_954 40 7).2.2.1 q_23 = 48 := ((sA_g q_23 (ne0 r_907 o_q_954 (by decide))).2.2.1.trans n_913)
  have n_964 : (sA (sF g_953 h 47 (.ref q_904)) q_954 40 7).2.2.1 q_483 = 8 := ((sA_g q_483 (ne0 r_908 o_q_954 (by decide))).2.2.1.trans n_914)
  have n_965 : (sA (sF g_953 h 47 (.ref q_904)) q_954 40 7).2.2.1 q_500 = 8 := ((sA_g q_500 (ne0 r_909 o_q_954 (by decide))).2.2.1.trans n_915)
  have n_966 : (sA (sF g_953 h 47 (.ref q_904)) q_954 40 7).2.2.1 q_543 = 24 := ((sA_g q_543 (ne0 r_910 o_q_954 (by decide))).2.2.1.trans n_916)
  have n_967 : (sA (sF g_953 h 47 (.ref q_904)) q_954 40 7).2.2.1 q_954 = 7 := sA_n
  have kn_968 : (sA (sF g_953 h 47 (.ref q_904)) q_954 40 7).2.1 h 0 = .int 0 := ((congrFun (sA_g h (ne0 r_905 o_q_954 (by decide))).2.1 0).trans (sF_k kn_918 (by decide)))
  have kn_969 : (sA (sF g_953 h 47 (.ref q_904)) q_954 40 7).2.1 h 22 = .int 0 := ((congrFun (sA_g h (ne0 r_905 o_q_954 (by decide))).2.1 22).trans (sF_k kn_919 (by decide)))
  have kn_970 : (sA (sF g_953 h 47 (.ref q_904)) q_954 40 7).2.1 h 24 = .int 0 := ((congrFun (sA_g h (ne0 r_905 o_q_954 (by decide))).2.1 24).trans (sF_k kn_920 (by decide)))
  have kn_971 : (sA (sF g_953 h 47 (.ref q_904)) q_954 40 7).2.1 h 29 = .int 0 := ((congrFun (sA_g h (ne0 r_905 o_q_954 (by decide))).2.1 29).trans (sF_k kn_921 (by decide)))
  have kn_972 : (sA (sF g_953 h 47 (.ref q_904)) q_954 40 7).2.1 h 30 = .int 0 := ((congrFun (sA_g h (ne0 r_905 o_q_954 (by decide))).2.1 30).trans (sF_k kn_922 (by decide)))
  have kn_973 : (sA (sF g_953 h 47 (.ref q_904)) q_954 40 7).2.1 h 34 = .int 0 := ((congrFun (sA_g h (ne0 r_905 o_q_954 (by decide))).2.1 34).trans (sF_k kn_923 (by decide)))
  have kn_974 : (sA (sF g_953 h 47 (.ref q_904)) q_954 40 7).2.1 h 2 = .ref q_12 := ((congrFun (sA_g h (ne0 r_905 o_q_954 (by decide))).2.1 2).trans (sF_k kn_924 (by decide)))
  have kn_975 : (sA (sF g_953 h 47 (.ref q_904)) q_954 40 7).2.1 h 3 = .ref q_23 := ((congrFun (sA_g h (ne0 r_905 o_q_954 (by decide))).2.1 3).trans (sF_k kn_925 (by decide)))
  have kn_976 : (sA (sF g_953 h 47 (.ref q_904)) q_954 40 7).2.1 h 39 = .ref q_483 := ((congrFun (sA_g h (ne0 r_905 o_q_954 (by decide))).2.1 39).trans (sF_k kn_926 (by decide)))
  have kn_977 : (sA (sF g_953 h 47 (.ref q_904)) q_954 40 7).2.1 h 40 = .ref q_500 := ((congrFun (sA_g h (ne0 r_905 o_q_954 (by decide))).2.1 40).trans (sF_k kn_927 (by decide)))
  have kn_978 : (sA (sF g_953 h 47 (.ref q_904)) q_954 40 7).2.1 h 42 = .ref q_543 := ((congrFun (sA_g h (ne0 r_905 o_q_954 (by decide))).2.1 42).trans (sF_k kn_928 (by decide)))
  have kn_979 : (sA (sF g_953 h 47 (.ref q_904)) q_954 40 7).2.2.2.1 q_543 (0 : Int32).toNatClampNeg = 115 := ((congrFun (sA_g q_543 (ne0 r_910 o_q_954 (by decide))).2.2.2.1 _).trans kn_929)
  have kn_980 : (sA (sF g_953 h 47 (.ref q_904)) q_954 40 7).2.2.2.1 q_543 (1 : Int32).toNatClampNeg = 101 := ((congrFun (sA_g q_543 (ne0 r_910 o_q_954 (by decide))).2.2.2.1 _).trans kn_930)
  have kn_981 : (sA (sF g_953 h 47 (.ref q_904)) q_954 40 7).2.2.2.1 q_543 (2 : Int32).toNatClampNeg = 116 := ((congrFun (sA_g q_543 (ne0 r_910 o_q_954 (by decide))).2.2.2.1 _).trans kn_931)
  have kn_982 : (sA (sF g_953 h 47 (.ref q_904)) q_954 40 7).2.2.2.1 q_543 (3 : Int32).toNatClampNeg = 97 := ((congrFun (sA_g q_543 (ne0 r_910 o_q_954 (by decide))).2.2.2.1 _).trans kn_932)
  have kn_983 : (sA (sF g_953 h 47 (.ref q_904)) q_954 40 7).2.2.2.1 q_543 (4 : Int32).toNatClampNeg = 100 := ((congrFun (sA_g q_543 (ne0 r_910 o_q_954 (by decide))).2.2.2.1 _).trans kn_933)
  have kn_984 : (sA (sF g_953 h 47 (.ref q_904)) q_954 40 7).2.2.2.1 q_543 (5 : Int32).toNatClampNeg = 100 := ((congrFun (sA_g q_543 (ne0 r_910 o_q_954 (by decide))).2.2.2.1 _).trans kn_934)
  have kn_985 : (sA (sF g_953 h 47 (.ref q_904)) q_954 40 7).2.2.2.1 q_543 (6 : Int32).toNatClampNeg = 109 := ((congrFun (sA_g q_543 (ne0 r_910 o_q_954 (by decide))).2.2.2.1 _).trans kn_935)
  have kn_986 : (sA (sF g_953 h 47 (.ref q_904)) q_954 40 7).2.2.2.1 q_543 (7 : Int32).toNatClampNeg = 97 := ((congrFun (sA_g q_543 (ne0 r_910 o_q_954 (by decide))).2.2.2.1 _).trans kn_936)
  have kn_987 : (sA (sF g_953 h 47 (.ref q_904)) q_954 40 7).2.2.2.1 q_543 (8 : Int32).toNatClampNeg = 120 := ((congrFun (sA_g q_543 (ne0 r_910 o_q_954 (by decide))).2.2.2.1 _).trans kn_937)
  have kn_988 : (sA (sF g_953 h 47 (.ref q_904)) q_954 40 7).2.2.2.1 q_543 (9 : Int32).toNatClampNeg = 110 := ((congrFun (sA_g q_543 (ne0 r_910 o_q_954 (by decide))).2.2.2.1 _).trans kn_938)
  have kn_989 : (sA (sF g_953 h 47 (.ref q_904)) q_954 40 7).2.2.2.1 q_543 (10 : Int32).toNatClampNeg = 101 := ((congrFun (sA_g q_543 (ne0 r_910 o_q_954 (by decide))).2.2.2.1 _).trans kn_939)
  have kn_990 : (sA (sF g_953 h 47 (.ref q_904)) q_954 40 7).2.2.2.1 q_543 (11 : Int32).toNatClampNeg = 119 := ((congrFun (sA_g q_543 (ne0 r_910 o_q_954 (by decide))).2.2.2.1 _).trans kn_940)
  have kn_991 : (sA (sF g_953 h 47 (.ref q_904)) q_954 40 7).2.2.2.1 q_543 (12 : Int32).toNatClampNeg = 103 := ((congrFun (sA_g q_543 (ne0 r_910 o_q_954 (by decide))).2.2.2.1 _).trans kn_941)
  have kn_992 : (sA (sF g_953 h 47 (.ref q_904)) q_954 40 7).2.2.2.1 q_543 (13 : Int32).toNatClampNeg = 101 := ((congrFun (sA_g q_543 (ne0 r_910 o_q_954 (by decide))).2.2.2.1 _).trans kn_942)
  have kn_993 : (sA (sF g_953 h 47 (.ref q_904)) q_954 40 7).2.2.2.1 q_543 (14 : Int32).toNatClampNeg = 116 := ((congrFun (sA_g q_543 (ne0 r_910 o_q_954 (by decide))).2.2.2.1 _).trans kn_943)
  have kn_994 : (sA (sF g_953 h 47 (.ref q_904)) q_954 40 7).2.2.2.1 q_543 (15 : Int32).toNatClampNeg = 97 := ((congrFun (sA_g q_543 (ne0 r_910 o_q_954 (by decide))).2.2.2.1 _).trans kn_944)
  have kn_995 : (sA (sF g_953 h 47 (.ref q_904)) q_954 40 7).2.2.2.1 q_543 (16 : Int32).toNatClampNeg = 115 := ((congrFun (sA_g q_543 (ne0 r_910 o_q_954 (by decide))).2.2.2.1 _).trans kn_945)
  have kn_996 : (sA (sF g_953 h 47 (.ref q_904)) q_954 40 7).2.2.2.1 q_543 (17 : Int32).toNatClampNeg = 107 := ((congrFun (sA_g q_543 (ne0 r_910 o_q_954 (by decide))).2.2.2.1 _).trans kn_946)
  have kn_997 : (sA (sF g_953 h 47 (.ref q_904)) q_954 40 7).2.2.2.1 q_543 (18 : Int32).toNatClampNeg = 100 := ((congrFun (sA_g q_543 (ne0 r_910 o_q_954 (by decide))).2.2.2.1 _).trans kn_947)
  have kn_998 : (sA (sF g_953 h 47 (.ref q_904)) q_954 40 7).2.2.2.1 q_543 (19 : Int32).toNatClampNeg = 111 := ((congrFun (sA_g q_543 (ne0 r_910 o_q_954 (by decide))).2.2.2.1 _).trans kn_948)
  have kn_999 : (sA (sF g_953 h 47 (.ref q_904)) q_954 40 7).2.2.2.1 q_543 (20 : Int32).toNatClampNeg = 0 := ((congrFun (sA_g q_543 (ne0 r_910 o_q_954 (by decide))).2.2.2.1 _).trans kn_949)
  have kn_1000 : (sA (sF g_953 h 47 (.ref q_904)) q_954 40 7).2.2.2.1 q_543 (21 : Int32).toNatClampNeg = 105 := ((congrFun (sA_g q_543 (ne0 r_910 o_q_954 (by decide))).2.2.2.1 _).trans kn_950)
  have kn_1001 : (sA (sF g_953 h 47 (.ref q_904)) q_954 40 7).2.2.2.1 q_543 (22 : Int32).toNatClampNeg = 102 := ((congrFun (sA_g q_543 (ne0 r_910 o_q_954 (by decide))).2.2.2.1 _).trans kn_951)
  have kn_1002 : (sA (sF g_953 h 47 (.ref q_904)) q_954 40 7).2.2.2.1 q_543 (23 : Int32).toNatClampNeg = 0 := ((congrFun (sA_g q_543 (ne0 r_910 o_q_954 (by decide))).2.2.2.1 _).trans kn_952)
  generalize (sA (sF g_953 h 47 (.ref q_904)) q_954 40 7) = g_1003 at hT hI hM hE r_955 r_956 r_957 r_958 r_959 r_960 r_961 n_962 n_963 n_964 n_965 n_966 n_967 kn_968 kn_969 kn_970 kn_971 kn_972 kn_973 kn_974 kn_975 kn_976 kn_977 kn_978 kn_979 kn_980 kn_981 kn_982 kn_983 kn_984 kn_985 kn_986 kn_987 kn_988 kn_989 kn_990 kn_991 kn_992 kn_993 kn_994 kn_995 kn_996 kn_997 kn_998 kn_999 kn_1000 kn_1001 kn_1002 hP zP zN
  clear kn_918 kn_919 kn_920 kn_921 kn_922 kn_923 kn_924 kn_925 kn_926 kn_927 kn_928 kn_929 kn_930 kn_931 kn_932 kn_933 kn_934 kn_935 kn_936 kn_937 kn_938 kn_939 kn_940 kn_941 kn_942 kn_943 kn_944 kn_945 kn_946 kn_947 kn_948 kn_949 kn_950 kn_951 kn_952 n_912 n_913 n_914 n_915 n_916 r_905 r_906 r_907 r_908 r_909 r_910
  refine W.widen (k := 39) (n := 1640) (Nat.le_of_ble_eq_true rfl) (Nat.le_of_ble_eq_true rfl) ?_
  refine t_put0 (ci := 7) (v := .ref q_954) hB hT (ro_ci r_955 rfl) (ro_n0 r_955 (by decide)) rfl 48 (by decide) k_793 (Or.inr ⟨hin, rfl⟩) rfl rfl dX7_init_467 (fun H locs hT => ?_)
  replace hI : Inv (sF g_1003 h 48 (.ref q_954)) := hI.sF (fk r_955 (show fsm _ _ ft from trivial))
  replace hM : Sm md_k_Model g (sF g_1003 h 48 (.ref q_954)) := hM.tr hE (Sm_sF (by rw [r_955]; rfl))
  replace hE : Ex g (sF g_1003 h 48 (.ref q_954)) := hE
  replace hP : PF [48, 47, 46, 45, 44, 43, 42, 41, 40, 39, 35, 33, 32, 31, 28, 27, 26, 25, 23, 20, 19, 18, 17, 16, 15, 14, 13, 12, 11, 10, 9, 8, 7, 6, 5, 4, 3, 2, 1, 60, 52, 51, 50, 49, 38, 37, 36, 34, 30, 29, 24, 22, 21, 0] (sF g_1003 h 48 (.ref q_954)) h := hP.put (q_8_48 (⟨_, rfl, r_961, n_967⟩))
  have zP : ZC (sF g_1003 h 48 (.ref q_954)) q_23 := zP
  have zN : ZC (sF g_1003 h 48 (.ref q_954)) q_500 := zN
  refine lv_aload_n hx hb dX7_init_470 rfl (lv_at hl 0 rfl) ?_
  refine lv_sipush (v := 1200) hx hb dX7_init_471 (by decide) ?_
  refine t_newi (N' := 1200) hB hT 56 (by decide) k_101 (by decide) (by decide) (by decide) (Nat.le_of_ble_eq_true rfl) (Nat.le_of_ble_eq_true rfl) dX7_init_474 (fun q_1004 H o_q_1004 hT => ?_)
  have z_q_1004 : g.1 q_1004 = 0 := hE.z0 o_q_1004
  replace hI : Inv (sA (sF g_1003 h 48 (.ref q_954)) q_1004 56 1200) := hI.newi o_q_1004 (by decide) (fun _ => rfl) ⟨by decide, by decide⟩ (fun _ => trivial)
  replace hM : Sm md_k_Model g (sA (sF g_1003 h 48 (.ref q_954)) q_1004 56 1200) := hM.tr hE (Sm.push o_q_1004 sA_g)
  replace hE : Ex g (sA (sF g_1003 h 48 (.ref q_954)) q_1004 56 1200) := hE.tr (Ex.push o_q_1004 sA_g)
  replace hP : PF [48, 47, 46, 45, 44, 43, 42, 41, 40, 39, 35, 33, 32, 31, 28, 27, 26, 25, 23, 20, 19, 18, 17, 16, 15, 14, 13, 12, 11, 10, 9, 8, 7, 6, 5, 4, 3, 2, 1, 60, 52, 51, 50, 49, 38, 37, 36, 34, 30, 29, 24, 22, 21, 0] (sA (sF g_1003 h 48 (.ref q_954)) q_1004 56 1200) h := hP.pu (Ex.push o_q_1004 sA_g) (sA_g h (ne0 r_955 o_q_1004 (by decide))).2.1
  have zP : ZC (sA (sF g_1003 h 48 (.ref q_954)) q_1004 56 1200) q_23 := zP.pu (sA_g q_23 (ne0 r_957 o_q_1004 (by decide))).2.2.2.1
  have zN : ZC (sA (sF g_1003 h 48 (.ref q_954)) q_1004 56 1200) q_500 := zN.pu (sA_g q_500 (ne0 r_959 o_q_1004 (by decide))).2.2.2.1
  have r_1005 : (sA (sF g_1003 h 48 (.ref q_954)) q_1004 56 1200).1 h = 18 := ((sA_g h (ne0 r_955 o_q_1004 (by decide))).1.trans r_955)
  have r_1006 : (sA (sF g_1003 h 48 (.ref q_954)) q_1004 56 1200).1 q_12 = 71 := ((sA_g q_12 (ne0 r_956 o_q_1004 (by decide))).1.trans r_956)
  have r_1007 : (sA (sF g_1003 h 48 (.ref q_954)) q_1004 56 1200).1 q_23 = 72 := ((sA_g q_23 (ne0 r_957 o_q_1004 (by decide))).1.trans r_957)
  have r_1008 : (sA (sF g_1003 h 48 (.ref q_954)) q_1004 56 1200).1 q_483 = 84 := ((sA_g q_483 (ne0 r_958 o_q_1004 (by decide))).1.trans r_958)
  have r_1009 : (sA (sF g_1003 h 48 (.ref q_954)) q_1004 56 1200).1 q_500 = 85 := ((sA_g q_500 (ne0 r_959 o_q_1004 (by decide))).1.trans r_959)
  have r_1010 : (sA (sF g_1003 h 48 (.ref q_954)) q_1004 56 1200).1 q_543 = 87 := ((sA_g q_543 (ne0 r_960 o_q_1004 (by decide))).1.trans r_960)
  have r_1011 : (sA (sF g_1003 h 48 (.ref q_954)) q_1004 56 1200).1 q_1004 = 56 := sA_r
  have n_1012 : (sA (sF g_1003 h 48 (.ref q_954)) q_1004 56 1200).2.2.1 q_12 = 48 := ((sA_g q_12 (ne0 r_956 o_q_1004 (by decide))).2.2.1.trans n_962)
  have n_1013 : (sA (sF g_1003 h 48 (.ref q_954)) q_1004 56 1200).2.2.1 q_23 = 48 := ((sA_g q_23 (ne0 r_957 o_q_1004 (by decide))).2.2.1.trans n_963)
  have n_1014 : (sA (sF g_1003 h 48 (.ref q_954)) q_1004 56 1200).2.2.1 q_483 = 8 := ((sA_g q_483 (ne0 r_958 o_q_1004 (by decide))).2.2.1.trans n_964)
  have n_1015 : (sA (sF g_1003 h 48 (.ref q_954)) q_1004 56 1200).2.2.1 q_500 = 8 := ((sA_g q_500 (ne0 r_959 o_q_1004 (by decide))).2.2.1.trans n_965)
  have n_1016 : (sA (sF g_1003 h 48 (.ref q_954)) q_1004 56 1200).2.2.1 q_543 = 24 := ((sA_g q_543 (ne0 r_960 o_q_1004 (by decide))).2.2.1.trans n_966)
  have n_1017 : (sA (sF g_1003 h 48 (.ref q_954)) q_1004 56 1200).2.2.1 q_1004 = 1200 := sA_n
  have kn_1018 : (sA (sF g_1003 h 48 (.ref q_954)) q_1004 56 1200).2.1 h 0 = .int 0 := ((congrFun (sA_g h (ne0 r_955 o_q_1004 (by decide))).2.1 0).trans (sF_k kn_968 (by decide)))
  have kn_1019 : (sA (sF g_1003 h 48 (.ref q_954)) q_1004 56 1200).2.1 h 22 = .int 0 := ((congrFun (sA_g h (ne0 r_955 o_q_1004 (by decide))).2.1 22).trans (sF_k kn_969 (by decide)))
  have kn_1020 : (sA (sF g_1003 h 48 (.ref q_954)) q_1004 56 1200).2.1 h 24 = .int 0 := ((congrFun (sA_g h (ne0 r_955 o_q_1004 (by decide))).2.1 24).trans (sF_k kn_970 (by decide)))
  have kn_1021 : (sA (sF g_1003 h 48 (.ref q_954)) q_1004 56 1200).2.1 h 29 = .int 0 := ((congrFun (sA_g h (ne0 r_955 o_q_1004 (by decide))).2.1 29).trans (sF_k kn_971 (by decide)))
  have kn_1022 : (sA (sF g_1003 h 48 (.ref q_954)) q_1004 56 1200).2.1 h 30 = .int 0 := ((congrFun (sA_g h (ne0 r_955 o_q_1004 (by decide))).2.1 30).trans (sF_k kn_972 (by decide)))
  have kn_1023 : (sA (sF g_1003 h 48 (.ref q_954)) q_1004 56 1200).2.1 h 34 = .int 0 := ((congrFun (sA_g h (ne0 r_955 o_q_1004 (by decide))).2.1 34).trans (sF_k kn_973 (by decide)))
  have kn_1024 : (sA (sF g_1003 h 48 (.ref q_954)) q_1004 56 1200).2.1 h 2 = .ref q_12 := ((congrFun (sA_g h (ne0 r_955 o_q_1004 (by decide))).2.1 2).trans (sF_k kn_974 (by decide)))
  have kn_1025 : (sA (sF g_1003 h 48 (.ref q_954)) q_1004 56 1200).2.1 h 3 = .ref q_23 := ((congrFun (sA_g h (ne0 r_955 o_q_1004 (by decide))).2.1 3).trans (sF_k kn_975 (by decide)))
  have kn_1026 : (sA (sF g_1003 h 48 (.ref q_954)) q_1004 56 1200).2.1 h 39 = .ref q_483 := ((congrFun (sA_g h (ne0 r_955 o_q_1004 (by decide))).2.1 39).trans (sF_k kn_976 (by decide)))
  have kn_1027 : (sA (sF g_1003 h 48 (.ref q_954)) q_1004 56 1200).2.1 h 40 = .ref q_500 := ((congrFun (sA_g h (ne0 r_955 o_q_1004 (by decide))).2.1 40).trans (sF_k kn_977 (by decide)))
  have kn_1028 : (sA (sF g_1003 h 48 (.ref q_954)) q_1004 56 1200).2.1 h 42 = .ref q_543 := ((congrFun (sA_g h (ne0 r_955 o_q_1004 (by decide))).2.1 42).trans (sF_k kn_978 (by decide)))
  have kn_1029 : (sA (sF g_1003 h 48 (.ref q_954)) q_1004 56 1200).2.2.2.1 q_543 (0 : Int32).toNatClampNeg = 115 := ((congrFun (sA_g q_543 (ne0 r_960 o_q_1004 (by decide))).2.2.2.1 _).trans kn_979)
  have kn_1030 : (sA (sF g_1003 h 48 (.ref q_954)) q_1004 56 1200).2.2.2.1 q_543 (1 : Int32).toNatClampNeg = 101 := ((congrFun (sA_g q_543 (ne0 r_960 o_q_1004 (by decide))).2.2.2.1 _).trans kn_980)
  have kn_1031 : (sA (sF g_1003 h 48 (.ref q_954)) q_1004 56 1200).2.2.2.1 q_543 (2 : Int32).toNatClampNeg = 116 := ((congrFun (sA_g q_543 (ne0 r_960 o_q_1004 (by decide))).2.2.2.1 _).trans kn_981)
  have kn_1032 : (sA (sF g_1003 h 48 (.ref q_954)) q_1004 56 1200).2.2.2.1 q_543 (3 : Int32).toNatClampNeg = 97 := ((congrFun (sA_g q_543 (ne0 r_960 o_q_1004 (by decide))).2.2.2.1 _).trans kn_982)
  have kn_1033 : (sA (sF g_1003 h 48 (.ref q_954)) q_1004 56 1200).2.2.2.1 q_543 (4 : Int32).toNatClampNeg = 100 := ((congrFun (sA_g q_543 (ne0 r_960 o_q_1004 (by decide))).2.2.2.1 _).trans kn_983)
  have kn_1034 : (sA (sF g_1003 h 48 (.ref q_954)) q_1004 56 1200).2.2.2.1 q_543 (5 : Int32).toNatClampNeg = 100 := ((congrFun (sA_g q_543 (ne0 r_960 o_q_1004 (by decide))).2.2.2.1 _).trans kn_984)
  have kn_1035 : (sA (sF g_1003 h 48 (.ref q_954)) q_1004 56 1200).2.2.2.1 q_543 (6 : Int32).toNatClampNeg = 109 := ((congrFun (sA_g q_543 (ne0 r_960 o_q_1004 (by decide))).2.2.2.1 _).trans kn_985)
  have kn_1036 : (sA (sF g_1003 h 48 (.ref q_954)) q_1004 56 1200).2.2.2.1 q_543 (7 : Int32).toNatClampNeg = 97 := ((congrFun (sA_g q_543 (ne0 r_960 o_q_1004 (by decide))).2.2.2.1 _).trans kn_986)
  have kn_1037 : (sA (sF g_1003 h 48 (.ref q_954)) q_1004 56 1200).2.2.2.1 q_543 (8 : Int32).toNatClampNeg = 120 := ((congrFun (sA_g q_543 (ne0 r_960 o_q_1004 (by decide))).2.2.2.1 _).trans kn_987)
  have kn_1038 : (sA (sF g_1003 h 48 (.ref q_954)) q_1004 56 1200).2.2.2.1 q_543 (9 : Int32).toNatClampNeg = 110 := ((congrFun (sA_g q_543 (ne0 r_960 o_q_1004 (by decide))).2.2.2.1 _).trans kn_988)
  have kn_1039 : (sA (sF g_1003 h 48 (.ref q_954)) q_1004 56 1200).2.2.2.1 q_543 (10 : Int32).toNatClampNeg = 101 := ((congrFun (sA_g q_543 (ne0 r_960 o_q_1004 (by decide))).2.2.2.1 _).trans kn_989)
  have kn_1040 : (sA (sF g_1003 h 48 (.ref q_954)) q_1004 56 1200).2.2.2.1 q_543 (11 : Int32).toNatClampNeg = 119 := ((congrFun (sA_g q_543 (ne0 r_960 o_q_1004 (by decide))).2.2.2.1 _).trans kn_990)
  have kn_1041 : (sA (sF g_1003 h 48 (.ref q_954)) q_1004 56 1200).2.2.2.1 q_543 (12 : Int32).toNatClampNeg = 103 := ((congrFun (sA_g q_543 (ne0 r_960 o_q_1004 (by decide))).2.2.2.1 _).trans kn_991)
  have kn_1042 : (sA (sF g_1003 h 48 (.ref q_954)) q_1004 56 1200).2.2.2.1 q_543 (13 : Int32).toNatClampNeg = 101 := ((congrFun (sA_g q_543 (ne0 r_960 o_q_1004 (by decide))).2.2.2.1 _).trans kn_992)
  have kn_1043 : (sA (sF g_1003 h 48 (.ref q_954)) q_1004 56 1200).2.2.2.1 q_543 (14 : Int32).toNatClampNeg = 116 := ((congrFun (sA_g q_543 (ne0 r_960 o_q_1004 (by decide))).2.2.2.1 _).trans kn_993)
  have kn_1044 : (sA (sF g_1003 h 48 (.ref q_954)) q_1004 56 1200).2.2.2.1 q_543 (15 : Int32).toNatClampNeg = 97 := ((congrFun (sA_g q_543 (ne0 r_960 o_q_1004 (by decide))).2.2.2.1 _).trans kn_994)
  have kn_1045 : (sA (sF g_1003 h 48 (.ref q_954)) q_1004 56 1200).2.2.2.1 q_543 (16 : Int32).toNatClampNeg = 115 := ((congrFun (sA_g q_543 (ne0 r_960 o_q_1004 (by decide))).2.2.2.1 _).trans kn_995)
  have kn_1046 : (sA (sF g_1003 h 48 (.ref q_954)) q_1004 56 1200).2.2.2.1 q_543 (17 : Int32).toNatClampNeg = 107 := ((congrFun (sA_g q_543 (ne0 r_960 o_q_1004 (by decide))).2.2.2.1 _).trans kn_996)
  have kn_1047 : (sA (sF g_1003 h 48 (.ref q_954)) q_1004 56 1200).2.2.2.1 q_543 (18 : Int32).toNatClampNeg = 100 := ((congrFun (sA_g q_543 (ne0 r_960 o_q_1004 (by decide))).2.2.2.1 _).trans kn_997)
  have kn_1048 : (sA (sF g_1003 h 48 (.ref q_954)) q_1004 56 1200).2.2.2.1 q_543 (19 : Int32).toNatClampNeg = 111 := ((congrFun (sA_g q_543 (ne0 r_960 o_q_1004 (by decide))).2.2.2.1 _).trans kn_998)
  have kn_1049 : (sA (sF g_1003 h 48 (.ref q_954)) q_1004 56 1200).2.2.2.1 q_543 (20 : Int32).toNatClampNeg = 0 := ((congrFun (sA_g q_543 (ne0 r_960 o_q_1004 (by decide))).2.2.2.1 _).trans kn_999)
  have kn_1050 : (sA (sF g_1003 h 48 (.ref q_954)) q_1004 56 1200).2.2.2.1 q_543 (21 : Int32).toNatClampNeg = 105 := ((congrFun (sA_g q_543 (ne0 r_960 o_q_1004 (by decide))).2.2.2.1 _).trans kn_1000)
  have kn_1051 : (sA (sF g_1003 h 48 (.ref q_954)) q_1004 56 1200).2.2.2.1 q_543 (22 : Int32).toNatClampNeg = 102 := ((congrFun (sA_g q_543 (ne0 r_960 o_q_1004 (by decide))).2.2.2.1 _).trans kn_1001)
  have kn_1052 : (sA (sF g_1003 h 48 (.ref q_954)) q_1004 56 1200).2.2.2.1 q_543 (23 : Int32).toNatClampNeg = 0 := ((congrFun (sA_g q_543 (ne0 r_960 o_q_1004 (by decide))).2.2.2.1 _).trans kn_1002)
  generalize (sA (sF g_1003 h 48 (.ref q_954)) q_1004 56 1200) = g_1053 at hT hI hM hE r_1005 r_1006 r_1007 r_1008 r_1009 r_1010 r_1011 n_1012 n_1013 n_1014 n_1015 n_1016 n_1017 kn_1018 kn_1019 kn_1020 kn_1021 kn_1022 kn_1023 kn_1024 kn_1025 kn_1026 kn_1027 kn_1028 kn_1029 kn_1030 kn_1031 kn_1032 kn_1033 kn_1034 kn_1035 kn_1036 kn_1037 kn_1038 kn_1039 kn_1040 kn_1041 kn_1042 kn_1043 kn_1044 kn_1045 kn_1046 kn_1047 kn_1048 kn_1049 kn_1050 kn_1051 kn_1052 hP zP zN
  clear kn_1000 kn_1001 kn_1002 kn_968 kn_969 kn_970 kn_971 kn_972 kn_973 kn_974 kn_975 kn_976 kn_977 kn_978 kn_979 kn_980 kn_981 kn_982 kn_983 kn_984 kn_985 kn_986 kn_987 kn_988 kn_989 kn_990 kn_991 kn_992 kn_993 kn_994 kn_995 kn_996 kn_997 kn_998 kn_999 n_962 n_963 n_964 n_965 n_966 r_955 r_956 r_957 r_958 r_959 r_960
  refine W.widen (k := 40) (n := 2840) (Nat.le_of_ble_eq_true rfl) (Nat.le_of_ble_eq_true rfl) ?_
  refine t_put0 (ci := 7) (v := .ref q_1004) hB hT (ro_ci r_1005 rfl) (ro_n0 r_1005 (by decide)) rfl 53 (by decide) k_798 (Or.inr ⟨hin, rfl⟩) rfl rfl dX7_init_476 (fun H locs hT => ?_)
  replace hI : Inv (sF g_1053 h 53 (.ref q_1004)) := hI.sF (fk r_1005 (show fsm _ _ ft from trivial))
  replace hM : Sm md_k_Model g (sF g_1053 h 53 (.ref q_1004)) := hM.tr hE (Sm_sF (by rw [r_1005]; rfl))
  replace hE : Ex g (sF g_1053 h 53 (.ref q_1004)) := hE
  replace hP : PF [53, 48, 47, 46, 45, 44, 43, 42, 41, 40, 39, 35, 33, 32, 31, 28, 27, 26, 25, 23, 20, 19, 18, 17, 16, 15, 14, 13, 12, 11, 10, 9, 8, 7, 6, 5, 4, 3, 2, 1, 60, 52, 51, 50, 49, 38, 37, 36, 34, 30, 29, 24, 22, 21, 0] (sF g_1053 h 53 (.ref q_1004)) h := hP.put (q_8_53 (⟨_, rfl, r_1011, n_1017⟩))
  have zP : ZC (sF g_1053 h 53 (.ref q_1004)) q_23 := zP
  have zN : ZC (sF g_1053 h 53 (.ref q_1004)) q_500 := zN
  refine lv_aload_n hx hb dX7_init_479 rfl (lv_at hl 0 rfl) ?_
  refine lv_bipush (v := 48) hx hb dX7_init_480 (by decide) ?_
  refine t_newi (N' := 48) hB hT 50 (by decide) k_101 (by decide) (by decide) (by decide) (Nat.le_of_ble_eq_true rfl) (Nat.le_of_ble_eq_true rfl) dX7_init_482 (fun q_1054 H o_q_1054 hT => ?_)
  have z_q_1054 : g.1 q_1054 = 0 := hE.z0 o_q_1054
  replace hI : Inv (sA (sF g_1053 h 53 (.ref q_1004)) q_1054 50 48) := hI.newi o_q_1054 (by decide) (fun _ => rfl) trivial (fun _ => trivial)
  replace hM : Sm md_k_Model g (sA (sF g_1053 h 53 (.ref q_1004)) q_1054 50 48) := hM.tr hE (Sm.push o_q_1054 sA_g)
  replace hE : Ex g (sA (sF g_1053 h 53 (.ref q_1004)) q_1054 50 48) := hE.tr (Ex.push o_q_1054 sA_g)
  replace hP : PF [53, 48, 47, 46, 45, 44, 43, 42, 41, 40, 39, 35, 33, 32, 31, 28, 27, 26, 25, 23, 20, 19, 18, 17, 16, 15, 14, 13, 12, 11, 10, 9, 8, 7, 6, 5, 4, 3, 2, 1, 60, 52, 51, 50, 49, 38, 37, 36, 34, 30, 29, 24, 22, 21, 0] (sA (sF g_1053 h 53 (.ref q_1004)) q_1054 50 48) h := hP.pu (Ex.push o_q_1054 sA_g) (sA_g h (ne0 r_1005 o_q_1054 (by decide))).2.1
  have zP : ZC (sA (sF g_1053 h 53 (.ref q_1004)) q_1054 50 48) q_23 := zP.pu (sA_g q_23 (ne0 r_1007 o_q_1054 (by decide))).2.2.2.1
  have zN : ZC (sA (sF g_1053 h 53 (.ref q_1004)) q_1054 50 48) q_500 := zN.pu (sA_g q_500 (ne0 r_1009 o_q_1054 (by decide))).2.2.2.1
  have r_1055 : (sA (sF g_1053 h 53 (.ref q_1004)) q_1054 50 48).1 h = 18 := ((sA_g h (ne0 r_1005 o_q_1054 (by decide))).1.trans r_1005)
  have r_1056 : (sA (sF g_1053 h 53 (.ref q_1004)) q_1054 50 48).1 q_12 = 71 := ((sA_g q_12 (ne0 r_1006 o_q_1054 (by decide))).1.trans r_1006)
  have r_1057 : (sA (sF g_1053 h 53 (.ref q_1004)) q_1054 50 48).1 q_23 = 72 := ((sA_g q_23 (ne0 r_1007 o_q_1054 (by decide))).1.trans r_1007)
  have r_1058 : (sA (sF g_1053 h 53 (.ref q_1004)) q_1054 50 48).1 q_483 = 84 := ((sA_g q_483 (ne0 r_1008 o_q_1054 (by decide))).1.trans r_1008)
  have r_1059 : (sA (sF g_1053 h 53 (.ref q_1004)) q_1054 50 48).1 q_500 = 85 := ((sA_g q_500 (ne0 r_1009 o_q_1054 (by decide))).1.trans r_1009)
  have r_1060 : (sA (sF g_1053 h 53 (.ref q_1004)) q_1054 50 48).1 q_543 = 87 := ((sA_g q_543 (ne0 r_1010 o_q_1054 (by decide))).1.trans r_1010)
  have r_1061 : (sA (sF g_1053 h 53 (.ref q_1004)) q_1054 50 48).1 q_1054 = 50 := sA_r
  have n_1062 : (sA (sF g_1053 h 53 (.ref q_1004)) q_1054 50 48).2.2.1 q_12 = 48 := ((sA_g q_12 (ne0 r_1006 o_q_1054 (by decide))).2.2.1.trans n_1012)
  have n_1063 : (sA (sF g_1053 h 53 (.ref q_1004)) q_1054 50 48).2.2.1 q_23 = 48 := ((sA_g q_23 (ne0 r_1007 o_q_1054 (by decide))).2.2.1.trans n_1013)
  have n_1064 : (sA (sF g_1053 h 53 (.ref q_1004)) q_1054 50 48).2.2.1 q_483 = 8 := ((sA_g q_483 (ne0 r_1008 o_q_1054 (by decide))).2.2.1.trans n_1014)
  have n_1065 : (sA (sF g_1053 h 53 (.ref q_1004)) q_1054 50 48).2.2.1 q_500 = 8 := ((sA_g q_500 (ne0 r_1009 o_q_1054 (by decide))).2.2.1.trans n_1015)
  have n_1066 : (sA (sF g_1053 h 53 (.ref q_1004)) q_1054 50 48).2.2.1 q_543 = 24 := ((sA_g q_543 (ne0 r_1010 o_q_1054 (by decide))).2.2.1.trans n_1016)
  have n_1067 : (sA (sF g_1053 h 53 (.ref q_1004)) q_1054 50 48).2.2.1 q_1054 = 48 := sA_n
  have kn_1068 : (sA (sF g_1053 h 53 (.ref q_1004)) q_1054 50 48).2.1 h 0 = .int 0 := ((congrFun (sA_g h (ne0 r_1005 o_q_1054 (by decide))).2.1 0).trans (sF_k kn_1018 (by decide)))
  have kn_1069 : (sA (sF g_1053 h 53 (.ref q_1004)) q_1054 50 48).2.1 h 22 = .int 0 := ((congrFun (sA_g h (ne0 r_1005 o_q_1054 (by decide))).2.1 22).trans (sF_k kn_1019 (by decide)))
  have kn_1070 : (sA (sF g_1053 h 53 (.ref q_1004)) q_1054 50 48).2.1 h 24 = .int 0 := ((congrFun (sA_g h (ne0 r_1005 o_q_1054 (by decide))).2.1 24).trans (sF_k kn_1020 (by decide)))
  have kn_1071 : (sA (sF g_1053 h 53 (.ref q_1004)) q_1054 50 48).2.1 h 29 = .int 0 := ((congrFun (sA_g h (ne0 r_1005 o_q_1054 (by decide))).2.1 29).trans (sF_k kn_1021 (by decide)))
  have kn_1072 : (sA (sF g_1053 h 53 (.ref q_1004)) q_1054 50 48).2.1 h 30 = .int 0 := ((congrFun (sA_g h (ne0 r_1005 o_q_1054 (by decide))).2.1 30).trans (sF_k kn_1022 (by decide)))
  have kn_1073 : (sA (sF g_1053 h 53 (.ref q_1004)) q_1054 50 48).2.1 h 34 = .int 0 := ((congrFun (sA_g h (ne0 r_1005 o_q_1054 (by decide))).2.1 34).trans (sF_k kn_1023 (by decide)))
  have kn_1074 : (sA (sF g_1053 h 53 (.ref q_1004)) q_1054 50 48).2.1 h 2 = .ref q_12 := ((congrFun (sA_g h (ne0 r_1005 o_q_1054 (by decide))).2.1 2).trans (sF_k kn_1024 (by decide)))
  have kn_1075 : (sA (sF g_1053 h 53 (.ref q_1004)) q_1054 50 48).2.1 h 3 = .ref q_23 := ((congrFun (sA_g h (ne0 r_1005 o_q_1054 (by decide))).2.1 3).trans (sF_k kn_1025 (by decide)))
  have kn_1076 : (sA (sF g_1053 h 53 (.ref q_1004)) q_1054 50 48).2.1 h 39 = .ref q_483 := ((congrFun (sA_g h (ne0 r_1005 o_q_1054 (by decide))).2.1 39).trans (sF_k kn_1026 (by decide)))
  have kn_1077 : (sA (sF g_1053 h 53 (.ref q_1004)) q_1054 50 48).2.1 h 40 = .ref q_500 := ((congrFun (sA_g h (ne0 r_1005 o_q_1054 (by decide))).2.1 40).trans (sF_k kn_1027 (by decide)))
  have kn_1078 : (sA (sF g_1053 h 53 (.ref q_1004)) q_1054 50 48).2.1 h 42 = .ref q_543 := ((congrFun (sA_g h (ne0 r_1005 o_q_1054 (by decide))).2.1 42).trans (sF_k kn_1028 (by decide)))
  have kn_1079 : (sA (sF g_1053 h 53 (.ref q_1004)) q_1054 50 48).2.2.2.1 q_543 (0 : Int32).toNatClampNeg = 115 := ((congrFun (sA_g q_543 (ne0 r_1010 o_q_1054 (by decide))).2.2.2.1 _).trans kn_1029)
  have kn_1080 : (sA (sF g_1053 h 53 (.ref q_1004)) q_1054 50 48).2.2.2.1 q_543 (1 : Int32).toNatClampNeg = 101 := ((congrFun (sA_g q_543 (ne0 r_1010 o_q_1054 (by decide))).2.2.2.1 _).trans kn_1030)
  have kn_1081 : (sA (sF g_1053 h 53 (.ref q_1004)) q_1054 50 48).2.2.2.1 q_543 (2 : Int32).toNatClampNeg = 116 := ((congrFun (sA_g q_543 (ne0 r_1010 o_q_1054 (by decide))).2.2.2.1 _).trans kn_1031)
  have kn_1082 : (sA (sF g_1053 h 53 (.ref q_1004)) q_1054 50 48).2.2.2.1 q_543 (3 : Int32).toNatClampNeg = 97 := ((congrFun (sA_g q_543 (ne0 r_1010 o_q_1054 (by decide))).2.2.2.1 _).trans kn_1032)
  have kn_1083 : (sA (sF g_1053 h 53 (.ref q_1004)) q_1054 50 48).2.2.2.1 q_543 (4 : Int32).toNatClampNeg = 100 := ((congrFun (sA_g q_543 (ne0 r_1010 o_q_1054 (by decide))).2.2.2.1 _).trans kn_1033)
  have kn_1084 : (sA (sF g_1053 h 53 (.ref q_1004)) q_1054 50 48).2.2.2.1 q_543 (5 : Int32).toNatClampNeg = 100 := ((congrFun (sA_g q_543 (ne0 r_1010 o_q_1054 (by decide))).2.2.2.1 _).trans kn_1034)
  have kn_1085 : (sA (sF g_1053 h 53 (.ref q_1004)) q_1054 50 48).2.2.2.1 q_543 (6 : Int32).toNatClampNeg = 109 := ((congrFun (sA_g q_543 (ne0 r_1010 o_q_1054 (by decide))).2.2.2.1 _).trans kn_1035)
  have kn_1086 : (sA (sF g_1053 h 53 (.ref q_1004)) q_1054 50 48).2.2.2.1 q_543 (7 : Int32).toNatClampNeg = 97 := ((congrFun (sA_g q_543 (ne0 r_1010 o_q_1054 (by decide))).2.2.2.1 _).trans kn_1036)
  have kn_1087 : (sA (sF g_1053 h 53 (.ref q_1004)) q_1054 50 48).2.2.2.1 q_543 (8 : Int32).toNatClampNeg = 120 := ((congrFun (sA_g q_543 (ne0 r_1010 o_q_1054 (by decide))).2.2.2.1 _).trans kn_1037)
  have kn_1088 : (sA (sF g_1053 h 53 (.ref q_1004)) q_1054 50 48).2.2.2.1 q_543 (9 : Int32).toNatClampNeg = 110 := ((congrFun (sA_g q_543 (ne0 r_1010 o_q_1054 (by decide))).2.2.2.1 _).trans kn_1038)
  have kn_1089 : (sA (sF g_1053 h 53 (.ref q_1004)) q_1054 50 48).2.2.2.1 q_543 (10 : Int32).toNatClampNeg = 101 := ((congrFun (sA_g q_543 (ne0 r_1010 o_q_1054 (by decide))).2.2.2.1 _).trans kn_1039)
  have kn_1090 : (sA (sF g_1053 h 53 (.ref q_1004)) q_1054 50 48).2.2.2.1 q_543 (11 : Int32).toNatClampNeg = 119 := ((congrFun (sA_g q_543 (ne0 r_1010 o_q_1054 (by decide))).2.2.2.1 _).trans kn_1040)
  have kn_1091 : (sA (sF g_1053 h 53 (.ref q_1004)) q_1054 50 48).2.2.2.1 q_543 (12 : Int32).toNatClampNeg = 103 := ((congrFun (sA_g q_543 (ne0 r_1010 o_q_1054 (by decide))).2.2.2.1 _).trans kn_1041)
  have kn_1092 : (sA (sF g_1053 h 53 (.ref q_1004)) q_1054 50 48).2.2.2.1 q_543 (13 : Int32).toNatClampNeg = 101 := ((congrFun (sA_g q_543 (ne0 r_1010 o_q_1054 (by decide))).2.2.2.1 _).trans kn_1042)
  have kn_1093 : (sA (sF g_1053 h 53 (.ref q_1004)) q_1054 50 48).2.2.2.1 q_543 (14 : Int32).toNatClampNeg = 116 := ((congrFun (sA_g q_543 (ne0 r_1010 o_q_1054 (by decide))).2.2.2.1 _).trans kn_1043)
  have kn_1094 : (sA (sF g_1053 h 53 (.ref q_1004)) q_1054 50 48).2.2.2.1 q_543 (15 : Int32).toNatClampNeg = 97 := ((congrFun (sA_g q_543 (ne0 r_1010 o_q_1054 (by decide))).2.2.2.1 _).trans kn_1044)
  have kn_1095 : (sA (sF g_1053 h 53 (.ref q_1004)) q_1054 50 48).2.2.2.1 q_543 (16 : Int32).toNatClampNeg = 115 := ((congrFun (sA_g q_543 (ne0 r_1010 o_q_1054 (by decide))).2.2.2.1 _).trans kn_1045)
  have kn_1096 : (sA (sF g_1053 h 53 (.ref q_1004)) q_1054 50 48).2.2.2.1 q_543 (17 : Int32).toNatClampNeg = 107 := ((congrFun (sA_g q_543 (ne0 r_1010 o_q_1054 (by decide))).2.2.2.1 _).trans kn_1046)
  have kn_1097 : (sA (sF g_1053 h 53 (.ref q_1004)) q_1054 50 48).2.2.2.1 q_543 (18 : Int32).toNatClampNeg = 100 := ((congrFun (sA_g q_543 (ne0 r_1010 o_q_1054 (by decide))).2.2.2.1 _).trans kn_1047)
  have kn_1098 : (sA (sF g_1053 h 53 (.ref q_1004)) q_1054 50 48).2.2.2.1 q_543 (19 : Int32).toNatClampNeg = 111 := ((congrFun (sA_g q_543 (ne0 r_1010 o_q_1054 (by decide))).2.2.2.1 _).trans kn_1048)
  have kn_1099 : (sA (sF g_1053 h 53 (.ref q_1004)) q_1054 50 48).2.2.2.1 q_543 (20 : Int32).toNatClampNeg = 0 := ((congrFun (sA_g q_543 (ne0 r_1010 o_q_1054 (by decide))).2.2.2.1 _).trans kn_1049)
  have kn_1100 : (sA (sF g_1053 h 53 (.ref q_1004)) q_1054 50 48).2.2.2.1 q_543 (21 : Int32).toNatClampNeg = 105 := ((congrFun (sA_g q_543 (ne0 r_1010 o_q_1054 (by decide))).2.2.2.1 _).trans kn_1050)
  have kn_1101 : (sA (sF g_1053 h 53 (.ref q_1004)) q_1054 50 48).2.2.2.1 q_543 (22 : Int32).toNatClampNeg = 102 := ((congrFun (sA_g q_543 (ne0 r_1010 o_q_1054 (by decide))).2.2.2.1 _).trans kn_1051)
  have kn_1102 : (sA (sF g_1053 h 53 (.ref q_1004)) q_1054 50 48).2.2.2.1 q_543 (23 : Int32).toNatClampNeg = 0 := ((congrFun (sA_g q_543 (ne0 r_1010 o_q_1054 (by decide))).2.2.2.1 _).trans kn_1052)
  generalize (sA (sF g_1053 h 53 (.ref q_1004)) q_1054 50 48) = g_1103 at hT hI hM hE r_1055 r_1056 r_1057 r_1058 r_1059 r_1060 r_1061 n_1062 n_1063 n_1064 n_1065 n_1066 n_1067 kn_1068 kn_1069 kn_1070 kn_1071 kn_1072 kn_1073 kn_1074 kn_1075 kn_1076 kn_1077 kn_1078 kn_1079 kn_1080 kn_1081 kn_1082 kn_1083 kn_1084 kn_1085 kn_1086 kn_1087 kn_1088 kn_1089 kn_1090 kn_1091 kn_1092 kn_1093 kn_1094 kn_1095 kn_1096 kn_1097 kn_1098 kn_1099 kn_1100 kn_1101 kn_1102 hP zP zN
  clear kn_1018 kn_1019 kn_1020 kn_1021 kn_1022 kn_1023 kn_1024 kn_1025 kn_1026 kn_1027 kn_1028 kn_1029 kn_1030 kn_1031 kn_1032 kn_1033 kn_1034 kn_1035 kn_1036 kn_1037 kn_1038 kn_1039 kn_1040 kn_1041 kn_1042 kn_1043 kn_1044 kn_1045 kn_1046 kn_1047 kn_1048 kn_1049 kn_1050 kn_1051 kn_1052 n_1012 n_1013 n_1014 n_1015 n_1016 r_1005 r_1006 r_1007 r_1008 r_1009 r_1010
  refine W.widen (k := 41) (n := 2888) (Nat.le_of_ble_eq_true rfl) (Nat.le_of_ble_eq_true rfl) ?_
  refine t_put0 (ci := 7) (v := .ref q_1054) hB hT (ro_ci r_1055 rfl) (ro_n0 r_1055 (by decide)) rfl 54 (by decide) k_799 (Or.inr ⟨hin, rfl⟩) rfl rfl dX7_init_484 (fun H locs hT => ?_)
  replace hI : Inv (sF g_1103 h 54 (.ref q_1054)) := hI.sF (fk r_1055 (show fsm _ _ ft from trivial))
  replace hM : Sm md_k_Model g (sF g_1103 h 54 (.ref q_1054)) := hM.tr hE (Sm_sF (by rw [r_1055]; rfl))
  replace hE : Ex g (sF g_1103 h 54 (.ref q_1054)) := hE
  replace hP : PF [54, 53, 48, 47, 46, 45, 44, 43, 42, 41, 40, 39, 35, 33, 32, 31, 28, 27, 26, 25, 23, 20, 19, 18, 17, 16, 15, 14, 13, 12, 11, 10, 9, 8, 7, 6, 5, 4, 3, 2, 1, 60, 52, 51, 50, 49, 38, 37, 36, 34, 30, 29, 24, 22, 21, 0] (sF g_1103 h 54 (.ref q_1054)) h := hP.put (q_8_54 (⟨_, rfl, r_1061, n_1067⟩))
  have zP : ZC (sF g_1103 h 54 (.ref q_1054)) q_23 := zP
  have zN : ZC (sF g_1103 h 54 (.ref q_1054)) q_500 := zN
  refine lv_aload_n hx hb dX7_init_487 rfl (lv_at hl 0 rfl) ?_
  refine lv_bipush (v := 48) hx hb dX7_init_488 (by decide) ?_
  refine t_newi (N' := 48) hB hT 50 (by decide) k_101 (by decide) (by decide) (by decide) (Nat.le_of_ble_eq_true rfl) (Nat.le_of_ble_eq_true rfl) dX7_init_490 (fun q_1104 H o_q_1104 hT => ?_)
  have z_q_1104 : g.1 q_1104 = 0 := hE.z0 o_q_1104
  replace hI : Inv (sA (sF g_1103 h 54 (.ref q_1054)) q_1104 50 48) := hI.newi o_q_1104 (by decide) (fun _ => rfl) trivial (fun _ => trivial)
  replace hM : Sm md_k_Model g (sA (sF g_1103 h 54 (.ref q_1054)) q_1104 50 48) := hM.tr hE (Sm.push o_q_1104 sA_g)
  replace hE : Ex g (sA (sF g_1103 h 54 (.ref q_1054)) q_1104 50 48) := hE.tr (Ex.push o_q_1104 sA_g)
  replace hP : PF [54, 53, 48, 47, 46, 45, 44, 43, 42, 41, 40, 39, 35, 33, 32, 31, 28, 27, 26, 25, 23, 20, 19, 18, 17, 16, 15, 14, 13, 12, 11, 10, 9, 8, 7, 6, 5, 4, 3, 2, 1, 60, 52, 51, 50, 49, 38, 37, 36, 34, 30, 29, 24, 22, 21, 0] (sA (sF g_1103 h 54 (.ref q_1054)) q_1104 50 48) h := hP.pu (Ex.push o_q_1104 sA_g) (sA_g h (ne0 r_1055 o_q_1104 (by decide))).2.1
  have zP : ZC (sA (sF g_1103 h 54 (.ref q_1054)) q_1104 50 48) q_23 := zP.pu (sA_g q_23 (ne0 r_1057 o_q_1104 (by decide))).2.2.2.1
  have zN : ZC (sA (sF g_1103 h 54 (.ref q_1054)) q_1104 50 48) q_500 := zN.pu (sA_g q_500 (ne0 r_1059 o_q_1104 (by decide))).2.2.2.1
  have r_1105 : (sA (sF g_1103 h 54 (.ref q_1054)) q_1104 50 48).1 h = 18 := ((sA_g h (ne0 r_1055 o_q_1104 (by decide))).1.trans r_1055)
  have r_1106 : (sA (sF g_1103 h 54 (.ref q_1054)) q_1104 50 48).1 q_12 = 71 := ((sA_g q_12 (ne0 r_1056 o_q_1104 (by decide))).1.trans r_1056)
  have r_1107 : (sA (sF g_1103 h 54 (.ref q_1054)) q_1104 50 48).1 q_23 = 72 := ((sA_g q_23 (ne0 r_1057 o_q_1104 (by decide))).1.trans r_1057)
  have r_1108 : (sA (sF g_1103 h 54 (.ref q_1054)) q_1104 50 48).1 q_483 = 84 := ((sA_g q_483 (ne0 r_1058 o_q_1104 (by decide))).1.trans r_1058)
  have r_1109 : (sA (sF g_1103 h 54 (.ref q_1054)) q_1104 50 48).1 q_500 = 85 := ((sA_g q_500 (ne0 r_1059 o_q_1104 (by decide))).1.trans r_1059)
  have r_1110 : (sA (sF g_1103 h 54 (.ref q_1054)) q_1104 50 48).1 q_543 = 87 := ((sA_g q_543 (ne0 r_1060 o_q_1104 (by decide))).1.trans r_1060)
  have r_1111 : (sA (sF g_1103 h 54 (.ref q_1054)) q_1104 50 48).1 q_1104 = 50 := sA_r
  have n_1112 : (sA (sF g_1103 h 54 (.ref q_1054)) q_1104 50 48).2.2.1 q_12 = 48 := ((sA_g q_12 (ne0 r_1056 o_q_1104 (by decide))).2.2.1.trans n_1062)
  have n_1113 : (sA (sF g_1103 h 54 (.ref q_1054)) q_1104 50 48).2.2.1 q_23 = 48 := ((sA_g q_23 (ne0 r_1057 o_q_1104 (by decide))).2.2.1.trans n_1063)
  have n_1114 : (sA (sF g_1103 h 54 (.ref q_1054)) q_1104 50 48).2.2.1 q_483 = 8 := ((sA_g q_483 (ne0 r_1058 o_q_1104 (by decide))).2.2.1.trans n_1064)
  have n_1115 : (sA (sF g_1103 h 54 (.ref q_1054)) q_1104 50 48).2.2.1 q_500 = 8 := ((sA_g q_500 (ne0 r_1059 o_q_1104 (by decide))).2.2.1.trans n_1065)
  have n_1116 : (sA (sF g_1103 h 54 (.ref q_1054)) q_1104 50 48).2.2.1 q_543 = 24 := ((sA_g q_543 (ne0 r_1060 o_q_1104 (by decide))).2.2.1.trans n_1066)
  have n_1117 : (sA (sF g_1103 h 54 (.ref q_1054)) q_1104 50 48).2.2.1 q_1104 = 48 := sA_n
  have kn_1118 : (sA (sF g_1103 h 54 (.ref q_1054)) q_1104 50 48).2.1 h 0 = .int 0 := ((congrFun (sA_g h (ne0 r_1055 o_q_1104 (by decide))).2.1 0).trans (sF_k kn_1068 (by decide)))
  have kn_1119 : (sA (sF g_1103 h 54 (.ref q_1054)) q_1104 50 48).2.1 h 22 = .int 0 := ((congrFun (sA_g h (ne0 r_1055 o_q_1104 (by decide))).2.1 22).trans (sF_k kn_1069 (by decide)))
  have kn_1120 : (sA (sF g_1103 h 54 (.ref q_1054)) q_1104 50 48).2.1 h 24 = .int 0 := ((congrFun (sA_g h (ne0 r_1055 o_q_1104 (by decide))).2.1 24).trans (sF_k kn_1070 (by decide)))
  have kn_1121 : (sA (sF g_1103 h 54 (.ref q_1054)) q_1104 50 48).2.1 h 29 = .int 0 := ((congrFun (sA_g h (ne0 r_1055 o_q_1104 (by decide))).2.1 29).trans (sF_k kn_1071 (by decide)))
  have kn_1122 : (sA (sF g_1103 h 54 (.ref q_1054)) q_1104 50 48).2.1 h 30 = .int 0 := ((congrFun (sA_g h (ne0 r_1055 o_q_1104 (by decide))).2.1 30).trans (sF_k kn_1072 (by decide)))
  have kn_1123 : (sA (sF g_1103 h 54 (.ref q_1054)) q_1104 50 48).2.1 h 34 = .int 0 := ((congrFun (sA_g h (ne0 r_1055 o_q_1104 (by decide))).2.1 34).trans (sF_k kn_1073 (by decide)))
  have kn_1124 : (sA (sF g_1103 h 54 (.ref q_1054)) q_1104 50 48).2.1 h 2 = .ref q_12 := ((congrFun (sA_g h (ne0 r_1055 o_q_1104 (by decide))).2.1 2).trans (sF_k kn_1074 (by decide)))
  have kn_1125 : (sA (sF g_1103 h 54 (.ref q_1054)) q_1104 50 48).2.1 h 3 = .ref q_23 := ((congrFun (sA_g h (ne0 r_1055 o_q_1104 (by decide))).2.1 3).trans (sF_k kn_1075 (by decide)))
  have kn_1126 : (sA (sF g_1103 h 54 (.ref q_1054)) q_1104 50 48).2.1 h 39 = .ref q_483 := ((congrFun (sA_g h (ne0 r_1055 o_q_1104 (by decide))).2.1 39).trans (sF_k kn_1076 (by decide)))
  have kn_1127 : (sA (sF g_1103 h 54 (.ref q_1054)) q_1104 50 48).2.1 h 40 = .ref q_500 := ((congrFun (sA_g h (ne0 r_1055 o_q_1104 (by decide))).2.1 40).trans (sF_k kn_1077 (by decide)))
  have kn_1128 : (sA (sF g_1103 h 54 (.ref q_1054)) q_1104 50 48).2.1 h 42 = .ref q_543 := ((congrFun (sA_g h (ne0 r_1055 o_q_1104 (by decide))).2.1 42).trans (sF_k kn_1078 (by decide)))
  have kn_1129 : (sA (sF g_1103 h 54 (.ref q_1054)) q_1104 50 48).2.2.2.1 q_543 (0 : Int32).toNatClampNeg = 115 := ((congrFun (sA_g q_543 (ne0 r_1060 o_q_1104 (by decide))).2.2.2.1 _).trans kn_1079)
  have kn_1130 : (sA (sF g_1103 h 54 (.ref q_1054)) q_1104 50 48).2.2.2.1 q_543 (1 : Int32).toNatClampNeg = 101 := ((congrFun (sA_g q_543 (ne0 r_1060 o_q_1104 (by decide))).2.2.2.1 _).trans kn_1080)
  have kn_1131 : (sA (sF g_1103 h 54 (.ref q_1054)) q_1104 50 48).2.2.2.1 q_543 (2 : Int32).toNatClampNeg = 116 := ((congrFun (sA_g q_543 (ne0 r_1060 o_q_1104 (by decide))).2.2.2.1 _).trans kn_1081)
  have kn_1132 : (sA (sF g_1103 h 54 (.ref q_1054)) q_1104 50 48).2.2.2.1 q_543 (3 : Int32).toNatClampNeg = 97 := ((congrFun (sA_g q_543 (ne0 r_1060 o_q_1104 (by decide))).2.2.2.1 _).trans kn_1082)
  have kn_1133 : (sA (sF g_1103 h 54 (.ref q_1054)) q_1104 50 48).2.2.2.1 q_543 (4 : Int32).toNatClampNeg = 100 := ((congrFun (sA_g q_543 (ne0 r_1060 o_q_1104 (by decide))).2.2.2.1 _).trans kn_1083)
  have kn_1134 : (sA (sF g_1103 h 54 (.ref q_1054)) q_1104 50 48).2.2.2.1 q_543 (5 : Int32).toNatClampNeg = 100 := ((congrFun (sA_g q_543 (ne0 r_1060 o_q_1104 (by decide))).2.2.2.1 _).trans kn_1084)
  have kn_1135 : (sA (sF g_1103 h 54 (.ref q_1054)) q_1104 50 48).2.2.2.1 q_543 (6 : Int32).toNatClampNeg = 109 := ((congrFun (sA_g q_543 (ne0 r_1060 o_q_1104 (by decide))).2.2.2.1 _).trans kn_1085)
  have kn_1136 : (sA (sF g_1103 h 54 (.ref q_1054)) q_1104 50 48).2.2.2.1 q_543 (7 : Int32).toNatClampNeg = 97 := ((congrFun (sA_g q_543 (ne0 r_1060 o_q_1104 (by decide))).2.2.2.1 _).trans kn_1086)
  have kn_1137 : (sA (sF g_1103 h 54 (.ref q_1054)) q_1104 50 48).2.2.2.1 q_543 (8 : Int32).toNatClampNeg = 120 := ((congrFun (sA_g q_543 (ne0 r_1060 o_q_1104 (by decide))).2.2.2.1 _).trans kn_1087)
  have kn_1138 : (sA (sF g_1103 h 54 (.ref q_1054)) q_1104 50 48).2.2.2.1 q_543 (9 : Int32).toNatClampNeg = 110 := ((congrFun (sA_g q_543 (ne0 r_1060 o_q_1104 (by decide))).2.2.2.1 _).trans kn_1088)
  have kn_1139 : (sA (sF g_1103 h 54 (.ref q_1054)) q_1104 50 48).2.2.2.1 q_543 (10 : Int32).toNatClampNeg = 101 := ((congrFun (sA_g q_543 (ne0 r_1060 o_q_1104 (by decide))).2.2.2.1 _).trans kn_1089)
  have kn_1140 : (sA (sF g_1103 h 54 (.ref q_1054)) q_1104 50 48).2.2.2.1 q_543 (11 : Int32).toNatClampNeg = 119 := ((congrFun (sA_g q_543 (ne0 r_1060 o_q_1104 (by decide))).2.2.2.1 _).trans kn_1090)
  have kn_1141 : (sA (sF g_1103 h 54 (.ref q_1054)) q_1104 50 48).2.2.2.1 q_543 (12 : Int32).toNatClampNeg = 103 := ((congrFun (sA_g q_543 (ne0 r_1060 o_q_1104 (by decide))).2.2.2.1 _).trans kn_1091)
  have kn_1142 : (sA (sF g_1103 h 54 (.ref q_1054)) q_1104 50 48).2.2.2.1 q_543 (13 : Int32).toNatClampNeg = 101 := ((congrFun (sA_g q_543 (ne0 r_1060 o_q_1104 (by decide))).2.2.2.1 _).trans kn_1092)
  have kn_1143 : (sA (sF g_1103 h 54 (.ref q_1054)) q_1104 50 48).2.2.2.1 q_543 (14 : Int32).toNatClampNeg = 116 := ((congrFun (sA_g q_543 (ne0 r_1060 o_q_1104 (by decide))).2.2.2.1 _).trans kn_1093)
  have kn_1144 : (sA (sF g_1103 h 54 (.ref q_1054)) q_1104 50 48).2.2.2.1 q_543 (15 : Int32).toNatClampNeg = 97 := ((congrFun (sA_g q_543 (ne0 r_1060 o_q_1104 (by decide))).2.2.2.1 _).trans kn_1094)
  have kn_1145 : (sA (sF g_1103 h 54 (.ref q_1054)) q_1104 50 48).2.2.2.1 q_543 (16 : Int32).toNatClampNeg = 115 := ((congrFun (sA_g q_543 (ne0 r_1060 o_q_1104 (by decide))).2.2.2.1 _).trans kn_1095)
  have kn_1146 : (sA (sF g_1103 h 54 (.ref q_1054)) q_1104 50 48).2.2.2.1 q_543 (17 : Int32).toNatClampNeg = 107 := ((congrFun (sA_g q_543 (ne0 r_1060 o_q_1104 (by decide))).2.2.2.1 _).trans kn_1096)
  have kn_1147 : (sA (sF g_1103 h 54 (.ref q_1054)) q_1104 50 48).2.2.2.1 q_543 (18 : Int32).toNatClampNeg = 100 := ((congrFun (sA_g q_543 (ne0 r_1060 o_q_1104 (by decide))).2.2.2.1 _).trans kn_1097)
  have kn_1148 : (sA (sF g_1103 h 54 (.ref q_1054)) q_1104 50 48).2.2.2.1 q_543 (19 : Int32).toNatClampNeg = 111 := ((congrFun (sA_g q_543 (ne0 r_1060 o_q_1104 (by decide))).2.2.2.1 _).trans kn_1098)
  have kn_1149 : (sA (sF g_1103 h 54 (.ref q_1054)) q_1104 50 48).2.2.2.1 q_543 (20 : Int32).toNatClampNeg = 0 := ((congrFun (sA_g q_543 (ne0 r_1060 o_q_1104 (by decide))).2.2.2.1 _).trans kn_1099)
  have kn_1150 : (sA (sF g_1103 h 54 (.ref q_1054)) q_1104 50 48).2.2.2.1 q_543 (21 : Int32).toNatClampNeg = 105 := ((congrFun (sA_g q_543 (ne0 r_1060 o_q_1104 (by decide))).2.2.2.1 _).trans kn_1100)
  have kn_1151 : (sA (sF g_1103 h 54 (.ref q_1054)) q_1104 50 48).2.2.2.1 q_543 (22 : Int32).toNatClampNeg = 102 := ((congrFun (sA_g q_543 (ne0 r_1060 o_q_1104 (by decide))).2.2.2.1 _).trans kn_1101)
  have kn_1152 : (sA (sF g_1103 h 54 (.ref q_1054)) q_1104 50 48).2.2.2.1 q_543 (23 : Int32).toNatClampNeg = 0 := ((congrFun (sA_g q_543 (ne0 r_1060 o_q_1104 (by decide))).2.2.2.1 _).trans kn_1102)
  generalize (sA (sF g_1103 h 54 (.ref q_1054)) q_1104 50 48) = g_1153 at hT hI hM hE r_1105 r_1106 r_1107 r_1108 r_1109 r_1110 r_1111 n_1112 n_1113 n_1114 n_1115 n_1116 n_1117 kn_1118 kn_1119 kn_1120 kn_1121 kn_1122 kn_1123 kn_1124 kn_1125 kn_1126 kn_1127 kn_1128 kn_1129 kn_1130 kn_1131 kn_1132 kn_1133 kn_1134 kn_1135 kn_1136 kn_1137 kn_1138 kn_1139 kn_1140 kn_1141 kn_1142 kn_1143 kn_1144 kn_1145 kn_1146 kn_1147 kn_1148 kn_1149 kn_1150 kn_1151 kn_1152 hP zP zN
  clear kn_1068 kn_1069 kn_1070 kn_1071 kn_1072 kn_1073 kn_1074 kn_1075 kn_1076 kn_1077 kn_1078 kn_1079 kn_1080 kn_1081 kn_1082 kn_1083 kn_1084 kn_1085 kn_1086 kn_1087 kn_1088 kn_1089 kn_1090 kn_1091 kn_1092 kn_1093 kn_1094 kn_1095 kn_1096 kn_1097 kn_1098 kn_1099 kn_1100 kn_1101 kn_1102 n_1062 n_1063 n_1064 n_1065 n_1066 r_1055 r_1056 r_1057 r_1058 r_1059 r_1060
  refine W.widen (k := 42) (n := 2936) (Nat.le_of_ble_eq_true rfl) (Nat.le_of_ble_eq_true rfl) ?_
  refine t_put0 (ci := 7) (v := .ref q_1104) hB hT (ro_ci r_1105 rfl) (ro_n0 r_1105 (by decide)) rfl 55 (by decide) k_800 (Or.inr ⟨hin, rfl⟩) rfl rfl dX7_init_492 (fun H locs hT => ?_)
  replace hI : Inv (sF g_1153 h 55 (.ref q_1104)) := hI.sF (fk r_1105 (show fsm _ _ ft from trivial))
  replace hM : Sm md_k_Model g (sF g_1153 h 55 (.ref q_1104)) := hM.tr hE (Sm_sF (by rw [r_1105]; rfl))
  replace hE : Ex g (sF g_1153 h 55 (.ref q_1104)) := hE
  replace hP : PF [55, 54, 53, 48, 47, 46, 45, 44, 43, 42, 41, 40, 39, 35, 33, 32, 31, 28, 27, 26, 25, 23, 20, 19, 18, 17, 16, 15, 14, 13, 12, 11, 10, 9, 8, 7, 6, 5, 4, 3, 2, 1, 60, 52, 51, 50, 49, 38, 37, 36, 34, 30, 29, 24, 22, 21, 0] (sF g_1153 h 55 (.ref q_1104)) h := hP.put (q_8_55 (⟨_, rfl, r_1111, n_1117⟩))
  have zP : ZC (sF g_1153 h 55 (.ref q_1104)) q_23 := zP
  have zN : ZC (sF g_1153 h 55 (.ref q_1104)) q_500 := zN
  refine lv_aload_n hx hb dX7_init_495 rfl (lv_at hl 0 rfl) ?_
  refine lv_bipush (v := 48) hx hb dX7_init_496 (by decide) ?_
  refine t_newi (N' := 48) hB hT 50 (by decide) k_101 (by decide) (by decide) (by decide) (Nat.le_of_ble_eq_true rfl) (Nat.le_of_ble_eq_true rfl) dX7_init_498 (fun q_1154 H o_q_1154 hT => ?_)
  have z_q_1154 : g.1 q_1154 = 0 := hE.z0 o_q_1154
  replace hI : Inv (sA (sF g_1153 h 55 (.ref q_1104)) q_1154 50 48) := hI.newi o_q_1154 (by decide) (fun _ => rfl) trivial (fun _ => trivial)
  replace hM : Sm md_k_Model g (sA (sF g_1153 h 55 (.ref q_1104)) q_1154 50 48) := hM.tr hE (Sm.push o_q_1154 sA_g)
  replace hE : Ex g (sA (sF g_1153 h 55 (.ref q_1104)) q_1154 50 48) := hE.tr (Ex.push o_q_1154 sA_g)
  replace hP : PF [55, 54, 53, 48, 47, 46, 45, 44, 43, 42, 41, 40, 39, 35, 33, 32, 31, 28, 27, 26, 25, 23, 20, 19, 18, 17, 16, 15, 14, 13, 12, 11, 10, 9, 8, 7, 6, 5, 4, 3, 2, 1, 60, 52, 51, 50, 49, 38, 37, 36, 34, 30, 29, 24, 22, 21, 0] (sA (sF g_1153 h 55 (.ref q_1104)) q_1154 50 48) h := hP.pu (Ex.push o_q_1154 sA_g) (sA_g h (ne0 r_1105 o_q_1154 (by decide))).2.1
  have zP : ZC (sA (sF g_1153 h 55 (.ref q_1104)) q_1154 50 48) q_23 := zP.pu (sA_g q_23 (ne0 r_1107 o_q_1154 (by decide))).2.2.2.1
  have zN : ZC (sA (sF g_1153 h 55 (.ref q_1104)) q_1154 50 48) q_500 := zN.pu (sA_g q_500 (ne0 r_1109 o_q_1154 (by decide))).2.2.2.1
  have r_1155 : (sA (sF g_1153 h 55 (.ref q_1104)) q_1154 50 48).1 h = 18 := ((sA_g h (ne0 r_1105 o_q_1154 (by decide))).1.trans r_1105)
  have r_1156 : (sA (sF g_1153 h 55 (.ref q_1104)) q_1154 50 48).1 q_12 = 71 := ((sA_g q_12 (ne0 r_1106 o_q_1154 (by decide))).1.trans r_1106)
  have r_1157 : (sA (sF g_1153 h 55 (.ref q_1104)) q_1154 50 48).1 q_23 = 72 := ((sA_g q_23 (ne0 r_1107 o_q_1154 (by decide))).1.trans r_1107)
  have r_1158 : (sA (sF g_1153 h 55 (.ref q_1104)) q_1154 50 48).1 q_483 = 84 := ((sA_g q_483 (ne0 r_1108 o_q_1154 (by decide))).1.trans r_1108)
  have r_1159 : (sA (sF g_1153 h 55 (.ref q_1104)) q_1154 50 48).1 q_500 = 85 := ((sA_g q_500 (ne0 r_1109 o_q_1154 (by decide))).1.trans r_1109)
  have r_1160 : (sA (sF g_1153 h 55 (.ref q_1104)) q_1154 50 48).1 q_543 = 87 := ((sA_g q_543 (ne0 r_1110 o_q_1154 (by decide))).1.trans r_1110)
  have r_1161 : (sA (sF g_1153 h 55 (.ref q_1104)) q_1154 50 48).1 q_1154 = 50 := sA_r
  have n_1162 : (sA (sF g_1153 h 55 (.ref q_1104)) q_1154 50 48).2.2.1 q_12 = 48 := ((sA_g q_12 (ne0 r_1106 o_q_1154 (by decide))).2.2.1.trans n_1112)
  have n_1163 : (sA (sF g_1153 h 55 (.ref q_1104)) q_1154 50 48).2.2.1 q_23 = 48 := ((sA_g q_23 (ne0 r_1107 o_q_1154 (by decide))).2.2.1.trans n_1113)
  have n_1164 : (sA (sF g_1153 h 55 (.ref q_1104)) q_1154 50 48).2.2.1 q_483 = 8 := ((sA_g q_483 (ne0 r_1108 o_q_1154 (by decide))).2.2.1.trans n_1114)
  have n_1165 : (sA (sF g_1153 h 55 (.ref q_1104)) q_1154 50 48).2.2.1 q_500 = 8 := ((sA_g q_500 (ne0 r_1109 o_q_1154 (by decide))).2.2.1.trans n_1115)
  have n_1166 : (sA (sF g_1153 h 55 (.ref q_1104)) q_1154 50 48).2.2.1 q_543 = 24 := ((sA_g q_543 (ne0 r_1110 o_q_1154 (by decide))).2.2.1.trans n_1116)
  have n_1167 : (sA (sF g_1153 h 55 (.ref q_1104)) q_1154 50 48).2.2.1 q_1154 = 48 := sA_n
  have kn_1168 : (sA (sF g_1153 h 55 (.ref q_1104)) q_1154 50 48).2.1 h 0 = .int 0 := ((congrFun (sA_g h (ne0 r_1105 o_q_1154 (by decide))).2.1 0).trans (sF_k kn_1118 (by decide)))
  have kn_1169 : (sA (sF g_1153 h 55 (.ref q_1104)) q_1154 50 48).2.1 h 22 = .int 0 := ((congrFun (sA_g h (ne0 r_1105 o_q_1154 (by decide))).2.1 22).trans (sF_k kn_1119 (by decide)))
  have kn_1170 : (sA (sF g_1153 h 55 (.ref q_1104)) q_1154 50 48).2.1 h 24 = .int 0 := ((congrFun (sA_g h (ne0 r_1105 o_q_1154 (by decide))).2.1 24).trans (sF_k kn_1120 (by decide)))
  have kn_1171 : (sA (sF g_1153 h 55 (.ref q_1104)) q_1154 50 48).2.1 h 29 = .int 0 := ((congrFun (sA_g h (ne0 r_1105 o_q_1154 (by decide))).2.1 29).trans (sF_k kn_1121 (by decide)))
  have kn_1172 : (sA (sF g_1153 h 55 (.ref q_1104)) q_1154 50 48).2.1 h 30 = .int 0 := ((congrFun (sA_g h (ne0 r_1105 o_q_1154 (by decide))).2.1 30).trans (sF_k kn_1122 (by decide)))
  have kn_1173 : (sA (sF g_1153 h 55 (.ref q_1104)) q_1154 50 48).2.1 h 34 = .int 0 := ((congrFun (sA_g h (ne0 r_1105 o_q_1154 (by decide))).2.1 34).trans (sF_k kn_1123 (by decide)))
  have kn_1174 : (sA (sF g_1153 h 55 (.ref q_1104)) q_1154 50 48).2.1 h 2 = .ref q_12 := ((congrFun (sA_g h (ne0 r_1105 o_q_1154 (by decide))).2.1 2).trans (sF_k kn_1124 (by decide)))
  have kn_1175 : (sA (sF g_1153 h 55 (.ref q_1104)) q_1154 50 48).2.1 h 3 = .ref q_23 := ((congrFun (sA_g h (ne0 r_1105 o_q_1154 (by decide))).2.1 3).trans (sF_k kn_1125 (by decide)))
  have kn_1176 : (sA (sF g_1153 h 55 (.ref q_1104)) q_1154 50 48).2.1 h 39 = .ref q_483 := ((congrFun (sA_g h (ne0 r_1105 o_q_1154 (by decide))).2.1 39).trans (sF_k kn_1126 (by decide)))
  have kn_1177 : (sA (sF g_1153 h 55 (.ref q_1104)) q_1154 50 48).2.1 h 40 = .ref q_500 := ((congrFun (sA_g h (ne0 r_1105 o_q_1154 (by decide))).2.1 40).trans (sF_k kn_1127 (by decide)))
  have kn_1178 : (sA (sF g_1153 h 55 (.ref q_1104)) q_1154 50 48).2.1 h 42 = .ref q_543 := ((congrFun (sA_g h (ne0 r_1105 o_q_1154 (by decide))).2.1 42).trans (sF_k kn_1128 (by decide)))
  have kn_1179 : (sA (sF g_1153 h 55 (.ref q_1104)) q_1154 50 48).2.2.2.1 q_543 (0 : Int32).toNatClampNeg = 115 := ((congrFun (sA_g q_543 (ne0 r_1110 o_q_1154 (by decide))).2.2.2.1 _).trans kn_1129)
  have kn_1180 : (sA (sF g_1153 h 55 (.ref q_1104)) q_1154 50 48).2.2.2.1 q_543 (1 : Int32).toNatClampNeg = 101 := ((congrFun (sA_g q_543 (ne0 r_1110 o_q_1154 (by decide))).2.2.2.1 _).trans kn_1130)
  have kn_1181 : (sA (sF g_1153 h 55 (.ref q_1104)) q_1154 50 48).2.2.2.1 q_543 (2 : Int32).toNatClampNeg = 116 := ((congrFun (sA_g q_543 (ne0 r_1110 o_q_1154 (by decide))).2.2.2.1 _).trans kn_1131)
  have kn_1182 : (sA (sF g_1153 h 55 (.ref q_1104)) q_1154 50 48).2.2.2.1 q_543 (3 : Int32).toNatClampNeg = 97 := ((congrFun (sA_g q_543 (ne0 r_1110 o_q_1154 (by decide))).2.2.2.1 _).trans kn_1132)
  have kn_1183 : (sA (sF g_1153 h 55 (.ref q_1104)) q_1154 50 48).2.2.2.1 q_543 (4 : Int32).toNatClampNeg = 100 := ((congrFun (sA_g q_543 (ne0 r_1110 o_q_1154 (by decide))).2.2.2.1 _).trans kn_1133)
  have kn_1184 : (sA (sF g_1153 h 55 (.ref q_1104)) q_1154 50 48).2.2.2.1 q_543 (5 : Int32).toNatClampNeg = 100 := ((congrFun (sA_g q_543 (ne0 r_1110 o_q_1154 (by decide))).2.2.2.1 _).trans kn_1134)
  have kn_1185 : (sA (sF g_1153 h 55 (.ref q_1104)) q_1154 50 48).2.2.2.1 q_543 (6 : Int32).toNatClampNeg = 109 := ((congrFun (sA_g q_543 (ne0 r_1110 o_q_1154 (by decide))).2.2.2.1 _).trans kn_1135)
  have kn_1186 : (sA (sF g_1153 h 55 (.ref q_1104)) q_1154 50 48).2.2.2.1 q_543 (7 : Int32).toNatClampNeg = 97 := ((congrFun (sA_g q_543 (ne0 r_1110 o_q_1154 (by decide))).2.2.2.1 _).trans kn_1136)
  have kn_1187 : (sA (sF g_1153 h 55 (.ref q_1104)) q_1154 50 48).2.2.2.1 q_543 (8 : Int32).toNatClampNeg = 120 := ((congrFun (sA_g q_543 (ne0 r_1110 o_q_1154 (by decide))).2.2.2.1 _).trans kn_1137)
  have kn_1188 : (sA (sF g_1153 h 55 (.ref q_1104)) q_1154 50 48).2.2.2.1 q_543 (9 : Int32).toNatClampNeg = 110 := ((congrFun (sA_g q_543 (ne0 r_1110 o_q_1154 (by decide))).2.2.2.1 _).trans kn_1138)
  have kn_1189 : (sA (sF g_1153 h 55 (.ref q_1104)) q_1154 50 48).2.2.2.1 q_543 (10 : Int32).toNatClampNeg = 101 := ((congrFun (sA_g q_543 (ne0 r_1110 o_q_1154 (by decide))).2.2.2.1 _).trans kn_1139)
  have kn_1190 : (sA (sF g_1153 h 55 (.ref q_1104)) q_1154 50 48).2.2.2.1 q_543 (11 : Int32).toNatClampNeg = 119 := ((congrFun (sA_g q_543 (ne0 r_1110 o_q_1154 (by decide))).2.2.2.1 _).trans kn_1140)
  have kn_1191 : (sA (sF g_1153 h 55 (.ref q_1104)) q_1154 50 48).2.2.2.1 q_543 (12 : Int32).toNatClampNeg = 103 := ((congrFun (sA_g q_543 (ne0 r_1110 o_q_1154 (by decide))).2.2.2.1 _).trans kn_1141)
  have kn_1192 : (sA (sF g_1153 h 55 (.ref q_1104)) q_1154 50 48).2.2.2.1 q_543 (13 : Int32).toNatClampNeg = 101 := ((congrFun (sA_g q_543 (ne0 r_1110 o_q_1154 (by decide))).2.2.2.1 _).trans kn_1142)
  have kn_1193 : (sA (sF g_1153 h 55 (.ref q_1104)) q_1154 50 48).2.2.2.1 q_543 (14 : Int32).toNatClampNeg = 116 := ((congrFun (sA_g q_543 (ne0 r_1110 o_q_1154 (by decide))).2.2.2.1 _).trans kn_1143)
  have kn_1194 : (sA (sF g_1153 h 55 (.ref q_1104)) q_1154 50 48).2.2.2.1 q_543 (15 : Int32).toNatClampNeg = 97 := ((congrFun (sA_g q_543 (ne0 r_1110 o_q_1154 (by decide))).2.2.2.1 _).trans kn_1144)
  have kn_1195 : (sA (sF g_1153 h 55 (.ref q_1104)) q_1154 50 48).2.2.2.1 q_543 (16 : Int32).toNatClampNeg = 115 := ((congrFun (sA_g q_543 (ne0 r_1110 o_q_1154 (by decide))).2.2.2.1 _).trans kn_1145)
  have kn_1196 : (sA (sF g_1153 h 55 (.ref q_1104)) q_1154 50 48).2.2.2.1 q_543 (17 : Int32).toNatClampNeg = 107 := ((congrFun (sA_g q_543 (ne0 r_1110 o_q_1154 (by decide))).2.2.2.1 _).trans kn_1146)
  have kn_1197 : (sA (sF g_1153 h 55 (.ref q_1104)) q_1154 50 48).2.2.2.1 q_543 (18 : Int32).toNatClampNeg = 100 := ((congrFun (sA_g q_543 (ne0 r_1110 o_q_1154 (by decide))).2.2.2.1 _).trans kn_1147)
  have kn_1198 : (sA (sF g_1153 h 55 (.ref q_1104)) q_1154 50 48).2.2.2.1 q_543 (19 : Int32).toNatClampNeg = 111 := ((congrFun (sA_g q_543 (ne0 r_1110 o_q_1154 (by decide))).2.2.2.1 _).trans kn_1148)
  have kn_1199 : (sA (sF g_1153 h 55 (.ref q_1104)) q_1154 50 48).2.2.2.1 q_543 (20 : Int32).toNatClampNeg = 0 := ((congrFun (sA_g q_543 (ne0 r_1110 o_q_1154 (by decide))).2.2.2.1 _).trans kn_1149)
  have kn_1200 : (sA (sF g_1153 h 55 (.ref q_1104)) q_1154 50 48).2.2.2.1 q_543 (21 : Int32).toNatClampNeg = 105 := ((congrFun (sA_g q_543 (ne0 r_1110 o_q_1154 (by decide))).2.2.2.1 _).trans kn_1150)
  have kn_1201 : (sA (sF g_1153 h 55 (.ref q_1104)) q_1154 50 48).2.2.2.1 q_543 (22 : Int32).toNatClampNeg = 102 := ((congrFun (sA_g q_543 (ne0 r_1110 o_q_1154 (by decide))).2.2.2.1 _).trans kn_1151)
  have kn_1202 : (sA (sF g_1153 h 55 (.ref q_1104)) q_1154 50 48).2.2.2.1 q_543 (23 : Int32).toNatClampNeg = 0 := ((congrFun (sA_g q_543 (ne0 r_1110 o_q_1154 (by decide))).2.2.2.1 _).trans kn_1152)
  generalize (sA (sF g_1153 h 55 (.ref q_1104)) q_1154 50 48) = g_1203 at hT hI hM hE r_1155 r_1156 r_1157 r_1158 r_1159 r_1160 r_1161 n_1162 n_1163 n_1164 n_1165 n_1166 n_1167 kn_1168 kn_1169 kn_1170 kn_1171 kn_1172 kn_1173 kn_1174 kn_1175 kn_1176 kn_1177 kn_1178 kn_1179 kn_1180 kn_1181 kn_1182 kn_1183 kn_1184 kn_1185 kn_1186 kn_1187 kn_1188 kn_1189 kn_1190 kn_1191 kn_1192 kn_1193 kn_1194 kn_1195 kn_1196 kn_1197 kn_1198 kn_1199 kn_1200 kn_1201 kn_1202 hP zP zN
  clear kn_1118 kn_1119 kn_1120 kn_1121 kn_1122 kn_1123 kn_1124 kn_1125 kn_1126 kn_1127 kn_1128 kn_1129 kn_1130 kn_1131 kn_1132 kn_1133 kn_1134 kn_1135 kn_1136 kn_1137 kn_1138 kn_1139 kn_1140 kn_1141 kn_1142 kn_1143 kn_1144 kn_1145 kn_1146 kn_1147 kn_1148 kn_1149 kn_1150 kn_1151 kn_1152 n_1112 n_1113 n_1114 n_1115 n_1116 r_1105 r_1106 r_1107 r_1108 r_1109 r_1110
  refine W.widen (k := 43) (n := 2984) (Nat.le_of_ble_eq_true rfl) (Nat.le_of_ble_eq_true rfl) ?_
  refine t_put0 (ci := 7) (v := .ref q_1154) hB hT (ro_ci r_1155 rfl) (ro_n0 r_1155 (by decide)) rfl 56 (by decide) k_801 (Or.inr ⟨hin, rfl⟩) rfl rfl dX7_init_500 (fun H locs hT => ?_)
  replace hI : Inv (sF g_1203 h 56 (.ref q_1154)) := hI.sF (fk r_1155 (show fsm _ _ ft from trivial))
  replace hM : Sm md_k_Model g (sF g_1203 h 56 (.ref q_1154)) := hM.tr hE (Sm_sF (by rw [r_1155]; rfl))
  replace hE : Ex g (sF g_1203 h 56 (.ref q_1154)) := hE
  replace hP : PF [56, 55, 54, 53, 48, 47, 46, 45, 44, 43, 42, 41, 40, 39, 35, 33, 32, 31, 28, 27, 26, 25, 23, 20, 19, 18, 17, 16, 15, 14, 13, 12, 11, 10, 9, 8, 7, 6, 5, 4, 3, 2, 1, 60, 52, 51, 50, 49, 38, 37, 36, 34, 30, 29, 24, 22, 21, 0] (sF g_1203 h 56 (.ref q_1154)) h := hP.put (q_8_56 (⟨_, rfl, r_1161, n_1167⟩))
  have zP : ZC (sF g_1203 h 56 (.ref q_1154)) q_23 := zP
  have zN : ZC (sF g_1203 h 56 (.ref q_1154)) q_500 := zN
  refine lv_aload_n hx hb dX7_init_503 rfl (lv_at hl 0 rfl) ?_
  refine lv_bipush (v := 30) hx hb dX7_init_504 (by decide) ?_
  refine t_newi (N' := 30) hB hT 50 (by decide) k_101 (by decide) (by decide) (by decide) (Nat.le_of_ble_eq_true rfl) (Nat.le_of_ble_eq_true rfl) dX7_init_506 (fun q_1204 H o_q_1204 hT => ?_)
  have z_q_1204 : g.1 q_1204 = 0 := hE.z0 o_q_1204
  replace hI : Inv (sA (sF g_1203 h 56 (.ref q_1154)) q_1204 50 30) := hI.newi o_q_1204 (by decide) (fun _ => rfl) trivial (fun _ => trivial)
  replace hM : Sm md_k_Model g (sA (sF g_1203 h 56 (.ref q_1154)) q_1204 50 30) := hM.tr hE (Sm.push o_q_1204 sA_g)
  replace hE : Ex g (sA (sF g_1203 h 56 (.ref q_1154)) q_1204 50 30) := hE.tr (Ex.push o_q_1204 sA_g)
  replace hP : PF [56, 55, 54, 53, 48, 47, 46, 45, 44, 43, 42, 41, 40, 39, 35, 33, 32, 31, 28, 27, 26, 25, 23, 20, 19, 18, 17, 16, 15, 14, 13, 12, 11, 10, 9, 8, 7, 6, 5, 4, 3, 2, 1, 60, 52, 51, 50, 49, 38, 37, 36, 34, 30, 29, 24, 22, 21, 0] (sA (sF g_1203 h 56 (.ref q_1154)) q_1204 50 30) h := hP.pu (Ex.push o_q_1204 sA_g) (sA_g h (ne0 r_1155 o_q_1204 (by decide))).2.1
  have zP : ZC (sA (sF g_1203 h 56 (.ref q_1154)) q_1204 50 30) q_23 := zP.pu (sA_g q_23 (ne0 r_1157 o_q_1204 (by decide))).2.2.2.1
  have zN : ZC (sA (sF g_1203 h 56 (.ref q_1154)) q_1204 50 30) q_500 := zN.pu (sA_g q_500 (ne0 r_1159 o_q_1204 (by decide))).2.2.2.1
  have r_1205 : (sA (sF g_1203 h 56 (.ref q_1154)) q_1204 50 30).1 h = 18 := ((sA_g h (ne0 r_1155 o_q_1204 (by decide))).1.trans r_1155)
  have r_1206 : (sA (sF g_1203 h 56 (.ref q_1154)) q_1204 50 30).1 q_12 = 71 := ((sA_g q_12 (ne0 r_1156 o_q_1204 (by decide))).1.trans r_1156)
  have r_1207 : (sA (sF g_1203 h 56 (.ref q_1154)) q_1204 50 30).1 q_23 = 72 := ((sA_g q_23 (ne0 r_1157 o_q_1204 (by decide))).1.trans r_1157)
  have r_1208 : (sA (sF g_1203 h 56 (.ref q_1154)) q_1204 50 30).1 q_483 = 84 := ((sA_g q_483 (ne0 r_1158 o_q_1204 (by decide))).1.trans r_1158)
  have r_1209 : (sA (sF g_1203 h 56 (.ref q_1154)) q_1204 50 30).1 q_500 = 85 := ((sA_g q_500 (ne0 r_1159 o_q_1204 (by decide))).1.trans r_1159)
  have r_1210 : (sA (sF g_1203 h 56 (.ref q_1154)) q_1204 50 30).1 q_543 = 87 := ((sA_g q_543 (ne0 r_1160 o_q_1204 (by decide))).1.trans r_1160)
  have r_1211 : (sA (sF g_1203 h 56 (.ref q_1154)) q_1204 50 30).1 q_1204 = 50 := sA_r
  have n_1212 : (sA (sF g_1203 h 56 (.ref q_1154)) q_1204 50 30).2.2.1 q_12 = 48 := ((sA_g q_12 (ne0 r_1156 o_q_1204 (by decide))).2.2.1.trans n_1162)
  have n_1213 : (sA (sF g_1203 h 56 (.ref q_1154)) q_1204 50 30).2.2.1 q_23 = 48 := ((sA_g q_23 (ne0 r_1157 o_q_1204 (by decide))).2.2.1.trans n_1163)
  have n_1214 : (sA (sF g_1203 h 56 (.ref q_1154)) q_1204 50 30).2.2.1 q_483 = 8 := ((sA_g q_483 (ne0 r_1158 o_q_1204 (by decide))).2.2.1.trans n_1164)
  have n_1215 : (sA (sF g_1203 h 56 (.ref q_1154)) q_1204 50 30).2.2.1 q_500 = 8 := ((sA_g q_500 (ne0 r_1159 o_q_1204 (by decide))).2.2.1.trans n_1165)
  have n_1216 : (sA (sF g_1203 h 56 (.ref q_1154)) q_1204 50 30).2.2.1 q_543 = 24 := ((sA_g q_543 (ne0 r_1160 o_q_1204 (by decide))).2.2.1.trans n_1166)
  have n_1217 : (sA (sF g_1203 h 56 (.ref q_1154)) q_1204 50 30).2.2.1 q_1204 = 30 := sA_n
  have kn_1218 : (sA (sF g_1203 h 56 (.ref q_1154)) q_1204 50 30).2.1 h 0 = .int 0 := ((congrFun (sA_g h (ne0 r_1155 o_q_1204 (by decide))).2.1 0).trans (sF_k kn_1168 (by decide)))
  have kn_1219 : (sA (sF g_1203 h 56 (.ref q_1154)) q_1204 50 30).2.1 h 22 = .int 0 := ((congrFun (sA_g h (ne0 r_1155 o_q_1204 (by decide))).2.1 22).trans (sF_k kn_1169 (by decide)))
  have kn_1220 : (sA (sF g_1203 h 56 (.ref q_1154)) q_1204 50 30).2.1 h 24 = .int 0 := ((congrFun (sA_g h (ne0 r_1155 o_q_1204 (by decide))).2.1 24).trans (sF_k kn_1170 (by decide)))
  have kn_1221 : (sA (sF g_1203 h 56 (.ref q_1154)) q_1204 50 30).2.1 h 29 = .int 0 := ((congrFun (sA_g h (ne0 r_1155 o_q_1204 (by decide))).2.1 29).trans (sF_k kn_1171 (by decide)))
  have kn_1222 : (sA (sF g_1203 h 56 (.ref q_1154)) q_1204 50 30).2.1 h 30 = .int 0 := ((congrFun (sA_g h (ne0 r_1155 o_q_1204 (by decide))).2.1 30).trans (sF_k kn_1172 (by decide)))
  have kn_1223 : (sA (sF g_1203 h 56 (.ref q_1154)) q_1204 50 30).2.1 h 34 = .int 0 := ((congrFun (sA_g h (ne0 r_1155 o_q_1204 (by decide))).2.1 34).trans (sF_k kn_1173 (by decide)))
  have kn_1224 : (sA (sF g_1203 h 56 (.ref q_1154)) q_1204 50 30).2.1 h 2 = .ref q_12 := ((congrFun (sA_g h (ne0 r_1155 o_q_1204 (by decide))).2.1 2).trans (sF_k kn_1174 (by decide)))
  have kn_1225 : (sA (sF g_1203 h 56 (.ref q_1154)) q_1204 50 30).2.1 h 3 = .ref q_23 := ((congrFun (sA_g h (ne0 r_1155 o_q_1204 (by decide))).2.1 3).trans (sF_k kn_1175 (by decide)))
  have kn_1226 : (sA (sF g_1203 h 56 (.ref q_1154)) q_1204 50 30).2.1 h 39 = .ref q_483 := ((congrFun (sA_g h (ne0 r_1155 o_q_1204 (by decide))).2.1 39).trans (sF_k kn_1176 (by decide)))
  have kn_1227 : (sA (sF g_1203 h 56 (.ref q_1154)) q_1204 50 30).2.1 h 40 = .ref q_500 := ((congrFun (sA_g h (ne0 r_1155 o_q_1204 (by decide))).2.1 40).trans (sF_k kn_1177 (by decide)))
  have kn_1228 : (sA (sF g_1203 h 56 (.ref q_1154)) q_1204 50 30).2.1 h 42 = .ref q_543 := ((congrFun (sA_g h (ne0 r_1155 o_q_1204 (by decide))).2.1 42).trans (sF_k kn_1178 (by decide)))
  have kn_1229 : (sA (sF g_1203 h 56 (.ref q_1154)) q_1204 50 30).2.2.2.1 q_543 (0 : Int32).toNatClampNeg = 115 := ((congrFun (sA_g q_543 (ne0 r_1160 o_q_1204 (by decide))).2.2.2.1 _).trans kn_1179)
  have kn_1230 : (sA (sF g_1203 h 56 (.ref q_1154)) q_1204 50 30).2.2.2.1 q_543 (1 : Int32).toNatClampNeg = 101 := ((congrFun (sA_g q_543 (ne0 r_1160 o_q_1204 (by decide))).2.2.2.1 _).trans kn_1180)
  have kn_1231 : (sA (sF g_1203 h 56 (.ref q_1154)) q_1204 50 30).2.2.2.1 q_543 (2 : Int32).toNatClampNeg = 116 := ((congrFun (sA_g q_543 (ne0 r_1160 o_q_1204 (by decide))).2.2.2.1 _).trans kn_1181)
  have kn_1232 : (sA (sF g_1203 h 56 (.ref q_1154)) q_1204 50 30).2.2.2.1 q_543 (3 : Int32).toNatClampNeg = 97 := ((congrFun (sA_g q_543 (ne0 r_1160 o_q_1204 (by decide))).2.2.2.1 _).trans kn_1182)
  have kn_1233 : (sA (sF g_1203 h 56 (.ref q_1154)) q_1204 50 30).2.2.2.1 q_543 (4 : Int32).toNatClampNeg = 100 := ((congrFun (sA_g q_543 (ne0 r_1160 o_q_1204 (by decide))).2.2.2.1 _).trans kn_1183)
  have kn_1234 : (sA (sF g_1203 h 56 (.ref q_1154)) q_1204 50 30).2.2.2.1 q_543 (5 : Int32).toNatClampNeg = 100 := ((congrFun (sA_g q_543 (ne0 r_1160 o_q_1204 (by decide))).2.2.2.1 _).trans kn_1184)
  have kn_1235 : (sA (sF g_1203 h 56 (.ref q_1154)) q_1204 50 30).2.2.2.1 q_543 (6 : Int32).toNatClampNeg = 109 := ((congrFun (sA_g q_543 (ne0 r_1160 o_q_1204 (by decide))).2.2.2.1 _).trans kn_1185)
  have kn_1236 : (sA (sF g_1203 h 56 (.ref q_1154)) q_1204 50 30).2.2.2.1 q_543 (7 : Int32).toNatClampNeg = 97 := ((congrFun (sA_g q_543 (ne0 r_1160 o_q_1204 (by decide))).2.2.2.1 _).trans kn_1186)
  have kn_1237 : (sA (sF g_1203 h 56 (.ref q_1154)) q_1204 50 30).2.2.2.1 q_543 (8 : Int32).toNatClampNeg = 120 := ((congrFun (sA_g q_543 (ne0 r_1160 o_q_1204 (by decide))).2.2.2.1 _).trans kn_1187)
  have kn_1238 : (sA (sF g_1203 h 56 (.ref q_1154)) q_1204 50 30).2.2.2.1 q_543 (9 : Int32).toNatClampNeg = 110 := ((congrFun (sA_g q_543 (ne0 r_1160 o_q_1204 (by decide))).2.2.2.1 _).trans kn_1188)
  have kn_1239 : (sA (sF g_1203 h 56 (.ref q_1154)) q_1204 50 30).2.2.2.1 q_543 (10 : Int32).toNatClampNeg = 101 := ((congrFun (sA_g q_543 (ne0 r_1160 o_q_1204 (by decide))).2.2.2.1 _).trans kn_1189)
  have kn_1240 : (sA (sF g_1203 h 56 (.ref q_1154)) q_1204 50 30).2.2.2.1 q_543 (11 : Int32).toNatClampNeg = 119 := ((congrFun (sA_g q_543 (ne0 r_1160 o_q_1204 (by decide))).2.2.2.1 _).trans kn_1190)
  have kn_1241 : (sA (sF g_1203 h 56 (.ref q_1154)) q_1204 50 30).2.2.2.1 q_543 (12 : Int32).toNatClampNeg = 103 := ((congrFun (sA_g q_543 (ne0 r_1160 o_q_1204 (by decide))).2.2.2.1 _).trans kn_1191)
  have kn_1242 : (sA (sF g_1203 h 56 (.ref q_1154)) q_1204 50 30).2.2.2.1 q_543 (13 : Int32).toNatClampNeg = 101 := ((congrFun (sA_g q_543 (ne0 r_1160 o_q_1204 (by decide))).2.2.2.1 _).trans kn_1192)
  have kn_1243 : (sA (sF g_1203 h 56 (.ref q_1154)) q_1204 50 30).2.2.2.1 q_543 (14 : Int32).toNatClampNeg = 116 := ((congrFun (sA_g q_543 (ne0 r_1160 o_q_1204 (by decide))).2.2.2.1 _).trans kn_1193)
  have kn_1244 : (sA (sF g_1203 h 56 (.ref q_1154)) q_1204 50 30).2.2.2.1 q_543 (15 : Int32).toNatClampNeg = 97 := ((congrFun (sA_g q_543 (ne0 r_1160 o_q_1204 (by decide))).2.2.2.1 _).trans kn_1194)
  have kn_1245 : (sA (sF g_1203 h 56 (.ref q_1154)) q_1204 50 30).2.2.2.1 q_543 (16 : Int32).toNatClampNeg = 115 := ((congrFun (sA_g q_543 (ne0 r_1160 o_q_1204 (by decide))).2.2.2.1 _).trans kn_1195)
  have kn_1246 : (sA (sF g_1203 h 56 (.ref q_1154)) q_1204 50 30).2.2.2.1 q_543 (17 : Int32).toNatClampNeg = 107 := ((congrFun (sA_g q_543 (ne0 r_1160 o_q_1204 (by decide))).2.2.2.1 _).trans kn_1196)
  have kn_1247 : (sA (sF g_1203 h 56 (.ref q_1154)) q_1204 50 30).2.2.2.1 q_543 (18 : Int32).toNatClampNeg = 100 := ((congrFun (sA_g q_543 (ne0 r_1160 o_q_1204 (by decide))).2.2.2.1 _).trans kn_1197)
  have kn_1248 : (sA (sF g_1203 h 56 (.ref q_1154)) q_1204 50 30).2.2.2.1 q_543 (19 : Int32).toNatClampNeg = 111 := ((congrFun (sA_g q_543 (ne0 r_1160 o_q_1204 (by decide))).2.2.2.1 _).trans kn_1198)
  have kn_1249 : (sA (sF g_1203 h 56 (.ref q_1154)) q_1204 50 30).2.2.2.1 q_543 (20 : Int32).toNatClampNeg = 0 := ((congrFun (sA_g q_543 (ne0 r_1160 o_q_1204 (by decide))).2.2.2.1 _).trans kn_1199)
  have kn_1250 : (sA (sF g_1203 h 56 (.ref q_1154)) q_1204 50 30).2.2.2.1 q_543 (21 : Int32).toNatClampNeg = 105 := ((congrFun (sA_g q_543 (ne0 r_1160 o_q_1204 (by decide))).2.2.2.1 _).trans kn_1200)
  have kn_1251 : (sA (sF g_1203 h 56 (.ref q_1154)) q_1204 50 30).2.2.2.1 q_543 (22 : Int32).toNatClampNeg = 102 := ((congrFun (sA_g q_543 (ne0 r_1160 o_q_1204 (by decide))).2.2.2.1 _).trans kn_1201)
  have kn_1252 : (sA (sF g_1203 h 56 (.ref q_1154)) q_1204 50 30).2.2.2.1 q_543 (23 : Int32).toNatClampNeg = 0 := ((congrFun (sA_g q_543 (ne0 r_1160 o_q_1204 (by decide))).2.2.2.1 _).trans kn_1202)
  generalize (sA (sF g_1203 h 56 (.ref q_1154)) q_1204 50 30) = g_1253 at hT hI hM hE r_1205 r_1206 r_1207 r_1208 r_1209 r_1210 r_1211 n_1212 n_1213 n_1214 n_1215 n_1216 n_1217 kn_1218 kn_1219 kn_1220 kn_1221 kn_1222 kn_1223 kn_1224 kn_1225 kn_1226 kn_1227 kn_1228 kn_1229 kn_1230 kn_1231 kn_1232 kn_1233 kn_1234 kn_1235 kn_1236 kn_1237 kn_1238 kn_1239 kn_1240 kn_1241 kn_1242 kn_1243 kn_1244 kn_1245 kn_1246 kn_1247 kn_1248 kn_1249 kn_1250 kn_1251 kn_1252 hP zP zN
  clear kn_1168 kn_1169 kn_1170 kn_1171 kn_1172 kn_1173 kn_1174 kn_1175 kn_1176 kn_1177 kn_1178 kn_1179 kn_1180 kn_1181 kn_1182 kn_1183 kn_1184 kn_1185 kn_1186 kn_1187 kn_1188 kn_1189 kn_1190 kn_1191 kn_1192 kn_1193 kn_1194 kn_1195 kn_1196 kn_1197 kn_1198 kn_1199 kn_1200 kn_1201 kn_1202 n_1162 n_1163 n_1164 n_1165 n_1166 r_1155 r_1156 r_1157 r_1158 r_1159 r_1160
  refine W.widen (k := 44) (n := 3014) (Nat.le_of_ble_eq_true rfl) (Nat.le_of_ble_eq_true rfl) ?_
  refine t_put0 (ci := 7) (v := .ref q_1204) hB hT (ro_ci r_1205 rfl) (ro_n0 r_1205 (by decide)) rfl 57 (by decide) k_802 (Or.inr ⟨hin, rfl⟩) rfl rfl dX7_init_508 (fun H locs hT => ?_)
  replace hI : Inv (sF g_1253 h 57 (.ref q_1204)) := hI.sF (fk r_1205 (show fsm _ _ ft from trivial))
  replace hM : Sm md_k_Model g (sF g_1253 h 57 (.ref q_1204)) := hM.tr hE (Sm_sF (by rw [r_1205]; rfl))
  replace hE : Ex g (sF g_1253 h 57 (.ref q_1204)) := hE
  replace hP : PF [57, 56, 55, 54, 53, 48, 47, 46, 45, 44, 43, 42, 41, 40, 39, 35, 33, 32, 31, 28, 27, 26, 25, 23, 20, 19, 18, 17, 16, 15, 14, 13, 12, 11, 10, 9, 8, 7, 6, 5, 4, 3, 2, 1, 60, 52, 51, 50, 49, 38, 37, 36, 34, 30, 29, 24, 22, 21, 0] (sF g_1253 h 57 (.ref q_1204)) h := hP.put (q_8_57 (⟨_, rfl, r_1211, n_1217⟩))
  have zP : ZC (sF g_1253 h 57 (.ref q_1204)) q_23 := zP
  have zN : ZC (sF g_1253 h 57 (.ref q_1204)) q_500 := zN
  refine lv_aload_n hx hb dX7_init_511 rfl (lv_at hl 0 rfl) ?_
  refine lv_sipush (v := 1200) hx hb dX7_init_512 (by decide) ?_
  refine t_newi (N' := 1200) hB hT 50 (by decide) k_101 (by decide) (by decide) (by decide) (Nat.le_of_ble_eq_true rfl) (Nat.le_of_ble_eq_true rfl) dX7_init_515 (fun q_1254 H o_q_1254 hT => ?_)
  have z_q_1254 : g.1 q_1254 = 0 := hE.z0 o_q_1254
  replace hI : Inv (sA (sF g_1253 h 57 (.ref q_1204)) q_1254 50 1200) := hI.newi o_q_1254 (by decide) (fun _ => rfl) trivial (fun _ => trivial)
  replace hM : Sm md_k_Model g (sA (sF g_1253 h 57 (.ref q_1204)) q_1254 50 1200) := hM.tr hE (Sm.push o_q_1254 sA_g)
  replace hE : Ex g (sA (sF g_1253 h 57 (.ref q_1204)) q_1254 50 1200) := hE.tr (Ex.push o_q_1254 sA_g)
  replace hP : PF [57, 56, 55, 54, 53, 48, 47, 46, 45, 44, 43, 42, 41, 40, 39, 35, 33, 32, 31, 28, 27, 26, 25, 23, 20, 19, 18, 17, 16, 15, 14, 13, 12, 11, 10, 9, 8, 7, 6, 5, 4, 3, 2, 1, 60, 52, 51, 50, 49, 38, 37, 36, 34, 30, 29, 24, 22, 21, 0] (sA (sF g_1253 h 57 (.ref q_1204)) q_1254 50 1200) h := hP.pu (Ex.push o_q_1254 sA_g) (sA_g h (ne0 r_1205 o_q_1254 (by decide))).2.1
  have zP : ZC (sA (sF g_1253 h 57 (.ref q_1204)) q_1254 50 1200) q_23 := zP.pu (sA_g q_23 (ne0 r_1207 o_q_1254 (by decide))).2.2.2.1
  have zN : ZC (sA (sF g_1253 h 57 (.ref q_1204)) q_1254 50 1200) q_500 := zN.pu (sA_g q_500 (ne0 r_1209 o_q_1254 (by decide))).2.2.2.1
  have r_1255 : (sA (sF g_1253 h 57 (.ref q_1204)) q_1254 50 1200).1 h = 18 := ((sA_g h (ne0 r_1205 o_q_1254 (by decide))).1.trans r_1205)
  have r_1256 : (sA (sF g_1253 h 57 (.ref q_1204)) q_1254 50 1200).1 q_12 = 71 := ((sA_g q_12 (ne0 r_1206 o_q_1254 (by decide))).1.trans r_1206)
  have r_1257 : (sA (sF g_1253 h 57 (.ref q_1204)) q_1254 50 1200).1 q_23 = 72 := ((sA_g q_23 (ne0 r_1207 o_q_1254 (by decide))).1.trans r_1207)
  have r_1258 : (sA (sF g_1253 h 57 (.ref q_1204)) q_1254 50 1200).1 q_483 = 84 := ((sA_g q_483 (ne0 r_1208 o_q_1254 (by decide))).1.trans r_1208)
  have r_1259 : (sA (sF g_1253 h 57 (.ref q_1204)) q_1254 50 1200).1 q_500 = 85 := ((sA_g q_500 (ne0 r_1209 o_q_1254 (by decide))).1.trans r_1209)
  have r_1260 : (sA (sF g_1253 h 57 (.ref q_1204)) q_1254 50 1200).1 q_543 = 87 := ((sA_g q_543 (ne0 r_1210 o_q_1254 (by decide))).1.trans r_1210)
  have r_1261 : (sA (sF g_1253 h 57 (.ref q_1204)) q_1254 50 1200).1 q_1254 = 50 := sA_r
  have n_1262 : (sA (sF g_1253 h 57 (.ref q_1204)) q_1254 50 1200).2.2.1 q_12 = 48 := ((sA_g q_12 (ne0 r_1206 o_q_1254 (by decide))).2.2.1.trans n_1212)
  have n_1263 : (sA (sF g_1253 h 57 (.ref q_1204)) q_1254 50 1200).2.2.1 q_23 = 48 := ((sA_g q_23 (ne0 r_1207 o_q_1254 (by decide))).2.2.1.trans n_1213)
  have n_1264 : (sA (sF g_1253 h 57 (.ref q_1204)) q_1254 50 1200).2.2.1 q_483 = 8 := ((sA_g q_483 (ne0 r_1208 o_q_1254 (by decide))).2.2.1.trans n_1214)
  have n_1265 : (sA (sF g_1253 h 57 (.ref q_1204)) q_1254 50 1200).2.2.1 q_500 = 8 := ((sA_g q_500 (ne0 r_1209 o_q_1254 (by decide))).2.2.1.trans n_1215)
  have n_1266 : (sA (sF g_1253 h 57 (.ref q_1204)) q_1254 50 1200).2.2.1 q_543 = 24 := ((sA_g q_543 (ne0 r_1210 o_q_1254 (by decide))).2.2.1.trans n_1216)
  have n_1267 : (sA (sF g_1253 h 57 (.ref q_1204)) q_1254 50 1200).2.2.1 q_1254 = 1200 := sA_n
  have kn_1268 : (sA (sF g_1253 h 57 (.ref q_1204)) q_1254 50 1200).2.1 h 0 = .int 0 := ((congrFun (sA_g h (ne0 r_1205 o_q_1254 (by decide))).2.1 0).trans (sF_k kn_1218 (by decide)))
  have kn_1269 : (sA (sF g_1253 h 57 (.ref q_1204)) q_1254 50 1200).2.1 h 22 = .int 0 := ((congrFun (sA_g h (ne0 r_1205 o_q_1254 (by decide))).2.1 22).trans (sF_k kn_1219 (by decide)))
  have kn_1270 : (sA (sF g_1253 h 57 (.ref q_1204)) q_1254 50 1200).2.1 h 24 = .int 0 := ((congrFun (sA_g h (ne0 r_1205 o_q_1254 (by decide))).2.1 24).trans (sF_k kn_1220 (by decide)))
  have kn_1271 : (sA (sF g_1253 h 57 (.ref q_1204)) q_1254 50 1200).2.1 h 29 = .int 0 := ((congrFun (sA_g h (ne0 r_1205 o_q_1254 (by decide))).2.1 29).trans (sF_k kn_1221 (by decide)))
  have kn_1272 : (sA (sF g_1253 h 57 (.ref q_1204)) q_1254 50 1200).2.1 h 30 = .int 0 := ((congrFun (sA_g h (ne0 r_1205 o_q_1254 (by decide))).2.1 30).trans (sF_k kn_1222 (by decide)))
  have kn_1273 : (sA (sF g_1253 h 57 (.ref q_1204)) q_1254 50 1200).2.1 h 34 = .int 0 := ((congrFun (sA_g h (ne0 r_1205 o_q_1254 (by decide))).2.1 34).trans (sF_k kn_1223 (by decide)))
  have kn_1274 : (sA (sF g_1253 h 57 (.ref q_1204)) q_1254 50 1200).2.1 h 2 = .ref q_12 := ((congrFun (sA_g h (ne0 r_1205 o_q_1254 (by decide))).2.1 2).trans (sF_k kn_1224 (by decide)))
  have kn_1275 : (sA (sF g_1253 h 57 (.ref q_1204)) q_1254 50 1200).2.1 h 3 = .ref q_23 := ((congrFun (sA_g h (ne0 r_1205 o_q_1254 (by decide))).2.1 3).trans (sF_k kn_1225 (by decide)))
  have kn_1276 : (sA (sF g_1253 h 57 (.ref q_1204)) q_1254 50 1200).2.1 h 39 = .ref q_483 := ((congrFun (sA_g h (ne0 r_1205 o_q_1254 (by decide))).2.1 39).trans (sF_k kn_1226 (by decide)))
  have kn_1277 : (sA (sF g_1253 h 57 (.ref q_1204)) q_1254 50 1200).2.1 h 40 = .ref q_500 := ((congrFun (sA_g h (ne0 r_1205 o_q_1254 (by decide))).2.1 40).trans (sF_k kn_1227 (by decide)))
  have kn_1278 : (sA (sF g_1253 h 57 (.ref q_1204)) q_1254 50 1200).2.1 h 42 = .ref q_543 := ((congrFun (sA_g h (ne0 r_1205 o_q_1254 (by decide))).2.1 42).trans (sF_k kn_1228 (by decide)))
  have kn_1279 : (sA (sF g_1253 h 57 (.ref q_1204)) q_1254 50 1200).2.2.2.1 q_543 (0 : Int32).toNatClampNeg = 115 := ((congrFun (sA_g q_543 (ne0 r_1210 o_q_1254 (by decide))).2.2.2.1 _).trans kn_1229)
  have kn_1280 : (sA (sF g_1253 h 57 (.ref q_1204)) q_1254 50 1200).2.2.2.1 q_543 (1 : Int32).toNatClampNeg = 101 := ((congrFun (sA_g q_543 (ne0 r_1210 o_q_1254 (by decide))).2.2.2.1 _).trans kn_1230)
  have kn_1281 : (sA (sF g_1253 h 57 (.ref q_1204)) q_1254 50 1200).2.2.2.1 q_543 (2 : Int32).toNatClampNeg = 116 := ((congrFun (sA_g q_543 (ne0 r_1210 o_q_1254 (by decide))).2.2.2.1 _).trans kn_1231)
  have kn_1282 : (sA (sF g_1253 h 57 (.ref q_1204)) q_1254 50 1200).2.2.2.1 q_543 (3 : Int32).toNatClampNeg = 97 := ((congrFun (sA_g q_543 (ne0 r_1210 o_q_1254 (by decide))).2.2.2.1 _).trans kn_1232)
  have kn_1283 : (sA (sF g_1253 h 57 (.ref q_1204)) q_1254 50 1200).2.2.2.1 q_543 (4 : Int32).toNatClampNeg = 100 := ((congrFun (sA_g q_543 (ne0 r_1210 o_q_1254 (by decide))).2.2.2.1 _).trans kn_1233)
  have kn_1284 : (sA (sF g_1253 h 57 (.ref q_1204)) q_1254 50 1200).2.2.2.1 q_543 (5 : Int32).toNatClampNeg = 100 := ((congrFun (sA_g q_543 (ne0 r_1210 o_q_1254 (by decide))).2.2.2.1 _).trans kn_1234)
  have kn_1285 : (sA (sF g_1253 h 57 (.ref q_1204)) q_1254 50 1200).2.2.2.1 q_543 (6 : Int32).toNatClampNeg = 109 := ((congrFun (sA_g q_543 (ne0 r_1210 o_q_1254 (by decide))).2.2.2.1 _).trans kn_1235)
  have kn_1286 : (sA (sF g_1253 h 57 (.ref q_1204)) q_1254 50 1200).2.2.2.1 q_543 (7 : Int32).toNatClampNeg = 97 := ((congrFun (sA_g q_543 (ne0 r_1210 o_q_1254 (by decide))).2.2.2.1 _).trans kn_1236)
  have kn_1287 : (sA (sF g_1253 h 57 (.ref q_1204)) q_1254 50 1200).2.2.2.1 q_543 (8 : Int32).toNatClampNeg = 120 := ((congrFun (sA_g q_543 (ne0 r_1210 o_q_1254 (by decide))).2.2.2.1 _).trans kn_1237)
  have kn_1288 : (sA (sF g_1253 h 57 (.ref q_1204)) q_1254 50 1200).2.2.2.1 q_543 (9 : Int32).toNatClampNeg = 110 := ((congrFun (sA_g q_543 (ne0 r_1210 o_q_1254 (by decide))).2.2.2.1 _).trans kn_1238)
  have kn_1289 : (sA (sF g_1253 h 57 (.ref q_1204)) q_1254 50 1200).2.2.2.1 q_543 (10 : Int32).toNatClampNeg = 101 := ((congrFun (sA_g q_543 (ne0 r_1210 o_q_1254 (by decide))).2.2.2.1 _).trans kn_1239)
  have kn_1290 : (sA (sF g_1253 h 57 (.ref q_1204)) q_1254 50 1200).2.2.2.1 q_543 (11 : Int32).toNatClampNeg = 119 := ((congrFun (sA_g q_543 (ne0 r_1210 o_q_1254 (by decide))).2.2.2.1 _).trans kn_1240)
  have kn_1291 : (sA (sF g_1253 h 57 (.ref q_1204)) q_1254 50 1200).2.2.2.1 q_543 (12 : Int32).toNatClampNeg = 103 := ((congrFun (sA_g q_543 (ne0 r_1210 o_q_1254 (by decide))).2.2.2.1 _).trans kn_1241)
  have kn_1292 : (sA (sF g_1253 h 57 (.ref q_1204)) q_1254 50 1200).2.2.2.1 q_543 (13 : Int32).toNatClampNeg = 101 := ((congrFun (sA_g q_543 (ne0 r_1210 o_q_1254 (by decide))).2.2.2.1 _).trans kn_1242)
  have kn_1293 : (sA (sF g_1253 h 57 (.ref q_1204)) q_1254 50 1200).2.2.2.1 q_543 (14 : Int32).toNatClampNeg = 116 := ((congrFun (sA_g q_543 (ne0 r_1210 o_q_1254 (by decide))).2.2.2.1 _).trans kn_1243)
  have kn_1294 : (sA (sF g_1253 h 57 (.ref q_1204)) q_1254 50 1200).2.2.2.1 q_543 (15 : Int32).toNatClampNeg = 97 := ((congrFun (sA_g q_543 (ne0 r_1210 o_q_1254 (by decide))).2.2.2.1 _).trans kn_1244)
  have kn_1295 : (sA (sF g_1253 h 57 (.ref q_1204)) q_1254 50 1200).2.2.2.1 q_543 (16 : Int32).toNatClampNeg = 115 := ((congrFun (sA_g q_543 (ne0 r_1210 o_q_1254 (by decide))).2.2.2.1 _).trans kn_1245)
  have kn_1296 : (sA (sF g_1253 h 57 (.ref q_1204)) q_1254 50 1200).2.2.2.1 q_543 (17 : Int32).toNatClampNeg = 107 := ((congrFun (sA_g q_543 (ne0 r_1210 o_q_1254 (by decide))).2.2.2.1 _).trans kn_1246)
  have kn_1297 : (sA (sF g_1253 h 57 (.ref q_1204)) q_1254 50 1200).2.2.2.1 q_543 (18 : Int32).toNatClampNeg = 100 := ((congrFun (sA_g q_543 (ne0 r_1210 o_q_1254 (by decide))).2.2.2.1 _).trans kn_1247)
  have kn_1298 : (sA (sF g_1253 h 57 (.ref q_1204)) q_1254 50 1200).2.2.2.1 q_543 (19 : Int32).toNatClampNeg = 111 := ((congrFun (sA_g q_543 (ne0 r_1210 o_q_1254 (by decide))).2.2.2.1 _).trans kn_1248)
  have kn_1299 : (sA (sF g_1253 h 57 (.ref q_1204)) q_1254 50 1200).2.2.2.1 q_543 (20 : Int32).toNatClampNeg = 0 := ((congrFun (sA_g q_543 (ne0 r_1210 o_q_1254 (by decide))).2.2.2.1 _).trans kn_1249)
  have kn_1300 : (sA (sF g_1253 h 57 (.ref q_1204)) q_1254 50 1200).2.2.2.1 q_543 (21 : Int32).toNatClampNeg = 105 := ((congrFun (sA_g q_543 (ne0 r_1210 o_q_1254 (by decide))).2.2.2.1 _).trans kn_1250)
  have kn_1301 : (sA (sF g_1253 h 57 (.ref q_1204)) q_1254 50 1200).2.2.2.1 q_543 (22 : Int32).toNatClampNeg = 102 := ((congrFun (sA_g q_543 (ne0 r_1210 o_q_1254 (by decide))).2.2.2.1 _).trans kn_1251)
  have kn_1302 : (sA (sF g_1253 h 57 (.ref q_1204)) q_1254 50 1200).2.2.2.1 q_543 (23 : Int32).toNatClampNeg = 0 := ((congrFun (sA_g q_543 (ne0 r_1210 o_q_1254 (by decide))).2.2.2.1 _).trans kn_1252)
  generalize (sA (sF g_1253 h 57 (.ref q_1204)) q_1254 50 1200) = g_1303 at hT hI hM hE r_1255 r_1256 r_1257 r_1258 r_1259 r_1260 r_1261 n_1262 n_1263 n_1264 n_1265 n_1266 n_1267 kn_1268 kn_1269 kn_1270 kn_1271 kn_1272 kn_1273 kn_1274 kn_1275 kn_1276 kn_1277 kn_1278 kn_1279 kn_1280 kn_1281 kn_1282 kn_1283 kn_1284 kn_1285 kn_1286 kn_1287 kn_1288 kn_1289 kn_1290 kn_1291 kn_1292 kn_1293 kn_1294 kn_1295 kn_1296 kn_1297 kn_1298 kn_1299 kn_1300 kn_1301 kn_1302 hP zP zN
  clear kn_1218 kn_1219 kn_1220 kn_1221 kn_1222 kn_1223 kn_1224 kn_1225 kn_1226 kn_1227 kn_1228 kn_1229 kn_1230 kn_1231 kn_1232 kn_1233 kn_1234 kn_1235 kn_1236 kn_1237 kn_1238 kn_1239 kn_1240 kn_1241 kn_1242 kn_1243 kn_1244 kn_1245 kn_1246 kn_1247 kn_1248 kn_1249 kn_1250 kn_1251 kn_1252 n_1212 n_1213 n_1214 n_1215 n_1216 r_1205 r_1206 r_1207 r_1208 r_1209 r_1210
  refine W.widen (k := 45) (n := 4214) (Nat.le_of_ble_eq_true rfl) (Nat.le_of_ble_eq_true rfl) ?_
  refine t_put0 (ci := 7) (v := .ref q_1254) hB hT (ro_ci r_1255 rfl) (ro_n0 r_1255 (by decide)) rfl 58 (by decide) k_803 (Or.inr ⟨hin, rfl⟩) rfl rfl dX7_init_517 (fun H locs hT => ?_)
  replace hI : Inv (sF g_1303 h 58 (.ref q_1254)) := hI.sF (fk r_1255 (show fsm _ _ ft from trivial))
  replace hM : Sm md_k_Model g (sF g_1303 h 58 (.ref q_1254)) := hM.tr hE (Sm_sF (by rw [r_1255]; rfl))
  replace hE : Ex g (sF g_1303 h 58 (.ref q_1254)) := hE
  replace hP : PF [58, 57, 56, 55, 54, 53, 48, 47, 46, 45, 44, 43, 42, 41, 40, 39, 35, 33, 32, 31, 28, 27, 26, 25, 23, 20, 19, 18, 17, 16, 15, 14, 13, 12, 11, 10, 9, 8, 7, 6, 5, 4, 3, 2, 1, 60, 52, 51, 50, 49, 38, 37, 36, 34, 30, 29, 24, 22, 21, 0] (sF g_1303 h 58 (.ref q_1254)) h := hP.put (q_8_58 (⟨_, rfl, r_1261, n_1267⟩))
  have zP : ZC (sF g_1303 h 58 (.ref q_1254)) q_23 := zP
  have zN : ZC (sF g_1303 h 58 (.ref q_1254)) q_500 := zN
  refine lv_aload_n hx hb dX7_init_520 rfl (lv_at hl 0 rfl) ?_
  refine lv_bipush (v := 6) hx hb dX7_init_521 (by decide) ?_
  refine t_newi (N' := 6) hB hT 50 (by decide) k_101 (by decide) (by decide) (by decide) (Nat.le_of_ble_eq_true rfl) (Nat.le_of_ble_eq_true rfl) dX7_init_523 (fun q_1304 H o_q_1304 hT => ?_)
  have z_q_1304 : g.1 q_1304 = 0 := hE.z0 o_q_1304
  replace hI : Inv (sA (sF g_1303 h 58 (.ref q_1254)) q_1304 50 6) := hI.newi o_q_1304 (by decide) (fun _ => rfl) trivial (fun _ => trivial)
  replace hM : Sm md_k_Model g (sA (sF g_1303 h 58 (.ref q_1254)) q_1304 50 6) := hM.tr hE (Sm.push o_q_1304 sA_g)
  replace hE : Ex g (sA (sF g_1303 h 58 (.ref q_1254)) q_1304 50 6) := hE.tr (Ex.push o_q_1304 sA_g)
  replace hP : PF [58, 57, 56, 55, 54, 53, 48, 47, 46, 45, 44, 43, 42, 41, 40, 39, 35, 33, 32, 31, 28, 27, 26, 25, 23, 20, 19, 18, 17, 16, 15, 14, 13, 12, 11, 10, 9, 8, 7, 6, 5, 4, 3, 2, 1, 60, 52, 51, 50, 49, 38, 37, 36, 34, 30, 29, 24, 22, 21, 0] (sA (sF g_1303 h 58 (.ref q_1254)) q_1304 50 6) h := hP.pu (Ex.push o_q_1304 sA_g) (sA_g h (ne0 r_1255 o_q_1304 (by decide))).2.1
  have zP : ZC (sA (sF g_1303 h 58 (.ref q_1254)) q_1304 50 6) q_23 := zP.pu (sA_g q_23 (ne0 r_1257 o_q_1304 (by decide))).2.2.2.1
  have zN : ZC (sA (sF g_1303 h 58 (.ref q_1254)) q_1304 50 6) q_500 := zN.pu (sA_g q_500 (ne0 r_1259 o_q_1304 (by decide))).2.2.2.1
  have r_1305 : (sA (sF g_1303 h 58 (.ref q_1254)) q_1304 50 6).1 h = 18 := ((sA_g h (ne0 r_1255 o_q_1304 (by decide))).1.trans r_1255)
  have r_1306 : (sA (sF g_1303 h 58 (.ref q_1254)) q_1304 50 6).1 q_12 = 71 := ((sA_g q_12 (ne0 r_1256 o_q_1304 (by decide))).1.trans r_1256)
  have r_1307 : (sA (sF g_1303 h 58 (.ref q_1254)) q_1304 50 6).1 q_23 = 72 := ((sA_g q_23 (ne0 r_1257 o_q_1304 (by decide))).1.trans r_1257)
  have r_1308 : (sA (sF g_1303 h 58 (.ref q_1254)) q_1304 50 6).1 q_483 = 84 := ((sA_g q_483 (ne0 r_1258 o_q_1304 (by decide))).1.trans r_1258)
  have r_1309 : (sA (sF g_1303 h 58 (.ref q_1254)) q_1304 50 6).1 q_500 = 85 := ((sA_g q_500 (ne0 r_1259 o_q_1304 (by decide))).1.trans r_1259)
  have r_1310 : (sA (sF g_1303 h 58 (.ref q_1254)) q_1304 50 6).1 q_543 = 87 := ((sA_g q_543 (ne0 r_1260 o_q_1304 (by decide))).1.trans r_1260)
  have r_1311 : (sA (sF g_1303 h 58 (.ref q_1254)) q_1304 50 6).1 q_1304 = 50 := sA_r
  have n_1312 : (sA (sF g_1303 h 58 (.ref q_1254)) q_1304 50 6).2.2.1 q_12 = 48 := ((sA_g q_12 (ne0 r_1256 o_q_1304 (by decide))).2.2.1.trans n_1262)
  have n_1313 : (sA (sF g_1303 h 58 (.ref q_1254)) q_1304 50 6).2.2.1 q_23 = 48 := ((sA_g q_23 (ne0 r_1257 o_q_1304 (by decide))).2.2.1.trans n_1263)
  have n_1314 : (sA (sF g_1303 h 58 (.ref q_1254)) q_1304 50 6).2.2.1 q_483 = 8 := ((sA_g q_483 (ne0 r_1258 o_q_1304 (by decide))).2.2.1.trans n_1264)
  have n_1315 : (sA (sF g_1303 h 58 (.ref q_1254)) q_1304 50 6).2.2.1 q_500 = 8 := ((sA_g q_500 (ne0 r_1259 o_q_1304 (by decide))).2.2.1.trans n_1265)
  have n_1316 : (sA (sF g_1303 h 58 (.ref q_1254)) q_1304 50 6).2.2.1 q_543 = 24 := ((sA_g q_543 (ne0 r_1260 o_q_1304 (by decide))).2.2.1.trans n_1266)
  have n_1317 : (sA (sF g_1303 h 58 (.ref q_1254)) q_1304 50 6).2.2.1 q_1304 = 6 := sA_n
  have kn_1318 : (sA (sF g_1303 h 58 (.ref q_1254)) q_1304 50 6).2.1 h 0 = .int 0 := ((congrFun (sA_g h (ne0 r_1255 o_q_1304 (by decide))).2.1 0).trans (sF_k kn_1268 (by decide)))
  have kn_1319 : (sA (sF g_1303 h 58 (.ref q_1254)) q_1304 50 6).2.1 h 22 = .int 0 := ((congrFun (sA_g h (ne0 r_1255 o_q_1304 (by decide))).2.1 22).trans (sF_k kn_1269 (by decide)))
  have kn_1320 : (sA (sF g_1303 h 58 (.ref q_1254)) q_1304 50 6).2.1 h 24 = .int 0 := ((congrFun (sA_g h (ne0 r_1255 o_q_1304 (by decide))).2.1 24).trans (sF_k kn_1270 (by decide)))
  have kn_1321 : (sA (sF g_1303 h 58 (.ref q_1254)) q_1304 50 6).2.1 h 29 = .int 0 := ((congrFun (sA_g h (ne0 r_1255 o_q_1304 (by decide))).2.1 29).trans (sF_k kn_1271 (by decide)))
  have kn_1322 : (sA (sF g_1303 h 58 (.ref q_1254)) q_1304 50 6).2.1 h 30 = .int 0 := ((congrFun (sA_g h (ne0 r_1255 o_q_1304 (by decide))).2.1 30).trans (sF_k kn_1272 (by decide)))
  have kn_1323 : (sA (sF g_1303 h 58 (.ref q_1254)) q_1304 50 6).2.1 h 34 = .int 0 := ((congrFun (sA_g h (ne0 r_1255 o_q_1304 (by decide))).2.1 34).trans (sF_k kn_1273 (by decide)))
  have kn_1324 : (sA (sF g_1303 h 58 (.ref q_1254)) q_1304 50 6).2.1 h 2 = .ref q_12 := ((congrFun (sA_g h (ne0 r_1255 o_q_1304 (by decide))).2.1 2).trans (sF_k kn_1274 (by decide)))
  have kn_1325 : (sA (sF g_1303 h 58 (.ref q_1254)) q_1304 50 6).2.1 h 3 = .ref q_23 := ((congrFun (sA_g h (ne0 r_1255 o_q_1304 (by decide))).2.1 3).trans (sF_k kn_1275 (by decide)))
  have kn_1326 : (sA (sF g_1303 h 58 (.ref q_1254)) q_1304 50 6).2.1 h 39 = .ref q_483 := ((congrFun (sA_g h (ne0 r_1255 o_q_1304 (by decide))).2.1 39).trans (sF_k kn_1276 (by decide)))
  have kn_1327 : (sA (sF g_1303 h 58 (.ref q_1254)) q_1304 50 6).2.1 h 40 = .ref q_500 := ((congrFun (sA_g h (ne0 r_1255 o_q_1304 (by decide))).2.1 40).trans (sF_k kn_1277 (by decide)))
  have kn_1328 : (sA (sF g_1303 h 58 (.ref q_1254)) q_1304 50 6).2.1 h 42 = .ref q_543 := ((congrFun (sA_g h (ne0 r_1255 o_q_1304 (by decide))).2.1 42).trans (sF_k kn_1278 (by decide)))
  have kn_1329 : (sA (sF g_1303 h 58 (.ref q_1254)) q_1304 50 6).2.2.2.1 q_543 (0 : Int32).toNatClampNeg = 115 := ((congrFun (sA_g q_543 (ne0 r_1260 o_q_1304 (by decide))).2.2.2.1 _).trans kn_1279)
  have kn_1330 : (sA (sF g_1303 h 58 (.ref q_1254)) q_1304 50 6).2.2.2.1 q_543 (1 : Int32).toNatClampNeg = 101 := ((congrFun (sA_g q_543 (ne0 r_1260 o_q_1304 (by decide))).2.2.2.1 _).trans kn_1280)
  have kn_1331 : (sA (sF g_1303 h 58 (.ref q_1254)) q_1304 50 6).2.2.2.1 q_543 (2 : Int32).toNatClampNeg = 116 := ((congrFun (sA_g q_543 (ne0 r_1260 o_q_1304 (by decide))).2.2.2.1 _).trans kn_1281)
  have kn_1332 : (sA (sF g_1303 h 58 (.ref q_1254)) q_1304 50 6).2.2.2.1 q_543 (3 : Int32).toNatClampNeg = 97 := ((congrFun (sA_g q_543 (ne0 r_1260 o_q_1304 (by decide))).2.2.2.1 _).trans kn_1282)
  have kn_1333 : (sA (sF g_1303 h 58 (.ref q_1254)) q_1304 50 6).2.2.2.1 q_543 (4 : Int32).toNatClampNeg = 100 := ((congrFun (sA_g q_543 (ne0 r_1260 o_q_1304 (by decide))).2.2.2.1 _).trans kn_1283)
  have kn_1334 : (sA (sF g_1303 h 58 (.ref q_1254)) q_1304 50 6).2.2.2.1 q_543 (5 : Int32).toNatClampNeg = 100 := ((congrFun (sA_g q_543 (ne0 r_1260 o_q_1304 (by decide))).2.2.2.1 _).trans kn_1284)
  have kn_1335 : (sA (sF g_1303 h 58 (.ref q_1254)) q_1304 50 6).2.2.2.1 q_543 (6 : Int32).toNatClampNeg = 109 := ((congrFun (sA_g q_543 (ne0 r_1260 o_q_1304 (by decide))).2.2.2.1 _).trans kn_1285)
  have kn_1336 : (sA (sF g_1303 h 58 (.ref q_1254)) q_1304 50 6).2.2.2.1 q_543 (7 : Int32).toNatClampNeg = 97 := ((congrFun (sA_g q_543 (ne0 r_1260 o_q_1304 (by decide))).2.2.2.1 _).trans kn_1286)
  have kn_1337 : (sA (sF g_1303 h 58 (.ref q_1254)) q_1304 50 6).2.2.2.1 q_543 (8 : Int32).toNatClampNeg = 120 := ((congrFun (sA_g q_543 (ne0 r_1260 o_q_1304 (by decide))).2.2.2.1 _).trans kn_1287)
  have kn_1338 : (sA (sF g_1303 h 58 (.ref q_1254)) q_1304 50 6).2.2.2.1 q_543 (9 : Int32).toNatClampNeg = 110 := ((congrFun (sA_g q_543 (ne0 r_1260 o_q_1304 (by decide))).2.2.2.1 _).trans kn_1288)
  have kn_1339 : (sA (sF g_1303 h 58 (.ref q_1254)) q_1304 50 6).2.2.2.1 q_543 (10 : Int32).toNatClampNeg = 101 := ((congrFun (sA_g q_543 (ne0 r_1260 o_q_1304 (by decide))).2.2.2.1 _).trans kn_1289)
  have kn_1340 : (sA (sF g_1303 h 58 (.ref q_1254)) q_1304 50 6).2.2.2.1 q_543 (11 : Int32).toNatClampNeg = 119 := ((congrFun (sA_g q_543 (ne0 r_1260 o_q_1304 (by decide))).2.2.2.1 _).trans kn_1290)
  have kn_1341 : (sA (sF g_1303 h 58 (.ref q_1254)) q_1304 50 6).2.2.2.1 q_543 (12 : Int32).toNatClampNeg = 103 := ((congrFun (sA_g q_543 (ne0 r_1260 o_q_1304 (by decide))).2.2.2.1 _).trans kn_1291)
  have kn_1342 : (sA (sF g_1303 h 58 (.ref q_1254)) q_1304 50 6).2.2.2.1 q_543 (13 : Int32).toNatClampNeg = 101 := ((congrFun (sA_g q_543 (ne0 r_1260 o_q_1304 (by decide))).2.2.2.1 _).trans kn_1292)
  have kn_1343 : (sA (sF g_1303 h 58 (.ref q_1254)) q_1304 50 6).2.2.2.1 q_543 (14 : Int32).toNatClampNeg = 116 := ((congrFun (sA_g q_543 (ne0 r_1260 o_q_1304 (by decide))).2.2.2.1 _).trans kn_1293)
  have kn_1344 : (sA (sF g_1303 h 58 (.ref q_1254)) q_1304 50 6).2.2.2.1 q_543 (15 : Int32).toNatClampNeg = 97 := ((congrFun (sA_g q_543 (ne0 r_1260 o_q_1304 (by decide))).2.2.2.1 _).trans kn_1294)
  have kn_1345 : (sA (sF g_1303 h 58 (.ref q_1254)) q_1304 50 6).2.2.2.1 q_543 (16 : Int32).toNatClampNeg = 115 := ((congrFun (sA_g q_543 (ne0 r_1260 o_q_1304 (by decide))).2.2.2.1 _).trans kn_1295)
  have kn_1346 : (sA (sF g_1303 h 58 (.ref q_1254)) q_1304 50 6).2.2.2.1 q_543 (17 : Int32).toNatClampNeg = 107 := ((congrFun (sA_g q_543 (ne0 r_1260 o_q_1304 (by decide))).2.2.2.1 _).trans kn_1296)
  have kn_1347 : (sA (sF g_1303 h 58 (.ref q_1254)) q_1304 50 6).2.2.2.1 q_543 (18 : Int32).toNatClampNeg = 100 := ((congrFun (sA_g q_543 (ne0 r_1260 o_q_1304 (by decide))).2.2.2.1 _).trans kn_1297)
  have kn_1348 : (sA (sF g_1303 h 58 (.ref q_1254)) q_1304 50 6).2.2.2.1 q_543 (19 : Int32).toNatClampNeg = 111 := ((congrFun (sA_g q_543 (ne0 r_1260 o_q_1304 (by decide))).2.2.2.1 _).trans kn_1298)
  have kn_1349 : (sA (sF g_1303 h 58 (.ref q_1254)) q_1304 50 6).2.2.2.1 q_543 (20 : Int32).toNatClampNeg = 0 := ((congrFun (sA_g q_543 (ne0 r_1260 o_q_1304 (by decide))).2.2.2.1 _).trans kn_1299)
  have kn_1350 : (sA (sF g_1303 h 58 (.ref q_1254)) q_1304 50 6).2.2.2.1 q_543 (21 : Int32).toNatClampNeg = 105 := ((congrFun (sA_g q_543 (ne0 r_1260 o_q_1304 (by decide))).2.2.2.1 _).trans kn_1300)
  have kn_1351 : (sA (sF g_1303 h 58 (.ref q_1254)) q_1304 50 6).2.2.2.1 q_543 (22 : Int32).toNatClampNeg = 102 := ((congrFun (sA_g q_543 (ne0 r_1260 o_q_1304 (by decide))).2.2.2.1 _).trans kn_1301)
  have kn_1352 : (sA (sF g_1303 h 58 (.ref q_1254)) q_1304 50 6).2.2.2.1 q_543 (23 : Int32).toNatClampNeg = 0 := ((congrFun (sA_g q_543 (ne0 r_1260 o_q_1304 (by decide))).2.2.2.1 _).trans kn_1302)
  generalize (sA (sF g_1303 h 58 (.ref q_1254)) q_1304 50 6) = g_1353 at hT hI hM hE r_1305 r_1306 r_1307 r_1308 r_1309 r_1310 r_1311 n_1312 n_1313 n_1314 n_1315 n_1316 n_1317 kn_1318 kn_1319 kn_1320 kn_1321 kn_1322 kn_1323 kn_1324 kn_1325 kn_1326 kn_1327 kn_1328 kn_1329 kn_1330 kn_1331 kn_1332 kn_1333 kn_1334 kn_1335 kn_1336 kn_1337 kn_1338 kn_1339 kn_1340 kn_1341 kn_1342 kn_1343 kn_1344 kn_1345 kn_1346 kn_1347 kn_1348 kn_1349 kn_1350 kn_1351 kn_1352 hP zP zN
  clear kn_1268 kn_1269 kn_1270 kn_1271 kn_1272 kn_1273 kn_1274 kn_1275 kn_1276 kn_1277 kn_1278 kn_1279 kn_1280 kn_1281 kn_1282 kn_1283 kn_1284 kn_1285 kn_1286 kn_1287 kn_1288 kn_1289 kn_1290 kn_1291 kn_1292 kn_1293 kn_1294 kn_1295 kn_1296 kn_1297 kn_1298 kn_1299 kn_1300 kn_1301 kn_1302 n_1262 n_1263 n_1264 n_1265 n_1266 r_1255 r_1256 r_1257 r_1258 r_1259 r_1260
  refine W.widen (k := 46) (n := 4220) (Nat.le_of_ble_eq_true rfl) (Nat.le_of_ble_eq_true rfl) ?_
  refine t_put0 (ci := 7) (v := .ref q_1304) hB hT (ro_ci r_1305 rfl) (ro_n0 r_1305 (by decide)) rfl 59 (by decide) k_804 (Or.inr ⟨hin, rfl⟩) rfl rfl dX7_init_525 (fun H locs hT => ?_)
  replace hI : Inv (sF g_1353 h 59 (.ref q_1304)) := hI.sF (fk r_1305 (show fsm _ _ ft from trivial))
  replace hM : Sm md_k_Model g (sF g_1353 h 59 (.ref q_1304)) := hM.tr hE (Sm_sF (by rw [r_1305]; rfl))
  replace hE : Ex g (sF g_1353 h 59 (.ref q_1304)) := hE
  replace hP : PF [59, 58, 57, 56, 55, 54, 53, 48, 47, 46, 45, 44, 43, 42, 41, 40, 39, 35, 33, 32, 31, 28, 27, 26, 25, 23, 20, 19, 18, 17, 16, 15, 14, 13, 12, 11, 10, 9, 8, 7, 6, 5, 4, 3, 2, 1, 60, 52, 51, 50, 49, 38, 37, 36, 34, 30, 29, 24, 22, 21, 0] (sF g_1353 h 59 (.ref q_1304)) h := hP.put (q_8_59 (⟨_, rfl, r_1311, n_1317⟩))
  have zP : ZC (sF g_1353 h 59 (.ref q_1304)) q_23 := zP
  have zN : ZC (sF g_1353 h 59 (.ref q_1304)) q_500 := zN
  refine lv_aload_n hx hb dX7_init_528 rfl (lv_at hl 0 rfl) ?_
  refine lv_iconst (v := 5) hx hb dX7_init_529 (by decide) ?_
  refine t_newi (N' := 5) hB hT 52 (by decide) k_101 (by decide) (by decide) (by decide) (Nat.le_of_ble_eq_true rfl) (Nat.le_of_ble_eq_true rfl) dX7_init_530 (fun q_1354 H o_q_1354 hT => ?_)
  have z_q_1354 : g.1 q_1354 = 0 := hE.z0 o_q_1354
  replace hI : Inv (sA (sF g_1353 h 59 (.ref q_1304)) q_1354 52 5) := hI.newi o_q_1354 (by decide) (fun _ => rfl) ⟨by decide, by decide⟩ (fun _ => trivial)
  replace hM : Sm md_k_Model g (sA (sF g_1353 h 59 (.ref q_1304)) q_1354 52 5) := hM.tr hE (Sm.push o_q_1354 sA_g)
  replace hE : Ex g (sA (sF g_1353 h 59 (.ref q_1304)) q_1354 52 5) := hE.tr (Ex.push o_q_1354 sA_g)
  replace hP : PF [59, 58, 57, 56, 55, 54, 53, 48, 47, 46, 45, 44, 43, 42, 41, 40, 39, 35, 33, 32, 31, 28, 27, 26, 25, 23, 20, 19, 18, 17, 16, 15, 14, 13, 12, 11, 10, 9, 8, 7, 6, 5, 4, 3, 2, 1, 60, 52, 51, 50, 49, 38, 37, 36, 34, 30, 29, 24, 22, 21, 0] (sA (sF g_1353 h 59 (.ref q_1304)) q_1354 52 5) h := hP.pu (Ex.push o_q_1354 sA_g) (sA_g h (ne0 r_1305 o_q_1354 (by decide))).2.1
  have zP : ZC (sA (sF g_1353 h 59 (.ref q_1304)) q_1354 52 5) q_23 := zP.pu (sA_g q_23 (ne0 r_1307 o_q_1354 (by decide))).2.2.2.1
  have zN : ZC (sA (sF g_1353 h 59 (.ref q_1304)) q_1354 52 5) q_500 := zN.pu (sA_g q_500 (ne0 r_1309 o_q_1354 (by decide))).2.2.2.1
  have r_1355 : (sA (sF g_1353 h 59 (.ref q_1304)) q_1354 52 5).1 h = 18 := ((sA_g h (ne0 r_1305 o_q_1354 (by decide))).1.trans r_1305)
  have r_1356 : (sA (sF g_1353 h 59 (.ref q_1304)) q_1354 52 5).1 q_12 = 71 := ((sA_g q_12 (ne0 r_1306 o_q_1354 (by decide))).1.trans r_1306)
  have r_1357 : (sA (sF g_1353 h 59 (.ref q_1304)) q_1354 52 5).1 q_23 = 72 := ((sA_g q_23 (ne0 r_1307 o_q_1354 (by decide))).1.trans r_1307)
  have r_1358 : (sA (sF g_1353 h 59 (.ref q_1304)) q_1354 52 5).1 q_483 = 84 := ((sA_g q_483 (ne0 r_1308 o_q_1354 (by decide))).1.trans r_1308)
  have r_1359 : (sA (sF g_1353 h 59 (.ref q_1304)) q_1354 52 5).1 q_500 = 85 := ((sA_g q_500 (ne0 r_1309 o_q_1354 (by decide))).1.trans r_1309)
  have r_1360 : (sA (sF g_1353 h 59 (.ref q_1304)) q_1354 52 5).1 q_543 = 87 := ((sA_g q_543 (ne0 r_1310 o_q_1354 (by decide))).1.trans r_1310)
  have r_1361 : (sA (sF g_1353 h 59 (.ref q_1304)) q_1354 52 5).1 q_1354 = 52 := sA_r
  have n_1362 : (sA (sF g_1353 h 59 (.ref q_1304)) q_1354 52 5).2.2.1 q_12 = 48 := ((sA_g q_12 (ne0 r_1306 o_q_1354 (by decide))).2.2.1.trans n_1312)
  have n_1363 : (sA (sF g_1353 h 59 (.ref q_1304)) q_1354 52 5).2.2.1 q_23 = 48 := ((sA_g q_23 (ne0 r_1307 o_q_1354 (by decide))).2.2.1.trans n_1313)
  have n_1364 : (sA (sF g_1353 h 59 (.ref q_1304)) q_1354 52 5).2.2.1 q_483 = 8 := ((sA_g q_483 (ne0 r_1308 o_q_1354 (by decide))).2.2.1.trans n_1314)
  have n_1365 : (sA (sF g_1353 h 59 (.ref q_1304)) q_1354 52 5).2.2.1 q_500 = 8 := ((sA_g q_500 (ne0 r_1309 o_q_1354 (by decide))).2.2.1.trans n_1315)
  have n_1366 : (sA (sF g_1353 h 59 (.ref q_1304)) q_1354 52 5).2.2.1 q_543 = 24 := ((sA_g q_543 (ne0 r_1310 o_q_1354 (by decide))).2.2.1.trans n_1316)
  have n_1367 : (sA (sF g_1353 h 59 (.ref q_1304)) q_1354 52 5).2.2.1 q_1354 = 5 := sA_n
  have kn_1368 : (sA (sF g_1353 h 59 (.ref q_1304)) q_1354 52 5).2.1 h 0 = .int 0 := ((congrFun (sA_g h (ne0 r_1305 o_q_1354 (by decide))).2.1 0).trans (sF_k kn_1318 (by decide)))
  have kn_1369 : (sA (sF g_1353 h 59 (.ref q_1304)) q_1354 52 5).2.1 h 22 = .int 0 := ((congrFun (sA_g h (ne0 r_1305 o_q_1354 (by decide))).2.1 22).trans (sF_k kn_1319 (by decide)))
  have kn_1370 : (sA (sF g_1353 h 59 (.ref q_1304)) q_1354 52 5).2.1 h 24 = .int 0 := ((congrFun (sA_g h (ne0 r_1305 o_q_1354 (by decide))).2.1 24).trans (sF_k kn_1320 (by decide)))
  have kn_1371 : (sA (sF g_1353 h 59 (.ref q_1304)) q_1354 52 5).2.1 h 29 = .int 0 := ((congrFun (sA_g h (ne0 r_1305 o_q_1354 (by decide))).2.1 29).trans (sF_k kn_1321 (by decide)))
  have kn_1372 : (sA (sF g_1353 h 59 (.ref q_1304)) q_1354 52 5).2.1 h 30 = .int 0 := ((congrFun (sA_g h (ne0 r_1305 o_q_1354 (by decide))).2.1 30).trans (sF_k kn_1322 (by decide)))
  have kn_1373 : (sA (sF g_1353 h 59 (.ref q_1304)) q_1354 52 5).2.1 h 34 = .int 0 := ((congrFun (sA_g h (ne0 r_1305 o_q_1354 (by decide))).2.1 34).trans (sF_k kn_1323 (by decide)))
  have kn_1374 : (sA (sF g_1353 h 59 (.ref q_1304)) q_1354 52 5).2.1 h 2 = .ref q_12 := ((congrFun (sA_g h (ne0 r_1305 o_q_1354 (by decide))).2.1 2).trans (sF_k kn_1324 (by decide)))
  have kn_1375 : (sA (sF g_1353 h 59 (.ref q_1304)) q_1354 52 5).2.1 h 3 = .ref q_23 := ((congrFun (sA_g h (ne0 r_1305 o_q_1354 (by decide))).2.1 3).trans (sF_k kn_1325 (by decide)))
  have kn_1376 : (sA (sF g_1353 h 59 (.ref q_1304)) q_1354 52 5).2.1 h 39 = .ref q_483 := ((congrFun (sA_g h (ne0 r_1305 o_q_1354 (by decide))).2.1 39).trans (sF_k kn_1326 (by decide)))
  have kn_1377 : (sA (sF g_1353 h 59 (.ref q_1304)) q_1354 52 5).2.1 h 40 = .ref q_500 := ((congrFun (sA_g h (ne0 r_1305 o_q_1354 (by decide))).2.1 40).trans (sF_k kn_1327 (by decide)))
  have kn_1378 : (sA (sF g_1353 h 59 (.ref q_1304)) q_1354 52 5).2.1 h 42 = .ref q_543 := ((congrFun (sA_g h (ne0 r_1305 o_q_1354 (by decide))).2.1 42).trans (sF_k kn_1328 (by decide)))
  have kn_1379 : (sA (sF g_1353 h 59 (.ref q_1304)) q_1354 52 5).2.2.2.1 q_543 (0 : Int32).toNatClampNeg = 115 := ((congrFun (sA_g q_543 (ne0 r_1310 o_q_1354 (by decide))).2.2.2.1 _).trans kn_1329)
  have kn_1380 : (sA (sF g_1353 h 59 (.ref q_1304)) q_1354 52 5).2.2.2.1 q_543 (1 : Int32).toNatClampNeg = 101 := ((congrFun (sA_g q_543 (ne0 r_1310 o_q_1354 (by decide))).2.2.2.1 _).trans kn_1330)
  have kn_1381 : (sA (sF g_1353 h 59 (.ref q_1304)) q_1354 52 5).2.2.2.1 q_543 (2 : Int32).toNatClampNeg = 116 := ((congrFun (sA_g q_543 (ne0 r_1310 o_q_1354 (by decide))).2.2.2.1 _).trans kn_1331)
  have kn_1382 : (sA (sF g_1353 h 59 (.ref q_1304)) q_1354 52 5).2.2.2.1 q_543 (3 : Int32).toNatClampNeg = 97 := ((congrFun (sA_g q_543 (ne0 r_1310 o_q_1354 (by decide))).2.2.2.1 _).trans kn_1332)
  have kn_1383 : (sA (sF g_1353 h 59 (.ref q_1304)) q_1354 52 5).2.2.2.1 q_543 (4 : Int32).toNatClampNeg = 100 := ((congrFun (sA_g q_543 (ne0 r_1310 o_q_1354 (by decide))).2.2.2.1 _).trans kn_1333)
  have kn_1384 : (sA (sF g_1353 h 59 (.ref q_1304)) q_1354 52 5).2.2.2.1 q_543 (5 : Int32).toNatClampNeg = 100 := ((congrFun (sA_g q_543 (ne0 r_1310 o_q_1354 (by decide))).2.2.2.1 _).trans kn_1334)
  have kn_1385 : (sA (sF g_1353 h 59 (.ref q_1304)) q_1354 52 5).2.2.2.1 q_543 (6 : Int32).toNatClampNeg = 109 := ((congrFun (sA_g q_543 (ne0 r_1310 o_q_1354 (by decide))).2.2.2.1 _).trans kn_1335)
  have kn_1386 : (sA (sF g_1353 h 59 (.ref q_1304)) q_1354 52 5).2.2.2.1 q_543 (7 : Int32).toNatClampNeg = 97 := ((congrFun (sA_g q_543 (ne0 r_1310 o_q_1354 (by decide))).2.2.2.1 _).trans kn_1336)
  have kn_1387 : (sA (sF g_1353 h 59 (.ref q_1304)) q_1354 52 5).2.2.2.1 q_543 (8 : Int32).toNatClampNeg = 120 := ((congrFun (sA_g q_543 (ne0 r_1310 o_q_1354 (by decide))).2.2.2.1 _).trans kn_1337)
  have kn_1388 : (sA (sF g_1353 h 59 (.ref q_1304)) q_1354 52 5).2.2.2.1 q_543 (9 : Int32).toNatClampNeg = 110 := ((congrFun (sA_g q_543 (ne0 r_1310 o_q_1354 (by decide))).2.2.2.1 _).trans kn_1338)
  have kn_1389 : (sA (sF g_1353 h 59 (.ref q_1304)) q_1354 52 5).2.2.2.1 q_543 (10 : Int32).toNatClampNeg = 101 := ((congrFun (sA_g q_543 (ne0 r_1310 o_q_1354 (by decide))).2.2.2.1 _).trans kn_1339)
  have kn_1390 : (sA (sF g_1353 h 59 (.ref q_1304)) q_1354 52 5).2.2.2.1 q_543 (11 : Int32).toNatClampNeg = 119 := ((congrFun (sA_g q_543 (ne0 r_1310 o_q_1354 (by decide))).2.2.2.1 _).trans kn_1340)
  have kn_1391 : (sA (sF g_1353 h 59 (.ref q_1304)) q_1354 52 5).2.2.2.1 q_543 (12 : Int32).toNatClampNeg = 103 := ((congrFun (sA_g q_543 (ne0 r_1310 o_q_1354 (by decide))).2.2.2.1 _).trans kn_1341)
  have kn_1392 : (sA (sF g_1353 h 59 (.ref q_1304)) q_1354 52 5).2.2.2.1 q_543 (13 : Int32).toNatClampNeg = 101 := ((congrFun (sA_g q_543 (ne0 r_1310 o_q_1354 (by decide))).2.2.2.1 _).trans kn_1342)
  have kn_1393 : (sA (sF g_1353 h 59 (.ref q_1304)) q_1354 52 5).2.2.2.1 q_543 (14 : Int32).toNatClampNeg = 116 := ((congrFun (sA_g q_543 (ne0 r_1310 o_q_1354 (by decide))).2.2.2.1 _).trans kn_1343)
  have kn_1394 : (sA (sF g_1353 h 59 (.ref q_1304)) q_1354 52 5).2.2.2.1 q_543 (15 : Int32).toNatClampNeg = 97 := ((congrFun (sA_g q_543 (ne0 r_1310 o_q_1354 (by decide))).2.2.2.1 _).trans kn_1344)
  have kn_1395 : (sA (sF g_1353 h 59 (.ref q_1304)) q_1354 52 5).2.2.2.1 q_543 (16 : Int32).toNatClampNeg = 115 := ((congrFun (sA_g q_543 (ne0 r_1310 o_q_1354 (by decide))).2.2.2.1 _).trans kn_1345)
  have kn_1396 : (sA (sF g_1353 h 59 (.ref q_1304)) q_1354 52 5).2.2.2.1 q_543 (17 : Int32).toNatClampNeg = 107 := ((congrFun (sA_g q_543 (ne0 r_1310 o_q_1354 (by decide))).2.2.2.1 _).trans kn_1346)
  have kn_1397 : (sA (sF g_1353 h 59 (.ref q_1304)) q_1354 52 5).2.2.2.1 q_543 (18 : Int32).toNatClampNeg = 100 := ((congrFun (sA_g q_543 (ne0 r_1310 o_q_1354 (by decide))).2.2.2.1 _).trans kn_1347)
  have kn_1398 : (sA (sF g_1353 h 59 (.ref q_1304)) q_1354 52 5).2.2.2.1 q_543 (19 : Int32).toNatClampNeg = 111 := ((congrFun (sA_g q_543 (ne0 r_1310 o_q_1354 (by decide))).2.2.2.1 _).trans kn_1348)
  have kn_1399 : (sA (sF g_1353 h 59 (.ref q_1304)) q_1354 52 5).2.2.2.1 q_543 (20 : Int32).toNatClampNeg = 0 := ((congrFun (sA_g q_543 (ne0 r_1310 o_q_1354 (by decide))).2.2.2.1 _).trans kn_1349)
  have kn_1400 : (sA (sF g_1353 h 59 (.ref q_1304)) q_1354 52 5).2.2.2.1 q_543 (21 : Int32).toNatClampNeg = 105 := ((congrFun (sA_g q_543 (ne0 r_1310 o_q_1354 (by decide))).2.2.2.1 _).trans kn_1350)
  have kn_1401 : (sA (sF g_1353 h 59 (.ref q_1304)) q_1354 52 5).2.2.2.1 q_543 (22 : Int32).toNatClampNeg = 102 := ((congrFun (sA_g q_543 (ne0 r_1310 o_q_1354 (by decide))).2.2.2.1 _).trans kn_1351)
  have kn_1402 : (sA (sF g_1353 h 59 (.ref q_1304)) q_1354 52 5).2.2.2.1 q_543 (23 : Int32).toNatClampNeg = 0 := ((congrFun (sA_g q_543 (ne0 r_1310 o_q_1354 (by decide))).2.2.2.1 _).trans kn_1352)
  generalize (sA (sF g_1353 h 59 (.ref q_1304)) q_1354 52 5) = g_1403 at hT hI hM hE r_1355 r_1356 r_1357 r_1358 r_1359 r_1360 r_1361 n_1362 n_1363 n_1364 n_1365 n_1366 n_1367 kn_1368 kn_1369 kn_1370 kn_1371 kn_1372 kn_1373 kn_1374 kn_1375 kn_1376 kn_1377 kn_1378 kn_1379 kn_1380 kn_1381 kn_1382 kn_1383 kn_1384 kn_1385 kn_1386 kn_1387 kn_1388 kn_1389 kn_1390 kn_1391 kn_1392 kn_1393 kn_1394 kn_1395 kn_1396 kn_1397 kn_1398 kn_1399 kn_1400 kn_1401 kn_1402 hP zP zN
  clear kn_1318 kn_1319 kn_1320 kn_1321 kn_1322 kn_1323 kn_1324 kn_1325 kn_1326 kn_1327 kn_1328 kn_1329 kn_1330 kn_1331 kn_1332 kn_1333 kn_1334 kn_1335 kn_1336 kn_1337 kn_1338 kn_1339 kn_1340 kn_1341 kn_1342 kn_1343 kn_1344 kn_1345 kn_1346 kn_1347 kn_1348 kn_1349 kn_1350 kn_1351 kn_1352 n_1312 n_1313 n_1314 n_1315 n_1316 r_1305 r_1306 r_1307 r_1308 r_1309 r_1310
  refine W.widen (k := 47) (n := 4225) (Nat.le_of_ble_eq_true rfl) (Nat.le_of_ble_eq_true rfl) ?_
  refine t_put0 (ci := 7) (v := .ref q_1354) hB hT (ro_ci r_1355 rfl) (ro_n0 r_1355 (by decide)) rfl 61 (by decide) k_806 (Or.inr ⟨hin, rfl⟩) rfl rfl dX7_init_532 (fun H locs hT => ?_)
  replace hI : Inv (sF g_1403 h 61 (.ref q_1354)) := hI.sF (fk r_1355 (show fsm _ _ ft from trivial))
  replace hM : Sm md_k_Model g (sF g_1403 h 61 (.ref q_1354)) := hM.tr hE (Sm_sF (by rw [r_1355]; rfl))
  replace hE : Ex g (sF g_1403 h 61 (.ref q_1354)) := hE
  replace hP : PF [61, 59, 58, 57, 56, 55, 54, 53, 48, 47, 46, 45, 44, 43, 42, 41, 40, 39, 35, 33, 32, 31, 28, 27, 26, 25, 23, 20, 19, 18, 17, 16, 15, 14, 13, 12, 11, 10, 9, 8, 7, 6, 5, 4, 3, 2, 1, 60, 52, 51, 50, 49, 38, 37, 36, 34, 30, 29, 24, 22, 21, 0] (sF g_1403 h 61 (.ref q_1354)) h := hP.put (q_8_61 (⟨_, rfl, r_1361, n_1367⟩))
  have zP : ZC (sF g_1403 h 61 (.ref q_1354)) q_23 := zP
  have zN : ZC (sF g_1403 h 61 (.ref q_1354)) q_500 := zN
  refine lv_aload_n hx hb dX7_init_535 rfl (lv_at hl 0 rfl) ?_
  refine lv_sipush (v := 624) hx hb dX7_init_536 (by decide) ?_
  refine t_newi (N' := 624) hB hT 50 (by decide) k_101 (by decide) (by decide) (by decide) (Nat.le_of_ble_eq_true rfl) (Nat.le_of_ble_eq_true rfl) dX7_init_539 (fun q_1404 H o_q_1404 hT => ?_)
  have z_q_1404 : g.1 q_1404 = 0 := hE.z0 o_q_1404
  replace hI : Inv (sA (sF g_1403 h 61 (.ref q_1354)) q_1404 50 624) := hI.newi o_q_1404 (by decide) (fun _ => rfl) trivial (fun _ => trivial)
  replace hM : Sm md_k_Model g (sA (sF g_1403 h 61 (.ref q_1354)) q_1404 50 624) := hM.tr hE (Sm.push o_q_1404 sA_g)
  replace hE : Ex g (sA (sF g_1403 h 61 (.ref q_1354)) q_1404 50 624) := hE.tr (Ex.push o_q_1404 sA_g)
  replace hP : PF [61, 59, 58, 57, 56, 55, 54, 53, 48, 47, 46, 45, 44, 43, 42, 41, 40, 39, 35, 33, 32, 31, 28, 27, 26, 25, 23, 20, 19, 18, 17, 16, 15, 14, 13, 12, 11, 10, 9, 8, 7, 6, 5, 4, 3, 2, 1, 60, 52, 51, 50, 49, 38, 37, 36, 34, 30, 29, 24, 22, 21, 0] (sA (sF g_1403 h 61 (.ref q_1354)) q_1404 50 624) h := hP.pu (Ex.push o_q_1404 sA_g) (sA_g h (ne0 r_1355 o_q_1404 (by decide))).2.1
  have zP : ZC (sA (sF g_1403 h 61 (.ref q_1354)) q_1404 50 624) q_23 := zP.pu (sA_g q_23 (ne0 r_1357 o_q_1404 (by decide))).2.2.2.1
  have zN : ZC (sA (sF g_1403 h 61 (.ref q_1354)) q_1404 50 624) q_500 := zN.pu (sA_g q_500 (ne0 r_1359 o_q_1404 (by decide))).2.2.2.1
  have r_1405 : (sA (sF g_1403 h 61 (.ref q_1354)) q_1404 50 624).1 h = 18 := ((sA_g h (ne0 r_1355 o_q_1404 (by decide))).1.trans r_1355)
  have r_1406 : (sA (sF g_1403 h 61 (.ref q_1354)) q_1404 50 624).1 q_12 = 71 := ((sA_g q_12 (ne0 r_1356 o_q_1404 (by decide))).1.trans r_1356)
  have r_1407 : (sA (sF g_1403 h 61 (.ref q_1354)) q_1404 50 624).1 q_23 = 72 := ((sA_g q_23 (ne0 r_1357 o_q_1404 (by decide))).1.trans r_1357)
  have r_1408 : (sA (sF g_1403 h 61 (.ref q_1354)) q_1404 50 624).1 q_483 = 84 := ((sA_g q_483 (ne0 r_1358 o_q_1404 (by decide))).1.trans r_1358)
  have r_1409 : (sA (sF g_1403 h 61 (.ref q_1354)) q_1404 50 624).1 q_500 = 85 := ((sA_g q_500 (ne0 r_1359 o_q_1404 (by decide))).1.trans r_1359)
  have r_1410 : (sA (sF g_1403 h 61 (.ref q_1354)) q_1404 50 624).1 q_543 = 87 := ((sA_g q_543 (ne0 r_1360 o_q_1404 (by decide))).1.trans r_1360)
  have r_1411 : (sA (sF g_1403 h 61 (.ref q_1354)) q_1404 50 624).1 q_1404 = 50 := sA_r
  have n_1412 : (sA (sF g_1403 h 61 (.ref q_1354)) q_1404 50 624).2.2.1 q_12 = 48 := ((sA_g q_12 (ne0 r_1356 o_q_1404 (by decide))).2.2.1.trans n_1362)
  have n_1413 : (sA (sF g_1403 h 61 (.ref q_1354)) q_1404 50 624).2.2.1 q_23 = 48 := ((sA_g q_23 (ne0 r_1357 o_q_1404 (by decide))).2.2.1.trans n_1363)
  have n_1414 : (sA (sF g_1403 h 61 (.ref q_1354)) q_1404 50 624).2.2.1 q_483 = 8 := ((sA_g q_483 (ne0 r_1358 o_q_1404 (by decide))).2.2.1.trans n_1364)
  have n_1415 : (sA (sF g_1403 h 61 (.ref q_1354)) q_1404 50 624).2.2.1 q_500 = 8 := ((sA_g q_500 (ne0 r_1359 o_q_1404 (by decide))).2.2.1.trans n_1365)
  have n_1416 : (sA (sF g_1403 h 61 (.ref q_1354)) q_1404 50 624).2.2.1 q_543 = 24 := ((sA_g q_543 (ne0 r_1360 o_q_1404 (by decide))).2.2.1.trans n_1366)
  have n_1417 : (sA (sF g_1403 h 61 (.ref q_1354)) q_1404 50 624).2.2.1 q_1404 = 624 := sA_n
  have kn_1418 : (sA (sF g_1403 h 61 (.ref q_1354)) q_1404 50 624).2.1 h 0 = .int 0 := ((congrFun (sA_g h (ne0 r_1355 o_q_1404 (by decide))).2.1 0).trans (sF_k kn_1368 (by decide)))
  have kn_1419 : (sA (sF g_1403 h 61 (.ref q_1354)) q_1404 50 624).2.1 h 22 = .int 0 := ((congrFun (sA_g h (ne0 r_1355 o_q_1404 (by decide))).2.1 22).trans (sF_k kn_1369 (by decide)))
  have kn_1420 : (sA (sF g_1403 h 61 (.ref q_1354)) q_1404 50 624).2.1 h 24 = .int 0 := ((congrFun (sA_g h (ne0 r_1355 o_q_1404 (by decide))).2.1 24).trans (sF_k kn_1370 (by decide)))
  have kn_1421 : (sA (sF g_1403 h 61 (.ref q_1354)) q_1404 50 624).2.1 h 29 = .int 0 := ((congrFun (sA_g h (ne0 r_1355 o_q_1404 (by decide))).2.1 29).trans (sF_k kn_1371 (by decide)))
  have kn_1422 : (sA (sF g_1403 h 61 (.ref q_1354)) q_1404 50 624).2.1 h 30 = .int 0 := ((congrFun (sA_g h (ne0 r_1355 o_q_1404 (by decide))).2.1 30).trans (sF_k kn_1372 (by decide)))
  have kn_1423 : (sA (sF g_1403 h 61 (.ref q_1354)) q_1404 50 624).2.1 h 34 = .int 0 := ((congrFun (sA_g h (ne0 r_1355 o_q_1404 (by decide))).2.1 34).trans (sF_k kn_1373 (by decide)))
  have kn_1424 : (sA (sF g_1403 h 61 (.ref q_1354)) q_1404 50 624).2.1 h 2 = .ref q_12 := ((congrFun (sA_g h (ne0 r_1355 o_q_1404 (by decide))).2.1 2).trans (sF_k kn_1374 (by decide)))
  have kn_1425 : (sA (sF g_1403 h 61 (.ref q_1354)) q_1404 50 624).2.1 h 3 = .ref q_23 := ((congrFun (sA_g h (ne0 r_1355 o_q_1404 (by decide))).2.1 3).trans (sF_k kn_1375 (by decide)))
  have kn_1426 : (sA (sF g_1403 h 61 (.ref q_1354)) q_1404 50 624).2.1 h 39 = .ref q_483 := ((congrFun (sA_g h (ne0 r_1355 o_q_1404 (by decide))).2.1 39).trans (sF_k kn_1376 (by decide)))
  have kn_1427 : (sA (sF g_1403 h 61 (.ref q_1354)) q_1404 50 624).2.1 h 40 = .ref q_500 := ((congrFun (sA_g h (ne0 r_1355 o_q_1404 (by decide))).2.1 40).trans (sF_k kn_1377 (by decide)))
  have kn_1428 : (sA (sF g_1403 h 61 (.ref q_1354)) q_1404 50 624).2.1 h 42 = .ref q_543 := ((congrFun (sA_g h (ne0 r_1355 o_q_1404 (by decide))).2.1 42).trans (sF_k kn_1378 (by decide)))
  have kn_1429 : (sA (sF g_1403 h 61 (.ref q_1354)) q_1404 50 624).2.2.2.1 q_543 (0 : Int32).toNatClampNeg = 115 := ((congrFun (sA_g q_543 (ne0 r_1360 o_q_1404 (by decide))).2.2.2.1 _).trans kn_1379)
  have kn_1430 : (sA (sF g_1403 h 61 (.ref q_1354)) q_1404 50 624).2.2.2.1 q_543 (1 : Int32).toNatClampNeg = 101 := ((congrFun (sA_g q_543 (ne0 r_1360 o_q_1404 (by decide))).2.2.2.1 _).trans kn_1380)
  have kn_1431 : (sA (sF g_1403 h 61 (.ref q_1354)) q_1404 50 624).2.2.2.1 q_543 (2 : Int32).toNatClampNeg = 116 := ((congrFun (sA_g q_543 (ne0 r_1360 o_q_1404 (by decide))).2.2.2.1 _).trans kn_1381)
  have kn_1432 : (sA (sF g_1403 h 61 (.ref q_1354)) q_1404 50 624).2.2.2.1 q_543 (3 : Int32).toNatClampNeg = 97 := ((congrFun (sA_g q_543 (ne0 r_1360 o_q_1404 (by decide))).2.2.2.1 _).trans kn_1382)
  have kn_1433 : (sA (sF g_1403 h 61 (.ref q_1354)) q_1404 50 624).2.2.2.1 q_543 (4 : Int32).toNatClampNeg = 100 := ((congrFun (sA_g q_543 (ne0 r_1360 o_q_1404 (by decide))).2.2.2.1 _).trans kn_1383)
  have kn_1434 : (sA (sF g_1403 h 61 (.ref q_1354)) q_1404 50 624).2.2.2.1 q_543 (5 : Int32).toNatClampNeg = 100 := ((congrFun (sA_g q_543 (ne0 r_1360 o_q_1404 (by decide))).2.2.2.1 _).trans kn_1384)
  have kn_1435 : (sA (sF g_1403 h 61 (.ref q_1354)) q_1404 50 624).2.2.2.1 q_543 (6 : Int32).toNatClampNeg = 109 := ((congrFun (sA_g q_543 (ne0 r_1360 o_q_1404 (by decide))).2.2.2.1 _).trans kn_1385)
  have kn_1436 : (sA (sF g_1403 h 61 (.ref q_1354)) q_1404 50 624).2.2.2.1 q_543 (7 : Int32).toNatClampNeg = 97 := ((congrFun (sA_g q_543 (ne0 r_1360 o_q_1404 (by decide))).2.2.2.1 _).trans kn_1386)
  have kn_1437 : (sA (sF g_1403 h 61 (.ref q_1354)) q_1404 50 624).2.2.2.1 q_543 (8 : Int32).toNatClampNeg = 120 := ((congrFun (sA_g q_543 (ne0 r_1360 o_q_1404 (by decide))).2.2.2.1 _).trans kn_1387)
  have kn_1438 : (sA (sF g_1403 h 61 (.ref q_1354)) q_1404 50 624).2.2.2.1 q_543 (9 : Int32).toNatClampNeg = 110 := ((congrFun (sA_g q_543 (ne0 r_1360 o_q_1404 (by decide))).2.2.2.1 _).trans kn_1388)
  have kn_1439 : (sA (sF g_1403 h 61 (.ref q_1354)) q_1404 50 624).2.2.2.1 q_543 (10 : Int32).toNatClampNeg = 101 := ((congrFun (sA_g q_543 (ne0 r_1360 o_q_1404 (by decide))).2.2.2.1 _).trans kn_1389)
  have kn_1440 : (sA (sF g_1403 h 61 (.ref q_1354)) q_1404 50 624).2.2.2.1 q_543 (11 : Int32).toNatClampNeg = 119 := ((congrFun (sA_g q_543 (ne0 r_1360 o_q_1404 (by decide))).2.2.2.1 _).trans kn_1390)
  have kn_1441 : (sA (sF g_1403 h 61 (.ref q_1354)) q_1404 50 624).2.2.2.1 q_543 (12 : Int32).toNatClampNeg = 103 := ((congrFun (sA_g q_543 (ne0 r_1360 o_q_1404 (by decide))).2.2.2.1 _).trans kn_1391)
  have kn_1442 : (sA (sF g_1403 h 61 (.ref q_1354)) q_1404 50 624).2.2.2.1 q_543 (13 : Int32).toNatClampNeg = 101 := ((congrFun (sA_g q_543 (ne0 r_1360 o_q_1404 (by decide))).2.2.2.1 _).trans kn_1392)
  have kn_1443 : (sA (sF g_1403 h 61 (.ref q_1354)) q_1404 50 624).2.2.2.1 q_543 (14 : Int32).toNatClampNeg = 116 := ((congrFun (sA_g q_543 (ne0 r_1360 o_q_1404 (by decide))).2.2.2.1 _).trans kn_1393)
  have kn_1444 : (sA (sF g_1403 h 61 (.ref q_1354)) q_1404 50 624).2.2.2.1 q_543 (15 : Int32).toNatClampNeg = 97 := ((congrFun (sA_g q_543 (ne0 r_1360 o_q_1404 (by decide))).2.2.2.1 _).trans kn_1394)
  have kn_1445 : (sA (sF g_1403 h 61 (.ref q_1354)) q_1404 50 624).2.2.2.1 q_543 (16 : Int32).toNatClampNeg = 115 := ((congrFun (sA_g q_543 (ne0 r_1360 o_q_1404 (by decide))).2.2.2.1 _).trans kn_1395)
  have kn_1446 : (sA (sF g_1403 h 61 (.ref q_1354)) q_1404 50 624).2.2.2.1 q_543 (17 : Int32).toNatClampNeg = 107 := ((congrFun (sA_g q_543 (ne0 r_1360 o_q_1404 (by decide))).2.2.2.1 _).trans kn_1396)
  have kn_1447 : (sA (sF g_1403 h 61 (.ref q_1354)) q_1404 50 624).2.2.2.1 q_543 (18 : Int32).toNatClampNeg = 100 := ((congrFun (sA_g q_543 (ne0 r_1360 o_q_1404 (by decide))).2.2.2.1 _).trans kn_1397)
  have kn_1448 : (sA (sF g_1403 h 61 (.ref q_1354)) q_1404 50 624).2.2.2.1 q_543 (19 : Int32).toNatClampNeg = 111 := ((congrFun (sA_g q_543 (ne0 r_1360 o_q_1404 (by decide))).2.2.2.1 _).trans kn_1398)
  have kn_1449 : (sA (sF g_1403 h 61 (.ref q_1354)) q_1404 50 624).2.2.2.1 q_543 (20 : Int32).toNatClampNeg = 0 := ((congrFun (sA_g q_543 (ne0 r_1360 o_q_1404 (by decide))).2.2.2.1 _).trans kn_1399)
  have kn_1450 : (sA (sF g_1403 h 61 (.ref q_1354)) q_1404 50 624).2.2.2.1 q_543 (21 : Int32).toNatClampNeg = 105 := ((congrFun (sA_g q_543 (ne0 r_1360 o_q_1404 (by decide))).2.2.2.1 _).trans kn_1400)
  have kn_1451 : (sA (sF g_1403 h 61 (.ref q_1354)) q_1404 50 624).2.2.2.1 q_543 (22 : Int32).toNatClampNeg = 102 := ((congrFun (sA_g q_543 (ne0 r_1360 o_q_1404 (by decide))).2.2.2.1 _).trans kn_1401)
  have kn_1452 : (sA (sF g_1403 h 61 (.ref q_1354)) q_1404 50 624).2.2.2.1 q_543 (23 : Int32).toNatClampNeg = 0 := ((congrFun (sA_g q_543 (ne0 r_1360 o_q_1404 (by decide))).2.2.2.1 _).trans kn_1402)
  generalize (sA (sF g_1403 h 61 (.ref q_1354)) q_1404 50 624) = g_1453 at hT hI hM hE r_1405 r_1406 r_1407 r_1408 r_1409 r_1410 r_1411 n_1412 n_1413 n_1414 n_1415 n_1416 n_1417 kn_1418 kn_1419 kn_1420 kn_1421 kn_1422 kn_1423 kn_1424 kn_1425 kn_1426 kn_1427 kn_1428 kn_1429 kn_1430 kn_1431 kn_1432 kn_1433 kn_1434 kn_1435 kn_1436 kn_1437 kn_1438 kn_1439 kn_1440 kn_1441 kn_1442 kn_1443 kn_1444 kn_1445 kn_1446 kn_1447 kn_1448 kn_1449 kn_1450 kn_1451 kn_1452 hP zP zN
  clear kn_1368 kn_1369 kn_1370 kn_1371 kn_1372 kn_1373 kn_1374 kn_1375 kn_1376 kn_1377 kn_1378 kn_1379 kn_1380 kn_1381 kn_1382 kn_1383 kn_1384 kn_1385 kn_1386 kn_1387 kn_1388 kn_1389 kn_1390 kn_1391 kn_1392 kn_1393 kn_1394 kn_1395 kn_1396 kn_1397 kn_1398 kn_1399 kn_1400 kn_1401 kn_1402 n_1362 n_1363 n_1364 n_1365 n_1366 r_1355 r_1356 r_1357 r_1358 r_1359 r_1360
  refine W.widen (k := 48) (n := 4849) (Nat.le_of_ble_eq_true rfl) (Nat.le_of_ble_eq_true rfl) ?_
  refine t_put0 (ci := 7) (v := .ref q_1404) hB hT (ro_ci r_1405 rfl) (ro_n0 r_1405 (by decide)) rfl 62 (by decide) k_807 (Or.inr ⟨hin, rfl⟩) rfl rfl dX7_init_541 (fun H locs hT => ?_)
  replace hI : Inv (sF g_1453 h 62 (.ref q_1404)) := hI.sF (fk r_1405 (show fsm _ _ ft from trivial))
  replace hM : Sm md_k_Model g (sF g_1453 h 62 (.ref q_1404)) := hM.tr hE (Sm_sF (by rw [r_1405]; rfl))
  replace hE : Ex g (sF g_1453 h 62 (.ref q_1404)) := hE
  replace hP : PF [62, 61, 59, 58, 57, 56, 55, 54, 53, 48, 47, 46, 45, 44, 43, 42, 41, 40, 39, 35, 33, 32, 31, 28, 27, 26, 25, 23, 20, 19, 18, 17, 16, 15, 14, 13, 12, 11, 10, 9, 8, 7, 6, 5, 4, 3, 2, 1, 60, 52, 51, 50, 49, 38, 37, 36, 34, 30, 29, 24, 22, 21, 0] (sF g_1453 h 62 (.ref q_1404)) h := hP.put (q_8_62 (⟨_, rfl, r_1411, n_1417⟩))
  have zP : ZC (sF g_1453 h 62 (.ref q_1404)) q_23 := zP
  have zN : ZC (sF g_1453 h 62 (.ref q_1404)) q_500 := zN
  refine lv_aload_n hx hb dX7_init_544 rfl (lv_at hl 0 rfl) ?_
  refine lv_sipush (v := 24000) hx hb dX7_init_545 (by decide) ?_
  refine t_newi (N' := 24000) hB hT 50 (by decide) k_101 (by decide) (by decide) (by decide) (Nat.le_of_ble_eq_true rfl) (Nat.le_of_ble_eq_true rfl) dX7_init_548 (fun q_1454 H o_q_1454 hT => ?_)
  have z_q_1454 : g.1 q_1454 = 0 := hE.z0 o_q_1454
  replace hI : Inv (sA (sF g_1453 h 62 (.ref q_1404)) q_1454 50 24000) := hI.newi o_q_1454 (by decide) (fun _ => rfl) trivial (fun _ => trivial)
  replace hM : Sm md_k_Model g (sA (sF g_1453 h 62 (.ref q_1404)) q_1454 50 24000) := hM.tr hE (Sm.push o_q_1454 sA_g)
  replace hE : Ex g (sA (sF g_1453 h 62 (.ref q_1404)) q_1454 50 24000) := hE.tr (Ex.push o_q_1454 sA_g)
  replace hP : PF [62, 61, 59, 58, 57, 56, 55, 54, 53, 48, 47, 46, 45, 44, 43, 42, 41, 40, 39, 35, 33, 32, 31, 28, 27, 26, 25, 23, 20, 19, 18, 17, 16, 15, 14, 13, 12, 11, 10, 9, 8, 7, 6, 5, 4, 3, 2, 1, 60, 52, 51, 50, 49, 38, 37, 36, 34, 30, 29, 24, 22, 21, 0] (sA (sF g_1453 h 62 (.ref q_1404)) q_1454 50 24000) h := hP.pu (Ex.push o_q_1454 sA_g) (sA_g h (ne0 r_1405 o_q_1454 (by decide))).2.1
  have zP : ZC (sA (sF g_1453 h 62 (.ref q_1404)) q_1454 50 24000) q_23 := zP.pu (sA_g q_23 (ne0 r_1407 o_q_1454 (by decide))).2.2.2.1
  have zN : ZC (sA (sF g_1453 h 62 (.ref q_1404)) q_1454 50 24000) q_500 := zN.pu (sA_g q_500 (ne0 r_1409 o_q_1454 (by decide))).2.2.2.1
  have r_1455 : (sA (sF g_1453 h 62 (.ref q_1404)) q_1454 50 24000).1 h = 18 := ((sA_g h (ne0 r_1405 o_q_1454 (by decide))).1.trans r_1405)
  have r_1456 : (sA (sF g_1453 h 62 (.ref q_1404)) q_1454 50 24000).1 q_12 = 71 := ((sA_g q_12 (ne0 r_1406 o_q_1454 (by decide))).1.trans r_1406)
  have r_1457 : (sA (sF g_1453 h 62 (.ref q_1404)) q_1454 50 24000).1 q_23 = 72 := ((sA_g q_23 (ne0 r_1407 o_q_1454 (by decide))).1.trans r_1407)
  have r_1458 : (sA (sF g_1453 h 62 (.ref q_1404)) q_1454 50 24000).1 q_483 = 84 := ((sA_g q_483 (ne0 r_1408 o_q_1454 (by decide))).1.trans r_1408)
  have r_1459 : (sA (sF g_1453 h 62 (.ref q_1404)) q_1454 50 24000).1 q_500 = 85 := ((sA_g q_500 (ne0 r_1409 o_q_1454 (by decide))).1.trans r_1409)
  have r_1460 : (sA (sF g_1453 h 62 (.ref q_1404)) q_1454 50 24000).1 q_543 = 87 := ((sA_g q_543 (ne0 r_1410 o_q_1454 (by decide))).1.trans r_1410)
  have r_1461 : (sA (sF g_1453 h 62 (.ref q_1404)) q_1454 50 24000).1 q_1454 = 50 := sA_r
  have n_1462 : (sA (sF g_1453 h 62 (.ref q_1404)) q_1454 50 24000).2.2.1 q_12 = 48 := ((sA_g q_12 (ne0 r_1406 o_q_1454 (by decide))).2.2.1.trans n_1412)
  have n_1463 : (sA (sF g_1453 h 62 (.ref q_1404)) q_1454 50 24000).2.2.1 q_23 = 48 := ((sA_g q_23 (ne0 r_1407 o_q_1454 (by decide))).2.2.1.trans n_1413)
  have n_1464 : (sA (sF g_1453 h 62 (.ref q_1404)) q_1454 50 24000).2.2.1 q_483 = 8 := ((sA_g q_483 (ne0 r_1408 o_q_1454 (by decide))).2.2.1.trans n_1414)
  have n_1465 : (sA (sF g_1453 h 62 (.ref q_1404)) q_1454 50 24000).2.2.1 q_500 = 8 := ((sA_g q_500 (ne0 r_1409 o_q_1454 (by decide))).2.2.1.trans n_1415)
  have n_1466 : (sA (sF g_1453 h 62 (.ref q_1404)) q_1454 50 24000).2.2.1 q_543 = 24 := ((sA_g q_543 (ne0 r_1410 o_q_1454 (by decide))).2.2.1.trans n_1416)
  have n_1467 : (sA (sF g_1453 h 62 (.ref q_1404)) q_1454 50 24000).2.2.1 q_1454 = 24000 := sA_n
  have kn_1468 : (sA (sF g_1453 h 62 (.ref q_1404)) q_1454 50 24000).2.1 h 0 = .int 0 := ((congrFun (sA_g h (ne0 r_1405 o_q_1454 (by decide))).2.1 0).trans (sF_k kn_1418 (by decide)))
  have kn_1469 : (sA (sF g_1453 h 62 (.ref q_1404)) q_1454 50 24000).2.1 h 22 = .int 0 := ((congrFun (sA_g h (ne0 r_1405 o_q_1454 (by decide))).2.1 22).trans (sF_k kn_1419 (by decide)))
  have kn_1470 : (sA (sF g_1453 h 62 (.ref q_1404)) q_1454 50 24000).2.1 h 24 = .int 0 := ((congrFun (sA_g h (ne0 r_1405 o_q_1454 (by decide))).2.1 24).trans (sF_k kn_1420 (by decide)))
  have kn_1471 : (sA (sF g_1453 h 62 (.ref q_1404)) q_1454 50 24000).2.1 h 29 = .int 0 := ((congrFun (sA_g h (ne0 r_1405 o_q_1454 (by decide))).2.1 29).trans (sF_k kn_1421 (by decide)))
  have kn_1472 : (sA (sF g_1453 h 62 (.ref q_1404)) q_1454 50 24000).2.1 h 30 = .int 0 := ((congrFun (sA_g h (ne0 r_1405 o_q_1454 (by decide))).2.1 30).trans (sF_k kn_1422 (by decide)))
  have kn_1473 : (sA (sF g_1453 h 62 (.ref q_1404)) q_1454 50 24000).2.1 h 34 = .int 0 := ((congrFun (sA_g h (ne0 r_1405 o_q_1454 (by decide))).2.1 34).trans (sF_k kn_1423 (by decide)))
  have kn_1474 : (sA (sF g_1453 h 62 (.ref q_1404)) q_1454 50 24000).2.1 h 2 = .ref q_12 := ((congrFun (sA_g h (ne0 r_1405 o_q_1454 (by decide))).2.1 2).trans (sF_k kn_1424 (by decide)))
  have kn_1475 : (sA (sF g_1453 h 62 (.ref q_1404)) q_1454 50 24000).2.1 h 3 = .ref q_23 := ((congrFun (sA_g h (ne0 r_1405 o_q_1454 (by decide))).2.1 3).trans (sF_k kn_1425 (by decide)))
  have kn_1476 : (sA (sF g_1453 h 62 (.ref q_1404)) q_1454 50 24000).2.1 h 39 = .ref q_483 := ((congrFun (sA_g h (ne0 r_1405 o_q_1454 (by decide))).2.1 39).trans (sF_k kn_1426 (by decide)))
  have kn_1477 : (sA (sF g_1453 h 62 (.ref q_1404)) q_1454 50 24000).2.1 h 40 = .ref q_500 := ((congrFun (sA_g h (ne0 r_1405 o_q_1454 (by decide))).2.1 40).trans (sF_k kn_1427 (by decide)))
  have kn_1478 : (sA (sF g_1453 h 62 (.ref q_1404)) q_1454 50 24000).2.1 h 42 = .ref q_543 := ((congrFun (sA_g h (ne0 r_1405 o_q_1454 (by decide))).2.1 42).trans (sF_k kn_1428 (by decide)))
  have kn_1479 : (sA (sF g_1453 h 62 (.ref q_1404)) q_1454 50 24000).2.2.2.1 q_543 (0 : Int32).toNatClampNeg = 115 := ((congrFun (sA_g q_543 (ne0 r_1410 o_q_1454 (by decide))).2.2.2.1 _).trans kn_1429)
  have kn_1480 : (sA (sF g_1453 h 62 (.ref q_1404)) q_1454 50 24000).2.2.2.1 q_543 (1 : Int32).toNatClampNeg = 101 := ((congrFun (sA_g q_543 (ne0 r_1410 o_q_1454 (by decide))).2.2.2.1 _).trans kn_1430)
  have kn_1481 : (sA (sF g_1453 h 62 (.ref q_1404)) q_1454 50 24000).2.2.2.1 q_543 (2 : Int32).toNatClampNeg = 116 := ((congrFun (sA_g q_543 (ne0 r_1410 o_q_1454 (by decide))).2.2.2.1 _).trans kn_1431)
  have kn_1482 : (sA (sF g_1453 h 62 (.ref q_1404)) q_1454 50 24000).2.2.2.1 q_543 (3 : Int32).toNatClampNeg = 97 := ((congrFun (sA_g q_543 (ne0 r_1410 o_q_1454 (by decide))).2.2.2.1 _).trans kn_1432)
  have kn_1483 : (sA (sF g_1453 h 62 (.ref q_1404)) q_1454 50 24000).2.2.2.1 q_543 (4 : Int32).toNatClampNeg = 100 := ((congrFun (sA_g q_543 (ne0 r_1410 o_q_1454 (by decide))).2.2.2.1 _).trans kn_1433)
  have kn_1484 : (sA (sF g_1453 h 62 (.ref q_1404)) q_1454 50 24000).2.2.2.1 q_543 (5 : Int32).toNatClampNeg = 100 := ((congrFun (sA_g q_543 (ne0 r_1410 o_q_1454 (by decide))).2.2.2.1 _).trans kn_1434)
  have kn_1485 : (sA (sF g_1453 h 62 (.ref q_1404)) q_1454 50 24000).2.2.2.1 q_543 (6 : Int32).toNatClampNeg = 109 := ((congrFun (sA_g q_543 (ne0 r_1410 o_q_1454 (by decide))).2.2.2.1 _).trans kn_1435)
  have kn_1486 : (sA (sF g_1453 h 62 (.ref q_1404)) q_1454 50 24000).2.2.2.1 q_543 (7 : Int32).toNatClampNeg = 97 := ((congrFun (sA_g q_543 (ne0 r_1410 o_q_1454 (by decide))).2.2.2.1 _).trans kn_1436)
  have kn_1487 : (sA (sF g_1453 h 62 (.ref q_1404)) q_1454 50 24000).2.2.2.1 q_543 (8 : Int32).toNatClampNeg = 120 := ((congrFun (sA_g q_543 (ne0 r_1410 o_q_1454 (by decide))).2.2.2.1 _).trans kn_1437)
  have kn_1488 : (sA (sF g_1453 h 62 (.ref q_1404)) q_1454 50 24000).2.2.2.1 q_543 (9 : Int32).toNatClampNeg = 110 := ((congrFun (sA_g q_543 (ne0 r_1410 o_q_1454 (by decide))).2.2.2.1 _).trans kn_1438)
  have kn_1489 : (sA (sF g_1453 h 62 (.ref q_1404)) q_1454 50 24000).2.2.2.1 q_543 (10 : Int32).toNatClampNeg = 101 := ((congrFun (sA_g q_543 (ne0 r_1410 o_q_1454 (by decide))).2.2.2.1 _).trans kn_1439)
  have kn_1490 : (sA (sF g_1453 h 62 (.ref q_1404)) q_1454 50 24000).2.2.2.1 q_543 (11 : Int32).toNatClampNeg = 119 := ((congrFun (sA_g q_543 (ne0 r_1410 o_q_1454 (by decide))).2.2.2.1 _).trans kn_1440)
  have kn_1491 : (sA (sF g_1453 h 62 (.ref q_1404)) q_1454 50 24000).2.2.2.1 q_543 (12 : Int32).toNatClampNeg = 103 := ((congrFun (sA_g q_543 (ne0 r_1410 o_q_1454 (by decide))).2.2.2.1 _).trans kn_1441)
  have kn_1492 : (sA (sF g_1453 h 62 (.ref q_1404)) q_1454 50 24000).2.2.2.1 q_543 (13 : Int32).toNatClampNeg = 101 := ((congrFun (sA_g q_543 (ne0 r_1410 o_q_1454 (by decide))).2.2.2.1 _).trans kn_1442)
  have kn_1493 : (sA (sF g_1453 h 62 (.ref q_1404)) q_1454 50 24000).2.2.2.1 q_543 (14 : Int32).toNatClampNeg = 116 := ((congrFun (sA_g q_543 (ne0 r_1410 o_q_1454 (by decide))).2.2.2.1 _).trans kn_1443)
  have kn_1494 : (sA (sF g_1453 h 62 (.ref q_1404)) q_1454 50 24000).2.2.2.1 q_543 (15 : Int32).toNatClampNeg = 97 := ((congrFun (sA_g q_543 (ne0 r_1410 o_q_1454 (by decide))).2.2.2.1 _).trans kn_1444)
  have kn_1495 : (sA (sF g_1453 h 62 (.ref q_1404)) q_1454 50 24000).2.2.2.1 q_543 (16 : Int32).toNatClampNeg = 115 := ((congrFun (sA_g q_543 (ne0 r_1410 o_q_1454 (by decide))).2.2.2.1 _).trans kn_1445)
  have kn_1496 : (sA (sF g_1453 h 62 (.ref q_1404)) q_1454 50 24000).2.2.2.1 q_543 (17 : Int32).toNatClampNeg = 107 := ((congrFun (sA_g q_543 (ne0 r_1410 o_q_1454 (by decide))).2.2.2.1 _).trans kn_1446)
  have kn_1497 : (sA (sF g_1453 h 62 (.ref q_1404)) q_1454 50 24000).2.2.2.1 q_543 (18 : Int32).toNatClampNeg = 100 := ((congrFun (sA_g q_543 (ne0 r_1410 o_q_1454 (by decide))).2.2.2.1 _).trans kn_1447)
  have kn_1498 : (sA (sF g_1453 h 62 (.ref q_1404)) q_1454 50 24000).2.2.2.1 q_543 (19 : Int32).toNatClampNeg = 111 := ((congrFun (sA_g q_543 (ne0 r_1410 o_q_1454 (by decide))).2.2.2.1 _).trans kn_1448)
  have kn_1499 : (sA (sF g_1453 h 62 (.ref q_1404)) q_1454 50 24000).2.2.2.1 q_543 (20 : Int32).toNatClampNeg = 0 := ((congrFun (sA_g q_543 (ne0 r_1410 o_q_1454 (by decide))).2.2.2.1 _).trans kn_1449)
  have kn_1500 : (sA (sF g_1453 h 62 (.ref q_1404)) q_1454 50 24000).2.2.2.1 q_543 (21 : Int32).toNatClampNeg = 105 := ((congrFun (sA_g q_543 (ne0 r_1410 o_q_1454 (by decide))).2.2.2.1 _).trans kn_1450)
  have kn_1501 : (sA (sF g_1453 h 62 (.ref q_1404)) q_1454 50 24000).2.2.2.1 q_543 (22 : Int32).toNatClampNeg = 102 := ((congrFun (sA_g q_543 (ne0 r_1410 o_q_1454 (by decide))).2.2.2.1 _).trans kn_1451)
  have kn_1502 : (sA (sF g_1453 h 62 (.ref q_1404)) q_1454 50 24000).2.2.2.1 q_543 (23 : Int32).toNatClampNeg = 0 := ((congrFun (sA_g q_543 (ne0 r_1410 o_q_1454 (by decide))).2.2.2.1 _).trans kn_1452)
  generalize (sA (sF g_1453 h 62 (.ref q_1404)) q_1454 50 24000) = g_1503 at hT hI hM hE r_1455 r_1456 r_1457 r_1458 r_1459 r_1460 r_1461 n_1462 n_1463 n_1464 n_1465 n_1466 n_1467 kn_1468 kn_1469 kn_1470 kn_1471 kn_1472 kn_1473 kn_1474 kn_1475 kn_1476 kn_1477 kn_1478 kn_1479 kn_1480 kn_1481 kn_1482 kn_1483 kn_1484 kn_1485 kn_1486 kn_1487 kn_1488 kn_1489 kn_1490 kn_1491 kn_1492 kn_1493 kn_1494 kn_1495 kn_1496 kn_1497 kn_1498 kn_1499 kn_1500 kn_1501 kn_1502 hP zP zN
  clear kn_1418 kn_1419 kn_1420 kn_1421 kn_1422 kn_1423 kn_1424 kn_1425 kn_1426 kn_1427 kn_1428 kn_1429 kn_1430 kn_1431 kn_1432 kn_1433 kn_1434 kn_1435 kn_1436 kn_1437 kn_1438 kn_1439 kn_1440 kn_1441 kn_1442 kn_1443 kn_1444 kn_1445 kn_1446 kn_1447 kn_1448 kn_1449 kn_1450 kn_1451 kn_1452 n_1412 n_1413 n_1414 n_1415 n_1416 r_1405 r_1406 r_1407 r_1408 r_1409 r_1410
  refine W.widen (k := 49) (n := 28849) (Nat.le_of_ble_eq_true rfl) (Nat.le_of_ble_eq_true rfl) ?_
  refine t_put0 (ci := 7) (v := .ref q_1454) hB hT (ro_ci r_1455 rfl) (ro_n0 r_1455 (by decide)) rfl 63 (by decide) k_808 (Or.inr ⟨hin, rfl⟩) rfl rfl dX7_init_550 (fun H locs hT => ?_)
  replace hI : Inv (sF g_1503 h 63 (.ref q_1454)) := hI.sF (fk r_1455 (show fsm _ _ ft from trivial))
  replace hM : Sm md_k_Model g (sF g_1503 h 63 (.ref q_1454)) := hM.tr hE (Sm_sF (by rw [r_1455]; rfl))
  replace hE : Ex g (sF g_1503 h 63 (.ref q_1454)) := hE
  replace hP : PF [63, 62, 61, 59, 58, 57, 56, 55, 54, 53, 48, 47, 46, 45, 44, 43, 42, 41, 40, 39, 35, 33, 32, 31, 28, 27, 26, 25, 23, 20, 19, 18, 17, 16, 15, 14, 13, 12, 11, 10, 9, 8, 7, 6, 5, 4, 3, 2, 1, 60, 52, 51, 50, 49, 38, 37, 36, 34, 30, 29, 24, 22, 21, 0] (sF g_1503 h 63 (.ref q_1454)) h := hP.put (q_8_63 (⟨_, rfl, r_1461, n_1467⟩))
  have zP : ZC (sF g_1503 h 63 (.ref q_1454)) q_23 := zP
  have zN : ZC (sF g_1503 h 63 (.ref q_1454)) q_500 := zN
  refine lv_aload_n hx hb dX7_init_553 rfl (lv_at hl 0 rfl) ?_
  refine lv_sipush (v := 1000) hx hb dX7_init_554 (by decide) ?_
  refine t_newi (N' := 1000) hB hT 50 (by decide) k_101 (by decide) (by decide) (by decide) (Nat.le_of_ble_eq_true rfl) (Nat.le_of_ble_eq_true rfl) dX7_init_557 (fun q_1504 H o_q_1504 hT => ?_)
  have z_q_1504 : g.1 q_1504 = 0 := hE.z0 o_q_1504
  replace hI : Inv (sA (sF g_1503 h 63 (.ref q_1454)) q_1504 50 1000) := hI.newi o_q_1504 (by decide) (fun _ => rfl) trivial (fun _ => trivial)
  replace hM : Sm md_k_Model g (sA (sF g_1503 h 63 (.ref q_1454)) q_1504 50 1000) := hM.tr hE (Sm.push o_q_1504 sA_g)
  replace hE : Ex g (sA (sF g_1503 h 63 (.ref q_1454)) q_1504 50 1000) := hE.tr (Ex.push o_q_1504 sA_g)
  replace hP : PF [63, 62, 61, 59, 58, 57, 56, 55, 54, 53, 48, 47, 46, 45, 44, 43, 42, 41, 40, 39, 35, 33, 32, 31, 28, 27, 26, 25, 23, 20, 19, 18, 17, 16, 15, 14, 13, 12, 11, 10, 9, 8, 7, 6, 5, 4, 3, 2, 1, 60, 52, 51, 50, 49, 38, 37, 36, 34, 30, 29, 24, 22, 21, 0] (sA (sF g_1503 h 63 (.ref q_1454)) q_1504 50 1000) h := hP.pu (Ex.push o_q_1504 sA_g) (sA_g h (ne0 r_1455 o_q_1504 (by decide))).2.1
  have zP : ZC (sA (sF g_1503 h 63 (.ref q_1454)) q_1504 50 1000) q_23 := zP.pu (sA_g q_23 (ne0 r_1457 o_q_1504 (by decide))).2.2.2.1
  have zN : ZC (sA (sF g_1503 h 63 (.ref q_1454)) q_1504 50 1000) q_500 := zN.pu (sA_g q_500 (ne0 r_1459 o_q_1504 (by decide))).2.2.2.1
  have r_1505 : (sA (sF g_1503 h 63 (.ref q_1454)) q_1504 50 1000).1 h = 18 := ((sA_g h (ne0 r_1455 o_q_1504 (by decide))).1.trans r_1455)
  have r_1506 : (sA (sF g_1503 h 63 (.ref q_1454)) q_1504 50 1000).1 q_12 = 71 := ((sA_g q_12 (ne0 r_1456 o_q_1504 (by decide))).1.trans r_1456)
  have r_1507 : (sA (sF g_1503 h 63 (.ref q_1454)) q_1504 50 1000).1 q_23 = 72 := ((sA_g q_23 (ne0 r_1457 o_q_1504 (by decide))).1.trans r_1457)
  have r_1508 : (sA (sF g_1503 h 63 (.ref q_1454)) q_1504 50 1000).1 q_483 = 84 := ((sA_g q_483 (ne0 r_1458 o_q_1504 (by decide))).1.trans r_1458)
  have r_1509 : (sA (sF g_1503 h 63 (.ref q_1454)) q_1504 50 1000).1 q_500 = 85 := ((sA_g q_500 (ne0 r_1459 o_q_1504 (by decide))).1.trans r_1459)
  have r_1510 : (sA (sF g_1503 h 63 (.ref q_1454)) q_1504 50 1000).1 q_543 = 87 := ((sA_g q_543 (ne0 r_1460 o_q_1504 (by decide))).1.trans r_1460)
  have r_1511 : (sA (sF g_1503 h 63 (.ref q_1454)) q_1504 50 1000).1 q_1504 = 50 := sA_r
  have n_1512 : (sA (sF g_1503 h 63 (.ref q_1454)) q_1504 50 1000).2.2.1 q_12 = 48 := ((sA_g q_12 (ne0 r_1456 o_q_1504 (by decide))).2.2.1.trans n_1462)
  have n_1513 : (sA (sF g_1503 h 63 (.ref q_1454)) q_1504 50 1000).2.2.1 q_23 = 48 := ((sA_g q_23 (ne0 r_1457 o_q_1504 (by decide))).2.2.1.trans n_1463)
  have n_1514 : (sA (sF g_1503 h 63 (.ref q_1454)) q_1504 50 1000).2.2.1 q_483 = 8 := ((sA_g q_483 (ne0 r_1458 o_q_1504 (by decide))).2.2.1.trans n_1464)
  have n_1515 : (sA (sF g_1503 h 63 (.ref q_1454)) q_1504 50 1000).2.2.1 q_500 = 8 := ((sA_g q_500 (ne0 r_1459 o_q_1504 (by decide))).2.2.1.trans n_1465)
  have n_1516 : (sA (sF g_1503 h 63 (.ref q_1454)) q_1504 50 1000).2.2.1 q_543 = 24 := ((sA_g q_543 (ne0 r_1460 o_q_1504 (by decide))).2.2.1.trans n_1466)
  have n_1517 : (sA (sF g_1503 h 63 (.ref q_1454)) q_1504 50 1000).2.2.1 q_1504 = 1000 := sA_n
  have kn_1518 : (sA (sF g_1503 h 63 (.ref q_1454)) q_1504 50 1000).2.1 h 0 = .int 0 := ((congrFun (sA_g h (ne0 r_1455 o_q_1504 (by decide))).2.1 0).trans (sF_k kn_1468 (by decide)))
  have kn_1519 : (sA (sF g_1503 h 63 (.ref q_1454)) q_1504 50 1000).2.1 h 22 = .int 0 := ((congrFun (sA_g h (ne0 r_1455 o_q_1504 (by decide))).2.1 22).trans (sF_k kn_1469 (by decide)))
  have kn_1520 : (sA (sF g_1503 h 63 (.ref q_1454)) q_1504 50 1000).2.1 h 24 = .int 0 := ((congrFun (sA_g h (ne0 r_1455 o_q_1504 (by decide))).2.1 24).trans (sF_k kn_1470 (by decide)))
  have kn_1521 : (sA (sF g_1503 h 63 (.ref q_1454)) q_1504 50 1000).2.1 h 29 = .int 0 := ((congrFun (sA_g h (ne0 r_1455 o_q_1504 (by decide))).2.1 29).trans (sF_k kn_1471 (by decide)))
  have kn_1522 : (sA (sF g_1503 h 63 (.ref q_1454)) q_1504 50 1000).2.1 h 30 = .int 0 := ((congrFun (sA_g h (ne0 r_1455 o_q_1504 (by decide))).2.1 30).trans (sF_k kn_1472 (by decide)))
  have kn_1523 : (sA (sF g_1503 h 63 (.ref q_1454)) q_1504 50 1000).2.1 h 34 = .int 0 := ((congrFun (sA_g h (ne0 r_1455 o_q_1504 (by decide))).2.1 34).trans (sF_k kn_1473 (by decide)))
  have kn_1524 : (sA (sF g_1503 h 63 (.ref q_1454)) q_1504 50 1000).2.1 h 2 = .ref q_12 := ((congrFun (sA_g h (ne0 r_1455 o_q_1504 (by decide))).2.1 2).trans (sF_k kn_1474 (by decide)))
  have kn_1525 : (sA (sF g_1503 h 63 (.ref q_1454)) q_1504 50 1000).2.1 h 3 = .ref q_23 := ((congrFun (sA_g h (ne0 r_1455 o_q_1504 (by decide))).2.1 3).trans (sF_k kn_1475 (by decide)))
  have kn_1526 : (sA (sF g_1503 h 63 (.ref q_1454)) q_1504 50 1000).2.1 h 39 = .ref q_483 := ((congrFun (sA_g h (ne0 r_1455 o_q_1504 (by decide))).2.1 39).trans (sF_k kn_1476 (by decide)))
  have kn_1527 : (sA (sF g_1503 h 63 (.ref q_1454)) q_1504 50 1000).2.1 h 40 = .ref q_500 := ((congrFun (sA_g h (ne0 r_1455 o_q_1504 (by decide))).2.1 40).trans (sF_k kn_1477 (by decide)))
  have kn_1528 : (sA (sF g_1503 h 63 (.ref q_1454)) q_1504 50 1000).2.1 h 42 = .ref q_543 := ((congrFun (sA_g h (ne0 r_1455 o_q_1504 (by decide))).2.1 42).trans (sF_k kn_1478 (by decide)))
  have kn_1529 : (sA (sF g_1503 h 63 (.ref q_1454)) q_1504 50 1000).2.2.2.1 q_543 (0 : Int32).toNatClampNeg = 115 := ((congrFun (sA_g q_543 (ne0 r_1460 o_q_1504 (by decide))).2.2.2.1 _).trans kn_1479)
  have kn_1530 : (sA (sF g_1503 h 63 (.ref q_1454)) q_1504 50 1000).2.2.2.1 q_543 (1 : Int32).toNatClampNeg = 101 := ((congrFun (sA_g q_543 (ne0 r_1460 o_q_1504 (by decide))).2.2.2.1 _).trans kn_1480)
  have kn_1531 : (sA (sF g_1503 h 63 (.ref q_1454)) q_1504 50 1000).2.2.2.1 q_543 (2 : Int32).toNatClampNeg = 116 := ((congrFun (sA_g q_543 (ne0 r_1460 o_q_1504 (by decide))).2.2.2.1 _).trans kn_1481)
  have kn_1532 : (sA (sF g_1503 h 63 (.ref q_1454)) q_1504 50 1000).2.2.2.1 q_543 (3 : Int32).toNatClampNeg = 97 := ((congrFun (sA_g q_543 (ne0 r_1460 o_q_1504 (by decide))).2.2.2.1 _).trans kn_1482)
  have kn_1533 : (sA (sF g_1503 h 63 (.ref q_1454)) q_1504 50 1000).2.2.2.1 q_543 (4 : Int32).toNatClampNeg = 100 := ((congrFun (sA_g q_543 (ne0 r_1460 o_q_1504 (by decide))).2.2.2.1 _).trans kn_1483)
  have kn_1534 : (sA (sF g_1503 h 63 (.ref q_1454)) q_1504 50 1000).2.2.2.1 q_543 (5 : Int32).toNatClampNeg = 100 := ((congrFun (sA_g q_543 (ne0 r_1460 o_q_1504 (by decide))).2.2.2.1 _).trans kn_1484)
  have kn_1535 : (sA (sF g_1503 h 63 (.ref q_1454)) q_1504 50 1000).2.2.2.1 q_543 (6 : Int32).toNatClampNeg = 109 := ((congrFun (sA_g q_543 (ne0 r_1460 o_q_1504 (by decide))).2.2.2.1 _).trans kn_1485)
  have kn_1536 : (sA (sF g_1503 h 63 (.ref q_1454)) q_1504 50 1000).2.2.2.1 q_543 (7 : Int32).toNatClampNeg = 97 := ((congrFun (sA_g q_543 (ne0 r_1460 o_q_1504 (by decide))).2.2.2.1 _).trans kn_1486)
  have kn_1537 : (sA (sF g_1503 h 63 (.ref q_1454)) q_1504 50 1000).2.2.2.1 q_543 (8 : Int32).toNatClampNeg = 120 := ((congrFun (sA_g q_543 (ne0 r_1460 o_q_1504 (by decide))).2.2.2.1 _).trans kn_1487)
  have kn_1538 : (sA (sF g_1503 h 63 (.ref q_1454)) q_1504 50 1000).2.2.2.1 q_543 (9 : Int32).toNatClampNeg = 110 := ((congrFun (sA_g q_543 (ne0 r_1460 o_q_1504 (by decide))).2.2.2.1 _).trans kn_1488)
  have kn_1539 : (sA (sF g_1503 h 63 (.ref q_1454)) q_1504 50 1000).2.2.2.1 q_543 (10 : Int32).toNatClampNeg = 101 := ((congrFun (sA_g q_543 (ne0 r_1460 o_q_1504 (by decide))).2.2.2.1 _).trans kn_1489)
  have kn_1540 : (sA (sF g_1503 h 63 (.ref q_1454)) q_1504 50 1000).2.2.2.1 q_543 (11 : Int32).toNatClampNeg = 119 := ((congrFun (sA_g q_543 (ne0 r_1460 o_q_1504 (by decide))).2.2.2.1 _).trans kn_1490)
  have kn_1541 : (sA (sF g_1503 h 63 (.ref q_1454)) q_1504 50 1000).2.2.2.1 q_543 (12 : Int32).toNatClampNeg = 103 := ((congrFun (sA_g q_543 (ne0 r_1460 o_q_1504 (by decide))).2.2.2.1 _).trans kn_1491)
  have kn_1542 : (sA (sF g_1503 h 63 (.ref q_1454)) q_1504 50 1000).2.2.2.1 q_543 (13 : Int32).toNatClampNeg = 101 := ((congrFun (sA_g q_543 (ne0 r_1460 o_q_1504 (by decide))).2.2.2.1 _).trans kn_1492)
  have kn_1543 : (sA (sF g_1503 h 63 (.ref q_1454)) q_1504 50 1000).2.2.2.1 q_543 (14 : Int32).toNatClampNeg = 116 := ((congrFun (sA_g q_543 (ne0 r_1460 o_q_1504 (by decide))).2.2.2.1 _).trans kn_1493)
  have kn_1544 : (sA (sF g_1503 h 63 (.ref q_1454)) q_1504 50 1000).2.2.2.1 q_543 (15 : Int32).toNatClampNeg = 97 := ((congrFun (sA_g q_543 (ne0 r_1460 o_q_1504 (by decide))).2.2.2.1 _).trans kn_1494)
  have kn_1545 : (sA (sF g_1503 h 63 (.ref q_1454)) q_1504 50 1000).2.2.2.1 q_543 (16 : Int32).toNatClampNeg = 115 := ((congrFun (sA_g q_543 (ne0 r_1460 o_q_1504 (by decide))).2.2.2.1 _).trans kn_1495)
  have kn_1546 : (sA (sF g_1503 h 63 (.ref q_1454)) q_1504 50 1000).2.2.2.1 q_543 (17 : Int32).toNatClampNeg = 107 := ((congrFun (sA_g q_543 (ne0 r_1460 o_q_1504 (by decide))).2.2.2.1 _).trans kn_1496)
  have kn_1547 : (sA (sF g_1503 h 63 (.ref q_1454)) q_1504 50 1000).2.2.2.1 q_543 (18 : Int32).toNatClampNeg = 100 := ((congrFun (sA_g q_543 (ne0 r_1460 o_q_1504 (by decide))).2.2.2.1 _).trans kn_1497)
  have kn_1548 : (sA (sF g_1503 h 63 (.ref q_1454)) q_1504 50 1000).2.2.2.1 q_543 (19 : Int32).toNatClampNeg = 111 := ((congrFun (sA_g q_543 (ne0 r_1460 o_q_1504 (by decide))).2.2.2.1 _).trans kn_1498)
  have kn_1549 : (sA (sF g_1503 h 63 (.ref q_1454)) q_1504 50 1000).2.2.2.1 q_543 (20 : Int32).toNatClampNeg = 0 := ((congrFun (sA_g q_543 (ne0 r_1460 o_q_1504 (by decide))).2.2.2.1 _).trans kn_1499)
  have kn_1550 : (sA (sF g_1503 h 63 (.ref q_1454)) q_1504 50 1000).2.2.2.1 q_543 (21 : Int32).toNatClampNeg = 105 := ((congrFun (sA_g q_543 (ne0 r_1460 o_q_1504 (by decide))).2.2.2.1 _).trans kn_1500)
  have kn_1551 : (sA (sF g_1503 h 63 (.ref q_1454)) q_1504 50 1000).2.2.2.1 q_543 (22 : Int32).toNatClampNeg = 102 := ((congrFun (sA_g q_543 (ne0 r_1460 o_q_1504 (by decide))).2.2.2.1 _).trans kn_1501)
  have kn_1552 : (sA (sF g_1503 h 63 (.ref q_1454)) q_1504 50 1000).2.2.2.1 q_543 (23 : Int32).toNatClampNeg = 0 := ((congrFun (sA_g q_543 (ne0 r_1460 o_q_1504 (by decide))).2.2.2.1 _).trans kn_1502)
  generalize (sA (sF g_1503 h 63 (.ref q_1454)) q_1504 50 1000) = g_1553 at hT hI hM hE r_1505 r_1506 r_1507 r_1508 r_1509 r_1510 r_1511 n_1512 n_1513 n_1514 n_1515 n_1516 n_1517 kn_1518 kn_1519 kn_1520 kn_1521 kn_1522 kn_1523 kn_1524 kn_1525 kn_1526 kn_1527 kn_1528 kn_1529 kn_1530 kn_1531 kn_1532 kn_1533 kn_1534 kn_1535 kn_1536 kn_1537 kn_1538 kn_1539 kn_1540 kn_1541 kn_1542 kn_1543 kn_1544 kn_1545 kn_1546 kn_1547 kn_1548 kn_1549 kn_1550 kn_1551 kn_1552 hP zP zN
  clear kn_1468 kn_1469 kn_1470 kn_1471 kn_1472 kn_1473 kn_1474 kn_1475 kn_1476 kn_1477 kn_1478 kn_1479 kn_1480 kn_1481 kn_1482 kn_1483 kn_1484 kn_1485 kn_1486 kn_1487 kn_1488 kn_1489 kn_1490 kn_1491 kn_1492 kn_1493 kn_1494 kn_1495 kn_1496 kn_1497 kn_1498 kn_1499 kn_1500 kn_1501 kn_1502 n_1462 n_1463 n_1464 n_1465 n_1466 r_1455 r_1456 r_1457 r_1458 r_1459 r_1460
  refine W.widen (k := 50) (n := 29849) (Nat.le_of_ble_eq_true rfl) (Nat.le_of_ble_eq_true rfl) ?_
  refine t_put0 (ci := 7) (v := .ref q_1504) hB hT (ro_ci r_1505 rfl) (ro_n0 r_1505 (by decide)) rfl 64 (by decide) k_809 (Or.inr ⟨hin, rfl⟩) rfl rfl dX7_init_559 (fun H locs hT => ?_)
  replace hI : Inv (sF g_1553 h 64 (.ref q_1504)) := hI.sF (fk r_1505 (show fsm _ _ ft from trivial))
  replace hM : Sm md_k_Model g (sF g_1553 h 64 (.ref q_1504)) := hM.tr hE (Sm_sF (by rw [r_1505]; rfl))
  replace hE : Ex g (sF g_1553 h 64 (.ref q_1504)) := hE
  replace hP : PF [64, 63, 62, 61, 59, 58, 57, 56, 55, 54, 53, 48, 47, 46, 45, 44, 43, 42, 41, 40, 39, 35, 33, 32, 31, 28, 27, 26, 25, 23, 20, 19, 18, 17, 16, 15, 14, 13, 12, 11, 10, 9, 8, 7, 6, 5, 4, 3, 2, 1, 60, 52, 51, 50, 49, 38, 37, 36, 34, 30, 29, 24, 22, 21, 0] (sF g_1553 h 64 (.ref q_1504)) h := hP.put (q_8_64 (⟨_, rfl, r_1511, n_1517⟩))
  have zP : ZC (sF g_1553 h 64 (.ref q_1504)) q_23 := zP
  have zN : ZC (sF g_1553 h 64 (.ref q_1504)) q_500 := zN
  refine lv_aload_n hx hb dX7_init_562 rfl (lv_at hl 0 rfl) ?_
  refine lv_bipush (v := 6) hx hb dX7_init_563 (by decide) ?_
  refine t_newi (N' := 6) hB hT 50 (by decide) k_101 (by decide) (by decide) (by decide) (Nat.le_of_ble_eq_true rfl) (Nat.le_of_ble_eq_true rfl) dX7_init_565 (fun q_1554 H o_q_1554 hT => ?_)
  have z_q_1554 : g.1 q_1554 = 0 := hE.z0 o_q_1554
  replace hI : Inv (sA (sF g_1553 h 64 (.ref q_1504)) q_1554 50 6) := hI.newi o_q_1554 (by decide) (fun _ => rfl) trivial (fun _ => trivial)
  replace hM : Sm md_k_Model g (sA (sF g_1553 h 64 (.ref q_1504)) q_1554 50 6) := hM.tr hE (Sm.push o_q_1554 sA_g)
  replace hE : Ex g (sA (sF g_1553 h 64 (.ref q_1504)) q_1554 50 6) := hE.tr (Ex.push o_q_1554 sA_g)
  replace hP : PF [64, 63, 62, 61, 59, 58, 57, 56, 55, 54, 53, 48, 47, 46, 45, 44, 43, 42, 41, 40, 39, 35, 33, 32, 31, 28, 27, 26, 25, 23, 20, 19, 18, 17, 16, 15, 14, 13, 12, 11, 10, 9, 8, 7, 6, 5, 4, 3, 2, 1, 60, 52, 51, 50, 49, 38, 37, 36, 34, 30, 29, 24, 22, 21, 0] (sA (sF g_1553 h 64 (.ref q_1504)) q_1554 50 6) h := hP.pu (Ex.push o_q_1554 sA_g) (sA_g h (ne0 r_1505 o_q_1554 (by decide))).2.1
  have zP : ZC (sA (sF g_1553 h 64 (.ref q_1504)) q_1554 50 6) q_23 := zP.pu (sA_g q_23 (ne0 r_1507 o_q_1554 (by decide))).2.2.2.1
  have zN : ZC (sA (sF g_1553 h 64 (.ref q_1504)) q_1554 50 6) q_500 := zN.pu (sA_g q_500 (ne0 r_1509 o_q_1554 (by decide))).2.2.2.1
  have r_1555 : (sA (sF g_1553 h 64 (.ref q_1504)) q_1554 50 6).1 h = 18 := ((sA_g h (ne0 r_1505 o_q_1554 (by decide))).1.trans r_1505)
  have r_1556 : (sA (sF g_1553 h 64 (.ref q_1504)) q_1554 50 6).1 q_12 = 71 := ((sA_g q_12 (ne0 r_1506 o_q_1554 (by decide))).1.trans r_1506)
  have r_1557 : (sA (sF g_1553 h 64 (.ref q_1504)) q_1554 50 6).1 q_23 = 72 := ((sA_g q_23 (ne0 r_1507 o_q_1554 (by decide))).1.trans r_1507)
  have r_1558 : (sA (sF g_1553 h 64 (.ref q_1504)) q_1554 50 6).1 q_483 = 84 := ((sA_g q_483 (ne0 r_1508 o_q_1554 (by decide))).1.trans r_1508)
  have r_1559 : (sA (sF g_1553 h 64 (.ref q_1504)) q_1554 50 6).1 q_500 = 85 := ((sA_g q_500 (ne0 r_1509 o_q_1554 (by decide))).1.trans r_1509)
  have r_1560 : (sA (sF g_1553 h 64 (.ref q_1504)) q_1554 50 6).1 q_543 = 87 := ((sA_g q_543 (ne0 r_1510 o_q_1554 (by decide))).1.trans r_1510)
  have r_1561 : (sA (sF g_1553 h 64 (.ref q_1504)) q_1554 50 6).1 q_1554 = 50 := sA_r
  have n_1562 : (sA (sF g_1553 h 64 (.ref q_1504)) q_1554 50 6).2.2.1 q_12 = 48 := ((sA_g q_12 (ne0 r_1506 o_q_1554 (by decide))).2.2.1.trans n_1512)
  have n_1563 : (sA (sF g_1553 h 64 (.ref q_1504)) q_1554 50 6).2.2.1 q_23 = 48 := ((sA_g q_23 (ne0 r_1507 o_q_1554 (by decide))).2.2.1.trans n_1513)
  have n_1564 : (sA (sF g_1553 h 64 (.ref q_1504)) q_1554 50 6).2.2.1 q_483 = 8 := ((sA_g q_483 (ne0 r_1508 o_q_1554 (by decide))).2.2.1.trans n_1514)
  have n_1565 : (sA (sF g_1553 h 64 (.ref q_1504)) q_1554 50 6).2.2.1 q_500 = 8 := ((sA_g q_500 (ne0 r_1509 o_q_1554 (by decide))).2.2.1.trans n_1515)
  have n_1566 : (sA (sF g_1553 h 64 (.ref q_1504)) q_1554 50 6).2.2.1 q_543 = 24 := ((sA_g q_543 (ne0 r_1510 o_q_1554 (by decide))).2.2.1.trans n_1516)
  have n_1567 : (sA (sF g_1553 h 64 (.ref q_1504)) q_1554 50 6).2.2.1 q_1554 = 6 := sA_n
  have kn_1568 : (sA (sF g_1553 h 64 (.ref q_1504)) q_1554 50 6).2.1 h 0 = .int 0 := ((congrFun (sA_g h (ne0 r_1505 o_q_1554 (by decide))).2.1 0).trans (sF_k kn_1518 (by decide)))
  have kn_1569 : (sA (sF g_1553 h 64 (.ref q_1504)) q_1554 50 6).2.1 h 22 = .int 0 := ((congrFun (sA_g h (ne0 r_1505 o_q_1554 (by decide))).2.1 22).trans (sF_k kn_1519 (by decide)))
  have kn_1570 : (sA (sF g_1553 h 64 (.ref q_1504)) q_1554 50 6).2.1 h 24 = .int 0 := ((congrFun (sA_g h (ne0 r_1505 o_q_1554 (by decide))).2.1 24).trans (sF_k kn_1520 (by decide)))
  have kn_1571 : (sA (sF g_1553 h 64 (.ref q_1504)) q_1554 50 6).2.1 h 29 = .int 0 := ((congrFun (sA_g h (ne0 r_1505 o_q_1554 (by decide))).2.1 29).trans (sF_k kn_1521 (by decide)))
  have kn_1572 : (sA (sF g_1553 h 64 (.ref q_1504)) q_1554 50 6).2.1 h 30 = .int 0 := ((congrFun (sA_g h (ne0 r_1505 o_q_1554 (by decide))).2.1 30).trans (sF_k kn_1522 (by decide)))
  have kn_1573 : (sA (sF g_1553 h 64 (.ref q_1504)) q_1554 50 6).2.1 h 34 = .int 0 := ((congrFun (sA_g h (ne0 r_1505 o_q_1554 (by decide))).2.1 34).trans (sF_k kn_1523 (by decide)))
  have kn_1574 : (sA (sF g_1553 h 64 (.ref q_1504)) q_1554 50 6).2.1 h 2 = .ref q_12 := ((congrFun (sA_g h (ne0 r_1505 o_q_1554 (by decide))).2.1 2).trans (sF_k kn_1524 (by decide)))
  have kn_1575 : (sA (sF g_1553 h 64 (.ref q_1504)) q_1554 50 6).2.1 h 3 = .ref q_23 := ((congrFun (sA_g h (ne0 r_1505 o_q_1554 (by decide))).2.1 3).trans (sF_k kn_1525 (by decide)))
  have kn_1576 : (sA (sF g_1553 h 64 (.ref q_1504)) q_1554 50 6).2.1 h 39 = .ref q_483 := ((congrFun (sA_g h (ne0 r_1505 o_q_1554 (by decide))).2.1 39).trans (sF_k kn_1526 (by decide)))
  have kn_1577 : (sA (sF g_1553 h 64 (.ref q_1504)) q_1554 50 6).2.1 h 40 = .ref q_500 := ((congrFun (sA_g h (ne0 r_1505 o_q_1554 (by decide))).2.1 40).trans (sF_k kn_1527 (by decide)))
  have kn_1578 : (sA (sF g_1553 h 64 (.ref q_1504)) q_1554 50 6).2.1 h 42 = .ref q_543 := ((congrFun (sA_g h (ne0 r_1505 o_q_1554 (by decide))).2.1 42).trans (sF_k kn_1528 (by decide)))
  have kn_1579 : (sA (sF g_1553 h 64 (.ref q_1504)) q_1554 50 6).2.2.2.1 q_543 (0 : Int32).toNatClampNeg = 115 := ((congrFun (sA_g q_543 (ne0 r_1510 o_q_1554 (by decide))).2.2.2.1 _).trans kn_1529)
  have kn_1580 : (sA (sF g_1553 h 64 (.ref q_1504)) q_1554 50 6).2.2.2.1 q_543 (1 : Int32).toNatClampNeg = 101 := ((congrFun (sA_g q_543 (ne0 r_1510 o_q_1554 (by decide))).2.2.2.1 _).trans kn_1530)
  have kn_1581 : (sA (sF g_1553 h 64 (.ref q_1504)) q_1554 50 6).2.2.2.1 q_543 (2 : Int32).toNatClampNeg = 116 := ((congrFun (sA_g q_543 (ne0 r_1510 o_q_1554 (by decide))).2.2.2.1 _).trans kn_1531)
  have kn_1582 : (sA (sF g_1553 h 64 (.ref q_1504)) q_1554 50 6).2.2.2.1 q_543 (3 : Int32).toNatClampNeg = 97 := ((congrFun (sA_g q_543 (ne0 r_1510 o_q_1554 (by decide))).2.2.2.1 _).trans kn_1532)
  have kn_1583 : (sA (sF g_1553 h 64 (.ref q_1504)) q_1554 50 6).2.2.2.1 q_543 (4 : Int32).toNatClampNeg = 100 := ((congrFun (sA_g q_543 (ne0 r_1510 o_q_1554 (by decide))).2.2.2.1 _).trans kn_1533)
  have kn_1584 : (sA (sF g_1553 h 64 (.ref q_1504)) q_1554 50 6).2.2.2.1 q_543 (5 : Int32).toNatClampNeg = 100 := ((congrFun (sA_g q_543 (ne0 r_1510 o_q_1554 (by decide))).2.2.2.1 _).trans kn_1534)
  have kn_1585 : (sA (sF g_1553 h 64 (.ref q_1504)) q_1554 50 6).2.2.2.1 q_543 (6 : Int32).toNatClampNeg = 109 := ((congrFun (sA_g q_543 (ne0 r_1510 o_q_1554 (by decide))).2.2.2.1 _).trans kn_1535)
  have kn_1586 : (sA (sF g_1553 h 64 (.ref q_1504)) q_1554 50 6).2.2.2.1 q_543 (7 : Int32).toNatClampNeg = 97 := ((congrFun (sA_g q_543 (ne0 r_1510 o_q_1554 (by decide))).2.2.2.1 _).trans kn_1536)
  have kn_1587 : (sA (sF g_1553 h 64 (.ref q_1504)) q_1554 50 6).2.2.2.1 q_543 (8 : Int32).toNatClampNeg = 120 := ((congrFun (sA_g q_543 (ne0 r_1510 o_q_1554 (by decide))).2.2.2.1 _).trans kn_1537)
  have kn_1588 : (sA (sF g_1553 h 64 (.ref q_1504)) q_1554 50 6).2.2.2.1 q_543 (9 : Int32).toNatClampNeg = 110 := ((congrFun (sA_g q_543 (ne0 r_1510 o_q_1554 (by decide))).2.2.2.1 _).trans kn_1538)
  have kn_1589 : (sA (sF g_1553 h 64 (.ref q_1504)) q_1554 50 6).2.2.2.1 q_543 (10 : Int32).toNatClampNeg = 101 := ((congrFun (sA_g q_543 (ne0 r_1510 o_q_1554 (by decide))).2.2.2.1 _).trans kn_1539)
  have kn_1590 : (sA (sF g_1553 h 64 (.ref q_1504)) q_1554 50 6).2.2.2.1 q_543 (11 : Int32).toNatClampNeg = 119 := ((congrFun (sA_g q_543 (ne0 r_1510 o_q_1554 (by decide))).2.2.2.1 _).trans kn_1540)
  have kn_1591 : (sA (sF g_1553 h 64 (.ref q_1504)) q_1554 50 6).2.2.2.1 q_543 (12 : Int32).toNatClampNeg = 103 := ((congrFun (sA_g q_543 (ne0 r_1510 o_q_1554 (by decide))).2.2.2.1 _).trans kn_1541)
  have kn_1592 : (sA (sF g_1553 h 64 (.ref q_1504)) q_1554 50 6).2.2.2.1 q_543 (13 : Int32).toNatClampNeg = 101 := ((congrFun (sA_g q_543 (ne0 r_1510 o_q_1554 (by decide))).2.2.2.1 _).trans kn_1542)
  have kn_1593 : (sA (sF g_1553 h 64 (.ref q_1504)) q_1554 50 6).2.2.2.1 q_543 (14 : Int32).toNatClampNeg = 116 := ((congrFun (sA_g q_543 (ne0 r_1510 o_q_1554 (by decide))).2.2.2.1 _).trans kn_1543)
  have kn_1594 : (sA (sF g_1553 h 64 (.ref q_1504)) q_1554 50 6).2.2.2.1 q_543 (15 : Int32).toNatClampNeg = 97 := ((congrFun (sA_g q_543 (ne0 r_1510 o_q_1554 (by decide))).2.2.2.1 _).trans kn_1544)
  have kn_1595 : (sA (sF g_1553 h 64 (.ref q_1504)) q_1554 50 6).2.2.2.1 q_543 (16 : Int32).toNatClampNeg = 115 := ((congrFun (sA_g q_543 (ne0 r_1510 o_q_1554 (by decide))).2.2.2.1 _).trans kn_1545)
  have kn_1596 : (sA (sF g_1553 h 64 (.ref q_1504)) q_1554 50 6).2.2.2.1 q_543 (17 : Int32).toNatClampNeg = 107 := ((congrFun (sA_g q_543 (ne0 r_1510 o_q_1554 (by decide))).2.2.2.1 _).trans kn_1546)
  have kn_1597 : (sA (sF g_1553 h 64 (.ref q_1504)) q_1554 50 6).2.2.2.1 q_543 (18 : Int32).toNatClampNeg = 100 := ((congrFun (sA_g q_543 (ne0 r_1510 o_q_1554 (by decide))).2.2.2.1 _).trans kn_1547)
  have kn_1598 : (sA (sF g_1553 h 64 (.ref q_1504)) q_1554 50 6).2.2.2.1 q_543 (19 : Int32).toNatClampNeg = 111 := ((congrFun (sA_g q_543 (ne0 r_1510 o_q_1554 (by decide))).2.2.2.1 _).trans kn_1548)
  have kn_1599 : (sA (sF g_1553 h 64 (.ref q_1504)) q_1554 50 6).2.2.2.1 q_543 (20 : Int32).toNatClampNeg = 0 := ((congrFun (sA_g q_543 (ne0 r_1510 o_q_1554 (by decide))).2.2.2.1 _).trans kn_1549)
  have kn_1600 : (sA (sF g_1553 h 64 (.ref q_1504)) q_1554 50 6).2.2.2.1 q_543 (21 : Int32).toNatClampNeg = 105 := ((congrFun (sA_g q_543 (ne0 r_1510 o_q_1554 (by decide))).2.2.2.1 _).trans kn_1550)
  have kn_1601 : (sA (sF g_1553 h 64 (.ref q_1504)) q_1554 50 6).2.2.2.1 q_543 (22 : Int32).toNatClampNeg = 102 := ((congrFun (sA_g q_543 (ne0 r_1510 o_q_1554 (by decide))).2.2.2.1 _).trans kn_1551)
  have kn_1602 : (sA (sF g_1553 h 64 (.ref q_1504)) q_1554 50 6).2.2.2.1 q_543 (23 : Int32).toNatClampNeg = 0 := ((congrFun (sA_g q_543 (ne0 r_1510 o_q_1554 (by decide))).2.2.2.1 _).trans kn_1552)
  generalize (sA (sF g_1553 h 64 (.ref q_1504)) q_1554 50 6) = g_1603 at hT hI hM hE r_1555 r_1556 r_1557 r_1558 r_1559 r_1560 r_1561 n_1562 n_1563 n_1564 n_1565 n_1566 n_1567 kn_1568 kn_1569 kn_1570 kn_1571 kn_1572 kn_1573 kn_1574 kn_1575 kn_1576 kn_1577 kn_1578 kn_1579 kn_1580 kn_1581 kn_1582 kn_1583 kn_1584 kn_1585 kn_1586 kn_1587 kn_1588 kn_1589 kn_1590 kn_1591 kn_1592 kn_1593 kn_1594 kn_1595 kn_1596 kn_1597 kn_1598 kn_1599 kn_1600 kn_1601 kn_1602 hP zP zN
  clear kn_1518 kn_1519 kn_1520 kn_1521 kn_1522 kn_1523 kn_1524 kn_1525 kn_1526 kn_1527 kn_1528 kn_1529 kn_1530 kn_1531 kn_1532 kn_1533 kn_1534 kn_1535 kn_1536 kn_1537 kn_1538 kn_1539 kn_1540 kn_1541 kn_1542 kn_1543 kn_1544 kn_1545 kn_1546 kn_1547 kn_1548 kn_1549 kn_1550 kn_1551 kn_1552 n_1512 n_1513 n_1514 n_1515 n_1516 r_1505 r_1506 r_1507 r_1508 r_1509 r_1510
  refine W.widen (k := 51) (n := 29855) (Nat.le_of_ble_eq_true rfl) (Nat.le_of_ble_eq_true rfl) ?_
  refine t_put0 (ci := 7) (v := .ref q_1554) hB hT (ro_ci r_1555 rfl) (ro_n0 r_1555 (by decide)) rfl 65 (by decide) k_810 (Or.inr ⟨hin, rfl⟩) rfl rfl dX7_init_567 (fun H locs hT => ?_)
  replace hI : Inv (sF g_1603 h 65 (.ref q_1554)) := hI.sF (fk r_1555 (show fsm _ _ ft from trivial))
  replace hM : Sm md_k_Model g (sF g_1603 h 65 (.ref q_1554)) := hM.tr hE (Sm_sF (by rw [r_1555]; rfl))
  replace hE : Ex g (sF g_1603 h 65 (.ref q_1554)) := hE
  replace hP : PF [65, 64, 63, 62, 61, 59, 58, 57, 56, 55, 54, 53, 48, 47, 46, 45, 44, 43, 42, 41, 40, 39, 35, 33, 32, 31, 28, 27, 26, 25, 23, 20, 19, 18, 17, 16, 15, 14, 13, 12, 11, 10, 9, 8, 7, 6, 5, 4, 3, 2, 1, 60, 52, 51, 50, 49, 38, 37, 36, 34, 30, 29, 24, 22, 21, 0] (sF g_1603 h 65 (.ref q_1554)) h := hP.put (q_8_65 (⟨_, rfl, r_1561, n_1567⟩))
  have zP : ZC (sF g_1603 h 65 (.ref q_1554)) q_23 := zP
  have zN : ZC (sF g_1603 h 65 (.ref q_1554)) q_500 := zN
  refine lv_aload_n hx hb dX7_init_570 rfl (lv_at hl 0 rfl) ?_
  refine lv_bipush (v := 6) hx hb dX7_init_571 (by decide) ?_
  refine t_newi (N' := 6) hB hT 50 (by decide) k_101 (by decide) (by decide) (by decide) (Nat.le_of_ble_eq_true rfl) (Nat.le_of_ble_eq_true rfl) dX7_init_573 (fun q_1604 H o_q_1604 hT => ?_)
  have z_q_1604 : g.1 q_1604 = 0 := hE.z0 o_q_1604
  replace hI : Inv (sA (sF g_1603 h 65 (.ref q_1554)) q_1604 50 6) := hI.newi o_q_1604 (by decide) (fun _ => rfl) trivial (fun _ => trivial)
  replace hM : Sm md_k_Model g (sA (sF g_1603 h 65 (.ref q_1554)) q_1604 50 6) := hM.tr hE (Sm.push o_q_1604 sA_g)
  replace hE : Ex g (sA (sF g_1603 h 65 (.ref q_1554)) q_1604 50 6) := hE.tr (Ex.push o_q_1604 sA_g)
  replace hP : PF [65, 64, 63, 62, 61, 59, 58, 57, 56, 55, 54, 53, 48, 47, 46, 45, 44, 43, 42, 41, 40, 39, 35, 33, 32, 31, 28, 27, 26, 25, 23, 20, 19, 18, 17, 16, 15, 14, 13, 12, 11, 10, 9, 8, 7, 6, 5, 4, 3, 2, 1, 60, 52, 51, 50, 49, 38, 37, 36, 34, 30, 29, 24, 22, 21, 0] (sA (sF g_1603 h 65 (.ref q_1554)) q_1604 50 6) h := hP.pu (Ex.push o_q_1604 sA_g) (sA_g h (ne0 r_1555 o_q_1604 (by decide))).2.1
  have zP : ZC (sA (sF g_1603 h 65 (.ref q_1554)) q_1604 50 6) q_23 := zP.pu (sA_g q_23 (ne0 r_1557 o_q_1604 (by decide))).2.2.2.1
  have zN : ZC (sA (sF g_1603 h 65 (.ref q_1554)) q_1604 50 6) q_500 := zN.pu (sA_g q_500 (ne0 r_1559 o_q_1604 (by decide))).2.2.2.1
  have r_1605 : (sA (sF g_1603 h 65 (.ref q_1554)) q_1604 50 6).1 h = 18 := ((sA_g h (ne0 r_1555 o_q_1604 (by decide))).1.trans r_1555)
  have r_1606 : (sA (sF g_1603 h 65 (.ref q_1554)) q_1604 50 6).1 q_12 = 71 := ((sA_g q_12 (ne0 r_1556 o_q_1604 (by decide))).1.trans r_1556)
  have r_1607 : (sA (sF g_1603 h 65 (.ref q_1554)) q_1604 50 6).1 q_23 = 72 := ((sA_g q_23 (ne0 r_1557 o_q_1604 (by decide))).1.trans r_1557)
  have r_1608 : (sA (sF g_1603 h 65 (.ref q_1554)) q_1604 50 6).1 q_483 = 84 := ((sA_g q_483 (ne0 r_1558 o_q_1604 (by decide))).1.trans r_1558)
  have r_1609 : (sA (sF g_1603 h 65 (.ref q_1554)) q_1604 50 6).1 q_500 = 85 := ((sA_g q_500 (ne0 r_1559 o_q_1604 (by decide))).1.trans r_1559)
  have r_1610 : (sA (sF g_1603 h 65 (.ref q_1554)) q_1604 50 6).1 q_543 = 87 := ((sA_g q_543 (ne0 r_1560 o_q_1604 (by decide))).1.trans r_1560)
  have r_1611 : (sA (sF g_1603 h 65 (.ref q_1554)) q_1604 50 6).1 q_1604 = 50 := sA_r
  have n_1612 : (sA (sF g_1603 h 65 (.ref q_1554)) q_1604 50 6).2.2.1 q_12 = 48 := ((sA_g q_12 (ne0 r_1556 o_q_1604 (by decide))).2.2.1.trans n_1562)
  have n_1613 : (sA (sF g_1603 h 65 (.ref q_1554)) q_1604 50 6).2.2.1 q_23 = 48 := ((sA_g q_23 (ne0 r_1557 o_q_1604 (by decide))).2.2.1.trans n_1563)
  have n_1614 : (sA (sF g_1603 h 65 (.ref q_1554)) q_1604 50 6).2.2.1 q_483 = 8 := ((sA_g q_483 (ne0 r_1558 o_q_1604 (by decide))).2.2.1.trans n_1564)
  have n_1615 : (sA (sF g_1603 h 65 (.ref q_1554)) q_1604 50 6).2.2.1 q_500 = 8 := ((sA_g q_500 (ne0 r_1559 o_q_1604 (by decide))).2.2.1.trans n_1565)
  have n_1616 : (sA (sF g_1603 h 65 (.ref q_1554)) q_1604 50 6).2.2.1 q_543 = 24 := ((sA_g q_543 (ne0 r_1560 o_q_1604 (by decide))).2.2.1.trans n_1566)
  have n_1617 : (sA (sF g_1603 h 65 (.ref q_1554)) q_1604 50 6).2.2.1 q_1604 = 6 := sA_n
  have kn_1618 : (sA (sF g_1603 h 65 (.ref q_1554)) q_1604 50 6).2.1 h 0 = .int 0 := ((congrFun (sA_g h (ne0 r_1555 o_q_1604 (by decide))).2.1 0).trans (sF_k kn_1568 (by decide)))
  have kn_1619 : (sA (sF g_1603 h 65 (.ref q_1554)) q_1604 50 6).2.1 h 22 = .int 0 := ((congrFun (sA_g h (ne0 r_1555 o_q_1604 (by decide))).2.1 22).trans (sF_k kn_1569 (by decide)))
  have kn_1620 : (sA (sF g_1603 h 65 (.ref q_1554)) q_1604 50 6).2.1 h 24 = .int 0 := ((congrFun (sA_g h (ne0 r_1555 o_q_1604 (by decide))).2.1 24).trans (sF_k kn_1570 (by decide)))
  have kn_1621 : (sA (sF g_1603 h 65 (.ref q_1554)) q_1604 50 6).2.1 h 29 = .int 0 := ((congrFun (sA_g h (ne0 r_1555 o_q_1604 (by decide))).2.1 29).trans (sF_k kn_1571 (by decide)))
  have kn_1622 : (sA (sF g_1603 h 65 (.ref q_1554)) q_1604 50 6).2.1 h 30 = .int 0 := ((congrFun (sA_g h (ne0 r_1555 o_q_1604 (by decide))).2.1 30).trans (sF_k kn_1572 (by decide)))
  have kn_1623 : (sA (sF g_1603 h 65 (.ref q_1554)) q_1604 50 6).2.1 h 34 = .int 0 := ((congrFun (sA_g h (ne0 r_1555 o_q_1604 (by decide))).2.1 34).trans (sF_k kn_1573 (by decide)))
  have kn_1624 : (sA (sF g_1603 h 65 (.ref q_1554)) q_1604 50 6).2.1 h 2 = .ref q_12 := ((congrFun (sA_g h (ne0 r_1555 o_q_1604 (by decide))).2.1 2).trans (sF_k kn_1574 (by decide)))
  have kn_1625 : (sA (sF g_1603 h 65 (.ref q_1554)) q_1604 50 6).2.1 h 3 = .ref q_23 := ((congrFun (sA_g h (ne0 r_1555 o_q_1604 (by decide))).2.1 3).trans (sF_k kn_1575 (by decide)))
  have kn_1626 : (sA (sF g_1603 h 65 (.ref q_1554)) q_1604 50 6).2.1 h 39 = .ref q_483 := ((congrFun (sA_g h (ne0 r_1555 o_q_1604 (by decide))).2.1 39).trans (sF_k kn_1576 (by decide)))
  have kn_1627 : (sA (sF g_1603 h 65 (.ref q_1554)) q_1604 50 6).2.1 h 40 = .ref q_500 := ((congrFun (sA_g h (ne0 r_1555 o_q_1604 (by decide))).2.1 40).trans (sF_k kn_1577 (by decide)))
  have kn_1628 : (sA (sF g_1603 h 65 (.ref q_1554)) q_1604 50 6).2.1 h 42 = .ref q_543 := ((congrFun (sA_g h (ne0 r_1555 o_q_1604 (by decide))).2.1 42).trans (sF_k kn_1578 (by decide)))
  have kn_1629 : (sA (sF g_1603 h 65 (.ref q_1554)) q_1604 50 6).2.2.2.1 q_543 (0 : Int32).toNatClampNeg = 115 := ((congrFun (sA_g q_543 (ne0 r_1560 o_q_1604 (by decide))).2.2.2.1 _).trans kn_1579)
  have kn_1630 : (sA (sF g_1603 h 65 (.ref q_1554)) q_1604 50 6).2.2.2.1 q_543 (1 : Int32).toNatClampNeg = 101 := ((congrFun (sA_g q_543 (ne0 r_1560 o_q_1604 (by decide))).2.2.2.1 _).trans kn_1580)
  have kn_1631 : (sA (sF g_1603 h 65 (.ref q_1554)) q_1604 50 6).2.2.2.1 q_543 (2 : Int32).toNatClampNeg = 116 := ((congrFun (sA_g q_543 (ne0 r_1560 o_q_1604 (by decide))).2.2.2.1 _).trans kn_1581)
  have kn_1632 : (sA (sF g_1603 h 65 (.ref q_1554)) q_1604 50 6).2.2.2.1 q_543 (3 : Int32).toNatClampNeg = 97 := ((congrFun (sA_g q_543 (ne0 r_1560 o_q_1604 (by decide))).2.2.2.1 _).trans kn_1582)
  have kn_1633 : (sA (sF g_1603 h 65 (.ref q_1554)) q_1604 50 6).2.2.2.1 q_543 (4 : Int32).toNatClampNeg = 100 := ((congrFun (sA_g q_543 (ne0 r_1560 o_q_1604 (by decide))).2.2.2.1 _).trans kn_1583)
  have kn_1634 : (sA (sF g_1603 h 65 (.ref q_1554)) q_1604 50 6).2.2.2.1 q_543 (5 : Int32).toNatClampNeg = 100 := ((congrFun (sA_g q_543 (ne0 r_1560 o_q_1604 (by decide))).2.2.2.1 _).trans kn_1584)
  have kn_1635 : (sA (sF g_1603 h 65 (.ref q_1554)) q_1604 50 6).2.2.2.1 q_543 (6 : Int32).toNatClampNeg = 109 := ((congrFun (sA_g q_543 (ne0 r_1560 o_q_1604 (by decide))).2.2.2.1 _).trans kn_1585)
  have kn_1636 : (sA (sF g_1603 h 65 (.ref q_1554)) q_1604 50 6).2.2.2.1 q_543 (7 : Int32).toNatClampNeg = 97 := ((congrFun (sA_g q_543 (ne0 r_1560 o_q_1604 (by decide))).2.2.2.1 _).trans kn_1586)
  have kn_1637 : (sA (sF g_1603 h 65 (.ref q_1554)) q_1604 50 6).2.2.2.1 q_543 (8 : Int32).toNatClampNeg = 120 := ((congrFun (sA_g q_543 (ne0 r_1560 o_q_1604 (by decide))).2.2.2.1 _).trans kn_1587)
  have kn_1638 : (sA (sF g_1603 h 65 (.ref q_1554)) q_1604 50 6).2.2.2.1 q_543 (9 : Int32).toNatClampNeg = 110 := ((congrFun (sA_g q_543 (ne0 r_1560 o_q_1604 (by decide))).2.2.2.1 _).trans kn_1588)
  have kn_1639 : (sA (sF g_1603 h 65 (.ref q_1554)) q_1604 50 6).2.2.2.1 q_543 (10 : Int32).toNatClampNeg = 101 := ((congrFun (sA_g q_543 (ne0 r_1560 o_q_1604 (by decide))).2.2.2.1 _).trans kn_1589)
  have kn_1640 : (sA (sF g_1603 h 65 (.ref q_1554)) q_1604 50 6).2.2.2.1 q_543 (11 : Int32).toNatClampNeg = 119 := ((congrFun (sA_g q_543 (ne0 r_1560 o_q_1604 (by decide))).2.2.2.1 _).trans kn_1590)
  have kn_1641 : (sA (sF g_1603 h 65 (.ref q_1554)) q_1604 50 6).2.2.2.1 q_543 (12 : Int32).toNatClampNeg = 103 := ((congrFun (sA_g q_543 (ne0 r_1560 o_q_1604 (by decide))).2.2.2.1 _).trans kn_1591)
  have kn_1642 : (sA (sF g_1603 h 65 (.ref q_1554)) q_1604 50 6).2.2.2.1 q_543 (13 : Int32).toNatClampNeg = 101 := ((congrFun (sA_g q_543 (ne0 r_1560 o_q_1604 (by decide))).2.2.2.1 _).trans kn_1592)
  have kn_1643 : (sA (sF g_1603 h 65 (.ref q_1554)) q_1604 50 6).2.2.2.1 q_543 (14 : Int32).toNatClampNeg = 116 := ((congrFun (sA_g q_543 (ne0 r_1560 o_q_1604 (by decide))).2.2.2.1 _).trans kn_1593)
  have kn_1644 : (sA (sF g_1603 h 65 (.ref q_1554)) q_1604 50 6).2.2.2.1 q_543 (15 : Int32).toNatClampNeg = 97 := ((congrFun (sA_g q_543 (ne0 r_1560 o_q_1604 (by decide))).2.2.2.1 _).trans kn_1594)
  have kn_1645 : (sA (sF g_1603 h 65 (.ref q_1554)) q_1604 50 6).2.2.2.1 q_543 (16 : Int32).toNatClampNeg = 115 := ((congrFun (sA_g q_543 (ne0 r_1560 o_q_1604 (by decide))).2.2.2.1 _).trans kn_1595)
  have kn_1646 : (sA (sF g_1603 h 65 (.ref q_1554)) q_1604 50 6).2.2.2.1 q_543 (17 : Int32).toNatClampNeg = 107 := ((congrFun (sA_g q_543 (ne0 r_1560 o_q_1604 (by decide))).2.2.2.1 _).trans kn_1596)
  have kn_1647 : (sA (sF g_1603 h 65 (.ref q_1554)) q_1604 50 6).2.2.2.1 q_543 (18 : Int32).toNatClampNeg = 100 := ((congrFun (sA_g q_543 (ne0 r_1560 o_q_1604 (by decide))).2.2.2.1 _).trans kn_1597)
  have kn_1648 : (sA (sF g_1603 h 65 (.ref q_1554)) q_1604 50 6).2.2.2.1 q_543 (19 : Int32).toNatClampNeg = 111 := ((congrFun (sA_g q_543 (ne0 r_1560 o_q_1604 (by decide))).2.2.2.1 _).trans kn_1598)
  have kn_1649 : (sA (sF g_1603 h 65 (.ref q_1554)) q_1604 50 6).2.2.2.1 q_543 (20 : Int32).toNatClampNeg = 0 := ((congrFun (sA_g q_543 (ne0 r_1560 o_q_1604 (by decide))).2.2.2.1 _).trans kn_1599)
  have kn_1650 : (sA (sF g_1603 h 65 (.ref q_1554)) q_1604 50 6).2.2.2.1 q_543 (21 : Int32).toNatClampNeg = 105 := ((congrFun (sA_g q_543 (ne0 r_1560 o_q_1604 (by decide))).2.2.2.1 _).trans kn_1600)
  have kn_1651 : (sA (sF g_1603 h 65 (.ref q_1554)) q_1604 50 6).2.2.2.1 q_543 (22 : Int32).toNatClampNeg = 102 := ((congrFun (sA_g q_543 (ne0 r_1560 o_q_1604 (by decide))).2.2.2.1 _).trans kn_1601)
  have kn_1652 : (sA (sF g_1603 h 65 (.ref q_1554)) q_1604 50 6).2.2.2.1 q_543 (23 : Int32).toNatClampNeg = 0 := ((congrFun (sA_g q_543 (ne0 r_1560 o_q_1604 (by decide))).2.2.2.1 _).trans kn_1602)
  generalize (sA (sF g_1603 h 65 (.ref q_1554)) q_1604 50 6) = g_1653 at hT hI hM hE r_1605 r_1606 r_1607 r_1608 r_1609 r_1610 r_1611 n_1612 n_1613 n_1614 n_1615 n_1616 n_1617 kn_1618 kn_1619 kn_1620 kn_1621 kn_1622 kn_1623 kn_1624 kn_1625 kn_1626 kn_1627 kn_1628 kn_1629 kn_1630 kn_1631 kn_1632 kn_1633 kn_1634 kn_1635 kn_1636 kn_1637 kn_1638 kn_1639 kn_1640 kn_1641 kn_1642 kn_1643 kn_1644 kn_1645 kn_1646 kn_1647 kn_1648 kn_1649 kn_1650 kn_1651 kn_1652 hP zP zN
  clear kn_1568 kn_1569 kn_1570 kn_1571 kn_1572 kn_1573 kn_1574 kn_1575 kn_1576 kn_1577 kn_1578 kn_1579 kn_1580 kn_1581 kn_1582 kn_1583 kn_1584 kn_1585 kn_1586 kn_1587 kn_1588 kn_1589 kn_1590 kn_1591 kn_1592 kn_1593 kn_1594 kn_1595 kn_1596 kn_1597 kn_1598 kn_1599 kn_1600 kn_1601 kn_1602 n_1562 n_1563 n_1564 n_1565 n_1566 r_1555 r_1556 r_1557 r_1558 r_1559 r_1560
  refine W.widen (k := 52) (n := 29861) (Nat.le_of_ble_eq_true rfl) (Nat.le_of_ble_eq_true rfl) ?_
  refine t_put0 (ci := 7) (v := .ref q_1604) hB hT (ro_ci r_1605 rfl) (ro_n0 r_1605 (by decide)) rfl 66 (by decide) k_811 (Or.inr ⟨hin, rfl⟩) rfl rfl dX7_init_575 (fun H locs hT => ?_)
  replace hI : Inv (sF g_1653 h 66 (.ref q_1604)) := hI.sF (fk r_1605 (show fsm _ _ ft from trivial))
  replace hM : Sm md_k_Model g (sF g_1653 h 66 (.ref q_1604)) := hM.tr hE (Sm_sF (by rw [r_1605]; rfl))
  replace hE : Ex g (sF g_1653 h 66 (.ref q_1604)) := hE
  replace hP : PF [66, 65, 64, 63, 62, 61, 59, 58, 57, 56, 55, 54, 53, 48, 47, 46, 45, 44, 43, 42, 41, 40, 39, 35, 33, 32, 31, 28, 27, 26, 25, 23, 20, 19, 18, 17, 16, 15, 14, 13, 12, 11, 10, 9, 8, 7, 6, 5, 4, 3, 2, 1, 60, 52, 51, 50, 49, 38, 37, 36, 34, 30, 29, 24, 22, 21, 0] (sF g_1653 h 66 (.ref q_1604)) h := hP.put (q_8_66 (⟨_, rfl, r_1611, n_1617⟩))
  have zP : ZC (sF g_1653 h 66 (.ref q_1604)) q_23 := zP
  have zN : ZC (sF g_1653 h 66 (.ref q_1604)) q_500 := zN
  have hF := PF.fin hP (by decide) r_1605
  have hT : Tv D cI cZ cS cR N0 s.heap H locs (sR (sF g_1653 h 66 (.ref q_1604)) h 8) := ⟨hT.1.promo (by rw [r_1605]; decide) (by rw [r_1605]; rfl) (Or.inl (by decide)), hT.2⟩
  replace hI : Inv (sR (sF g_1653 h 66 (.ref q_1604)) h 8) := hI.promo (by rw [r_1605]; decide) hF (fun _ _ => trivial) (fun _ _ => trivial)
  replace hM : Sm md_k_Model g (sR (sF g_1653 h 66 (.ref q_1604)) h 8) := hM
  have hX : Exx h g (sR (sF g_1653 h 66 (.ref q_1604)) h 8) := Exx.promo hE
  exact t_vret hB hr hT (Nat.le_of_ble_eq_true rfl) (Nat.le_of_ble_eq_true rfl) dX7_init_578 ⟨rfl, hI, hX, hM, if_pos rfl, ⟨_, _, (sF_k kn_1624 (by decide)), (sF_k kn_1625 (by decide)), (sR_r r_1606 (ro_ne r_1606 r_1605 (by decide))), (sR_r r_1607 (ro_ne r_1607 r_1605 (by decide))), n_1612, n_1613, zP.PL⟩, ⟨_, _, (sF_k kn_1626 (by decide)), (sF_k kn_1627 (by decide)), (sR_r r_1608 (ro_ne r_1608 r_1605 (by decide))), (sR_r r_1609 (ro_ne r_1609 r_1605 (by decide))), n_1614, n_1615, zN.PL⟩, (sF_k kn_1619 (by decide)), (sF_k kn_1623 (by decide)), (sF_k kn_1618 (by decide)), (sF_k kn_1621 (by decide)), (sF_k kn_1622 (by decide)), (sF_k kn_1620 (by decide)), ⟨_, (sF_k kn_1628 (by decide)), sR_r r_1610 (ro_ne r_1610 r_1605 (by decide)), n_1616, fun i hi => match i, hi with | 0, _ => kn_1629 | 1, _ => kn_1630 | 2, _ => kn_1631 | 3, _ => kn_1632 | 4, _ => kn_1633 | 5, _ => kn_1634 | 6, _ => kn_1635 | 7, _ => kn_1636 | 8, _ => kn_1637 | 9, _ => kn_1638 | 10, _ => kn_1639 | 11, _ => kn_1640 | 12, _ => kn_1641 | 13, _ => kn_1642 | 14, _ => kn_1643 | 15, _ => kn_1644 | 16, _ => kn_1645 | 17, _ => kn_1646 | 18, _ => kn_1647 | 19, _ => kn_1648 | 20, _ => kn_1649 | 21, _ => kn_1650 | 22, _ => kn_1651 | 23, _ => kn_1652 | k + 24, h => absurd h (by omega)⟩⟩
