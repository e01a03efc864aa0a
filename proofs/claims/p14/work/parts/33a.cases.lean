theorem k_330 : Cond.methodLink RL 15 yX6_feed ∈ tb := mt 330 (by decide +kernel) rfl
theorem k_331 : Cond.instanceMethod yX6_feed ∈ tb := mt 331 (by decide +kernel) rfl
theorem k_332 : Cond.selects RX6 yX6_feed yX6_feed ∈ tb := mt 332 (by decide +kernel) rfl
set_option maxRecDepth 20000 in
theorem k_333 : Cond.code yX6_feed cX6_feed 4 (some .int) ∈ tb := mt 333 rfl rfl
theorem k_339 : Cond.methodLink RL 20 yX6_service ∈ tb := mt 339 (by decide +kernel) rfl
theorem k_340 : Cond.instanceMethod yX6_service ∈ tb := mt 340 (by decide +kernel) rfl
theorem k_341 : Cond.selects RX6 yX6_service yX6_service ∈ tb := mt 341 (by decide +kernel) rfl
set_option maxRecDepth 20000 in
theorem k_342 : Cond.code yX6_service cX6_service 2 (some .int) ∈ tb := mt 342 rfl rfl
theorem k_429 : Cond.methodLink RL 25 yX6_change ∈ tb := mt 429 (by decide +kernel) rfl
theorem k_430 : Cond.instanceMethod yX6_change ∈ tb := mt 430 (by decide +kernel) rfl
theorem k_431 : Cond.selects RX6 yX6_change yX6_change ∈ tb := mt 431 (by decide +kernel) rfl
set_option maxRecDepth 20000 in
theorem k_432 : Cond.code yX6_change cX6_change 3 (some .int) ∈ tb := mt 432 rfl rfl
theorem k_437 : Cond.methodLink RL 30 yX6_mend ∈ tb := mt 437 (by decide +kernel) rfl
theorem k_438 : Cond.instanceMethod yX6_mend ∈ tb := mt 438 (by decide +kernel) rfl
theorem k_439 : Cond.selects RX6 yX6_mend yX6_mend ∈ tb := mt 439 (by decide +kernel) rfl
set_option maxRecDepth 20000 in
theorem k_440 : Cond.code yX6_mend cX6_mend 6 (some .int) ∈ tb := mt 440 rfl rfl
theorem k_442 : Cond.methodLink RL 35 yX6_hold ∈ tb := mt 442 (by decide +kernel) rfl
theorem k_443 : Cond.instanceMethod yX6_hold ∈ tb := mt 443 (by decide +kernel) rfl
theorem k_444 : Cond.selects RX6 yX6_hold yX6_hold ∈ tb := mt 444 (by decide +kernel) rfl
set_option maxRecDepth 20000 in
theorem k_445 : Cond.code yX6_hold cX6_hold 4 (some .int) ∈ tb := mt 445 rfl rfl
theorem k_446 : Cond.methodLink RL 40 yX6_set ∈ tb := mt 446 (by decide +kernel) rfl
theorem k_447 : Cond.instanceMethod yX6_set ∈ tb := mt 447 (by decide +kernel) rfl
theorem k_448 : Cond.selects RX6 yX6_set yX6_set ∈ tb := mt 448 (by decide +kernel) rfl
set_option maxRecDepth 20000 in
theorem k_449 : Cond.code yX6_set cX6_set 5 (some .int) ∈ tb := mt 449 rfl rfl
theorem k_450 : Cond.methodLink RL 44 yX6_about ∈ tb := mt 450 (by decide +kernel) rfl
theorem k_451 : Cond.instanceMethod yX6_about ∈ tb := mt 451 (by decide +kernel) rfl
theorem k_452 : Cond.selects RX6 yX6_about yX6_about ∈ tb := mt 452 (by decide +kernel) rfl
set_option maxRecDepth 20000 in
theorem k_453 : Cond.code yX6_about cX6_about 4 (some .int) ∈ tb := mt 453 rfl rfl
theorem k_478 : Cond.methodLink RL 48 yX6_act ∈ tb := mt 478 (by decide +kernel) rfl
theorem k_479 : Cond.instanceMethod yX6_act ∈ tb := mt 479 (by decide +kernel) rfl
theorem k_480 : Cond.selects RX6 yX6_act yX6_act ∈ tb := mt 480 (by decide +kernel) rfl
set_option maxRecDepth 20000 in
theorem k_481 : Cond.code yX6_act cX6_act 5 (some .int) ∈ tb := mt 481 rfl rfl
theorem k_948 : Cond.methodLink RL 19 yX7_feed ∈ tb := mt 948 (by decide +kernel) rfl
theorem k_949 : Cond.instanceMethod yX7_feed ∈ tb := mt 949 (by decide +kernel) rfl
theorem k_950 : Cond.selects RX7 yX7_feed yX7_feed ∈ tb := mt 950 (by decide +kernel) rfl
set_option maxRecDepth 20000 in
theorem k_951 : Cond.code yX7_feed cX7_feed 5 (some .int) ∈ tb := mt 951 rfl rfl
theorem k_956 : Cond.methodLink RL 24 yX7_service ∈ tb := mt 956 (by decide +kernel) rfl
theorem k_957 : Cond.instanceMethod yX7_service ∈ tb := mt 957 (by decide +kernel) rfl
theorem k_958 : Cond.selects RX7 yX7_service yX7_service ∈ tb := mt 958 (by decide +kernel) rfl
set_option maxRecDepth 20000 in
theorem k_959 : Cond.code yX7_service cX7_service 1 (some .int) ∈ tb := mt 959 rfl rfl
theorem k_984 : Cond.methodLink RL 29 yX7_change ∈ tb := mt 984 (by decide +kernel) rfl
theorem k_985 : Cond.instanceMethod yX7_change ∈ tb := mt 985 (by decide +kernel) rfl
theorem k_986 : Cond.selects RX7 yX7_change yX7_change ∈ tb := mt 986 (by decide +kernel) rfl
set_option maxRecDepth 20000 in
theorem k_987 : Cond.code yX7_change cX7_change 2 (some .int) ∈ tb := mt 987 rfl rfl
theorem k_992 : Cond.methodLink RL 34 yX7_mend ∈ tb := mt 992 (by decide +kernel) rfl
theorem k_993 : Cond.instanceMethod yX7_mend ∈ tb := mt 993 (by decide +kernel) rfl
theorem k_994 : Cond.selects RX7 yX7_mend yX7_mend ∈ tb := mt 994 (by decide +kernel) rfl
set_option maxRecDepth 20000 in
theorem k_995 : Cond.code yX7_mend cX7_mend 5 (some .int) ∈ tb := mt 995 rfl rfl
theorem k_1000 : Cond.methodLink RL 39 yX7_hold ∈ tb := mt 1000 (by decide +kernel) rfl
theorem k_1001 : Cond.instanceMethod yX7_hold ∈ tb := mt 1001 (by decide +kernel) rfl
theorem k_1002 : Cond.selects RX7 yX7_hold yX7_hold ∈ tb := mt 1002 (by decide +kernel) rfl
set_option maxRecDepth 20000 in
theorem k_1003 : Cond.code yX7_hold cX7_hold 4 (some .int) ∈ tb := mt 1003 rfl rfl
theorem k_1004 : Cond.methodLink RL 43 yX7_set ∈ tb := mt 1004 (by decide +kernel) rfl
theorem k_1005 : Cond.instanceMethod yX7_set ∈ tb := mt 1005 (by decide +kernel) rfl
theorem k_1006 : Cond.selects RX7 yX7_set yX7_set ∈ tb := mt 1006 (by decide +kernel) rfl
set_option maxRecDepth 20000 in
theorem k_1007 : Cond.code yX7_set cX7_set 5 (some .int) ∈ tb := mt 1007 rfl rfl
theorem k_1008 : Cond.methodLink RL 47 yX7_about ∈ tb := mt 1008 (by decide +kernel) rfl
theorem k_1009 : Cond.instanceMethod yX7_about ∈ tb := mt 1009 (by decide +kernel) rfl
theorem k_1010 : Cond.selects RX7 yX7_about yX7_about ∈ tb := mt 1010 (by decide +kernel) rfl
set_option maxRecDepth 20000 in
theorem k_1011 : Cond.code yX7_about cX7_about 5 (some .int) ∈ tb := mt 1011 rfl rfl
theorem k_1024 : Cond.methodLink RL 51 yX7_act ∈ tb := mt 1024 (by decide +kernel) rfl
theorem k_1025 : Cond.instanceMethod yX7_act ∈ tb := mt 1025 (by decide +kernel) rfl
theorem k_1026 : Cond.selects RX7 yX7_act yX7_act ∈ tb := mt 1026 (by decide +kernel) rfl
set_option maxRecDepth 20000 in
theorem k_1027 : Cond.code yX7_act cX7_act 5 (some .int) ∈ tb := mt 1027 rfl rfl
theorem k_1190 : Cond.constantLong RL 13 4294967295 ∈ tb := mt 1190 (by decide +kernel) rfl
theorem dL_law_140 : decode cL_law 140 = .ok (.aload_n 1, 1) := by decide +kernel
theorem dL_law_141 : decode cL_law 141 = .ok (.aload_n 0, 1) := by decide +kernel
theorem dL_law_142 : decode cL_law 142 = .ok (.iload_n 3, 1) := by decide +kernel
theorem dL_law_143 : decode cL_law 143 = .ok (.iconst 1, 1) := by decide +kernel
theorem dL_law_144 : decode cL_law 144 = .ok (.iadd, 1) := by decide +kernel
theorem dL_law_145 : decode cL_law 145 = .ok (.iaload, 1) := by decide +kernel
theorem dL_law_146 : decode cL_law 146 = .ok (.i2l, 1) := by decide +kernel
theorem dL_law_147 : decode cL_law 147 = .ok (.bipush 32, 2) := by decide +kernel
theorem dL_law_149 : decode cL_law 149 = .ok (.lshl, 1) := by decide +kernel
theorem dL_law_150 : decode cL_law 150 = .ok (.aload_n 0, 1) := by decide +kernel
theorem dL_law_151 : decode cL_law 151 = .ok (.iload_n 3, 1) := by decide +kernel
theorem dL_law_152 : decode cL_law 152 = .ok (.iconst 2, 1) := by decide +kernel
theorem dL_law_153 : decode cL_law 153 = .ok (.iadd, 1) := by decide +kernel
theorem dL_law_154 : decode cL_law 154 = .ok (.iaload, 1) := by decide +kernel
theorem dL_law_155 : decode cL_law 155 = .ok (.i2l, 1) := by decide +kernel
theorem dL_law_156 : decode cL_law 156 = .ok (.ldc2_w 13, 3) := by decide +kernel
theorem dL_law_159 : decode cL_law 159 = .ok (.land, 1) := by decide +kernel
theorem dL_law_160 : decode cL_law 160 = .ok (.lor, 1) := by decide +kernel
theorem dL_law_161 : decode cL_law 161 = .ok (.aload_n 0, 1) := by decide +kernel
theorem dL_law_162 : decode cL_law 162 = .ok (.iload_n 3, 1) := by decide +kernel
theorem dL_law_163 : decode cL_law 163 = .ok (.iconst 3, 1) := by decide +kernel
theorem dL_law_164 : decode cL_law 164 = .ok (.iadd, 1) := by decide +kernel
theorem dL_law_165 : decode cL_law 165 = .ok (.iaload, 1) := by decide +kernel
theorem dL_law_166 : decode cL_law 166 = .ok (.invokevirtual 15, 3) := by decide +kernel
theorem dL_law_169 : decode cL_law 169 = .ok (.pop, 1) := by decide +kernel
theorem dL_law_170 : decode cL_law 170 = .ok (.aload_n 2, 1) := by decide +kernel
theorem dL_law_171 : decode cL_law 171 = .ok (.aload_n 0, 1) := by decide +kernel
theorem dL_law_172 : decode cL_law 172 = .ok (.iload_n 3, 1) := by decide +kernel
theorem dL_law_173 : decode cL_law 173 = .ok (.iconst 1, 1) := by decide +kernel
theorem dL_law_174 : decode cL_law 174 = .ok (.iadd, 1) := by decide +kernel
theorem dL_law_175 : decode cL_law 175 = .ok (.iaload, 1) := by decide +kernel
theorem dL_law_176 : decode cL_law 176 = .ok (.i2l, 1) := by decide +kernel
theorem dL_law_177 : decode cL_law 177 = .ok (.bipush 32, 2) := by decide +kernel
theorem dL_law_179 : decode cL_law 179 = .ok (.lshl, 1) := by decide +kernel
theorem dL_law_180 : decode cL_law 180 = .ok (.aload_n 0, 1) := by decide +kernel
theorem dL_law_181 : decode cL_law 181 = .ok (.iload_n 3, 1) := by decide +kernel
theorem dL_law_182 : decode cL_law 182 = .ok (.iconst 2, 1) := by decide +kernel
theorem dL_law_183 : decode cL_law 183 = .ok (.iadd, 1) := by decide +kernel
theorem dL_law_184 : decode cL_law 184 = .ok (.iaload, 1) := by decide +kernel
theorem dL_law_185 : decode cL_law 185 = .ok (.i2l, 1) := by decide +kernel
theorem dL_law_186 : decode cL_law 186 = .ok (.ldc2_w 13, 3) := by decide +kernel
theorem dL_law_189 : decode cL_law 189 = .ok (.land, 1) := by decide +kernel
theorem dL_law_190 : decode cL_law 190 = .ok (.lor, 1) := by decide +kernel
theorem dL_law_191 : decode cL_law 191 = .ok (.aload_n 0, 1) := by decide +kernel
theorem dL_law_192 : decode cL_law 192 = .ok (.iload_n 3, 1) := by decide +kernel
theorem dL_law_193 : decode cL_law 193 = .ok (.iconst 3, 1) := by decide +kernel
theorem dL_law_194 : decode cL_law 194 = .ok (.iadd, 1) := by decide +kernel
theorem dL_law_195 : decode cL_law 195 = .ok (.iaload, 1) := by decide +kernel
theorem dL_law_196 : decode cL_law 196 = .ok (.invokevirtual 19, 3) := by decide +kernel
theorem dL_law_199 : decode cL_law 199 = .ok (.pop, 1) := by decide +kernel
theorem dL_law_200 : decode cL_law 200 = .ok (.goto 629, 3) := by decide +kernel
theorem dL_law_203 : decode cL_law 203 = .ok (.aload_n 1, 1) := by decide +kernel
theorem dL_law_204 : decode cL_law 204 = .ok (.invokevirtual 20, 3) := by decide +kernel
theorem dL_law_207 : decode cL_law 207 = .ok (.pop, 1) := by decide +kernel
theorem dL_law_208 : decode cL_law 208 = .ok (.aload_n 2, 1) := by decide +kernel
theorem dL_law_209 : decode cL_law 209 = .ok (.invokevirtual 24, 3) := by decide +kernel
theorem dL_law_212 : decode cL_law 212 = .ok (.pop, 1) := by decide +kernel
theorem dL_law_213 : decode cL_law 213 = .ok (.goto 616, 3) := by decide +kernel
theorem dL_law_216 : decode cL_law 216 = .ok (.aload_n 1, 1) := by decide +kernel
theorem dL_law_217 : decode cL_law 217 = .ok (.aload_n 0, 1) := by decide +kernel
theorem dL_law_218 : decode cL_law 218 = .ok (.iload_n 3, 1) := by decide +kernel
theorem dL_law_219 : decode cL_law 219 = .ok (.iconst 1, 1) := by decide +kernel
theorem dL_law_220 : decode cL_law 220 = .ok (.iadd, 1) := by decide +kernel
theorem dL_law_221 : decode cL_law 221 = .ok (.iaload, 1) := by decide +kernel
theorem dL_law_222 : decode cL_law 222 = .ok (.invokevirtual 25, 3) := by decide +kernel
theorem dL_law_225 : decode cL_law 225 = .ok (.pop, 1) := by decide +kernel
theorem dL_law_226 : decode cL_law 226 = .ok (.aload_n 2, 1) := by decide +kernel
theorem dL_law_227 : decode cL_law 227 = .ok (.aload_n 0, 1) := by decide +kernel
theorem dL_law_228 : decode cL_law 228 = .ok (.iload_n 3, 1) := by decide +kernel
theorem dL_law_229 : decode cL_law 229 = .ok (.iconst 1, 1) := by decide +kernel
theorem dL_law_230 : decode cL_law 230 = .ok (.iadd, 1) := by decide +kernel
theorem dL_law_231 : decode cL_law 231 = .ok (.iaload, 1) := by decide +kernel
theorem dL_law_232 : decode cL_law 232 = .ok (.invokevirtual 29, 3) := by decide +kernel
theorem dL_law_235 : decode cL_law 235 = .ok (.pop, 1) := by decide +kernel
theorem dL_law_236 : decode cL_law 236 = .ok (.goto 593, 3) := by decide +kernel
theorem dL_law_239 : decode cL_law 239 = .ok (.aload_n 1, 1) := by decide +kernel
theorem dL_law_240 : decode cL_law 240 = .ok (.aload_n 0, 1) := by decide +kernel
theorem dL_law_241 : decode cL_law 241 = .ok (.iload_n 3, 1) := by decide +kernel
theorem dL_law_242 : decode cL_law 242 = .ok (.iconst 1, 1) := by decide +kernel
theorem dL_law_243 : decode cL_law 243 = .ok (.iadd, 1) := by decide +kernel
theorem dL_law_244 : decode cL_law 244 = .ok (.iaload, 1) := by decide +kernel
theorem dL_law_245 : decode cL_law 245 = .ok (.aload_n 0, 1) := by decide +kernel
theorem dL_law_246 : decode cL_law 246 = .ok (.iload_n 3, 1) := by decide +kernel
theorem dL_law_247 : decode cL_law 247 = .ok (.iconst 2, 1) := by decide +kernel
theorem dL_law_248 : decode cL_law 248 = .ok (.iadd, 1) := by decide +kernel
theorem dL_law_249 : decode cL_law 249 = .ok (.iaload, 1) := by decide +kernel
theorem dL_law_250 : decode cL_law 250 = .ok (.aload_n 0, 1) := by decide +kernel
theorem dL_law_251 : decode cL_law 251 = .ok (.iload_n 3, 1) := by decide +kernel
theorem dL_law_252 : decode cL_law 252 = .ok (.iconst 3, 1) := by decide +kernel
theorem dL_law_253 : decode cL_law 253 = .ok (.iadd, 1) := by decide +kernel
theorem dL_law_254 : decode cL_law 254 = .ok (.iaload, 1) := by decide +kernel
theorem dL_law_255 : decode cL_law 255 = .ok (.invokevirtual 30, 3) := by decide +kernel
theorem dL_law_258 : decode cL_law 258 = .ok (.pop, 1) := by decide +kernel
theorem dL_law_259 : decode cL_law 259 = .ok (.aload_n 2, 1) := by decide +kernel
theorem dL_law_260 : decode cL_law 260 = .ok (.aload_n 0, 1) := by decide +kernel
theorem dL_law_261 : decode cL_law 261 = .ok (.iload_n 3, 1) := by decide +kernel
theorem dL_law_262 : decode cL_law 262 = .ok (.iconst 1, 1) := by decide +kernel
theorem dL_law_263 : decode cL_law 263 = .ok (.iadd, 1) := by decide +kernel
theorem dL_law_264 : decode cL_law 264 = .ok (.iaload, 1) := by decide +kernel
theorem dL_law_265 : decode cL_law 265 = .ok (.aload_n 0, 1) := by decide +kernel
theorem dL_law_266 : decode cL_law 266 = .ok (.iload_n 3, 1) := by decide +kernel
theorem dL_law_267 : decode cL_law 267 = .ok (.iconst 2, 1) := by decide +kernel
theorem dL_law_268 : decode cL_law 268 = .ok (.iadd, 1) := by decide +kernel
theorem dL_law_269 : decode cL_law 269 = .ok (.iaload, 1) := by decide +kernel
theorem dL_law_270 : decode cL_law 270 = .ok (.aload_n 0, 1) := by decide +kernel
theorem dL_law_271 : decode cL_law 271 = .ok (.iload_n 3, 1) := by decide +kernel
theorem dL_law_272 : decode cL_law 272 = .ok (.iconst 3, 1) := by decide +kernel
theorem dL_law_273 : decode cL_law 273 = .ok (.iadd, 1) := by decide +kernel
theorem dL_law_274 : decode cL_law 274 = .ok (.iaload, 1) := by decide +kernel
theorem dL_law_275 : decode cL_law 275 = .ok (.invokevirtual 34, 3) := by decide +kernel
theorem dL_law_278 : decode cL_law 278 = .ok (.pop, 1) := by decide +kernel
theorem dL_law_279 : decode cL_law 279 = .ok (.goto 550, 3) := by decide +kernel
theorem dL_law_282 : decode cL_law 282 = .ok (.aload_n 1, 1) := by decide +kernel
theorem dL_law_283 : decode cL_law 283 = .ok (.aload_n 0, 1) := by decide +kernel
theorem dL_law_284 : decode cL_law 284 = .ok (.iload_n 3, 1) := by decide +kernel
theorem dL_law_285 : decode cL_law 285 = .ok (.iconst 1, 1) := by decide +kernel
theorem dL_law_286 : decode cL_law 286 = .ok (.iadd, 1) := by decide +kernel
theorem dL_law_287 : decode cL_law 287 = .ok (.iaload, 1) := by decide +kernel
theorem dL_law_288 : decode cL_law 288 = .ok (.aload_n 0, 1) := by decide +kernel
theorem dL_law_289 : decode cL_law 289 = .ok (.iload_n 3, 1) := by decide +kernel
theorem dL_law_290 : decode cL_law 290 = .ok (.iconst 2, 1) := by decide +kernel
theorem dL_law_291 : decode cL_law 291 = .ok (.iadd, 1) := by decide +kernel
theorem dL_law_292 : decode cL_law 292 = .ok (.iaload, 1) := by decide +kernel
theorem dL_law_293 : decode cL_law 293 = .ok (.invokevirtual 35, 3) := by decide +kernel
theorem dL_law_296 : decode cL_law 296 = .ok (.pop, 1) := by decide +kernel
theorem dL_law_297 : decode cL_law 297 = .ok (.aload_n 2, 1) := by decide +kernel
theorem dL_law_298 : decode cL_law 298 = .ok (.aload_n 0, 1) := by decide +kernel
theorem dL_law_299 : decode cL_law 299 = .ok (.iload_n 3, 1) := by decide +kernel
theorem dL_law_300 : decode cL_law 300 = .ok (.iconst 1, 1) := by decide +kernel
theorem dL_law_301 : decode cL_law 301 = .ok (.iadd, 1) := by decide +kernel
theorem dL_law_302 : decode cL_law 302 = .ok (.iaload, 1) := by decide +kernel
theorem dL_law_303 : decode cL_law 303 = .ok (.aload_n 0, 1) := by decide +kernel
theorem dL_law_304 : decode cL_law 304 = .ok (.iload_n 3, 1) := by decide +kernel
theorem dL_law_305 : decode cL_law 305 = .ok (.iconst 2, 1) := by decide +kernel
theorem dL_law_306 : decode cL_law 306 = .ok (.iadd, 1) := by decide +kernel
theorem dL_law_307 : decode cL_law 307 = .ok (.iaload, 1) := by decide +kernel
theorem dL_law_308 : decode cL_law 308 = .ok (.invokevirtual 39, 3) := by decide +kernel
theorem dL_law_311 : decode cL_law 311 = .ok (.pop, 1) := by decide +kernel
theorem dL_law_312 : decode cL_law 312 = .ok (.goto 517, 3) := by decide +kernel
theorem dL_law_315 : decode cL_law 315 = .ok (.aload_n 1, 1) := by decide +kernel
theorem dL_law_316 : decode cL_law 316 = .ok (.aload_n 0, 1) := by decide +kernel
theorem dL_law_317 : decode cL_law 317 = .ok (.iload_n 3, 1) := by decide +kernel
theorem dL_law_318 : decode cL_law 318 = .ok (.iconst 1, 1) := by decide +kernel
theorem dL_law_319 : decode cL_law 319 = .ok (.iadd, 1) := by decide +kernel
theorem dL_law_320 : decode cL_law 320 = .ok (.iaload, 1) := by decide +kernel
theorem dL_law_321 : decode cL_law 321 = .ok (.aload_n 0, 1) := by decide +kernel
theorem dL_law_322 : decode cL_law 322 = .ok (.iload_n 3, 1) := by decide +kernel
theorem dL_law_323 : decode cL_law 323 = .ok (.iconst 2, 1) := by decide +kernel
theorem dL_law_324 : decode cL_law 324 = .ok (.iadd, 1) := by decide +kernel
theorem dL_law_325 : decode cL_law 325 = .ok (.iaload, 1) := by decide +kernel
theorem dL_law_326 : decode cL_law 326 = .ok (.aload_n 0, 1) := by decide +kernel
theorem dL_law_327 : decode cL_law 327 = .ok (.iload_n 3, 1) := by decide +kernel
theorem dL_law_328 : decode cL_law 328 = .ok (.iconst 3, 1) := by decide +kernel
theorem dL_law_329 : decode cL_law 329 = .ok (.iadd, 1) := by decide +kernel
theorem dL_law_330 : decode cL_law 330 = .ok (.iaload, 1) := by decide +kernel
theorem dL_law_331 : decode cL_law 331 = .ok (.invokevirtual 40, 3) := by decide +kernel
theorem dL_law_334 : decode cL_law 334 = .ok (.pop, 1) := by decide +kernel
theorem dL_law_335 : decode cL_law 335 = .ok (.aload_n 2, 1) := by decide +kernel
theorem dL_law_336 : decode cL_law 336 = .ok (.aload_n 0, 1) := by decide +kernel
theorem dL_law_337 : decode cL_law 337 = .ok (.iload_n 3, 1) := by decide +kernel
theorem dL_law_338 : decode cL_law 338 = .ok (.iconst 1, 1) := by decide +kernel
theorem dL_law_339 : decode cL_law 339 = .ok (.iadd, 1) := by decide +kernel
theorem dL_law_340 : decode cL_law 340 = .ok (.iaload, 1) := by decide +kernel
theorem dL_law_341 : decode cL_law 341 = .ok (.aload_n 0, 1) := by decide +kernel
theorem dL_law_342 : decode cL_law 342 = .ok (.iload_n 3, 1) := by decide +kernel
theorem dL_law_343 : decode cL_law 343 = .ok (.iconst 2, 1) := by decide +kernel
theorem dL_law_344 : decode cL_law 344 = .ok (.iadd, 1) := by decide +kernel
theorem dL_law_345 : decode cL_law 345 = .ok (.iaload, 1) := by decide +kernel
theorem dL_law_346 : decode cL_law 346 = .ok (.aload_n 0, 1) := by decide +kernel
theorem dL_law_347 : decode cL_law 347 = .ok (.iload_n 3, 1) := by decide +kernel
theorem dL_law_348 : decode cL_law 348 = .ok (.iconst 3, 1) := by decide +kernel
theorem dL_law_349 : decode cL_law 349 = .ok (.iadd, 1) := by decide +kernel
theorem dL_law_350 : decode cL_law 350 = .ok (.iaload, 1) := by decide +kernel
theorem dL_law_351 : decode cL_law 351 = .ok (.invokevirtual 43, 3) := by decide +kernel
theorem dL_law_354 : decode cL_law 354 = .ok (.pop, 1) := by decide +kernel
theorem dL_law_355 : decode cL_law 355 = .ok (.goto 474, 3) := by decide +kernel
theorem dL_law_358 : decode cL_law 358 = .ok (.aload_n 1, 1) := by decide +kernel
theorem dL_law_359 : decode cL_law 359 = .ok (.aload_n 0, 1) := by decide +kernel
theorem dL_law_360 : decode cL_law 360 = .ok (.iload_n 3, 1) := by decide +kernel
theorem dL_law_361 : decode cL_law 361 = .ok (.iconst 1, 1) := by decide +kernel
theorem dL_law_362 : decode cL_law 362 = .ok (.iadd, 1) := by decide +kernel
theorem dL_law_363 : decode cL_law 363 = .ok (.iaload, 1) := by decide +kernel
theorem dL_law_364 : decode cL_law 364 = .ok (.aload_n 0, 1) := by decide +kernel
theorem dL_law_365 : decode cL_law 365 = .ok (.iload_n 3, 1) := by decide +kernel
theorem dL_law_366 : decode cL_law 366 = .ok (.iconst 2, 1) := by decide +kernel
theorem dL_law_367 : decode cL_law 367 = .ok (.iadd, 1) := by decide +kernel
theorem dL_law_368 : decode cL_law 368 = .ok (.iaload, 1) := by decide +kernel
theorem dL_law_369 : decode cL_law 369 = .ok (.invokevirtual 44, 3) := by decide +kernel
theorem dL_law_372 : decode cL_law 372 = .ok (.pop, 1) := by decide +kernel
theorem dL_law_373 : decode cL_law 373 = .ok (.aload_n 2, 1) := by decide +kernel
theorem dL_law_374 : decode cL_law 374 = .ok (.aload_n 0, 1) := by decide +kernel
theorem dL_law_375 : decode cL_law 375 = .ok (.iload_n 3, 1) := by decide +kernel
theorem dL_law_376 : decode cL_law 376 = .ok (.iconst 1, 1) := by decide +kernel
theorem dL_law_377 : decode cL_law 377 = .ok (.iadd, 1) := by decide +kernel
theorem dL_law_378 : decode cL_law 378 = .ok (.iaload, 1) := by decide +kernel
theorem dL_law_379 : decode cL_law 379 = .ok (.aload_n 0, 1) := by decide +kernel
theorem dL_law_380 : decode cL_law 380 = .ok (.iload_n 3, 1) := by decide +kernel
theorem dL_law_381 : decode cL_law 381 = .ok (.iconst 2, 1) := by decide +kernel
theorem dL_law_382 : decode cL_law 382 = .ok (.iadd, 1) := by decide +kernel
theorem dL_law_383 : decode cL_law 383 = .ok (.iaload, 1) := by decide +kernel
theorem dL_law_384 : decode cL_law 384 = .ok (.invokevirtual 47, 3) := by decide +kernel
theorem dL_law_387 : decode cL_law 387 = .ok (.pop, 1) := by decide +kernel
theorem dL_law_388 : decode cL_law 388 = .ok (.goto 441, 3) := by decide +kernel
theorem dL_law_391 : decode cL_law 391 = .ok (.aload_n 1, 1) := by decide +kernel
theorem dL_law_392 : decode cL_law 392 = .ok (.aload_n 0, 1) := by decide +kernel
theorem dL_law_393 : decode cL_law 393 = .ok (.iload_n 3, 1) := by decide +kernel
theorem dL_law_394 : decode cL_law 394 = .ok (.iconst 1, 1) := by decide +kernel
theorem dL_law_395 : decode cL_law 395 = .ok (.iadd, 1) := by decide +kernel
theorem dL_law_396 : decode cL_law 396 = .ok (.iaload, 1) := by decide +kernel
theorem dL_law_397 : decode cL_law 397 = .ok (.aload_n 0, 1) := by decide +kernel
theorem dL_law_398 : decode cL_law 398 = .ok (.iload_n 3, 1) := by decide +kernel
theorem dL_law_399 : decode cL_law 399 = .ok (.iconst 2, 1) := by decide +kernel
theorem dL_law_400 : decode cL_law 400 = .ok (.iadd, 1) := by decide +kernel
theorem dL_law_401 : decode cL_law 401 = .ok (.iaload, 1) := by decide +kernel
theorem dL_law_402 : decode cL_law 402 = .ok (.aload_n 0, 1) := by decide +kernel
theorem dL_law_403 : decode cL_law 403 = .ok (.iload_n 3, 1) := by decide +kernel
theorem dL_law_404 : decode cL_law 404 = .ok (.iconst 3, 1) := by decide +kernel
theorem dL_law_405 : decode cL_law 405 = .ok (.iadd, 1) := by decide +kernel
theorem dL_law_406 : decode cL_law 406 = .ok (.iaload, 1) := by decide +kernel
theorem dL_law_407 : decode cL_law 407 = .ok (.invokevirtual 48, 3) := by decide +kernel
theorem dL_law_410 : decode cL_law 410 = .ok (.pop, 1) := by decide +kernel
theorem dL_law_411 : decode cL_law 411 = .ok (.aload_n 2, 1) := by decide +kernel
theorem dL_law_412 : decode cL_law 412 = .ok (.aload_n 0, 1) := by decide +kernel
theorem dL_law_413 : decode cL_law 413 = .ok (.iload_n 3, 1) := by decide +kernel
theorem dL_law_414 : decode cL_law 414 = .ok (.iconst 1, 1) := by decide +kernel
theorem dL_law_415 : decode cL_law 415 = .ok (.iadd, 1) := by decide +kernel
theorem dL_law_416 : decode cL_law 416 = .ok (.iaload, 1) := by decide +kernel
theorem dL_law_417 : decode cL_law 417 = .ok (.aload_n 0, 1) := by decide +kernel
theorem dL_law_418 : decode cL_law 418 = .ok (.iload_n 3, 1) := by decide +kernel
theorem dL_law_419 : decode cL_law 419 = .ok (.iconst 2, 1) := by decide +kernel
theorem dL_law_420 : decode cL_law 420 = .ok (.iadd, 1) := by decide +kernel
theorem dL_law_421 : decode cL_law 421 = .ok (.iaload, 1) := by decide +kernel
theorem dL_law_422 : decode cL_law 422 = .ok (.aload_n 0, 1) := by decide +kernel
theorem dL_law_423 : decode cL_law 423 = .ok (.iload_n 3, 1) := by decide +kernel
theorem dL_law_424 : decode cL_law 424 = .ok (.iconst 3, 1) := by decide +kernel
theorem dL_law_425 : decode cL_law 425 = .ok (.iadd, 1) := by decide +kernel
theorem dL_law_426 : decode cL_law 426 = .ok (.iaload, 1) := by decide +kernel
theorem dL_law_427 : decode cL_law 427 = .ok (.invokevirtual 51, 3) := by decide +kernel
theorem dL_law_430 : decode cL_law 430 = .ok (.pop, 1) := by decide +kernel
theorem dL_law_431 : decode cL_law 431 = .ok (.goto 398, 3) := by decide +kernel
set_option maxHeartbeats 4000000 in
set_option maxRecDepth 100000 in
/-- feed -/
theorem law_0 {p : Program} {l : Launch} {e : Env} {s : State} {m : MethodId} {below : List Frame} {meth : Method} {c : Code} {D : va_G} {cI cZ cS cR : ClassId} {N0 : NT} {b L : Nat} {xs : Nat → Int32} (hB : Tz p s m meth c #[Value.ref b] code 4 RL D cI cZ cS cR N0) (hAs : N0.1 = s.heap.size) (hX : va_X b L xs s s.heap) (hbl : b < s.heap.size) (hL : L ≤ 2560) (hr : meth.sig.returnType = ret) {cells slots : Nat} (hcl : cells + 4 ≤ 600000) (hsl : slots + 28 ≤ 7302250) {H : Heap} {locs : List Loc} {ls : Array Slot} (g : GS) (ox om : Nat) (i z o1 : Int32) (hT : Tv D cI cZ cS cR N0 s.heap H locs g) (hI : Inv g) (l_i : 0 ≤ i.toInt) (u_i : i.toInt + 5 ≤ L) : g.1 ox = 7 → g.1 om = 8 → g.2.1 ox 6 = .int z → g.2.1 om 34 = .int z → 0 ≤ z.toInt → z.toInt ≤ 1 → g.2.1 om 22 = .int o1 → 0 ≤ o1.toInt → o1.toInt ≤ 12 * i.toInt → PX 48 2 3 71 72 g om → PX 8 39 40 84 85 g om → (hl : lv_has ls 4 [(3, .int i), (2, .ref om), (1, .ref ox), (0, .ref b)]) → (K : ∀ (g1 : GS) (z1 o2 : Int32) (H1 : Heap) (locs1 : List Loc), Tv D cI cZ cS cR N0 s.heap H1 locs1 g1 → Inv g1 → g1.1 ox = 7 → g1.1 om = 8 → g1.2.1 ox 6 = .int z1 → g1.2.1 om 34 = .int z1 → 0 ≤ z1.toInt → z1.toInt ≤ 1 → g1.2.1 om 22 = .int o2 → 0 ≤ o2.toInt → o2.toInt ≤ 12 * i.toInt + 60 → PX 48 2 3 71 72 g1 om → PX 8 39 40 84 85 g1 om → W p l e room_1 s m #[Value.ref b] below meth c H1 locs1 (cells + 4) (slots + 28) (lw_Z below #[Value.ref b] s) (F0 m 829 ls [])) → W p l e room_1 s m #[Value.ref b] below meth c H locs cells slots (lw_Z below #[Value.ref b] s) (F0 m 140 ls []) := by
  intro r_ox r_om kz kz2 l_z u_z ko l_o u_o hw hN0 hl K
  have hx := hB.1
  have hb := hB.2.1
  have hE : Ex g g := Ex.rf
  have hM : Sm mdA g g := sm_all
  refine lv_aload_n hx hb dL_law_140 rfl (lv_at hl 2 rfl) ?_
  refine lv_aload_n hx hb dL_law_141 rfl (lv_at hl 3 rfl) ?_
  refine lv_iload_n hx hb dL_law_142 rfl (lv_at hl 0 rfl) ?_
  refine lv_iconst (v := 1) hx hb dL_law_143 (by decide) ?_
  refine lv_iadd hx hb dL_law_144 ?_
  refine lv_topi (fun z_1 ez_1 => ?_)
  have e_z_1 : z_1.toInt = i.toInt + 1 := i_add ez_1 rfl (by decide) (by omega) (by omega)
  refine va_sld hx hb hX hbl (fun q => by have q_ : N0.1 ≤ b := q; omega) hT.2 (i_in (n := L) rfl (by omega) (by omega)) dL_law_145 ?_
  refine lv_topi (fun u_2 e_u_2 => ?_)
  refine lv_i2l hx hb dL_law_146 rfl ?_
  refine lv_topl (fun z_3 ez_3 => ?_)
  refine lv_bipush (v := 32) hx hb dL_law_147 (by decide) ?_
  refine lv_lshl hx hb dL_law_149 rfl ?_
  refine lv_topl (fun z_4 ez_4 => ?_)
  refine lv_aload_n hx hb dL_law_150 rfl (lv_at hl 3 rfl) ?_
  refine lv_iload_n hx hb dL_law_151 rfl (lv_at hl 0 rfl) ?_
  refine lv_iconst (v := 2) hx hb dL_law_152 (by decide) ?_
  refine lv_iadd hx hb dL_law_153 ?_
  refine lv_topi (fun z_5 ez_5 => ?_)
  have e_z_5 : z_5.toInt = i.toInt + 2 := i_add ez_5 rfl (by decide) (by omega) (by omega)
  refine va_sld hx hb hX hbl (fun q => by have q_ : N0.1 ≤ b := q; omega) hT.2 (i_in (n := L) rfl (by omega) (by omega)) dL_law_154 ?_
  refine lv_topi (fun u_6 e_u_6 => ?_)
  refine lv_i2l hx hb dL_law_155 rfl ?_
  refine lv_topl (fun z_7 ez_7 => ?_)
  refine lv_ldc2 (v := 4294967295) hx hb hB.2.2.2.1 (hB.2.2.2.2.1 _ k_1190) dL_law_156 ?_
  refine lv_land hx hb dL_law_159 ?_
  refine lv_topl (fun z_8 ez_8 => ?_)
  refine lv_lor hx hb dL_law_160 ?_
  refine lv_topl (fun z_9 ez_9 => ?_)
  refine lv_aload_n hx hb dL_law_161 rfl (lv_at hl 3 rfl) ?_
  refine lv_iload_n hx hb dL_law_162 rfl (lv_at hl 0 rfl) ?_
  refine lv_iconst (v := 3) hx hb dL_law_163 (by decide) ?_
  refine lv_iadd hx hb dL_law_164 ?_
  refine lv_topi (fun z_10 ez_10 => ?_)
  have e_z_10 : z_10.toInt = i.toInt + 3 := i_add ez_10 rfl (by decide) (by omega) (by omega)
  refine va_sld hx hb hX hbl (fun q => by have q_ : N0.1 ≤ b := q; omega) hT.2 (i_in (n := L) rfl (by omega) (by omega)) dL_law_165 ?_
  refine lv_topi (fun u_11 e_u_11 => ?_)
  refine t_callV (n := 2) (As := [.long z_9, .int u_11]) (rest := []) (ci := 6) hB hT hl.1 (P_feed l D cI cZ cS cR N0 g hI ox z_9 u_11 r_ox) (ro_ci r_ox rfl) rfl k_333 k_57 k_330 k_331 k_332 (by decide +kernel) ⟨(Nat.le_of_ble_eq_true rfl), (Nat.le_of_ble_eq_true rfl)⟩ rfl (Nat.le_of_ble_eq_true rfl) ⟨(by show _ ≤ _; first | exact Nat.le_of_ble_eq_true rfl | (simp only [room_1]; omega)), (by show _ ≤ _; first | exact Nat.le_of_ble_eq_true rfl | (simp only [room_1]; omega))⟩ dL_law_166 (fun v g_12 H locs hp hT => ?_)
  obtain ⟨r_13, rfl, hI, x_15, m_14⟩ := hp
  have hw : PX 48 2 3 71 72 g_12 om := hw.mono m_14 x_15 r_om (by decide) (by decide) rfl rfl rfl rfl
  have hN0 : PX 8 39 40 84 85 g_12 om := hN0.mono m_14 x_15 r_om (by decide) (by decide) rfl rfl rfl rfl
  have hM : Sm mdA g g_12 := sm_all
  have hE : Ex g g_12 := hE.tr x_15
  have r_16 : g_12.1 ox = 7 := (Ex.r x_15 r_ox (by decide))
  have r_17 : g_12.1 om = 8 := (Ex.r x_15 r_om (by decide))
  have kn_18 : g_12.2.1 ox 6 = .int z := (Sm.v m_14 r_ox (by decide) rfl kz)
  have kn_19 : g_12.2.1 om 34 = .int z := (Sm.v m_14 r_om (by decide) rfl kz2)
  have kn_20 : g_12.2.1 om 22 = .int o1 := (Sm.v m_14 r_om (by decide) rfl ko)
  refine W.eq (g2 := F0 m 169 ls [.int r_13]) rfl ?_
  refine lv_pop hx hb dL_law_169 rfl ?_
  refine lv_aload_n hx hb dL_law_170 rfl (lv_at hl 1 rfl) ?_
  refine lv_aload_n hx hb dL_law_171 rfl (lv_at hl 3 rfl) ?_
  refine lv_iload_n hx hb dL_law_172 rfl (lv_at hl 0 rfl) ?_
  refine lv_iconst (v := 1) hx hb dL_law_173 (by decide) ?_
  refine lv_iadd hx hb dL_law_174 ?_
  refine lv_topi (fun z_21 ez_21 => ?_)
  have e_z_21 : z_21.toInt = i.toInt + 1 := i_add ez_21 rfl (by decide) (by omega) (by omega)
  refine va_sld hx hb hX hbl (fun q => by have q_ : N0.1 ≤ b := q; omega) hT.2 (i_in (n := L) rfl (by omega) (by omega)) dL_law_175 ?_
  refine lv_topi (fun u_22 e_u_22 => ?_)
  refine lv_i2l hx hb dL_law_176 rfl ?_
  refine lv_topl (fun z_23 ez_23 => ?_)
  refine lv_bipush (v := 32) hx hb dL_law_177 (by decide) ?_
  refine lv_lshl hx hb dL_law_179 rfl ?_
  refine lv_topl (fun z_24 ez_24 => ?_)
  refine lv_aload_n hx hb dL_law_180 rfl (lv_at hl 3 rfl) ?_
  refine lv_iload_n hx hb dL_law_181 rfl (lv_at hl 0 rfl) ?_
  refine lv_iconst (v := 2) hx hb dL_law_182 (by decide) ?_
  refine lv_iadd hx hb dL_law_183 ?_
  refine lv_topi (fun z_25 ez_25 => ?_)
  have e_z_25 : z_25.toInt = i.toInt + 2 := i_add ez_25 rfl (by decide) (by omega) (by omega)
  refine va_sld hx hb hX hbl (fun q => by have q_ : N0.1 ≤ b := q; omega) hT.2 (i_in (n := L) rfl (by omega) (by omega)) dL_law_184 ?_
  refine lv_topi (fun u_26 e_u_26 => ?_)
  refine lv_i2l hx hb dL_law_185 rfl ?_
  refine lv_topl (fun z_27 ez_27 => ?_)
  refine lv_ldc2 (v := 4294967295) hx hb hB.2.2.2.1 (hB.2.2.2.2.1 _ k_1190) dL_law_186 ?_
  refine lv_land hx hb dL_law_189 ?_
  refine lv_topl (fun z_28 ez_28 => ?_)
  refine lv_lor hx hb dL_law_190 ?_
  refine lv_topl (fun z_29 ez_29 => ?_)
  refine lv_aload_n hx hb dL_law_191 rfl (lv_at hl 3 rfl) ?_
  refine lv_iload_n hx hb dL_law_192 rfl (lv_at hl 0 rfl) ?_
  refine lv_iconst (v := 3) hx hb dL_law_193 (by decide) ?_
  refine lv_iadd hx hb dL_law_194 ?_
  refine lv_topi (fun z_30 ez_30 => ?_)
  have e_z_30 : z_30.toInt = i.toInt + 3 := i_add ez_30 rfl (by decide) (by omega) (by omega)
  refine va_sld hx hb hX hbl (fun q => by have q_ : N0.1 ≤ b := q; omega) hT.2 (i_in (n := L) rfl (by omega) (by omega)) dL_law_195 ?_
  refine lv_topi (fun u_31 e_u_31 => ?_)
  refine t_callV (n := 2) (As := [.long z_29, .int u_31]) (rest := []) (ci := 7) hB hT hl.1 (m_feed l D cI cZ cS cR N0 g_12 hI om z_29 u_31 r_17) (ro_ci r_17 rfl) rfl k_951 k_65 k_948 k_949 k_950 (by decide +kernel) ⟨(Nat.le_of_ble_eq_true rfl), (Nat.le_of_ble_eq_true rfl)⟩ rfl (Nat.le_of_ble_eq_true rfl) ⟨(by show _ ≤ _; first | exact Nat.le_of_ble_eq_true rfl | (simp only [room_1]; omega)), (by show _ ≤ _; first | exact Nat.le_of_ble_eq_true rfl | (simp only [room_1]; omega))⟩ dL_law_196 (fun v g_32 H locs hp hT => ?_)
  obtain ⟨r_33, rfl, hI, x_35, m_34⟩ := hp
  have hw : PX 48 2 3 71 72 g_32 om := hw.mono m_34 x_35 r_17 (by decide) (by decide) rfl rfl rfl rfl
  have hN0 : PX 8 39 40 84 85 g_32 om := hN0.mono m_34 x_35 r_17 (by decide) (by decide) rfl rfl rfl rfl
  have hM : Sm mdA g g_32 := sm_all
  have hE : Ex g g_32 := hE.tr x_35
  have r_36 : g_32.1 ox = 7 := (Ex.r x_35 r_16 (by decide))
  have r_37 : g_32.1 om = 8 := (Ex.r x_35 r_17 (by decide))
  have kn_38 : g_32.2.1 ox 6 = .int z := (Sm.v m_34 r_16 (by decide) rfl kn_18)
  have kn_39 : g_32.2.1 om 34 = .int z := (Sm.v m_34 r_17 (by decide) rfl kn_19)
  have kn_40 : g_32.2.1 om 22 = .int o1 := (Sm.v m_34 r_17 (by decide) rfl kn_20)
  refine W.eq (g2 := F0 m 199 ls [.int r_33]) rfl ?_
  refine lv_pop hx hb dL_law_199 rfl ?_
  refine lv_goto (tgt := 829) hx hb dL_law_200 (by decide) ?_
  refine W.widen (k := cells + 4) (n := slots + 28) (by omega) (by omega) ?_
  exact K g_32 z o1 H locs hT hI r_36 r_37 kn_38 kn_39 (by omega) (by omega) kn_40 (by have e0_ : (0 : Int32).toInt = 0 := (by decide); omega) (by have e0_ : (0 : Int32).toInt = 0 := (by decide); omega) hw hN0
set_option maxHeartbeats 4000000 in
set_option maxRecDepth 100000 in
/-- service -/
theorem law_1 {p : Program} {l : Launch} {e : Env} {s : State} {m : MethodId} {below : List Frame} {meth : Method} {c : Code} {D : va_G} {cI cZ cS cR : ClassId} {N0 : NT} {b L : Nat} {xs : Nat → Int32} (hB : Tz p s m meth c #[Value.ref b] code 4 RL D cI cZ cS cR N0) (hAs : N0.1 = s.heap.size) (hX : va_X b L xs s s.heap) (hbl : b < s.heap.size) (hL : L ≤ 2560) (hr : meth.sig.returnType = ret) {cells slots : Nat} (hcl : cells + 4 ≤ 600000) (hsl : slots + 28 ≤ 7302250) {H : Heap} {locs : List Loc} {ls : Array Slot} (g : GS) (ox om : Nat) (i z o1 : Int32) (hT : Tv D cI cZ cS cR N0 s.heap H locs g) (hI : Inv g) (l_i : 0 ≤ i.toInt) (u_i : i.toInt + 5 ≤ L) : g.1 ox = 7 → g.1 om = 8 → g.2.1 ox 6 = .int z → g.2.1 om 34 = .int z → 0 ≤ z.toInt → z.toInt ≤ 1 → g.2.1 om 22 = .int o1 → 0 ≤ o1.toInt → o1.toInt ≤ 12 * i.toInt → PX 48 2 3 71 72 g om → PX 8 39 40 84 85 g om → (hl : lv_has ls 4 [(3, .int i), (2, .ref om), (1, .ref ox), (0, .ref b)]) → (K : ∀ (g1 : GS) (z1 o2 : Int32) (H1 : Heap) (locs1 : List Loc), Tv D cI cZ cS cR N0 s.heap H1 locs1 g1 → Inv g1 → g1.1 ox = 7 → g1.1 om = 8 → g1.2.1 ox 6 = .int z1 → g1.2.1 om 34 = .int z1 → 0 ≤ z1.toInt → z1.toInt ≤ 1 → g1.2.1 om 22 = .int o2 → 0 ≤ o2.toInt → o2.toInt ≤ 12 * i.toInt + 60 → PX 48 2 3 71 72 g1 om → PX 8 39 40 84 85 g1 om → W p l e room_1 s m #[Value.ref b] below meth c H1 locs1 (cells + 4) (slots + 28) (lw_Z below #[Value.ref b] s) (F0 m 829 ls [])) → W p l e room_1 s m #[Value.ref b] below meth c H locs cells slots (lw_Z below #[Value.ref b] s) (F0 m 203 ls []) := by
  intro r_ox r_om kz kz2 l_z u_z ko l_o u_o hw hN0 hl K
  have hx := hB.1
  have hb := hB.2.1
  have hE : Ex g g := Ex.rf
  have hM : Sm mdA g g := sm_all
  refine lv_aload_n hx hb dL_law_203 rfl (lv_at hl 2 rfl) ?_
  refine t_callV (n := 0) (As := []) (rest := []) (ci := 6) hB hT hl.1 (P_service l D cI cZ cS cR N0 g hI ox r_ox) (ro_ci r_ox rfl) rfl k_342 k_57 k_339 k_340 k_341 (by decide +kernel) ⟨(Nat.le_of_ble_eq_true rfl), (Nat.le_of_ble_eq_true rfl)⟩ rfl (Nat.le_of_ble_eq_true rfl) ⟨(by show _ ≤ _; first | exact Nat.le_of_ble_eq_true rfl | (simp only [room_1]; omega)), (by show _ ≤ _; first | exact Nat.le_of_ble_eq_true rfl | (simp only [room_1]; omega))⟩ dL_law_204 (fun v g_1 H locs hp hT => ?_)
  obtain ⟨r_2, rfl, hI, x_4, m_3⟩ := hp
  have hw : PX 48 2 3 71 72 g_1 om := hw.mono m_3 x_4 r_om (by decide) (by decide) rfl rfl rfl rfl
  have hN0 : PX 8 39 40 84 85 g_1 om := hN0.mono m_3 x_4 r_om (by decide) (by decide) rfl rfl rfl rfl
  have hM : Sm mdA g g_1 := sm_all
  have hE : Ex g g_1 := hE.tr x_4
  have r_5 : g_1.1 ox = 7 := (Ex.r x_4 r_ox (by decide))
  have r_6 : g_1.1 om = 8 := (Ex.r x_4 r_om (by decide))
  have kn_7 : g_1.2.1 ox 6 = .int z := (Sm.v m_3 r_ox (by decide) rfl kz)
  have kn_8 : g_1.2.1 om 34 = .int z := (Sm.v m_3 r_om (by decide) rfl kz2)
  have kn_9 : g_1.2.1 om 22 = .int o1 := (Sm.v m_3 r_om (by decide) rfl ko)
  refine W.eq (g2 := F0 m 207 ls [.int r_2]) rfl ?_
  refine lv_pop hx hb dL_law_207 rfl ?_
  refine lv_aload_n hx hb dL_law_208 rfl (lv_at hl 1 rfl) ?_
  refine t_callV (n := 0) (As := []) (rest := []) (ci := 7) hB hT hl.1 (m_service l D cI cZ cS cR N0 g_1 hI om r_6 hw hN0) (ro_ci r_6 rfl) rfl k_959 k_65 k_956 k_957 k_958 (by decide +kernel) ⟨(Nat.le_of_ble_eq_true rfl), (Nat.le_of_ble_eq_true rfl)⟩ rfl (Nat.le_of_ble_eq_true rfl) ⟨(by show _ ≤ _; first | exact Nat.le_of_ble_eq_true rfl | (simp only [room_1]; omega)), (by show _ ≤ _; first | exact Nat.le_of_ble_eq_true rfl | (simp only [room_1]; omega))⟩ dL_law_209 (fun v g_10 H locs hp hT => ?_)
  obtain ⟨r_11, rfl, hI, x_15, m_14, f_12, f_13⟩ := hp
  have hM : Sm mdA g g_10 := sm_all
  have hE : Ex g g_10 := hE.tr x_15
  have r_16 : g_10.1 ox = 7 := (Ex.r x_15 r_5 (by decide))
  have r_17 : g_10.1 om = 8 := (Ex.r x_15 r_6 (by decide))
  have kn_18 : g_10.2.1 ox 6 = .int z := (Sm.v m_14 r_5 (by decide) rfl kn_7)
  have kn_19 : g_10.2.1 om 34 = .int z := (Sm.v m_14 r_6 (by decide) rfl kn_8)
  have kn_20 : g_10.2.1 om 22 = .int o1 := (Sm.v m_14 r_6 (by decide) rfl kn_9)
  refine W.eq (g2 := F0 m 212 ls [.int r_11]) rfl ?_
  have hw := f_12
  have hN0 := f_13
  refine lv_pop hx hb dL_law_212 rfl ?_
  refine lv_goto (tgt := 829) hx hb dL_law_213 (by decide) ?_
  refine W.widen (k := cells + 4) (n := slots + 28) (by omega) (by omega) ?_
  exact K g_10 z o1 H locs hT hI r_16 r_17 kn_18 kn_19 (by omega) (by omega) kn_20 (by have e0_ : (0 : Int32).toInt = 0 := (by decide); omega) (by have e0_ : (0 : Int32).toInt = 0 := (by decide); omega) hw hN0
set_option maxHeartbeats 4000000 in
set_option maxRecDepth 100000 in
/-- change -/
theorem law_2 {p : Program} {l : Launch} {e : Env} {s : State} {m : MethodId} {below : List Frame} {meth : Method} {c : Code} {D : va_G} {cI cZ cS cR : ClassId} {N0 : NT} {b L : Nat} {xs : Nat → Int32} (hB : Tz p s m meth c #[Value.ref b] code 4 RL D cI cZ cS cR N0) (hAs : N0.1 = s.heap.size) (hX : va_X b L xs s s.heap) (hbl : b < s.heap.size) (hL : L ≤ 2560) (hr : meth.sig.returnType = ret) {cells slots : Nat} (hcl : cells + 4 ≤ 600000) (hsl : slots + 28 ≤ 7302250) {H : Heap} {locs : List Loc} {ls : Array Slot} (g : GS) (ox om : Nat) (i z o1 : Int32) (hT : Tv D cI cZ cS cR N0 s.heap H locs g) (hI : Inv g) (l_i : 0 ≤ i.toInt) (u_i : i.toInt + 5 ≤ L) : g.1 ox = 7 → g.1 om = 8 → g.2.1 ox 6 = .int z → g.2.1 om 34 = .int z → 0 ≤ z.toInt → z.toInt ≤ 1 → g.2.1 om 22 = .int o1 → 0 ≤ o1.toInt → o1.toInt ≤ 12 * i.toInt → PX 48 2 3 71 72 g om → PX 8 39 40 84 85 g om → (hl : lv_has ls 4 [(3, .int i), (2, .ref om), (1, .ref ox), (0, .ref b)]) → (K : ∀ (g1 : GS) (z1 o2 : Int32) (H1 : Heap) (locs1 : List Loc), Tv D cI cZ cS cR N0 s.heap H1 locs1 g1 → Inv g1 → g1.1 ox = 7 → g1.1 om = 8 → g1.2.1 ox 6 = .int z1 → g1.2.1 om 34 = .int z1 → 0 ≤ z1.toInt → z1.toInt ≤ 1 → g1.2.1 om 22 = .int o2 → 0 ≤ o2.toInt → o2.toInt ≤ 12 * i.toInt + 60 → PX 48 2 3 71 72 g1 om → PX 8 39 40 84 85 g1 om → W p l e room_1 s m #[Value.ref b] below meth c H1 locs1 (cells + 4) (slots + 28) (lw_Z below #[Value.ref b] s) (F0 m 829 ls [])) → W p l e room_1 s m #[Value.ref b] below meth c H locs cells slots (lw_Z below #[Value.ref b] s) (F0 m 216 ls []) := by
  intro r_ox r_om kz kz2 l_z u_z ko l_o u_o hw hN0 hl K
  have hx := hB.1
  have hb := hB.2.1
  have hE : Ex g g := Ex.rf
  have hM : Sm mdA g g := sm_all
  refine lv_aload_n hx hb dL_law_216 rfl (lv_at hl 2 rfl) ?_
  refine lv_aload_n hx hb dL_law_217 rfl (lv_at hl 3 rfl) ?_
  refine lv_iload_n hx hb dL_law_218 rfl (lv_at hl 0 rfl) ?_
  refine lv_iconst (v := 1) hx hb dL_law_219 (by decide) ?_
  refine lv_iadd hx hb dL_law_220 ?_
  refine lv_topi (fun z_1 ez_1 => ?_)
  have e_z_1 : z_1.toInt = i.toInt + 1 := i_add ez_1 rfl (by decide) (by omega) (by omega)
  refine va_sld hx hb hX hbl (fun q => by have q_ : N0.1 ≤ b := q; omega) hT.2 (i_in (n := L) rfl (by omega) (by omega)) dL_law_221 ?_
  refine lv_topi (fun u_2 e_u_2 => ?_)
  refine t_callV (n := 1) (As := [.int u_2]) (rest := []) (ci := 6) hB hT hl.1 (P_change l D cI cZ cS cR N0 g hI ox u_2 r_ox) (ro_ci r_ox rfl) rfl k_432 k_57 k_429 k_430 k_431 (by decide +kernel) ⟨(Nat.le_of_ble_eq_true rfl), (Nat.le_of_ble_eq_true rfl)⟩ rfl (Nat.le_of_ble_eq_true rfl) ⟨(by show _ ≤ _; first | exact Nat.le_of_ble_eq_true rfl | (simp only [room_1]; omega)), (by show _ ≤ _; first | exact Nat.le_of_ble_eq_true rfl | (simp only [room_1]; omega))⟩ dL_law_222 (fun v g_3 H locs hp hT => ?_)
  obtain ⟨r_4, rfl, hI, x_6, m_5⟩ := hp
  have hw : PX 48 2 3 71 72 g_3 om := hw.mono m_5 x_6 r_om (by decide) (by decide) rfl rfl rfl rfl
  have hN0 : PX 8 39 40 84 85 g_3 om := hN0.mono m_5 x_6 r_om (by decide) (by decide) rfl rfl rfl rfl
  have hM : Sm mdA g g_3 := sm_all
  have hE : Ex g g_3 := hE.tr x_6
  have r_7 : g_3.1 ox = 7 := (Ex.r x_6 r_ox (by decide))
  have r_8 : g_3.1 om = 8 := (Ex.r x_6 r_om (by decide))
  have kn_9 : g_3.2.1 ox 6 = .int z := (Sm.v m_5 r_ox (by decide) rfl kz)
  have kn_10 : g_3.2.1 om 34 = .int z := (Sm.v m_5 r_om (by decide) rfl kz2)
  have kn_11 : g_3.2.1 om 22 = .int o1 := (Sm.v m_5 r_om (by decide) rfl ko)
  refine W.eq (g2 := F0 m 225 ls [.int r_4]) rfl ?_
  refine lv_pop hx hb dL_law_225 rfl ?_
  refine lv_aload_n hx hb dL_law_226 rfl (lv_at hl 1 rfl) ?_
  refine lv_aload_n hx hb dL_law_227 rfl (lv_at hl 3 rfl) ?_
  refine lv_iload_n hx hb dL_law_228 rfl (lv_at hl 0 rfl) ?_
  refine lv_iconst (v := 1) hx hb dL_law_229 (by decide) ?_
  refine lv_iadd hx hb dL_law_230 ?_
  refine lv_topi (fun z_12 ez_12 => ?_)
  have e_z_12 : z_12.toInt = i.toInt + 1 := i_add ez_12 rfl (by decide) (by omega) (by omega)
  refine va_sld hx hb hX hbl (fun q => by have q_ : N0.1 ≤ b := q; omega) hT.2 (i_in (n := L) rfl (by omega) (by omega)) dL_law_231 ?_
  refine lv_topi (fun u_13 e_u_13 => ?_)
  refine t_callV (n := 1) (As := [.int u_13]) (rest := []) (ci := 7) hB hT hl.1 (m_change l D cI cZ cS cR N0 g_3 hI om u_13 r_8 hw hN0) (ro_ci r_8 rfl) rfl k_987 k_65 k_984 k_985 k_986 (by decide +kernel) ⟨(Nat.le_of_ble_eq_true rfl), (Nat.le_of_ble_eq_true rfl)⟩ rfl (Nat.le_of_ble_eq_true rfl) ⟨(by show _ ≤ _; first | exact Nat.le_of_ble_eq_true rfl | (simp only [room_1]; omega)), (by show _ ≤ _; first | exact Nat.le_of_ble_eq_true rfl | (simp only [room_1]; omega))⟩ dL_law_232 (fun v g_14 H locs hp hT => ?_)
  obtain ⟨r_15, rfl, hI, x_19, m_18, f_16, f_17⟩ := hp
  have hM : Sm mdA g g_14 := sm_all
  have hE : Ex g g_14 := hE.tr x_19
  have r_20 : g_14.1 ox = 7 := (Ex.r x_19 r_7 (by decide))
  have r_21 : g_14.1 om = 8 := (Ex.r x_19 r_8 (by decide))
  have kn_22 : g_14.2.1 ox 6 = .int z := (Sm.v m_18 r_7 (by decide) rfl kn_9)
  have kn_23 : g_14.2.1 om 34 = .int z := (Sm.v m_18 r_8 (by decide) rfl kn_10)
  have kn_24 : g_14.2.1 om 22 = .int o1 := (Sm.v m_18 r_8 (by decide) rfl kn_11)
  refine W.eq (g2 := F0 m 235 ls [.int r_15]) rfl ?_
  have hw := f_16
  have hN0 := f_17
  refine lv_pop hx hb dL_law_235 rfl ?_
  refine lv_goto (tgt := 829) hx hb dL_law_236 (by decide) ?_
  refine W.widen (k := cells + 4) (n := slots + 28) (by omega) (by omega) ?_
  exact K g_14 z o1 H locs hT hI r_20 r_21 kn_22 kn_23 (by omega) (by omega) kn_24 (by have e0_ : (0 : Int32).toInt = 0 := (by decide); omega) (by have e0_ : (0 : Int32).toInt = 0 := (by decide); omega) hw hN0
set_option maxHeartbeats 4000000 in
set_option maxRecDepth 100000 in
/-- mend -/
theorem law_3 {p : Program} {l : Launch} {e : Env} {s : State} {m : MethodId} {below : List Frame} {meth : Method} {c : Code} {D : va_G} {cI cZ cS cR : ClassId} {N0 : NT} {b L : Nat} {xs : Nat → Int32} (hB : Tz p s m meth c #[Value.ref b] code 4 RL D cI cZ cS cR N0) (hAs : N0.1 = s.heap.size) (hX : va_X b L xs s s.heap) (hbl : b < s.heap.size) (hL : L ≤ 2560) (hr : meth.sig.returnType = ret) {cells slots : Nat} (hcl : cells + 4 ≤ 600000) (hsl : slots + 28 ≤ 7302250) {H : Heap} {locs : List Loc} {ls : Array Slot} (g : GS) (ox om : Nat) (i z o1 : Int32) (hT : Tv D cI cZ cS cR N0 s.heap H locs g) (hI : Inv g) (l_i : 0 ≤ i.toInt) (u_i : i.toInt + 5 ≤ L) : g.1 ox = 7 → g.1 om = 8 → g.2.1 ox 6 = .int z → g.2.1 om 34 = .int z → 0 ≤ z.toInt → z.toInt ≤ 1 → g.2.1 om 22 = .int o1 → 0 ≤ o1.toInt → o1.toInt ≤ 12 * i.toInt → PX 48 2 3 71 72 g om → PX 8 39 40 84 85 g om → (hl : lv_has ls 4 [(3, .int i), (2, .ref om), (1, .ref ox), (0, .ref b)]) → (K : ∀ (g1 : GS) (z1 o2 : Int32) (H1 : Heap) (locs1 : List Loc), Tv D cI cZ cS cR N0 s.heap H1 locs1 g1 → Inv g1 → g1.1 ox = 7 → g1.1 om = 8 → g1.2.1 ox 6 = .int z1 → g1.2.1 om 34 = .int z1 → 0 ≤ z1.toInt → z1.toInt ≤ 1 → g1.2.1 om 22 = .int o2 → 0 ≤ o2.toInt → o2.toInt ≤ 12 * i.toInt + 60 → PX 48 2 3 71 72 g1 om → PX 8 39 40 84 85 g1 om → W p l e room_1 s m #[Value.ref b] below meth c H1 locs1 (cells + 4) (slots + 28) (lw_Z below #[Value.ref b] s) (F0 m 829 ls [])) → W p l e room_1 s m #[Value.ref b] below meth c H locs cells slots (lw_Z below #[Value.ref b] s) (F0 m 239 ls []) := by
  intro r_ox r_om kz kz2 l_z u_z ko l_o u_o hw hN0 hl K
  have hx := hB.1
  have hb := hB.2.1
  have hE : Ex g g := Ex.rf
  have hM : Sm mdA g g := sm_all
  refine lv_aload_n hx hb dL_law_239 rfl (lv_at hl 2 rfl) ?_
  refine lv_aload_n hx hb dL_law_240 rfl (lv_at hl 3 rfl) ?_
  refine lv_iload_n hx hb dL_law_241 rfl (lv_at hl 0 rfl) ?_
  refine lv_iconst (v := 1) hx hb dL_law_242 (by decide) ?_
  refine lv_iadd hx hb dL_law_243 ?_
  refine lv_topi (fun z_1 ez_1 => ?_)
  have e_z_1 : z_1.toInt = i.toInt + 1 := i_add ez_1 rfl (by decide) (by omega) (by omega)
  refine va_sld hx hb hX hbl (fun q => by have q_ : N0.1 ≤ b := q; omega) hT.2 (i_in (n := L) rfl (by omega) (by omega)) dL_law_244 ?_
  refine lv_topi (fun u_2 e_u_2 => ?_)
  refine lv_aload_n hx hb dL_law_245 rfl (lv_at hl 3 rfl) ?_
  refine lv_iload_n hx hb dL_law_246 rfl (lv_at hl 0 rfl) ?_
  refine lv_iconst (v := 2) hx hb dL_law_247 (by decide) ?_
  refine lv_iadd hx hb dL_law_248 ?_
  refine lv_topi (fun z_3 ez_3 => ?_)
  have e_z_3 : z_3.toInt = i.toInt + 2 := i_add ez_3 rfl (by decide) (by omega) (by omega)
  refine va_sld hx hb hX hbl (fun q => by have q_ : N0.1 ≤ b := q; omega) hT.2 (i_in (n := L) rfl (by omega) (by omega)) dL_law_249 ?_
  refine lv_topi (fun u_4 e_u_4 => ?_)
  refine lv_aload_n hx hb dL_law_250 rfl (lv_at hl 3 rfl) ?_
  refine lv_iload_n hx hb dL_law_251 rfl (lv_at hl 0 rfl) ?_
  refine lv_iconst (v := 3) hx hb dL_law_252 (by decide) ?_
  refine lv_iadd hx hb dL_law_253 ?_
  refine lv_topi (fun z_5 ez_5 => ?_)
  have e_z_5 : z_5.toInt = i.toInt + 3 := i_add ez_5 rfl (by decide) (by omega) (by omega)
  refine va_sld hx hb hX hbl (fun q => by have q_ : N0.1 ≤ b := q; omega) hT.2 (i_in (n := L) rfl (by omega) (by omega)) dL_law_254 ?_
  refine lv_topi (fun u_6 e_u_6 => ?_)
  refine t_callV (n := 3) (As := [.int u_2, .int u_4, .int u_6]) (rest := []) (ci := 6) hB hT hl.1 (P_mend l D cI cZ cS cR N0 g hI ox u_2 u_4 u_6 r_ox) (ro_ci r_ox rfl) rfl k_440 k_57 k_437 k_438 k_439 (by decide +kernel) ⟨(Nat.le_of_ble_eq_true rfl), (Nat.le_of_ble_eq_true rfl)⟩ rfl (Nat.le_of_ble_eq_true rfl) ⟨(by show _ ≤ _; first | exact Nat.le_of_ble_eq_true rfl | (simp only [room_1]; omega)), (by show _ ≤ _; first | exact Nat.le_of_ble_eq_true rfl | (simp only [room_1]; omega))⟩ dL_law_255 (fun v g_7 H locs hp hT => ?_)
  obtain ⟨r_8, rfl, hI, x_10, m_9⟩ := hp
  have hw : PX 48 2 3 71 72 g_7 om := hw.mono m_9 x_10 r_om (by decide) (by decide) rfl rfl rfl rfl
  have hN0 : PX 8 39 40 84 85 g_7 om := hN0.mono m_9 x_10 r_om (by decide) (by decide) rfl rfl rfl rfl
  have hM : Sm mdA g g_7 := sm_all
  have hE : Ex g g_7 := hE.tr x_10
  have r_11 : g_7.1 ox = 7 := (Ex.r x_10 r_ox (by decide))
  have r_12 : g_7.1 om = 8 := (Ex.r x_10 r_om (by decide))
  have kn_13 : g_7.2.1 ox 6 = .int z := (Sm.v m_9 r_ox (by decide) rfl kz)
  have kn_14 : g_7.2.1 om 34 = .int z := (Sm.v m_9 r_om (by decide) rfl kz2)
  have kn_15 : g_7.2.1 om 22 = .int o1 := (Sm.v m_9 r_om (by decide) rfl ko)
  refine W.eq (g2 := F0 m 258 ls [.int r_8]) rfl ?_
  refine lv_pop hx hb dL_law_258 rfl ?_
  refine lv_aload_n hx hb dL_law_259 rfl (lv_at hl 1 rfl) ?_
  refine lv_aload_n hx hb dL_law_260 rfl (lv_at hl 3 rfl) ?_
  refine lv_iload_n hx hb dL_law_261 rfl (lv_at hl 0 rfl) ?_
  refine lv_iconst (v := 1) hx hb dL_law_262 (by decide) ?_
  refine lv_iadd hx hb dL_law_263 ?_
  refine lv_topi (fun z_16 ez_16 => ?_)
  have e_z_16 : z_16.toInt = i.toInt + 1 := i_add ez_16 rfl (by decide) (by omega) (by omega)
  refine va_sld hx hb hX hbl (fun q => by have q_ : N0.1 ≤ b := q; omega) hT.2 (i_in (n := L) rfl (by omega) (by omega)) dL_law_264 ?_
  refine lv_topi (fun u_17 e_u_17 => ?_)
  refine lv_aload_n hx hb dL_law_265 rfl (lv_at hl 3 rfl) ?_
  refine lv_iload_n hx hb dL_law_266 rfl (lv_at hl 0 rfl) ?_
  refine lv_iconst (v := 2) hx hb dL_law_267 (by decide) ?_
  refine lv_iadd hx hb dL_law_268 ?_
  refine lv_topi (fun z_18 ez_18 => ?_)
  have e_z_18 : z_18.toInt = i.toInt + 2 := i_add ez_18 rfl (by decide) (by omega) (by omega)
  refine va_sld hx hb hX hbl (fun q => by have q_ : N0.1 ≤ b := q; omega) hT.2 (i_in (n := L) rfl (by omega) (by omega)) dL_law_269 ?_
  refine lv_topi (fun u_19 e_u_19 => ?_)
  refine lv_aload_n hx hb dL_law_270 rfl (lv_at hl 3 rfl) ?_
  refine lv_iload_n hx hb dL_law_271 rfl (lv_at hl 0 rfl) ?_
  refine lv_iconst (v := 3) hx hb dL_law_272 (by decide) ?_
  refine lv_iadd hx hb dL_law_273 ?_
  refine lv_topi (fun z_20 ez_20 => ?_)
  have e_z_20 : z_20.toInt = i.toInt + 3 := i_add ez_20 rfl (by decide) (by omega) (by omega)
  refine va_sld hx hb hX hbl (fun q => by have q_ : N0.1 ≤ b := q; omega) hT.2 (i_in (n := L) rfl (by omega) (by omega)) dL_law_274 ?_
  refine lv_topi (fun u_21 e_u_21 => ?_)
  refine t_callV (n := 3) (As := [.int u_17, .int u_19, .int u_21]) (rest := []) (ci := 7) hB hT hl.1 (m_mend l D cI cZ cS cR N0 g_7 hI om u_17 u_19 u_21 r_12) (ro_ci r_12 rfl) rfl k_995 k_65 k_992 k_993 k_994 (by decide +kernel) ⟨(Nat.le_of_ble_eq_true rfl), (Nat.le_of_ble_eq_true rfl)⟩ rfl (Nat.le_of_ble_eq_true rfl) ⟨(by show _ ≤ _; first | exact Nat.le_of_ble_eq_true rfl | (simp only [room_1]; omega)), (by show _ ≤ _; first | exact Nat.le_of_ble_eq_true rfl | (simp only [room_1]; omega))⟩ dL_law_275 (fun v g_22 H locs hp hT => ?_)
  obtain ⟨r_23, rfl, hI, x_25, m_24⟩ := hp
  have hw : PX 48 2 3 71 72 g_22 om := hw.mono m_24 x_25 r_12 (by decide) (by decide) rfl rfl rfl rfl
  have hN0 : PX 8 39 40 84 85 g_22 om := hN0.mono m_24 x_25 r_12 (by decide) (by decide) rfl rfl rfl rfl
  have hM : Sm mdA g g_22 := sm_all
  have hE : Ex g g_22 := hE.tr x_25
  have r_26 : g_22.1 ox = 7 := (Ex.r x_25 r_11 (by decide))
  have r_27 : g_22.1 om = 8 := (Ex.r x_25 r_12 (by decide))
  have kn_28 : g_22.2.1 ox 6 = .int z := (Sm.v m_24 r_11 (by decide) rfl kn_13)
  have kn_29 : g_22.2.1 om 34 = .int z := (Sm.v m_24 r_12 (by decide) rfl kn_14)
  have kn_30 : g_22.2.1 om 22 = .int o1 := (Sm.v m_24 r_12 (by decide) rfl kn_15)
  refine W.eq (g2 := F0 m 278 ls [.int r_23]) rfl ?_
  refine lv_pop hx hb dL_law_278 rfl ?_
  refine lv_goto (tgt := 829) hx hb dL_law_279 (by decide) ?_
  refine W.widen (k := cells + 4) (n := slots + 28) (by omega) (by omega) ?_
  exact K g_22 z o1 H locs hT hI r_26 r_27 kn_28 kn_29 (by omega) (by omega) kn_30 (by have e0_ : (0 : Int32).toInt = 0 := (by decide); omega) (by have e0_ : (0 : Int32).toInt = 0 := (by decide); omega) hw hN0
set_option maxHeartbeats 4000000 in
set_option maxRecDepth 100000 in
/-- hold -/
theorem law_4 {p : Program} {l : Launch} {e : Env} {s : State} {m : MethodId} {below : List Frame} {meth : Method} {c : Code} {D : va_G} {cI cZ cS cR : ClassId} {N0 : NT} {b L : Nat} {xs : Nat → Int32} (hB : Tz p s m meth c #[Value.ref b] code 4 RL D cI cZ cS cR N0) (hAs : N0.1 = s.heap.size) (hX : va_X b L xs s s.heap) (hbl : b < s.heap.size) (hL : L ≤ 2560) (hr : meth.sig.returnType = ret) {cells slots : Nat} (hcl : cells + 4 ≤ 600000) (hsl : slots + 28 ≤ 7302250) {H : Heap} {locs : List Loc} {ls : Array Slot} (g : GS) (ox om : Nat) (i z o1 : Int32) (hT : Tv D cI cZ cS cR N0 s.heap H locs g) (hI : Inv g) (l_i : 0 ≤ i.toInt) (u_i : i.toInt + 5 ≤ L) : g.1 ox = 7 → g.1 om = 8 → g.2.1 ox 6 = .int z → g.2.1 om 34 = .int z → 0 ≤ z.toInt → z.toInt ≤ 1 → g.2.1 om 22 = .int o1 → 0 ≤ o1.toInt → o1.toInt ≤ 12 * i.toInt → PX 48 2 3 71 72 g om → PX 8 39 40 84 85 g om → (hl : lv_has ls 4 [(3, .int i), (2, .ref om), (1, .ref ox), (0, .ref b)]) → (K : ∀ (g1 : GS) (z1 o2 : Int32) (H1 : Heap) (locs1 : List Loc), Tv D cI cZ cS cR N0 s.heap H1 locs1 g1 → Inv g1 → g1.1 ox = 7 → g1.1 om = 8 → g1.2.1 ox 6 = .int z1 → g1.2.1 om 34 = .int z1 → 0 ≤ z1.toInt → z1.toInt ≤ 1 → g1.2.1 om 22 = .int o2 → 0 ≤ o2.toInt → o2.toInt ≤ 12 * i.toInt + 60 → PX 48 2 3 71 72 g1 om → PX 8 39 40 84 85 g1 om → W p l e room_1 s m #[Value.ref b] below meth c H1 locs1 (cells + 4) (slots + 28) (lw_Z below #[Value.ref b] s) (F0 m 829 ls [])) → W p l e room_1 s m #[Value.ref b] below meth c H locs cells slots (lw_Z below #[Value.ref b] s) (F0 m 282 ls []) := by
  intro r_ox r_om kz kz2 l_z u_z ko l_o u_o hw hN0 hl K
  have hx := hB.1
  have hb := hB.2.1
  have hE : Ex g g := Ex.rf
  have hM : Sm mdA g g := sm_all
  refine lv_aload_n hx hb dL_law_282 rfl (lv_at hl 2 rfl) ?_
  refine lv_aload_n hx hb dL_law_283 rfl (lv_at hl 3 rfl) ?_
  refine lv_iload_n hx hb dL_law_284 rfl (lv_at hl 0 rfl) ?_
  refine lv_iconst (v := 1) hx hb dL_law_285 (by decide) ?_
  refine lv_iadd hx hb dL_law_286 ?_
  refine lv_topi (fun z_1 ez_1 => ?_)
  have e_z_1 : z_1.toInt = i.toInt + 1 := i_add ez_1 rfl (by decide) (by omega) (by omega)
  refine va_sld hx hb hX hbl (fun q => by have q_ : N0.1 ≤ b := q; omega) hT.2 (i_in (n := L) rfl (by omega) (by omega)) dL_law_287 ?_
  refine lv_topi (fun u_2 e_u_2 => ?_)
  refine lv_aload_n hx hb dL_law_288 rfl (lv_at hl 3 rfl) ?_
  refine lv_iload_n hx hb dL_law_289 rfl (lv_at hl 0 rfl) ?_
  refine lv_iconst (v := 2) hx hb dL_law_290 (by decide) ?_
  refine lv_iadd hx hb dL_law_291 ?_
  refine lv_topi (fun z_3 ez_3 => ?_)
  have e_z_3 : z_3.toInt = i.toInt + 2 := i_add ez_3 rfl (by decide) (by omega) (by omega)
  refine va_sld hx hb hX hbl (fun q => by have q_ : N0.1 ≤ b := q; omega) hT.2 (i_in (n := L) rfl (by omega) (by omega)) dL_law_292 ?_
  refine lv_topi (fun u_4 e_u_4 => ?_)
  refine t_callV (n := 2) (As := [.int u_2, .int u_4]) (rest := []) (ci := 6) hB hT hl.1 (P_hold l D cI cZ cS cR N0 g hI ox u_2 u_4 r_ox) (ro_ci r_ox rfl) rfl k_445 k_57 k_442 k_443 k_444 (by decide +kernel) ⟨(Nat.le_of_ble_eq_true rfl), (Nat.le_of_ble_eq_true rfl)⟩ rfl (Nat.le_of_ble_eq_true rfl) ⟨(by show _ ≤ _; first | exact Nat.le_of_ble_eq_true rfl | (simp only [room_1]; omega)), (by show _ ≤ _; first | exact Nat.le_of_ble_eq_true rfl | (simp only [room_1]; omega))⟩ dL_law_293 (fun v g_5 H locs hp hT => ?_)
  obtain ⟨r_6, rfl, hI, x_8, m_7⟩ := hp
  have hw : PX 48 2 3 71 72 g_5 om := hw.mono m_7 x_8 r_om (by decide) (by decide) rfl rfl rfl rfl
  have hN0 : PX 8 39 40 84 85 g_5 om := hN0.mono m_7 x_8 r_om (by decide) (by decide) rfl rfl rfl rfl
  have hM : Sm mdA g g_5 := sm_all
  have hE : Ex g g_5 := hE.tr x_8
  have r_9 : g_5.1 ox = 7 := (Ex.r x_8 r_ox (by decide))
  have r_10 : g_5.1 om = 8 := (Ex.r x_8 r_om (by decide))
  have kn_11 : g_5.2.1 ox 6 = .int z := (Sm.v m_7 r_ox (by decide) rfl kz)
  have kn_12 : g_5.2.1 om 34 = .int z := (Sm.v m_7 r_om (by decide) rfl kz2)
  have kn_13 : g_5.2.1 om 22 = .int o1 := (Sm.v m_7 r_om (by decide) rfl ko)
  refine W.eq (g2 := F0 m 296 ls [.int r_6]) rfl ?_
  refine lv_pop hx hb dL_law_296 rfl ?_
  refine lv_aload_n hx hb dL_law_297 rfl (lv_at hl 1 rfl) ?_
  refine lv_aload_n hx hb dL_law_298 rfl (lv_at hl 3 rfl) ?_
  refine lv_iload_n hx hb dL_law_299 rfl (lv_at hl 0 rfl) ?_
  refine lv_iconst (v := 1) hx hb dL_law_300 (by decide) ?_
  refine lv_iadd hx hb dL_law_301 ?_
  refine lv_topi (fun z_14 ez_14 => ?_)
  have e_z_14 : z_14.toInt = i.toInt + 1 := i_add ez_14 rfl (by decide) (by omega) (by omega)
  refine va_sld hx hb hX hbl (fun q => by have q_ : N0.1 ≤ b := q; omega) hT.2 (i_in (n := L) rfl (by omega) (by omega)) dL_law_302 ?_
  refine lv_topi (fun u_15 e_u_15 => ?_)
  refine lv_aload_n hx hb dL_law_303 rfl (lv_at hl 3 rfl) ?_
  refine lv_iload_n hx hb dL_law_304 rfl (lv_at hl 0 rfl) ?_
  refine lv_iconst (v := 2) hx hb dL_law_305 (by decide) ?_
  refine lv_iadd hx hb dL_law_306 ?_
  refine lv_topi (fun z_16 ez_16 => ?_)
  have e_z_16 : z_16.toInt = i.toInt + 2 := i_add ez_16 rfl (by decide) (by omega) (by omega)
  refine va_sld hx hb hX hbl (fun q => by have q_ : N0.1 ≤ b := q; omega) hT.2 (i_in (n := L) rfl (by omega) (by omega)) dL_law_307 ?_
  refine lv_topi (fun u_17 e_u_17 => ?_)
  refine t_callV (n := 2) (As := [.int u_15, .int u_17]) (rest := []) (ci := 7) hB hT hl.1 (m_hold l D cI cZ cS cR N0 g_5 hI om u_15 u_17 r_10) (ro_ci r_10 rfl) rfl k_1003 k_65 k_1000 k_1001 k_1002 (by decide +kernel) ⟨(Nat.le_of_ble_eq_true rfl), (Nat.le_of_ble_eq_true rfl)⟩ rfl (Nat.le_of_ble_eq_true rfl) ⟨(by show _ ≤ _; first | exact Nat.le_of_ble_eq_true rfl | (simp only [room_1]; omega)), (by show _ ≤ _; first | exact Nat.le_of_ble_eq_true rfl | (simp only [room_1]; omega))⟩ dL_law_308 (fun v g_18 H locs hp hT => ?_)
  obtain ⟨r_19, rfl, hI, x_21, m_20⟩ := hp
  have hw : PX 48 2 3 71 72 g_18 om := hw.mono m_20 x_21 r_10 (by decide) (by decide) rfl rfl rfl rfl
  have hN0 : PX 8 39 40 84 85 g_18 om := hN0.mono m_20 x_21 r_10 (by decide) (by decide) rfl rfl rfl rfl
  have hM : Sm mdA g g_18 := sm_all
  have hE : Ex g g_18 := hE.tr x_21
  have r_22 : g_18.1 ox = 7 := (Ex.r x_21 r_9 (by decide))
  have r_23 : g_18.1 om = 8 := (Ex.r x_21 r_10 (by decide))
  have kn_24 : g_18.2.1 ox 6 = .int z := (Sm.v m_20 r_9 (by decide) rfl kn_11)
  have kn_25 : g_18.2.1 om 34 = .int z := (Sm.v m_20 r_10 (by decide) rfl kn_12)
  have kn_26 : g_18.2.1 om 22 = .int o1 := (Sm.v m_20 r_10 (by decide) rfl kn_13)
  refine W.eq (g2 := F0 m 311 ls [.int r_19]) rfl ?_
  refine lv_pop hx hb dL_law_311 rfl ?_
  refine lv_goto (tgt := 829) hx hb dL_law_312 (by decide) ?_
  refine W.widen (k := cells + 4) (n := slots + 28) (by omega) (by omega) ?_
  exact K g_18 z o1 H locs hT hI r_22 r_23 kn_24 kn_25 (by omega) (by omega) kn_26 (by have e0_ : (0 : Int32).toInt = 0 := (by decide); omega) (by have e0_ : (0 : Int32).toInt = 0 := (by decide); omega) hw hN0
set_option maxHeartbeats 4000000 in
set_option maxRecDepth 100000 in
/-- set -/
theorem law_5 {p : Program} {l : Launch} {e : Env} {s : State} {m : MethodId} {below : List Frame} {meth : Method} {c : Code} {D : va_G} {cI cZ cS cR : ClassId} {N0 : NT} {b L : Nat} {xs : Nat → Int32} (hB : Tz p s m meth c #[Value.ref b] code 4 RL D cI cZ cS cR N0) (hAs : N0.1 = s.heap.size) (hX : va_X b L xs s s.heap) (hbl : b < s.heap.size) (hL : L ≤ 2560) (hr : meth.sig.returnType = ret) {cells slots : Nat} (hcl : cells + 4 ≤ 600000) (hsl : slots + 28 ≤ 7302250) {H : Heap} {locs : List Loc} {ls : Array Slot} (g : GS) (ox om : Nat) (i z o1 : Int32) (hT : Tv D cI cZ cS cR N0 s.heap H locs g) (hI : Inv g) (l_i : 0 ≤ i.toInt) (u_i : i.toInt + 5 ≤ L) : g.1 ox = 7 → g.1 om = 8 → g.2.1 ox 6 = .int z → g.2.1 om 34 = .int z → 0 ≤ z.toInt → z.toInt ≤ 1 → g.2.1 om 22 = .int o1 → 0 ≤ o1.toInt → o1.toInt ≤ 12 * i.toInt → PX 48 2 3 71 72 g om → PX 8 39 40 84 85 g om → (hl : lv_has ls 4 [(3, .int i), (2, .ref om), (1, .ref ox), (0, .ref b)]) → (K : ∀ (g1 : GS) (z1 o2 : Int32) (H1 : Heap) (locs1 : List Loc), Tv D cI cZ cS cR N0 s.heap H1 locs1 g1 → Inv g1 → g1.1 ox = 7 → g1.1 om = 8 → g1.2.1 ox 6 = .int z1 → g1.2.1 om 34 = .int z1 → 0 ≤ z1.toInt → z1.toInt ≤ 1 → g1.2.1 om 22 = .int o2 → 0 ≤ o2.toInt → o2.toInt ≤ 12 * i.toInt + 60 → PX 48 2 3 71 72 g1 om → PX 8 39 40 84 85 g1 om → W p l e room_1 s m #[Value.ref b] below meth c H1 locs1 (cells + 4) (slots + 28) (lw_Z below #[Value.ref b] s) (F0 m 829 ls [])) → W p l e room_1 s m #[Value.ref b] below meth c H locs cells slots (lw_Z below #[Value.ref b] s) (F0 m 315 ls []) := by
  intro r_ox r_om kz kz2 l_z u_z ko l_o u_o hw hN0 hl K
  have hx := hB.1
  have hb := hB.2.1
  have hE : Ex g g := Ex.rf
  have hM : Sm mdA g g := sm_all
  refine lv_aload_n hx hb dL_law_315 rfl (lv_at hl 2 rfl) ?_
  refine lv_aload_n hx hb dL_law_316 rfl (lv_at hl 3 rfl) ?_
  refine lv_iload_n hx hb dL_law_317 rfl (lv_at hl 0 rfl) ?_
  refine lv_iconst (v := 1) hx hb dL_law_318 (by decide) ?_
  refine lv_iadd hx hb dL_law_319 ?_
  refine lv_topi (fun z_1 ez_1 => ?_)
  have e_z_1 : z_1.toInt = i.toInt + 1 := i_add ez_1 rfl (by decide) (by omega) (by omega)
  refine va_sld hx hb hX hbl (fun q => by have q_ : N0.1 ≤ b := q; omega) hT.2 (i_in (n := L) rfl (by omega) (by omega)) dL_law_320 ?_
  refine lv_topi (fun u_2 e_u_2 => ?_)
  refine lv_aload_n hx hb dL_law_321 rfl (lv_at hl 3 rfl) ?_
  refine lv_iload_n hx hb dL_law_322 rfl (lv_at hl 0 rfl) ?_
  refine lv_iconst (v := 2) hx hb dL_law_323 (by decide) ?_
  refine lv_iadd hx hb dL_law_324 ?_
  refine lv_topi (fun z_3 ez_3 => ?_)
  have e_z_3 : z_3.toInt = i.toInt + 2 := i_add ez_3 rfl (by decide) (by omega) (by omega)
  refine va_sld hx hb hX hbl (fun q => by have q_ : N0.1 ≤ b := q; omega) hT.2 (i_in (n := L) rfl (by omega) (by omega)) dL_law_325 ?_
  refine lv_topi (fun u_4 e_u_4 => ?_)
  refine lv_aload_n hx hb dL_law_326 rfl (lv_at hl 3 rfl) ?_
  refine lv_iload_n hx hb dL_law_327 rfl (lv_at hl 0 rfl) ?_
  refine lv_iconst (v := 3) hx hb dL_law_328 (by decide) ?_
  refine lv_iadd hx hb dL_law_329 ?_
  refine lv_topi (fun z_5 ez_5 => ?_)
  have e_z_5 : z_5.toInt = i.toInt + 3 := i_add ez_5 rfl (by decide) (by omega) (by omega)
  refine va_sld hx hb hX hbl (fun q => by have q_ : N0.1 ≤ b := q; omega) hT.2 (i_in (n := L) rfl (by omega) (by omega)) dL_law_330 ?_
  refine lv_topi (fun u_6 e_u_6 => ?_)
  refine t_callV (n := 3) (As := [.int u_2, .int u_4, .int u_6]) (rest := []) (ci := 6) hB hT hl.1 (P_set l D cI cZ cS cR N0 g hI ox u_2 u_4 u_6 r_ox) (ro_ci r_ox rfl) rfl k_449 k_57 k_446 k_447 k_448 (by decide +kernel) ⟨(Nat.le_of_ble_eq_true rfl), (Nat.le_of_ble_eq_true rfl)⟩ rfl (Nat.le_of_ble_eq_true rfl) ⟨(by show _ ≤ _; first | exact Nat.le_of_ble_eq_true rfl | (simp only [room_1]; omega)), (by show _ ≤ _; first | exact Nat.le_of_ble_eq_true rfl | (simp only [room_1]; omega))⟩ dL_law_331 (fun v g_7 H locs hp hT => ?_)
  obtain ⟨r_8, rfl, hI, x_10, m_9⟩ := hp
  have hw : PX 48 2 3 71 72 g_7 om := hw.mono m_9 x_10 r_om (by decide) (by decide) rfl rfl rfl rfl
  have hN0 : PX 8 39 40 84 85 g_7 om := hN0.mono m_9 x_10 r_om (by decide) (by decide) rfl rfl rfl rfl
  have hM : Sm mdA g g_7 := sm_all
  have hE : Ex g g_7 := hE.tr x_10
  have r_11 : g_7.1 ox = 7 := (Ex.r x_10 r_ox (by decide))
  have r_12 : g_7.1 om = 8 := (Ex.r x_10 r_om (by decide))
  have kn_13 : g_7.2.1 ox 6 = .int z := (Sm.v m_9 r_ox (by decide) rfl kz)
  have kn_14 : g_7.2.1 om 34 = .int z := (Sm.v m_9 r_om (by decide) rfl kz2)
  have kn_15 : g_7.2.1 om 22 = .int o1 := (Sm.v m_9 r_om (by decide) rfl ko)
  refine W.eq (g2 := F0 m 334 ls [.int r_8]) rfl ?_
  refine lv_pop hx hb dL_law_334 rfl ?_
  refine lv_aload_n hx hb dL_law_335 rfl (lv_at hl 1 rfl) ?_
  refine lv_aload_n hx hb dL_law_336 rfl (lv_at hl 3 rfl) ?_
  refine lv_iload_n hx hb dL_law_337 rfl (lv_at hl 0 rfl) ?_
  refine lv_iconst (v := 1) hx hb dL_law_338 (by decide) ?_
  refine lv_iadd hx hb dL_law_339 ?_
  refine lv_topi (fun z_16 ez_16 => ?_)
  have e_z_16 : z_16.toInt = i.toInt + 1 := i_add ez_16 rfl (by decide) (by omega) (by omega)
  refine va_sld hx hb hX hbl (fun q => by have q_ : N0.1 ≤ b := q; omega) hT.2 (i_in (n := L) rfl (by omega) (by omega)) dL_law_340 ?_
  refine lv_topi (fun u_17 e_u_17 => ?_)
  refine lv_aload_n hx hb dL_law_341 rfl (lv_at hl 3 rfl) ?_
  refine lv_iload_n hx hb dL_law_342 rfl (lv_at hl 0 rfl) ?_
  refine lv_iconst (v := 2) hx hb dL_law_343 (by decide) ?_
  refine lv_iadd hx hb dL_law_344 ?_
  refine lv_topi (fun z_18 ez_18 => ?_)
  have e_z_18 : z_18.toInt = i.toInt + 2 := i_add ez_18 rfl (by decide) (by omega) (by omega)
  refine va_sld hx hb hX hbl (fun q => by have q_ : N0.1 ≤ b := q; omega) hT.2 (i_in (n := L) rfl (by omega) (by omega)) dL_law_345 ?_
  refine lv_topi (fun u_19 e_u_19 => ?_)
  refine lv_aload_n hx hb dL_law_346 rfl (lv_at hl 3 rfl) ?_
  refine lv_iload_n hx hb dL_law_347 rfl (lv_at hl 0 rfl) ?_
  refine lv_iconst (v := 3) hx hb dL_law_348 (by decide) ?_
  refine lv_iadd hx hb dL_law_349 ?_
  refine lv_topi (fun z_20 ez_20 => ?_)
  have e_z_20 : z_20.toInt = i.toInt + 3 := i_add ez_20 rfl (by decide) (by omega) (by omega)
  refine va_sld hx hb hX hbl (fun q => by have q_ : N0.1 ≤ b := q; omega) hT.2 (i_in (n := L) rfl (by omega) (by omega)) dL_law_350 ?_
  refine lv_topi (fun u_21 e_u_21 => ?_)
  refine t_callV (n := 3) (As := [.int u_17, .int u_19, .int u_21]) (rest := []) (ci := 7) hB hT hl.1 (m_set l D cI cZ cS cR N0 g_7 hI om u_17 u_19 u_21 r_12) (ro_ci r_12 rfl) rfl k_1007 k_65 k_1004 k_1005 k_1006 (by decide +kernel) ⟨(Nat.le_of_ble_eq_true rfl), (Nat.le_of_ble_eq_true rfl)⟩ rfl (Nat.le_of_ble_eq_true rfl) ⟨(by show _ ≤ _; first | exact Nat.le_of_ble_eq_true rfl | (simp only [room_1]; omega)), (by show _ ≤ _; first | exact Nat.le_of_ble_eq_true rfl | (simp only [room_1]; omega))⟩ dL_law_351 (fun v g_22 H locs hp hT => ?_)
  obtain ⟨r_23, rfl, hI, x_25, m_24⟩ := hp
  have hw : PX 48 2 3 71 72 g_22 om := hw.mono m_24 x_25 r_12 (by decide) (by decide) rfl rfl rfl rfl
  have hN0 : PX 8 39 40 84 85 g_22 om := hN0.mono m_24 x_25 r_12 (by decide) (by decide) rfl rfl rfl rfl
  have hM : Sm mdA g g_22 := sm_all
  have hE : Ex g g_22 := hE.tr x_25
  have r_26 : g_22.1 ox = 7 := (Ex.r x_25 r_11 (by decide))
  have r_27 : g_22.1 om = 8 := (Ex.r x_25 r_12 (by decide))
  have kn_28 : g_22.2.1 ox 6 = .int z := (Sm.v m_24 r_11 (by decide) rfl kn_13)
  have kn_29 : g_22.2.1 om 34 = .int z := (Sm.v m_24 r_12 (by decide) rfl kn_14)
  have kn_30 : g_22.2.1 om 22 = .int o1 := (Sm.v m_24 r_12 (by decide) rfl kn_15)
  refine W.eq (g2 := F0 m 354 ls [.int r_23]) rfl ?_
  refine lv_pop hx hb dL_law_354 rfl ?_
  refine lv_goto (tgt := 829) hx hb dL_law_355 (by decide) ?_
  refine W.widen (k := cells + 4) (n := slots + 28) (by omega) (by omega) ?_
  exact K g_22 z o1 H locs hT hI r_26 r_27 kn_28 kn_29 (by omega) (by omega) kn_30 (by have e0_ : (0 : Int32).toInt = 0 := (by decide); omega) (by have e0_ : (0 : Int32).toInt = 0 := (by decide); omega) hw hN0
set_option maxHeartbeats 4000000 in
set_option maxRecDepth 100000 in
/-- about -/
theorem law_6 {p : Program} {l : Launch} {e : Env} {s : State} {m : MethodId} {below : List Frame} {meth : Method} {c : Code} {D : va_G} {cI cZ cS cR : ClassId} {N0 : NT} {b L : Nat} {xs : Nat → Int32} (hB : Tz p s m meth c #[Value.ref b] code 4 RL D cI cZ cS cR N0) (hAs : N0.1 = s.heap.size) (hX : va_X b L xs s s.heap) (hbl : b < s.heap.size) (hL : L ≤ 2560) (hr : meth.sig.returnType = ret) {cells slots : Nat} (hcl : cells + 4 ≤ 600000) (hsl : slots + 28 ≤ 7302250) {H : Heap} {locs : List Loc} {ls : Array Slot} (g : GS) (ox om : Nat) (i z o1 : Int32) (hT : Tv D cI cZ cS cR N0 s.heap H locs g) (hI : Inv g) (l_i : 0 ≤ i.toInt) (u_i : i.toInt + 5 ≤ L) : g.1 ox = 7 → g.1 om = 8 → g.2.1 ox 6 = .int z → g.2.1 om 34 = .int z → 0 ≤ z.toInt → z.toInt ≤ 1 → g.2.1 om 22 = .int o1 → 0 ≤ o1.toInt → o1.toInt ≤ 12 * i.toInt → PX 48 2 3 71 72 g om → PX 8 39 40 84 85 g om → (hl : lv_has ls 4 [(3, .int i), (2, .ref om), (1, .ref ox), (0, .ref b)]) → (K : ∀ (g1 : GS) (z1 o2 : Int32) (H1 : Heap) (locs1 : List Loc), Tv D cI cZ cS cR N0 s.heap H1 locs1 g1 → Inv g1 → g1.1 ox = 7 → g1.1 om = 8 → g1.2.1 ox 6 = .int z1 → g1.2.1 om 34 = .int z1 → 0 ≤ z1.toInt → z1.toInt ≤ 1 → g1.2.1 om 22 = .int o2 → 0 ≤ o2.toInt → o2.toInt ≤ 12 * i.toInt + 60 → PX 48 2 3 71 72 g1 om → PX 8 39 40 84 85 g1 om → W p l e room_1 s m #[Value.ref b] below meth c H1 locs1 (cells + 4) (slots + 28) (lw_Z below #[Value.ref b] s) (F0 m 829 ls [])) → W p l e room_1 s m #[Value.ref b] below meth c H locs cells slots (lw_Z below #[Value.ref b] s) (F0 m 358 ls []) := by
  intro r_ox r_om kz kz2 l_z u_z ko l_o u_o hw hN0 hl K
  have hx := hB.1
  have hb := hB.2.1
  have hE : Ex g g := Ex.rf
  have hM : Sm mdA g g := sm_all
  refine lv_aload_n hx hb dL_law_358 rfl (lv_at hl 2 rfl) ?_
  refine lv_aload_n hx hb dL_law_359 rfl (lv_at hl 3 rfl) ?_
  refine lv_iload_n hx hb dL_law_360 rfl (lv_at hl 0 rfl) ?_
  refine lv_iconst (v := 1) hx hb dL_law_361 (by decide) ?_
  refine lv_iadd hx hb dL_law_362 ?_
  refine lv_topi (fun z_1 ez_1 => ?_)
  have e_z_1 : z_1.toInt = i.toInt + 1 := i_add ez_1 rfl (by decide) (by omega) (by omega)
  refine va_sld hx hb hX hbl (fun q => by have q_ : N0.1 ≤ b := q; omega) hT.2 (i_in (n := L) rfl (by omega) (by omega)) dL_law_363 ?_
  refine lv_topi (fun u_2 e_u_2 => ?_)
  refine lv_aload_n hx hb dL_law_364 rfl (lv_at hl 3 rfl) ?_
  refine lv_iload_n hx hb dL_law_365 rfl (lv_at hl 0 rfl) ?_
  refine lv_iconst (v := 2) hx hb dL_law_366 (by decide) ?_
  refine lv_iadd hx hb dL_law_367 ?_
  refine lv_topi (fun z_3 ez_3 => ?_)
  have e_z_3 : z_3.toInt = i.toInt + 2 := i_add ez_3 rfl (by decide) (by omega) (by omega)
  refine va_sld hx hb hX hbl (fun q => by have q_ : N0.1 ≤ b := q; omega) hT.2 (i_in (n := L) rfl (by omega) (by omega)) dL_law_368 ?_
  refine lv_topi (fun u_4 e_u_4 => ?_)
  refine t_callV (n := 2) (As := [.int u_2, .int u_4]) (rest := []) (ci := 6) hB hT hl.1 (P_about l D cI cZ cS cR N0 g hI ox u_2 u_4 r_ox) (ro_ci r_ox rfl) rfl k_453 k_57 k_450 k_451 k_452 (by decide +kernel) ⟨(Nat.le_of_ble_eq_true rfl), (Nat.le_of_ble_eq_true rfl)⟩ rfl (Nat.le_of_ble_eq_true rfl) ⟨(by show _ ≤ _; first | exact Nat.le_of_ble_eq_true rfl | (simp only [room_1]; omega)), (by show _ ≤ _; first | exact Nat.le_of_ble_eq_true rfl | (simp only [room_1]; omega))⟩ dL_law_369 (fun v g_5 H locs hp hT => ?_)
  obtain ⟨r_6, rfl, hI, x_8, m_7⟩ := hp
  have hw : PX 48 2 3 71 72 g_5 om := hw.mono m_7 x_8 r_om (by decide) (by decide) rfl rfl rfl rfl
  have hN0 : PX 8 39 40 84 85 g_5 om := hN0.mono m_7 x_8 r_om (by decide) (by decide) rfl rfl rfl rfl
  have hM : Sm mdA g g_5 := sm_all
  have hE : Ex g g_5 := hE.tr x_8
  have r_9 : g_5.1 ox = 7 := (Ex.r x_8 r_ox (by decide))
  have r_10 : g_5.1 om = 8 := (Ex.r x_8 r_om (by decide))
  have kn_11 : g_5.2.1 ox 6 = .int z := (Sm.v m_7 r_ox (by decide) rfl kz)
  have kn_12 : g_5.2.1 om 34 = .int z := (Sm.v m_7 r_om (by decide) rfl kz2)
  have kn_13 : g_5.2.1 om 22 = .int o1 := (Sm.v m_7 r_om (by decide) rfl ko)
  refine W.eq (g2 := F0 m 372 ls [.int r_6]) rfl ?_
  refine lv_pop hx hb dL_law_372 rfl ?_
  refine lv_aload_n hx hb dL_law_373 rfl (lv_at hl 1 rfl) ?_
  refine lv_aload_n hx hb dL_law_374 rfl (lv_at hl 3 rfl) ?_
  refine lv_iload_n hx hb dL_law_375 rfl (lv_at hl 0 rfl) ?_
  refine lv_iconst (v := 1) hx hb dL_law_376 (by decide) ?_
  refine lv_iadd hx hb dL_law_377 ?_
  refine lv_topi (fun z_14 ez_14 => ?_)
  have e_z_14 : z_14.toInt = i.toInt + 1 := i_add ez_14 rfl (by decide) (by omega) (by omega)
  refine va_sld hx hb hX hbl (fun q => by have q_ : N0.1 ≤ b := q; omega) hT.2 (i_in (n := L) rfl (by omega) (by omega)) dL_law_378 ?_
  refine lv_topi (fun u_15 e_u_15 => ?_)
  refine lv_aload_n hx hb dL_law_379 rfl (lv_at hl 3 rfl) ?_
  refine lv_iload_n hx hb dL_law_380 rfl (lv_at hl 0 rfl) ?_
  refine lv_iconst (v := 2) hx hb dL_law_381 (by decide) ?_
  refine lv_iadd hx hb dL_law_382 ?_
  refine lv_topi (fun z_16 ez_16 => ?_)
  have e_z_16 : z_16.toInt = i.toInt + 2 := i_add ez_16 rfl (by decide) (by omega) (by omega)
  refine va_sld hx hb hX hbl (fun q => by have q_ : N0.1 ≤ b := q; omega) hT.2 (i_in (n := L) rfl (by omega) (by omega)) dL_law_383 ?_
  refine lv_topi (fun u_17 e_u_17 => ?_)
  refine t_callV (n := 2) (As := [.int u_15, .int u_17]) (rest := []) (ci := 7) hB hT hl.1 (m_about l D cI cZ cS cR N0 g_5 hI om u_15 u_17 r_10) (ro_ci r_10 rfl) rfl k_1011 k_65 k_1008 k_1009 k_1010 (by decide +kernel) ⟨(Nat.le_of_ble_eq_true rfl), (Nat.le_of_ble_eq_true rfl)⟩ rfl (Nat.le_of_ble_eq_true rfl) ⟨(by show _ ≤ _; first | exact Nat.le_of_ble_eq_true rfl | (simp only [room_1]; omega)), (by show _ ≤ _; first | exact Nat.le_of_ble_eq_true rfl | (simp only [room_1]; omega))⟩ dL_law_384 (fun v g_18 H locs hp hT => ?_)
  obtain ⟨r_19, rfl, hI, x_21, m_20⟩ := hp
  have hw : PX 48 2 3 71 72 g_18 om := hw.mono m_20 x_21 r_10 (by decide) (by decide) rfl rfl rfl rfl
  have hN0 : PX 8 39 40 84 85 g_18 om := hN0.mono m_20 x_21 r_10 (by decide) (by decide) rfl rfl rfl rfl
  have hM : Sm mdA g g_18 := sm_all
  have hE : Ex g g_18 := hE.tr x_21
  have r_22 : g_18.1 ox = 7 := (Ex.r x_21 r_9 (by decide))
  have r_23 : g_18.1 om = 8 := (Ex.r x_21 r_10 (by decide))
  have kn_24 : g_18.2.1 ox 6 = .int z := (Sm.v m_20 r_9 (by decide) rfl kn_11)
  have kn_25 : g_18.2.1 om 34 = .int z := (Sm.v m_20 r_10 (by decide) rfl kn_12)
  have kn_26 : g_18.2.1 om 22 = .int o1 := (Sm.v m_20 r_10 (by decide) rfl kn_13)
  refine W.eq (g2 := F0 m 387 ls [.int r_19]) rfl ?_
  refine lv_pop hx hb dL_law_387 rfl ?_
  refine lv_goto (tgt := 829) hx hb dL_law_388 (by decide) ?_
  refine W.widen (k := cells + 4) (n := slots + 28) (by omega) (by omega) ?_
  exact K g_18 z o1 H locs hT hI r_22 r_23 kn_24 kn_25 (by omega) (by omega) kn_26 (by have e0_ : (0 : Int32).toInt = 0 := (by decide); omega) (by have e0_ : (0 : Int32).toInt = 0 := (by decide); omega) hw hN0
set_option maxHeartbeats 4000000 in
set_option maxRecDepth 100000 in
/-- act -/
theorem law_7 {p : Program} {l : Launch} {e : Env} {s : State} {m : MethodId} {below : List Frame} {meth : Method} {c : Code} {D : va_G} {cI cZ cS cR : ClassId} {N0 : NT} {b L : Nat} {xs : Nat → Int32} (hB : Tz p s m meth c #[Value.ref b] code 4 RL D cI cZ cS cR N0) (hAs : N0.1 = s.heap.size) (hX : va_X b L xs s s.heap) (hbl : b < s.heap.size) (hL : L ≤ 2560) (hr : meth.sig.returnType = ret) {cells slots : Nat} (hcl : cells + 4 ≤ 600000) (hsl : slots + 28 ≤ 7302250) {H : Heap} {locs : List Loc} {ls : Array Slot} (g : GS) (ox om : Nat) (i z o1 : Int32) (hT : Tv D cI cZ cS cR N0 s.heap H locs g) (hI : Inv g) (l_i : 0 ≤ i.toInt) (u_i : i.toInt + 5 ≤ L) : g.1 ox = 7 → g.1 om = 8 → g.2.1 ox 6 = .int z → g.2.1 om 34 = .int z → 0 ≤ z.toInt → z.toInt ≤ 1 → g.2.1 om 22 = .int o1 → 0 ≤ o1.toInt → o1.toInt ≤ 12 * i.toInt → PX 48 2 3 71 72 g om → PX 8 39 40 84 85 g om → (hl : lv_has ls 4 [(3, .int i), (2, .ref om), (1, .ref ox), (0, .ref b)]) → (K : ∀ (g1 : GS) (z1 o2 : Int32) (H1 : Heap) (locs1 : List Loc), Tv D cI cZ cS cR N0 s.heap H1 locs1 g1 → Inv g1 → g1.1 ox = 7 → g1.1 om = 8 → g1.2.1 ox 6 = .int z1 → g1.2.1 om 34 = .int z1 → 0 ≤ z1.toInt → z1.toInt ≤ 1 → g1.2.1 om 22 = .int o2 → 0 ≤ o2.toInt → o2.toInt ≤ 12 * i.toInt + 60 → PX 48 2 3 71 72 g1 om → PX 8 39 40 84 85 g1 om → W p l e room_1 s m #[Value.ref b] below meth c H1 locs1 (cells + 4) (slots + 28) (lw_Z below #[Value.ref b] s) (F0 m 829 ls [])) → W p l e room_1 s m #[Value.ref b] below meth c H locs cells slots (lw_Z below #[Value.ref b] s) (F0 m 391 ls []) := by
  intro r_ox r_om kz kz2 l_z u_z ko l_o u_o hw hN0 hl K
  have hx := hB.1
  have hb := hB.2.1
  have hE : Ex g g := Ex.rf
  have hM : Sm mdA g g := sm_all
  refine lv_aload_n hx hb dL_law_391 rfl (lv_at hl 2 rfl) ?_
  refine lv_aload_n hx hb dL_law_392 rfl (lv_at hl 3 rfl) ?_
  refine lv_iload_n hx hb dL_law_393 rfl (lv_at hl 0 rfl) ?_
  refine lv_iconst (v := 1) hx hb dL_law_394 (by decide) ?_
  refine lv_iadd hx hb dL_law_395 ?_
  refine lv_topi (fun z_1 ez_1 => ?_)
  have e_z_1 : z_1.toInt = i.toInt + 1 := i_add ez_1 rfl (by decide) (by omega) (by omega)
  refine va_sld hx hb hX hbl (fun q => by have q_ : N0.1 ≤ b := q; omega) hT.2 (i_in (n := L) rfl (by omega) (by omega)) dL_law_396 ?_
  refine lv_topi (fun u_2 e_u_2 => ?_)
  refine lv_aload_n hx hb dL_law_397 rfl (lv_at hl 3 rfl) ?_
  refine lv_iload_n hx hb dL_law_398 rfl (lv_at hl 0 rfl) ?_
  refine lv_iconst (v := 2) hx hb dL_law_399 (by decide) ?_
  refine lv_iadd hx hb dL_law_400 ?_
  refine lv_topi (fun z_3 ez_3 => ?_)
  have e_z_3 : z_3.toInt = i.toInt + 2 := i_add ez_3 rfl (by decide) (by omega) (by omega)
  refine va_sld hx hb hX hbl (fun q => by have q_ : N0.1 ≤ b := q; omega) hT.2 (i_in (n := L) rfl (by omega) (by omega)) dL_law_401 ?_
  refine lv_topi (fun u_4 e_u_4 => ?_)
  refine lv_aload_n hx hb dL_law_402 rfl (lv_at hl 3 rfl) ?_
  refine lv_iload_n hx hb dL_law_403 rfl (lv_at hl 0 rfl) ?_
  refine lv_iconst (v := 3) hx hb dL_law_404 (by decide) ?_
  refine lv_iadd hx hb dL_law_405 ?_
  refine lv_topi (fun z_5 ez_5 => ?_)
  have e_z_5 : z_5.toInt = i.toInt + 3 := i_add ez_5 rfl (by decide) (by omega) (by omega)
  refine va_sld hx hb hX hbl (fun q => by have q_ : N0.1 ≤ b := q; omega) hT.2 (i_in (n := L) rfl (by omega) (by omega)) dL_law_406 ?_
  refine lv_topi (fun u_6 e_u_6 => ?_)
  refine t_callV (n := 3) (As := [.int u_2, .int u_4, .int u_6]) (rest := []) (ci := 6) hB hT hl.1 (P_act l D cI cZ cS cR N0 g hI ox u_2 u_4 u_6 r_ox) (ro_ci r_ox rfl) rfl k_481 k_57 k_478 k_479 k_480 (by decide +kernel) ⟨(Nat.le_of_ble_eq_true rfl), (Nat.le_of_ble_eq_true rfl)⟩ rfl (Nat.le_of_ble_eq_true rfl) ⟨(by show _ ≤ _; first | exact Nat.le_of_ble_eq_true rfl | (simp only [room_1]; omega)), (by show _ ≤ _; first | exact Nat.le_of_ble_eq_true rfl | (simp only [room_1]; omega))⟩ dL_law_407 (fun v g_7 H locs hp hT => ?_)
  obtain ⟨r_8, rfl, hI, x_10, m_9⟩ := hp
  have hw : PX 48 2 3 71 72 g_7 om := hw.mono m_9 x_10 r_om (by decide) (by decide) rfl rfl rfl rfl
  have hN0 : PX 8 39 40 84 85 g_7 om := hN0.mono m_9 x_10 r_om (by decide) (by decide) rfl rfl rfl rfl
  have hM : Sm mdA g g_7 := sm_all
  have hE : Ex g g_7 := hE.tr x_10
  have r_11 : g_7.1 ox = 7 := (Ex.r x_10 r_ox (by decide))
  have r_12 : g_7.1 om = 8 := (Ex.r x_10 r_om (by decide))
  have kn_13 : g_7.2.1 ox 6 = .int z := (Sm.v m_9 r_ox (by decide) rfl kz)
  have kn_14 : g_7.2.1 om 34 = .int z := (Sm.v m_9 r_om (by decide) rfl kz2)
  have kn_15 : g_7.2.1 om 22 = .int o1 := (Sm.v m_9 r_om (by decide) rfl ko)
  refine W.eq (g2 := F0 m 410 ls [.int r_8]) rfl ?_
  refine lv_pop hx hb dL_law_410 rfl ?_
  refine lv_aload_n hx hb dL_law_411 rfl (lv_at hl 1 rfl) ?_
  refine lv_aload_n hx hb dL_law_412 rfl (lv_at hl 3 rfl) ?_
  refine lv_iload_n hx hb dL_law_413 rfl (lv_at hl 0 rfl) ?_
  refine lv_iconst (v := 1) hx hb dL_law_414 (by decide) ?_
  refine lv_iadd hx hb dL_law_415 ?_
  refine lv_topi (fun z_16 ez_16 => ?_)
  have e_z_16 : z_16.toInt = i.toInt + 1 := i_add ez_16 rfl (by decide) (by omega) (by omega)
  refine va_sld hx hb hX hbl (fun q => by have q_ : N0.1 ≤ b := q; omega) hT.2 (i_in (n := L) rfl (by omega) (by omega)) dL_law_416 ?_
  refine lv_topi (fun u_17 e_u_17 => ?_)
  refine lv_aload_n hx hb dL_law_417 rfl (lv_at hl 3 rfl) ?_
  refine lv_iload_n hx hb dL_law_418 rfl (lv_at hl 0 rfl) ?_
  refine lv_iconst (v := 2) hx hb dL_law_419 (by decide) ?_
  refine lv_iadd hx hb dL_law_420 ?_
  refine lv_topi (fun z_18 ez_18 => ?_)
  have e_z_18 : z_18.toInt = i.toInt + 2 := i_add ez_18 rfl (by decide) (by omega) (by omega)
  refine va_sld hx hb hX hbl (fun q => by have q_ : N0.1 ≤ b := q; omega) hT.2 (i_in (n := L) rfl (by omega) (by omega)) dL_law_421 ?_
  refine lv_topi (fun u_19 e_u_19 => ?_)
  refine lv_aload_n hx hb dL_law_422 rfl (lv_at hl 3 rfl) ?_
  refine lv_iload_n hx hb dL_law_423 rfl (lv_at hl 0 rfl) ?_
  refine lv_iconst (v := 3) hx hb dL_law_424 (by decide) ?_
  refine lv_iadd hx hb dL_law_425 ?_
  refine lv_topi (fun z_20 ez_20 => ?_)
  have e_z_20 : z_20.toInt = i.toInt + 3 := i_add ez_20 rfl (by decide) (by omega) (by omega)
  refine va_sld hx hb hX hbl (fun q => by have q_ : N0.1 ≤ b := q; omega) hT.2 (i_in (n := L) rfl (by omega) (by omega)) dL_law_426 ?_
  refine lv_topi (fun u_21 e_u_21 => ?_)
  refine t_callV (n := 3) (As := [.int u_17, .int u_19, .int u_21]) (rest := []) (ci := 7) hB hT hl.1 (m_act l D cI cZ cS cR N0 g_7 hI om u_17 u_19 u_21 r_12) (ro_ci r_12 rfl) rfl k_1027 k_65 k_1024 k_1025 k_1026 (by decide +kernel) ⟨(Nat.le_of_ble_eq_true rfl), (Nat.le_of_ble_eq_true rfl)⟩ rfl (Nat.le_of_ble_eq_true rfl) ⟨(by show _ ≤ _; first | exact Nat.le_of_ble_eq_true rfl | (simp only [room_1]; omega)), (by show _ ≤ _; first | exact Nat.le_of_ble_eq_true rfl | (simp only [room_1]; omega))⟩ dL_law_427 (fun v g_22 H locs hp hT => ?_)
  obtain ⟨r_23, rfl, hI, x_25, m_24⟩ := hp
  have hw : PX 48 2 3 71 72 g_22 om := hw.mono m_24 x_25 r_12 (by decide) (by decide) rfl rfl rfl rfl
  have hN0 : PX 8 39 40 84 85 g_22 om := hN0.mono m_24 x_25 r_12 (by decide) (by decide) rfl rfl rfl rfl
  have hM : Sm mdA g g_22 := sm_all
  have hE : Ex g g_22 := hE.tr x_25
  have r_26 : g_22.1 ox = 7 := (Ex.r x_25 r_11 (by decide))
  have r_27 : g_22.1 om = 8 := (Ex.r x_25 r_12 (by decide))
  have kn_28 : g_22.2.1 ox 6 = .int z := (Sm.v m_24 r_11 (by decide) rfl kn_13)
  have kn_29 : g_22.2.1 om 34 = .int z := (Sm.v m_24 r_12 (by decide) rfl kn_14)
  have kn_30 : g_22.2.1 om 22 = .int o1 := (Sm.v m_24 r_12 (by decide) rfl kn_15)
  refine W.eq (g2 := F0 m 430 ls [.int r_23]) rfl ?_
  refine lv_pop hx hb dL_law_430 rfl ?_
  refine lv_goto (tgt := 829) hx hb dL_law_431 (by decide) ?_
  refine W.widen (k := cells + 4) (n := slots + 28) (by omega) (by omega) ?_
  exact K g_22 z o1 H locs hT hI r_26 r_27 kn_28 kn_29 (by omega) (by omega) kn_30 (by have e0_ : (0 : Int32).toInt = 0 := (by decide); omega) (by have e0_ : (0 : Int32).toInt = 0 := (by decide); omega) hw hN0
