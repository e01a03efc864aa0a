theorem k_38 : Cond.selects RX7 yX7_find yX7_find ∈ tb := mt 38 (by decide +kernel) rfl
theorem k_39 : Cond.selects RX7 yX7_keeps yX7_keeps ∈ tb := mt 39 (by decide +kernel) rfl
theorem k_760 : Cond.fieldLink RX7 52 "TwiceOnceModel" "knownX" "[I" ∈ tb := mt 760 (by decide +kernel) rfl
theorem k_761 : Cond.fieldLink RX7 55 "TwiceOnceModel" "knownKey" "[I" ∈ tb := mt 761 (by decide +kernel) rfl
theorem k_762 : Cond.fieldLink RX7 58 "TwiceOnceModel" "knownWord" "[I" ∈ tb := mt 762 (by decide +kernel) rfl
theorem k_763 : Cond.fieldLink RX7 61 "TwiceOnceModel" "knownPlace" "[I" ∈ tb := mt 763 (by decide +kernel) rfl
theorem k_764 : Cond.fieldLink RX7 64 "TwiceOnceModel" "knownWorth" "[I" ∈ tb := mt 764 (by decide +kernel) rfl
theorem k_765 : Cond.fieldLink RX7 67 "TwiceOnceModel" "isKnown" "[Z" ∈ tb := mt 765 (by decide +kernel) rfl
theorem k_788 : Cond.fieldLink RX7 110 "TwiceOnceModel" "fS" "[I" ∈ tb := mt 788 (by decide +kernel) rfl
theorem k_789 : Cond.fieldLink RX7 113 "TwiceOnceModel" "fX" "[I" ∈ tb := mt 789 (by decide +kernel) rfl
theorem k_790 : Cond.fieldLink RX7 116 "TwiceOnceModel" "fKey" "[I" ∈ tb := mt 790 (by decide +kernel) rfl
theorem k_791 : Cond.fieldLink RX7 119 "TwiceOnceModel" "fAt" "[I" ∈ tb := mt 791 (by decide +kernel) rfl
theorem k_792 : Cond.fieldLink RX7 122 "TwiceOnceModel" "fAnswer" "[I" ∈ tb := mt 792 (by decide +kernel) rfl
theorem k_793 : Cond.fieldLink RX7 125 "TwiceOnceModel" "fSame" "[Z" ∈ tb := mt 793 (by decide +kernel) rfl
theorem k_794 : Cond.fieldLink RX7 249 "TwiceOnceModel" "depth" "I" ∈ tb := mt 794 (by decide +kernel) rfl
theorem k_796 : Cond.fieldLink RX7 246 "TwiceOnceModel" "answer" "I" ∈ tb := mt 796 (by decide +kernel) rfl
theorem k_797 : Cond.fieldLink RX7 259 "TwiceOnceModel" "triedOuts" "I" ∈ tb := mt 797 (by decide +kernel) rfl
theorem k_798 : Cond.fieldLink RX7 128 "TwiceOnceModel" "triedOut" "[I" ∈ tb := mt 798 (by decide +kernel) rfl
theorem k_799 : Cond.fieldLink RX7 131 "TwiceOnceModel" "aheadWord" "[I" ∈ tb := mt 799 (by decide +kernel) rfl
theorem k_800 : Cond.fieldLink RX7 134 "TwiceOnceModel" "aheadPlace" "[I" ∈ tb := mt 800 (by decide +kernel) rfl
theorem k_801 : Cond.fieldLink RX7 137 "TwiceOnceModel" "aheadWorth" "[I" ∈ tb := mt 801 (by decide +kernel) rfl
theorem k_1056 : Cond.methodLink RX7 242 yX7_find ∈ tb := mt 1056 (by decide +kernel) rfl
theorem k_1058 : Cond.instanceMethod yX7_find ∈ tb := mt 1058 (by decide +kernel) rfl
set_option maxRecDepth 20000 in
theorem k_1059 : Cond.code yX7_find cX7_find 5 (some .int) ∈ tb := mt 1059 rfl rfl
theorem k_1060 : Cond.methodLink RX7 252 yX7_keeps ∈ tb := mt 1060 (by decide +kernel) rfl
theorem k_1062 : Cond.instanceMethod yX7_keeps ∈ tb := mt 1062 (by decide +kernel) rfl
set_option maxRecDepth 20000 in
theorem k_1063 : Cond.code yX7_keeps cX7_keeps 6 none ∈ tb := mt 1063 rfl rfl
theorem dX7_begins_187 : decode cX7_begins 187 = .ok (.iload 7, 2) := by decide +kernel
theorem dX7_begins_189 : decode cX7_begins 189 = .ok (.bipush 8, 2) := by decide +kernel
theorem dX7_begins_191 : decode cX7_begins 191 = .ok (.if_icmp .ge 98, 3) := by decide +kernel
theorem dX7_begins_289 : decode cX7_begins 289 = .ok (.aload_n 0, 1) := by decide +kernel
theorem dX7_begins_290 : decode cX7_begins 290 = .ok (.getfield 67, 3) := by decide +kernel
theorem dX7_begins_293 : decode cX7_begins 293 = .ok (.iload 6, 2) := by decide +kernel
theorem dX7_begins_295 : decode cX7_begins 295 = .ok (.iconst 1, 1) := by decide +kernel
theorem dX7_begins_296 : decode cX7_begins 296 = .ok (.bastore, 1) := by decide +kernel
theorem dX7_begins_297 : decode cX7_begins 297 = .ok (.aload_n 0, 1) := by decide +kernel
theorem dX7_begins_298 : decode cX7_begins 298 = .ok (.getfield 52, 3) := by decide +kernel
theorem dX7_begins_301 : decode cX7_begins 301 = .ok (.iload 6, 2) := by decide +kernel
theorem dX7_begins_303 : decode cX7_begins 303 = .ok (.iload_n 2, 1) := by decide +kernel
theorem dX7_begins_304 : decode cX7_begins 304 = .ok (.iastore, 1) := by decide +kernel
theorem dX7_begins_305 : decode cX7_begins 305 = .ok (.aload_n 0, 1) := by decide +kernel
theorem dX7_begins_306 : decode cX7_begins 306 = .ok (.getfield 55, 3) := by decide +kernel
theorem dX7_begins_309 : decode cX7_begins 309 = .ok (.iload 6, 2) := by decide +kernel
theorem dX7_begins_311 : decode cX7_begins 311 = .ok (.iload_n 3, 1) := by decide +kernel
theorem dX7_begins_312 : decode cX7_begins 312 = .ok (.iastore, 1) := by decide +kernel
theorem dX7_begins_313 : decode cX7_begins 313 = .ok (.iload 4, 2) := by decide +kernel
theorem dX7_begins_315 : decode cX7_begins 315 = .ok (.ifCond .eq 20, 3) := by decide +kernel
theorem dX7_begins_335 : decode cX7_begins 335 = .ok (.iconst 0, 1) := by decide +kernel
theorem dX7_begins_336 : decode cX7_begins 336 = .ok (.ireturn, 1) := by decide +kernel
theorem dX7_begins_318 : decode cX7_begins 318 = .ok (.aload_n 0, 1) := by decide +kernel
theorem dX7_begins_319 : decode cX7_begins 319 = .ok (.iload_n 1, 1) := by decide +kernel
theorem dX7_begins_320 : decode cX7_begins 320 = .ok (.iconst 1, 1) := by decide +kernel
theorem dX7_begins_321 : decode cX7_begins 321 = .ok (.invokevirtual 216, 3) := by decide +kernel
theorem dX7_begins_324 : decode cX7_begins 324 = .ok (.ifCond .eq 11, 3) := by decide +kernel
theorem dX7_begins_327 : decode cX7_begins 327 = .ok (.aload_n 0, 1) := by decide +kernel
theorem dX7_begins_328 : decode cX7_begins 328 = .ok (.iload_n 1, 1) := by decide +kernel
theorem dX7_begins_329 : decode cX7_begins 329 = .ok (.iload_n 3, 1) := by decide +kernel
theorem dX7_begins_330 : decode cX7_begins 330 = .ok (.iload_n 2, 1) := by decide +kernel
theorem dX7_begins_331 : decode cX7_begins 331 = .ok (.iconst 0, 1) := by decide +kernel
theorem dX7_begins_332 : decode cX7_begins 332 = .ok (.invokevirtual 252, 3) := by decide +kernel
theorem dX7_begins_194 : decode cX7_begins 194 = .ok (.aload_n 0, 1) := by decide +kernel
theorem dX7_begins_195 : decode cX7_begins 195 = .ok (.getfield 131, 3) := by decide +kernel
theorem dX7_begins_198 : decode cX7_begins 198 = .ok (.bipush 8, 2) := by decide +kernel
theorem dX7_begins_200 : decode cX7_begins 200 = .ok (.iload_n 1, 1) := by decide +kernel
theorem dX7_begins_201 : decode cX7_begins 201 = .ok (.imul, 1) := by decide +kernel
theorem dX7_begins_202 : decode cX7_begins 202 = .ok (.iload 7, 2) := by decide +kernel
theorem dX7_begins_204 : decode cX7_begins 204 = .ok (.iadd, 1) := by decide +kernel
theorem dX7_begins_205 : decode cX7_begins 205 = .ok (.aload_n 0, 1) := by decide +kernel
theorem dX7_begins_206 : decode cX7_begins 206 = .ok (.getfield 58, 3) := by decide +kernel
theorem dX7_begins_209 : decode cX7_begins 209 = .ok (.bipush 8, 2) := by decide +kernel
theorem dX7_begins_211 : decode cX7_begins 211 = .ok (.iload 6, 2) := by decide +kernel
theorem dX7_begins_213 : decode cX7_begins 213 = .ok (.imul, 1) := by decide +kernel
theorem dX7_begins_214 : decode cX7_begins 214 = .ok (.iload 7, 2) := by decide +kernel
theorem dX7_begins_216 : decode cX7_begins 216 = .ok (.iadd, 1) := by decide +kernel
theorem dX7_begins_217 : decode cX7_begins 217 = .ok (.iaload, 1) := by decide +kernel
theorem dX7_begins_218 : decode cX7_begins 218 = .ok (.iastore, 1) := by decide +kernel
theorem dX7_begins_219 : decode cX7_begins 219 = .ok (.aload_n 0, 1) := by decide +kernel
theorem dX7_begins_220 : decode cX7_begins 220 = .ok (.getfield 134, 3) := by decide +kernel
theorem dX7_begins_223 : decode cX7_begins 223 = .ok (.bipush 8, 2) := by decide +kernel
theorem dX7_begins_225 : decode cX7_begins 225 = .ok (.iload_n 1, 1) := by decide +kernel
theorem dX7_begins_226 : decode cX7_begins 226 = .ok (.imul, 1) := by decide +kernel
theorem dX7_begins_227 : decode cX7_begins 227 = .ok (.iload 7, 2) := by decide +kernel
theorem dX7_begins_229 : decode cX7_begins 229 = .ok (.iadd, 1) := by decide +kernel
theorem dX7_begins_230 : decode cX7_begins 230 = .ok (.aload_n 0, 1) := by decide +kernel
theorem dX7_begins_231 : decode cX7_begins 231 = .ok (.getfield 61, 3) := by decide +kernel
theorem dX7_begins_234 : decode cX7_begins 234 = .ok (.bipush 8, 2) := by decide +kernel
theorem dX7_begins_236 : decode cX7_begins 236 = .ok (.iload 6, 2) := by decide +kernel
theorem dX7_begins_238 : decode cX7_begins 238 = .ok (.imul, 1) := by decide +kernel
theorem dX7_begins_239 : decode cX7_begins 239 = .ok (.iload 7, 2) := by decide +kernel
theorem dX7_begins_241 : decode cX7_begins 241 = .ok (.iadd, 1) := by decide +kernel
theorem dX7_begins_242 : decode cX7_begins 242 = .ok (.iaload, 1) := by decide +kernel
theorem dX7_begins_243 : decode cX7_begins 243 = .ok (.iastore, 1) := by decide +kernel
theorem dX7_begins_244 : decode cX7_begins 244 = .ok (.aload_n 0, 1) := by decide +kernel
theorem dX7_begins_245 : decode cX7_begins 245 = .ok (.getfield 137, 3) := by decide +kernel
theorem dX7_begins_248 : decode cX7_begins 248 = .ok (.bipush 8, 2) := by decide +kernel
theorem dX7_begins_250 : decode cX7_begins 250 = .ok (.iload_n 1, 1) := by decide +kernel
theorem dX7_begins_251 : decode cX7_begins 251 = .ok (.imul, 1) := by decide +kernel
theorem dX7_begins_252 : decode cX7_begins 252 = .ok (.iload 7, 2) := by decide +kernel
theorem dX7_begins_254 : decode cX7_begins 254 = .ok (.iadd, 1) := by decide +kernel
theorem dX7_begins_255 : decode cX7_begins 255 = .ok (.aload_n 0, 1) := by decide +kernel
theorem dX7_begins_256 : decode cX7_begins 256 = .ok (.getfield 64, 3) := by decide +kernel
theorem dX7_begins_259 : decode cX7_begins 259 = .ok (.bipush 8, 2) := by decide +kernel
theorem dX7_begins_261 : decode cX7_begins 261 = .ok (.iload 6, 2) := by decide +kernel
theorem dX7_begins_263 : decode cX7_begins 263 = .ok (.imul, 1) := by decide +kernel
theorem dX7_begins_264 : decode cX7_begins 264 = .ok (.iload 7, 2) := by decide +kernel
theorem dX7_begins_266 : decode cX7_begins 266 = .ok (.iadd, 1) := by decide +kernel
theorem dX7_begins_267 : decode cX7_begins 267 = .ok (.iaload, 1) := by decide +kernel
theorem dX7_begins_268 : decode cX7_begins 268 = .ok (.iastore, 1) := by decide +kernel
theorem dX7_begins_269 : decode cX7_begins 269 = .ok (.aload_n 0, 1) := by decide +kernel
theorem dX7_begins_270 : decode cX7_begins 270 = .ok (.getfield 58, 3) := by decide +kernel
theorem dX7_begins_273 : decode cX7_begins 273 = .ok (.bipush 8, 2) := by decide +kernel
theorem dX7_begins_275 : decode cX7_begins 275 = .ok (.iload 6, 2) := by decide +kernel
theorem dX7_begins_277 : decode cX7_begins 277 = .ok (.imul, 1) := by decide +kernel
theorem dX7_begins_278 : decode cX7_begins 278 = .ok (.iload 7, 2) := by decide +kernel
theorem dX7_begins_280 : decode cX7_begins 280 = .ok (.iadd, 1) := by decide +kernel
theorem dX7_begins_281 : decode cX7_begins 281 = .ok (.iconst (-1), 1) := by decide +kernel
theorem dX7_begins_282 : decode cX7_begins 282 = .ok (.iastore, 1) := by decide +kernel
theorem dX7_begins_283 : decode cX7_begins 283 = .ok (.iinc 7 1, 3) := by decide +kernel
theorem dX7_begins_286 : decode cX7_begins 286 = .ok (.goto (-99), 3) := by decide +kernel
theorem dX7_begins_71 : decode cX7_begins 71 = .ok (.aload_n 0, 1) := by decide +kernel
theorem dX7_begins_72 : decode cX7_begins 72 = .ok (.iload_n 1, 1) := by decide +kernel
theorem dX7_begins_73 : decode cX7_begins 73 = .ok (.invokevirtual 232, 3) := by decide +kernel
theorem dX7_begins_76 : decode cX7_begins 76 = .ok (.istore 6, 2) := by decide +kernel
theorem dX7_begins_78 : decode cX7_begins 78 = .ok (.aload_n 0, 1) := by decide +kernel
theorem dX7_begins_79 : decode cX7_begins 79 = .ok (.getfield 110, 3) := by decide +kernel
theorem dX7_begins_82 : decode cX7_begins 82 = .ok (.aload_n 0, 1) := by decide +kernel
theorem dX7_begins_83 : decode cX7_begins 83 = .ok (.getfield 249, 3) := by decide +kernel
theorem dX7_begins_86 : decode cX7_begins 86 = .ok (.iload_n 1, 1) := by decide +kernel
theorem dX7_begins_87 : decode cX7_begins 87 = .ok (.iastore, 1) := by decide +kernel
theorem dX7_begins_88 : decode cX7_begins 88 = .ok (.aload_n 0, 1) := by decide +kernel
theorem dX7_begins_89 : decode cX7_begins 89 = .ok (.getfield 113, 3) := by decide +kernel
theorem dX7_begins_92 : decode cX7_begins 92 = .ok (.aload_n 0, 1) := by decide +kernel
theorem dX7_begins_93 : decode cX7_begins 93 = .ok (.getfield 249, 3) := by decide +kernel
theorem dX7_begins_96 : decode cX7_begins 96 = .ok (.iload_n 2, 1) := by decide +kernel
theorem dX7_begins_97 : decode cX7_begins 97 = .ok (.iastore, 1) := by decide +kernel
theorem dX7_begins_98 : decode cX7_begins 98 = .ok (.aload_n 0, 1) := by decide +kernel
theorem dX7_begins_99 : decode cX7_begins 99 = .ok (.getfield 116, 3) := by decide +kernel
theorem dX7_begins_102 : decode cX7_begins 102 = .ok (.aload_n 0, 1) := by decide +kernel
theorem dX7_begins_103 : decode cX7_begins 103 = .ok (.getfield 249, 3) := by decide +kernel
theorem dX7_begins_106 : decode cX7_begins 106 = .ok (.iload_n 3, 1) := by decide +kernel
theorem dX7_begins_107 : decode cX7_begins 107 = .ok (.iastore, 1) := by decide +kernel
theorem dX7_begins_108 : decode cX7_begins 108 = .ok (.aload_n 0, 1) := by decide +kernel
theorem dX7_begins_109 : decode cX7_begins 109 = .ok (.getfield 119, 3) := by decide +kernel
theorem dX7_begins_112 : decode cX7_begins 112 = .ok (.aload_n 0, 1) := by decide +kernel
theorem dX7_begins_113 : decode cX7_begins 113 = .ok (.getfield 249, 3) := by decide +kernel
theorem dX7_begins_116 : decode cX7_begins 116 = .ok (.iconst 0, 1) := by decide +kernel
theorem dX7_begins_117 : decode cX7_begins 117 = .ok (.iastore, 1) := by decide +kernel
theorem dX7_begins_118 : decode cX7_begins 118 = .ok (.aload_n 0, 1) := by decide +kernel
theorem dX7_begins_119 : decode cX7_begins 119 = .ok (.getfield 122, 3) := by decide +kernel
theorem dX7_begins_122 : decode cX7_begins 122 = .ok (.aload_n 0, 1) := by decide +kernel
theorem dX7_begins_123 : decode cX7_begins 123 = .ok (.getfield 249, 3) := by decide +kernel
theorem dX7_begins_126 : decode cX7_begins 126 = .ok (.iconst 0, 1) := by decide +kernel
theorem dX7_begins_127 : decode cX7_begins 127 = .ok (.iastore, 1) := by decide +kernel
theorem dX7_begins_128 : decode cX7_begins 128 = .ok (.aload_n 0, 1) := by decide +kernel
theorem dX7_begins_129 : decode cX7_begins 129 = .ok (.getfield 125, 3) := by decide +kernel
theorem dX7_begins_132 : decode cX7_begins 132 = .ok (.aload_n 0, 1) := by decide +kernel
theorem dX7_begins_133 : decode cX7_begins 133 = .ok (.getfield 249, 3) := by decide +kernel
theorem dX7_begins_136 : decode cX7_begins 136 = .ok (.aload_n 0, 1) := by decide +kernel
theorem dX7_begins_137 : decode cX7_begins 137 = .ok (.getfield 67, 3) := by decide +kernel
theorem dX7_begins_140 : decode cX7_begins 140 = .ok (.iload 6, 2) := by decide +kernel
theorem dX7_begins_142 : decode cX7_begins 142 = .ok (.baload, 1) := by decide +kernel
theorem dX7_begins_143 : decode cX7_begins 143 = .ok (.ifCond .eq 29, 3) := by decide +kernel
theorem dX7_begins_172 : decode cX7_begins 172 = .ok (.iconst 0, 1) := by decide +kernel
theorem dX7_begins_173 : decode cX7_begins 173 = .ok (.bastore, 1) := by decide +kernel
theorem dX7_begins_174 : decode cX7_begins 174 = .ok (.aload_n 0, 1) := by decide +kernel
theorem dX7_begins_175 : decode cX7_begins 175 = .ok (.dup, 1) := by decide +kernel
theorem dX7_begins_176 : decode cX7_begins 176 = .ok (.getfield 249, 3) := by decide +kernel
theorem dX7_begins_179 : decode cX7_begins 179 = .ok (.iconst 1, 1) := by decide +kernel
theorem dX7_begins_180 : decode cX7_begins 180 = .ok (.iadd, 1) := by decide +kernel
theorem dX7_begins_181 : decode cX7_begins 181 = .ok (.putfield 249, 3) := by decide +kernel
theorem dX7_begins_184 : decode cX7_begins 184 = .ok (.iconst 0, 1) := by decide +kernel
theorem dX7_begins_185 : decode cX7_begins 185 = .ok (.istore 7, 2) := by decide +kernel
theorem dX7_begins_146 : decode cX7_begins 146 = .ok (.aload_n 0, 1) := by decide +kernel
theorem dX7_begins_147 : decode cX7_begins 147 = .ok (.getfield 52, 3) := by decide +kernel
theorem dX7_begins_150 : decode cX7_begins 150 = .ok (.iload 6, 2) := by decide +kernel
theorem dX7_begins_152 : decode cX7_begins 152 = .ok (.iaload, 1) := by decide +kernel
theorem dX7_begins_153 : decode cX7_begins 153 = .ok (.iload_n 2, 1) := by decide +kernel
theorem dX7_begins_154 : decode cX7_begins 154 = .ok (.if_icmp .ne 18, 3) := by decide +kernel
theorem dX7_begins_157 : decode cX7_begins 157 = .ok (.aload_n 0, 1) := by decide +kernel
theorem dX7_begins_158 : decode cX7_begins 158 = .ok (.getfield 55, 3) := by decide +kernel
theorem dX7_begins_161 : decode cX7_begins 161 = .ok (.iload 6, 2) := by decide +kernel
theorem dX7_begins_163 : decode cX7_begins 163 = .ok (.iaload, 1) := by decide +kernel
theorem dX7_begins_164 : decode cX7_begins 164 = .ok (.iload_n 3, 1) := by decide +kernel
theorem dX7_begins_165 : decode cX7_begins 165 = .ok (.if_icmp .ne 7, 3) := by decide +kernel
theorem dX7_begins_168 : decode cX7_begins 168 = .ok (.iconst 1, 1) := by decide +kernel
theorem dX7_begins_169 : decode cX7_begins 169 = .ok (.goto 4, 3) := by decide +kernel
theorem dX7_begins_0 : decode cX7_begins 0 = .ok (.aload_n 0, 1) := by decide +kernel
theorem dX7_begins_1 : decode cX7_begins 1 = .ok (.iload_n 1, 1) := by decide +kernel
theorem dX7_begins_2 : decode cX7_begins 2 = .ok (.iconst 0, 1) := by decide +kernel
theorem dX7_begins_3 : decode cX7_begins 3 = .ok (.invokevirtual 216, 3) := by decide +kernel
theorem dX7_begins_6 : decode cX7_begins 6 = .ok (.ifCond .eq 11, 3) := by decide +kernel
theorem dX7_begins_9 : decode cX7_begins 9 = .ok (.iload_n 3, 1) := by decide +kernel
theorem dX7_begins_10 : decode cX7_begins 10 = .ok (.ifCond .eq 7, 3) := by decide +kernel
theorem dX7_begins_17 : decode cX7_begins 17 = .ok (.iconst 0, 1) := by decide +kernel
theorem dX7_begins_18 : decode cX7_begins 18 = .ok (.istore 4, 2) := by decide +kernel
theorem dX7_begins_20 : decode cX7_begins 20 = .ok (.iload 4, 2) := by decide +kernel
theorem dX7_begins_22 : decode cX7_begins 22 = .ok (.ifCond .eq 12, 3) := by decide +kernel
theorem dX7_begins_34 : decode cX7_begins 34 = .ok (.iconst (-1), 1) := by decide +kernel
theorem dX7_begins_35 : decode cX7_begins 35 = .ok (.istore 5, 2) := by decide +kernel
theorem dX7_begins_37 : decode cX7_begins 37 = .ok (.iload 5, 2) := by decide +kernel
theorem dX7_begins_39 : decode cX7_begins 39 = .ok (.iconst (-1), 1) := by decide +kernel
theorem dX7_begins_40 : decode cX7_begins 40 = .ok (.if_icmp .eq 31, 3) := by decide +kernel
theorem dX7_begins_13 : decode cX7_begins 13 = .ok (.iconst 1, 1) := by decide +kernel
theorem dX7_begins_14 : decode cX7_begins 14 = .ok (.goto 4, 3) := by decide +kernel
theorem dX7_begins_25 : decode cX7_begins 25 = .ok (.aload_n 0, 1) := by decide +kernel
theorem dX7_begins_26 : decode cX7_begins 26 = .ok (.iload_n 1, 1) := by decide +kernel
theorem dX7_begins_27 : decode cX7_begins 27 = .ok (.iload_n 3, 1) := by decide +kernel
theorem dX7_begins_28 : decode cX7_begins 28 = .ok (.invokevirtual 242, 3) := by decide +kernel
theorem dX7_begins_31 : decode cX7_begins 31 = .ok (.goto 4, 3) := by decide +kernel
theorem dX7_begins_43 : decode cX7_begins 43 = .ok (.aload_n 0, 1) := by decide +kernel
theorem dX7_begins_44 : decode cX7_begins 44 = .ok (.aload_n 0, 1) := by decide +kernel
theorem dX7_begins_45 : decode cX7_begins 45 = .ok (.getfield 40, 3) := by decide +kernel
theorem dX7_begins_48 : decode cX7_begins 48 = .ok (.iload 5, 2) := by decide +kernel
theorem dX7_begins_50 : decode cX7_begins 50 = .ok (.iaload, 1) := by decide +kernel
theorem dX7_begins_51 : decode cX7_begins 51 = .ok (.iload_n 2, 1) := by decide +kernel
theorem dX7_begins_52 : decode cX7_begins 52 = .ok (.if_icmp .ne 13, 3) := by decide +kernel
theorem dX7_begins_65 : decode cX7_begins 65 = .ok (.iconst (-1), 1) := by decide +kernel
theorem dX7_begins_66 : decode cX7_begins 66 = .ok (.putfield 246, 3) := by decide +kernel
theorem dX7_begins_69 : decode cX7_begins 69 = .ok (.iconst 1, 1) := by decide +kernel
theorem dX7_begins_70 : decode cX7_begins 70 = .ok (.ireturn, 1) := by decide +kernel
theorem dX7_begins_55 : decode cX7_begins 55 = .ok (.aload_n 0, 1) := by decide +kernel
theorem dX7_begins_56 : decode cX7_begins 56 = .ok (.getfield 43, 3) := by decide +kernel
theorem dX7_begins_59 : decode cX7_begins 59 = .ok (.iload 5, 2) := by decide +kernel
theorem dX7_begins_61 : decode cX7_begins 61 = .ok (.iaload, 1) := by decide +kernel
theorem dX7_begins_62 : decode cX7_begins 62 = .ok (.goto 4, 3) := by decide +kernel
theorem dX7_closes_109 : decode cX7_closes 109 = .ok (.aload_n 0, 1) := by decide +kernel
theorem dX7_closes_110 : decode cX7_closes 110 = .ok (.getfield 249, 3) := by decide +kernel
theorem dX7_closes_113 : decode cX7_closes 113 = .ok (.ifCond .le 18, 3) := by decide +kernel
theorem dX7_closes_131 : decode cX7_closes 131 = .ok (.return_, 1) := by decide +kernel
theorem dX7_closes_116 : decode cX7_closes 116 = .ok (.aload_n 0, 1) := by decide +kernel
theorem dX7_closes_117 : decode cX7_closes 117 = .ok (.getfield 122, 3) := by decide +kernel
theorem dX7_closes_120 : decode cX7_closes 120 = .ok (.aload_n 0, 1) := by decide +kernel
theorem dX7_closes_121 : decode cX7_closes 121 = .ok (.getfield 249, 3) := by decide +kernel
theorem dX7_closes_124 : decode cX7_closes 124 = .ok (.iconst 1, 1) := by decide +kernel
theorem dX7_closes_125 : decode cX7_closes 125 = .ok (.isub, 1) := by decide +kernel
theorem dX7_closes_126 : decode cX7_closes 126 = .ok (.aload_n 0, 1) := by decide +kernel
theorem dX7_closes_127 : decode cX7_closes 127 = .ok (.getfield 246, 3) := by decide +kernel
theorem dX7_closes_130 : decode cX7_closes 130 = .ok (.iastore, 1) := by decide +kernel
theorem dX7_closes_0 : decode cX7_closes 0 = .ok (.aload_n 0, 1) := by decide +kernel
theorem dX7_closes_1 : decode cX7_closes 1 = .ok (.dup, 1) := by decide +kernel
theorem dX7_closes_2 : decode cX7_closes 2 = .ok (.getfield 249, 3) := by decide +kernel
theorem dX7_closes_5 : decode cX7_closes 5 = .ok (.iconst 1, 1) := by decide +kernel
theorem dX7_closes_6 : decode cX7_closes 6 = .ok (.isub, 1) := by decide +kernel
theorem dX7_closes_7 : decode cX7_closes 7 = .ok (.putfield 249, 3) := by decide +kernel
theorem dX7_closes_10 : decode cX7_closes 10 = .ok (.aload_n 0, 1) := by decide +kernel
theorem dX7_closes_11 : decode cX7_closes 11 = .ok (.getfield 110, 3) := by decide +kernel
theorem dX7_closes_14 : decode cX7_closes 14 = .ok (.aload_n 0, 1) := by decide +kernel
theorem dX7_closes_15 : decode cX7_closes 15 = .ok (.getfield 249, 3) := by decide +kernel
theorem dX7_closes_18 : decode cX7_closes 18 = .ok (.iaload, 1) := by decide +kernel
theorem dX7_closes_19 : decode cX7_closes 19 = .ok (.istore_n 1, 1) := by decide +kernel
theorem dX7_closes_20 : decode cX7_closes 20 = .ok (.aload_n 0, 1) := by decide +kernel
theorem dX7_closes_21 : decode cX7_closes 21 = .ok (.getfield 116, 3) := by decide +kernel
theorem dX7_closes_24 : decode cX7_closes 24 = .ok (.aload_n 0, 1) := by decide +kernel
theorem dX7_closes_25 : decode cX7_closes 25 = .ok (.getfield 249, 3) := by decide +kernel
theorem dX7_closes_28 : decode cX7_closes 28 = .ok (.iaload, 1) := by decide +kernel
theorem dX7_closes_29 : decode cX7_closes 29 = .ok (.istore_n 2, 1) := by decide +kernel
theorem dX7_closes_30 : decode cX7_closes 30 = .ok (.aload_n 0, 1) := by decide +kernel
theorem dX7_closes_31 : decode cX7_closes 31 = .ok (.aload_n 0, 1) := by decide +kernel
theorem dX7_closes_32 : decode cX7_closes 32 = .ok (.getfield 122, 3) := by decide +kernel
theorem dX7_closes_35 : decode cX7_closes 35 = .ok (.aload_n 0, 1) := by decide +kernel
theorem dX7_closes_36 : decode cX7_closes 36 = .ok (.getfield 249, 3) := by decide +kernel
theorem dX7_closes_39 : decode cX7_closes 39 = .ok (.iaload, 1) := by decide +kernel
theorem dX7_closes_40 : decode cX7_closes 40 = .ok (.putfield 246, 3) := by decide +kernel
theorem dX7_closes_43 : decode cX7_closes 43 = .ok (.aload_n 0, 1) := by decide +kernel
theorem dX7_closes_44 : decode cX7_closes 44 = .ok (.iload_n 1, 1) := by decide +kernel
theorem dX7_closes_45 : decode cX7_closes 45 = .ok (.iconst 0, 1) := by decide +kernel
theorem dX7_closes_46 : decode cX7_closes 46 = .ok (.invokevirtual 216, 3) := by decide +kernel
theorem dX7_closes_49 : decode cX7_closes 49 = .ok (.ifCond .eq 60, 3) := by decide +kernel
theorem dX7_closes_52 : decode cX7_closes 52 = .ok (.iload_n 2, 1) := by decide +kernel
theorem dX7_closes_53 : decode cX7_closes 53 = .ok (.ifCond .eq 56, 3) := by decide +kernel
theorem dX7_closes_56 : decode cX7_closes 56 = .ok (.aload_n 0, 1) := by decide +kernel
theorem dX7_closes_57 : decode cX7_closes 57 = .ok (.iload_n 1, 1) := by decide +kernel
theorem dX7_closes_58 : decode cX7_closes 58 = .ok (.iload_n 2, 1) := by decide +kernel
theorem dX7_closes_59 : decode cX7_closes 59 = .ok (.invokevirtual 242, 3) := by decide +kernel
theorem dX7_closes_62 : decode cX7_closes 62 = .ok (.istore_n 3, 1) := by decide +kernel
theorem dX7_closes_63 : decode cX7_closes 63 = .ok (.aload_n 0, 1) := by decide +kernel
theorem dX7_closes_64 : decode cX7_closes 64 = .ok (.iload_n 1, 1) := by decide +kernel
theorem dX7_closes_65 : decode cX7_closes 65 = .ok (.iconst 1, 1) := by decide +kernel
theorem dX7_closes_66 : decode cX7_closes 66 = .ok (.invokevirtual 216, 3) := by decide +kernel
theorem dX7_closes_69 : decode cX7_closes 69 = .ok (.ifCond .ne 25, 3) := by decide +kernel
theorem dX7_closes_94 : decode cX7_closes 94 = .ok (.iload_n 3, 1) := by decide +kernel
theorem dX7_closes_95 : decode cX7_closes 95 = .ok (.iconst (-1), 1) := by decide +kernel
theorem dX7_closes_96 : decode cX7_closes 96 = .ok (.if_icmp .eq 13, 3) := by decide +kernel
theorem dX7_closes_72 : decode cX7_closes 72 = .ok (.aload_n 0, 1) := by decide +kernel
theorem dX7_closes_73 : decode cX7_closes 73 = .ok (.iload_n 1, 1) := by decide +kernel
theorem dX7_closes_74 : decode cX7_closes 74 = .ok (.iload_n 2, 1) := by decide +kernel
theorem dX7_closes_75 : decode cX7_closes 75 = .ok (.aload_n 0, 1) := by decide +kernel
theorem dX7_closes_76 : decode cX7_closes 76 = .ok (.getfield 113, 3) := by decide +kernel
theorem dX7_closes_79 : decode cX7_closes 79 = .ok (.aload_n 0, 1) := by decide +kernel
theorem dX7_closes_80 : decode cX7_closes 80 = .ok (.getfield 249, 3) := by decide +kernel
theorem dX7_closes_83 : decode cX7_closes 83 = .ok (.iaload, 1) := by decide +kernel
theorem dX7_closes_84 : decode cX7_closes 84 = .ok (.aload_n 0, 1) := by decide +kernel
theorem dX7_closes_85 : decode cX7_closes 85 = .ok (.getfield 246, 3) := by decide +kernel
theorem dX7_closes_88 : decode cX7_closes 88 = .ok (.invokevirtual 252, 3) := by decide +kernel
theorem dX7_closes_91 : decode cX7_closes 91 = .ok (.goto 18, 3) := by decide +kernel
theorem dX7_closes_99 : decode cX7_closes 99 = .ok (.aload_n 0, 1) := by decide +kernel
theorem dX7_closes_100 : decode cX7_closes 100 = .ok (.getfield 43, 3) := by decide +kernel
theorem dX7_closes_103 : decode cX7_closes 103 = .ok (.iload_n 3, 1) := by decide +kernel
theorem dX7_closes_104 : decode cX7_closes 104 = .ok (.aload_n 0, 1) := by decide +kernel
theorem dX7_closes_105 : decode cX7_closes 105 = .ok (.getfield 246, 3) := by decide +kernel
theorem dX7_closes_108 : decode cX7_closes 108 = .ok (.iastore, 1) := by decide +kernel
theorem dX7_puts_10 : decode cX7_puts 10 = .ok (.iload_n 2, 1) := by decide +kernel
theorem dX7_puts_11 : decode cX7_puts 11 = .ok (.ifCond .le 23, 3) := by decide +kernel
theorem dX7_puts_34 : decode cX7_puts 34 = .ok (.aload_n 0, 1) := by decide +kernel
theorem dX7_puts_35 : decode cX7_puts 35 = .ok (.getfield 71, 3) := by decide +kernel
theorem dX7_puts_38 : decode cX7_puts 38 = .ok (.iconst 0, 1) := by decide +kernel
theorem dX7_puts_39 : decode cX7_puts 39 = .ok (.iload_n 1, 1) := by decide +kernel
theorem dX7_puts_40 : decode cX7_puts 40 = .ok (.iastore, 1) := by decide +kernel
theorem dX7_puts_41 : decode cX7_puts 41 = .ok (.aload_n 0, 1) := by decide +kernel
theorem dX7_puts_42 : decode cX7_puts 42 = .ok (.dup, 1) := by decide +kernel
theorem dX7_puts_43 : decode cX7_puts 43 = .ok (.getfield 256, 3) := by decide +kernel
theorem dX7_puts_46 : decode cX7_puts 46 = .ok (.iconst 1, 1) := by decide +kernel
theorem dX7_puts_47 : decode cX7_puts 47 = .ok (.iadd, 1) := by decide +kernel
theorem dX7_puts_48 : decode cX7_puts 48 = .ok (.putfield 256, 3) := by decide +kernel
theorem dX7_puts_51 : decode cX7_puts 51 = .ok (.goto 23, 3) := by decide +kernel
theorem dX7_puts_74 : decode cX7_puts 74 = .ok (.return_, 1) := by decide +kernel
theorem dX7_puts_14 : decode cX7_puts 14 = .ok (.aload_n 0, 1) := by decide +kernel
theorem dX7_puts_15 : decode cX7_puts 15 = .ok (.getfield 71, 3) := by decide +kernel
theorem dX7_puts_18 : decode cX7_puts 18 = .ok (.iload_n 2, 1) := by decide +kernel
theorem dX7_puts_19 : decode cX7_puts 19 = .ok (.aload_n 0, 1) := by decide +kernel
theorem dX7_puts_20 : decode cX7_puts 20 = .ok (.getfield 71, 3) := by decide +kernel
theorem dX7_puts_23 : decode cX7_puts 23 = .ok (.iload_n 2, 1) := by decide +kernel
theorem dX7_puts_24 : decode cX7_puts 24 = .ok (.iconst 1, 1) := by decide +kernel
theorem dX7_puts_25 : decode cX7_puts 25 = .ok (.isub, 1) := by decide +kernel
theorem dX7_puts_26 : decode cX7_puts 26 = .ok (.iaload, 1) := by decide +kernel
theorem dX7_puts_27 : decode cX7_puts 27 = .ok (.iastore, 1) := by decide +kernel
theorem dX7_puts_28 : decode cX7_puts 28 = .ok (.iinc 2 (-1), 3) := by decide +kernel
theorem dX7_puts_31 : decode cX7_puts 31 = .ok (.goto (-21), 3) := by decide +kernel
theorem dX7_puts_0 : decode cX7_puts 0 = .ok (.aload_n 0, 1) := by decide +kernel
theorem dX7_puts_1 : decode cX7_puts 1 = .ok (.getfield 223, 3) := by decide +kernel
theorem dX7_puts_4 : decode cX7_puts 4 = .ok (.ifCond .ne 50, 3) := by decide +kernel
theorem dX7_puts_7 : decode cX7_puts 7 = .ok (.bipush 39, 2) := by decide +kernel
theorem dX7_puts_9 : decode cX7_puts 9 = .ok (.istore_n 2, 1) := by decide +kernel
theorem dX7_puts_54 : decode cX7_puts 54 = .ok (.aload_n 0, 1) := by decide +kernel
theorem dX7_puts_55 : decode cX7_puts 55 = .ok (.getfield 128, 3) := by decide +kernel
theorem dX7_puts_58 : decode cX7_puts 58 = .ok (.aload_n 0, 1) := by decide +kernel
theorem dX7_puts_59 : decode cX7_puts 59 = .ok (.getfield 259, 3) := by decide +kernel
theorem dX7_puts_62 : decode cX7_puts 62 = .ok (.iload_n 1, 1) := by decide +kernel
theorem dX7_puts_63 : decode cX7_puts 63 = .ok (.iastore, 1) := by decide +kernel
theorem dX7_puts_64 : decode cX7_puts 64 = .ok (.aload_n 0, 1) := by decide +kernel
theorem dX7_puts_65 : decode cX7_puts 65 = .ok (.dup, 1) := by decide +kernel
theorem dX7_puts_66 : decode cX7_puts 66 = .ok (.getfield 259, 3) := by decide +kernel
theorem dX7_puts_69 : decode cX7_puts 69 = .ok (.iconst 1, 1) := by decide +kernel
theorem dX7_puts_70 : decode cX7_puts 70 = .ok (.iadd, 1) := by decide +kernel
theorem dX7_puts_71 : decode cX7_puts 71 = .ok (.putfield 259, 3) := by decide +kernel
theorem dX7_valued_0 : decode cX7_valued 0 = .ok (.aload_n 0, 1) := by decide +kernel
theorem dX7_valued_1 : decode cX7_valued 1 = .ok (.getfield 19, 3) := by decide +kernel
theorem dX7_valued_4 : decode cX7_valued 4 = .ok (.iload_n 1, 1) := by decide +kernel
theorem dX7_valued_5 : decode cX7_valued 5 = .ok (.iaload, 1) := by decide +kernel
theorem dX7_valued_6 : decode cX7_valued 6 = .ok (.istore_n 3, 1) := by decide +kernel
theorem dX7_valued_7 : decode cX7_valued 7 = .ok (.iload_n 3, 1) := by decide +kernel
theorem dX7_valued_8 : decode cX7_valued 8 = .ok (.sipush 1000, 3) := by decide +kernel
theorem dX7_valued_11 : decode cX7_valued 11 = .ok (.if_icmp .ne 12, 3) := by decide +kernel
theorem dX7_valued_23 : decode cX7_valued 23 = .ok (.iload_n 3, 1) := by decide +kernel
theorem dX7_valued_24 : decode cX7_valued 24 = .ok (.sipush 1001, 3) := by decide +kernel
theorem dX7_valued_27 : decode cX7_valued 27 = .ok (.if_icmp .ne 25, 3) := by decide +kernel
theorem dX7_valued_52 : decode cX7_valued 52 = .ok (.iload_n 3, 1) := by decide +kernel
theorem dX7_valued_53 : decode cX7_valued 53 = .ok (.ireturn, 1) := by decide +kernel
theorem dX7_valued_30 : decode cX7_valued 30 = .ok (.aload_n 0, 1) := by decide +kernel
theorem dX7_valued_31 : decode cX7_valued 31 = .ok (.getfield 122, 3) := by decide +kernel
theorem dX7_valued_34 : decode cX7_valued 34 = .ok (.iload_n 2, 1) := by decide +kernel
theorem dX7_valued_35 : decode cX7_valued 35 = .ok (.iaload, 1) := by decide +kernel
theorem dX7_valued_36 : decode cX7_valued 36 = .ok (.ifCond .ge 7, 3) := by decide +kernel
theorem dX7_valued_43 : decode cX7_valued 43 = .ok (.aload_n 0, 1) := by decide +kernel
theorem dX7_valued_44 : decode cX7_valued 44 = .ok (.getfield 122, 3) := by decide +kernel
theorem dX7_valued_47 : decode cX7_valued 47 = .ok (.iload_n 2, 1) := by decide +kernel
theorem dX7_valued_48 : decode cX7_valued 48 = .ok (.iaload, 1) := by decide +kernel
theorem dX7_valued_49 : decode cX7_valued 49 = .ok (.goto 4, 3) := by decide +kernel
theorem dX7_valued_39 : decode cX7_valued 39 = .ok (.iconst 0, 1) := by decide +kernel
theorem dX7_valued_40 : decode cX7_valued 40 = .ok (.goto 13, 3) := by decide +kernel
theorem dX7_valued_14 : decode cX7_valued 14 = .ok (.aload_n 0, 1) := by decide +kernel
theorem dX7_valued_15 : decode cX7_valued 15 = .ok (.getfield 113, 3) := by decide +kernel
theorem dX7_valued_18 : decode cX7_valued 18 = .ok (.iload_n 2, 1) := by decide +kernel
theorem dX7_valued_19 : decode cX7_valued 19 = .ok (.iaload, 1) := by decide +kernel
theorem dX7_valued_20 : decode cX7_valued 20 = .ok (.goto 33, 3) := by decide +kernel
abbrev md_m_begins : Nat → Nat → Bool := mdf [(8, 49), (8, 51), (40, 99), (50, 99), (51, 99), (54, 99), (55, 99), (56, 99), (58, 99)]
theorem mdle_m_begins_m_keeps {r k : Nat} (h : md_m_begins r k = false) : md_m_keeps r k = false := mdf_le (by decide +kernel) h
set_option maxHeartbeats 4000000 in
set_option maxRecDepth 100000 in
theorem lt_m_begins_b (l : Launch) (D : va_G) (cI cZ cS cR : ClassId) (N0 : NT) (g : GS) (h : Nat) (n : Int32) (k : Int32) (j : Int32) (dd : Int32) (fa : Nat) (r_h : g.1 h = 8) (r_fa : g.1 fa = 51) (n_fa : g.2.2.1 fa = 7) (kdd : g.2.1 h 49 = .int dd) (kfa : g.2.1 h 43 = .ref fa) (l_n : 0 ≤ n.toInt) (u_n : n.toInt ≤ 5) (l_k : 0 ≤ k.toInt) (u_k : k.toInt ≤ 999) (l_dd : 0 ≤ dd.toInt) (u_dd : dd.toInt ≤ 5) (hdn : dd.toInt ≤ n.toInt) (hD_0 : DP g fa dd.toInt) {p : Program} {e : Env} {s : State} {m : MethodId} {args : Array Value} {below : List Frame} {meth : Method} {c : Code} (hB : Tz p s m meth c args cX7_begins 8 RX7 D cI cZ cS cR N0) (hr : meth.sig.returnType = (some .boolean))    : ∀ (kf : Nat) (g1 : GS) (i : Int32) (ky : Int32) (b : Int32) (d2 : Int32)  (H : Heap) (locs : List Loc) (ls : Array Slot), Tv D cI cZ cS cR N0 s.heap H locs g1 → Inv g1 → Ex g g1 → Sm md_m_begins g g1 → 0 ≤ i.toInt → i.toInt ≤ 8 → 0 ≤ ky.toInt → ky.toInt ≤ 1 → 0 ≤ b.toInt → b.toInt ≤ 11 → 1 ≤ d2.toInt → d2.toInt ≤ 6 → g1.2.1 h 49 = .int d2 → (DP g1 fa (dd.toInt + 1)) → (d2.toInt = dd.toInt + 1) → (8 ≤ i.toInt + kf) → lv_has ls 8 [(7, .int i), (6, .int b), (4, .int ky), (0, .ref h), (1, .int n), (2, .int k), (3, .int j)] → W p l e (rmx 3 0 0) s m args below meth c H locs 0 0 (MQ below (tQ D cI cZ cS cR N0 (fun v g' => ∃ (r : Int32) (d2 : Int32), v = some (.int r) ∧ Inv g' ∧ Ex g g' ∧ Sm md_m_begins g g' ∧ ((r = 1 ∧ d2.toInt = dd.toInt) ∨ (r = 0 ∧ d2.toInt = dd.toInt + 1)) ∧ (g'.2.1 h 49 = .int d2) ∧ (DP g' fa d2.toInt))) args s 0 0 (fun q => N0.1 ≤ q)) (F0 m 187 ls []) := by
  have hx := hB.1
  have hb := hB.2.1
  intro kf
  induction kf using Nat.strongRecOn with
  | ind kf ih =>
    intro g1 i ky b d2 H locs ls hT hI hE hM l_i u_i l_ky u_ky l_b u_b l_d2 u_d2 kp0 hD ed hk hl
    have r_1 : g1.1 h = 8 := Ex.r hE r_h (by decide)
    have r_2 : g1.1 fa = 51 := Ex.r hE r_fa (by decide)
    have n_3 : g1.2.2.1 fa = 7 := Ex.n hE r_fa (by decide) n_fa
    have kn_4 : g1.2.1 h 43 = .ref fa := Sm.v hM r_h (by decide) rfl kfa
    refine lv_iload hx hb dX7_begins_187 (lv_at hl 0 rfl) ?_
    refine lv_bipush (v := 8) hx hb dX7_begins_189 (by decide) ?_
    refine lv_icmp_ge (tgt := 289) hx hb dX7_begins_191 (by decide) (fun c_5 => ?_) (fun c_5 => ?_)
    · have c_5' : 8 ≤ i.toInt := i_le c_5 (by decide) rfl
      refine lv_aload_n hx hb dX7_begins_289 rfl (lv_at hl 3 rfl) ?_
      obtain ⟨v_6, e_v_6, r_v_6, n_v_6⟩ := f_8_20 hI r_1
      refine t_get (ci := 7) (v := .ref v_6) hB hT (ro_ci r_1 rfl) rfl 20 (by decide) k_765 e_v_6 dX7_begins_290 ?_
      refine lv_iload hx hb dX7_begins_293 (lv_at hl 1 rfl) ?_
      refine lv_iconst (v := 1) hx hb dX7_begins_295 (by decide) ?_
      have i_7 : vp_in b 12 := (i_in (n := 12) rfl (by omega) (by omega))
      refine t_zast hB hT r_v_6 n_v_6 i_7 dX7_begins_296 (fun H locs hT => ?_)
      have hI : Inv (sC g1 v_6 b.toNatClampNeg (vp_nar .boolean (1 : Int32))) := hI.sC (ck r_v_6 trivial)
      have hM : Sm md_m_begins g (sC g1 v_6 b.toNatClampNeg (vp_nar .boolean (1 : Int32))) := hM.tr hE (Sm_sC (by rw [r_v_6]; rfl))
      have hE : Ex g (sC g1 v_6 b.toNatClampNeg (vp_nar .boolean (1 : Int32))) := hE
      have hD : DP (sC g1 v_6 b.toNatClampNeg (vp_nar .boolean (1 : Int32))) fa (dd.toInt + 1) := hD.tC (ro_ne r_2 r_v_6 (by decide))
      refine lv_aload_n hx hb dX7_begins_297 rfl (lv_at hl 3 rfl) ?_
      obtain ⟨v_8, e_v_8, r_v_8, n_v_8⟩ := f_8_15 hI r_1
      refine t_get (ci := 7) (v := .ref v_8) hB hT (ro_ci r_1 rfl) rfl 15 (by decide) k_760 e_v_8 dX7_begins_298 ?_
      refine lv_iload hx hb dX7_begins_301 (lv_at hl 1 rfl) ?_
      refine lv_iload_n hx hb dX7_begins_303 rfl (lv_at hl 5 rfl) ?_
      have i_9 : vp_in b 12 := (i_in (n := 12) rfl (by omega) (by omega))
      refine t_iast hB hT (ro_in r_v_8 (by decide)) n_v_8 i_9 dX7_begins_304 (fun H locs hT => ?_)
      have hI : Inv (sC (sC g1 v_6 b.toNatClampNeg (vp_nar .boolean (1 : Int32))) v_8 b.toNatClampNeg k) := hI.sC (ck r_v_8 trivial)
      have hM : Sm md_m_begins g (sC (sC g1 v_6 b.toNatClampNeg (vp_nar .boolean (1 : Int32))) v_8 b.toNatClampNeg k) := hM.tr hE (Sm_sC (by rw [r_v_8]; rfl))
      have hE : Ex g (sC (sC g1 v_6 b.toNatClampNeg (vp_nar .boolean (1 : Int32))) v_8 b.toNatClampNeg k) := hE
      have hD : DP (sC (sC g1 v_6 b.toNatClampNeg (vp_nar .boolean (1 : Int32))) v_8 b.toNatClampNeg k) fa (dd.toInt + 1) := hD.tC (ro_ne r_2 r_v_8 (by decide))
      refine lv_aload_n hx hb dX7_begins_305 rfl (lv_at hl 3 rfl) ?_
      obtain ⟨v_10, e_v_10, r_v_10, n_v_10⟩ := f_8_16 hI r_1
      refine t_get (ci := 7) (v := .ref v_10) hB hT (ro_ci r_1 rfl) rfl 16 (by decide) k_761 e_v_10 dX7_begins_306 ?_
      refine lv_iload hx hb dX7_begins_309 (lv_at hl 1 rfl) ?_
      refine lv_iload_n hx hb dX7_begins_311 rfl (lv_at hl 6 rfl) ?_
      have i_11 : vp_in b 12 := (i_in (n := 12) rfl (by omega) (by omega))
      refine t_iast hB hT (ro_in r_v_10 (by decide)) n_v_10 i_11 dX7_begins_312 (fun H locs hT => ?_)
      have hI : Inv (sC (sC (sC g1 v_6 b.toNatClampNeg (vp_nar .boolean (1 : Int32))) v_8 b.toNatClampNeg k) v_10 b.toNatClampNeg j) := hI.sC (ck r_v_10 trivial)
      have hM : Sm md_m_begins g (sC (sC (sC g1 v_6 b.toNatClampNeg (vp_nar .boolean (1 : Int32))) v_8 b.toNatClampNeg k) v_10 b.toNatClampNeg j) := hM.tr hE (Sm_sC (by rw [r_v_10]; rfl))
      have hE : Ex g (sC (sC (sC g1 v_6 b.toNatClampNeg (vp_nar .boolean (1 : Int32))) v_8 b.toNatClampNeg k) v_10 b.toNatClampNeg j) := hE
      have hD : DP (sC (sC (sC g1 v_6 b.toNatClampNeg (vp_nar .boolean (1 : Int32))) v_8 b.toNatClampNeg k) v_10 b.toNatClampNeg j) fa (dd.toInt + 1) := hD.tC (ro_ne r_2 r_v_10 (by decide))
      refine lv_iload hx hb dX7_begins_313 (lv_at hl 2 rfl) ?_
      refine lv_if_eq (tgt := 335) hx hb dX7_begins_315 (by decide) (fun c_12 => ?_) (fun c_12 => ?_)
      · have c_12' : ky.toInt = 0 := i_eq c_12 rfl (by decide)
        refine lv_iconst (v := 0) hx hb dX7_begins_335 (by decide) ?_
        exact t_zret hB hr rfl hT (Nat.le_of_ble_eq_true rfl) (Nat.le_of_ble_eq_true rfl) dX7_begins_336 ⟨0, d2, rfl, hI, hE, hM, (Or.inr ⟨rfl, by omega⟩), kp0, (hD.cast (by omega))⟩
      · have c_12' : ky.toInt ≠ 0 := i_ne c_12 rfl (by decide)
        refine lv_aload_n hx hb dX7_begins_318 rfl (lv_at hl 3 rfl) ?_
        refine lv_iload_n hx hb dX7_begins_319 rfl (lv_at hl 4 rfl) ?_
        refine lv_iconst (v := 1) hx hb dX7_begins_320 (by decide) ?_
        refine t_callV (n := 2) (As := [.int n, .int 1]) (rest := []) (ci := 7) hB hT hl.1 (m_has l D cI cZ cS cR N0 (sC (sC (sC g1 v_6 b.toNatClampNeg (vp_nar .boolean (1 : Int32))) v_8 b.toNatClampNeg k) v_10 b.toNatClampNeg j) hI h n 1 r_1 (by have q0 : (1 : Int32).toInt = 1 := (by decide); omega) (by have q0 : (1 : Int32).toInt = 1 := (by decide); omega)) (ro_ci r_1 rfl) rfl k_999 k_65 k_996 k_998 k_28 (by decide +kernel) ⟨(Nat.le_of_ble_eq_true rfl), (Nat.le_of_ble_eq_true rfl)⟩ rfl (Nat.le_of_ble_eq_true rfl) ⟨(Nat.le_of_ble_eq_true rfl), (Nat.le_of_ble_eq_true rfl)⟩ dX7_begins_321 (fun v g_13 H locs hp hT => ?_)
        obtain ⟨r_14, rfl, eg, f_15⟩ := hp
        rw [eg] at hT
        clear eg
        refine W.eq (g2 := F0 m 324 ls [.int r_14]) rfl ?_
        have qc_18 : (1 : Int32).toInt = 1 := (by decide)
        rcases f_15 with rfl | rfl
        · refine W.eq (g2 := F0 m 324 ls [.int 1]) rfl ?_
          refine lv_if_eq (tgt := 335) hx hb dX7_begins_324 (by decide) (fun c_ => absurd c_ (by decide)) (fun c_ => ?_)
          refine lv_aload_n hx hb dX7_begins_327 rfl (lv_at hl 3 rfl) ?_
          refine lv_iload_n hx hb dX7_begins_328 rfl (lv_at hl 4 rfl) ?_
          refine lv_iload_n hx hb dX7_begins_329 rfl (lv_at hl 6 rfl) ?_
          refine lv_iload_n hx hb dX7_begins_330 rfl (lv_at hl 5 rfl) ?_
          refine lv_iconst (v := 0) hx hb dX7_begins_331 (by decide) ?_
          refine t_callV (n := 4) (As := [.int n, .int j, .int k, .int 0]) (rest := []) (ci := 7) hB hT hl.1 (m_keeps l D cI cZ cS cR N0 (sC (sC (sC g1 v_6 b.toNatClampNeg (vp_nar .boolean (1 : Int32))) v_8 b.toNatClampNeg k) v_10 b.toNatClampNeg j) hI h n j k 0 r_1 (by have q0 : (0 : Int32).toInt = 0 := (by decide); omega) (by have q0 : (0 : Int32).toInt = 0 := (by decide); omega) (by have q0 : (0 : Int32).toInt = 0 := (by decide); omega) (by have q0 : (0 : Int32).toInt = 0 := (by decide); omega)) (ro_ci r_1 rfl) rfl k_1063 k_65 k_1060 k_1062 k_39 (by decide +kernel) ⟨(Nat.le_of_ble_eq_true rfl), (Nat.le_of_ble_eq_true rfl)⟩ rfl (Nat.le_of_ble_eq_true rfl) ⟨(Nat.le_of_ble_eq_true rfl), (Nat.le_of_ble_eq_true rfl)⟩ dX7_begins_332 (fun v g_19 H locs hp hT => ?_)
          obtain ⟨rfl, hI, x_21, m_20⟩ := hp
          have hD : DP g_19 fa (dd.toInt + 1) := hD.sm m_20 r_2 (by decide) rfl
          have hM : Sm md_m_begins g g_19 := hM.tr hE (m_20.mo (fun r k h => mdle_m_begins_m_keeps h))
          have hE : Ex g g_19 := hE.tr x_21
          have r_22 : g_19.1 h = 8 := (Ex.r x_21 r_1 (by decide))
          have r_23 : g_19.1 fa = 51 := (Ex.r x_21 r_2 (by decide))
          have r_24 : g_19.1 v_6 = 40 := (Ex.r x_21 r_v_6 (by decide))
          have r_25 : g_19.1 v_8 = 50 := (Ex.r x_21 r_v_8 (by decide))
          have r_26 : g_19.1 v_10 = 50 := (Ex.r x_21 r_v_10 (by decide))
          have n_27 : g_19.2.2.1 fa = 7 := (Ex.n x_21 r_2 (by decide) n_3)
          have n_28 : g_19.2.2.1 v_6 = 12 := (Ex.n x_21 r_v_6 (by decide) n_v_6)
          have n_29 : g_19.2.2.1 v_8 = 12 := (Ex.n x_21 r_v_8 (by decide) n_v_8)
          have n_30 : g_19.2.2.1 v_10 = 12 := (Ex.n x_21 r_v_10 (by decide) n_v_10)
          have kn_31 : g_19.2.1 h 49 = .int d2 := (Sm.v m_20 r_1 (by decide) rfl kp0)
          have kn_32 : g_19.2.1 h 43 = .ref fa := (Sm.v m_20 r_1 (by decide) rfl kn_4)
          have kn_33 : g_19.2.1 h 20 = .ref v_6 := (Sm.v m_20 r_1 (by decide) rfl e_v_6)
          have kn_34 : g_19.2.1 h 15 = .ref v_8 := (Sm.v m_20 r_1 (by decide) rfl e_v_8)
          have kn_35 : g_19.2.1 h 16 = .ref v_10 := (Sm.v m_20 r_1 (by decide) rfl e_v_10)
          refine W.eq (g2 := F0 m 335 ls []) rfl ?_
          refine lv_iconst (v := 0) hx hb dX7_begins_335 (by decide) ?_
          exact t_zret hB hr rfl hT (Nat.le_of_ble_eq_true rfl) (Nat.le_of_ble_eq_true rfl) dX7_begins_336 ⟨0, d2, rfl, hI, hE, hM, (Or.inr ⟨rfl, by omega⟩), kn_31, (hD.cast (by omega))⟩
        · refine W.eq (g2 := F0 m 324 ls [.int 0]) rfl ?_
          refine lv_if_eq (tgt := 335) hx hb dX7_begins_324 (by decide) (fun c_ => ?_) (fun c_ => absurd (by decide) c_)
          refine lv_iconst (v := 0) hx hb dX7_begins_335 (by decide) ?_
          exact t_zret hB hr rfl hT (Nat.le_of_ble_eq_true rfl) (Nat.le_of_ble_eq_true rfl) dX7_begins_336 ⟨0, d2, rfl, hI, hE, hM, (Or.inr ⟨rfl, by omega⟩), kp0, (hD.cast (by omega))⟩
    · have c_5' : i.toInt < 8 := i_nle c_5 (by decide) rfl
      refine lv_aload_n hx hb dX7_begins_194 rfl (lv_at hl 3 rfl) ?_
      obtain ⟨v_36, e_v_36, r_v_36, n_v_36⟩ := f_8_54 hI r_1
      refine t_get (ci := 7) (v := .ref v_36) hB hT (ro_ci r_1 rfl) rfl 54 (by decide) k_799 e_v_36 dX7_begins_195 ?_
      refine lv_bipush (v := 8) hx hb dX7_begins_198 (by decide) ?_
      refine lv_iload_n hx hb dX7_begins_200 rfl (lv_at hl 4 rfl) ?_
      refine lv_imul hx hb dX7_begins_201 ?_
      refine lv_topi (fun z_37 ez_37 => ?_)
      have e_z_37 : z_37.toInt = 8 * n.toInt := i_mul ez_37 (by decide) rfl (by omega) (by omega)
      refine lv_iload hx hb dX7_begins_202 (lv_at hl 0 rfl) ?_
      refine lv_iadd hx hb dX7_begins_204 ?_
      refine lv_topi (fun z_38 ez_38 => ?_)
      have e_z_38 : z_38.toInt = z_37.toInt + i.toInt := i_add ez_38 rfl rfl (by omega) (by omega)
      refine lv_aload_n hx hb dX7_begins_205 rfl (lv_at hl 3 rfl) ?_
      obtain ⟨v_39, e_v_39, r_v_39, n_v_39⟩ := f_8_17 hI r_1
      refine t_get (ci := 7) (v := .ref v_39) hB hT (ro_ci r_1 rfl) rfl 17 (by decide) k_762 e_v_39 dX7_begins_206 ?_
      refine lv_bipush (v := 8) hx hb dX7_begins_209 (by decide) ?_
      refine lv_iload hx hb dX7_begins_211 (lv_at hl 1 rfl) ?_
      refine lv_imul hx hb dX7_begins_213 ?_
      refine lv_topi (fun z_40 ez_40 => ?_)
      have e_z_40 : z_40.toInt = 8 * b.toInt := i_mul ez_40 (by decide) rfl (by omega) (by omega)
      refine lv_iload hx hb dX7_begins_214 (lv_at hl 0 rfl) ?_
      refine lv_iadd hx hb dX7_begins_216 ?_
      refine lv_topi (fun z_41 ez_41 => ?_)
      have e_z_41 : z_41.toInt = z_40.toInt + i.toInt := i_add ez_41 rfl rfl (by omega) (by omega)
      have i_u_42 : vp_in z_41 96 := (i_in (n := 96) rfl (by omega) (by omega))
      refine t_iald hB hT (ro_in r_v_39 (by decide)) n_v_39 i_u_42 rfl dX7_begins_217 ?_
      refine lv_topi (fun u_42 e_u_42 => ?_)
      have i_43 : vp_in z_38 48 := (i_in (n := 48) rfl (by omega) (by omega))
      refine t_iast hB hT (ro_in r_v_36 (by decide)) n_v_36 i_43 dX7_begins_218 (fun H locs hT => ?_)
      have hI : Inv (sC g1 v_36 z_38.toNatClampNeg u_42) := hI.sC (ck r_v_36 trivial)
      have hM : Sm md_m_begins g (sC g1 v_36 z_38.toNatClampNeg u_42) := hM.tr hE (Sm_sC (by rw [r_v_36]; rfl))
      have hE : Ex g (sC g1 v_36 z_38.toNatClampNeg u_42) := hE
      have hD : DP (sC g1 v_36 z_38.toNatClampNeg u_42) fa (dd.toInt + 1) := hD.tC (ro_ne r_2 r_v_36 (by decide))
      refine lv_aload_n hx hb dX7_begins_219 rfl (lv_at hl 3 rfl) ?_
      obtain ⟨v_44, e_v_44, r_v_44, n_v_44⟩ := f_8_55 hI r_1
      refine t_get (ci := 7) (v := .ref v_44) hB hT (ro_ci r_1 rfl) rfl 55 (by decide) k_800 e_v_44 dX7_begins_220 ?_
      refine lv_bipush (v := 8) hx hb dX7_begins_223 (by decide) ?_
      refine lv_iload_n hx hb dX7_begins_225 rfl (lv_at hl 4 rfl) ?_
      refine lv_imul hx hb dX7_begins_226 ?_
      refine lv_topi (fun z_45 ez_45 => ?_)
      have e_z_45 : z_45.toInt = 8 * n.toInt := i_mul ez_45 (by decide) rfl (by omega) (by omega)
      refine lv_iload hx hb dX7_begins_227 (lv_at hl 0 rfl) ?_
      refine lv_iadd hx hb dX7_begins_229 ?_
      refine lv_topi (fun z_46 ez_46 => ?_)
      have e_z_46 : z_46.toInt = z_45.toInt + i.toInt := i_add ez_46 rfl rfl (by omega) (by omega)
      refine lv_aload_n hx hb dX7_begins_230 rfl (lv_at hl 3 rfl) ?_
      obtain ⟨v_47, e_v_47, r_v_47, n_v_47⟩ := f_8_18 hI r_1
      refine t_get (ci := 7) (v := .ref v_47) hB hT (ro_ci r_1 rfl) rfl 18 (by decide) k_763 e_v_47 dX7_begins_231 ?_
      refine lv_bipush (v := 8) hx hb dX7_begins_234 (by decide) ?_
      refine lv_iload hx hb dX7_begins_236 (lv_at hl 1 rfl) ?_
      refine lv_imul hx hb dX7_begins_238 ?_
      refine lv_topi (fun z_48 ez_48 => ?_)
      have e_z_48 : z_48.toInt = 8 * b.toInt := i_mul ez_48 (by decide) rfl (by omega) (by omega)
      refine lv_iload hx hb dX7_begins_239 (lv_at hl 0 rfl) ?_
      refine lv_iadd hx hb dX7_begins_241 ?_
      refine lv_topi (fun z_49 ez_49 => ?_)
      have e_z_49 : z_49.toInt = z_48.toInt + i.toInt := i_add ez_49 rfl rfl (by omega) (by omega)
      have i_u_50 : vp_in z_49 96 := (i_in (n := 96) rfl (by omega) (by omega))
      refine t_iald hB hT (ro_in r_v_47 (by decide)) n_v_47 i_u_50 rfl dX7_begins_242 ?_
      refine lv_topi (fun u_50 e_u_50 => ?_)
      have i_51 : vp_in z_46 48 := (i_in (n := 48) rfl (by omega) (by omega))
      refine t_iast hB hT (ro_in r_v_44 (by decide)) n_v_44 i_51 dX7_begins_243 (fun H locs hT => ?_)
      have hI : Inv (sC (sC g1 v_36 z_38.toNatClampNeg u_42) v_44 z_46.toNatClampNeg u_50) := hI.sC (ck r_v_44 trivial)
      have hM : Sm md_m_begins g (sC (sC g1 v_36 z_38.toNatClampNeg u_42) v_44 z_46.toNatClampNeg u_50) := hM.tr hE (Sm_sC (by rw [r_v_44]; rfl))
      have hE : Ex g (sC (sC g1 v_36 z_38.toNatClampNeg u_42) v_44 z_46.toNatClampNeg u_50) := hE
      have hD : DP (sC (sC g1 v_36 z_38.toNatClampNeg u_42) v_44 z_46.toNatClampNeg u_50) fa (dd.toInt + 1) := hD.tC (ro_ne r_2 r_v_44 (by decide))
      refine lv_aload_n hx hb dX7_begins_244 rfl (lv_at hl 3 rfl) ?_
      obtain ⟨v_52, e_v_52, r_v_52, n_v_52⟩ := f_8_56 hI r_1
      refine t_get (ci := 7) (v := .ref v_52) hB hT (ro_ci r_1 rfl) rfl 56 (by decide) k_801 e_v_52 dX7_begins_245 ?_
      refine lv_bipush (v := 8) hx hb dX7_begins_248 (by decide) ?_
      refine lv_iload_n hx hb dX7_begins_250 rfl (lv_at hl 4 rfl) ?_
      refine lv_imul hx hb dX7_begins_251 ?_
      refine lv_topi (fun z_53 ez_53 => ?_)
      have e_z_53 : z_53.toInt = 8 * n.toInt := i_mul ez_53 (by decide) rfl (by omega) (by omega)
      refine lv_iload hx hb dX7_begins_252 (lv_at hl 0 rfl) ?_
      refine lv_iadd hx hb dX7_begins_254 ?_
      refine lv_topi (fun z_54 ez_54 => ?_)
      have e_z_54 : z_54.toInt = z_53.toInt + i.toInt := i_add ez_54 rfl rfl (by omega) (by omega)
      refine lv_aload_n hx hb dX7_begins_255 rfl (lv_at hl 3 rfl) ?_
      obtain ⟨v_55, e_v_55, r_v_55, n_v_55⟩ := f_8_19 hI r_1
      refine t_get (ci := 7) (v := .ref v_55) hB hT (ro_ci r_1 rfl) rfl 19 (by decide) k_764 e_v_55 dX7_begins_256 ?_
      refine lv_bipush (v := 8) hx hb dX7_begins_259 (by decide) ?_
      refine lv_iload hx hb dX7_begins_261 (lv_at hl 1 rfl) ?_
      refine lv_imul hx hb dX7_begins_263 ?_
      refine lv_topi (fun z_56 ez_56 => ?_)
      have e_z_56 : z_56.toInt = 8 * b.toInt := i_mul ez_56 (by decide) rfl (by omega) (by omega)
      refine lv_iload hx hb dX7_begins_264 (lv_at hl 0 rfl) ?_
      refine lv_iadd hx hb dX7_begins_266 ?_
      refine lv_topi (fun z_57 ez_57 => ?_)
      have e_z_57 : z_57.toInt = z_56.toInt + i.toInt := i_add ez_57 rfl rfl (by omega) (by omega)
      have i_u_58 : vp_in z_57 96 := (i_in (n := 96) rfl (by omega) (by omega))
      refine t_iald hB hT (ro_in r_v_55 (by decide)) n_v_55 i_u_58 rfl dX7_begins_267 ?_
      refine lv_topi (fun u_58 e_u_58 => ?_)
      have i_59 : vp_in z_54 48 := (i_in (n := 48) rfl (by omega) (by omega))
      refine t_iast hB hT (ro_in r_v_52 (by decide)) n_v_52 i_59 dX7_begins_268 (fun H locs hT => ?_)
      have hI : Inv (sC (sC (sC g1 v_36 z_38.toNatClampNeg u_42) v_44 z_46.toNatClampNeg u_50) v_52 z_54.toNatClampNeg u_58) := hI.sC (ck r_v_52 trivial)
      have hM : Sm md_m_begins g (sC (sC (sC g1 v_36 z_38.toNatClampNeg u_42) v_44 z_46.toNatClampNeg u_50) v_52 z_54.toNatClampNeg u_58) := hM.tr hE (Sm_sC (by rw [r_v_52]; rfl))
      have hE : Ex g (sC (sC (sC g1 v_36 z_38.toNatClampNeg u_42) v_44 z_46.toNatClampNeg u_50) v_52 z_54.toNatClampNeg u_58) := hE
      have hD : DP (sC (sC (sC g1 v_36 z_38.toNatClampNeg u_42) v_44 z_46.toNatClampNeg u_50) v_52 z_54.toNatClampNeg u_58) fa (dd.toInt + 1) := hD.tC (ro_ne r_2 r_v_52 (by decide))
      refine lv_aload_n hx hb dX7_begins_269 rfl (lv_at hl 3 rfl) ?_
      refine t_get (ci := 7) (v := .ref v_39) hB hT (ro_ci r_1 rfl) rfl 17 (by decide) k_762 e_v_39 dX7_begins_270 ?_
      refine lv_bipush (v := 8) hx hb dX7_begins_273 (by decide) ?_
      refine lv_iload hx hb dX7_begins_275 (lv_at hl 1 rfl) ?_
      refine lv_imul hx hb dX7_begins_277 ?_
      refine lv_topi (fun z_60 ez_60 => ?_)
      have e_z_60 : z_60.toInt = 8 * b.toInt := i_mul ez_60 (by decide) rfl (by omega) (by omega)
      refine lv_iload hx hb dX7_begins_278 (lv_at hl 0 rfl) ?_
      refine lv_iadd hx hb dX7_begins_280 ?_
      refine lv_topi (fun z_61 ez_61 => ?_)
      have e_z_61 : z_61.toInt = z_60.toInt + i.toInt := i_add ez_61 rfl rfl (by omega) (by omega)
      refine lv_iconst (v := (-1)) hx hb dX7_begins_281 (by decide) ?_
      have i_62 : vp_in z_61 96 := (i_in (n := 96) rfl (by omega) (by omega))
      refine t_iast hB hT (ro_in r_v_39 (by decide)) n_v_39 i_62 dX7_begins_282 (fun H locs hT => ?_)
      have hI : Inv (sC (sC (sC (sC g1 v_36 z_38.toNatClampNeg u_42) v_44 z_46.toNatClampNeg u_50) v_52 z_54.toNatClampNeg u_58) v_39 z_61.toNatClampNeg ((-1) : Int32)) := hI.sC (ck r_v_39 trivial)
      have hM : Sm md_m_begins g (sC (sC (sC (sC g1 v_36 z_38.toNatClampNeg u_42) v_44 z_46.toNatClampNeg u_50) v_52 z_54.toNatClampNeg u_58) v_39 z_61.toNatClampNeg ((-1) : Int32)) := hM.tr hE (Sm_sC (by rw [r_v_39]; rfl))
      have hE : Ex g (sC (sC (sC (sC g1 v_36 z_38.toNatClampNeg u_42) v_44 z_46.toNatClampNeg u_50) v_52 z_54.toNatClampNeg u_58) v_39 z_61.toNatClampNeg ((-1) : Int32)) := hE
      have hD : DP (sC (sC (sC (sC g1 v_36 z_38.toNatClampNeg u_42) v_44 z_46.toNatClampNeg u_50) v_52 z_54.toNatClampNeg u_58) v_39 z_61.toNatClampNeg ((-1) : Int32)) fa (dd.toInt + 1) := hD.tC (ro_ne r_2 r_v_39 (by decide))
      obtain ⟨z_63, ez_63⟩ : ∃ z : Int32, z = i + 1 := ⟨_, rfl⟩
      have e_z_63 : z_63.toInt = i.toInt + 1 := i_add ez_63 rfl (by decide) (by omega) (by omega)
      refine lv_iinc (v := z_63) (lv' := [(7, .int z_63), (6, .int b), (4, .int ky), (0, .ref h), (1, .int n), (2, .int k), (3, .int j)]) hx hb dX7_begins_283 hl (k := 0) rfl (by rw [ez_63]; rfl) (by decide) rfl (fun ls hl => ?_)
      refine lv_goto (tgt := 187) hx hb dX7_begins_286 (by decide) ?_
      exact ih (kf - 1) (by omega) (sC (sC (sC (sC g1 v_36 z_38.toNatClampNeg u_42) v_44 z_46.toNatClampNeg u_50) v_52 z_54.toNatClampNeg u_58) v_39 z_61.toNatClampNeg ((-1) : Int32)) z_63 ky b d2 H locs ls hT hI hE hM (by omega) (by omega) (by omega) (by omega) (by omega) (by omega) (by omega) (by omega) kp0 hD (by omega) (by have e0_ : (0 : Int32).toInt = 0 := (by decide); omega) (lv_sub hl [0, 1, 2, 3, 4, 5, 6] rfl)
set_option maxHeartbeats 4000000 in
set_option maxRecDepth 100000 in
theorem lt_m_begins_a (l : Launch) (D : va_G) (cI cZ cS cR : ClassId) (N0 : NT) (g : GS) (h : Nat) (n : Int32) (k : Int32) (j : Int32) (dd : Int32) (fa : Nat) (r_h : g.1 h = 8) (r_fa : g.1 fa = 51) (n_fa : g.2.2.1 fa = 7) (kdd : g.2.1 h 49 = .int dd) (kfa : g.2.1 h 43 = .ref fa) (l_n : 0 ≤ n.toInt) (u_n : n.toInt ≤ 5) (l_k : 0 ≤ k.toInt) (u_k : k.toInt ≤ 999) (l_dd : 0 ≤ dd.toInt) (u_dd : dd.toInt ≤ 5) (hdn : dd.toInt ≤ n.toInt) (hD_0 : DP g fa dd.toInt) {p : Program} {e : Env} {s : State} {m : MethodId} {args : Array Value} {below : List Frame} {meth : Method} {c : Code} (hB : Tz p s m meth c args cX7_begins 8 RX7 D cI cZ cS cR N0) (hr : meth.sig.returnType = (some .boolean))    : ∀ (g1 : GS) (ky : Int32)  (H : Heap) (locs : List Loc) (ls : Array Slot), Tv D cI cZ cS cR N0 s.heap H locs g1 → Inv g1 → Ex g g1 → Sm md_m_begins g g1 → 0 ≤ ky.toInt → ky.toInt ≤ 1 → g1.2.1 h 49 = .int dd → (DP g1 fa dd.toInt) → lv_has ls 8 [(4, .int ky), (0, .ref h), (1, .int n), (2, .int k), (3, .int j)] → W p l e (rmx 3 0 0) s m args below meth c H locs 0 0 (MQ below (tQ D cI cZ cS cR N0 (fun v g' => ∃ (r : Int32) (d2 : Int32), v = some (.int r) ∧ Inv g' ∧ Ex g g' ∧ Sm md_m_begins g g' ∧ ((r = 1 ∧ d2.toInt = dd.toInt) ∨ (r = 0 ∧ d2.toInt = dd.toInt + 1)) ∧ (g'.2.1 h 49 = .int d2) ∧ (DP g' fa d2.toInt))) args s 0 0 (fun q => N0.1 ≤ q)) (F0 m 71 ls []) := by
  have hx := hB.1
  have hb := hB.2.1
  intro g1 ky H locs ls hT hI hE hM l_ky u_ky kp0 hD hl
  have r_1 : g1.1 h = 8 := Ex.r hE r_h (by decide)
  have r_2 : g1.1 fa = 51 := Ex.r hE r_fa (by decide)
  have n_3 : g1.2.2.1 fa = 7 := Ex.n hE r_fa (by decide) n_fa
  have kn_4 : g1.2.1 h 43 = .ref fa := Sm.v hM r_h (by decide) rfl kfa
  refine lv_aload_n hx hb dX7_begins_71 rfl (lv_at hl 1 rfl) ?_
  refine lv_iload_n hx hb dX7_begins_72 rfl (lv_at hl 2 rfl) ?_
  obtain ⟨v_5, e_v_5, l_v_5, u_v_5⟩ := f_8_21 hI r_1
  refine t_callV (n := 1) (As := [.int n]) (rest := []) (ci := 7) hB hT hl.1 (m_base l D cI cZ cS cR N0 g1 hI h n v_5 r_1 e_v_5 (by omega) (by omega) (by omega) (by omega)) (ro_ci r_1 rfl) rfl k_1043 k_65 k_1040 k_1042 k_34 (by decide +kernel) ⟨(Nat.le_of_ble_eq_true rfl), (Nat.le_of_ble_eq_true rfl)⟩ rfl (Nat.le_of_ble_eq_true rfl) ⟨(Nat.le_of_ble_eq_true rfl), (Nat.le_of_ble_eq_true rfl)⟩ dX7_begins_73 (fun v g_6 H locs hp hT => ?_)
  obtain ⟨r_7, rfl, eg, f_8, f_9⟩ := hp
  rw [eg] at hT
  clear eg
  refine W.eq (g2 := F0 m 76 ls [.int r_7]) rfl ?_
  refine lv_istore (lv' := [(6, .int r_7), (4, .int ky), (0, .ref h), (1, .int n), (2, .int k), (3, .int j)]) hx hb dX7_begins_76 hl (by decide) rfl (fun ls hl => ?_)
  refine lv_aload_n hx hb dX7_begins_78 rfl (lv_at hl 2 rfl) ?_
  refine t_get (ci := 7) (v := .ref fa) hB hT (ro_ci r_1 rfl) rfl 43 (by decide) k_788 kn_4 dX7_begins_79 ?_
  refine lv_aload_n hx hb dX7_begins_82 rfl (lv_at hl 2 rfl) ?_
  refine t_get (ci := 7) (v := .int dd) hB hT (ro_ci r_1 rfl) rfl 49 (by decide) k_794 kp0 dX7_begins_83 ?_
  refine lv_iload_n hx hb dX7_begins_86 rfl (lv_at hl 3 rfl) ?_
  have i_12 : vp_in dd 7 := (i_in (n := 7) rfl (by omega) (by omega))
  refine t_iast hB hT (ro_in r_2 (by decide)) n_3 i_12 dX7_begins_87 (fun H locs hT => ?_)
  have hI : Inv (sC g1 fa dd.toNatClampNeg n) := hI.sC (ck r_2 ⟨by omega, by omega⟩)
  have hM : Sm md_m_begins g (sC g1 fa dd.toNatClampNeg n) := hM.tr hE (Sm_sC (by rw [r_2]; rfl))
  have hE : Ex g (sC g1 fa dd.toNatClampNeg n) := hE
  have hD : DP (sC g1 fa dd.toNatClampNeg n) fa (dd.toInt + 1) := DP.ext hD (by omega) (by omega)
  refine lv_aload_n hx hb dX7_begins_88 rfl (lv_at hl 2 rfl) ?_
  obtain ⟨v_13, e_v_13, r_v_13, n_v_13⟩ := f_8_44 hI r_1
  refine t_get (ci := 7) (v := .ref v_13) hB hT (ro_ci r_1 rfl) rfl 44 (by decide) k_789 e_v_13 dX7_begins_89 ?_
  refine lv_aload_n hx hb dX7_begins_92 rfl (lv_at hl 2 rfl) ?_
  refine t_get (ci := 7) (v := .int dd) hB hT (ro_ci r_1 rfl) rfl 49 (by decide) k_794 kp0 dX7_begins_93 ?_
  refine lv_iload_n hx hb dX7_begins_96 rfl (lv_at hl 4 rfl) ?_
  have i_14 : vp_in dd 7 := (i_in (n := 7) rfl (by omega) (by omega))
  refine t_iast hB hT (ro_in r_v_13 (by decide)) n_v_13 i_14 dX7_begins_97 (fun H locs hT => ?_)
  have hI : Inv (sC (sC g1 fa dd.toNatClampNeg n) v_13 dd.toNatClampNeg k) := hI.sC (ck r_v_13 ⟨by omega, by omega⟩)
  have hM : Sm md_m_begins g (sC (sC g1 fa dd.toNatClampNeg n) v_13 dd.toNatClampNeg k) := hM.tr hE (Sm_sC (by rw [r_v_13]; rfl))
  have hE : Ex g (sC (sC g1 fa dd.toNatClampNeg n) v_13 dd.toNatClampNeg k) := hE
  have hD : DP (sC (sC g1 fa dd.toNatClampNeg n) v_13 dd.toNatClampNeg k) fa (dd.toInt + 1) := hD.tC (ro_ne r_2 r_v_13 (by decide))
  refine lv_aload_n hx hb dX7_begins_98 rfl (lv_at hl 2 rfl) ?_
  obtain ⟨v_15, e_v_15, r_v_15, n_v_15⟩ := f_8_45 hI r_1
  refine t_get (ci := 7) (v := .ref v_15) hB hT (ro_ci r_1 rfl) rfl 45 (by decide) k_790 e_v_15 dX7_begins_99 ?_
  refine lv_aload_n hx hb dX7_begins_102 rfl (lv_at hl 2 rfl) ?_
  refine t_get (ci := 7) (v := .int dd) hB hT (ro_ci r_1 rfl) rfl 49 (by decide) k_794 kp0 dX7_begins_103 ?_
  refine lv_iload_n hx hb dX7_begins_106 rfl (lv_at hl 5 rfl) ?_
  have i_16 : vp_in dd 7 := (i_in (n := 7) rfl (by omega) (by omega))
  refine t_iast hB hT (ro_in r_v_15 (by decide)) n_v_15 i_16 dX7_begins_107 (fun H locs hT => ?_)
  have hI : Inv (sC (sC (sC g1 fa dd.toNatClampNeg n) v_13 dd.toNatClampNeg k) v_15 dd.toNatClampNeg j) := hI.sC (ck r_v_15 trivial)
  have hM : Sm md_m_begins g (sC (sC (sC g1 fa dd.toNatClampNeg n) v_13 dd.toNatClampNeg k) v_15 dd.toNatClampNeg j) := hM.tr hE (Sm_sC (by rw [r_v_15]; rfl))
  have hE : Ex g (sC (sC (sC g1 fa dd.toNatClampNeg n) v_13 dd.toNatClampNeg k) v_15 dd.toNatClampNeg j) := hE
  have hD : DP (sC (sC (sC g1 fa dd.toNatClampNeg n) v_13 dd.toNatClampNeg k) v_15 dd.toNatClampNeg j) fa (dd.toInt + 1) := hD.tC (ro_ne r_2 r_v_15 (by decide))
  refine lv_aload_n hx hb dX7_begins_108 rfl (lv_at hl 2 rfl) ?_
  obtain ⟨v_17, e_v_17, r_v_17, n_v_17⟩ := f_8_46 hI r_1
  refine t_get (ci := 7) (v := .ref v_17) hB hT (ro_ci r_1 rfl) rfl 46 (by decide) k_791 e_v_17 dX7_begins_109 ?_
  refine lv_aload_n hx hb dX7_begins_112 rfl (lv_at hl 2 rfl) ?_
  refine t_get (ci := 7) (v := .int dd) hB hT (ro_ci r_1 rfl) rfl 49 (by decide) k_794 kp0 dX7_begins_113 ?_
  refine lv_iconst (v := 0) hx hb dX7_begins_116 (by decide) ?_
  have i_18 : vp_in dd 7 := (i_in (n := 7) rfl (by omega) (by omega))
  refine t_iast hB hT (ro_in r_v_17 (by decide)) n_v_17 i_18 dX7_begins_117 (fun H locs hT => ?_)
  have hI : Inv (sC (sC (sC (sC g1 fa dd.toNatClampNeg n) v_13 dd.toNatClampNeg k) v_15 dd.toNatClampNeg j) v_17 dd.toNatClampNeg (0 : Int32)) := hI.sC (ck r_v_17 ⟨by decide, by decide⟩)
  have hM : Sm md_m_begins g (sC (sC (sC (sC g1 fa dd.toNatClampNeg n) v_13 dd.toNatClampNeg k) v_15 dd.toNatClampNeg j) v_17 dd.toNatClampNeg (0 : Int32)) := hM.tr hE (Sm_sC (by rw [r_v_17]; rfl))
  have hE : Ex g (sC (sC (sC (sC g1 fa dd.toNatClampNeg n) v_13 dd.toNatClampNeg k) v_15 dd.toNatClampNeg j) v_17 dd.toNatClampNeg (0 : Int32)) := hE
  have hD : DP (sC (sC (sC (sC g1 fa dd.toNatClampNeg n) v_13 dd.toNatClampNeg k) v_15 dd.toNatClampNeg j) v_17 dd.toNatClampNeg (0 : Int32)) fa (dd.toInt + 1) := hD.tC (ro_ne r_2 r_v_17 (by decide))
  refine lv_aload_n hx hb dX7_begins_118 rfl (lv_at hl 2 rfl) ?_
  obtain ⟨v_19, e_v_19, r_v_19, n_v_19⟩ := f_8_47 hI r_1
  refine t_get (ci := 7) (v := .ref v_19) hB hT (ro_ci r_1 rfl) rfl 47 (by decide) k_792 e_v_19 dX7_begins_119 ?_
  refine lv_aload_n hx hb dX7_begins_122 rfl (lv_at hl 2 rfl) ?_
  refine t_get (ci := 7) (v := .int dd) hB hT (ro_ci r_1 rfl) rfl 49 (by decide) k_794 kp0 dX7_begins_123 ?_
  refine lv_iconst (v := 0) hx hb dX7_begins_126 (by decide) ?_
  have i_20 : vp_in dd 7 := (i_in (n := 7) rfl (by omega) (by omega))
  refine t_iast hB hT (ro_in r_v_19 (by decide)) n_v_19 i_20 dX7_begins_127 (fun H locs hT => ?_)
  have hI : Inv (sC (sC (sC (sC (sC g1 fa dd.toNatClampNeg n) v_13 dd.toNatClampNeg k) v_15 dd.toNatClampNeg j) v_17 dd.toNatClampNeg (0 : Int32)) v_19 dd.toNatClampNeg (0 : Int32)) := hI.sC (ck r_v_19 ⟨by decide, by decide⟩)
  have hM : Sm md_m_begins g (sC (sC (sC (sC (sC g1 fa dd.toNatClampNeg n) v_13 dd.toNatClampNeg k) v_15 dd.toNatClampNeg j) v_17 dd.toNatClampNeg (0 : Int32)) v_19 dd.toNatClampNeg (0 : Int32)) := hM.tr hE (Sm_sC (by rw [r_v_19]; rfl))
  have hE : Ex g (sC (sC (sC (sC (sC g1 fa dd.toNatClampNeg n) v_13 dd.toNatClampNeg k) v_15 dd.toNatClampNeg j) v_17 dd.toNatClampNeg (0 : Int32)) v_19 dd.toNatClampNeg (0 : Int32)) := hE
  have hD : DP (sC (sC (sC (sC (sC g1 fa dd.toNatClampNeg n) v_13 dd.toNatClampNeg k) v_15 dd.toNatClampNeg j) v_17 dd.toNatClampNeg (0 : Int32)) v_19 dd.toNatClampNeg (0 : Int32)) fa (dd.toInt + 1) := hD.tC (ro_ne r_2 r_v_19 (by decide))
  refine lv_aload_n hx hb dX7_begins_128 rfl (lv_at hl 2 rfl) ?_
  obtain ⟨v_21, e_v_21, r_v_21, n_v_21⟩ := f_8_48 hI r_1
  refine t_get (ci := 7) (v := .ref v_21) hB hT (ro_ci r_1 rfl) rfl 48 (by decide) k_793 e_v_21 dX7_begins_129 ?_
  refine lv_aload_n hx hb dX7_begins_132 rfl (lv_at hl 2 rfl) ?_
  refine t_get (ci := 7) (v := .int dd) hB hT (ro_ci r_1 rfl) rfl 49 (by decide) k_794 kp0 dX7_begins_133 ?_
  refine lv_aload_n hx hb dX7_begins_136 rfl (lv_at hl 2 rfl) ?_
  obtain ⟨v_22, e_v_22, r_v_22, n_v_22⟩ := f_8_20 hI r_1
  refine t_get (ci := 7) (v := .ref v_22) hB hT (ro_ci r_1 rfl) rfl 20 (by decide) k_765 e_v_22 dX7_begins_137 ?_
  refine lv_iload hx hb dX7_begins_140 (lv_at hl 0 rfl) ?_
  have i_u_23 : vp_in r_7 12 := (i_in (n := 12) rfl (by omega) (by omega))
  refine t_zald hB hT r_v_22 n_v_22 i_u_23 rfl dX7_begins_142 ?_
  refine lv_topi (fun u_23 e_u_23 => ?_)
  refine lv_if_eq (tgt := 172) hx hb dX7_begins_143 (by decide) (fun c_24 => ?_) (fun c_24 => ?_)
  · have c_24' : u_23.toInt = 0 := i_eq c_24 rfl (by decide)
    refine lv_iconst (v := 0) hx hb dX7_begins_172 (by decide) ?_
    have i_25 : vp_in dd 7 := (i_in (n := 7) rfl (by omega) (by omega))
    refine t_zast hB hT r_v_21 n_v_21 i_25 dX7_begins_173 (fun H locs hT => ?_)
    have hI : Inv (sC (sC (sC (sC (sC (sC g1 fa dd.toNatClampNeg n) v_13 dd.toNatClampNeg k) v_15 dd.toNatClampNeg j) v_17 dd.toNatClampNeg (0 : Int32)) v_19 dd.toNatClampNeg (0 : Int32)) v_21 dd.toNatClampNeg (vp_nar .boolean (0 : Int32))) := hI.sC (ck r_v_21 trivial)
    have hM : Sm md_m_begins g (sC (sC (sC (sC (sC (sC g1 fa dd.toNatClampNeg n) v_13 dd.toNatClampNeg k) v_15 dd.toNatClampNeg j) v_17 dd.toNatClampNeg (0 : Int32)) v_19 dd.toNatClampNeg (0 : Int32)) v_21 dd.toNatClampNeg (vp_nar .boolean (0 : Int32))) := hM.tr hE (Sm_sC (by rw [r_v_21]; rfl))
    have hE : Ex g (sC (sC (sC (sC (sC (sC g1 fa dd.toNatClampNeg n) v_13 dd.toNatClampNeg k) v_15 dd.toNatClampNeg j) v_17 dd.toNatClampNeg (0 : Int32)) v_19 dd.toNatClampNeg (0 : Int32)) v_21 dd.toNatClampNeg (vp_nar .boolean (0 : Int32))) := hE
    have hD : DP (sC (sC (sC (sC (sC (sC g1 fa dd.toNatClampNeg n) v_13 dd.toNatClampNeg k) v_15 dd.toNatClampNeg j) v_17 dd.toNatClampNeg (0 : Int32)) v_19 dd.toNatClampNeg (0 : Int32)) v_21 dd.toNatClampNeg (vp_nar .boolean (0 : Int32))) fa (dd.toInt + 1) := hD.tC (ro_ne r_2 r_v_21 (by decide))
    refine lv_aload_n hx hb dX7_begins_174 rfl (lv_at hl 2 rfl) ?_
    refine lv_dup hx hb dX7_begins_175 rfl ?_
    refine t_get (ci := 7) (v := .int dd) hB hT (ro_ci r_1 rfl) rfl 49 (by decide) k_794 kp0 dX7_begins_176 ?_
    refine lv_iconst (v := 1) hx hb dX7_begins_179 (by decide) ?_
    refine lv_iadd hx hb dX7_begins_180 ?_
    refine lv_topi (fun z_26 ez_26 => ?_)
    have e_z_26 : z_26.toInt = dd.toInt + 1 := i_add ez_26 rfl (by decide) (by omega) (by omega)
    refine t_put0 (ci := 7) (v := .int z_26) hB hT (ro_ci r_1 rfl) (ro_n0 r_1 (by decide)) rfl 49 (by decide) k_794 (Or.inl rfl) rfl rfl dX7_begins_181 (fun H locs hT => ?_)
    have hI : Inv (sF (sC (sC (sC (sC (sC (sC g1 fa dd.toNatClampNeg n) v_13 dd.toNatClampNeg k) v_15 dd.toNatClampNeg j) v_17 dd.toNatClampNeg (0 : Int32)) v_19 dd.toNatClampNeg (0 : Int32)) v_21 dd.toNatClampNeg (vp_nar .boolean (0 : Int32))) h 49 (.int z_26)) := hI.sF (p_8_49 r_1 (⟨_, rfl, by omega, by omega⟩))
    have hM : Sm md_m_begins g (sF (sC (sC (sC (sC (sC (sC g1 fa dd.toNatClampNeg n) v_13 dd.toNatClampNeg k) v_15 dd.toNatClampNeg j) v_17 dd.toNatClampNeg (0 : Int32)) v_19 dd.toNatClampNeg (0 : Int32)) v_21 dd.toNatClampNeg (vp_nar .boolean (0 : Int32))) h 49 (.int z_26)) := hM.tr hE (Sm_sF (by rw [r_1]; rfl))
    have hE : Ex g (sF (sC (sC (sC (sC (sC (sC g1 fa dd.toNatClampNeg n) v_13 dd.toNatClampNeg k) v_15 dd.toNatClampNeg j) v_17 dd.toNatClampNeg (0 : Int32)) v_19 dd.toNatClampNeg (0 : Int32)) v_21 dd.toNatClampNeg (vp_nar .boolean (0 : Int32))) h 49 (.int z_26)) := hE
    have hD : DP (sF (sC (sC (sC (sC (sC (sC g1 fa dd.toNatClampNeg n) v_13 dd.toNatClampNeg k) v_15 dd.toNatClampNeg j) v_17 dd.toNatClampNeg (0 : Int32)) v_19 dd.toNatClampNeg (0 : Int32)) v_21 dd.toNatClampNeg (vp_nar .boolean (0 : Int32))) h 49 (.int z_26)) fa (dd.toInt + 1) := hD
    refine lv_iconst (v := 0) hx hb dX7_begins_184 (by decide) ?_
    refine lv_istore (lv' := [(7, .int 0), (6, .int r_7), (4, .int ky), (0, .ref h), (1, .int n), (2, .int k), (3, .int j)]) hx hb dX7_begins_185 hl (by decide) rfl (fun ls hl => ?_)
    exact lt_m_begins_b l D cI cZ cS cR N0 g h n k j dd fa r_h r_fa n_fa kdd kfa l_n u_n l_k u_k l_dd u_dd hdn hD_0 hB hr   8 (sF (sC (sC (sC (sC (sC (sC g1 fa dd.toNatClampNeg n) v_13 dd.toNatClampNeg k) v_15 dd.toNatClampNeg j) v_17 dd.toNatClampNeg (0 : Int32)) v_19 dd.toNatClampNeg (0 : Int32)) v_21 dd.toNatClampNeg (vp_nar .boolean (0 : Int32))) h 49 (.int z_26)) (0 : Int32) ky r_7 z_26 H locs ls hT hI hE hM (by decide) (by decide) (by omega) (by omega) (by omega) (by omega) (by omega) (by omega) sF_eq hD (by omega) (by have e0_ : (0 : Int32).toInt = 0 := (by decide); omega) (lv_sub hl [0, 1, 2, 3, 4, 5, 6] rfl)
  · have c_24' : u_23.toInt ≠ 0 := i_ne c_24 rfl (by decide)
    refine lv_aload_n hx hb dX7_begins_146 rfl (lv_at hl 2 rfl) ?_
    obtain ⟨v_27, e_v_27, r_v_27, n_v_27⟩ := f_8_15 hI r_1
    refine t_get (ci := 7) (v := .ref v_27) hB hT (ro_ci r_1 rfl) rfl 15 (by decide) k_760 e_v_27 dX7_begins_147 ?_
    refine lv_iload hx hb dX7_begins_150 (lv_at hl 0 rfl) ?_
    have i_u_28 : vp_in r_7 12 := (i_in (n := 12) rfl (by omega) (by omega))
    refine t_iald hB hT (ro_in r_v_27 (by decide)) n_v_27 i_u_28 rfl dX7_begins_152 ?_
    refine lv_topi (fun u_28 e_u_28 => ?_)
    refine lv_iload_n hx hb dX7_begins_153 rfl (lv_at hl 4 rfl) ?_
    refine lv_icmp_ne (tgt := 172) hx hb dX7_begins_154 (by decide) (fun c_29 => ?_) (fun c_29 => ?_)
    · have c_29' : u_28.toInt ≠ k.toInt := i_ne c_29 rfl rfl
      refine lv_iconst (v := 0) hx hb dX7_begins_172 (by decide) ?_
      have i_30 : vp_in dd 7 := (i_in (n := 7) rfl (by omega) (by omega))
      refine t_zast hB hT r_v_21 n_v_21 i_30 dX7_begins_173 (fun H locs hT => ?_)
      have hI : Inv (sC (sC (sC (sC (sC (sC g1 fa dd.toNatClampNeg n) v_13 dd.toNatClampNeg k) v_15 dd.toNatClampNeg j) v_17 dd.toNatClampNeg (0 : Int32)) v_19 dd.toNatClampNeg (0 : Int32)) v_21 dd.toNatClampNeg (vp_nar .boolean (0 : Int32))) := hI.sC (ck r_v_21 trivial)
      have hM : Sm md_m_begins g (sC (sC (sC (sC (sC (sC g1 fa dd.toNatClampNeg n) v_13 dd.toNatClampNeg k) v_15 dd.toNatClampNeg j) v_17 dd.toNatClampNeg (0 : Int32)) v_19 dd.toNatClampNeg (0 : Int32)) v_21 dd.toNatClampNeg (vp_nar .boolean (0 : Int32))) := hM.tr hE (Sm_sC (by rw [r_v_21]; rfl))
      have hE : Ex g (sC (sC (sC (sC (sC (sC g1 fa dd.toNatClampNeg n) v_13 dd.toNatClampNeg k) v_15 dd.toNatClampNeg j) v_17 dd.toNatClampNeg (0 : Int32)) v_19 dd.toNatClampNeg (0 : Int32)) v_21 dd.toNatClampNeg (vp_nar .boolean (0 : Int32))) := hE
      have hD : DP (sC (sC (sC (sC (sC (sC g1 fa dd.toNatClampNeg n) v_13 dd.toNatClampNeg k) v_15 dd.toNatClampNeg j) v_17 dd.toNatClampNeg (0 : Int32)) v_19 dd.toNatClampNeg (0 : Int32)) v_21 dd.toNatClampNeg (vp_nar .boolean (0 : Int32))) fa (dd.toInt + 1) := hD.tC (ro_ne r_2 r_v_21 (by decide))
      refine lv_aload_n hx hb dX7_begins_174 rfl (lv_at hl 2 rfl) ?_
      refine lv_dup hx hb dX7_begins_175 rfl ?_
      refine t_get (ci := 7) (v := .int dd) hB hT (ro_ci r_1 rfl) rfl 49 (by decide) k_794 kp0 dX7_begins_176 ?_
      refine lv_iconst (v := 1) hx hb dX7_begins_179 (by decide) ?_
      refine lv_iadd hx hb dX7_begins_180 ?_
      refine lv_topi (fun z_31 ez_31 => ?_)
      have e_z_31 : z_31.toInt = dd.toInt + 1 := i_add ez_31 rfl (by decide) (by omega) (by omega)
      refine t_put0 (ci := 7) (v := .int z_31) hB hT (ro_ci r_1 rfl) (ro_n0 r_1 (by decide)) rfl 49 (by decide) k_794 (Or.inl rfl) rfl rfl dX7_begins_181 (fun H locs hT => ?_)
      have hI : Inv (sF (sC (sC (sC (sC (sC (sC g1 fa dd.toNatClampNeg n) v_13 dd.toNatClampNeg k) v_15 dd.toNatClampNeg j) v_17 dd.toNatClampNeg (0 : Int32)) v_19 dd.toNatClampNeg (0 : Int32)) v_21 dd.toNatClampNeg (vp_nar .boolean (0 : Int32))) h 49 (.int z_31)) := hI.sF (p_8_49 r_1 (⟨_, rfl, by omega, by omega⟩))
      have hM : Sm md_m_begins g (sF (sC (sC (sC (sC (sC (sC g1 fa dd.toNatClampNeg n) v_13 dd.toNatClampNeg k) v_15 dd.toNatClampNeg j) v_17 dd.toNatClampNeg (0 : Int32)) v_19 dd.toNatClampNeg (0 : Int32)) v_21 dd.toNatClampNeg (vp_nar .boolean (0 : Int32))) h 49 (.int z_31)) := hM.tr hE (Sm_sF (by rw [r_1]; rfl))
      have hE : Ex g (sF (sC (sC (sC (sC (sC (sC g1 fa dd.toNatClampNeg n) v_13 dd.toNatClampNeg k) v_15 dd.toNatClampNeg j) v_17 dd.toNatClampNeg (0 : Int32)) v_19 dd.toNatClampNeg (0 : Int32)) v_21 dd.toNatClampNeg (vp_nar .boolean (0 : Int32))) h 49 (.int z_31)) := hE
      have hD : DP (sF (sC (sC (sC (sC (sC (sC g1 fa dd.toNatClampNeg n) v_13 dd.toNatClampNeg k) v_15 dd.toNatClampNeg j) v_17 dd.toNatClampNeg (0 : Int32)) v_19 dd.toNatClampNeg (0 : Int32)) v_21 dd.toNatClampNeg (vp_nar .boolean (0 : Int32))) h 49 (.int z_31)) fa (dd.toInt + 1) := hD
      refine lv_iconst (v := 0) hx hb dX7_begins_184 (by decide) ?_
      refine lv_istore (lv' := [(7, .int 0), (6, .int r_7), (4, .int ky), (0, .ref h), (1, .int n), (2, .int k), (3, .int j)]) hx hb dX7_begins_185 hl (by decide) rfl (fun ls hl => ?_)
      exact lt_m_begins_b l D cI cZ cS cR N0 g h n k j dd fa r_h r_fa n_fa kdd kfa l_n u_n l_k u_k l_dd u_dd hdn hD_0 hB hr   8 (sF (sC (sC (sC (sC (sC (sC g1 fa dd.toNatClampNeg n) v_13 dd.toNatClampNeg k) v_15 dd.toNatClampNeg j) v_17 dd.toNatClampNeg (0 : Int32)) v_19 dd.toNatClampNeg (0 : Int32)) v_21 dd.toNatClampNeg (vp_nar .boolean (0 : Int32))) h 49 (.int z_31)) (0 : Int32) ky r_7 z_31 H locs ls hT hI hE hM (by decide) (by decide) (by omega) (by omega) (by omega) (by omega) (by omega) (by omega) sF_eq hD (by omega) (by have e0_ : (0 : Int32).toInt = 0 := (by decide); omega) (lv_sub hl [0, 1, 2, 3, 4, 5, 6] rfl)
    · have c_29' : u_28.toInt = k.toInt := i_eq c_29 rfl rfl
      refine lv_aload_n hx hb dX7_begins_157 rfl (lv_at hl 2 rfl) ?_
      obtain ⟨v_32, e_v_32, r_v_32, n_v_32⟩ := f_8_16 hI r_1
      refine t_get (ci := 7) (v := .ref v_32) hB hT (ro_ci r_1 rfl) rfl 16 (by decide) k_761 e_v_32 dX7_begins_158 ?_
      refine lv_iload hx hb dX7_begins_161 (lv_at hl 0 rfl) ?_
      have i_u_33 : vp_in r_7 12 := (i_in (n := 12) rfl (by omega) (by omega))
      refine t_iald hB hT (ro_in r_v_32 (by decide)) n_v_32 i_u_33 rfl dX7_begins_163 ?_
      refine lv_topi (fun u_33 e_u_33 => ?_)
      refine lv_iload_n hx hb dX7_begins_164 rfl (lv_at hl 5 rfl) ?_
      refine lv_icmp_ne (tgt := 172) hx hb dX7_begins_165 (by decide) (fun c_34 => ?_) (fun c_34 => ?_)
      · have c_34' : u_33.toInt ≠ j.toInt := i_ne c_34 rfl rfl
        refine lv_iconst (v := 0) hx hb dX7_begins_172 (by decide) ?_
        have i_35 : vp_in dd 7 := (i_in (n := 7) rfl (by omega) (by omega))
        refine t_zast hB hT r_v_21 n_v_21 i_35 dX7_begins_173 (fun H locs hT => ?_)
        have hI : Inv (sC (sC (sC (sC (sC (sC g1 fa dd.toNatClampNeg n) v_13 dd.toNatClampNeg k) v_15 dd.toNatClampNeg j) v_17 dd.toNatClampNeg (0 : Int32)) v_19 dd.toNatClampNeg (0 : Int32)) v_21 dd.toNatClampNeg (vp_nar .boolean (0 : Int32))) := hI.sC (ck r_v_21 trivial)
        have hM : Sm md_m_begins g (sC (sC (sC (sC (sC (sC g1 fa dd.toNatClampNeg n) v_13 dd.toNatClampNeg k) v_15 dd.toNatClampNeg j) v_17 dd.toNatClampNeg (0 : Int32)) v_19 dd.toNatClampNeg (0 : Int32)) v_21 dd.toNatClampNeg (vp_nar .boolean (0 : Int32))) := hM.tr hE (Sm_sC (by rw [r_v_21]; rfl))
        have hE : Ex g (sC (sC (sC (sC (sC (sC g1 fa dd.toNatClampNeg n) v_13 dd.toNatClampNeg k) v_15 dd.toNatClampNeg j) v_17 dd.toNatClampNeg (0 : Int32)) v_19 dd.toNatClampNeg (0 : Int32)) v_21 dd.toNatClampNeg (vp_nar .boolean (0 : Int32))) := hE
        have hD : DP (sC (sC (sC (sC (sC (sC g1 fa dd.toNatClampNeg n) v_13 dd.toNatClampNeg k) v_15 dd.toNatClampNeg j) v_17 dd.toNatClampNeg (0 : Int32)) v_19 dd.toNatClampNeg (0 : Int32)) v_21 dd.toNatClampNeg (vp_nar .boolean (0 : Int32))) fa (dd.toInt + 1) := hD.tC (ro_ne r_2 r_v_21 (by decide))
        refine lv_aload_n hx hb dX7_begins_174 rfl (lv_at hl 2 rfl) ?_
        refine lv_dup hx hb dX7_begins_175 rfl ?_
        refine t_get (ci := 7) (v := .int dd) hB hT (ro_ci r_1 rfl) rfl 49 (by decide) k_794 kp0 dX7_begins_176 ?_
        refine lv_iconst (v := 1) hx hb dX7_begins_179 (by decide) ?_
        refine lv_iadd hx hb dX7_begins_180 ?_
        refine lv_topi (fun z_36 ez_36 => ?_)
        have e_z_36 : z_36.toInt = dd.toInt + 1 := i_add ez_36 rfl (by decide) (by omega) (by omega)
        refine t_put0 (ci := 7) (v := .int z_36) hB hT (ro_ci r_1 rfl) (ro_n0 r_1 (by decide)) rfl 49 (by decide) k_794 (Or.inl rfl) rfl rfl dX7_begins_181 (fun H locs hT => ?_)
        have hI : Inv (sF (sC (sC (sC (sC (sC (sC g1 fa dd.toNatClampNeg n) v_13 dd.toNatClampNeg k) v_15 dd.toNatClampNeg j) v_17 dd.toNatClampNeg (0 : Int32)) v_19 dd.toNatClampNeg (0 : Int32)) v_21 dd.toNatClampNeg (vp_nar .boolean (0 : Int32))) h 49 (.int z_36)) := hI.sF (p_8_49 r_1 (⟨_, rfl, by omega, by omega⟩))
        have hM : Sm md_m_begins g (sF (sC (sC (sC (sC (sC (sC g1 fa dd.toNatClampNeg n) v_13 dd.toNatClampNeg k) v_15 dd.toNatClampNeg j) v_17 dd.toNatClampNeg (0 : Int32)) v_19 dd.toNatClampNeg (0 : Int32)) v_21 dd.toNatClampNeg (vp_nar .boolean (0 : Int32))) h 49 (.int z_36)) := hM.tr hE (Sm_sF (by rw [r_1]; rfl))
        have hE : Ex g (sF (sC (sC (sC (sC (sC (sC g1 fa dd.toNatClampNeg n) v_13 dd.toNatClampNeg k) v_15 dd.toNatClampNeg j) v_17 dd.toNatClampNeg (0 : Int32)) v_19 dd.toNatClampNeg (0 : Int32)) v_21 dd.toNatClampNeg (vp_nar .boolean (0 : Int32))) h 49 (.int z_36)) := hE
        have hD : DP (sF (sC (sC (sC (sC (sC (sC g1 fa dd.toNatClampNeg n) v_13 dd.toNatClampNeg k) v_15 dd.toNatClampNeg j) v_17 dd.toNatClampNeg (0 : Int32)) v_19 dd.toNatClampNeg (0 : Int32)) v_21 dd.toNatClampNeg (vp_nar .boolean (0 : Int32))) h 49 (.int z_36)) fa (dd.toInt + 1) := hD
        refine lv_iconst (v := 0) hx hb dX7_begins_184 (by decide) ?_
        refine lv_istore (lv' := [(7, .int 0), (6, .int r_7), (4, .int ky), (0, .ref h), (1, .int n), (2, .int k), (3, .int j)]) hx hb dX7_begins_185 hl (by decide) rfl (fun ls hl => ?_)
        exact lt_m_begins_b l D cI cZ cS cR N0 g h n k j dd fa r_h r_fa n_fa kdd kfa l_n u_n l_k u_k l_dd u_dd hdn hD_0 hB hr   8 (sF (sC (sC (sC (sC (sC (sC g1 fa dd.toNatClampNeg n) v_13 dd.toNatClampNeg k) v_15 dd.toNatClampNeg j) v_17 dd.toNatClampNeg (0 : Int32)) v_19 dd.toNatClampNeg (0 : Int32)) v_21 dd.toNatClampNeg (vp_nar .boolean (0 : Int32))) h 49 (.int z_36)) (0 : Int32) ky r_7 z_36 H locs ls hT hI hE hM (by decide) (by decide) (by omega) (by omega) (by omega) (by omega) (by omega) (by omega) sF_eq hD (by omega) (by have e0_ : (0 : Int32).toInt = 0 := (by decide); omega) (lv_sub hl [0, 1, 2, 3, 4, 5, 6] rfl)
      · have c_34' : u_33.toInt = j.toInt := i_eq c_34 rfl rfl
        refine lv_iconst (v := 1) hx hb dX7_begins_168 (by decide) ?_
        refine lv_goto (tgt := 173) hx hb dX7_begins_169 (by decide) ?_
        have i_37 : vp_in dd 7 := (i_in (n := 7) rfl (by omega) (by omega))
        refine t_zast hB hT r_v_21 n_v_21 i_37 dX7_begins_173 (fun H locs hT => ?_)
        have hI : Inv (sC (sC (sC (sC (sC (sC g1 fa dd.toNatClampNeg n) v_13 dd.toNatClampNeg k) v_15 dd.toNatClampNeg j) v_17 dd.toNatClampNeg (0 : Int32)) v_19 dd.toNatClampNeg (0 : Int32)) v_21 dd.toNatClampNeg (vp_nar .boolean (1 : Int32))) := hI.sC (ck r_v_21 trivial)
        have hM : Sm md_m_begins g (sC (sC (sC (sC (sC (sC g1 fa dd.toNatClampNeg n) v_13 dd.toNatClampNeg k) v_15 dd.toNatClampNeg j) v_17 dd.toNatClampNeg (0 : Int32)) v_19 dd.toNatClampNeg (0 : Int32)) v_21 dd.toNatClampNeg (vp_nar .boolean (1 : Int32))) := hM.tr hE (Sm_sC (by rw [r_v_21]; rfl))
        have hE : Ex g (sC (sC (sC (sC (sC (sC g1 fa dd.toNatClampNeg n) v_13 dd.toNatClampNeg k) v_15 dd.toNatClampNeg j) v_17 dd.toNatClampNeg (0 : Int32)) v_19 dd.toNatClampNeg (0 : Int32)) v_21 dd.toNatClampNeg (vp_nar .boolean (1 : Int32))) := hE
        have hD : DP (sC (sC (sC (sC (sC (sC g1 fa dd.toNatClampNeg n) v_13 dd.toNatClampNeg k) v_15 dd.toNatClampNeg j) v_17 dd.toNatClampNeg (0 : Int32)) v_19 dd.toNatClampNeg (0 : Int32)) v_21 dd.toNatClampNeg (vp_nar .boolean (1 : Int32))) fa (dd.toInt + 1) := hD.tC (ro_ne r_2 r_v_21 (by decide))
        refine lv_aload_n hx hb dX7_begins_174 rfl (lv_at hl 2 rfl) ?_
        refine lv_dup hx hb dX7_begins_175 rfl ?_
        refine t_get (ci := 7) (v := .int dd) hB hT (ro_ci r_1 rfl) rfl 49 (by decide) k_794 kp0 dX7_begins_176 ?_
        refine lv_iconst (v := 1) hx hb dX7_begins_179 (by decide) ?_
        refine lv_iadd hx hb dX7_begins_180 ?_
        refine lv_topi (fun z_38 ez_38 => ?_)
        have e_z_38 : z_38.toInt = dd.toInt + 1 := i_add ez_38 rfl (by decide) (by omega) (by omega)
        refine t_put0 (ci := 7) (v := .int z_38) hB hT (ro_ci r_1 rfl) (ro_n0 r_1 (by decide)) rfl 49 (by decide) k_794 (Or.inl rfl) rfl rfl dX7_begins_181 (fun H locs hT => ?_)
        have hI : Inv (sF (sC (sC (sC (sC (sC (sC g1 fa dd.toNatClampNeg n) v_13 dd.toNatClampNeg k) v_15 dd.toNatClampNeg j) v_17 dd.toNatClampNeg (0 : Int32)) v_19 dd.toNatClampNeg (0 : Int32)) v_21 dd.toNatClampNeg (vp_nar .boolean (1 : Int32))) h 49 (.int z_38)) := hI.sF (p_8_49 r_1 (⟨_, rfl, by omega, by omega⟩))
        have hM : Sm md_m_begins g (sF (sC (sC (sC (sC (sC (sC g1 fa dd.toNatClampNeg n) v_13 dd.toNatClampNeg k) v_15 dd.toNatClampNeg j) v_17 dd.toNatClampNeg (0 : Int32)) v_19 dd.toNatClampNeg (0 : Int32)) v_21 dd.toNatClampNeg (vp_nar .boolean (1 : Int32))) h 49 (.int z_38)) := hM.tr hE (Sm_sF (by rw [r_1]; rfl))
        have hE : Ex g (sF (sC (sC (sC (sC (sC (sC g1 fa dd.toNatClampNeg n) v_13 dd.toNatClampNeg k) v_15 dd.toNatClampNeg j) v_17 dd.toNatClampNeg (0 : Int32)) v_19 dd.toNatClampNeg (0 : Int32)) v_21 dd.toNatClampNeg (vp_nar .boolean (1 : Int32))) h 49 (.int z_38)) := hE
        have hD : DP (sF (sC (sC (sC (sC (sC (sC g1 fa dd.toNatClampNeg n) v_13 dd.toNatClampNeg k) v_15 dd.toNatClampNeg j) v_17 dd.toNatClampNeg (0 : Int32)) v_19 dd.toNatClampNeg (0 : Int32)) v_21 dd.toNatClampNeg (vp_nar .boolean (1 : Int32))) h 49 (.int z_38)) fa (dd.toInt + 1) := hD
        refine lv_iconst (v := 0) hx hb dX7_begins_184 (by decide) ?_
        refine lv_istore (lv' := [(7, .int 0), (6, .int r_7), (4, .int ky), (0, .ref h), (1, .int n), (2, .int k), (3, .int j)]) hx hb dX7_begins_185 hl (by decide) rfl (fun ls hl => ?_)
        exact lt_m_begins_b l D cI cZ cS cR N0 g h n k j dd fa r_h r_fa n_fa kdd kfa l_n u_n l_k u_k l_dd u_dd hdn hD_0 hB hr   8 (sF (sC (sC (sC (sC (sC (sC g1 fa dd.toNatClampNeg n) v_13 dd.toNatClampNeg k) v_15 dd.toNatClampNeg j) v_17 dd.toNatClampNeg (0 : Int32)) v_19 dd.toNatClampNeg (0 : Int32)) v_21 dd.toNatClampNeg (vp_nar .boolean (1 : Int32))) h 49 (.int z_38)) (0 : Int32) ky r_7 z_38 H locs ls hT hI hE hM (by decide) (by decide) (by omega) (by omega) (by omega) (by omega) (by omega) (by omega) sF_eq hD (by omega) (by have e0_ : (0 : Int32).toInt = 0 := (by decide); omega) (lv_sub hl [0, 1, 2, 3, 4, 5, 6] rfl)
set_option maxHeartbeats 4000000 in
set_option maxRecDepth 100000 in
theorem m_begins (l : Launch) (D : va_G) (cI cZ cS cR : ClassId) (N0 : NT) (g : GS) (hI : Inv g) (h : Nat) (n : Int32) (k : Int32) (j : Int32) (dd : Int32) (fa : Nat) (r_h : g.1 h = 8) (r_fa : g.1 fa = 51) (n_fa : g.2.2.1 fa = 7) (kdd : g.2.1 h 49 = .int dd) (kfa : g.2.1 h 43 = .ref fa) (l_n : 0 ≤ n.toInt) (u_n : n.toInt ≤ 5) (l_k : 0 ≤ k.toInt) (u_k : k.toInt ≤ 999) (l_dd : 0 ≤ dd.toInt) (u_dd : dd.toInt ≤ 5) (hdn : dd.toInt ≤ n.toInt) (hD_0 : DP g fa dd.toInt) : Ty l D cI cZ cS cR N0 yX7_begins cX7_begins 8 (some .boolean) 3 0 0 [.ref h, .int n, .int k, .int j] g (fun v g' => ∃ (r : Int32) (d2 : Int32), v = some (.int r) ∧ Inv g' ∧ Ex g g' ∧ Sm md_m_begins g g' ∧ ((r = 1 ∧ d2.toInt = dd.toInt) ∨ (r = 0 ∧ d2.toInt = dd.toInt + 1)) ∧ (g'.2.1 h 49 = .int d2) ∧ (DP g' fa d2.toInt)) := by
  refine t_enter (by decide) (Nat.le_of_ble_eq_true rfl) ?_
  intro p e s m args below meth c ls H locs hB hr hin hl hT
  have hx := hB.1
  have hb := hB.2.1
  have hl : lv_has ls 8 [(0, .ref h), (1, .int n), (2, .int k), (3, .int j)] := hl
  have hE : Ex g g := Ex.rf
  have hM : Sm md_m_begins g g := Sm.rf
  have hD := hD_0
  refine lv_aload_n hx hb dX7_begins_0 rfl (lv_at hl 0 rfl) ?_
  refine lv_iload_n hx hb dX7_begins_1 rfl (lv_at hl 1 rfl) ?_
  refine lv_iconst (v := 0) hx hb dX7_begins_2 (by decide) ?_
  refine t_callV (n := 2) (As := [.int n, .int 0]) (rest := []) (ci := 7) hB hT hl.1 (m_has l D cI cZ cS cR N0 g hI h n 0 r_h (by have q0 : (0 : Int32).toInt = 0 := (by decide); omega) (by have q0 : (0 : Int32).toInt = 0 := (by decide); omega)) (ro_ci r_h rfl) rfl k_999 k_65 k_996 k_998 k_28 (by decide +kernel) ⟨(Nat.le_of_ble_eq_true rfl), (Nat.le_of_ble_eq_true rfl)⟩ rfl (Nat.le_of_ble_eq_true rfl) ⟨(Nat.le_of_ble_eq_true rfl), (Nat.le_of_ble_eq_true rfl)⟩ dX7_begins_3 (fun v g_1 H locs hp hT => ?_)
  obtain ⟨r_2, rfl, eg, f_3⟩ := hp
  rw [eg] at hT
  clear eg
  refine W.eq (g2 := F0 m 6 ls [.int r_2]) rfl ?_
  have qc_6 : (0 : Int32).toInt = 0 := (by decide)
  rcases f_3 with rfl | rfl
  · refine W.eq (g2 := F0 m 6 ls [.int 1]) rfl ?_
    refine lv_if_eq (tgt := 17) hx hb dX7_begins_6 (by decide) (fun c_ => absurd c_ (by decide)) (fun c_ => ?_)
    refine lv_iload_n hx hb dX7_begins_9 rfl (lv_at hl 3 rfl) ?_
    refine lv_if_eq (tgt := 17) hx hb dX7_begins_10 (by decide) (fun c_7 => ?_) (fun c_7 => ?_)
    · have c_7' : j.toInt = 0 := i_eq c_7 rfl (by decide)
      refine lv_iconst (v := 0) hx hb dX7_begins_17 (by decide) ?_
      refine lv_istore (lv' := [(4, .int 0), (0, .ref h), (1, .int n), (2, .int k), (3, .int j)]) hx hb dX7_begins_18 hl (by decide) rfl (fun ls hl => ?_)
      refine lv_iload hx hb dX7_begins_20 (lv_at hl 0 rfl) ?_
      refine lv_if_eq (tgt := 34) hx hb dX7_begins_22 (by decide) (fun c_ => ?_) (fun c_ => absurd (by decide) c_)
      refine lv_iconst (v := (-1)) hx hb dX7_begins_34 (by decide) ?_
      refine lv_istore (lv' := [(5, .int (-1)), (4, .int 0), (0, .ref h), (1, .int n), (2, .int k), (3, .int j)]) hx hb dX7_begins_35 hl (by decide) rfl (fun ls hl => ?_)
      refine lv_iload hx hb dX7_begins_37 (lv_at hl 0 rfl) ?_
      refine lv_iconst (v := (-1)) hx hb dX7_begins_39 (by decide) ?_
      refine lv_icmp_eq (tgt := 71) hx hb dX7_begins_40 (by decide) (fun c_ => ?_) (fun c_ => absurd (by decide) c_)
      exact lt_m_begins_a l D cI cZ cS cR N0 g h n k j dd fa r_h r_fa n_fa kdd kfa l_n u_n l_k u_k l_dd u_dd hdn hD_0 hB hr   g (0 : Int32) H locs ls hT hI hE hM (by decide) (by decide) kdd hD (lv_sub hl [1, 2, 3, 4, 5] rfl)
    · have c_7' : j.toInt ≠ 0 := i_ne c_7 rfl (by decide)
      refine lv_iconst (v := 1) hx hb dX7_begins_13 (by decide) ?_
      refine lv_goto (tgt := 18) hx hb dX7_begins_14 (by decide) ?_
      refine lv_istore (lv' := [(4, .int 1), (0, .ref h), (1, .int n), (2, .int k), (3, .int j)]) hx hb dX7_begins_18 hl (by decide) rfl (fun ls hl => ?_)
      refine lv_iload hx hb dX7_begins_20 (lv_at hl 0 rfl) ?_
      refine lv_if_eq (tgt := 34) hx hb dX7_begins_22 (by decide) (fun c_ => absurd c_ (by decide)) (fun c_ => ?_)
      refine lv_aload_n hx hb dX7_begins_25 rfl (lv_at hl 1 rfl) ?_
      refine lv_iload_n hx hb dX7_begins_26 rfl (lv_at hl 2 rfl) ?_
      refine lv_iload_n hx hb dX7_begins_27 rfl (lv_at hl 4 rfl) ?_
      refine t_callV (n := 2) (As := [.int n, .int j]) (rest := []) (ci := 7) hB hT hl.1 (m_find l D cI cZ cS cR N0 g hI h n j r_h (by omega) (by omega)) (ro_ci r_h rfl) rfl k_1059 k_65 k_1056 k_1058 k_38 (by decide +kernel) ⟨(Nat.le_of_ble_eq_true rfl), (Nat.le_of_ble_eq_true rfl)⟩ rfl (Nat.le_of_ble_eq_true rfl) ⟨(Nat.le_of_ble_eq_true rfl), (Nat.le_of_ble_eq_true rfl)⟩ dX7_begins_28 (fun v g_8 H locs hp hT => ?_)
      obtain ⟨r_9, rfl, eg, f_10⟩ := hp
      rw [eg] at hT
      clear eg
      refine W.eq (g2 := F0 m 31 ls [.int r_9]) rfl ?_
      rcases f_10 with rfl | ⟨hw_13, hw_14⟩
      · refine W.eq (g2 := F0 m 31 ls [.int (-1)]) rfl ?_
        refine lv_goto (tgt := 35) hx hb dX7_begins_31 (by decide) ?_
        refine lv_istore (lv' := [(5, .int (-1)), (4, .int 1), (0, .ref h), (1, .int n), (2, .int k), (3, .int j)]) hx hb dX7_begins_35 hl (by decide) rfl (fun ls hl => ?_)
        refine lv_iload hx hb dX7_begins_37 (lv_at hl 0 rfl) ?_
        refine lv_iconst (v := (-1)) hx hb dX7_begins_39 (by decide) ?_
        refine lv_icmp_eq (tgt := 71) hx hb dX7_begins_40 (by decide) (fun c_ => ?_) (fun c_ => absurd (by decide) c_)
        exact lt_m_begins_a l D cI cZ cS cR N0 g h n k j dd fa r_h r_fa n_fa kdd kfa l_n u_n l_k u_k l_dd u_dd hdn hD_0 hB hr   g (1 : Int32) H locs ls hT hI hE hM (by decide) (by decide) kdd hD (lv_sub hl [1, 2, 3, 4, 5] rfl)
      · refine W.eq (g2 := F0 m 31 ls [.int r_9]) rfl ?_
        refine lv_goto (tgt := 35) hx hb dX7_begins_31 (by decide) ?_
        refine lv_istore (lv' := [(5, .int r_9), (4, .int 1), (0, .ref h), (1, .int n), (2, .int k), (3, .int j)]) hx hb dX7_begins_35 hl (by decide) rfl (fun ls hl => ?_)
        refine lv_iload hx hb dX7_begins_37 (lv_at hl 0 rfl) ?_
        refine lv_iconst (v := (-1)) hx hb dX7_begins_39 (by decide) ?_
        refine lv_icmp_eq (tgt := 71) hx hb dX7_begins_40 (by decide) (fun c_15 => ?_) (fun c_15 => ?_)
        · have c_15' : r_9.toInt = (-1) := i_eq c_15 rfl (by decide)
          exact absurd c_15' (by omega)
        · have c_15' : r_9.toInt ≠ (-1) := i_ne c_15 rfl (by decide)
          refine lv_aload_n hx hb dX7_begins_43 rfl (lv_at hl 2 rfl) ?_
          refine lv_aload_n hx hb dX7_begins_44 rfl (lv_at hl 2 rfl) ?_
          obtain ⟨v_16, e_v_16, r_v_16, n_v_16⟩ := f_8_11 hI r_h
          refine t_get (ci := 7) (v := .ref v_16) hB hT (ro_ci r_h rfl) rfl 11 (by decide) k_756 e_v_16 dX7_begins_45 ?_
          refine lv_iload hx hb dX7_begins_48 (lv_at hl 0 rfl) ?_
          have i_u_17 : vp_in r_9 192 := (i_in (n := 192) rfl (by omega) (by omega))
          refine t_iald hB hT (ro_in r_v_16 (by decide)) n_v_16 i_u_17 rfl dX7_begins_50 ?_
          refine lv_topi (fun u_17 e_u_17 => ?_)
          refine lv_iload_n hx hb dX7_begins_51 rfl (lv_at hl 4 rfl) ?_
          refine lv_icmp_ne (tgt := 65) hx hb dX7_begins_52 (by decide) (fun c_18 => ?_) (fun c_18 => ?_)
          · have c_18' : u_17.toInt ≠ k.toInt := i_ne c_18 rfl rfl
            refine lv_iconst (v := (-1)) hx hb dX7_begins_65 (by decide) ?_
            refine t_put0 (ci := 7) (v := .int (-1)) hB hT (ro_ci r_h rfl) (ro_n0 r_h (by decide)) rfl 51 (by decide) k_796 (Or.inl rfl) rfl rfl dX7_begins_66 (fun H locs hT => ?_)
            have hI : Inv (sF g h 51 (.int (-1))) := hI.sF (p_8_51 r_h (⟨_, rfl, by decide, by decide⟩))
            have hM : Sm md_m_begins g (sF g h 51 (.int (-1))) := hM.tr hE (Sm_sF (by rw [r_h]; rfl))
            have hE : Ex g (sF g h 51 (.int (-1))) := hE
            have hD : DP (sF g h 51 (.int (-1))) fa dd.toInt := hD
            refine lv_iconst (v := 1) hx hb dX7_begins_69 (by decide) ?_
            exact t_zret hB hr rfl hT (Nat.le_of_ble_eq_true rfl) (Nat.le_of_ble_eq_true rfl) dX7_begins_70 ⟨1, dd, rfl, hI, hE, hM, (Or.inl ⟨rfl, by omega⟩), (sF_k kdd (by decide)), (hD.cast (by omega))⟩
          · have c_18' : u_17.toInt = k.toInt := i_eq c_18 rfl rfl
            refine lv_aload_n hx hb dX7_begins_55 rfl (lv_at hl 2 rfl) ?_
            obtain ⟨v_19, e_v_19, r_v_19, n_v_19⟩ := f_8_12 hI r_h
            refine t_get (ci := 7) (v := .ref v_19) hB hT (ro_ci r_h rfl) rfl 12 (by decide) k_757 e_v_19 dX7_begins_56 ?_
            refine lv_iload hx hb dX7_begins_59 (lv_at hl 0 rfl) ?_
            have i_u_20 : vp_in r_9 192 := (i_in (n := 192) rfl (by omega) (by omega))
            refine t_iald hB hT (ro_in r_v_19 (by decide)) n_v_19 i_u_20 rfl dX7_begins_61 ?_
            have c_u_20 := hI.c r_v_19 n_v_19 (i_cl i_u_20)
            refine lv_topi (fun u_20 e_u_20 => ?_)
            obtain ⟨l_u_20, u_u_20⟩ := c_u_20
            rw [← e_u_20] at l_u_20 u_u_20
            refine lv_goto (tgt := 66) hx hb dX7_begins_62 (by decide) ?_
            refine t_put0 (ci := 7) (v := .int u_20) hB hT (ro_ci r_h rfl) (ro_n0 r_h (by decide)) rfl 51 (by decide) k_796 (Or.inl rfl) rfl rfl dX7_begins_66 (fun H locs hT => ?_)
            have hI : Inv (sF g h 51 (.int u_20)) := hI.sF (p_8_51 r_h (⟨_, rfl, by omega, by omega⟩))
            have hM : Sm md_m_begins g (sF g h 51 (.int u_20)) := hM.tr hE (Sm_sF (by rw [r_h]; rfl))
            have hE : Ex g (sF g h 51 (.int u_20)) := hE
            have hD : DP (sF g h 51 (.int u_20)) fa dd.toInt := hD
            refine lv_iconst (v := 1) hx hb dX7_begins_69 (by decide) ?_
            exact t_zret hB hr rfl hT (Nat.le_of_ble_eq_true rfl) (Nat.le_of_ble_eq_true rfl) dX7_begins_70 ⟨1, dd, rfl, hI, hE, hM, (Or.inl ⟨rfl, by omega⟩), (sF_k kdd (by decide)), (hD.cast (by omega))⟩
  · refine W.eq (g2 := F0 m 6 ls [.int 0]) rfl ?_
    refine lv_if_eq (tgt := 17) hx hb dX7_begins_6 (by decide) (fun c_ => ?_) (fun c_ => absurd (by decide) c_)
    refine lv_iconst (v := 0) hx hb dX7_begins_17 (by decide) ?_
    refine lv_istore (lv' := [(4, .int 0), (0, .ref h), (1, .int n), (2, .int k), (3, .int j)]) hx hb dX7_begins_18 hl (by decide) rfl (fun ls hl => ?_)
    refine lv_iload hx hb dX7_begins_20 (lv_at hl 0 rfl) ?_
    refine lv_if_eq (tgt := 34) hx hb dX7_begins_22 (by decide) (fun c_ => ?_) (fun c_ => absurd (by decide) c_)
    refine lv_iconst (v := (-1)) hx hb dX7_begins_34 (by decide) ?_
    refine lv_istore (lv' := [(5, .int (-1)), (4, .int 0), (0, .ref h), (1, .int n), (2, .int k), (3, .int j)]) hx hb dX7_begins_35 hl (by decide) rfl (fun ls hl => ?_)
    refine lv_iload hx hb dX7_begins_37 (lv_at hl 0 rfl) ?_
    refine lv_iconst (v := (-1)) hx hb dX7_begins_39 (by decide) ?_
    refine lv_icmp_eq (tgt := 71) hx hb dX7_begins_40 (by decide) (fun c_ => ?_) (fun c_ => absurd (by decide) c_)
    exact lt_m_begins_a l D cI cZ cS cR N0 g h n k j dd fa r_h r_fa n_fa kdd kfa l_n u_n l_k u_k l_dd u_dd hdn hD_0 hB hr   g (0 : Int32) H locs ls hT hI hE hM (by decide) (by decide) kdd hD (lv_sub hl [1, 2, 3, 4, 5] rfl)
abbrev md_m_closes : Nat → Nat → Bool := mdf [(8, 49), (8, 51), (50, 99), (54, 99), (58, 99)]
theorem mdle_m_closes_m_keeps {r k : Nat} (h : md_m_closes r k = false) : md_m_keeps r k = false := mdf_le (by decide +kernel) h
set_option maxHeartbeats 4000000 in
set_option maxRecDepth 100000 in
theorem lt_m_closes_a (l : Launch) (D : va_G) (cI cZ cS cR : ClassId) (N0 : NT) (g : GS) (h : Nat) (dd : Int32) (r_h : g.1 h = 8) (kdd : g.2.1 h 49 = .int dd) (l_dd : 1 ≤ dd.toInt) (u_dd : dd.toInt ≤ 6) {p : Program} {e : Env} {s : State} {m : MethodId} {args : Array Value} {below : List Frame} {meth : Method} {c : Code} (hB : Tz p s m meth c args cX7_closes 4 RX7 D cI cZ cS cR N0) (hr : meth.sig.returnType = none)    : ∀ (g1 : GS) (d2 : Int32)  (H : Heap) (locs : List Loc) (ls : Array Slot), Tv D cI cZ cS cR N0 s.heap H locs g1 → Inv g1 → Ex g g1 → Sm md_m_closes g g1 → 0 ≤ d2.toInt → d2.toInt ≤ 5 → g1.2.1 h 49 = .int d2 → (d2.toInt = dd.toInt - 1) → lv_has ls 4 [(0, .ref h)] → W p l e (rmx 3 0 0) s m args below meth c H locs 0 0 (MQ below (tQ D cI cZ cS cR N0 (fun v g' => ∃ (d2 : Int32), v = none ∧ Inv g' ∧ Ex g g' ∧ Sm md_m_closes g g' ∧ (g'.2.1 h 49 = .int d2) ∧ (d2.toInt = dd.toInt - 1))) args s 0 0 (fun q => N0.1 ≤ q)) (F0 m 109 ls []) := by
  have hx := hB.1
  have hb := hB.2.1
  intro g1 d2 H locs ls hT hI hE hM l_d2 u_d2 kp0 ed hl
  have r_1 : g1.1 h = 8 := Ex.r hE r_h (by decide)
  refine lv_aload_n hx hb dX7_closes_109 rfl (lv_at hl 0 rfl) ?_
  refine t_get (ci := 7) (v := .int d2) hB hT (ro_ci r_1 rfl) rfl 49 (by decide) k_794 kp0 dX7_closes_110 ?_
  refine lv_if_le (tgt := 131) hx hb dX7_closes_113 (by decide) (fun c_2 => ?_) (fun c_2 => ?_)
  · have c_2' : d2.toInt ≤ 0 := i_le c_2 rfl (by decide)
    exact t_vret hB hr hT (Nat.le_of_ble_eq_true rfl) (Nat.le_of_ble_eq_true rfl) dX7_closes_131 ⟨d2, rfl, hI, hE, hM, kp0, (by omega)⟩
  · have c_2' : 0 < d2.toInt := i_nle c_2 rfl (by decide)
    refine lv_aload_n hx hb dX7_closes_116 rfl (lv_at hl 0 rfl) ?_
    obtain ⟨v_3, e_v_3, r_v_3, n_v_3⟩ := f_8_47 hI r_1
    refine t_get (ci := 7) (v := .ref v_3) hB hT (ro_ci r_1 rfl) rfl 47 (by decide) k_792 e_v_3 dX7_closes_117 ?_
    refine lv_aload_n hx hb dX7_closes_120 rfl (lv_at hl 0 rfl) ?_
    refine t_get (ci := 7) (v := .int d2) hB hT (ro_ci r_1 rfl) rfl 49 (by decide) k_794 kp0 dX7_closes_121 ?_
    refine lv_iconst (v := 1) hx hb dX7_closes_124 (by decide) ?_
    refine lv_isub hx hb dX7_closes_125 ?_
    refine lv_topi (fun z_4 ez_4 => ?_)
    have e_z_4 : z_4.toInt = d2.toInt - 1 := i_sub ez_4 rfl (by decide) (by omega) (by omega)
    refine lv_aload_n hx hb dX7_closes_126 rfl (lv_at hl 0 rfl) ?_
    obtain ⟨v_5, e_v_5, l_v_5, u_v_5⟩ := f_8_51 hI r_1
    refine t_get (ci := 7) (v := .int v_5) hB hT (ro_ci r_1 rfl) rfl 51 (by decide) k_796 e_v_5 dX7_closes_127 ?_
    have i_6 : vp_in z_4 7 := (i_in (n := 7) rfl (by omega) (by omega))
    refine t_iast hB hT (ro_in r_v_3 (by decide)) n_v_3 i_6 dX7_closes_130 (fun H locs hT => ?_)
    have hI : Inv (sC g1 v_3 z_4.toNatClampNeg v_5) := hI.sC (ck r_v_3 ⟨by omega, by omega⟩)
    have hM : Sm md_m_closes g (sC g1 v_3 z_4.toNatClampNeg v_5) := hM.tr hE (Sm_sC (by rw [r_v_3]; rfl))
    have hE : Ex g (sC g1 v_3 z_4.toNatClampNeg v_5) := hE
    exact t_vret hB hr hT (Nat.le_of_ble_eq_true rfl) (Nat.le_of_ble_eq_true rfl) dX7_closes_131 ⟨d2, rfl, hI, hE, hM, kp0, (by omega)⟩
set_option maxHeartbeats 4000000 in
set_option maxRecDepth 100000 in
theorem m_closes (l : Launch) (D : va_G) (cI cZ cS cR : ClassId) (N0 : NT) (g : GS) (hI : Inv g) (h : Nat) (dd : Int32) (r_h : g.1 h = 8) (kdd : g.2.1 h 49 = .int dd) (l_dd : 1 ≤ dd.toInt) (u_dd : dd.toInt ≤ 6) : Ty l D cI cZ cS cR N0 yX7_closes cX7_closes 4 none 3 0 0 [.ref h] g (fun v g' => ∃ (d2 : Int32), v = none ∧ Inv g' ∧ Ex g g' ∧ Sm md_m_closes g g' ∧ (g'.2.1 h 49 = .int d2) ∧ (d2.toInt = dd.toInt - 1)) := by
  refine t_enter (by decide) (Nat.le_of_ble_eq_true rfl) ?_
  intro p e s m args below meth c ls H locs hB hr hin hl hT
  have hx := hB.1
  have hb := hB.2.1
  have hl : lv_has ls 4 [(0, .ref h)] := hl
  have hE : Ex g g := Ex.rf
  have hM : Sm md_m_closes g g := Sm.rf
  refine lv_aload_n hx hb dX7_closes_0 rfl (lv_at hl 0 rfl) ?_
  refine lv_dup hx hb dX7_closes_1 rfl ?_
  refine t_get (ci := 7) (v := .int dd) hB hT (ro_ci r_h rfl) rfl 49 (by decide) k_794 kdd dX7_closes_2 ?_
  refine lv_iconst (v := 1) hx hb dX7_closes_5 (by decide) ?_
  refine lv_isub hx hb dX7_closes_6 ?_
  refine lv_topi (fun z_1 ez_1 => ?_)
  have e_z_1 : z_1.toInt = dd.toInt - 1 := i_sub ez_1 rfl (by decide) (by omega) (by omega)
  refine t_put0 (ci := 7) (v := .int z_1) hB hT (ro_ci r_h rfl) (ro_n0 r_h (by decide)) rfl 49 (by decide) k_794 (Or.inl rfl) rfl rfl dX7_closes_7 (fun H locs hT => ?_)
  have hI : Inv (sF g h 49 (.int z_1)) := hI.sF (p_8_49 r_h (⟨_, rfl, by omega, by omega⟩))
  have hM : Sm md_m_closes g (sF g h 49 (.int z_1)) := hM.tr hE (Sm_sF (by rw [r_h]; rfl))
  have hE : Ex g (sF g h 49 (.int z_1)) := hE
  refine lv_aload_n hx hb dX7_closes_10 rfl (lv_at hl 0 rfl) ?_
  obtain ⟨v_2, e_v_2, r_v_2, n_v_2⟩ := f_8_43 hI r_h
  refine t_get (ci := 7) (v := .ref v_2) hB hT (ro_ci r_h rfl) rfl 43 (by decide) k_788 e_v_2 dX7_closes_11 ?_
  refine lv_aload_n hx hb dX7_closes_14 rfl (lv_at hl 0 rfl) ?_
  refine t_get (ci := 7) (v := .int z_1) hB hT (ro_ci r_h rfl) rfl 49 (by decide) k_794 sF_eq dX7_closes_15 ?_
  have i_u_3 : vp_in z_1 7 := (i_in (n := 7) rfl (by omega) (by omega))
  refine t_iald hB hT (ro_in r_v_2 (by decide)) n_v_2 i_u_3 rfl dX7_closes_18 ?_
  have c_u_3 := hI.c r_v_2 n_v_2 (i_cl i_u_3)
  refine lv_topi (fun u_3 e_u_3 => ?_)
  obtain ⟨l_u_3, u_u_3⟩ := c_u_3
  rw [← e_u_3] at l_u_3 u_u_3
  refine lv_istore_n (lv' := [(1, .int u_3), (0, .ref h)]) hx hb dX7_closes_19 rfl hl (by decide) rfl (fun ls hl => ?_)
  refine lv_aload_n hx hb dX7_closes_20 rfl (lv_at hl 1 rfl) ?_
  obtain ⟨v_4, e_v_4, r_v_4, n_v_4⟩ := f_8_45 hI r_h
  refine t_get (ci := 7) (v := .ref v_4) hB hT (ro_ci r_h rfl) rfl 45 (by decide) k_790 e_v_4 dX7_closes_21 ?_
  refine lv_aload_n hx hb dX7_closes_24 rfl (lv_at hl 1 rfl) ?_
  refine t_get (ci := 7) (v := .int z_1) hB hT (ro_ci r_h rfl) rfl 49 (by decide) k_794 sF_eq dX7_closes_25 ?_
  have i_u_5 : vp_in z_1 7 := (i_in (n := 7) rfl (by omega) (by omega))
  refine t_iald hB hT (ro_in r_v_4 (by decide)) n_v_4 i_u_5 rfl dX7_closes_28 ?_
  refine lv_topi (fun u_5 e_u_5 => ?_)
  refine lv_istore_n (lv' := [(2, .int u_5), (1, .int u_3), (0, .ref h)]) hx hb dX7_closes_29 rfl hl (by decide) rfl (fun ls hl => ?_)
  refine lv_aload_n hx hb dX7_closes_30 rfl (lv_at hl 2 rfl) ?_
  refine lv_aload_n hx hb dX7_closes_31 rfl (lv_at hl 2 rfl) ?_
  obtain ⟨v_6, e_v_6, r_v_6, n_v_6⟩ := f_8_47 hI r_h
  refine t_get (ci := 7) (v := .ref v_6) hB hT (ro_ci r_h rfl) rfl 47 (by decide) k_792 e_v_6 dX7_closes_32 ?_
  refine lv_aload_n hx hb dX7_closes_35 rfl (lv_at hl 2 rfl) ?_
  refine t_get (ci := 7) (v := .int z_1) hB hT (ro_ci r_h rfl) rfl 49 (by decide) k_794 sF_eq dX7_closes_36 ?_
  have i_u_7 : vp_in z_1 7 := (i_in (n := 7) rfl (by omega) (by omega))
  refine t_iald hB hT (ro_in r_v_6 (by decide)) n_v_6 i_u_7 rfl dX7_closes_39 ?_
  have c_u_7 := hI.c r_v_6 n_v_6 (i_cl i_u_7)
  refine lv_topi (fun u_7 e_u_7 => ?_)
  obtain ⟨l_u_7, u_u_7⟩ := c_u_7
  rw [← e_u_7] at l_u_7 u_u_7
  refine t_put0 (ci := 7) (v := .int u_7) hB hT (ro_ci r_h rfl) (ro_n0 r_h (by decide)) rfl 51 (by decide) k_796 (Or.inl rfl) rfl rfl dX7_closes_40 (fun H locs hT => ?_)
  have hI : Inv (sF (sF g h 49 (.int z_1)) h 51 (.int u_7)) := hI.sF (p_8_51 r_h (⟨_, rfl, by omega, by omega⟩))
  have hM : Sm md_m_closes g (sF (sF g h 49 (.int z_1)) h 51 (.int u_7)) := hM.tr hE (Sm_sF (by rw [r_h]; rfl))
  have hE : Ex g (sF (sF g h 49 (.int z_1)) h 51 (.int u_7)) := hE
  refine lv_aload_n hx hb dX7_closes_43 rfl (lv_at hl 2 rfl) ?_
  refine lv_iload_n hx hb dX7_closes_44 rfl (lv_at hl 1 rfl) ?_
  refine lv_iconst (v := 0) hx hb dX7_closes_45 (by decide) ?_
  refine t_callV (n := 2) (As := [.int u_3, .int 0]) (rest := []) (ci := 7) hB hT hl.1 (m_has l D cI cZ cS cR N0 (sF (sF g h 49 (.int z_1)) h 51 (.int u_7)) hI h u_3 0 r_h (by have q0 : (0 : Int32).toInt = 0 := (by decide); omega) (by have q0 : (0 : Int32).toInt = 0 := (by decide); omega)) (ro_ci r_h rfl) rfl k_999 k_65 k_996 k_998 k_28 (by decide +kernel) ⟨(Nat.le_of_ble_eq_true rfl), (Nat.le_of_ble_eq_true rfl)⟩ rfl (Nat.le_of_ble_eq_true rfl) ⟨(Nat.le_of_ble_eq_true rfl), (Nat.le_of_ble_eq_true rfl)⟩ dX7_closes_46 (fun v g_8 H locs hp hT => ?_)
  obtain ⟨r_9, rfl, eg, f_10⟩ := hp
  rw [eg] at hT
  clear eg
  refine W.eq (g2 := F0 m 49 ls [.int r_9]) rfl ?_
  have qc_13 : (0 : Int32).toInt = 0 := (by decide)
  rcases f_10 with rfl | rfl
  · refine W.eq (g2 := F0 m 49 ls [.int 1]) rfl ?_
    refine lv_if_eq (tgt := 109) hx hb dX7_closes_49 (by decide) (fun c_ => absurd c_ (by decide)) (fun c_ => ?_)
    refine lv_iload_n hx hb dX7_closes_52 rfl (lv_at hl 0 rfl) ?_
    refine lv_if_eq (tgt := 109) hx hb dX7_closes_53 (by decide) (fun c_14 => ?_) (fun c_14 => ?_)
    · have c_14' : u_5.toInt = 0 := i_eq c_14 rfl (by decide)
      exact lt_m_closes_a l D cI cZ cS cR N0 g h dd r_h kdd l_dd u_dd hB hr   (sF (sF g h 49 (.int z_1)) h 51 (.int u_7)) z_1 H locs ls hT hI hE hM (by omega) (by omega) (sF_k sF_eq (by decide)) (by omega) (lv_sub hl [2] rfl)
    · have c_14' : u_5.toInt ≠ 0 := i_ne c_14 rfl (by decide)
      refine lv_aload_n hx hb dX7_closes_56 rfl (lv_at hl 2 rfl) ?_
      refine lv_iload_n hx hb dX7_closes_57 rfl (lv_at hl 1 rfl) ?_
      refine lv_iload_n hx hb dX7_closes_58 rfl (lv_at hl 0 rfl) ?_
      refine t_callV (n := 2) (As := [.int u_3, .int u_5]) (rest := []) (ci := 7) hB hT hl.1 (m_find l D cI cZ cS cR N0 (sF (sF g h 49 (.int z_1)) h 51 (.int u_7)) hI h u_3 u_5 r_h (by omega) (by omega)) (ro_ci r_h rfl) rfl k_1059 k_65 k_1056 k_1058 k_38 (by decide +kernel) ⟨(Nat.le_of_ble_eq_true rfl), (Nat.le_of_ble_eq_true rfl)⟩ rfl (Nat.le_of_ble_eq_true rfl) ⟨(Nat.le_of_ble_eq_true rfl), (Nat.le_of_ble_eq_true rfl)⟩ dX7_closes_59 (fun v g_15 H locs hp hT => ?_)
      obtain ⟨r_16, rfl, eg, f_17⟩ := hp
      rw [eg] at hT
      clear eg
      refine W.eq (g2 := F0 m 62 ls [.int r_16]) rfl ?_
      rcases f_17 with rfl | ⟨hw_20, hw_21⟩
      · refine W.eq (g2 := F0 m 62 ls [.int (-1)]) rfl ?_
        refine lv_istore_n (lv' := [(3, .int (-1)), (2, .int u_5), (1, .int u_3), (0, .ref h)]) hx hb dX7_closes_62 rfl hl (by decide) rfl (fun ls hl => ?_)
        refine lv_aload_n hx hb dX7_closes_63 rfl (lv_at hl 3 rfl) ?_
        refine lv_iload_n hx hb dX7_closes_64 rfl (lv_at hl 2 rfl) ?_
        refine lv_iconst (v := 1) hx hb dX7_closes_65 (by decide) ?_
        refine t_callV (n := 2) (As := [.int u_3, .int 1]) (rest := []) (ci := 7) hB hT hl.1 (m_has l D cI cZ cS cR N0 (sF (sF g h 49 (.int z_1)) h 51 (.int u_7)) hI h u_3 1 r_h (by have q0 : (1 : Int32).toInt = 1 := (by decide); omega) (by have q0 : (1 : Int32).toInt = 1 := (by decide); omega)) (ro_ci r_h rfl) rfl k_999 k_65 k_996 k_998 k_28 (by decide +kernel) ⟨(Nat.le_of_ble_eq_true rfl), (Nat.le_of_ble_eq_true rfl)⟩ rfl (Nat.le_of_ble_eq_true rfl) ⟨(Nat.le_of_ble_eq_true rfl), (Nat.le_of_ble_eq_true rfl)⟩ dX7_closes_66 (fun v g_22 H locs hp hT => ?_)
        obtain ⟨r_23, rfl, eg, f_24⟩ := hp
        rw [eg] at hT
        clear eg
        refine W.eq (g2 := F0 m 69 ls [.int r_23]) rfl ?_
        have qc_27 : (1 : Int32).toInt = 1 := (by decide)
        rcases f_24 with rfl | rfl
        · refine W.eq (g2 := F0 m 69 ls [.int 1]) rfl ?_
          refine lv_if_ne (tgt := 94) hx hb dX7_closes_69 (by decide) (fun c_ => ?_) (fun c_ => absurd c_ (by decide))
          refine lv_iload_n hx hb dX7_closes_94 rfl (lv_at hl 0 rfl) ?_
          refine lv_iconst (v := (-1)) hx hb dX7_closes_95 (by decide) ?_
          refine lv_icmp_eq (tgt := 109) hx hb dX7_closes_96 (by decide) (fun c_ => ?_) (fun c_ => absurd (by decide) c_)
          exact lt_m_closes_a l D cI cZ cS cR N0 g h dd r_h kdd l_dd u_dd hB hr   (sF (sF g h 49 (.int z_1)) h 51 (.int u_7)) z_1 H locs ls hT hI hE hM (by omega) (by omega) (sF_k sF_eq (by decide)) (by omega) (lv_sub hl [3] rfl)
        · refine W.eq (g2 := F0 m 69 ls [.int 0]) rfl ?_
          refine lv_if_ne (tgt := 94) hx hb dX7_closes_69 (by decide) (fun c_ => absurd (by decide) c_) (fun c_ => ?_)
          refine lv_aload_n hx hb dX7_closes_72 rfl (lv_at hl 3 rfl) ?_
          refine lv_iload_n hx hb dX7_closes_73 rfl (lv_at hl 2 rfl) ?_
          refine lv_iload_n hx hb dX7_closes_74 rfl (lv_at hl 1 rfl) ?_
          refine lv_aload_n hx hb dX7_closes_75 rfl (lv_at hl 3 rfl) ?_
          obtain ⟨v_28, e_v_28, r_v_28, n_v_28⟩ := f_8_44 hI r_h
          refine t_get (ci := 7) (v := .ref v_28) hB hT (ro_ci r_h rfl) rfl 44 (by decide) k_789 e_v_28 dX7_closes_76 ?_
          refine lv_aload_n hx hb dX7_closes_79 rfl (lv_at hl 3 rfl) ?_
          refine t_get (ci := 7) (v := .int z_1) hB hT (ro_ci r_h rfl) rfl 49 (by decide) k_794 (sF_k sF_eq (by decide)) dX7_closes_80 ?_
          have i_u_29 : vp_in z_1 7 := (i_in (n := 7) rfl (by omega) (by omega))
          refine t_iald hB hT (ro_in r_v_28 (by decide)) n_v_28 i_u_29 rfl dX7_closes_83 ?_
          have c_u_29 := hI.c r_v_28 n_v_28 (i_cl i_u_29)
          refine lv_topi (fun u_29 e_u_29 => ?_)
          obtain ⟨l_u_29, u_u_29⟩ := c_u_29
          rw [← e_u_29] at l_u_29 u_u_29
          refine lv_aload_n hx hb dX7_closes_84 rfl (lv_at hl 3 rfl) ?_
          refine t_get (ci := 7) (v := .int u_7) hB hT (ro_ci r_h rfl) rfl 51 (by decide) k_796 sF_eq dX7_closes_85 ?_
          refine t_callV (n := 4) (As := [.int u_3, .int u_5, .int u_29, .int u_7]) (rest := []) (ci := 7) hB hT hl.1 (m_keeps l D cI cZ cS cR N0 (sF (sF g h 49 (.int z_1)) h 51 (.int u_7)) hI h u_3 u_5 u_29 u_7 r_h (by omega) (by omega) (by omega) (by omega)) (ro_ci r_h rfl) rfl k_1063 k_65 k_1060 k_1062 k_39 (by decide +kernel) ⟨(Nat.le_of_ble_eq_true rfl), (Nat.le_of_ble_eq_true rfl)⟩ rfl (Nat.le_of_ble_eq_true rfl) ⟨(Nat.le_of_ble_eq_true rfl), (Nat.le_of_ble_eq_true rfl)⟩ dX7_closes_88 (fun v g_30 H locs hp hT => ?_)
          obtain ⟨rfl, hI, x_32, m_31⟩ := hp
          have hM : Sm md_m_closes g g_30 := hM.tr hE (m_31.mo (fun r k h => mdle_m_closes_m_keeps h))
          have hE : Ex g g_30 := hE.tr x_32
          have r_33 : g_30.1 h = 8 := (Ex.r x_32 r_h (by decide))
          have r_34 : g_30.1 v_2 = 51 := (Ex.r x_32 r_v_2 (by decide))
          have r_35 : g_30.1 v_4 = 50 := (Ex.r x_32 r_v_4 (by decide))
          have r_36 : g_30.1 v_6 = 58 := (Ex.r x_32 r_v_6 (by decide))
          have r_37 : g_30.1 v_28 = 56 := (Ex.r x_32 r_v_28 (by decide))
          have n_38 : g_30.2.2.1 v_2 = 7 := (Ex.n x_32 r_v_2 (by decide) n_v_2)
          have n_39 : g_30.2.2.1 v_4 = 7 := (Ex.n x_32 r_v_4 (by decide) n_v_4)
          have n_40 : g_30.2.2.1 v_6 = 7 := (Ex.n x_32 r_v_6 (by decide) n_v_6)
          have n_41 : g_30.2.2.1 v_28 = 7 := (Ex.n x_32 r_v_28 (by decide) n_v_28)
          have kn_42 : g_30.2.1 h 49 = .int z_1 := (Sm.v m_31 r_h (by decide) rfl (sF_k sF_eq (by decide)))
          have kn_43 : g_30.2.1 h 43 = .ref v_2 := (Sm.v m_31 r_h (by decide) rfl (sF_k e_v_2 (by decide)))
          have kn_44 : g_30.2.1 h 45 = .ref v_4 := (Sm.v m_31 r_h (by decide) rfl (sF_k e_v_4 (by decide)))
          have kn_45 : g_30.2.1 h 47 = .ref v_6 := (Sm.v m_31 r_h (by decide) rfl (sF_k e_v_6 (by decide)))
          have kn_46 : g_30.2.1 h 51 = .int u_7 := (Sm.v m_31 r_h (by decide) rfl sF_eq)
          have kn_47 : g_30.2.1 h 44 = .ref v_28 := (Sm.v m_31 r_h (by decide) rfl e_v_28)
          have kn_48 : g_30.2.2.2.1 v_2 z_1.toNatClampNeg = u_3 := (Sm.c m_31 r_v_2 (by decide) rfl e_u_3.symm)
          have kn_49 : g_30.2.2.2.1 v_28 z_1.toNatClampNeg = u_29 := (Sm.c m_31 r_v_28 (by decide) rfl e_u_29.symm)
          refine W.eq (g2 := F0 m 91 ls []) rfl ?_
          refine lv_goto (tgt := 109) hx hb dX7_closes_91 (by decide) ?_
          exact lt_m_closes_a l D cI cZ cS cR N0 g h dd r_h kdd l_dd u_dd hB hr   g_30 z_1 H locs ls hT hI hE hM (by omega) (by omega) kn_42 (by omega) (lv_sub hl [3] rfl)
      · refine W.eq (g2 := F0 m 62 ls [.int r_16]) rfl ?_
        refine lv_istore_n (lv' := [(3, .int r_16), (2, .int u_5), (1, .int u_3), (0, .ref h)]) hx hb dX7_closes_62 rfl hl (by decide) rfl (fun ls hl => ?_)
        refine lv_aload_n hx hb dX7_closes_63 rfl (lv_at hl 3 rfl) ?_
        refine lv_iload_n hx hb dX7_closes_64 rfl (lv_at hl 2 rfl) ?_
        refine lv_iconst (v := 1) hx hb dX7_closes_65 (by decide) ?_
        refine t_callV (n := 2) (As := [.int u_3, .int 1]) (rest := []) (ci := 7) hB hT hl.1 (m_has l D cI cZ cS cR N0 (sF (sF g h 49 (.int z_1)) h 51 (.int u_7)) hI h u_3 1 r_h (by have q0 : (1 : Int32).toInt = 1 := (by decide); omega) (by have q0 : (1 : Int32).toInt = 1 := (by decide); omega)) (ro_ci r_h rfl) rfl k_999 k_65 k_996 k_998 k_28 (by decide +kernel) ⟨(Nat.le_of_ble_eq_true rfl), (Nat.le_of_ble_eq_true rfl)⟩ rfl (Nat.le_of_ble_eq_true rfl) ⟨(Nat.le_of_ble_eq_true rfl), (Nat.le_of_ble_eq_true rfl)⟩ dX7_closes_66 (fun v g_50 H locs hp hT => ?_)
        obtain ⟨r_51, rfl, eg, f_52⟩ := hp
        rw [eg] at hT
        clear eg
        refine W.eq (g2 := F0 m 69 ls [.int r_51]) rfl ?_
        have qc_55 : (1 : Int32).toInt = 1 := (by decide)
        rcases f_52 with rfl | rfl
        · refine W.eq (g2 := F0 m 69 ls [.int 1]) rfl ?_
          refine lv_if_ne (tgt := 94) hx hb dX7_closes_69 (by decide) (fun c_ => ?_) (fun c_ => absurd c_ (by decide))
          refine lv_iload_n hx hb dX7_closes_94 rfl (lv_at hl 0 rfl) ?_
          refine lv_iconst (v := (-1)) hx hb dX7_closes_95 (by decide) ?_
          refine lv_icmp_eq (tgt := 109) hx hb dX7_closes_96 (by decide) (fun c_56 => ?_) (fun c_56 => ?_)
          · have c_56' : r_16.toInt = (-1) := i_eq c_56 rfl (by decide)
            exact absurd c_56' (by omega)
          · have c_56' : r_16.toInt ≠ (-1) := i_ne c_56 rfl (by decide)
            refine lv_aload_n hx hb dX7_closes_99 rfl (lv_at hl 3 rfl) ?_
            obtain ⟨v_57, e_v_57, r_v_57, n_v_57⟩ := f_8_12 hI r_h
            refine t_get (ci := 7) (v := .ref v_57) hB hT (ro_ci r_h rfl) rfl 12 (by decide) k_757 e_v_57 dX7_closes_100 ?_
            refine lv_iload_n hx hb dX7_closes_103 rfl (lv_at hl 0 rfl) ?_
            refine lv_aload_n hx hb dX7_closes_104 rfl (lv_at hl 3 rfl) ?_
            refine t_get (ci := 7) (v := .int u_7) hB hT (ro_ci r_h rfl) rfl 51 (by decide) k_796 sF_eq dX7_closes_105 ?_
            have i_58 : vp_in r_16 192 := (i_in (n := 192) rfl (by omega) (by omega))
            refine t_iast hB hT (ro_in r_v_57 (by decide)) n_v_57 i_58 dX7_closes_108 (fun H locs hT => ?_)
            have hI : Inv (sC (sF (sF g h 49 (.int z_1)) h 51 (.int u_7)) v_57 r_16.toNatClampNeg u_7) := hI.sC (ck r_v_57 ⟨by omega, by omega⟩)
            have hM : Sm md_m_closes g (sC (sF (sF g h 49 (.int z_1)) h 51 (.int u_7)) v_57 r_16.toNatClampNeg u_7) := hM.tr hE (Sm_sC (by rw [r_v_57]; rfl))
            have hE : Ex g (sC (sF (sF g h 49 (.int z_1)) h 51 (.int u_7)) v_57 r_16.toNatClampNeg u_7) := hE
            exact lt_m_closes_a l D cI cZ cS cR N0 g h dd r_h kdd l_dd u_dd hB hr   (sC (sF (sF g h 49 (.int z_1)) h 51 (.int u_7)) v_57 r_16.toNatClampNeg u_7) z_1 H locs ls hT hI hE hM (by omega) (by omega) (sF_k sF_eq (by decide)) (by omega) (lv_sub hl [3] rfl)
        · refine W.eq (g2 := F0 m 69 ls [.int 0]) rfl ?_
          refine lv_if_ne (tgt := 94) hx hb dX7_closes_69 (by decide) (fun c_ => absurd (by decide) c_) (fun c_ => ?_)
          refine lv_aload_n hx hb dX7_closes_72 rfl (lv_at hl 3 rfl) ?_
          refine lv_iload_n hx hb dX7_closes_73 rfl (lv_at hl 2 rfl) ?_
          refine lv_iload_n hx hb dX7_closes_74 rfl (lv_at hl 1 rfl) ?_
          refine lv_aload_n hx hb dX7_closes_75 rfl (lv_at hl 3 rfl) ?_
          obtain ⟨v_59, e_v_59, r_v_59, n_v_59⟩ := f_8_44 hI r_h
          refine t_get (ci := 7) (v := .ref v_59) hB hT (ro_ci r_h rfl) rfl 44 (by decide) k_789 e_v_59 dX7_closes_76 ?_
          refine lv_aload_n hx hb dX7_closes_79 rfl (lv_at hl 3 rfl) ?_
          refine t_get (ci := 7) (v := .int z_1) hB hT (ro_ci r_h rfl) rfl 49 (by decide) k_794 (sF_k sF_eq (by decide)) dX7_closes_80 ?_
          have i_u_60 : vp_in z_1 7 := (i_in (n := 7) rfl (by omega) (by omega))
          refine t_iald hB hT (ro_in r_v_59 (by decide)) n_v_59 i_u_60 rfl dX7_closes_83 ?_
          have c_u_60 := hI.c r_v_59 n_v_59 (i_cl i_u_60)
          refine lv_topi (fun u_60 e_u_60 => ?_)
          obtain ⟨l_u_60, u_u_60⟩ := c_u_60
          rw [← e_u_60] at l_u_60 u_u_60
          refine lv_aload_n hx hb dX7_closes_84 rfl (lv_at hl 3 rfl) ?_
          refine t_get (ci := 7) (v := .int u_7) hB hT (ro_ci r_h rfl) rfl 51 (by decide) k_796 sF_eq dX7_closes_85 ?_
          refine t_callV (n := 4) (As := [.int u_3, .int u_5, .int u_60, .int u_7]) (rest := []) (ci := 7) hB hT hl.1 (m_keeps l D cI cZ cS cR N0 (sF (sF g h 49 (.int z_1)) h 51 (.int u_7)) hI h u_3 u_5 u_60 u_7 r_h (by omega) (by omega) (by omega) (by omega)) (ro_ci r_h rfl) rfl k_1063 k_65 k_1060 k_1062 k_39 (by decide +kernel) ⟨(Nat.le_of_ble_eq_true rfl), (Nat.le_of_ble_eq_true rfl)⟩ rfl (Nat.le_of_ble_eq_true rfl) ⟨(Nat.le_of_ble_eq_true rfl), (Nat.le_of_ble_eq_true rfl)⟩ dX7_closes_88 (fun v g_61 H locs hp hT => ?_)
          obtain ⟨rfl, hI, x_63, m_62⟩ := hp
          have hM : Sm md_m_closes g g_61 := hM.tr hE (m_62.mo (fun r k h => mdle_m_closes_m_keeps h))
          have hE : Ex g g_61 := hE.tr x_63
          have r_64 : g_61.1 h = 8 := (Ex.r x_63 r_h (by decide))
          have r_65 : g_61.1 v_2 = 51 := (Ex.r x_63 r_v_2 (by decide))
          have r_66 : g_61.1 v_4 = 50 := (Ex.r x_63 r_v_4 (by decide))
          have r_67 : g_61.1 v_6 = 58 := (Ex.r x_63 r_v_6 (by decide))
          have r_68 : g_61.1 v_59 = 56 := (Ex.r x_63 r_v_59 (by decide))
          have n_69 : g_61.2.2.1 v_2 = 7 := (Ex.n x_63 r_v_2 (by decide) n_v_2)
          have n_70 : g_61.2.2.1 v_4 = 7 := (Ex.n x_63 r_v_4 (by decide) n_v_4)
          have n_71 : g_61.2.2.1 v_6 = 7 := (Ex.n x_63 r_v_6 (by decide) n_v_6)
          have n_72 : g_61.2.2.1 v_59 = 7 := (Ex.n x_63 r_v_59 (by decide) n_v_59)
          have kn_73 : g_61.2.1 h 49 = .int z_1 := (Sm.v m_62 r_h (by decide) rfl (sF_k sF_eq (by decide)))
          have kn_74 : g_61.2.1 h 43 = .ref v_2 := (Sm.v m_62 r_h (by decide) rfl (sF_k e_v_2 (by decide)))
          have kn_75 : g_61.2.1 h 45 = .ref v_4 := (Sm.v m_62 r_h (by decide) rfl (sF_k e_v_4 (by decide)))
          have kn_76 : g_61.2.1 h 47 = .ref v_6 := (Sm.v m_62 r_h (by decide) rfl (sF_k e_v_6 (by decide)))
          have kn_77 : g_61.2.1 h 51 = .int u_7 := (Sm.v m_62 r_h (by decide) rfl sF_eq)
          have kn_78 : g_61.2.1 h 44 = .ref v_59 := (Sm.v m_62 r_h (by decide) rfl e_v_59)
          have kn_79 : g_61.2.2.2.1 v_2 z_1.toNatClampNeg = u_3 := (Sm.c m_62 r_v_2 (by decide) rfl e_u_3.symm)
          have kn_80 : g_61.2.2.2.1 v_59 z_1.toNatClampNeg = u_60 := (Sm.c m_62 r_v_59 (by decide) rfl e_u_60.symm)
          refine W.eq (g2 := F0 m 91 ls []) rfl ?_
          refine lv_goto (tgt := 109) hx hb dX7_closes_91 (by decide) ?_
          exact lt_m_closes_a l D cI cZ cS cR N0 g h dd r_h kdd l_dd u_dd hB hr   g_61 z_1 H locs ls hT hI hE hM (by omega) (by omega) kn_73 (by omega) (lv_sub hl [3] rfl)
  · refine W.eq (g2 := F0 m 49 ls [.int 0]) rfl ?_
    refine lv_if_eq (tgt := 109) hx hb dX7_closes_49 (by decide) (fun c_ => ?_) (fun c_ => absurd (by decide) c_)
    exact lt_m_closes_a l D cI cZ cS cR N0 g h dd r_h kdd l_dd u_dd hB hr   (sF (sF g h 49 (.int z_1)) h 51 (.int u_7)) z_1 H locs ls hT hI hE hM (by omega) (by omega) (sF_k sF_eq (by decide)) (by omega) (lv_sub hl [2] rfl)
abbrev md_m_puts0 : Nat → Nat → Bool := mdf [(8, 22), (50, 99)]
set_option maxHeartbeats 4000000 in
set_option maxRecDepth 100000 in
theorem lt_m_puts0_a (l : Launch) (D : va_G) (cI cZ cS cR : ClassId) (N0 : NT) (g : GS) (h : Nat) (n : Int32) (t0 : Int32) (r_h : g.1 h = 8) (kt0 : g.2.1 h 22 = .int t0) (kw : g.2.1 h 21 = .int 0) (l_n : 0 ≤ n.toInt) (u_n : n.toInt ≤ 999) (l_t0 : 0 ≤ t0.toInt) (u_t0 : t0.toInt ≤ 999999999) {p : Program} {e : Env} {s : State} {m : MethodId} {args : Array Value} {below : List Frame} {meth : Method} {c : Code} (hB : Tz p s m meth c args cX7_puts 3 RX7 D cI cZ cS cR N0) (hr : meth.sig.returnType = none)    : ∀ (kf : Nat) (g1 : GS) (i : Int32)  (H : Heap) (locs : List Loc) (ls : Array Slot), Tv D cI cZ cS cR N0 s.heap H locs g1 → Inv g1 → Ex g g1 → Sm md_m_puts0 g g1 → 0 ≤ i.toInt → i.toInt ≤ 39 → g1.2.1 h 22 = .int t0 → (i.toInt ≤ kf) → lv_has ls 3 [(2, .int i), (0, .ref h), (1, .int n)] → W p l e (rmx 0 0 0) s m args below meth c H locs 0 0 (MQ below (tQ D cI cZ cS cR N0 (fun v g' => ∃ (t2 : Int32), v = none ∧ Inv g' ∧ Ex g g' ∧ Sm md_m_puts0 g g' ∧ (g'.2.1 h 22 = .int t2) ∧ (0 ≤ t2.toInt ∧ t2.toInt ≤ t0.toInt + 1))) args s 0 0 (fun q => N0.1 ≤ q)) (F0 m 10 ls []) := by
  have hx := hB.1
  have hb := hB.2.1
  intro kf
  induction kf using Nat.strongRecOn with
  | ind kf ih =>
    intro g1 i H locs ls hT hI hE hM l_i u_i kp0 hk hl
    have r_1 : g1.1 h = 8 := Ex.r hE r_h (by decide)
    have kn_2 : g1.2.1 h 21 = .int 0 := Sm.v hM r_h (by decide) rfl kw
    refine lv_iload_n hx hb dX7_puts_10 rfl (lv_at hl 0 rfl) ?_
    refine lv_if_le (tgt := 34) hx hb dX7_puts_11 (by decide) (fun c_3 => ?_) (fun c_3 => ?_)
    · have c_3' : i.toInt ≤ 0 := i_le c_3 rfl (by decide)
      refine lv_aload_n hx hb dX7_puts_34 rfl (lv_at hl 1 rfl) ?_
      obtain ⟨v_4, e_v_4, r_v_4, n_v_4⟩ := f_8_23 hI r_1
      refine t_get (ci := 7) (v := .ref v_4) hB hT (ro_ci r_1 rfl) rfl 23 (by decide) k_768 e_v_4 dX7_puts_35 ?_
      refine lv_iconst (v := 0) hx hb dX7_puts_38 (by decide) ?_
      refine lv_iload_n hx hb dX7_puts_39 rfl (lv_at hl 2 rfl) ?_
      have i_5 : vp_in (0 : Int32) 40 := (by unfold vp_in; decide)
      refine t_iast hB hT (ro_in r_v_4 (by decide)) n_v_4 i_5 dX7_puts_40 (fun H locs hT => ?_)
      have hI : Inv (sC g1 v_4 (0 : Int32).toNatClampNeg n) := hI.sC (ck r_v_4 trivial)
      have hM : Sm md_m_puts0 g (sC g1 v_4 (0 : Int32).toNatClampNeg n) := hM.tr hE (Sm_sC (by rw [r_v_4]; rfl))
      have hE : Ex g (sC g1 v_4 (0 : Int32).toNatClampNeg n) := hE
      refine lv_aload_n hx hb dX7_puts_41 rfl (lv_at hl 1 rfl) ?_
      refine lv_dup hx hb dX7_puts_42 rfl ?_
      refine t_get (ci := 7) (v := .int t0) hB hT (ro_ci r_1 rfl) rfl 22 (by decide) k_767 kp0 dX7_puts_43 ?_
      refine lv_iconst (v := 1) hx hb dX7_puts_46 (by decide) ?_
      refine lv_iadd hx hb dX7_puts_47 ?_
      refine lv_topi (fun z_6 ez_6 => ?_)
      have e_z_6 : z_6.toInt = t0.toInt + 1 := i_add ez_6 rfl (by decide) (by omega) (by omega)
      refine t_put0 (ci := 7) (v := .int z_6) hB hT (ro_ci r_1 rfl) (ro_n0 r_1 (by decide)) rfl 22 (by decide) k_767 (Or.inl rfl) rfl rfl dX7_puts_48 (fun H locs hT => ?_)
      have hI : Inv (sF (sC g1 v_4 (0 : Int32).toNatClampNeg n) h 22 (.int z_6)) := hI.sF (p_8_22 r_1 (⟨_, rfl⟩))
      have hM : Sm md_m_puts0 g (sF (sC g1 v_4 (0 : Int32).toNatClampNeg n) h 22 (.int z_6)) := hM.tr hE (Sm_sF (by rw [r_1]; rfl))
      have hE : Ex g (sF (sC g1 v_4 (0 : Int32).toNatClampNeg n) h 22 (.int z_6)) := hE
      refine lv_goto (tgt := 74) hx hb dX7_puts_51 (by decide) ?_
      exact t_vret hB hr hT (Nat.le_of_ble_eq_true rfl) (Nat.le_of_ble_eq_true rfl) dX7_puts_74 ⟨z_6, rfl, hI, hE, hM, sF_eq, (by omega)⟩
    · have c_3' : 0 < i.toInt := i_nle c_3 rfl (by decide)
      refine lv_aload_n hx hb dX7_puts_14 rfl (lv_at hl 1 rfl) ?_
      obtain ⟨v_7, e_v_7, r_v_7, n_v_7⟩ := f_8_23 hI r_1
      refine t_get (ci := 7) (v := .ref v_7) hB hT (ro_ci r_1 rfl) rfl 23 (by decide) k_768 e_v_7 dX7_puts_15 ?_
      refine lv_iload_n hx hb dX7_puts_18 rfl (lv_at hl 0 rfl) ?_
      refine lv_aload_n hx hb dX7_puts_19 rfl (lv_at hl 1 rfl) ?_
      refine t_get (ci := 7) (v := .ref v_7) hB hT (ro_ci r_1 rfl) rfl 23 (by decide) k_768 e_v_7 dX7_puts_20 ?_
      refine lv_iload_n hx hb dX7_puts_23 rfl (lv_at hl 0 rfl) ?_
      refine lv_iconst (v := 1) hx hb dX7_puts_24 (by decide) ?_
      refine lv_isub hx hb dX7_puts_25 ?_
      refine lv_topi (fun z_8 ez_8 => ?_)
      have e_z_8 : z_8.toInt = i.toInt - 1 := i_sub ez_8 rfl (by decide) (by omega) (by omega)
      have i_u_9 : vp_in z_8 40 := (i_in (n := 40) rfl (by omega) (by omega))
      refine t_iald hB hT (ro_in r_v_7 (by decide)) n_v_7 i_u_9 rfl dX7_puts_26 ?_
      refine lv_topi (fun u_9 e_u_9 => ?_)
      have i_10 : vp_in i 40 := (i_in (n := 40) rfl (by omega) (by omega))
      refine t_iast hB hT (ro_in r_v_7 (by decide)) n_v_7 i_10 dX7_puts_27 (fun H locs hT => ?_)
      have hI : Inv (sC g1 v_7 i.toNatClampNeg u_9) := hI.sC (ck r_v_7 trivial)
      have hM : Sm md_m_puts0 g (sC g1 v_7 i.toNatClampNeg u_9) := hM.tr hE (Sm_sC (by rw [r_v_7]; rfl))
      have hE : Ex g (sC g1 v_7 i.toNatClampNeg u_9) := hE
      obtain ⟨z_11, ez_11⟩ : ∃ z : Int32, z = i + (-1) := ⟨_, rfl⟩
      have e_z_11 : z_11.toInt = i.toInt + (-1) := i_add ez_11 rfl (by decide) (by omega) (by omega)
      refine lv_iinc (v := z_11) (lv' := [(2, .int z_11), (0, .ref h), (1, .int n)]) hx hb dX7_puts_28 hl (k := 0) rfl (by rw [ez_11]; rfl) (by decide) rfl (fun ls hl => ?_)
      refine lv_goto (tgt := 10) hx hb dX7_puts_31 (by decide) ?_
      exact ih (kf - 1) (by omega) (sC g1 v_7 i.toNatClampNeg u_9) z_11 H locs ls hT hI hE hM (by omega) (by omega) kp0 (by have e0_ : (0 : Int32).toInt = 0 := (by decide); omega) (lv_sub hl [0, 1, 2] rfl)
set_option maxHeartbeats 4000000 in
set_option maxRecDepth 100000 in
theorem m_puts0 (l : Launch) (D : va_G) (cI cZ cS cR : ClassId) (N0 : NT) (g : GS) (hI : Inv g) (h : Nat) (n : Int32) (t0 : Int32) (r_h : g.1 h = 8) (kt0 : g.2.1 h 22 = .int t0) (kw : g.2.1 h 21 = .int 0) (l_n : 0 ≤ n.toInt) (u_n : n.toInt ≤ 999) (l_t0 : 0 ≤ t0.toInt) (u_t0 : t0.toInt ≤ 999999999) : Ty l D cI cZ cS cR N0 yX7_puts cX7_puts 3 none 0 0 0 [.ref h, .int n] g (fun v g' => ∃ (t2 : Int32), v = none ∧ Inv g' ∧ Ex g g' ∧ Sm md_m_puts0 g g' ∧ (g'.2.1 h 22 = .int t2) ∧ (0 ≤ t2.toInt ∧ t2.toInt ≤ t0.toInt + 1)) := by
  refine t_enter (by decide) (Nat.le_of_ble_eq_true rfl) ?_
  intro p e s m args below meth c ls H locs hB hr hin hl hT
  have hx := hB.1
  have hb := hB.2.1
  have hl : lv_has ls 3 [(0, .ref h), (1, .int n)] := hl
  have hE : Ex g g := Ex.rf
  have hM : Sm md_m_puts0 g g := Sm.rf
  refine lv_aload_n hx hb dX7_puts_0 rfl (lv_at hl 0 rfl) ?_
  refine t_get (ci := 7) (v := .int 0) hB hT (ro_ci r_h rfl) rfl 21 (by decide) k_766 kw dX7_puts_1 ?_
  refine lv_if_ne (tgt := 54) hx hb dX7_puts_4 (by decide) (fun c_ => absurd (by decide) c_) (fun c_ => ?_)
  refine lv_bipush (v := 39) hx hb dX7_puts_7 (by decide) ?_
  refine lv_istore_n (lv' := [(2, .int 39), (0, .ref h), (1, .int n)]) hx hb dX7_puts_9 rfl hl (by decide) rfl (fun ls hl => ?_)
  exact lt_m_puts0_a l D cI cZ cS cR N0 g h n t0 r_h kt0 kw l_n u_n l_t0 u_t0 hB hr   39 g (39 : Int32) H locs ls hT hI hE hM (by decide) (by decide) kt0 (by have e0_ : (0 : Int32).toInt = 0 := (by decide); have e1_ : (39 : Int32).toInt = 39 := (by decide); omega) (lv_sub hl [0, 1, 2] rfl)
abbrev md_m_puts1 : Nat → Nat → Bool := mdf [(8, 52), (56, 99)]
set_option maxHeartbeats 4000000 in
set_option maxRecDepth 100000 in
theorem m_puts1 (l : Launch) (D : va_G) (cI cZ cS cR : ClassId) (N0 : NT) (g : GS) (hI : Inv g) (h : Nat) (n : Int32) (t0 : Int32) (r_h : g.1 h = 8) (kt0 : g.2.1 h 52 = .int t0) (kw : g.2.1 h 21 = .int 1) (l_n : 0 ≤ n.toInt) (u_n : n.toInt ≤ 999) (l_t0 : 0 ≤ t0.toInt) (u_t0 : t0.toInt ≤ 1199) : Ty l D cI cZ cS cR N0 yX7_puts cX7_puts 3 none 0 0 0 [.ref h, .int n] g (fun v g' => ∃ (t2 : Int32), v = none ∧ Inv g' ∧ Ex g g' ∧ Sm md_m_puts1 g g' ∧ (g'.2.1 h 52 = .int t2) ∧ (0 ≤ t2.toInt ∧ t2.toInt ≤ t0.toInt + 1)) := by
  refine t_enter (by decide) (Nat.le_of_ble_eq_true rfl) ?_
  intro p e s m args below meth c ls H locs hB hr hin hl hT
  have hx := hB.1
  have hb := hB.2.1
  have hl : lv_has ls 3 [(0, .ref h), (1, .int n)] := hl
  have hE : Ex g g := Ex.rf
  have hM : Sm md_m_puts1 g g := Sm.rf
  refine lv_aload_n hx hb dX7_puts_0 rfl (lv_at hl 0 rfl) ?_
  refine t_get (ci := 7) (v := .int 1) hB hT (ro_ci r_h rfl) rfl 21 (by decide) k_766 kw dX7_puts_1 ?_
  refine lv_if_ne (tgt := 54) hx hb dX7_puts_4 (by decide) (fun c_ => ?_) (fun c_ => absurd c_ (by decide))
  refine lv_aload_n hx hb dX7_puts_54 rfl (lv_at hl 0 rfl) ?_
  obtain ⟨v_1, e_v_1, r_v_1, n_v_1⟩ := f_8_53 hI r_h
  refine t_get (ci := 7) (v := .ref v_1) hB hT (ro_ci r_h rfl) rfl 53 (by decide) k_798 e_v_1 dX7_puts_55 ?_
  refine lv_aload_n hx hb dX7_puts_58 rfl (lv_at hl 0 rfl) ?_
  refine t_get (ci := 7) (v := .int t0) hB hT (ro_ci r_h rfl) rfl 52 (by decide) k_797 kt0 dX7_puts_59 ?_
  refine lv_iload_n hx hb dX7_puts_62 rfl (lv_at hl 1 rfl) ?_
  have i_2 : vp_in t0 1200 := (i_in (n := 1200) rfl (by omega) (by omega))
  refine t_iast hB hT (ro_in r_v_1 (by decide)) n_v_1 i_2 dX7_puts_63 (fun H locs hT => ?_)
  have hI : Inv (sC g v_1 t0.toNatClampNeg n) := hI.sC (ck r_v_1 ⟨by omega, by omega⟩)
  have hM : Sm md_m_puts1 g (sC g v_1 t0.toNatClampNeg n) := hM.tr hE (Sm_sC (by rw [r_v_1]; rfl))
  have hE : Ex g (sC g v_1 t0.toNatClampNeg n) := hE
  refine lv_aload_n hx hb dX7_puts_64 rfl (lv_at hl 0 rfl) ?_
  refine lv_dup hx hb dX7_puts_65 rfl ?_
  refine t_get (ci := 7) (v := .int t0) hB hT (ro_ci r_h rfl) rfl 52 (by decide) k_797 kt0 dX7_puts_66 ?_
  refine lv_iconst (v := 1) hx hb dX7_puts_69 (by decide) ?_
  refine lv_iadd hx hb dX7_puts_70 ?_
  refine lv_topi (fun z_3 ez_3 => ?_)
  have e_z_3 : z_3.toInt = t0.toInt + 1 := i_add ez_3 rfl (by decide) (by omega) (by omega)
  refine t_put0 (ci := 7) (v := .int z_3) hB hT (ro_ci r_h rfl) (ro_n0 r_h (by decide)) rfl 52 (by decide) k_797 (Or.inl rfl) rfl rfl dX7_puts_71 (fun H locs hT => ?_)
  have hI : Inv (sF (sC g v_1 t0.toNatClampNeg n) h 52 (.int z_3)) := hI.sF (p_8_52 r_h (⟨_, rfl, by omega, by omega⟩))
  have hM : Sm md_m_puts1 g (sF (sC g v_1 t0.toNatClampNeg n) h 52 (.int z_3)) := hM.tr hE (Sm_sF (by rw [r_h]; rfl))
  have hE : Ex g (sF (sC g v_1 t0.toNatClampNeg n) h 52 (.int z_3)) := hE
  exact t_vret hB hr hT (Nat.le_of_ble_eq_true rfl) (Nat.le_of_ble_eq_true rfl) dX7_puts_74 ⟨z_3, rfl, hI, hE, hM, sF_eq, (by omega)⟩
abbrev md_m_valued : Nat → Nat → Bool := mdf []
set_option maxHeartbeats 4000000 in
set_option maxRecDepth 100000 in
theorem m_valued (l : Launch) (D : va_G) (cI cZ cS cR : ClassId) (N0 : NT) (g : GS) (hI : Inv g) (h : Nat) (n : Int32) (k : Int32) (r_h : g.1 h = 8) (l_n : 0 ≤ n.toInt) (u_n : n.toInt ≤ 47) (l_k : 0 ≤ k.toInt) (u_k : k.toInt ≤ 6) : Ty l D cI cZ cS cR N0 yX7_valued cX7_valued 4 (some .int) 0 0 0 [.ref h, .int n, .int k] g (fun v g' => ∃ (r : Int32), v = some (.int r) ∧ g' = g ∧ (0 ≤ r.toInt ∧ r.toInt ≤ 999)) := by
  refine t_enter (by decide) (Nat.le_of_ble_eq_true rfl) ?_
  intro p e s m args below meth c ls H locs hB hr hin hl hT
  have hx := hB.1
  have hb := hB.2.1
  have hl : lv_has ls 4 [(0, .ref h), (1, .int n), (2, .int k)] := hl
  have hE : Ex g g := Ex.rf
  have hM : Sm md_m_valued g g := Sm.rf
  refine lv_aload_n hx hb dX7_valued_0 rfl (lv_at hl 0 rfl) ?_
  obtain ⟨v_1, e_v_1, r_v_1, n_v_1⟩ := f_8_4 hI r_h
  refine t_get (ci := 7) (v := .ref v_1) hB hT (ro_ci r_h rfl) rfl 4 (by decide) k_749 e_v_1 dX7_valued_1 ?_
  refine lv_iload_n hx hb dX7_valued_4 rfl (lv_at hl 1 rfl) ?_
  have i_u_2 : vp_in n 48 := (i_in (n := 48) rfl (by omega) (by omega))
  refine t_iald hB hT (ro_in r_v_1 (by decide)) n_v_1 i_u_2 rfl dX7_valued_5 ?_
  have c_u_2 := hI.c r_v_1 n_v_1 (i_cl i_u_2)
  refine lv_topi (fun u_2 e_u_2 => ?_)
  obtain ⟨l_u_2, u_u_2⟩ := c_u_2
  rw [← e_u_2] at l_u_2 u_u_2
  refine lv_istore_n (lv' := [(3, .int u_2), (0, .ref h), (1, .int n), (2, .int k)]) hx hb dX7_valued_6 rfl hl (by decide) rfl (fun ls hl => ?_)
  refine lv_iload_n hx hb dX7_valued_7 rfl (lv_at hl 0 rfl) ?_
  refine lv_sipush (v := 1000) hx hb dX7_valued_8 (by decide) ?_
  refine lv_icmp_ne (tgt := 23) hx hb dX7_valued_11 (by decide) (fun c_3 => ?_) (fun c_3 => ?_)
  · have c_3' : u_2.toInt ≠ 1000 := i_ne c_3 rfl (by decide)
    refine lv_iload_n hx hb dX7_valued_23 rfl (lv_at hl 0 rfl) ?_
    refine lv_sipush (v := 1001) hx hb dX7_valued_24 (by decide) ?_
    refine lv_icmp_ne (tgt := 52) hx hb dX7_valued_27 (by decide) (fun c_4 => ?_) (fun c_4 => ?_)
    · have c_4' : u_2.toInt ≠ 1001 := i_ne c_4 rfl (by decide)
      refine lv_iload_n hx hb dX7_valued_52 rfl (lv_at hl 0 rfl) ?_
      exact t_iret hB hr hT (Nat.le_of_ble_eq_true rfl) (Nat.le_of_ble_eq_true rfl) dX7_valued_53 ⟨u_2, rfl, rfl, ⟨by omega, by omega⟩⟩
    · have c_4' : u_2.toInt = 1001 := i_eq c_4 rfl (by decide)
      refine lv_aload_n hx hb dX7_valued_30 rfl (lv_at hl 1 rfl) ?_
      obtain ⟨v_5, e_v_5, r_v_5, n_v_5⟩ := f_8_47 hI r_h
      refine t_get (ci := 7) (v := .ref v_5) hB hT (ro_ci r_h rfl) rfl 47 (by decide) k_792 e_v_5 dX7_valued_31 ?_
      refine lv_iload_n hx hb dX7_valued_34 rfl (lv_at hl 3 rfl) ?_
      have i_u_6 : vp_in k 7 := (i_in (n := 7) rfl (by omega) (by omega))
      refine t_iald hB hT (ro_in r_v_5 (by decide)) n_v_5 i_u_6 rfl dX7_valued_35 ?_
      have c_u_6 := hI.c r_v_5 n_v_5 (i_cl i_u_6)
      refine lv_topi (fun u_6 e_u_6 => ?_)
      obtain ⟨l_u_6, u_u_6⟩ := c_u_6
      rw [← e_u_6] at l_u_6 u_u_6
      refine lv_if_ge (tgt := 43) hx hb dX7_valued_36 (by decide) (fun c_7 => ?_) (fun c_7 => ?_)
      · have c_7' : 0 ≤ u_6.toInt := i_le c_7 (by decide) rfl
        refine lv_aload_n hx hb dX7_valued_43 rfl (lv_at hl 1 rfl) ?_
        refine t_get (ci := 7) (v := .ref v_5) hB hT (ro_ci r_h rfl) rfl 47 (by decide) k_792 e_v_5 dX7_valued_44 ?_
        refine lv_iload_n hx hb dX7_valued_47 rfl (lv_at hl 3 rfl) ?_
        have i_u_8 : vp_in k 7 := (i_in (n := 7) rfl (by omega) (by omega))
        refine t_iald (v := u_6) hB hT (ro_in r_v_5 (by decide)) n_v_5 i_u_8 e_u_6.symm dX7_valued_48 ?_
        refine lv_goto (tgt := 53) hx hb dX7_valued_49 (by decide) ?_
        exact t_iret hB hr hT (Nat.le_of_ble_eq_true rfl) (Nat.le_of_ble_eq_true rfl) dX7_valued_53 ⟨u_6, rfl, rfl, ⟨by omega, by omega⟩⟩
      · have c_7' : u_6.toInt < 0 := i_nle c_7 (by decide) rfl
        refine lv_iconst (v := 0) hx hb dX7_valued_39 (by decide) ?_
        refine lv_goto (tgt := 53) hx hb dX7_valued_40 (by decide) ?_
        exact t_iret hB hr hT (Nat.le_of_ble_eq_true rfl) (Nat.le_of_ble_eq_true rfl) dX7_valued_53 ⟨0, rfl, rfl, ⟨by decide, by decide⟩⟩
  · have c_3' : u_2.toInt = 1000 := i_eq c_3 rfl (by decide)
    refine lv_aload_n hx hb dX7_valued_14 rfl (lv_at hl 1 rfl) ?_
    obtain ⟨v_9, e_v_9, r_v_9, n_v_9⟩ := f_8_44 hI r_h
    refine t_get (ci := 7) (v := .ref v_9) hB hT (ro_ci r_h rfl) rfl 44 (by decide) k_789 e_v_9 dX7_valued_15 ?_
    refine lv_iload_n hx hb dX7_valued_18 rfl (lv_at hl 3 rfl) ?_
    have i_u_10 : vp_in k 7 := (i_in (n := 7) rfl (by omega) (by omega))
    refine t_iald hB hT (ro_in r_v_9 (by decide)) n_v_9 i_u_10 rfl dX7_valued_19 ?_
    have c_u_10 := hI.c r_v_9 n_v_9 (i_cl i_u_10)
    refine lv_topi (fun u_10 e_u_10 => ?_)
    obtain ⟨l_u_10, u_u_10⟩ := c_u_10
    rw [← e_u_10] at l_u_10 u_u_10
    refine lv_goto (tgt := 53) hx hb dX7_valued_20 (by decide) ?_
    exact t_iret hB hr hT (Nat.le_of_ble_eq_true rfl) (Nat.le_of_ble_eq_true rfl) dX7_valued_53 ⟨u_10, rfl, rfl, ⟨by omega, by omega⟩⟩
