theorem k_24 : Cond.selects RX7 yX7_must yX7_must ∈ tb := mt 24 (by decide +kernel) rfl
theorem k_25 : Cond.selects RX7 yX7_readsWorth yX7_readsWorth ∈ tb := mt 25 (by decide +kernel) rfl
theorem k_783 : Cond.fieldLink RX7 199 "TwiceOnceModel" "read" "I" ∈ tb := mt 783 (by decide +kernel) rfl
theorem k_784 : Cond.fieldLink RX7 98 "TwiceOnceModel" "newWord" "[I" ∈ tb := mt 784 (by decide +kernel) rfl
theorem k_785 : Cond.fieldLink RX7 101 "TwiceOnceModel" "newPlace" "[I" ∈ tb := mt 785 (by decide +kernel) rfl
theorem k_786 : Cond.fieldLink RX7 104 "TwiceOnceModel" "newWorth" "[I" ∈ tb := mt 786 (by decide +kernel) rfl
theorem k_787 : Cond.fieldLink RX7 107 "TwiceOnceModel" "words" "[I" ∈ tb := mt 787 (by decide +kernel) rfl
theorem k_972 : Cond.methodLink RX7 191 yX7_must ∈ tb := mt 972 (by decide +kernel) rfl
theorem k_974 : Cond.instanceMethod yX7_must ∈ tb := mt 974 (by decide +kernel) rfl
set_option maxRecDepth 20000 in
theorem k_975 : Cond.code yX7_must cX7_must 2 none ∈ tb := mt 975 rfl rfl
theorem k_976 : Cond.methodLink RX7 195 yX7_readsWorth ∈ tb := mt 976 (by decide +kernel) rfl
theorem k_978 : Cond.instanceMethod yX7_readsWorth ∈ tb := mt 978 (by decide +kernel) rfl
set_option maxRecDepth 20000 in
theorem k_979 : Cond.code yX7_readsWorth cX7_readsWorth 4 (some .int) ∈ tb := mt 979 rfl rfl
theorem dX7_readsAct_265 : decode cX7_readsAct 265 = .ok (.aload_n 0, 1) := by decide +kernel
theorem dX7_readsAct_266 : decode cX7_readsAct 266 = .ok (.getfield 98, 3) := by decide +kernel
theorem dX7_readsAct_269 : decode cX7_readsAct 269 = .ok (.aload_n 0, 1) := by decide +kernel
theorem dX7_readsAct_270 : decode cX7_readsAct 270 = .ok (.getfield 199, 3) := by decide +kernel
theorem dX7_readsAct_273 : decode cX7_readsAct 273 = .ok (.iload_n 1, 1) := by decide +kernel
theorem dX7_readsAct_274 : decode cX7_readsAct 274 = .ok (.iastore, 1) := by decide +kernel
theorem dX7_readsAct_275 : decode cX7_readsAct 275 = .ok (.aload_n 0, 1) := by decide +kernel
theorem dX7_readsAct_276 : decode cX7_readsAct 276 = .ok (.getfield 101, 3) := by decide +kernel
theorem dX7_readsAct_279 : decode cX7_readsAct 279 = .ok (.aload_n 0, 1) := by decide +kernel
theorem dX7_readsAct_280 : decode cX7_readsAct 280 = .ok (.getfield 199, 3) := by decide +kernel
theorem dX7_readsAct_283 : decode cX7_readsAct 283 = .ok (.iload_n 2, 1) := by decide +kernel
theorem dX7_readsAct_284 : decode cX7_readsAct 284 = .ok (.iastore, 1) := by decide +kernel
theorem dX7_readsAct_285 : decode cX7_readsAct 285 = .ok (.aload_n 0, 1) := by decide +kernel
theorem dX7_readsAct_286 : decode cX7_readsAct 286 = .ok (.getfield 104, 3) := by decide +kernel
theorem dX7_readsAct_289 : decode cX7_readsAct 289 = .ok (.aload_n 0, 1) := by decide +kernel
theorem dX7_readsAct_290 : decode cX7_readsAct 290 = .ok (.getfield 199, 3) := by decide +kernel
theorem dX7_readsAct_293 : decode cX7_readsAct 293 = .ok (.iload_n 3, 1) := by decide +kernel
theorem dX7_readsAct_294 : decode cX7_readsAct 294 = .ok (.iastore, 1) := by decide +kernel
theorem dX7_readsAct_295 : decode cX7_readsAct 295 = .ok (.aload_n 0, 1) := by decide +kernel
theorem dX7_readsAct_296 : decode cX7_readsAct 296 = .ok (.dup, 1) := by decide +kernel
theorem dX7_readsAct_297 : decode cX7_readsAct 297 = .ok (.getfield 199, 3) := by decide +kernel
theorem dX7_readsAct_300 : decode cX7_readsAct 300 = .ok (.iconst 1, 1) := by decide +kernel
theorem dX7_readsAct_301 : decode cX7_readsAct 301 = .ok (.iadd, 1) := by decide +kernel
theorem dX7_readsAct_302 : decode cX7_readsAct 302 = .ok (.putfield 199, 3) := by decide +kernel
theorem dX7_readsAct_305 : decode cX7_readsAct 305 = .ok (.return_, 1) := by decide +kernel
theorem dX7_readsAct_236 : decode cX7_readsAct 236 = .ok (.iconst 0, 1) := by decide +kernel
theorem dX7_readsAct_237 : decode cX7_readsAct 237 = .ok (.istore_n 3, 1) := by decide +kernel
theorem dX7_readsAct_238 : decode cX7_readsAct 238 = .ok (.iload_n 1, 1) := by decide +kernel
theorem dX7_readsAct_239 : decode cX7_readsAct 239 = .ok (.iconst 3, 1) := by decide +kernel
theorem dX7_readsAct_240 : decode cX7_readsAct 240 = .ok (.if_icmp .eq 25, 3) := by decide +kernel
theorem dX7_readsAct_243 : decode cX7_readsAct 243 = .ok (.iload_n 1, 1) := by decide +kernel
theorem dX7_readsAct_244 : decode cX7_readsAct 244 = .ok (.iconst 4, 1) := by decide +kernel
theorem dX7_readsAct_245 : decode cX7_readsAct 245 = .ok (.if_icmp .eq 20, 3) := by decide +kernel
theorem dX7_readsAct_248 : decode cX7_readsAct 248 = .ok (.iload_n 1, 1) := by decide +kernel
theorem dX7_readsAct_249 : decode cX7_readsAct 249 = .ok (.bipush 6, 2) := by decide +kernel
theorem dX7_readsAct_251 : decode cX7_readsAct 251 = .ok (.if_icmp .eq 9, 3) := by decide +kernel
theorem dX7_readsAct_260 : decode cX7_readsAct 260 = .ok (.aload_n 0, 1) := by decide +kernel
theorem dX7_readsAct_261 : decode cX7_readsAct 261 = .ok (.invokevirtual 195, 3) := by decide +kernel
theorem dX7_readsAct_264 : decode cX7_readsAct 264 = .ok (.istore_n 3, 1) := by decide +kernel
theorem dX7_readsAct_254 : decode cX7_readsAct 254 = .ok (.aload_n 0, 1) := by decide +kernel
theorem dX7_readsAct_255 : decode cX7_readsAct 255 = .ok (.bipush 32, 2) := by decide +kernel
theorem dX7_readsAct_257 : decode cX7_readsAct 257 = .ok (.invokevirtual 191, 3) := by decide +kernel
theorem dX7_readsAct_140 : decode cX7_readsAct 140 = .ok (.iconst 0, 1) := by decide +kernel
theorem dX7_readsAct_141 : decode cX7_readsAct 141 = .ok (.istore_n 2, 1) := by decide +kernel
theorem dX7_readsAct_142 : decode cX7_readsAct 142 = .ok (.iload_n 1, 1) := by decide +kernel
theorem dX7_readsAct_143 : decode cX7_readsAct 143 = .ok (.bipush 6, 2) := by decide +kernel
theorem dX7_readsAct_145 : decode cX7_readsAct 145 = .ok (.if_icmp .eq 91, 3) := by decide +kernel
theorem dX7_readsAct_148 : decode cX7_readsAct 148 = .ok (.aload_n 0, 1) := by decide +kernel
theorem dX7_readsAct_149 : decode cX7_readsAct 149 = .ok (.aload_n 0, 1) := by decide +kernel
theorem dX7_readsAct_150 : decode cX7_readsAct 150 = .ok (.getfield 180, 3) := by decide +kernel
theorem dX7_readsAct_153 : decode cX7_readsAct 153 = .ok (.ifCond .ne 31, 3) := by decide +kernel
theorem dX7_readsAct_156 : decode cX7_readsAct 156 = .ok (.aload_n 0, 1) := by decide +kernel
theorem dX7_readsAct_157 : decode cX7_readsAct 157 = .ok (.aload_n 0, 1) := by decide +kernel
theorem dX7_readsAct_158 : decode cX7_readsAct 158 = .ok (.getfield 184, 3) := by decide +kernel
theorem dX7_readsAct_161 : decode cX7_readsAct 161 = .ok (.invokevirtual 187, 3) := by decide +kernel
theorem dX7_readsAct_164 : decode cX7_readsAct 164 = .ok (.bipush 48, 2) := by decide +kernel
theorem dX7_readsAct_166 : decode cX7_readsAct 166 = .ok (.iload_n 1, 1) := by decide +kernel
theorem dX7_readsAct_167 : decode cX7_readsAct 167 = .ok (.iconst 5, 1) := by decide +kernel
theorem dX7_readsAct_168 : decode cX7_readsAct 168 = .ok (.if_icmp .ne 8, 3) := by decide +kernel
theorem dX7_readsAct_176 : decode cX7_readsAct 176 = .ok (.bipush 51, 2) := by decide +kernel
theorem dX7_readsAct_178 : decode cX7_readsAct 178 = .ok (.invokestatic 171, 3) := by decide +kernel
theorem dX7_readsAct_181 : decode cX7_readsAct 181 = .ok (.ifCond .ne 7, 3) := by decide +kernel
theorem dX7_readsAct_188 : decode cX7_readsAct 188 = .ok (.iconst 0, 1) := by decide +kernel
theorem dX7_readsAct_189 : decode cX7_readsAct 189 = .ok (.putfield 180, 3) := by decide +kernel
theorem dX7_readsAct_192 : decode cX7_readsAct 192 = .ok (.aload_n 0, 1) := by decide +kernel
theorem dX7_readsAct_193 : decode cX7_readsAct 193 = .ok (.getfield 180, 3) := by decide +kernel
theorem dX7_readsAct_196 : decode cX7_readsAct 196 = .ok (.ifCond .eq 7, 3) := by decide +kernel
theorem dX7_readsAct_203 : decode cX7_readsAct 203 = .ok (.aload_n 0, 1) := by decide +kernel
theorem dX7_readsAct_204 : decode cX7_readsAct 204 = .ok (.aload_n 0, 1) := by decide +kernel
theorem dX7_readsAct_205 : decode cX7_readsAct 205 = .ok (.getfield 184, 3) := by decide +kernel
theorem dX7_readsAct_208 : decode cX7_readsAct 208 = .ok (.invokevirtual 187, 3) := by decide +kernel
theorem dX7_readsAct_211 : decode cX7_readsAct 211 = .ok (.bipush 48, 2) := by decide +kernel
theorem dX7_readsAct_213 : decode cX7_readsAct 213 = .ok (.isub, 1) := by decide +kernel
theorem dX7_readsAct_214 : decode cX7_readsAct 214 = .ok (.istore_n 2, 1) := by decide +kernel
theorem dX7_readsAct_215 : decode cX7_readsAct 215 = .ok (.aload_n 0, 1) := by decide +kernel
theorem dX7_readsAct_216 : decode cX7_readsAct 216 = .ok (.dup, 1) := by decide +kernel
theorem dX7_readsAct_217 : decode cX7_readsAct 217 = .ok (.getfield 184, 3) := by decide +kernel
theorem dX7_readsAct_220 : decode cX7_readsAct 220 = .ok (.aload_n 0, 1) := by decide +kernel
theorem dX7_readsAct_221 : decode cX7_readsAct 221 = .ok (.getfield 180, 3) := by decide +kernel
theorem dX7_readsAct_224 : decode cX7_readsAct 224 = .ok (.ifCond .eq 7, 3) := by decide +kernel
theorem dX7_readsAct_231 : decode cX7_readsAct 231 = .ok (.iconst 1, 1) := by decide +kernel
theorem dX7_readsAct_232 : decode cX7_readsAct 232 = .ok (.iadd, 1) := by decide +kernel
theorem dX7_readsAct_233 : decode cX7_readsAct 233 = .ok (.putfield 184, 3) := by decide +kernel
theorem dX7_readsAct_184 : decode cX7_readsAct 184 = .ok (.iconst 1, 1) := by decide +kernel
theorem dX7_readsAct_185 : decode cX7_readsAct 185 = .ok (.goto 4, 3) := by decide +kernel
theorem dX7_readsAct_199 : decode cX7_readsAct 199 = .ok (.iconst 0, 1) := by decide +kernel
theorem dX7_readsAct_200 : decode cX7_readsAct 200 = .ok (.goto 14, 3) := by decide +kernel
theorem dX7_readsAct_227 : decode cX7_readsAct 227 = .ok (.iconst 0, 1) := by decide +kernel
theorem dX7_readsAct_228 : decode cX7_readsAct 228 = .ok (.goto 4, 3) := by decide +kernel
theorem dX7_readsAct_171 : decode cX7_readsAct 171 = .ok (.bipush 53, 2) := by decide +kernel
theorem dX7_readsAct_173 : decode cX7_readsAct 173 = .ok (.goto 5, 3) := by decide +kernel
theorem dX7_readsAct_34 : decode cX7_readsAct 34 = .ok (.iload_n 1, 1) := by decide +kernel
theorem dX7_readsAct_35 : decode cX7_readsAct 35 = .ok (.bipush 8, 2) := by decide +kernel
theorem dX7_readsAct_37 : decode cX7_readsAct 37 = .ok (.if_icmp .ge 28, 3) := by decide +kernel
theorem dX7_readsAct_65 : decode cX7_readsAct 65 = .ok (.aload_n 0, 1) := by decide +kernel
theorem dX7_readsAct_66 : decode cX7_readsAct 66 = .ok (.aload_n 0, 1) := by decide +kernel
theorem dX7_readsAct_67 : decode cX7_readsAct 67 = .ok (.getfield 180, 3) := by decide +kernel
theorem dX7_readsAct_70 : decode cX7_readsAct 70 = .ok (.ifCond .ne 9, 3) := by decide +kernel
theorem dX7_readsAct_73 : decode cX7_readsAct 73 = .ok (.iload_n 1, 1) := by decide +kernel
theorem dX7_readsAct_74 : decode cX7_readsAct 74 = .ok (.bipush 8, 2) := by decide +kernel
theorem dX7_readsAct_76 : decode cX7_readsAct 76 = .ok (.if_icmp .ne 7, 3) := by decide +kernel
theorem dX7_readsAct_79 : decode cX7_readsAct 79 = .ok (.iconst 1, 1) := by decide +kernel
theorem dX7_readsAct_80 : decode cX7_readsAct 80 = .ok (.goto 4, 3) := by decide +kernel
theorem dX7_readsAct_84 : decode cX7_readsAct 84 = .ok (.putfield 180, 3) := by decide +kernel
theorem dX7_readsAct_87 : decode cX7_readsAct 87 = .ok (.iconst 0, 1) := by decide +kernel
theorem dX7_readsAct_88 : decode cX7_readsAct 88 = .ok (.istore_n 2, 1) := by decide +kernel
theorem dX7_readsAct_89 : decode cX7_readsAct 89 = .ok (.iload_n 2, 1) := by decide +kernel
theorem dX7_readsAct_90 : decode cX7_readsAct 90 = .ok (.iconst 3, 1) := by decide +kernel
theorem dX7_readsAct_91 : decode cX7_readsAct 91 = .ok (.if_icmp .ge 43, 3) := by decide +kernel
theorem dX7_readsAct_94 : decode cX7_readsAct 94 = .ok (.aload_n 0, 1) := by decide +kernel
theorem dX7_readsAct_95 : decode cX7_readsAct 95 = .ok (.getfield 180, 3) := by decide +kernel
theorem dX7_readsAct_98 : decode cX7_readsAct 98 = .ok (.ifCond .ne 36, 3) := by decide +kernel
theorem dX7_readsAct_134 : decode cX7_readsAct 134 = .ok (.aload_n 0, 1) := by decide +kernel
theorem dX7_readsAct_135 : decode cX7_readsAct 135 = .ok (.bipush 32, 2) := by decide +kernel
theorem dX7_readsAct_137 : decode cX7_readsAct 137 = .ok (.invokevirtual 191, 3) := by decide +kernel
theorem dX7_readsAct_40 : decode cX7_readsAct 40 = .ok (.aload_n 0, 1) := by decide +kernel
theorem dX7_readsAct_41 : decode cX7_readsAct 41 = .ok (.aload_n 0, 1) := by decide +kernel
theorem dX7_readsAct_42 : decode cX7_readsAct 42 = .ok (.getfield 184, 3) := by decide +kernel
theorem dX7_readsAct_45 : decode cX7_readsAct 45 = .ok (.invokevirtual 187, 3) := by decide +kernel
theorem dX7_readsAct_48 : decode cX7_readsAct 48 = .ok (.aload_n 0, 1) := by decide +kernel
theorem dX7_readsAct_49 : decode cX7_readsAct 49 = .ok (.getfield 107, 3) := by decide +kernel
theorem dX7_readsAct_52 : decode cX7_readsAct 52 = .ok (.iconst 3, 1) := by decide +kernel
theorem dX7_readsAct_53 : decode cX7_readsAct 53 = .ok (.iload_n 1, 1) := by decide +kernel
theorem dX7_readsAct_54 : decode cX7_readsAct 54 = .ok (.imul, 1) := by decide +kernel
theorem dX7_readsAct_55 : decode cX7_readsAct 55 = .ok (.iaload, 1) := by decide +kernel
theorem dX7_readsAct_56 : decode cX7_readsAct 56 = .ok (.if_icmp .eq 9, 3) := by decide +kernel
theorem dX7_readsAct_83 : decode cX7_readsAct 83 = .ok (.iconst 0, 1) := by decide +kernel
theorem dX7_readsAct_101 : decode cX7_readsAct 101 = .ok (.aload_n 0, 1) := by decide +kernel
theorem dX7_readsAct_102 : decode cX7_readsAct 102 = .ok (.getfield 107, 3) := by decide +kernel
theorem dX7_readsAct_105 : decode cX7_readsAct 105 = .ok (.iconst 3, 1) := by decide +kernel
theorem dX7_readsAct_106 : decode cX7_readsAct 106 = .ok (.iload_n 1, 1) := by decide +kernel
theorem dX7_readsAct_107 : decode cX7_readsAct 107 = .ok (.imul, 1) := by decide +kernel
theorem dX7_readsAct_108 : decode cX7_readsAct 108 = .ok (.iload_n 2, 1) := by decide +kernel
theorem dX7_readsAct_109 : decode cX7_readsAct 109 = .ok (.iadd, 1) := by decide +kernel
theorem dX7_readsAct_110 : decode cX7_readsAct 110 = .ok (.iaload, 1) := by decide +kernel
theorem dX7_readsAct_111 : decode cX7_readsAct 111 = .ok (.ifCond .eq 17, 3) := by decide +kernel
theorem dX7_readsAct_114 : decode cX7_readsAct 114 = .ok (.aload_n 0, 1) := by decide +kernel
theorem dX7_readsAct_115 : decode cX7_readsAct 115 = .ok (.aload_n 0, 1) := by decide +kernel
theorem dX7_readsAct_116 : decode cX7_readsAct 116 = .ok (.getfield 107, 3) := by decide +kernel
theorem dX7_readsAct_119 : decode cX7_readsAct 119 = .ok (.iconst 3, 1) := by decide +kernel
theorem dX7_readsAct_120 : decode cX7_readsAct 120 = .ok (.iload_n 1, 1) := by decide +kernel
theorem dX7_readsAct_121 : decode cX7_readsAct 121 = .ok (.imul, 1) := by decide +kernel
theorem dX7_readsAct_122 : decode cX7_readsAct 122 = .ok (.iload_n 2, 1) := by decide +kernel
theorem dX7_readsAct_123 : decode cX7_readsAct 123 = .ok (.iadd, 1) := by decide +kernel
theorem dX7_readsAct_124 : decode cX7_readsAct 124 = .ok (.iaload, 1) := by decide +kernel
theorem dX7_readsAct_125 : decode cX7_readsAct 125 = .ok (.invokevirtual 191, 3) := by decide +kernel
theorem dX7_readsAct_128 : decode cX7_readsAct 128 = .ok (.iinc 2 1, 3) := by decide +kernel
theorem dX7_readsAct_131 : decode cX7_readsAct 131 = .ok (.goto (-42), 3) := by decide +kernel
theorem dX7_readsAct_59 : decode cX7_readsAct 59 = .ok (.iinc 1 1, 3) := by decide +kernel
theorem dX7_readsAct_62 : decode cX7_readsAct 62 = .ok (.goto (-28), 3) := by decide +kernel
theorem dX7_readsAct_0 : decode cX7_readsAct 0 = .ok (.aload_n 0, 1) := by decide +kernel
theorem dX7_readsAct_1 : decode cX7_readsAct 1 = .ok (.aload_n 0, 1) := by decide +kernel
theorem dX7_readsAct_2 : decode cX7_readsAct 2 = .ok (.getfield 184, 3) := by decide +kernel
theorem dX7_readsAct_5 : decode cX7_readsAct 5 = .ok (.invokevirtual 187, 3) := by decide +kernel
theorem dX7_readsAct_8 : decode cX7_readsAct 8 = .ok (.bipush 97, 2) := by decide +kernel
theorem dX7_readsAct_10 : decode cX7_readsAct 10 = .ok (.if_icmp .ne 22, 3) := by decide +kernel
theorem dX7_readsAct_32 : decode cX7_readsAct 32 = .ok (.iconst 0, 1) := by decide +kernel
theorem dX7_readsAct_33 : decode cX7_readsAct 33 = .ok (.istore_n 1, 1) := by decide +kernel
theorem dX7_readsAct_13 : decode cX7_readsAct 13 = .ok (.aload_n 0, 1) := by decide +kernel
theorem dX7_readsAct_14 : decode cX7_readsAct 14 = .ok (.aload_n 0, 1) := by decide +kernel
theorem dX7_readsAct_15 : decode cX7_readsAct 15 = .ok (.getfield 184, 3) := by decide +kernel
theorem dX7_readsAct_18 : decode cX7_readsAct 18 = .ok (.iconst 1, 1) := by decide +kernel
theorem dX7_readsAct_19 : decode cX7_readsAct 19 = .ok (.iadd, 1) := by decide +kernel
theorem dX7_readsAct_20 : decode cX7_readsAct 20 = .ok (.invokevirtual 187, 3) := by decide +kernel
theorem dX7_readsAct_23 : decode cX7_readsAct 23 = .ok (.bipush 115, 2) := by decide +kernel
theorem dX7_readsAct_25 : decode cX7_readsAct 25 = .ok (.if_icmp .ne 7, 3) := by decide +kernel
theorem dX7_readsAct_28 : decode cX7_readsAct 28 = .ok (.iconst 5, 1) := by decide +kernel
theorem dX7_readsAct_29 : decode cX7_readsAct 29 = .ok (.goto 4, 3) := by decide +kernel
abbrev md_m_readsAct : Nat → Nat → Bool := mdf [(8, 36), (8, 37), (8, 38), (84, 99), (85, 99), (86, 99)]
theorem mdle_m_readsAct_m_must {r k : Nat} (h : md_m_readsAct r k = false) : md_m_must r k = false := mdf_le (by decide +kernel) h
theorem mdle_m_readsAct_m_readsWorth {r k : Nat} (h : md_m_readsAct r k = false) : md_m_readsWorth r k = false := mdf_le (by decide +kernel) h
set_option maxHeartbeats 4000000 in
set_option maxRecDepth 100000 in
theorem lt_m_readsAct_e0 (l : Launch) (D : va_G) (cI cZ cS cR : ClassId) (N0 : NT) (g : GS) (h : Nat) (s0 : Int32) (rz : Int32) (wt : Nat) (na : Nat) (pa : Nat) (z : Int32) (t : Nat) (ct : Nat → Int32) (r_h : g.1 h = 8) (r_na : g.1 na = 84) (n_na : g.2.2.1 na = 8) (r_pa : g.1 pa = 85) (n_pa : g.2.2.1 pa = 8) (r_wt : g.1 wt = 87) (n_wt : g.2.2.1 wt = 24) (r_t : g.1 t = 79) (n_t : g.2.2.1 t = 100) (krz : g.2.1 h 38 = .int rz) (ks0 : g.2.1 h 36 = .int s0) (kw0 : g.2.1 h 37 = .int 0) (kwt : g.2.1 h 42 = .ref wt) (kna : g.2.1 h 39 = .ref na) (kpa : g.2.1 h 40 = .ref pa) (kz : g.2.1 h 29 = .int z) (kt : g.2.1 h 28 = .ref t) (l_rz : 0 ≤ rz.toInt) (u_rz : rz.toInt ≤ 7) (l_s0 : 0 ≤ s0.toInt) (u_s0 : s0.toInt ≤ 100) (hN_0 : PL 8 g na pa) (hWT_0 : WT g wt) (l_z : 0 ≤ z.toInt) (u_z : z.toInt ≤ 100) (hc_0 : g.2.2.2.1 t = ct) {p : Program} {e : Env} {s : State} {m : MethodId} {args : Array Value} {below : List Frame} {meth : Method} {c : Code} (hB : Tz p s m meth c args cX7_readsAct 4 RX7 D cI cZ cS cR N0) (hr : meth.sig.returnType = none)    : ∀ (g1 : GS) (w : Int32) (cc : Int32) (v : Int32) (sp : Int32)  (H : Heap) (locs : List Loc) (ls : Array Slot), Tv D cI cZ cS cR N0 s.heap H locs g1 → Inv g1 → Ex g g1 → Sm md_m_readsAct g g1 → 0 ≤ w.toInt → w.toInt ≤ 8 → 0 ≤ cc.toInt → cc.toInt ≤ 5 → 0 ≤ v.toInt → v.toInt ≤ 1001 → 0 ≤ sp.toInt → sp.toInt ≤ 100 → g1.2.1 h 38 = .int rz → g1.2.1 h 36 = .int sp → g1.2.1 h 37 = .int 0 → (PL 8 g1 na pa) → (g1.2.2.2.1 t = ct) → (WT g1 wt) → (cc.toInt ≤ 3 ∨ w.toInt = 5) → (ac (txb ct z.toInt) s0.toInt = (true, sp.toInt) ∧ sp.toInt ≤ z.toInt) → lv_has ls 4 [(1, .int w), (2, .int cc), (3, .int v), (0, .ref h)] → W p l e (rmx 2 0 0) s m args below meth c H locs 0 0 (MQ below (tQ D cI cZ cS cR N0 (fun v g' => ∃ (z2 : Int32) (s2 : Int32) (w2 : Int32), v = none ∧ Inv g' ∧ Ex g g' ∧ Sm md_m_readsAct g g' ∧ ((w2 = 1 ∧ ac (txb ct z.toInt) s0.toInt = (false, s2.toInt)) ∨ (w2 = 0 ∧ ac (txb ct z.toInt) s0.toInt = (true, s2.toInt) ∧ s2.toInt ≤ z.toInt)) ∧ (g'.2.1 h 38 = .int z2) ∧ (z2.toInt = rz.toInt + 1) ∧ (PL 8 g' na pa) ∧ (g'.2.1 h 36 = .int s2) ∧ (g'.2.1 h 37 = .int w2) ∧ (0 ≤ s2.toInt ∧ s2.toInt ≤ 100))) args s 0 0 (fun q => N0.1 ≤ q)) (F0 m 265 ls []) := by
  have hx := hB.1
  have hb := hB.2.1
  intro g1 w cc v sp H locs ls hT hI hE hM l_w u_w l_cc u_cc l_v u_v l_sp u_sp kp0 kp1 kp2 hN hc hWT hcw hac hl
  have r_1 : g1.1 h = 8 := Ex.r hE r_h (by decide)
  have r_2 : g1.1 na = 84 := Ex.r hE r_na (by decide)
  have n_3 : g1.2.2.1 na = 8 := Ex.n hE r_na (by decide) n_na
  have r_4 : g1.1 pa = 85 := Ex.r hE r_pa (by decide)
  have n_5 : g1.2.2.1 pa = 8 := Ex.n hE r_pa (by decide) n_pa
  have r_6 : g1.1 wt = 87 := Ex.r hE r_wt (by decide)
  have n_7 : g1.2.2.1 wt = 24 := Ex.n hE r_wt (by decide) n_wt
  have r_8 : g1.1 t = 79 := Ex.r hE r_t (by decide)
  have n_9 : g1.2.2.1 t = 100 := Ex.n hE r_t (by decide) n_t
  have kn_10 : g1.2.1 h 42 = .ref wt := Sm.v hM r_h (by decide) rfl kwt
  have kn_11 : g1.2.1 h 39 = .ref na := Sm.v hM r_h (by decide) rfl kna
  have kn_12 : g1.2.1 h 40 = .ref pa := Sm.v hM r_h (by decide) rfl kpa
  have kn_13 : g1.2.1 h 29 = .int z := Sm.v hM r_h (by decide) rfl kz
  have kn_14 : g1.2.1 h 28 = .ref t := Sm.v hM r_h (by decide) rfl kt
  refine lv_aload_n hx hb dX7_readsAct_265 rfl (lv_at hl 3 rfl) ?_
  refine t_get (ci := 7) (v := .ref na) hB hT (ro_ci r_1 rfl) rfl 39 (by decide) k_784 kn_11 dX7_readsAct_266 ?_
  refine lv_aload_n hx hb dX7_readsAct_269 rfl (lv_at hl 3 rfl) ?_
  refine t_get (ci := 7) (v := .int rz) hB hT (ro_ci r_1 rfl) rfl 38 (by decide) k_783 kp0 dX7_readsAct_270 ?_
  refine lv_iload_n hx hb dX7_readsAct_273 rfl (lv_at hl 0 rfl) ?_
  have i_15 : vp_in rz 8 := (i_in (n := 8) rfl (by omega) (by omega))
  refine t_iast hB hT (ro_in r_2 (by decide)) n_3 i_15 dX7_readsAct_274 (fun H locs hT => ?_)
  have hI : Inv (sC g1 na rz.toNatClampNeg w) := hI.sC (ck r_2 trivial)
  have hM : Sm md_m_readsAct g (sC g1 na rz.toNatClampNeg w) := hM.tr hE (Sm_sC (by rw [r_2]; rfl))
  have hE : Ex g (sC g1 na rz.toNatClampNeg w) := hE
  have hc : (sC g1 na rz.toNatClampNeg w).2.2.2.1 t = ct := sC_f hc (ro_ne r_8 r_2 (by decide))
  have hWT : WT (sC g1 na rz.toNatClampNeg w) wt := hWT.tC (ro_ne r_6 r_2 (by decide))
  refine lv_aload_n hx hb dX7_readsAct_275 rfl (lv_at hl 3 rfl) ?_
  refine t_get (ci := 7) (v := .ref pa) hB hT (ro_ci r_1 rfl) rfl 40 (by decide) k_785 kn_12 dX7_readsAct_276 ?_
  refine lv_aload_n hx hb dX7_readsAct_279 rfl (lv_at hl 3 rfl) ?_
  refine t_get (ci := 7) (v := .int rz) hB hT (ro_ci r_1 rfl) rfl 38 (by decide) k_783 kp0 dX7_readsAct_280 ?_
  refine lv_iload_n hx hb dX7_readsAct_283 rfl (lv_at hl 1 rfl) ?_
  have i_16 : vp_in rz 8 := (i_in (n := 8) rfl (by omega) (by omega))
  refine t_iast hB hT (ro_in r_4 (by decide)) n_5 i_16 dX7_readsAct_284 (fun H locs hT => ?_)
  have hI : Inv (sC (sC g1 na rz.toNatClampNeg w) pa rz.toNatClampNeg cc) := hI.sC (ck r_4 ⟨by omega, by omega⟩)
  have hM : Sm md_m_readsAct g (sC (sC g1 na rz.toNatClampNeg w) pa rz.toNatClampNeg cc) := hM.tr hE (Sm_sC (by rw [r_4]; rfl))
  have hE : Ex g (sC (sC g1 na rz.toNatClampNeg w) pa rz.toNatClampNeg cc) := hE
  have hN : PL 8 (sC (sC g1 na rz.toNatClampNeg w) pa rz.toNatClampNeg cc) na pa := PL.st hN (ro_ne r_2 r_4 (by decide)) rfl hcw
  have hc : (sC (sC g1 na rz.toNatClampNeg w) pa rz.toNatClampNeg cc).2.2.2.1 t = ct := sC_f hc (ro_ne r_8 r_4 (by decide))
  have hWT : WT (sC (sC g1 na rz.toNatClampNeg w) pa rz.toNatClampNeg cc) wt := hWT.tC (ro_ne r_6 r_4 (by decide))
  refine lv_aload_n hx hb dX7_readsAct_285 rfl (lv_at hl 3 rfl) ?_
  obtain ⟨v_17, e_v_17, r_v_17, n_v_17⟩ := f_8_41 hI r_1
  refine t_get (ci := 7) (v := .ref v_17) hB hT (ro_ci r_1 rfl) rfl 41 (by decide) k_786 e_v_17 dX7_readsAct_286 ?_
  refine lv_aload_n hx hb dX7_readsAct_289 rfl (lv_at hl 3 rfl) ?_
  refine t_get (ci := 7) (v := .int rz) hB hT (ro_ci r_1 rfl) rfl 38 (by decide) k_783 kp0 dX7_readsAct_290 ?_
  refine lv_iload_n hx hb dX7_readsAct_293 rfl (lv_at hl 2 rfl) ?_
  have i_18 : vp_in rz 8 := (i_in (n := 8) rfl (by omega) (by omega))
  refine t_iast hB hT (ro_in r_v_17 (by decide)) n_v_17 i_18 dX7_readsAct_294 (fun H locs hT => ?_)
  have hI : Inv (sC (sC (sC g1 na rz.toNatClampNeg w) pa rz.toNatClampNeg cc) v_17 rz.toNatClampNeg v) := hI.sC (ck r_v_17 ⟨by omega, by omega⟩)
  have hM : Sm md_m_readsAct g (sC (sC (sC g1 na rz.toNatClampNeg w) pa rz.toNatClampNeg cc) v_17 rz.toNatClampNeg v) := hM.tr hE (Sm_sC (by rw [r_v_17]; rfl))
  have hE : Ex g (sC (sC (sC g1 na rz.toNatClampNeg w) pa rz.toNatClampNeg cc) v_17 rz.toNatClampNeg v) := hE
  have hN : PL 8 (sC (sC (sC g1 na rz.toNatClampNeg w) pa rz.toNatClampNeg cc) v_17 rz.toNatClampNeg v) na pa := hN.tC (ro_ne r_2 r_v_17 (by decide)) (ro_ne r_4 r_v_17 (by decide))
  have hc : (sC (sC (sC g1 na rz.toNatClampNeg w) pa rz.toNatClampNeg cc) v_17 rz.toNatClampNeg v).2.2.2.1 t = ct := sC_f hc (ro_ne r_8 r_v_17 (by decide))
  have hWT : WT (sC (sC (sC g1 na rz.toNatClampNeg w) pa rz.toNatClampNeg cc) v_17 rz.toNatClampNeg v) wt := hWT.tC (ro_ne r_6 r_v_17 (by decide))
  refine lv_aload_n hx hb dX7_readsAct_295 rfl (lv_at hl 3 rfl) ?_
  refine lv_dup hx hb dX7_readsAct_296 rfl ?_
  refine t_get (ci := 7) (v := .int rz) hB hT (ro_ci r_1 rfl) rfl 38 (by decide) k_783 kp0 dX7_readsAct_297 ?_
  refine lv_iconst (v := 1) hx hb dX7_readsAct_300 (by decide) ?_
  refine lv_iadd hx hb dX7_readsAct_301 ?_
  refine lv_topi (fun z_19 ez_19 => ?_)
  have e_z_19 : z_19.toInt = rz.toInt + 1 := i_add ez_19 rfl (by decide) (by omega) (by omega)
  refine t_put0 (ci := 7) (v := .int z_19) hB hT (ro_ci r_1 rfl) (ro_n0 r_1 (by decide)) rfl 38 (by decide) k_783 (Or.inl rfl) rfl rfl dX7_readsAct_302 (fun H locs hT => ?_)
  have hI : Inv (sF (sC (sC (sC g1 na rz.toNatClampNeg w) pa rz.toNatClampNeg cc) v_17 rz.toNatClampNeg v) h 38 (.int z_19)) := hI.sF (p_8_38 r_1 (⟨_, rfl, by omega, by omega⟩))
  have hM : Sm md_m_readsAct g (sF (sC (sC (sC g1 na rz.toNatClampNeg w) pa rz.toNatClampNeg cc) v_17 rz.toNatClampNeg v) h 38 (.int z_19)) := hM.tr hE (Sm_sF (by rw [r_1]; rfl))
  have hE : Ex g (sF (sC (sC (sC g1 na rz.toNatClampNeg w) pa rz.toNatClampNeg cc) v_17 rz.toNatClampNeg v) h 38 (.int z_19)) := hE
  have hN : PL 8 (sF (sC (sC (sC g1 na rz.toNatClampNeg w) pa rz.toNatClampNeg cc) v_17 rz.toNatClampNeg v) h 38 (.int z_19)) na pa := hN
  have hc : (sF (sC (sC (sC g1 na rz.toNatClampNeg w) pa rz.toNatClampNeg cc) v_17 rz.toNatClampNeg v) h 38 (.int z_19)).2.2.2.1 t = ct := hc
  have hWT : WT (sF (sC (sC (sC g1 na rz.toNatClampNeg w) pa rz.toNatClampNeg cc) v_17 rz.toNatClampNeg v) h 38 (.int z_19)) wt := hWT
  exact t_vret hB hr hT (Nat.le_of_ble_eq_true rfl) (Nat.le_of_ble_eq_true rfl) dX7_readsAct_305 ⟨z_19, sp, 0, rfl, hI, hE, hM, (Or.inr ⟨rfl, hac⟩), sF_eq, (by omega), hN, (sF_k kp1 (by decide)), (sF_k kp2 (by decide)), ⟨by omega, by omega⟩⟩
set_option maxHeartbeats 4000000 in
set_option maxRecDepth 100000 in
theorem lt_m_readsAct_e1 (l : Launch) (D : va_G) (cI cZ cS cR : ClassId) (N0 : NT) (g : GS) (h : Nat) (s0 : Int32) (rz : Int32) (wt : Nat) (na : Nat) (pa : Nat) (z : Int32) (t : Nat) (ct : Nat → Int32) (r_h : g.1 h = 8) (r_na : g.1 na = 84) (n_na : g.2.2.1 na = 8) (r_pa : g.1 pa = 85) (n_pa : g.2.2.1 pa = 8) (r_wt : g.1 wt = 87) (n_wt : g.2.2.1 wt = 24) (r_t : g.1 t = 79) (n_t : g.2.2.1 t = 100) (krz : g.2.1 h 38 = .int rz) (ks0 : g.2.1 h 36 = .int s0) (kw0 : g.2.1 h 37 = .int 0) (kwt : g.2.1 h 42 = .ref wt) (kna : g.2.1 h 39 = .ref na) (kpa : g.2.1 h 40 = .ref pa) (kz : g.2.1 h 29 = .int z) (kt : g.2.1 h 28 = .ref t) (l_rz : 0 ≤ rz.toInt) (u_rz : rz.toInt ≤ 7) (l_s0 : 0 ≤ s0.toInt) (u_s0 : s0.toInt ≤ 100) (hN_0 : PL 8 g na pa) (hWT_0 : WT g wt) (l_z : 0 ≤ z.toInt) (u_z : z.toInt ≤ 100) (hc_0 : g.2.2.2.1 t = ct) {p : Program} {e : Env} {s : State} {m : MethodId} {args : Array Value} {below : List Frame} {meth : Method} {c : Code} (hB : Tz p s m meth c args cX7_readsAct 4 RX7 D cI cZ cS cR N0) (hr : meth.sig.returnType = none)    : ∀ (g1 : GS) (w : Int32) (cc : Int32) (v : Int32) (sp : Int32)  (H : Heap) (locs : List Loc) (ls : Array Slot), Tv D cI cZ cS cR N0 s.heap H locs g1 → Inv g1 → Ex g g1 → Sm md_m_readsAct g g1 → 0 ≤ w.toInt → w.toInt ≤ 8 → 0 ≤ cc.toInt → cc.toInt ≤ 5 → 0 ≤ v.toInt → v.toInt ≤ 1001 → 0 ≤ sp.toInt → sp.toInt ≤ 100 → g1.2.1 h 38 = .int rz → g1.2.1 h 36 = .int sp → g1.2.1 h 37 = .int 1 → (PL 8 g1 na pa) → (g1.2.2.2.1 t = ct) → (WT g1 wt) → (cc.toInt ≤ 3 ∨ w.toInt = 5) → (ac (txb ct z.toInt) s0.toInt = (false, sp.toInt)) → lv_has ls 4 [(1, .int w), (2, .int cc), (3, .int v), (0, .ref h)] → W p l e (rmx 2 0 0) s m args below meth c H locs 0 0 (MQ below (tQ D cI cZ cS cR N0 (fun v g' => ∃ (z2 : Int32) (s2 : Int32) (w2 : Int32), v = none ∧ Inv g' ∧ Ex g g' ∧ Sm md_m_readsAct g g' ∧ ((w2 = 1 ∧ ac (txb ct z.toInt) s0.toInt = (false, s2.toInt)) ∨ (w2 = 0 ∧ ac (txb ct z.toInt) s0.toInt = (true, s2.toInt) ∧ s2.toInt ≤ z.toInt)) ∧ (g'.2.1 h 38 = .int z2) ∧ (z2.toInt = rz.toInt + 1) ∧ (PL 8 g' na pa) ∧ (g'.2.1 h 36 = .int s2) ∧ (g'.2.1 h 37 = .int w2) ∧ (0 ≤ s2.toInt ∧ s2.toInt ≤ 100))) args s 0 0 (fun q => N0.1 ≤ q)) (F0 m 265 ls []) := by
  have hx := hB.1
  have hb := hB.2.1
  intro g1 w cc v sp H locs ls hT hI hE hM l_w u_w l_cc u_cc l_v u_v l_sp u_sp kp0 kp1 kp2 hN hc hWT hcw hac hl
  have r_1 : g1.1 h = 8 := Ex.r hE r_h (by decide)
  have r_2 : g1.1 na = 84 := Ex.r hE r_na (by decide)
  have n_3 : g1.2.2.1 na = 8 := Ex.n hE r_na (by decide) n_na
  have r_4 : g1.1 pa = 85 := Ex.r hE r_pa (by decide)
  have n_5 : g1.2.2.1 pa = 8 := Ex.n hE r_pa (by decide) n_pa
  have r_6 : g1.1 wt = 87 := Ex.r hE r_wt (by decide)
  have n_7 : g1.2.2.1 wt = 24 := Ex.n hE r_wt (by decide) n_wt
  have r_8 : g1.1 t = 79 := Ex.r hE r_t (by decide)
  have n_9 : g1.2.2.1 t = 100 := Ex.n hE r_t (by decide) n_t
  have kn_10 : g1.2.1 h 42 = .ref wt := Sm.v hM r_h (by decide) rfl kwt
  have kn_11 : g1.2.1 h 39 = .ref na := Sm.v hM r_h (by decide) rfl kna
  have kn_12 : g1.2.1 h 40 = .ref pa := Sm.v hM r_h (by decide) rfl kpa
  have kn_13 : g1.2.1 h 29 = .int z := Sm.v hM r_h (by decide) rfl kz
  have kn_14 : g1.2.1 h 28 = .ref t := Sm.v hM r_h (by decide) rfl kt
  refine lv_aload_n hx hb dX7_readsAct_265 rfl (lv_at hl 3 rfl) ?_
  refine t_get (ci := 7) (v := .ref na) hB hT (ro_ci r_1 rfl) rfl 39 (by decide) k_784 kn_11 dX7_readsAct_266 ?_
  refine lv_aload_n hx hb dX7_readsAct_269 rfl (lv_at hl 3 rfl) ?_
  refine t_get (ci := 7) (v := .int rz) hB hT (ro_ci r_1 rfl) rfl 38 (by decide) k_783 kp0 dX7_readsAct_270 ?_
  refine lv_iload_n hx hb dX7_readsAct_273 rfl (lv_at hl 0 rfl) ?_
  have i_15 : vp_in rz 8 := (i_in (n := 8) rfl (by omega) (by omega))
  refine t_iast hB hT (ro_in r_2 (by decide)) n_3 i_15 dX7_readsAct_274 (fun H locs hT => ?_)
  have hI : Inv (sC g1 na rz.toNatClampNeg w) := hI.sC (ck r_2 trivial)
  have hM : Sm md_m_readsAct g (sC g1 na rz.toNatClampNeg w) := hM.tr hE (Sm_sC (by rw [r_2]; rfl))
  have hE : Ex g (sC g1 na rz.toNatClampNeg w) := hE
  have hc : (sC g1 na rz.toNatClampNeg w).2.2.2.1 t = ct := sC_f hc (ro_ne r_8 r_2 (by decide))
  have hWT : WT (sC g1 na rz.toNatClampNeg w) wt := hWT.tC (ro_ne r_6 r_2 (by decide))
  refine lv_aload_n hx hb dX7_readsAct_275 rfl (lv_at hl 3 rfl) ?_
  refine t_get (ci := 7) (v := .ref pa) hB hT (ro_ci r_1 rfl) rfl 40 (by decide) k_785 kn_12 dX7_readsAct_276 ?_
  refine lv_aload_n hx hb dX7_readsAct_279 rfl (lv_at hl 3 rfl) ?_
  refine t_get (ci := 7) (v := .int rz) hB hT (ro_ci r_1 rfl) rfl 38 (by decide) k_783 kp0 dX7_readsAct_280 ?_
  refine lv_iload_n hx hb dX7_readsAct_283 rfl (lv_at hl 1 rfl) ?_
  have i_16 : vp_in rz 8 := (i_in (n := 8) rfl (by omega) (by omega))
  refine t_iast hB hT (ro_in r_4 (by decide)) n_5 i_16 dX7_readsAct_284 (fun H locs hT => ?_)
  have hI : Inv (sC (sC g1 na rz.toNatClampNeg w) pa rz.toNatClampNeg cc) := hI.sC (ck r_4 ⟨by omega, by omega⟩)
  have hM : Sm md_m_readsAct g (sC (sC g1 na rz.toNatClampNeg w) pa rz.toNatClampNeg cc) := hM.tr hE (Sm_sC (by rw [r_4]; rfl))
  have hE : Ex g (sC (sC g1 na rz.toNatClampNeg w) pa rz.toNatClampNeg cc) := hE
  have hN : PL 8 (sC (sC g1 na rz.toNatClampNeg w) pa rz.toNatClampNeg cc) na pa := PL.st hN (ro_ne r_2 r_4 (by decide)) rfl hcw
  have hc : (sC (sC g1 na rz.toNatClampNeg w) pa rz.toNatClampNeg cc).2.2.2.1 t = ct := sC_f hc (ro_ne r_8 r_4 (by decide))
  have hWT : WT (sC (sC g1 na rz.toNatClampNeg w) pa rz.toNatClampNeg cc) wt := hWT.tC (ro_ne r_6 r_4 (by decide))
  refine lv_aload_n hx hb dX7_readsAct_285 rfl (lv_at hl 3 rfl) ?_
  obtain ⟨v_17, e_v_17, r_v_17, n_v_17⟩ := f_8_41 hI r_1
  refine t_get (ci := 7) (v := .ref v_17) hB hT (ro_ci r_1 rfl) rfl 41 (by decide) k_786 e_v_17 dX7_readsAct_286 ?_
  refine lv_aload_n hx hb dX7_readsAct_289 rfl (lv_at hl 3 rfl) ?_
  refine t_get (ci := 7) (v := .int rz) hB hT (ro_ci r_1 rfl) rfl 38 (by decide) k_783 kp0 dX7_readsAct_290 ?_
  refine lv_iload_n hx hb dX7_readsAct_293 rfl (lv_at hl 2 rfl) ?_
  have i_18 : vp_in rz 8 := (i_in (n := 8) rfl (by omega) (by omega))
  refine t_iast hB hT (ro_in r_v_17 (by decide)) n_v_17 i_18 dX7_readsAct_294 (fun H locs hT => ?_)
  have hI : Inv (sC (sC (sC g1 na rz.toNatClampNeg w) pa rz.toNatClampNeg cc) v_17 rz.toNatClampNeg v) := hI.sC (ck r_v_17 ⟨by omega, by omega⟩)
  have hM : Sm md_m_readsAct g (sC (sC (sC g1 na rz.toNatClampNeg w) pa rz.toNatClampNeg cc) v_17 rz.toNatClampNeg v) := hM.tr hE (Sm_sC (by rw [r_v_17]; rfl))
  have hE : Ex g (sC (sC (sC g1 na rz.toNatClampNeg w) pa rz.toNatClampNeg cc) v_17 rz.toNatClampNeg v) := hE
  have hN : PL 8 (sC (sC (sC g1 na rz.toNatClampNeg w) pa rz.toNatClampNeg cc) v_17 rz.toNatClampNeg v) na pa := hN.tC (ro_ne r_2 r_v_17 (by decide)) (ro_ne r_4 r_v_17 (by decide))
  have hc : (sC (sC (sC g1 na rz.toNatClampNeg w) pa rz.toNatClampNeg cc) v_17 rz.toNatClampNeg v).2.2.2.1 t = ct := sC_f hc (ro_ne r_8 r_v_17 (by decide))
  have hWT : WT (sC (sC (sC g1 na rz.toNatClampNeg w) pa rz.toNatClampNeg cc) v_17 rz.toNatClampNeg v) wt := hWT.tC (ro_ne r_6 r_v_17 (by decide))
  refine lv_aload_n hx hb dX7_readsAct_295 rfl (lv_at hl 3 rfl) ?_
  refine lv_dup hx hb dX7_readsAct_296 rfl ?_
  refine t_get (ci := 7) (v := .int rz) hB hT (ro_ci r_1 rfl) rfl 38 (by decide) k_783 kp0 dX7_readsAct_297 ?_
  refine lv_iconst (v := 1) hx hb dX7_readsAct_300 (by decide) ?_
  refine lv_iadd hx hb dX7_readsAct_301 ?_
  refine lv_topi (fun z_19 ez_19 => ?_)
  have e_z_19 : z_19.toInt = rz.toInt + 1 := i_add ez_19 rfl (by decide) (by omega) (by omega)
  refine t_put0 (ci := 7) (v := .int z_19) hB hT (ro_ci r_1 rfl) (ro_n0 r_1 (by decide)) rfl 38 (by decide) k_783 (Or.inl rfl) rfl rfl dX7_readsAct_302 (fun H locs hT => ?_)
  have hI : Inv (sF (sC (sC (sC g1 na rz.toNatClampNeg w) pa rz.toNatClampNeg cc) v_17 rz.toNatClampNeg v) h 38 (.int z_19)) := hI.sF (p_8_38 r_1 (⟨_, rfl, by omega, by omega⟩))
  have hM : Sm md_m_readsAct g (sF (sC (sC (sC g1 na rz.toNatClampNeg w) pa rz.toNatClampNeg cc) v_17 rz.toNatClampNeg v) h 38 (.int z_19)) := hM.tr hE (Sm_sF (by rw [r_1]; rfl))
  have hE : Ex g (sF (sC (sC (sC g1 na rz.toNatClampNeg w) pa rz.toNatClampNeg cc) v_17 rz.toNatClampNeg v) h 38 (.int z_19)) := hE
  have hN : PL 8 (sF (sC (sC (sC g1 na rz.toNatClampNeg w) pa rz.toNatClampNeg cc) v_17 rz.toNatClampNeg v) h 38 (.int z_19)) na pa := hN
  have hc : (sF (sC (sC (sC g1 na rz.toNatClampNeg w) pa rz.toNatClampNeg cc) v_17 rz.toNatClampNeg v) h 38 (.int z_19)).2.2.2.1 t = ct := hc
  have hWT : WT (sF (sC (sC (sC g1 na rz.toNatClampNeg w) pa rz.toNatClampNeg cc) v_17 rz.toNatClampNeg v) h 38 (.int z_19)) wt := hWT
  exact t_vret hB hr hT (Nat.le_of_ble_eq_true rfl) (Nat.le_of_ble_eq_true rfl) dX7_readsAct_305 ⟨z_19, sp, 1, rfl, hI, hE, hM, (Or.inl ⟨rfl, hac⟩), sF_eq, (by omega), hN, (sF_k kp1 (by decide)), (sF_k kp2 (by decide)), ⟨by omega, by omega⟩⟩
set_option maxHeartbeats 4000000 in
set_option maxRecDepth 100000 in
theorem lt_m_readsAct_d0 (l : Launch) (D : va_G) (cI cZ cS cR : ClassId) (N0 : NT) (g : GS) (h : Nat) (s0 : Int32) (rz : Int32) (wt : Nat) (na : Nat) (pa : Nat) (z : Int32) (t : Nat) (ct : Nat → Int32) (r_h : g.1 h = 8) (r_na : g.1 na = 84) (n_na : g.2.2.1 na = 8) (r_pa : g.1 pa = 85) (n_pa : g.2.2.1 pa = 8) (r_wt : g.1 wt = 87) (n_wt : g.2.2.1 wt = 24) (r_t : g.1 t = 79) (n_t : g.2.2.1 t = 100) (krz : g.2.1 h 38 = .int rz) (ks0 : g.2.1 h 36 = .int s0) (kw0 : g.2.1 h 37 = .int 0) (kwt : g.2.1 h 42 = .ref wt) (kna : g.2.1 h 39 = .ref na) (kpa : g.2.1 h 40 = .ref pa) (kz : g.2.1 h 29 = .int z) (kt : g.2.1 h 28 = .ref t) (l_rz : 0 ≤ rz.toInt) (u_rz : rz.toInt ≤ 7) (l_s0 : 0 ≤ s0.toInt) (u_s0 : s0.toInt ≤ 100) (hN_0 : PL 8 g na pa) (hWT_0 : WT g wt) (l_z : 0 ≤ z.toInt) (u_z : z.toInt ≤ 100) (hc_0 : g.2.2.2.1 t = ct) {p : Program} {e : Env} {s : State} {m : MethodId} {args : Array Value} {below : List Frame} {meth : Method} {c : Code} (hB : Tz p s m meth c args cX7_readsAct 4 RX7 D cI cZ cS cR N0) (hr : meth.sig.returnType = none)    : ∀ (g1 : GS) (w : Int32) (cc : Int32) (sp : Int32)  (H : Heap) (locs : List Loc) (ls : Array Slot), Tv D cI cZ cS cR N0 s.heap H locs g1 → Inv g1 → Ex g g1 → Sm md_m_readsAct g g1 → 0 ≤ w.toInt → w.toInt ≤ 8 → 0 ≤ cc.toInt → cc.toInt ≤ 5 → 0 ≤ sp.toInt → sp.toInt ≤ 100 → g1.2.1 h 38 = .int rz → g1.2.1 h 36 = .int sp → g1.2.1 h 37 = .int 0 → (PL 8 g1 na pa) → (g1.2.2.2.1 t = ct) → (WT g1 wt) → (cc.toInt ≤ 3 ∨ w.toInt = 5) → (w.toInt ≤ 7 ∧ wdr (txb ct z.toInt) s0.toInt = w.toInt ∧ sp.toInt ≤ z.toInt ∧ ∃ q : Int, q = wdp (txb ct z.toInt) s0.toInt ∧ ((w.toInt = 6 ∧ sp.toInt = q) ∨ (w.toInt ≠ 6 ∧ 48 ≤ (txb ct z.toInt) q ∧ (txb ct z.toInt) q ≤ 48 + acm w.toInt ∧ sp.toInt = q + 1))) → lv_has ls 4 [(1, .int w), (2, .int cc), (0, .ref h)] → W p l e (rmx 2 0 0) s m args below meth c H locs 0 0 (MQ below (tQ D cI cZ cS cR N0 (fun v g' => ∃ (z2 : Int32) (s2 : Int32) (w2 : Int32), v = none ∧ Inv g' ∧ Ex g g' ∧ Sm md_m_readsAct g g' ∧ ((w2 = 1 ∧ ac (txb ct z.toInt) s0.toInt = (false, s2.toInt)) ∨ (w2 = 0 ∧ ac (txb ct z.toInt) s0.toInt = (true, s2.toInt) ∧ s2.toInt ≤ z.toInt)) ∧ (g'.2.1 h 38 = .int z2) ∧ (z2.toInt = rz.toInt + 1) ∧ (PL 8 g' na pa) ∧ (g'.2.1 h 36 = .int s2) ∧ (g'.2.1 h 37 = .int w2) ∧ (0 ≤ s2.toInt ∧ s2.toInt ≤ 100))) args s 0 0 (fun q => N0.1 ≤ q)) (F0 m 236 ls []) := by
  have hx := hB.1
  have hb := hB.2.1
  intro g1 w cc sp H locs ls hT hI hE hM l_w u_w l_cc u_cc l_sp u_sp kp0 kp1 kp2 hN hc hWT hcw hdg hl
  have r_1 : g1.1 h = 8 := Ex.r hE r_h (by decide)
  have r_2 : g1.1 na = 84 := Ex.r hE r_na (by decide)
  have n_3 : g1.2.2.1 na = 8 := Ex.n hE r_na (by decide) n_na
  have r_4 : g1.1 pa = 85 := Ex.r hE r_pa (by decide)
  have n_5 : g1.2.2.1 pa = 8 := Ex.n hE r_pa (by decide) n_pa
  have r_6 : g1.1 wt = 87 := Ex.r hE r_wt (by decide)
  have n_7 : g1.2.2.1 wt = 24 := Ex.n hE r_wt (by decide) n_wt
  have r_8 : g1.1 t = 79 := Ex.r hE r_t (by decide)
  have n_9 : g1.2.2.1 t = 100 := Ex.n hE r_t (by decide) n_t
  have kn_10 : g1.2.1 h 42 = .ref wt := Sm.v hM r_h (by decide) rfl kwt
  have kn_11 : g1.2.1 h 39 = .ref na := Sm.v hM r_h (by decide) rfl kna
  have kn_12 : g1.2.1 h 40 = .ref pa := Sm.v hM r_h (by decide) rfl kpa
  have kn_13 : g1.2.1 h 29 = .int z := Sm.v hM r_h (by decide) rfl kz
  have kn_14 : g1.2.1 h 28 = .ref t := Sm.v hM r_h (by decide) rfl kt
  obtain ⟨dq, hdq, hdd⟩ := hdg.2.2.2
  have hem : (if w.toInt = 5 then (5 : Int) else 3) = acm w.toInt := rfl
  refine lv_iconst (v := 0) hx hb dX7_readsAct_236 (by decide) ?_
  refine lv_istore_n (lv' := [(3, .int 0), (1, .int w), (2, .int cc), (0, .ref h)]) hx hb dX7_readsAct_237 rfl hl (by decide) rfl (fun ls hl => ?_)
  refine lv_iload_n hx hb dX7_readsAct_238 rfl (lv_at hl 1 rfl) ?_
  refine lv_iconst (v := 3) hx hb dX7_readsAct_239 (by decide) ?_
  refine lv_icmp_eq (tgt := 265) hx hb dX7_readsAct_240 (by decide) (fun c_15 => ?_) (fun c_15 => ?_)
  · have c_15' : w.toInt = 3 := i_eq c_15 rfl (by decide)
    exact lt_m_readsAct_e0 l D cI cZ cS cR N0 g h s0 rz wt na pa z t ct r_h r_na n_na r_pa n_pa r_wt n_wt r_t n_t krz ks0 kw0 kwt kna kpa kz kt l_rz u_rz l_s0 u_s0 hN_0 hWT_0 l_z u_z hc_0 hB hr   g1 w cc (0 : Int32) sp H locs ls hT hI hE hM (by omega) (by omega) (by omega) (by omega) (by decide) (by decide) (by omega) (by omega) kp0 kp1 kp2 hN hc hWT (by have e0_ : (0 : Int32).toInt = 0 := (by decide); omega) ⟨(ac_34 (q := dq) hdg.2.1 (by omega) hdq hem ⟨by omega, by omega⟩ (by omega)), by omega⟩ (lv_sub hl [1, 2, 0, 3] rfl)
  · have c_15' : w.toInt ≠ 3 := i_ne c_15 rfl (by decide)
    refine lv_iload_n hx hb dX7_readsAct_243 rfl (lv_at hl 1 rfl) ?_
    refine lv_iconst (v := 4) hx hb dX7_readsAct_244 (by decide) ?_
    refine lv_icmp_eq (tgt := 265) hx hb dX7_readsAct_245 (by decide) (fun c_16 => ?_) (fun c_16 => ?_)
    · have c_16' : w.toInt = 4 := i_eq c_16 rfl (by decide)
      exact lt_m_readsAct_e0 l D cI cZ cS cR N0 g h s0 rz wt na pa z t ct r_h r_na n_na r_pa n_pa r_wt n_wt r_t n_t krz ks0 kw0 kwt kna kpa kz kt l_rz u_rz l_s0 u_s0 hN_0 hWT_0 l_z u_z hc_0 hB hr   g1 w cc (0 : Int32) sp H locs ls hT hI hE hM (by omega) (by omega) (by omega) (by omega) (by decide) (by decide) (by omega) (by omega) kp0 kp1 kp2 hN hc hWT (by have e0_ : (0 : Int32).toInt = 0 := (by decide); omega) ⟨(ac_34 (q := dq) hdg.2.1 (by omega) hdq hem ⟨by omega, by omega⟩ (by omega)), by omega⟩ (lv_sub hl [1, 2, 0, 3] rfl)
    · have c_16' : w.toInt ≠ 4 := i_ne c_16 rfl (by decide)
      refine lv_iload_n hx hb dX7_readsAct_248 rfl (lv_at hl 1 rfl) ?_
      refine lv_bipush (v := 6) hx hb dX7_readsAct_249 (by decide) ?_
      refine lv_icmp_eq (tgt := 260) hx hb dX7_readsAct_251 (by decide) (fun c_17 => ?_) (fun c_17 => ?_)
      · have c_17' : w.toInt = 6 := i_eq c_17 rfl (by decide)
        refine lv_aload_n hx hb dX7_readsAct_260 rfl (lv_at hl 3 rfl) ?_
        refine t_callV (n := 0) (As := []) (rest := []) (ci := 7) hB hT hl.1 (m_readsWorth l D cI cZ cS cR N0 g1 hI h sp 0 z t ct r_1 r_8 n_9 kp1 kp2 kn_13 kn_14 (by have q0 : (0 : Int32).toInt = 0 := (by decide); omega) (by have q0 : (0 : Int32).toInt = 0 := (by decide); omega) (by have q0 : (0 : Int32).toInt = 0 := (by decide); omega) (by have q0 : (0 : Int32).toInt = 0 := (by decide); omega) (by have q0 : (0 : Int32).toInt = 0 := (by decide); omega) (by have q0 : (0 : Int32).toInt = 0 := (by decide); omega) hc) (ro_ci r_1 rfl) rfl k_979 k_65 k_976 k_978 k_25 (by decide +kernel) ⟨(Nat.le_of_ble_eq_true rfl), (Nat.le_of_ble_eq_true rfl)⟩ rfl (Nat.le_of_ble_eq_true rfl) ⟨(Nat.le_of_ble_eq_true rfl), (Nat.le_of_ble_eq_true rfl)⟩ dX7_readsAct_261 (fun v g_18 H locs hp hT => ?_)
        obtain ⟨r_19, s2_20, w2_21, rfl, hI, x_27, m_26, f_22, f_23, f_24, f_25⟩ := hp
        have hN : PL 8 g_18 na pa := hN.sm m_26 r_2 (by decide) rfl r_4 (by decide) rfl
        have hc : g_18.2.2.2.1 t = ct := (Sm.cf m_26 r_8 (by decide) rfl).trans hc
        have hWT : WT g_18 wt := hWT.sm m_26 r_6 (by decide) rfl
        have hM : Sm md_m_readsAct g g_18 := hM.tr hE (m_26.mo (fun r k h => mdle_m_readsAct_m_readsWorth h))
        have hE : Ex g g_18 := hE.tr x_27
        have r_28 : g_18.1 h = 8 := (Ex.r x_27 r_1 (by decide))
        have r_29 : g_18.1 na = 84 := (Ex.r x_27 r_2 (by decide))
        have r_30 : g_18.1 pa = 85 := (Ex.r x_27 r_4 (by decide))
        have r_31 : g_18.1 wt = 87 := (Ex.r x_27 r_6 (by decide))
        have r_32 : g_18.1 t = 79 := (Ex.r x_27 r_8 (by decide))
        have n_33 : g_18.2.2.1 na = 8 := (Ex.n x_27 r_2 (by decide) n_3)
        have n_34 : g_18.2.2.1 pa = 8 := (Ex.n x_27 r_4 (by decide) n_5)
        have n_35 : g_18.2.2.1 wt = 24 := (Ex.n x_27 r_6 (by decide) n_7)
        have n_36 : g_18.2.2.1 t = 100 := (Ex.n x_27 r_8 (by decide) n_9)
        have kn_37 : g_18.2.1 h 38 = .int rz := (Sm.v m_26 r_1 (by decide) rfl kp0)
        have kn_38 : g_18.2.1 h 42 = .ref wt := (Sm.v m_26 r_1 (by decide) rfl kn_10)
        have kn_39 : g_18.2.1 h 39 = .ref na := (Sm.v m_26 r_1 (by decide) rfl kn_11)
        have kn_40 : g_18.2.1 h 40 = .ref pa := (Sm.v m_26 r_1 (by decide) rfl kn_12)
        have kn_41 : g_18.2.1 h 29 = .int z := (Sm.v m_26 r_1 (by decide) rfl kn_13)
        have kn_42 : g_18.2.1 h 28 = .ref t := (Sm.v m_26 r_1 (by decide) rfl kn_14)
        refine W.eq (g2 := F0 m 264 ls [.int r_19]) rfl ?_
        have qc_43 : (0 : Int32).toInt = 0 := (by decide)
        rcases f_23 with ⟨hx_, -⟩ | ⟨-, hv_s2_20, hp_s2_20, hs_s2_20, hr_s2_20, hw_s2_20⟩ | ⟨-, hv_s2_20, hp_s2_20, hz_s2_20, h0_s2_20, hw_s2_20⟩
        · exact absurd hx_ (by decide)
        · have ew_ : w2_21 = 1 := i_inj (hw_s2_20.trans (by decide))
          subst ew_
          refine lv_istore_n (lv' := [(3, .int r_19), (1, .int w), (2, .int cc), (0, .ref h)]) hx hb dX7_readsAct_264 rfl hl (by decide) rfl (fun ls hl => ?_)
          exact lt_m_readsAct_e1 l D cI cZ cS cR N0 g h s0 rz wt na pa z t ct r_h r_na n_na r_pa n_pa r_wt n_wt r_t n_t krz ks0 kw0 kwt kna kpa kz kt l_rz u_rz l_s0 u_s0 hN_0 hWT_0 l_z u_z hc_0 hB hr   g_18 w cc r_19 s2_20 H locs ls hT hI hE hM (by omega) (by omega) (by omega) (by omega) (by omega) (by omega) (by omega) (by omega) kn_37 f_24 f_25 hN hc hWT (by have e0_ : (0 : Int32).toInt = 0 := (by decide); omega) (ac_6n (q := sp.toInt) (by omega) (by omega) hv_s2_20 hp_s2_20) (lv_sub hl [1, 2, 0, 3] rfl)
        · have ew_ : w2_21 = 0 := i_inj (hw_s2_20.trans (by decide))
          subst ew_
          refine lv_istore_n (lv' := [(3, .int r_19), (1, .int w), (2, .int cc), (0, .ref h)]) hx hb dX7_readsAct_264 rfl hl (by decide) rfl (fun ls hl => ?_)
          exact lt_m_readsAct_e0 l D cI cZ cS cR N0 g h s0 rz wt na pa z t ct r_h r_na n_na r_pa n_pa r_wt n_wt r_t n_t krz ks0 kw0 kwt kna kpa kz kt l_rz u_rz l_s0 u_s0 hN_0 hWT_0 l_z u_z hc_0 hB hr   g_18 w cc r_19 s2_20 H locs ls hT hI hE hM (by omega) (by omega) (by omega) (by omega) (by omega) (by omega) (by omega) (by omega) kn_37 f_24 f_25 hN hc hWT (by have e0_ : (0 : Int32).toInt = 0 := (by decide); omega) ⟨(ac_6s (q := sp.toInt) (by omega) (by omega) hv_s2_20 (by omega) hp_s2_20), by omega⟩ (lv_sub hl [1, 2, 0, 3] rfl)
      · have c_17' : w.toInt ≠ 6 := i_ne c_17 rfl (by decide)
        refine lv_aload_n hx hb dX7_readsAct_254 rfl (lv_at hl 3 rfl) ?_
        refine lv_bipush (v := 32) hx hb dX7_readsAct_255 (by decide) ?_
        refine t_callV (n := 1) (As := [.int 32]) (rest := []) (ci := 7) hB hT hl.1 (m_must l D cI cZ cS cR N0 g1 hI h 32 sp 0 z t ct r_1 r_8 n_9 kp1 kp2 kn_13 kn_14 (by have q0 : (0 : Int32).toInt = 0 := (by decide); have q1 : (32 : Int32).toInt = 32 := (by decide); omega) (by have q0 : (0 : Int32).toInt = 0 := (by decide); have q1 : (32 : Int32).toInt = 32 := (by decide); omega) (by have q0 : (0 : Int32).toInt = 0 := (by decide); have q1 : (32 : Int32).toInt = 32 := (by decide); omega) (by have q0 : (0 : Int32).toInt = 0 := (by decide); have q1 : (32 : Int32).toInt = 32 := (by decide); omega) (by have q0 : (0 : Int32).toInt = 0 := (by decide); have q1 : (32 : Int32).toInt = 32 := (by decide); omega) (by have q0 : (0 : Int32).toInt = 0 := (by decide); have q1 : (32 : Int32).toInt = 32 := (by decide); omega) (by have q0 : (0 : Int32).toInt = 0 := (by decide); have q1 : (32 : Int32).toInt = 32 := (by decide); omega) hc) (ro_ci r_1 rfl) rfl k_975 k_65 k_972 k_974 k_24 (by decide +kernel) ⟨(Nat.le_of_ble_eq_true rfl), (Nat.le_of_ble_eq_true rfl)⟩ rfl (Nat.le_of_ble_eq_true rfl) ⟨(Nat.le_of_ble_eq_true rfl), (Nat.le_of_ble_eq_true rfl)⟩ dX7_readsAct_257 (fun v g_44 H locs hp hT => ?_)
        obtain ⟨s2_45, w2_46, rfl, hI, x_51, m_50, f_47, f_48, f_49⟩ := hp
        have hN : PL 8 g_44 na pa := hN.sm m_50 r_2 (by decide) rfl r_4 (by decide) rfl
        have hc : g_44.2.2.2.1 t = ct := (Sm.cf m_50 r_8 (by decide) rfl).trans hc
        have hWT : WT g_44 wt := hWT.sm m_50 r_6 (by decide) rfl
        have hM : Sm md_m_readsAct g g_44 := hM.tr hE (m_50.mo (fun r k h => mdle_m_readsAct_m_must h))
        have hE : Ex g g_44 := hE.tr x_51
        have r_52 : g_44.1 h = 8 := (Ex.r x_51 r_1 (by decide))
        have r_53 : g_44.1 na = 84 := (Ex.r x_51 r_2 (by decide))
        have r_54 : g_44.1 pa = 85 := (Ex.r x_51 r_4 (by decide))
        have r_55 : g_44.1 wt = 87 := (Ex.r x_51 r_6 (by decide))
        have r_56 : g_44.1 t = 79 := (Ex.r x_51 r_8 (by decide))
        have n_57 : g_44.2.2.1 na = 8 := (Ex.n x_51 r_2 (by decide) n_3)
        have n_58 : g_44.2.2.1 pa = 8 := (Ex.n x_51 r_4 (by decide) n_5)
        have n_59 : g_44.2.2.1 wt = 24 := (Ex.n x_51 r_6 (by decide) n_7)
        have n_60 : g_44.2.2.1 t = 100 := (Ex.n x_51 r_8 (by decide) n_9)
        have kn_61 : g_44.2.1 h 38 = .int rz := (Sm.v m_50 r_1 (by decide) rfl kp0)
        have kn_62 : g_44.2.1 h 42 = .ref wt := (Sm.v m_50 r_1 (by decide) rfl kn_10)
        have kn_63 : g_44.2.1 h 39 = .ref na := (Sm.v m_50 r_1 (by decide) rfl kn_11)
        have kn_64 : g_44.2.1 h 40 = .ref pa := (Sm.v m_50 r_1 (by decide) rfl kn_12)
        have kn_65 : g_44.2.1 h 29 = .int z := (Sm.v m_50 r_1 (by decide) rfl kn_13)
        have kn_66 : g_44.2.1 h 28 = .ref t := (Sm.v m_50 r_1 (by decide) rfl kn_14)
        refine W.eq (g2 := F0 m 260 ls []) rfl ?_
        have qc_67 : (0 : Int32).toInt = 0 := (by decide)
        have qc_68 : (32 : Int32).toInt = 32 := (by decide)
        rcases f_47 with ⟨hx_, -⟩ | ⟨-, ht_s2_45, hs_s2_45, hz_s2_45, hw_s2_45⟩ | ⟨-, ht_s2_45, hs_s2_45, hw_s2_45⟩
        · exact absurd hx_ (by decide)
        · have ew_ : w2_46 = 0 := i_inj (hw_s2_45.trans (by decide))
          subst ew_
          refine lv_aload_n hx hb dX7_readsAct_260 rfl (lv_at hl 3 rfl) ?_
          refine t_callV (n := 0) (As := []) (rest := []) (ci := 7) hB hT hl.1 (m_readsWorth l D cI cZ cS cR N0 g_44 hI h s2_45 0 z t ct r_52 r_56 n_60 f_48 f_49 kn_65 kn_66 (by have q0 : (0 : Int32).toInt = 0 := (by decide); omega) (by have q0 : (0 : Int32).toInt = 0 := (by decide); omega) (by have q0 : (0 : Int32).toInt = 0 := (by decide); omega) (by have q0 : (0 : Int32).toInt = 0 := (by decide); omega) (by have q0 : (0 : Int32).toInt = 0 := (by decide); omega) (by have q0 : (0 : Int32).toInt = 0 := (by decide); omega) hc) (ro_ci r_52 rfl) rfl k_979 k_65 k_976 k_978 k_25 (by decide +kernel) ⟨(Nat.le_of_ble_eq_true rfl), (Nat.le_of_ble_eq_true rfl)⟩ rfl (Nat.le_of_ble_eq_true rfl) ⟨(Nat.le_of_ble_eq_true rfl), (Nat.le_of_ble_eq_true rfl)⟩ dX7_readsAct_261 (fun v g_69 H locs hp hT => ?_)
          obtain ⟨r_70, s2_71, w2_72, rfl, hI, x_78, m_77, f_73, f_74, f_75, f_76⟩ := hp
          have hN : PL 8 g_69 na pa := hN.sm m_77 r_53 (by decide) rfl r_54 (by decide) rfl
          have hc : g_69.2.2.2.1 t = ct := (Sm.cf m_77 r_56 (by decide) rfl).trans hc
          have hWT : WT g_69 wt := hWT.sm m_77 r_55 (by decide) rfl
          have hM : Sm md_m_readsAct g g_69 := hM.tr hE (m_77.mo (fun r k h => mdle_m_readsAct_m_readsWorth h))
          have hE : Ex g g_69 := hE.tr x_78
          have r_79 : g_69.1 h = 8 := (Ex.r x_78 r_52 (by decide))
          have r_80 : g_69.1 na = 84 := (Ex.r x_78 r_53 (by decide))
          have r_81 : g_69.1 pa = 85 := (Ex.r x_78 r_54 (by decide))
          have r_82 : g_69.1 wt = 87 := (Ex.r x_78 r_55 (by decide))
          have r_83 : g_69.1 t = 79 := (Ex.r x_78 r_56 (by decide))
          have n_84 : g_69.2.2.1 na = 8 := (Ex.n x_78 r_53 (by decide) n_57)
          have n_85 : g_69.2.2.1 pa = 8 := (Ex.n x_78 r_54 (by decide) n_58)
          have n_86 : g_69.2.2.1 wt = 24 := (Ex.n x_78 r_55 (by decide) n_59)
          have n_87 : g_69.2.2.1 t = 100 := (Ex.n x_78 r_56 (by decide) n_60)
          have kn_88 : g_69.2.1 h 38 = .int rz := (Sm.v m_77 r_52 (by decide) rfl kn_61)
          have kn_89 : g_69.2.1 h 42 = .ref wt := (Sm.v m_77 r_52 (by decide) rfl kn_62)
          have kn_90 : g_69.2.1 h 39 = .ref na := (Sm.v m_77 r_52 (by decide) rfl kn_63)
          have kn_91 : g_69.2.1 h 40 = .ref pa := (Sm.v m_77 r_52 (by decide) rfl kn_64)
          have kn_92 : g_69.2.1 h 29 = .int z := (Sm.v m_77 r_52 (by decide) rfl kn_65)
          have kn_93 : g_69.2.1 h 28 = .ref t := (Sm.v m_77 r_52 (by decide) rfl kn_66)
          refine W.eq (g2 := F0 m 264 ls [.int r_70]) rfl ?_
          have qc_94 : (0 : Int32).toInt = 0 := (by decide)
          rcases f_74 with ⟨hx_, -⟩ | ⟨-, hv_s2_71, hp_s2_71, hs_s2_71, hr_s2_71, hw_s2_71⟩ | ⟨-, hv_s2_71, hp_s2_71, hz_s2_71, h0_s2_71, hw_s2_71⟩
          · exact absurd hx_ (by decide)
          · have ew_ : w2_72 = 1 := i_inj (hw_s2_71.trans (by decide))
            subst ew_
            refine lv_istore_n (lv' := [(3, .int r_70), (1, .int w), (2, .int cc), (0, .ref h)]) hx hb dX7_readsAct_264 rfl hl (by decide) rfl (fun ls hl => ?_)
            exact lt_m_readsAct_e1 l D cI cZ cS cR N0 g h s0 rz wt na pa z t ct r_h r_na n_na r_pa n_pa r_wt n_wt r_t n_t krz ks0 kw0 kwt kna kpa kz kt l_rz u_rz l_s0 u_s0 hN_0 hWT_0 l_z u_z hc_0 hB hr   g_69 w cc r_70 s2_71 H locs ls hT hI hE hM (by omega) (by omega) (by omega) (by omega) (by omega) (by omega) (by omega) (by omega) kn_88 f_75 f_76 hN hc hWT (by have e0_ : (0 : Int32).toInt = 0 := (by decide); omega) (ac_vn (q := dq) (q2 := sp.toInt) (q3 := s2_45.toInt) hdg.2.1 (by omega) (by omega) (by omega) hdq hem ⟨by omega, by omega⟩ (by omega) (by omega) (by omega) hv_s2_71 hp_s2_71) (lv_sub hl [1, 2, 0, 3] rfl)
          · have ew_ : w2_72 = 0 := i_inj (hw_s2_71.trans (by decide))
            subst ew_
            refine lv_istore_n (lv' := [(3, .int r_70), (1, .int w), (2, .int cc), (0, .ref h)]) hx hb dX7_readsAct_264 rfl hl (by decide) rfl (fun ls hl => ?_)
            exact lt_m_readsAct_e0 l D cI cZ cS cR N0 g h s0 rz wt na pa z t ct r_h r_na n_na r_pa n_pa r_wt n_wt r_t n_t krz ks0 kw0 kwt kna kpa kz kt l_rz u_rz l_s0 u_s0 hN_0 hWT_0 l_z u_z hc_0 hB hr   g_69 w cc r_70 s2_71 H locs ls hT hI hE hM (by omega) (by omega) (by omega) (by omega) (by omega) (by omega) (by omega) (by omega) kn_88 f_75 f_76 hN hc hWT (by have e0_ : (0 : Int32).toInt = 0 := (by decide); omega) ⟨(ac_vs (q := dq) (q2 := sp.toInt) (q3 := s2_45.toInt) hdg.2.1 (by omega) (by omega) (by omega) hdq hem ⟨by omega, by omega⟩ (by omega) (by omega) (by omega) hv_s2_71 (by omega) hp_s2_71), by omega⟩ (lv_sub hl [1, 2, 0, 3] rfl)
        · have ew_ : w2_46 = 1 := i_inj (hw_s2_45.trans (by decide))
          subst ew_
          refine lv_aload_n hx hb dX7_readsAct_260 rfl (lv_at hl 3 rfl) ?_
          refine t_callV (n := 0) (As := []) (rest := []) (ci := 7) hB hT hl.1 (m_readsWorth l D cI cZ cS cR N0 g_44 hI h s2_45 1 z t ct r_52 r_56 n_60 f_48 f_49 kn_65 kn_66 (by have q0 : (1 : Int32).toInt = 1 := (by decide); omega) (by have q0 : (1 : Int32).toInt = 1 := (by decide); omega) (by have q0 : (1 : Int32).toInt = 1 := (by decide); omega) (by have q0 : (1 : Int32).toInt = 1 := (by decide); omega) (by have q0 : (1 : Int32).toInt = 1 := (by decide); omega) (by have q0 : (1 : Int32).toInt = 1 := (by decide); omega) hc) (ro_ci r_52 rfl) rfl k_979 k_65 k_976 k_978 k_25 (by decide +kernel) ⟨(Nat.le_of_ble_eq_true rfl), (Nat.le_of_ble_eq_true rfl)⟩ rfl (Nat.le_of_ble_eq_true rfl) ⟨(Nat.le_of_ble_eq_true rfl), (Nat.le_of_ble_eq_true rfl)⟩ dX7_readsAct_261 (fun v g_95 H locs hp hT => ?_)
          obtain ⟨r_96, s2_97, w2_98, rfl, hI, x_104, m_103, f_99, f_100, f_101, f_102⟩ := hp
          have hN : PL 8 g_95 na pa := hN.sm m_103 r_53 (by decide) rfl r_54 (by decide) rfl
          have hc : g_95.2.2.2.1 t = ct := (Sm.cf m_103 r_56 (by decide) rfl).trans hc
          have hWT : WT g_95 wt := hWT.sm m_103 r_55 (by decide) rfl
          have hM : Sm md_m_readsAct g g_95 := hM.tr hE (m_103.mo (fun r k h => mdle_m_readsAct_m_readsWorth h))
          have hE : Ex g g_95 := hE.tr x_104
          have r_105 : g_95.1 h = 8 := (Ex.r x_104 r_52 (by decide))
          have r_106 : g_95.1 na = 84 := (Ex.r x_104 r_53 (by decide))
          have r_107 : g_95.1 pa = 85 := (Ex.r x_104 r_54 (by decide))
          have r_108 : g_95.1 wt = 87 := (Ex.r x_104 r_55 (by decide))
          have r_109 : g_95.1 t = 79 := (Ex.r x_104 r_56 (by decide))
          have n_110 : g_95.2.2.1 na = 8 := (Ex.n x_104 r_53 (by decide) n_57)
          have n_111 : g_95.2.2.1 pa = 8 := (Ex.n x_104 r_54 (by decide) n_58)
          have n_112 : g_95.2.2.1 wt = 24 := (Ex.n x_104 r_55 (by decide) n_59)
          have n_113 : g_95.2.2.1 t = 100 := (Ex.n x_104 r_56 (by decide) n_60)
          have kn_114 : g_95.2.1 h 38 = .int rz := (Sm.v m_103 r_52 (by decide) rfl kn_61)
          have kn_115 : g_95.2.1 h 42 = .ref wt := (Sm.v m_103 r_52 (by decide) rfl kn_62)
          have kn_116 : g_95.2.1 h 39 = .ref na := (Sm.v m_103 r_52 (by decide) rfl kn_63)
          have kn_117 : g_95.2.1 h 40 = .ref pa := (Sm.v m_103 r_52 (by decide) rfl kn_64)
          have kn_118 : g_95.2.1 h 29 = .int z := (Sm.v m_103 r_52 (by decide) rfl kn_65)
          have kn_119 : g_95.2.1 h 28 = .ref t := (Sm.v m_103 r_52 (by decide) rfl kn_66)
          refine W.eq (g2 := F0 m 264 ls [.int r_96]) rfl ?_
          have qc_120 : (1 : Int32).toInt = 1 := (by decide)
          rcases f_100 with ⟨-, hr_s2_97, hs_s2_97, hw_s2_97⟩ | ⟨hx_, -⟩ | ⟨hx_, -⟩
          rotate_left
          · exact absurd hx_ (by decide)
          · exact absurd hx_ (by decide)
          have ew_ : w2_98 = 1 := i_inj (hw_s2_97.trans (by decide))
          subst ew_
          refine lv_istore_n (lv' := [(3, .int r_96), (1, .int w), (2, .int cc), (0, .ref h)]) hx hb dX7_readsAct_264 rfl hl (by decide) rfl (fun ls hl => ?_)
          exact lt_m_readsAct_e1 l D cI cZ cS cR N0 g h s0 rz wt na pa z t ct r_h r_na n_na r_pa n_pa r_wt n_wt r_t n_t krz ks0 kw0 kwt kna kpa kz kt l_rz u_rz l_s0 u_s0 hN_0 hWT_0 l_z u_z hc_0 hB hr   g_95 w cc r_96 s2_97 H locs ls hT hI hE hM (by omega) (by omega) (by omega) (by omega) (by omega) (by omega) (by omega) (by omega) kn_114 f_101 f_102 hN hc hWT (by have e0_ : (0 : Int32).toInt = 0 := (by decide); omega) (by rw [show s2_97.toInt = sp.toInt by omega]; exact (ac_s (q := dq) (q2 := sp.toInt) hdg.2.1 (by omega) (by omega) (by omega) hdq hem ⟨by omega, by omega⟩ (by omega) (by omega))) (lv_sub hl [1, 2, 0, 3] rfl)
set_option maxHeartbeats 4000000 in
set_option maxRecDepth 100000 in
theorem lt_m_readsAct_d1 (l : Launch) (D : va_G) (cI cZ cS cR : ClassId) (N0 : NT) (g : GS) (h : Nat) (s0 : Int32) (rz : Int32) (wt : Nat) (na : Nat) (pa : Nat) (z : Int32) (t : Nat) (ct : Nat → Int32) (r_h : g.1 h = 8) (r_na : g.1 na = 84) (n_na : g.2.2.1 na = 8) (r_pa : g.1 pa = 85) (n_pa : g.2.2.1 pa = 8) (r_wt : g.1 wt = 87) (n_wt : g.2.2.1 wt = 24) (r_t : g.1 t = 79) (n_t : g.2.2.1 t = 100) (krz : g.2.1 h 38 = .int rz) (ks0 : g.2.1 h 36 = .int s0) (kw0 : g.2.1 h 37 = .int 0) (kwt : g.2.1 h 42 = .ref wt) (kna : g.2.1 h 39 = .ref na) (kpa : g.2.1 h 40 = .ref pa) (kz : g.2.1 h 29 = .int z) (kt : g.2.1 h 28 = .ref t) (l_rz : 0 ≤ rz.toInt) (u_rz : rz.toInt ≤ 7) (l_s0 : 0 ≤ s0.toInt) (u_s0 : s0.toInt ≤ 100) (hN_0 : PL 8 g na pa) (hWT_0 : WT g wt) (l_z : 0 ≤ z.toInt) (u_z : z.toInt ≤ 100) (hc_0 : g.2.2.2.1 t = ct) {p : Program} {e : Env} {s : State} {m : MethodId} {args : Array Value} {below : List Frame} {meth : Method} {c : Code} (hB : Tz p s m meth c args cX7_readsAct 4 RX7 D cI cZ cS cR N0) (hr : meth.sig.returnType = none)    : ∀ (g1 : GS) (w : Int32) (cc : Int32) (sp : Int32)  (H : Heap) (locs : List Loc) (ls : Array Slot), Tv D cI cZ cS cR N0 s.heap H locs g1 → Inv g1 → Ex g g1 → Sm md_m_readsAct g g1 → 0 ≤ w.toInt → w.toInt ≤ 8 → 0 ≤ cc.toInt → cc.toInt ≤ 5 → 0 ≤ sp.toInt → sp.toInt ≤ 100 → g1.2.1 h 38 = .int rz → g1.2.1 h 36 = .int sp → g1.2.1 h 37 = .int 1 → (PL 8 g1 na pa) → (g1.2.2.2.1 t = ct) → (WT g1 wt) → (cc.toInt ≤ 3 ∨ w.toInt = 5) → (ac (txb ct z.toInt) s0.toInt = (false, sp.toInt)) → lv_has ls 4 [(1, .int w), (2, .int cc), (0, .ref h)] → W p l e (rmx 2 0 0) s m args below meth c H locs 0 0 (MQ below (tQ D cI cZ cS cR N0 (fun v g' => ∃ (z2 : Int32) (s2 : Int32) (w2 : Int32), v = none ∧ Inv g' ∧ Ex g g' ∧ Sm md_m_readsAct g g' ∧ ((w2 = 1 ∧ ac (txb ct z.toInt) s0.toInt = (false, s2.toInt)) ∨ (w2 = 0 ∧ ac (txb ct z.toInt) s0.toInt = (true, s2.toInt) ∧ s2.toInt ≤ z.toInt)) ∧ (g'.2.1 h 38 = .int z2) ∧ (z2.toInt = rz.toInt + 1) ∧ (PL 8 g' na pa) ∧ (g'.2.1 h 36 = .int s2) ∧ (g'.2.1 h 37 = .int w2) ∧ (0 ≤ s2.toInt ∧ s2.toInt ≤ 100))) args s 0 0 (fun q => N0.1 ≤ q)) (F0 m 236 ls []) := by
  have hx := hB.1
  have hb := hB.2.1
  intro g1 w cc sp H locs ls hT hI hE hM l_w u_w l_cc u_cc l_sp u_sp kp0 kp1 kp2 hN hc hWT hcw hac hl
  have r_1 : g1.1 h = 8 := Ex.r hE r_h (by decide)
  have r_2 : g1.1 na = 84 := Ex.r hE r_na (by decide)
  have n_3 : g1.2.2.1 na = 8 := Ex.n hE r_na (by decide) n_na
  have r_4 : g1.1 pa = 85 := Ex.r hE r_pa (by decide)
  have n_5 : g1.2.2.1 pa = 8 := Ex.n hE r_pa (by decide) n_pa
  have r_6 : g1.1 wt = 87 := Ex.r hE r_wt (by decide)
  have n_7 : g1.2.2.1 wt = 24 := Ex.n hE r_wt (by decide) n_wt
  have r_8 : g1.1 t = 79 := Ex.r hE r_t (by decide)
  have n_9 : g1.2.2.1 t = 100 := Ex.n hE r_t (by decide) n_t
  have kn_10 : g1.2.1 h 42 = .ref wt := Sm.v hM r_h (by decide) rfl kwt
  have kn_11 : g1.2.1 h 39 = .ref na := Sm.v hM r_h (by decide) rfl kna
  have kn_12 : g1.2.1 h 40 = .ref pa := Sm.v hM r_h (by decide) rfl kpa
  have kn_13 : g1.2.1 h 29 = .int z := Sm.v hM r_h (by decide) rfl kz
  have kn_14 : g1.2.1 h 28 = .ref t := Sm.v hM r_h (by decide) rfl kt
  refine lv_iconst (v := 0) hx hb dX7_readsAct_236 (by decide) ?_
  refine lv_istore_n (lv' := [(3, .int 0), (1, .int w), (2, .int cc), (0, .ref h)]) hx hb dX7_readsAct_237 rfl hl (by decide) rfl (fun ls hl => ?_)
  refine lv_iload_n hx hb dX7_readsAct_238 rfl (lv_at hl 1 rfl) ?_
  refine lv_iconst (v := 3) hx hb dX7_readsAct_239 (by decide) ?_
  refine lv_icmp_eq (tgt := 265) hx hb dX7_readsAct_240 (by decide) (fun c_15 => ?_) (fun c_15 => ?_)
  · have c_15' : w.toInt = 3 := i_eq c_15 rfl (by decide)
    exact lt_m_readsAct_e1 l D cI cZ cS cR N0 g h s0 rz wt na pa z t ct r_h r_na n_na r_pa n_pa r_wt n_wt r_t n_t krz ks0 kw0 kwt kna kpa kz kt l_rz u_rz l_s0 u_s0 hN_0 hWT_0 l_z u_z hc_0 hB hr   g1 w cc (0 : Int32) sp H locs ls hT hI hE hM (by omega) (by omega) (by omega) (by omega) (by decide) (by decide) (by omega) (by omega) kp0 kp1 kp2 hN hc hWT (by have e0_ : (0 : Int32).toInt = 0 := (by decide); omega) hac (lv_sub hl [1, 2, 0, 3] rfl)
  · have c_15' : w.toInt ≠ 3 := i_ne c_15 rfl (by decide)
    refine lv_iload_n hx hb dX7_readsAct_243 rfl (lv_at hl 1 rfl) ?_
    refine lv_iconst (v := 4) hx hb dX7_readsAct_244 (by decide) ?_
    refine lv_icmp_eq (tgt := 265) hx hb dX7_readsAct_245 (by decide) (fun c_16 => ?_) (fun c_16 => ?_)
    · have c_16' : w.toInt = 4 := i_eq c_16 rfl (by decide)
      exact lt_m_readsAct_e1 l D cI cZ cS cR N0 g h s0 rz wt na pa z t ct r_h r_na n_na r_pa n_pa r_wt n_wt r_t n_t krz ks0 kw0 kwt kna kpa kz kt l_rz u_rz l_s0 u_s0 hN_0 hWT_0 l_z u_z hc_0 hB hr   g1 w cc (0 : Int32) sp H locs ls hT hI hE hM (by omega) (by omega) (by omega) (by omega) (by decide) (by decide) (by omega) (by omega) kp0 kp1 kp2 hN hc hWT (by have e0_ : (0 : Int32).toInt = 0 := (by decide); omega) hac (lv_sub hl [1, 2, 0, 3] rfl)
    · have c_16' : w.toInt ≠ 4 := i_ne c_16 rfl (by decide)
      refine lv_iload_n hx hb dX7_readsAct_248 rfl (lv_at hl 1 rfl) ?_
      refine lv_bipush (v := 6) hx hb dX7_readsAct_249 (by decide) ?_
      refine lv_icmp_eq (tgt := 260) hx hb dX7_readsAct_251 (by decide) (fun c_17 => ?_) (fun c_17 => ?_)
      · have c_17' : w.toInt = 6 := i_eq c_17 rfl (by decide)
        refine lv_aload_n hx hb dX7_readsAct_260 rfl (lv_at hl 3 rfl) ?_
        refine t_callV (n := 0) (As := []) (rest := []) (ci := 7) hB hT hl.1 (m_readsWorth l D cI cZ cS cR N0 g1 hI h sp 1 z t ct r_1 r_8 n_9 kp1 kp2 kn_13 kn_14 (by have q0 : (1 : Int32).toInt = 1 := (by decide); omega) (by have q0 : (1 : Int32).toInt = 1 := (by decide); omega) (by have q0 : (1 : Int32).toInt = 1 := (by decide); omega) (by have q0 : (1 : Int32).toInt = 1 := (by decide); omega) (by have q0 : (1 : Int32).toInt = 1 := (by decide); omega) (by have q0 : (1 : Int32).toInt = 1 := (by decide); omega) hc) (ro_ci r_1 rfl) rfl k_979 k_65 k_976 k_978 k_25 (by decide +kernel) ⟨(Nat.le_of_ble_eq_true rfl), (Nat.le_of_ble_eq_true rfl)⟩ rfl (Nat.le_of_ble_eq_true rfl) ⟨(Nat.le_of_ble_eq_true rfl), (Nat.le_of_ble_eq_true rfl)⟩ dX7_readsAct_261 (fun v g_18 H locs hp hT => ?_)
        obtain ⟨r_19, s2_20, w2_21, rfl, hI, x_27, m_26, f_22, f_23, f_24, f_25⟩ := hp
        have hN : PL 8 g_18 na pa := hN.sm m_26 r_2 (by decide) rfl r_4 (by decide) rfl
        have hc : g_18.2.2.2.1 t = ct := (Sm.cf m_26 r_8 (by decide) rfl).trans hc
        have hWT : WT g_18 wt := hWT.sm m_26 r_6 (by decide) rfl
        have hM : Sm md_m_readsAct g g_18 := hM.tr hE (m_26.mo (fun r k h => mdle_m_readsAct_m_readsWorth h))
        have hE : Ex g g_18 := hE.tr x_27
        have r_28 : g_18.1 h = 8 := (Ex.r x_27 r_1 (by decide))
        have r_29 : g_18.1 na = 84 := (Ex.r x_27 r_2 (by decide))
        have r_30 : g_18.1 pa = 85 := (Ex.r x_27 r_4 (by decide))
        have r_31 : g_18.1 wt = 87 := (Ex.r x_27 r_6 (by decide))
        have r_32 : g_18.1 t = 79 := (Ex.r x_27 r_8 (by decide))
        have n_33 : g_18.2.2.1 na = 8 := (Ex.n x_27 r_2 (by decide) n_3)
        have n_34 : g_18.2.2.1 pa = 8 := (Ex.n x_27 r_4 (by decide) n_5)
        have n_35 : g_18.2.2.1 wt = 24 := (Ex.n x_27 r_6 (by decide) n_7)
        have n_36 : g_18.2.2.1 t = 100 := (Ex.n x_27 r_8 (by decide) n_9)
        have kn_37 : g_18.2.1 h 38 = .int rz := (Sm.v m_26 r_1 (by decide) rfl kp0)
        have kn_38 : g_18.2.1 h 42 = .ref wt := (Sm.v m_26 r_1 (by decide) rfl kn_10)
        have kn_39 : g_18.2.1 h 39 = .ref na := (Sm.v m_26 r_1 (by decide) rfl kn_11)
        have kn_40 : g_18.2.1 h 40 = .ref pa := (Sm.v m_26 r_1 (by decide) rfl kn_12)
        have kn_41 : g_18.2.1 h 29 = .int z := (Sm.v m_26 r_1 (by decide) rfl kn_13)
        have kn_42 : g_18.2.1 h 28 = .ref t := (Sm.v m_26 r_1 (by decide) rfl kn_14)
        refine W.eq (g2 := F0 m 264 ls [.int r_19]) rfl ?_
        have qc_43 : (1 : Int32).toInt = 1 := (by decide)
        rcases f_23 with ⟨-, hr_s2_20, hs_s2_20, hw_s2_20⟩ | ⟨hx_, -⟩ | ⟨hx_, -⟩
        rotate_left
        · exact absurd hx_ (by decide)
        · exact absurd hx_ (by decide)
        have ew_ : w2_21 = 1 := i_inj (hw_s2_20.trans (by decide))
        subst ew_
        refine lv_istore_n (lv' := [(3, .int r_19), (1, .int w), (2, .int cc), (0, .ref h)]) hx hb dX7_readsAct_264 rfl hl (by decide) rfl (fun ls hl => ?_)
        exact lt_m_readsAct_e1 l D cI cZ cS cR N0 g h s0 rz wt na pa z t ct r_h r_na n_na r_pa n_pa r_wt n_wt r_t n_t krz ks0 kw0 kwt kna kpa kz kt l_rz u_rz l_s0 u_s0 hN_0 hWT_0 l_z u_z hc_0 hB hr   g_18 w cc r_19 s2_20 H locs ls hT hI hE hM (by omega) (by omega) (by omega) (by omega) (by omega) (by omega) (by omega) (by omega) kn_37 f_24 f_25 hN hc hWT (by have e0_ : (0 : Int32).toInt = 0 := (by decide); omega) (by rw [show s2_20.toInt = sp.toInt by omega]; exact hac) (lv_sub hl [1, 2, 0, 3] rfl)
      · have c_17' : w.toInt ≠ 6 := i_ne c_17 rfl (by decide)
        refine lv_aload_n hx hb dX7_readsAct_254 rfl (lv_at hl 3 rfl) ?_
        refine lv_bipush (v := 32) hx hb dX7_readsAct_255 (by decide) ?_
        refine t_callV (n := 1) (As := [.int 32]) (rest := []) (ci := 7) hB hT hl.1 (m_must l D cI cZ cS cR N0 g1 hI h 32 sp 1 z t ct r_1 r_8 n_9 kp1 kp2 kn_13 kn_14 (by have q0 : (1 : Int32).toInt = 1 := (by decide); have q1 : (32 : Int32).toInt = 32 := (by decide); omega) (by have q0 : (1 : Int32).toInt = 1 := (by decide); have q1 : (32 : Int32).toInt = 32 := (by decide); omega) (by have q0 : (1 : Int32).toInt = 1 := (by decide); have q1 : (32 : Int32).toInt = 32 := (by decide); omega) (by have q0 : (1 : Int32).toInt = 1 := (by decide); have q1 : (32 : Int32).toInt = 32 := (by decide); omega) (by have q0 : (1 : Int32).toInt = 1 := (by decide); have q1 : (32 : Int32).toInt = 32 := (by decide); omega) (by have q0 : (1 : Int32).toInt = 1 := (by decide); have q1 : (32 : Int32).toInt = 32 := (by decide); omega) (by have q0 : (1 : Int32).toInt = 1 := (by decide); have q1 : (32 : Int32).toInt = 32 := (by decide); omega) hc) (ro_ci r_1 rfl) rfl k_975 k_65 k_972 k_974 k_24 (by decide +kernel) ⟨(Nat.le_of_ble_eq_true rfl), (Nat.le_of_ble_eq_true rfl)⟩ rfl (Nat.le_of_ble_eq_true rfl) ⟨(Nat.le_of_ble_eq_true rfl), (Nat.le_of_ble_eq_true rfl)⟩ dX7_readsAct_257 (fun v g_44 H locs hp hT => ?_)
        obtain ⟨s2_45, w2_46, rfl, hI, x_51, m_50, f_47, f_48, f_49⟩ := hp
        have hN : PL 8 g_44 na pa := hN.sm m_50 r_2 (by decide) rfl r_4 (by decide) rfl
        have hc : g_44.2.2.2.1 t = ct := (Sm.cf m_50 r_8 (by decide) rfl).trans hc
        have hWT : WT g_44 wt := hWT.sm m_50 r_6 (by decide) rfl
        have hM : Sm md_m_readsAct g g_44 := hM.tr hE (m_50.mo (fun r k h => mdle_m_readsAct_m_must h))
        have hE : Ex g g_44 := hE.tr x_51
        have r_52 : g_44.1 h = 8 := (Ex.r x_51 r_1 (by decide))
        have r_53 : g_44.1 na = 84 := (Ex.r x_51 r_2 (by decide))
        have r_54 : g_44.1 pa = 85 := (Ex.r x_51 r_4 (by decide))
        have r_55 : g_44.1 wt = 87 := (Ex.r x_51 r_6 (by decide))
        have r_56 : g_44.1 t = 79 := (Ex.r x_51 r_8 (by decide))
        have n_57 : g_44.2.2.1 na = 8 := (Ex.n x_51 r_2 (by decide) n_3)
        have n_58 : g_44.2.2.1 pa = 8 := (Ex.n x_51 r_4 (by decide) n_5)
        have n_59 : g_44.2.2.1 wt = 24 := (Ex.n x_51 r_6 (by decide) n_7)
        have n_60 : g_44.2.2.1 t = 100 := (Ex.n x_51 r_8 (by decide) n_9)
        have kn_61 : g_44.2.1 h 38 = .int rz := (Sm.v m_50 r_1 (by decide) rfl kp0)
        have kn_62 : g_44.2.1 h 42 = .ref wt := (Sm.v m_50 r_1 (by decide) rfl kn_10)
        have kn_63 : g_44.2.1 h 39 = .ref na := (Sm.v m_50 r_1 (by decide) rfl kn_11)
        have kn_64 : g_44.2.1 h 40 = .ref pa := (Sm.v m_50 r_1 (by decide) rfl kn_12)
        have kn_65 : g_44.2.1 h 29 = .int z := (Sm.v m_50 r_1 (by decide) rfl kn_13)
        have kn_66 : g_44.2.1 h 28 = .ref t := (Sm.v m_50 r_1 (by decide) rfl kn_14)
        refine W.eq (g2 := F0 m 260 ls []) rfl ?_
        have qc_67 : (1 : Int32).toInt = 1 := (by decide)
        have qc_68 : (32 : Int32).toInt = 32 := (by decide)
        rcases f_47 with ⟨-, hs_s2_45, hw_s2_45⟩ | ⟨hx_, -⟩ | ⟨hx_, -⟩
        rotate_left
        · exact absurd hx_ (by decide)
        · exact absurd hx_ (by decide)
        have ew_ : w2_46 = 1 := i_inj (hw_s2_45.trans (by decide))
        subst ew_
        refine lv_aload_n hx hb dX7_readsAct_260 rfl (lv_at hl 3 rfl) ?_
        refine t_callV (n := 0) (As := []) (rest := []) (ci := 7) hB hT hl.1 (m_readsWorth l D cI cZ cS cR N0 g_44 hI h s2_45 1 z t ct r_52 r_56 n_60 f_48 f_49 kn_65 kn_66 (by have q0 : (1 : Int32).toInt = 1 := (by decide); omega) (by have q0 : (1 : Int32).toInt = 1 := (by decide); omega) (by have q0 : (1 : Int32).toInt = 1 := (by decide); omega) (by have q0 : (1 : Int32).toInt = 1 := (by decide); omega) (by have q0 : (1 : Int32).toInt = 1 := (by decide); omega) (by have q0 : (1 : Int32).toInt = 1 := (by decide); omega) hc) (ro_ci r_52 rfl) rfl k_979 k_65 k_976 k_978 k_25 (by decide +kernel) ⟨(Nat.le_of_ble_eq_true rfl), (Nat.le_of_ble_eq_true rfl)⟩ rfl (Nat.le_of_ble_eq_true rfl) ⟨(Nat.le_of_ble_eq_true rfl), (Nat.le_of_ble_eq_true rfl)⟩ dX7_readsAct_261 (fun v g_69 H locs hp hT => ?_)
        obtain ⟨r_70, s2_71, w2_72, rfl, hI, x_78, m_77, f_73, f_74, f_75, f_76⟩ := hp
        have hN : PL 8 g_69 na pa := hN.sm m_77 r_53 (by decide) rfl r_54 (by decide) rfl
        have hc : g_69.2.2.2.1 t = ct := (Sm.cf m_77 r_56 (by decide) rfl).trans hc
        have hWT : WT g_69 wt := hWT.sm m_77 r_55 (by decide) rfl
        have hM : Sm md_m_readsAct g g_69 := hM.tr hE (m_77.mo (fun r k h => mdle_m_readsAct_m_readsWorth h))
        have hE : Ex g g_69 := hE.tr x_78
        have r_79 : g_69.1 h = 8 := (Ex.r x_78 r_52 (by decide))
        have r_80 : g_69.1 na = 84 := (Ex.r x_78 r_53 (by decide))
        have r_81 : g_69.1 pa = 85 := (Ex.r x_78 r_54 (by decide))
        have r_82 : g_69.1 wt = 87 := (Ex.r x_78 r_55 (by decide))
        have r_83 : g_69.1 t = 79 := (Ex.r x_78 r_56 (by decide))
        have n_84 : g_69.2.2.1 na = 8 := (Ex.n x_78 r_53 (by decide) n_57)
        have n_85 : g_69.2.2.1 pa = 8 := (Ex.n x_78 r_54 (by decide) n_58)
        have n_86 : g_69.2.2.1 wt = 24 := (Ex.n x_78 r_55 (by decide) n_59)
        have n_87 : g_69.2.2.1 t = 100 := (Ex.n x_78 r_56 (by decide) n_60)
        have kn_88 : g_69.2.1 h 38 = .int rz := (Sm.v m_77 r_52 (by decide) rfl kn_61)
        have kn_89 : g_69.2.1 h 42 = .ref wt := (Sm.v m_77 r_52 (by decide) rfl kn_62)
        have kn_90 : g_69.2.1 h 39 = .ref na := (Sm.v m_77 r_52 (by decide) rfl kn_63)
        have kn_91 : g_69.2.1 h 40 = .ref pa := (Sm.v m_77 r_52 (by decide) rfl kn_64)
        have kn_92 : g_69.2.1 h 29 = .int z := (Sm.v m_77 r_52 (by decide) rfl kn_65)
        have kn_93 : g_69.2.1 h 28 = .ref t := (Sm.v m_77 r_52 (by decide) rfl kn_66)
        refine W.eq (g2 := F0 m 264 ls [.int r_70]) rfl ?_
        have qc_94 : (1 : Int32).toInt = 1 := (by decide)
        rcases f_74 with ⟨-, hr_s2_71, hs_s2_71, hw_s2_71⟩ | ⟨hx_, -⟩ | ⟨hx_, -⟩
        rotate_left
        · exact absurd hx_ (by decide)
        · exact absurd hx_ (by decide)
        have ew_ : w2_72 = 1 := i_inj (hw_s2_71.trans (by decide))
        subst ew_
        refine lv_istore_n (lv' := [(3, .int r_70), (1, .int w), (2, .int cc), (0, .ref h)]) hx hb dX7_readsAct_264 rfl hl (by decide) rfl (fun ls hl => ?_)
        exact lt_m_readsAct_e1 l D cI cZ cS cR N0 g h s0 rz wt na pa z t ct r_h r_na n_na r_pa n_pa r_wt n_wt r_t n_t krz ks0 kw0 kwt kna kpa kz kt l_rz u_rz l_s0 u_s0 hN_0 hWT_0 l_z u_z hc_0 hB hr   g_69 w cc r_70 s2_71 H locs ls hT hI hE hM (by omega) (by omega) (by omega) (by omega) (by omega) (by omega) (by omega) (by omega) kn_88 f_75 f_76 hN hc hWT (by have e0_ : (0 : Int32).toInt = 0 := (by decide); omega) (by rw [show s2_71.toInt = sp.toInt by omega]; exact hac) (lv_sub hl [1, 2, 0, 3] rfl)
set_option maxHeartbeats 4000000 in
set_option maxRecDepth 100000 in
theorem lt_m_readsAct_c0 (l : Launch) (D : va_G) (cI cZ cS cR : ClassId) (N0 : NT) (g : GS) (h : Nat) (s0 : Int32) (rz : Int32) (wt : Nat) (na : Nat) (pa : Nat) (z : Int32) (t : Nat) (ct : Nat → Int32) (r_h : g.1 h = 8) (r_na : g.1 na = 84) (n_na : g.2.2.1 na = 8) (r_pa : g.1 pa = 85) (n_pa : g.2.2.1 pa = 8) (r_wt : g.1 wt = 87) (n_wt : g.2.2.1 wt = 24) (r_t : g.1 t = 79) (n_t : g.2.2.1 t = 100) (krz : g.2.1 h 38 = .int rz) (ks0 : g.2.1 h 36 = .int s0) (kw0 : g.2.1 h 37 = .int 0) (kwt : g.2.1 h 42 = .ref wt) (kna : g.2.1 h 39 = .ref na) (kpa : g.2.1 h 40 = .ref pa) (kz : g.2.1 h 29 = .int z) (kt : g.2.1 h 28 = .ref t) (l_rz : 0 ≤ rz.toInt) (u_rz : rz.toInt ≤ 7) (l_s0 : 0 ≤ s0.toInt) (u_s0 : s0.toInt ≤ 100) (hN_0 : PL 8 g na pa) (hWT_0 : WT g wt) (l_z : 0 ≤ z.toInt) (u_z : z.toInt ≤ 100) (hc_0 : g.2.2.2.1 t = ct) {p : Program} {e : Env} {s : State} {m : MethodId} {args : Array Value} {below : List Frame} {meth : Method} {c : Code} (hB : Tz p s m meth c args cX7_readsAct 4 RX7 D cI cZ cS cR N0) (hr : meth.sig.returnType = none)    : ∀ (g1 : GS) (w : Int32) (sp : Int32)  (H : Heap) (locs : List Loc) (ls : Array Slot), Tv D cI cZ cS cR N0 s.heap H locs g1 → Inv g1 → Ex g g1 → Sm md_m_readsAct g g1 → 0 ≤ w.toInt → w.toInt ≤ 8 → 0 ≤ sp.toInt → sp.toInt ≤ 100 → g1.2.1 h 38 = .int rz → g1.2.1 h 36 = .int sp → g1.2.1 h 37 = .int 0 → (PL 8 g1 na pa) → (g1.2.2.2.1 t = ct) → (WT g1 wt) → (w.toInt ≤ 7 ∧ wdr (txb ct z.toInt) s0.toInt = w.toInt ∧ sp.toInt = wdp (txb ct z.toInt) s0.toInt ∧ sp.toInt ≤ z.toInt) → lv_has ls 4 [(1, .int w), (0, .ref h)] → W p l e (rmx 2 0 0) s m args below meth c H locs 0 0 (MQ below (tQ D cI cZ cS cR N0 (fun v g' => ∃ (z2 : Int32) (s2 : Int32) (w2 : Int32), v = none ∧ Inv g' ∧ Ex g g' ∧ Sm md_m_readsAct g g' ∧ ((w2 = 1 ∧ ac (txb ct z.toInt) s0.toInt = (false, s2.toInt)) ∨ (w2 = 0 ∧ ac (txb ct z.toInt) s0.toInt = (true, s2.toInt) ∧ s2.toInt ≤ z.toInt)) ∧ (g'.2.1 h 38 = .int z2) ∧ (z2.toInt = rz.toInt + 1) ∧ (PL 8 g' na pa) ∧ (g'.2.1 h 36 = .int s2) ∧ (g'.2.1 h 37 = .int w2) ∧ (0 ≤ s2.toInt ∧ s2.toInt ≤ 100))) args s 0 0 (fun q => N0.1 ≤ q)) (F0 m 140 ls []) := by
  have hx := hB.1
  have hb := hB.2.1
  intro g1 w sp H locs ls hT hI hE hM l_w u_w l_sp u_sp kp0 kp1 kp2 hN hc hWT hwo hl
  have r_1 : g1.1 h = 8 := Ex.r hE r_h (by decide)
  have r_2 : g1.1 na = 84 := Ex.r hE r_na (by decide)
  have n_3 : g1.2.2.1 na = 8 := Ex.n hE r_na (by decide) n_na
  have r_4 : g1.1 pa = 85 := Ex.r hE r_pa (by decide)
  have n_5 : g1.2.2.1 pa = 8 := Ex.n hE r_pa (by decide) n_pa
  have r_6 : g1.1 wt = 87 := Ex.r hE r_wt (by decide)
  have n_7 : g1.2.2.1 wt = 24 := Ex.n hE r_wt (by decide) n_wt
  have r_8 : g1.1 t = 79 := Ex.r hE r_t (by decide)
  have n_9 : g1.2.2.1 t = 100 := Ex.n hE r_t (by decide) n_t
  have kn_10 : g1.2.1 h 42 = .ref wt := Sm.v hM r_h (by decide) rfl kwt
  have kn_11 : g1.2.1 h 39 = .ref na := Sm.v hM r_h (by decide) rfl kna
  have kn_12 : g1.2.1 h 40 = .ref pa := Sm.v hM r_h (by decide) rfl kpa
  have kn_13 : g1.2.1 h 29 = .int z := Sm.v hM r_h (by decide) rfl kz
  have kn_14 : g1.2.1 h 28 = .ref t := Sm.v hM r_h (by decide) rfl kt
  refine lv_iconst (v := 0) hx hb dX7_readsAct_140 (by decide) ?_
  refine lv_istore_n (lv' := [(2, .int 0), (1, .int w), (0, .ref h)]) hx hb dX7_readsAct_141 rfl hl (by decide) rfl (fun ls hl => ?_)
  refine lv_iload_n hx hb dX7_readsAct_142 rfl (lv_at hl 1 rfl) ?_
  refine lv_bipush (v := 6) hx hb dX7_readsAct_143 (by decide) ?_
  refine lv_icmp_eq (tgt := 236) hx hb dX7_readsAct_145 (by decide) (fun c_15 => ?_) (fun c_15 => ?_)
  · have c_15' : w.toInt = 6 := i_eq c_15 rfl (by decide)
    exact lt_m_readsAct_d0 l D cI cZ cS cR N0 g h s0 rz wt na pa z t ct r_h r_na n_na r_pa n_pa r_wt n_wt r_t n_t krz ks0 kw0 kwt kna kpa kz kt l_rz u_rz l_s0 u_s0 hN_0 hWT_0 l_z u_z hc_0 hB hr   g1 w (0 : Int32) sp H locs ls hT hI hE hM (by omega) (by omega) (by decide) (by decide) (by omega) (by omega) kp0 kp1 kp2 hN hc hWT (by have e0_ : (0 : Int32).toInt = 0 := (by decide); omega) ⟨by omega, hwo.2.1, by omega, sp.toInt, by omega, Or.inl ⟨by omega, rfl⟩⟩ (lv_sub hl [1, 0, 2] rfl)
  · have c_15' : w.toInt ≠ 6 := i_ne c_15 rfl (by decide)
    refine lv_aload_n hx hb dX7_readsAct_148 rfl (lv_at hl 2 rfl) ?_
    refine lv_aload_n hx hb dX7_readsAct_149 rfl (lv_at hl 2 rfl) ?_
    refine t_get (ci := 7) (v := .int 0) hB hT (ro_ci r_1 rfl) rfl 37 (by decide) k_782 kp2 dX7_readsAct_150 ?_
    refine lv_if_ne (tgt := 184) hx hb dX7_readsAct_153 (by decide) (fun c_ => absurd (by decide) c_) (fun c_ => ?_)
    refine lv_aload_n hx hb dX7_readsAct_156 rfl (lv_at hl 2 rfl) ?_
    refine lv_aload_n hx hb dX7_readsAct_157 rfl (lv_at hl 2 rfl) ?_
    refine t_get (ci := 7) (v := .int sp) hB hT (ro_ci r_1 rfl) rfl 36 (by decide) k_781 kp1 dX7_readsAct_158 ?_
    refine t_callV (n := 1) (As := [.int sp]) (rest := [.ref h]) (ci := 7) hB hT hl.1 (m_byteAt l D cI cZ cS cR N0 g1 hI h sp z t ct r_1 r_8 n_9 kn_13 kn_14 (by omega) (by omega) (by omega) (by omega) hc) (ro_ci r_1 rfl) rfl k_971 k_65 k_968 k_970 k_23 (by decide +kernel) ⟨(Nat.le_of_ble_eq_true rfl), (Nat.le_of_ble_eq_true rfl)⟩ rfl (Nat.le_of_ble_eq_true rfl) ⟨(Nat.le_of_ble_eq_true rfl), (Nat.le_of_ble_eq_true rfl)⟩ dX7_readsAct_161 (fun v g_16 H locs hp hT => ?_)
    obtain ⟨r_17, rfl, eg, f_18, f_19, f_20⟩ := hp
    rw [eg] at hT
    clear eg
    refine W.eq (g2 := F0 m 164 ls [.int r_17, .ref h]) rfl ?_
    refine lv_bipush (v := 48) hx hb dX7_readsAct_164 (by decide) ?_
    refine lv_iload_n hx hb dX7_readsAct_166 rfl (lv_at hl 1 rfl) ?_
    refine lv_iconst (v := 5) hx hb dX7_readsAct_167 (by decide) ?_
    refine lv_icmp_ne (tgt := 176) hx hb dX7_readsAct_168 (by decide) (fun c_23 => ?_) (fun c_23 => ?_)
    · have c_23' : w.toInt ≠ 5 := i_ne c_23 rfl (by decide)
      refine lv_bipush (v := 51) hx hb dX7_readsAct_176 (by decide) ?_
      refine t_callS (n := 3) (As := [.int r_17, .int 48, .int 51]) (rest := [.ref h]) hB hT hl.1 (m_in l D cI cZ cS cR N0 g1 hI r_17 48 51 ) k_954 k_65 k_952 k_953 (by decide +kernel) ⟨(Nat.le_of_ble_eq_true rfl), (Nat.le_of_ble_eq_true rfl)⟩ rfl (Nat.le_of_ble_eq_true rfl) ⟨(Nat.le_of_ble_eq_true rfl), (Nat.le_of_ble_eq_true rfl)⟩ dX7_readsAct_178 (fun v g_24 H locs hp hT => ?_)
      obtain ⟨r_25, rfl, eg, f_26⟩ := hp
      rw [eg] at hT
      clear eg
      refine W.eq (g2 := F0 m 181 ls [.int r_25, .ref h]) rfl ?_
      have qc_29 : (48 : Int32).toInt = 48 := (by decide)
      have qc_30 : (51 : Int32).toInt = 51 := (by decide)
      rcases f_26 with ⟨rfl, hw_31, hw_32⟩ | ⟨rfl, hw_33⟩
      · refine W.eq (g2 := F0 m 181 ls [.int 1, .ref h]) rfl ?_
        refine lv_if_ne (tgt := 188) hx hb dX7_readsAct_181 (by decide) (fun c_ => ?_) (fun c_ => absurd c_ (by decide))
        refine lv_iconst (v := 0) hx hb dX7_readsAct_188 (by decide) ?_
        refine t_put0 (ci := 7) (v := .int 0) hB hT (ro_ci r_1 rfl) (ro_n0 r_1 (by decide)) rfl 37 (by decide) k_782 (Or.inl rfl) rfl rfl dX7_readsAct_189 (fun H locs hT => ?_)
        have hI : Inv (sF g1 h 37 (.int 0)) := hI.sF (p_8_37 r_1 (⟨_, rfl, by decide, by decide⟩))
        have hM : Sm md_m_readsAct g (sF g1 h 37 (.int 0)) := hM.tr hE (Sm_sF (by rw [r_1]; rfl))
        have hE : Ex g (sF g1 h 37 (.int 0)) := hE
        have hN : PL 8 (sF g1 h 37 (.int 0)) na pa := hN
        have hc : (sF g1 h 37 (.int 0)).2.2.2.1 t = ct := hc
        have hWT : WT (sF g1 h 37 (.int 0)) wt := hWT
        refine lv_aload_n hx hb dX7_readsAct_192 rfl (lv_at hl 2 rfl) ?_
        refine t_get (ci := 7) (v := .int 0) hB hT (ro_ci r_1 rfl) rfl 37 (by decide) k_782 sF_eq dX7_readsAct_193 ?_
        refine lv_if_eq (tgt := 203) hx hb dX7_readsAct_196 (by decide) (fun c_ => ?_) (fun c_ => absurd (by decide) c_)
        refine lv_aload_n hx hb dX7_readsAct_203 rfl (lv_at hl 2 rfl) ?_
        refine lv_aload_n hx hb dX7_readsAct_204 rfl (lv_at hl 2 rfl) ?_
        refine t_get (ci := 7) (v := .int sp) hB hT (ro_ci r_1 rfl) rfl 36 (by decide) k_781 (sF_k kp1 (by decide)) dX7_readsAct_205 ?_
        refine t_callV (n := 1) (As := [.int sp]) (rest := []) (ci := 7) hB hT hl.1 (m_byteAt l D cI cZ cS cR N0 (sF g1 h 37 (.int 0)) hI h sp z t ct r_1 r_8 n_9 (sF_k kn_13 (by decide)) (sF_k kn_14 (by decide)) (by omega) (by omega) (by omega) (by omega) hc) (ro_ci r_1 rfl) rfl k_971 k_65 k_968 k_970 k_23 (by decide +kernel) ⟨(Nat.le_of_ble_eq_true rfl), (Nat.le_of_ble_eq_true rfl)⟩ rfl (Nat.le_of_ble_eq_true rfl) ⟨(Nat.le_of_ble_eq_true rfl), (Nat.le_of_ble_eq_true rfl)⟩ dX7_readsAct_208 (fun v g_34 H locs hp hT => ?_)
        obtain ⟨r_35, rfl, eg, f_36, f_37, f_38⟩ := hp
        rw [eg] at hT
        clear eg
        refine W.eq (g2 := F0 m 211 ls [.int r_35]) rfl ?_
        refine lv_bipush (v := 48) hx hb dX7_readsAct_211 (by decide) ?_
        refine lv_isub hx hb dX7_readsAct_213 ?_
        refine lv_topi (fun z_41 ez_41 => ?_)
        have e_z_41 : z_41.toInt = r_35.toInt - 48 := i_sub ez_41 rfl (by decide) (by omega) (by omega)
        refine lv_istore_n (lv' := [(2, .int z_41), (1, .int w), (0, .ref h)]) hx hb dX7_readsAct_214 rfl hl (by decide) rfl (fun ls hl => ?_)
        refine lv_aload_n hx hb dX7_readsAct_215 rfl (lv_at hl 2 rfl) ?_
        refine lv_dup hx hb dX7_readsAct_216 rfl ?_
        refine t_get (ci := 7) (v := .int sp) hB hT (ro_ci r_1 rfl) rfl 36 (by decide) k_781 (sF_k kp1 (by decide)) dX7_readsAct_217 ?_
        refine lv_aload_n hx hb dX7_readsAct_220 rfl (lv_at hl 2 rfl) ?_
        refine t_get (ci := 7) (v := .int 0) hB hT (ro_ci r_1 rfl) rfl 37 (by decide) k_782 sF_eq dX7_readsAct_221 ?_
        refine lv_if_eq (tgt := 231) hx hb dX7_readsAct_224 (by decide) (fun c_ => ?_) (fun c_ => absurd (by decide) c_)
        refine lv_iconst (v := 1) hx hb dX7_readsAct_231 (by decide) ?_
        refine lv_iadd hx hb dX7_readsAct_232 ?_
        refine lv_topi (fun z_42 ez_42 => ?_)
        have e_z_42 : z_42.toInt = sp.toInt + 1 := i_add ez_42 rfl (by decide) (by omega) (by omega)
        refine t_put0 (ci := 7) (v := .int z_42) hB hT (ro_ci r_1 rfl) (ro_n0 r_1 (by decide)) rfl 36 (by decide) k_781 (Or.inl rfl) rfl rfl dX7_readsAct_233 (fun H locs hT => ?_)
        have hI : Inv (sF (sF g1 h 37 (.int 0)) h 36 (.int z_42)) := hI.sF (p_8_36 r_1 (⟨_, rfl, by omega, by omega⟩))
        have hM : Sm md_m_readsAct g (sF (sF g1 h 37 (.int 0)) h 36 (.int z_42)) := hM.tr hE (Sm_sF (by rw [r_1]; rfl))
        have hE : Ex g (sF (sF g1 h 37 (.int 0)) h 36 (.int z_42)) := hE
        have hN : PL 8 (sF (sF g1 h 37 (.int 0)) h 36 (.int z_42)) na pa := hN
        have hc : (sF (sF g1 h 37 (.int 0)) h 36 (.int z_42)).2.2.2.1 t = ct := hc
        have hWT : WT (sF (sF g1 h 37 (.int 0)) h 36 (.int z_42)) wt := hWT
        exact lt_m_readsAct_d0 l D cI cZ cS cR N0 g h s0 rz wt na pa z t ct r_h r_na n_na r_pa n_pa r_wt n_wt r_t n_t krz ks0 kw0 kwt kna kpa kz kt l_rz u_rz l_s0 u_s0 hN_0 hWT_0 l_z u_z hc_0 hB hr   (sF (sF g1 h 37 (.int 0)) h 36 (.int z_42)) w z_41 z_42 H locs ls hT hI hE hM (by omega) (by omega) (by omega) (by omega) (by omega) (by omega) (sF_k (sF_k kp0 (by decide)) (by decide)) sF_eq (sF_k sF_eq (by decide)) hN hc hWT (by have e0_ : (0 : Int32).toInt = 0 := (by decide); omega) ⟨by omega, hwo.2.1, by omega, sp.toInt, by omega, Or.inr ⟨by omega, by omega, (by have em_ : 3 = acm w.toInt := (em_3 (by omega) rfl); omega), by omega⟩⟩ (lv_sub hl [1, 0, 2] rfl)
      · refine W.eq (g2 := F0 m 181 ls [.int 0, .ref h]) rfl ?_
        refine lv_if_ne (tgt := 188) hx hb dX7_readsAct_181 (by decide) (fun c_ => absurd (by decide) c_) (fun c_ => ?_)
        refine lv_iconst (v := 1) hx hb dX7_readsAct_184 (by decide) ?_
        refine lv_goto (tgt := 189) hx hb dX7_readsAct_185 (by decide) ?_
        refine t_put0 (ci := 7) (v := .int 1) hB hT (ro_ci r_1 rfl) (ro_n0 r_1 (by decide)) rfl 37 (by decide) k_782 (Or.inl rfl) rfl rfl dX7_readsAct_189 (fun H locs hT => ?_)
        have hI : Inv (sF g1 h 37 (.int 1)) := hI.sF (p_8_37 r_1 (⟨_, rfl, by decide, by decide⟩))
        have hM : Sm md_m_readsAct g (sF g1 h 37 (.int 1)) := hM.tr hE (Sm_sF (by rw [r_1]; rfl))
        have hE : Ex g (sF g1 h 37 (.int 1)) := hE
        have hN : PL 8 (sF g1 h 37 (.int 1)) na pa := hN
        have hc : (sF g1 h 37 (.int 1)).2.2.2.1 t = ct := hc
        have hWT : WT (sF g1 h 37 (.int 1)) wt := hWT
        refine lv_aload_n hx hb dX7_readsAct_192 rfl (lv_at hl 2 rfl) ?_
        refine t_get (ci := 7) (v := .int 1) hB hT (ro_ci r_1 rfl) rfl 37 (by decide) k_782 sF_eq dX7_readsAct_193 ?_
        refine lv_if_eq (tgt := 203) hx hb dX7_readsAct_196 (by decide) (fun c_ => absurd c_ (by decide)) (fun c_ => ?_)
        refine lv_iconst (v := 0) hx hb dX7_readsAct_199 (by decide) ?_
        refine lv_goto (tgt := 214) hx hb dX7_readsAct_200 (by decide) ?_
        refine lv_istore_n (lv' := [(2, .int 0), (1, .int w), (0, .ref h)]) hx hb dX7_readsAct_214 rfl hl (by decide) rfl (fun ls hl => ?_)
        refine lv_aload_n hx hb dX7_readsAct_215 rfl (lv_at hl 2 rfl) ?_
        refine lv_dup hx hb dX7_readsAct_216 rfl ?_
        refine t_get (ci := 7) (v := .int sp) hB hT (ro_ci r_1 rfl) rfl 36 (by decide) k_781 (sF_k kp1 (by decide)) dX7_readsAct_217 ?_
        refine lv_aload_n hx hb dX7_readsAct_220 rfl (lv_at hl 2 rfl) ?_
        refine t_get (ci := 7) (v := .int 1) hB hT (ro_ci r_1 rfl) rfl 37 (by decide) k_782 sF_eq dX7_readsAct_221 ?_
        refine lv_if_eq (tgt := 231) hx hb dX7_readsAct_224 (by decide) (fun c_ => absurd c_ (by decide)) (fun c_ => ?_)
        refine lv_iconst (v := 0) hx hb dX7_readsAct_227 (by decide) ?_
        refine lv_goto (tgt := 232) hx hb dX7_readsAct_228 (by decide) ?_
        refine lv_iadd hx hb dX7_readsAct_232 ?_
        refine lv_topi (fun z_43 ez_43 => ?_)
        have e_z_43 : z_43.toInt = sp.toInt + 0 := i_add ez_43 rfl (by decide) (by omega) (by omega)
        refine t_put0 (ci := 7) (v := .int z_43) hB hT (ro_ci r_1 rfl) (ro_n0 r_1 (by decide)) rfl 36 (by decide) k_781 (Or.inl rfl) rfl rfl dX7_readsAct_233 (fun H locs hT => ?_)
        have hI : Inv (sF (sF g1 h 37 (.int 1)) h 36 (.int z_43)) := hI.sF (p_8_36 r_1 (⟨_, rfl, by omega, by omega⟩))
        have hM : Sm md_m_readsAct g (sF (sF g1 h 37 (.int 1)) h 36 (.int z_43)) := hM.tr hE (Sm_sF (by rw [r_1]; rfl))
        have hE : Ex g (sF (sF g1 h 37 (.int 1)) h 36 (.int z_43)) := hE
        have hN : PL 8 (sF (sF g1 h 37 (.int 1)) h 36 (.int z_43)) na pa := hN
        have hc : (sF (sF g1 h 37 (.int 1)) h 36 (.int z_43)).2.2.2.1 t = ct := hc
        have hWT : WT (sF (sF g1 h 37 (.int 1)) h 36 (.int z_43)) wt := hWT
        exact lt_m_readsAct_d1 l D cI cZ cS cR N0 g h s0 rz wt na pa z t ct r_h r_na n_na r_pa n_pa r_wt n_wt r_t n_t krz ks0 kw0 kwt kna kpa kz kt l_rz u_rz l_s0 u_s0 hN_0 hWT_0 l_z u_z hc_0 hB hr   (sF (sF g1 h 37 (.int 1)) h 36 (.int z_43)) w (0 : Int32) z_43 H locs ls hT hI hE hM (by omega) (by omega) (by decide) (by decide) (by omega) (by omega) (sF_k (sF_k kp0 (by decide)) (by decide)) sF_eq (sF_k sF_eq (by decide)) hN hc hWT (by have e0_ : (0 : Int32).toInt = 0 := (by decide); omega) (by rw [show z_43.toInt = sp.toInt by omega]; exact (ac_d (m := 3) hwo.2.1 (by omega) (by omega) (by omega) (em_3 (by omega) rfl) (by omega))) (lv_sub hl [1, 0, 2] rfl)
    · have c_23' : w.toInt = 5 := i_eq c_23 rfl (by decide)
      refine lv_bipush (v := 53) hx hb dX7_readsAct_171 (by decide) ?_
      refine lv_goto (tgt := 178) hx hb dX7_readsAct_173 (by decide) ?_
      refine t_callS (n := 3) (As := [.int r_17, .int 48, .int 53]) (rest := [.ref h]) hB hT hl.1 (m_in l D cI cZ cS cR N0 g1 hI r_17 48 53 ) k_954 k_65 k_952 k_953 (by decide +kernel) ⟨(Nat.le_of_ble_eq_true rfl), (Nat.le_of_ble_eq_true rfl)⟩ rfl (Nat.le_of_ble_eq_true rfl) ⟨(Nat.le_of_ble_eq_true rfl), (Nat.le_of_ble_eq_true rfl)⟩ dX7_readsAct_178 (fun v g_44 H locs hp hT => ?_)
      obtain ⟨r_45, rfl, eg, f_46⟩ := hp
      rw [eg] at hT
      clear eg
      refine W.eq (g2 := F0 m 181 ls [.int r_45, .ref h]) rfl ?_
      have qc_49 : (48 : Int32).toInt = 48 := (by decide)
      have qc_50 : (53 : Int32).toInt = 53 := (by decide)
      rcases f_46 with ⟨rfl, hw_51, hw_52⟩ | ⟨rfl, hw_53⟩
      · refine W.eq (g2 := F0 m 181 ls [.int 1, .ref h]) rfl ?_
        refine lv_if_ne (tgt := 188) hx hb dX7_readsAct_181 (by decide) (fun c_ => ?_) (fun c_ => absurd c_ (by decide))
        refine lv_iconst (v := 0) hx hb dX7_readsAct_188 (by decide) ?_
        refine t_put0 (ci := 7) (v := .int 0) hB hT (ro_ci r_1 rfl) (ro_n0 r_1 (by decide)) rfl 37 (by decide) k_782 (Or.inl rfl) rfl rfl dX7_readsAct_189 (fun H locs hT => ?_)
        have hI : Inv (sF g1 h 37 (.int 0)) := hI.sF (p_8_37 r_1 (⟨_, rfl, by decide, by decide⟩))
        have hM : Sm md_m_readsAct g (sF g1 h 37 (.int 0)) := hM.tr hE (Sm_sF (by rw [r_1]; rfl))
        have hE : Ex g (sF g1 h 37 (.int 0)) := hE
        have hN : PL 8 (sF g1 h 37 (.int 0)) na pa := hN
        have hc : (sF g1 h 37 (.int 0)).2.2.2.1 t = ct := hc
        have hWT : WT (sF g1 h 37 (.int 0)) wt := hWT
        refine lv_aload_n hx hb dX7_readsAct_192 rfl (lv_at hl 2 rfl) ?_
        refine t_get (ci := 7) (v := .int 0) hB hT (ro_ci r_1 rfl) rfl 37 (by decide) k_782 sF_eq dX7_readsAct_193 ?_
        refine lv_if_eq (tgt := 203) hx hb dX7_readsAct_196 (by decide) (fun c_ => ?_) (fun c_ => absurd (by decide) c_)
        refine lv_aload_n hx hb dX7_readsAct_203 rfl (lv_at hl 2 rfl) ?_
        refine lv_aload_n hx hb dX7_readsAct_204 rfl (lv_at hl 2 rfl) ?_
        refine t_get (ci := 7) (v := .int sp) hB hT (ro_ci r_1 rfl) rfl 36 (by decide) k_781 (sF_k kp1 (by decide)) dX7_readsAct_205 ?_
        refine t_callV (n := 1) (As := [.int sp]) (rest := []) (ci := 7) hB hT hl.1 (m_byteAt l D cI cZ cS cR N0 (sF g1 h 37 (.int 0)) hI h sp z t ct r_1 r_8 n_9 (sF_k kn_13 (by decide)) (sF_k kn_14 (by decide)) (by omega) (by omega) (by omega) (by omega) hc) (ro_ci r_1 rfl) rfl k_971 k_65 k_968 k_970 k_23 (by decide +kernel) ⟨(Nat.le_of_ble_eq_true rfl), (Nat.le_of_ble_eq_true rfl)⟩ rfl (Nat.le_of_ble_eq_true rfl) ⟨(Nat.le_of_ble_eq_true rfl), (Nat.le_of_ble_eq_true rfl)⟩ dX7_readsAct_208 (fun v g_54 H locs hp hT => ?_)
        obtain ⟨r_55, rfl, eg, f_56, f_57, f_58⟩ := hp
        rw [eg] at hT
        clear eg
        refine W.eq (g2 := F0 m 211 ls [.int r_55]) rfl ?_
        refine lv_bipush (v := 48) hx hb dX7_readsAct_211 (by decide) ?_
        refine lv_isub hx hb dX7_readsAct_213 ?_
        refine lv_topi (fun z_61 ez_61 => ?_)
        have e_z_61 : z_61.toInt = r_55.toInt - 48 := i_sub ez_61 rfl (by decide) (by omega) (by omega)
        refine lv_istore_n (lv' := [(2, .int z_61), (1, .int w), (0, .ref h)]) hx hb dX7_readsAct_214 rfl hl (by decide) rfl (fun ls hl => ?_)
        refine lv_aload_n hx hb dX7_readsAct_215 rfl (lv_at hl 2 rfl) ?_
        refine lv_dup hx hb dX7_readsAct_216 rfl ?_
        refine t_get (ci := 7) (v := .int sp) hB hT (ro_ci r_1 rfl) rfl 36 (by decide) k_781 (sF_k kp1 (by decide)) dX7_readsAct_217 ?_
        refine lv_aload_n hx hb dX7_readsAct_220 rfl (lv_at hl 2 rfl) ?_
        refine t_get (ci := 7) (v := .int 0) hB hT (ro_ci r_1 rfl) rfl 37 (by decide) k_782 sF_eq dX7_readsAct_221 ?_
        refine lv_if_eq (tgt := 231) hx hb dX7_readsAct_224 (by decide) (fun c_ => ?_) (fun c_ => absurd (by decide) c_)
        refine lv_iconst (v := 1) hx hb dX7_readsAct_231 (by decide) ?_
        refine lv_iadd hx hb dX7_readsAct_232 ?_
        refine lv_topi (fun z_62 ez_62 => ?_)
        have e_z_62 : z_62.toInt = sp.toInt + 1 := i_add ez_62 rfl (by decide) (by omega) (by omega)
        refine t_put0 (ci := 7) (v := .int z_62) hB hT (ro_ci r_1 rfl) (ro_n0 r_1 (by decide)) rfl 36 (by decide) k_781 (Or.inl rfl) rfl rfl dX7_readsAct_233 (fun H locs hT => ?_)
        have hI : Inv (sF (sF g1 h 37 (.int 0)) h 36 (.int z_62)) := hI.sF (p_8_36 r_1 (⟨_, rfl, by omega, by omega⟩))
        have hM : Sm md_m_readsAct g (sF (sF g1 h 37 (.int 0)) h 36 (.int z_62)) := hM.tr hE (Sm_sF (by rw [r_1]; rfl))
        have hE : Ex g (sF (sF g1 h 37 (.int 0)) h 36 (.int z_62)) := hE
        have hN : PL 8 (sF (sF g1 h 37 (.int 0)) h 36 (.int z_62)) na pa := hN
        have hc : (sF (sF g1 h 37 (.int 0)) h 36 (.int z_62)).2.2.2.1 t = ct := hc
        have hWT : WT (sF (sF g1 h 37 (.int 0)) h 36 (.int z_62)) wt := hWT
        exact lt_m_readsAct_d0 l D cI cZ cS cR N0 g h s0 rz wt na pa z t ct r_h r_na n_na r_pa n_pa r_wt n_wt r_t n_t krz ks0 kw0 kwt kna kpa kz kt l_rz u_rz l_s0 u_s0 hN_0 hWT_0 l_z u_z hc_0 hB hr   (sF (sF g1 h 37 (.int 0)) h 36 (.int z_62)) w z_61 z_62 H locs ls hT hI hE hM (by omega) (by omega) (by omega) (by omega) (by omega) (by omega) (sF_k (sF_k kp0 (by decide)) (by decide)) sF_eq (sF_k sF_eq (by decide)) hN hc hWT (by have e0_ : (0 : Int32).toInt = 0 := (by decide); omega) ⟨by omega, hwo.2.1, by omega, sp.toInt, by omega, Or.inr ⟨by omega, by omega, (by have em_ : 5 = acm w.toInt := (em_5 (by omega) rfl); omega), by omega⟩⟩ (lv_sub hl [1, 0, 2] rfl)
      · refine W.eq (g2 := F0 m 181 ls [.int 0, .ref h]) rfl ?_
        refine lv_if_ne (tgt := 188) hx hb dX7_readsAct_181 (by decide) (fun c_ => absurd (by decide) c_) (fun c_ => ?_)
        refine lv_iconst (v := 1) hx hb dX7_readsAct_184 (by decide) ?_
        refine lv_goto (tgt := 189) hx hb dX7_readsAct_185 (by decide) ?_
        refine t_put0 (ci := 7) (v := .int 1) hB hT (ro_ci r_1 rfl) (ro_n0 r_1 (by decide)) rfl 37 (by decide) k_782 (Or.inl rfl) rfl rfl dX7_readsAct_189 (fun H locs hT => ?_)
        have hI : Inv (sF g1 h 37 (.int 1)) := hI.sF (p_8_37 r_1 (⟨_, rfl, by decide, by decide⟩))
        have hM : Sm md_m_readsAct g (sF g1 h 37 (.int 1)) := hM.tr hE (Sm_sF (by rw [r_1]; rfl))
        have hE : Ex g (sF g1 h 37 (.int 1)) := hE
        have hN : PL 8 (sF g1 h 37 (.int 1)) na pa := hN
        have hc : (sF g1 h 37 (.int 1)).2.2.2.1 t = ct := hc
        have hWT : WT (sF g1 h 37 (.int 1)) wt := hWT
        refine lv_aload_n hx hb dX7_readsAct_192 rfl (lv_at hl 2 rfl) ?_
        refine t_get (ci := 7) (v := .int 1) hB hT (ro_ci r_1 rfl) rfl 37 (by decide) k_782 sF_eq dX7_readsAct_193 ?_
        refine lv_if_eq (tgt := 203) hx hb dX7_readsAct_196 (by decide) (fun c_ => absurd c_ (by decide)) (fun c_ => ?_)
        refine lv_iconst (v := 0) hx hb dX7_readsAct_199 (by decide) ?_
        refine lv_goto (tgt := 214) hx hb dX7_readsAct_200 (by decide) ?_
        refine lv_istore_n (lv' := [(2, .int 0), (1, .int w), (0, .ref h)]) hx hb dX7_readsAct_214 rfl hl (by decide) rfl (fun ls hl => ?_)
        refine lv_aload_n hx hb dX7_readsAct_215 rfl (lv_at hl 2 rfl) ?_
        refine lv_dup hx hb dX7_readsAct_216 rfl ?_
        refine t_get (ci := 7) (v := .int sp) hB hT (ro_ci r_1 rfl) rfl 36 (by decide) k_781 (sF_k kp1 (by decide)) dX7_readsAct_217 ?_
        refine lv_aload_n hx hb dX7_readsAct_220 rfl (lv_at hl 2 rfl) ?_
        refine t_get (ci := 7) (v := .int 1) hB hT (ro_ci r_1 rfl) rfl 37 (by decide) k_782 sF_eq dX7_readsAct_221 ?_
        refine lv_if_eq (tgt := 231) hx hb dX7_readsAct_224 (by decide) (fun c_ => absurd c_ (by decide)) (fun c_ => ?_)
        refine lv_iconst (v := 0) hx hb dX7_readsAct_227 (by decide) ?_
        refine lv_goto (tgt := 232) hx hb dX7_readsAct_228 (by decide) ?_
        refine lv_iadd hx hb dX7_readsAct_232 ?_
        refine lv_topi (fun z_63 ez_63 => ?_)
        have e_z_63 : z_63.toInt = sp.toInt + 0 := i_add ez_63 rfl (by decide) (by omega) (by omega)
        refine t_put0 (ci := 7) (v := .int z_63) hB hT (ro_ci r_1 rfl) (ro_n0 r_1 (by decide)) rfl 36 (by decide) k_781 (Or.inl rfl) rfl rfl dX7_readsAct_233 (fun H locs hT => ?_)
        have hI : Inv (sF (sF g1 h 37 (.int 1)) h 36 (.int z_63)) := hI.sF (p_8_36 r_1 (⟨_, rfl, by omega, by omega⟩))
        have hM : Sm md_m_readsAct g (sF (sF g1 h 37 (.int 1)) h 36 (.int z_63)) := hM.tr hE (Sm_sF (by rw [r_1]; rfl))
        have hE : Ex g (sF (sF g1 h 37 (.int 1)) h 36 (.int z_63)) := hE
        have hN : PL 8 (sF (sF g1 h 37 (.int 1)) h 36 (.int z_63)) na pa := hN
        have hc : (sF (sF g1 h 37 (.int 1)) h 36 (.int z_63)).2.2.2.1 t = ct := hc
        have hWT : WT (sF (sF g1 h 37 (.int 1)) h 36 (.int z_63)) wt := hWT
        exact lt_m_readsAct_d1 l D cI cZ cS cR N0 g h s0 rz wt na pa z t ct r_h r_na n_na r_pa n_pa r_wt n_wt r_t n_t krz ks0 kw0 kwt kna kpa kz kt l_rz u_rz l_s0 u_s0 hN_0 hWT_0 l_z u_z hc_0 hB hr   (sF (sF g1 h 37 (.int 1)) h 36 (.int z_63)) w (0 : Int32) z_63 H locs ls hT hI hE hM (by omega) (by omega) (by decide) (by decide) (by omega) (by omega) (sF_k (sF_k kp0 (by decide)) (by decide)) sF_eq (sF_k sF_eq (by decide)) hN hc hWT (by have e0_ : (0 : Int32).toInt = 0 := (by decide); omega) (by rw [show z_63.toInt = sp.toInt by omega]; exact (ac_d (m := 5) hwo.2.1 (by omega) (by omega) (by omega) (em_5 (by omega) rfl) (by omega))) (lv_sub hl [1, 0, 2] rfl)
set_option maxHeartbeats 4000000 in
set_option maxRecDepth 100000 in
theorem lt_m_readsAct_c1 (l : Launch) (D : va_G) (cI cZ cS cR : ClassId) (N0 : NT) (g : GS) (h : Nat) (s0 : Int32) (rz : Int32) (wt : Nat) (na : Nat) (pa : Nat) (z : Int32) (t : Nat) (ct : Nat → Int32) (r_h : g.1 h = 8) (r_na : g.1 na = 84) (n_na : g.2.2.1 na = 8) (r_pa : g.1 pa = 85) (n_pa : g.2.2.1 pa = 8) (r_wt : g.1 wt = 87) (n_wt : g.2.2.1 wt = 24) (r_t : g.1 t = 79) (n_t : g.2.2.1 t = 100) (krz : g.2.1 h 38 = .int rz) (ks0 : g.2.1 h 36 = .int s0) (kw0 : g.2.1 h 37 = .int 0) (kwt : g.2.1 h 42 = .ref wt) (kna : g.2.1 h 39 = .ref na) (kpa : g.2.1 h 40 = .ref pa) (kz : g.2.1 h 29 = .int z) (kt : g.2.1 h 28 = .ref t) (l_rz : 0 ≤ rz.toInt) (u_rz : rz.toInt ≤ 7) (l_s0 : 0 ≤ s0.toInt) (u_s0 : s0.toInt ≤ 100) (hN_0 : PL 8 g na pa) (hWT_0 : WT g wt) (l_z : 0 ≤ z.toInt) (u_z : z.toInt ≤ 100) (hc_0 : g.2.2.2.1 t = ct) {p : Program} {e : Env} {s : State} {m : MethodId} {args : Array Value} {below : List Frame} {meth : Method} {c : Code} (hB : Tz p s m meth c args cX7_readsAct 4 RX7 D cI cZ cS cR N0) (hr : meth.sig.returnType = none)    : ∀ (g1 : GS) (w : Int32) (sp : Int32)  (H : Heap) (locs : List Loc) (ls : Array Slot), Tv D cI cZ cS cR N0 s.heap H locs g1 → Inv g1 → Ex g g1 → Sm md_m_readsAct g g1 → 0 ≤ w.toInt → w.toInt ≤ 8 → 0 ≤ sp.toInt → sp.toInt ≤ 100 → g1.2.1 h 38 = .int rz → g1.2.1 h 36 = .int sp → g1.2.1 h 37 = .int 1 → (PL 8 g1 na pa) → (g1.2.2.2.1 t = ct) → (WT g1 wt) → (ac (txb ct z.toInt) s0.toInt = (false, sp.toInt)) → lv_has ls 4 [(1, .int w), (0, .ref h)] → W p l e (rmx 2 0 0) s m args below meth c H locs 0 0 (MQ below (tQ D cI cZ cS cR N0 (fun v g' => ∃ (z2 : Int32) (s2 : Int32) (w2 : Int32), v = none ∧ Inv g' ∧ Ex g g' ∧ Sm md_m_readsAct g g' ∧ ((w2 = 1 ∧ ac (txb ct z.toInt) s0.toInt = (false, s2.toInt)) ∨ (w2 = 0 ∧ ac (txb ct z.toInt) s0.toInt = (true, s2.toInt) ∧ s2.toInt ≤ z.toInt)) ∧ (g'.2.1 h 38 = .int z2) ∧ (z2.toInt = rz.toInt + 1) ∧ (PL 8 g' na pa) ∧ (g'.2.1 h 36 = .int s2) ∧ (g'.2.1 h 37 = .int w2) ∧ (0 ≤ s2.toInt ∧ s2.toInt ≤ 100))) args s 0 0 (fun q => N0.1 ≤ q)) (F0 m 140 ls []) := by
  have hx := hB.1
  have hb := hB.2.1
  intro g1 w sp H locs ls hT hI hE hM l_w u_w l_sp u_sp kp0 kp1 kp2 hN hc hWT hac hl
  have r_1 : g1.1 h = 8 := Ex.r hE r_h (by decide)
  have r_2 : g1.1 na = 84 := Ex.r hE r_na (by decide)
  have n_3 : g1.2.2.1 na = 8 := Ex.n hE r_na (by decide) n_na
  have r_4 : g1.1 pa = 85 := Ex.r hE r_pa (by decide)
  have n_5 : g1.2.2.1 pa = 8 := Ex.n hE r_pa (by decide) n_pa
  have r_6 : g1.1 wt = 87 := Ex.r hE r_wt (by decide)
  have n_7 : g1.2.2.1 wt = 24 := Ex.n hE r_wt (by decide) n_wt
  have r_8 : g1.1 t = 79 := Ex.r hE r_t (by decide)
  have n_9 : g1.2.2.1 t = 100 := Ex.n hE r_t (by decide) n_t
  have kn_10 : g1.2.1 h 42 = .ref wt := Sm.v hM r_h (by decide) rfl kwt
  have kn_11 : g1.2.1 h 39 = .ref na := Sm.v hM r_h (by decide) rfl kna
  have kn_12 : g1.2.1 h 40 = .ref pa := Sm.v hM r_h (by decide) rfl kpa
  have kn_13 : g1.2.1 h 29 = .int z := Sm.v hM r_h (by decide) rfl kz
  have kn_14 : g1.2.1 h 28 = .ref t := Sm.v hM r_h (by decide) rfl kt
  refine lv_iconst (v := 0) hx hb dX7_readsAct_140 (by decide) ?_
  refine lv_istore_n (lv' := [(2, .int 0), (1, .int w), (0, .ref h)]) hx hb dX7_readsAct_141 rfl hl (by decide) rfl (fun ls hl => ?_)
  refine lv_iload_n hx hb dX7_readsAct_142 rfl (lv_at hl 1 rfl) ?_
  refine lv_bipush (v := 6) hx hb dX7_readsAct_143 (by decide) ?_
  refine lv_icmp_eq (tgt := 236) hx hb dX7_readsAct_145 (by decide) (fun c_15 => ?_) (fun c_15 => ?_)
  · have c_15' : w.toInt = 6 := i_eq c_15 rfl (by decide)
    exact lt_m_readsAct_d1 l D cI cZ cS cR N0 g h s0 rz wt na pa z t ct r_h r_na n_na r_pa n_pa r_wt n_wt r_t n_t krz ks0 kw0 kwt kna kpa kz kt l_rz u_rz l_s0 u_s0 hN_0 hWT_0 l_z u_z hc_0 hB hr   g1 w (0 : Int32) sp H locs ls hT hI hE hM (by omega) (by omega) (by decide) (by decide) (by omega) (by omega) kp0 kp1 kp2 hN hc hWT (by have e0_ : (0 : Int32).toInt = 0 := (by decide); omega) hac (lv_sub hl [1, 0, 2] rfl)
  · have c_15' : w.toInt ≠ 6 := i_ne c_15 rfl (by decide)
    refine lv_aload_n hx hb dX7_readsAct_148 rfl (lv_at hl 2 rfl) ?_
    refine lv_aload_n hx hb dX7_readsAct_149 rfl (lv_at hl 2 rfl) ?_
    refine t_get (ci := 7) (v := .int 1) hB hT (ro_ci r_1 rfl) rfl 37 (by decide) k_782 kp2 dX7_readsAct_150 ?_
    refine lv_if_ne (tgt := 184) hx hb dX7_readsAct_153 (by decide) (fun c_ => ?_) (fun c_ => absurd c_ (by decide))
    refine lv_iconst (v := 1) hx hb dX7_readsAct_184 (by decide) ?_
    refine lv_goto (tgt := 189) hx hb dX7_readsAct_185 (by decide) ?_
    refine t_put0 (ci := 7) (v := .int 1) hB hT (ro_ci r_1 rfl) (ro_n0 r_1 (by decide)) rfl 37 (by decide) k_782 (Or.inl rfl) rfl rfl dX7_readsAct_189 (fun H locs hT => ?_)
    have hI : Inv (sF g1 h 37 (.int 1)) := hI.sF (p_8_37 r_1 (⟨_, rfl, by decide, by decide⟩))
    have hM : Sm md_m_readsAct g (sF g1 h 37 (.int 1)) := hM.tr hE (Sm_sF (by rw [r_1]; rfl))
    have hE : Ex g (sF g1 h 37 (.int 1)) := hE
    have hN : PL 8 (sF g1 h 37 (.int 1)) na pa := hN
    have hc : (sF g1 h 37 (.int 1)).2.2.2.1 t = ct := hc
    have hWT : WT (sF g1 h 37 (.int 1)) wt := hWT
    refine lv_aload_n hx hb dX7_readsAct_192 rfl (lv_at hl 2 rfl) ?_
    refine t_get (ci := 7) (v := .int 1) hB hT (ro_ci r_1 rfl) rfl 37 (by decide) k_782 sF_eq dX7_readsAct_193 ?_
    refine lv_if_eq (tgt := 203) hx hb dX7_readsAct_196 (by decide) (fun c_ => absurd c_ (by decide)) (fun c_ => ?_)
    refine lv_iconst (v := 0) hx hb dX7_readsAct_199 (by decide) ?_
    refine lv_goto (tgt := 214) hx hb dX7_readsAct_200 (by decide) ?_
    refine lv_istore_n (lv' := [(2, .int 0), (1, .int w), (0, .ref h)]) hx hb dX7_readsAct_214 rfl hl (by decide) rfl (fun ls hl => ?_)
    refine lv_aload_n hx hb dX7_readsAct_215 rfl (lv_at hl 2 rfl) ?_
    refine lv_dup hx hb dX7_readsAct_216 rfl ?_
    refine t_get (ci := 7) (v := .int sp) hB hT (ro_ci r_1 rfl) rfl 36 (by decide) k_781 (sF_k kp1 (by decide)) dX7_readsAct_217 ?_
    refine lv_aload_n hx hb dX7_readsAct_220 rfl (lv_at hl 2 rfl) ?_
    refine t_get (ci := 7) (v := .int 1) hB hT (ro_ci r_1 rfl) rfl 37 (by decide) k_782 sF_eq dX7_readsAct_221 ?_
    refine lv_if_eq (tgt := 231) hx hb dX7_readsAct_224 (by decide) (fun c_ => absurd c_ (by decide)) (fun c_ => ?_)
    refine lv_iconst (v := 0) hx hb dX7_readsAct_227 (by decide) ?_
    refine lv_goto (tgt := 232) hx hb dX7_readsAct_228 (by decide) ?_
    refine lv_iadd hx hb dX7_readsAct_232 ?_
    refine lv_topi (fun z_16 ez_16 => ?_)
    have e_z_16 : z_16.toInt = sp.toInt + 0 := i_add ez_16 rfl (by decide) (by omega) (by omega)
    refine t_put0 (ci := 7) (v := .int z_16) hB hT (ro_ci r_1 rfl) (ro_n0 r_1 (by decide)) rfl 36 (by decide) k_781 (Or.inl rfl) rfl rfl dX7_readsAct_233 (fun H locs hT => ?_)
    have hI : Inv (sF (sF g1 h 37 (.int 1)) h 36 (.int z_16)) := hI.sF (p_8_36 r_1 (⟨_, rfl, by omega, by omega⟩))
    have hM : Sm md_m_readsAct g (sF (sF g1 h 37 (.int 1)) h 36 (.int z_16)) := hM.tr hE (Sm_sF (by rw [r_1]; rfl))
    have hE : Ex g (sF (sF g1 h 37 (.int 1)) h 36 (.int z_16)) := hE
    have hN : PL 8 (sF (sF g1 h 37 (.int 1)) h 36 (.int z_16)) na pa := hN
    have hc : (sF (sF g1 h 37 (.int 1)) h 36 (.int z_16)).2.2.2.1 t = ct := hc
    have hWT : WT (sF (sF g1 h 37 (.int 1)) h 36 (.int z_16)) wt := hWT
    exact lt_m_readsAct_d1 l D cI cZ cS cR N0 g h s0 rz wt na pa z t ct r_h r_na n_na r_pa n_pa r_wt n_wt r_t n_t krz ks0 kw0 kwt kna kpa kz kt l_rz u_rz l_s0 u_s0 hN_0 hWT_0 l_z u_z hc_0 hB hr   (sF (sF g1 h 37 (.int 1)) h 36 (.int z_16)) w (0 : Int32) z_16 H locs ls hT hI hE hM (by omega) (by omega) (by decide) (by decide) (by omega) (by omega) (sF_k (sF_k kp0 (by decide)) (by decide)) sF_eq (sF_k sF_eq (by decide)) hN hc hWT (by have e0_ : (0 : Int32).toInt = 0 := (by decide); omega) (by rw [show z_16.toInt = sp.toInt by omega]; exact hac) (lv_sub hl [1, 0, 2] rfl)
set_option maxHeartbeats 4000000 in
set_option maxRecDepth 100000 in
theorem lt_m_readsAct_w8 (l : Launch) (D : va_G) (cI cZ cS cR : ClassId) (N0 : NT) (g : GS) (h : Nat) (s0 : Int32) (rz : Int32) (wt : Nat) (na : Nat) (pa : Nat) (z : Int32) (t : Nat) (ct : Nat → Int32) (r_h : g.1 h = 8) (r_na : g.1 na = 84) (n_na : g.2.2.1 na = 8) (r_pa : g.1 pa = 85) (n_pa : g.2.2.1 pa = 8) (r_wt : g.1 wt = 87) (n_wt : g.2.2.1 wt = 24) (r_t : g.1 t = 79) (n_t : g.2.2.1 t = 100) (krz : g.2.1 h 38 = .int rz) (ks0 : g.2.1 h 36 = .int s0) (kw0 : g.2.1 h 37 = .int 0) (kwt : g.2.1 h 42 = .ref wt) (kna : g.2.1 h 39 = .ref na) (kpa : g.2.1 h 40 = .ref pa) (kz : g.2.1 h 29 = .int z) (kt : g.2.1 h 28 = .ref t) (l_rz : 0 ≤ rz.toInt) (u_rz : rz.toInt ≤ 7) (l_s0 : 0 ≤ s0.toInt) (u_s0 : s0.toInt ≤ 100) (hN_0 : PL 8 g na pa) (hWT_0 : WT g wt) (l_z : 0 ≤ z.toInt) (u_z : z.toInt ≤ 100) (hc_0 : g.2.2.2.1 t = ct) {p : Program} {e : Env} {s : State} {m : MethodId} {args : Array Value} {below : List Frame} {meth : Method} {c : Code} (hB : Tz p s m meth c args cX7_readsAct 4 RX7 D cI cZ cS cR N0) (hr : meth.sig.returnType = none)    : ∀ (g1 : GS)   (H : Heap) (locs : List Loc) (ls : Array Slot), Tv D cI cZ cS cR N0 s.heap H locs g1 → Inv g1 → Ex g g1 → Sm md_m_readsAct g g1 → g1.2.1 h 38 = .int rz → g1.2.1 h 36 = .int s0 → g1.2.1 h 37 = .int 0 → (PL 8 g1 na pa) → (g1.2.2.2.1 t = ct) → (WT g1 wt) → (¬ ((txb ct z.toInt) s0.toInt = 97 ∧ (txb ct z.toInt) (s0.toInt + 1) = 115) ∧ (txb ct z.toInt) s0.toInt ≠ 115 ∧ (txb ct z.toInt) s0.toInt ≠ 97 ∧ (txb ct z.toInt) s0.toInt ≠ 109 ∧ (txb ct z.toInt) s0.toInt ≠ 110 ∧ (txb ct z.toInt) s0.toInt ≠ 103 ∧ (txb ct z.toInt) s0.toInt ≠ 97 ∧ (txb ct z.toInt) s0.toInt ≠ 100 ∧ (txb ct z.toInt) s0.toInt ≠ 105) → lv_has ls 4 [(1, .int 8), (0, .ref h)] → W p l e (rmx 2 0 0) s m args below meth c H locs 0 0 (MQ below (tQ D cI cZ cS cR N0 (fun v g' => ∃ (z2 : Int32) (s2 : Int32) (w2 : Int32), v = none ∧ Inv g' ∧ Ex g g' ∧ Sm md_m_readsAct g g' ∧ ((w2 = 1 ∧ ac (txb ct z.toInt) s0.toInt = (false, s2.toInt)) ∨ (w2 = 0 ∧ ac (txb ct z.toInt) s0.toInt = (true, s2.toInt) ∧ s2.toInt ≤ z.toInt)) ∧ (g'.2.1 h 38 = .int z2) ∧ (z2.toInt = rz.toInt + 1) ∧ (PL 8 g' na pa) ∧ (g'.2.1 h 36 = .int s2) ∧ (g'.2.1 h 37 = .int w2) ∧ (0 ≤ s2.toInt ∧ s2.toInt ≤ 100))) args s 0 0 (fun q => N0.1 ≤ q)) (F0 m 34 ls []) := by
  have hx := hB.1
  have hb := hB.2.1
  intro g1 H locs ls hT hI hE hM kp0 kp1 kp2 hN hc hWT hS hl
  have r_1 : g1.1 h = 8 := Ex.r hE r_h (by decide)
  have r_2 : g1.1 na = 84 := Ex.r hE r_na (by decide)
  have n_3 : g1.2.2.1 na = 8 := Ex.n hE r_na (by decide) n_na
  have r_4 : g1.1 pa = 85 := Ex.r hE r_pa (by decide)
  have n_5 : g1.2.2.1 pa = 8 := Ex.n hE r_pa (by decide) n_pa
  have r_6 : g1.1 wt = 87 := Ex.r hE r_wt (by decide)
  have n_7 : g1.2.2.1 wt = 24 := Ex.n hE r_wt (by decide) n_wt
  have r_8 : g1.1 t = 79 := Ex.r hE r_t (by decide)
  have n_9 : g1.2.2.1 t = 100 := Ex.n hE r_t (by decide) n_t
  have kn_10 : g1.2.1 h 42 = .ref wt := Sm.v hM r_h (by decide) rfl kwt
  have kn_11 : g1.2.1 h 39 = .ref na := Sm.v hM r_h (by decide) rfl kna
  have kn_12 : g1.2.1 h 40 = .ref pa := Sm.v hM r_h (by decide) rfl kpa
  have kn_13 : g1.2.1 h 29 = .int z := Sm.v hM r_h (by decide) rfl kz
  have kn_14 : g1.2.1 h 28 = .ref t := Sm.v hM r_h (by decide) rfl kt
  refine lv_iload_n hx hb dX7_readsAct_34 rfl (lv_at hl 0 rfl) ?_
  refine lv_bipush (v := 8) hx hb dX7_readsAct_35 (by decide) ?_
  refine lv_icmp_ge (tgt := 65) hx hb dX7_readsAct_37 (by decide) (fun c_ => ?_) (fun c_ => absurd (by decide) c_)
  refine lv_aload_n hx hb dX7_readsAct_65 rfl (lv_at hl 1 rfl) ?_
  refine lv_aload_n hx hb dX7_readsAct_66 rfl (lv_at hl 1 rfl) ?_
  refine t_get (ci := 7) (v := .int 0) hB hT (ro_ci r_1 rfl) rfl 37 (by decide) k_782 kp2 dX7_readsAct_67 ?_
  refine lv_if_ne (tgt := 79) hx hb dX7_readsAct_70 (by decide) (fun c_ => absurd (by decide) c_) (fun c_ => ?_)
  refine lv_iload_n hx hb dX7_readsAct_73 rfl (lv_at hl 0 rfl) ?_
  refine lv_bipush (v := 8) hx hb dX7_readsAct_74 (by decide) ?_
  refine lv_icmp_ne (tgt := 83) hx hb dX7_readsAct_76 (by decide) (fun c_ => absurd (by decide) c_) (fun c_ => ?_)
  refine lv_iconst (v := 1) hx hb dX7_readsAct_79 (by decide) ?_
  refine lv_goto (tgt := 84) hx hb dX7_readsAct_80 (by decide) ?_
  refine t_put0 (ci := 7) (v := .int 1) hB hT (ro_ci r_1 rfl) (ro_n0 r_1 (by decide)) rfl 37 (by decide) k_782 (Or.inl rfl) rfl rfl dX7_readsAct_84 (fun H locs hT => ?_)
  have hI : Inv (sF g1 h 37 (.int 1)) := hI.sF (p_8_37 r_1 (⟨_, rfl, by decide, by decide⟩))
  have hM : Sm md_m_readsAct g (sF g1 h 37 (.int 1)) := hM.tr hE (Sm_sF (by rw [r_1]; rfl))
  have hE : Ex g (sF g1 h 37 (.int 1)) := hE
  have hN : PL 8 (sF g1 h 37 (.int 1)) na pa := hN
  have hc : (sF g1 h 37 (.int 1)).2.2.2.1 t = ct := hc
  have hWT : WT (sF g1 h 37 (.int 1)) wt := hWT
  refine lv_iconst (v := 0) hx hb dX7_readsAct_87 (by decide) ?_
  refine lv_istore_n (lv' := [(2, .int 0), (1, .int 8), (0, .ref h)]) hx hb dX7_readsAct_88 rfl hl (by decide) rfl (fun ls hl => ?_)
  refine lv_iload_n hx hb dX7_readsAct_89 rfl (lv_at hl 0 rfl) ?_
  refine lv_iconst (v := 3) hx hb dX7_readsAct_90 (by decide) ?_
  refine lv_icmp_ge (tgt := 134) hx hb dX7_readsAct_91 (by decide) (fun c_ => absurd c_ (by decide)) (fun c_ => ?_)
  refine lv_aload_n hx hb dX7_readsAct_94 rfl (lv_at hl 2 rfl) ?_
  refine t_get (ci := 7) (v := .int 1) hB hT (ro_ci r_1 rfl) rfl 37 (by decide) k_782 sF_eq dX7_readsAct_95 ?_
  refine lv_if_ne (tgt := 134) hx hb dX7_readsAct_98 (by decide) (fun c_ => ?_) (fun c_ => absurd c_ (by decide))
  refine lv_aload_n hx hb dX7_readsAct_134 rfl (lv_at hl 2 rfl) ?_
  refine lv_bipush (v := 32) hx hb dX7_readsAct_135 (by decide) ?_
  refine t_callV (n := 1) (As := [.int 32]) (rest := []) (ci := 7) hB hT hl.1 (m_must l D cI cZ cS cR N0 (sF g1 h 37 (.int 1)) hI h 32 s0 1 z t ct r_1 r_8 n_9 (sF_k kp1 (by decide)) sF_eq (sF_k kn_13 (by decide)) (sF_k kn_14 (by decide)) (by have q0 : (1 : Int32).toInt = 1 := (by decide); have q1 : (32 : Int32).toInt = 32 := (by decide); omega) (by have q0 : (1 : Int32).toInt = 1 := (by decide); have q1 : (32 : Int32).toInt = 32 := (by decide); omega) (by have q0 : (1 : Int32).toInt = 1 := (by decide); have q1 : (32 : Int32).toInt = 32 := (by decide); omega) (by have q0 : (1 : Int32).toInt = 1 := (by decide); have q1 : (32 : Int32).toInt = 32 := (by decide); omega) (by have q0 : (1 : Int32).toInt = 1 := (by decide); have q1 : (32 : Int32).toInt = 32 := (by decide); omega) (by have q0 : (1 : Int32).toInt = 1 := (by decide); have q1 : (32 : Int32).toInt = 32 := (by decide); omega) (by have q0 : (1 : Int32).toInt = 1 := (by decide); have q1 : (32 : Int32).toInt = 32 := (by decide); omega) hc) (ro_ci r_1 rfl) rfl k_975 k_65 k_972 k_974 k_24 (by decide +kernel) ⟨(Nat.le_of_ble_eq_true rfl), (Nat.le_of_ble_eq_true rfl)⟩ rfl (Nat.le_of_ble_eq_true rfl) ⟨(Nat.le_of_ble_eq_true rfl), (Nat.le_of_ble_eq_true rfl)⟩ dX7_readsAct_137 (fun v g_15 H locs hp hT => ?_)
  obtain ⟨s2_16, w2_17, rfl, hI, x_22, m_21, f_18, f_19, f_20⟩ := hp
  have hN : PL 8 g_15 na pa := hN.sm m_21 r_2 (by decide) rfl r_4 (by decide) rfl
  have hc : g_15.2.2.2.1 t = ct := (Sm.cf m_21 r_8 (by decide) rfl).trans hc
  have hWT : WT g_15 wt := hWT.sm m_21 r_6 (by decide) rfl
  have hM : Sm md_m_readsAct g g_15 := hM.tr hE (m_21.mo (fun r k h => mdle_m_readsAct_m_must h))
  have hE : Ex g g_15 := hE.tr x_22
  have r_23 : g_15.1 h = 8 := (Ex.r x_22 r_1 (by decide))
  have r_24 : g_15.1 na = 84 := (Ex.r x_22 r_2 (by decide))
  have r_25 : g_15.1 pa = 85 := (Ex.r x_22 r_4 (by decide))
  have r_26 : g_15.1 wt = 87 := (Ex.r x_22 r_6 (by decide))
  have r_27 : g_15.1 t = 79 := (Ex.r x_22 r_8 (by decide))
  have n_28 : g_15.2.2.1 na = 8 := (Ex.n x_22 r_2 (by decide) n_3)
  have n_29 : g_15.2.2.1 pa = 8 := (Ex.n x_22 r_4 (by decide) n_5)
  have n_30 : g_15.2.2.1 wt = 24 := (Ex.n x_22 r_6 (by decide) n_7)
  have n_31 : g_15.2.2.1 t = 100 := (Ex.n x_22 r_8 (by decide) n_9)
  have kn_32 : g_15.2.1 h 38 = .int rz := (Sm.v m_21 r_1 (by decide) rfl (sF_k kp0 (by decide)))
  have kn_33 : g_15.2.1 h 42 = .ref wt := (Sm.v m_21 r_1 (by decide) rfl (sF_k kn_10 (by decide)))
  have kn_34 : g_15.2.1 h 39 = .ref na := (Sm.v m_21 r_1 (by decide) rfl (sF_k kn_11 (by decide)))
  have kn_35 : g_15.2.1 h 40 = .ref pa := (Sm.v m_21 r_1 (by decide) rfl (sF_k kn_12 (by decide)))
  have kn_36 : g_15.2.1 h 29 = .int z := (Sm.v m_21 r_1 (by decide) rfl (sF_k kn_13 (by decide)))
  have kn_37 : g_15.2.1 h 28 = .ref t := (Sm.v m_21 r_1 (by decide) rfl (sF_k kn_14 (by decide)))
  refine W.eq (g2 := F0 m 140 ls []) rfl ?_
  have qc_38 : (1 : Int32).toInt = 1 := (by decide)
  have qc_39 : (32 : Int32).toInt = 32 := (by decide)
  rcases f_18 with ⟨-, hs_s2_16, hw_s2_16⟩ | ⟨hx_, -⟩ | ⟨hx_, -⟩
  rotate_left
  · exact absurd hx_ (by decide)
  · exact absurd hx_ (by decide)
  have ew_ : w2_17 = 1 := i_inj (hw_s2_16.trans (by decide))
  subst ew_
  have hv_ := wd_f (T := (txb ct z.toInt)) (p := s0.toInt) (ws_8 (by omega) (by omega) (by omega) (by omega) (by omega) (by omega) (by omega)) (Or.inl rfl)
  have hq8_ : qj (txb ct z.toInt) s0.toInt 8 = 0 := rfl
  exact lt_m_readsAct_c1 l D cI cZ cS cR N0 g h s0 rz wt na pa z t ct r_h r_na n_na r_pa n_pa r_wt n_wt r_t n_t krz ks0 kw0 kwt kna kpa kz kt l_rz u_rz l_s0 u_s0 hN_0 hWT_0 l_z u_z hc_0 hB hr   g_15 (8 : Int32) s2_16 H locs ls hT hI hE hM (by decide) (by decide) (by omega) (by omega) kn_32 f_19 f_20 hN hc hWT (ac_n hv_.1 (by have q_ := hv_.2; rw [hq8_] at q_; omega)) (lv_sub hl [1, 2] rfl)
set_option maxHeartbeats 4000000 in
set_option maxRecDepth 100000 in
theorem lt_m_readsAct_w7 (l : Launch) (D : va_G) (cI cZ cS cR : ClassId) (N0 : NT) (g : GS) (h : Nat) (s0 : Int32) (rz : Int32) (wt : Nat) (na : Nat) (pa : Nat) (z : Int32) (t : Nat) (ct : Nat → Int32) (r_h : g.1 h = 8) (r_na : g.1 na = 84) (n_na : g.2.2.1 na = 8) (r_pa : g.1 pa = 85) (n_pa : g.2.2.1 pa = 8) (r_wt : g.1 wt = 87) (n_wt : g.2.2.1 wt = 24) (r_t : g.1 t = 79) (n_t : g.2.2.1 t = 100) (krz : g.2.1 h 38 = .int rz) (ks0 : g.2.1 h 36 = .int s0) (kw0 : g.2.1 h 37 = .int 0) (kwt : g.2.1 h 42 = .ref wt) (kna : g.2.1 h 39 = .ref na) (kpa : g.2.1 h 40 = .ref pa) (kz : g.2.1 h 29 = .int z) (kt : g.2.1 h 28 = .ref t) (l_rz : 0 ≤ rz.toInt) (u_rz : rz.toInt ≤ 7) (l_s0 : 0 ≤ s0.toInt) (u_s0 : s0.toInt ≤ 100) (hN_0 : PL 8 g na pa) (hWT_0 : WT g wt) (l_z : 0 ≤ z.toInt) (u_z : z.toInt ≤ 100) (hc_0 : g.2.2.2.1 t = ct) {p : Program} {e : Env} {s : State} {m : MethodId} {args : Array Value} {below : List Frame} {meth : Method} {c : Code} (hB : Tz p s m meth c args cX7_readsAct 4 RX7 D cI cZ cS cR N0) (hr : meth.sig.returnType = none)    : ∀ (g1 : GS)   (H : Heap) (locs : List Loc) (ls : Array Slot), Tv D cI cZ cS cR N0 s.heap H locs g1 → Inv g1 → Ex g g1 → Sm md_m_readsAct g g1 → g1.2.1 h 38 = .int rz → g1.2.1 h 36 = .int s0 → g1.2.1 h 37 = .int 0 → (PL 8 g1 na pa) → (g1.2.2.2.1 t = ct) → (WT g1 wt) → (¬ ((txb ct z.toInt) s0.toInt = 97 ∧ (txb ct z.toInt) (s0.toInt + 1) = 115) ∧ (txb ct z.toInt) s0.toInt ≠ 115 ∧ (txb ct z.toInt) s0.toInt ≠ 97 ∧ (txb ct z.toInt) s0.toInt ≠ 109 ∧ (txb ct z.toInt) s0.toInt ≠ 110 ∧ (txb ct z.toInt) s0.toInt ≠ 103 ∧ (txb ct z.toInt) s0.toInt ≠ 97 ∧ (txb ct z.toInt) s0.toInt ≠ 100) → lv_has ls 4 [(1, .int 7), (0, .ref h)] → W p l e (rmx 2 0 0) s m args below meth c H locs 0 0 (MQ below (tQ D cI cZ cS cR N0 (fun v g' => ∃ (z2 : Int32) (s2 : Int32) (w2 : Int32), v = none ∧ Inv g' ∧ Ex g g' ∧ Sm md_m_readsAct g g' ∧ ((w2 = 1 ∧ ac (txb ct z.toInt) s0.toInt = (false, s2.toInt)) ∨ (w2 = 0 ∧ ac (txb ct z.toInt) s0.toInt = (true, s2.toInt) ∧ s2.toInt ≤ z.toInt)) ∧ (g'.2.1 h 38 = .int z2) ∧ (z2.toInt = rz.toInt + 1) ∧ (PL 8 g' na pa) ∧ (g'.2.1 h 36 = .int s2) ∧ (g'.2.1 h 37 = .int w2) ∧ (0 ≤ s2.toInt ∧ s2.toInt ≤ 100))) args s 0 0 (fun q => N0.1 ≤ q)) (F0 m 34 ls []) := by
  have hx := hB.1
  have hb := hB.2.1
  intro g1 H locs ls hT hI hE hM kp0 kp1 kp2 hN hc hWT hS hl
  have r_1 : g1.1 h = 8 := Ex.r hE r_h (by decide)
  have r_2 : g1.1 na = 84 := Ex.r hE r_na (by decide)
  have n_3 : g1.2.2.1 na = 8 := Ex.n hE r_na (by decide) n_na
  have r_4 : g1.1 pa = 85 := Ex.r hE r_pa (by decide)
  have n_5 : g1.2.2.1 pa = 8 := Ex.n hE r_pa (by decide) n_pa
  have r_6 : g1.1 wt = 87 := Ex.r hE r_wt (by decide)
  have n_7 : g1.2.2.1 wt = 24 := Ex.n hE r_wt (by decide) n_wt
  have r_8 : g1.1 t = 79 := Ex.r hE r_t (by decide)
  have n_9 : g1.2.2.1 t = 100 := Ex.n hE r_t (by decide) n_t
  have kn_10 : g1.2.1 h 42 = .ref wt := Sm.v hM r_h (by decide) rfl kwt
  have kn_11 : g1.2.1 h 39 = .ref na := Sm.v hM r_h (by decide) rfl kna
  have kn_12 : g1.2.1 h 40 = .ref pa := Sm.v hM r_h (by decide) rfl kpa
  have kn_13 : g1.2.1 h 29 = .int z := Sm.v hM r_h (by decide) rfl kz
  have kn_14 : g1.2.1 h 28 = .ref t := Sm.v hM r_h (by decide) rfl kt
  refine lv_iload_n hx hb dX7_readsAct_34 rfl (lv_at hl 0 rfl) ?_
  refine lv_bipush (v := 8) hx hb dX7_readsAct_35 (by decide) ?_
  refine lv_icmp_ge (tgt := 65) hx hb dX7_readsAct_37 (by decide) (fun c_ => absurd c_ (by decide)) (fun c_ => ?_)
  refine lv_aload_n hx hb dX7_readsAct_40 rfl (lv_at hl 1 rfl) ?_
  refine lv_aload_n hx hb dX7_readsAct_41 rfl (lv_at hl 1 rfl) ?_
  refine t_get (ci := 7) (v := .int s0) hB hT (ro_ci r_1 rfl) rfl 36 (by decide) k_781 kp1 dX7_readsAct_42 ?_
  refine t_callV (n := 1) (As := [.int s0]) (rest := []) (ci := 7) hB hT hl.1 (m_byteAt l D cI cZ cS cR N0 g1 hI h s0 z t ct r_1 r_8 n_9 kn_13 kn_14 (by omega) (by omega) (by omega) (by omega) hc) (ro_ci r_1 rfl) rfl k_971 k_65 k_968 k_970 k_23 (by decide +kernel) ⟨(Nat.le_of_ble_eq_true rfl), (Nat.le_of_ble_eq_true rfl)⟩ rfl (Nat.le_of_ble_eq_true rfl) ⟨(Nat.le_of_ble_eq_true rfl), (Nat.le_of_ble_eq_true rfl)⟩ dX7_readsAct_45 (fun v g_15 H locs hp hT => ?_)
  obtain ⟨r_16, rfl, eg, f_17, f_18, f_19⟩ := hp
  rw [eg] at hT
  clear eg
  refine W.eq (g2 := F0 m 48 ls [.int r_16]) rfl ?_
  refine lv_aload_n hx hb dX7_readsAct_48 rfl (lv_at hl 1 rfl) ?_
  refine t_get (ci := 7) (v := .ref wt) hB hT (ro_ci r_1 rfl) rfl 42 (by decide) k_787 kn_10 dX7_readsAct_49 ?_
  refine lv_iconst (v := 3) hx hb dX7_readsAct_52 (by decide) ?_
  refine lv_iload_n hx hb dX7_readsAct_53 rfl (lv_at hl 0 rfl) ?_
  refine lv_imul hx hb dX7_readsAct_54 ?_
  refine x_ev (y := 21) (by decide) ?_
  have kw_22 : g1.2.2.2.1 wt (21 : Int32).toNatClampNeg = 105 := (hWT (21 : Int32).toNatClampNeg (by decide)).trans (by decide)
  have i_u_23 : vp_in (21 : Int32) 24 := (by unfold vp_in; decide)
  refine t_iald (v := (105 : Int32)) hB hT (ro_in r_6 (by decide)) n_7 i_u_23 kw_22 dX7_readsAct_55 ?_
  refine lv_icmp_eq (tgt := 65) hx hb dX7_readsAct_56 (by decide) (fun c_24 => ?_) (fun c_24 => ?_)
  · have c_24' : r_16.toInt = 105 := i_eq c_24 rfl (by decide)
    refine lv_aload_n hx hb dX7_readsAct_65 rfl (lv_at hl 1 rfl) ?_
    refine lv_aload_n hx hb dX7_readsAct_66 rfl (lv_at hl 1 rfl) ?_
    refine t_get (ci := 7) (v := .int 0) hB hT (ro_ci r_1 rfl) rfl 37 (by decide) k_782 kp2 dX7_readsAct_67 ?_
    refine lv_if_ne (tgt := 79) hx hb dX7_readsAct_70 (by decide) (fun c_ => absurd (by decide) c_) (fun c_ => ?_)
    refine lv_iload_n hx hb dX7_readsAct_73 rfl (lv_at hl 0 rfl) ?_
    refine lv_bipush (v := 8) hx hb dX7_readsAct_74 (by decide) ?_
    refine lv_icmp_ne (tgt := 83) hx hb dX7_readsAct_76 (by decide) (fun c_ => ?_) (fun c_ => absurd c_ (by decide))
    refine lv_iconst (v := 0) hx hb dX7_readsAct_83 (by decide) ?_
    refine t_put0 (ci := 7) (v := .int 0) hB hT (ro_ci r_1 rfl) (ro_n0 r_1 (by decide)) rfl 37 (by decide) k_782 (Or.inl rfl) rfl rfl dX7_readsAct_84 (fun H locs hT => ?_)
    have hI : Inv (sF g1 h 37 (.int 0)) := hI.sF (p_8_37 r_1 (⟨_, rfl, by decide, by decide⟩))
    have hM : Sm md_m_readsAct g (sF g1 h 37 (.int 0)) := hM.tr hE (Sm_sF (by rw [r_1]; rfl))
    have hE : Ex g (sF g1 h 37 (.int 0)) := hE
    have hN : PL 8 (sF g1 h 37 (.int 0)) na pa := hN
    have hc : (sF g1 h 37 (.int 0)).2.2.2.1 t = ct := hc
    have hWT : WT (sF g1 h 37 (.int 0)) wt := hWT
    refine lv_iconst (v := 0) hx hb dX7_readsAct_87 (by decide) ?_
    refine lv_istore_n (lv' := [(2, .int 0), (1, .int 7), (0, .ref h)]) hx hb dX7_readsAct_88 rfl hl (by decide) rfl (fun ls hl => ?_)
    refine lv_iload_n hx hb dX7_readsAct_89 rfl (lv_at hl 0 rfl) ?_
    refine lv_iconst (v := 3) hx hb dX7_readsAct_90 (by decide) ?_
    refine lv_icmp_ge (tgt := 134) hx hb dX7_readsAct_91 (by decide) (fun c_ => absurd c_ (by decide)) (fun c_ => ?_)
    refine lv_aload_n hx hb dX7_readsAct_94 rfl (lv_at hl 2 rfl) ?_
    refine t_get (ci := 7) (v := .int 0) hB hT (ro_ci r_1 rfl) rfl 37 (by decide) k_782 sF_eq dX7_readsAct_95 ?_
    refine lv_if_ne (tgt := 134) hx hb dX7_readsAct_98 (by decide) (fun c_ => absurd (by decide) c_) (fun c_ => ?_)
    refine lv_aload_n hx hb dX7_readsAct_101 rfl (lv_at hl 2 rfl) ?_
    refine t_get (ci := 7) (v := .ref wt) hB hT (ro_ci r_1 rfl) rfl 42 (by decide) k_787 (sF_k kn_10 (by decide)) dX7_readsAct_102 ?_
    refine lv_iconst (v := 3) hx hb dX7_readsAct_105 (by decide) ?_
    refine lv_iload_n hx hb dX7_readsAct_106 rfl (lv_at hl 1 rfl) ?_
    refine lv_imul hx hb dX7_readsAct_107 ?_
    refine x_ev (y := 21) (by decide) ?_
    refine lv_iload_n hx hb dX7_readsAct_108 rfl (lv_at hl 0 rfl) ?_
    refine lv_iadd hx hb dX7_readsAct_109 ?_
    refine x_ev (y := 21) (by decide) ?_
    have kw_25 : (sF g1 h 37 (.int 0)).2.2.2.1 wt (21 : Int32).toNatClampNeg = 105 := (hWT (21 : Int32).toNatClampNeg (by decide)).trans (by decide)
    have i_u_26 : vp_in (21 : Int32) 24 := (by unfold vp_in; decide)
    refine t_iald (v := (105 : Int32)) hB hT (ro_in r_6 (by decide)) n_7 i_u_26 kw_25 dX7_readsAct_110 ?_
    refine lv_if_eq (tgt := 128) hx hb dX7_readsAct_111 (by decide) (fun c_ => absurd c_ (by decide)) (fun c_ => ?_)
    refine lv_aload_n hx hb dX7_readsAct_114 rfl (lv_at hl 2 rfl) ?_
    refine lv_aload_n hx hb dX7_readsAct_115 rfl (lv_at hl 2 rfl) ?_
    refine t_get (ci := 7) (v := .ref wt) hB hT (ro_ci r_1 rfl) rfl 42 (by decide) k_787 (sF_k kn_10 (by decide)) dX7_readsAct_116 ?_
    refine lv_iconst (v := 3) hx hb dX7_readsAct_119 (by decide) ?_
    refine lv_iload_n hx hb dX7_readsAct_120 rfl (lv_at hl 1 rfl) ?_
    refine lv_imul hx hb dX7_readsAct_121 ?_
    refine x_ev (y := 21) (by decide) ?_
    refine lv_iload_n hx hb dX7_readsAct_122 rfl (lv_at hl 0 rfl) ?_
    refine lv_iadd hx hb dX7_readsAct_123 ?_
    refine x_ev (y := 21) (by decide) ?_
    have kw_27 : (sF g1 h 37 (.int 0)).2.2.2.1 wt (21 : Int32).toNatClampNeg = 105 := (hWT (21 : Int32).toNatClampNeg (by decide)).trans (by decide)
    have i_u_28 : vp_in (21 : Int32) 24 := (by unfold vp_in; decide)
    refine t_iald (v := (105 : Int32)) hB hT (ro_in r_6 (by decide)) n_7 i_u_28 kw_27 dX7_readsAct_124 ?_
    refine t_callV (n := 1) (As := [.int 105]) (rest := []) (ci := 7) hB hT hl.1 (m_must l D cI cZ cS cR N0 (sF g1 h 37 (.int 0)) hI h 105 s0 0 z t ct r_1 r_8 n_9 (sF_k kp1 (by decide)) sF_eq (sF_k kn_13 (by decide)) (sF_k kn_14 (by decide)) (by have q0 : (0 : Int32).toInt = 0 := (by decide); have q1 : (105 : Int32).toInt = 105 := (by decide); omega) (by have q0 : (0 : Int32).toInt = 0 := (by decide); have q1 : (105 : Int32).toInt = 105 := (by decide); omega) (by have q0 : (0 : Int32).toInt = 0 := (by decide); have q1 : (105 : Int32).toInt = 105 := (by decide); omega) (by have q0 : (0 : Int32).toInt = 0 := (by decide); have q1 : (105 : Int32).toInt = 105 := (by decide); omega) (by have q0 : (0 : Int32).toInt = 0 := (by decide); have q1 : (105 : Int32).toInt = 105 := (by decide); omega) (by have q0 : (0 : Int32).toInt = 0 := (by decide); have q1 : (105 : Int32).toInt = 105 := (by decide); omega) (by have q0 : (0 : Int32).toInt = 0 := (by decide); have q1 : (105 : Int32).toInt = 105 := (by decide); omega) hc) (ro_ci r_1 rfl) rfl k_975 k_65 k_972 k_974 k_24 (by decide +kernel) ⟨(Nat.le_of_ble_eq_true rfl), (Nat.le_of_ble_eq_true rfl)⟩ rfl (Nat.le_of_ble_eq_true rfl) ⟨(Nat.le_of_ble_eq_true rfl), (Nat.le_of_ble_eq_true rfl)⟩ dX7_readsAct_125 (fun v g_29 H locs hp hT => ?_)
    obtain ⟨s2_30, w2_31, rfl, hI, x_36, m_35, f_32, f_33, f_34⟩ := hp
    have hN : PL 8 g_29 na pa := hN.sm m_35 r_2 (by decide) rfl r_4 (by decide) rfl
    have hc : g_29.2.2.2.1 t = ct := (Sm.cf m_35 r_8 (by decide) rfl).trans hc
    have hWT : WT g_29 wt := hWT.sm m_35 r_6 (by decide) rfl
    have hM : Sm md_m_readsAct g g_29 := hM.tr hE (m_35.mo (fun r k h => mdle_m_readsAct_m_must h))
    have hE : Ex g g_29 := hE.tr x_36
    have r_37 : g_29.1 h = 8 := (Ex.r x_36 r_1 (by decide))
    have r_38 : g_29.1 na = 84 := (Ex.r x_36 r_2 (by decide))
    have r_39 : g_29.1 pa = 85 := (Ex.r x_36 r_4 (by decide))
    have r_40 : g_29.1 wt = 87 := (Ex.r x_36 r_6 (by decide))
    have r_41 : g_29.1 t = 79 := (Ex.r x_36 r_8 (by decide))
    have n_42 : g_29.2.2.1 na = 8 := (Ex.n x_36 r_2 (by decide) n_3)
    have n_43 : g_29.2.2.1 pa = 8 := (Ex.n x_36 r_4 (by decide) n_5)
    have n_44 : g_29.2.2.1 wt = 24 := (Ex.n x_36 r_6 (by decide) n_7)
    have n_45 : g_29.2.2.1 t = 100 := (Ex.n x_36 r_8 (by decide) n_9)
    have kn_46 : g_29.2.1 h 38 = .int rz := (Sm.v m_35 r_1 (by decide) rfl (sF_k kp0 (by decide)))
    have kn_47 : g_29.2.1 h 42 = .ref wt := (Sm.v m_35 r_1 (by decide) rfl (sF_k kn_10 (by decide)))
    have kn_48 : g_29.2.1 h 39 = .ref na := (Sm.v m_35 r_1 (by decide) rfl (sF_k kn_11 (by decide)))
    have kn_49 : g_29.2.1 h 40 = .ref pa := (Sm.v m_35 r_1 (by decide) rfl (sF_k kn_12 (by decide)))
    have kn_50 : g_29.2.1 h 29 = .int z := (Sm.v m_35 r_1 (by decide) rfl (sF_k kn_13 (by decide)))
    have kn_51 : g_29.2.1 h 28 = .ref t := (Sm.v m_35 r_1 (by decide) rfl (sF_k kn_14 (by decide)))
    have kn_52 : g_29.2.2.2.1 wt (21 : Int32).toNatClampNeg = 105 := (Sm.c m_35 r_6 (by decide) rfl kw_27)
    refine W.eq (g2 := F0 m 128 ls []) rfl ?_
    have qc_53 : (0 : Int32).toInt = 0 := (by decide)
    have qc_54 : (105 : Int32).toInt = 105 := (by decide)
    rcases f_32 with ⟨hx_, -⟩ | ⟨-, ht_s2_30, hs_s2_30, hz_s2_30, hw_s2_30⟩ | ⟨-, ht_s2_30, hs_s2_30, hw_s2_30⟩
    · exact absurd hx_ (by decide)
    · have ew_ : w2_31 = 0 := i_inj (hw_s2_30.trans (by decide))
      subst ew_
      refine lv_iinc (v := 1) (lv' := [(2, .int 1), (1, .int 7), (0, .ref h)]) hx hb dX7_readsAct_128 hl (k := 0) rfl (by decide) (by decide) rfl (fun ls hl => ?_)
      refine lv_goto (tgt := 89) hx hb dX7_readsAct_131 (by decide) ?_
      refine lv_iload_n hx hb dX7_readsAct_89 rfl (lv_at hl 0 rfl) ?_
      refine lv_iconst (v := 3) hx hb dX7_readsAct_90 (by decide) ?_
      refine lv_icmp_ge (tgt := 134) hx hb dX7_readsAct_91 (by decide) (fun c_ => absurd c_ (by decide)) (fun c_ => ?_)
      refine lv_aload_n hx hb dX7_readsAct_94 rfl (lv_at hl 2 rfl) ?_
      refine t_get (ci := 7) (v := .int 0) hB hT (ro_ci r_37 rfl) rfl 37 (by decide) k_782 f_34 dX7_readsAct_95 ?_
      refine lv_if_ne (tgt := 134) hx hb dX7_readsAct_98 (by decide) (fun c_ => absurd (by decide) c_) (fun c_ => ?_)
      refine lv_aload_n hx hb dX7_readsAct_101 rfl (lv_at hl 2 rfl) ?_
      refine t_get (ci := 7) (v := .ref wt) hB hT (ro_ci r_37 rfl) rfl 42 (by decide) k_787 kn_47 dX7_readsAct_102 ?_
      refine lv_iconst (v := 3) hx hb dX7_readsAct_105 (by decide) ?_
      refine lv_iload_n hx hb dX7_readsAct_106 rfl (lv_at hl 1 rfl) ?_
      refine lv_imul hx hb dX7_readsAct_107 ?_
      refine x_ev (y := 21) (by decide) ?_
      refine lv_iload_n hx hb dX7_readsAct_108 rfl (lv_at hl 0 rfl) ?_
      refine lv_iadd hx hb dX7_readsAct_109 ?_
      refine x_ev (y := 22) (by decide) ?_
      have kw_55 : g_29.2.2.2.1 wt (22 : Int32).toNatClampNeg = 102 := (hWT (22 : Int32).toNatClampNeg (by decide)).trans (by decide)
      have i_u_56 : vp_in (22 : Int32) 24 := (by unfold vp_in; decide)
      refine t_iald (v := (102 : Int32)) hB hT (ro_in r_40 (by decide)) n_44 i_u_56 kw_55 dX7_readsAct_110 ?_
      refine lv_if_eq (tgt := 128) hx hb dX7_readsAct_111 (by decide) (fun c_ => absurd c_ (by decide)) (fun c_ => ?_)
      refine lv_aload_n hx hb dX7_readsAct_114 rfl (lv_at hl 2 rfl) ?_
      refine lv_aload_n hx hb dX7_readsAct_115 rfl (lv_at hl 2 rfl) ?_
      refine t_get (ci := 7) (v := .ref wt) hB hT (ro_ci r_37 rfl) rfl 42 (by decide) k_787 kn_47 dX7_readsAct_116 ?_
      refine lv_iconst (v := 3) hx hb dX7_readsAct_119 (by decide) ?_
      refine lv_iload_n hx hb dX7_readsAct_120 rfl (lv_at hl 1 rfl) ?_
      refine lv_imul hx hb dX7_readsAct_121 ?_
      refine x_ev (y := 21) (by decide) ?_
      refine lv_iload_n hx hb dX7_readsAct_122 rfl (lv_at hl 0 rfl) ?_
      refine lv_iadd hx hb dX7_readsAct_123 ?_
      refine x_ev (y := 22) (by decide) ?_
      have kw_57 : g_29.2.2.2.1 wt (22 : Int32).toNatClampNeg = 102 := (hWT (22 : Int32).toNatClampNeg (by decide)).trans (by decide)
      have i_u_58 : vp_in (22 : Int32) 24 := (by unfold vp_in; decide)
      refine t_iald (v := (102 : Int32)) hB hT (ro_in r_40 (by decide)) n_44 i_u_58 kw_57 dX7_readsAct_124 ?_
      refine t_callV (n := 1) (As := [.int 102]) (rest := []) (ci := 7) hB hT hl.1 (m_must l D cI cZ cS cR N0 g_29 hI h 102 s2_30 0 z t ct r_37 r_41 n_45 f_33 f_34 kn_50 kn_51 (by have q0 : (0 : Int32).toInt = 0 := (by decide); have q1 : (102 : Int32).toInt = 102 := (by decide); omega) (by have q0 : (0 : Int32).toInt = 0 := (by decide); have q1 : (102 : Int32).toInt = 102 := (by decide); omega) (by have q0 : (0 : Int32).toInt = 0 := (by decide); have q1 : (102 : Int32).toInt = 102 := (by decide); omega) (by have q0 : (0 : Int32).toInt = 0 := (by decide); have q1 : (102 : Int32).toInt = 102 := (by decide); omega) (by have q0 : (0 : Int32).toInt = 0 := (by decide); have q1 : (102 : Int32).toInt = 102 := (by decide); omega) (by have q0 : (0 : Int32).toInt = 0 := (by decide); have q1 : (102 : Int32).toInt = 102 := (by decide); omega) (by have q0 : (0 : Int32).toInt = 0 := (by decide); have q1 : (102 : Int32).toInt = 102 := (by decide); omega) hc) (ro_ci r_37 rfl) rfl k_975 k_65 k_972 k_974 k_24 (by decide +kernel) ⟨(Nat.le_of_ble_eq_true rfl), (Nat.le_of_ble_eq_true rfl)⟩ rfl (Nat.le_of_ble_eq_true rfl) ⟨(Nat.le_of_ble_eq_true rfl), (Nat.le_of_ble_eq_true rfl)⟩ dX7_readsAct_125 (fun v g_59 H locs hp hT => ?_)
      obtain ⟨s2_60, w2_61, rfl, hI, x_66, m_65, f_62, f_63, f_64⟩ := hp
      have hN : PL 8 g_59 na pa := hN.sm m_65 r_38 (by decide) rfl r_39 (by decide) rfl
      have hc : g_59.2.2.2.1 t = ct := (Sm.cf m_65 r_41 (by decide) rfl).trans hc
      have hWT : WT g_59 wt := hWT.sm m_65 r_40 (by decide) rfl
      have hM : Sm md_m_readsAct g g_59 := hM.tr hE (m_65.mo (fun r k h => mdle_m_readsAct_m_must h))
      have hE : Ex g g_59 := hE.tr x_66
      have r_67 : g_59.1 h = 8 := (Ex.r x_66 r_37 (by decide))
      have r_68 : g_59.1 na = 84 := (Ex.r x_66 r_38 (by decide))
      have r_69 : g_59.1 pa = 85 := (Ex.r x_66 r_39 (by decide))
      have r_70 : g_59.1 wt = 87 := (Ex.r x_66 r_40 (by decide))
      have r_71 : g_59.1 t = 79 := (Ex.r x_66 r_41 (by decide))
      have n_72 : g_59.2.2.1 na = 8 := (Ex.n x_66 r_38 (by decide) n_42)
      have n_73 : g_59.2.2.1 pa = 8 := (Ex.n x_66 r_39 (by decide) n_43)
      have n_74 : g_59.2.2.1 wt = 24 := (Ex.n x_66 r_40 (by decide) n_44)
      have n_75 : g_59.2.2.1 t = 100 := (Ex.n x_66 r_41 (by decide) n_45)
      have kn_76 : g_59.2.1 h 38 = .int rz := (Sm.v m_65 r_37 (by decide) rfl kn_46)
      have kn_77 : g_59.2.1 h 42 = .ref wt := (Sm.v m_65 r_37 (by decide) rfl kn_47)
      have kn_78 : g_59.2.1 h 39 = .ref na := (Sm.v m_65 r_37 (by decide) rfl kn_48)
      have kn_79 : g_59.2.1 h 40 = .ref pa := (Sm.v m_65 r_37 (by decide) rfl kn_49)
      have kn_80 : g_59.2.1 h 29 = .int z := (Sm.v m_65 r_37 (by decide) rfl kn_50)
      have kn_81 : g_59.2.1 h 28 = .ref t := (Sm.v m_65 r_37 (by decide) rfl kn_51)
      have kn_82 : g_59.2.2.2.1 wt (21 : Int32).toNatClampNeg = 105 := (Sm.c m_65 r_40 (by decide) rfl kn_52)
      have kn_83 : g_59.2.2.2.1 wt (22 : Int32).toNatClampNeg = 102 := (Sm.c m_65 r_40 (by decide) rfl kw_57)
      refine W.eq (g2 := F0 m 128 ls []) rfl ?_
      have qc_84 : (0 : Int32).toInt = 0 := (by decide)
      have qc_85 : (102 : Int32).toInt = 102 := (by decide)
      rcases f_62 with ⟨hx_, -⟩ | ⟨-, ht_s2_60, hs_s2_60, hz_s2_60, hw_s2_60⟩ | ⟨-, ht_s2_60, hs_s2_60, hw_s2_60⟩
      · exact absurd hx_ (by decide)
      · have ew_ : w2_61 = 0 := i_inj (hw_s2_60.trans (by decide))
        subst ew_
        rw [show s2_30.toInt = s0.toInt + 1 by omega] at ht_s2_60
        refine lv_iinc (v := 2) (lv' := [(2, .int 2), (1, .int 7), (0, .ref h)]) hx hb dX7_readsAct_128 hl (k := 0) rfl (by decide) (by decide) rfl (fun ls hl => ?_)
        refine lv_goto (tgt := 89) hx hb dX7_readsAct_131 (by decide) ?_
        refine lv_iload_n hx hb dX7_readsAct_89 rfl (lv_at hl 0 rfl) ?_
        refine lv_iconst (v := 3) hx hb dX7_readsAct_90 (by decide) ?_
        refine lv_icmp_ge (tgt := 134) hx hb dX7_readsAct_91 (by decide) (fun c_ => absurd c_ (by decide)) (fun c_ => ?_)
        refine lv_aload_n hx hb dX7_readsAct_94 rfl (lv_at hl 2 rfl) ?_
        refine t_get (ci := 7) (v := .int 0) hB hT (ro_ci r_67 rfl) rfl 37 (by decide) k_782 f_64 dX7_readsAct_95 ?_
        refine lv_if_ne (tgt := 134) hx hb dX7_readsAct_98 (by decide) (fun c_ => absurd (by decide) c_) (fun c_ => ?_)
        refine lv_aload_n hx hb dX7_readsAct_101 rfl (lv_at hl 2 rfl) ?_
        refine t_get (ci := 7) (v := .ref wt) hB hT (ro_ci r_67 rfl) rfl 42 (by decide) k_787 kn_77 dX7_readsAct_102 ?_
        refine lv_iconst (v := 3) hx hb dX7_readsAct_105 (by decide) ?_
        refine lv_iload_n hx hb dX7_readsAct_106 rfl (lv_at hl 1 rfl) ?_
        refine lv_imul hx hb dX7_readsAct_107 ?_
        refine x_ev (y := 21) (by decide) ?_
        refine lv_iload_n hx hb dX7_readsAct_108 rfl (lv_at hl 0 rfl) ?_
        refine lv_iadd hx hb dX7_readsAct_109 ?_
        refine x_ev (y := 23) (by decide) ?_
        have kw_86 : g_59.2.2.2.1 wt (23 : Int32).toNatClampNeg = 0 := (hWT (23 : Int32).toNatClampNeg (by decide)).trans (by decide)
        have i_u_87 : vp_in (23 : Int32) 24 := (by unfold vp_in; decide)
        refine t_iald (v := (0 : Int32)) hB hT (ro_in r_70 (by decide)) n_74 i_u_87 kw_86 dX7_readsAct_110 ?_
        refine lv_if_eq (tgt := 128) hx hb dX7_readsAct_111 (by decide) (fun c_ => ?_) (fun c_ => absurd (by decide) c_)
        refine lv_iinc (v := 3) (lv' := [(2, .int 3), (1, .int 7), (0, .ref h)]) hx hb dX7_readsAct_128 hl (k := 0) rfl (by decide) (by decide) rfl (fun ls hl => ?_)
        refine lv_goto (tgt := 89) hx hb dX7_readsAct_131 (by decide) ?_
        refine lv_iload_n hx hb dX7_readsAct_89 rfl (lv_at hl 0 rfl) ?_
        refine lv_iconst (v := 3) hx hb dX7_readsAct_90 (by decide) ?_
        refine lv_icmp_ge (tgt := 134) hx hb dX7_readsAct_91 (by decide) (fun c_ => ?_) (fun c_ => absurd (by decide) c_)
        refine lv_aload_n hx hb dX7_readsAct_134 rfl (lv_at hl 2 rfl) ?_
        refine lv_bipush (v := 32) hx hb dX7_readsAct_135 (by decide) ?_
        refine t_callV (n := 1) (As := [.int 32]) (rest := []) (ci := 7) hB hT hl.1 (m_must l D cI cZ cS cR N0 g_59 hI h 32 s2_60 0 z t ct r_67 r_71 n_75 f_63 f_64 kn_80 kn_81 (by have q0 : (0 : Int32).toInt = 0 := (by decide); have q1 : (32 : Int32).toInt = 32 := (by decide); omega) (by have q0 : (0 : Int32).toInt = 0 := (by decide); have q1 : (32 : Int32).toInt = 32 := (by decide); omega) (by have q0 : (0 : Int32).toInt = 0 := (by decide); have q1 : (32 : Int32).toInt = 32 := (by decide); omega) (by have q0 : (0 : Int32).toInt = 0 := (by decide); have q1 : (32 : Int32).toInt = 32 := (by decide); omega) (by have q0 : (0 : Int32).toInt = 0 := (by decide); have q1 : (32 : Int32).toInt = 32 := (by decide); omega) (by have q0 : (0 : Int32).toInt = 0 := (by decide); have q1 : (32 : Int32).toInt = 32 := (by decide); omega) (by have q0 : (0 : Int32).toInt = 0 := (by decide); have q1 : (32 : Int32).toInt = 32 := (by decide); omega) hc) (ro_ci r_67 rfl) rfl k_975 k_65 k_972 k_974 k_24 (by decide +kernel) ⟨(Nat.le_of_ble_eq_true rfl), (Nat.le_of_ble_eq_true rfl)⟩ rfl (Nat.le_of_ble_eq_true rfl) ⟨(Nat.le_of_ble_eq_true rfl), (Nat.le_of_ble_eq_true rfl)⟩ dX7_readsAct_137 (fun v g_88 H locs hp hT => ?_)
        obtain ⟨s2_89, w2_90, rfl, hI, x_95, m_94, f_91, f_92, f_93⟩ := hp
        have hN : PL 8 g_88 na pa := hN.sm m_94 r_68 (by decide) rfl r_69 (by decide) rfl
        have hc : g_88.2.2.2.1 t = ct := (Sm.cf m_94 r_71 (by decide) rfl).trans hc
        have hWT : WT g_88 wt := hWT.sm m_94 r_70 (by decide) rfl
        have hM : Sm md_m_readsAct g g_88 := hM.tr hE (m_94.mo (fun r k h => mdle_m_readsAct_m_must h))
        have hE : Ex g g_88 := hE.tr x_95
        have r_96 : g_88.1 h = 8 := (Ex.r x_95 r_67 (by decide))
        have r_97 : g_88.1 na = 84 := (Ex.r x_95 r_68 (by decide))
        have r_98 : g_88.1 pa = 85 := (Ex.r x_95 r_69 (by decide))
        have r_99 : g_88.1 wt = 87 := (Ex.r x_95 r_70 (by decide))
        have r_100 : g_88.1 t = 79 := (Ex.r x_95 r_71 (by decide))
        have n_101 : g_88.2.2.1 na = 8 := (Ex.n x_95 r_68 (by decide) n_72)
        have n_102 : g_88.2.2.1 pa = 8 := (Ex.n x_95 r_69 (by decide) n_73)
        have n_103 : g_88.2.2.1 wt = 24 := (Ex.n x_95 r_70 (by decide) n_74)
        have n_104 : g_88.2.2.1 t = 100 := (Ex.n x_95 r_71 (by decide) n_75)
        have kn_105 : g_88.2.1 h 38 = .int rz := (Sm.v m_94 r_67 (by decide) rfl kn_76)
        have kn_106 : g_88.2.1 h 42 = .ref wt := (Sm.v m_94 r_67 (by decide) rfl kn_77)
        have kn_107 : g_88.2.1 h 39 = .ref na := (Sm.v m_94 r_67 (by decide) rfl kn_78)
        have kn_108 : g_88.2.1 h 40 = .ref pa := (Sm.v m_94 r_67 (by decide) rfl kn_79)
        have kn_109 : g_88.2.1 h 29 = .int z := (Sm.v m_94 r_67 (by decide) rfl kn_80)
        have kn_110 : g_88.2.1 h 28 = .ref t := (Sm.v m_94 r_67 (by decide) rfl kn_81)
        have kn_111 : g_88.2.2.2.1 wt (21 : Int32).toNatClampNeg = 105 := (Sm.c m_94 r_70 (by decide) rfl kn_82)
        have kn_112 : g_88.2.2.2.1 wt (22 : Int32).toNatClampNeg = 102 := (Sm.c m_94 r_70 (by decide) rfl kn_83)
        have kn_113 : g_88.2.2.2.1 wt (23 : Int32).toNatClampNeg = 0 := (Sm.c m_94 r_70 (by decide) rfl kw_86)
        refine W.eq (g2 := F0 m 140 ls []) rfl ?_
        have qc_114 : (0 : Int32).toInt = 0 := (by decide)
        have qc_115 : (32 : Int32).toInt = 32 := (by decide)
        rcases f_91 with ⟨hx_, -⟩ | ⟨-, ht_s2_89, hs_s2_89, hz_s2_89, hw_s2_89⟩ | ⟨-, ht_s2_89, hs_s2_89, hw_s2_89⟩
        · exact absurd hx_ (by decide)
        · have ew_ : w2_90 = 0 := i_inj (hw_s2_89.trans (by decide))
          subst ew_
          rw [show s2_60.toInt = s0.toInt + 2 by omega] at ht_s2_89
          have hv_ := wo_7 (T := (txb ct z.toInt)) (p := s0.toInt) ⟨by omega, by omega, by omega⟩
          exact lt_m_readsAct_c0 l D cI cZ cS cR N0 g h s0 rz wt na pa z t ct r_h r_na n_na r_pa n_pa r_wt n_wt r_t n_t krz ks0 kw0 kwt kna kpa kz kt l_rz u_rz l_s0 u_s0 hN_0 hWT_0 l_z u_z hc_0 hB hr   g_88 (7 : Int32) s2_89 H locs ls hT hI hE hM (by decide) (by decide) (by omega) (by omega) kn_105 f_92 f_93 hN hc hWT ⟨by decide, hv_.1.trans (by decide), (by have q_ := hv_.2; omega), by omega⟩ (lv_sub hl [1, 2] rfl)
        · have ew_ : w2_90 = 1 := i_inj (hw_s2_89.trans (by decide))
          subst ew_
          rw [show s2_60.toInt = s0.toInt + 2 by omega] at ht_s2_89
          have hs_ : wsel ((txb ct z.toInt) s0.toInt) ((txb ct z.toInt) (s0.toInt + 1)) = 7 := ws_7 (by omega)
          have hq_ : qj (txb ct z.toInt) s0.toInt 7 = 2 := wp3_2 (by omega) (by omega) (by omega)
          have hv_ := wd_f hs_ (Or.inr (fun h_ => absurd (hq_.symm.trans h_) (by decide)))
          exact lt_m_readsAct_c1 l D cI cZ cS cR N0 g h s0 rz wt na pa z t ct r_h r_na n_na r_pa n_pa r_wt n_wt r_t n_t krz ks0 kw0 kwt kna kpa kz kt l_rz u_rz l_s0 u_s0 hN_0 hWT_0 l_z u_z hc_0 hB hr   g_88 (7 : Int32) s2_89 H locs ls hT hI hE hM (by decide) (by decide) (by omega) (by omega) kn_105 f_92 f_93 hN hc hWT (ac_n hv_.1 (by have q_ := hv_.2; rw [hq_] at q_; omega)) (lv_sub hl [1, 2] rfl)
      · have ew_ : w2_61 = 1 := i_inj (hw_s2_60.trans (by decide))
        subst ew_
        rw [show s2_30.toInt = s0.toInt + 1 by omega] at ht_s2_60
        refine lv_iinc (v := 2) (lv' := [(2, .int 2), (1, .int 7), (0, .ref h)]) hx hb dX7_readsAct_128 hl (k := 0) rfl (by decide) (by decide) rfl (fun ls hl => ?_)
        refine lv_goto (tgt := 89) hx hb dX7_readsAct_131 (by decide) ?_
        refine lv_iload_n hx hb dX7_readsAct_89 rfl (lv_at hl 0 rfl) ?_
        refine lv_iconst (v := 3) hx hb dX7_readsAct_90 (by decide) ?_
        refine lv_icmp_ge (tgt := 134) hx hb dX7_readsAct_91 (by decide) (fun c_ => absurd c_ (by decide)) (fun c_ => ?_)
        refine lv_aload_n hx hb dX7_readsAct_94 rfl (lv_at hl 2 rfl) ?_
        refine t_get (ci := 7) (v := .int 1) hB hT (ro_ci r_67 rfl) rfl 37 (by decide) k_782 f_64 dX7_readsAct_95 ?_
        refine lv_if_ne (tgt := 134) hx hb dX7_readsAct_98 (by decide) (fun c_ => ?_) (fun c_ => absurd c_ (by decide))
        refine lv_aload_n hx hb dX7_readsAct_134 rfl (lv_at hl 2 rfl) ?_
        refine lv_bipush (v := 32) hx hb dX7_readsAct_135 (by decide) ?_
        refine t_callV (n := 1) (As := [.int 32]) (rest := []) (ci := 7) hB hT hl.1 (m_must l D cI cZ cS cR N0 g_59 hI h 32 s2_60 1 z t ct r_67 r_71 n_75 f_63 f_64 kn_80 kn_81 (by have q0 : (1 : Int32).toInt = 1 := (by decide); have q1 : (32 : Int32).toInt = 32 := (by decide); omega) (by have q0 : (1 : Int32).toInt = 1 := (by decide); have q1 : (32 : Int32).toInt = 32 := (by decide); omega) (by have q0 : (1 : Int32).toInt = 1 := (by decide); have q1 : (32 : Int32).toInt = 32 := (by decide); omega) (by have q0 : (1 : Int32).toInt = 1 := (by decide); have q1 : (32 : Int32).toInt = 32 := (by decide); omega) (by have q0 : (1 : Int32).toInt = 1 := (by decide); have q1 : (32 : Int32).toInt = 32 := (by decide); omega) (by have q0 : (1 : Int32).toInt = 1 := (by decide); have q1 : (32 : Int32).toInt = 32 := (by decide); omega) (by have q0 : (1 : Int32).toInt = 1 := (by decide); have q1 : (32 : Int32).toInt = 32 := (by decide); omega) hc) (ro_ci r_67 rfl) rfl k_975 k_65 k_972 k_974 k_24 (by decide +kernel) ⟨(Nat.le_of_ble_eq_true rfl), (Nat.le_of_ble_eq_true rfl)⟩ rfl (Nat.le_of_ble_eq_true rfl) ⟨(Nat.le_of_ble_eq_true rfl), (Nat.le_of_ble_eq_true rfl)⟩ dX7_readsAct_137 (fun v g_116 H locs hp hT => ?_)
        obtain ⟨s2_117, w2_118, rfl, hI, x_123, m_122, f_119, f_120, f_121⟩ := hp
        have hN : PL 8 g_116 na pa := hN.sm m_122 r_68 (by decide) rfl r_69 (by decide) rfl
        have hc : g_116.2.2.2.1 t = ct := (Sm.cf m_122 r_71 (by decide) rfl).trans hc
        have hWT : WT g_116 wt := hWT.sm m_122 r_70 (by decide) rfl
        have hM : Sm md_m_readsAct g g_116 := hM.tr hE (m_122.mo (fun r k h => mdle_m_readsAct_m_must h))
        have hE : Ex g g_116 := hE.tr x_123
        have r_124 : g_116.1 h = 8 := (Ex.r x_123 r_67 (by decide))
        have r_125 : g_116.1 na = 84 := (Ex.r x_123 r_68 (by decide))
        have r_126 : g_116.1 pa = 85 := (Ex.r x_123 r_69 (by decide))
        have r_127 : g_116.1 wt = 87 := (Ex.r x_123 r_70 (by decide))
        have r_128 : g_116.1 t = 79 := (Ex.r x_123 r_71 (by decide))
        have n_129 : g_116.2.2.1 na = 8 := (Ex.n x_123 r_68 (by decide) n_72)
        have n_130 : g_116.2.2.1 pa = 8 := (Ex.n x_123 r_69 (by decide) n_73)
        have n_131 : g_116.2.2.1 wt = 24 := (Ex.n x_123 r_70 (by decide) n_74)
        have n_132 : g_116.2.2.1 t = 100 := (Ex.n x_123 r_71 (by decide) n_75)
        have kn_133 : g_116.2.1 h 38 = .int rz := (Sm.v m_122 r_67 (by decide) rfl kn_76)
        have kn_134 : g_116.2.1 h 42 = .ref wt := (Sm.v m_122 r_67 (by decide) rfl kn_77)
        have kn_135 : g_116.2.1 h 39 = .ref na := (Sm.v m_122 r_67 (by decide) rfl kn_78)
        have kn_136 : g_116.2.1 h 40 = .ref pa := (Sm.v m_122 r_67 (by decide) rfl kn_79)
        have kn_137 : g_116.2.1 h 29 = .int z := (Sm.v m_122 r_67 (by decide) rfl kn_80)
        have kn_138 : g_116.2.1 h 28 = .ref t := (Sm.v m_122 r_67 (by decide) rfl kn_81)
        have kn_139 : g_116.2.2.2.1 wt (21 : Int32).toNatClampNeg = 105 := (Sm.c m_122 r_70 (by decide) rfl kn_82)
        have kn_140 : g_116.2.2.2.1 wt (22 : Int32).toNatClampNeg = 102 := (Sm.c m_122 r_70 (by decide) rfl kn_83)
        refine W.eq (g2 := F0 m 140 ls []) rfl ?_
        have qc_141 : (1 : Int32).toInt = 1 := (by decide)
        have qc_142 : (32 : Int32).toInt = 32 := (by decide)
        rcases f_119 with ⟨-, hs_s2_117, hw_s2_117⟩ | ⟨hx_, -⟩ | ⟨hx_, -⟩
        rotate_left
        · exact absurd hx_ (by decide)
        · exact absurd hx_ (by decide)
        have ew_ : w2_118 = 1 := i_inj (hw_s2_117.trans (by decide))
        subst ew_
        have hs_ : wsel ((txb ct z.toInt) s0.toInt) ((txb ct z.toInt) (s0.toInt + 1)) = 7 := ws_7 (by omega)
        have hq_ : qj (txb ct z.toInt) s0.toInt 7 = 1 := wp3_1 (by omega) (by omega)
        have hv_ := wd_f hs_ (Or.inr (fun h_ => absurd (hq_.symm.trans h_) (by decide)))
        exact lt_m_readsAct_c1 l D cI cZ cS cR N0 g h s0 rz wt na pa z t ct r_h r_na n_na r_pa n_pa r_wt n_wt r_t n_t krz ks0 kw0 kwt kna kpa kz kt l_rz u_rz l_s0 u_s0 hN_0 hWT_0 l_z u_z hc_0 hB hr   g_116 (7 : Int32) s2_117 H locs ls hT hI hE hM (by decide) (by decide) (by omega) (by omega) kn_133 f_120 f_121 hN hc hWT (ac_n hv_.1 (by have q_ := hv_.2; rw [hq_] at q_; omega)) (lv_sub hl [1, 2] rfl)
    · have ew_ : w2_31 = 1 := i_inj (hw_s2_30.trans (by decide))
      subst ew_
      refine lv_iinc (v := 1) (lv' := [(2, .int 1), (1, .int 7), (0, .ref h)]) hx hb dX7_readsAct_128 hl (k := 0) rfl (by decide) (by decide) rfl (fun ls hl => ?_)
      refine lv_goto (tgt := 89) hx hb dX7_readsAct_131 (by decide) ?_
      refine lv_iload_n hx hb dX7_readsAct_89 rfl (lv_at hl 0 rfl) ?_
      refine lv_iconst (v := 3) hx hb dX7_readsAct_90 (by decide) ?_
      refine lv_icmp_ge (tgt := 134) hx hb dX7_readsAct_91 (by decide) (fun c_ => absurd c_ (by decide)) (fun c_ => ?_)
      refine lv_aload_n hx hb dX7_readsAct_94 rfl (lv_at hl 2 rfl) ?_
      refine t_get (ci := 7) (v := .int 1) hB hT (ro_ci r_37 rfl) rfl 37 (by decide) k_782 f_34 dX7_readsAct_95 ?_
      refine lv_if_ne (tgt := 134) hx hb dX7_readsAct_98 (by decide) (fun c_ => ?_) (fun c_ => absurd c_ (by decide))
      refine lv_aload_n hx hb dX7_readsAct_134 rfl (lv_at hl 2 rfl) ?_
      refine lv_bipush (v := 32) hx hb dX7_readsAct_135 (by decide) ?_
      refine t_callV (n := 1) (As := [.int 32]) (rest := []) (ci := 7) hB hT hl.1 (m_must l D cI cZ cS cR N0 g_29 hI h 32 s2_30 1 z t ct r_37 r_41 n_45 f_33 f_34 kn_50 kn_51 (by have q0 : (1 : Int32).toInt = 1 := (by decide); have q1 : (32 : Int32).toInt = 32 := (by decide); omega) (by have q0 : (1 : Int32).toInt = 1 := (by decide); have q1 : (32 : Int32).toInt = 32 := (by decide); omega) (by have q0 : (1 : Int32).toInt = 1 := (by decide); have q1 : (32 : Int32).toInt = 32 := (by decide); omega) (by have q0 : (1 : Int32).toInt = 1 := (by decide); have q1 : (32 : Int32).toInt = 32 := (by decide); omega) (by have q0 : (1 : Int32).toInt = 1 := (by decide); have q1 : (32 : Int32).toInt = 32 := (by decide); omega) (by have q0 : (1 : Int32).toInt = 1 := (by decide); have q1 : (32 : Int32).toInt = 32 := (by decide); omega) (by have q0 : (1 : Int32).toInt = 1 := (by decide); have q1 : (32 : Int32).toInt = 32 := (by decide); omega) hc) (ro_ci r_37 rfl) rfl k_975 k_65 k_972 k_974 k_24 (by decide +kernel) ⟨(Nat.le_of_ble_eq_true rfl), (Nat.le_of_ble_eq_true rfl)⟩ rfl (Nat.le_of_ble_eq_true rfl) ⟨(Nat.le_of_ble_eq_true rfl), (Nat.le_of_ble_eq_true rfl)⟩ dX7_readsAct_137 (fun v g_143 H locs hp hT => ?_)
      obtain ⟨s2_144, w2_145, rfl, hI, x_150, m_149, f_146, f_147, f_148⟩ := hp
      have hN : PL 8 g_143 na pa := hN.sm m_149 r_38 (by decide) rfl r_39 (by decide) rfl
      have hc : g_143.2.2.2.1 t = ct := (Sm.cf m_149 r_41 (by decide) rfl).trans hc
      have hWT : WT g_143 wt := hWT.sm m_149 r_40 (by decide) rfl
      have hM : Sm md_m_readsAct g g_143 := hM.tr hE (m_149.mo (fun r k h => mdle_m_readsAct_m_must h))
      have hE : Ex g g_143 := hE.tr x_150
      have r_151 : g_143.1 h = 8 := (Ex.r x_150 r_37 (by decide))
      have r_152 : g_143.1 na = 84 := (Ex.r x_150 r_38 (by decide))
      have r_153 : g_143.1 pa = 85 := (Ex.r x_150 r_39 (by decide))
      have r_154 : g_143.1 wt = 87 := (Ex.r x_150 r_40 (by decide))
      have r_155 : g_143.1 t = 79 := (Ex.r x_150 r_41 (by decide))
      have n_156 : g_143.2.2.1 na = 8 := (Ex.n x_150 r_38 (by decide) n_42)
      have n_157 : g_143.2.2.1 pa = 8 := (Ex.n x_150 r_39 (by decide) n_43)
      have n_158 : g_143.2.2.1 wt = 24 := (Ex.n x_150 r_40 (by decide) n_44)
      have n_159 : g_143.2.2.1 t = 100 := (Ex.n x_150 r_41 (by decide) n_45)
      have kn_160 : g_143.2.1 h 38 = .int rz := (Sm.v m_149 r_37 (by decide) rfl kn_46)
      have kn_161 : g_143.2.1 h 42 = .ref wt := (Sm.v m_149 r_37 (by decide) rfl kn_47)
      have kn_162 : g_143.2.1 h 39 = .ref na := (Sm.v m_149 r_37 (by decide) rfl kn_48)
      have kn_163 : g_143.2.1 h 40 = .ref pa := (Sm.v m_149 r_37 (by decide) rfl kn_49)
      have kn_164 : g_143.2.1 h 29 = .int z := (Sm.v m_149 r_37 (by decide) rfl kn_50)
      have kn_165 : g_143.2.1 h 28 = .ref t := (Sm.v m_149 r_37 (by decide) rfl kn_51)
      have kn_166 : g_143.2.2.2.1 wt (21 : Int32).toNatClampNeg = 105 := (Sm.c m_149 r_40 (by decide) rfl kn_52)
      refine W.eq (g2 := F0 m 140 ls []) rfl ?_
      have qc_167 : (1 : Int32).toInt = 1 := (by decide)
      have qc_168 : (32 : Int32).toInt = 32 := (by decide)
      rcases f_146 with ⟨-, hs_s2_144, hw_s2_144⟩ | ⟨hx_, -⟩ | ⟨hx_, -⟩
      rotate_left
      · exact absurd hx_ (by decide)
      · exact absurd hx_ (by decide)
      have ew_ : w2_145 = 1 := i_inj (hw_s2_144.trans (by decide))
      subst ew_
      have hs_ : wsel ((txb ct z.toInt) s0.toInt) ((txb ct z.toInt) (s0.toInt + 1)) = 7 := ws_7 (by omega)
      have hq_ : qj (txb ct z.toInt) s0.toInt 7 = 0 := wp3_0 (by omega)
      have hv_ := wd_f hs_ (Or.inr (fun h_ => absurd (hq_.symm.trans h_) (by decide)))
      exact lt_m_readsAct_c1 l D cI cZ cS cR N0 g h s0 rz wt na pa z t ct r_h r_na n_na r_pa n_pa r_wt n_wt r_t n_t krz ks0 kw0 kwt kna kpa kz kt l_rz u_rz l_s0 u_s0 hN_0 hWT_0 l_z u_z hc_0 hB hr   g_143 (7 : Int32) s2_144 H locs ls hT hI hE hM (by decide) (by decide) (by omega) (by omega) kn_160 f_147 f_148 hN hc hWT (ac_n hv_.1 (by have q_ := hv_.2; rw [hq_] at q_; omega)) (lv_sub hl [1, 2] rfl)
  · have c_24' : r_16.toInt ≠ 105 := i_ne c_24 rfl (by decide)
    refine lv_iinc (v := 8) (lv' := [(1, .int 8), (0, .ref h)]) hx hb dX7_readsAct_59 hl (k := 0) rfl (by decide) (by decide) rfl (fun ls hl => ?_)
    refine lv_goto (tgt := 34) hx hb dX7_readsAct_62 (by decide) ?_
    exact lt_m_readsAct_w8 l D cI cZ cS cR N0 g h s0 rz wt na pa z t ct r_h r_na n_na r_pa n_pa r_wt n_wt r_t n_t krz ks0 kw0 kwt kna kpa kz kt l_rz u_rz l_s0 u_s0 hN_0 hWT_0 l_z u_z hc_0 hB hr   g1 H locs ls hT hI hE hM kp0 kp1 kp2 hN hc hWT (by omega) (lv_sub hl [0, 1] rfl)
set_option maxHeartbeats 4000000 in
set_option maxRecDepth 100000 in
theorem lt_m_readsAct_w6 (l : Launch) (D : va_G) (cI cZ cS cR : ClassId) (N0 : NT) (g : GS) (h : Nat) (s0 : Int32) (rz : Int32) (wt : Nat) (na : Nat) (pa : Nat) (z : Int32) (t : Nat) (ct : Nat → Int32) (r_h : g.1 h = 8) (r_na : g.1 na = 84) (n_na : g.2.2.1 na = 8) (r_pa : g.1 pa = 85) (n_pa : g.2.2.1 pa = 8) (r_wt : g.1 wt = 87) (n_wt : g.2.2.1 wt = 24) (r_t : g.1 t = 79) (n_t : g.2.2.1 t = 100) (krz : g.2.1 h 38 = .int rz) (ks0 : g.2.1 h 36 = .int s0) (kw0 : g.2.1 h 37 = .int 0) (kwt : g.2.1 h 42 = .ref wt) (kna : g.2.1 h 39 = .ref na) (kpa : g.2.1 h 40 = .ref pa) (kz : g.2.1 h 29 = .int z) (kt : g.2.1 h 28 = .ref t) (l_rz : 0 ≤ rz.toInt) (u_rz : rz.toInt ≤ 7) (l_s0 : 0 ≤ s0.toInt) (u_s0 : s0.toInt ≤ 100) (hN_0 : PL 8 g na pa) (hWT_0 : WT g wt) (l_z : 0 ≤ z.toInt) (u_z : z.toInt ≤ 100) (hc_0 : g.2.2.2.1 t = ct) {p : Program} {e : Env} {s : State} {m : MethodId} {args : Array Value} {below : List Frame} {meth : Method} {c : Code} (hB : Tz p s m meth c args cX7_readsAct 4 RX7 D cI cZ cS cR N0) (hr : meth.sig.returnType = none)    : ∀ (g1 : GS)   (H : Heap) (locs : List Loc) (ls : Array Slot), Tv D cI cZ cS cR N0 s.heap H locs g1 → Inv g1 → Ex g g1 → Sm md_m_readsAct g g1 → g1.2.1 h 38 = .int rz → g1.2.1 h 36 = .int s0 → g1.2.1 h 37 = .int 0 → (PL 8 g1 na pa) → (g1.2.2.2.1 t = ct) → (WT g1 wt) → (¬ ((txb ct z.toInt) s0.toInt = 97 ∧ (txb ct z.toInt) (s0.toInt + 1) = 115) ∧ (txb ct z.toInt) s0.toInt ≠ 115 ∧ (txb ct z.toInt) s0.toInt ≠ 97 ∧ (txb ct z.toInt) s0.toInt ≠ 109 ∧ (txb ct z.toInt) s0.toInt ≠ 110 ∧ (txb ct z.toInt) s0.toInt ≠ 103 ∧ (txb ct z.toInt) s0.toInt ≠ 97) → lv_has ls 4 [(1, .int 6), (0, .ref h)] → W p l e (rmx 2 0 0) s m args below meth c H locs 0 0 (MQ below (tQ D cI cZ cS cR N0 (fun v g' => ∃ (z2 : Int32) (s2 : Int32) (w2 : Int32), v = none ∧ Inv g' ∧ Ex g g' ∧ Sm md_m_readsAct g g' ∧ ((w2 = 1 ∧ ac (txb ct z.toInt) s0.toInt = (false, s2.toInt)) ∨ (w2 = 0 ∧ ac (txb ct z.toInt) s0.toInt = (true, s2.toInt) ∧ s2.toInt ≤ z.toInt)) ∧ (g'.2.1 h 38 = .int z2) ∧ (z2.toInt = rz.toInt + 1) ∧ (PL 8 g' na pa) ∧ (g'.2.1 h 36 = .int s2) ∧ (g'.2.1 h 37 = .int w2) ∧ (0 ≤ s2.toInt ∧ s2.toInt ≤ 100))) args s 0 0 (fun q => N0.1 ≤ q)) (F0 m 34 ls []) := by
  have hx := hB.1
  have hb := hB.2.1
  intro g1 H locs ls hT hI hE hM kp0 kp1 kp2 hN hc hWT hS hl
  have r_1 : g1.1 h = 8 := Ex.r hE r_h (by decide)
  have r_2 : g1.1 na = 84 := Ex.r hE r_na (by decide)
  have n_3 : g1.2.2.1 na = 8 := Ex.n hE r_na (by decide) n_na
  have r_4 : g1.1 pa = 85 := Ex.r hE r_pa (by decide)
  have n_5 : g1.2.2.1 pa = 8 := Ex.n hE r_pa (by decide) n_pa
  have r_6 : g1.1 wt = 87 := Ex.r hE r_wt (by decide)
  have n_7 : g1.2.2.1 wt = 24 := Ex.n hE r_wt (by decide) n_wt
  have r_8 : g1.1 t = 79 := Ex.r hE r_t (by decide)
  have n_9 : g1.2.2.1 t = 100 := Ex.n hE r_t (by decide) n_t
  have kn_10 : g1.2.1 h 42 = .ref wt := Sm.v hM r_h (by decide) rfl kwt
  have kn_11 : g1.2.1 h 39 = .ref na := Sm.v hM r_h (by decide) rfl kna
  have kn_12 : g1.2.1 h 40 = .ref pa := Sm.v hM r_h (by decide) rfl kpa
  have kn_13 : g1.2.1 h 29 = .int z := Sm.v hM r_h (by decide) rfl kz
  have kn_14 : g1.2.1 h 28 = .ref t := Sm.v hM r_h (by decide) rfl kt
  refine lv_iload_n hx hb dX7_readsAct_34 rfl (lv_at hl 0 rfl) ?_
  refine lv_bipush (v := 8) hx hb dX7_readsAct_35 (by decide) ?_
  refine lv_icmp_ge (tgt := 65) hx hb dX7_readsAct_37 (by decide) (fun c_ => absurd c_ (by decide)) (fun c_ => ?_)
  refine lv_aload_n hx hb dX7_readsAct_40 rfl (lv_at hl 1 rfl) ?_
  refine lv_aload_n hx hb dX7_readsAct_41 rfl (lv_at hl 1 rfl) ?_
  refine t_get (ci := 7) (v := .int s0) hB hT (ro_ci r_1 rfl) rfl 36 (by decide) k_781 kp1 dX7_readsAct_42 ?_
  refine t_callV (n := 1) (As := [.int s0]) (rest := []) (ci := 7) hB hT hl.1 (m_byteAt l D cI cZ cS cR N0 g1 hI h s0 z t ct r_1 r_8 n_9 kn_13 kn_14 (by omega) (by omega) (by omega) (by omega) hc) (ro_ci r_1 rfl) rfl k_971 k_65 k_968 k_970 k_23 (by decide +kernel) ⟨(Nat.le_of_ble_eq_true rfl), (Nat.le_of_ble_eq_true rfl)⟩ rfl (Nat.le_of_ble_eq_true rfl) ⟨(Nat.le_of_ble_eq_true rfl), (Nat.le_of_ble_eq_true rfl)⟩ dX7_readsAct_45 (fun v g_15 H locs hp hT => ?_)
  obtain ⟨r_16, rfl, eg, f_17, f_18, f_19⟩ := hp
  rw [eg] at hT
  clear eg
  refine W.eq (g2 := F0 m 48 ls [.int r_16]) rfl ?_
  refine lv_aload_n hx hb dX7_readsAct_48 rfl (lv_at hl 1 rfl) ?_
  refine t_get (ci := 7) (v := .ref wt) hB hT (ro_ci r_1 rfl) rfl 42 (by decide) k_787 kn_10 dX7_readsAct_49 ?_
  refine lv_iconst (v := 3) hx hb dX7_readsAct_52 (by decide) ?_
  refine lv_iload_n hx hb dX7_readsAct_53 rfl (lv_at hl 0 rfl) ?_
  refine lv_imul hx hb dX7_readsAct_54 ?_
  refine x_ev (y := 18) (by decide) ?_
  have kw_22 : g1.2.2.2.1 wt (18 : Int32).toNatClampNeg = 100 := (hWT (18 : Int32).toNatClampNeg (by decide)).trans (by decide)
  have i_u_23 : vp_in (18 : Int32) 24 := (by unfold vp_in; decide)
  refine t_iald (v := (100 : Int32)) hB hT (ro_in r_6 (by decide)) n_7 i_u_23 kw_22 dX7_readsAct_55 ?_
  refine lv_icmp_eq (tgt := 65) hx hb dX7_readsAct_56 (by decide) (fun c_24 => ?_) (fun c_24 => ?_)
  · have c_24' : r_16.toInt = 100 := i_eq c_24 rfl (by decide)
    refine lv_aload_n hx hb dX7_readsAct_65 rfl (lv_at hl 1 rfl) ?_
    refine lv_aload_n hx hb dX7_readsAct_66 rfl (lv_at hl 1 rfl) ?_
    refine t_get (ci := 7) (v := .int 0) hB hT (ro_ci r_1 rfl) rfl 37 (by decide) k_782 kp2 dX7_readsAct_67 ?_
    refine lv_if_ne (tgt := 79) hx hb dX7_readsAct_70 (by decide) (fun c_ => absurd (by decide) c_) (fun c_ => ?_)
    refine lv_iload_n hx hb dX7_readsAct_73 rfl (lv_at hl 0 rfl) ?_
    refine lv_bipush (v := 8) hx hb dX7_readsAct_74 (by decide) ?_
    refine lv_icmp_ne (tgt := 83) hx hb dX7_readsAct_76 (by decide) (fun c_ => ?_) (fun c_ => absurd c_ (by decide))
    refine lv_iconst (v := 0) hx hb dX7_readsAct_83 (by decide) ?_
    refine t_put0 (ci := 7) (v := .int 0) hB hT (ro_ci r_1 rfl) (ro_n0 r_1 (by decide)) rfl 37 (by decide) k_782 (Or.inl rfl) rfl rfl dX7_readsAct_84 (fun H locs hT => ?_)
    have hI : Inv (sF g1 h 37 (.int 0)) := hI.sF (p_8_37 r_1 (⟨_, rfl, by decide, by decide⟩))
    have hM : Sm md_m_readsAct g (sF g1 h 37 (.int 0)) := hM.tr hE (Sm_sF (by rw [r_1]; rfl))
    have hE : Ex g (sF g1 h 37 (.int 0)) := hE
    have hN : PL 8 (sF g1 h 37 (.int 0)) na pa := hN
    have hc : (sF g1 h 37 (.int 0)).2.2.2.1 t = ct := hc
    have hWT : WT (sF g1 h 37 (.int 0)) wt := hWT
    refine lv_iconst (v := 0) hx hb dX7_readsAct_87 (by decide) ?_
    refine lv_istore_n (lv' := [(2, .int 0), (1, .int 6), (0, .ref h)]) hx hb dX7_readsAct_88 rfl hl (by decide) rfl (fun ls hl => ?_)
    refine lv_iload_n hx hb dX7_readsAct_89 rfl (lv_at hl 0 rfl) ?_
    refine lv_iconst (v := 3) hx hb dX7_readsAct_90 (by decide) ?_
    refine lv_icmp_ge (tgt := 134) hx hb dX7_readsAct_91 (by decide) (fun c_ => absurd c_ (by decide)) (fun c_ => ?_)
    refine lv_aload_n hx hb dX7_readsAct_94 rfl (lv_at hl 2 rfl) ?_
    refine t_get (ci := 7) (v := .int 0) hB hT (ro_ci r_1 rfl) rfl 37 (by decide) k_782 sF_eq dX7_readsAct_95 ?_
    refine lv_if_ne (tgt := 134) hx hb dX7_readsAct_98 (by decide) (fun c_ => absurd (by decide) c_) (fun c_ => ?_)
    refine lv_aload_n hx hb dX7_readsAct_101 rfl (lv_at hl 2 rfl) ?_
    refine t_get (ci := 7) (v := .ref wt) hB hT (ro_ci r_1 rfl) rfl 42 (by decide) k_787 (sF_k kn_10 (by decide)) dX7_readsAct_102 ?_
    refine lv_iconst (v := 3) hx hb dX7_readsAct_105 (by decide) ?_
    refine lv_iload_n hx hb dX7_readsAct_106 rfl (lv_at hl 1 rfl) ?_
    refine lv_imul hx hb dX7_readsAct_107 ?_
    refine x_ev (y := 18) (by decide) ?_
    refine lv_iload_n hx hb dX7_readsAct_108 rfl (lv_at hl 0 rfl) ?_
    refine lv_iadd hx hb dX7_readsAct_109 ?_
    refine x_ev (y := 18) (by decide) ?_
    have kw_25 : (sF g1 h 37 (.int 0)).2.2.2.1 wt (18 : Int32).toNatClampNeg = 100 := (hWT (18 : Int32).toNatClampNeg (by decide)).trans (by decide)
    have i_u_26 : vp_in (18 : Int32) 24 := (by unfold vp_in; decide)
    refine t_iald (v := (100 : Int32)) hB hT (ro_in r_6 (by decide)) n_7 i_u_26 kw_25 dX7_readsAct_110 ?_
    refine lv_if_eq (tgt := 128) hx hb dX7_readsAct_111 (by decide) (fun c_ => absurd c_ (by decide)) (fun c_ => ?_)
    refine lv_aload_n hx hb dX7_readsAct_114 rfl (lv_at hl 2 rfl) ?_
    refine lv_aload_n hx hb dX7_readsAct_115 rfl (lv_at hl 2 rfl) ?_
    refine t_get (ci := 7) (v := .ref wt) hB hT (ro_ci r_1 rfl) rfl 42 (by decide) k_787 (sF_k kn_10 (by decide)) dX7_readsAct_116 ?_
    refine lv_iconst (v := 3) hx hb dX7_readsAct_119 (by decide) ?_
    refine lv_iload_n hx hb dX7_readsAct_120 rfl (lv_at hl 1 rfl) ?_
    refine lv_imul hx hb dX7_readsAct_121 ?_
    refine x_ev (y := 18) (by decide) ?_
    refine lv_iload_n hx hb dX7_readsAct_122 rfl (lv_at hl 0 rfl) ?_
    refine lv_iadd hx hb dX7_readsAct_123 ?_
    refine x_ev (y := 18) (by decide) ?_
    have kw_27 : (sF g1 h 37 (.int 0)).2.2.2.1 wt (18 : Int32).toNatClampNeg = 100 := (hWT (18 : Int32).toNatClampNeg (by decide)).trans (by decide)
    have i_u_28 : vp_in (18 : Int32) 24 := (by unfold vp_in; decide)
    refine t_iald (v := (100 : Int32)) hB hT (ro_in r_6 (by decide)) n_7 i_u_28 kw_27 dX7_readsAct_124 ?_
    refine t_callV (n := 1) (As := [.int 100]) (rest := []) (ci := 7) hB hT hl.1 (m_must l D cI cZ cS cR N0 (sF g1 h 37 (.int 0)) hI h 100 s0 0 z t ct r_1 r_8 n_9 (sF_k kp1 (by decide)) sF_eq (sF_k kn_13 (by decide)) (sF_k kn_14 (by decide)) (by have q0 : (0 : Int32).toInt = 0 := (by decide); have q1 : (100 : Int32).toInt = 100 := (by decide); omega) (by have q0 : (0 : Int32).toInt = 0 := (by decide); have q1 : (100 : Int32).toInt = 100 := (by decide); omega) (by have q0 : (0 : Int32).toInt = 0 := (by decide); have q1 : (100 : Int32).toInt = 100 := (by decide); omega) (by have q0 : (0 : Int32).toInt = 0 := (by decide); have q1 : (100 : Int32).toInt = 100 := (by decide); omega) (by have q0 : (0 : Int32).toInt = 0 := (by decide); have q1 : (100 : Int32).toInt = 100 := (by decide); omega) (by have q0 : (0 : Int32).toInt = 0 := (by decide); have q1 : (100 : Int32).toInt = 100 := (by decide); omega) (by have q0 : (0 : Int32).toInt = 0 := (by decide); have q1 : (100 : Int32).toInt = 100 := (by decide); omega) hc) (ro_ci r_1 rfl) rfl k_975 k_65 k_972 k_974 k_24 (by decide +kernel) ⟨(Nat.le_of_ble_eq_true rfl), (Nat.le_of_ble_eq_true rfl)⟩ rfl (Nat.le_of_ble_eq_true rfl) ⟨(Nat.le_of_ble_eq_true rfl), (Nat.le_of_ble_eq_true rfl)⟩ dX7_readsAct_125 (fun v g_29 H locs hp hT => ?_)
    obtain ⟨s2_30, w2_31, rfl, hI, x_36, m_35, f_32, f_33, f_34⟩ := hp
    have hN : PL 8 g_29 na pa := hN.sm m_35 r_2 (by decide) rfl r_4 (by decide) rfl
    have hc : g_29.2.2.2.1 t = ct := (Sm.cf m_35 r_8 (by decide) rfl).trans hc
    have hWT : WT g_29 wt := hWT.sm m_35 r_6 (by decide) rfl
    have hM : Sm md_m_readsAct g g_29 := hM.tr hE (m_35.mo (fun r k h => mdle_m_readsAct_m_must h))
    have hE : Ex g g_29 := hE.tr x_36
    have r_37 : g_29.1 h = 8 := (Ex.r x_36 r_1 (by decide))
    have r_38 : g_29.1 na = 84 := (Ex.r x_36 r_2 (by decide))
    have r_39 : g_29.1 pa = 85 := (Ex.r x_36 r_4 (by decide))
    have r_40 : g_29.1 wt = 87 := (Ex.r x_36 r_6 (by decide))
    have r_41 : g_29.1 t = 79 := (Ex.r x_36 r_8 (by decide))
    have n_42 : g_29.2.2.1 na = 8 := (Ex.n x_36 r_2 (by decide) n_3)
    have n_43 : g_29.2.2.1 pa = 8 := (Ex.n x_36 r_4 (by decide) n_5)
    have n_44 : g_29.2.2.1 wt = 24 := (Ex.n x_36 r_6 (by decide) n_7)
    have n_45 : g_29.2.2.1 t = 100 := (Ex.n x_36 r_8 (by decide) n_9)
    have kn_46 : g_29.2.1 h 38 = .int rz := (Sm.v m_35 r_1 (by decide) rfl (sF_k kp0 (by decide)))
    have kn_47 : g_29.2.1 h 42 = .ref wt := (Sm.v m_35 r_1 (by decide) rfl (sF_k kn_10 (by decide)))
    have kn_48 : g_29.2.1 h 39 = .ref na := (Sm.v m_35 r_1 (by decide) rfl (sF_k kn_11 (by decide)))
    have kn_49 : g_29.2.1 h 40 = .ref pa := (Sm.v m_35 r_1 (by decide) rfl (sF_k kn_12 (by decide)))
    have kn_50 : g_29.2.1 h 29 = .int z := (Sm.v m_35 r_1 (by decide) rfl (sF_k kn_13 (by decide)))
    have kn_51 : g_29.2.1 h 28 = .ref t := (Sm.v m_35 r_1 (by decide) rfl (sF_k kn_14 (by decide)))
    have kn_52 : g_29.2.2.2.1 wt (18 : Int32).toNatClampNeg = 100 := (Sm.c m_35 r_6 (by decide) rfl kw_27)
    refine W.eq (g2 := F0 m 128 ls []) rfl ?_
    have qc_53 : (0 : Int32).toInt = 0 := (by decide)
    have qc_54 : (100 : Int32).toInt = 100 := (by decide)
    rcases f_32 with ⟨hx_, -⟩ | ⟨-, ht_s2_30, hs_s2_30, hz_s2_30, hw_s2_30⟩ | ⟨-, ht_s2_30, hs_s2_30, hw_s2_30⟩
    · exact absurd hx_ (by decide)
    · have ew_ : w2_31 = 0 := i_inj (hw_s2_30.trans (by decide))
      subst ew_
      refine lv_iinc (v := 1) (lv' := [(2, .int 1), (1, .int 6), (0, .ref h)]) hx hb dX7_readsAct_128 hl (k := 0) rfl (by decide) (by decide) rfl (fun ls hl => ?_)
      refine lv_goto (tgt := 89) hx hb dX7_readsAct_131 (by decide) ?_
      refine lv_iload_n hx hb dX7_readsAct_89 rfl (lv_at hl 0 rfl) ?_
      refine lv_iconst (v := 3) hx hb dX7_readsAct_90 (by decide) ?_
      refine lv_icmp_ge (tgt := 134) hx hb dX7_readsAct_91 (by decide) (fun c_ => absurd c_ (by decide)) (fun c_ => ?_)
      refine lv_aload_n hx hb dX7_readsAct_94 rfl (lv_at hl 2 rfl) ?_
      refine t_get (ci := 7) (v := .int 0) hB hT (ro_ci r_37 rfl) rfl 37 (by decide) k_782 f_34 dX7_readsAct_95 ?_
      refine lv_if_ne (tgt := 134) hx hb dX7_readsAct_98 (by decide) (fun c_ => absurd (by decide) c_) (fun c_ => ?_)
      refine lv_aload_n hx hb dX7_readsAct_101 rfl (lv_at hl 2 rfl) ?_
      refine t_get (ci := 7) (v := .ref wt) hB hT (ro_ci r_37 rfl) rfl 42 (by decide) k_787 kn_47 dX7_readsAct_102 ?_
      refine lv_iconst (v := 3) hx hb dX7_readsAct_105 (by decide) ?_
      refine lv_iload_n hx hb dX7_readsAct_106 rfl (lv_at hl 1 rfl) ?_
      refine lv_imul hx hb dX7_readsAct_107 ?_
      refine x_ev (y := 18) (by decide) ?_
      refine lv_iload_n hx hb dX7_readsAct_108 rfl (lv_at hl 0 rfl) ?_
      refine lv_iadd hx hb dX7_readsAct_109 ?_
      refine x_ev (y := 19) (by decide) ?_
      have kw_55 : g_29.2.2.2.1 wt (19 : Int32).toNatClampNeg = 111 := (hWT (19 : Int32).toNatClampNeg (by decide)).trans (by decide)
      have i_u_56 : vp_in (19 : Int32) 24 := (by unfold vp_in; decide)
      refine t_iald (v := (111 : Int32)) hB hT (ro_in r_40 (by decide)) n_44 i_u_56 kw_55 dX7_readsAct_110 ?_
      refine lv_if_eq (tgt := 128) hx hb dX7_readsAct_111 (by decide) (fun c_ => absurd c_ (by decide)) (fun c_ => ?_)
      refine lv_aload_n hx hb dX7_readsAct_114 rfl (lv_at hl 2 rfl) ?_
      refine lv_aload_n hx hb dX7_readsAct_115 rfl (lv_at hl 2 rfl) ?_
      refine t_get (ci := 7) (v := .ref wt) hB hT (ro_ci r_37 rfl) rfl 42 (by decide) k_787 kn_47 dX7_readsAct_116 ?_
      refine lv_iconst (v := 3) hx hb dX7_readsAct_119 (by decide) ?_
      refine lv_iload_n hx hb dX7_readsAct_120 rfl (lv_at hl 1 rfl) ?_
      refine lv_imul hx hb dX7_readsAct_121 ?_
      refine x_ev (y := 18) (by decide) ?_
      refine lv_iload_n hx hb dX7_readsAct_122 rfl (lv_at hl 0 rfl) ?_
      refine lv_iadd hx hb dX7_readsAct_123 ?_
      refine x_ev (y := 19) (by decide) ?_
      have kw_57 : g_29.2.2.2.1 wt (19 : Int32).toNatClampNeg = 111 := (hWT (19 : Int32).toNatClampNeg (by decide)).trans (by decide)
      have i_u_58 : vp_in (19 : Int32) 24 := (by unfold vp_in; decide)
      refine t_iald (v := (111 : Int32)) hB hT (ro_in r_40 (by decide)) n_44 i_u_58 kw_57 dX7_readsAct_124 ?_
      refine t_callV (n := 1) (As := [.int 111]) (rest := []) (ci := 7) hB hT hl.1 (m_must l D cI cZ cS cR N0 g_29 hI h 111 s2_30 0 z t ct r_37 r_41 n_45 f_33 f_34 kn_50 kn_51 (by have q0 : (0 : Int32).toInt = 0 := (by decide); have q1 : (111 : Int32).toInt = 111 := (by decide); omega) (by have q0 : (0 : Int32).toInt = 0 := (by decide); have q1 : (111 : Int32).toInt = 111 := (by decide); omega) (by have q0 : (0 : Int32).toInt = 0 := (by decide); have q1 : (111 : Int32).toInt = 111 := (by decide); omega) (by have q0 : (0 : Int32).toInt = 0 := (by decide); have q1 : (111 : Int32).toInt = 111 := (by decide); omega) (by have q0 : (0 : Int32).toInt = 0 := (by decide); have q1 : (111 : Int32).toInt = 111 := (by decide); omega) (by have q0 : (0 : Int32).toInt = 0 := (by decide); have q1 : (111 : Int32).toInt = 111 := (by decide); omega) (by have q0 : (0 : Int32).toInt = 0 := (by decide); have q1 : (111 : Int32).toInt = 111 := (by decide); omega) hc) (ro_ci r_37 rfl) rfl k_975 k_65 k_972 k_974 k_24 (by decide +kernel) ⟨(Nat.le_of_ble_eq_true rfl), (Nat.le_of_ble_eq_true rfl)⟩ rfl (Nat.le_of_ble_eq_true rfl) ⟨(Nat.le_of_ble_eq_true rfl), (Nat.le_of_ble_eq_true rfl)⟩ dX7_readsAct_125 (fun v g_59 H locs hp hT => ?_)
      obtain ⟨s2_60, w2_61, rfl, hI, x_66, m_65, f_62, f_63, f_64⟩ := hp
      have hN : PL 8 g_59 na pa := hN.sm m_65 r_38 (by decide) rfl r_39 (by decide) rfl
      have hc : g_59.2.2.2.1 t = ct := (Sm.cf m_65 r_41 (by decide) rfl).trans hc
      have hWT : WT g_59 wt := hWT.sm m_65 r_40 (by decide) rfl
      have hM : Sm md_m_readsAct g g_59 := hM.tr hE (m_65.mo (fun r k h => mdle_m_readsAct_m_must h))
      have hE : Ex g g_59 := hE.tr x_66
      have r_67 : g_59.1 h = 8 := (Ex.r x_66 r_37 (by decide))
      have r_68 : g_59.1 na = 84 := (Ex.r x_66 r_38 (by decide))
      have r_69 : g_59.1 pa = 85 := (Ex.r x_66 r_39 (by decide))
      have r_70 : g_59.1 wt = 87 := (Ex.r x_66 r_40 (by decide))
      have r_71 : g_59.1 t = 79 := (Ex.r x_66 r_41 (by decide))
      have n_72 : g_59.2.2.1 na = 8 := (Ex.n x_66 r_38 (by decide) n_42)
      have n_73 : g_59.2.2.1 pa = 8 := (Ex.n x_66 r_39 (by decide) n_43)
      have n_74 : g_59.2.2.1 wt = 24 := (Ex.n x_66 r_40 (by decide) n_44)
      have n_75 : g_59.2.2.1 t = 100 := (Ex.n x_66 r_41 (by decide) n_45)
      have kn_76 : g_59.2.1 h 38 = .int rz := (Sm.v m_65 r_37 (by decide) rfl kn_46)
      have kn_77 : g_59.2.1 h 42 = .ref wt := (Sm.v m_65 r_37 (by decide) rfl kn_47)
      have kn_78 : g_59.2.1 h 39 = .ref na := (Sm.v m_65 r_37 (by decide) rfl kn_48)
      have kn_79 : g_59.2.1 h 40 = .ref pa := (Sm.v m_65 r_37 (by decide) rfl kn_49)
      have kn_80 : g_59.2.1 h 29 = .int z := (Sm.v m_65 r_37 (by decide) rfl kn_50)
      have kn_81 : g_59.2.1 h 28 = .ref t := (Sm.v m_65 r_37 (by decide) rfl kn_51)
      have kn_82 : g_59.2.2.2.1 wt (18 : Int32).toNatClampNeg = 100 := (Sm.c m_65 r_40 (by decide) rfl kn_52)
      have kn_83 : g_59.2.2.2.1 wt (19 : Int32).toNatClampNeg = 111 := (Sm.c m_65 r_40 (by decide) rfl kw_57)
      refine W.eq (g2 := F0 m 128 ls []) rfl ?_
      have qc_84 : (0 : Int32).toInt = 0 := (by decide)
      have qc_85 : (111 : Int32).toInt = 111 := (by decide)
      rcases f_62 with ⟨hx_, -⟩ | ⟨-, ht_s2_60, hs_s2_60, hz_s2_60, hw_s2_60⟩ | ⟨-, ht_s2_60, hs_s2_60, hw_s2_60⟩
      · exact absurd hx_ (by decide)
      · have ew_ : w2_61 = 0 := i_inj (hw_s2_60.trans (by decide))
        subst ew_
        rw [show s2_30.toInt = s0.toInt + 1 by omega] at ht_s2_60
        refine lv_iinc (v := 2) (lv' := [(2, .int 2), (1, .int 6), (0, .ref h)]) hx hb dX7_readsAct_128 hl (k := 0) rfl (by decide) (by decide) rfl (fun ls hl => ?_)
        refine lv_goto (tgt := 89) hx hb dX7_readsAct_131 (by decide) ?_
        refine lv_iload_n hx hb dX7_readsAct_89 rfl (lv_at hl 0 rfl) ?_
        refine lv_iconst (v := 3) hx hb dX7_readsAct_90 (by decide) ?_
        refine lv_icmp_ge (tgt := 134) hx hb dX7_readsAct_91 (by decide) (fun c_ => absurd c_ (by decide)) (fun c_ => ?_)
        refine lv_aload_n hx hb dX7_readsAct_94 rfl (lv_at hl 2 rfl) ?_
        refine t_get (ci := 7) (v := .int 0) hB hT (ro_ci r_67 rfl) rfl 37 (by decide) k_782 f_64 dX7_readsAct_95 ?_
        refine lv_if_ne (tgt := 134) hx hb dX7_readsAct_98 (by decide) (fun c_ => absurd (by decide) c_) (fun c_ => ?_)
        refine lv_aload_n hx hb dX7_readsAct_101 rfl (lv_at hl 2 rfl) ?_
        refine t_get (ci := 7) (v := .ref wt) hB hT (ro_ci r_67 rfl) rfl 42 (by decide) k_787 kn_77 dX7_readsAct_102 ?_
        refine lv_iconst (v := 3) hx hb dX7_readsAct_105 (by decide) ?_
        refine lv_iload_n hx hb dX7_readsAct_106 rfl (lv_at hl 1 rfl) ?_
        refine lv_imul hx hb dX7_readsAct_107 ?_
        refine x_ev (y := 18) (by decide) ?_
        refine lv_iload_n hx hb dX7_readsAct_108 rfl (lv_at hl 0 rfl) ?_
        refine lv_iadd hx hb dX7_readsAct_109 ?_
        refine x_ev (y := 20) (by decide) ?_
        have kw_86 : g_59.2.2.2.1 wt (20 : Int32).toNatClampNeg = 0 := (hWT (20 : Int32).toNatClampNeg (by decide)).trans (by decide)
        have i_u_87 : vp_in (20 : Int32) 24 := (by unfold vp_in; decide)
        refine t_iald (v := (0 : Int32)) hB hT (ro_in r_70 (by decide)) n_74 i_u_87 kw_86 dX7_readsAct_110 ?_
        refine lv_if_eq (tgt := 128) hx hb dX7_readsAct_111 (by decide) (fun c_ => ?_) (fun c_ => absurd (by decide) c_)
        refine lv_iinc (v := 3) (lv' := [(2, .int 3), (1, .int 6), (0, .ref h)]) hx hb dX7_readsAct_128 hl (k := 0) rfl (by decide) (by decide) rfl (fun ls hl => ?_)
        refine lv_goto (tgt := 89) hx hb dX7_readsAct_131 (by decide) ?_
        refine lv_iload_n hx hb dX7_readsAct_89 rfl (lv_at hl 0 rfl) ?_
        refine lv_iconst (v := 3) hx hb dX7_readsAct_90 (by decide) ?_
        refine lv_icmp_ge (tgt := 134) hx hb dX7_readsAct_91 (by decide) (fun c_ => ?_) (fun c_ => absurd (by decide) c_)
        refine lv_aload_n hx hb dX7_readsAct_134 rfl (lv_at hl 2 rfl) ?_
        refine lv_bipush (v := 32) hx hb dX7_readsAct_135 (by decide) ?_
        refine t_callV (n := 1) (As := [.int 32]) (rest := []) (ci := 7) hB hT hl.1 (m_must l D cI cZ cS cR N0 g_59 hI h 32 s2_60 0 z t ct r_67 r_71 n_75 f_63 f_64 kn_80 kn_81 (by have q0 : (0 : Int32).toInt = 0 := (by decide); have q1 : (32 : Int32).toInt = 32 := (by decide); omega) (by have q0 : (0 : Int32).toInt = 0 := (by decide); have q1 : (32 : Int32).toInt = 32 := (by decide); omega) (by have q0 : (0 : Int32).toInt = 0 := (by decide); have q1 : (32 : Int32).toInt = 32 := (by decide); omega) (by have q0 : (0 : Int32).toInt = 0 := (by decide); have q1 : (32 : Int32).toInt = 32 := (by decide); omega) (by have q0 : (0 : Int32).toInt = 0 := (by decide); have q1 : (32 : Int32).toInt = 32 := (by decide); omega) (by have q0 : (0 : Int32).toInt = 0 := (by decide); have q1 : (32 : Int32).toInt = 32 := (by decide); omega) (by have q0 : (0 : Int32).toInt = 0 := (by decide); have q1 : (32 : Int32).toInt = 32 := (by decide); omega) hc) (ro_ci r_67 rfl) rfl k_975 k_65 k_972 k_974 k_24 (by decide +kernel) ⟨(Nat.le_of_ble_eq_true rfl), (Nat.le_of_ble_eq_true rfl)⟩ rfl (Nat.le_of_ble_eq_true rfl) ⟨(Nat.le_of_ble_eq_true rfl), (Nat.le_of_ble_eq_true rfl)⟩ dX7_readsAct_137 (fun v g_88 H locs hp hT => ?_)
        obtain ⟨s2_89, w2_90, rfl, hI, x_95, m_94, f_91, f_92, f_93⟩ := hp
        have hN : PL 8 g_88 na pa := hN.sm m_94 r_68 (by decide) rfl r_69 (by decide) rfl
        have hc : g_88.2.2.2.1 t = ct := (Sm.cf m_94 r_71 (by decide) rfl).trans hc
        have hWT : WT g_88 wt := hWT.sm m_94 r_70 (by decide) rfl
        have hM : Sm md_m_readsAct g g_88 := hM.tr hE (m_94.mo (fun r k h => mdle_m_readsAct_m_must h))
        have hE : Ex g g_88 := hE.tr x_95
        have r_96 : g_88.1 h = 8 := (Ex.r x_95 r_67 (by decide))
        have r_97 : g_88.1 na = 84 := (Ex.r x_95 r_68 (by decide))
        have r_98 : g_88.1 pa = 85 := (Ex.r x_95 r_69 (by decide))
        have r_99 : g_88.1 wt = 87 := (Ex.r x_95 r_70 (by decide))
        have r_100 : g_88.1 t = 79 := (Ex.r x_95 r_71 (by decide))
        have n_101 : g_88.2.2.1 na = 8 := (Ex.n x_95 r_68 (by decide) n_72)
        have n_102 : g_88.2.2.1 pa = 8 := (Ex.n x_95 r_69 (by decide) n_73)
        have n_103 : g_88.2.2.1 wt = 24 := (Ex.n x_95 r_70 (by decide) n_74)
        have n_104 : g_88.2.2.1 t = 100 := (Ex.n x_95 r_71 (by decide) n_75)
        have kn_105 : g_88.2.1 h 38 = .int rz := (Sm.v m_94 r_67 (by decide) rfl kn_76)
        have kn_106 : g_88.2.1 h 42 = .ref wt := (Sm.v m_94 r_67 (by decide) rfl kn_77)
        have kn_107 : g_88.2.1 h 39 = .ref na := (Sm.v m_94 r_67 (by decide) rfl kn_78)
        have kn_108 : g_88.2.1 h 40 = .ref pa := (Sm.v m_94 r_67 (by decide) rfl kn_79)
        have kn_109 : g_88.2.1 h 29 = .int z := (Sm.v m_94 r_67 (by decide) rfl kn_80)
        have kn_110 : g_88.2.1 h 28 = .ref t := (Sm.v m_94 r_67 (by decide) rfl kn_81)
        have kn_111 : g_88.2.2.2.1 wt (18 : Int32).toNatClampNeg = 100 := (Sm.c m_94 r_70 (by decide) rfl kn_82)
        have kn_112 : g_88.2.2.2.1 wt (19 : Int32).toNatClampNeg = 111 := (Sm.c m_94 r_70 (by decide) rfl kn_83)
        have kn_113 : g_88.2.2.2.1 wt (20 : Int32).toNatClampNeg = 0 := (Sm.c m_94 r_70 (by decide) rfl kw_86)
        refine W.eq (g2 := F0 m 140 ls []) rfl ?_
        have qc_114 : (0 : Int32).toInt = 0 := (by decide)
        have qc_115 : (32 : Int32).toInt = 32 := (by decide)
        rcases f_91 with ⟨hx_, -⟩ | ⟨-, ht_s2_89, hs_s2_89, hz_s2_89, hw_s2_89⟩ | ⟨-, ht_s2_89, hs_s2_89, hw_s2_89⟩
        · exact absurd hx_ (by decide)
        · have ew_ : w2_90 = 0 := i_inj (hw_s2_89.trans (by decide))
          subst ew_
          rw [show s2_60.toInt = s0.toInt + 2 by omega] at ht_s2_89
          have hv_ := wo_6 (T := (txb ct z.toInt)) (p := s0.toInt) ⟨by omega, by omega, by omega⟩
          exact lt_m_readsAct_c0 l D cI cZ cS cR N0 g h s0 rz wt na pa z t ct r_h r_na n_na r_pa n_pa r_wt n_wt r_t n_t krz ks0 kw0 kwt kna kpa kz kt l_rz u_rz l_s0 u_s0 hN_0 hWT_0 l_z u_z hc_0 hB hr   g_88 (6 : Int32) s2_89 H locs ls hT hI hE hM (by decide) (by decide) (by omega) (by omega) kn_105 f_92 f_93 hN hc hWT ⟨by decide, hv_.1.trans (by decide), (by have q_ := hv_.2; omega), by omega⟩ (lv_sub hl [1, 2] rfl)
        · have ew_ : w2_90 = 1 := i_inj (hw_s2_89.trans (by decide))
          subst ew_
          rw [show s2_60.toInt = s0.toInt + 2 by omega] at ht_s2_89
          have hs_ : wsel ((txb ct z.toInt) s0.toInt) ((txb ct z.toInt) (s0.toInt + 1)) = 6 := ws_6 (by omega)
          have hq_ : qj (txb ct z.toInt) s0.toInt 6 = 2 := wp3_2 (by omega) (by omega) (by omega)
          have hv_ := wd_f hs_ (Or.inr (fun h_ => absurd (hq_.symm.trans h_) (by decide)))
          exact lt_m_readsAct_c1 l D cI cZ cS cR N0 g h s0 rz wt na pa z t ct r_h r_na n_na r_pa n_pa r_wt n_wt r_t n_t krz ks0 kw0 kwt kna kpa kz kt l_rz u_rz l_s0 u_s0 hN_0 hWT_0 l_z u_z hc_0 hB hr   g_88 (6 : Int32) s2_89 H locs ls hT hI hE hM (by decide) (by decide) (by omega) (by omega) kn_105 f_92 f_93 hN hc hWT (ac_n hv_.1 (by have q_ := hv_.2; rw [hq_] at q_; omega)) (lv_sub hl [1, 2] rfl)
      · have ew_ : w2_61 = 1 := i_inj (hw_s2_60.trans (by decide))
        subst ew_
        rw [show s2_30.toInt = s0.toInt + 1 by omega] at ht_s2_60
        refine lv_iinc (v := 2) (lv' := [(2, .int 2), (1, .int 6), (0, .ref h)]) hx hb dX7_readsAct_128 hl (k := 0) rfl (by decide) (by decide) rfl (fun ls hl => ?_)
        refine lv_goto (tgt := 89) hx hb dX7_readsAct_131 (by decide) ?_
        refine lv_iload_n hx hb dX7_readsAct_89 rfl (lv_at hl 0 rfl) ?_
        refine lv_iconst (v := 3) hx hb dX7_readsAct_90 (by decide) ?_
        refine lv_icmp_ge (tgt := 134) hx hb dX7_readsAct_91 (by decide) (fun c_ => absurd c_ (by decide)) (fun c_ => ?_)
        refine lv_aload_n hx hb dX7_readsAct_94 rfl (lv_at hl 2 rfl) ?_
        refine t_get (ci := 7) (v := .int 1) hB hT (ro_ci r_67 rfl) rfl 37 (by decide) k_782 f_64 dX7_readsAct_95 ?_
        refine lv_if_ne (tgt := 134) hx hb dX7_readsAct_98 (by decide) (fun c_ => ?_) (fun c_ => absurd c_ (by decide))
        refine lv_aload_n hx hb dX7_readsAct_134 rfl (lv_at hl 2 rfl) ?_
        refine lv_bipush (v := 32) hx hb dX7_readsAct_135 (by decide) ?_
        refine t_callV (n := 1) (As := [.int 32]) (rest := []) (ci := 7) hB hT hl.1 (m_must l D cI cZ cS cR N0 g_59 hI h 32 s2_60 1 z t ct r_67 r_71 n_75 f_63 f_64 kn_80 kn_81 (by have q0 : (1 : Int32).toInt = 1 := (by decide); have q1 : (32 : Int32).toInt = 32 := (by decide); omega) (by have q0 : (1 : Int32).toInt = 1 := (by decide); have q1 : (32 : Int32).toInt = 32 := (by decide); omega) (by have q0 : (1 : Int32).toInt = 1 := (by decide); have q1 : (32 : Int32).toInt = 32 := (by decide); omega) (by have q0 : (1 : Int32).toInt = 1 := (by decide); have q1 : (32 : Int32).toInt = 32 := (by decide); omega) (by have q0 : (1 : Int32).toInt = 1 := (by decide); have q1 : (32 : Int32).toInt = 32 := (by decide); omega) (by have q0 : (1 : Int32).toInt = 1 := (by decide); have q1 : (32 : Int32).toInt = 32 := (by decide); omega) (by have q0 : (1 : Int32).toInt = 1 := (by decide); have q1 : (32 : Int32).toInt = 32 := (by decide); omega) hc) (ro_ci r_67 rfl) rfl k_975 k_65 k_972 k_974 k_24 (by decide +kernel) ⟨(Nat.le_of_ble_eq_true rfl), (Nat.le_of_ble_eq_true rfl)⟩ rfl (Nat.le_of_ble_eq_true rfl) ⟨(Nat.le_of_ble_eq_true rfl), (Nat.le_of_ble_eq_true rfl)⟩ dX7_readsAct_137 (fun v g_116 H locs hp hT => ?_)
        obtain ⟨s2_117, w2_118, rfl, hI, x_123, m_122, f_119, f_120, f_121⟩ := hp
        have hN : PL 8 g_116 na pa := hN.sm m_122 r_68 (by decide) rfl r_69 (by decide) rfl
        have hc : g_116.2.2.2.1 t = ct := (Sm.cf m_122 r_71 (by decide) rfl).trans hc
        have hWT : WT g_116 wt := hWT.sm m_122 r_70 (by decide) rfl
        have hM : Sm md_m_readsAct g g_116 := hM.tr hE (m_122.mo (fun r k h => mdle_m_readsAct_m_must h))
        have hE : Ex g g_116 := hE.tr x_123
        have r_124 : g_116.1 h = 8 := (Ex.r x_123 r_67 (by decide))
        have r_125 : g_116.1 na = 84 := (Ex.r x_123 r_68 (by decide))
        have r_126 : g_116.1 pa = 85 := (Ex.r x_123 r_69 (by decide))
        have r_127 : g_116.1 wt = 87 := (Ex.r x_123 r_70 (by decide))
        have r_128 : g_116.1 t = 79 := (Ex.r x_123 r_71 (by decide))
        have n_129 : g_116.2.2.1 na = 8 := (Ex.n x_123 r_68 (by decide) n_72)
        have n_130 : g_116.2.2.1 pa = 8 := (Ex.n x_123 r_69 (by decide) n_73)
        have n_131 : g_116.2.2.1 wt = 24 := (Ex.n x_123 r_70 (by decide) n_74)
        have n_132 : g_116.2.2.1 t = 100 := (Ex.n x_123 r_71 (by decide) n_75)
        have kn_133 : g_116.2.1 h 38 = .int rz := (Sm.v m_122 r_67 (by decide) rfl kn_76)
        have kn_134 : g_116.2.1 h 42 = .ref wt := (Sm.v m_122 r_67 (by decide) rfl kn_77)
        have kn_135 : g_116.2.1 h 39 = .ref na := (Sm.v m_122 r_67 (by decide) rfl kn_78)
        have kn_136 : g_116.2.1 h 40 = .ref pa := (Sm.v m_122 r_67 (by decide) rfl kn_79)
        have kn_137 : g_116.2.1 h 29 = .int z := (Sm.v m_122 r_67 (by decide) rfl kn_80)
        have kn_138 : g_116.2.1 h 28 = .ref t := (Sm.v m_122 r_67 (by decide) rfl kn_81)
        have kn_139 : g_116.2.2.2.1 wt (18 : Int32).toNatClampNeg = 100 := (Sm.c m_122 r_70 (by decide) rfl kn_82)
        have kn_140 : g_116.2.2.2.1 wt (19 : Int32).toNatClampNeg = 111 := (Sm.c m_122 r_70 (by decide) rfl kn_83)
        refine W.eq (g2 := F0 m 140 ls []) rfl ?_
        have qc_141 : (1 : Int32).toInt = 1 := (by decide)
        have qc_142 : (32 : Int32).toInt = 32 := (by decide)
        rcases f_119 with ⟨-, hs_s2_117, hw_s2_117⟩ | ⟨hx_, -⟩ | ⟨hx_, -⟩
        rotate_left
        · exact absurd hx_ (by decide)
        · exact absurd hx_ (by decide)
        have ew_ : w2_118 = 1 := i_inj (hw_s2_117.trans (by decide))
        subst ew_
        have hs_ : wsel ((txb ct z.toInt) s0.toInt) ((txb ct z.toInt) (s0.toInt + 1)) = 6 := ws_6 (by omega)
        have hq_ : qj (txb ct z.toInt) s0.toInt 6 = 1 := wp3_1 (by omega) (by omega)
        have hv_ := wd_f hs_ (Or.inr (fun h_ => absurd (hq_.symm.trans h_) (by decide)))
        exact lt_m_readsAct_c1 l D cI cZ cS cR N0 g h s0 rz wt na pa z t ct r_h r_na n_na r_pa n_pa r_wt n_wt r_t n_t krz ks0 kw0 kwt kna kpa kz kt l_rz u_rz l_s0 u_s0 hN_0 hWT_0 l_z u_z hc_0 hB hr   g_116 (6 : Int32) s2_117 H locs ls hT hI hE hM (by decide) (by decide) (by omega) (by omega) kn_133 f_120 f_121 hN hc hWT (ac_n hv_.1 (by have q_ := hv_.2; rw [hq_] at q_; omega)) (lv_sub hl [1, 2] rfl)
    · have ew_ : w2_31 = 1 := i_inj (hw_s2_30.trans (by decide))
      subst ew_
      refine lv_iinc (v := 1) (lv' := [(2, .int 1), (1, .int 6), (0, .ref h)]) hx hb dX7_readsAct_128 hl (k := 0) rfl (by decide) (by decide) rfl (fun ls hl => ?_)
      refine lv_goto (tgt := 89) hx hb dX7_readsAct_131 (by decide) ?_
      refine lv_iload_n hx hb dX7_readsAct_89 rfl (lv_at hl 0 rfl) ?_
      refine lv_iconst (v := 3) hx hb dX7_readsAct_90 (by decide) ?_
      refine lv_icmp_ge (tgt := 134) hx hb dX7_readsAct_91 (by decide) (fun c_ => absurd c_ (by decide)) (fun c_ => ?_)
      refine lv_aload_n hx hb dX7_readsAct_94 rfl (lv_at hl 2 rfl) ?_
      refine t_get (ci := 7) (v := .int 1) hB hT (ro_ci r_37 rfl) rfl 37 (by decide) k_782 f_34 dX7_readsAct_95 ?_
      refine lv_if_ne (tgt := 134) hx hb dX7_readsAct_98 (by decide) (fun c_ => ?_) (fun c_ => absurd c_ (by decide))
      refine lv_aload_n hx hb dX7_readsAct_134 rfl (lv_at hl 2 rfl) ?_
      refine lv_bipush (v := 32) hx hb dX7_readsAct_135 (by decide) ?_
      refine t_callV (n := 1) (As := [.int 32]) (rest := []) (ci := 7) hB hT hl.1 (m_must l D cI cZ cS cR N0 g_29 hI h 32 s2_30 1 z t ct r_37 r_41 n_45 f_33 f_34 kn_50 kn_51 (by have q0 : (1 : Int32).toInt = 1 := (by decide); have q1 : (32 : Int32).toInt = 32 := (by decide); omega) (by have q0 : (1 : Int32).toInt = 1 := (by decide); have q1 : (32 : Int32).toInt = 32 := (by decide); omega) (by have q0 : (1 : Int32).toInt = 1 := (by decide); have q1 : (32 : Int32).toInt = 32 := (by decide); omega) (by have q0 : (1 : Int32).toInt = 1 := (by decide); have q1 : (32 : Int32).toInt = 32 := (by decide); omega) (by have q0 : (1 : Int32).toInt = 1 := (by decide); have q1 : (32 : Int32).toInt = 32 := (by decide); omega) (by have q0 : (1 : Int32).toInt = 1 := (by decide); have q1 : (32 : Int32).toInt = 32 := (by decide); omega) (by have q0 : (1 : Int32).toInt = 1 := (by decide); have q1 : (32 : Int32).toInt = 32 := (by decide); omega) hc) (ro_ci r_37 rfl) rfl k_975 k_65 k_972 k_974 k_24 (by decide +kernel) ⟨(Nat.le_of_ble_eq_true rfl), (Nat.le_of_ble_eq_true rfl)⟩ rfl (Nat.le_of_ble_eq_true rfl) ⟨(Nat.le_of_ble_eq_true rfl), (Nat.le_of_ble_eq_true rfl)⟩ dX7_readsAct_137 (fun v g_143 H locs hp hT => ?_)
      obtain ⟨s2_144, w2_145, rfl, hI, x_150, m_149, f_146, f_147, f_148⟩ := hp
      have hN : PL 8 g_143 na pa := hN.sm m_149 r_38 (by decide) rfl r_39 (by decide) rfl
      have hc : g_143.2.2.2.1 t = ct := (Sm.cf m_149 r_41 (by decide) rfl).trans hc
      have hWT : WT g_143 wt := hWT.sm m_149 r_40 (by decide) rfl
      have hM : Sm md_m_readsAct g g_143 := hM.tr hE (m_149.mo (fun r k h => mdle_m_readsAct_m_must h))
      have hE : Ex g g_143 := hE.tr x_150
      have r_151 : g_143.1 h = 8 := (Ex.r x_150 r_37 (by decide))
      have r_152 : g_143.1 na = 84 := (Ex.r x_150 r_38 (by decide))
      have r_153 : g_143.1 pa = 85 := (Ex.r x_150 r_39 (by decide))
      have r_154 : g_143.1 wt = 87 := (Ex.r x_150 r_40 (by decide))
      have r_155 : g_143.1 t = 79 := (Ex.r x_150 r_41 (by decide))
      have n_156 : g_143.2.2.1 na = 8 := (Ex.n x_150 r_38 (by decide) n_42)
      have n_157 : g_143.2.2.1 pa = 8 := (Ex.n x_150 r_39 (by decide) n_43)
      have n_158 : g_143.2.2.1 wt = 24 := (Ex.n x_150 r_40 (by decide) n_44)
      have n_159 : g_143.2.2.1 t = 100 := (Ex.n x_150 r_41 (by decide) n_45)
      have kn_160 : g_143.2.1 h 38 = .int rz := (Sm.v m_149 r_37 (by decide) rfl kn_46)
      have kn_161 : g_143.2.1 h 42 = .ref wt := (Sm.v m_149 r_37 (by decide) rfl kn_47)
      have kn_162 : g_143.2.1 h 39 = .ref na := (Sm.v m_149 r_37 (by decide) rfl kn_48)
      have kn_163 : g_143.2.1 h 40 = .ref pa := (Sm.v m_149 r_37 (by decide) rfl kn_49)
      have kn_164 : g_143.2.1 h 29 = .int z := (Sm.v m_149 r_37 (by decide) rfl kn_50)
      have kn_165 : g_143.2.1 h 28 = .ref t := (Sm.v m_149 r_37 (by decide) rfl kn_51)
      have kn_166 : g_143.2.2.2.1 wt (18 : Int32).toNatClampNeg = 100 := (Sm.c m_149 r_40 (by decide) rfl kn_52)
      refine W.eq (g2 := F0 m 140 ls []) rfl ?_
      have qc_167 : (1 : Int32).toInt = 1 := (by decide)
      have qc_168 : (32 : Int32).toInt = 32 := (by decide)
      rcases f_146 with ⟨-, hs_s2_144, hw_s2_144⟩ | ⟨hx_, -⟩ | ⟨hx_, -⟩
      rotate_left
      · exact absurd hx_ (by decide)
      · exact absurd hx_ (by decide)
      have ew_ : w2_145 = 1 := i_inj (hw_s2_144.trans (by decide))
      subst ew_
      have hs_ : wsel ((txb ct z.toInt) s0.toInt) ((txb ct z.toInt) (s0.toInt + 1)) = 6 := ws_6 (by omega)
      have hq_ : qj (txb ct z.toInt) s0.toInt 6 = 0 := wp3_0 (by omega)
      have hv_ := wd_f hs_ (Or.inr (fun h_ => absurd (hq_.symm.trans h_) (by decide)))
      exact lt_m_readsAct_c1 l D cI cZ cS cR N0 g h s0 rz wt na pa z t ct r_h r_na n_na r_pa n_pa r_wt n_wt r_t n_t krz ks0 kw0 kwt kna kpa kz kt l_rz u_rz l_s0 u_s0 hN_0 hWT_0 l_z u_z hc_0 hB hr   g_143 (6 : Int32) s2_144 H locs ls hT hI hE hM (by decide) (by decide) (by omega) (by omega) kn_160 f_147 f_148 hN hc hWT (ac_n hv_.1 (by have q_ := hv_.2; rw [hq_] at q_; omega)) (lv_sub hl [1, 2] rfl)
  · have c_24' : r_16.toInt ≠ 100 := i_ne c_24 rfl (by decide)
    refine lv_iinc (v := 7) (lv' := [(1, .int 7), (0, .ref h)]) hx hb dX7_readsAct_59 hl (k := 0) rfl (by decide) (by decide) rfl (fun ls hl => ?_)
    refine lv_goto (tgt := 34) hx hb dX7_readsAct_62 (by decide) ?_
    exact lt_m_readsAct_w7 l D cI cZ cS cR N0 g h s0 rz wt na pa z t ct r_h r_na n_na r_pa n_pa r_wt n_wt r_t n_t krz ks0 kw0 kwt kna kpa kz kt l_rz u_rz l_s0 u_s0 hN_0 hWT_0 l_z u_z hc_0 hB hr   g1 H locs ls hT hI hE hM kp0 kp1 kp2 hN hc hWT (by omega) (lv_sub hl [0, 1] rfl)
set_option maxHeartbeats 4000000 in
set_option maxRecDepth 100000 in
theorem lt_m_readsAct_w5 (l : Launch) (D : va_G) (cI cZ cS cR : ClassId) (N0 : NT) (g : GS) (h : Nat) (s0 : Int32) (rz : Int32) (wt : Nat) (na : Nat) (pa : Nat) (z : Int32) (t : Nat) (ct : Nat → Int32) (r_h : g.1 h = 8) (r_na : g.1 na = 84) (n_na : g.2.2.1 na = 8) (r_pa : g.1 pa = 85) (n_pa : g.2.2.1 pa = 8) (r_wt : g.1 wt = 87) (n_wt : g.2.2.1 wt = 24) (r_t : g.1 t = 79) (n_t : g.2.2.1 t = 100) (krz : g.2.1 h 38 = .int rz) (ks0 : g.2.1 h 36 = .int s0) (kw0 : g.2.1 h 37 = .int 0) (kwt : g.2.1 h 42 = .ref wt) (kna : g.2.1 h 39 = .ref na) (kpa : g.2.1 h 40 = .ref pa) (kz : g.2.1 h 29 = .int z) (kt : g.2.1 h 28 = .ref t) (l_rz : 0 ≤ rz.toInt) (u_rz : rz.toInt ≤ 7) (l_s0 : 0 ≤ s0.toInt) (u_s0 : s0.toInt ≤ 100) (hN_0 : PL 8 g na pa) (hWT_0 : WT g wt) (l_z : 0 ≤ z.toInt) (u_z : z.toInt ≤ 100) (hc_0 : g.2.2.2.1 t = ct) {p : Program} {e : Env} {s : State} {m : MethodId} {args : Array Value} {below : List Frame} {meth : Method} {c : Code} (hB : Tz p s m meth c args cX7_readsAct 4 RX7 D cI cZ cS cR N0) (hr : meth.sig.returnType = none)    : ∀ (g1 : GS)   (H : Heap) (locs : List Loc) (ls : Array Slot), Tv D cI cZ cS cR N0 s.heap H locs g1 → Inv g1 → Ex g g1 → Sm md_m_readsAct g g1 → g1.2.1 h 38 = .int rz → g1.2.1 h 36 = .int s0 → g1.2.1 h 37 = .int 0 → (PL 8 g1 na pa) → (g1.2.2.2.1 t = ct) → (WT g1 wt) → (((txb ct z.toInt) s0.toInt = 97 ∧ (txb ct z.toInt) (s0.toInt + 1) = 115) ∨ ¬ ((txb ct z.toInt) s0.toInt = 97 ∧ (txb ct z.toInt) (s0.toInt + 1) = 115) ∧ (txb ct z.toInt) s0.toInt ≠ 115 ∧ (txb ct z.toInt) s0.toInt ≠ 97 ∧ (txb ct z.toInt) s0.toInt ≠ 109 ∧ (txb ct z.toInt) s0.toInt ≠ 110 ∧ (txb ct z.toInt) s0.toInt ≠ 103) → lv_has ls 4 [(1, .int 5), (0, .ref h)] → W p l e (rmx 2 0 0) s m args below meth c H locs 0 0 (MQ below (tQ D cI cZ cS cR N0 (fun v g' => ∃ (z2 : Int32) (s2 : Int32) (w2 : Int32), v = none ∧ Inv g' ∧ Ex g g' ∧ Sm md_m_readsAct g g' ∧ ((w2 = 1 ∧ ac (txb ct z.toInt) s0.toInt = (false, s2.toInt)) ∨ (w2 = 0 ∧ ac (txb ct z.toInt) s0.toInt = (true, s2.toInt) ∧ s2.toInt ≤ z.toInt)) ∧ (g'.2.1 h 38 = .int z2) ∧ (z2.toInt = rz.toInt + 1) ∧ (PL 8 g' na pa) ∧ (g'.2.1 h 36 = .int s2) ∧ (g'.2.1 h 37 = .int w2) ∧ (0 ≤ s2.toInt ∧ s2.toInt ≤ 100))) args s 0 0 (fun q => N0.1 ≤ q)) (F0 m 34 ls []) := by
  have hx := hB.1
  have hb := hB.2.1
  intro g1 H locs ls hT hI hE hM kp0 kp1 kp2 hN hc hWT hS hl
  have r_1 : g1.1 h = 8 := Ex.r hE r_h (by decide)
  have r_2 : g1.1 na = 84 := Ex.r hE r_na (by decide)
  have n_3 : g1.2.2.1 na = 8 := Ex.n hE r_na (by decide) n_na
  have r_4 : g1.1 pa = 85 := Ex.r hE r_pa (by decide)
  have n_5 : g1.2.2.1 pa = 8 := Ex.n hE r_pa (by decide) n_pa
  have r_6 : g1.1 wt = 87 := Ex.r hE r_wt (by decide)
  have n_7 : g1.2.2.1 wt = 24 := Ex.n hE r_wt (by decide) n_wt
  have r_8 : g1.1 t = 79 := Ex.r hE r_t (by decide)
  have n_9 : g1.2.2.1 t = 100 := Ex.n hE r_t (by decide) n_t
  have kn_10 : g1.2.1 h 42 = .ref wt := Sm.v hM r_h (by decide) rfl kwt
  have kn_11 : g1.2.1 h 39 = .ref na := Sm.v hM r_h (by decide) rfl kna
  have kn_12 : g1.2.1 h 40 = .ref pa := Sm.v hM r_h (by decide) rfl kpa
  have kn_13 : g1.2.1 h 29 = .int z := Sm.v hM r_h (by decide) rfl kz
  have kn_14 : g1.2.1 h 28 = .ref t := Sm.v hM r_h (by decide) rfl kt
  refine lv_iload_n hx hb dX7_readsAct_34 rfl (lv_at hl 0 rfl) ?_
  refine lv_bipush (v := 8) hx hb dX7_readsAct_35 (by decide) ?_
  refine lv_icmp_ge (tgt := 65) hx hb dX7_readsAct_37 (by decide) (fun c_ => absurd c_ (by decide)) (fun c_ => ?_)
  refine lv_aload_n hx hb dX7_readsAct_40 rfl (lv_at hl 1 rfl) ?_
  refine lv_aload_n hx hb dX7_readsAct_41 rfl (lv_at hl 1 rfl) ?_
  refine t_get (ci := 7) (v := .int s0) hB hT (ro_ci r_1 rfl) rfl 36 (by decide) k_781 kp1 dX7_readsAct_42 ?_
  refine t_callV (n := 1) (As := [.int s0]) (rest := []) (ci := 7) hB hT hl.1 (m_byteAt l D cI cZ cS cR N0 g1 hI h s0 z t ct r_1 r_8 n_9 kn_13 kn_14 (by omega) (by omega) (by omega) (by omega) hc) (ro_ci r_1 rfl) rfl k_971 k_65 k_968 k_970 k_23 (by decide +kernel) ⟨(Nat.le_of_ble_eq_true rfl), (Nat.le_of_ble_eq_true rfl)⟩ rfl (Nat.le_of_ble_eq_true rfl) ⟨(Nat.le_of_ble_eq_true rfl), (Nat.le_of_ble_eq_true rfl)⟩ dX7_readsAct_45 (fun v g_15 H locs hp hT => ?_)
  obtain ⟨r_16, rfl, eg, f_17, f_18, f_19⟩ := hp
  rw [eg] at hT
  clear eg
  refine W.eq (g2 := F0 m 48 ls [.int r_16]) rfl ?_
  refine lv_aload_n hx hb dX7_readsAct_48 rfl (lv_at hl 1 rfl) ?_
  refine t_get (ci := 7) (v := .ref wt) hB hT (ro_ci r_1 rfl) rfl 42 (by decide) k_787 kn_10 dX7_readsAct_49 ?_
  refine lv_iconst (v := 3) hx hb dX7_readsAct_52 (by decide) ?_
  refine lv_iload_n hx hb dX7_readsAct_53 rfl (lv_at hl 0 rfl) ?_
  refine lv_imul hx hb dX7_readsAct_54 ?_
  refine x_ev (y := 15) (by decide) ?_
  have kw_22 : g1.2.2.2.1 wt (15 : Int32).toNatClampNeg = 97 := (hWT (15 : Int32).toNatClampNeg (by decide)).trans (by decide)
  have i_u_23 : vp_in (15 : Int32) 24 := (by unfold vp_in; decide)
  refine t_iald (v := (97 : Int32)) hB hT (ro_in r_6 (by decide)) n_7 i_u_23 kw_22 dX7_readsAct_55 ?_
  refine lv_icmp_eq (tgt := 65) hx hb dX7_readsAct_56 (by decide) (fun c_24 => ?_) (fun c_24 => ?_)
  · have c_24' : r_16.toInt = 97 := i_eq c_24 rfl (by decide)
    refine lv_aload_n hx hb dX7_readsAct_65 rfl (lv_at hl 1 rfl) ?_
    refine lv_aload_n hx hb dX7_readsAct_66 rfl (lv_at hl 1 rfl) ?_
    refine t_get (ci := 7) (v := .int 0) hB hT (ro_ci r_1 rfl) rfl 37 (by decide) k_782 kp2 dX7_readsAct_67 ?_
    refine lv_if_ne (tgt := 79) hx hb dX7_readsAct_70 (by decide) (fun c_ => absurd (by decide) c_) (fun c_ => ?_)
    refine lv_iload_n hx hb dX7_readsAct_73 rfl (lv_at hl 0 rfl) ?_
    refine lv_bipush (v := 8) hx hb dX7_readsAct_74 (by decide) ?_
    refine lv_icmp_ne (tgt := 83) hx hb dX7_readsAct_76 (by decide) (fun c_ => ?_) (fun c_ => absurd c_ (by decide))
    refine lv_iconst (v := 0) hx hb dX7_readsAct_83 (by decide) ?_
    refine t_put0 (ci := 7) (v := .int 0) hB hT (ro_ci r_1 rfl) (ro_n0 r_1 (by decide)) rfl 37 (by decide) k_782 (Or.inl rfl) rfl rfl dX7_readsAct_84 (fun H locs hT => ?_)
    have hI : Inv (sF g1 h 37 (.int 0)) := hI.sF (p_8_37 r_1 (⟨_, rfl, by decide, by decide⟩))
    have hM : Sm md_m_readsAct g (sF g1 h 37 (.int 0)) := hM.tr hE (Sm_sF (by rw [r_1]; rfl))
    have hE : Ex g (sF g1 h 37 (.int 0)) := hE
    have hN : PL 8 (sF g1 h 37 (.int 0)) na pa := hN
    have hc : (sF g1 h 37 (.int 0)).2.2.2.1 t = ct := hc
    have hWT : WT (sF g1 h 37 (.int 0)) wt := hWT
    refine lv_iconst (v := 0) hx hb dX7_readsAct_87 (by decide) ?_
    refine lv_istore_n (lv' := [(2, .int 0), (1, .int 5), (0, .ref h)]) hx hb dX7_readsAct_88 rfl hl (by decide) rfl (fun ls hl => ?_)
    refine lv_iload_n hx hb dX7_readsAct_89 rfl (lv_at hl 0 rfl) ?_
    refine lv_iconst (v := 3) hx hb dX7_readsAct_90 (by decide) ?_
    refine lv_icmp_ge (tgt := 134) hx hb dX7_readsAct_91 (by decide) (fun c_ => absurd c_ (by decide)) (fun c_ => ?_)
    refine lv_aload_n hx hb dX7_readsAct_94 rfl (lv_at hl 2 rfl) ?_
    refine t_get (ci := 7) (v := .int 0) hB hT (ro_ci r_1 rfl) rfl 37 (by decide) k_782 sF_eq dX7_readsAct_95 ?_
    refine lv_if_ne (tgt := 134) hx hb dX7_readsAct_98 (by decide) (fun c_ => absurd (by decide) c_) (fun c_ => ?_)
    refine lv_aload_n hx hb dX7_readsAct_101 rfl (lv_at hl 2 rfl) ?_
    refine t_get (ci := 7) (v := .ref wt) hB hT (ro_ci r_1 rfl) rfl 42 (by decide) k_787 (sF_k kn_10 (by decide)) dX7_readsAct_102 ?_
    refine lv_iconst (v := 3) hx hb dX7_readsAct_105 (by decide) ?_
    refine lv_iload_n hx hb dX7_readsAct_106 rfl (lv_at hl 1 rfl) ?_
    refine lv_imul hx hb dX7_readsAct_107 ?_
    refine x_ev (y := 15) (by decide) ?_
    refine lv_iload_n hx hb dX7_readsAct_108 rfl (lv_at hl 0 rfl) ?_
    refine lv_iadd hx hb dX7_readsAct_109 ?_
    refine x_ev (y := 15) (by decide) ?_
    have kw_25 : (sF g1 h 37 (.int 0)).2.2.2.1 wt (15 : Int32).toNatClampNeg = 97 := (hWT (15 : Int32).toNatClampNeg (by decide)).trans (by decide)
    have i_u_26 : vp_in (15 : Int32) 24 := (by unfold vp_in; decide)
    refine t_iald (v := (97 : Int32)) hB hT (ro_in r_6 (by decide)) n_7 i_u_26 kw_25 dX7_readsAct_110 ?_
    refine lv_if_eq (tgt := 128) hx hb dX7_readsAct_111 (by decide) (fun c_ => absurd c_ (by decide)) (fun c_ => ?_)
    refine lv_aload_n hx hb dX7_readsAct_114 rfl (lv_at hl 2 rfl) ?_
    refine lv_aload_n hx hb dX7_readsAct_115 rfl (lv_at hl 2 rfl) ?_
    refine t_get (ci := 7) (v := .ref wt) hB hT (ro_ci r_1 rfl) rfl 42 (by decide) k_787 (sF_k kn_10 (by decide)) dX7_readsAct_116 ?_
    refine lv_iconst (v := 3) hx hb dX7_readsAct_119 (by decide) ?_
    refine lv_iload_n hx hb dX7_readsAct_120 rfl (lv_at hl 1 rfl) ?_
    refine lv_imul hx hb dX7_readsAct_121 ?_
    refine x_ev (y := 15) (by decide) ?_
    refine lv_iload_n hx hb dX7_readsAct_122 rfl (lv_at hl 0 rfl) ?_
    refine lv_iadd hx hb dX7_readsAct_123 ?_
    refine x_ev (y := 15) (by decide) ?_
    have kw_27 : (sF g1 h 37 (.int 0)).2.2.2.1 wt (15 : Int32).toNatClampNeg = 97 := (hWT (15 : Int32).toNatClampNeg (by decide)).trans (by decide)
    have i_u_28 : vp_in (15 : Int32) 24 := (by unfold vp_in; decide)
    refine t_iald (v := (97 : Int32)) hB hT (ro_in r_6 (by decide)) n_7 i_u_28 kw_27 dX7_readsAct_124 ?_
    refine t_callV (n := 1) (As := [.int 97]) (rest := []) (ci := 7) hB hT hl.1 (m_must l D cI cZ cS cR N0 (sF g1 h 37 (.int 0)) hI h 97 s0 0 z t ct r_1 r_8 n_9 (sF_k kp1 (by decide)) sF_eq (sF_k kn_13 (by decide)) (sF_k kn_14 (by decide)) (by have q0 : (0 : Int32).toInt = 0 := (by decide); have q1 : (97 : Int32).toInt = 97 := (by decide); omega) (by have q0 : (0 : Int32).toInt = 0 := (by decide); have q1 : (97 : Int32).toInt = 97 := (by decide); omega) (by have q0 : (0 : Int32).toInt = 0 := (by decide); have q1 : (97 : Int32).toInt = 97 := (by decide); omega) (by have q0 : (0 : Int32).toInt = 0 := (by decide); have q1 : (97 : Int32).toInt = 97 := (by decide); omega) (by have q0 : (0 : Int32).toInt = 0 := (by decide); have q1 : (97 : Int32).toInt = 97 := (by decide); omega) (by have q0 : (0 : Int32).toInt = 0 := (by decide); have q1 : (97 : Int32).toInt = 97 := (by decide); omega) (by have q0 : (0 : Int32).toInt = 0 := (by decide); have q1 : (97 : Int32).toInt = 97 := (by decide); omega) hc) (ro_ci r_1 rfl) rfl k_975 k_65 k_972 k_974 k_24 (by decide +kernel) ⟨(Nat.le_of_ble_eq_true rfl), (Nat.le_of_ble_eq_true rfl)⟩ rfl (Nat.le_of_ble_eq_true rfl) ⟨(Nat.le_of_ble_eq_true rfl), (Nat.le_of_ble_eq_true rfl)⟩ dX7_readsAct_125 (fun v g_29 H locs hp hT => ?_)
    obtain ⟨s2_30, w2_31, rfl, hI, x_36, m_35, f_32, f_33, f_34⟩ := hp
    have hN : PL 8 g_29 na pa := hN.sm m_35 r_2 (by decide) rfl r_4 (by decide) rfl
    have hc : g_29.2.2.2.1 t = ct := (Sm.cf m_35 r_8 (by decide) rfl).trans hc
    have hWT : WT g_29 wt := hWT.sm m_35 r_6 (by decide) rfl
    have hM : Sm md_m_readsAct g g_29 := hM.tr hE (m_35.mo (fun r k h => mdle_m_readsAct_m_must h))
    have hE : Ex g g_29 := hE.tr x_36
    have r_37 : g_29.1 h = 8 := (Ex.r x_36 r_1 (by decide))
    have r_38 : g_29.1 na = 84 := (Ex.r x_36 r_2 (by decide))
    have r_39 : g_29.1 pa = 85 := (Ex.r x_36 r_4 (by decide))
    have r_40 : g_29.1 wt = 87 := (Ex.r x_36 r_6 (by decide))
    have r_41 : g_29.1 t = 79 := (Ex.r x_36 r_8 (by decide))
    have n_42 : g_29.2.2.1 na = 8 := (Ex.n x_36 r_2 (by decide) n_3)
    have n_43 : g_29.2.2.1 pa = 8 := (Ex.n x_36 r_4 (by decide) n_5)
    have n_44 : g_29.2.2.1 wt = 24 := (Ex.n x_36 r_6 (by decide) n_7)
    have n_45 : g_29.2.2.1 t = 100 := (Ex.n x_36 r_8 (by decide) n_9)
    have kn_46 : g_29.2.1 h 38 = .int rz := (Sm.v m_35 r_1 (by decide) rfl (sF_k kp0 (by decide)))
    have kn_47 : g_29.2.1 h 42 = .ref wt := (Sm.v m_35 r_1 (by decide) rfl (sF_k kn_10 (by decide)))
    have kn_48 : g_29.2.1 h 39 = .ref na := (Sm.v m_35 r_1 (by decide) rfl (sF_k kn_11 (by decide)))
    have kn_49 : g_29.2.1 h 40 = .ref pa := (Sm.v m_35 r_1 (by decide) rfl (sF_k kn_12 (by decide)))
    have kn_50 : g_29.2.1 h 29 = .int z := (Sm.v m_35 r_1 (by decide) rfl (sF_k kn_13 (by decide)))
    have kn_51 : g_29.2.1 h 28 = .ref t := (Sm.v m_35 r_1 (by decide) rfl (sF_k kn_14 (by decide)))
    have kn_52 : g_29.2.2.2.1 wt (15 : Int32).toNatClampNeg = 97 := (Sm.c m_35 r_6 (by decide) rfl kw_27)
    refine W.eq (g2 := F0 m 128 ls []) rfl ?_
    have qc_53 : (0 : Int32).toInt = 0 := (by decide)
    have qc_54 : (97 : Int32).toInt = 97 := (by decide)
    rcases f_32 with ⟨hx_, -⟩ | ⟨-, ht_s2_30, hs_s2_30, hz_s2_30, hw_s2_30⟩ | ⟨-, ht_s2_30, hs_s2_30, hw_s2_30⟩
    · exact absurd hx_ (by decide)
    · have ew_ : w2_31 = 0 := i_inj (hw_s2_30.trans (by decide))
      subst ew_
      refine lv_iinc (v := 1) (lv' := [(2, .int 1), (1, .int 5), (0, .ref h)]) hx hb dX7_readsAct_128 hl (k := 0) rfl (by decide) (by decide) rfl (fun ls hl => ?_)
      refine lv_goto (tgt := 89) hx hb dX7_readsAct_131 (by decide) ?_
      refine lv_iload_n hx hb dX7_readsAct_89 rfl (lv_at hl 0 rfl) ?_
      refine lv_iconst (v := 3) hx hb dX7_readsAct_90 (by decide) ?_
      refine lv_icmp_ge (tgt := 134) hx hb dX7_readsAct_91 (by decide) (fun c_ => absurd c_ (by decide)) (fun c_ => ?_)
      refine lv_aload_n hx hb dX7_readsAct_94 rfl (lv_at hl 2 rfl) ?_
      refine t_get (ci := 7) (v := .int 0) hB hT (ro_ci r_37 rfl) rfl 37 (by decide) k_782 f_34 dX7_readsAct_95 ?_
      refine lv_if_ne (tgt := 134) hx hb dX7_readsAct_98 (by decide) (fun c_ => absurd (by decide) c_) (fun c_ => ?_)
      refine lv_aload_n hx hb dX7_readsAct_101 rfl (lv_at hl 2 rfl) ?_
      refine t_get (ci := 7) (v := .ref wt) hB hT (ro_ci r_37 rfl) rfl 42 (by decide) k_787 kn_47 dX7_readsAct_102 ?_
      refine lv_iconst (v := 3) hx hb dX7_readsAct_105 (by decide) ?_
      refine lv_iload_n hx hb dX7_readsAct_106 rfl (lv_at hl 1 rfl) ?_
      refine lv_imul hx hb dX7_readsAct_107 ?_
      refine x_ev (y := 15) (by decide) ?_
      refine lv_iload_n hx hb dX7_readsAct_108 rfl (lv_at hl 0 rfl) ?_
      refine lv_iadd hx hb dX7_readsAct_109 ?_
      refine x_ev (y := 16) (by decide) ?_
      have kw_55 : g_29.2.2.2.1 wt (16 : Int32).toNatClampNeg = 115 := (hWT (16 : Int32).toNatClampNeg (by decide)).trans (by decide)
      have i_u_56 : vp_in (16 : Int32) 24 := (by unfold vp_in; decide)
      refine t_iald (v := (115 : Int32)) hB hT (ro_in r_40 (by decide)) n_44 i_u_56 kw_55 dX7_readsAct_110 ?_
      refine lv_if_eq (tgt := 128) hx hb dX7_readsAct_111 (by decide) (fun c_ => absurd c_ (by decide)) (fun c_ => ?_)
      refine lv_aload_n hx hb dX7_readsAct_114 rfl (lv_at hl 2 rfl) ?_
      refine lv_aload_n hx hb dX7_readsAct_115 rfl (lv_at hl 2 rfl) ?_
      refine t_get (ci := 7) (v := .ref wt) hB hT (ro_ci r_37 rfl) rfl 42 (by decide) k_787 kn_47 dX7_readsAct_116 ?_
      refine lv_iconst (v := 3) hx hb dX7_readsAct_119 (by decide) ?_
      refine lv_iload_n hx hb dX7_readsAct_120 rfl (lv_at hl 1 rfl) ?_
      refine lv_imul hx hb dX7_readsAct_121 ?_
      refine x_ev (y := 15) (by decide) ?_
      refine lv_iload_n hx hb dX7_readsAct_122 rfl (lv_at hl 0 rfl) ?_
      refine lv_iadd hx hb dX7_readsAct_123 ?_
      refine x_ev (y := 16) (by decide) ?_
      have kw_57 : g_29.2.2.2.1 wt (16 : Int32).toNatClampNeg = 115 := (hWT (16 : Int32).toNatClampNeg (by decide)).trans (by decide)
      have i_u_58 : vp_in (16 : Int32) 24 := (by unfold vp_in; decide)
      refine t_iald (v := (115 : Int32)) hB hT (ro_in r_40 (by decide)) n_44 i_u_58 kw_57 dX7_readsAct_124 ?_
      refine t_callV (n := 1) (As := [.int 115]) (rest := []) (ci := 7) hB hT hl.1 (m_must l D cI cZ cS cR N0 g_29 hI h 115 s2_30 0 z t ct r_37 r_41 n_45 f_33 f_34 kn_50 kn_51 (by have q0 : (0 : Int32).toInt = 0 := (by decide); have q1 : (115 : Int32).toInt = 115 := (by decide); omega) (by have q0 : (0 : Int32).toInt = 0 := (by decide); have q1 : (115 : Int32).toInt = 115 := (by decide); omega) (by have q0 : (0 : Int32).toInt = 0 := (by decide); have q1 : (115 : Int32).toInt = 115 := (by decide); omega) (by have q0 : (0 : Int32).toInt = 0 := (by decide); have q1 : (115 : Int32).toInt = 115 := (by decide); omega) (by have q0 : (0 : Int32).toInt = 0 := (by decide); have q1 : (115 : Int32).toInt = 115 := (by decide); omega) (by have q0 : (0 : Int32).toInt = 0 := (by decide); have q1 : (115 : Int32).toInt = 115 := (by decide); omega) (by have q0 : (0 : Int32).toInt = 0 := (by decide); have q1 : (115 : Int32).toInt = 115 := (by decide); omega) hc) (ro_ci r_37 rfl) rfl k_975 k_65 k_972 k_974 k_24 (by decide +kernel) ⟨(Nat.le_of_ble_eq_true rfl), (Nat.le_of_ble_eq_true rfl)⟩ rfl (Nat.le_of_ble_eq_true rfl) ⟨(Nat.le_of_ble_eq_true rfl), (Nat.le_of_ble_eq_true rfl)⟩ dX7_readsAct_125 (fun v g_59 H locs hp hT => ?_)
      obtain ⟨s2_60, w2_61, rfl, hI, x_66, m_65, f_62, f_63, f_64⟩ := hp
      have hN : PL 8 g_59 na pa := hN.sm m_65 r_38 (by decide) rfl r_39 (by decide) rfl
      have hc : g_59.2.2.2.1 t = ct := (Sm.cf m_65 r_41 (by decide) rfl).trans hc
      have hWT : WT g_59 wt := hWT.sm m_65 r_40 (by decide) rfl
      have hM : Sm md_m_readsAct g g_59 := hM.tr hE (m_65.mo (fun r k h => mdle_m_readsAct_m_must h))
      have hE : Ex g g_59 := hE.tr x_66
      have r_67 : g_59.1 h = 8 := (Ex.r x_66 r_37 (by decide))
      have r_68 : g_59.1 na = 84 := (Ex.r x_66 r_38 (by decide))
      have r_69 : g_59.1 pa = 85 := (Ex.r x_66 r_39 (by decide))
      have r_70 : g_59.1 wt = 87 := (Ex.r x_66 r_40 (by decide))
      have r_71 : g_59.1 t = 79 := (Ex.r x_66 r_41 (by decide))
      have n_72 : g_59.2.2.1 na = 8 := (Ex.n x_66 r_38 (by decide) n_42)
      have n_73 : g_59.2.2.1 pa = 8 := (Ex.n x_66 r_39 (by decide) n_43)
      have n_74 : g_59.2.2.1 wt = 24 := (Ex.n x_66 r_40 (by decide) n_44)
      have n_75 : g_59.2.2.1 t = 100 := (Ex.n x_66 r_41 (by decide) n_45)
      have kn_76 : g_59.2.1 h 38 = .int rz := (Sm.v m_65 r_37 (by decide) rfl kn_46)
      have kn_77 : g_59.2.1 h 42 = .ref wt := (Sm.v m_65 r_37 (by decide) rfl kn_47)
      have kn_78 : g_59.2.1 h 39 = .ref na := (Sm.v m_65 r_37 (by decide) rfl kn_48)
      have kn_79 : g_59.2.1 h 40 = .ref pa := (Sm.v m_65 r_37 (by decide) rfl kn_49)
      have kn_80 : g_59.2.1 h 29 = .int z := (Sm.v m_65 r_37 (by decide) rfl kn_50)
      have kn_81 : g_59.2.1 h 28 = .ref t := (Sm.v m_65 r_37 (by decide) rfl kn_51)
      have kn_82 : g_59.2.2.2.1 wt (15 : Int32).toNatClampNeg = 97 := (Sm.c m_65 r_40 (by decide) rfl kn_52)
      have kn_83 : g_59.2.2.2.1 wt (16 : Int32).toNatClampNeg = 115 := (Sm.c m_65 r_40 (by decide) rfl kw_57)
      refine W.eq (g2 := F0 m 128 ls []) rfl ?_
      have qc_84 : (0 : Int32).toInt = 0 := (by decide)
      have qc_85 : (115 : Int32).toInt = 115 := (by decide)
      rcases f_62 with ⟨hx_, -⟩ | ⟨-, ht_s2_60, hs_s2_60, hz_s2_60, hw_s2_60⟩ | ⟨-, ht_s2_60, hs_s2_60, hw_s2_60⟩
      · exact absurd hx_ (by decide)
      · have ew_ : w2_61 = 0 := i_inj (hw_s2_60.trans (by decide))
        subst ew_
        rw [show s2_30.toInt = s0.toInt + 1 by omega] at ht_s2_60
        refine lv_iinc (v := 2) (lv' := [(2, .int 2), (1, .int 5), (0, .ref h)]) hx hb dX7_readsAct_128 hl (k := 0) rfl (by decide) (by decide) rfl (fun ls hl => ?_)
        refine lv_goto (tgt := 89) hx hb dX7_readsAct_131 (by decide) ?_
        refine lv_iload_n hx hb dX7_readsAct_89 rfl (lv_at hl 0 rfl) ?_
        refine lv_iconst (v := 3) hx hb dX7_readsAct_90 (by decide) ?_
        refine lv_icmp_ge (tgt := 134) hx hb dX7_readsAct_91 (by decide) (fun c_ => absurd c_ (by decide)) (fun c_ => ?_)
        refine lv_aload_n hx hb dX7_readsAct_94 rfl (lv_at hl 2 rfl) ?_
        refine t_get (ci := 7) (v := .int 0) hB hT (ro_ci r_67 rfl) rfl 37 (by decide) k_782 f_64 dX7_readsAct_95 ?_
        refine lv_if_ne (tgt := 134) hx hb dX7_readsAct_98 (by decide) (fun c_ => absurd (by decide) c_) (fun c_ => ?_)
        refine lv_aload_n hx hb dX7_readsAct_101 rfl (lv_at hl 2 rfl) ?_
        refine t_get (ci := 7) (v := .ref wt) hB hT (ro_ci r_67 rfl) rfl 42 (by decide) k_787 kn_77 dX7_readsAct_102 ?_
        refine lv_iconst (v := 3) hx hb dX7_readsAct_105 (by decide) ?_
        refine lv_iload_n hx hb dX7_readsAct_106 rfl (lv_at hl 1 rfl) ?_
        refine lv_imul hx hb dX7_readsAct_107 ?_
        refine x_ev (y := 15) (by decide) ?_
        refine lv_iload_n hx hb dX7_readsAct_108 rfl (lv_at hl 0 rfl) ?_
        refine lv_iadd hx hb dX7_readsAct_109 ?_
        refine x_ev (y := 17) (by decide) ?_
        have kw_86 : g_59.2.2.2.1 wt (17 : Int32).toNatClampNeg = 107 := (hWT (17 : Int32).toNatClampNeg (by decide)).trans (by decide)
        have i_u_87 : vp_in (17 : Int32) 24 := (by unfold vp_in; decide)
        refine t_iald (v := (107 : Int32)) hB hT (ro_in r_70 (by decide)) n_74 i_u_87 kw_86 dX7_readsAct_110 ?_
        refine lv_if_eq (tgt := 128) hx hb dX7_readsAct_111 (by decide) (fun c_ => absurd c_ (by decide)) (fun c_ => ?_)
        refine lv_aload_n hx hb dX7_readsAct_114 rfl (lv_at hl 2 rfl) ?_
        refine lv_aload_n hx hb dX7_readsAct_115 rfl (lv_at hl 2 rfl) ?_
        refine t_get (ci := 7) (v := .ref wt) hB hT (ro_ci r_67 rfl) rfl 42 (by decide) k_787 kn_77 dX7_readsAct_116 ?_
        refine lv_iconst (v := 3) hx hb dX7_readsAct_119 (by decide) ?_
        refine lv_iload_n hx hb dX7_readsAct_120 rfl (lv_at hl 1 rfl) ?_
        refine lv_imul hx hb dX7_readsAct_121 ?_
        refine x_ev (y := 15) (by decide) ?_
        refine lv_iload_n hx hb dX7_readsAct_122 rfl (lv_at hl 0 rfl) ?_
        refine lv_iadd hx hb dX7_readsAct_123 ?_
        refine x_ev (y := 17) (by decide) ?_
        have kw_88 : g_59.2.2.2.1 wt (17 : Int32).toNatClampNeg = 107 := (hWT (17 : Int32).toNatClampNeg (by decide)).trans (by decide)
        have i_u_89 : vp_in (17 : Int32) 24 := (by unfold vp_in; decide)
        refine t_iald (v := (107 : Int32)) hB hT (ro_in r_70 (by decide)) n_74 i_u_89 kw_88 dX7_readsAct_124 ?_
        refine t_callV (n := 1) (As := [.int 107]) (rest := []) (ci := 7) hB hT hl.1 (m_must l D cI cZ cS cR N0 g_59 hI h 107 s2_60 0 z t ct r_67 r_71 n_75 f_63 f_64 kn_80 kn_81 (by have q0 : (0 : Int32).toInt = 0 := (by decide); have q1 : (107 : Int32).toInt = 107 := (by decide); omega) (by have q0 : (0 : Int32).toInt = 0 := (by decide); have q1 : (107 : Int32).toInt = 107 := (by decide); omega) (by have q0 : (0 : Int32).toInt = 0 := (by decide); have q1 : (107 : Int32).toInt = 107 := (by decide); omega) (by have q0 : (0 : Int32).toInt = 0 := (by decide); have q1 : (107 : Int32).toInt = 107 := (by decide); omega) (by have q0 : (0 : Int32).toInt = 0 := (by decide); have q1 : (107 : Int32).toInt = 107 := (by decide); omega) (by have q0 : (0 : Int32).toInt = 0 := (by decide); have q1 : (107 : Int32).toInt = 107 := (by decide); omega) (by have q0 : (0 : Int32).toInt = 0 := (by decide); have q1 : (107 : Int32).toInt = 107 := (by decide); omega) hc) (ro_ci r_67 rfl) rfl k_975 k_65 k_972 k_974 k_24 (by decide +kernel) ⟨(Nat.le_of_ble_eq_true rfl), (Nat.le_of_ble_eq_true rfl)⟩ rfl (Nat.le_of_ble_eq_true rfl) ⟨(Nat.le_of_ble_eq_true rfl), (Nat.le_of_ble_eq_true rfl)⟩ dX7_readsAct_125 (fun v g_90 H locs hp hT => ?_)
        obtain ⟨s2_91, w2_92, rfl, hI, x_97, m_96, f_93, f_94, f_95⟩ := hp
        have hN : PL 8 g_90 na pa := hN.sm m_96 r_68 (by decide) rfl r_69 (by decide) rfl
        have hc : g_90.2.2.2.1 t = ct := (Sm.cf m_96 r_71 (by decide) rfl).trans hc
        have hWT : WT g_90 wt := hWT.sm m_96 r_70 (by decide) rfl
        have hM : Sm md_m_readsAct g g_90 := hM.tr hE (m_96.mo (fun r k h => mdle_m_readsAct_m_must h))
        have hE : Ex g g_90 := hE.tr x_97
        have r_98 : g_90.1 h = 8 := (Ex.r x_97 r_67 (by decide))
        have r_99 : g_90.1 na = 84 := (Ex.r x_97 r_68 (by decide))
        have r_100 : g_90.1 pa = 85 := (Ex.r x_97 r_69 (by decide))
        have r_101 : g_90.1 wt = 87 := (Ex.r x_97 r_70 (by decide))
        have r_102 : g_90.1 t = 79 := (Ex.r x_97 r_71 (by decide))
        have n_103 : g_90.2.2.1 na = 8 := (Ex.n x_97 r_68 (by decide) n_72)
        have n_104 : g_90.2.2.1 pa = 8 := (Ex.n x_97 r_69 (by decide) n_73)
        have n_105 : g_90.2.2.1 wt = 24 := (Ex.n x_97 r_70 (by decide) n_74)
        have n_106 : g_90.2.2.1 t = 100 := (Ex.n x_97 r_71 (by decide) n_75)
        have kn_107 : g_90.2.1 h 38 = .int rz := (Sm.v m_96 r_67 (by decide) rfl kn_76)
        have kn_108 : g_90.2.1 h 42 = .ref wt := (Sm.v m_96 r_67 (by decide) rfl kn_77)
        have kn_109 : g_90.2.1 h 39 = .ref na := (Sm.v m_96 r_67 (by decide) rfl kn_78)
        have kn_110 : g_90.2.1 h 40 = .ref pa := (Sm.v m_96 r_67 (by decide) rfl kn_79)
        have kn_111 : g_90.2.1 h 29 = .int z := (Sm.v m_96 r_67 (by decide) rfl kn_80)
        have kn_112 : g_90.2.1 h 28 = .ref t := (Sm.v m_96 r_67 (by decide) rfl kn_81)
        have kn_113 : g_90.2.2.2.1 wt (15 : Int32).toNatClampNeg = 97 := (Sm.c m_96 r_70 (by decide) rfl kn_82)
        have kn_114 : g_90.2.2.2.1 wt (16 : Int32).toNatClampNeg = 115 := (Sm.c m_96 r_70 (by decide) rfl kn_83)
        have kn_115 : g_90.2.2.2.1 wt (17 : Int32).toNatClampNeg = 107 := (Sm.c m_96 r_70 (by decide) rfl kw_88)
        refine W.eq (g2 := F0 m 128 ls []) rfl ?_
        have qc_116 : (0 : Int32).toInt = 0 := (by decide)
        have qc_117 : (107 : Int32).toInt = 107 := (by decide)
        rcases f_93 with ⟨hx_, -⟩ | ⟨-, ht_s2_91, hs_s2_91, hz_s2_91, hw_s2_91⟩ | ⟨-, ht_s2_91, hs_s2_91, hw_s2_91⟩
        · exact absurd hx_ (by decide)
        · have ew_ : w2_92 = 0 := i_inj (hw_s2_91.trans (by decide))
          subst ew_
          rw [show s2_60.toInt = s0.toInt + 2 by omega] at ht_s2_91
          refine lv_iinc (v := 3) (lv' := [(2, .int 3), (1, .int 5), (0, .ref h)]) hx hb dX7_readsAct_128 hl (k := 0) rfl (by decide) (by decide) rfl (fun ls hl => ?_)
          refine lv_goto (tgt := 89) hx hb dX7_readsAct_131 (by decide) ?_
          refine lv_iload_n hx hb dX7_readsAct_89 rfl (lv_at hl 0 rfl) ?_
          refine lv_iconst (v := 3) hx hb dX7_readsAct_90 (by decide) ?_
          refine lv_icmp_ge (tgt := 134) hx hb dX7_readsAct_91 (by decide) (fun c_ => ?_) (fun c_ => absurd (by decide) c_)
          refine lv_aload_n hx hb dX7_readsAct_134 rfl (lv_at hl 2 rfl) ?_
          refine lv_bipush (v := 32) hx hb dX7_readsAct_135 (by decide) ?_
          refine t_callV (n := 1) (As := [.int 32]) (rest := []) (ci := 7) hB hT hl.1 (m_must l D cI cZ cS cR N0 g_90 hI h 32 s2_91 0 z t ct r_98 r_102 n_106 f_94 f_95 kn_111 kn_112 (by have q0 : (0 : Int32).toInt = 0 := (by decide); have q1 : (32 : Int32).toInt = 32 := (by decide); omega) (by have q0 : (0 : Int32).toInt = 0 := (by decide); have q1 : (32 : Int32).toInt = 32 := (by decide); omega) (by have q0 : (0 : Int32).toInt = 0 := (by decide); have q1 : (32 : Int32).toInt = 32 := (by decide); omega) (by have q0 : (0 : Int32).toInt = 0 := (by decide); have q1 : (32 : Int32).toInt = 32 := (by decide); omega) (by have q0 : (0 : Int32).toInt = 0 := (by decide); have q1 : (32 : Int32).toInt = 32 := (by decide); omega) (by have q0 : (0 : Int32).toInt = 0 := (by decide); have q1 : (32 : Int32).toInt = 32 := (by decide); omega) (by have q0 : (0 : Int32).toInt = 0 := (by decide); have q1 : (32 : Int32).toInt = 32 := (by decide); omega) hc) (ro_ci r_98 rfl) rfl k_975 k_65 k_972 k_974 k_24 (by decide +kernel) ⟨(Nat.le_of_ble_eq_true rfl), (Nat.le_of_ble_eq_true rfl)⟩ rfl (Nat.le_of_ble_eq_true rfl) ⟨(Nat.le_of_ble_eq_true rfl), (Nat.le_of_ble_eq_true rfl)⟩ dX7_readsAct_137 (fun v g_118 H locs hp hT => ?_)
          obtain ⟨s2_119, w2_120, rfl, hI, x_125, m_124, f_121, f_122, f_123⟩ := hp
          have hN : PL 8 g_118 na pa := hN.sm m_124 r_99 (by decide) rfl r_100 (by decide) rfl
          have hc : g_118.2.2.2.1 t = ct := (Sm.cf m_124 r_102 (by decide) rfl).trans hc
          have hWT : WT g_118 wt := hWT.sm m_124 r_101 (by decide) rfl
          have hM : Sm md_m_readsAct g g_118 := hM.tr hE (m_124.mo (fun r k h => mdle_m_readsAct_m_must h))
          have hE : Ex g g_118 := hE.tr x_125
          have r_126 : g_118.1 h = 8 := (Ex.r x_125 r_98 (by decide))
          have r_127 : g_118.1 na = 84 := (Ex.r x_125 r_99 (by decide))
          have r_128 : g_118.1 pa = 85 := (Ex.r x_125 r_100 (by decide))
          have r_129 : g_118.1 wt = 87 := (Ex.r x_125 r_101 (by decide))
          have r_130 : g_118.1 t = 79 := (Ex.r x_125 r_102 (by decide))
          have n_131 : g_118.2.2.1 na = 8 := (Ex.n x_125 r_99 (by decide) n_103)
          have n_132 : g_118.2.2.1 pa = 8 := (Ex.n x_125 r_100 (by decide) n_104)
          have n_133 : g_118.2.2.1 wt = 24 := (Ex.n x_125 r_101 (by decide) n_105)
          have n_134 : g_118.2.2.1 t = 100 := (Ex.n x_125 r_102 (by decide) n_106)
          have kn_135 : g_118.2.1 h 38 = .int rz := (Sm.v m_124 r_98 (by decide) rfl kn_107)
          have kn_136 : g_118.2.1 h 42 = .ref wt := (Sm.v m_124 r_98 (by decide) rfl kn_108)
          have kn_137 : g_118.2.1 h 39 = .ref na := (Sm.v m_124 r_98 (by decide) rfl kn_109)
          have kn_138 : g_118.2.1 h 40 = .ref pa := (Sm.v m_124 r_98 (by decide) rfl kn_110)
          have kn_139 : g_118.2.1 h 29 = .int z := (Sm.v m_124 r_98 (by decide) rfl kn_111)
          have kn_140 : g_118.2.1 h 28 = .ref t := (Sm.v m_124 r_98 (by decide) rfl kn_112)
          have kn_141 : g_118.2.2.2.1 wt (15 : Int32).toNatClampNeg = 97 := (Sm.c m_124 r_101 (by decide) rfl kn_113)
          have kn_142 : g_118.2.2.2.1 wt (16 : Int32).toNatClampNeg = 115 := (Sm.c m_124 r_101 (by decide) rfl kn_114)
          have kn_143 : g_118.2.2.2.1 wt (17 : Int32).toNatClampNeg = 107 := (Sm.c m_124 r_101 (by decide) rfl kn_115)
          refine W.eq (g2 := F0 m 140 ls []) rfl ?_
          have qc_144 : (0 : Int32).toInt = 0 := (by decide)
          have qc_145 : (32 : Int32).toInt = 32 := (by decide)
          rcases f_121 with ⟨hx_, -⟩ | ⟨-, ht_s2_119, hs_s2_119, hz_s2_119, hw_s2_119⟩ | ⟨-, ht_s2_119, hs_s2_119, hw_s2_119⟩
          · exact absurd hx_ (by decide)
          · have ew_ : w2_120 = 0 := i_inj (hw_s2_119.trans (by decide))
            subst ew_
            rw [show s2_91.toInt = s0.toInt + 3 by omega] at ht_s2_119
            have hv_ := wo_5 (T := (txb ct z.toInt)) (p := s0.toInt) ⟨by omega, by omega, by omega, by omega⟩
            exact lt_m_readsAct_c0 l D cI cZ cS cR N0 g h s0 rz wt na pa z t ct r_h r_na n_na r_pa n_pa r_wt n_wt r_t n_t krz ks0 kw0 kwt kna kpa kz kt l_rz u_rz l_s0 u_s0 hN_0 hWT_0 l_z u_z hc_0 hB hr   g_118 (5 : Int32) s2_119 H locs ls hT hI hE hM (by decide) (by decide) (by omega) (by omega) kn_135 f_122 f_123 hN hc hWT ⟨by decide, hv_.1.trans (by decide), (by have q_ := hv_.2; omega), by omega⟩ (lv_sub hl [1, 2] rfl)
          · have ew_ : w2_120 = 1 := i_inj (hw_s2_119.trans (by decide))
            subst ew_
            rw [show s2_91.toInt = s0.toInt + 3 by omega] at ht_s2_119
            have hs_ : wsel ((txb ct z.toInt) s0.toInt) ((txb ct z.toInt) (s0.toInt + 1)) = 5 := ws_5 (by omega) (by omega)
            have hq_ : qj (txb ct z.toInt) s0.toInt 5 = 3 := wp4_3 (by omega) (by omega) (by omega) (by omega)
            have hv_ := wd_f hs_ (Or.inr (fun h_ => absurd (hq_.symm.trans h_) (by decide)))
            exact lt_m_readsAct_c1 l D cI cZ cS cR N0 g h s0 rz wt na pa z t ct r_h r_na n_na r_pa n_pa r_wt n_wt r_t n_t krz ks0 kw0 kwt kna kpa kz kt l_rz u_rz l_s0 u_s0 hN_0 hWT_0 l_z u_z hc_0 hB hr   g_118 (5 : Int32) s2_119 H locs ls hT hI hE hM (by decide) (by decide) (by omega) (by omega) kn_135 f_122 f_123 hN hc hWT (ac_n hv_.1 (by have q_ := hv_.2; rw [hq_] at q_; omega)) (lv_sub hl [1, 2] rfl)
        · have ew_ : w2_92 = 1 := i_inj (hw_s2_91.trans (by decide))
          subst ew_
          rw [show s2_60.toInt = s0.toInt + 2 by omega] at ht_s2_91
          refine lv_iinc (v := 3) (lv' := [(2, .int 3), (1, .int 5), (0, .ref h)]) hx hb dX7_readsAct_128 hl (k := 0) rfl (by decide) (by decide) rfl (fun ls hl => ?_)
          refine lv_goto (tgt := 89) hx hb dX7_readsAct_131 (by decide) ?_
          refine lv_iload_n hx hb dX7_readsAct_89 rfl (lv_at hl 0 rfl) ?_
          refine lv_iconst (v := 3) hx hb dX7_readsAct_90 (by decide) ?_
          refine lv_icmp_ge (tgt := 134) hx hb dX7_readsAct_91 (by decide) (fun c_ => ?_) (fun c_ => absurd (by decide) c_)
          refine lv_aload_n hx hb dX7_readsAct_134 rfl (lv_at hl 2 rfl) ?_
          refine lv_bipush (v := 32) hx hb dX7_readsAct_135 (by decide) ?_
          refine t_callV (n := 1) (As := [.int 32]) (rest := []) (ci := 7) hB hT hl.1 (m_must l D cI cZ cS cR N0 g_90 hI h 32 s2_91 1 z t ct r_98 r_102 n_106 f_94 f_95 kn_111 kn_112 (by have q0 : (1 : Int32).toInt = 1 := (by decide); have q1 : (32 : Int32).toInt = 32 := (by decide); omega) (by have q0 : (1 : Int32).toInt = 1 := (by decide); have q1 : (32 : Int32).toInt = 32 := (by decide); omega) (by have q0 : (1 : Int32).toInt = 1 := (by decide); have q1 : (32 : Int32).toInt = 32 := (by decide); omega) (by have q0 : (1 : Int32).toInt = 1 := (by decide); have q1 : (32 : Int32).toInt = 32 := (by decide); omega) (by have q0 : (1 : Int32).toInt = 1 := (by decide); have q1 : (32 : Int32).toInt = 32 := (by decide); omega) (by have q0 : (1 : Int32).toInt = 1 := (by decide); have q1 : (32 : Int32).toInt = 32 := (by decide); omega) (by have q0 : (1 : Int32).toInt = 1 := (by decide); have q1 : (32 : Int32).toInt = 32 := (by decide); omega) hc) (ro_ci r_98 rfl) rfl k_975 k_65 k_972 k_974 k_24 (by decide +kernel) ⟨(Nat.le_of_ble_eq_true rfl), (Nat.le_of_ble_eq_true rfl)⟩ rfl (Nat.le_of_ble_eq_true rfl) ⟨(Nat.le_of_ble_eq_true rfl), (Nat.le_of_ble_eq_true rfl)⟩ dX7_readsAct_137 (fun v g_146 H locs hp hT => ?_)
          obtain ⟨s2_147, w2_148, rfl, hI, x_153, m_152, f_149, f_150, f_151⟩ := hp
          have hN : PL 8 g_146 na pa := hN.sm m_152 r_99 (by decide) rfl r_100 (by decide) rfl
          have hc : g_146.2.2.2.1 t = ct := (Sm.cf m_152 r_102 (by decide) rfl).trans hc
          have hWT : WT g_146 wt := hWT.sm m_152 r_101 (by decide) rfl
          have hM : Sm md_m_readsAct g g_146 := hM.tr hE (m_152.mo (fun r k h => mdle_m_readsAct_m_must h))
          have hE : Ex g g_146 := hE.tr x_153
          have r_154 : g_146.1 h = 8 := (Ex.r x_153 r_98 (by decide))
          have r_155 : g_146.1 na = 84 := (Ex.r x_153 r_99 (by decide))
          have r_156 : g_146.1 pa = 85 := (Ex.r x_153 r_100 (by decide))
          have r_157 : g_146.1 wt = 87 := (Ex.r x_153 r_101 (by decide))
          have r_158 : g_146.1 t = 79 := (Ex.r x_153 r_102 (by decide))
          have n_159 : g_146.2.2.1 na = 8 := (Ex.n x_153 r_99 (by decide) n_103)
          have n_160 : g_146.2.2.1 pa = 8 := (Ex.n x_153 r_100 (by decide) n_104)
          have n_161 : g_146.2.2.1 wt = 24 := (Ex.n x_153 r_101 (by decide) n_105)
          have n_162 : g_146.2.2.1 t = 100 := (Ex.n x_153 r_102 (by decide) n_106)
          have kn_163 : g_146.2.1 h 38 = .int rz := (Sm.v m_152 r_98 (by decide) rfl kn_107)
          have kn_164 : g_146.2.1 h 42 = .ref wt := (Sm.v m_152 r_98 (by decide) rfl kn_108)
          have kn_165 : g_146.2.1 h 39 = .ref na := (Sm.v m_152 r_98 (by decide) rfl kn_109)
          have kn_166 : g_146.2.1 h 40 = .ref pa := (Sm.v m_152 r_98 (by decide) rfl kn_110)
          have kn_167 : g_146.2.1 h 29 = .int z := (Sm.v m_152 r_98 (by decide) rfl kn_111)
          have kn_168 : g_146.2.1 h 28 = .ref t := (Sm.v m_152 r_98 (by decide) rfl kn_112)
          have kn_169 : g_146.2.2.2.1 wt (15 : Int32).toNatClampNeg = 97 := (Sm.c m_152 r_101 (by decide) rfl kn_113)
          have kn_170 : g_146.2.2.2.1 wt (16 : Int32).toNatClampNeg = 115 := (Sm.c m_152 r_101 (by decide) rfl kn_114)
          have kn_171 : g_146.2.2.2.1 wt (17 : Int32).toNatClampNeg = 107 := (Sm.c m_152 r_101 (by decide) rfl kn_115)
          refine W.eq (g2 := F0 m 140 ls []) rfl ?_
          have qc_172 : (1 : Int32).toInt = 1 := (by decide)
          have qc_173 : (32 : Int32).toInt = 32 := (by decide)
          rcases f_149 with ⟨-, hs_s2_147, hw_s2_147⟩ | ⟨hx_, -⟩ | ⟨hx_, -⟩
          rotate_left
          · exact absurd hx_ (by decide)
          · exact absurd hx_ (by decide)
          have ew_ : w2_148 = 1 := i_inj (hw_s2_147.trans (by decide))
          subst ew_
          have hs_ : wsel ((txb ct z.toInt) s0.toInt) ((txb ct z.toInt) (s0.toInt + 1)) = 5 := ws_5 (by omega) (by omega)
          have hq_ : qj (txb ct z.toInt) s0.toInt 5 = 2 := wp4_2 (by omega) (by omega) (by omega)
          have hv_ := wd_f hs_ (Or.inr (fun h_ => absurd (hq_.symm.trans h_) (by decide)))
          exact lt_m_readsAct_c1 l D cI cZ cS cR N0 g h s0 rz wt na pa z t ct r_h r_na n_na r_pa n_pa r_wt n_wt r_t n_t krz ks0 kw0 kwt kna kpa kz kt l_rz u_rz l_s0 u_s0 hN_0 hWT_0 l_z u_z hc_0 hB hr   g_146 (5 : Int32) s2_147 H locs ls hT hI hE hM (by decide) (by decide) (by omega) (by omega) kn_163 f_150 f_151 hN hc hWT (ac_n hv_.1 (by have q_ := hv_.2; rw [hq_] at q_; omega)) (lv_sub hl [1, 2] rfl)
      · have ew_ : w2_61 = 1 := i_inj (hw_s2_60.trans (by decide))
        subst ew_
        rw [show s2_30.toInt = s0.toInt + 1 by omega] at ht_s2_60
        refine lv_iinc (v := 2) (lv' := [(2, .int 2), (1, .int 5), (0, .ref h)]) hx hb dX7_readsAct_128 hl (k := 0) rfl (by decide) (by decide) rfl (fun ls hl => ?_)
        refine lv_goto (tgt := 89) hx hb dX7_readsAct_131 (by decide) ?_
        refine lv_iload_n hx hb dX7_readsAct_89 rfl (lv_at hl 0 rfl) ?_
        refine lv_iconst (v := 3) hx hb dX7_readsAct_90 (by decide) ?_
        refine lv_icmp_ge (tgt := 134) hx hb dX7_readsAct_91 (by decide) (fun c_ => absurd c_ (by decide)) (fun c_ => ?_)
        refine lv_aload_n hx hb dX7_readsAct_94 rfl (lv_at hl 2 rfl) ?_
        refine t_get (ci := 7) (v := .int 1) hB hT (ro_ci r_67 rfl) rfl 37 (by decide) k_782 f_64 dX7_readsAct_95 ?_
        refine lv_if_ne (tgt := 134) hx hb dX7_readsAct_98 (by decide) (fun c_ => ?_) (fun c_ => absurd c_ (by decide))
        refine lv_aload_n hx hb dX7_readsAct_134 rfl (lv_at hl 2 rfl) ?_
        refine lv_bipush (v := 32) hx hb dX7_readsAct_135 (by decide) ?_
        refine t_callV (n := 1) (As := [.int 32]) (rest := []) (ci := 7) hB hT hl.1 (m_must l D cI cZ cS cR N0 g_59 hI h 32 s2_60 1 z t ct r_67 r_71 n_75 f_63 f_64 kn_80 kn_81 (by have q0 : (1 : Int32).toInt = 1 := (by decide); have q1 : (32 : Int32).toInt = 32 := (by decide); omega) (by have q0 : (1 : Int32).toInt = 1 := (by decide); have q1 : (32 : Int32).toInt = 32 := (by decide); omega) (by have q0 : (1 : Int32).toInt = 1 := (by decide); have q1 : (32 : Int32).toInt = 32 := (by decide); omega) (by have q0 : (1 : Int32).toInt = 1 := (by decide); have q1 : (32 : Int32).toInt = 32 := (by decide); omega) (by have q0 : (1 : Int32).toInt = 1 := (by decide); have q1 : (32 : Int32).toInt = 32 := (by decide); omega) (by have q0 : (1 : Int32).toInt = 1 := (by decide); have q1 : (32 : Int32).toInt = 32 := (by decide); omega) (by have q0 : (1 : Int32).toInt = 1 := (by decide); have q1 : (32 : Int32).toInt = 32 := (by decide); omega) hc) (ro_ci r_67 rfl) rfl k_975 k_65 k_972 k_974 k_24 (by decide +kernel) ⟨(Nat.le_of_ble_eq_true rfl), (Nat.le_of_ble_eq_true rfl)⟩ rfl (Nat.le_of_ble_eq_true rfl) ⟨(Nat.le_of_ble_eq_true rfl), (Nat.le_of_ble_eq_true rfl)⟩ dX7_readsAct_137 (fun v g_174 H locs hp hT => ?_)
        obtain ⟨s2_175, w2_176, rfl, hI, x_181, m_180, f_177, f_178, f_179⟩ := hp
        have hN : PL 8 g_174 na pa := hN.sm m_180 r_68 (by decide) rfl r_69 (by decide) rfl
        have hc : g_174.2.2.2.1 t = ct := (Sm.cf m_180 r_71 (by decide) rfl).trans hc
        have hWT : WT g_174 wt := hWT.sm m_180 r_70 (by decide) rfl
        have hM : Sm md_m_readsAct g g_174 := hM.tr hE (m_180.mo (fun r k h => mdle_m_readsAct_m_must h))
        have hE : Ex g g_174 := hE.tr x_181
        have r_182 : g_174.1 h = 8 := (Ex.r x_181 r_67 (by decide))
        have r_183 : g_174.1 na = 84 := (Ex.r x_181 r_68 (by decide))
        have r_184 : g_174.1 pa = 85 := (Ex.r x_181 r_69 (by decide))
        have r_185 : g_174.1 wt = 87 := (Ex.r x_181 r_70 (by decide))
        have r_186 : g_174.1 t = 79 := (Ex.r x_181 r_71 (by decide))
        have n_187 : g_174.2.2.1 na = 8 := (Ex.n x_181 r_68 (by decide) n_72)
        have n_188 : g_174.2.2.1 pa = 8 := (Ex.n x_181 r_69 (by decide) n_73)
        have n_189 : g_174.2.2.1 wt = 24 := (Ex.n x_181 r_70 (by decide) n_74)
        have n_190 : g_174.2.2.1 t = 100 := (Ex.n x_181 r_71 (by decide) n_75)
        have kn_191 : g_174.2.1 h 38 = .int rz := (Sm.v m_180 r_67 (by decide) rfl kn_76)
        have kn_192 : g_174.2.1 h 42 = .ref wt := (Sm.v m_180 r_67 (by decide) rfl kn_77)
        have kn_193 : g_174.2.1 h 39 = .ref na := (Sm.v m_180 r_67 (by decide) rfl kn_78)
        have kn_194 : g_174.2.1 h 40 = .ref pa := (Sm.v m_180 r_67 (by decide) rfl kn_79)
        have kn_195 : g_174.2.1 h 29 = .int z := (Sm.v m_180 r_67 (by decide) rfl kn_80)
        have kn_196 : g_174.2.1 h 28 = .ref t := (Sm.v m_180 r_67 (by decide) rfl kn_81)
        have kn_197 : g_174.2.2.2.1 wt (15 : Int32).toNatClampNeg = 97 := (Sm.c m_180 r_70 (by decide) rfl kn_82)
        have kn_198 : g_174.2.2.2.1 wt (16 : Int32).toNatClampNeg = 115 := (Sm.c m_180 r_70 (by decide) rfl kn_83)
        refine W.eq (g2 := F0 m 140 ls []) rfl ?_
        have qc_199 : (1 : Int32).toInt = 1 := (by decide)
        have qc_200 : (32 : Int32).toInt = 32 := (by decide)
        rcases f_177 with ⟨-, hs_s2_175, hw_s2_175⟩ | ⟨hx_, -⟩ | ⟨hx_, -⟩
        rotate_left
        · exact absurd hx_ (by decide)
        · exact absurd hx_ (by decide)
        have ew_ : w2_176 = 1 := i_inj (hw_s2_175.trans (by decide))
        subst ew_
        have hs_ : wsel ((txb ct z.toInt) s0.toInt) ((txb ct z.toInt) (s0.toInt + 1)) = 5 := ws_5 (by omega) (by omega)
        have hq_ : qj (txb ct z.toInt) s0.toInt 5 = 1 := wp4_1 (by omega) (by omega)
        have hv_ := wd_f hs_ (Or.inr (fun h_ => absurd (hq_.symm.trans h_) (by decide)))
        exact lt_m_readsAct_c1 l D cI cZ cS cR N0 g h s0 rz wt na pa z t ct r_h r_na n_na r_pa n_pa r_wt n_wt r_t n_t krz ks0 kw0 kwt kna kpa kz kt l_rz u_rz l_s0 u_s0 hN_0 hWT_0 l_z u_z hc_0 hB hr   g_174 (5 : Int32) s2_175 H locs ls hT hI hE hM (by decide) (by decide) (by omega) (by omega) kn_191 f_178 f_179 hN hc hWT (ac_n hv_.1 (by have q_ := hv_.2; rw [hq_] at q_; omega)) (lv_sub hl [1, 2] rfl)
    · have ew_ : w2_31 = 1 := i_inj (hw_s2_30.trans (by decide))
      subst ew_
      refine lv_iinc (v := 1) (lv' := [(2, .int 1), (1, .int 5), (0, .ref h)]) hx hb dX7_readsAct_128 hl (k := 0) rfl (by decide) (by decide) rfl (fun ls hl => ?_)
      refine lv_goto (tgt := 89) hx hb dX7_readsAct_131 (by decide) ?_
      refine lv_iload_n hx hb dX7_readsAct_89 rfl (lv_at hl 0 rfl) ?_
      refine lv_iconst (v := 3) hx hb dX7_readsAct_90 (by decide) ?_
      refine lv_icmp_ge (tgt := 134) hx hb dX7_readsAct_91 (by decide) (fun c_ => absurd c_ (by decide)) (fun c_ => ?_)
      refine lv_aload_n hx hb dX7_readsAct_94 rfl (lv_at hl 2 rfl) ?_
      refine t_get (ci := 7) (v := .int 1) hB hT (ro_ci r_37 rfl) rfl 37 (by decide) k_782 f_34 dX7_readsAct_95 ?_
      refine lv_if_ne (tgt := 134) hx hb dX7_readsAct_98 (by decide) (fun c_ => ?_) (fun c_ => absurd c_ (by decide))
      refine lv_aload_n hx hb dX7_readsAct_134 rfl (lv_at hl 2 rfl) ?_
      refine lv_bipush (v := 32) hx hb dX7_readsAct_135 (by decide) ?_
      refine t_callV (n := 1) (As := [.int 32]) (rest := []) (ci := 7) hB hT hl.1 (m_must l D cI cZ cS cR N0 g_29 hI h 32 s2_30 1 z t ct r_37 r_41 n_45 f_33 f_34 kn_50 kn_51 (by have q0 : (1 : Int32).toInt = 1 := (by decide); have q1 : (32 : Int32).toInt = 32 := (by decide); omega) (by have q0 : (1 : Int32).toInt = 1 := (by decide); have q1 : (32 : Int32).toInt = 32 := (by decide); omega) (by have q0 : (1 : Int32).toInt = 1 := (by decide); have q1 : (32 : Int32).toInt = 32 := (by decide); omega) (by have q0 : (1 : Int32).toInt = 1 := (by decide); have q1 : (32 : Int32).toInt = 32 := (by decide); omega) (by have q0 : (1 : Int32).toInt = 1 := (by decide); have q1 : (32 : Int32).toInt = 32 := (by decide); omega) (by have q0 : (1 : Int32).toInt = 1 := (by decide); have q1 : (32 : Int32).toInt = 32 := (by decide); omega) (by have q0 : (1 : Int32).toInt = 1 := (by decide); have q1 : (32 : Int32).toInt = 32 := (by decide); omega) hc) (ro_ci r_37 rfl) rfl k_975 k_65 k_972 k_974 k_24 (by decide +kernel) ⟨(Nat.le_of_ble_eq_true rfl), (Nat.le_of_ble_eq_true rfl)⟩ rfl (Nat.le_of_ble_eq_true rfl) ⟨(Nat.le_of_ble_eq_true rfl), (Nat.le_of_ble_eq_true rfl)⟩ dX7_readsAct_137 (fun v g_201 H locs hp hT => ?_)
      obtain ⟨s2_202, w2_203, rfl, hI, x_208, m_207, f_204, f_205, f_206⟩ := hp
      have hN : PL 8 g_201 na pa := hN.sm m_207 r_38 (by decide) rfl r_39 (by decide) rfl
      have hc : g_201.2.2.2.1 t = ct := (Sm.cf m_207 r_41 (by decide) rfl).trans hc
      have hWT : WT g_201 wt := hWT.sm m_207 r_40 (by decide) rfl
      have hM : Sm md_m_readsAct g g_201 := hM.tr hE (m_207.mo (fun r k h => mdle_m_readsAct_m_must h))
      have hE : Ex g g_201 := hE.tr x_208
      have r_209 : g_201.1 h = 8 := (Ex.r x_208 r_37 (by decide))
      have r_210 : g_201.1 na = 84 := (Ex.r x_208 r_38 (by decide))
      have r_211 : g_201.1 pa = 85 := (Ex.r x_208 r_39 (by decide))
      have r_212 : g_201.1 wt = 87 := (Ex.r x_208 r_40 (by decide))
      have r_213 : g_201.1 t = 79 := (Ex.r x_208 r_41 (by decide))
      have n_214 : g_201.2.2.1 na = 8 := (Ex.n x_208 r_38 (by decide) n_42)
      have n_215 : g_201.2.2.1 pa = 8 := (Ex.n x_208 r_39 (by decide) n_43)
      have n_216 : g_201.2.2.1 wt = 24 := (Ex.n x_208 r_40 (by decide) n_44)
      have n_217 : g_201.2.2.1 t = 100 := (Ex.n x_208 r_41 (by decide) n_45)
      have kn_218 : g_201.2.1 h 38 = .int rz := (Sm.v m_207 r_37 (by decide) rfl kn_46)
      have kn_219 : g_201.2.1 h 42 = .ref wt := (Sm.v m_207 r_37 (by decide) rfl kn_47)
      have kn_220 : g_201.2.1 h 39 = .ref na := (Sm.v m_207 r_37 (by decide) rfl kn_48)
      have kn_221 : g_201.2.1 h 40 = .ref pa := (Sm.v m_207 r_37 (by decide) rfl kn_49)
      have kn_222 : g_201.2.1 h 29 = .int z := (Sm.v m_207 r_37 (by decide) rfl kn_50)
      have kn_223 : g_201.2.1 h 28 = .ref t := (Sm.v m_207 r_37 (by decide) rfl kn_51)
      have kn_224 : g_201.2.2.2.1 wt (15 : Int32).toNatClampNeg = 97 := (Sm.c m_207 r_40 (by decide) rfl kn_52)
      refine W.eq (g2 := F0 m 140 ls []) rfl ?_
      have qc_225 : (1 : Int32).toInt = 1 := (by decide)
      have qc_226 : (32 : Int32).toInt = 32 := (by decide)
      rcases f_204 with ⟨-, hs_s2_202, hw_s2_202⟩ | ⟨hx_, -⟩ | ⟨hx_, -⟩
      rotate_left
      · exact absurd hx_ (by decide)
      · exact absurd hx_ (by decide)
      have ew_ : w2_203 = 1 := i_inj (hw_s2_202.trans (by decide))
      subst ew_
      have hs_ : wsel ((txb ct z.toInt) s0.toInt) ((txb ct z.toInt) (s0.toInt + 1)) = 5 := ws_5 (by omega) (by omega)
      have hq_ : qj (txb ct z.toInt) s0.toInt 5 = 0 := wp4_0 (by omega)
      have hv_ := wd_f hs_ (Or.inr (fun h_ => absurd (hq_.symm.trans h_) (by decide)))
      exact lt_m_readsAct_c1 l D cI cZ cS cR N0 g h s0 rz wt na pa z t ct r_h r_na n_na r_pa n_pa r_wt n_wt r_t n_t krz ks0 kw0 kwt kna kpa kz kt l_rz u_rz l_s0 u_s0 hN_0 hWT_0 l_z u_z hc_0 hB hr   g_201 (5 : Int32) s2_202 H locs ls hT hI hE hM (by decide) (by decide) (by omega) (by omega) kn_218 f_205 f_206 hN hc hWT (ac_n hv_.1 (by have q_ := hv_.2; rw [hq_] at q_; omega)) (lv_sub hl [1, 2] rfl)
  · have c_24' : r_16.toInt ≠ 97 := i_ne c_24 rfl (by decide)
    refine lv_iinc (v := 6) (lv' := [(1, .int 6), (0, .ref h)]) hx hb dX7_readsAct_59 hl (k := 0) rfl (by decide) (by decide) rfl (fun ls hl => ?_)
    refine lv_goto (tgt := 34) hx hb dX7_readsAct_62 (by decide) ?_
    exact lt_m_readsAct_w6 l D cI cZ cS cR N0 g h s0 rz wt na pa z t ct r_h r_na n_na r_pa n_pa r_wt n_wt r_t n_t krz ks0 kw0 kwt kna kpa kz kt l_rz u_rz l_s0 u_s0 hN_0 hWT_0 l_z u_z hc_0 hB hr   g1 H locs ls hT hI hE hM kp0 kp1 kp2 hN hc hWT (by omega) (lv_sub hl [0, 1] rfl)
set_option maxHeartbeats 4000000 in
set_option maxRecDepth 100000 in
theorem lt_m_readsAct_w4 (l : Launch) (D : va_G) (cI cZ cS cR : ClassId) (N0 : NT) (g : GS) (h : Nat) (s0 : Int32) (rz : Int32) (wt : Nat) (na : Nat) (pa : Nat) (z : Int32) (t : Nat) (ct : Nat → Int32) (r_h : g.1 h = 8) (r_na : g.1 na = 84) (n_na : g.2.2.1 na = 8) (r_pa : g.1 pa = 85) (n_pa : g.2.2.1 pa = 8) (r_wt : g.1 wt = 87) (n_wt : g.2.2.1 wt = 24) (r_t : g.1 t = 79) (n_t : g.2.2.1 t = 100) (krz : g.2.1 h 38 = .int rz) (ks0 : g.2.1 h 36 = .int s0) (kw0 : g.2.1 h 37 = .int 0) (kwt : g.2.1 h 42 = .ref wt) (kna : g.2.1 h 39 = .ref na) (kpa : g.2.1 h 40 = .ref pa) (kz : g.2.1 h 29 = .int z) (kt : g.2.1 h 28 = .ref t) (l_rz : 0 ≤ rz.toInt) (u_rz : rz.toInt ≤ 7) (l_s0 : 0 ≤ s0.toInt) (u_s0 : s0.toInt ≤ 100) (hN_0 : PL 8 g na pa) (hWT_0 : WT g wt) (l_z : 0 ≤ z.toInt) (u_z : z.toInt ≤ 100) (hc_0 : g.2.2.2.1 t = ct) {p : Program} {e : Env} {s : State} {m : MethodId} {args : Array Value} {below : List Frame} {meth : Method} {c : Code} (hB : Tz p s m meth c args cX7_readsAct 4 RX7 D cI cZ cS cR N0) (hr : meth.sig.returnType = none)    : ∀ (g1 : GS)   (H : Heap) (locs : List Loc) (ls : Array Slot), Tv D cI cZ cS cR N0 s.heap H locs g1 → Inv g1 → Ex g g1 → Sm md_m_readsAct g g1 → g1.2.1 h 38 = .int rz → g1.2.1 h 36 = .int s0 → g1.2.1 h 37 = .int 0 → (PL 8 g1 na pa) → (g1.2.2.2.1 t = ct) → (WT g1 wt) → (¬ ((txb ct z.toInt) s0.toInt = 97 ∧ (txb ct z.toInt) (s0.toInt + 1) = 115) ∧ (txb ct z.toInt) s0.toInt ≠ 115 ∧ (txb ct z.toInt) s0.toInt ≠ 97 ∧ (txb ct z.toInt) s0.toInt ≠ 109 ∧ (txb ct z.toInt) s0.toInt ≠ 110) → lv_has ls 4 [(1, .int 4), (0, .ref h)] → W p l e (rmx 2 0 0) s m args below meth c H locs 0 0 (MQ below (tQ D cI cZ cS cR N0 (fun v g' => ∃ (z2 : Int32) (s2 : Int32) (w2 : Int32), v = none ∧ Inv g' ∧ Ex g g' ∧ Sm md_m_readsAct g g' ∧ ((w2 = 1 ∧ ac (txb ct z.toInt) s0.toInt = (false, s2.toInt)) ∨ (w2 = 0 ∧ ac (txb ct z.toInt) s0.toInt = (true, s2.toInt) ∧ s2.toInt ≤ z.toInt)) ∧ (g'.2.1 h 38 = .int z2) ∧ (z2.toInt = rz.toInt + 1) ∧ (PL 8 g' na pa) ∧ (g'.2.1 h 36 = .int s2) ∧ (g'.2.1 h 37 = .int w2) ∧ (0 ≤ s2.toInt ∧ s2.toInt ≤ 100))) args s 0 0 (fun q => N0.1 ≤ q)) (F0 m 34 ls []) := by
  have hx := hB.1
  have hb := hB.2.1
  intro g1 H locs ls hT hI hE hM kp0 kp1 kp2 hN hc hWT hS hl
  have r_1 : g1.1 h = 8 := Ex.r hE r_h (by decide)
  have r_2 : g1.1 na = 84 := Ex.r hE r_na (by decide)
  have n_3 : g1.2.2.1 na = 8 := Ex.n hE r_na (by decide) n_na
  have r_4 : g1.1 pa = 85 := Ex.r hE r_pa (by decide)
  have n_5 : g1.2.2.1 pa = 8 := Ex.n hE r_pa (by decide) n_pa
  have r_6 : g1.1 wt = 87 := Ex.r hE r_wt (by decide)
  have n_7 : g1.2.2.1 wt = 24 := Ex.n hE r_wt (by decide) n_wt
  have r_8 : g1.1 t = 79 := Ex.r hE r_t (by decide)
  have n_9 : g1.2.2.1 t = 100 := Ex.n hE r_t (by decide) n_t
  have kn_10 : g1.2.1 h 42 = .ref wt := Sm.v hM r_h (by decide) rfl kwt
  have kn_11 : g1.2.1 h 39 = .ref na := Sm.v hM r_h (by decide) rfl kna
  have kn_12 : g1.2.1 h 40 = .ref pa := Sm.v hM r_h (by decide) rfl kpa
  have kn_13 : g1.2.1 h 29 = .int z := Sm.v hM r_h (by decide) rfl kz
  have kn_14 : g1.2.1 h 28 = .ref t := Sm.v hM r_h (by decide) rfl kt
  refine lv_iload_n hx hb dX7_readsAct_34 rfl (lv_at hl 0 rfl) ?_
  refine lv_bipush (v := 8) hx hb dX7_readsAct_35 (by decide) ?_
  refine lv_icmp_ge (tgt := 65) hx hb dX7_readsAct_37 (by decide) (fun c_ => absurd c_ (by decide)) (fun c_ => ?_)
  refine lv_aload_n hx hb dX7_readsAct_40 rfl (lv_at hl 1 rfl) ?_
  refine lv_aload_n hx hb dX7_readsAct_41 rfl (lv_at hl 1 rfl) ?_
  refine t_get (ci := 7) (v := .int s0) hB hT (ro_ci r_1 rfl) rfl 36 (by decide) k_781 kp1 dX7_readsAct_42 ?_
  refine t_callV (n := 1) (As := [.int s0]) (rest := []) (ci := 7) hB hT hl.1 (m_byteAt l D cI cZ cS cR N0 g1 hI h s0 z t ct r_1 r_8 n_9 kn_13 kn_14 (by omega) (by omega) (by omega) (by omega) hc) (ro_ci r_1 rfl) rfl k_971 k_65 k_968 k_970 k_23 (by decide +kernel) ⟨(Nat.le_of_ble_eq_true rfl), (Nat.le_of_ble_eq_true rfl)⟩ rfl (Nat.le_of_ble_eq_true rfl) ⟨(Nat.le_of_ble_eq_true rfl), (Nat.le_of_ble_eq_true rfl)⟩ dX7_readsAct_45 (fun v g_15 H locs hp hT => ?_)
  obtain ⟨r_16, rfl, eg, f_17, f_18, f_19⟩ := hp
  rw [eg] at hT
  clear eg
  refine W.eq (g2 := F0 m 48 ls [.int r_16]) rfl ?_
  refine lv_aload_n hx hb dX7_readsAct_48 rfl (lv_at hl 1 rfl) ?_
  refine t_get (ci := 7) (v := .ref wt) hB hT (ro_ci r_1 rfl) rfl 42 (by decide) k_787 kn_10 dX7_readsAct_49 ?_
  refine lv_iconst (v := 3) hx hb dX7_readsAct_52 (by decide) ?_
  refine lv_iload_n hx hb dX7_readsAct_53 rfl (lv_at hl 0 rfl) ?_
  refine lv_imul hx hb dX7_readsAct_54 ?_
  refine x_ev (y := 12) (by decide) ?_
  have kw_22 : g1.2.2.2.1 wt (12 : Int32).toNatClampNeg = 103 := (hWT (12 : Int32).toNatClampNeg (by decide)).trans (by decide)
  have i_u_23 : vp_in (12 : Int32) 24 := (by unfold vp_in; decide)
  refine t_iald (v := (103 : Int32)) hB hT (ro_in r_6 (by decide)) n_7 i_u_23 kw_22 dX7_readsAct_55 ?_
  refine lv_icmp_eq (tgt := 65) hx hb dX7_readsAct_56 (by decide) (fun c_24 => ?_) (fun c_24 => ?_)
  · have c_24' : r_16.toInt = 103 := i_eq c_24 rfl (by decide)
    refine lv_aload_n hx hb dX7_readsAct_65 rfl (lv_at hl 1 rfl) ?_
    refine lv_aload_n hx hb dX7_readsAct_66 rfl (lv_at hl 1 rfl) ?_
    refine t_get (ci := 7) (v := .int 0) hB hT (ro_ci r_1 rfl) rfl 37 (by decide) k_782 kp2 dX7_readsAct_67 ?_
    refine lv_if_ne (tgt := 79) hx hb dX7_readsAct_70 (by decide) (fun c_ => absurd (by decide) c_) (fun c_ => ?_)
    refine lv_iload_n hx hb dX7_readsAct_73 rfl (lv_at hl 0 rfl) ?_
    refine lv_bipush (v := 8) hx hb dX7_readsAct_74 (by decide) ?_
    refine lv_icmp_ne (tgt := 83) hx hb dX7_readsAct_76 (by decide) (fun c_ => ?_) (fun c_ => absurd c_ (by decide))
    refine lv_iconst (v := 0) hx hb dX7_readsAct_83 (by decide) ?_
    refine t_put0 (ci := 7) (v := .int 0) hB hT (ro_ci r_1 rfl) (ro_n0 r_1 (by decide)) rfl 37 (by decide) k_782 (Or.inl rfl) rfl rfl dX7_readsAct_84 (fun H locs hT => ?_)
    have hI : Inv (sF g1 h 37 (.int 0)) := hI.sF (p_8_37 r_1 (⟨_, rfl, by decide, by decide⟩))
    have hM : Sm md_m_readsAct g (sF g1 h 37 (.int 0)) := hM.tr hE (Sm_sF (by rw [r_1]; rfl))
    have hE : Ex g (sF g1 h 37 (.int 0)) := hE
    have hN : PL 8 (sF g1 h 37 (.int 0)) na pa := hN
    have hc : (sF g1 h 37 (.int 0)).2.2.2.1 t = ct := hc
    have hWT : WT (sF g1 h 37 (.int 0)) wt := hWT
    refine lv_iconst (v := 0) hx hb dX7_readsAct_87 (by decide) ?_
    refine lv_istore_n (lv' := [(2, .int 0), (1, .int 4), (0, .ref h)]) hx hb dX7_readsAct_88 rfl hl (by decide) rfl (fun ls hl => ?_)
    refine lv_iload_n hx hb dX7_readsAct_89 rfl (lv_at hl 0 rfl) ?_
    refine lv_iconst (v := 3) hx hb dX7_readsAct_90 (by decide) ?_
    refine lv_icmp_ge (tgt := 134) hx hb dX7_readsAct_91 (by decide) (fun c_ => absurd c_ (by decide)) (fun c_ => ?_)
    refine lv_aload_n hx hb dX7_readsAct_94 rfl (lv_at hl 2 rfl) ?_
    refine t_get (ci := 7) (v := .int 0) hB hT (ro_ci r_1 rfl) rfl 37 (by decide) k_782 sF_eq dX7_readsAct_95 ?_
    refine lv_if_ne (tgt := 134) hx hb dX7_readsAct_98 (by decide) (fun c_ => absurd (by decide) c_) (fun c_ => ?_)
    refine lv_aload_n hx hb dX7_readsAct_101 rfl (lv_at hl 2 rfl) ?_
    refine t_get (ci := 7) (v := .ref wt) hB hT (ro_ci r_1 rfl) rfl 42 (by decide) k_787 (sF_k kn_10 (by decide)) dX7_readsAct_102 ?_
    refine lv_iconst (v := 3) hx hb dX7_readsAct_105 (by decide) ?_
    refine lv_iload_n hx hb dX7_readsAct_106 rfl (lv_at hl 1 rfl) ?_
    refine lv_imul hx hb dX7_readsAct_107 ?_
    refine x_ev (y := 12) (by decide) ?_
    refine lv_iload_n hx hb dX7_readsAct_108 rfl (lv_at hl 0 rfl) ?_
    refine lv_iadd hx hb dX7_readsAct_109 ?_
    refine x_ev (y := 12) (by decide) ?_
    have kw_25 : (sF g1 h 37 (.int 0)).2.2.2.1 wt (12 : Int32).toNatClampNeg = 103 := (hWT (12 : Int32).toNatClampNeg (by decide)).trans (by decide)
    have i_u_26 : vp_in (12 : Int32) 24 := (by unfold vp_in; decide)
    refine t_iald (v := (103 : Int32)) hB hT (ro_in r_6 (by decide)) n_7 i_u_26 kw_25 dX7_readsAct_110 ?_
    refine lv_if_eq (tgt := 128) hx hb dX7_readsAct_111 (by decide) (fun c_ => absurd c_ (by decide)) (fun c_ => ?_)
    refine lv_aload_n hx hb dX7_readsAct_114 rfl (lv_at hl 2 rfl) ?_
    refine lv_aload_n hx hb dX7_readsAct_115 rfl (lv_at hl 2 rfl) ?_
    refine t_get (ci := 7) (v := .ref wt) hB hT (ro_ci r_1 rfl) rfl 42 (by decide) k_787 (sF_k kn_10 (by decide)) dX7_readsAct_116 ?_
    refine lv_iconst (v := 3) hx hb dX7_readsAct_119 (by decide) ?_
    refine lv_iload_n hx hb dX7_readsAct_120 rfl (lv_at hl 1 rfl) ?_
    refine lv_imul hx hb dX7_readsAct_121 ?_
    refine x_ev (y := 12) (by decide) ?_
    refine lv_iload_n hx hb dX7_readsAct_122 rfl (lv_at hl 0 rfl) ?_
    refine lv_iadd hx hb dX7_readsAct_123 ?_
    refine x_ev (y := 12) (by decide) ?_
    have kw_27 : (sF g1 h 37 (.int 0)).2.2.2.1 wt (12 : Int32).toNatClampNeg = 103 := (hWT (12 : Int32).toNatClampNeg (by decide)).trans (by decide)
    have i_u_28 : vp_in (12 : Int32) 24 := (by unfold vp_in; decide)
    refine t_iald (v := (103 : Int32)) hB hT (ro_in r_6 (by decide)) n_7 i_u_28 kw_27 dX7_readsAct_124 ?_
    refine t_callV (n := 1) (As := [.int 103]) (rest := []) (ci := 7) hB hT hl.1 (m_must l D cI cZ cS cR N0 (sF g1 h 37 (.int 0)) hI h 103 s0 0 z t ct r_1 r_8 n_9 (sF_k kp1 (by decide)) sF_eq (sF_k kn_13 (by decide)) (sF_k kn_14 (by decide)) (by have q0 : (0 : Int32).toInt = 0 := (by decide); have q1 : (103 : Int32).toInt = 103 := (by decide); omega) (by have q0 : (0 : Int32).toInt = 0 := (by decide); have q1 : (103 : Int32).toInt = 103 := (by decide); omega) (by have q0 : (0 : Int32).toInt = 0 := (by decide); have q1 : (103 : Int32).toInt = 103 := (by decide); omega) (by have q0 : (0 : Int32).toInt = 0 := (by decide); have q1 : (103 : Int32).toInt = 103 := (by decide); omega) (by have q0 : (0 : Int32).toInt = 0 := (by decide); have q1 : (103 : Int32).toInt = 103 := (by decide); omega) (by have q0 : (0 : Int32).toInt = 0 := (by decide); have q1 : (103 : Int32).toInt = 103 := (by decide); omega) (by have q0 : (0 : Int32).toInt = 0 := (by decide); have q1 : (103 : Int32).toInt = 103 := (by decide); omega) hc) (ro_ci r_1 rfl) rfl k_975 k_65 k_972 k_974 k_24 (by decide +kernel) ⟨(Nat.le_of_ble_eq_true rfl), (Nat.le_of_ble_eq_true rfl)⟩ rfl (Nat.le_of_ble_eq_true rfl) ⟨(Nat.le_of_ble_eq_true rfl), (Nat.le_of_ble_eq_true rfl)⟩ dX7_readsAct_125 (fun v g_29 H locs hp hT => ?_)
    obtain ⟨s2_30, w2_31, rfl, hI, x_36, m_35, f_32, f_33, f_34⟩ := hp
    have hN : PL 8 g_29 na pa := hN.sm m_35 r_2 (by decide) rfl r_4 (by decide) rfl
    have hc : g_29.2.2.2.1 t = ct := (Sm.cf m_35 r_8 (by decide) rfl).trans hc
    have hWT : WT g_29 wt := hWT.sm m_35 r_6 (by decide) rfl
    have hM : Sm md_m_readsAct g g_29 := hM.tr hE (m_35.mo (fun r k h => mdle_m_readsAct_m_must h))
    have hE : Ex g g_29 := hE.tr x_36
    have r_37 : g_29.1 h = 8 := (Ex.r x_36 r_1 (by decide))
    have r_38 : g_29.1 na = 84 := (Ex.r x_36 r_2 (by decide))
    have r_39 : g_29.1 pa = 85 := (Ex.r x_36 r_4 (by decide))
    have r_40 : g_29.1 wt = 87 := (Ex.r x_36 r_6 (by decide))
    have r_41 : g_29.1 t = 79 := (Ex.r x_36 r_8 (by decide))
    have n_42 : g_29.2.2.1 na = 8 := (Ex.n x_36 r_2 (by decide) n_3)
    have n_43 : g_29.2.2.1 pa = 8 := (Ex.n x_36 r_4 (by decide) n_5)
    have n_44 : g_29.2.2.1 wt = 24 := (Ex.n x_36 r_6 (by decide) n_7)
    have n_45 : g_29.2.2.1 t = 100 := (Ex.n x_36 r_8 (by decide) n_9)
    have kn_46 : g_29.2.1 h 38 = .int rz := (Sm.v m_35 r_1 (by decide) rfl (sF_k kp0 (by decide)))
    have kn_47 : g_29.2.1 h 42 = .ref wt := (Sm.v m_35 r_1 (by decide) rfl (sF_k kn_10 (by decide)))
    have kn_48 : g_29.2.1 h 39 = .ref na := (Sm.v m_35 r_1 (by decide) rfl (sF_k kn_11 (by decide)))
    have kn_49 : g_29.2.1 h 40 = .ref pa := (Sm.v m_35 r_1 (by decide) rfl (sF_k kn_12 (by decide)))
    have kn_50 : g_29.2.1 h 29 = .int z := (Sm.v m_35 r_1 (by decide) rfl (sF_k kn_13 (by decide)))
    have kn_51 : g_29.2.1 h 28 = .ref t := (Sm.v m_35 r_1 (by decide) rfl (sF_k kn_14 (by decide)))
    have kn_52 : g_29.2.2.2.1 wt (12 : Int32).toNatClampNeg = 103 := (Sm.c m_35 r_6 (by decide) rfl kw_27)
    refine W.eq (g2 := F0 m 128 ls []) rfl ?_
    have qc_53 : (0 : Int32).toInt = 0 := (by decide)
    have qc_54 : (103 : Int32).toInt = 103 := (by decide)
    rcases f_32 with ⟨hx_, -⟩ | ⟨-, ht_s2_30, hs_s2_30, hz_s2_30, hw_s2_30⟩ | ⟨-, ht_s2_30, hs_s2_30, hw_s2_30⟩
    · exact absurd hx_ (by decide)
    · have ew_ : w2_31 = 0 := i_inj (hw_s2_30.trans (by decide))
      subst ew_
      refine lv_iinc (v := 1) (lv' := [(2, .int 1), (1, .int 4), (0, .ref h)]) hx hb dX7_readsAct_128 hl (k := 0) rfl (by decide) (by decide) rfl (fun ls hl => ?_)
      refine lv_goto (tgt := 89) hx hb dX7_readsAct_131 (by decide) ?_
      refine lv_iload_n hx hb dX7_readsAct_89 rfl (lv_at hl 0 rfl) ?_
      refine lv_iconst (v := 3) hx hb dX7_readsAct_90 (by decide) ?_
      refine lv_icmp_ge (tgt := 134) hx hb dX7_readsAct_91 (by decide) (fun c_ => absurd c_ (by decide)) (fun c_ => ?_)
      refine lv_aload_n hx hb dX7_readsAct_94 rfl (lv_at hl 2 rfl) ?_
      refine t_get (ci := 7) (v := .int 0) hB hT (ro_ci r_37 rfl) rfl 37 (by decide) k_782 f_34 dX7_readsAct_95 ?_
      refine lv_if_ne (tgt := 134) hx hb dX7_readsAct_98 (by decide) (fun c_ => absurd (by decide) c_) (fun c_ => ?_)
      refine lv_aload_n hx hb dX7_readsAct_101 rfl (lv_at hl 2 rfl) ?_
      refine t_get (ci := 7) (v := .ref wt) hB hT (ro_ci r_37 rfl) rfl 42 (by decide) k_787 kn_47 dX7_readsAct_102 ?_
      refine lv_iconst (v := 3) hx hb dX7_readsAct_105 (by decide) ?_
      refine lv_iload_n hx hb dX7_readsAct_106 rfl (lv_at hl 1 rfl) ?_
      refine lv_imul hx hb dX7_readsAct_107 ?_
      refine x_ev (y := 12) (by decide) ?_
      refine lv_iload_n hx hb dX7_readsAct_108 rfl (lv_at hl 0 rfl) ?_
      refine lv_iadd hx hb dX7_readsAct_109 ?_
      refine x_ev (y := 13) (by decide) ?_
      have kw_55 : g_29.2.2.2.1 wt (13 : Int32).toNatClampNeg = 101 := (hWT (13 : Int32).toNatClampNeg (by decide)).trans (by decide)
      have i_u_56 : vp_in (13 : Int32) 24 := (by unfold vp_in; decide)
      refine t_iald (v := (101 : Int32)) hB hT (ro_in r_40 (by decide)) n_44 i_u_56 kw_55 dX7_readsAct_110 ?_
      refine lv_if_eq (tgt := 128) hx hb dX7_readsAct_111 (by decide) (fun c_ => absurd c_ (by decide)) (fun c_ => ?_)
      refine lv_aload_n hx hb dX7_readsAct_114 rfl (lv_at hl 2 rfl) ?_
      refine lv_aload_n hx hb dX7_readsAct_115 rfl (lv_at hl 2 rfl) ?_
      refine t_get (ci := 7) (v := .ref wt) hB hT (ro_ci r_37 rfl) rfl 42 (by decide) k_787 kn_47 dX7_readsAct_116 ?_
      refine lv_iconst (v := 3) hx hb dX7_readsAct_119 (by decide) ?_
      refine lv_iload_n hx hb dX7_readsAct_120 rfl (lv_at hl 1 rfl) ?_
      refine lv_imul hx hb dX7_readsAct_121 ?_
      refine x_ev (y := 12) (by decide) ?_
      refine lv_iload_n hx hb dX7_readsAct_122 rfl (lv_at hl 0 rfl) ?_
      refine lv_iadd hx hb dX7_readsAct_123 ?_
      refine x_ev (y := 13) (by decide) ?_
      have kw_57 : g_29.2.2.2.1 wt (13 : Int32).toNatClampNeg = 101 := (hWT (13 : Int32).toNatClampNeg (by decide)).trans (by decide)
      have i_u_58 : vp_in (13 : Int32) 24 := (by unfold vp_in; decide)
      refine t_iald (v := (101 : Int32)) hB hT (ro_in r_40 (by decide)) n_44 i_u_58 kw_57 dX7_readsAct_124 ?_
      refine t_callV (n := 1) (As := [.int 101]) (rest := []) (ci := 7) hB hT hl.1 (m_must l D cI cZ cS cR N0 g_29 hI h 101 s2_30 0 z t ct r_37 r_41 n_45 f_33 f_34 kn_50 kn_51 (by have q0 : (0 : Int32).toInt = 0 := (by decide); have q1 : (101 : Int32).toInt = 101 := (by decide); omega) (by have q0 : (0 : Int32).toInt = 0 := (by decide); have q1 : (101 : Int32).toInt = 101 := (by decide); omega) (by have q0 : (0 : Int32).toInt = 0 := (by decide); have q1 : (101 : Int32).toInt = 101 := (by decide); omega) (by have q0 : (0 : Int32).toInt = 0 := (by decide); have q1 : (101 : Int32).toInt = 101 := (by decide); omega) (by have q0 : (0 : Int32).toInt = 0 := (by decide); have q1 : (101 : Int32).toInt = 101 := (by decide); omega) (by have q0 : (0 : Int32).toInt = 0 := (by decide); have q1 : (101 : Int32).toInt = 101 := (by decide); omega) (by have q0 : (0 : Int32).toInt = 0 := (by decide); have q1 : (101 : Int32).toInt = 101 := (by decide); omega) hc) (ro_ci r_37 rfl) rfl k_975 k_65 k_972 k_974 k_24 (by decide +kernel) ⟨(Nat.le_of_ble_eq_true rfl), (Nat.le_of_ble_eq_true rfl)⟩ rfl (Nat.le_of_ble_eq_true rfl) ⟨(Nat.le_of_ble_eq_true rfl), (Nat.le_of_ble_eq_true rfl)⟩ dX7_readsAct_125 (fun v g_59 H locs hp hT => ?_)
      obtain ⟨s2_60, w2_61, rfl, hI, x_66, m_65, f_62, f_63, f_64⟩ := hp
      have hN : PL 8 g_59 na pa := hN.sm m_65 r_38 (by decide) rfl r_39 (by decide) rfl
      have hc : g_59.2.2.2.1 t = ct := (Sm.cf m_65 r_41 (by decide) rfl).trans hc
      have hWT : WT g_59 wt := hWT.sm m_65 r_40 (by decide) rfl
      have hM : Sm md_m_readsAct g g_59 := hM.tr hE (m_65.mo (fun r k h => mdle_m_readsAct_m_must h))
      have hE : Ex g g_59 := hE.tr x_66
      have r_67 : g_59.1 h = 8 := (Ex.r x_66 r_37 (by decide))
      have r_68 : g_59.1 na = 84 := (Ex.r x_66 r_38 (by decide))
      have r_69 : g_59.1 pa = 85 := (Ex.r x_66 r_39 (by decide))
      have r_70 : g_59.1 wt = 87 := (Ex.r x_66 r_40 (by decide))
      have r_71 : g_59.1 t = 79 := (Ex.r x_66 r_41 (by decide))
      have n_72 : g_59.2.2.1 na = 8 := (Ex.n x_66 r_38 (by decide) n_42)
      have n_73 : g_59.2.2.1 pa = 8 := (Ex.n x_66 r_39 (by decide) n_43)
      have n_74 : g_59.2.2.1 wt = 24 := (Ex.n x_66 r_40 (by decide) n_44)
      have n_75 : g_59.2.2.1 t = 100 := (Ex.n x_66 r_41 (by decide) n_45)
      have kn_76 : g_59.2.1 h 38 = .int rz := (Sm.v m_65 r_37 (by decide) rfl kn_46)
      have kn_77 : g_59.2.1 h 42 = .ref wt := (Sm.v m_65 r_37 (by decide) rfl kn_47)
      have kn_78 : g_59.2.1 h 39 = .ref na := (Sm.v m_65 r_37 (by decide) rfl kn_48)
      have kn_79 : g_59.2.1 h 40 = .ref pa := (Sm.v m_65 r_37 (by decide) rfl kn_49)
      have kn_80 : g_59.2.1 h 29 = .int z := (Sm.v m_65 r_37 (by decide) rfl kn_50)
      have kn_81 : g_59.2.1 h 28 = .ref t := (Sm.v m_65 r_37 (by decide) rfl kn_51)
      have kn_82 : g_59.2.2.2.1 wt (12 : Int32).toNatClampNeg = 103 := (Sm.c m_65 r_40 (by decide) rfl kn_52)
      have kn_83 : g_59.2.2.2.1 wt (13 : Int32).toNatClampNeg = 101 := (Sm.c m_65 r_40 (by decide) rfl kw_57)
      refine W.eq (g2 := F0 m 128 ls []) rfl ?_
      have qc_84 : (0 : Int32).toInt = 0 := (by decide)
      have qc_85 : (101 : Int32).toInt = 101 := (by decide)
      rcases f_62 with ⟨hx_, -⟩ | ⟨-, ht_s2_60, hs_s2_60, hz_s2_60, hw_s2_60⟩ | ⟨-, ht_s2_60, hs_s2_60, hw_s2_60⟩
      · exact absurd hx_ (by decide)
      · have ew_ : w2_61 = 0 := i_inj (hw_s2_60.trans (by decide))
        subst ew_
        rw [show s2_30.toInt = s0.toInt + 1 by omega] at ht_s2_60
        refine lv_iinc (v := 2) (lv' := [(2, .int 2), (1, .int 4), (0, .ref h)]) hx hb dX7_readsAct_128 hl (k := 0) rfl (by decide) (by decide) rfl (fun ls hl => ?_)
        refine lv_goto (tgt := 89) hx hb dX7_readsAct_131 (by decide) ?_
        refine lv_iload_n hx hb dX7_readsAct_89 rfl (lv_at hl 0 rfl) ?_
        refine lv_iconst (v := 3) hx hb dX7_readsAct_90 (by decide) ?_
        refine lv_icmp_ge (tgt := 134) hx hb dX7_readsAct_91 (by decide) (fun c_ => absurd c_ (by decide)) (fun c_ => ?_)
        refine lv_aload_n hx hb dX7_readsAct_94 rfl (lv_at hl 2 rfl) ?_
        refine t_get (ci := 7) (v := .int 0) hB hT (ro_ci r_67 rfl) rfl 37 (by decide) k_782 f_64 dX7_readsAct_95 ?_
        refine lv_if_ne (tgt := 134) hx hb dX7_readsAct_98 (by decide) (fun c_ => absurd (by decide) c_) (fun c_ => ?_)
        refine lv_aload_n hx hb dX7_readsAct_101 rfl (lv_at hl 2 rfl) ?_
        refine t_get (ci := 7) (v := .ref wt) hB hT (ro_ci r_67 rfl) rfl 42 (by decide) k_787 kn_77 dX7_readsAct_102 ?_
        refine lv_iconst (v := 3) hx hb dX7_readsAct_105 (by decide) ?_
        refine lv_iload_n hx hb dX7_readsAct_106 rfl (lv_at hl 1 rfl) ?_
        refine lv_imul hx hb dX7_readsAct_107 ?_
        refine x_ev (y := 12) (by decide) ?_
        refine lv_iload_n hx hb dX7_readsAct_108 rfl (lv_at hl 0 rfl) ?_
        refine lv_iadd hx hb dX7_readsAct_109 ?_
        refine x_ev (y := 14) (by decide) ?_
        have kw_86 : g_59.2.2.2.1 wt (14 : Int32).toNatClampNeg = 116 := (hWT (14 : Int32).toNatClampNeg (by decide)).trans (by decide)
        have i_u_87 : vp_in (14 : Int32) 24 := (by unfold vp_in; decide)
        refine t_iald (v := (116 : Int32)) hB hT (ro_in r_70 (by decide)) n_74 i_u_87 kw_86 dX7_readsAct_110 ?_
        refine lv_if_eq (tgt := 128) hx hb dX7_readsAct_111 (by decide) (fun c_ => absurd c_ (by decide)) (fun c_ => ?_)
        refine lv_aload_n hx hb dX7_readsAct_114 rfl (lv_at hl 2 rfl) ?_
        refine lv_aload_n hx hb dX7_readsAct_115 rfl (lv_at hl 2 rfl) ?_
        refine t_get (ci := 7) (v := .ref wt) hB hT (ro_ci r_67 rfl) rfl 42 (by decide) k_787 kn_77 dX7_readsAct_116 ?_
        refine lv_iconst (v := 3) hx hb dX7_readsAct_119 (by decide) ?_
        refine lv_iload_n hx hb dX7_readsAct_120 rfl (lv_at hl 1 rfl) ?_
        refine lv_imul hx hb dX7_readsAct_121 ?_
        refine x_ev (y := 12) (by decide) ?_
        refine lv_iload_n hx hb dX7_readsAct_122 rfl (lv_at hl 0 rfl) ?_
        refine lv_iadd hx hb dX7_readsAct_123 ?_
        refine x_ev (y := 14) (by decide) ?_
        have kw_88 : g_59.2.2.2.1 wt (14 : Int32).toNatClampNeg = 116 := (hWT (14 : Int32).toNatClampNeg (by decide)).trans (by decide)
        have i_u_89 : vp_in (14 : Int32) 24 := (by unfold vp_in; decide)
        refine t_iald (v := (116 : Int32)) hB hT (ro_in r_70 (by decide)) n_74 i_u_89 kw_88 dX7_readsAct_124 ?_
        refine t_callV (n := 1) (As := [.int 116]) (rest := []) (ci := 7) hB hT hl.1 (m_must l D cI cZ cS cR N0 g_59 hI h 116 s2_60 0 z t ct r_67 r_71 n_75 f_63 f_64 kn_80 kn_81 (by have q0 : (0 : Int32).toInt = 0 := (by decide); have q1 : (116 : Int32).toInt = 116 := (by decide); omega) (by have q0 : (0 : Int32).toInt = 0 := (by decide); have q1 : (116 : Int32).toInt = 116 := (by decide); omega) (by have q0 : (0 : Int32).toInt = 0 := (by decide); have q1 : (116 : Int32).toInt = 116 := (by decide); omega) (by have q0 : (0 : Int32).toInt = 0 := (by decide); have q1 : (116 : Int32).toInt = 116 := (by decide); omega) (by have q0 : (0 : Int32).toInt = 0 := (by decide); have q1 : (116 : Int32).toInt = 116 := (by decide); omega) (by have q0 : (0 : Int32).toInt = 0 := (by decide); have q1 : (116 : Int32).toInt = 116 := (by decide); omega) (by have q0 : (0 : Int32).toInt = 0 := (by decide); have q1 : (116 : Int32).toInt = 116 := (by decide); omega) hc) (ro_ci r_67 rfl) rfl k_975 k_65 k_972 k_974 k_24 (by decide +kernel) ⟨(Nat.le_of_ble_eq_true rfl), (Nat.le_of_ble_eq_true rfl)⟩ rfl (Nat.le_of_ble_eq_true rfl) ⟨(Nat.le_of_ble_eq_true rfl), (Nat.le_of_ble_eq_true rfl)⟩ dX7_readsAct_125 (fun v g_90 H locs hp hT => ?_)
        obtain ⟨s2_91, w2_92, rfl, hI, x_97, m_96, f_93, f_94, f_95⟩ := hp
        have hN : PL 8 g_90 na pa := hN.sm m_96 r_68 (by decide) rfl r_69 (by decide) rfl
        have hc : g_90.2.2.2.1 t = ct := (Sm.cf m_96 r_71 (by decide) rfl).trans hc
        have hWT : WT g_90 wt := hWT.sm m_96 r_70 (by decide) rfl
        have hM : Sm md_m_readsAct g g_90 := hM.tr hE (m_96.mo (fun r k h => mdle_m_readsAct_m_must h))
        have hE : Ex g g_90 := hE.tr x_97
        have r_98 : g_90.1 h = 8 := (Ex.r x_97 r_67 (by decide))
        have r_99 : g_90.1 na = 84 := (Ex.r x_97 r_68 (by decide))
        have r_100 : g_90.1 pa = 85 := (Ex.r x_97 r_69 (by decide))
        have r_101 : g_90.1 wt = 87 := (Ex.r x_97 r_70 (by decide))
        have r_102 : g_90.1 t = 79 := (Ex.r x_97 r_71 (by decide))
        have n_103 : g_90.2.2.1 na = 8 := (Ex.n x_97 r_68 (by decide) n_72)
        have n_104 : g_90.2.2.1 pa = 8 := (Ex.n x_97 r_69 (by decide) n_73)
        have n_105 : g_90.2.2.1 wt = 24 := (Ex.n x_97 r_70 (by decide) n_74)
        have n_106 : g_90.2.2.1 t = 100 := (Ex.n x_97 r_71 (by decide) n_75)
        have kn_107 : g_90.2.1 h 38 = .int rz := (Sm.v m_96 r_67 (by decide) rfl kn_76)
        have kn_108 : g_90.2.1 h 42 = .ref wt := (Sm.v m_96 r_67 (by decide) rfl kn_77)
        have kn_109 : g_90.2.1 h 39 = .ref na := (Sm.v m_96 r_67 (by decide) rfl kn_78)
        have kn_110 : g_90.2.1 h 40 = .ref pa := (Sm.v m_96 r_67 (by decide) rfl kn_79)
        have kn_111 : g_90.2.1 h 29 = .int z := (Sm.v m_96 r_67 (by decide) rfl kn_80)
        have kn_112 : g_90.2.1 h 28 = .ref t := (Sm.v m_96 r_67 (by decide) rfl kn_81)
        have kn_113 : g_90.2.2.2.1 wt (12 : Int32).toNatClampNeg = 103 := (Sm.c m_96 r_70 (by decide) rfl kn_82)
        have kn_114 : g_90.2.2.2.1 wt (13 : Int32).toNatClampNeg = 101 := (Sm.c m_96 r_70 (by decide) rfl kn_83)
        have kn_115 : g_90.2.2.2.1 wt (14 : Int32).toNatClampNeg = 116 := (Sm.c m_96 r_70 (by decide) rfl kw_88)
        refine W.eq (g2 := F0 m 128 ls []) rfl ?_
        have qc_116 : (0 : Int32).toInt = 0 := (by decide)
        have qc_117 : (116 : Int32).toInt = 116 := (by decide)
        rcases f_93 with ⟨hx_, -⟩ | ⟨-, ht_s2_91, hs_s2_91, hz_s2_91, hw_s2_91⟩ | ⟨-, ht_s2_91, hs_s2_91, hw_s2_91⟩
        · exact absurd hx_ (by decide)
        · have ew_ : w2_92 = 0 := i_inj (hw_s2_91.trans (by decide))
          subst ew_
          rw [show s2_60.toInt = s0.toInt + 2 by omega] at ht_s2_91
          refine lv_iinc (v := 3) (lv' := [(2, .int 3), (1, .int 4), (0, .ref h)]) hx hb dX7_readsAct_128 hl (k := 0) rfl (by decide) (by decide) rfl (fun ls hl => ?_)
          refine lv_goto (tgt := 89) hx hb dX7_readsAct_131 (by decide) ?_
          refine lv_iload_n hx hb dX7_readsAct_89 rfl (lv_at hl 0 rfl) ?_
          refine lv_iconst (v := 3) hx hb dX7_readsAct_90 (by decide) ?_
          refine lv_icmp_ge (tgt := 134) hx hb dX7_readsAct_91 (by decide) (fun c_ => ?_) (fun c_ => absurd (by decide) c_)
          refine lv_aload_n hx hb dX7_readsAct_134 rfl (lv_at hl 2 rfl) ?_
          refine lv_bipush (v := 32) hx hb dX7_readsAct_135 (by decide) ?_
          refine t_callV (n := 1) (As := [.int 32]) (rest := []) (ci := 7) hB hT hl.1 (m_must l D cI cZ cS cR N0 g_90 hI h 32 s2_91 0 z t ct r_98 r_102 n_106 f_94 f_95 kn_111 kn_112 (by have q0 : (0 : Int32).toInt = 0 := (by decide); have q1 : (32 : Int32).toInt = 32 := (by decide); omega) (by have q0 : (0 : Int32).toInt = 0 := (by decide); have q1 : (32 : Int32).toInt = 32 := (by decide); omega) (by have q0 : (0 : Int32).toInt = 0 := (by decide); have q1 : (32 : Int32).toInt = 32 := (by decide); omega) (by have q0 : (0 : Int32).toInt = 0 := (by decide); have q1 : (32 : Int32).toInt = 32 := (by decide); omega) (by have q0 : (0 : Int32).toInt = 0 := (by decide); have q1 : (32 : Int32).toInt = 32 := (by decide); omega) (by have q0 : (0 : Int32).toInt = 0 := (by decide); have q1 : (32 : Int32).toInt = 32 := (by decide); omega) (by have q0 : (0 : Int32).toInt = 0 := (by decide); have q1 : (32 : Int32).toInt = 32 := (by decide); omega) hc) (ro_ci r_98 rfl) rfl k_975 k_65 k_972 k_974 k_24 (by decide +kernel) ⟨(Nat.le_of_ble_eq_true rfl), (Nat.le_of_ble_eq_true rfl)⟩ rfl (Nat.le_of_ble_eq_true rfl) ⟨(Nat.le_of_ble_eq_true rfl), (Nat.le_of_ble_eq_true rfl)⟩ dX7_readsAct_137 (fun v g_118 H locs hp hT => ?_)
          obtain ⟨s2_119, w2_120, rfl, hI, x_125, m_124, f_121, f_122, f_123⟩ := hp
          have hN : PL 8 g_118 na pa := hN.sm m_124 r_99 (by decide) rfl r_100 (by decide) rfl
          have hc : g_118.2.2.2.1 t = ct := (Sm.cf m_124 r_102 (by decide) rfl).trans hc
          have hWT : WT g_118 wt := hWT.sm m_124 r_101 (by decide) rfl
          have hM : Sm md_m_readsAct g g_118 := hM.tr hE (m_124.mo (fun r k h => mdle_m_readsAct_m_must h))
          have hE : Ex g g_118 := hE.tr x_125
          have r_126 : g_118.1 h = 8 := (Ex.r x_125 r_98 (by decide))
          have r_127 : g_118.1 na = 84 := (Ex.r x_125 r_99 (by decide))
          have r_128 : g_118.1 pa = 85 := (Ex.r x_125 r_100 (by decide))
          have r_129 : g_118.1 wt = 87 := (Ex.r x_125 r_101 (by decide))
          have r_130 : g_118.1 t = 79 := (Ex.r x_125 r_102 (by decide))
          have n_131 : g_118.2.2.1 na = 8 := (Ex.n x_125 r_99 (by decide) n_103)
          have n_132 : g_118.2.2.1 pa = 8 := (Ex.n x_125 r_100 (by decide) n_104)
          have n_133 : g_118.2.2.1 wt = 24 := (Ex.n x_125 r_101 (by decide) n_105)
          have n_134 : g_118.2.2.1 t = 100 := (Ex.n x_125 r_102 (by decide) n_106)
          have kn_135 : g_118.2.1 h 38 = .int rz := (Sm.v m_124 r_98 (by decide) rfl kn_107)
          have kn_136 : g_118.2.1 h 42 = .ref wt := (Sm.v m_124 r_98 (by decide) rfl kn_108)
          have kn_137 : g_118.2.1 h 39 = .ref na := (Sm.v m_124 r_98 (by decide) rfl kn_109)
          have kn_138 : g_118.2.1 h 40 = .ref pa := (Sm.v m_124 r_98 (by decide) rfl kn_110)
          have kn_139 : g_118.2.1 h 29 = .int z := (Sm.v m_124 r_98 (by decide) rfl kn_111)
          have kn_140 : g_118.2.1 h 28 = .ref t := (Sm.v m_124 r_98 (by decide) rfl kn_112)
          have kn_141 : g_118.2.2.2.1 wt (12 : Int32).toNatClampNeg = 103 := (Sm.c m_124 r_101 (by decide) rfl kn_113)
          have kn_142 : g_118.2.2.2.1 wt (13 : Int32).toNatClampNeg = 101 := (Sm.c m_124 r_101 (by decide) rfl kn_114)
          have kn_143 : g_118.2.2.2.1 wt (14 : Int32).toNatClampNeg = 116 := (Sm.c m_124 r_101 (by decide) rfl kn_115)
          refine W.eq (g2 := F0 m 140 ls []) rfl ?_
          have qc_144 : (0 : Int32).toInt = 0 := (by decide)
          have qc_145 : (32 : Int32).toInt = 32 := (by decide)
          rcases f_121 with ⟨hx_, -⟩ | ⟨-, ht_s2_119, hs_s2_119, hz_s2_119, hw_s2_119⟩ | ⟨-, ht_s2_119, hs_s2_119, hw_s2_119⟩
          · exact absurd hx_ (by decide)
          · have ew_ : w2_120 = 0 := i_inj (hw_s2_119.trans (by decide))
            subst ew_
            rw [show s2_91.toInt = s0.toInt + 3 by omega] at ht_s2_119
            have hv_ := wo_4 (T := (txb ct z.toInt)) (p := s0.toInt) ⟨by omega, by omega, by omega, by omega⟩
            exact lt_m_readsAct_c0 l D cI cZ cS cR N0 g h s0 rz wt na pa z t ct r_h r_na n_na r_pa n_pa r_wt n_wt r_t n_t krz ks0 kw0 kwt kna kpa kz kt l_rz u_rz l_s0 u_s0 hN_0 hWT_0 l_z u_z hc_0 hB hr   g_118 (4 : Int32) s2_119 H locs ls hT hI hE hM (by decide) (by decide) (by omega) (by omega) kn_135 f_122 f_123 hN hc hWT ⟨by decide, hv_.1.trans (by decide), (by have q_ := hv_.2; omega), by omega⟩ (lv_sub hl [1, 2] rfl)
          · have ew_ : w2_120 = 1 := i_inj (hw_s2_119.trans (by decide))
            subst ew_
            rw [show s2_91.toInt = s0.toInt + 3 by omega] at ht_s2_119
            have hs_ : wsel ((txb ct z.toInt) s0.toInt) ((txb ct z.toInt) (s0.toInt + 1)) = 4 := ws_4 (by omega)
            have hq_ : qj (txb ct z.toInt) s0.toInt 4 = 3 := wp4_3 (by omega) (by omega) (by omega) (by omega)
            have hv_ := wd_f hs_ (Or.inr (fun h_ => absurd (hq_.symm.trans h_) (by decide)))
            exact lt_m_readsAct_c1 l D cI cZ cS cR N0 g h s0 rz wt na pa z t ct r_h r_na n_na r_pa n_pa r_wt n_wt r_t n_t krz ks0 kw0 kwt kna kpa kz kt l_rz u_rz l_s0 u_s0 hN_0 hWT_0 l_z u_z hc_0 hB hr   g_118 (4 : Int32) s2_119 H locs ls hT hI hE hM (by decide) (by decide) (by omega) (by omega) kn_135 f_122 f_123 hN hc hWT (ac_n hv_.1 (by have q_ := hv_.2; rw [hq_] at q_; omega)) (lv_sub hl [1, 2] rfl)
        · have ew_ : w2_92 = 1 := i_inj (hw_s2_91.trans (by decide))
          subst ew_
          rw [show s2_60.toInt = s0.toInt + 2 by omega] at ht_s2_91
          refine lv_iinc (v := 3) (lv' := [(2, .int 3), (1, .int 4), (0, .ref h)]) hx hb dX7_readsAct_128 hl (k := 0) rfl (by decide) (by decide) rfl (fun ls hl => ?_)
          refine lv_goto (tgt := 89) hx hb dX7_readsAct_131 (by decide) ?_
          refine lv_iload_n hx hb dX7_readsAct_89 rfl (lv_at hl 0 rfl) ?_
          refine lv_iconst (v := 3) hx hb dX7_readsAct_90 (by decide) ?_
          refine lv_icmp_ge (tgt := 134) hx hb dX7_readsAct_91 (by decide) (fun c_ => ?_) (fun c_ => absurd (by decide) c_)
          refine lv_aload_n hx hb dX7_readsAct_134 rfl (lv_at hl 2 rfl) ?_
          refine lv_bipush (v := 32) hx hb dX7_readsAct_135 (by decide) ?_
          refine t_callV (n := 1) (As := [.int 32]) (rest := []) (ci := 7) hB hT hl.1 (m_must l D cI cZ cS cR N0 g_90 hI h 32 s2_91 1 z t ct r_98 r_102 n_106 f_94 f_95 kn_111 kn_112 (by have q0 : (1 : Int32).toInt = 1 := (by decide); have q1 : (32 : Int32).toInt = 32 := (by decide); omega) (by have q0 : (1 : Int32).toInt = 1 := (by decide); have q1 : (32 : Int32).toInt = 32 := (by decide); omega) (by have q0 : (1 : Int32).toInt = 1 := (by decide); have q1 : (32 : Int32).toInt = 32 := (by decide); omega) (by have q0 : (1 : Int32).toInt = 1 := (by decide); have q1 : (32 : Int32).toInt = 32 := (by decide); omega) (by have q0 : (1 : Int32).toInt = 1 := (by decide); have q1 : (32 : Int32).toInt = 32 := (by decide); omega) (by have q0 : (1 : Int32).toInt = 1 := (by decide); have q1 : (32 : Int32).toInt = 32 := (by decide); omega) (by have q0 : (1 : Int32).toInt = 1 := (by decide); have q1 : (32 : Int32).toInt = 32 := (by decide); omega) hc) (ro_ci r_98 rfl) rfl k_975 k_65 k_972 k_974 k_24 (by decide +kernel) ⟨(Nat.le_of_ble_eq_true rfl), (Nat.le_of_ble_eq_true rfl)⟩ rfl (Nat.le_of_ble_eq_true rfl) ⟨(Nat.le_of_ble_eq_true rfl), (Nat.le_of_ble_eq_true rfl)⟩ dX7_readsAct_137 (fun v g_146 H locs hp hT => ?_)
          obtain ⟨s2_147, w2_148, rfl, hI, x_153, m_152, f_149, f_150, f_151⟩ := hp
          have hN : PL 8 g_146 na pa := hN.sm m_152 r_99 (by decide) rfl r_100 (by decide) rfl
          have hc : g_146.2.2.2.1 t = ct := (Sm.cf m_152 r_102 (by decide) rfl).trans hc
          have hWT : WT g_146 wt := hWT.sm m_152 r_101 (by decide) rfl
          have hM : Sm md_m_readsAct g g_146 := hM.tr hE (m_152.mo (fun r k h => mdle_m_readsAct_m_must h))
          have hE : Ex g g_146 := hE.tr x_153
          have r_154 : g_146.1 h = 8 := (Ex.r x_153 r_98 (by decide))
          have r_155 : g_146.1 na = 84 := (Ex.r x_153 r_99 (by decide))
          have r_156 : g_146.1 pa = 85 := (Ex.r x_153 r_100 (by decide))
          have r_157 : g_146.1 wt = 87 := (Ex.r x_153 r_101 (by decide))
          have r_158 : g_146.1 t = 79 := (Ex.r x_153 r_102 (by decide))
          have n_159 : g_146.2.2.1 na = 8 := (Ex.n x_153 r_99 (by decide) n_103)
          have n_160 : g_146.2.2.1 pa = 8 := (Ex.n x_153 r_100 (by decide) n_104)
          have n_161 : g_146.2.2.1 wt = 24 := (Ex.n x_153 r_101 (by decide) n_105)
          have n_162 : g_146.2.2.1 t = 100 := (Ex.n x_153 r_102 (by decide) n_106)
          have kn_163 : g_146.2.1 h 38 = .int rz := (Sm.v m_152 r_98 (by decide) rfl kn_107)
          have kn_164 : g_146.2.1 h 42 = .ref wt := (Sm.v m_152 r_98 (by decide) rfl kn_108)
          have kn_165 : g_146.2.1 h 39 = .ref na := (Sm.v m_152 r_98 (by decide) rfl kn_109)
          have kn_166 : g_146.2.1 h 40 = .ref pa := (Sm.v m_152 r_98 (by decide) rfl kn_110)
          have kn_167 : g_146.2.1 h 29 = .int z := (Sm.v m_152 r_98 (by decide) rfl kn_111)
          have kn_168 : g_146.2.1 h 28 = .ref t := (Sm.v m_152 r_98 (by decide) rfl kn_112)
          have kn_169 : g_146.2.2.2.1 wt (12 : Int32).toNatClampNeg = 103 := (Sm.c m_152 r_101 (by decide) rfl kn_113)
          have kn_170 : g_146.2.2.2.1 wt (13 : Int32).toNatClampNeg = 101 := (Sm.c m_152 r_101 (by decide) rfl kn_114)
          have kn_171 : g_146.2.2.2.1 wt (14 : Int32).toNatClampNeg = 116 := (Sm.c m_152 r_101 (by decide) rfl kn_115)
          refine W.eq (g2 := F0 m 140 ls []) rfl ?_
          have qc_172 : (1 : Int32).toInt = 1 := (by decide)
          have qc_173 : (32 : Int32).toInt = 32 := (by decide)
          rcases f_149 with ⟨-, hs_s2_147, hw_s2_147⟩ | ⟨hx_, -⟩ | ⟨hx_, -⟩
          rotate_left
          · exact absurd hx_ (by decide)
          · exact absurd hx_ (by decide)
          have ew_ : w2_148 = 1 := i_inj (hw_s2_147.trans (by decide))
          subst ew_
          have hs_ : wsel ((txb ct z.toInt) s0.toInt) ((txb ct z.toInt) (s0.toInt + 1)) = 4 := ws_4 (by omega)
          have hq_ : qj (txb ct z.toInt) s0.toInt 4 = 2 := wp4_2 (by omega) (by omega) (by omega)
          have hv_ := wd_f hs_ (Or.inr (fun h_ => absurd (hq_.symm.trans h_) (by decide)))
          exact lt_m_readsAct_c1 l D cI cZ cS cR N0 g h s0 rz wt na pa z t ct r_h r_na n_na r_pa n_pa r_wt n_wt r_t n_t krz ks0 kw0 kwt kna kpa kz kt l_rz u_rz l_s0 u_s0 hN_0 hWT_0 l_z u_z hc_0 hB hr   g_146 (4 : Int32) s2_147 H locs ls hT hI hE hM (by decide) (by decide) (by omega) (by omega) kn_163 f_150 f_151 hN hc hWT (ac_n hv_.1 (by have q_ := hv_.2; rw [hq_] at q_; omega)) (lv_sub hl [1, 2] rfl)
      · have ew_ : w2_61 = 1 := i_inj (hw_s2_60.trans (by decide))
        subst ew_
        rw [show s2_30.toInt = s0.toInt + 1 by omega] at ht_s2_60
        refine lv_iinc (v := 2) (lv' := [(2, .int 2), (1, .int 4), (0, .ref h)]) hx hb dX7_readsAct_128 hl (k := 0) rfl (by decide) (by decide) rfl (fun ls hl => ?_)
        refine lv_goto (tgt := 89) hx hb dX7_readsAct_131 (by decide) ?_
        refine lv_iload_n hx hb dX7_readsAct_89 rfl (lv_at hl 0 rfl) ?_
        refine lv_iconst (v := 3) hx hb dX7_readsAct_90 (by decide) ?_
        refine lv_icmp_ge (tgt := 134) hx hb dX7_readsAct_91 (by decide) (fun c_ => absurd c_ (by decide)) (fun c_ => ?_)
        refine lv_aload_n hx hb dX7_readsAct_94 rfl (lv_at hl 2 rfl) ?_
        refine t_get (ci := 7) (v := .int 1) hB hT (ro_ci r_67 rfl) rfl 37 (by decide) k_782 f_64 dX7_readsAct_95 ?_
        refine lv_if_ne (tgt := 134) hx hb dX7_readsAct_98 (by decide) (fun c_ => ?_) (fun c_ => absurd c_ (by decide))
        refine lv_aload_n hx hb dX7_readsAct_134 rfl (lv_at hl 2 rfl) ?_
        refine lv_bipush (v := 32) hx hb dX7_readsAct_135 (by decide) ?_
        refine t_callV (n := 1) (As := [.int 32]) (rest := []) (ci := 7) hB hT hl.1 (m_must l D cI cZ cS cR N0 g_59 hI h 32 s2_60 1 z t ct r_67 r_71 n_75 f_63 f_64 kn_80 kn_81 (by have q0 : (1 : Int32).toInt = 1 := (by decide); have q1 : (32 : Int32).toInt = 32 := (by decide); omega) (by have q0 : (1 : Int32).toInt = 1 := (by decide); have q1 : (32 : Int32).toInt = 32 := (by decide); omega) (by have q0 : (1 : Int32).toInt = 1 := (by decide); have q1 : (32 : Int32).toInt = 32 := (by decide); omega) (by have q0 : (1 : Int32).toInt = 1 := (by decide); have q1 : (32 : Int32).toInt = 32 := (by decide); omega) (by have q0 : (1 : Int32).toInt = 1 := (by decide); have q1 : (32 : Int32).toInt = 32 := (by decide); omega) (by have q0 : (1 : Int32).toInt = 1 := (by decide); have q1 : (32 : Int32).toInt = 32 := (by decide); omega) (by have q0 : (1 : Int32).toInt = 1 := (by decide); have q1 : (32 : Int32).toInt = 32 := (by decide); omega) hc) (ro_ci r_67 rfl) rfl k_975 k_65 k_972 k_974 k_24 (by decide +kernel) ⟨(Nat.le_of_ble_eq_true rfl), (Nat.le_of_ble_eq_true rfl)⟩ rfl (Nat.le_of_ble_eq_true rfl) ⟨(Nat.le_of_ble_eq_true rfl), (Nat.le_of_ble_eq_true rfl)⟩ dX7_readsAct_137 (fun v g_174 H locs hp hT => ?_)
        obtain ⟨s2_175, w2_176, rfl, hI, x_181, m_180, f_177, f_178, f_179⟩ := hp
        have hN : PL 8 g_174 na pa := hN.sm m_180 r_68 (by decide) rfl r_69 (by decide) rfl
        have hc : g_174.2.2.2.1 t = ct := (Sm.cf m_180 r_71 (by decide) rfl).trans hc
        have hWT : WT g_174 wt := hWT.sm m_180 r_70 (by decide) rfl
        have hM : Sm md_m_readsAct g g_174 := hM.tr hE (m_180.mo (fun r k h => mdle_m_readsAct_m_must h))
        have hE : Ex g g_174 := hE.tr x_181
        have r_182 : g_174.1 h = 8 := (Ex.r x_181 r_67 (by decide))
        have r_183 : g_174.1 na = 84 := (Ex.r x_181 r_68 (by decide))
        have r_184 : g_174.1 pa = 85 := (Ex.r x_181 r_69 (by decide))
        have r_185 : g_174.1 wt = 87 := (Ex.r x_181 r_70 (by decide))
        have r_186 : g_174.1 t = 79 := (Ex.r x_181 r_71 (by decide))
        have n_187 : g_174.2.2.1 na = 8 := (Ex.n x_181 r_68 (by decide) n_72)
        have n_188 : g_174.2.2.1 pa = 8 := (Ex.n x_181 r_69 (by decide) n_73)
        have n_189 : g_174.2.2.1 wt = 24 := (Ex.n x_181 r_70 (by decide) n_74)
        have n_190 : g_174.2.2.1 t = 100 := (Ex.n x_181 r_71 (by decide) n_75)
        have kn_191 : g_174.2.1 h 38 = .int rz := (Sm.v m_180 r_67 (by decide) rfl kn_76)
        have kn_192 : g_174.2.1 h 42 = .ref wt := (Sm.v m_180 r_67 (by decide) rfl kn_77)
        have kn_193 : g_174.2.1 h 39 = .ref na := (Sm.v m_180 r_67 (by decide) rfl kn_78)
        have kn_194 : g_174.2.1 h 40 = .ref pa := (Sm.v m_180 r_67 (by decide) rfl kn_79)
        have kn_195 : g_174.2.1 h 29 = .int z := (Sm.v m_180 r_67 (by decide) rfl kn_80)
        have kn_196 : g_174.2.1 h 28 = .ref t := (Sm.v m_180 r_67 (by decide) rfl kn_81)
        have kn_197 : g_174.2.2.2.1 wt (12 : Int32).toNatClampNeg = 103 := (Sm.c m_180 r_70 (by decide) rfl kn_82)
        have kn_198 : g_174.2.2.2.1 wt (13 : Int32).toNatClampNeg = 101 := (Sm.c m_180 r_70 (by decide) rfl kn_83)
        refine W.eq (g2 := F0 m 140 ls []) rfl ?_
        have qc_199 : (1 : Int32).toInt = 1 := (by decide)
        have qc_200 : (32 : Int32).toInt = 32 := (by decide)
        rcases f_177 with ⟨-, hs_s2_175, hw_s2_175⟩ | ⟨hx_, -⟩ | ⟨hx_, -⟩
        rotate_left
        · exact absurd hx_ (by decide)
        · exact absurd hx_ (by decide)
        have ew_ : w2_176 = 1 := i_inj (hw_s2_175.trans (by decide))
        subst ew_
        have hs_ : wsel ((txb ct z.toInt) s0.toInt) ((txb ct z.toInt) (s0.toInt + 1)) = 4 := ws_4 (by omega)
        have hq_ : qj (txb ct z.toInt) s0.toInt 4 = 1 := wp4_1 (by omega) (by omega)
        have hv_ := wd_f hs_ (Or.inr (fun h_ => absurd (hq_.symm.trans h_) (by decide)))
        exact lt_m_readsAct_c1 l D cI cZ cS cR N0 g h s0 rz wt na pa z t ct r_h r_na n_na r_pa n_pa r_wt n_wt r_t n_t krz ks0 kw0 kwt kna kpa kz kt l_rz u_rz l_s0 u_s0 hN_0 hWT_0 l_z u_z hc_0 hB hr   g_174 (4 : Int32) s2_175 H locs ls hT hI hE hM (by decide) (by decide) (by omega) (by omega) kn_191 f_178 f_179 hN hc hWT (ac_n hv_.1 (by have q_ := hv_.2; rw [hq_] at q_; omega)) (lv_sub hl [1, 2] rfl)
    · have ew_ : w2_31 = 1 := i_inj (hw_s2_30.trans (by decide))
      subst ew_
      refine lv_iinc (v := 1) (lv' := [(2, .int 1), (1, .int 4), (0, .ref h)]) hx hb dX7_readsAct_128 hl (k := 0) rfl (by decide) (by decide) rfl (fun ls hl => ?_)
      refine lv_goto (tgt := 89) hx hb dX7_readsAct_131 (by decide) ?_
      refine lv_iload_n hx hb dX7_readsAct_89 rfl (lv_at hl 0 rfl) ?_
      refine lv_iconst (v := 3) hx hb dX7_readsAct_90 (by decide) ?_
      refine lv_icmp_ge (tgt := 134) hx hb dX7_readsAct_91 (by decide) (fun c_ => absurd c_ (by decide)) (fun c_ => ?_)
      refine lv_aload_n hx hb dX7_readsAct_94 rfl (lv_at hl 2 rfl) ?_
      refine t_get (ci := 7) (v := .int 1) hB hT (ro_ci r_37 rfl) rfl 37 (by decide) k_782 f_34 dX7_readsAct_95 ?_
      refine lv_if_ne (tgt := 134) hx hb dX7_readsAct_98 (by decide) (fun c_ => ?_) (fun c_ => absurd c_ (by decide))
      refine lv_aload_n hx hb dX7_readsAct_134 rfl (lv_at hl 2 rfl) ?_
      refine lv_bipush (v := 32) hx hb dX7_readsAct_135 (by decide) ?_
      refine t_callV (n := 1) (As := [.int 32]) (rest := []) (ci := 7) hB hT hl.1 (m_must l D cI cZ cS cR N0 g_29 hI h 32 s2_30 1 z t ct r_37 r_41 n_45 f_33 f_34 kn_50 kn_51 (by have q0 : (1 : Int32).toInt = 1 := (by decide); have q1 : (32 : Int32).toInt = 32 := (by decide); omega) (by have q0 : (1 : Int32).toInt = 1 := (by decide); have q1 : (32 : Int32).toInt = 32 := (by decide); omega) (by have q0 : (1 : Int32).toInt = 1 := (by decide); have q1 : (32 : Int32).toInt = 32 := (by decide); omega) (by have q0 : (1 : Int32).toInt = 1 := (by decide); have q1 : (32 : Int32).toInt = 32 := (by decide); omega) (by have q0 : (1 : Int32).toInt = 1 := (by decide); have q1 : (32 : Int32).toInt = 32 := (by decide); omega) (by have q0 : (1 : Int32).toInt = 1 := (by decide); have q1 : (32 : Int32).toInt = 32 := (by decide); omega) (by have q0 : (1 : Int32).toInt = 1 := (by decide); have q1 : (32 : Int32).toInt = 32 := (by decide); omega) hc) (ro_ci r_37 rfl) rfl k_975 k_65 k_972 k_974 k_24 (by decide +kernel) ⟨(Nat.le_of_ble_eq_true rfl), (Nat.le_of_ble_eq_true rfl)⟩ rfl (Nat.le_of_ble_eq_true rfl) ⟨(Nat.le_of_ble_eq_true rfl), (Nat.le_of_ble_eq_true rfl)⟩ dX7_readsAct_137 (fun v g_201 H locs hp hT => ?_)
      obtain ⟨s2_202, w2_203, rfl, hI, x_208, m_207, f_204, f_205, f_206⟩ := hp
      have hN : PL 8 g_201 na pa := hN.sm m_207 r_38 (by decide) rfl r_39 (by decide) rfl
      have hc : g_201.2.2.2.1 t = ct := (Sm.cf m_207 r_41 (by decide) rfl).trans hc
      have hWT : WT g_201 wt := hWT.sm m_207 r_40 (by decide) rfl
      have hM : Sm md_m_readsAct g g_201 := hM.tr hE (m_207.mo (fun r k h => mdle_m_readsAct_m_must h))
      have hE : Ex g g_201 := hE.tr x_208
      have r_209 : g_201.1 h = 8 := (Ex.r x_208 r_37 (by decide))
      have r_210 : g_201.1 na = 84 := (Ex.r x_208 r_38 (by decide))
      have r_211 : g_201.1 pa = 85 := (Ex.r x_208 r_39 (by decide))
      have r_212 : g_201.1 wt = 87 := (Ex.r x_208 r_40 (by decide))
      have r_213 : g_201.1 t = 79 := (Ex.r x_208 r_41 (by decide))
      have n_214 : g_201.2.2.1 na = 8 := (Ex.n x_208 r_38 (by decide) n_42)
      have n_215 : g_201.2.2.1 pa = 8 := (Ex.n x_208 r_39 (by decide) n_43)
      have n_216 : g_201.2.2.1 wt = 24 := (Ex.n x_208 r_40 (by decide) n_44)
      have n_217 : g_201.2.2.1 t = 100 := (Ex.n x_208 r_41 (by decide) n_45)
      have kn_218 : g_201.2.1 h 38 = .int rz := (Sm.v m_207 r_37 (by decide) rfl kn_46)
      have kn_219 : g_201.2.1 h 42 = .ref wt := (Sm.v m_207 r_37 (by decide) rfl kn_47)
      have kn_220 : g_201.2.1 h 39 = .ref na := (Sm.v m_207 r_37 (by decide) rfl kn_48)
      have kn_221 : g_201.2.1 h 40 = .ref pa := (Sm.v m_207 r_37 (by decide) rfl kn_49)
      have kn_222 : g_201.2.1 h 29 = .int z := (Sm.v m_207 r_37 (by decide) rfl kn_50)
      have kn_223 : g_201.2.1 h 28 = .ref t := (Sm.v m_207 r_37 (by decide) rfl kn_51)
      have kn_224 : g_201.2.2.2.1 wt (12 : Int32).toNatClampNeg = 103 := (Sm.c m_207 r_40 (by decide) rfl kn_52)
      refine W.eq (g2 := F0 m 140 ls []) rfl ?_
      have qc_225 : (1 : Int32).toInt = 1 := (by decide)
      have qc_226 : (32 : Int32).toInt = 32 := (by decide)
      rcases f_204 with ⟨-, hs_s2_202, hw_s2_202⟩ | ⟨hx_, -⟩ | ⟨hx_, -⟩
      rotate_left
      · exact absurd hx_ (by decide)
      · exact absurd hx_ (by decide)
      have ew_ : w2_203 = 1 := i_inj (hw_s2_202.trans (by decide))
      subst ew_
      have hs_ : wsel ((txb ct z.toInt) s0.toInt) ((txb ct z.toInt) (s0.toInt + 1)) = 4 := ws_4 (by omega)
      have hq_ : qj (txb ct z.toInt) s0.toInt 4 = 0 := wp4_0 (by omega)
      have hv_ := wd_f hs_ (Or.inr (fun h_ => absurd (hq_.symm.trans h_) (by decide)))
      exact lt_m_readsAct_c1 l D cI cZ cS cR N0 g h s0 rz wt na pa z t ct r_h r_na n_na r_pa n_pa r_wt n_wt r_t n_t krz ks0 kw0 kwt kna kpa kz kt l_rz u_rz l_s0 u_s0 hN_0 hWT_0 l_z u_z hc_0 hB hr   g_201 (4 : Int32) s2_202 H locs ls hT hI hE hM (by decide) (by decide) (by omega) (by omega) kn_218 f_205 f_206 hN hc hWT (ac_n hv_.1 (by have q_ := hv_.2; rw [hq_] at q_; omega)) (lv_sub hl [1, 2] rfl)
  · have c_24' : r_16.toInt ≠ 103 := i_ne c_24 rfl (by decide)
    refine lv_iinc (v := 5) (lv' := [(1, .int 5), (0, .ref h)]) hx hb dX7_readsAct_59 hl (k := 0) rfl (by decide) (by decide) rfl (fun ls hl => ?_)
    refine lv_goto (tgt := 34) hx hb dX7_readsAct_62 (by decide) ?_
    exact lt_m_readsAct_w5 l D cI cZ cS cR N0 g h s0 rz wt na pa z t ct r_h r_na n_na r_pa n_pa r_wt n_wt r_t n_t krz ks0 kw0 kwt kna kpa kz kt l_rz u_rz l_s0 u_s0 hN_0 hWT_0 l_z u_z hc_0 hB hr   g1 H locs ls hT hI hE hM kp0 kp1 kp2 hN hc hWT (by omega) (lv_sub hl [0, 1] rfl)
set_option maxHeartbeats 4000000 in
set_option maxRecDepth 100000 in
theorem lt_m_readsAct_w3 (l : Launch) (D : va_G) (cI cZ cS cR : ClassId) (N0 : NT) (g : GS) (h : Nat) (s0 : Int32) (rz : Int32) (wt : Nat) (na : Nat) (pa : Nat) (z : Int32) (t : Nat) (ct : Nat → Int32) (r_h : g.1 h = 8) (r_na : g.1 na = 84) (n_na : g.2.2.1 na = 8) (r_pa : g.1 pa = 85) (n_pa : g.2.2.1 pa = 8) (r_wt : g.1 wt = 87) (n_wt : g.2.2.1 wt = 24) (r_t : g.1 t = 79) (n_t : g.2.2.1 t = 100) (krz : g.2.1 h 38 = .int rz) (ks0 : g.2.1 h 36 = .int s0) (kw0 : g.2.1 h 37 = .int 0) (kwt : g.2.1 h 42 = .ref wt) (kna : g.2.1 h 39 = .ref na) (kpa : g.2.1 h 40 = .ref pa) (kz : g.2.1 h 29 = .int z) (kt : g.2.1 h 28 = .ref t) (l_rz : 0 ≤ rz.toInt) (u_rz : rz.toInt ≤ 7) (l_s0 : 0 ≤ s0.toInt) (u_s0 : s0.toInt ≤ 100) (hN_0 : PL 8 g na pa) (hWT_0 : WT g wt) (l_z : 0 ≤ z.toInt) (u_z : z.toInt ≤ 100) (hc_0 : g.2.2.2.1 t = ct) {p : Program} {e : Env} {s : State} {m : MethodId} {args : Array Value} {below : List Frame} {meth : Method} {c : Code} (hB : Tz p s m meth c args cX7_readsAct 4 RX7 D cI cZ cS cR N0) (hr : meth.sig.returnType = none)    : ∀ (g1 : GS)   (H : Heap) (locs : List Loc) (ls : Array Slot), Tv D cI cZ cS cR N0 s.heap H locs g1 → Inv g1 → Ex g g1 → Sm md_m_readsAct g g1 → g1.2.1 h 38 = .int rz → g1.2.1 h 36 = .int s0 → g1.2.1 h 37 = .int 0 → (PL 8 g1 na pa) → (g1.2.2.2.1 t = ct) → (WT g1 wt) → (¬ ((txb ct z.toInt) s0.toInt = 97 ∧ (txb ct z.toInt) (s0.toInt + 1) = 115) ∧ (txb ct z.toInt) s0.toInt ≠ 115 ∧ (txb ct z.toInt) s0.toInt ≠ 97 ∧ (txb ct z.toInt) s0.toInt ≠ 109) → lv_has ls 4 [(1, .int 3), (0, .ref h)] → W p l e (rmx 2 0 0) s m args below meth c H locs 0 0 (MQ below (tQ D cI cZ cS cR N0 (fun v g' => ∃ (z2 : Int32) (s2 : Int32) (w2 : Int32), v = none ∧ Inv g' ∧ Ex g g' ∧ Sm md_m_readsAct g g' ∧ ((w2 = 1 ∧ ac (txb ct z.toInt) s0.toInt = (false, s2.toInt)) ∨ (w2 = 0 ∧ ac (txb ct z.toInt) s0.toInt = (true, s2.toInt) ∧ s2.toInt ≤ z.toInt)) ∧ (g'.2.1 h 38 = .int z2) ∧ (z2.toInt = rz.toInt + 1) ∧ (PL 8 g' na pa) ∧ (g'.2.1 h 36 = .int s2) ∧ (g'.2.1 h 37 = .int w2) ∧ (0 ≤ s2.toInt ∧ s2.toInt ≤ 100))) args s 0 0 (fun q => N0.1 ≤ q)) (F0 m 34 ls []) := by
  have hx := hB.1
  have hb := hB.2.1
  intro g1 H locs ls hT hI hE hM kp0 kp1 kp2 hN hc hWT hS hl
  have r_1 : g1.1 h = 8 := Ex.r hE r_h (by decide)
  have r_2 : g1.1 na = 84 := Ex.r hE r_na (by decide)
  have n_3 : g1.2.2.1 na = 8 := Ex.n hE r_na (by decide) n_na
  have r_4 : g1.1 pa = 85 := Ex.r hE r_pa (by decide)
  have n_5 : g1.2.2.1 pa = 8 := Ex.n hE r_pa (by decide) n_pa
  have r_6 : g1.1 wt = 87 := Ex.r hE r_wt (by decide)
  have n_7 : g1.2.2.1 wt = 24 := Ex.n hE r_wt (by decide) n_wt
  have r_8 : g1.1 t = 79 := Ex.r hE r_t (by decide)
  have n_9 : g1.2.2.1 t = 100 := Ex.n hE r_t (by decide) n_t
  have kn_10 : g1.2.1 h 42 = .ref wt := Sm.v hM r_h (by decide) rfl kwt
  have kn_11 : g1.2.1 h 39 = .ref na := Sm.v hM r_h (by decide) rfl kna
  have kn_12 : g1.2.1 h 40 = .ref pa := Sm.v hM r_h (by decide) rfl kpa
  have kn_13 : g1.2.1 h 29 = .int z := Sm.v hM r_h (by decide) rfl kz
  have kn_14 : g1.2.1 h 28 = .ref t := Sm.v hM r_h (by decide) rfl kt
  refine lv_iload_n hx hb dX7_readsAct_34 rfl (lv_at hl 0 rfl) ?_
  refine lv_bipush (v := 8) hx hb dX7_readsAct_35 (by decide) ?_
  refine lv_icmp_ge (tgt := 65) hx hb dX7_readsAct_37 (by decide) (fun c_ => absurd c_ (by decide)) (fun c_ => ?_)
  refine lv_aload_n hx hb dX7_readsAct_40 rfl (lv_at hl 1 rfl) ?_
  refine lv_aload_n hx hb dX7_readsAct_41 rfl (lv_at hl 1 rfl) ?_
  refine t_get (ci := 7) (v := .int s0) hB hT (ro_ci r_1 rfl) rfl 36 (by decide) k_781 kp1 dX7_readsAct_42 ?_
  refine t_callV (n := 1) (As := [.int s0]) (rest := []) (ci := 7) hB hT hl.1 (m_byteAt l D cI cZ cS cR N0 g1 hI h s0 z t ct r_1 r_8 n_9 kn_13 kn_14 (by omega) (by omega) (by omega) (by omega) hc) (ro_ci r_1 rfl) rfl k_971 k_65 k_968 k_970 k_23 (by decide +kernel) ⟨(Nat.le_of_ble_eq_true rfl), (Nat.le_of_ble_eq_true rfl)⟩ rfl (Nat.le_of_ble_eq_true rfl) ⟨(Nat.le_of_ble_eq_true rfl), (Nat.le_of_ble_eq_true rfl)⟩ dX7_readsAct_45 (fun v g_15 H locs hp hT => ?_)
  obtain ⟨r_16, rfl, eg, f_17, f_18, f_19⟩ := hp
  rw [eg] at hT
  clear eg
  refine W.eq (g2 := F0 m 48 ls [.int r_16]) rfl ?_
  refine lv_aload_n hx hb dX7_readsAct_48 rfl (lv_at hl 1 rfl) ?_
  refine t_get (ci := 7) (v := .ref wt) hB hT (ro_ci r_1 rfl) rfl 42 (by decide) k_787 kn_10 dX7_readsAct_49 ?_
  refine lv_iconst (v := 3) hx hb dX7_readsAct_52 (by decide) ?_
  refine lv_iload_n hx hb dX7_readsAct_53 rfl (lv_at hl 0 rfl) ?_
  refine lv_imul hx hb dX7_readsAct_54 ?_
  refine x_ev (y := 9) (by decide) ?_
  have kw_22 : g1.2.2.2.1 wt (9 : Int32).toNatClampNeg = 110 := (hWT (9 : Int32).toNatClampNeg (by decide)).trans (by decide)
  have i_u_23 : vp_in (9 : Int32) 24 := (by unfold vp_in; decide)
  refine t_iald (v := (110 : Int32)) hB hT (ro_in r_6 (by decide)) n_7 i_u_23 kw_22 dX7_readsAct_55 ?_
  refine lv_icmp_eq (tgt := 65) hx hb dX7_readsAct_56 (by decide) (fun c_24 => ?_) (fun c_24 => ?_)
  · have c_24' : r_16.toInt = 110 := i_eq c_24 rfl (by decide)
    refine lv_aload_n hx hb dX7_readsAct_65 rfl (lv_at hl 1 rfl) ?_
    refine lv_aload_n hx hb dX7_readsAct_66 rfl (lv_at hl 1 rfl) ?_
    refine t_get (ci := 7) (v := .int 0) hB hT (ro_ci r_1 rfl) rfl 37 (by decide) k_782 kp2 dX7_readsAct_67 ?_
    refine lv_if_ne (tgt := 79) hx hb dX7_readsAct_70 (by decide) (fun c_ => absurd (by decide) c_) (fun c_ => ?_)
    refine lv_iload_n hx hb dX7_readsAct_73 rfl (lv_at hl 0 rfl) ?_
    refine lv_bipush (v := 8) hx hb dX7_readsAct_74 (by decide) ?_
    refine lv_icmp_ne (tgt := 83) hx hb dX7_readsAct_76 (by decide) (fun c_ => ?_) (fun c_ => absurd c_ (by decide))
    refine lv_iconst (v := 0) hx hb dX7_readsAct_83 (by decide) ?_
    refine t_put0 (ci := 7) (v := .int 0) hB hT (ro_ci r_1 rfl) (ro_n0 r_1 (by decide)) rfl 37 (by decide) k_782 (Or.inl rfl) rfl rfl dX7_readsAct_84 (fun H locs hT => ?_)
    have hI : Inv (sF g1 h 37 (.int 0)) := hI.sF (p_8_37 r_1 (⟨_, rfl, by decide, by decide⟩))
    have hM : Sm md_m_readsAct g (sF g1 h 37 (.int 0)) := hM.tr hE (Sm_sF (by rw [r_1]; rfl))
    have hE : Ex g (sF g1 h 37 (.int 0)) := hE
    have hN : PL 8 (sF g1 h 37 (.int 0)) na pa := hN
    have hc : (sF g1 h 37 (.int 0)).2.2.2.1 t = ct := hc
    have hWT : WT (sF g1 h 37 (.int 0)) wt := hWT
    refine lv_iconst (v := 0) hx hb dX7_readsAct_87 (by decide) ?_
    refine lv_istore_n (lv' := [(2, .int 0), (1, .int 3), (0, .ref h)]) hx hb dX7_readsAct_88 rfl hl (by decide) rfl (fun ls hl => ?_)
    refine lv_iload_n hx hb dX7_readsAct_89 rfl (lv_at hl 0 rfl) ?_
    refine lv_iconst (v := 3) hx hb dX7_readsAct_90 (by decide) ?_
    refine lv_icmp_ge (tgt := 134) hx hb dX7_readsAct_91 (by decide) (fun c_ => absurd c_ (by decide)) (fun c_ => ?_)
    refine lv_aload_n hx hb dX7_readsAct_94 rfl (lv_at hl 2 rfl) ?_
    refine t_get (ci := 7) (v := .int 0) hB hT (ro_ci r_1 rfl) rfl 37 (by decide) k_782 sF_eq dX7_readsAct_95 ?_
    refine lv_if_ne (tgt := 134) hx hb dX7_readsAct_98 (by decide) (fun c_ => absurd (by decide) c_) (fun c_ => ?_)
    refine lv_aload_n hx hb dX7_readsAct_101 rfl (lv_at hl 2 rfl) ?_
    refine t_get (ci := 7) (v := .ref wt) hB hT (ro_ci r_1 rfl) rfl 42 (by decide) k_787 (sF_k kn_10 (by decide)) dX7_readsAct_102 ?_
    refine lv_iconst (v := 3) hx hb dX7_readsAct_105 (by decide) ?_
    refine lv_iload_n hx hb dX7_readsAct_106 rfl (lv_at hl 1 rfl) ?_
    refine lv_imul hx hb dX7_readsAct_107 ?_
    refine x_ev (y := 9) (by decide) ?_
    refine lv_iload_n hx hb dX7_readsAct_108 rfl (lv_at hl 0 rfl) ?_
    refine lv_iadd hx hb dX7_readsAct_109 ?_
    refine x_ev (y := 9) (by decide) ?_
    have kw_25 : (sF g1 h 37 (.int 0)).2.2.2.1 wt (9 : Int32).toNatClampNeg = 110 := (hWT (9 : Int32).toNatClampNeg (by decide)).trans (by decide)
    have i_u_26 : vp_in (9 : Int32) 24 := (by unfold vp_in; decide)
    refine t_iald (v := (110 : Int32)) hB hT (ro_in r_6 (by decide)) n_7 i_u_26 kw_25 dX7_readsAct_110 ?_
    refine lv_if_eq (tgt := 128) hx hb dX7_readsAct_111 (by decide) (fun c_ => absurd c_ (by decide)) (fun c_ => ?_)
    refine lv_aload_n hx hb dX7_readsAct_114 rfl (lv_at hl 2 rfl) ?_
    refine lv_aload_n hx hb dX7_readsAct_115 rfl (lv_at hl 2 rfl) ?_
    refine t_get (ci := 7) (v := .ref wt) hB hT (ro_ci r_1 rfl) rfl 42 (by decide) k_787 (sF_k kn_10 (by decide)) dX7_readsAct_116 ?_
    refine lv_iconst (v := 3) hx hb dX7_readsAct_119 (by decide) ?_
    refine lv_iload_n hx hb dX7_readsAct_120 rfl (lv_at hl 1 rfl) ?_
    refine lv_imul hx hb dX7_readsAct_121 ?_
    refine x_ev (y := 9) (by decide) ?_
    refine lv_iload_n hx hb dX7_readsAct_122 rfl (lv_at hl 0 rfl) ?_
    refine lv_iadd hx hb dX7_readsAct_123 ?_
    refine x_ev (y := 9) (by decide) ?_
    have kw_27 : (sF g1 h 37 (.int 0)).2.2.2.1 wt (9 : Int32).toNatClampNeg = 110 := (hWT (9 : Int32).toNatClampNeg (by decide)).trans (by decide)
    have i_u_28 : vp_in (9 : Int32) 24 := (by unfold vp_in; decide)
    refine t_iald (v := (110 : Int32)) hB hT (ro_in r_6 (by decide)) n_7 i_u_28 kw_27 dX7_readsAct_124 ?_
    refine t_callV (n := 1) (As := [.int 110]) (rest := []) (ci := 7) hB hT hl.1 (m_must l D cI cZ cS cR N0 (sF g1 h 37 (.int 0)) hI h 110 s0 0 z t ct r_1 r_8 n_9 (sF_k kp1 (by decide)) sF_eq (sF_k kn_13 (by decide)) (sF_k kn_14 (by decide)) (by have q0 : (0 : Int32).toInt = 0 := (by decide); have q1 : (110 : Int32).toInt = 110 := (by decide); omega) (by have q0 : (0 : Int32).toInt = 0 := (by decide); have q1 : (110 : Int32).toInt = 110 := (by decide); omega) (by have q0 : (0 : Int32).toInt = 0 := (by decide); have q1 : (110 : Int32).toInt = 110 := (by decide); omega) (by have q0 : (0 : Int32).toInt = 0 := (by decide); have q1 : (110 : Int32).toInt = 110 := (by decide); omega) (by have q0 : (0 : Int32).toInt = 0 := (by decide); have q1 : (110 : Int32).toInt = 110 := (by decide); omega) (by have q0 : (0 : Int32).toInt = 0 := (by decide); have q1 : (110 : Int32).toInt = 110 := (by decide); omega) (by have q0 : (0 : Int32).toInt = 0 := (by decide); have q1 : (110 : Int32).toInt = 110 := (by decide); omega) hc) (ro_ci r_1 rfl) rfl k_975 k_65 k_972 k_974 k_24 (by decide +kernel) ⟨(Nat.le_of_ble_eq_true rfl), (Nat.le_of_ble_eq_true rfl)⟩ rfl (Nat.le_of_ble_eq_true rfl) ⟨(Nat.le_of_ble_eq_true rfl), (Nat.le_of_ble_eq_true rfl)⟩ dX7_readsAct_125 (fun v g_29 H locs hp hT => ?_)
    obtain ⟨s2_30, w2_31, rfl, hI, x_36, m_35, f_32, f_33, f_34⟩ := hp
    have hN : PL 8 g_29 na pa := hN.sm m_35 r_2 (by decide) rfl r_4 (by decide) rfl
    have hc : g_29.2.2.2.1 t = ct := (Sm.cf m_35 r_8 (by decide) rfl).trans hc
    have hWT : WT g_29 wt := hWT.sm m_35 r_6 (by decide) rfl
    have hM : Sm md_m_readsAct g g_29 := hM.tr hE (m_35.mo (fun r k h => mdle_m_readsAct_m_must h))
    have hE : Ex g g_29 := hE.tr x_36
    have r_37 : g_29.1 h = 8 := (Ex.r x_36 r_1 (by decide))
    have r_38 : g_29.1 na = 84 := (Ex.r x_36 r_2 (by decide))
    have r_39 : g_29.1 pa = 85 := (Ex.r x_36 r_4 (by decide))
    have r_40 : g_29.1 wt = 87 := (Ex.r x_36 r_6 (by decide))
    have r_41 : g_29.1 t = 79 := (Ex.r x_36 r_8 (by decide))
    have n_42 : g_29.2.2.1 na = 8 := (Ex.n x_36 r_2 (by decide) n_3)
    have n_43 : g_29.2.2.1 pa = 8 := (Ex.n x_36 r_4 (by decide) n_5)
    have n_44 : g_29.2.2.1 wt = 24 := (Ex.n x_36 r_6 (by decide) n_7)
    have n_45 : g_29.2.2.1 t = 100 := (Ex.n x_36 r_8 (by decide) n_9)
    have kn_46 : g_29.2.1 h 38 = .int rz := (Sm.v m_35 r_1 (by decide) rfl (sF_k kp0 (by decide)))
    have kn_47 : g_29.2.1 h 42 = .ref wt := (Sm.v m_35 r_1 (by decide) rfl (sF_k kn_10 (by decide)))
    have kn_48 : g_29.2.1 h 39 = .ref na := (Sm.v m_35 r_1 (by decide) rfl (sF_k kn_11 (by decide)))
    have kn_49 : g_29.2.1 h 40 = .ref pa := (Sm.v m_35 r_1 (by decide) rfl (sF_k kn_12 (by decide)))
    have kn_50 : g_29.2.1 h 29 = .int z := (Sm.v m_35 r_1 (by decide) rfl (sF_k kn_13 (by decide)))
    have kn_51 : g_29.2.1 h 28 = .ref t := (Sm.v m_35 r_1 (by decide) rfl (sF_k kn_14 (by decide)))
    have kn_52 : g_29.2.2.2.1 wt (9 : Int32).toNatClampNeg = 110 := (Sm.c m_35 r_6 (by decide) rfl kw_27)
    refine W.eq (g2 := F0 m 128 ls []) rfl ?_
    have qc_53 : (0 : Int32).toInt = 0 := (by decide)
    have qc_54 : (110 : Int32).toInt = 110 := (by decide)
    rcases f_32 with ⟨hx_, -⟩ | ⟨-, ht_s2_30, hs_s2_30, hz_s2_30, hw_s2_30⟩ | ⟨-, ht_s2_30, hs_s2_30, hw_s2_30⟩
    · exact absurd hx_ (by decide)
    · have ew_ : w2_31 = 0 := i_inj (hw_s2_30.trans (by decide))
      subst ew_
      refine lv_iinc (v := 1) (lv' := [(2, .int 1), (1, .int 3), (0, .ref h)]) hx hb dX7_readsAct_128 hl (k := 0) rfl (by decide) (by decide) rfl (fun ls hl => ?_)
      refine lv_goto (tgt := 89) hx hb dX7_readsAct_131 (by decide) ?_
      refine lv_iload_n hx hb dX7_readsAct_89 rfl (lv_at hl 0 rfl) ?_
      refine lv_iconst (v := 3) hx hb dX7_readsAct_90 (by decide) ?_
      refine lv_icmp_ge (tgt := 134) hx hb dX7_readsAct_91 (by decide) (fun c_ => absurd c_ (by decide)) (fun c_ => ?_)
      refine lv_aload_n hx hb dX7_readsAct_94 rfl (lv_at hl 2 rfl) ?_
      refine t_get (ci := 7) (v := .int 0) hB hT (ro_ci r_37 rfl) rfl 37 (by decide) k_782 f_34 dX7_readsAct_95 ?_
      refine lv_if_ne (tgt := 134) hx hb dX7_readsAct_98 (by decide) (fun c_ => absurd (by decide) c_) (fun c_ => ?_)
      refine lv_aload_n hx hb dX7_readsAct_101 rfl (lv_at hl 2 rfl) ?_
      refine t_get (ci := 7) (v := .ref wt) hB hT (ro_ci r_37 rfl) rfl 42 (by decide) k_787 kn_47 dX7_readsAct_102 ?_
      refine lv_iconst (v := 3) hx hb dX7_readsAct_105 (by decide) ?_
      refine lv_iload_n hx hb dX7_readsAct_106 rfl (lv_at hl 1 rfl) ?_
      refine lv_imul hx hb dX7_readsAct_107 ?_
      refine x_ev (y := 9) (by decide) ?_
      refine lv_iload_n hx hb dX7_readsAct_108 rfl (lv_at hl 0 rfl) ?_
      refine lv_iadd hx hb dX7_readsAct_109 ?_
      refine x_ev (y := 10) (by decide) ?_
      have kw_55 : g_29.2.2.2.1 wt (10 : Int32).toNatClampNeg = 101 := (hWT (10 : Int32).toNatClampNeg (by decide)).trans (by decide)
      have i_u_56 : vp_in (10 : Int32) 24 := (by unfold vp_in; decide)
      refine t_iald (v := (101 : Int32)) hB hT (ro_in r_40 (by decide)) n_44 i_u_56 kw_55 dX7_readsAct_110 ?_
      refine lv_if_eq (tgt := 128) hx hb dX7_readsAct_111 (by decide) (fun c_ => absurd c_ (by decide)) (fun c_ => ?_)
      refine lv_aload_n hx hb dX7_readsAct_114 rfl (lv_at hl 2 rfl) ?_
      refine lv_aload_n hx hb dX7_readsAct_115 rfl (lv_at hl 2 rfl) ?_
      refine t_get (ci := 7) (v := .ref wt) hB hT (ro_ci r_37 rfl) rfl 42 (by decide) k_787 kn_47 dX7_readsAct_116 ?_
      refine lv_iconst (v := 3) hx hb dX7_readsAct_119 (by decide) ?_
      refine lv_iload_n hx hb dX7_readsAct_120 rfl (lv_at hl 1 rfl) ?_
      refine lv_imul hx hb dX7_readsAct_121 ?_
      refine x_ev (y := 9) (by decide) ?_
      refine lv_iload_n hx hb dX7_readsAct_122 rfl (lv_at hl 0 rfl) ?_
      refine lv_iadd hx hb dX7_readsAct_123 ?_
      refine x_ev (y := 10) (by decide) ?_
      have kw_57 : g_29.2.2.2.1 wt (10 : Int32).toNatClampNeg = 101 := (hWT (10 : Int32).toNatClampNeg (by decide)).trans (by decide)
      have i_u_58 : vp_in (10 : Int32) 24 := (by unfold vp_in; decide)
      refine t_iald (v := (101 : Int32)) hB hT (ro_in r_40 (by decide)) n_44 i_u_58 kw_57 dX7_readsAct_124 ?_
      refine t_callV (n := 1) (As := [.int 101]) (rest := []) (ci := 7) hB hT hl.1 (m_must l D cI cZ cS cR N0 g_29 hI h 101 s2_30 0 z t ct r_37 r_41 n_45 f_33 f_34 kn_50 kn_51 (by have q0 : (0 : Int32).toInt = 0 := (by decide); have q1 : (101 : Int32).toInt = 101 := (by decide); omega) (by have q0 : (0 : Int32).toInt = 0 := (by decide); have q1 : (101 : Int32).toInt = 101 := (by decide); omega) (by have q0 : (0 : Int32).toInt = 0 := (by decide); have q1 : (101 : Int32).toInt = 101 := (by decide); omega) (by have q0 : (0 : Int32).toInt = 0 := (by decide); have q1 : (101 : Int32).toInt = 101 := (by decide); omega) (by have q0 : (0 : Int32).toInt = 0 := (by decide); have q1 : (101 : Int32).toInt = 101 := (by decide); omega) (by have q0 : (0 : Int32).toInt = 0 := (by decide); have q1 : (101 : Int32).toInt = 101 := (by decide); omega) (by have q0 : (0 : Int32).toInt = 0 := (by decide); have q1 : (101 : Int32).toInt = 101 := (by decide); omega) hc) (ro_ci r_37 rfl) rfl k_975 k_65 k_972 k_974 k_24 (by decide +kernel) ⟨(Nat.le_of_ble_eq_true rfl), (Nat.le_of_ble_eq_true rfl)⟩ rfl (Nat.le_of_ble_eq_true rfl) ⟨(Nat.le_of_ble_eq_true rfl), (Nat.le_of_ble_eq_true rfl)⟩ dX7_readsAct_125 (fun v g_59 H locs hp hT => ?_)
      obtain ⟨s2_60, w2_61, rfl, hI, x_66, m_65, f_62, f_63, f_64⟩ := hp
      have hN : PL 8 g_59 na pa := hN.sm m_65 r_38 (by decide) rfl r_39 (by decide) rfl
      have hc : g_59.2.2.2.1 t = ct := (Sm.cf m_65 r_41 (by decide) rfl).trans hc
      have hWT : WT g_59 wt := hWT.sm m_65 r_40 (by decide) rfl
      have hM : Sm md_m_readsAct g g_59 := hM.tr hE (m_65.mo (fun r k h => mdle_m_readsAct_m_must h))
      have hE : Ex g g_59 := hE.tr x_66
      have r_67 : g_59.1 h = 8 := (Ex.r x_66 r_37 (by decide))
      have r_68 : g_59.1 na = 84 := (Ex.r x_66 r_38 (by decide))
      have r_69 : g_59.1 pa = 85 := (Ex.r x_66 r_39 (by decide))
      have r_70 : g_59.1 wt = 87 := (Ex.r x_66 r_40 (by decide))
      have r_71 : g_59.1 t = 79 := (Ex.r x_66 r_41 (by decide))
      have n_72 : g_59.2.2.1 na = 8 := (Ex.n x_66 r_38 (by decide) n_42)
      have n_73 : g_59.2.2.1 pa = 8 := (Ex.n x_66 r_39 (by decide) n_43)
      have n_74 : g_59.2.2.1 wt = 24 := (Ex.n x_66 r_40 (by decide) n_44)
      have n_75 : g_59.2.2.1 t = 100 := (Ex.n x_66 r_41 (by decide) n_45)
      have kn_76 : g_59.2.1 h 38 = .int rz := (Sm.v m_65 r_37 (by decide) rfl kn_46)
      have kn_77 : g_59.2.1 h 42 = .ref wt := (Sm.v m_65 r_37 (by decide) rfl kn_47)
      have kn_78 : g_59.2.1 h 39 = .ref na := (Sm.v m_65 r_37 (by decide) rfl kn_48)
      have kn_79 : g_59.2.1 h 40 = .ref pa := (Sm.v m_65 r_37 (by decide) rfl kn_49)
      have kn_80 : g_59.2.1 h 29 = .int z := (Sm.v m_65 r_37 (by decide) rfl kn_50)
      have kn_81 : g_59.2.1 h 28 = .ref t := (Sm.v m_65 r_37 (by decide) rfl kn_51)
      have kn_82 : g_59.2.2.2.1 wt (9 : Int32).toNatClampNeg = 110 := (Sm.c m_65 r_40 (by decide) rfl kn_52)
      have kn_83 : g_59.2.2.2.1 wt (10 : Int32).toNatClampNeg = 101 := (Sm.c m_65 r_40 (by decide) rfl kw_57)
      refine W.eq (g2 := F0 m 128 ls []) rfl ?_
      have qc_84 : (0 : Int32).toInt = 0 := (by decide)
      have qc_85 : (101 : Int32).toInt = 101 := (by decide)
      rcases f_62 with ⟨hx_, -⟩ | ⟨-, ht_s2_60, hs_s2_60, hz_s2_60, hw_s2_60⟩ | ⟨-, ht_s2_60, hs_s2_60, hw_s2_60⟩
      · exact absurd hx_ (by decide)
      · have ew_ : w2_61 = 0 := i_inj (hw_s2_60.trans (by decide))
        subst ew_
        rw [show s2_30.toInt = s0.toInt + 1 by omega] at ht_s2_60
        refine lv_iinc (v := 2) (lv' := [(2, .int 2), (1, .int 3), (0, .ref h)]) hx hb dX7_readsAct_128 hl (k := 0) rfl (by decide) (by decide) rfl (fun ls hl => ?_)
        refine lv_goto (tgt := 89) hx hb dX7_readsAct_131 (by decide) ?_
        refine lv_iload_n hx hb dX7_readsAct_89 rfl (lv_at hl 0 rfl) ?_
        refine lv_iconst (v := 3) hx hb dX7_readsAct_90 (by decide) ?_
        refine lv_icmp_ge (tgt := 134) hx hb dX7_readsAct_91 (by decide) (fun c_ => absurd c_ (by decide)) (fun c_ => ?_)
        refine lv_aload_n hx hb dX7_readsAct_94 rfl (lv_at hl 2 rfl) ?_
        refine t_get (ci := 7) (v := .int 0) hB hT (ro_ci r_67 rfl) rfl 37 (by decide) k_782 f_64 dX7_readsAct_95 ?_
        refine lv_if_ne (tgt := 134) hx hb dX7_readsAct_98 (by decide) (fun c_ => absurd (by decide) c_) (fun c_ => ?_)
        refine lv_aload_n hx hb dX7_readsAct_101 rfl (lv_at hl 2 rfl) ?_
        refine t_get (ci := 7) (v := .ref wt) hB hT (ro_ci r_67 rfl) rfl 42 (by decide) k_787 kn_77 dX7_readsAct_102 ?_
        refine lv_iconst (v := 3) hx hb dX7_readsAct_105 (by decide) ?_
        refine lv_iload_n hx hb dX7_readsAct_106 rfl (lv_at hl 1 rfl) ?_
        refine lv_imul hx hb dX7_readsAct_107 ?_
        refine x_ev (y := 9) (by decide) ?_
        refine lv_iload_n hx hb dX7_readsAct_108 rfl (lv_at hl 0 rfl) ?_
        refine lv_iadd hx hb dX7_readsAct_109 ?_
        refine x_ev (y := 11) (by decide) ?_
        have kw_86 : g_59.2.2.2.1 wt (11 : Int32).toNatClampNeg = 119 := (hWT (11 : Int32).toNatClampNeg (by decide)).trans (by decide)
        have i_u_87 : vp_in (11 : Int32) 24 := (by unfold vp_in; decide)
        refine t_iald (v := (119 : Int32)) hB hT (ro_in r_70 (by decide)) n_74 i_u_87 kw_86 dX7_readsAct_110 ?_
        refine lv_if_eq (tgt := 128) hx hb dX7_readsAct_111 (by decide) (fun c_ => absurd c_ (by decide)) (fun c_ => ?_)
        refine lv_aload_n hx hb dX7_readsAct_114 rfl (lv_at hl 2 rfl) ?_
        refine lv_aload_n hx hb dX7_readsAct_115 rfl (lv_at hl 2 rfl) ?_
        refine t_get (ci := 7) (v := .ref wt) hB hT (ro_ci r_67 rfl) rfl 42 (by decide) k_787 kn_77 dX7_readsAct_116 ?_
        refine lv_iconst (v := 3) hx hb dX7_readsAct_119 (by decide) ?_
        refine lv_iload_n hx hb dX7_readsAct_120 rfl (lv_at hl 1 rfl) ?_
        refine lv_imul hx hb dX7_readsAct_121 ?_
        refine x_ev (y := 9) (by decide) ?_
        refine lv_iload_n hx hb dX7_readsAct_122 rfl (lv_at hl 0 rfl) ?_
        refine lv_iadd hx hb dX7_readsAct_123 ?_
        refine x_ev (y := 11) (by decide) ?_
        have kw_88 : g_59.2.2.2.1 wt (11 : Int32).toNatClampNeg = 119 := (hWT (11 : Int32).toNatClampNeg (by decide)).trans (by decide)
        have i_u_89 : vp_in (11 : Int32) 24 := (by unfold vp_in; decide)
        refine t_iald (v := (119 : Int32)) hB hT (ro_in r_70 (by decide)) n_74 i_u_89 kw_88 dX7_readsAct_124 ?_
        refine t_callV (n := 1) (As := [.int 119]) (rest := []) (ci := 7) hB hT hl.1 (m_must l D cI cZ cS cR N0 g_59 hI h 119 s2_60 0 z t ct r_67 r_71 n_75 f_63 f_64 kn_80 kn_81 (by have q0 : (0 : Int32).toInt = 0 := (by decide); have q1 : (119 : Int32).toInt = 119 := (by decide); omega) (by have q0 : (0 : Int32).toInt = 0 := (by decide); have q1 : (119 : Int32).toInt = 119 := (by decide); omega) (by have q0 : (0 : Int32).toInt = 0 := (by decide); have q1 : (119 : Int32).toInt = 119 := (by decide); omega) (by have q0 : (0 : Int32).toInt = 0 := (by decide); have q1 : (119 : Int32).toInt = 119 := (by decide); omega) (by have q0 : (0 : Int32).toInt = 0 := (by decide); have q1 : (119 : Int32).toInt = 119 := (by decide); omega) (by have q0 : (0 : Int32).toInt = 0 := (by decide); have q1 : (119 : Int32).toInt = 119 := (by decide); omega) (by have q0 : (0 : Int32).toInt = 0 := (by decide); have q1 : (119 : Int32).toInt = 119 := (by decide); omega) hc) (ro_ci r_67 rfl) rfl k_975 k_65 k_972 k_974 k_24 (by decide +kernel) ⟨(Nat.le_of_ble_eq_true rfl), (Nat.le_of_ble_eq_true rfl)⟩ rfl (Nat.le_of_ble_eq_true rfl) ⟨(Nat.le_of_ble_eq_true rfl), (Nat.le_of_ble_eq_true rfl)⟩ dX7_readsAct_125 (fun v g_90 H locs hp hT => ?_)
        obtain ⟨s2_91, w2_92, rfl, hI, x_97, m_96, f_93, f_94, f_95⟩ := hp
        have hN : PL 8 g_90 na pa := hN.sm m_96 r_68 (by decide) rfl r_69 (by decide) rfl
        have hc : g_90.2.2.2.1 t = ct := (Sm.cf m_96 r_71 (by decide) rfl).trans hc
        have hWT : WT g_90 wt := hWT.sm m_96 r_70 (by decide) rfl
        have hM : Sm md_m_readsAct g g_90 := hM.tr hE (m_96.mo (fun r k h => mdle_m_readsAct_m_must h))
        have hE : Ex g g_90 := hE.tr x_97
        have r_98 : g_90.1 h = 8 := (Ex.r x_97 r_67 (by decide))
        have r_99 : g_90.1 na = 84 := (Ex.r x_97 r_68 (by decide))
        have r_100 : g_90.1 pa = 85 := (Ex.r x_97 r_69 (by decide))
        have r_101 : g_90.1 wt = 87 := (Ex.r x_97 r_70 (by decide))
        have r_102 : g_90.1 t = 79 := (Ex.r x_97 r_71 (by decide))
        have n_103 : g_90.2.2.1 na = 8 := (Ex.n x_97 r_68 (by decide) n_72)
        have n_104 : g_90.2.2.1 pa = 8 := (Ex.n x_97 r_69 (by decide) n_73)
        have n_105 : g_90.2.2.1 wt = 24 := (Ex.n x_97 r_70 (by decide) n_74)
        have n_106 : g_90.2.2.1 t = 100 := (Ex.n x_97 r_71 (by decide) n_75)
        have kn_107 : g_90.2.1 h 38 = .int rz := (Sm.v m_96 r_67 (by decide) rfl kn_76)
        have kn_108 : g_90.2.1 h 42 = .ref wt := (Sm.v m_96 r_67 (by decide) rfl kn_77)
        have kn_109 : g_90.2.1 h 39 = .ref na := (Sm.v m_96 r_67 (by decide) rfl kn_78)
        have kn_110 : g_90.2.1 h 40 = .ref pa := (Sm.v m_96 r_67 (by decide) rfl kn_79)
        have kn_111 : g_90.2.1 h 29 = .int z := (Sm.v m_96 r_67 (by decide) rfl kn_80)
        have kn_112 : g_90.2.1 h 28 = .ref t := (Sm.v m_96 r_67 (by decide) rfl kn_81)
        have kn_113 : g_90.2.2.2.1 wt (9 : Int32).toNatClampNeg = 110 := (Sm.c m_96 r_70 (by decide) rfl kn_82)
        have kn_114 : g_90.2.2.2.1 wt (10 : Int32).toNatClampNeg = 101 := (Sm.c m_96 r_70 (by decide) rfl kn_83)
        have kn_115 : g_90.2.2.2.1 wt (11 : Int32).toNatClampNeg = 119 := (Sm.c m_96 r_70 (by decide) rfl kw_88)
        refine W.eq (g2 := F0 m 128 ls []) rfl ?_
        have qc_116 : (0 : Int32).toInt = 0 := (by decide)
        have qc_117 : (119 : Int32).toInt = 119 := (by decide)
        rcases f_93 with ⟨hx_, -⟩ | ⟨-, ht_s2_91, hs_s2_91, hz_s2_91, hw_s2_91⟩ | ⟨-, ht_s2_91, hs_s2_91, hw_s2_91⟩
        · exact absurd hx_ (by decide)
        · have ew_ : w2_92 = 0 := i_inj (hw_s2_91.trans (by decide))
          subst ew_
          rw [show s2_60.toInt = s0.toInt + 2 by omega] at ht_s2_91
          refine lv_iinc (v := 3) (lv' := [(2, .int 3), (1, .int 3), (0, .ref h)]) hx hb dX7_readsAct_128 hl (k := 0) rfl (by decide) (by decide) rfl (fun ls hl => ?_)
          refine lv_goto (tgt := 89) hx hb dX7_readsAct_131 (by decide) ?_
          refine lv_iload_n hx hb dX7_readsAct_89 rfl (lv_at hl 0 rfl) ?_
          refine lv_iconst (v := 3) hx hb dX7_readsAct_90 (by decide) ?_
          refine lv_icmp_ge (tgt := 134) hx hb dX7_readsAct_91 (by decide) (fun c_ => ?_) (fun c_ => absurd (by decide) c_)
          refine lv_aload_n hx hb dX7_readsAct_134 rfl (lv_at hl 2 rfl) ?_
          refine lv_bipush (v := 32) hx hb dX7_readsAct_135 (by decide) ?_
          refine t_callV (n := 1) (As := [.int 32]) (rest := []) (ci := 7) hB hT hl.1 (m_must l D cI cZ cS cR N0 g_90 hI h 32 s2_91 0 z t ct r_98 r_102 n_106 f_94 f_95 kn_111 kn_112 (by have q0 : (0 : Int32).toInt = 0 := (by decide); have q1 : (32 : Int32).toInt = 32 := (by decide); omega) (by have q0 : (0 : Int32).toInt = 0 := (by decide); have q1 : (32 : Int32).toInt = 32 := (by decide); omega) (by have q0 : (0 : Int32).toInt = 0 := (by decide); have q1 : (32 : Int32).toInt = 32 := (by decide); omega) (by have q0 : (0 : Int32).toInt = 0 := (by decide); have q1 : (32 : Int32).toInt = 32 := (by decide); omega) (by have q0 : (0 : Int32).toInt = 0 := (by decide); have q1 : (32 : Int32).toInt = 32 := (by decide); omega) (by have q0 : (0 : Int32).toInt = 0 := (by decide); have q1 : (32 : Int32).toInt = 32 := (by decide); omega) (by have q0 : (0 : Int32).toInt = 0 := (by decide); have q1 : (32 : Int32).toInt = 32 := (by decide); omega) hc) (ro_ci r_98 rfl) rfl k_975 k_65 k_972 k_974 k_24 (by decide +kernel) ⟨(Nat.le_of_ble_eq_true rfl), (Nat.le_of_ble_eq_true rfl)⟩ rfl (Nat.le_of_ble_eq_true rfl) ⟨(Nat.le_of_ble_eq_true rfl), (Nat.le_of_ble_eq_true rfl)⟩ dX7_readsAct_137 (fun v g_118 H locs hp hT => ?_)
          obtain ⟨s2_119, w2_120, rfl, hI, x_125, m_124, f_121, f_122, f_123⟩ := hp
          have hN : PL 8 g_118 na pa := hN.sm m_124 r_99 (by decide) rfl r_100 (by decide) rfl
          have hc : g_118.2.2.2.1 t = ct := (Sm.cf m_124 r_102 (by decide) rfl).trans hc
          have hWT : WT g_118 wt := hWT.sm m_124 r_101 (by decide) rfl
          have hM : Sm md_m_readsAct g g_118 := hM.tr hE (m_124.mo (fun r k h => mdle_m_readsAct_m_must h))
          have hE : Ex g g_118 := hE.tr x_125
          have r_126 : g_118.1 h = 8 := (Ex.r x_125 r_98 (by decide))
          have r_127 : g_118.1 na = 84 := (Ex.r x_125 r_99 (by decide))
          have r_128 : g_118.1 pa = 85 := (Ex.r x_125 r_100 (by decide))
          have r_129 : g_118.1 wt = 87 := (Ex.r x_125 r_101 (by decide))
          have r_130 : g_118.1 t = 79 := (Ex.r x_125 r_102 (by decide))
          have n_131 : g_118.2.2.1 na = 8 := (Ex.n x_125 r_99 (by decide) n_103)
          have n_132 : g_118.2.2.1 pa = 8 := (Ex.n x_125 r_100 (by decide) n_104)
          have n_133 : g_118.2.2.1 wt = 24 := (Ex.n x_125 r_101 (by decide) n_105)
          have n_134 : g_118.2.2.1 t = 100 := (Ex.n x_125 r_102 (by decide) n_106)
          have kn_135 : g_118.2.1 h 38 = .int rz := (Sm.v m_124 r_98 (by decide) rfl kn_107)
          have kn_136 : g_118.2.1 h 42 = .ref wt := (Sm.v m_124 r_98 (by decide) rfl kn_108)
          have kn_137 : g_118.2.1 h 39 = .ref na := (Sm.v m_124 r_98 (by decide) rfl kn_109)
          have kn_138 : g_118.2.1 h 40 = .ref pa := (Sm.v m_124 r_98 (by decide) rfl kn_110)
          have kn_139 : g_118.2.1 h 29 = .int z := (Sm.v m_124 r_98 (by decide) rfl kn_111)
          have kn_140 : g_118.2.1 h 28 = .ref t := (Sm.v m_124 r_98 (by decide) rfl kn_112)
          have kn_141 : g_118.2.2.2.1 wt (9 : Int32).toNatClampNeg = 110 := (Sm.c m_124 r_101 (by decide) rfl kn_113)
          have kn_142 : g_118.2.2.2.1 wt (10 : Int32).toNatClampNeg = 101 := (Sm.c m_124 r_101 (by decide) rfl kn_114)
          have kn_143 : g_118.2.2.2.1 wt (11 : Int32).toNatClampNeg = 119 := (Sm.c m_124 r_101 (by decide) rfl kn_115)
          refine W.eq (g2 := F0 m 140 ls []) rfl ?_
          have qc_144 : (0 : Int32).toInt = 0 := (by decide)
          have qc_145 : (32 : Int32).toInt = 32 := (by decide)
          rcases f_121 with ⟨hx_, -⟩ | ⟨-, ht_s2_119, hs_s2_119, hz_s2_119, hw_s2_119⟩ | ⟨-, ht_s2_119, hs_s2_119, hw_s2_119⟩
          · exact absurd hx_ (by decide)
          · have ew_ : w2_120 = 0 := i_inj (hw_s2_119.trans (by decide))
            subst ew_
            rw [show s2_91.toInt = s0.toInt + 3 by omega] at ht_s2_119
            have hv_ := wo_3 (T := (txb ct z.toInt)) (p := s0.toInt) ⟨by omega, by omega, by omega, by omega⟩
            exact lt_m_readsAct_c0 l D cI cZ cS cR N0 g h s0 rz wt na pa z t ct r_h r_na n_na r_pa n_pa r_wt n_wt r_t n_t krz ks0 kw0 kwt kna kpa kz kt l_rz u_rz l_s0 u_s0 hN_0 hWT_0 l_z u_z hc_0 hB hr   g_118 (3 : Int32) s2_119 H locs ls hT hI hE hM (by decide) (by decide) (by omega) (by omega) kn_135 f_122 f_123 hN hc hWT ⟨by decide, hv_.1.trans (by decide), (by have q_ := hv_.2; omega), by omega⟩ (lv_sub hl [1, 2] rfl)
          · have ew_ : w2_120 = 1 := i_inj (hw_s2_119.trans (by decide))
            subst ew_
            rw [show s2_91.toInt = s0.toInt + 3 by omega] at ht_s2_119
            have hs_ : wsel ((txb ct z.toInt) s0.toInt) ((txb ct z.toInt) (s0.toInt + 1)) = 3 := ws_3 (by omega)
            have hq_ : qj (txb ct z.toInt) s0.toInt 3 = 3 := wp4_3 (by omega) (by omega) (by omega) (by omega)
            have hv_ := wd_f hs_ (Or.inr (fun h_ => absurd (hq_.symm.trans h_) (by decide)))
            exact lt_m_readsAct_c1 l D cI cZ cS cR N0 g h s0 rz wt na pa z t ct r_h r_na n_na r_pa n_pa r_wt n_wt r_t n_t krz ks0 kw0 kwt kna kpa kz kt l_rz u_rz l_s0 u_s0 hN_0 hWT_0 l_z u_z hc_0 hB hr   g_118 (3 : Int32) s2_119 H locs ls hT hI hE hM (by decide) (by decide) (by omega) (by omega) kn_135 f_122 f_123 hN hc hWT (ac_n hv_.1 (by have q_ := hv_.2; rw [hq_] at q_; omega)) (lv_sub hl [1, 2] rfl)
        · have ew_ : w2_92 = 1 := i_inj (hw_s2_91.trans (by decide))
          subst ew_
          rw [show s2_60.toInt = s0.toInt + 2 by omega] at ht_s2_91
          refine lv_iinc (v := 3) (lv' := [(2, .int 3), (1, .int 3), (0, .ref h)]) hx hb dX7_readsAct_128 hl (k := 0) rfl (by decide) (by decide) rfl (fun ls hl => ?_)
          refine lv_goto (tgt := 89) hx hb dX7_readsAct_131 (by decide) ?_
          refine lv_iload_n hx hb dX7_readsAct_89 rfl (lv_at hl 0 rfl) ?_
          refine lv_iconst (v := 3) hx hb dX7_readsAct_90 (by decide) ?_
          refine lv_icmp_ge (tgt := 134) hx hb dX7_readsAct_91 (by decide) (fun c_ => ?_) (fun c_ => absurd (by decide) c_)
          refine lv_aload_n hx hb dX7_readsAct_134 rfl (lv_at hl 2 rfl) ?_
          refine lv_bipush (v := 32) hx hb dX7_readsAct_135 (by decide) ?_
          refine t_callV (n := 1) (As := [.int 32]) (rest := []) (ci := 7) hB hT hl.1 (m_must l D cI cZ cS cR N0 g_90 hI h 32 s2_91 1 z t ct r_98 r_102 n_106 f_94 f_95 kn_111 kn_112 (by have q0 : (1 : Int32).toInt = 1 := (by decide); have q1 : (32 : Int32).toInt = 32 := (by decide); omega) (by have q0 : (1 : Int32).toInt = 1 := (by decide); have q1 : (32 : Int32).toInt = 32 := (by decide); omega) (by have q0 : (1 : Int32).toInt = 1 := (by decide); have q1 : (32 : Int32).toInt = 32 := (by decide); omega) (by have q0 : (1 : Int32).toInt = 1 := (by decide); have q1 : (32 : Int32).toInt = 32 := (by decide); omega) (by have q0 : (1 : Int32).toInt = 1 := (by decide); have q1 : (32 : Int32).toInt = 32 := (by decide); omega) (by have q0 : (1 : Int32).toInt = 1 := (by decide); have q1 : (32 : Int32).toInt = 32 := (by decide); omega) (by have q0 : (1 : Int32).toInt = 1 := (by decide); have q1 : (32 : Int32).toInt = 32 := (by decide); omega) hc) (ro_ci r_98 rfl) rfl k_975 k_65 k_972 k_974 k_24 (by decide +kernel) ⟨(Nat.le_of_ble_eq_true rfl), (Nat.le_of_ble_eq_true rfl)⟩ rfl (Nat.le_of_ble_eq_true rfl) ⟨(Nat.le_of_ble_eq_true rfl), (Nat.le_of_ble_eq_true rfl)⟩ dX7_readsAct_137 (fun v g_146 H locs hp hT => ?_)
          obtain ⟨s2_147, w2_148, rfl, hI, x_153, m_152, f_149, f_150, f_151⟩ := hp
          have hN : PL 8 g_146 na pa := hN.sm m_152 r_99 (by decide) rfl r_100 (by decide) rfl
          have hc : g_146.2.2.2.1 t = ct := (Sm.cf m_152 r_102 (by decide) rfl).trans hc
          have hWT : WT g_146 wt := hWT.sm m_152 r_101 (by decide) rfl
          have hM : Sm md_m_readsAct g g_146 := hM.tr hE (m_152.mo (fun r k h => mdle_m_readsAct_m_must h))
          have hE : Ex g g_146 := hE.tr x_153
          have r_154 : g_146.1 h = 8 := (Ex.r x_153 r_98 (by decide))
          have r_155 : g_146.1 na = 84 := (Ex.r x_153 r_99 (by decide))
          have r_156 : g_146.1 pa = 85 := (Ex.r x_153 r_100 (by decide))
          have r_157 : g_146.1 wt = 87 := (Ex.r x_153 r_101 (by decide))
          have r_158 : g_146.1 t = 79 := (Ex.r x_153 r_102 (by decide))
          have n_159 : g_146.2.2.1 na = 8 := (Ex.n x_153 r_99 (by decide) n_103)
          have n_160 : g_146.2.2.1 pa = 8 := (Ex.n x_153 r_100 (by decide) n_104)
          have n_161 : g_146.2.2.1 wt = 24 := (Ex.n x_153 r_101 (by decide) n_105)
          have n_162 : g_146.2.2.1 t = 100 := (Ex.n x_153 r_102 (by decide) n_106)
          have kn_163 : g_146.2.1 h 38 = .int rz := (Sm.v m_152 r_98 (by decide) rfl kn_107)
          have kn_164 : g_146.2.1 h 42 = .ref wt := (Sm.v m_152 r_98 (by decide) rfl kn_108)
          have kn_165 : g_146.2.1 h 39 = .ref na := (Sm.v m_152 r_98 (by decide) rfl kn_109)
          have kn_166 : g_146.2.1 h 40 = .ref pa := (Sm.v m_152 r_98 (by decide) rfl kn_110)
          have kn_167 : g_146.2.1 h 29 = .int z := (Sm.v m_152 r_98 (by decide) rfl kn_111)
          have kn_168 : g_146.2.1 h 28 = .ref t := (Sm.v m_152 r_98 (by decide) rfl kn_112)
          have kn_169 : g_146.2.2.2.1 wt (9 : Int32).toNatClampNeg = 110 := (Sm.c m_152 r_101 (by decide) rfl kn_113)
          have kn_170 : g_146.2.2.2.1 wt (10 : Int32).toNatClampNeg = 101 := (Sm.c m_152 r_101 (by decide) rfl kn_114)
          have kn_171 : g_146.2.2.2.1 wt (11 : Int32).toNatClampNeg = 119 := (Sm.c m_152 r_101 (by decide) rfl kn_115)
          refine W.eq (g2 := F0 m 140 ls []) rfl ?_
          have qc_172 : (1 : Int32).toInt = 1 := (by decide)
          have qc_173 : (32 : Int32).toInt = 32 := (by decide)
          rcases f_149 with ⟨-, hs_s2_147, hw_s2_147⟩ | ⟨hx_, -⟩ | ⟨hx_, -⟩
          rotate_left
          · exact absurd hx_ (by decide)
          · exact absurd hx_ (by decide)
          have ew_ : w2_148 = 1 := i_inj (hw_s2_147.trans (by decide))
          subst ew_
          have hs_ : wsel ((txb ct z.toInt) s0.toInt) ((txb ct z.toInt) (s0.toInt + 1)) = 3 := ws_3 (by omega)
          have hq_ : qj (txb ct z.toInt) s0.toInt 3 = 2 := wp4_2 (by omega) (by omega) (by omega)
          have hv_ := wd_f hs_ (Or.inr (fun h_ => absurd (hq_.symm.trans h_) (by decide)))
          exact lt_m_readsAct_c1 l D cI cZ cS cR N0 g h s0 rz wt na pa z t ct r_h r_na n_na r_pa n_pa r_wt n_wt r_t n_t krz ks0 kw0 kwt kna kpa kz kt l_rz u_rz l_s0 u_s0 hN_0 hWT_0 l_z u_z hc_0 hB hr   g_146 (3 : Int32) s2_147 H locs ls hT hI hE hM (by decide) (by decide) (by omega) (by omega) kn_163 f_150 f_151 hN hc hWT (ac_n hv_.1 (by have q_ := hv_.2; rw [hq_] at q_; omega)) (lv_sub hl [1, 2] rfl)
      · have ew_ : w2_61 = 1 := i_inj (hw_s2_60.trans (by decide))
        subst ew_
        rw [show s2_30.toInt = s0.toInt + 1 by omega] at ht_s2_60
        refine lv_iinc (v := 2) (lv' := [(2, .int 2), (1, .int 3), (0, .ref h)]) hx hb dX7_readsAct_128 hl (k := 0) rfl (by decide) (by decide) rfl (fun ls hl => ?_)
        refine lv_goto (tgt := 89) hx hb dX7_readsAct_131 (by decide) ?_
        refine lv_iload_n hx hb dX7_readsAct_89 rfl (lv_at hl 0 rfl) ?_
        refine lv_iconst (v := 3) hx hb dX7_readsAct_90 (by decide) ?_
        refine lv_icmp_ge (tgt := 134) hx hb dX7_readsAct_91 (by decide) (fun c_ => absurd c_ (by decide)) (fun c_ => ?_)
        refine lv_aload_n hx hb dX7_readsAct_94 rfl (lv_at hl 2 rfl) ?_
        refine t_get (ci := 7) (v := .int 1) hB hT (ro_ci r_67 rfl) rfl 37 (by decide) k_782 f_64 dX7_readsAct_95 ?_
        refine lv_if_ne (tgt := 134) hx hb dX7_readsAct_98 (by decide) (fun c_ => ?_) (fun c_ => absurd c_ (by decide))
        refine lv_aload_n hx hb dX7_readsAct_134 rfl (lv_at hl 2 rfl) ?_
        refine lv_bipush (v := 32) hx hb dX7_readsAct_135 (by decide) ?_
        refine t_callV (n := 1) (As := [.int 32]) (rest := []) (ci := 7) hB hT hl.1 (m_must l D cI cZ cS cR N0 g_59 hI h 32 s2_60 1 z t ct r_67 r_71 n_75 f_63 f_64 kn_80 kn_81 (by have q0 : (1 : Int32).toInt = 1 := (by decide); have q1 : (32 : Int32).toInt = 32 := (by decide); omega) (by have q0 : (1 : Int32).toInt = 1 := (by decide); have q1 : (32 : Int32).toInt = 32 := (by decide); omega) (by have q0 : (1 : Int32).toInt = 1 := (by decide); have q1 : (32 : Int32).toInt = 32 := (by decide); omega) (by have q0 : (1 : Int32).toInt = 1 := (by decide); have q1 : (32 : Int32).toInt = 32 := (by decide); omega) (by have q0 : (1 : Int32).toInt = 1 := (by decide); have q1 : (32 : Int32).toInt = 32 := (by decide); omega) (by have q0 : (1 : Int32).toInt = 1 := (by decide); have q1 : (32 : Int32).toInt = 32 := (by decide); omega) (by have q0 : (1 : Int32).toInt = 1 := (by decide); have q1 : (32 : Int32).toInt = 32 := (by decide); omega) hc) (ro_ci r_67 rfl) rfl k_975 k_65 k_972 k_974 k_24 (by decide +kernel) ⟨(Nat.le_of_ble_eq_true rfl), (Nat.le_of_ble_eq_true rfl)⟩ rfl (Nat.le_of_ble_eq_true rfl) ⟨(Nat.le_of_ble_eq_true rfl), (Nat.le_of_ble_eq_true rfl)⟩ dX7_readsAct_137 (fun v g_174 H locs hp hT => ?_)
        obtain ⟨s2_175, w2_176, rfl, hI, x_181, m_180, f_177, f_178, f_179⟩ := hp
        have hN : PL 8 g_174 na pa := hN.sm m_180 r_68 (by decide) rfl r_69 (by decide) rfl
        have hc : g_174.2.2.2.1 t = ct := (Sm.cf m_180 r_71 (by decide) rfl).trans hc
        have hWT : WT g_174 wt := hWT.sm m_180 r_70 (by decide) rfl
        have hM : Sm md_m_readsAct g g_174 := hM.tr hE (m_180.mo (fun r k h => mdle_m_readsAct_m_must h))
        have hE : Ex g g_174 := hE.tr x_181
        have r_182 : g_174.1 h = 8 := (Ex.r x_181 r_67 (by decide))
        have r_183 : g_174.1 na = 84 := (Ex.r x_181 r_68 (by decide))
        have r_184 : g_174.1 pa = 85 := (Ex.r x_181 r_69 (by decide))
        have r_185 : g_174.1 wt = 87 := (Ex.r x_181 r_70 (by decide))
        have r_186 : g_174.1 t = 79 := (Ex.r x_181 r_71 (by decide))
        have n_187 : g_174.2.2.1 na = 8 := (Ex.n x_181 r_68 (by decide) n_72)
        have n_188 : g_174.2.2.1 pa = 8 := (Ex.n x_181 r_69 (by decide) n_73)
        have n_189 : g_174.2.2.1 wt = 24 := (Ex.n x_181 r_70 (by decide) n_74)
        have n_190 : g_174.2.2.1 t = 100 := (Ex.n x_181 r_71 (by decide) n_75)
        have kn_191 : g_174.2.1 h 38 = .int rz := (Sm.v m_180 r_67 (by decide) rfl kn_76)
        have kn_192 : g_174.2.1 h 42 = .ref wt := (Sm.v m_180 r_67 (by decide) rfl kn_77)
        have kn_193 : g_174.2.1 h 39 = .ref na := (Sm.v m_180 r_67 (by decide) rfl kn_78)
        have kn_194 : g_174.2.1 h 40 = .ref pa := (Sm.v m_180 r_67 (by decide) rfl kn_79)
        have kn_195 : g_174.2.1 h 29 = .int z := (Sm.v m_180 r_67 (by decide) rfl kn_80)
        have kn_196 : g_174.2.1 h 28 = .ref t := (Sm.v m_180 r_67 (by decide) rfl kn_81)
        have kn_197 : g_174.2.2.2.1 wt (9 : Int32).toNatClampNeg = 110 := (Sm.c m_180 r_70 (by decide) rfl kn_82)
        have kn_198 : g_174.2.2.2.1 wt (10 : Int32).toNatClampNeg = 101 := (Sm.c m_180 r_70 (by decide) rfl kn_83)
        refine W.eq (g2 := F0 m 140 ls []) rfl ?_
        have qc_199 : (1 : Int32).toInt = 1 := (by decide)
        have qc_200 : (32 : Int32).toInt = 32 := (by decide)
        rcases f_177 with ⟨-, hs_s2_175, hw_s2_175⟩ | ⟨hx_, -⟩ | ⟨hx_, -⟩
        rotate_left
        · exact absurd hx_ (by decide)
        · exact absurd hx_ (by decide)
        have ew_ : w2_176 = 1 := i_inj (hw_s2_175.trans (by decide))
        subst ew_
        have hs_ : wsel ((txb ct z.toInt) s0.toInt) ((txb ct z.toInt) (s0.toInt + 1)) = 3 := ws_3 (by omega)
        have hq_ : qj (txb ct z.toInt) s0.toInt 3 = 1 := wp4_1 (by omega) (by omega)
        have hv_ := wd_f hs_ (Or.inr (fun h_ => absurd (hq_.symm.trans h_) (by decide)))
        exact lt_m_readsAct_c1 l D cI cZ cS cR N0 g h s0 rz wt na pa z t ct r_h r_na n_na r_pa n_pa r_wt n_wt r_t n_t krz ks0 kw0 kwt kna kpa kz kt l_rz u_rz l_s0 u_s0 hN_0 hWT_0 l_z u_z hc_0 hB hr   g_174 (3 : Int32) s2_175 H locs ls hT hI hE hM (by decide) (by decide) (by omega) (by omega) kn_191 f_178 f_179 hN hc hWT (ac_n hv_.1 (by have q_ := hv_.2; rw [hq_] at q_; omega)) (lv_sub hl [1, 2] rfl)
    · have ew_ : w2_31 = 1 := i_inj (hw_s2_30.trans (by decide))
      subst ew_
      refine lv_iinc (v := 1) (lv' := [(2, .int 1), (1, .int 3), (0, .ref h)]) hx hb dX7_readsAct_128 hl (k := 0) rfl (by decide) (by decide) rfl (fun ls hl => ?_)
      refine lv_goto (tgt := 89) hx hb dX7_readsAct_131 (by decide) ?_
      refine lv_iload_n hx hb dX7_readsAct_89 rfl (lv_at hl 0 rfl) ?_
      refine lv_iconst (v := 3) hx hb dX7_readsAct_90 (by decide) ?_
      refine lv_icmp_ge (tgt := 134) hx hb dX7_readsAct_91 (by decide) (fun c_ => absurd c_ (by decide)) (fun c_ => ?_)
      refine lv_aload_n hx hb dX7_readsAct_94 rfl (lv_at hl 2 rfl) ?_
      refine t_get (ci := 7) (v := .int 1) hB hT (ro_ci r_37 rfl) rfl 37 (by decide) k_782 f_34 dX7_readsAct_95 ?_
      refine lv_if_ne (tgt := 134) hx hb dX7_readsAct_98 (by decide) (fun c_ => ?_) (fun c_ => absurd c_ (by decide))
      refine lv_aload_n hx hb dX7_readsAct_134 rfl (lv_at hl 2 rfl) ?_
      refine lv_bipush (v := 32) hx hb dX7_readsAct_135 (by decide) ?_
      refine t_callV (n := 1) (As := [.int 32]) (rest := []) (ci := 7) hB hT hl.1 (m_must l D cI cZ cS cR N0 g_29 hI h 32 s2_30 1 z t ct r_37 r_41 n_45 f_33 f_34 kn_50 kn_51 (by have q0 : (1 : Int32).toInt = 1 := (by decide); have q1 : (32 : Int32).toInt = 32 := (by decide); omega) (by have q0 : (1 : Int32).toInt = 1 := (by decide); have q1 : (32 : Int32).toInt = 32 := (by decide); omega) (by have q0 : (1 : Int32).toInt = 1 := (by decide); have q1 : (32 : Int32).toInt = 32 := (by decide); omega) (by have q0 : (1 : Int32).toInt = 1 := (by decide); have q1 : (32 : Int32).toInt = 32 := (by decide); omega) (by have q0 : (1 : Int32).toInt = 1 := (by decide); have q1 : (32 : Int32).toInt = 32 := (by decide); omega) (by have q0 : (1 : Int32).toInt = 1 := (by decide); have q1 : (32 : Int32).toInt = 32 := (by decide); omega) (by have q0 : (1 : Int32).toInt = 1 := (by decide); have q1 : (32 : Int32).toInt = 32 := (by decide); omega) hc) (ro_ci r_37 rfl) rfl k_975 k_65 k_972 k_974 k_24 (by decide +kernel) ⟨(Nat.le_of_ble_eq_true rfl), (Nat.le_of_ble_eq_true rfl)⟩ rfl (Nat.le_of_ble_eq_true rfl) ⟨(Nat.le_of_ble_eq_true rfl), (Nat.le_of_ble_eq_true rfl)⟩ dX7_readsAct_137 (fun v g_201 H locs hp hT => ?_)
      obtain ⟨s2_202, w2_203, rfl, hI, x_208, m_207, f_204, f_205, f_206⟩ := hp
      have hN : PL 8 g_201 na pa := hN.sm m_207 r_38 (by decide) rfl r_39 (by decide) rfl
      have hc : g_201.2.2.2.1 t = ct := (Sm.cf m_207 r_41 (by decide) rfl).trans hc
      have hWT : WT g_201 wt := hWT.sm m_207 r_40 (by decide) rfl
      have hM : Sm md_m_readsAct g g_201 := hM.tr hE (m_207.mo (fun r k h => mdle_m_readsAct_m_must h))
      have hE : Ex g g_201 := hE.tr x_208
      have r_209 : g_201.1 h = 8 := (Ex.r x_208 r_37 (by decide))
      have r_210 : g_201.1 na = 84 := (Ex.r x_208 r_38 (by decide))
      have r_211 : g_201.1 pa = 85 := (Ex.r x_208 r_39 (by decide))
      have r_212 : g_201.1 wt = 87 := (Ex.r x_208 r_40 (by decide))
      have r_213 : g_201.1 t = 79 := (Ex.r x_208 r_41 (by decide))
      have n_214 : g_201.2.2.1 na = 8 := (Ex.n x_208 r_38 (by decide) n_42)
      have n_215 : g_201.2.2.1 pa = 8 := (Ex.n x_208 r_39 (by decide) n_43)
      have n_216 : g_201.2.2.1 wt = 24 := (Ex.n x_208 r_40 (by decide) n_44)
      have n_217 : g_201.2.2.1 t = 100 := (Ex.n x_208 r_41 (by decide) n_45)
      have kn_218 : g_201.2.1 h 38 = .int rz := (Sm.v m_207 r_37 (by decide) rfl kn_46)
      have kn_219 : g_201.2.1 h 42 = .ref wt := (Sm.v m_207 r_37 (by decide) rfl kn_47)
      have kn_220 : g_201.2.1 h 39 = .ref na := (Sm.v m_207 r_37 (by decide) rfl kn_48)
      have kn_221 : g_201.2.1 h 40 = .ref pa := (Sm.v m_207 r_37 (by decide) rfl kn_49)
      have kn_222 : g_201.2.1 h 29 = .int z := (Sm.v m_207 r_37 (by decide) rfl kn_50)
      have kn_223 : g_201.2.1 h 28 = .ref t := (Sm.v m_207 r_37 (by decide) rfl kn_51)
      have kn_224 : g_201.2.2.2.1 wt (9 : Int32).toNatClampNeg = 110 := (Sm.c m_207 r_40 (by decide) rfl kn_52)
      refine W.eq (g2 := F0 m 140 ls []) rfl ?_
      have qc_225 : (1 : Int32).toInt = 1 := (by decide)
      have qc_226 : (32 : Int32).toInt = 32 := (by decide)
      rcases f_204 with ⟨-, hs_s2_202, hw_s2_202⟩ | ⟨hx_, -⟩ | ⟨hx_, -⟩
      rotate_left
      · exact absurd hx_ (by decide)
      · exact absurd hx_ (by decide)
      have ew_ : w2_203 = 1 := i_inj (hw_s2_202.trans (by decide))
      subst ew_
      have hs_ : wsel ((txb ct z.toInt) s0.toInt) ((txb ct z.toInt) (s0.toInt + 1)) = 3 := ws_3 (by omega)
      have hq_ : qj (txb ct z.toInt) s0.toInt 3 = 0 := wp4_0 (by omega)
      have hv_ := wd_f hs_ (Or.inr (fun h_ => absurd (hq_.symm.trans h_) (by decide)))
      exact lt_m_readsAct_c1 l D cI cZ cS cR N0 g h s0 rz wt na pa z t ct r_h r_na n_na r_pa n_pa r_wt n_wt r_t n_t krz ks0 kw0 kwt kna kpa kz kt l_rz u_rz l_s0 u_s0 hN_0 hWT_0 l_z u_z hc_0 hB hr   g_201 (3 : Int32) s2_202 H locs ls hT hI hE hM (by decide) (by decide) (by omega) (by omega) kn_218 f_205 f_206 hN hc hWT (ac_n hv_.1 (by have q_ := hv_.2; rw [hq_] at q_; omega)) (lv_sub hl [1, 2] rfl)
  · have c_24' : r_16.toInt ≠ 110 := i_ne c_24 rfl (by decide)
    refine lv_iinc (v := 4) (lv' := [(1, .int 4), (0, .ref h)]) hx hb dX7_readsAct_59 hl (k := 0) rfl (by decide) (by decide) rfl (fun ls hl => ?_)
    refine lv_goto (tgt := 34) hx hb dX7_readsAct_62 (by decide) ?_
    exact lt_m_readsAct_w4 l D cI cZ cS cR N0 g h s0 rz wt na pa z t ct r_h r_na n_na r_pa n_pa r_wt n_wt r_t n_t krz ks0 kw0 kwt kna kpa kz kt l_rz u_rz l_s0 u_s0 hN_0 hWT_0 l_z u_z hc_0 hB hr   g1 H locs ls hT hI hE hM kp0 kp1 kp2 hN hc hWT (by omega) (lv_sub hl [0, 1] rfl)
set_option maxHeartbeats 4000000 in
set_option maxRecDepth 100000 in
theorem lt_m_readsAct_w2 (l : Launch) (D : va_G) (cI cZ cS cR : ClassId) (N0 : NT) (g : GS) (h : Nat) (s0 : Int32) (rz : Int32) (wt : Nat) (na : Nat) (pa : Nat) (z : Int32) (t : Nat) (ct : Nat → Int32) (r_h : g.1 h = 8) (r_na : g.1 na = 84) (n_na : g.2.2.1 na = 8) (r_pa : g.1 pa = 85) (n_pa : g.2.2.1 pa = 8) (r_wt : g.1 wt = 87) (n_wt : g.2.2.1 wt = 24) (r_t : g.1 t = 79) (n_t : g.2.2.1 t = 100) (krz : g.2.1 h 38 = .int rz) (ks0 : g.2.1 h 36 = .int s0) (kw0 : g.2.1 h 37 = .int 0) (kwt : g.2.1 h 42 = .ref wt) (kna : g.2.1 h 39 = .ref na) (kpa : g.2.1 h 40 = .ref pa) (kz : g.2.1 h 29 = .int z) (kt : g.2.1 h 28 = .ref t) (l_rz : 0 ≤ rz.toInt) (u_rz : rz.toInt ≤ 7) (l_s0 : 0 ≤ s0.toInt) (u_s0 : s0.toInt ≤ 100) (hN_0 : PL 8 g na pa) (hWT_0 : WT g wt) (l_z : 0 ≤ z.toInt) (u_z : z.toInt ≤ 100) (hc_0 : g.2.2.2.1 t = ct) {p : Program} {e : Env} {s : State} {m : MethodId} {args : Array Value} {below : List Frame} {meth : Method} {c : Code} (hB : Tz p s m meth c args cX7_readsAct 4 RX7 D cI cZ cS cR N0) (hr : meth.sig.returnType = none)    : ∀ (g1 : GS)   (H : Heap) (locs : List Loc) (ls : Array Slot), Tv D cI cZ cS cR N0 s.heap H locs g1 → Inv g1 → Ex g g1 → Sm md_m_readsAct g g1 → g1.2.1 h 38 = .int rz → g1.2.1 h 36 = .int s0 → g1.2.1 h 37 = .int 0 → (PL 8 g1 na pa) → (g1.2.2.2.1 t = ct) → (WT g1 wt) → (¬ ((txb ct z.toInt) s0.toInt = 97 ∧ (txb ct z.toInt) (s0.toInt + 1) = 115) ∧ (txb ct z.toInt) s0.toInt ≠ 115 ∧ (txb ct z.toInt) s0.toInt ≠ 97) → lv_has ls 4 [(1, .int 2), (0, .ref h)] → W p l e (rmx 2 0 0) s m args below meth c H locs 0 0 (MQ below (tQ D cI cZ cS cR N0 (fun v g' => ∃ (z2 : Int32) (s2 : Int32) (w2 : Int32), v = none ∧ Inv g' ∧ Ex g g' ∧ Sm md_m_readsAct g g' ∧ ((w2 = 1 ∧ ac (txb ct z.toInt) s0.toInt = (false, s2.toInt)) ∨ (w2 = 0 ∧ ac (txb ct z.toInt) s0.toInt = (true, s2.toInt) ∧ s2.toInt ≤ z.toInt)) ∧ (g'.2.1 h 38 = .int z2) ∧ (z2.toInt = rz.toInt + 1) ∧ (PL 8 g' na pa) ∧ (g'.2.1 h 36 = .int s2) ∧ (g'.2.1 h 37 = .int w2) ∧ (0 ≤ s2.toInt ∧ s2.toInt ≤ 100))) args s 0 0 (fun q => N0.1 ≤ q)) (F0 m 34 ls []) := by
  have hx := hB.1
  have hb := hB.2.1
  intro g1 H locs ls hT hI hE hM kp0 kp1 kp2 hN hc hWT hS hl
  have r_1 : g1.1 h = 8 := Ex.r hE r_h (by decide)
  have r_2 : g1.1 na = 84 := Ex.r hE r_na (by decide)
  have n_3 : g1.2.2.1 na = 8 := Ex.n hE r_na (by decide) n_na
  have r_4 : g1.1 pa = 85 := Ex.r hE r_pa (by decide)
  have n_5 : g1.2.2.1 pa = 8 := Ex.n hE r_pa (by decide) n_pa
  have r_6 : g1.1 wt = 87 := Ex.r hE r_wt (by decide)
  have n_7 : g1.2.2.1 wt = 24 := Ex.n hE r_wt (by decide) n_wt
  have r_8 : g1.1 t = 79 := Ex.r hE r_t (by decide)
  have n_9 : g1.2.2.1 t = 100 := Ex.n hE r_t (by decide) n_t
  have kn_10 : g1.2.1 h 42 = .ref wt := Sm.v hM r_h (by decide) rfl kwt
  have kn_11 : g1.2.1 h 39 = .ref na := Sm.v hM r_h (by decide) rfl kna
  have kn_12 : g1.2.1 h 40 = .ref pa := Sm.v hM r_h (by decide) rfl kpa
  have kn_13 : g1.2.1 h 29 = .int z := Sm.v hM r_h (by decide) rfl kz
  have kn_14 : g1.2.1 h 28 = .ref t := Sm.v hM r_h (by decide) rfl kt
  refine lv_iload_n hx hb dX7_readsAct_34 rfl (lv_at hl 0 rfl) ?_
  refine lv_bipush (v := 8) hx hb dX7_readsAct_35 (by decide) ?_
  refine lv_icmp_ge (tgt := 65) hx hb dX7_readsAct_37 (by decide) (fun c_ => absurd c_ (by decide)) (fun c_ => ?_)
  refine lv_aload_n hx hb dX7_readsAct_40 rfl (lv_at hl 1 rfl) ?_
  refine lv_aload_n hx hb dX7_readsAct_41 rfl (lv_at hl 1 rfl) ?_
  refine t_get (ci := 7) (v := .int s0) hB hT (ro_ci r_1 rfl) rfl 36 (by decide) k_781 kp1 dX7_readsAct_42 ?_
  refine t_callV (n := 1) (As := [.int s0]) (rest := []) (ci := 7) hB hT hl.1 (m_byteAt l D cI cZ cS cR N0 g1 hI h s0 z t ct r_1 r_8 n_9 kn_13 kn_14 (by omega) (by omega) (by omega) (by omega) hc) (ro_ci r_1 rfl) rfl k_971 k_65 k_968 k_970 k_23 (by decide +kernel) ⟨(Nat.le_of_ble_eq_true rfl), (Nat.le_of_ble_eq_true rfl)⟩ rfl (Nat.le_of_ble_eq_true rfl) ⟨(Nat.le_of_ble_eq_true rfl), (Nat.le_of_ble_eq_true rfl)⟩ dX7_readsAct_45 (fun v g_15 H locs hp hT => ?_)
  obtain ⟨r_16, rfl, eg, f_17, f_18, f_19⟩ := hp
  rw [eg] at hT
  clear eg
  refine W.eq (g2 := F0 m 48 ls [.int r_16]) rfl ?_
  refine lv_aload_n hx hb dX7_readsAct_48 rfl (lv_at hl 1 rfl) ?_
  refine t_get (ci := 7) (v := .ref wt) hB hT (ro_ci r_1 rfl) rfl 42 (by decide) k_787 kn_10 dX7_readsAct_49 ?_
  refine lv_iconst (v := 3) hx hb dX7_readsAct_52 (by decide) ?_
  refine lv_iload_n hx hb dX7_readsAct_53 rfl (lv_at hl 0 rfl) ?_
  refine lv_imul hx hb dX7_readsAct_54 ?_
  refine x_ev (y := 6) (by decide) ?_
  have kw_22 : g1.2.2.2.1 wt (6 : Int32).toNatClampNeg = 109 := (hWT (6 : Int32).toNatClampNeg (by decide)).trans (by decide)
  have i_u_23 : vp_in (6 : Int32) 24 := (by unfold vp_in; decide)
  refine t_iald (v := (109 : Int32)) hB hT (ro_in r_6 (by decide)) n_7 i_u_23 kw_22 dX7_readsAct_55 ?_
  refine lv_icmp_eq (tgt := 65) hx hb dX7_readsAct_56 (by decide) (fun c_24 => ?_) (fun c_24 => ?_)
  · have c_24' : r_16.toInt = 109 := i_eq c_24 rfl (by decide)
    refine lv_aload_n hx hb dX7_readsAct_65 rfl (lv_at hl 1 rfl) ?_
    refine lv_aload_n hx hb dX7_readsAct_66 rfl (lv_at hl 1 rfl) ?_
    refine t_get (ci := 7) (v := .int 0) hB hT (ro_ci r_1 rfl) rfl 37 (by decide) k_782 kp2 dX7_readsAct_67 ?_
    refine lv_if_ne (tgt := 79) hx hb dX7_readsAct_70 (by decide) (fun c_ => absurd (by decide) c_) (fun c_ => ?_)
    refine lv_iload_n hx hb dX7_readsAct_73 rfl (lv_at hl 0 rfl) ?_
    refine lv_bipush (v := 8) hx hb dX7_readsAct_74 (by decide) ?_
    refine lv_icmp_ne (tgt := 83) hx hb dX7_readsAct_76 (by decide) (fun c_ => ?_) (fun c_ => absurd c_ (by decide))
    refine lv_iconst (v := 0) hx hb dX7_readsAct_83 (by decide) ?_
    refine t_put0 (ci := 7) (v := .int 0) hB hT (ro_ci r_1 rfl) (ro_n0 r_1 (by decide)) rfl 37 (by decide) k_782 (Or.inl rfl) rfl rfl dX7_readsAct_84 (fun H locs hT => ?_)
    have hI : Inv (sF g1 h 37 (.int 0)) := hI.sF (p_8_37 r_1 (⟨_, rfl, by decide, by decide⟩))
    have hM : Sm md_m_readsAct g (sF g1 h 37 (.int 0)) := hM.tr hE (Sm_sF (by rw [r_1]; rfl))
    have hE : Ex g (sF g1 h 37 (.int 0)) := hE
    have hN : PL 8 (sF g1 h 37 (.int 0)) na pa := hN
    have hc : (sF g1 h 37 (.int 0)).2.2.2.1 t = ct := hc
    have hWT : WT (sF g1 h 37 (.int 0)) wt := hWT
    refine lv_iconst (v := 0) hx hb dX7_readsAct_87 (by decide) ?_
    refine lv_istore_n (lv' := [(2, .int 0), (1, .int 2), (0, .ref h)]) hx hb dX7_readsAct_88 rfl hl (by decide) rfl (fun ls hl => ?_)
    refine lv_iload_n hx hb dX7_readsAct_89 rfl (lv_at hl 0 rfl) ?_
    refine lv_iconst (v := 3) hx hb dX7_readsAct_90 (by decide) ?_
    refine lv_icmp_ge (tgt := 134) hx hb dX7_readsAct_91 (by decide) (fun c_ => absurd c_ (by decide)) (fun c_ => ?_)
    refine lv_aload_n hx hb dX7_readsAct_94 rfl (lv_at hl 2 rfl) ?_
    refine t_get (ci := 7) (v := .int 0) hB hT (ro_ci r_1 rfl) rfl 37 (by decide) k_782 sF_eq dX7_readsAct_95 ?_
    refine lv_if_ne (tgt := 134) hx hb dX7_readsAct_98 (by decide) (fun c_ => absurd (by decide) c_) (fun c_ => ?_)
    refine lv_aload_n hx hb dX7_readsAct_101 rfl (lv_at hl 2 rfl) ?_
    refine t_get (ci := 7) (v := .ref wt) hB hT (ro_ci r_1 rfl) rfl 42 (by decide) k_787 (sF_k kn_10 (by decide)) dX7_readsAct_102 ?_
    refine lv_iconst (v := 3) hx hb dX7_readsAct_105 (by decide) ?_
    refine lv_iload_n hx hb dX7_readsAct_106 rfl (lv_at hl 1 rfl) ?_
    refine lv_imul hx hb dX7_readsAct_107 ?_
    refine x_ev (y := 6) (by decide) ?_
    refine lv_iload_n hx hb dX7_readsAct_108 rfl (lv_at hl 0 rfl) ?_
    refine lv_iadd hx hb dX7_readsAct_109 ?_
    refine x_ev (y := 6) (by decide) ?_
    have kw_25 : (sF g1 h 37 (.int 0)).2.2.2.1 wt (6 : Int32).toNatClampNeg = 109 := (hWT (6 : Int32).toNatClampNeg (by decide)).trans (by decide)
    have i_u_26 : vp_in (6 : Int32) 24 := (by unfold vp_in; decide)
    refine t_iald (v := (109 : Int32)) hB hT (ro_in r_6 (by decide)) n_7 i_u_26 kw_25 dX7_readsAct_110 ?_
    refine lv_if_eq (tgt := 128) hx hb dX7_readsAct_111 (by decide) (fun c_ => absurd c_ (by decide)) (fun c_ => ?_)
    refine lv_aload_n hx hb dX7_readsAct_114 rfl (lv_at hl 2 rfl) ?_
    refine lv_aload_n hx hb dX7_readsAct_115 rfl (lv_at hl 2 rfl) ?_
    refine t_get (ci := 7) (v := .ref wt) hB hT (ro_ci r_1 rfl) rfl 42 (by decide) k_787 (sF_k kn_10 (by decide)) dX7_readsAct_116 ?_
    refine lv_iconst (v := 3) hx hb dX7_readsAct_119 (by decide) ?_
    refine lv_iload_n hx hb dX7_readsAct_120 rfl (lv_at hl 1 rfl) ?_
    refine lv_imul hx hb dX7_readsAct_121 ?_
    refine x_ev (y := 6) (by decide) ?_
    refine lv_iload_n hx hb dX7_readsAct_122 rfl (lv_at hl 0 rfl) ?_
    refine lv_iadd hx hb dX7_readsAct_123 ?_
    refine x_ev (y := 6) (by decide) ?_
    have kw_27 : (sF g1 h 37 (.int 0)).2.2.2.1 wt (6 : Int32).toNatClampNeg = 109 := (hWT (6 : Int32).toNatClampNeg (by decide)).trans (by decide)
    have i_u_28 : vp_in (6 : Int32) 24 := (by unfold vp_in; decide)
    refine t_iald (v := (109 : Int32)) hB hT (ro_in r_6 (by decide)) n_7 i_u_28 kw_27 dX7_readsAct_124 ?_
    refine t_callV (n := 1) (As := [.int 109]) (rest := []) (ci := 7) hB hT hl.1 (m_must l D cI cZ cS cR N0 (sF g1 h 37 (.int 0)) hI h 109 s0 0 z t ct r_1 r_8 n_9 (sF_k kp1 (by decide)) sF_eq (sF_k kn_13 (by decide)) (sF_k kn_14 (by decide)) (by have q0 : (0 : Int32).toInt = 0 := (by decide); have q1 : (109 : Int32).toInt = 109 := (by decide); omega) (by have q0 : (0 : Int32).toInt = 0 := (by decide); have q1 : (109 : Int32).toInt = 109 := (by decide); omega) (by have q0 : (0 : Int32).toInt = 0 := (by decide); have q1 : (109 : Int32).toInt = 109 := (by decide); omega) (by have q0 : (0 : Int32).toInt = 0 := (by decide); have q1 : (109 : Int32).toInt = 109 := (by decide); omega) (by have q0 : (0 : Int32).toInt = 0 := (by decide); have q1 : (109 : Int32).toInt = 109 := (by decide); omega) (by have q0 : (0 : Int32).toInt = 0 := (by decide); have q1 : (109 : Int32).toInt = 109 := (by decide); omega) (by have q0 : (0 : Int32).toInt = 0 := (by decide); have q1 : (109 : Int32).toInt = 109 := (by decide); omega) hc) (ro_ci r_1 rfl) rfl k_975 k_65 k_972 k_974 k_24 (by decide +kernel) ⟨(Nat.le_of_ble_eq_true rfl), (Nat.le_of_ble_eq_true rfl)⟩ rfl (Nat.le_of_ble_eq_true rfl) ⟨(Nat.le_of_ble_eq_true rfl), (Nat.le_of_ble_eq_true rfl)⟩ dX7_readsAct_125 (fun v g_29 H locs hp hT => ?_)
    obtain ⟨s2_30, w2_31, rfl, hI, x_36, m_35, f_32, f_33, f_34⟩ := hp
    have hN : PL 8 g_29 na pa := hN.sm m_35 r_2 (by decide) rfl r_4 (by decide) rfl
    have hc : g_29.2.2.2.1 t = ct := (Sm.cf m_35 r_8 (by decide) rfl).trans hc
    have hWT : WT g_29 wt := hWT.sm m_35 r_6 (by decide) rfl
    have hM : Sm md_m_readsAct g g_29 := hM.tr hE (m_35.mo (fun r k h => mdle_m_readsAct_m_must h))
    have hE : Ex g g_29 := hE.tr x_36
    have r_37 : g_29.1 h = 8 := (Ex.r x_36 r_1 (by decide))
    have r_38 : g_29.1 na = 84 := (Ex.r x_36 r_2 (by decide))
    have r_39 : g_29.1 pa = 85 := (Ex.r x_36 r_4 (by decide))
    have r_40 : g_29.1 wt = 87 := (Ex.r x_36 r_6 (by decide))
    have r_41 : g_29.1 t = 79 := (Ex.r x_36 r_8 (by decide))
    have n_42 : g_29.2.2.1 na = 8 := (Ex.n x_36 r_2 (by decide) n_3)
    have n_43 : g_29.2.2.1 pa = 8 := (Ex.n x_36 r_4 (by decide) n_5)
    have n_44 : g_29.2.2.1 wt = 24 := (Ex.n x_36 r_6 (by decide) n_7)
    have n_45 : g_29.2.2.1 t = 100 := (Ex.n x_36 r_8 (by decide) n_9)
    have kn_46 : g_29.2.1 h 38 = .int rz := (Sm.v m_35 r_1 (by decide) rfl (sF_k kp0 (by decide)))
    have kn_47 : g_29.2.1 h 42 = .ref wt := (Sm.v m_35 r_1 (by decide) rfl (sF_k kn_10 (by decide)))
    have kn_48 : g_29.2.1 h 39 = .ref na := (Sm.v m_35 r_1 (by decide) rfl (sF_k kn_11 (by decide)))
    have kn_49 : g_29.2.1 h 40 = .ref pa := (Sm.v m_35 r_1 (by decide) rfl (sF_k kn_12 (by decide)))
    have kn_50 : g_29.2.1 h 29 = .int z := (Sm.v m_35 r_1 (by decide) rfl (sF_k kn_13 (by decide)))
    have kn_51 : g_29.2.1 h 28 = .ref t := (Sm.v m_35 r_1 (by decide) rfl (sF_k kn_14 (by decide)))
    have kn_52 : g_29.2.2.2.1 wt (6 : Int32).toNatClampNeg = 109 := (Sm.c m_35 r_6 (by decide) rfl kw_27)
    refine W.eq (g2 := F0 m 128 ls []) rfl ?_
    have qc_53 : (0 : Int32).toInt = 0 := (by decide)
    have qc_54 : (109 : Int32).toInt = 109 := (by decide)
    rcases f_32 with ⟨hx_, -⟩ | ⟨-, ht_s2_30, hs_s2_30, hz_s2_30, hw_s2_30⟩ | ⟨-, ht_s2_30, hs_s2_30, hw_s2_30⟩
    · exact absurd hx_ (by decide)
    · have ew_ : w2_31 = 0 := i_inj (hw_s2_30.trans (by decide))
      subst ew_
      refine lv_iinc (v := 1) (lv' := [(2, .int 1), (1, .int 2), (0, .ref h)]) hx hb dX7_readsAct_128 hl (k := 0) rfl (by decide) (by decide) rfl (fun ls hl => ?_)
      refine lv_goto (tgt := 89) hx hb dX7_readsAct_131 (by decide) ?_
      refine lv_iload_n hx hb dX7_readsAct_89 rfl (lv_at hl 0 rfl) ?_
      refine lv_iconst (v := 3) hx hb dX7_readsAct_90 (by decide) ?_
      refine lv_icmp_ge (tgt := 134) hx hb dX7_readsAct_91 (by decide) (fun c_ => absurd c_ (by decide)) (fun c_ => ?_)
      refine lv_aload_n hx hb dX7_readsAct_94 rfl (lv_at hl 2 rfl) ?_
      refine t_get (ci := 7) (v := .int 0) hB hT (ro_ci r_37 rfl) rfl 37 (by decide) k_782 f_34 dX7_readsAct_95 ?_
      refine lv_if_ne (tgt := 134) hx hb dX7_readsAct_98 (by decide) (fun c_ => absurd (by decide) c_) (fun c_ => ?_)
      refine lv_aload_n hx hb dX7_readsAct_101 rfl (lv_at hl 2 rfl) ?_
      refine t_get (ci := 7) (v := .ref wt) hB hT (ro_ci r_37 rfl) rfl 42 (by decide) k_787 kn_47 dX7_readsAct_102 ?_
      refine lv_iconst (v := 3) hx hb dX7_readsAct_105 (by decide) ?_
      refine lv_iload_n hx hb dX7_readsAct_106 rfl (lv_at hl 1 rfl) ?_
      refine lv_imul hx hb dX7_readsAct_107 ?_
      refine x_ev (y := 6) (by decide) ?_
      refine lv_iload_n hx hb dX7_readsAct_108 rfl (lv_at hl 0 rfl) ?_
      refine lv_iadd hx hb dX7_readsAct_109 ?_
      refine x_ev (y := 7) (by decide) ?_
      have kw_55 : g_29.2.2.2.1 wt (7 : Int32).toNatClampNeg = 97 := (hWT (7 : Int32).toNatClampNeg (by decide)).trans (by decide)
      have i_u_56 : vp_in (7 : Int32) 24 := (by unfold vp_in; decide)
      refine t_iald (v := (97 : Int32)) hB hT (ro_in r_40 (by decide)) n_44 i_u_56 kw_55 dX7_readsAct_110 ?_
      refine lv_if_eq (tgt := 128) hx hb dX7_readsAct_111 (by decide) (fun c_ => absurd c_ (by decide)) (fun c_ => ?_)
      refine lv_aload_n hx hb dX7_readsAct_114 rfl (lv_at hl 2 rfl) ?_
      refine lv_aload_n hx hb dX7_readsAct_115 rfl (lv_at hl 2 rfl) ?_
      refine t_get (ci := 7) (v := .ref wt) hB hT (ro_ci r_37 rfl) rfl 42 (by decide) k_787 kn_47 dX7_readsAct_116 ?_
      refine lv_iconst (v := 3) hx hb dX7_readsAct_119 (by decide) ?_
      refine lv_iload_n hx hb dX7_readsAct_120 rfl (lv_at hl 1 rfl) ?_
      refine lv_imul hx hb dX7_readsAct_121 ?_
      refine x_ev (y := 6) (by decide) ?_
      refine lv_iload_n hx hb dX7_readsAct_122 rfl (lv_at hl 0 rfl) ?_
      refine lv_iadd hx hb dX7_readsAct_123 ?_
      refine x_ev (y := 7) (by decide) ?_
      have kw_57 : g_29.2.2.2.1 wt (7 : Int32).toNatClampNeg = 97 := (hWT (7 : Int32).toNatClampNeg (by decide)).trans (by decide)
      have i_u_58 : vp_in (7 : Int32) 24 := (by unfold vp_in; decide)
      refine t_iald (v := (97 : Int32)) hB hT (ro_in r_40 (by decide)) n_44 i_u_58 kw_57 dX7_readsAct_124 ?_
      refine t_callV (n := 1) (As := [.int 97]) (rest := []) (ci := 7) hB hT hl.1 (m_must l D cI cZ cS cR N0 g_29 hI h 97 s2_30 0 z t ct r_37 r_41 n_45 f_33 f_34 kn_50 kn_51 (by have q0 : (0 : Int32).toInt = 0 := (by decide); have q1 : (97 : Int32).toInt = 97 := (by decide); omega) (by have q0 : (0 : Int32).toInt = 0 := (by decide); have q1 : (97 : Int32).toInt = 97 := (by decide); omega) (by have q0 : (0 : Int32).toInt = 0 := (by decide); have q1 : (97 : Int32).toInt = 97 := (by decide); omega) (by have q0 : (0 : Int32).toInt = 0 := (by decide); have q1 : (97 : Int32).toInt = 97 := (by decide); omega) (by have q0 : (0 : Int32).toInt = 0 := (by decide); have q1 : (97 : Int32).toInt = 97 := (by decide); omega) (by have q0 : (0 : Int32).toInt = 0 := (by decide); have q1 : (97 : Int32).toInt = 97 := (by decide); omega) (by have q0 : (0 : Int32).toInt = 0 := (by decide); have q1 : (97 : Int32).toInt = 97 := (by decide); omega) hc) (ro_ci r_37 rfl) rfl k_975 k_65 k_972 k_974 k_24 (by decide +kernel) ⟨(Nat.le_of_ble_eq_true rfl), (Nat.le_of_ble_eq_true rfl)⟩ rfl (Nat.le_of_ble_eq_true rfl) ⟨(Nat.le_of_ble_eq_true rfl), (Nat.le_of_ble_eq_true rfl)⟩ dX7_readsAct_125 (fun v g_59 H locs hp hT => ?_)
      obtain ⟨s2_60, w2_61, rfl, hI, x_66, m_65, f_62, f_63, f_64⟩ := hp
      have hN : PL 8 g_59 na pa := hN.sm m_65 r_38 (by decide) rfl r_39 (by decide) rfl
      have hc : g_59.2.2.2.1 t = ct := (Sm.cf m_65 r_41 (by decide) rfl).trans hc
      have hWT : WT g_59 wt := hWT.sm m_65 r_40 (by decide) rfl
      have hM : Sm md_m_readsAct g g_59 := hM.tr hE (m_65.mo (fun r k h => mdle_m_readsAct_m_must h))
      have hE : Ex g g_59 := hE.tr x_66
      have r_67 : g_59.1 h = 8 := (Ex.r x_66 r_37 (by decide))
      have r_68 : g_59.1 na = 84 := (Ex.r x_66 r_38 (by decide))
      have r_69 : g_59.1 pa = 85 := (Ex.r x_66 r_39 (by decide))
      have r_70 : g_59.1 wt = 87 := (Ex.r x_66 r_40 (by decide))
      have r_71 : g_59.1 t = 79 := (Ex.r x_66 r_41 (by decide))
      have n_72 : g_59.2.2.1 na = 8 := (Ex.n x_66 r_38 (by decide) n_42)
      have n_73 : g_59.2.2.1 pa = 8 := (Ex.n x_66 r_39 (by decide) n_43)
      have n_74 : g_59.2.2.1 wt = 24 := (Ex.n x_66 r_40 (by decide) n_44)
      have n_75 : g_59.2.2.1 t = 100 := (Ex.n x_66 r_41 (by decide) n_45)
      have kn_76 : g_59.2.1 h 38 = .int rz := (Sm.v m_65 r_37 (by decide) rfl kn_46)
      have kn_77 : g_59.2.1 h 42 = .ref wt := (Sm.v m_65 r_37 (by decide) rfl kn_47)
      have kn_78 : g_59.2.1 h 39 = .ref na := (Sm.v m_65 r_37 (by decide) rfl kn_48)
      have kn_79 : g_59.2.1 h 40 = .ref pa := (Sm.v m_65 r_37 (by decide) rfl kn_49)
      have kn_80 : g_59.2.1 h 29 = .int z := (Sm.v m_65 r_37 (by decide) rfl kn_50)
      have kn_81 : g_59.2.1 h 28 = .ref t := (Sm.v m_65 r_37 (by decide) rfl kn_51)
      have kn_82 : g_59.2.2.2.1 wt (6 : Int32).toNatClampNeg = 109 := (Sm.c m_65 r_40 (by decide) rfl kn_52)
      have kn_83 : g_59.2.2.2.1 wt (7 : Int32).toNatClampNeg = 97 := (Sm.c m_65 r_40 (by decide) rfl kw_57)
      refine W.eq (g2 := F0 m 128 ls []) rfl ?_
      have qc_84 : (0 : Int32).toInt = 0 := (by decide)
      have qc_85 : (97 : Int32).toInt = 97 := (by decide)
      rcases f_62 with ⟨hx_, -⟩ | ⟨-, ht_s2_60, hs_s2_60, hz_s2_60, hw_s2_60⟩ | ⟨-, ht_s2_60, hs_s2_60, hw_s2_60⟩
      · exact absurd hx_ (by decide)
      · have ew_ : w2_61 = 0 := i_inj (hw_s2_60.trans (by decide))
        subst ew_
        rw [show s2_30.toInt = s0.toInt + 1 by omega] at ht_s2_60
        refine lv_iinc (v := 2) (lv' := [(2, .int 2), (1, .int 2), (0, .ref h)]) hx hb dX7_readsAct_128 hl (k := 0) rfl (by decide) (by decide) rfl (fun ls hl => ?_)
        refine lv_goto (tgt := 89) hx hb dX7_readsAct_131 (by decide) ?_
        refine lv_iload_n hx hb dX7_readsAct_89 rfl (lv_at hl 0 rfl) ?_
        refine lv_iconst (v := 3) hx hb dX7_readsAct_90 (by decide) ?_
        refine lv_icmp_ge (tgt := 134) hx hb dX7_readsAct_91 (by decide) (fun c_ => absurd c_ (by decide)) (fun c_ => ?_)
        refine lv_aload_n hx hb dX7_readsAct_94 rfl (lv_at hl 2 rfl) ?_
        refine t_get (ci := 7) (v := .int 0) hB hT (ro_ci r_67 rfl) rfl 37 (by decide) k_782 f_64 dX7_readsAct_95 ?_
        refine lv_if_ne (tgt := 134) hx hb dX7_readsAct_98 (by decide) (fun c_ => absurd (by decide) c_) (fun c_ => ?_)
        refine lv_aload_n hx hb dX7_readsAct_101 rfl (lv_at hl 2 rfl) ?_
        refine t_get (ci := 7) (v := .ref wt) hB hT (ro_ci r_67 rfl) rfl 42 (by decide) k_787 kn_77 dX7_readsAct_102 ?_
        refine lv_iconst (v := 3) hx hb dX7_readsAct_105 (by decide) ?_
        refine lv_iload_n hx hb dX7_readsAct_106 rfl (lv_at hl 1 rfl) ?_
        refine lv_imul hx hb dX7_readsAct_107 ?_
        refine x_ev (y := 6) (by decide) ?_
        refine lv_iload_n hx hb dX7_readsAct_108 rfl (lv_at hl 0 rfl) ?_
        refine lv_iadd hx hb dX7_readsAct_109 ?_
        refine x_ev (y := 8) (by decide) ?_
        have kw_86 : g_59.2.2.2.1 wt (8 : Int32).toNatClampNeg = 120 := (hWT (8 : Int32).toNatClampNeg (by decide)).trans (by decide)
        have i_u_87 : vp_in (8 : Int32) 24 := (by unfold vp_in; decide)
        refine t_iald (v := (120 : Int32)) hB hT (ro_in r_70 (by decide)) n_74 i_u_87 kw_86 dX7_readsAct_110 ?_
        refine lv_if_eq (tgt := 128) hx hb dX7_readsAct_111 (by decide) (fun c_ => absurd c_ (by decide)) (fun c_ => ?_)
        refine lv_aload_n hx hb dX7_readsAct_114 rfl (lv_at hl 2 rfl) ?_
        refine lv_aload_n hx hb dX7_readsAct_115 rfl (lv_at hl 2 rfl) ?_
        refine t_get (ci := 7) (v := .ref wt) hB hT (ro_ci r_67 rfl) rfl 42 (by decide) k_787 kn_77 dX7_readsAct_116 ?_
        refine lv_iconst (v := 3) hx hb dX7_readsAct_119 (by decide) ?_
        refine lv_iload_n hx hb dX7_readsAct_120 rfl (lv_at hl 1 rfl) ?_
        refine lv_imul hx hb dX7_readsAct_121 ?_
        refine x_ev (y := 6) (by decide) ?_
        refine lv_iload_n hx hb dX7_readsAct_122 rfl (lv_at hl 0 rfl) ?_
        refine lv_iadd hx hb dX7_readsAct_123 ?_
        refine x_ev (y := 8) (by decide) ?_
        have kw_88 : g_59.2.2.2.1 wt (8 : Int32).toNatClampNeg = 120 := (hWT (8 : Int32).toNatClampNeg (by decide)).trans (by decide)
        have i_u_89 : vp_in (8 : Int32) 24 := (by unfold vp_in; decide)
        refine t_iald (v := (120 : Int32)) hB hT (ro_in r_70 (by decide)) n_74 i_u_89 kw_88 dX7_readsAct_124 ?_
        refine t_callV (n := 1) (As := [.int 120]) (rest := []) (ci := 7) hB hT hl.1 (m_must l D cI cZ cS cR N0 g_59 hI h 120 s2_60 0 z t ct r_67 r_71 n_75 f_63 f_64 kn_80 kn_81 (by have q0 : (0 : Int32).toInt = 0 := (by decide); have q1 : (120 : Int32).toInt = 120 := (by decide); omega) (by have q0 : (0 : Int32).toInt = 0 := (by decide); have q1 : (120 : Int32).toInt = 120 := (by decide); omega) (by have q0 : (0 : Int32).toInt = 0 := (by decide); have q1 : (120 : Int32).toInt = 120 := (by decide); omega) (by have q0 : (0 : Int32).toInt = 0 := (by decide); have q1 : (120 : Int32).toInt = 120 := (by decide); omega) (by have q0 : (0 : Int32).toInt = 0 := (by decide); have q1 : (120 : Int32).toInt = 120 := (by decide); omega) (by have q0 : (0 : Int32).toInt = 0 := (by decide); have q1 : (120 : Int32).toInt = 120 := (by decide); omega) (by have q0 : (0 : Int32).toInt = 0 := (by decide); have q1 : (120 : Int32).toInt = 120 := (by decide); omega) hc) (ro_ci r_67 rfl) rfl k_975 k_65 k_972 k_974 k_24 (by decide +kernel) ⟨(Nat.le_of_ble_eq_true rfl), (Nat.le_of_ble_eq_true rfl)⟩ rfl (Nat.le_of_ble_eq_true rfl) ⟨(Nat.le_of_ble_eq_true rfl), (Nat.le_of_ble_eq_true rfl)⟩ dX7_readsAct_125 (fun v g_90 H locs hp hT => ?_)
        obtain ⟨s2_91, w2_92, rfl, hI, x_97, m_96, f_93, f_94, f_95⟩ := hp
        have hN : PL 8 g_90 na pa := hN.sm m_96 r_68 (by decide) rfl r_69 (by decide) rfl
        have hc : g_90.2.2.2.1 t = ct := (Sm.cf m_96 r_71 (by decide) rfl).trans hc
        have hWT : WT g_90 wt := hWT.sm m_96 r_70 (by decide) rfl
        have hM : Sm md_m_readsAct g g_90 := hM.tr hE (m_96.mo (fun r k h => mdle_m_readsAct_m_must h))
        have hE : Ex g g_90 := hE.tr x_97
        have r_98 : g_90.1 h = 8 := (Ex.r x_97 r_67 (by decide))
        have r_99 : g_90.1 na = 84 := (Ex.r x_97 r_68 (by decide))
        have r_100 : g_90.1 pa = 85 := (Ex.r x_97 r_69 (by decide))
        have r_101 : g_90.1 wt = 87 := (Ex.r x_97 r_70 (by decide))
        have r_102 : g_90.1 t = 79 := (Ex.r x_97 r_71 (by decide))
        have n_103 : g_90.2.2.1 na = 8 := (Ex.n x_97 r_68 (by decide) n_72)
        have n_104 : g_90.2.2.1 pa = 8 := (Ex.n x_97 r_69 (by decide) n_73)
        have n_105 : g_90.2.2.1 wt = 24 := (Ex.n x_97 r_70 (by decide) n_74)
        have n_106 : g_90.2.2.1 t = 100 := (Ex.n x_97 r_71 (by decide) n_75)
        have kn_107 : g_90.2.1 h 38 = .int rz := (Sm.v m_96 r_67 (by decide) rfl kn_76)
        have kn_108 : g_90.2.1 h 42 = .ref wt := (Sm.v m_96 r_67 (by decide) rfl kn_77)
        have kn_109 : g_90.2.1 h 39 = .ref na := (Sm.v m_96 r_67 (by decide) rfl kn_78)
        have kn_110 : g_90.2.1 h 40 = .ref pa := (Sm.v m_96 r_67 (by decide) rfl kn_79)
        have kn_111 : g_90.2.1 h 29 = .int z := (Sm.v m_96 r_67 (by decide) rfl kn_80)
        have kn_112 : g_90.2.1 h 28 = .ref t := (Sm.v m_96 r_67 (by decide) rfl kn_81)
        have kn_113 : g_90.2.2.2.1 wt (6 : Int32).toNatClampNeg = 109 := (Sm.c m_96 r_70 (by decide) rfl kn_82)
        have kn_114 : g_90.2.2.2.1 wt (7 : Int32).toNatClampNeg = 97 := (Sm.c m_96 r_70 (by decide) rfl kn_83)
        have kn_115 : g_90.2.2.2.1 wt (8 : Int32).toNatClampNeg = 120 := (Sm.c m_96 r_70 (by decide) rfl kw_88)
        refine W.eq (g2 := F0 m 128 ls []) rfl ?_
        have qc_116 : (0 : Int32).toInt = 0 := (by decide)
        have qc_117 : (120 : Int32).toInt = 120 := (by decide)
        rcases f_93 with ⟨hx_, -⟩ | ⟨-, ht_s2_91, hs_s2_91, hz_s2_91, hw_s2_91⟩ | ⟨-, ht_s2_91, hs_s2_91, hw_s2_91⟩
        · exact absurd hx_ (by decide)
        · have ew_ : w2_92 = 0 := i_inj (hw_s2_91.trans (by decide))
          subst ew_
          rw [show s2_60.toInt = s0.toInt + 2 by omega] at ht_s2_91
          refine lv_iinc (v := 3) (lv' := [(2, .int 3), (1, .int 2), (0, .ref h)]) hx hb dX7_readsAct_128 hl (k := 0) rfl (by decide) (by decide) rfl (fun ls hl => ?_)
          refine lv_goto (tgt := 89) hx hb dX7_readsAct_131 (by decide) ?_
          refine lv_iload_n hx hb dX7_readsAct_89 rfl (lv_at hl 0 rfl) ?_
          refine lv_iconst (v := 3) hx hb dX7_readsAct_90 (by decide) ?_
          refine lv_icmp_ge (tgt := 134) hx hb dX7_readsAct_91 (by decide) (fun c_ => ?_) (fun c_ => absurd (by decide) c_)
          refine lv_aload_n hx hb dX7_readsAct_134 rfl (lv_at hl 2 rfl) ?_
          refine lv_bipush (v := 32) hx hb dX7_readsAct_135 (by decide) ?_
          refine t_callV (n := 1) (As := [.int 32]) (rest := []) (ci := 7) hB hT hl.1 (m_must l D cI cZ cS cR N0 g_90 hI h 32 s2_91 0 z t ct r_98 r_102 n_106 f_94 f_95 kn_111 kn_112 (by have q0 : (0 : Int32).toInt = 0 := (by decide); have q1 : (32 : Int32).toInt = 32 := (by decide); omega) (by have q0 : (0 : Int32).toInt = 0 := (by decide); have q1 : (32 : Int32).toInt = 32 := (by decide); omega) (by have q0 : (0 : Int32).toInt = 0 := (by decide); have q1 : (32 : Int32).toInt = 32 := (by decide); omega) (by have q0 : (0 : Int32).toInt = 0 := (by decide); have q1 : (32 : Int32).toInt = 32 := (by decide); omega) (by have q0 : (0 : Int32).toInt = 0 := (by decide); have q1 : (32 : Int32).toInt = 32 := (by decide); omega) (by have q0 : (0 : Int32).toInt = 0 := (by decide); have q1 : (32 : Int32).toInt = 32 := (by decide); omega) (by have q0 : (0 : Int32).toInt = 0 := (by decide); have q1 : (32 : Int32).toInt = 32 := (by decide); omega) hc) (ro_ci r_98 rfl) rfl k_975 k_65 k_972 k_974 k_24 (by decide +kernel) ⟨(Nat.le_of_ble_eq_true rfl), (Nat.le_of_ble_eq_true rfl)⟩ rfl (Nat.le_of_ble_eq_true rfl) ⟨(Nat.le_of_ble_eq_true rfl), (Nat.le_of_ble_eq_true rfl)⟩ dX7_readsAct_137 (fun v g_118 H locs hp hT => ?_)
          obtain ⟨s2_119, w2_120, rfl, hI, x_125, m_124, f_121, f_122, f_123⟩ := hp
          have hN : PL 8 g_118 na pa := hN.sm m_124 r_99 (by decide) rfl r_100 (by decide) rfl
          have hc : g_118.2.2.2.1 t = ct := (Sm.cf m_124 r_102 (by decide) rfl).trans hc
          have hWT : WT g_118 wt := hWT.sm m_124 r_101 (by decide) rfl
          have hM : Sm md_m_readsAct g g_118 := hM.tr hE (m_124.mo (fun r k h => mdle_m_readsAct_m_must h))
          have hE : Ex g g_118 := hE.tr x_125
          have r_126 : g_118.1 h = 8 := (Ex.r x_125 r_98 (by decide))
          have r_127 : g_118.1 na = 84 := (Ex.r x_125 r_99 (by decide))
          have r_128 : g_118.1 pa = 85 := (Ex.r x_125 r_100 (by decide))
          have r_129 : g_118.1 wt = 87 := (Ex.r x_125 r_101 (by decide))
          have r_130 : g_118.1 t = 79 := (Ex.r x_125 r_102 (by decide))
          have n_131 : g_118.2.2.1 na = 8 := (Ex.n x_125 r_99 (by decide) n_103)
          have n_132 : g_118.2.2.1 pa = 8 := (Ex.n x_125 r_100 (by decide) n_104)
          have n_133 : g_118.2.2.1 wt = 24 := (Ex.n x_125 r_101 (by decide) n_105)
          have n_134 : g_118.2.2.1 t = 100 := (Ex.n x_125 r_102 (by decide) n_106)
          have kn_135 : g_118.2.1 h 38 = .int rz := (Sm.v m_124 r_98 (by decide) rfl kn_107)
          have kn_136 : g_118.2.1 h 42 = .ref wt := (Sm.v m_124 r_98 (by decide) rfl kn_108)
          have kn_137 : g_118.2.1 h 39 = .ref na := (Sm.v m_124 r_98 (by decide) rfl kn_109)
          have kn_138 : g_118.2.1 h 40 = .ref pa := (Sm.v m_124 r_98 (by decide) rfl kn_110)
          have kn_139 : g_118.2.1 h 29 = .int z := (Sm.v m_124 r_98 (by decide) rfl kn_111)
          have kn_140 : g_118.2.1 h 28 = .ref t := (Sm.v m_124 r_98 (by decide) rfl kn_112)
          have kn_141 : g_118.2.2.2.1 wt (6 : Int32).toNatClampNeg = 109 := (Sm.c m_124 r_101 (by decide) rfl kn_113)
          have kn_142 : g_118.2.2.2.1 wt (7 : Int32).toNatClampNeg = 97 := (Sm.c m_124 r_101 (by decide) rfl kn_114)
          have kn_143 : g_118.2.2.2.1 wt (8 : Int32).toNatClampNeg = 120 := (Sm.c m_124 r_101 (by decide) rfl kn_115)
          refine W.eq (g2 := F0 m 140 ls []) rfl ?_
          have qc_144 : (0 : Int32).toInt = 0 := (by decide)
          have qc_145 : (32 : Int32).toInt = 32 := (by decide)
          rcases f_121 with ⟨hx_, -⟩ | ⟨-, ht_s2_119, hs_s2_119, hz_s2_119, hw_s2_119⟩ | ⟨-, ht_s2_119, hs_s2_119, hw_s2_119⟩
          · exact absurd hx_ (by decide)
          · have ew_ : w2_120 = 0 := i_inj (hw_s2_119.trans (by decide))
            subst ew_
            rw [show s2_91.toInt = s0.toInt + 3 by omega] at ht_s2_119
            have hv_ := wo_2 (T := (txb ct z.toInt)) (p := s0.toInt) ⟨by omega, by omega, by omega, by omega⟩
            exact lt_m_readsAct_c0 l D cI cZ cS cR N0 g h s0 rz wt na pa z t ct r_h r_na n_na r_pa n_pa r_wt n_wt r_t n_t krz ks0 kw0 kwt kna kpa kz kt l_rz u_rz l_s0 u_s0 hN_0 hWT_0 l_z u_z hc_0 hB hr   g_118 (2 : Int32) s2_119 H locs ls hT hI hE hM (by decide) (by decide) (by omega) (by omega) kn_135 f_122 f_123 hN hc hWT ⟨by decide, hv_.1.trans (by decide), (by have q_ := hv_.2; omega), by omega⟩ (lv_sub hl [1, 2] rfl)
          · have ew_ : w2_120 = 1 := i_inj (hw_s2_119.trans (by decide))
            subst ew_
            rw [show s2_91.toInt = s0.toInt + 3 by omega] at ht_s2_119
            have hs_ : wsel ((txb ct z.toInt) s0.toInt) ((txb ct z.toInt) (s0.toInt + 1)) = 2 := ws_2 (by omega)
            have hq_ : qj (txb ct z.toInt) s0.toInt 2 = 3 := wp4_3 (by omega) (by omega) (by omega) (by omega)
            have hv_ := wd_f hs_ (Or.inr (fun h_ => absurd (hq_.symm.trans h_) (by decide)))
            exact lt_m_readsAct_c1 l D cI cZ cS cR N0 g h s0 rz wt na pa z t ct r_h r_na n_na r_pa n_pa r_wt n_wt r_t n_t krz ks0 kw0 kwt kna kpa kz kt l_rz u_rz l_s0 u_s0 hN_0 hWT_0 l_z u_z hc_0 hB hr   g_118 (2 : Int32) s2_119 H locs ls hT hI hE hM (by decide) (by decide) (by omega) (by omega) kn_135 f_122 f_123 hN hc hWT (ac_n hv_.1 (by have q_ := hv_.2; rw [hq_] at q_; omega)) (lv_sub hl [1, 2] rfl)
        · have ew_ : w2_92 = 1 := i_inj (hw_s2_91.trans (by decide))
          subst ew_
          rw [show s2_60.toInt = s0.toInt + 2 by omega] at ht_s2_91
          refine lv_iinc (v := 3) (lv' := [(2, .int 3), (1, .int 2), (0, .ref h)]) hx hb dX7_readsAct_128 hl (k := 0) rfl (by decide) (by decide) rfl (fun ls hl => ?_)
          refine lv_goto (tgt := 89) hx hb dX7_readsAct_131 (by decide) ?_
          refine lv_iload_n hx hb dX7_readsAct_89 rfl (lv_at hl 0 rfl) ?_
          refine lv_iconst (v := 3) hx hb dX7_readsAct_90 (by decide) ?_
          refine lv_icmp_ge (tgt := 134) hx hb dX7_readsAct_91 (by decide) (fun c_ => ?_) (fun c_ => absurd (by decide) c_)
          refine lv_aload_n hx hb dX7_readsAct_134 rfl (lv_at hl 2 rfl) ?_
          refine lv_bipush (v := 32) hx hb dX7_readsAct_135 (by decide) ?_
          refine t_callV (n := 1) (As := [.int 32]) (rest := []) (ci := 7) hB hT hl.1 (m_must l D cI cZ cS cR N0 g_90 hI h 32 s2_91 1 z t ct r_98 r_102 n_106 f_94 f_95 kn_111 kn_112 (by have q0 : (1 : Int32).toInt = 1 := (by decide); have q1 : (32 : Int32).toInt = 32 := (by decide); omega) (by have q0 : (1 : Int32).toInt = 1 := (by decide); have q1 : (32 : Int32).toInt = 32 := (by decide); omega) (by have q0 : (1 : Int32).toInt = 1 := (by decide); have q1 : (32 : Int32).toInt = 32 := (by decide); omega) (by have q0 : (1 : Int32).toInt = 1 := (by decide); have q1 : (32 : Int32).toInt = 32 := (by decide); omega) (by have q0 : (1 : Int32).toInt = 1 := (by decide); have q1 : (32 : Int32).toInt = 32 := (by decide); omega) (by have q0 : (1 : Int32).toInt = 1 := (by decide); have q1 : (32 : Int32).toInt = 32 := (by decide); omega) (by have q0 : (1 : Int32).toInt = 1 := (by decide); have q1 : (32 : Int32).toInt = 32 := (by decide); omega) hc) (ro_ci r_98 rfl) rfl k_975 k_65 k_972 k_974 k_24 (by decide +kernel) ⟨(Nat.le_of_ble_eq_true rfl), (Nat.le_of_ble_eq_true rfl)⟩ rfl (Nat.le_of_ble_eq_true rfl) ⟨(Nat.le_of_ble_eq_true rfl), (Nat.le_of_ble_eq_true rfl)⟩ dX7_readsAct_137 (fun v g_146 H locs hp hT => ?_)
          obtain ⟨s2_147, w2_148, rfl, hI, x_153, m_152, f_149, f_150, f_151⟩ := hp
          have hN : PL 8 g_146 na pa := hN.sm m_152 r_99 (by decide) rfl r_100 (by decide) rfl
          have hc : g_146.2.2.2.1 t = ct := (Sm.cf m_152 r_102 (by decide) rfl).trans hc
          have hWT : WT g_146 wt := hWT.sm m_152 r_101 (by decide) rfl
          have hM : Sm md_m_readsAct g g_146 := hM.tr hE (m_152.mo (fun r k h => mdle_m_readsAct_m_must h))
          have hE : Ex g g_146 := hE.tr x_153
          have r_154 : g_146.1 h = 8 := (Ex.r x_153 r_98 (by decide))
          have r_155 : g_146.1 na = 84 := (Ex.r x_153 r_99 (by decide))
          have r_156 : g_146.1 pa = 85 := (Ex.r x_153 r_100 (by decide))
          have r_157 : g_146.1 wt = 87 := (Ex.r x_153 r_101 (by decide))
          have r_158 : g_146.1 t = 79 := (Ex.r x_153 r_102 (by decide))
          have n_159 : g_146.2.2.1 na = 8 := (Ex.n x_153 r_99 (by decide) n_103)
          have n_160 : g_146.2.2.1 pa = 8 := (Ex.n x_153 r_100 (by decide) n_104)
          have n_161 : g_146.2.2.1 wt = 24 := (Ex.n x_153 r_101 (by decide) n_105)
          have n_162 : g_146.2.2.1 t = 100 := (Ex.n x_153 r_102 (by decide) n_106)
          have kn_163 : g_146.2.1 h 38 = .int rz := (Sm.v m_152 r_98 (by decide) rfl kn_107)
          have kn_164 : g_146.2.1 h 42 = .ref wt := (Sm.v m_152 r_98 (by decide) rfl kn_108)
          have kn_165 : g_146.2.1 h 39 = .ref na := (Sm.v m_152 r_98 (by decide) rfl kn_109)
          have kn_166 : g_146.2.1 h 40 = .ref pa := (Sm.v m_152 r_98 (by decide) rfl kn_110)
          have kn_167 : g_146.2.1 h 29 = .int z := (Sm.v m_152 r_98 (by decide) rfl kn_111)
          have kn_168 : g_146.2.1 h 28 = .ref t := (Sm.v m_152 r_98 (by decide) rfl kn_112)
          have kn_169 : g_146.2.2.2.1 wt (6 : Int32).toNatClampNeg = 109 := (Sm.c m_152 r_101 (by decide) rfl kn_113)
          have kn_170 : g_146.2.2.2.1 wt (7 : Int32).toNatClampNeg = 97 := (Sm.c m_152 r_101 (by decide) rfl kn_114)
          have kn_171 : g_146.2.2.2.1 wt (8 : Int32).toNatClampNeg = 120 := (Sm.c m_152 r_101 (by decide) rfl kn_115)
          refine W.eq (g2 := F0 m 140 ls []) rfl ?_
          have qc_172 : (1 : Int32).toInt = 1 := (by decide)
          have qc_173 : (32 : Int32).toInt = 32 := (by decide)
          rcases f_149 with ⟨-, hs_s2_147, hw_s2_147⟩ | ⟨hx_, -⟩ | ⟨hx_, -⟩
          rotate_left
          · exact absurd hx_ (by decide)
          · exact absurd hx_ (by decide)
          have ew_ : w2_148 = 1 := i_inj (hw_s2_147.trans (by decide))
          subst ew_
          have hs_ : wsel ((txb ct z.toInt) s0.toInt) ((txb ct z.toInt) (s0.toInt + 1)) = 2 := ws_2 (by omega)
          have hq_ : qj (txb ct z.toInt) s0.toInt 2 = 2 := wp4_2 (by omega) (by omega) (by omega)
          have hv_ := wd_f hs_ (Or.inr (fun h_ => absurd (hq_.symm.trans h_) (by decide)))
          exact lt_m_readsAct_c1 l D cI cZ cS cR N0 g h s0 rz wt na pa z t ct r_h r_na n_na r_pa n_pa r_wt n_wt r_t n_t krz ks0 kw0 kwt kna kpa kz kt l_rz u_rz l_s0 u_s0 hN_0 hWT_0 l_z u_z hc_0 hB hr   g_146 (2 : Int32) s2_147 H locs ls hT hI hE hM (by decide) (by decide) (by omega) (by omega) kn_163 f_150 f_151 hN hc hWT (ac_n hv_.1 (by have q_ := hv_.2; rw [hq_] at q_; omega)) (lv_sub hl [1, 2] rfl)
      · have ew_ : w2_61 = 1 := i_inj (hw_s2_60.trans (by decide))
        subst ew_
        rw [show s2_30.toInt = s0.toInt + 1 by omega] at ht_s2_60
        refine lv_iinc (v := 2) (lv' := [(2, .int 2), (1, .int 2), (0, .ref h)]) hx hb dX7_readsAct_128 hl (k := 0) rfl (by decide) (by decide) rfl (fun ls hl => ?_)
        refine lv_goto (tgt := 89) hx hb dX7_readsAct_131 (by decide) ?_
        refine lv_iload_n hx hb dX7_readsAct_89 rfl (lv_at hl 0 rfl) ?_
        refine lv_iconst (v := 3) hx hb dX7_readsAct_90 (by decide) ?_
        refine lv_icmp_ge (tgt := 134) hx hb dX7_readsAct_91 (by decide) (fun c_ => absurd c_ (by decide)) (fun c_ => ?_)
        refine lv_aload_n hx hb dX7_readsAct_94 rfl (lv_at hl 2 rfl) ?_
        refine t_get (ci := 7) (v := .int 1) hB hT (ro_ci r_67 rfl) rfl 37 (by decide) k_782 f_64 dX7_readsAct_95 ?_
        refine lv_if_ne (tgt := 134) hx hb dX7_readsAct_98 (by decide) (fun c_ => ?_) (fun c_ => absurd c_ (by decide))
        refine lv_aload_n hx hb dX7_readsAct_134 rfl (lv_at hl 2 rfl) ?_
        refine lv_bipush (v := 32) hx hb dX7_readsAct_135 (by decide) ?_
        refine t_callV (n := 1) (As := [.int 32]) (rest := []) (ci := 7) hB hT hl.1 (m_must l D cI cZ cS cR N0 g_59 hI h 32 s2_60 1 z t ct r_67 r_71 n_75 f_63 f_64 kn_80 kn_81 (by have q0 : (1 : Int32).toInt = 1 := (by decide); have q1 : (32 : Int32).toInt = 32 := (by decide); omega) (by have q0 : (1 : Int32).toInt = 1 := (by decide); have q1 : (32 : Int32).toInt = 32 := (by decide); omega) (by have q0 : (1 : Int32).toInt = 1 := (by decide); have q1 : (32 : Int32).toInt = 32 := (by decide); omega) (by have q0 : (1 : Int32).toInt = 1 := (by decide); have q1 : (32 : Int32).toInt = 32 := (by decide); omega) (by have q0 : (1 : Int32).toInt = 1 := (by decide); have q1 : (32 : Int32).toInt = 32 := (by decide); omega) (by have q0 : (1 : Int32).toInt = 1 := (by decide); have q1 : (32 : Int32).toInt = 32 := (by decide); omega) (by have q0 : (1 : Int32).toInt = 1 := (by decide); have q1 : (32 : Int32).toInt = 32 := (by decide); omega) hc) (ro_ci r_67 rfl) rfl k_975 k_65 k_972 k_974 k_24 (by decide +kernel) ⟨(Nat.le_of_ble_eq_true rfl), (Nat.le_of_ble_eq_true rfl)⟩ rfl (Nat.le_of_ble_eq_true rfl) ⟨(Nat.le_of_ble_eq_true rfl), (Nat.le_of_ble_eq_true rfl)⟩ dX7_readsAct_137 (fun v g_174 H locs hp hT => ?_)
        obtain ⟨s2_175, w2_176, rfl, hI, x_181, m_180, f_177, f_178, f_179⟩ := hp
        have hN : PL 8 g_174 na pa := hN.sm m_180 r_68 (by decide) rfl r_69 (by decide) rfl
        have hc : g_174.2.2.2.1 t = ct := (Sm.cf m_180 r_71 (by decide) rfl).trans hc
        have hWT : WT g_174 wt := hWT.sm m_180 r_70 (by decide) rfl
        have hM : Sm md_m_readsAct g g_174 := hM.tr hE (m_180.mo (fun r k h => mdle_m_readsAct_m_must h))
        have hE : Ex g g_174 := hE.tr x_181
        have r_182 : g_174.1 h = 8 := (Ex.r x_181 r_67 (by decide))
        have r_183 : g_174.1 na = 84 := (Ex.r x_181 r_68 (by decide))
        have r_184 : g_174.1 pa = 85 := (Ex.r x_181 r_69 (by decide))
        have r_185 : g_174.1 wt = 87 := (Ex.r x_181 r_70 (by decide))
        have r_186 : g_174.1 t = 79 := (Ex.r x_181 r_71 (by decide))
        have n_187 : g_174.2.2.1 na = 8 := (Ex.n x_181 r_68 (by decide) n_72)
        have n_188 : g_174.2.2.1 pa = 8 := (Ex.n x_181 r_69 (by decide) n_73)
        have n_189 : g_174.2.2.1 wt = 24 := (Ex.n x_181 r_70 (by decide) n_74)
        have n_190 : g_174.2.2.1 t = 100 := (Ex.n x_181 r_71 (by decide) n_75)
        have kn_191 : g_174.2.1 h 38 = .int rz := (Sm.v m_180 r_67 (by decide) rfl kn_76)
        have kn_192 : g_174.2.1 h 42 = .ref wt := (Sm.v m_180 r_67 (by decide) rfl kn_77)
        have kn_193 : g_174.2.1 h 39 = .ref na := (Sm.v m_180 r_67 (by decide) rfl kn_78)
        have kn_194 : g_174.2.1 h 40 = .ref pa := (Sm.v m_180 r_67 (by decide) rfl kn_79)
        have kn_195 : g_174.2.1 h 29 = .int z := (Sm.v m_180 r_67 (by decide) rfl kn_80)
        have kn_196 : g_174.2.1 h 28 = .ref t := (Sm.v m_180 r_67 (by decide) rfl kn_81)
        have kn_197 : g_174.2.2.2.1 wt (6 : Int32).toNatClampNeg = 109 := (Sm.c m_180 r_70 (by decide) rfl kn_82)
        have kn_198 : g_174.2.2.2.1 wt (7 : Int32).toNatClampNeg = 97 := (Sm.c m_180 r_70 (by decide) rfl kn_83)
        refine W.eq (g2 := F0 m 140 ls []) rfl ?_
        have qc_199 : (1 : Int32).toInt = 1 := (by decide)
        have qc_200 : (32 : Int32).toInt = 32 := (by decide)
        rcases f_177 with ⟨-, hs_s2_175, hw_s2_175⟩ | ⟨hx_, -⟩ | ⟨hx_, -⟩
        rotate_left
        · exact absurd hx_ (by decide)
        · exact absurd hx_ (by decide)
        have ew_ : w2_176 = 1 := i_inj (hw_s2_175.trans (by decide))
        subst ew_
        have hs_ : wsel ((txb ct z.toInt) s0.toInt) ((txb ct z.toInt) (s0.toInt + 1)) = 2 := ws_2 (by omega)
        have hq_ : qj (txb ct z.toInt) s0.toInt 2 = 1 := wp4_1 (by omega) (by omega)
        have hv_ := wd_f hs_ (Or.inr (fun h_ => absurd (hq_.symm.trans h_) (by decide)))
        exact lt_m_readsAct_c1 l D cI cZ cS cR N0 g h s0 rz wt na pa z t ct r_h r_na n_na r_pa n_pa r_wt n_wt r_t n_t krz ks0 kw0 kwt kna kpa kz kt l_rz u_rz l_s0 u_s0 hN_0 hWT_0 l_z u_z hc_0 hB hr   g_174 (2 : Int32) s2_175 H locs ls hT hI hE hM (by decide) (by decide) (by omega) (by omega) kn_191 f_178 f_179 hN hc hWT (ac_n hv_.1 (by have q_ := hv_.2; rw [hq_] at q_; omega)) (lv_sub hl [1, 2] rfl)
    · have ew_ : w2_31 = 1 := i_inj (hw_s2_30.trans (by decide))
      subst ew_
      refine lv_iinc (v := 1) (lv' := [(2, .int 1), (1, .int 2), (0, .ref h)]) hx hb dX7_readsAct_128 hl (k := 0) rfl (by decide) (by decide) rfl (fun ls hl => ?_)
      refine lv_goto (tgt := 89) hx hb dX7_readsAct_131 (by decide) ?_
      refine lv_iload_n hx hb dX7_readsAct_89 rfl (lv_at hl 0 rfl) ?_
      refine lv_iconst (v := 3) hx hb dX7_readsAct_90 (by decide) ?_
      refine lv_icmp_ge (tgt := 134) hx hb dX7_readsAct_91 (by decide) (fun c_ => absurd c_ (by decide)) (fun c_ => ?_)
      refine lv_aload_n hx hb dX7_readsAct_94 rfl (lv_at hl 2 rfl) ?_
      refine t_get (ci := 7) (v := .int 1) hB hT (ro_ci r_37 rfl) rfl 37 (by decide) k_782 f_34 dX7_readsAct_95 ?_
      refine lv_if_ne (tgt := 134) hx hb dX7_readsAct_98 (by decide) (fun c_ => ?_) (fun c_ => absurd c_ (by decide))
      refine lv_aload_n hx hb dX7_readsAct_134 rfl (lv_at hl 2 rfl) ?_
      refine lv_bipush (v := 32) hx hb dX7_readsAct_135 (by decide) ?_
      refine t_callV (n := 1) (As := [.int 32]) (rest := []) (ci := 7) hB hT hl.1 (m_must l D cI cZ cS cR N0 g_29 hI h 32 s2_30 1 z t ct r_37 r_41 n_45 f_33 f_34 kn_50 kn_51 (by have q0 : (1 : Int32).toInt = 1 := (by decide); have q1 : (32 : Int32).toInt = 32 := (by decide); omega) (by have q0 : (1 : Int32).toInt = 1 := (by decide); have q1 : (32 : Int32).toInt = 32 := (by decide); omega) (by have q0 : (1 : Int32).toInt = 1 := (by decide); have q1 : (32 : Int32).toInt = 32 := (by decide); omega) (by have q0 : (1 : Int32).toInt = 1 := (by decide); have q1 : (32 : Int32).toInt = 32 := (by decide); omega) (by have q0 : (1 : Int32).toInt = 1 := (by decide); have q1 : (32 : Int32).toInt = 32 := (by decide); omega) (by have q0 : (1 : Int32).toInt = 1 := (by decide); have q1 : (32 : Int32).toInt = 32 := (by decide); omega) (by have q0 : (1 : Int32).toInt = 1 := (by decide); have q1 : (32 : Int32).toInt = 32 := (by decide); omega) hc) (ro_ci r_37 rfl) rfl k_975 k_65 k_972 k_974 k_24 (by decide +kernel) ⟨(Nat.le_of_ble_eq_true rfl), (Nat.le_of_ble_eq_true rfl)⟩ rfl (Nat.le_of_ble_eq_true rfl) ⟨(Nat.le_of_ble_eq_true rfl), (Nat.le_of_ble_eq_true rfl)⟩ dX7_readsAct_137 (fun v g_201 H locs hp hT => ?_)
      obtain ⟨s2_202, w2_203, rfl, hI, x_208, m_207, f_204, f_205, f_206⟩ := hp
      have hN : PL 8 g_201 na pa := hN.sm m_207 r_38 (by decide) rfl r_39 (by decide) rfl
      have hc : g_201.2.2.2.1 t = ct := (Sm.cf m_207 r_41 (by decide) rfl).trans hc
      have hWT : WT g_201 wt := hWT.sm m_207 r_40 (by decide) rfl
      have hM : Sm md_m_readsAct g g_201 := hM.tr hE (m_207.mo (fun r k h => mdle_m_readsAct_m_must h))
      have hE : Ex g g_201 := hE.tr x_208
      have r_209 : g_201.1 h = 8 := (Ex.r x_208 r_37 (by decide))
      have r_210 : g_201.1 na = 84 := (Ex.r x_208 r_38 (by decide))
      have r_211 : g_201.1 pa = 85 := (Ex.r x_208 r_39 (by decide))
      have r_212 : g_201.1 wt = 87 := (Ex.r x_208 r_40 (by decide))
      have r_213 : g_201.1 t = 79 := (Ex.r x_208 r_41 (by decide))
      have n_214 : g_201.2.2.1 na = 8 := (Ex.n x_208 r_38 (by decide) n_42)
      have n_215 : g_201.2.2.1 pa = 8 := (Ex.n x_208 r_39 (by decide) n_43)
      have n_216 : g_201.2.2.1 wt = 24 := (Ex.n x_208 r_40 (by decide) n_44)
      have n_217 : g_201.2.2.1 t = 100 := (Ex.n x_208 r_41 (by decide) n_45)
      have kn_218 : g_201.2.1 h 38 = .int rz := (Sm.v m_207 r_37 (by decide) rfl kn_46)
      have kn_219 : g_201.2.1 h 42 = .ref wt := (Sm.v m_207 r_37 (by decide) rfl kn_47)
      have kn_220 : g_201.2.1 h 39 = .ref na := (Sm.v m_207 r_37 (by decide) rfl kn_48)
      have kn_221 : g_201.2.1 h 40 = .ref pa := (Sm.v m_207 r_37 (by decide) rfl kn_49)
      have kn_222 : g_201.2.1 h 29 = .int z := (Sm.v m_207 r_37 (by decide) rfl kn_50)
      have kn_223 : g_201.2.1 h 28 = .ref t := (Sm.v m_207 r_37 (by decide) rfl kn_51)
      have kn_224 : g_201.2.2.2.1 wt (6 : Int32).toNatClampNeg = 109 := (Sm.c m_207 r_40 (by decide) rfl kn_52)
      refine W.eq (g2 := F0 m 140 ls []) rfl ?_
      have qc_225 : (1 : Int32).toInt = 1 := (by decide)
      have qc_226 : (32 : Int32).toInt = 32 := (by decide)
      rcases f_204 with ⟨-, hs_s2_202, hw_s2_202⟩ | ⟨hx_, -⟩ | ⟨hx_, -⟩
      rotate_left
      · exact absurd hx_ (by decide)
      · exact absurd hx_ (by decide)
      have ew_ : w2_203 = 1 := i_inj (hw_s2_202.trans (by decide))
      subst ew_
      have hs_ : wsel ((txb ct z.toInt) s0.toInt) ((txb ct z.toInt) (s0.toInt + 1)) = 2 := ws_2 (by omega)
      have hq_ : qj (txb ct z.toInt) s0.toInt 2 = 0 := wp4_0 (by omega)
      have hv_ := wd_f hs_ (Or.inr (fun h_ => absurd (hq_.symm.trans h_) (by decide)))
      exact lt_m_readsAct_c1 l D cI cZ cS cR N0 g h s0 rz wt na pa z t ct r_h r_na n_na r_pa n_pa r_wt n_wt r_t n_t krz ks0 kw0 kwt kna kpa kz kt l_rz u_rz l_s0 u_s0 hN_0 hWT_0 l_z u_z hc_0 hB hr   g_201 (2 : Int32) s2_202 H locs ls hT hI hE hM (by decide) (by decide) (by omega) (by omega) kn_218 f_205 f_206 hN hc hWT (ac_n hv_.1 (by have q_ := hv_.2; rw [hq_] at q_; omega)) (lv_sub hl [1, 2] rfl)
  · have c_24' : r_16.toInt ≠ 109 := i_ne c_24 rfl (by decide)
    refine lv_iinc (v := 3) (lv' := [(1, .int 3), (0, .ref h)]) hx hb dX7_readsAct_59 hl (k := 0) rfl (by decide) (by decide) rfl (fun ls hl => ?_)
    refine lv_goto (tgt := 34) hx hb dX7_readsAct_62 (by decide) ?_
    exact lt_m_readsAct_w3 l D cI cZ cS cR N0 g h s0 rz wt na pa z t ct r_h r_na n_na r_pa n_pa r_wt n_wt r_t n_t krz ks0 kw0 kwt kna kpa kz kt l_rz u_rz l_s0 u_s0 hN_0 hWT_0 l_z u_z hc_0 hB hr   g1 H locs ls hT hI hE hM kp0 kp1 kp2 hN hc hWT (by omega) (lv_sub hl [0, 1] rfl)
set_option maxHeartbeats 4000000 in
set_option maxRecDepth 100000 in
theorem lt_m_readsAct_w1 (l : Launch) (D : va_G) (cI cZ cS cR : ClassId) (N0 : NT) (g : GS) (h : Nat) (s0 : Int32) (rz : Int32) (wt : Nat) (na : Nat) (pa : Nat) (z : Int32) (t : Nat) (ct : Nat → Int32) (r_h : g.1 h = 8) (r_na : g.1 na = 84) (n_na : g.2.2.1 na = 8) (r_pa : g.1 pa = 85) (n_pa : g.2.2.1 pa = 8) (r_wt : g.1 wt = 87) (n_wt : g.2.2.1 wt = 24) (r_t : g.1 t = 79) (n_t : g.2.2.1 t = 100) (krz : g.2.1 h 38 = .int rz) (ks0 : g.2.1 h 36 = .int s0) (kw0 : g.2.1 h 37 = .int 0) (kwt : g.2.1 h 42 = .ref wt) (kna : g.2.1 h 39 = .ref na) (kpa : g.2.1 h 40 = .ref pa) (kz : g.2.1 h 29 = .int z) (kt : g.2.1 h 28 = .ref t) (l_rz : 0 ≤ rz.toInt) (u_rz : rz.toInt ≤ 7) (l_s0 : 0 ≤ s0.toInt) (u_s0 : s0.toInt ≤ 100) (hN_0 : PL 8 g na pa) (hWT_0 : WT g wt) (l_z : 0 ≤ z.toInt) (u_z : z.toInt ≤ 100) (hc_0 : g.2.2.2.1 t = ct) {p : Program} {e : Env} {s : State} {m : MethodId} {args : Array Value} {below : List Frame} {meth : Method} {c : Code} (hB : Tz p s m meth c args cX7_readsAct 4 RX7 D cI cZ cS cR N0) (hr : meth.sig.returnType = none)    : ∀ (g1 : GS)   (H : Heap) (locs : List Loc) (ls : Array Slot), Tv D cI cZ cS cR N0 s.heap H locs g1 → Inv g1 → Ex g g1 → Sm md_m_readsAct g g1 → g1.2.1 h 38 = .int rz → g1.2.1 h 36 = .int s0 → g1.2.1 h 37 = .int 0 → (PL 8 g1 na pa) → (g1.2.2.2.1 t = ct) → (WT g1 wt) → (¬ ((txb ct z.toInt) s0.toInt = 97 ∧ (txb ct z.toInt) (s0.toInt + 1) = 115) ∧ (txb ct z.toInt) s0.toInt ≠ 115) → lv_has ls 4 [(1, .int 1), (0, .ref h)] → W p l e (rmx 2 0 0) s m args below meth c H locs 0 0 (MQ below (tQ D cI cZ cS cR N0 (fun v g' => ∃ (z2 : Int32) (s2 : Int32) (w2 : Int32), v = none ∧ Inv g' ∧ Ex g g' ∧ Sm md_m_readsAct g g' ∧ ((w2 = 1 ∧ ac (txb ct z.toInt) s0.toInt = (false, s2.toInt)) ∨ (w2 = 0 ∧ ac (txb ct z.toInt) s0.toInt = (true, s2.toInt) ∧ s2.toInt ≤ z.toInt)) ∧ (g'.2.1 h 38 = .int z2) ∧ (z2.toInt = rz.toInt + 1) ∧ (PL 8 g' na pa) ∧ (g'.2.1 h 36 = .int s2) ∧ (g'.2.1 h 37 = .int w2) ∧ (0 ≤ s2.toInt ∧ s2.toInt ≤ 100))) args s 0 0 (fun q => N0.1 ≤ q)) (F0 m 34 ls []) := by
  have hx := hB.1
  have hb := hB.2.1
  intro g1 H locs ls hT hI hE hM kp0 kp1 kp2 hN hc hWT hS hl
  have r_1 : g1.1 h = 8 := Ex.r hE r_h (by decide)
  have r_2 : g1.1 na = 84 := Ex.r hE r_na (by decide)
  have n_3 : g1.2.2.1 na = 8 := Ex.n hE r_na (by decide) n_na
  have r_4 : g1.1 pa = 85 := Ex.r hE r_pa (by decide)
  have n_5 : g1.2.2.1 pa = 8 := Ex.n hE r_pa (by decide) n_pa
  have r_6 : g1.1 wt = 87 := Ex.r hE r_wt (by decide)
  have n_7 : g1.2.2.1 wt = 24 := Ex.n hE r_wt (by decide) n_wt
  have r_8 : g1.1 t = 79 := Ex.r hE r_t (by decide)
  have n_9 : g1.2.2.1 t = 100 := Ex.n hE r_t (by decide) n_t
  have kn_10 : g1.2.1 h 42 = .ref wt := Sm.v hM r_h (by decide) rfl kwt
  have kn_11 : g1.2.1 h 39 = .ref na := Sm.v hM r_h (by decide) rfl kna
  have kn_12 : g1.2.1 h 40 = .ref pa := Sm.v hM r_h (by decide) rfl kpa
  have kn_13 : g1.2.1 h 29 = .int z := Sm.v hM r_h (by decide) rfl kz
  have kn_14 : g1.2.1 h 28 = .ref t := Sm.v hM r_h (by decide) rfl kt
  refine lv_iload_n hx hb dX7_readsAct_34 rfl (lv_at hl 0 rfl) ?_
  refine lv_bipush (v := 8) hx hb dX7_readsAct_35 (by decide) ?_
  refine lv_icmp_ge (tgt := 65) hx hb dX7_readsAct_37 (by decide) (fun c_ => absurd c_ (by decide)) (fun c_ => ?_)
  refine lv_aload_n hx hb dX7_readsAct_40 rfl (lv_at hl 1 rfl) ?_
  refine lv_aload_n hx hb dX7_readsAct_41 rfl (lv_at hl 1 rfl) ?_
  refine t_get (ci := 7) (v := .int s0) hB hT (ro_ci r_1 rfl) rfl 36 (by decide) k_781 kp1 dX7_readsAct_42 ?_
  refine t_callV (n := 1) (As := [.int s0]) (rest := []) (ci := 7) hB hT hl.1 (m_byteAt l D cI cZ cS cR N0 g1 hI h s0 z t ct r_1 r_8 n_9 kn_13 kn_14 (by omega) (by omega) (by omega) (by omega) hc) (ro_ci r_1 rfl) rfl k_971 k_65 k_968 k_970 k_23 (by decide +kernel) ⟨(Nat.le_of_ble_eq_true rfl), (Nat.le_of_ble_eq_true rfl)⟩ rfl (Nat.le_of_ble_eq_true rfl) ⟨(Nat.le_of_ble_eq_true rfl), (Nat.le_of_ble_eq_true rfl)⟩ dX7_readsAct_45 (fun v g_15 H locs hp hT => ?_)
  obtain ⟨r_16, rfl, eg, f_17, f_18, f_19⟩ := hp
  rw [eg] at hT
  clear eg
  refine W.eq (g2 := F0 m 48 ls [.int r_16]) rfl ?_
  refine lv_aload_n hx hb dX7_readsAct_48 rfl (lv_at hl 1 rfl) ?_
  refine t_get (ci := 7) (v := .ref wt) hB hT (ro_ci r_1 rfl) rfl 42 (by decide) k_787 kn_10 dX7_readsAct_49 ?_
  refine lv_iconst (v := 3) hx hb dX7_readsAct_52 (by decide) ?_
  refine lv_iload_n hx hb dX7_readsAct_53 rfl (lv_at hl 0 rfl) ?_
  refine lv_imul hx hb dX7_readsAct_54 ?_
  refine x_ev (y := 3) (by decide) ?_
  have kw_22 : g1.2.2.2.1 wt (3 : Int32).toNatClampNeg = 97 := (hWT (3 : Int32).toNatClampNeg (by decide)).trans (by decide)
  have i_u_23 : vp_in (3 : Int32) 24 := (by unfold vp_in; decide)
  refine t_iald (v := (97 : Int32)) hB hT (ro_in r_6 (by decide)) n_7 i_u_23 kw_22 dX7_readsAct_55 ?_
  refine lv_icmp_eq (tgt := 65) hx hb dX7_readsAct_56 (by decide) (fun c_24 => ?_) (fun c_24 => ?_)
  · have c_24' : r_16.toInt = 97 := i_eq c_24 rfl (by decide)
    refine lv_aload_n hx hb dX7_readsAct_65 rfl (lv_at hl 1 rfl) ?_
    refine lv_aload_n hx hb dX7_readsAct_66 rfl (lv_at hl 1 rfl) ?_
    refine t_get (ci := 7) (v := .int 0) hB hT (ro_ci r_1 rfl) rfl 37 (by decide) k_782 kp2 dX7_readsAct_67 ?_
    refine lv_if_ne (tgt := 79) hx hb dX7_readsAct_70 (by decide) (fun c_ => absurd (by decide) c_) (fun c_ => ?_)
    refine lv_iload_n hx hb dX7_readsAct_73 rfl (lv_at hl 0 rfl) ?_
    refine lv_bipush (v := 8) hx hb dX7_readsAct_74 (by decide) ?_
    refine lv_icmp_ne (tgt := 83) hx hb dX7_readsAct_76 (by decide) (fun c_ => ?_) (fun c_ => absurd c_ (by decide))
    refine lv_iconst (v := 0) hx hb dX7_readsAct_83 (by decide) ?_
    refine t_put0 (ci := 7) (v := .int 0) hB hT (ro_ci r_1 rfl) (ro_n0 r_1 (by decide)) rfl 37 (by decide) k_782 (Or.inl rfl) rfl rfl dX7_readsAct_84 (fun H locs hT => ?_)
    have hI : Inv (sF g1 h 37 (.int 0)) := hI.sF (p_8_37 r_1 (⟨_, rfl, by decide, by decide⟩))
    have hM : Sm md_m_readsAct g (sF g1 h 37 (.int 0)) := hM.tr hE (Sm_sF (by rw [r_1]; rfl))
    have hE : Ex g (sF g1 h 37 (.int 0)) := hE
    have hN : PL 8 (sF g1 h 37 (.int 0)) na pa := hN
    have hc : (sF g1 h 37 (.int 0)).2.2.2.1 t = ct := hc
    have hWT : WT (sF g1 h 37 (.int 0)) wt := hWT
    refine lv_iconst (v := 0) hx hb dX7_readsAct_87 (by decide) ?_
    refine lv_istore_n (lv' := [(2, .int 0), (1, .int 1), (0, .ref h)]) hx hb dX7_readsAct_88 rfl hl (by decide) rfl (fun ls hl => ?_)
    refine lv_iload_n hx hb dX7_readsAct_89 rfl (lv_at hl 0 rfl) ?_
    refine lv_iconst (v := 3) hx hb dX7_readsAct_90 (by decide) ?_
    refine lv_icmp_ge (tgt := 134) hx hb dX7_readsAct_91 (by decide) (fun c_ => absurd c_ (by decide)) (fun c_ => ?_)
    refine lv_aload_n hx hb dX7_readsAct_94 rfl (lv_at hl 2 rfl) ?_
    refine t_get (ci := 7) (v := .int 0) hB hT (ro_ci r_1 rfl) rfl 37 (by decide) k_782 sF_eq dX7_readsAct_95 ?_
    refine lv_if_ne (tgt := 134) hx hb dX7_readsAct_98 (by decide) (fun c_ => absurd (by decide) c_) (fun c_ => ?_)
    refine lv_aload_n hx hb dX7_readsAct_101 rfl (lv_at hl 2 rfl) ?_
    refine t_get (ci := 7) (v := .ref wt) hB hT (ro_ci r_1 rfl) rfl 42 (by decide) k_787 (sF_k kn_10 (by decide)) dX7_readsAct_102 ?_
    refine lv_iconst (v := 3) hx hb dX7_readsAct_105 (by decide) ?_
    refine lv_iload_n hx hb dX7_readsAct_106 rfl (lv_at hl 1 rfl) ?_
    refine lv_imul hx hb dX7_readsAct_107 ?_
    refine x_ev (y := 3) (by decide) ?_
    refine lv_iload_n hx hb dX7_readsAct_108 rfl (lv_at hl 0 rfl) ?_
    refine lv_iadd hx hb dX7_readsAct_109 ?_
    refine x_ev (y := 3) (by decide) ?_
    have kw_25 : (sF g1 h 37 (.int 0)).2.2.2.1 wt (3 : Int32).toNatClampNeg = 97 := (hWT (3 : Int32).toNatClampNeg (by decide)).trans (by decide)
    have i_u_26 : vp_in (3 : Int32) 24 := (by unfold vp_in; decide)
    refine t_iald (v := (97 : Int32)) hB hT (ro_in r_6 (by decide)) n_7 i_u_26 kw_25 dX7_readsAct_110 ?_
    refine lv_if_eq (tgt := 128) hx hb dX7_readsAct_111 (by decide) (fun c_ => absurd c_ (by decide)) (fun c_ => ?_)
    refine lv_aload_n hx hb dX7_readsAct_114 rfl (lv_at hl 2 rfl) ?_
    refine lv_aload_n hx hb dX7_readsAct_115 rfl (lv_at hl 2 rfl) ?_
    refine t_get (ci := 7) (v := .ref wt) hB hT (ro_ci r_1 rfl) rfl 42 (by decide) k_787 (sF_k kn_10 (by decide)) dX7_readsAct_116 ?_
    refine lv_iconst (v := 3) hx hb dX7_readsAct_119 (by decide) ?_
    refine lv_iload_n hx hb dX7_readsAct_120 rfl (lv_at hl 1 rfl) ?_
    refine lv_imul hx hb dX7_readsAct_121 ?_
    refine x_ev (y := 3) (by decide) ?_
    refine lv_iload_n hx hb dX7_readsAct_122 rfl (lv_at hl 0 rfl) ?_
    refine lv_iadd hx hb dX7_readsAct_123 ?_
    refine x_ev (y := 3) (by decide) ?_
    have kw_27 : (sF g1 h 37 (.int 0)).2.2.2.1 wt (3 : Int32).toNatClampNeg = 97 := (hWT (3 : Int32).toNatClampNeg (by decide)).trans (by decide)
    have i_u_28 : vp_in (3 : Int32) 24 := (by unfold vp_in; decide)
    refine t_iald (v := (97 : Int32)) hB hT (ro_in r_6 (by decide)) n_7 i_u_28 kw_27 dX7_readsAct_124 ?_
    refine t_callV (n := 1) (As := [.int 97]) (rest := []) (ci := 7) hB hT hl.1 (m_must l D cI cZ cS cR N0 (sF g1 h 37 (.int 0)) hI h 97 s0 0 z t ct r_1 r_8 n_9 (sF_k kp1 (by decide)) sF_eq (sF_k kn_13 (by decide)) (sF_k kn_14 (by decide)) (by have q0 : (0 : Int32).toInt = 0 := (by decide); have q1 : (97 : Int32).toInt = 97 := (by decide); omega) (by have q0 : (0 : Int32).toInt = 0 := (by decide); have q1 : (97 : Int32).toInt = 97 := (by decide); omega) (by have q0 : (0 : Int32).toInt = 0 := (by decide); have q1 : (97 : Int32).toInt = 97 := (by decide); omega) (by have q0 : (0 : Int32).toInt = 0 := (by decide); have q1 : (97 : Int32).toInt = 97 := (by decide); omega) (by have q0 : (0 : Int32).toInt = 0 := (by decide); have q1 : (97 : Int32).toInt = 97 := (by decide); omega) (by have q0 : (0 : Int32).toInt = 0 := (by decide); have q1 : (97 : Int32).toInt = 97 := (by decide); omega) (by have q0 : (0 : Int32).toInt = 0 := (by decide); have q1 : (97 : Int32).toInt = 97 := (by decide); omega) hc) (ro_ci r_1 rfl) rfl k_975 k_65 k_972 k_974 k_24 (by decide +kernel) ⟨(Nat.le_of_ble_eq_true rfl), (Nat.le_of_ble_eq_true rfl)⟩ rfl (Nat.le_of_ble_eq_true rfl) ⟨(Nat.le_of_ble_eq_true rfl), (Nat.le_of_ble_eq_true rfl)⟩ dX7_readsAct_125 (fun v g_29 H locs hp hT => ?_)
    obtain ⟨s2_30, w2_31, rfl, hI, x_36, m_35, f_32, f_33, f_34⟩ := hp
    have hN : PL 8 g_29 na pa := hN.sm m_35 r_2 (by decide) rfl r_4 (by decide) rfl
    have hc : g_29.2.2.2.1 t = ct := (Sm.cf m_35 r_8 (by decide) rfl).trans hc
    have hWT : WT g_29 wt := hWT.sm m_35 r_6 (by decide) rfl
    have hM : Sm md_m_readsAct g g_29 := hM.tr hE (m_35.mo (fun r k h => mdle_m_readsAct_m_must h))
    have hE : Ex g g_29 := hE.tr x_36
    have r_37 : g_29.1 h = 8 := (Ex.r x_36 r_1 (by decide))
    have r_38 : g_29.1 na = 84 := (Ex.r x_36 r_2 (by decide))
    have r_39 : g_29.1 pa = 85 := (Ex.r x_36 r_4 (by decide))
    have r_40 : g_29.1 wt = 87 := (Ex.r x_36 r_6 (by decide))
    have r_41 : g_29.1 t = 79 := (Ex.r x_36 r_8 (by decide))
    have n_42 : g_29.2.2.1 na = 8 := (Ex.n x_36 r_2 (by decide) n_3)
    have n_43 : g_29.2.2.1 pa = 8 := (Ex.n x_36 r_4 (by decide) n_5)
    have n_44 : g_29.2.2.1 wt = 24 := (Ex.n x_36 r_6 (by decide) n_7)
    have n_45 : g_29.2.2.1 t = 100 := (Ex.n x_36 r_8 (by decide) n_9)
    have kn_46 : g_29.2.1 h 38 = .int rz := (Sm.v m_35 r_1 (by decide) rfl (sF_k kp0 (by decide)))
    have kn_47 : g_29.2.1 h 42 = .ref wt := (Sm.v m_35 r_1 (by decide) rfl (sF_k kn_10 (by decide)))
    have kn_48 : g_29.2.1 h 39 = .ref na := (Sm.v m_35 r_1 (by decide) rfl (sF_k kn_11 (by decide)))
    have kn_49 : g_29.2.1 h 40 = .ref pa := (Sm.v m_35 r_1 (by decide) rfl (sF_k kn_12 (by decide)))
    have kn_50 : g_29.2.1 h 29 = .int z := (Sm.v m_35 r_1 (by decide) rfl (sF_k kn_13 (by decide)))
    have kn_51 : g_29.2.1 h 28 = .ref t := (Sm.v m_35 r_1 (by decide) rfl (sF_k kn_14 (by decide)))
    have kn_52 : g_29.2.2.2.1 wt (3 : Int32).toNatClampNeg = 97 := (Sm.c m_35 r_6 (by decide) rfl kw_27)
    refine W.eq (g2 := F0 m 128 ls []) rfl ?_
    have qc_53 : (0 : Int32).toInt = 0 := (by decide)
    have qc_54 : (97 : Int32).toInt = 97 := (by decide)
    rcases f_32 with ⟨hx_, -⟩ | ⟨-, ht_s2_30, hs_s2_30, hz_s2_30, hw_s2_30⟩ | ⟨-, ht_s2_30, hs_s2_30, hw_s2_30⟩
    · exact absurd hx_ (by decide)
    · have ew_ : w2_31 = 0 := i_inj (hw_s2_30.trans (by decide))
      subst ew_
      refine lv_iinc (v := 1) (lv' := [(2, .int 1), (1, .int 1), (0, .ref h)]) hx hb dX7_readsAct_128 hl (k := 0) rfl (by decide) (by decide) rfl (fun ls hl => ?_)
      refine lv_goto (tgt := 89) hx hb dX7_readsAct_131 (by decide) ?_
      refine lv_iload_n hx hb dX7_readsAct_89 rfl (lv_at hl 0 rfl) ?_
      refine lv_iconst (v := 3) hx hb dX7_readsAct_90 (by decide) ?_
      refine lv_icmp_ge (tgt := 134) hx hb dX7_readsAct_91 (by decide) (fun c_ => absurd c_ (by decide)) (fun c_ => ?_)
      refine lv_aload_n hx hb dX7_readsAct_94 rfl (lv_at hl 2 rfl) ?_
      refine t_get (ci := 7) (v := .int 0) hB hT (ro_ci r_37 rfl) rfl 37 (by decide) k_782 f_34 dX7_readsAct_95 ?_
      refine lv_if_ne (tgt := 134) hx hb dX7_readsAct_98 (by decide) (fun c_ => absurd (by decide) c_) (fun c_ => ?_)
      refine lv_aload_n hx hb dX7_readsAct_101 rfl (lv_at hl 2 rfl) ?_
      refine t_get (ci := 7) (v := .ref wt) hB hT (ro_ci r_37 rfl) rfl 42 (by decide) k_787 kn_47 dX7_readsAct_102 ?_
      refine lv_iconst (v := 3) hx hb dX7_readsAct_105 (by decide) ?_
      refine lv_iload_n hx hb dX7_readsAct_106 rfl (lv_at hl 1 rfl) ?_
      refine lv_imul hx hb dX7_readsAct_107 ?_
      refine x_ev (y := 3) (by decide) ?_
      refine lv_iload_n hx hb dX7_readsAct_108 rfl (lv_at hl 0 rfl) ?_
      refine lv_iadd hx hb dX7_readsAct_109 ?_
      refine x_ev (y := 4) (by decide) ?_
      have kw_55 : g_29.2.2.2.1 wt (4 : Int32).toNatClampNeg = 100 := (hWT (4 : Int32).toNatClampNeg (by decide)).trans (by decide)
      have i_u_56 : vp_in (4 : Int32) 24 := (by unfold vp_in; decide)
      refine t_iald (v := (100 : Int32)) hB hT (ro_in r_40 (by decide)) n_44 i_u_56 kw_55 dX7_readsAct_110 ?_
      refine lv_if_eq (tgt := 128) hx hb dX7_readsAct_111 (by decide) (fun c_ => absurd c_ (by decide)) (fun c_ => ?_)
      refine lv_aload_n hx hb dX7_readsAct_114 rfl (lv_at hl 2 rfl) ?_
      refine lv_aload_n hx hb dX7_readsAct_115 rfl (lv_at hl 2 rfl) ?_
      refine t_get (ci := 7) (v := .ref wt) hB hT (ro_ci r_37 rfl) rfl 42 (by decide) k_787 kn_47 dX7_readsAct_116 ?_
      refine lv_iconst (v := 3) hx hb dX7_readsAct_119 (by decide) ?_
      refine lv_iload_n hx hb dX7_readsAct_120 rfl (lv_at hl 1 rfl) ?_
      refine lv_imul hx hb dX7_readsAct_121 ?_
      refine x_ev (y := 3) (by decide) ?_
      refine lv_iload_n hx hb dX7_readsAct_122 rfl (lv_at hl 0 rfl) ?_
      refine lv_iadd hx hb dX7_readsAct_123 ?_
      refine x_ev (y := 4) (by decide) ?_
      have kw_57 : g_29.2.2.2.1 wt (4 : Int32).toNatClampNeg = 100 := (hWT (4 : Int32).toNatClampNeg (by decide)).trans (by decide)
      have i_u_58 : vp_in (4 : Int32) 24 := (by unfold vp_in; decide)
      refine t_iald (v := (100 : Int32)) hB hT (ro_in r_40 (by decide)) n_44 i_u_58 kw_57 dX7_readsAct_124 ?_
      refine t_callV (n := 1) (As := [.int 100]) (rest := []) (ci := 7) hB hT hl.1 (m_must l D cI cZ cS cR N0 g_29 hI h 100 s2_30 0 z t ct r_37 r_41 n_45 f_33 f_34 kn_50 kn_51 (by have q0 : (0 : Int32).toInt = 0 := (by decide); have q1 : (100 : Int32).toInt = 100 := (by decide); omega) (by have q0 : (0 : Int32).toInt = 0 := (by decide); have q1 : (100 : Int32).toInt = 100 := (by decide); omega) (by have q0 : (0 : Int32).toInt = 0 := (by decide); have q1 : (100 : Int32).toInt = 100 := (by decide); omega) (by have q0 : (0 : Int32).toInt = 0 := (by decide); have q1 : (100 : Int32).toInt = 100 := (by decide); omega) (by have q0 : (0 : Int32).toInt = 0 := (by decide); have q1 : (100 : Int32).toInt = 100 := (by decide); omega) (by have q0 : (0 : Int32).toInt = 0 := (by decide); have q1 : (100 : Int32).toInt = 100 := (by decide); omega) (by have q0 : (0 : Int32).toInt = 0 := (by decide); have q1 : (100 : Int32).toInt = 100 := (by decide); omega) hc) (ro_ci r_37 rfl) rfl k_975 k_65 k_972 k_974 k_24 (by decide +kernel) ⟨(Nat.le_of_ble_eq_true rfl), (Nat.le_of_ble_eq_true rfl)⟩ rfl (Nat.le_of_ble_eq_true rfl) ⟨(Nat.le_of_ble_eq_true rfl), (Nat.le_of_ble_eq_true rfl)⟩ dX7_readsAct_125 (fun v g_59 H locs hp hT => ?_)
      obtain ⟨s2_60, w2_61, rfl, hI, x_66, m_65, f_62, f_63, f_64⟩ := hp
      have hN : PL 8 g_59 na pa := hN.sm m_65 r_38 (by decide) rfl r_39 (by decide) rfl
      have hc : g_59.2.2.2.1 t = ct := (Sm.cf m_65 r_41 (by decide) rfl).trans hc
      have hWT : WT g_59 wt := hWT.sm m_65 r_40 (by decide) rfl
      have hM : Sm md_m_readsAct g g_59 := hM.tr hE (m_65.mo (fun r k h => mdle_m_readsAct_m_must h))
      have hE : Ex g g_59 := hE.tr x_66
      have r_67 : g_59.1 h = 8 := (Ex.r x_66 r_37 (by decide))
      have r_68 : g_59.1 na = 84 := (Ex.r x_66 r_38 (by decide))
      have r_69 : g_59.1 pa = 85 := (Ex.r x_66 r_39 (by decide))
      have r_70 : g_59.1 wt = 87 := (Ex.r x_66 r_40 (by decide))
      have r_71 : g_59.1 t = 79 := (Ex.r x_66 r_41 (by decide))
      have n_72 : g_59.2.2.1 na = 8 := (Ex.n x_66 r_38 (by decide) n_42)
      have n_73 : g_59.2.2.1 pa = 8 := (Ex.n x_66 r_39 (by decide) n_43)
      have n_74 : g_59.2.2.1 wt = 24 := (Ex.n x_66 r_40 (by decide) n_44)
      have n_75 : g_59.2.2.1 t = 100 := (Ex.n x_66 r_41 (by decide) n_45)
      have kn_76 : g_59.2.1 h 38 = .int rz := (Sm.v m_65 r_37 (by decide) rfl kn_46)
      have kn_77 : g_59.2.1 h 42 = .ref wt := (Sm.v m_65 r_37 (by decide) rfl kn_47)
      have kn_78 : g_59.2.1 h 39 = .ref na := (Sm.v m_65 r_37 (by decide) rfl kn_48)
      have kn_79 : g_59.2.1 h 40 = .ref pa := (Sm.v m_65 r_37 (by decide) rfl kn_49)
      have kn_80 : g_59.2.1 h 29 = .int z := (Sm.v m_65 r_37 (by decide) rfl kn_50)
      have kn_81 : g_59.2.1 h 28 = .ref t := (Sm.v m_65 r_37 (by decide) rfl kn_51)
      have kn_82 : g_59.2.2.2.1 wt (3 : Int32).toNatClampNeg = 97 := (Sm.c m_65 r_40 (by decide) rfl kn_52)
      have kn_83 : g_59.2.2.2.1 wt (4 : Int32).toNatClampNeg = 100 := (Sm.c m_65 r_40 (by decide) rfl kw_57)
      refine W.eq (g2 := F0 m 128 ls []) rfl ?_
      have qc_84 : (0 : Int32).toInt = 0 := (by decide)
      have qc_85 : (100 : Int32).toInt = 100 := (by decide)
      rcases f_62 with ⟨hx_, -⟩ | ⟨-, ht_s2_60, hs_s2_60, hz_s2_60, hw_s2_60⟩ | ⟨-, ht_s2_60, hs_s2_60, hw_s2_60⟩
      · exact absurd hx_ (by decide)
      · have ew_ : w2_61 = 0 := i_inj (hw_s2_60.trans (by decide))
        subst ew_
        rw [show s2_30.toInt = s0.toInt + 1 by omega] at ht_s2_60
        refine lv_iinc (v := 2) (lv' := [(2, .int 2), (1, .int 1), (0, .ref h)]) hx hb dX7_readsAct_128 hl (k := 0) rfl (by decide) (by decide) rfl (fun ls hl => ?_)
        refine lv_goto (tgt := 89) hx hb dX7_readsAct_131 (by decide) ?_
        refine lv_iload_n hx hb dX7_readsAct_89 rfl (lv_at hl 0 rfl) ?_
        refine lv_iconst (v := 3) hx hb dX7_readsAct_90 (by decide) ?_
        refine lv_icmp_ge (tgt := 134) hx hb dX7_readsAct_91 (by decide) (fun c_ => absurd c_ (by decide)) (fun c_ => ?_)
        refine lv_aload_n hx hb dX7_readsAct_94 rfl (lv_at hl 2 rfl) ?_
        refine t_get (ci := 7) (v := .int 0) hB hT (ro_ci r_67 rfl) rfl 37 (by decide) k_782 f_64 dX7_readsAct_95 ?_
        refine lv_if_ne (tgt := 134) hx hb dX7_readsAct_98 (by decide) (fun c_ => absurd (by decide) c_) (fun c_ => ?_)
        refine lv_aload_n hx hb dX7_readsAct_101 rfl (lv_at hl 2 rfl) ?_
        refine t_get (ci := 7) (v := .ref wt) hB hT (ro_ci r_67 rfl) rfl 42 (by decide) k_787 kn_77 dX7_readsAct_102 ?_
        refine lv_iconst (v := 3) hx hb dX7_readsAct_105 (by decide) ?_
        refine lv_iload_n hx hb dX7_readsAct_106 rfl (lv_at hl 1 rfl) ?_
        refine lv_imul hx hb dX7_readsAct_107 ?_
        refine x_ev (y := 3) (by decide) ?_
        refine lv_iload_n hx hb dX7_readsAct_108 rfl (lv_at hl 0 rfl) ?_
        refine lv_iadd hx hb dX7_readsAct_109 ?_
        refine x_ev (y := 5) (by decide) ?_
        have kw_86 : g_59.2.2.2.1 wt (5 : Int32).toNatClampNeg = 100 := (hWT (5 : Int32).toNatClampNeg (by decide)).trans (by decide)
        have i_u_87 : vp_in (5 : Int32) 24 := (by unfold vp_in; decide)
        refine t_iald (v := (100 : Int32)) hB hT (ro_in r_70 (by decide)) n_74 i_u_87 kw_86 dX7_readsAct_110 ?_
        refine lv_if_eq (tgt := 128) hx hb dX7_readsAct_111 (by decide) (fun c_ => absurd c_ (by decide)) (fun c_ => ?_)
        refine lv_aload_n hx hb dX7_readsAct_114 rfl (lv_at hl 2 rfl) ?_
        refine lv_aload_n hx hb dX7_readsAct_115 rfl (lv_at hl 2 rfl) ?_
        refine t_get (ci := 7) (v := .ref wt) hB hT (ro_ci r_67 rfl) rfl 42 (by decide) k_787 kn_77 dX7_readsAct_116 ?_
        refine lv_iconst (v := 3) hx hb dX7_readsAct_119 (by decide) ?_
        refine lv_iload_n hx hb dX7_readsAct_120 rfl (lv_at hl 1 rfl) ?_
        refine lv_imul hx hb dX7_readsAct_121 ?_
        refine x_ev (y := 3) (by decide) ?_
        refine lv_iload_n hx hb dX7_readsAct_122 rfl (lv_at hl 0 rfl) ?_
        refine lv_iadd hx hb dX7_readsAct_123 ?_
        refine x_ev (y := 5) (by decide) ?_
        have kw_88 : g_59.2.2.2.1 wt (5 : Int32).toNatClampNeg = 100 := (hWT (5 : Int32).toNatClampNeg (by decide)).trans (by decide)
        have i_u_89 : vp_in (5 : Int32) 24 := (by unfold vp_in; decide)
        refine t_iald (v := (100 : Int32)) hB hT (ro_in r_70 (by decide)) n_74 i_u_89 kw_88 dX7_readsAct_124 ?_
        refine t_callV (n := 1) (As := [.int 100]) (rest := []) (ci := 7) hB hT hl.1 (m_must l D cI cZ cS cR N0 g_59 hI h 100 s2_60 0 z t ct r_67 r_71 n_75 f_63 f_64 kn_80 kn_81 (by have q0 : (0 : Int32).toInt = 0 := (by decide); have q1 : (100 : Int32).toInt = 100 := (by decide); omega) (by have q0 : (0 : Int32).toInt = 0 := (by decide); have q1 : (100 : Int32).toInt = 100 := (by decide); omega) (by have q0 : (0 : Int32).toInt = 0 := (by decide); have q1 : (100 : Int32).toInt = 100 := (by decide); omega) (by have q0 : (0 : Int32).toInt = 0 := (by decide); have q1 : (100 : Int32).toInt = 100 := (by decide); omega) (by have q0 : (0 : Int32).toInt = 0 := (by decide); have q1 : (100 : Int32).toInt = 100 := (by decide); omega) (by have q0 : (0 : Int32).toInt = 0 := (by decide); have q1 : (100 : Int32).toInt = 100 := (by decide); omega) (by have q0 : (0 : Int32).toInt = 0 := (by decide); have q1 : (100 : Int32).toInt = 100 := (by decide); omega) hc) (ro_ci r_67 rfl) rfl k_975 k_65 k_972 k_974 k_24 (by decide +kernel) ⟨(Nat.le_of_ble_eq_true rfl), (Nat.le_of_ble_eq_true rfl)⟩ rfl (Nat.le_of_ble_eq_true rfl) ⟨(Nat.le_of_ble_eq_true rfl), (Nat.le_of_ble_eq_true rfl)⟩ dX7_readsAct_125 (fun v g_90 H locs hp hT => ?_)
        obtain ⟨s2_91, w2_92, rfl, hI, x_97, m_96, f_93, f_94, f_95⟩ := hp
        have hN : PL 8 g_90 na pa := hN.sm m_96 r_68 (by decide) rfl r_69 (by decide) rfl
        have hc : g_90.2.2.2.1 t = ct := (Sm.cf m_96 r_71 (by decide) rfl).trans hc
        have hWT : WT g_90 wt := hWT.sm m_96 r_70 (by decide) rfl
        have hM : Sm md_m_readsAct g g_90 := hM.tr hE (m_96.mo (fun r k h => mdle_m_readsAct_m_must h))
        have hE : Ex g g_90 := hE.tr x_97
        have r_98 : g_90.1 h = 8 := (Ex.r x_97 r_67 (by decide))
        have r_99 : g_90.1 na = 84 := (Ex.r x_97 r_68 (by decide))
        have r_100 : g_90.1 pa = 85 := (Ex.r x_97 r_69 (by decide))
        have r_101 : g_90.1 wt = 87 := (Ex.r x_97 r_70 (by decide))
        have r_102 : g_90.1 t = 79 := (Ex.r x_97 r_71 (by decide))
        have n_103 : g_90.2.2.1 na = 8 := (Ex.n x_97 r_68 (by decide) n_72)
        have n_104 : g_90.2.2.1 pa = 8 := (Ex.n x_97 r_69 (by decide) n_73)
        have n_105 : g_90.2.2.1 wt = 24 := (Ex.n x_97 r_70 (by decide) n_74)
        have n_106 : g_90.2.2.1 t = 100 := (Ex.n x_97 r_71 (by decide) n_75)
        have kn_107 : g_90.2.1 h 38 = .int rz := (Sm.v m_96 r_67 (by decide) rfl kn_76)
        have kn_108 : g_90.2.1 h 42 = .ref wt := (Sm.v m_96 r_67 (by decide) rfl kn_77)
        have kn_109 : g_90.2.1 h 39 = .ref na := (Sm.v m_96 r_67 (by decide) rfl kn_78)
        have kn_110 : g_90.2.1 h 40 = .ref pa := (Sm.v m_96 r_67 (by decide) rfl kn_79)
        have kn_111 : g_90.2.1 h 29 = .int z := (Sm.v m_96 r_67 (by decide) rfl kn_80)
        have kn_112 : g_90.2.1 h 28 = .ref t := (Sm.v m_96 r_67 (by decide) rfl kn_81)
        have kn_113 : g_90.2.2.2.1 wt (3 : Int32).toNatClampNeg = 97 := (Sm.c m_96 r_70 (by decide) rfl kn_82)
        have kn_114 : g_90.2.2.2.1 wt (4 : Int32).toNatClampNeg = 100 := (Sm.c m_96 r_70 (by decide) rfl kn_83)
        have kn_115 : g_90.2.2.2.1 wt (5 : Int32).toNatClampNeg = 100 := (Sm.c m_96 r_70 (by decide) rfl kw_88)
        refine W.eq (g2 := F0 m 128 ls []) rfl ?_
        have qc_116 : (0 : Int32).toInt = 0 := (by decide)
        have qc_117 : (100 : Int32).toInt = 100 := (by decide)
        rcases f_93 with ⟨hx_, -⟩ | ⟨-, ht_s2_91, hs_s2_91, hz_s2_91, hw_s2_91⟩ | ⟨-, ht_s2_91, hs_s2_91, hw_s2_91⟩
        · exact absurd hx_ (by decide)
        · have ew_ : w2_92 = 0 := i_inj (hw_s2_91.trans (by decide))
          subst ew_
          rw [show s2_60.toInt = s0.toInt + 2 by omega] at ht_s2_91
          refine lv_iinc (v := 3) (lv' := [(2, .int 3), (1, .int 1), (0, .ref h)]) hx hb dX7_readsAct_128 hl (k := 0) rfl (by decide) (by decide) rfl (fun ls hl => ?_)
          refine lv_goto (tgt := 89) hx hb dX7_readsAct_131 (by decide) ?_
          refine lv_iload_n hx hb dX7_readsAct_89 rfl (lv_at hl 0 rfl) ?_
          refine lv_iconst (v := 3) hx hb dX7_readsAct_90 (by decide) ?_
          refine lv_icmp_ge (tgt := 134) hx hb dX7_readsAct_91 (by decide) (fun c_ => ?_) (fun c_ => absurd (by decide) c_)
          refine lv_aload_n hx hb dX7_readsAct_134 rfl (lv_at hl 2 rfl) ?_
          refine lv_bipush (v := 32) hx hb dX7_readsAct_135 (by decide) ?_
          refine t_callV (n := 1) (As := [.int 32]) (rest := []) (ci := 7) hB hT hl.1 (m_must l D cI cZ cS cR N0 g_90 hI h 32 s2_91 0 z t ct r_98 r_102 n_106 f_94 f_95 kn_111 kn_112 (by have q0 : (0 : Int32).toInt = 0 := (by decide); have q1 : (32 : Int32).toInt = 32 := (by decide); omega) (by have q0 : (0 : Int32).toInt = 0 := (by decide); have q1 : (32 : Int32).toInt = 32 := (by decide); omega) (by have q0 : (0 : Int32).toInt = 0 := (by decide); have q1 : (32 : Int32).toInt = 32 := (by decide); omega) (by have q0 : (0 : Int32).toInt = 0 := (by decide); have q1 : (32 : Int32).toInt = 32 := (by decide); omega) (by have q0 : (0 : Int32).toInt = 0 := (by decide); have q1 : (32 : Int32).toInt = 32 := (by decide); omega) (by have q0 : (0 : Int32).toInt = 0 := (by decide); have q1 : (32 : Int32).toInt = 32 := (by decide); omega) (by have q0 : (0 : Int32).toInt = 0 := (by decide); have q1 : (32 : Int32).toInt = 32 := (by decide); omega) hc) (ro_ci r_98 rfl) rfl k_975 k_65 k_972 k_974 k_24 (by decide +kernel) ⟨(Nat.le_of_ble_eq_true rfl), (Nat.le_of_ble_eq_true rfl)⟩ rfl (Nat.le_of_ble_eq_true rfl) ⟨(Nat.le_of_ble_eq_true rfl), (Nat.le_of_ble_eq_true rfl)⟩ dX7_readsAct_137 (fun v g_118 H locs hp hT => ?_)
          obtain ⟨s2_119, w2_120, rfl, hI, x_125, m_124, f_121, f_122, f_123⟩ := hp
          have hN : PL 8 g_118 na pa := hN.sm m_124 r_99 (by decide) rfl r_100 (by decide) rfl
          have hc : g_118.2.2.2.1 t = ct := (Sm.cf m_124 r_102 (by decide) rfl).trans hc
          have hWT : WT g_118 wt := hWT.sm m_124 r_101 (by decide) rfl
          have hM : Sm md_m_readsAct g g_118 := hM.tr hE (m_124.mo (fun r k h => mdle_m_readsAct_m_must h))
          have hE : Ex g g_118 := hE.tr x_125
          have r_126 : g_118.1 h = 8 := (Ex.r x_125 r_98 (by decide))
          have r_127 : g_118.1 na = 84 := (Ex.r x_125 r_99 (by decide))
          have r_128 : g_118.1 pa = 85 := (Ex.r x_125 r_100 (by decide))
          have r_129 : g_118.1 wt = 87 := (Ex.r x_125 r_101 (by decide))
          have r_130 : g_118.1 t = 79 := (Ex.r x_125 r_102 (by decide))
          have n_131 : g_118.2.2.1 na = 8 := (Ex.n x_125 r_99 (by decide) n_103)
          have n_132 : g_118.2.2.1 pa = 8 := (Ex.n x_125 r_100 (by decide) n_104)
          have n_133 : g_118.2.2.1 wt = 24 := (Ex.n x_125 r_101 (by decide) n_105)
          have n_134 : g_118.2.2.1 t = 100 := (Ex.n x_125 r_102 (by decide) n_106)
          have kn_135 : g_118.2.1 h 38 = .int rz := (Sm.v m_124 r_98 (by decide) rfl kn_107)
          have kn_136 : g_118.2.1 h 42 = .ref wt := (Sm.v m_124 r_98 (by decide) rfl kn_108)
          have kn_137 : g_118.2.1 h 39 = .ref na := (Sm.v m_124 r_98 (by decide) rfl kn_109)
          have kn_138 : g_118.2.1 h 40 = .ref pa := (Sm.v m_124 r_98 (by decide) rfl kn_110)
          have kn_139 : g_118.2.1 h 29 = .int z := (Sm.v m_124 r_98 (by decide) rfl kn_111)
          have kn_140 : g_118.2.1 h 28 = .ref t := (Sm.v m_124 r_98 (by decide) rfl kn_112)
          have kn_141 : g_118.2.2.2.1 wt (3 : Int32).toNatClampNeg = 97 := (Sm.c m_124 r_101 (by decide) rfl kn_113)
          have kn_142 : g_118.2.2.2.1 wt (4 : Int32).toNatClampNeg = 100 := (Sm.c m_124 r_101 (by decide) rfl kn_114)
          have kn_143 : g_118.2.2.2.1 wt (5 : Int32).toNatClampNeg = 100 := (Sm.c m_124 r_101 (by decide) rfl kn_115)
          refine W.eq (g2 := F0 m 140 ls []) rfl ?_
          have qc_144 : (0 : Int32).toInt = 0 := (by decide)
          have qc_145 : (32 : Int32).toInt = 32 := (by decide)
          rcases f_121 with ⟨hx_, -⟩ | ⟨-, ht_s2_119, hs_s2_119, hz_s2_119, hw_s2_119⟩ | ⟨-, ht_s2_119, hs_s2_119, hw_s2_119⟩
          · exact absurd hx_ (by decide)
          · have ew_ : w2_120 = 0 := i_inj (hw_s2_119.trans (by decide))
            subst ew_
            rw [show s2_91.toInt = s0.toInt + 3 by omega] at ht_s2_119
            have hv_ := wo_1 (T := (txb ct z.toInt)) (p := s0.toInt) ⟨by omega, by omega, by omega, by omega⟩
            exact lt_m_readsAct_c0 l D cI cZ cS cR N0 g h s0 rz wt na pa z t ct r_h r_na n_na r_pa n_pa r_wt n_wt r_t n_t krz ks0 kw0 kwt kna kpa kz kt l_rz u_rz l_s0 u_s0 hN_0 hWT_0 l_z u_z hc_0 hB hr   g_118 (1 : Int32) s2_119 H locs ls hT hI hE hM (by decide) (by decide) (by omega) (by omega) kn_135 f_122 f_123 hN hc hWT ⟨by decide, hv_.1.trans (by decide), (by have q_ := hv_.2; omega), by omega⟩ (lv_sub hl [1, 2] rfl)
          · have ew_ : w2_120 = 1 := i_inj (hw_s2_119.trans (by decide))
            subst ew_
            rw [show s2_91.toInt = s0.toInt + 3 by omega] at ht_s2_119
            have hs_ : wsel ((txb ct z.toInt) s0.toInt) ((txb ct z.toInt) (s0.toInt + 1)) = 1 := ws_1 (by omega) (by omega)
            have hq_ : qj (txb ct z.toInt) s0.toInt 1 = 3 := wp4_3 (by omega) (by omega) (by omega) (by omega)
            have hv_ := wd_f hs_ (Or.inr (fun h_ => absurd (hq_.symm.trans h_) (by decide)))
            exact lt_m_readsAct_c1 l D cI cZ cS cR N0 g h s0 rz wt na pa z t ct r_h r_na n_na r_pa n_pa r_wt n_wt r_t n_t krz ks0 kw0 kwt kna kpa kz kt l_rz u_rz l_s0 u_s0 hN_0 hWT_0 l_z u_z hc_0 hB hr   g_118 (1 : Int32) s2_119 H locs ls hT hI hE hM (by decide) (by decide) (by omega) (by omega) kn_135 f_122 f_123 hN hc hWT (ac_n hv_.1 (by have q_ := hv_.2; rw [hq_] at q_; omega)) (lv_sub hl [1, 2] rfl)
        · have ew_ : w2_92 = 1 := i_inj (hw_s2_91.trans (by decide))
          subst ew_
          rw [show s2_60.toInt = s0.toInt + 2 by omega] at ht_s2_91
          refine lv_iinc (v := 3) (lv' := [(2, .int 3), (1, .int 1), (0, .ref h)]) hx hb dX7_readsAct_128 hl (k := 0) rfl (by decide) (by decide) rfl (fun ls hl => ?_)
          refine lv_goto (tgt := 89) hx hb dX7_readsAct_131 (by decide) ?_
          refine lv_iload_n hx hb dX7_readsAct_89 rfl (lv_at hl 0 rfl) ?_
          refine lv_iconst (v := 3) hx hb dX7_readsAct_90 (by decide) ?_
          refine lv_icmp_ge (tgt := 134) hx hb dX7_readsAct_91 (by decide) (fun c_ => ?_) (fun c_ => absurd (by decide) c_)
          refine lv_aload_n hx hb dX7_readsAct_134 rfl (lv_at hl 2 rfl) ?_
          refine lv_bipush (v := 32) hx hb dX7_readsAct_135 (by decide) ?_
          refine t_callV (n := 1) (As := [.int 32]) (rest := []) (ci := 7) hB hT hl.1 (m_must l D cI cZ cS cR N0 g_90 hI h 32 s2_91 1 z t ct r_98 r_102 n_106 f_94 f_95 kn_111 kn_112 (by have q0 : (1 : Int32).toInt = 1 := (by decide); have q1 : (32 : Int32).toInt = 32 := (by decide); omega) (by have q0 : (1 : Int32).toInt = 1 := (by decide); have q1 : (32 : Int32).toInt = 32 := (by decide); omega) (by have q0 : (1 : Int32).toInt = 1 := (by decide); have q1 : (32 : Int32).toInt = 32 := (by decide); omega) (by have q0 : (1 : Int32).toInt = 1 := (by decide); have q1 : (32 : Int32).toInt = 32 := (by decide); omega) (by have q0 : (1 : Int32).toInt = 1 := (by decide); have q1 : (32 : Int32).toInt = 32 := (by decide); omega) (by have q0 : (1 : Int32).toInt = 1 := (by decide); have q1 : (32 : Int32).toInt = 32 := (by decide); omega) (by have q0 : (1 : Int32).toInt = 1 := (by decide); have q1 : (32 : Int32).toInt = 32 := (by decide); omega) hc) (ro_ci r_98 rfl) rfl k_975 k_65 k_972 k_974 k_24 (by decide +kernel) ⟨(Nat.le_of_ble_eq_true rfl), (Nat.le_of_ble_eq_true rfl)⟩ rfl (Nat.le_of_ble_eq_true rfl) ⟨(Nat.le_of_ble_eq_true rfl), (Nat.le_of_ble_eq_true rfl)⟩ dX7_readsAct_137 (fun v g_146 H locs hp hT => ?_)
          obtain ⟨s2_147, w2_148, rfl, hI, x_153, m_152, f_149, f_150, f_151⟩ := hp
          have hN : PL 8 g_146 na pa := hN.sm m_152 r_99 (by decide) rfl r_100 (by decide) rfl
          have hc : g_146.2.2.2.1 t = ct := (Sm.cf m_152 r_102 (by decide) rfl).trans hc
          have hWT : WT g_146 wt := hWT.sm m_152 r_101 (by decide) rfl
          have hM : Sm md_m_readsAct g g_146 := hM.tr hE (m_152.mo (fun r k h => mdle_m_readsAct_m_must h))
          have hE : Ex g g_146 := hE.tr x_153
          have r_154 : g_146.1 h = 8 := (Ex.r x_153 r_98 (by decide))
          have r_155 : g_146.1 na = 84 := (Ex.r x_153 r_99 (by decide))
          have r_156 : g_146.1 pa = 85 := (Ex.r x_153 r_100 (by decide))
          have r_157 : g_146.1 wt = 87 := (Ex.r x_153 r_101 (by decide))
          have r_158 : g_146.1 t = 79 := (Ex.r x_153 r_102 (by decide))
          have n_159 : g_146.2.2.1 na = 8 := (Ex.n x_153 r_99 (by decide) n_103)
          have n_160 : g_146.2.2.1 pa = 8 := (Ex.n x_153 r_100 (by decide) n_104)
          have n_161 : g_146.2.2.1 wt = 24 := (Ex.n x_153 r_101 (by decide) n_105)
          have n_162 : g_146.2.2.1 t = 100 := (Ex.n x_153 r_102 (by decide) n_106)
          have kn_163 : g_146.2.1 h 38 = .int rz := (Sm.v m_152 r_98 (by decide) rfl kn_107)
          have kn_164 : g_146.2.1 h 42 = .ref wt := (Sm.v m_152 r_98 (by decide) rfl kn_108)
          have kn_165 : g_146.2.1 h 39 = .ref na := (Sm.v m_152 r_98 (by decide) rfl kn_109)
          have kn_166 : g_146.2.1 h 40 = .ref pa := (Sm.v m_152 r_98 (by decide) rfl kn_110)
          have kn_167 : g_146.2.1 h 29 = .int z := (Sm.v m_152 r_98 (by decide) rfl kn_111)
          have kn_168 : g_146.2.1 h 28 = .ref t := (Sm.v m_152 r_98 (by decide) rfl kn_112)
          have kn_169 : g_146.2.2.2.1 wt (3 : Int32).toNatClampNeg = 97 := (Sm.c m_152 r_101 (by decide) rfl kn_113)
          have kn_170 : g_146.2.2.2.1 wt (4 : Int32).toNatClampNeg = 100 := (Sm.c m_152 r_101 (by decide) rfl kn_114)
          have kn_171 : g_146.2.2.2.1 wt (5 : Int32).toNatClampNeg = 100 := (Sm.c m_152 r_101 (by decide) rfl kn_115)
          refine W.eq (g2 := F0 m 140 ls []) rfl ?_
          have qc_172 : (1 : Int32).toInt = 1 := (by decide)
          have qc_173 : (32 : Int32).toInt = 32 := (by decide)
          rcases f_149 with ⟨-, hs_s2_147, hw_s2_147⟩ | ⟨hx_, -⟩ | ⟨hx_, -⟩
          rotate_left
          · exact absurd hx_ (by decide)
          · exact absurd hx_ (by decide)
          have ew_ : w2_148 = 1 := i_inj (hw_s2_147.trans (by decide))
          subst ew_
          have hs_ : wsel ((txb ct z.toInt) s0.toInt) ((txb ct z.toInt) (s0.toInt + 1)) = 1 := ws_1 (by omega) (by omega)
          have hq_ : qj (txb ct z.toInt) s0.toInt 1 = 2 := wp4_2 (by omega) (by omega) (by omega)
          have hv_ := wd_f hs_ (Or.inr (fun h_ => absurd (hq_.symm.trans h_) (by decide)))
          exact lt_m_readsAct_c1 l D cI cZ cS cR N0 g h s0 rz wt na pa z t ct r_h r_na n_na r_pa n_pa r_wt n_wt r_t n_t krz ks0 kw0 kwt kna kpa kz kt l_rz u_rz l_s0 u_s0 hN_0 hWT_0 l_z u_z hc_0 hB hr   g_146 (1 : Int32) s2_147 H locs ls hT hI hE hM (by decide) (by decide) (by omega) (by omega) kn_163 f_150 f_151 hN hc hWT (ac_n hv_.1 (by have q_ := hv_.2; rw [hq_] at q_; omega)) (lv_sub hl [1, 2] rfl)
      · have ew_ : w2_61 = 1 := i_inj (hw_s2_60.trans (by decide))
        subst ew_
        rw [show s2_30.toInt = s0.toInt + 1 by omega] at ht_s2_60
        refine lv_iinc (v := 2) (lv' := [(2, .int 2), (1, .int 1), (0, .ref h)]) hx hb dX7_readsAct_128 hl (k := 0) rfl (by decide) (by decide) rfl (fun ls hl => ?_)
        refine lv_goto (tgt := 89) hx hb dX7_readsAct_131 (by decide) ?_
        refine lv_iload_n hx hb dX7_readsAct_89 rfl (lv_at hl 0 rfl) ?_
        refine lv_iconst (v := 3) hx hb dX7_readsAct_90 (by decide) ?_
        refine lv_icmp_ge (tgt := 134) hx hb dX7_readsAct_91 (by decide) (fun c_ => absurd c_ (by decide)) (fun c_ => ?_)
        refine lv_aload_n hx hb dX7_readsAct_94 rfl (lv_at hl 2 rfl) ?_
        refine t_get (ci := 7) (v := .int 1) hB hT (ro_ci r_67 rfl) rfl 37 (by decide) k_782 f_64 dX7_readsAct_95 ?_
        refine lv_if_ne (tgt := 134) hx hb dX7_readsAct_98 (by decide) (fun c_ => ?_) (fun c_ => absurd c_ (by decide))
        refine lv_aload_n hx hb dX7_readsAct_134 rfl (lv_at hl 2 rfl) ?_
        refine lv_bipush (v := 32) hx hb dX7_readsAct_135 (by decide) ?_
        refine t_callV (n := 1) (As := [.int 32]) (rest := []) (ci := 7) hB hT hl.1 (m_must l D cI cZ cS cR N0 g_59 hI h 32 s2_60 1 z t ct r_67 r_71 n_75 f_63 f_64 kn_80 kn_81 (by have q0 : (1 : Int32).toInt = 1 := (by decide); have q1 : (32 : Int32).toInt = 32 := (by decide); omega) (by have q0 : (1 : Int32).toInt = 1 := (by decide); have q1 : (32 : Int32).toInt = 32 := (by decide); omega) (by have q0 : (1 : Int32).toInt = 1 := (by decide); have q1 : (32 : Int32).toInt = 32 := (by decide); omega) (by have q0 : (1 : Int32).toInt = 1 := (by decide); have q1 : (32 : Int32).toInt = 32 := (by decide); omega) (by have q0 : (1 : Int32).toInt = 1 := (by decide); have q1 : (32 : Int32).toInt = 32 := (by decide); omega) (by have q0 : (1 : Int32).toInt = 1 := (by decide); have q1 : (32 : Int32).toInt = 32 := (by decide); omega) (by have q0 : (1 : Int32).toInt = 1 := (by decide); have q1 : (32 : Int32).toInt = 32 := (by decide); omega) hc) (ro_ci r_67 rfl) rfl k_975 k_65 k_972 k_974 k_24 (by decide +kernel) ⟨(Nat.le_of_ble_eq_true rfl), (Nat.le_of_ble_eq_true rfl)⟩ rfl (Nat.le_of_ble_eq_true rfl) ⟨(Nat.le_of_ble_eq_true rfl), (Nat.le_of_ble_eq_true rfl)⟩ dX7_readsAct_137 (fun v g_174 H locs hp hT => ?_)
        obtain ⟨s2_175, w2_176, rfl, hI, x_181, m_180, f_177, f_178, f_179⟩ := hp
        have hN : PL 8 g_174 na pa := hN.sm m_180 r_68 (by decide) rfl r_69 (by decide) rfl
        have hc : g_174.2.2.2.1 t = ct := (Sm.cf m_180 r_71 (by decide) rfl).trans hc
        have hWT : WT g_174 wt := hWT.sm m_180 r_70 (by decide) rfl
        have hM : Sm md_m_readsAct g g_174 := hM.tr hE (m_180.mo (fun r k h => mdle_m_readsAct_m_must h))
        have hE : Ex g g_174 := hE.tr x_181
        have r_182 : g_174.1 h = 8 := (Ex.r x_181 r_67 (by decide))
        have r_183 : g_174.1 na = 84 := (Ex.r x_181 r_68 (by decide))
        have r_184 : g_174.1 pa = 85 := (Ex.r x_181 r_69 (by decide))
        have r_185 : g_174.1 wt = 87 := (Ex.r x_181 r_70 (by decide))
        have r_186 : g_174.1 t = 79 := (Ex.r x_181 r_71 (by decide))
        have n_187 : g_174.2.2.1 na = 8 := (Ex.n x_181 r_68 (by decide) n_72)
        have n_188 : g_174.2.2.1 pa = 8 := (Ex.n x_181 r_69 (by decide) n_73)
        have n_189 : g_174.2.2.1 wt = 24 := (Ex.n x_181 r_70 (by decide) n_74)
        have n_190 : g_174.2.2.1 t = 100 := (Ex.n x_181 r_71 (by decide) n_75)
        have kn_191 : g_174.2.1 h 38 = .int rz := (Sm.v m_180 r_67 (by decide) rfl kn_76)
        have kn_192 : g_174.2.1 h 42 = .ref wt := (Sm.v m_180 r_67 (by decide) rfl kn_77)
        have kn_193 : g_174.2.1 h 39 = .ref na := (Sm.v m_180 r_67 (by decide) rfl kn_78)
        have kn_194 : g_174.2.1 h 40 = .ref pa := (Sm.v m_180 r_67 (by decide) rfl kn_79)
        have kn_195 : g_174.2.1 h 29 = .int z := (Sm.v m_180 r_67 (by decide) rfl kn_80)
        have kn_196 : g_174.2.1 h 28 = .ref t := (Sm.v m_180 r_67 (by decide) rfl kn_81)
        have kn_197 : g_174.2.2.2.1 wt (3 : Int32).toNatClampNeg = 97 := (Sm.c m_180 r_70 (by decide) rfl kn_82)
        have kn_198 : g_174.2.2.2.1 wt (4 : Int32).toNatClampNeg = 100 := (Sm.c m_180 r_70 (by decide) rfl kn_83)
        refine W.eq (g2 := F0 m 140 ls []) rfl ?_
        have qc_199 : (1 : Int32).toInt = 1 := (by decide)
        have qc_200 : (32 : Int32).toInt = 32 := (by decide)
        rcases f_177 with ⟨-, hs_s2_175, hw_s2_175⟩ | ⟨hx_, -⟩ | ⟨hx_, -⟩
        rotate_left
        · exact absurd hx_ (by decide)
        · exact absurd hx_ (by decide)
        have ew_ : w2_176 = 1 := i_inj (hw_s2_175.trans (by decide))
        subst ew_
        have hs_ : wsel ((txb ct z.toInt) s0.toInt) ((txb ct z.toInt) (s0.toInt + 1)) = 1 := ws_1 (by omega) (by omega)
        have hq_ : qj (txb ct z.toInt) s0.toInt 1 = 1 := wp4_1 (by omega) (by omega)
        have hv_ := wd_f hs_ (Or.inr (fun h_ => absurd (hq_.symm.trans h_) (by decide)))
        exact lt_m_readsAct_c1 l D cI cZ cS cR N0 g h s0 rz wt na pa z t ct r_h r_na n_na r_pa n_pa r_wt n_wt r_t n_t krz ks0 kw0 kwt kna kpa kz kt l_rz u_rz l_s0 u_s0 hN_0 hWT_0 l_z u_z hc_0 hB hr   g_174 (1 : Int32) s2_175 H locs ls hT hI hE hM (by decide) (by decide) (by omega) (by omega) kn_191 f_178 f_179 hN hc hWT (ac_n hv_.1 (by have q_ := hv_.2; rw [hq_] at q_; omega)) (lv_sub hl [1, 2] rfl)
    · have ew_ : w2_31 = 1 := i_inj (hw_s2_30.trans (by decide))
      subst ew_
      refine lv_iinc (v := 1) (lv' := [(2, .int 1), (1, .int 1), (0, .ref h)]) hx hb dX7_readsAct_128 hl (k := 0) rfl (by decide) (by decide) rfl (fun ls hl => ?_)
      refine lv_goto (tgt := 89) hx hb dX7_readsAct_131 (by decide) ?_
      refine lv_iload_n hx hb dX7_readsAct_89 rfl (lv_at hl 0 rfl) ?_
      refine lv_iconst (v := 3) hx hb dX7_readsAct_90 (by decide) ?_
      refine lv_icmp_ge (tgt := 134) hx hb dX7_readsAct_91 (by decide) (fun c_ => absurd c_ (by decide)) (fun c_ => ?_)
      refine lv_aload_n hx hb dX7_readsAct_94 rfl (lv_at hl 2 rfl) ?_
      refine t_get (ci := 7) (v := .int 1) hB hT (ro_ci r_37 rfl) rfl 37 (by decide) k_782 f_34 dX7_readsAct_95 ?_
      refine lv_if_ne (tgt := 134) hx hb dX7_readsAct_98 (by decide) (fun c_ => ?_) (fun c_ => absurd c_ (by decide))
      refine lv_aload_n hx hb dX7_readsAct_134 rfl (lv_at hl 2 rfl) ?_
      refine lv_bipush (v := 32) hx hb dX7_readsAct_135 (by decide) ?_
      refine t_callV (n := 1) (As := [.int 32]) (rest := []) (ci := 7) hB hT hl.1 (m_must l D cI cZ cS cR N0 g_29 hI h 32 s2_30 1 z t ct r_37 r_41 n_45 f_33 f_34 kn_50 kn_51 (by have q0 : (1 : Int32).toInt = 1 := (by decide); have q1 : (32 : Int32).toInt = 32 := (by decide); omega) (by have q0 : (1 : Int32).toInt = 1 := (by decide); have q1 : (32 : Int32).toInt = 32 := (by decide); omega) (by have q0 : (1 : Int32).toInt = 1 := (by decide); have q1 : (32 : Int32).toInt = 32 := (by decide); omega) (by have q0 : (1 : Int32).toInt = 1 := (by decide); have q1 : (32 : Int32).toInt = 32 := (by decide); omega) (by have q0 : (1 : Int32).toInt = 1 := (by decide); have q1 : (32 : Int32).toInt = 32 := (by decide); omega) (by have q0 : (1 : Int32).toInt = 1 := (by decide); have q1 : (32 : Int32).toInt = 32 := (by decide); omega) (by have q0 : (1 : Int32).toInt = 1 := (by decide); have q1 : (32 : Int32).toInt = 32 := (by decide); omega) hc) (ro_ci r_37 rfl) rfl k_975 k_65 k_972 k_974 k_24 (by decide +kernel) ⟨(Nat.le_of_ble_eq_true rfl), (Nat.le_of_ble_eq_true rfl)⟩ rfl (Nat.le_of_ble_eq_true rfl) ⟨(Nat.le_of_ble_eq_true rfl), (Nat.le_of_ble_eq_true rfl)⟩ dX7_readsAct_137 (fun v g_201 H locs hp hT => ?_)
      obtain ⟨s2_202, w2_203, rfl, hI, x_208, m_207, f_204, f_205, f_206⟩ := hp
      have hN : PL 8 g_201 na pa := hN.sm m_207 r_38 (by decide) rfl r_39 (by decide) rfl
      have hc : g_201.2.2.2.1 t = ct := (Sm.cf m_207 r_41 (by decide) rfl).trans hc
      have hWT : WT g_201 wt := hWT.sm m_207 r_40 (by decide) rfl
      have hM : Sm md_m_readsAct g g_201 := hM.tr hE (m_207.mo (fun r k h => mdle_m_readsAct_m_must h))
      have hE : Ex g g_201 := hE.tr x_208
      have r_209 : g_201.1 h = 8 := (Ex.r x_208 r_37 (by decide))
      have r_210 : g_201.1 na = 84 := (Ex.r x_208 r_38 (by decide))
      have r_211 : g_201.1 pa = 85 := (Ex.r x_208 r_39 (by decide))
      have r_212 : g_201.1 wt = 87 := (Ex.r x_208 r_40 (by decide))
      have r_213 : g_201.1 t = 79 := (Ex.r x_208 r_41 (by decide))
      have n_214 : g_201.2.2.1 na = 8 := (Ex.n x_208 r_38 (by decide) n_42)
      have n_215 : g_201.2.2.1 pa = 8 := (Ex.n x_208 r_39 (by decide) n_43)
      have n_216 : g_201.2.2.1 wt = 24 := (Ex.n x_208 r_40 (by decide) n_44)
      have n_217 : g_201.2.2.1 t = 100 := (Ex.n x_208 r_41 (by decide) n_45)
      have kn_218 : g_201.2.1 h 38 = .int rz := (Sm.v m_207 r_37 (by decide) rfl kn_46)
      have kn_219 : g_201.2.1 h 42 = .ref wt := (Sm.v m_207 r_37 (by decide) rfl kn_47)
      have kn_220 : g_201.2.1 h 39 = .ref na := (Sm.v m_207 r_37 (by decide) rfl kn_48)
      have kn_221 : g_201.2.1 h 40 = .ref pa := (Sm.v m_207 r_37 (by decide) rfl kn_49)
      have kn_222 : g_201.2.1 h 29 = .int z := (Sm.v m_207 r_37 (by decide) rfl kn_50)
      have kn_223 : g_201.2.1 h 28 = .ref t := (Sm.v m_207 r_37 (by decide) rfl kn_51)
      have kn_224 : g_201.2.2.2.1 wt (3 : Int32).toNatClampNeg = 97 := (Sm.c m_207 r_40 (by decide) rfl kn_52)
      refine W.eq (g2 := F0 m 140 ls []) rfl ?_
      have qc_225 : (1 : Int32).toInt = 1 := (by decide)
      have qc_226 : (32 : Int32).toInt = 32 := (by decide)
      rcases f_204 with ⟨-, hs_s2_202, hw_s2_202⟩ | ⟨hx_, -⟩ | ⟨hx_, -⟩
      rotate_left
      · exact absurd hx_ (by decide)
      · exact absurd hx_ (by decide)
      have ew_ : w2_203 = 1 := i_inj (hw_s2_202.trans (by decide))
      subst ew_
      have hs_ : wsel ((txb ct z.toInt) s0.toInt) ((txb ct z.toInt) (s0.toInt + 1)) = 1 := ws_1 (by omega) (by omega)
      have hq_ : qj (txb ct z.toInt) s0.toInt 1 = 0 := wp4_0 (by omega)
      have hv_ := wd_f hs_ (Or.inr (fun h_ => absurd (hq_.symm.trans h_) (by decide)))
      exact lt_m_readsAct_c1 l D cI cZ cS cR N0 g h s0 rz wt na pa z t ct r_h r_na n_na r_pa n_pa r_wt n_wt r_t n_t krz ks0 kw0 kwt kna kpa kz kt l_rz u_rz l_s0 u_s0 hN_0 hWT_0 l_z u_z hc_0 hB hr   g_201 (1 : Int32) s2_202 H locs ls hT hI hE hM (by decide) (by decide) (by omega) (by omega) kn_218 f_205 f_206 hN hc hWT (ac_n hv_.1 (by have q_ := hv_.2; rw [hq_] at q_; omega)) (lv_sub hl [1, 2] rfl)
  · have c_24' : r_16.toInt ≠ 97 := i_ne c_24 rfl (by decide)
    refine lv_iinc (v := 2) (lv' := [(1, .int 2), (0, .ref h)]) hx hb dX7_readsAct_59 hl (k := 0) rfl (by decide) (by decide) rfl (fun ls hl => ?_)
    refine lv_goto (tgt := 34) hx hb dX7_readsAct_62 (by decide) ?_
    exact lt_m_readsAct_w2 l D cI cZ cS cR N0 g h s0 rz wt na pa z t ct r_h r_na n_na r_pa n_pa r_wt n_wt r_t n_t krz ks0 kw0 kwt kna kpa kz kt l_rz u_rz l_s0 u_s0 hN_0 hWT_0 l_z u_z hc_0 hB hr   g1 H locs ls hT hI hE hM kp0 kp1 kp2 hN hc hWT (by omega) (lv_sub hl [0, 1] rfl)
set_option maxHeartbeats 4000000 in
set_option maxRecDepth 100000 in
theorem lt_m_readsAct_w0 (l : Launch) (D : va_G) (cI cZ cS cR : ClassId) (N0 : NT) (g : GS) (h : Nat) (s0 : Int32) (rz : Int32) (wt : Nat) (na : Nat) (pa : Nat) (z : Int32) (t : Nat) (ct : Nat → Int32) (r_h : g.1 h = 8) (r_na : g.1 na = 84) (n_na : g.2.2.1 na = 8) (r_pa : g.1 pa = 85) (n_pa : g.2.2.1 pa = 8) (r_wt : g.1 wt = 87) (n_wt : g.2.2.1 wt = 24) (r_t : g.1 t = 79) (n_t : g.2.2.1 t = 100) (krz : g.2.1 h 38 = .int rz) (ks0 : g.2.1 h 36 = .int s0) (kw0 : g.2.1 h 37 = .int 0) (kwt : g.2.1 h 42 = .ref wt) (kna : g.2.1 h 39 = .ref na) (kpa : g.2.1 h 40 = .ref pa) (kz : g.2.1 h 29 = .int z) (kt : g.2.1 h 28 = .ref t) (l_rz : 0 ≤ rz.toInt) (u_rz : rz.toInt ≤ 7) (l_s0 : 0 ≤ s0.toInt) (u_s0 : s0.toInt ≤ 100) (hN_0 : PL 8 g na pa) (hWT_0 : WT g wt) (l_z : 0 ≤ z.toInt) (u_z : z.toInt ≤ 100) (hc_0 : g.2.2.2.1 t = ct) {p : Program} {e : Env} {s : State} {m : MethodId} {args : Array Value} {below : List Frame} {meth : Method} {c : Code} (hB : Tz p s m meth c args cX7_readsAct 4 RX7 D cI cZ cS cR N0) (hr : meth.sig.returnType = none)    : ∀ (g1 : GS)   (H : Heap) (locs : List Loc) (ls : Array Slot), Tv D cI cZ cS cR N0 s.heap H locs g1 → Inv g1 → Ex g g1 → Sm md_m_readsAct g g1 → g1.2.1 h 38 = .int rz → g1.2.1 h 36 = .int s0 → g1.2.1 h 37 = .int 0 → (PL 8 g1 na pa) → (g1.2.2.2.1 t = ct) → (WT g1 wt) → (¬ ((txb ct z.toInt) s0.toInt = 97 ∧ (txb ct z.toInt) (s0.toInt + 1) = 115)) → lv_has ls 4 [(1, .int 0), (0, .ref h)] → W p l e (rmx 2 0 0) s m args below meth c H locs 0 0 (MQ below (tQ D cI cZ cS cR N0 (fun v g' => ∃ (z2 : Int32) (s2 : Int32) (w2 : Int32), v = none ∧ Inv g' ∧ Ex g g' ∧ Sm md_m_readsAct g g' ∧ ((w2 = 1 ∧ ac (txb ct z.toInt) s0.toInt = (false, s2.toInt)) ∨ (w2 = 0 ∧ ac (txb ct z.toInt) s0.toInt = (true, s2.toInt) ∧ s2.toInt ≤ z.toInt)) ∧ (g'.2.1 h 38 = .int z2) ∧ (z2.toInt = rz.toInt + 1) ∧ (PL 8 g' na pa) ∧ (g'.2.1 h 36 = .int s2) ∧ (g'.2.1 h 37 = .int w2) ∧ (0 ≤ s2.toInt ∧ s2.toInt ≤ 100))) args s 0 0 (fun q => N0.1 ≤ q)) (F0 m 34 ls []) := by
  have hx := hB.1
  have hb := hB.2.1
  intro g1 H locs ls hT hI hE hM kp0 kp1 kp2 hN hc hWT hS hl
  have r_1 : g1.1 h = 8 := Ex.r hE r_h (by decide)
  have r_2 : g1.1 na = 84 := Ex.r hE r_na (by decide)
  have n_3 : g1.2.2.1 na = 8 := Ex.n hE r_na (by decide) n_na
  have r_4 : g1.1 pa = 85 := Ex.r hE r_pa (by decide)
  have n_5 : g1.2.2.1 pa = 8 := Ex.n hE r_pa (by decide) n_pa
  have r_6 : g1.1 wt = 87 := Ex.r hE r_wt (by decide)
  have n_7 : g1.2.2.1 wt = 24 := Ex.n hE r_wt (by decide) n_wt
  have r_8 : g1.1 t = 79 := Ex.r hE r_t (by decide)
  have n_9 : g1.2.2.1 t = 100 := Ex.n hE r_t (by decide) n_t
  have kn_10 : g1.2.1 h 42 = .ref wt := Sm.v hM r_h (by decide) rfl kwt
  have kn_11 : g1.2.1 h 39 = .ref na := Sm.v hM r_h (by decide) rfl kna
  have kn_12 : g1.2.1 h 40 = .ref pa := Sm.v hM r_h (by decide) rfl kpa
  have kn_13 : g1.2.1 h 29 = .int z := Sm.v hM r_h (by decide) rfl kz
  have kn_14 : g1.2.1 h 28 = .ref t := Sm.v hM r_h (by decide) rfl kt
  refine lv_iload_n hx hb dX7_readsAct_34 rfl (lv_at hl 0 rfl) ?_
  refine lv_bipush (v := 8) hx hb dX7_readsAct_35 (by decide) ?_
  refine lv_icmp_ge (tgt := 65) hx hb dX7_readsAct_37 (by decide) (fun c_ => absurd c_ (by decide)) (fun c_ => ?_)
  refine lv_aload_n hx hb dX7_readsAct_40 rfl (lv_at hl 1 rfl) ?_
  refine lv_aload_n hx hb dX7_readsAct_41 rfl (lv_at hl 1 rfl) ?_
  refine t_get (ci := 7) (v := .int s0) hB hT (ro_ci r_1 rfl) rfl 36 (by decide) k_781 kp1 dX7_readsAct_42 ?_
  refine t_callV (n := 1) (As := [.int s0]) (rest := []) (ci := 7) hB hT hl.1 (m_byteAt l D cI cZ cS cR N0 g1 hI h s0 z t ct r_1 r_8 n_9 kn_13 kn_14 (by omega) (by omega) (by omega) (by omega) hc) (ro_ci r_1 rfl) rfl k_971 k_65 k_968 k_970 k_23 (by decide +kernel) ⟨(Nat.le_of_ble_eq_true rfl), (Nat.le_of_ble_eq_true rfl)⟩ rfl (Nat.le_of_ble_eq_true rfl) ⟨(Nat.le_of_ble_eq_true rfl), (Nat.le_of_ble_eq_true rfl)⟩ dX7_readsAct_45 (fun v g_15 H locs hp hT => ?_)
  obtain ⟨r_16, rfl, eg, f_17, f_18, f_19⟩ := hp
  rw [eg] at hT
  clear eg
  refine W.eq (g2 := F0 m 48 ls [.int r_16]) rfl ?_
  refine lv_aload_n hx hb dX7_readsAct_48 rfl (lv_at hl 1 rfl) ?_
  refine t_get (ci := 7) (v := .ref wt) hB hT (ro_ci r_1 rfl) rfl 42 (by decide) k_787 kn_10 dX7_readsAct_49 ?_
  refine lv_iconst (v := 3) hx hb dX7_readsAct_52 (by decide) ?_
  refine lv_iload_n hx hb dX7_readsAct_53 rfl (lv_at hl 0 rfl) ?_
  refine lv_imul hx hb dX7_readsAct_54 ?_
  refine x_ev (y := 0) (by decide) ?_
  have kw_22 : g1.2.2.2.1 wt (0 : Int32).toNatClampNeg = 115 := (hWT (0 : Int32).toNatClampNeg (by decide)).trans (by decide)
  have i_u_23 : vp_in (0 : Int32) 24 := (by unfold vp_in; decide)
  refine t_iald (v := (115 : Int32)) hB hT (ro_in r_6 (by decide)) n_7 i_u_23 kw_22 dX7_readsAct_55 ?_
  refine lv_icmp_eq (tgt := 65) hx hb dX7_readsAct_56 (by decide) (fun c_24 => ?_) (fun c_24 => ?_)
  · have c_24' : r_16.toInt = 115 := i_eq c_24 rfl (by decide)
    refine lv_aload_n hx hb dX7_readsAct_65 rfl (lv_at hl 1 rfl) ?_
    refine lv_aload_n hx hb dX7_readsAct_66 rfl (lv_at hl 1 rfl) ?_
    refine t_get (ci := 7) (v := .int 0) hB hT (ro_ci r_1 rfl) rfl 37 (by decide) k_782 kp2 dX7_readsAct_67 ?_
    refine lv_if_ne (tgt := 79) hx hb dX7_readsAct_70 (by decide) (fun c_ => absurd (by decide) c_) (fun c_ => ?_)
    refine lv_iload_n hx hb dX7_readsAct_73 rfl (lv_at hl 0 rfl) ?_
    refine lv_bipush (v := 8) hx hb dX7_readsAct_74 (by decide) ?_
    refine lv_icmp_ne (tgt := 83) hx hb dX7_readsAct_76 (by decide) (fun c_ => ?_) (fun c_ => absurd c_ (by decide))
    refine lv_iconst (v := 0) hx hb dX7_readsAct_83 (by decide) ?_
    refine t_put0 (ci := 7) (v := .int 0) hB hT (ro_ci r_1 rfl) (ro_n0 r_1 (by decide)) rfl 37 (by decide) k_782 (Or.inl rfl) rfl rfl dX7_readsAct_84 (fun H locs hT => ?_)
    have hI : Inv (sF g1 h 37 (.int 0)) := hI.sF (p_8_37 r_1 (⟨_, rfl, by decide, by decide⟩))
    have hM : Sm md_m_readsAct g (sF g1 h 37 (.int 0)) := hM.tr hE (Sm_sF (by rw [r_1]; rfl))
    have hE : Ex g (sF g1 h 37 (.int 0)) := hE
    have hN : PL 8 (sF g1 h 37 (.int 0)) na pa := hN
    have hc : (sF g1 h 37 (.int 0)).2.2.2.1 t = ct := hc
    have hWT : WT (sF g1 h 37 (.int 0)) wt := hWT
    refine lv_iconst (v := 0) hx hb dX7_readsAct_87 (by decide) ?_
    refine lv_istore_n (lv' := [(2, .int 0), (1, .int 0), (0, .ref h)]) hx hb dX7_readsAct_88 rfl hl (by decide) rfl (fun ls hl => ?_)
    refine lv_iload_n hx hb dX7_readsAct_89 rfl (lv_at hl 0 rfl) ?_
    refine lv_iconst (v := 3) hx hb dX7_readsAct_90 (by decide) ?_
    refine lv_icmp_ge (tgt := 134) hx hb dX7_readsAct_91 (by decide) (fun c_ => absurd c_ (by decide)) (fun c_ => ?_)
    refine lv_aload_n hx hb dX7_readsAct_94 rfl (lv_at hl 2 rfl) ?_
    refine t_get (ci := 7) (v := .int 0) hB hT (ro_ci r_1 rfl) rfl 37 (by decide) k_782 sF_eq dX7_readsAct_95 ?_
    refine lv_if_ne (tgt := 134) hx hb dX7_readsAct_98 (by decide) (fun c_ => absurd (by decide) c_) (fun c_ => ?_)
    refine lv_aload_n hx hb dX7_readsAct_101 rfl (lv_at hl 2 rfl) ?_
    refine t_get (ci := 7) (v := .ref wt) hB hT (ro_ci r_1 rfl) rfl 42 (by decide) k_787 (sF_k kn_10 (by decide)) dX7_readsAct_102 ?_
    refine lv_iconst (v := 3) hx hb dX7_readsAct_105 (by decide) ?_
    refine lv_iload_n hx hb dX7_readsAct_106 rfl (lv_at hl 1 rfl) ?_
    refine lv_imul hx hb dX7_readsAct_107 ?_
    refine x_ev (y := 0) (by decide) ?_
    refine lv_iload_n hx hb dX7_readsAct_108 rfl (lv_at hl 0 rfl) ?_
    refine lv_iadd hx hb dX7_readsAct_109 ?_
    refine x_ev (y := 0) (by decide) ?_
    have kw_25 : (sF g1 h 37 (.int 0)).2.2.2.1 wt (0 : Int32).toNatClampNeg = 115 := (hWT (0 : Int32).toNatClampNeg (by decide)).trans (by decide)
    have i_u_26 : vp_in (0 : Int32) 24 := (by unfold vp_in; decide)
    refine t_iald (v := (115 : Int32)) hB hT (ro_in r_6 (by decide)) n_7 i_u_26 kw_25 dX7_readsAct_110 ?_
    refine lv_if_eq (tgt := 128) hx hb dX7_readsAct_111 (by decide) (fun c_ => absurd c_ (by decide)) (fun c_ => ?_)
    refine lv_aload_n hx hb dX7_readsAct_114 rfl (lv_at hl 2 rfl) ?_
    refine lv_aload_n hx hb dX7_readsAct_115 rfl (lv_at hl 2 rfl) ?_
    refine t_get (ci := 7) (v := .ref wt) hB hT (ro_ci r_1 rfl) rfl 42 (by decide) k_787 (sF_k kn_10 (by decide)) dX7_readsAct_116 ?_
    refine lv_iconst (v := 3) hx hb dX7_readsAct_119 (by decide) ?_
    refine lv_iload_n hx hb dX7_readsAct_120 rfl (lv_at hl 1 rfl) ?_
    refine lv_imul hx hb dX7_readsAct_121 ?_
    refine x_ev (y := 0) (by decide) ?_
    refine lv_iload_n hx hb dX7_readsAct_122 rfl (lv_at hl 0 rfl) ?_
    refine lv_iadd hx hb dX7_readsAct_123 ?_
    refine x_ev (y := 0) (by decide) ?_
    have kw_27 : (sF g1 h 37 (.int 0)).2.2.2.1 wt (0 : Int32).toNatClampNeg = 115 := (hWT (0 : Int32).toNatClampNeg (by decide)).trans (by decide)
    have i_u_28 : vp_in (0 : Int32) 24 := (by unfold vp_in; decide)
    refine t_iald (v := (115 : Int32)) hB hT (ro_in r_6 (by decide)) n_7 i_u_28 kw_27 dX7_readsAct_124 ?_
    refine t_callV (n := 1) (As := [.int 115]) (rest := []) (ci := 7) hB hT hl.1 (m_must l D cI cZ cS cR N0 (sF g1 h 37 (.int 0)) hI h 115 s0 0 z t ct r_1 r_8 n_9 (sF_k kp1 (by decide)) sF_eq (sF_k kn_13 (by decide)) (sF_k kn_14 (by decide)) (by have q0 : (0 : Int32).toInt = 0 := (by decide); have q1 : (115 : Int32).toInt = 115 := (by decide); omega) (by have q0 : (0 : Int32).toInt = 0 := (by decide); have q1 : (115 : Int32).toInt = 115 := (by decide); omega) (by have q0 : (0 : Int32).toInt = 0 := (by decide); have q1 : (115 : Int32).toInt = 115 := (by decide); omega) (by have q0 : (0 : Int32).toInt = 0 := (by decide); have q1 : (115 : Int32).toInt = 115 := (by decide); omega) (by have q0 : (0 : Int32).toInt = 0 := (by decide); have q1 : (115 : Int32).toInt = 115 := (by decide); omega) (by have q0 : (0 : Int32).toInt = 0 := (by decide); have q1 : (115 : Int32).toInt = 115 := (by decide); omega) (by have q0 : (0 : Int32).toInt = 0 := (by decide); have q1 : (115 : Int32).toInt = 115 := (by decide); omega) hc) (ro_ci r_1 rfl) rfl k_975 k_65 k_972 k_974 k_24 (by decide +kernel) ⟨(Nat.le_of_ble_eq_true rfl), (Nat.le_of_ble_eq_true rfl)⟩ rfl (Nat.le_of_ble_eq_true rfl) ⟨(Nat.le_of_ble_eq_true rfl), (Nat.le_of_ble_eq_true rfl)⟩ dX7_readsAct_125 (fun v g_29 H locs hp hT => ?_)
    obtain ⟨s2_30, w2_31, rfl, hI, x_36, m_35, f_32, f_33, f_34⟩ := hp
    have hN : PL 8 g_29 na pa := hN.sm m_35 r_2 (by decide) rfl r_4 (by decide) rfl
    have hc : g_29.2.2.2.1 t = ct := (Sm.cf m_35 r_8 (by decide) rfl).trans hc
    have hWT : WT g_29 wt := hWT.sm m_35 r_6 (by decide) rfl
    have hM : Sm md_m_readsAct g g_29 := hM.tr hE (m_35.mo (fun r k h => mdle_m_readsAct_m_must h))
    have hE : Ex g g_29 := hE.tr x_36
    have r_37 : g_29.1 h = 8 := (Ex.r x_36 r_1 (by decide))
    have r_38 : g_29.1 na = 84 := (Ex.r x_36 r_2 (by decide))
    have r_39 : g_29.1 pa = 85 := (Ex.r x_36 r_4 (by decide))
    have r_40 : g_29.1 wt = 87 := (Ex.r x_36 r_6 (by decide))
    have r_41 : g_29.1 t = 79 := (Ex.r x_36 r_8 (by decide))
    have n_42 : g_29.2.2.1 na = 8 := (Ex.n x_36 r_2 (by decide) n_3)
    have n_43 : g_29.2.2.1 pa = 8 := (Ex.n x_36 r_4 (by decide) n_5)
    have n_44 : g_29.2.2.1 wt = 24 := (Ex.n x_36 r_6 (by decide) n_7)
    have n_45 : g_29.2.2.1 t = 100 := (Ex.n x_36 r_8 (by decide) n_9)
    have kn_46 : g_29.2.1 h 38 = .int rz := (Sm.v m_35 r_1 (by decide) rfl (sF_k kp0 (by decide)))
    have kn_47 : g_29.2.1 h 42 = .ref wt := (Sm.v m_35 r_1 (by decide) rfl (sF_k kn_10 (by decide)))
    have kn_48 : g_29.2.1 h 39 = .ref na := (Sm.v m_35 r_1 (by decide) rfl (sF_k kn_11 (by decide)))
    have kn_49 : g_29.2.1 h 40 = .ref pa := (Sm.v m_35 r_1 (by decide) rfl (sF_k kn_12 (by decide)))
    have kn_50 : g_29.2.1 h 29 = .int z := (Sm.v m_35 r_1 (by decide) rfl (sF_k kn_13 (by decide)))
    have kn_51 : g_29.2.1 h 28 = .ref t := (Sm.v m_35 r_1 (by decide) rfl (sF_k kn_14 (by decide)))
    have kn_52 : g_29.2.2.2.1 wt (0 : Int32).toNatClampNeg = 115 := (Sm.c m_35 r_6 (by decide) rfl kw_27)
    refine W.eq (g2 := F0 m 128 ls []) rfl ?_
    have qc_53 : (0 : Int32).toInt = 0 := (by decide)
    have qc_54 : (115 : Int32).toInt = 115 := (by decide)
    rcases f_32 with ⟨hx_, -⟩ | ⟨-, ht_s2_30, hs_s2_30, hz_s2_30, hw_s2_30⟩ | ⟨-, ht_s2_30, hs_s2_30, hw_s2_30⟩
    · exact absurd hx_ (by decide)
    · have ew_ : w2_31 = 0 := i_inj (hw_s2_30.trans (by decide))
      subst ew_
      refine lv_iinc (v := 1) (lv' := [(2, .int 1), (1, .int 0), (0, .ref h)]) hx hb dX7_readsAct_128 hl (k := 0) rfl (by decide) (by decide) rfl (fun ls hl => ?_)
      refine lv_goto (tgt := 89) hx hb dX7_readsAct_131 (by decide) ?_
      refine lv_iload_n hx hb dX7_readsAct_89 rfl (lv_at hl 0 rfl) ?_
      refine lv_iconst (v := 3) hx hb dX7_readsAct_90 (by decide) ?_
      refine lv_icmp_ge (tgt := 134) hx hb dX7_readsAct_91 (by decide) (fun c_ => absurd c_ (by decide)) (fun c_ => ?_)
      refine lv_aload_n hx hb dX7_readsAct_94 rfl (lv_at hl 2 rfl) ?_
      refine t_get (ci := 7) (v := .int 0) hB hT (ro_ci r_37 rfl) rfl 37 (by decide) k_782 f_34 dX7_readsAct_95 ?_
      refine lv_if_ne (tgt := 134) hx hb dX7_readsAct_98 (by decide) (fun c_ => absurd (by decide) c_) (fun c_ => ?_)
      refine lv_aload_n hx hb dX7_readsAct_101 rfl (lv_at hl 2 rfl) ?_
      refine t_get (ci := 7) (v := .ref wt) hB hT (ro_ci r_37 rfl) rfl 42 (by decide) k_787 kn_47 dX7_readsAct_102 ?_
      refine lv_iconst (v := 3) hx hb dX7_readsAct_105 (by decide) ?_
      refine lv_iload_n hx hb dX7_readsAct_106 rfl (lv_at hl 1 rfl) ?_
      refine lv_imul hx hb dX7_readsAct_107 ?_
      refine x_ev (y := 0) (by decide) ?_
      refine lv_iload_n hx hb dX7_readsAct_108 rfl (lv_at hl 0 rfl) ?_
      refine lv_iadd hx hb dX7_readsAct_109 ?_
      refine x_ev (y := 1) (by decide) ?_
      have kw_55 : g_29.2.2.2.1 wt (1 : Int32).toNatClampNeg = 101 := (hWT (1 : Int32).toNatClampNeg (by decide)).trans (by decide)
      have i_u_56 : vp_in (1 : Int32) 24 := (by unfold vp_in; decide)
      refine t_iald (v := (101 : Int32)) hB hT (ro_in r_40 (by decide)) n_44 i_u_56 kw_55 dX7_readsAct_110 ?_
      refine lv_if_eq (tgt := 128) hx hb dX7_readsAct_111 (by decide) (fun c_ => absurd c_ (by decide)) (fun c_ => ?_)
      refine lv_aload_n hx hb dX7_readsAct_114 rfl (lv_at hl 2 rfl) ?_
      refine lv_aload_n hx hb dX7_readsAct_115 rfl (lv_at hl 2 rfl) ?_
      refine t_get (ci := 7) (v := .ref wt) hB hT (ro_ci r_37 rfl) rfl 42 (by decide) k_787 kn_47 dX7_readsAct_116 ?_
      refine lv_iconst (v := 3) hx hb dX7_readsAct_119 (by decide) ?_
      refine lv_iload_n hx hb dX7_readsAct_120 rfl (lv_at hl 1 rfl) ?_
      refine lv_imul hx hb dX7_readsAct_121 ?_
      refine x_ev (y := 0) (by decide) ?_
      refine lv_iload_n hx hb dX7_readsAct_122 rfl (lv_at hl 0 rfl) ?_
      refine lv_iadd hx hb dX7_readsAct_123 ?_
      refine x_ev (y := 1) (by decide) ?_
      have kw_57 : g_29.2.2.2.1 wt (1 : Int32).toNatClampNeg = 101 := (hWT (1 : Int32).toNatClampNeg (by decide)).trans (by decide)
      have i_u_58 : vp_in (1 : Int32) 24 := (by unfold vp_in; decide)
      refine t_iald (v := (101 : Int32)) hB hT (ro_in r_40 (by decide)) n_44 i_u_58 kw_57 dX7_readsAct_124 ?_
      refine t_callV (n := 1) (As := [.int 101]) (rest := []) (ci := 7) hB hT hl.1 (m_must l D cI cZ cS cR N0 g_29 hI h 101 s2_30 0 z t ct r_37 r_41 n_45 f_33 f_34 kn_50 kn_51 (by have q0 : (0 : Int32).toInt = 0 := (by decide); have q1 : (101 : Int32).toInt = 101 := (by decide); omega) (by have q0 : (0 : Int32).toInt = 0 := (by decide); have q1 : (101 : Int32).toInt = 101 := (by decide); omega) (by have q0 : (0 : Int32).toInt = 0 := (by decide); have q1 : (101 : Int32).toInt = 101 := (by decide); omega) (by have q0 : (0 : Int32).toInt = 0 := (by decide); have q1 : (101 : Int32).toInt = 101 := (by decide); omega) (by have q0 : (0 : Int32).toInt = 0 := (by decide); have q1 : (101 : Int32).toInt = 101 := (by decide); omega) (by have q0 : (0 : Int32).toInt = 0 := (by decide); have q1 : (101 : Int32).toInt = 101 := (by decide); omega) (by have q0 : (0 : Int32).toInt = 0 := (by decide); have q1 : (101 : Int32).toInt = 101 := (by decide); omega) hc) (ro_ci r_37 rfl) rfl k_975 k_65 k_972 k_974 k_24 (by decide +kernel) ⟨(Nat.le_of_ble_eq_true rfl), (Nat.le_of_ble_eq_true rfl)⟩ rfl (Nat.le_of_ble_eq_true rfl) ⟨(Nat.le_of_ble_eq_true rfl), (Nat.le_of_ble_eq_true rfl)⟩ dX7_readsAct_125 (fun v g_59 H locs hp hT => ?_)
      obtain ⟨s2_60, w2_61, rfl, hI, x_66, m_65, f_62, f_63, f_64⟩ := hp
      have hN : PL 8 g_59 na pa := hN.sm m_65 r_38 (by decide) rfl r_39 (by decide) rfl
      have hc : g_59.2.2.2.1 t = ct := (Sm.cf m_65 r_41 (by decide) rfl).trans hc
      have hWT : WT g_59 wt := hWT.sm m_65 r_40 (by decide) rfl
      have hM : Sm md_m_readsAct g g_59 := hM.tr hE (m_65.mo (fun r k h => mdle_m_readsAct_m_must h))
      have hE : Ex g g_59 := hE.tr x_66
      have r_67 : g_59.1 h = 8 := (Ex.r x_66 r_37 (by decide))
      have r_68 : g_59.1 na = 84 := (Ex.r x_66 r_38 (by decide))
      have r_69 : g_59.1 pa = 85 := (Ex.r x_66 r_39 (by decide))
      have r_70 : g_59.1 wt = 87 := (Ex.r x_66 r_40 (by decide))
      have r_71 : g_59.1 t = 79 := (Ex.r x_66 r_41 (by decide))
      have n_72 : g_59.2.2.1 na = 8 := (Ex.n x_66 r_38 (by decide) n_42)
      have n_73 : g_59.2.2.1 pa = 8 := (Ex.n x_66 r_39 (by decide) n_43)
      have n_74 : g_59.2.2.1 wt = 24 := (Ex.n x_66 r_40 (by decide) n_44)
      have n_75 : g_59.2.2.1 t = 100 := (Ex.n x_66 r_41 (by decide) n_45)
      have kn_76 : g_59.2.1 h 38 = .int rz := (Sm.v m_65 r_37 (by decide) rfl kn_46)
      have kn_77 : g_59.2.1 h 42 = .ref wt := (Sm.v m_65 r_37 (by decide) rfl kn_47)
      have kn_78 : g_59.2.1 h 39 = .ref na := (Sm.v m_65 r_37 (by decide) rfl kn_48)
      have kn_79 : g_59.2.1 h 40 = .ref pa := (Sm.v m_65 r_37 (by decide) rfl kn_49)
      have kn_80 : g_59.2.1 h 29 = .int z := (Sm.v m_65 r_37 (by decide) rfl kn_50)
      have kn_81 : g_59.2.1 h 28 = .ref t := (Sm.v m_65 r_37 (by decide) rfl kn_51)
      have kn_82 : g_59.2.2.2.1 wt (0 : Int32).toNatClampNeg = 115 := (Sm.c m_65 r_40 (by decide) rfl kn_52)
      have kn_83 : g_59.2.2.2.1 wt (1 : Int32).toNatClampNeg = 101 := (Sm.c m_65 r_40 (by decide) rfl kw_57)
      refine W.eq (g2 := F0 m 128 ls []) rfl ?_
      have qc_84 : (0 : Int32).toInt = 0 := (by decide)
      have qc_85 : (101 : Int32).toInt = 101 := (by decide)
      rcases f_62 with ⟨hx_, -⟩ | ⟨-, ht_s2_60, hs_s2_60, hz_s2_60, hw_s2_60⟩ | ⟨-, ht_s2_60, hs_s2_60, hw_s2_60⟩
      · exact absurd hx_ (by decide)
      · have ew_ : w2_61 = 0 := i_inj (hw_s2_60.trans (by decide))
        subst ew_
        rw [show s2_30.toInt = s0.toInt + 1 by omega] at ht_s2_60
        refine lv_iinc (v := 2) (lv' := [(2, .int 2), (1, .int 0), (0, .ref h)]) hx hb dX7_readsAct_128 hl (k := 0) rfl (by decide) (by decide) rfl (fun ls hl => ?_)
        refine lv_goto (tgt := 89) hx hb dX7_readsAct_131 (by decide) ?_
        refine lv_iload_n hx hb dX7_readsAct_89 rfl (lv_at hl 0 rfl) ?_
        refine lv_iconst (v := 3) hx hb dX7_readsAct_90 (by decide) ?_
        refine lv_icmp_ge (tgt := 134) hx hb dX7_readsAct_91 (by decide) (fun c_ => absurd c_ (by decide)) (fun c_ => ?_)
        refine lv_aload_n hx hb dX7_readsAct_94 rfl (lv_at hl 2 rfl) ?_
        refine t_get (ci := 7) (v := .int 0) hB hT (ro_ci r_67 rfl) rfl 37 (by decide) k_782 f_64 dX7_readsAct_95 ?_
        refine lv_if_ne (tgt := 134) hx hb dX7_readsAct_98 (by decide) (fun c_ => absurd (by decide) c_) (fun c_ => ?_)
        refine lv_aload_n hx hb dX7_readsAct_101 rfl (lv_at hl 2 rfl) ?_
        refine t_get (ci := 7) (v := .ref wt) hB hT (ro_ci r_67 rfl) rfl 42 (by decide) k_787 kn_77 dX7_readsAct_102 ?_
        refine lv_iconst (v := 3) hx hb dX7_readsAct_105 (by decide) ?_
        refine lv_iload_n hx hb dX7_readsAct_106 rfl (lv_at hl 1 rfl) ?_
        refine lv_imul hx hb dX7_readsAct_107 ?_
        refine x_ev (y := 0) (by decide) ?_
        refine lv_iload_n hx hb dX7_readsAct_108 rfl (lv_at hl 0 rfl) ?_
        refine lv_iadd hx hb dX7_readsAct_109 ?_
        refine x_ev (y := 2) (by decide) ?_
        have kw_86 : g_59.2.2.2.1 wt (2 : Int32).toNatClampNeg = 116 := (hWT (2 : Int32).toNatClampNeg (by decide)).trans (by decide)
        have i_u_87 : vp_in (2 : Int32) 24 := (by unfold vp_in; decide)
        refine t_iald (v := (116 : Int32)) hB hT (ro_in r_70 (by decide)) n_74 i_u_87 kw_86 dX7_readsAct_110 ?_
        refine lv_if_eq (tgt := 128) hx hb dX7_readsAct_111 (by decide) (fun c_ => absurd c_ (by decide)) (fun c_ => ?_)
        refine lv_aload_n hx hb dX7_readsAct_114 rfl (lv_at hl 2 rfl) ?_
        refine lv_aload_n hx hb dX7_readsAct_115 rfl (lv_at hl 2 rfl) ?_
        refine t_get (ci := 7) (v := .ref wt) hB hT (ro_ci r_67 rfl) rfl 42 (by decide) k_787 kn_77 dX7_readsAct_116 ?_
        refine lv_iconst (v := 3) hx hb dX7_readsAct_119 (by decide) ?_
        refine lv_iload_n hx hb dX7_readsAct_120 rfl (lv_at hl 1 rfl) ?_
        refine lv_imul hx hb dX7_readsAct_121 ?_
        refine x_ev (y := 0) (by decide) ?_
        refine lv_iload_n hx hb dX7_readsAct_122 rfl (lv_at hl 0 rfl) ?_
        refine lv_iadd hx hb dX7_readsAct_123 ?_
        refine x_ev (y := 2) (by decide) ?_
        have kw_88 : g_59.2.2.2.1 wt (2 : Int32).toNatClampNeg = 116 := (hWT (2 : Int32).toNatClampNeg (by decide)).trans (by decide)
        have i_u_89 : vp_in (2 : Int32) 24 := (by unfold vp_in; decide)
        refine t_iald (v := (116 : Int32)) hB hT (ro_in r_70 (by decide)) n_74 i_u_89 kw_88 dX7_readsAct_124 ?_
        refine t_callV (n := 1) (As := [.int 116]) (rest := []) (ci := 7) hB hT hl.1 (m_must l D cI cZ cS cR N0 g_59 hI h 116 s2_60 0 z t ct r_67 r_71 n_75 f_63 f_64 kn_80 kn_81 (by have q0 : (0 : Int32).toInt = 0 := (by decide); have q1 : (116 : Int32).toInt = 116 := (by decide); omega) (by have q0 : (0 : Int32).toInt = 0 := (by decide); have q1 : (116 : Int32).toInt = 116 := (by decide); omega) (by have q0 : (0 : Int32).toInt = 0 := (by decide); have q1 : (116 : Int32).toInt = 116 := (by decide); omega) (by have q0 : (0 : Int32).toInt = 0 := (by decide); have q1 : (116 : Int32).toInt = 116 := (by decide); omega) (by have q0 : (0 : Int32).toInt = 0 := (by decide); have q1 : (116 : Int32).toInt = 116 := (by decide); omega) (by have q0 : (0 : Int32).toInt = 0 := (by decide); have q1 : (116 : Int32).toInt = 116 := (by decide); omega) (by have q0 : (0 : Int32).toInt = 0 := (by decide); have q1 : (116 : Int32).toInt = 116 := (by decide); omega) hc) (ro_ci r_67 rfl) rfl k_975 k_65 k_972 k_974 k_24 (by decide +kernel) ⟨(Nat.le_of_ble_eq_true rfl), (Nat.le_of_ble_eq_true rfl)⟩ rfl (Nat.le_of_ble_eq_true rfl) ⟨(Nat.le_of_ble_eq_true rfl), (Nat.le_of_ble_eq_true rfl)⟩ dX7_readsAct_125 (fun v g_90 H locs hp hT => ?_)
        obtain ⟨s2_91, w2_92, rfl, hI, x_97, m_96, f_93, f_94, f_95⟩ := hp
        have hN : PL 8 g_90 na pa := hN.sm m_96 r_68 (by decide) rfl r_69 (by decide) rfl
        have hc : g_90.2.2.2.1 t = ct := (Sm.cf m_96 r_71 (by decide) rfl).trans hc
        have hWT : WT g_90 wt := hWT.sm m_96 r_70 (by decide) rfl
        have hM : Sm md_m_readsAct g g_90 := hM.tr hE (m_96.mo (fun r k h => mdle_m_readsAct_m_must h))
        have hE : Ex g g_90 := hE.tr x_97
        have r_98 : g_90.1 h = 8 := (Ex.r x_97 r_67 (by decide))
        have r_99 : g_90.1 na = 84 := (Ex.r x_97 r_68 (by decide))
        have r_100 : g_90.1 pa = 85 := (Ex.r x_97 r_69 (by decide))
        have r_101 : g_90.1 wt = 87 := (Ex.r x_97 r_70 (by decide))
        have r_102 : g_90.1 t = 79 := (Ex.r x_97 r_71 (by decide))
        have n_103 : g_90.2.2.1 na = 8 := (Ex.n x_97 r_68 (by decide) n_72)
        have n_104 : g_90.2.2.1 pa = 8 := (Ex.n x_97 r_69 (by decide) n_73)
        have n_105 : g_90.2.2.1 wt = 24 := (Ex.n x_97 r_70 (by decide) n_74)
        have n_106 : g_90.2.2.1 t = 100 := (Ex.n x_97 r_71 (by decide) n_75)
        have kn_107 : g_90.2.1 h 38 = .int rz := (Sm.v m_96 r_67 (by decide) rfl kn_76)
        have kn_108 : g_90.2.1 h 42 = .ref wt := (Sm.v m_96 r_67 (by decide) rfl kn_77)
        have kn_109 : g_90.2.1 h 39 = .ref na := (Sm.v m_96 r_67 (by decide) rfl kn_78)
        have kn_110 : g_90.2.1 h 40 = .ref pa := (Sm.v m_96 r_67 (by decide) rfl kn_79)
        have kn_111 : g_90.2.1 h 29 = .int z := (Sm.v m_96 r_67 (by decide) rfl kn_80)
        have kn_112 : g_90.2.1 h 28 = .ref t := (Sm.v m_96 r_67 (by decide) rfl kn_81)
        have kn_113 : g_90.2.2.2.1 wt (0 : Int32).toNatClampNeg = 115 := (Sm.c m_96 r_70 (by decide) rfl kn_82)
        have kn_114 : g_90.2.2.2.1 wt (1 : Int32).toNatClampNeg = 101 := (Sm.c m_96 r_70 (by decide) rfl kn_83)
        have kn_115 : g_90.2.2.2.1 wt (2 : Int32).toNatClampNeg = 116 := (Sm.c m_96 r_70 (by decide) rfl kw_88)
        refine W.eq (g2 := F0 m 128 ls []) rfl ?_
        have qc_116 : (0 : Int32).toInt = 0 := (by decide)
        have qc_117 : (116 : Int32).toInt = 116 := (by decide)
        rcases f_93 with ⟨hx_, -⟩ | ⟨-, ht_s2_91, hs_s2_91, hz_s2_91, hw_s2_91⟩ | ⟨-, ht_s2_91, hs_s2_91, hw_s2_91⟩
        · exact absurd hx_ (by decide)
        · have ew_ : w2_92 = 0 := i_inj (hw_s2_91.trans (by decide))
          subst ew_
          rw [show s2_60.toInt = s0.toInt + 2 by omega] at ht_s2_91
          refine lv_iinc (v := 3) (lv' := [(2, .int 3), (1, .int 0), (0, .ref h)]) hx hb dX7_readsAct_128 hl (k := 0) rfl (by decide) (by decide) rfl (fun ls hl => ?_)
          refine lv_goto (tgt := 89) hx hb dX7_readsAct_131 (by decide) ?_
          refine lv_iload_n hx hb dX7_readsAct_89 rfl (lv_at hl 0 rfl) ?_
          refine lv_iconst (v := 3) hx hb dX7_readsAct_90 (by decide) ?_
          refine lv_icmp_ge (tgt := 134) hx hb dX7_readsAct_91 (by decide) (fun c_ => ?_) (fun c_ => absurd (by decide) c_)
          refine lv_aload_n hx hb dX7_readsAct_134 rfl (lv_at hl 2 rfl) ?_
          refine lv_bipush (v := 32) hx hb dX7_readsAct_135 (by decide) ?_
          refine t_callV (n := 1) (As := [.int 32]) (rest := []) (ci := 7) hB hT hl.1 (m_must l D cI cZ cS cR N0 g_90 hI h 32 s2_91 0 z t ct r_98 r_102 n_106 f_94 f_95 kn_111 kn_112 (by have q0 : (0 : Int32).toInt = 0 := (by decide); have q1 : (32 : Int32).toInt = 32 := (by decide); omega) (by have q0 : (0 : Int32).toInt = 0 := (by decide); have q1 : (32 : Int32).toInt = 32 := (by decide); omega) (by have q0 : (0 : Int32).toInt = 0 := (by decide); have q1 : (32 : Int32).toInt = 32 := (by decide); omega) (by have q0 : (0 : Int32).toInt = 0 := (by decide); have q1 : (32 : Int32).toInt = 32 := (by decide); omega) (by have q0 : (0 : Int32).toInt = 0 := (by decide); have q1 : (32 : Int32).toInt = 32 := (by decide); omega) (by have q0 : (0 : Int32).toInt = 0 := (by decide); have q1 : (32 : Int32).toInt = 32 := (by decide); omega) (by have q0 : (0 : Int32).toInt = 0 := (by decide); have q1 : (32 : Int32).toInt = 32 := (by decide); omega) hc) (ro_ci r_98 rfl) rfl k_975 k_65 k_972 k_974 k_24 (by decide +kernel) ⟨(Nat.le_of_ble_eq_true rfl), (Nat.le_of_ble_eq_true rfl)⟩ rfl (Nat.le_of_ble_eq_true rfl) ⟨(Nat.le_of_ble_eq_true rfl), (Nat.le_of_ble_eq_true rfl)⟩ dX7_readsAct_137 (fun v g_118 H locs hp hT => ?_)
          obtain ⟨s2_119, w2_120, rfl, hI, x_125, m_124, f_121, f_122, f_123⟩ := hp
          have hN : PL 8 g_118 na pa := hN.sm m_124 r_99 (by decide) rfl r_100 (by decide) rfl
          have hc : g_118.2.2.2.1 t = ct := (Sm.cf m_124 r_102 (by decide) rfl).trans hc
          have hWT : WT g_118 wt := hWT.sm m_124 r_101 (by decide) rfl
          have hM : Sm md_m_readsAct g g_118 := hM.tr hE (m_124.mo (fun r k h => mdle_m_readsAct_m_must h))
          have hE : Ex g g_118 := hE.tr x_125
          have r_126 : g_118.1 h = 8 := (Ex.r x_125 r_98 (by decide))
          have r_127 : g_118.1 na = 84 := (Ex.r x_125 r_99 (by decide))
          have r_128 : g_118.1 pa = 85 := (Ex.r x_125 r_100 (by decide))
          have r_129 : g_118.1 wt = 87 := (Ex.r x_125 r_101 (by decide))
          have r_130 : g_118.1 t = 79 := (Ex.r x_125 r_102 (by decide))
          have n_131 : g_118.2.2.1 na = 8 := (Ex.n x_125 r_99 (by decide) n_103)
          have n_132 : g_118.2.2.1 pa = 8 := (Ex.n x_125 r_100 (by decide) n_104)
          have n_133 : g_118.2.2.1 wt = 24 := (Ex.n x_125 r_101 (by decide) n_105)
          have n_134 : g_118.2.2.1 t = 100 := (Ex.n x_125 r_102 (by decide) n_106)
          have kn_135 : g_118.2.1 h 38 = .int rz := (Sm.v m_124 r_98 (by decide) rfl kn_107)
          have kn_136 : g_118.2.1 h 42 = .ref wt := (Sm.v m_124 r_98 (by decide) rfl kn_108)
          have kn_137 : g_118.2.1 h 39 = .ref na := (Sm.v m_124 r_98 (by decide) rfl kn_109)
          have kn_138 : g_118.2.1 h 40 = .ref pa := (Sm.v m_124 r_98 (by decide) rfl kn_110)
          have kn_139 : g_118.2.1 h 29 = .int z := (Sm.v m_124 r_98 (by decide) rfl kn_111)
          have kn_140 : g_118.2.1 h 28 = .ref t := (Sm.v m_124 r_98 (by decide) rfl kn_112)
          have kn_141 : g_118.2.2.2.1 wt (0 : Int32).toNatClampNeg = 115 := (Sm.c m_124 r_101 (by decide) rfl kn_113)
          have kn_142 : g_118.2.2.2.1 wt (1 : Int32).toNatClampNeg = 101 := (Sm.c m_124 r_101 (by decide) rfl kn_114)
          have kn_143 : g_118.2.2.2.1 wt (2 : Int32).toNatClampNeg = 116 := (Sm.c m_124 r_101 (by decide) rfl kn_115)
          refine W.eq (g2 := F0 m 140 ls []) rfl ?_
          have qc_144 : (0 : Int32).toInt = 0 := (by decide)
          have qc_145 : (32 : Int32).toInt = 32 := (by decide)
          rcases f_121 with ⟨hx_, -⟩ | ⟨-, ht_s2_119, hs_s2_119, hz_s2_119, hw_s2_119⟩ | ⟨-, ht_s2_119, hs_s2_119, hw_s2_119⟩
          · exact absurd hx_ (by decide)
          · have ew_ : w2_120 = 0 := i_inj (hw_s2_119.trans (by decide))
            subst ew_
            rw [show s2_91.toInt = s0.toInt + 3 by omega] at ht_s2_119
            have hv_ := wo_0 (T := (txb ct z.toInt)) (p := s0.toInt) ⟨by omega, by omega, by omega, by omega⟩
            exact lt_m_readsAct_c0 l D cI cZ cS cR N0 g h s0 rz wt na pa z t ct r_h r_na n_na r_pa n_pa r_wt n_wt r_t n_t krz ks0 kw0 kwt kna kpa kz kt l_rz u_rz l_s0 u_s0 hN_0 hWT_0 l_z u_z hc_0 hB hr   g_118 (0 : Int32) s2_119 H locs ls hT hI hE hM (by decide) (by decide) (by omega) (by omega) kn_135 f_122 f_123 hN hc hWT ⟨by decide, hv_.1.trans (by decide), (by have q_ := hv_.2; omega), by omega⟩ (lv_sub hl [1, 2] rfl)
          · have ew_ : w2_120 = 1 := i_inj (hw_s2_119.trans (by decide))
            subst ew_
            rw [show s2_91.toInt = s0.toInt + 3 by omega] at ht_s2_119
            have hs_ : wsel ((txb ct z.toInt) s0.toInt) ((txb ct z.toInt) (s0.toInt + 1)) = 0 := ws_0 (by omega)
            have hq_ : qj (txb ct z.toInt) s0.toInt 0 = 3 := wp4_3 (by omega) (by omega) (by omega) (by omega)
            have hv_ := wd_f hs_ (Or.inr (fun h_ => absurd (hq_.symm.trans h_) (by decide)))
            exact lt_m_readsAct_c1 l D cI cZ cS cR N0 g h s0 rz wt na pa z t ct r_h r_na n_na r_pa n_pa r_wt n_wt r_t n_t krz ks0 kw0 kwt kna kpa kz kt l_rz u_rz l_s0 u_s0 hN_0 hWT_0 l_z u_z hc_0 hB hr   g_118 (0 : Int32) s2_119 H locs ls hT hI hE hM (by decide) (by decide) (by omega) (by omega) kn_135 f_122 f_123 hN hc hWT (ac_n hv_.1 (by have q_ := hv_.2; rw [hq_] at q_; omega)) (lv_sub hl [1, 2] rfl)
        · have ew_ : w2_92 = 1 := i_inj (hw_s2_91.trans (by decide))
          subst ew_
          rw [show s2_60.toInt = s0.toInt + 2 by omega] at ht_s2_91
          refine lv_iinc (v := 3) (lv' := [(2, .int 3), (1, .int 0), (0, .ref h)]) hx hb dX7_readsAct_128 hl (k := 0) rfl (by decide) (by decide) rfl (fun ls hl => ?_)
          refine lv_goto (tgt := 89) hx hb dX7_readsAct_131 (by decide) ?_
          refine lv_iload_n hx hb dX7_readsAct_89 rfl (lv_at hl 0 rfl) ?_
          refine lv_iconst (v := 3) hx hb dX7_readsAct_90 (by decide) ?_
          refine lv_icmp_ge (tgt := 134) hx hb dX7_readsAct_91 (by decide) (fun c_ => ?_) (fun c_ => absurd (by decide) c_)
          refine lv_aload_n hx hb dX7_readsAct_134 rfl (lv_at hl 2 rfl) ?_
          refine lv_bipush (v := 32) hx hb dX7_readsAct_135 (by decide) ?_
          refine t_callV (n := 1) (As := [.int 32]) (rest := []) (ci := 7) hB hT hl.1 (m_must l D cI cZ cS cR N0 g_90 hI h 32 s2_91 1 z t ct r_98 r_102 n_106 f_94 f_95 kn_111 kn_112 (by have q0 : (1 : Int32).toInt = 1 := (by decide); have q1 : (32 : Int32).toInt = 32 := (by decide); omega) (by have q0 : (1 : Int32).toInt = 1 := (by decide); have q1 : (32 : Int32).toInt = 32 := (by decide); omega) (by have q0 : (1 : Int32).toInt = 1 := (by decide); have q1 : (32 : Int32).toInt = 32 := (by decide); omega) (by have q0 : (1 : Int32).toInt = 1 := (by decide); have q1 : (32 : Int32).toInt = 32 := (by decide); omega) (by have q0 : (1 : Int32).toInt = 1 := (by decide); have q1 : (32 : Int32).toInt = 32 := (by decide); omega) (by have q0 : (1 : Int32).toInt = 1 := (by decide); have q1 : (32 : Int32).toInt = 32 := (by decide); omega) (by have q0 : (1 : Int32).toInt = 1 := (by decide); have q1 : (32 : Int32).toInt = 32 := (by decide); omega) hc) (ro_ci r_98 rfl) rfl k_975 k_65 k_972 k_974 k_24 (by decide +kernel) ⟨(Nat.le_of_ble_eq_true rfl), (Nat.le_of_ble_eq_true rfl)⟩ rfl (Nat.le_of_ble_eq_true rfl) ⟨(Nat.le_of_ble_eq_true rfl), (Nat.le_of_ble_eq_true rfl)⟩ dX7_readsAct_137 (fun v g_146 H locs hp hT => ?_)
          obtain ⟨s2_147, w2_148, rfl, hI, x_153, m_152, f_149, f_150, f_151⟩ := hp
          have hN : PL 8 g_146 na pa := hN.sm m_152 r_99 (by decide) rfl r_100 (by decide) rfl
          have hc : g_146.2.2.2.1 t = ct := (Sm.cf m_152 r_102 (by decide) rfl).trans hc
          have hWT : WT g_146 wt := hWT.sm m_152 r_101 (by decide) rfl
          have hM : Sm md_m_readsAct g g_146 := hM.tr hE (m_152.mo (fun r k h => mdle_m_readsAct_m_must h))
          have hE : Ex g g_146 := hE.tr x_153
          have r_154 : g_146.1 h = 8 := (Ex.r x_153 r_98 (by decide))
          have r_155 : g_146.1 na = 84 := (Ex.r x_153 r_99 (by decide))
          have r_156 : g_146.1 pa = 85 := (Ex.r x_153 r_100 (by decide))
          have r_157 : g_146.1 wt = 87 := (Ex.r x_153 r_101 (by decide))
          have r_158 : g_146.1 t = 79 := (Ex.r x_153 r_102 (by decide))
          have n_159 : g_146.2.2.1 na = 8 := (Ex.n x_153 r_99 (by decide) n_103)
          have n_160 : g_146.2.2.1 pa = 8 := (Ex.n x_153 r_100 (by decide) n_104)
          have n_161 : g_146.2.2.1 wt = 24 := (Ex.n x_153 r_101 (by decide) n_105)
          have n_162 : g_146.2.2.1 t = 100 := (Ex.n x_153 r_102 (by decide) n_106)
          have kn_163 : g_146.2.1 h 38 = .int rz := (Sm.v m_152 r_98 (by decide) rfl kn_107)
          have kn_164 : g_146.2.1 h 42 = .ref wt := (Sm.v m_152 r_98 (by decide) rfl kn_108)
          have kn_165 : g_146.2.1 h 39 = .ref na := (Sm.v m_152 r_98 (by decide) rfl kn_109)
          have kn_166 : g_146.2.1 h 40 = .ref pa := (Sm.v m_152 r_98 (by decide) rfl kn_110)
          have kn_167 : g_146.2.1 h 29 = .int z := (Sm.v m_152 r_98 (by decide) rfl kn_111)
          have kn_168 : g_146.2.1 h 28 = .ref t := (Sm.v m_152 r_98 (by decide) rfl kn_112)
          have kn_169 : g_146.2.2.2.1 wt (0 : Int32).toNatClampNeg = 115 := (Sm.c m_152 r_101 (by decide) rfl kn_113)
          have kn_170 : g_146.2.2.2.1 wt (1 : Int32).toNatClampNeg = 101 := (Sm.c m_152 r_101 (by decide) rfl kn_114)
          have kn_171 : g_146.2.2.2.1 wt (2 : Int32).toNatClampNeg = 116 := (Sm.c m_152 r_101 (by decide) rfl kn_115)
          refine W.eq (g2 := F0 m 140 ls []) rfl ?_
          have qc_172 : (1 : Int32).toInt = 1 := (by decide)
          have qc_173 : (32 : Int32).toInt = 32 := (by decide)
          rcases f_149 with ⟨-, hs_s2_147, hw_s2_147⟩ | ⟨hx_, -⟩ | ⟨hx_, -⟩
          rotate_left
          · exact absurd hx_ (by decide)
          · exact absurd hx_ (by decide)
          have ew_ : w2_148 = 1 := i_inj (hw_s2_147.trans (by decide))
          subst ew_
          have hs_ : wsel ((txb ct z.toInt) s0.toInt) ((txb ct z.toInt) (s0.toInt + 1)) = 0 := ws_0 (by omega)
          have hq_ : qj (txb ct z.toInt) s0.toInt 0 = 2 := wp4_2 (by omega) (by omega) (by omega)
          have hv_ := wd_f hs_ (Or.inr (fun h_ => absurd (hq_.symm.trans h_) (by decide)))
          exact lt_m_readsAct_c1 l D cI cZ cS cR N0 g h s0 rz wt na pa z t ct r_h r_na n_na r_pa n_pa r_wt n_wt r_t n_t krz ks0 kw0 kwt kna kpa kz kt l_rz u_rz l_s0 u_s0 hN_0 hWT_0 l_z u_z hc_0 hB hr   g_146 (0 : Int32) s2_147 H locs ls hT hI hE hM (by decide) (by decide) (by omega) (by omega) kn_163 f_150 f_151 hN hc hWT (ac_n hv_.1 (by have q_ := hv_.2; rw [hq_] at q_; omega)) (lv_sub hl [1, 2] rfl)
      · have ew_ : w2_61 = 1 := i_inj (hw_s2_60.trans (by decide))
        subst ew_
        rw [show s2_30.toInt = s0.toInt + 1 by omega] at ht_s2_60
        refine lv_iinc (v := 2) (lv' := [(2, .int 2), (1, .int 0), (0, .ref h)]) hx hb dX7_readsAct_128 hl (k := 0) rfl (by decide) (by decide) rfl (fun ls hl => ?_)
        refine lv_goto (tgt := 89) hx hb dX7_readsAct_131 (by decide) ?_
        refine lv_iload_n hx hb dX7_readsAct_89 rfl (lv_at hl 0 rfl) ?_
        refine lv_iconst (v := 3) hx hb dX7_readsAct_90 (by decide) ?_
        refine lv_icmp_ge (tgt := 134) hx hb dX7_readsAct_91 (by decide) (fun c_ => absurd c_ (by decide)) (fun c_ => ?_)
        refine lv_aload_n hx hb dX7_readsAct_94 rfl (lv_at hl 2 rfl) ?_
        refine t_get (ci := 7) (v := .int 1) hB hT (ro_ci r_67 rfl) rfl 37 (by decide) k_782 f_64 dX7_readsAct_95 ?_
        refine lv_if_ne (tgt := 134) hx hb dX7_readsAct_98 (by decide) (fun c_ => ?_) (fun c_ => absurd c_ (by decide))
        refine lv_aload_n hx hb dX7_readsAct_134 rfl (lv_at hl 2 rfl) ?_
        refine lv_bipush (v := 32) hx hb dX7_readsAct_135 (by decide) ?_
        refine t_callV (n := 1) (As := [.int 32]) (rest := []) (ci := 7) hB hT hl.1 (m_must l D cI cZ cS cR N0 g_59 hI h 32 s2_60 1 z t ct r_67 r_71 n_75 f_63 f_64 kn_80 kn_81 (by have q0 : (1 : Int32).toInt = 1 := (by decide); have q1 : (32 : Int32).toInt = 32 := (by decide); omega) (by have q0 : (1 : Int32).toInt = 1 := (by decide); have q1 : (32 : Int32).toInt = 32 := (by decide); omega) (by have q0 : (1 : Int32).toInt = 1 := (by decide); have q1 : (32 : Int32).toInt = 32 := (by decide); omega) (by have q0 : (1 : Int32).toInt = 1 := (by decide); have q1 : (32 : Int32).toInt = 32 := (by decide); omega) (by have q0 : (1 : Int32).toInt = 1 := (by decide); have q1 : (32 : Int32).toInt = 32 := (by decide); omega) (by have q0 : (1 : Int32).toInt = 1 := (by decide); have q1 : (32 : Int32).toInt = 32 := (by decide); omega) (by have q0 : (1 : Int32).toInt = 1 := (by decide); have q1 : (32 : Int32).toInt = 32 := (by decide); omega) hc) (ro_ci r_67 rfl) rfl k_975 k_65 k_972 k_974 k_24 (by decide +kernel) ⟨(Nat.le_of_ble_eq_true rfl), (Nat.le_of_ble_eq_true rfl)⟩ rfl (Nat.le_of_ble_eq_true rfl) ⟨(Nat.le_of_ble_eq_true rfl), (Nat.le_of_ble_eq_true rfl)⟩ dX7_readsAct_137 (fun v g_174 H locs hp hT => ?_)
        obtain ⟨s2_175, w2_176, rfl, hI, x_181, m_180, f_177, f_178, f_179⟩ := hp
        have hN : PL 8 g_174 na pa := hN.sm m_180 r_68 (by decide) rfl r_69 (by decide) rfl
        have hc : g_174.2.2.2.1 t = ct := (Sm.cf m_180 r_71 (by decide) rfl).trans hc
        have hWT : WT g_174 wt := hWT.sm m_180 r_70 (by decide) rfl
        have hM : Sm md_m_readsAct g g_174 := hM.tr hE (m_180.mo (fun r k h => mdle_m_readsAct_m_must h))
        have hE : Ex g g_174 := hE.tr x_181
        have r_182 : g_174.1 h = 8 := (Ex.r x_181 r_67 (by decide))
        have r_183 : g_174.1 na = 84 := (Ex.r x_181 r_68 (by decide))
        have r_184 : g_174.1 pa = 85 := (Ex.r x_181 r_69 (by decide))
        have r_185 : g_174.1 wt = 87 := (Ex.r x_181 r_70 (by decide))
        have r_186 : g_174.1 t = 79 := (Ex.r x_181 r_71 (by decide))
        have n_187 : g_174.2.2.1 na = 8 := (Ex.n x_181 r_68 (by decide) n_72)
        have n_188 : g_174.2.2.1 pa = 8 := (Ex.n x_181 r_69 (by decide) n_73)
        have n_189 : g_174.2.2.1 wt = 24 := (Ex.n x_181 r_70 (by decide) n_74)
        have n_190 : g_174.2.2.1 t = 100 := (Ex.n x_181 r_71 (by decide) n_75)
        have kn_191 : g_174.2.1 h 38 = .int rz := (Sm.v m_180 r_67 (by decide) rfl kn_76)
        have kn_192 : g_174.2.1 h 42 = .ref wt := (Sm.v m_180 r_67 (by decide) rfl kn_77)
        have kn_193 : g_174.2.1 h 39 = .ref na := (Sm.v m_180 r_67 (by decide) rfl kn_78)
        have kn_194 : g_174.2.1 h 40 = .ref pa := (Sm.v m_180 r_67 (by decide) rfl kn_79)
        have kn_195 : g_174.2.1 h 29 = .int z := (Sm.v m_180 r_67 (by decide) rfl kn_80)
        have kn_196 : g_174.2.1 h 28 = .ref t := (Sm.v m_180 r_67 (by decide) rfl kn_81)
        have kn_197 : g_174.2.2.2.1 wt (0 : Int32).toNatClampNeg = 115 := (Sm.c m_180 r_70 (by decide) rfl kn_82)
        have kn_198 : g_174.2.2.2.1 wt (1 : Int32).toNatClampNeg = 101 := (Sm.c m_180 r_70 (by decide) rfl kn_83)
        refine W.eq (g2 := F0 m 140 ls []) rfl ?_
        have qc_199 : (1 : Int32).toInt = 1 := (by decide)
        have qc_200 : (32 : Int32).toInt = 32 := (by decide)
        rcases f_177 with ⟨-, hs_s2_175, hw_s2_175⟩ | ⟨hx_, -⟩ | ⟨hx_, -⟩
        rotate_left
        · exact absurd hx_ (by decide)
        · exact absurd hx_ (by decide)
        have ew_ : w2_176 = 1 := i_inj (hw_s2_175.trans (by decide))
        subst ew_
        have hs_ : wsel ((txb ct z.toInt) s0.toInt) ((txb ct z.toInt) (s0.toInt + 1)) = 0 := ws_0 (by omega)
        have hq_ : qj (txb ct z.toInt) s0.toInt 0 = 1 := wp4_1 (by omega) (by omega)
        have hv_ := wd_f hs_ (Or.inr (fun h_ => absurd (hq_.symm.trans h_) (by decide)))
        exact lt_m_readsAct_c1 l D cI cZ cS cR N0 g h s0 rz wt na pa z t ct r_h r_na n_na r_pa n_pa r_wt n_wt r_t n_t krz ks0 kw0 kwt kna kpa kz kt l_rz u_rz l_s0 u_s0 hN_0 hWT_0 l_z u_z hc_0 hB hr   g_174 (0 : Int32) s2_175 H locs ls hT hI hE hM (by decide) (by decide) (by omega) (by omega) kn_191 f_178 f_179 hN hc hWT (ac_n hv_.1 (by have q_ := hv_.2; rw [hq_] at q_; omega)) (lv_sub hl [1, 2] rfl)
    · have ew_ : w2_31 = 1 := i_inj (hw_s2_30.trans (by decide))
      subst ew_
      refine lv_iinc (v := 1) (lv' := [(2, .int 1), (1, .int 0), (0, .ref h)]) hx hb dX7_readsAct_128 hl (k := 0) rfl (by decide) (by decide) rfl (fun ls hl => ?_)
      refine lv_goto (tgt := 89) hx hb dX7_readsAct_131 (by decide) ?_
      refine lv_iload_n hx hb dX7_readsAct_89 rfl (lv_at hl 0 rfl) ?_
      refine lv_iconst (v := 3) hx hb dX7_readsAct_90 (by decide) ?_
      refine lv_icmp_ge (tgt := 134) hx hb dX7_readsAct_91 (by decide) (fun c_ => absurd c_ (by decide)) (fun c_ => ?_)
      refine lv_aload_n hx hb dX7_readsAct_94 rfl (lv_at hl 2 rfl) ?_
      refine t_get (ci := 7) (v := .int 1) hB hT (ro_ci r_37 rfl) rfl 37 (by decide) k_782 f_34 dX7_readsAct_95 ?_
      refine lv_if_ne (tgt := 134) hx hb dX7_readsAct_98 (by decide) (fun c_ => ?_) (fun c_ => absurd c_ (by decide))
      refine lv_aload_n hx hb dX7_readsAct_134 rfl (lv_at hl 2 rfl) ?_
      refine lv_bipush (v := 32) hx hb dX7_readsAct_135 (by decide) ?_
      refine t_callV (n := 1) (As := [.int 32]) (rest := []) (ci := 7) hB hT hl.1 (m_must l D cI cZ cS cR N0 g_29 hI h 32 s2_30 1 z t ct r_37 r_41 n_45 f_33 f_34 kn_50 kn_51 (by have q0 : (1 : Int32).toInt = 1 := (by decide); have q1 : (32 : Int32).toInt = 32 := (by decide); omega) (by have q0 : (1 : Int32).toInt = 1 := (by decide); have q1 : (32 : Int32).toInt = 32 := (by decide); omega) (by have q0 : (1 : Int32).toInt = 1 := (by decide); have q1 : (32 : Int32).toInt = 32 := (by decide); omega) (by have q0 : (1 : Int32).toInt = 1 := (by decide); have q1 : (32 : Int32).toInt = 32 := (by decide); omega) (by have q0 : (1 : Int32).toInt = 1 := (by decide); have q1 : (32 : Int32).toInt = 32 := (by decide); omega) (by have q0 : (1 : Int32).toInt = 1 := (by decide); have q1 : (32 : Int32).toInt = 32 := (by decide); omega) (by have q0 : (1 : Int32).toInt = 1 := (by decide); have q1 : (32 : Int32).toInt = 32 := (by decide); omega) hc) (ro_ci r_37 rfl) rfl k_975 k_65 k_972 k_974 k_24 (by decide +kernel) ⟨(Nat.le_of_ble_eq_true rfl), (Nat.le_of_ble_eq_true rfl)⟩ rfl (Nat.le_of_ble_eq_true rfl) ⟨(Nat.le_of_ble_eq_true rfl), (Nat.le_of_ble_eq_true rfl)⟩ dX7_readsAct_137 (fun v g_201 H locs hp hT => ?_)
      obtain ⟨s2_202, w2_203, rfl, hI, x_208, m_207, f_204, f_205, f_206⟩ := hp
      have hN : PL 8 g_201 na pa := hN.sm m_207 r_38 (by decide) rfl r_39 (by decide) rfl
      have hc : g_201.2.2.2.1 t = ct := (Sm.cf m_207 r_41 (by decide) rfl).trans hc
      have hWT : WT g_201 wt := hWT.sm m_207 r_40 (by decide) rfl
      have hM : Sm md_m_readsAct g g_201 := hM.tr hE (m_207.mo (fun r k h => mdle_m_readsAct_m_must h))
      have hE : Ex g g_201 := hE.tr x_208
      have r_209 : g_201.1 h = 8 := (Ex.r x_208 r_37 (by decide))
      have r_210 : g_201.1 na = 84 := (Ex.r x_208 r_38 (by decide))
      have r_211 : g_201.1 pa = 85 := (Ex.r x_208 r_39 (by decide))
      have r_212 : g_201.1 wt = 87 := (Ex.r x_208 r_40 (by decide))
      have r_213 : g_201.1 t = 79 := (Ex.r x_208 r_41 (by decide))
      have n_214 : g_201.2.2.1 na = 8 := (Ex.n x_208 r_38 (by decide) n_42)
      have n_215 : g_201.2.2.1 pa = 8 := (Ex.n x_208 r_39 (by decide) n_43)
      have n_216 : g_201.2.2.1 wt = 24 := (Ex.n x_208 r_40 (by decide) n_44)
      have n_217 : g_201.2.2.1 t = 100 := (Ex.n x_208 r_41 (by decide) n_45)
      have kn_218 : g_201.2.1 h 38 = .int rz := (Sm.v m_207 r_37 (by decide) rfl kn_46)
      have kn_219 : g_201.2.1 h 42 = .ref wt := (Sm.v m_207 r_37 (by decide) rfl kn_47)
      have kn_220 : g_201.2.1 h 39 = .ref na := (Sm.v m_207 r_37 (by decide) rfl kn_48)
      have kn_221 : g_201.2.1 h 40 = .ref pa := (Sm.v m_207 r_37 (by decide) rfl kn_49)
      have kn_222 : g_201.2.1 h 29 = .int z := (Sm.v m_207 r_37 (by decide) rfl kn_50)
      have kn_223 : g_201.2.1 h 28 = .ref t := (Sm.v m_207 r_37 (by decide) rfl kn_51)
      have kn_224 : g_201.2.2.2.1 wt (0 : Int32).toNatClampNeg = 115 := (Sm.c m_207 r_40 (by decide) rfl kn_52)
      refine W.eq (g2 := F0 m 140 ls []) rfl ?_
      have qc_225 : (1 : Int32).toInt = 1 := (by decide)
      have qc_226 : (32 : Int32).toInt = 32 := (by decide)
      rcases f_204 with ⟨-, hs_s2_202, hw_s2_202⟩ | ⟨hx_, -⟩ | ⟨hx_, -⟩
      rotate_left
      · exact absurd hx_ (by decide)
      · exact absurd hx_ (by decide)
      have ew_ : w2_203 = 1 := i_inj (hw_s2_202.trans (by decide))
      subst ew_
      have hs_ : wsel ((txb ct z.toInt) s0.toInt) ((txb ct z.toInt) (s0.toInt + 1)) = 0 := ws_0 (by omega)
      have hq_ : qj (txb ct z.toInt) s0.toInt 0 = 0 := wp4_0 (by omega)
      have hv_ := wd_f hs_ (Or.inr (fun h_ => absurd (hq_.symm.trans h_) (by decide)))
      exact lt_m_readsAct_c1 l D cI cZ cS cR N0 g h s0 rz wt na pa z t ct r_h r_na n_na r_pa n_pa r_wt n_wt r_t n_t krz ks0 kw0 kwt kna kpa kz kt l_rz u_rz l_s0 u_s0 hN_0 hWT_0 l_z u_z hc_0 hB hr   g_201 (0 : Int32) s2_202 H locs ls hT hI hE hM (by decide) (by decide) (by omega) (by omega) kn_218 f_205 f_206 hN hc hWT (ac_n hv_.1 (by have q_ := hv_.2; rw [hq_] at q_; omega)) (lv_sub hl [1, 2] rfl)
  · have c_24' : r_16.toInt ≠ 115 := i_ne c_24 rfl (by decide)
    refine lv_iinc (v := 1) (lv' := [(1, .int 1), (0, .ref h)]) hx hb dX7_readsAct_59 hl (k := 0) rfl (by decide) (by decide) rfl (fun ls hl => ?_)
    refine lv_goto (tgt := 34) hx hb dX7_readsAct_62 (by decide) ?_
    exact lt_m_readsAct_w1 l D cI cZ cS cR N0 g h s0 rz wt na pa z t ct r_h r_na n_na r_pa n_pa r_wt n_wt r_t n_t krz ks0 kw0 kwt kna kpa kz kt l_rz u_rz l_s0 u_s0 hN_0 hWT_0 l_z u_z hc_0 hB hr   g1 H locs ls hT hI hE hM kp0 kp1 kp2 hN hc hWT (by omega) (lv_sub hl [0, 1] rfl)
set_option maxHeartbeats 4000000 in
set_option maxRecDepth 100000 in
theorem m_readsAct (l : Launch) (D : va_G) (cI cZ cS cR : ClassId) (N0 : NT) (g : GS) (hI : Inv g) (h : Nat) (s0 : Int32) (rz : Int32) (wt : Nat) (na : Nat) (pa : Nat) (z : Int32) (t : Nat) (ct : Nat → Int32) (r_h : g.1 h = 8) (r_na : g.1 na = 84) (n_na : g.2.2.1 na = 8) (r_pa : g.1 pa = 85) (n_pa : g.2.2.1 pa = 8) (r_wt : g.1 wt = 87) (n_wt : g.2.2.1 wt = 24) (r_t : g.1 t = 79) (n_t : g.2.2.1 t = 100) (krz : g.2.1 h 38 = .int rz) (ks0 : g.2.1 h 36 = .int s0) (kw0 : g.2.1 h 37 = .int 0) (kwt : g.2.1 h 42 = .ref wt) (kna : g.2.1 h 39 = .ref na) (kpa : g.2.1 h 40 = .ref pa) (kz : g.2.1 h 29 = .int z) (kt : g.2.1 h 28 = .ref t) (l_rz : 0 ≤ rz.toInt) (u_rz : rz.toInt ≤ 7) (l_s0 : 0 ≤ s0.toInt) (u_s0 : s0.toInt ≤ 100) (hN_0 : PL 8 g na pa) (hWT_0 : WT g wt) (l_z : 0 ≤ z.toInt) (u_z : z.toInt ≤ 100) (hc_0 : g.2.2.2.1 t = ct) : Ty l D cI cZ cS cR N0 yX7_readsAct cX7_readsAct 4 none 2 0 0 [.ref h] g (fun v g' => ∃ (z2 : Int32) (s2 : Int32) (w2 : Int32), v = none ∧ Inv g' ∧ Ex g g' ∧ Sm md_m_readsAct g g' ∧ ((w2 = 1 ∧ ac (txb ct z.toInt) s0.toInt = (false, s2.toInt)) ∨ (w2 = 0 ∧ ac (txb ct z.toInt) s0.toInt = (true, s2.toInt) ∧ s2.toInt ≤ z.toInt)) ∧ (g'.2.1 h 38 = .int z2) ∧ (z2.toInt = rz.toInt + 1) ∧ (PL 8 g' na pa) ∧ (g'.2.1 h 36 = .int s2) ∧ (g'.2.1 h 37 = .int w2) ∧ (0 ≤ s2.toInt ∧ s2.toInt ≤ 100)) := by
  refine t_enter (by decide) (Nat.le_of_ble_eq_true rfl) ?_
  intro p e s m args below meth c ls H locs hB hr hin hl hT
  have hx := hB.1
  have hb := hB.2.1
  have hl : lv_has ls 4 [(0, .ref h)] := hl
  have hE : Ex g g := Ex.rf
  have hM : Sm md_m_readsAct g g := Sm.rf
  have hN := hN_0
  have hWT := hWT_0
  have hc := hc_0
  refine lv_aload_n hx hb dX7_readsAct_0 rfl (lv_at hl 0 rfl) ?_
  refine lv_aload_n hx hb dX7_readsAct_1 rfl (lv_at hl 0 rfl) ?_
  refine t_get (ci := 7) (v := .int s0) hB hT (ro_ci r_h rfl) rfl 36 (by decide) k_781 ks0 dX7_readsAct_2 ?_
  refine t_callV (n := 1) (As := [.int s0]) (rest := []) (ci := 7) hB hT hl.1 (m_byteAt l D cI cZ cS cR N0 g hI h s0 z t ct r_h r_t n_t kz kt (by omega) (by omega) (by omega) (by omega) hc) (ro_ci r_h rfl) rfl k_971 k_65 k_968 k_970 k_23 (by decide +kernel) ⟨(Nat.le_of_ble_eq_true rfl), (Nat.le_of_ble_eq_true rfl)⟩ rfl (Nat.le_of_ble_eq_true rfl) ⟨(Nat.le_of_ble_eq_true rfl), (Nat.le_of_ble_eq_true rfl)⟩ dX7_readsAct_5 (fun v g_1 H locs hp hT => ?_)
  obtain ⟨r_2, rfl, eg, f_3, f_4, f_5⟩ := hp
  rw [eg] at hT
  clear eg
  refine W.eq (g2 := F0 m 8 ls [.int r_2]) rfl ?_
  refine lv_bipush (v := 97) hx hb dX7_readsAct_8 (by decide) ?_
  refine lv_icmp_ne (tgt := 32) hx hb dX7_readsAct_10 (by decide) (fun c_8 => ?_) (fun c_8 => ?_)
  · have c_8' : r_2.toInt ≠ 97 := i_ne c_8 rfl (by decide)
    refine lv_iconst (v := 0) hx hb dX7_readsAct_32 (by decide) ?_
    refine lv_istore_n (lv' := [(1, .int 0), (0, .ref h)]) hx hb dX7_readsAct_33 rfl hl (by decide) rfl (fun ls hl => ?_)
    exact lt_m_readsAct_w0 l D cI cZ cS cR N0 g h s0 rz wt na pa z t ct r_h r_na n_na r_pa n_pa r_wt n_wt r_t n_t krz ks0 kw0 kwt kna kpa kz kt l_rz u_rz l_s0 u_s0 hN_0 hWT_0 l_z u_z hc_0 hB hr   g H locs ls hT hI hE hM krz ks0 kw0 hN hc hWT (by omega) (lv_sub hl [0, 1] rfl)
  · have c_8' : r_2.toInt = 97 := i_eq c_8 rfl (by decide)
    refine lv_aload_n hx hb dX7_readsAct_13 rfl (lv_at hl 0 rfl) ?_
    refine lv_aload_n hx hb dX7_readsAct_14 rfl (lv_at hl 0 rfl) ?_
    refine t_get (ci := 7) (v := .int s0) hB hT (ro_ci r_h rfl) rfl 36 (by decide) k_781 ks0 dX7_readsAct_15 ?_
    refine lv_iconst (v := 1) hx hb dX7_readsAct_18 (by decide) ?_
    refine lv_iadd hx hb dX7_readsAct_19 ?_
    refine lv_topi (fun z_9 ez_9 => ?_)
    have e_z_9 : z_9.toInt = s0.toInt + 1 := i_add ez_9 rfl (by decide) (by omega) (by omega)
    refine t_callV (n := 1) (As := [.int z_9]) (rest := []) (ci := 7) hB hT hl.1 (m_byteAt l D cI cZ cS cR N0 g hI h z_9 z t ct r_h r_t n_t kz kt (by omega) (by omega) (by omega) (by omega) hc) (ro_ci r_h rfl) rfl k_971 k_65 k_968 k_970 k_23 (by decide +kernel) ⟨(Nat.le_of_ble_eq_true rfl), (Nat.le_of_ble_eq_true rfl)⟩ rfl (Nat.le_of_ble_eq_true rfl) ⟨(Nat.le_of_ble_eq_true rfl), (Nat.le_of_ble_eq_true rfl)⟩ dX7_readsAct_20 (fun v g_10 H locs hp hT => ?_)
    obtain ⟨r_11, rfl, eg, f_12, f_13, f_14⟩ := hp
    rw [eg] at hT
    clear eg
    refine W.eq (g2 := F0 m 23 ls [.int r_11]) rfl ?_
    rw [show z_9.toInt = s0.toInt + 1 by omega] at f_12
    refine lv_bipush (v := 115) hx hb dX7_readsAct_23 (by decide) ?_
    refine lv_icmp_ne (tgt := 32) hx hb dX7_readsAct_25 (by decide) (fun c_17 => ?_) (fun c_17 => ?_)
    · have c_17' : r_11.toInt ≠ 115 := i_ne c_17 rfl (by decide)
      refine lv_iconst (v := 0) hx hb dX7_readsAct_32 (by decide) ?_
      refine lv_istore_n (lv' := [(1, .int 0), (0, .ref h)]) hx hb dX7_readsAct_33 rfl hl (by decide) rfl (fun ls hl => ?_)
      exact lt_m_readsAct_w0 l D cI cZ cS cR N0 g h s0 rz wt na pa z t ct r_h r_na n_na r_pa n_pa r_wt n_wt r_t n_t krz ks0 kw0 kwt kna kpa kz kt l_rz u_rz l_s0 u_s0 hN_0 hWT_0 l_z u_z hc_0 hB hr   g H locs ls hT hI hE hM krz ks0 kw0 hN hc hWT (by omega) (lv_sub hl [0, 1] rfl)
    · have c_17' : r_11.toInt = 115 := i_eq c_17 rfl (by decide)
      refine lv_iconst (v := 5) hx hb dX7_readsAct_28 (by decide) ?_
      refine lv_goto (tgt := 33) hx hb dX7_readsAct_29 (by decide) ?_
      refine lv_istore_n (lv' := [(1, .int 5), (0, .ref h)]) hx hb dX7_readsAct_33 rfl hl (by decide) rfl (fun ls hl => ?_)
      exact lt_m_readsAct_w5 l D cI cZ cS cR N0 g h s0 rz wt na pa z t ct r_h r_na n_na r_pa n_pa r_wt n_wt r_t n_t krz ks0 kw0 kwt kna kpa kz kt l_rz u_rz l_s0 u_s0 hN_0 hWT_0 l_z u_z hc_0 hB hr   g H locs ls hT hI hE hM krz ks0 kw0 hN hc hWT (by omega) (lv_sub hl [0, 1] rfl)
