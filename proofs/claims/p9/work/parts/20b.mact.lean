theorem k_24 : Cond.selects RX7 yX7_must yX7_must ∈ tb := mt 24 (by decide +kernel) rfl
theorem k_25 : Cond.selects RX7 yX7_readsWorth yX7_readsWorth ∈ tb := mt 25 (by decide +kernel) rfl
theorem k_783 : Cond.fieldLink RX7 199 "TwiceOnceModel" "read" "I" ∈ tb := mt 783 (by decide +kernel) rfl
theorem k_784 : Cond.fieldLink RX7 98 "TwiceOnceModel" "newWord" "[I" ∈ tb := mt 784 (by decide +kernel) rfl
theorem k_785 : Cond.fieldLink RX7 101 "TwiceOnceModel" "newPlace" "[I" ∈ tb := mt 785 (by decide +kernel) rfl
theorem k_786 : Cond.fieldLink RX7 104 "TwiceOnceModel" "newWorth" "[I" ∈ tb := mt 786 (by decide +kernel) rfl
theorem k_787 : Cond.fieldLink RX7 107 "TwiceOnceModel" "words" "[I" ∈ tb := mt 787 (by decide +kernel) rfl
theorem k_972 : Cond.methodLink RX7 191 yX7_must ∈ tb := mt 972 (by decide +kernel) rfl
theorem k_974 : Cond.instanceMethod yX7_must ∈ tb := mt 974 (by decide +kernel) rfl
set_option maxRecDepth 20000 in
theorem k_975 : Cond.code yX7_must cX7_must 2 none ∈ tb := mt 975 rfl rfl
theorem k_976 : Cond.methodLink RX7 195 yX7_readsWorth ∈ tb := mt 976 (by decide +kernel) rfl
theorem k_978 : Cond.instanceMethod yX7_readsWorth ∈ tb := mt 978 (by decide +kernel) rfl
set_option maxRecDepth 20000 in
theorem k_979 : Cond.code yX7_readsWorth cX7_readsWorth 4 (some .int) ∈ tb := mt 979 rfl rfl
theorem dX7_readsAct_265 : decode cX7_readsAct 265 = .ok (.aload_n 0, 1) := by decide +kernel
theorem dX7_readsAct_266 : decode cX7_readsAct 266 = .ok (.getfield 98, 3) := by decide +kernel
theorem dX7_readsAct_269 : decode cX7_readsAct 269 = .ok (.aload_n 0, 1) := by decide +kernel
theorem dX7_readsAct_270 : decode cX7_readsAct 270 = .ok (.getfield 199, 3) := by decide +kernel
theorem dX7_readsAct_273 : decode cX7_readsAct 273 = .ok (.iload_n 1, 1) := by decide +kernel
theorem dX7_readsAct_274 : decode cX7_readsAct 274 = .ok (.iastore, 1) := by decide +kernel
theorem dX7_readsAct_275 : decode cX7_readsAct 275 = .ok (.aload_n 0, 1) := by decide +kernel
theorem dX7_readsAct_276 : decode cX7_readsAct 276 = .ok (.getfield 101, 3) := by decide +kernel
theorem dX7_readsAct_279 : decode cX7_readsAct 279 = .ok (.aload_n 0, 1) := by decide +kernel
theorem dX7_readsAct_280 : decode cX7_readsAct 280 = .ok (.getfield 199, 3) := by decide +kernel
theorem dX7_readsAct_283 : decode cX7_readsAct 283 = .ok (.iload_n 2, 1) := by decide +kernel
theorem dX7_readsAct_284 : decode cX7_readsAct 284 = .ok (.iastore, 1) := by decide +kernel
theorem dX7_readsAct_285 : decode cX7_readsAct 285 = .ok (.aload_n 0, 1) := by decide +kernel
theorem dX7_readsAct_286 : decode cX7_readsAct 286 = .ok (.getfield 104, 3) := by decide +kernel
theorem dX7_readsAct_289 : decode cX7_readsAct 289 = .ok (.aload_n 0, 1) := by decide +kernel
theorem dX7_readsAct_290 : decode cX7_readsAct 290 = .ok (.getfield 199, 3) := by decide +kernel
theorem dX7_readsAct_293 : decode cX7_readsAct 293 = .ok (.iload_n 3, 1) := by decide +kernel
theorem dX7_readsAct_294 : decode cX7_readsAct 294 = .ok (.iastore, 1) := by decide +kernel
theorem dX7_readsAct_295 : decode cX7_readsAct 295 = .ok (.aload_n 0, 1) := by decide +kernel
theorem dX7_readsAct_296 : decode cX7_readsAct 296 = .ok (.dup, 1) := by decide +kernel
theorem dX7_readsAct_297 : decode cX7_readsAct 297 = .ok (.getfield 199, 3) := by decide +kernel
theorem dX7_readsAct_300 : decode cX7_readsAct 300 = .ok (.iconst 1, 1) := by decide +kernel
theorem dX7_readsAct_301 : decode cX7_readsAct 301 = .ok (.iadd, 1) := by decide +kernel
theorem dX7_readsAct_302 : decode cX7_readsAct 302 = .ok (.putfield 199, 3) := by decide +kernel
theorem dX7_readsAct_305 : decode cX7_readsAct 305 = .ok (.return_, 1) := by decide +kernel
theorem dX7_readsAct_236 : decode cX7_readsAct 236 = .ok (.iconst 0, 1) := by decide +kernel
theorem dX7_readsAct_237 : decode cX7_readsAct 237 = .ok (.istore_n 3, 1) := by decide +kernel
theorem dX7_readsAct_238 : decode cX7_readsAct 238 = .ok (.iload_n 1, 1) := by decide +kernel
theorem dX7_readsAct_239 : decode cX7_readsAct 239 = .ok (.iconst 3, 1) := by decide +kernel
theorem dX7_readsAct_240 : decode cX7_readsAct 240 = .ok (.if_icmp .eq 25, 3) := by decide +kernel
theorem dX7_readsAct_243 : decode cX7_readsAct 243 = .ok (.iload_n 1, 1) := by decide +kernel
theorem dX7_readsAct_244 : decode cX7_readsAct 244 = .ok (.iconst 4, 1) := by decide +kernel
theorem dX7_readsAct_245 : decode cX7_readsAct 245 = .ok (.if_icmp .eq 20, 3) := by decide +kernel
theorem dX7_readsAct_248 : decode cX7_readsAct 248 = .ok (.iload_n 1, 1) := by decide +kernel
theorem dX7_readsAct_249 : decode cX7_readsAct 249 = .ok (.bipush 6, 2) := by decide +kernel
theorem dX7_readsAct_251 : decode cX7_readsAct 251 = .ok (.if_icmp .eq 9, 3) := by decide +kernel
theorem dX7_readsAct_260 : decode cX7_readsAct 260 = .ok (.aload_n 0, 1) := by decide +kernel
theorem dX7_readsAct_261 : decode cX7_readsAct 261 = .ok (.invokevirtual 195, 3) := by decide +kernel
theorem dX7_readsAct_264 : decode cX7_readsAct 264 = .ok (.istore_n 3, 1) := by decide +kernel
theorem dX7_readsAct_254 : decode cX7_readsAct 254 = .ok (.aload_n 0, 1) := by decide +kernel
theorem dX7_readsAct_255 : decode cX7_readsAct 255 = .ok (.bipush 32, 2) := by decide +kernel
theorem dX7_readsAct_257 : decode cX7_readsAct 257 = .ok (.invokevirtual 191, 3) := by decide +kernel
theorem dX7_readsAct_140 : decode cX7_readsAct 140 = .ok (.iconst 0, 1) := by decide +kernel
theorem dX7_readsAct_141 : decode cX7_readsAct 141 = .ok (.istore_n 2, 1) := by decide +kernel
theorem dX7_readsAct_142 : decode cX7_readsAct 142 = .ok (.iload_n 1, 1) := by decide +kernel
theorem dX7_readsAct_143 : decode cX7_readsAct 143 = .ok (.bipush 6, 2) := by decide +kernel
theorem dX7_readsAct_145 : decode cX7_readsAct 145 = .ok (.if_icmp .eq 91, 3) := by decide +kernel
theorem dX7_readsAct_148 : decode cX7_readsAct 148 = .ok (.aload_n 0, 1) := by decide +kernel
theorem dX7_readsAct_149 : decode cX7_readsAct 149 = .ok (.aload_n 0, 1) := by decide +kernel
theorem dX7_readsAct_150 : decode cX7_readsAct 150 = .ok (.getfield 180, 3) := by decide +kernel
theorem dX7_readsAct_153 : decode cX7_readsAct 153 = .ok (.ifCond .ne 31, 3) := by decide +kernel
theorem dX7_readsAct_156 : decode cX7_readsAct 156 = .ok (.aload_n 0, 1) := by decide +kernel
theorem dX7_readsAct_157 : decode cX7_readsAct 157 = .ok (.aload_n 0, 1) := by decide +kernel
theorem dX7_readsAct_158 : decode cX7_readsAct 158 = .ok (.getfield 184, 3) := by decide +kernel
theorem dX7_readsAct_161 : decode cX7_readsAct 161 = .ok (.invokevirtual 187, 3) := by decide +kernel
theorem dX7_readsAct_164 : decode cX7_readsAct 164 = .ok (.bipush 48, 2) := by decide +kernel
theorem dX7_readsAct_166 : decode cX7_readsAct 166 = .ok (.iload_n 1, 1) := by decide +kernel
theorem dX7_readsAct_167 : decode cX7_readsAct 167 = .ok (.iconst 5, 1) := by decide +kernel
theorem dX7_readsAct_168 : decode cX7_readsAct 168 = .ok (.if_icmp .ne 8, 3) := by decide +kernel
theorem dX7_readsAct_176 : decode cX7_readsAct 176 = .ok (.bipush 51, 2) := by decide +kernel
theorem dX7_readsAct_178 : decode cX7_readsAct 178 = .ok (.invokestatic 171, 3) := by decide +kernel
theorem dX7_readsAct_181 : decode cX7_readsAct 181 = .ok (.ifCond .ne 7, 3) := by decide +kernel
theorem dX7_readsAct_188 : decode cX7_readsAct 188 = .ok (.iconst 0, 1) := by decide +kernel
theorem dX7_readsAct_189 : decode cX7_readsAct 189 = .ok (.putfield 180, 3) := by decide +kernel
theorem dX7_readsAct_192 : decode cX7_readsAct 192 = .ok (.aload_n 0, 1) := by decide +kernel
theorem dX7_readsAct_193 : decode cX7_readsAct 193 = .ok (.getfield 180, 3) := by decide +kernel
theorem dX7_readsAct_196 : decode cX7_readsAct 196 = .ok (.ifCond .eq 7, 3) := by decide +kernel
theorem dX7_readsAct_203 : decode cX7_readsAct 203 = .ok (.aload_n 0, 1) := by decide +kernel
theorem dX7_readsAct_204 : decode cX7_readsAct 204 = .ok (.aload_n 0, 1) := by decide +kernel
theorem dX7_readsAct_205 : decode cX7_readsAct 205 = .ok (.getfield 184, 3) := by decide +kernel
theorem dX7_readsAct_208 : decode cX7_readsAct 208 = .ok (.invokevirtual 187, 3) := by decide +kernel
theorem dX7_readsAct_211 : decode cX7_readsAct 211 = .ok (.bipush 48, 2) := by decide +kernel
theorem dX7_readsAct_213 : decode cX7_readsAct 213 = .ok (.isub, 1) := by decide +kernel
theorem dX7_readsAct_214 : decode cX7_readsAct 214 = .ok (.istore_n 2, 1) := by decide +kernel
theorem dX7_readsAct_215 : decode cX7_readsAct 215 = .ok (.aload_n 0, 1) := by decide +kernel
theorem dX7_readsAct_216 : decode cX7_readsAct 216 = .ok (.dup, 1) := by decide +kernel
theorem dX7_readsAct_217 : decode cX7_readsAct 217 = .ok (.getfield 184, 3) := by decide +kernel
theorem dX7_readsAct_220 : decode cX7_readsAct 220 = .ok (.aload_n 0, 1) := by decide +kernel
theorem dX7_readsAct_221 : decode cX7_readsAct 221 = .ok (.getfield 180, 3) := by decide +kernel
theorem dX7_readsAct_224 : decode cX7_readsAct 224 = .ok (.ifCond .eq 7, 3) := by decide +kernel
theorem dX7_readsAct_231 : decode cX7_readsAct 231 = .ok (.iconst 1, 1) := by decide +kernel
theorem dX7_readsAct_232 : decode cX7_readsAct 232 = .ok (.iadd, 1) := by decide +kernel
theorem dX7_readsAct_233 : decode cX7_readsAct 233 = .ok (.putfield 184, 3) := by decide +kernel
theorem dX7_readsAct_184 : decode cX7_readsAct 184 = .ok (.iconst 1, 1) := by decide +kernel
theorem dX7_readsAct_185 : decode cX7_readsAct 185 = .ok (.goto 4, 3) := by decide +kernel
theorem dX7_readsAct_199 : decode cX7_readsAct 199 = .ok (.iconst 0, 1) := by decide +kernel
theorem dX7_readsAct_200 : decode cX7_readsAct 200 = .ok (.goto 14, 3) := by decide +kernel
theorem dX7_readsAct_227 : decode cX7_readsAct 227 = .ok (.iconst 0, 1) := by decide +kernel
theorem dX7_readsAct_228 : decode cX7_readsAct 228 = .ok (.goto 4, 3) := by decide +kernel
theorem dX7_readsAct_171 : decode cX7_readsAct 171 = .ok (.bipush 53, 2) := by decide +kernel
theorem dX7_readsAct_173 : decode cX7_readsAct 173 = .ok (.goto 5, 3) := by decide +kernel
theorem dX7_readsAct_34 : decode cX7_readsAct 34 = .ok (.iload_n 1, 1) := by decide +kernel
theorem dX7_readsAct_35 : decode cX7_readsAct 35 = .ok (.bipush 8, 2) := by decide +kernel
theorem dX7_readsAct_37 : decode cX7_readsAct 37 = .ok (.if_icmp .ge 28, 3) := by decide +kernel
theorem dX7_readsAct_65 : decode cX7_readsAct 65 = .ok (.aload_n 0, 1) := by decide +kernel
theorem dX7_readsAct_66 : decode cX7_readsAct 66 = .ok (.aload_n 0, 1) := by decide +kernel
theorem dX7_readsAct_67 : decode cX7_readsAct 67 = .ok (.getfield 180, 3) := by decide +kernel
theorem dX7_readsAct_70 : decode cX7_readsAct 70 = .ok (.ifCond .ne 9, 3) := by decide +kernel
theorem dX7_readsAct_73 : decode cX7_readsAct 73 = .ok (.iload_n 1, 1) := by decide +kernel
theorem dX7_readsAct_74 : decode cX7_readsAct 74 = .ok (.bipush 8, 2) := by decide +kernel
theorem dX7_readsAct_76 : decode cX7_readsAct 76 = .ok (.if_icmp .ne 7, 3) := by decide +kernel
theorem dX7_readsAct_79 : decode cX7_readsAct 79 = .ok (.iconst 1, 1) := by decide +kernel
theorem dX7_readsAct_80 : decode cX7_readsAct 80 = .ok (.goto 4, 3) := by decide +kernel
theorem dX7_readsAct_84 : decode cX7_readsAct 84 = .ok (.putfield 180, 3) := by decide +kernel
theorem dX7_readsAct_87 : decode cX7_readsAct 87 = .ok (.iconst 0, 1) := by decide +kernel
theorem dX7_readsAct_88 : decode cX7_readsAct 88 = .ok (.istore_n 2, 1) := by decide +kernel
theorem dX7_readsAct_89 : decode cX7_readsAct 89 = .ok (.iload_n 2, 1) := by decide +kernel
theorem dX7_readsAct_90 : decode cX7_readsAct 90 = .ok (.iconst 3, 1) := by decide +kernel
theorem dX7_readsAct_91 : decode cX7_readsAct 91 = .ok (.if_icmp .ge 43, 3) := by decide +kernel
theorem dX7_readsAct_94 : decode cX7_readsAct 94 = .ok (.aload_n 0, 1) := by decide +kernel
theorem dX7_readsAct_95 : decode cX7_readsAct 95 = .ok (.getfield 180, 3) := by decide +kernel
theorem dX7_readsAct_98 : decode cX7_readsAct 98 = .ok (.ifCond .ne 36, 3) := by decide +kernel
theorem dX7_readsAct_134 : decode cX7_readsAct 134 = .ok (.aload_n 0, 1) := by decide +kernel
theorem dX7_readsAct_135 : decode cX7_readsAct 135 = .ok (.bipush 32, 2) := by decide +kernel
theorem dX7_readsAct_137 : decode cX7_readsAct 137 = .ok (.invokevirtual 191, 3) := by decide +kernel
theorem dX7_readsAct_40 : decode cX7_readsAct 40 = .ok (.aload_n 0, 1) := by decide +kernel
theorem dX7_readsAct_41 : decode cX7_readsAct 41 = .ok (.aload_n 0, 1) := by decide +kernel
theorem dX7_readsAct_42 : decode cX7_readsAct 42 = .ok (.getfield 184, 3) := by decide +kernel
theorem dX7_readsAct_45 : decode cX7_readsAct 45 = .ok (.invokevirtual 187, 3) := by decide +kernel
theorem dX7_readsAct_48 : decode cX7_readsAct 48 = .ok (.aload_n 0, 1) := by decide +kernel
theorem dX7_readsAct_49 : decode cX7_readsAct 49 = .ok (.getfield 107, 3) := by decide +kernel
theorem dX7_readsAct_52 : decode cX7_readsAct 52 = .ok (.iconst 3, 1) := by decide +kernel
theorem dX7_readsAct_53 : decode cX7_readsAct 53 = .ok (.iload_n 1, 1) := by decide +kernel
theorem dX7_readsAct_54 : decode cX7_readsAct 54 = .ok (.imul, 1) := by decide +kernel
theorem dX7_readsAct_55 : decode cX7_readsAct 55 = .ok (.iaload, 1) := by decide +kernel
theorem dX7_readsAct_56 : decode cX7_readsAct 56 = .ok (.if_icmp .eq 9, 3) := by decide +kernel
theorem dX7_readsAct_83 : decode cX7_readsAct 83 = .ok (.iconst 0, 1) := by decide +kernel
theorem dX7_readsAct_101 : decode cX7_readsAct 101 = .ok (.aload_n 0, 1) := by decide +kernel
theorem dX7_readsAct_102 : decode cX7_readsAct 102 = .ok (.getfield 107, 3) := by decide +kernel
theorem dX7_readsAct_105 : decode cX7_readsAct 105 = .ok (.iconst 3, 1) := by decide +kernel
theorem dX7_readsAct_106 : decode cX7_readsAct 106 = .ok (.iload_n 1, 1) := by decide +kernel
theorem dX7_readsAct_107 : decode cX7_readsAct 107 = .ok (.imul, 1) := by decide +kernel
theorem dX7_readsAct_108 : decode cX7_readsAct 108 = .ok (.iload_n 2, 1) := by decide +kernel
theorem dX7_readsAct_109 : decode cX7_readsAct 109 = .ok (.iadd, 1) := by decide +kernel
theorem dX7_readsAct_110 : decode cX7_readsAct 110 = .ok (.iaload, 1) := by decide +kernel
theorem dX7_readsAct_111 : decode cX7_readsAct 111 = .ok (.ifCond .eq 17, 3) := by decide +kernel
theorem dX7_readsAct_114 : decode cX7_readsAct 114 = .ok (.aload_n 0, 1) := by decide +kernel
theorem dX7_readsAct_115 : decode cX7_readsAct 115 = .ok (.aload_n 0, 1) := by decide +kernel
theorem dX7_readsAct_116 : decode cX7_readsAct 116 = .ok (.getfield 107, 3) := by decide +kernel
theorem dX7_readsAct_119 : decode cX7_readsAct 119 = .ok (.iconst 3, 1) := by decide +kernel
theorem dX7_readsAct_120 : decode cX7_readsAct 120 = .ok (.iload_n 1, 1) := by decide +kernel
theorem dX7_readsAct_121 : decode cX7_readsAct 121 = .ok (.imul, 1) := by decide +kernel
theorem dX7_readsAct_122 : decode cX7_readsAct 122 = .ok (.iload_n 2, 1) := by decide +kernel
theorem dX7_readsAct_123 : decode cX7_readsAct 123 = .ok (.iadd, 1) := by decide +kernel
theorem dX7_readsAct_124 : decode cX7_readsAct 124 = .ok (.iaload, 1) := by decide +kernel
theorem dX7_readsAct_125 : decode cX7_readsAct 125 = .ok (.invokevirtual 191, 3) := by decide +kernel
theorem dX7_readsAct_128 : decode cX7_readsAct 128 = .ok (.iinc 2 1, 3) := by decide +kernel
theorem dX7_readsAct_131 : decode cX7_readsAct 131 = .ok (.goto (-42), 3) := by decide +kernel
theorem dX7_readsAct_59 : decode cX7_readsAct 59 = .ok (.iinc 1 1, 3) := by decide +kernel
theorem dX7_readsAct_62 : decode cX7_readsAct 62 = .ok (.goto (-28), 3) := by decide +kernel
theorem dX7_readsAct_0 : decode cX7_readsAct 0 = .ok (.aload_n 0, 1) := by decide +kernel
theorem dX7_readsAct_1 : decode cX7_readsAct 1 = .ok (.aload_n 0, 1) := by decide +kernel
theorem dX7_readsAct_2 : decode cX7_readsAct 2 = .ok (.getfield 184, 3) := by decide +kernel
theorem dX7_readsAct_5 : decode cX7_readsAct 5 = .ok (.invokevirtual 187, 3) := by decide +kernel
theorem dX7_readsAct_8 : decode cX7_readsAct 8 = .ok (.bipush 97, 2) := by decide +kernel
theorem dX7_readsAct_10 : decode cX7_readsAct 10 = .ok (.if_icmp .ne 22, 3) := by decide +kernel
theorem dX7_readsAct_32 : decode cX7_readsAct 32 = .ok (.iconst 0, 1) := by decide +kernel
theorem dX7_readsAct_33 : decode cX7_readsAct 33 = .ok (.istore_n 1, 1) := by decide +kernel
theorem dX7_readsAct_13 : decode cX7_readsAct 13 = .ok (.aload_n 0, 1) := by decide +kernel
theorem dX7_readsAct_14 : decode cX7_readsAct 14 = .ok (.aload_n 0, 1) := by decide +kernel
theorem dX7_readsAct_15 : decode cX7_readsAct 15 = .ok (.getfield 184, 3) := by decide +kernel
theorem dX7_readsAct_18 : decode cX7_readsAct 18 = .ok (.iconst 1, 1) := by decide +kernel
theorem dX7_readsAct_19 : decode cX7_readsAct 19 = .ok (.iadd, 1) := by decide +kernel
theorem dX7_readsAct_20 : decode cX7_readsAct 20 = .ok (.invokevirtual 187, 3) := by decide +kernel
theorem dX7_readsAct_23 : decode cX7_readsAct 23 = .ok (.bipush 115, 2) := by decide +kernel
theorem dX7_readsAct_25 : decode cX7_readsAct 25 = .ok (.if_icmp .ne 7, 3) := by decide +kernel
theorem dX7_readsAct_28 : decode cX7_readsAct 28 = .ok (.iconst 5, 1) := by decide +kernel
theorem dX7_readsAct_29 : decode cX7_readsAct 29 = .ok (.goto 4, 3) := by decide +kernel
abbrev md_m_readsAct : Nat → Nat → Bool := mdf [(8, 36), (8, 37), (8, 38), (84, 99), (85, 99), (86, 99)]
theorem mdle_m_readsAct_m_must {r k : Nat} (h : md_m_readsAct r k = false) : md_m_must r k = false := mdf_le (by decide +kernel) h
theorem mdle_m_readsAct_m_readsWorth {r k : Nat} (h : md_m_readsAct r k = false) : md_m_readsWorth r k = false := mdf_le (by decide +kernel) h
set_option maxHeartbeats 4000000 in
set_option maxRecDepth 100000 in
theorem lt_m_readsAct_e0 (l : Launch) (D : va_G) (cI cZ cS cR : ClassId) (N0 : NT) (g : GS) (h : Nat) (s0 : Int32) (rz : Int32) (wt : Nat) (na : Nat) (pa : Nat) (z : Int32) (t : Nat) (ct : Nat → Int32) (nv : Nat) (r_h : g.1 h = 8) (r_na : g.1 na = 84) (n_na : g.2.2.1 na = 8) (r_pa : g.1 pa = 85) (n_pa : g.2.2.1 pa = 8) (r_wt : g.1 wt = 87) (n_wt : g.2.2.1 wt = 24) (r_t : g.1 t = 79) (n_t : g.2.2.1 t = 100) (r_nv : g.1 nv = 86) (n_nv : g.2.2.1 nv = 8) (krz : g.2.1 h 38 = .int rz) (ks0 : g.2.1 h 36 = .int s0) (kw0 : g.2.1 h 37 = .int 0) (kwt : g.2.1 h 42 = .ref wt) (kna : g.2.1 h 39 = .ref na) (kpa : g.2.1 h 40 = .ref pa) (kz : g.2.1 h 29 = .int z) (kt : g.2.1 h 28 = .ref t) (knv : g.2.1 h 41 = .ref nv) (l_rz : 0 ≤ rz.toInt) (u_rz : rz.toInt ≤ 7) (l_s0 : 0 ≤ s0.toInt) (u_s0 : s0.toInt ≤ 100) (hN_0 : PL 8 g na pa) (hWT_0 : WT g wt) (l_z : 0 ≤ z.toInt) (u_z : z.toInt ≤ 100) (hc_0 : g.2.2.2.1 t = ct) {p : Program} {e : Env} {s : State} {m : MethodId} {args : Array Value} {below : List Frame} {meth : Method} {c : Code} (hB : Tz p s m meth c args cX7_readsAct 4 RX7 D cI cZ cS cR N0) (hr : meth.sig.returnType = none)    : ∀ (g1 : GS) (w : Int32) (cc : Int32) (v : Int32) (sp : Int32)  (H : Heap) (locs : List Loc) (ls : Array Slot), Tv D cI cZ cS cR N0 s.heap H locs g1 → Inv g1 → Ex g g1 → Sm md_m_readsAct g g1 → 0 ≤ w.toInt → w.toInt ≤ 8 → 0 ≤ cc.toInt → cc.toInt ≤ 5 → 0 ≤ v.toInt → v.toInt ≤ 1001 → 0 ≤ sp.toInt → sp.toInt ≤ 100 → g1.2.1 h 38 = .int rz → g1.2.1 h 36 = .int sp → g1.2.1 h 37 = .int 0 → (PL 8 g1 na pa) → (g1.2.2.2.1 t = ct) → (WT g1 wt) → (UP g1 na (g.2.2.2.1 na) false rz.toNatClampNeg 0) → (UP g1 pa (g.2.2.2.1 pa) false rz.toNatClampNeg 0) → (UP g1 nv (g.2.2.2.1 nv) false rz.toNatClampNeg 0) → (cc.toInt ≤ 3 ∨ w.toInt = 5) → (ac (txb ct z.toInt) s0.toInt = (true, sp.toInt) ∧ sp.toInt ≤ z.toInt) → (w.toInt = wdr (txb ct z.toInt) s0.toInt ∧ cc.toInt = acc (txb ct z.toInt) s0.toInt ∧ v.toInt = acv (txb ct z.toInt) s0.toInt) → lv_has ls 4 [(1, .int w), (2, .int cc), (3, .int v), (0, .ref h)] → W p l e (rmx 2 0 0) s m args below meth c H locs 0 0 (MQ below (tQ D cI cZ cS cR N0 (fun v g' => ∃ (z2 : Int32) (s2 : Int32) (w2 : Int32) (w_ : Int32) (c_ : Int32) (v_ : Int32), v = none ∧ Inv g' ∧ Ex g g' ∧ Sm md_m_readsAct g g' ∧ ((w2 = 1 ∧ ac (txb ct z.toInt) s0.toInt = (false, s2.toInt)) ∨ (w2 = 0 ∧ ac (txb ct z.toInt) s0.toInt = (true, s2.toInt) ∧ s2.toInt ≤ z.toInt ∧ w_.toInt = wdr (txb ct z.toInt) s0.toInt ∧ c_.toInt = acc (txb ct z.toInt) s0.toInt ∧ v_.toInt = acv (txb ct z.toInt) s0.toInt)) ∧ (g'.2.1 h 38 = .int z2) ∧ (z2.toInt = rz.toInt + 1) ∧ (PL 8 g' na pa) ∧ (g'.2.1 h 36 = .int s2) ∧ (g'.2.1 h 37 = .int w2) ∧ (0 ≤ s2.toInt ∧ s2.toInt ≤ 100) ∧ (UP g' na (g.2.2.2.1 na) true rz.toNatClampNeg w_) ∧ (UP g' pa (g.2.2.2.1 pa) true rz.toNatClampNeg c_) ∧ (UP g' nv (g.2.2.2.1 nv) true rz.toNatClampNeg v_))) args s 0 0 (fun q => N0.1 ≤ q)) (F0 m 265 ls []) := by
  have hx := hB.1
  have hb := hB.2.1
  intro g1 w cc v sp H locs ls hT hI hE hM l_w u_w l_cc u_cc l_v u_v l_sp u_sp kp0 kp1 kp2 hN hc hWT hU0 hU1 hU2 hcw hac hwc hl
  have r_1 : g1.1 h = 8 := Ex.r hE r_h (by decide)
  have r_2 : g1.1 na = 84 := Ex.r hE r_na (by decide)
  have n_3 : g1.2.2.1 na = 8 := Ex.n hE r_na (by decide) n_na
  have r_4 : g1.1 pa = 85 := Ex.r hE r_pa (by decide)
  have n_5 : g1.2.2.1 pa = 8 := Ex.n hE r_pa (by decide) n_pa
  have r_6 : g1.1 wt = 87 := Ex.r hE r_wt (by decide)
  have n_7 : g1.2.2.1 wt = 24 := Ex.n hE r_wt (by decide) n_wt
  have r_8 : g1.1 t = 79 := Ex.r hE r_t (by decide)
  have n_9 : g1.2.2.1 t = 100 := Ex.n hE r_t (by decide) n_t
  have r_10 : g1.1 nv = 86 := Ex.r hE r_nv (by decide)
  have n_11 : g1.2.2.1 nv = 8 := Ex.n hE r_nv (by decide) n_nv
  have kn_12 : g1.2.1 h 42 = .ref wt := Sm.v hM r_h (by decide) rfl kwt
  have kn_13 : g1.2.1 h 39 = .ref na := Sm.v hM r_h (by decide) rfl kna
  have kn_14 : g1.2.1 h 40 = .ref pa := Sm.v hM r_h (by decide) rfl kpa
  have kn_15 : g1.2.1 h 29 = .int z := Sm.v hM r_h (by decide) rfl kz
  have kn_16 : g1.2.1 h 28 = .ref t := Sm.v hM r_h (by decide) rfl kt
  have kn_17 : g1.2.1 h 41 = .ref nv := Sm.v hM r_h (by decide) rfl knv
  refine lv_aload_n hx hb dX7_readsAct_265 rfl (lv_at hl 3 rfl) ?_
  refine t_get (ci := 7) (v := .ref na) hB hT (ro_ci r_1 rfl) rfl 39 (by decide) k_784 kn_13 dX7_readsAct_266 ?_
  refine lv_aload_n hx hb dX7_readsAct_269 rfl (lv_at hl 3 rfl) ?_
  refine t_get (ci := 7) (v := .int rz) hB hT (ro_ci r_1 rfl) rfl 38 (by decide) k_783 kp0 dX7_readsAct_270 ?_
  refine lv_iload_n hx hb dX7_readsAct_273 rfl (lv_at hl 0 rfl) ?_
  have i_18 : vp_in rz 8 := (i_in (n := 8) rfl (by omega) (by omega))
  refine t_iast hB hT (ro_in r_2 (by decide)) n_3 i_18 dX7_readsAct_274 (fun H locs hT => ?_)
  have hI : Inv (sC g1 na rz.toNatClampNeg w) := hI.sC (ck r_2 trivial)
  have hM : Sm md_m_readsAct g (sC g1 na rz.toNatClampNeg w) := hM.tr hE (Sm_sC (by rw [r_2]; rfl))
  have hE : Ex g (sC g1 na rz.toNatClampNeg w) := hE
  have hc : (sC g1 na rz.toNatClampNeg w).2.2.2.1 t = ct := sC_f hc (ro_ne r_8 r_2 (by decide))
  have hWT : WT (sC g1 na rz.toNatClampNeg w) wt := hWT.tC (ro_ne r_6 r_2 (by decide))
  have hU0 : UP (sC g1 na rz.toNatClampNeg w) na (g.2.2.2.1 na) true rz.toNatClampNeg w := UP.st hU0.val rfl
  have hU1 : UP (sC g1 na rz.toNatClampNeg w) pa (g.2.2.2.1 pa) false rz.toNatClampNeg 0 := hU1.tC (ro_ne r_4 r_2 (by decide))
  have hU2 : UP (sC g1 na rz.toNatClampNeg w) nv (g.2.2.2.1 nv) false rz.toNatClampNeg 0 := hU2.tC (ro_ne r_10 r_2 (by decide))
  refine lv_aload_n hx hb dX7_readsAct_275 rfl (lv_at hl 3 rfl) ?_
  refine t_get (ci := 7) (v := .ref pa) hB hT (ro_ci r_1 rfl) rfl 40 (by decide) k_785 kn_14 dX7_readsAct_276 ?_
  refine lv_aload_n hx hb dX7_readsAct_279 rfl (lv_at hl 3 rfl) ?_
  refine t_get (ci := 7) (v := .int rz) hB hT (ro_ci r_1 rfl) rfl 38 (by decide) k_783 kp0 dX7_readsAct_280 ?_
  refine lv_iload_n hx hb dX7_readsAct_283 rfl (lv_at hl 1 rfl) ?_
  have i_19 : vp_in rz 8 := (i_in (n := 8) rfl (by omega) (by omega))
  refine t_iast hB hT (ro_in r_4 (by decide)) n_5 i_19 dX7_readsAct_284 (fun H locs hT => ?_)
  have hI : Inv (sC (sC g1 na rz.toNatClampNeg w) pa rz.toNatClampNeg cc) := hI.sC (ck r_4 ⟨by omega, by omega⟩)
  have hM : Sm md_m_readsAct g (sC (sC g1 na rz.toNatClampNeg w) pa rz.toNatClampNeg cc) := hM.tr hE (Sm_sC (by rw [r_4]; rfl))
  have hE : Ex g (sC (sC g1 na rz.toNatClampNeg w) pa rz.toNatClampNeg cc) := hE
  have hN : PL 8 (sC (sC g1 na rz.toNatClampNeg w) pa rz.toNatClampNeg cc) na pa := PL.st hN (ro_ne r_2 r_4 (by decide)) rfl hcw
  have hc : (sC (sC g1 na rz.toNatClampNeg w) pa rz.toNatClampNeg cc).2.2.2.1 t = ct := sC_f hc (ro_ne r_8 r_4 (by decide))
  have hWT : WT (sC (sC g1 na rz.toNatClampNeg w) pa rz.toNatClampNeg cc) wt := hWT.tC (ro_ne r_6 r_4 (by decide))
  have hU0 : UP (sC (sC g1 na rz.toNatClampNeg w) pa rz.toNatClampNeg cc) na (g.2.2.2.1 na) true rz.toNatClampNeg w := hU0.tC (ro_ne r_2 r_4 (by decide))
  have hU1 : UP (sC (sC g1 na rz.toNatClampNeg w) pa rz.toNatClampNeg cc) pa (g.2.2.2.1 pa) true rz.toNatClampNeg cc := UP.st hU1.val rfl
  have hU2 : UP (sC (sC g1 na rz.toNatClampNeg w) pa rz.toNatClampNeg cc) nv (g.2.2.2.1 nv) false rz.toNatClampNeg 0 := hU2.tC (ro_ne r_10 r_4 (by decide))
  refine lv_aload_n hx hb dX7_readsAct_285 rfl (lv_at hl 3 rfl) ?_
  refine t_get (ci := 7) (v := .ref nv) hB hT (ro_ci r_1 rfl) rfl 41 (by decide) k_786 kn_17 dX7_readsAct_286 ?_
  refine lv_aload_n hx hb dX7_readsAct_289 rfl (lv_at hl 3 rfl) ?_
  refine t_get (ci := 7) (v := .int rz) hB hT (ro_ci r_1 rfl) rfl 38 (by decide) k_783 kp0 dX7_readsAct_290 ?_
  refine lv_iload_n hx hb dX7_readsAct_293 rfl (lv_at hl 2 rfl) ?_
  have i_20 : vp_in rz 8 := (i_in (n := 8) rfl (by omega) (by omega))
  refine t_iast hB hT (ro_in r_10 (by decide)) n_11 i_20 dX7_readsAct_294 (fun H locs hT => ?_)
  have hI : Inv (sC (sC (sC g1 na rz.toNatClampNeg w) pa rz.toNatClampNeg cc) nv rz.toNatClampNeg v) := hI.sC (ck r_10 ⟨by omega, by omega⟩)
  have hM : Sm md_m_readsAct g (sC (sC (sC g1 na rz.toNatClampNeg w) pa rz.toNatClampNeg cc) nv rz.toNatClampNeg v) := hM.tr hE (Sm_sC (by rw [r_10]; rfl))
  have hE : Ex g (sC (sC (sC g1 na rz.toNatClampNeg w) pa rz.toNatClampNeg cc) nv rz.toNatClampNeg v) := hE
  have hN : PL 8 (sC (sC (sC g1 na rz.toNatClampNeg w) pa rz.toNatClampNeg cc) nv rz.toNatClampNeg v) na pa := hN.tC (ro_ne r_2 r_10 (by decide)) (ro_ne r_4 r_10 (by decide))
  have hc : (sC (sC (sC g1 na rz.toNatClampNeg w) pa rz.toNatClampNeg cc) nv rz.toNatClampNeg v).2.2.2.1 t = ct := sC_f hc (ro_ne r_8 r_10 (by decide))
  have hWT : WT (sC (sC (sC g1 na rz.toNatClampNeg w) pa rz.toNatClampNeg cc) nv rz.toNatClampNeg v) wt := hWT.tC (ro_ne r_6 r_10 (by decide))
  have hU0 : UP (sC (sC (sC g1 na rz.toNatClampNeg w) pa rz.toNatClampNeg cc) nv rz.toNatClampNeg v) na (g.2.2.2.1 na) true rz.toNatClampNeg w := hU0.tC (ro_ne r_2 r_10 (by decide))
  have hU1 : UP (sC (sC (sC g1 na rz.toNatClampNeg w) pa rz.toNatClampNeg cc) nv rz.toNatClampNeg v) pa (g.2.2.2.1 pa) true rz.toNatClampNeg cc := hU1.tC (ro_ne r_4 r_10 (by decide))
  have hU2 : UP (sC (sC (sC g1 na rz.toNatClampNeg w) pa rz.toNatClampNeg cc) nv rz.toNatClampNeg v) nv (g.2.2.2.1 nv) true rz.toNatClampNeg v := UP.st hU2.val rfl
  refine lv_aload_n hx hb dX7_readsAct_295 rfl (lv_at hl 3 rfl) ?_
  refine lv_dup hx hb dX7_readsAct_296 rfl ?_
  refine t_get (ci := 7) (v := .int rz) hB hT (ro_ci r_1 rfl) rfl 38 (by decide) k_783 kp0 dX7_readsAct_297 ?_
  refine lv_iconst (v := 1) hx hb dX7_readsAct_300 (by decide) ?_
  refine lv_iadd hx hb dX7_readsAct_301 ?_
  refine lv_topi (fun z_21 ez_21 => ?_)
  have e_z_21 : z_21.toInt = rz.toInt + 1 := i_add ez_21 rfl (by decide) (by omega) (by omega)
  refine t_put0 (ci := 7) (v := .int z_21) hB hT (ro_ci r_1 rfl) (ro_n0 r_1 (by decide)) rfl 38 (by decide) k_783 (Or.inl rfl) rfl rfl dX7_readsAct_302 (fun H locs hT => ?_)
  have hI : Inv (sF (sC (sC (sC g1 na rz.toNatClampNeg w) pa rz.toNatClampNeg cc) nv rz.toNatClampNeg v) h 38 (.int z_21)) := hI.sF (p_8_38 r_1 (⟨_, rfl, by omega, by omega⟩))
  have hM : Sm md_m_readsAct g (sF (sC (sC (sC g1 na rz.toNatClampNeg w) pa rz.toNatClampNeg cc) nv rz.toNatClampNeg v) h 38 (.int z_21)) := hM.tr hE (Sm_sF (by rw [r_1]; rfl))
  have hE : Ex g (sF (sC (sC (sC g1 na rz.toNatClampNeg w) pa rz.toNatClampNeg cc) nv rz.toNatClampNeg v) h 38 (.int z_21)) := hE
  have hN : PL 8 (sF (sC (sC (sC g1 na rz.toNatClampNeg w) pa rz.toNatClampNeg cc) nv rz.toNatClampNeg v) h 38 (.int z_21)) na pa := hN
  have hc : (sF (sC (sC (sC g1 na rz.toNatClampNeg w) pa rz.toNatClampNeg cc) nv rz.toNatClampNeg v) h 38 (.int z_21)).2.2.2.1 t = ct := hc
  have hWT : WT (sF (sC (sC (sC g1 na rz.toNatClampNeg w) pa rz.toNatClampNeg cc) nv rz.toNatClampNeg v) h 38 (.int z_21)) wt := hWT
  have hU0 : UP (sF (sC (sC (sC g1 na rz.toNatClampNeg w) pa rz.toNatClampNeg cc) nv rz.toNatClampNeg v) h 38 (.int z_21)) na (g.2.2.2.1 na) true rz.toNatClampNeg w := hU0
  have hU1 : UP (sF (sC (sC (sC g1 na rz.toNatClampNeg w) pa rz.toNatClampNeg cc) nv rz.toNatClampNeg v) h 38 (.int z_21)) pa (g.2.2.2.1 pa) true rz.toNatClampNeg cc := hU1
  have hU2 : UP (sF (sC (sC (sC g1 na rz.toNatClampNeg w) pa rz.toNatClampNeg cc) nv rz.toNatClampNeg v) h 38 (.int z_21)) nv (g.2.2.2.1 nv) true rz.toNatClampNeg v := hU2
  exact t_vret hB hr hT (Nat.le_of_ble_eq_true rfl) (Nat.le_of_ble_eq_true rfl) dX7_readsAct_305 ⟨z_21, sp, 0, w, cc, v, rfl, hI, hE, hM, (Or.inr ⟨rfl, hac.1, hac.2, hwc⟩), sF_eq, (by omega), hN, (sF_k kp1 (by decide)), (sF_k kp2 (by decide)), ⟨by omega, by omega⟩, hU0, hU1, hU2⟩
set_option maxHeartbeats 4000000 in
set_option maxRecDepth 100000 in
theorem lt_m_readsAct_e1 (l : Launch) (D : va_G) (cI cZ cS cR : ClassId) (N0 : NT) (g : GS) (h : Nat) (s0 : Int32) (rz : Int32) (wt : Nat) (na : Nat) (pa : Nat) (z : Int32) (t : Nat) (ct : Nat → Int32) (nv : Nat) (r_h : g.1 h = 8) (r_na : g.1 na = 84) (n_na : g.2.2.1 na = 8) (r_pa : g.1 pa = 85) (n_pa : g.2.2.1 pa = 8) (r_wt : g.1 wt = 87) (n_wt : g.2.2.1 wt = 24) (r_t : g.1 t = 79) (n_t : g.2.2.1 t = 100) (r_nv : g.1 nv = 86) (n_nv : g.2.2.1 nv = 8) (krz : g.2.1 h 38 = .int rz) (ks0 : g.2.1 h 36 = .int s0) (kw0 : g.2.1 h 37 = .int 0) (kwt : g.2.1 h 42 = .ref wt) (kna : g.2.1 h 39 = .ref na) (kpa : g.2.1 h 40 = .ref pa) (kz : g.2.1 h 29 = .int z) (kt : g.2.1 h 28 = .ref t) (knv : g.2.1 h 41 = .ref nv) (l_rz : 0 ≤ rz.toInt) (u_rz : rz.toInt ≤ 7) (l_s0 : 0 ≤ s0.toInt) (u_s0 : s0.toInt ≤ 100) (hN_0 : PL 8 g na pa) (hWT_0 : WT g wt) (l_z : 0 ≤ z.toInt) (u_z : z.toInt ≤ 100) (hc_0 : g.2.2.2.1 t = ct) {p : Program} {e : Env} {s : State} {m : MethodId} {args : Array Value} {below : List Frame} {meth : Method} {c : Code} (hB : Tz p s m meth c args cX7_readsAct 4 RX7 D cI cZ cS cR N0) (hr : meth.sig.returnType = none)    : ∀ (g1 : GS) (w : Int32) (cc : Int32) (v : Int32) (sp : Int32)  (H : Heap) (locs : List Loc) (ls : Array Slot), Tv D cI cZ cS cR N0 s.heap H locs g1 → Inv g1 → Ex g g1 → Sm md_m_readsAct g g1 → 0 ≤ w.toInt → w.toInt ≤ 8 → 0 ≤ cc.toInt → cc.toInt ≤ 5 → 0 ≤ v.toInt → v.toInt ≤ 1001 → 0 ≤ sp.toInt → sp.toInt ≤ 100 → g1.2.1 h 38 = .int rz → g1.2.1 h 36 = .int sp → g1.2.1 h 37 = .int 1 → (PL 8 g1 na pa) → (g1.2.2.2.1 t = ct) → (WT g1 wt) → (UP g1 na (g.2.2.2.1 na) false rz.toNatClampNeg 0) → (UP g1 pa (g.2.2.2.1 pa) false rz.toNatClampNeg 0) → (UP g1 nv (g.2.2.2.1 nv) false rz.toNatClampNeg 0) → (cc.toInt ≤ 3 ∨ w.toInt = 5) → (ac (txb ct z.toInt) s0.toInt = (false, sp.toInt)) → lv_has ls 4 [(1, .int w), (2, .int cc), (3, .int v), (0, .ref h)] → W p l e (rmx 2 0 0) s m args below meth c H locs 0 0 (MQ below (tQ D cI cZ cS cR N0 (fun v g' => ∃ (z2 : Int32) (s2 : Int32) (w2 : Int32) (w_ : Int32) (c_ : Int32) (v_ : Int32), v = none ∧ Inv g' ∧ Ex g g' ∧ Sm md_m_readsAct g g' ∧ ((w2 = 1 ∧ ac (txb ct z.toInt) s0.toInt = (false, s2.toInt)) ∨ (w2 = 0 ∧ ac (txb ct z.toInt) s0.toInt = (true, s2.toInt) ∧ s2.toInt ≤ z.toInt ∧ w_.toInt = wdr (txb ct z.toInt) s0.toInt ∧ c_.toInt = acc (txb ct z.toInt) s0.toInt ∧ v_.toInt = acv (txb ct z.toInt) s0.toInt)) ∧ (g'.2.1 h 38 = .int z2) ∧ (z2.toInt = rz.toInt + 1) ∧ (PL 8 g' na pa) ∧ (g'.2.1 h 36 = .int s2) ∧ (g'.2.1 h 37 = .int w2) ∧ (0 ≤ s2.toInt ∧ s2.toInt ≤ 100) ∧ (UP g' na (g.2.2.2.1 na) true rz.toNatClampNeg w_) ∧ (UP g' pa (g.2.2.2.1 pa) true rz.toNatClampNeg c_) ∧ (UP g' nv (g.2.2.2.1 nv) true rz.toNatClampNeg v_))) args s 0 0 (fun q => N0.1 ≤ q)) (F0 m 265 ls []) := by
  have hx := hB.1
  have hb := hB.2.1
  intro g1 w cc v sp H locs ls hT hI hE hM l_w u_w l_cc u_cc l_v u_v l_sp u_sp kp0 kp1 kp2 hN hc hWT hU0 hU1 hU2 hcw hac hl
  have r_1 : g1.1 h = 8 := Ex.r hE r_h (by decide)
  have r_2 : g1.1 na = 84 := Ex.r hE r_na (by decide)
  have n_3 : g1.2.2.1 na = 8 := Ex.n hE r_na (by decide) n_na
  have r_4 : g1.1 pa = 85 := Ex.r hE r_pa (by decide)
  have n_5 : g1.2.2.1 pa = 8 := Ex.n hE r_pa (by decide) n_pa
  have r_6 : g1.1 wt = 87 := Ex.r hE r_wt (by decide)
  have n_7 : g1.2.2.1 wt = 24 := Ex.n hE r_wt (by decide) n_wt
  have r_8 : g1.1 t = 79 := Ex.r hE r_t (by decide)
  have n_9 : g1.2.2.1 t = 100 := Ex.n hE r_t (by decide) n_t
  have r_10 : g1.1 nv = 86 := Ex.r hE r_nv (by decide)
  have n_11 : g1.2.2.1 nv = 8 := Ex.n hE r_nv (by decide) n_nv
  have kn_12 : g1.2.1 h 42 = .ref wt := Sm.v hM r_h (by decide) rfl kwt
  have kn_13 : g1.2.1 h 39 = .ref na := Sm.v hM r_h (by decide) rfl kna
  have kn_14 : g1.2.1 h 40 = .ref pa := Sm.v hM r_h (by decide) rfl kpa
  have kn_15 : g1.2.1 h 29 = .int z := Sm.v hM r_h (by decide) rfl kz
  have kn_16 : g1.2.1 h 28 = .ref t := Sm.v hM r_h (by decide) rfl kt
  have kn_17 : g1.2.1 h 41 = .ref nv := Sm.v hM r_h (by decide) rfl knv
  refine lv_aload_n hx hb dX7_readsAct_265 rfl (lv_at hl 3 rfl) ?_
  refine t_get (ci := 7) (v := .ref na) hB hT (ro_ci r_1 rfl) rfl 39 (by decide) k_784 kn_13 dX7_readsAct_266 ?_
  refine lv_aload_n hx hb dX7_readsAct_269 rfl (lv_at hl 3 rfl) ?_
  refine t_get (ci := 7) (v := .int rz) hB hT (ro_ci r_1 rfl) rfl 38 (by decide) k_783 kp0 dX7_readsAct_270 ?_
  refine lv_iload_n hx hb dX7_readsAct_273 rfl (lv_at hl 0 rfl) ?_
  have i_18 : vp_in rz 8 := (i_in (n := 8) rfl (by omega) (by omega))
  refine t_iast hB hT (ro_in r_2 (by decide)) n_3 i_18 dX7_readsAct_274 (fun H locs hT => ?_)
  have hI : Inv (sC g1 na rz.toNatClampNeg w) := hI.sC (ck r_2 trivial)
  have hM : Sm md_m_readsAct g (sC g1 na rz.toNatClampNeg w) := hM.tr hE (Sm_sC (by rw [r_2]; rfl))
  have hE : Ex g (sC g1 na rz.toNatClampNeg w) := hE
  have hc : (sC g1 na rz.toNatClampNeg w).2.2.2.1 t = ct := sC_f hc (ro_ne r_8 r_2 (by decide))
  have hWT : WT (sC g1 na rz.toNatClampNeg w) wt := hWT.tC (ro_ne r_6 r_2 (by decide))
  have hU0 : UP (sC g1 na rz.toNatClampNeg w) na (g.2.2.2.1 na) true rz.toNatClampNeg w := UP.st hU0.val rfl
  have hU1 : UP (sC g1 na rz.toNatClampNeg w) pa (g.2.2.2.1 pa) false rz.toNatClampNeg 0 := hU1.tC (ro_ne r_4 r_2 (by decide))
  have hU2 : UP (sC g1 na rz.toNatClampNeg w) nv (g.2.2.2.1 nv) false rz.toNatClampNeg 0 := hU2.tC (ro_ne r_10 r_2 (by decide))
  refine lv_aload_n hx hb dX7_readsAct_275 rfl (lv_at hl 3 rfl) ?_
  refine t_get (ci := 7) (v := .ref pa) hB hT (ro_ci r_1 rfl) rfl 40 (by decide) k_785 kn_14 dX7_readsAct_276 ?_
  refine lv_aload_n hx hb dX7_readsAct_279 rfl (lv_at hl 3 rfl) ?_
  refine t_get (ci := 7) (v := .int rz) hB hT (ro_ci r_1 rfl) rfl 38 (by decide) k_783 kp0 dX7_readsAct_280 ?_
  refine lv_iload_n hx hb dX7_readsAct_283 rfl (lv_at hl 1 rfl) ?_
  have i_19 : vp_in rz 8 := (i_in (n := 8) rfl (by omega) (by omega))
  refine t_iast hB hT (ro_in r_4 (by decide)) n_5 i_19 dX7_readsAct_284 (fun H locs hT => ?_)
  have hI : Inv (sC (sC g1 na rz.toNatClampNeg w) pa rz.toNatClampNeg cc) := hI.sC (ck r_4 ⟨by omega, by omega⟩)
  have hM : Sm md_m_readsAct g (sC (sC g1 na rz.toNatClampNeg w) pa rz.toNatClampNeg cc) := hM.tr hE (Sm_sC (by rw [r_4]; rfl))
  have hE : Ex g (sC (sC g1 na rz.toNatClampNeg w) pa rz.toNatClampNeg cc) := hE
  have hN : PL 8 (sC (sC g1 na rz.toNatClampNeg w) pa rz.toNatClampNeg cc) na pa := PL.st hN (ro_ne r_2 r_4 (by decide)) rfl hcw
  have hc : (sC (sC g1 na rz.toNatClampNeg w) pa rz.toNatClampNeg cc).2.2.2.1 t = ct := sC_f hc (ro_ne r_8 r_4 (by decide))
  have hWT : WT (sC (sC g1 na rz.toNatClampNeg w) pa rz.toNatClampNeg cc) wt := hWT.tC (ro_ne r_6 r_4 (by decide))
  have hU0 : UP (sC (sC g1 na rz.toNatClampNeg w) pa rz.toNatClampNeg cc) na (g.2.2.2.1 na) true rz.toNatClampNeg w := hU0.tC (ro_ne r_2 r_4 (by decide))
  have hU1 : UP (sC (sC g1 na rz.toNatClampNeg w) pa rz.toNatClampNeg cc) pa (g.2.2.2.1 pa) true rz.toNatClampNeg cc := UP.st hU1.val rfl
  have hU2 : UP (sC (sC g1 na rz.toNatClampNeg w) pa rz.toNatClampNeg cc) nv (g.2.2.2.1 nv) false rz.toNatClampNeg 0 := hU2.tC (ro_ne r_10 r_4 (by decide))
  refine lv_aload_n hx hb dX7_readsAct_285 rfl (lv_at hl 3 rfl) ?_
  refine t_get (ci := 7) (v := .ref nv) hB hT (ro_ci r_1 rfl) rfl 41 (by decide) k_786 kn_17 dX7_readsAct_286 ?_
  refine lv_aload_n hx hb dX7_readsAct_289 rfl (lv_at hl 3 rfl) ?_
  refine t_get (ci := 7) (v := .int rz) hB hT (ro_ci r_1 rfl) rfl 38 (by decide) k_783 kp0 dX7_readsAct_290 ?_
  refine lv_iload_n hx hb dX7_readsAct_293 rfl (lv_at hl 2 rfl) ?_
  have i_20 : vp_in rz 8 := (i_in (n := 8) rfl (by omega) (by omega))
  refine t_iast hB hT (ro_in r_10 (by decide)) n_11 i_20 dX7_readsAct_294 (fun H locs hT => ?_)
  have hI : Inv (sC (sC (sC g1 na rz.toNatClampNeg w) pa rz.toNatClampNeg cc) nv rz.toNatClampNeg v) := hI.sC (ck r_10 ⟨by omega, by omega⟩)
  have hM : Sm md_m_readsAct g (sC (sC (sC g1 na rz.toNatClampNeg w) pa rz.toNatClampNeg cc) nv rz.toNatClampNeg v) := hM.tr hE (Sm_sC (by rw [r_10]; rfl))
  have hE : Ex g (sC (sC (sC g1 na rz.toNatClampNeg w) pa rz.toNatClampNeg cc) nv rz.toNatClampNeg v) := hE
  have hN : PL 8 (sC (sC (sC g1 na rz.toNatClampNeg w) pa rz.toNatClampNeg cc) nv rz.toNatClampNeg v) na pa := hN.tC (ro_ne r_2 r_10 (by decide)) (ro_ne r_4 r_10 (by decide))
  have hc : (sC (sC (sC g1 na rz.toNatClampNeg w) pa rz.toNatClampNeg cc) nv rz.toNatClampNeg v).2.2.2.1 t = ct := sC_f hc (ro_ne r_8 r_10 (by decide))
  have hWT : WT (sC (sC (sC g1 na rz.toNatClampNeg w) pa rz.toNatClampNeg cc) nv rz.toNatClampNeg v) wt := hWT.tC (ro_ne r_6 r_10 (by decide))
  have hU0 : UP (sC (sC (sC g1 na rz.toNatClampNeg w) pa rz.toNatClampNeg cc) nv rz.toNatClampNeg v) na (g.2.2.2.1 na) true rz.toNatClampNeg w := hU0.tC (ro_ne r_2 r_10 (by decide))
  have hU1 : UP (sC (sC (sC g1 na rz.toNatClampNeg w) pa rz.toNatClampNeg cc) nv rz.toNatClampNeg v) pa (g.2.2.2.1 pa) true rz.toNatClampNeg cc := hU1.tC (ro_ne r_4 r_10 (by decide))
  have hU2 : UP (sC (sC (sC g1 na rz.toNatClampNeg w) pa rz.toNatClampNeg cc) nv rz.toNatClampNeg v) nv (g.2.2.2.1 nv) true rz.toNatClampNeg v := UP.st hU2.val rfl
  refine lv_aload_n hx hb dX7_readsAct_295 rfl (lv_at hl 3 rfl) ?_
  refine lv_dup hx hb dX7_readsAct_296 rfl ?_
  refine t_get (ci := 7) (v := .int rz) hB hT (ro_ci r_1 rfl) rfl 38 (by decide) k_783 kp0 dX7_readsAct_297 ?_
  refine lv_iconst (v := 1) hx hb dX7_readsAct_300 (by decide) ?_
  refine lv_iadd hx hb dX7_readsAct_301 ?_
  refine lv_topi (fun z_21 ez_21 => ?_)
  have e_z_21 : z_21.toInt = rz.toInt + 1 := i_add ez_21 rfl (by decide) (by omega) (by omega)
  refine t_put0 (ci := 7) (v := .int z_21) hB hT (ro_ci r_1 rfl) (ro_n0 r_1 (by decide)) rfl 38 (by decide) k_783 (Or.inl rfl) rfl rfl dX7_readsAct_302 (fun H locs hT => ?_)
  have hI : Inv (sF (sC (sC (sC g1 na rz.toNatClampNeg w) pa rz.toNatClampNeg cc) nv rz.toNatClampNeg v) h 38 (.int z_21)) := hI.sF (p_8_38 r_1 (⟨_, rfl, by omega, by omega⟩))
  have hM : Sm md_m_readsAct g (sF (sC (sC (sC g1 na rz.toNatClampNeg w) pa rz.toNatClampNeg cc) nv rz.toNatClampNeg v) h 38 (.int z_21)) := hM.tr hE (Sm_sF (by rw [r_1]; rfl))
  have hE : Ex g (sF (sC (sC (sC g1 na rz.toNatClampNeg w) pa rz.toNatClampNeg cc) nv rz.toNatClampNeg v) h 38 (.int z_21)) := hE
  have hN : PL 8 (sF (sC (sC (sC g1 na rz.toNatClampNeg w) pa rz.toNatClampNeg cc) nv rz.toNatClampNeg v) h 38 (.int z_21)) na pa := hN
  have hc : (sF (sC (sC (sC g1 na rz.toNatClampNeg w) pa rz.toNatClampNeg cc) nv rz.toNatClampNeg v) h 38 (.int z_21)).2.2.2.1 t = ct := hc
  have hWT : WT (sF (sC (sC (sC g1 na rz.toNatClampNeg w) pa rz.toNatClampNeg cc) nv rz.toNatClampNeg v) h 38 (.int z_21)) wt := hWT
  have hU0 : UP (sF (sC (sC (sC g1 na rz.toNatClampNeg w) pa rz.toNatClampNeg cc) nv rz.toNatClampNeg v) h 38 (.int z_21)) na (g.2.2.2.1 na) true rz.toNatClampNeg w := hU0
  have hU1 : UP (sF (sC (sC (sC g1 na rz.toNatClampNeg w) pa rz.toNatClampNeg cc) nv rz.toNatClampNeg v) h 38 (.int z_21)) pa (g.2.2.2.1 pa) true rz.toNatClampNeg cc := hU1
  have hU2 : UP (sF (sC (sC (sC g1 na rz.toNatClampNeg w) pa rz.toNatClampNeg cc) nv rz.toNatClampNeg v) h 38 (.int z_21)) nv (g.2.2.2.1 nv) true rz.toNatClampNeg v := hU2
  exact t_vret hB hr hT (Nat.le_of_ble_eq_true rfl) (Nat.le_of_ble_eq_true rfl) dX7_readsAct_305 ⟨z_21, sp, 1, w, cc, v, rfl, hI, hE, hM, (Or.inl ⟨rfl, hac⟩), sF_eq, (by omega), hN, (sF_k kp1 (by decide)), (sF_k kp2 (by decide)), ⟨by omega, by omega⟩, hU0, hU1, hU2⟩
set_option maxHeartbeats 4000000 in
set_option maxRecDepth 100000 in
theorem lt_m_readsAct_d0 (l : Launch) (D : va_G) (cI cZ cS cR : ClassId) (N0 : NT) (g : GS) (h : Nat) (s0 : Int32) (rz : Int32) (wt : Nat) (na : Nat) (pa : Nat) (z : Int32) (t : Nat) (ct : Nat → Int32) (nv : Nat) (r_h : g.1 h = 8) (r_na : g.1 na = 84) (n_na : g.2.2.1 na = 8) (r_pa : g.1 pa = 85) (n_pa : g.2.2.1 pa = 8) (r_wt : g.1 wt = 87) (n_wt : g.2.2.1 wt = 24) (r_t : g.1 t = 79) (n_t : g.2.2.1 t = 100) (r_nv : g.1 nv = 86) (n_nv : g.2.2.1 nv = 8) (krz : g.2.1 h 38 = .int rz) (ks0 : g.2.1 h 36 = .int s0) (kw0 : g.2.1 h 37 = .int 0) (kwt : g.2.1 h 42 = .ref wt) (kna : g.2.1 h 39 = .ref na) (kpa : g.2.1 h 40 = .ref pa) (kz : g.2.1 h 29 = .int z) (kt : g.2.1 h 28 = .ref t) (knv : g.2.1 h 41 = .ref nv) (l_rz : 0 ≤ rz.toInt) (u_rz : rz.toInt ≤ 7) (l_s0 : 0 ≤ s0.toInt) (u_s0 : s0.toInt ≤ 100) (hN_0 : PL 8 g na pa) (hWT_0 : WT g wt) (l_z : 0 ≤ z.toInt) (u_z : z.toInt ≤ 100) (hc_0 : g.2.2.2.1 t = ct) {p : Program} {e : Env} {s : State} {m : MethodId} {args : Array Value} {below : List Frame} {meth : Method} {c : Code} (hB : Tz p s m meth c args cX7_readsAct 4 RX7 D cI cZ cS cR N0) (hr : meth.sig.returnType = none)    : ∀ (g1 : GS) (w : Int32) (cc : Int32) (sp : Int32)  (H : Heap) (locs : List Loc) (ls : Array Slot), Tv D cI cZ cS cR N0 s.heap H locs g1 → Inv g1 → Ex g g1 → Sm md_m_readsAct g g1 → 0 ≤ w.toInt → w.toInt ≤ 8 → 0 ≤ cc.toInt → cc.toInt ≤ 5 → 0 ≤ sp.toInt → sp.toInt ≤ 100 → g1.2.1 h 38 = .int rz → g1.2.1 h 36 = .int sp → g1.2.1 h 37 = .int 0 → (PL 8 g1 na pa) → (g1.2.2.2.1 t = ct) → (WT g1 wt) → (UP g1 na (g.2.2.2.1 na) false rz.toNatClampNeg 0) → (UP g1 pa (g.2.2.2.1 pa) false rz.toNatClampNeg 0) → (UP g1 nv (g.2.2.2.1 nv) false rz.toNatClampNeg 0) → (cc.toInt ≤ 3 ∨ w.toInt = 5) → (w.toInt ≤ 7 ∧ wdr (txb ct z.toInt) s0.toInt = w.toInt ∧ sp.toInt ≤ z.toInt ∧ ∃ q : Int, q = wdp (txb ct z.toInt) s0.toInt ∧ ((w.toInt = 6 ∧ sp.toInt = q ∧ cc.toInt = 0) ∨ (w.toInt ≠ 6 ∧ 48 ≤ (txb ct z.toInt) q ∧ (txb ct z.toInt) q ≤ 48 + acm w.toInt ∧ sp.toInt = q + 1 ∧ cc.toInt = (txb ct z.toInt) q - 48))) → lv_has ls 4 [(1, .int w), (2, .int cc), (0, .ref h)] → W p l e (rmx 2 0 0) s m args below meth c H locs 0 0 (MQ below (tQ D cI cZ cS cR N0 (fun v g' => ∃ (z2 : Int32) (s2 : Int32) (w2 : Int32) (w_ : Int32) (c_ : Int32) (v_ : Int32), v = none ∧ Inv g' ∧ Ex g g' ∧ Sm md_m_readsAct g g' ∧ ((w2 = 1 ∧ ac (txb ct z.toInt) s0.toInt = (false, s2.toInt)) ∨ (w2 = 0 ∧ ac (txb ct z.toInt) s0.toInt = (true, s2.toInt) ∧ s2.toInt ≤ z.toInt ∧ w_.toInt = wdr (txb ct z.toInt) s0.toInt ∧ c_.toInt = acc (txb ct z.toInt) s0.toInt ∧ v_.toInt = acv (txb ct z.toInt) s0.toInt)) ∧ (g'.2.1 h 38 = .int z2) ∧ (z2.toInt = rz.toInt + 1) ∧ (PL 8 g' na pa) ∧ (g'.2.1 h 36 = .int s2) ∧ (g'.2.1 h 37 = .int w2) ∧ (0 ≤ s2.toInt ∧ s2.toInt ≤ 100) ∧ (UP g' na (g.2.2.2.1 na) true rz.toNatClampNeg w_) ∧ (UP g' pa (g.2.2.2.1 pa) true rz.toNatClampNeg c_) ∧ (UP g' nv (g.2.2.2.1 nv) true rz.toNatClampNeg v_))) args s 0 0 (fun q => N0.1 ≤ q)) (F0 m 236 ls []) := by
  have hx := hB.1
  have hb := hB.2.1
  intro g1 w cc sp H locs ls hT hI hE hM l_w u_w l_cc u_cc l_sp u_sp kp0 kp1 kp2 hN hc hWT hU0 hU1 hU2 hcw hdg hl
  have r_1 : g1.1 h = 8 := Ex.r hE r_h (by decide)
  have r_2 : g1.1 na = 84 := Ex.r hE r_na (by decide)
  have n_3 : g1.2.2.1 na = 8 := Ex.n hE r_na (by decide) n_na
  have r_4 : g1.1 pa = 85 := Ex.r hE r_pa (by decide)
  have n_5 : g1.2.2.1 pa = 8 := Ex.n hE r_pa (by decide) n_pa
  have r_6 : g1.1 wt = 87 := Ex.r hE r_wt (by decide)
  have n_7 : g1.2.2.1 wt = 24 := Ex.n hE r_wt (by decide) n_wt
  have r_8 : g1.1 t = 79 := Ex.r hE r_t (by decide)
  have n_9 : g1.2.2.1 t = 100 := Ex.n hE r_t (by decide) n_t
  have r_10 : g1.1 nv = 86 := Ex.r hE r_nv (by decide)
  have n_11 : g1.2.2.1 nv = 8 := Ex.n hE r_nv (by decide) n_nv
  have kn_12 : g1.2.1 h 42 = .ref wt := Sm.v hM r_h (by decide) rfl kwt
  have kn_13 : g1.2.1 h 39 = .ref na := Sm.v hM r_h (by decide) rfl kna
  have kn_14 : g1.2.1 h 40 = .ref pa := Sm.v hM r_h (by decide) rfl kpa
  have kn_15 : g1.2.1 h 29 = .int z := Sm.v hM r_h (by decide) rfl kz
  have kn_16 : g1.2.1 h 28 = .ref t := Sm.v hM r_h (by decide) rfl kt
  have kn_17 : g1.2.1 h 41 = .ref nv := Sm.v hM r_h (by decide) rfl knv
  obtain ⟨dq, hdq, hdd⟩ := hdg.2.2.2
  have hem : (if w.toInt = 5 then (5 : Int) else 3) = acm w.toInt := rfl
  refine lv_iconst (v := 0) hx hb dX7_readsAct_236 (by decide) ?_
  refine lv_istore_n (lv' := [(3, .int 0), (1, .int w), (2, .int cc), (0, .ref h)]) hx hb dX7_readsAct_237 rfl hl (by decide) rfl (fun ls hl => ?_)
  refine lv_iload_n hx hb dX7_readsAct_238 rfl (lv_at hl 1 rfl) ?_
  refine lv_iconst (v := 3) hx hb dX7_readsAct_239 (by decide) ?_
  refine lv_icmp_eq (tgt := 265) hx hb dX7_readsAct_240 (by decide) (fun c_18 => ?_) (fun c_18 => ?_)
  · have c_18' : w.toInt = 3 := i_eq c_18 rfl (by decide)
    have hx_ := acx_34 (T := (txb ct z.toInt)) (p := s0.toInt) (q := dq) (c' := cc.toInt) hdg.2.1 (by omega) hdq (by omega)
    exact lt_m_readsAct_e0 l D cI cZ cS cR N0 g h s0 rz wt na pa z t ct nv r_h r_na n_na r_pa n_pa r_wt n_wt r_t n_t r_nv n_nv krz ks0 kw0 kwt kna kpa kz kt knv l_rz u_rz l_s0 u_s0 hN_0 hWT_0 l_z u_z hc_0 hB hr   g1 w cc (0 : Int32) sp H locs ls hT hI hE hM (by omega) (by omega) (by omega) (by omega) (by decide) (by decide) (by omega) (by omega) kp0 kp1 kp2 hN hc hWT hU0 hU1 hU2 (by have e0_ : (0 : Int32).toInt = 0 := (by decide); omega) ⟨(ac_34 (q := dq) hdg.2.1 (by omega) hdq hem ⟨by omega, by omega⟩ (by omega)), by omega⟩ ⟨by omega, (by have q_ := hx_.1; omega), (by have q0_ : (0 : Int32).toInt = 0 := (by decide); have q_ := hx_.2; omega)⟩ (lv_sub hl [1, 2, 0, 3] rfl)
  · have c_18' : w.toInt ≠ 3 := i_ne c_18 rfl (by decide)
    refine lv_iload_n hx hb dX7_readsAct_243 rfl (lv_at hl 1 rfl) ?_
    refine lv_iconst (v := 4) hx hb dX7_readsAct_244 (by decide) ?_
    refine lv_icmp_eq (tgt := 265) hx hb dX7_readsAct_245 (by decide) (fun c_19 => ?_) (fun c_19 => ?_)
    · have c_19' : w.toInt = 4 := i_eq c_19 rfl (by decide)
      have hx_ := acx_34 (T := (txb ct z.toInt)) (p := s0.toInt) (q := dq) (c' := cc.toInt) hdg.2.1 (by omega) hdq (by omega)
      exact lt_m_readsAct_e0 l D cI cZ cS cR N0 g h s0 rz wt na pa z t ct nv r_h r_na n_na r_pa n_pa r_wt n_wt r_t n_t r_nv n_nv krz ks0 kw0 kwt kna kpa kz kt knv l_rz u_rz l_s0 u_s0 hN_0 hWT_0 l_z u_z hc_0 hB hr   g1 w cc (0 : Int32) sp H locs ls hT hI hE hM (by omega) (by omega) (by omega) (by omega) (by decide) (by decide) (by omega) (by omega) kp0 kp1 kp2 hN hc hWT hU0 hU1 hU2 (by have e0_ : (0 : Int32).toInt = 0 := (by decide); omega) ⟨(ac_34 (q := dq) hdg.2.1 (by omega) hdq hem ⟨by omega, by omega⟩ (by omega)), by omega⟩ ⟨by omega, (by have q_ := hx_.1; omega), (by have q0_ : (0 : Int32).toInt = 0 := (by decide); have q_ := hx_.2; omega)⟩ (lv_sub hl [1, 2, 0, 3] rfl)
    · have c_19' : w.toInt ≠ 4 := i_ne c_19 rfl (by decide)
      refine lv_iload_n hx hb dX7_readsAct_248 rfl (lv_at hl 1 rfl) ?_
      refine lv_bipush (v := 6) hx hb dX7_readsAct_249 (by decide) ?_
      refine lv_icmp_eq (tgt := 260) hx hb dX7_readsAct_251 (by decide) (fun c_20 => ?_) (fun c_20 => ?_)
      · have c_20' : w.toInt = 6 := i_eq c_20 rfl (by decide)
        refine lv_aload_n hx hb dX7_readsAct_260 rfl (lv_at hl 3 rfl) ?_
        refine t_callV (n := 0) (As := []) (rest := []) (ci := 7) hB hT hl.1 (m_readsWorth l D cI cZ cS cR N0 g1 hI h sp 0 z t ct r_1 r_8 n_9 kp1 kp2 kn_15 kn_16 (by have q0 : (0 : Int32).toInt = 0 := (by decide); omega) (by have q0 : (0 : Int32).toInt = 0 := (by decide); omega) (by have q0 : (0 : Int32).toInt = 0 := (by decide); omega) (by have q0 : (0 : Int32).toInt = 0 := (by decide); omega) (by have q0 : (0 : Int32).toInt = 0 := (by decide); omega) (by have q0 : (0 : Int32).toInt = 0 := (by decide); omega) hc) (ro_ci r_1 rfl) rfl k_979 k_65 k_976 k_978 k_25 (by decide +kernel) ⟨(Nat.le_of_ble_eq_true rfl), (Nat.le_of_ble_eq_true rfl)⟩ rfl (Nat.le_of_ble_eq_true rfl) ⟨(Nat.le_of_ble_eq_true rfl), (Nat.le_of_ble_eq_true rfl)⟩ dX7_readsAct_261 (fun v g_21 H locs hp hT => ?_)
        obtain ⟨r_22, s2_23, w2_24, rfl, hI, x_30, m_29, f_25, f_26, f_27, f_28⟩ := hp
        have hN : PL 8 g_21 na pa := hN.sm m_29 r_2 (by decide) rfl r_4 (by decide) rfl
        have hc : g_21.2.2.2.1 t = ct := (Sm.cf m_29 r_8 (by decide) rfl).trans hc
        have hWT : WT g_21 wt := hWT.sm m_29 r_6 (by decide) rfl
        have hU0 : UP g_21 na (g.2.2.2.1 na) false rz.toNatClampNeg 0 := hU0.sm m_29 r_2 (by decide) rfl
        have hU1 : UP g_21 pa (g.2.2.2.1 pa) false rz.toNatClampNeg 0 := hU1.sm m_29 r_4 (by decide) rfl
        have hU2 : UP g_21 nv (g.2.2.2.1 nv) false rz.toNatClampNeg 0 := hU2.sm m_29 r_10 (by decide) rfl
        have hM : Sm md_m_readsAct g g_21 := hM.tr hE (m_29.mo (fun r k h => mdle_m_readsAct_m_readsWorth h))
        have hE : Ex g g_21 := hE.tr x_30
        have r_31 : g_21.1 h = 8 := (Ex.r x_30 r_1 (by decide))
        have r_32 : g_21.1 na = 84 := (Ex.r x_30 r_2 (by decide))
        have r_33 : g_21.1 pa = 85 := (Ex.r x_30 r_4 (by decide))
        have r_34 : g_21.1 wt = 87 := (Ex.r x_30 r_6 (by decide))
        have r_35 : g_21.1 t = 79 := (Ex.r x_30 r_8 (by decide))
        have r_36 : g_21.1 nv = 86 := (Ex.r x_30 r_10 (by decide))
        have n_37 : g_21.2.2.1 na = 8 := (Ex.n x_30 r_2 (by decide) n_3)
        have n_38 : g_21.2.2.1 pa = 8 := (Ex.n x_30 r_4 (by decide) n_5)
        have n_39 : g_21.2.2.1 wt = 24 := (Ex.n x_30 r_6 (by decide) n_7)
        have n_40 : g_21.2.2.1 t = 100 := (Ex.n x_30 r_8 (by decide) n_9)
        have n_41 : g_21.2.2.1 nv = 8 := (Ex.n x_30 r_10 (by decide) n_11)
        have kn_42 : g_21.2.1 h 38 = .int rz := (Sm.v m_29 r_1 (by decide) rfl kp0)
        have kn_43 : g_21.2.1 h 42 = .ref wt := (Sm.v m_29 r_1 (by decide) rfl kn_12)
        have kn_44 : g_21.2.1 h 39 = .ref na := (Sm.v m_29 r_1 (by decide) rfl kn_13)
        have kn_45 : g_21.2.1 h 40 = .ref pa := (Sm.v m_29 r_1 (by decide) rfl kn_14)
        have kn_46 : g_21.2.1 h 29 = .int z := (Sm.v m_29 r_1 (by decide) rfl kn_15)
        have kn_47 : g_21.2.1 h 28 = .ref t := (Sm.v m_29 r_1 (by decide) rfl kn_16)
        have kn_48 : g_21.2.1 h 41 = .ref nv := (Sm.v m_29 r_1 (by decide) rfl kn_17)
        refine W.eq (g2 := F0 m 264 ls [.int r_22]) rfl ?_
        have qc_49 : (0 : Int32).toInt = 0 := (by decide)
        rcases f_26 with ⟨hx_, -⟩ | ⟨-, hv_s2_23, hp_s2_23, hs_s2_23, hr_s2_23, hw_s2_23⟩ | ⟨-, hv_s2_23, hp_s2_23, hz_s2_23, h0_s2_23, hw_s2_23⟩
        · exact absurd hx_ (by decide)
        · have ew_ : w2_24 = 1 := i_inj (hw_s2_23.trans (by decide))
          subst ew_
          refine lv_istore_n (lv' := [(3, .int r_22), (1, .int w), (2, .int cc), (0, .ref h)]) hx hb dX7_readsAct_264 rfl hl (by decide) rfl (fun ls hl => ?_)
          exact lt_m_readsAct_e1 l D cI cZ cS cR N0 g h s0 rz wt na pa z t ct nv r_h r_na n_na r_pa n_pa r_wt n_wt r_t n_t r_nv n_nv krz ks0 kw0 kwt kna kpa kz kt knv l_rz u_rz l_s0 u_s0 hN_0 hWT_0 l_z u_z hc_0 hB hr   g_21 w cc r_22 s2_23 H locs ls hT hI hE hM (by omega) (by omega) (by omega) (by omega) (by omega) (by omega) (by omega) (by omega) kn_42 f_27 f_28 hN hc hWT hU0 hU1 hU2 (by have e0_ : (0 : Int32).toInt = 0 := (by decide); omega) (ac_6n (q := sp.toInt) (by omega) (by omega) hv_s2_23 hp_s2_23) (lv_sub hl [1, 2, 0, 3] rfl)
        · have ew_ : w2_24 = 0 := i_inj (hw_s2_23.trans (by decide))
          subst ew_
          refine lv_istore_n (lv' := [(3, .int r_22), (1, .int w), (2, .int cc), (0, .ref h)]) hx hb dX7_readsAct_264 rfl hl (by decide) rfl (fun ls hl => ?_)
          have hx_ := acx_6 (T := (txb ct z.toInt)) (p := s0.toInt) (q := sp.toInt) (by omega) (by omega) hv_s2_23
          exact lt_m_readsAct_e0 l D cI cZ cS cR N0 g h s0 rz wt na pa z t ct nv r_h r_na n_na r_pa n_pa r_wt n_wt r_t n_t r_nv n_nv krz ks0 kw0 kwt kna kpa kz kt knv l_rz u_rz l_s0 u_s0 hN_0 hWT_0 l_z u_z hc_0 hB hr   g_21 w cc r_22 s2_23 H locs ls hT hI hE hM (by omega) (by omega) (by omega) (by omega) (by omega) (by omega) (by omega) (by omega) kn_42 f_27 f_28 hN hc hWT hU0 hU1 hU2 (by have e0_ : (0 : Int32).toInt = 0 := (by decide); omega) ⟨(ac_6s (q := sp.toInt) (by omega) (by omega) hv_s2_23 (by omega) hp_s2_23), by omega⟩ ⟨by omega, (by have q_ := hx_.1; omega), (by have q0_ : (0 : Int32).toInt = 0 := (by decide); have q_ := hx_.2; omega)⟩ (lv_sub hl [1, 2, 0, 3] rfl)
      · have c_20' : w.toInt ≠ 6 := i_ne c_20 rfl (by decide)
        refine lv_aload_n hx hb dX7_readsAct_254 rfl (lv_at hl 3 rfl) ?_
        refine lv_bipush (v := 32) hx hb dX7_readsAct_255 (by decide) ?_
        refine t_callV (n := 1) (As := [.int 32]) (rest := []) (ci := 7) hB hT hl.1 (m_must l D cI cZ cS cR N0 g1 hI h 32 sp 0 z t ct r_1 r_8 n_9 kp1 kp2 kn_15 kn_16 (by have q0 : (0 : Int32).toInt = 0 := (by decide); have q1 : (32 : Int32).toInt = 32 := (by decide); omega) (by have q0 : (0 : Int32).toInt = 0 := (by decide); have q1 : (32 : Int32).toInt = 32 := (by decide); omega) (by have q0 : (0 : Int32).toInt = 0 := (by decide); have q1 : (32 : Int32).toInt = 32 := (by decide); omega) (by have q0 : (0 : Int32).toInt = 0 := (by decide); have q1 : (32 : Int32).toInt = 32 := (by decide); omega) (by have q0 : (0 : Int32).toInt = 0 := (by decide); have q1 : (32 : Int32).toInt = 32 := (by decide); omega) (by have q0 : (0 : Int32).toInt = 0 := (by decide); have q1 : (32 : Int32).toInt = 32 := (by decide); omega) (by have q0 : (0 : Int32).toInt = 0 := (by decide); have q1 : (32 : Int32).toInt = 32 := (by decide); omega) hc) (ro_ci r_1 rfl) rfl k_975 k_65 k_972 k_974 k_24 (by decide +kernel) ⟨(Nat.le_of_ble_eq_true rfl), (Nat.le_of_ble_eq_true rfl)⟩ rfl (Nat.le_of_ble_eq_true rfl) ⟨(Nat.le_of_ble_eq_true rfl), (Nat.le_of_ble_eq_true rfl)⟩ dX7_readsAct_257 (fun v g_50 H locs hp hT => ?_)
        obtain ⟨s2_51, w2_52, rfl, hI, x_57, m_56, f_53, f_54, f_55⟩ := hp
        have hN : PL 8 g_50 na pa := hN.sm m_56 r_2 (by decide) rfl r_4 (by decide) rfl
        have hc : g_50.2.2.2.1 t = ct := (Sm.cf m_56 r_8 (by decide) rfl).trans hc
        have hWT : WT g_50 wt := hWT.sm m_56 r_6 (by decide) rfl
        have hU0 : UP g_50 na (g.2.2.2.1 na) false rz.toNatClampNeg 0 := hU0.sm m_56 r_2 (by decide) rfl
        have hU1 : UP g_50 pa (g.2.2.2.1 pa) false rz.toNatClampNeg 0 := hU1.sm m_56 r_4 (by decide) rfl
        have hU2 : UP g_50 nv (g.2.2.2.1 nv) false rz.toNatClampNeg 0 := hU2.sm m_56 r_10 (by decide) rfl
        have hM : Sm md_m_readsAct g g_50 := hM.tr hE (m_56.mo (fun r k h => mdle_m_readsAct_m_must h))
        have hE : Ex g g_50 := hE.tr x_57
        have r_58 : g_50.1 h = 8 := (Ex.r x_57 r_1 (by decide))
        have r_59 : g_50.1 na = 84 := (Ex.r x_57 r_2 (by decide))
        have r_60 : g_50.1 pa = 85 := (Ex.r x_57 r_4 (by decide))
        have r_61 : g_50.1 wt = 87 := (Ex.r x_57 r_6 (by decide))
        have r_62 : g_50.1 t = 79 := (Ex.r x_57 r_8 (by decide))
        have r_63 : g_50.1 nv = 86 := (Ex.r x_57 r_10 (by decide))
        have n_64 : g_50.2.2.1 na = 8 := (Ex.n x_57 r_2 (by decide) n_3)
        have n_65 : g_50.2.2.1 pa = 8 := (Ex.n x_57 r_4 (by decide) n_5)
        have n_66 : g_50.2.2.1 wt = 24 := (Ex.n x_57 r_6 (by decide) n_7)
        have n_67 : g_50.2.2.1 t = 100 := (Ex.n x_57 r_8 (by decide) n_9)
        have n_68 : g_50.2.2.1 nv = 8 := (Ex.n x_57 r_10 (by decide) n_11)
        have kn_69 : g_50.2.1 h 38 = .int rz := (Sm.v m_56 r_1 (by decide) rfl kp0)
        have kn_70 : g_50.2.1 h 42 = .ref wt := (Sm.v m_56 r_1 (by decide) rfl kn_12)
        have kn_71 : g_50.2.1 h 39 = .ref na := (Sm.v m_56 r_1 (by decide) rfl kn_13)
        have kn_72 : g_50.2.1 h 40 = .ref pa := (Sm.v m_56 r_1 (by decide) rfl kn_14)
        have kn_73 : g_50.2.1 h 29 = .int z := (Sm.v m_56 r_1 (by decide) rfl kn_15)
        have kn_74 : g_50.2.1 h 28 = .ref t := (Sm.v m_56 r_1 (by decide) rfl kn_16)
        have kn_75 : g_50.2.1 h 41 = .ref nv := (Sm.v m_56 r_1 (by decide) rfl kn_17)
        refine W.eq (g2 := F0 m 260 ls []) rfl ?_
        have qc_76 : (0 : Int32).toInt = 0 := (by decide)
        have qc_77 : (32 : Int32).toInt = 32 := (by decide)
        rcases f_53 with ⟨hx_, -⟩ | ⟨-, ht_s2_51, hs_s2_51, hz_s2_51, hw_s2_51⟩ | ⟨-, ht_s2_51, hs_s2_51, hw_s2_51⟩
        · exact absurd hx_ (by decide)
        · have ew_ : w2_52 = 0 := i_inj (hw_s2_51.trans (by decide))
          subst ew_
          refine lv_aload_n hx hb dX7_readsAct_260 rfl (lv_at hl 3 rfl) ?_
          refine t_callV (n := 0) (As := []) (rest := []) (ci := 7) hB hT hl.1 (m_readsWorth l D cI cZ cS cR N0 g_50 hI h s2_51 0 z t ct r_58 r_62 n_67 f_54 f_55 kn_73 kn_74 (by have q0 : (0 : Int32).toInt = 0 := (by decide); omega) (by have q0 : (0 : Int32).toInt = 0 := (by decide); omega) (by have q0 : (0 : Int32).toInt = 0 := (by decide); omega) (by have q0 : (0 : Int32).toInt = 0 := (by decide); omega) (by have q0 : (0 : Int32).toInt = 0 := (by decide); omega) (by have q0 : (0 : Int32).toInt = 0 := (by decide); omega) hc) (ro_ci r_58 rfl) rfl k_979 k_65 k_976 k_978 k_25 (by decide +kernel) ⟨(Nat.le_of_ble_eq_true rfl), (Nat.le_of_ble_eq_true rfl)⟩ rfl (Nat.le_of_ble_eq_true rfl) ⟨(Nat.le_of_ble_eq_true rfl), (Nat.le_of_ble_eq_true rfl)⟩ dX7_readsAct_261 (fun v g_78 H locs hp hT => ?_)
          obtain ⟨r_79, s2_80, w2_81, rfl, hI, x_87, m_86, f_82, f_83, f_84, f_85⟩ := hp
          have hN : PL 8 g_78 na pa := hN.sm m_86 r_59 (by decide) rfl r_60 (by decide) rfl
          have hc : g_78.2.2.2.1 t = ct := (Sm.cf m_86 r_62 (by decide) rfl).trans hc
          have hWT : WT g_78 wt := hWT.sm m_86 r_61 (by decide) rfl
          have hU0 : UP g_78 na (g.2.2.2.1 na) false rz.toNatClampNeg 0 := hU0.sm m_86 r_59 (by decide) rfl
          have hU1 : UP g_78 pa (g.2.2.2.1 pa) false rz.toNatClampNeg 0 := hU1.sm m_86 r_60 (by decide) rfl
          have hU2 : UP g_78 nv (g.2.2.2.1 nv) false rz.toNatClampNeg 0 := hU2.sm m_86 r_63 (by decide) rfl
          have hM : Sm md_m_readsAct g g_78 := hM.tr hE (m_86.mo (fun r k h => mdle_m_readsAct_m_readsWorth h))
          have hE : Ex g g_78 := hE.tr x_87
          have r_88 : g_78.1 h = 8 := (Ex.r x_87 r_58 (by decide))
          have r_89 : g_78.1 na = 84 := (Ex.r x_87 r_59 (by decide))
          have r_90 : g_78.1 pa = 85 := (Ex.r x_87 r_60 (by decide))
          have r_91 : g_78.1 wt = 87 := (Ex.r x_87 r_61 (by decide))
          have r_92 : g_78.1 t = 79 := (Ex.r x_87 r_62 (by decide))
          have r_93 : g_78.1 nv = 86 := (Ex.r x_87 r_63 (by decide))
          have n_94 : g_78.2.2.1 na = 8 := (Ex.n x_87 r_59 (by decide) n_64)
          have n_95 : g_78.2.2.1 pa = 8 := (Ex.n x_87 r_60 (by decide) n_65)
          have n_96 : g_78.2.2.1 wt = 24 := (Ex.n x_87 r_61 (by decide) n_66)
          have n_97 : g_78.2.2.1 t = 100 := (Ex.n x_87 r_62 (by decide) n_67)
          have n_98 : g_78.2.2.1 nv = 8 := (Ex.n x_87 r_63 (by decide) n_68)
          have kn_99 : g_78.2.1 h 38 = .int rz := (Sm.v m_86 r_58 (by decide) rfl kn_69)
          have kn_100 : g_78.2.1 h 42 = .ref wt := (Sm.v m_86 r_58 (by decide) rfl kn_70)
          have kn_101 : g_78.2.1 h 39 = .ref na := (Sm.v m_86 r_58 (by decide) rfl kn_71)
          have kn_102 : g_78.2.1 h 40 = .ref pa := (Sm.v m_86 r_58 (by decide) rfl kn_72)
          have kn_103 : g_78.2.1 h 29 = .int z := (Sm.v m_86 r_58 (by decide) rfl kn_73)
          have kn_104 : g_78.2.1 h 28 = .ref t := (Sm.v m_86 r_58 (by decide) rfl kn_74)
          have kn_105 : g_78.2.1 h 41 = .ref nv := (Sm.v m_86 r_58 (by decide) rfl kn_75)
          refine W.eq (g2 := F0 m 264 ls [.int r_79]) rfl ?_
          have qc_106 : (0 : Int32).toInt = 0 := (by decide)
          rcases f_83 with ⟨hx_, -⟩ | ⟨-, hv_s2_80, hp_s2_80, hs_s2_80, hr_s2_80, hw_s2_80⟩ | ⟨-, hv_s2_80, hp_s2_80, hz_s2_80, h0_s2_80, hw_s2_80⟩
          · exact absurd hx_ (by decide)
          · have ew_ : w2_81 = 1 := i_inj (hw_s2_80.trans (by decide))
            subst ew_
            refine lv_istore_n (lv' := [(3, .int r_79), (1, .int w), (2, .int cc), (0, .ref h)]) hx hb dX7_readsAct_264 rfl hl (by decide) rfl (fun ls hl => ?_)
            exact lt_m_readsAct_e1 l D cI cZ cS cR N0 g h s0 rz wt na pa z t ct nv r_h r_na n_na r_pa n_pa r_wt n_wt r_t n_t r_nv n_nv krz ks0 kw0 kwt kna kpa kz kt knv l_rz u_rz l_s0 u_s0 hN_0 hWT_0 l_z u_z hc_0 hB hr   g_78 w cc r_79 s2_80 H locs ls hT hI hE hM (by omega) (by omega) (by omega) (by omega) (by omega) (by omega) (by omega) (by omega) kn_99 f_84 f_85 hN hc hWT hU0 hU1 hU2 (by have e0_ : (0 : Int32).toInt = 0 := (by decide); omega) (ac_vn (q := dq) (q2 := sp.toInt) (q3 := s2_51.toInt) hdg.2.1 (by omega) (by omega) (by omega) hdq hem ⟨by omega, by omega⟩ (by omega) (by omega) (by omega) hv_s2_80 hp_s2_80) (lv_sub hl [1, 2, 0, 3] rfl)
          · have ew_ : w2_81 = 0 := i_inj (hw_s2_80.trans (by decide))
            subst ew_
            refine lv_istore_n (lv' := [(3, .int r_79), (1, .int w), (2, .int cc), (0, .ref h)]) hx hb dX7_readsAct_264 rfl hl (by decide) rfl (fun ls hl => ?_)
            have hx_ := acx_v (T := (txb ct z.toInt)) (p := s0.toInt) (q := dq) (q3 := s2_51.toInt) (c' := cc.toInt) hdg.2.1 (by omega) (by omega) hdq (by omega) (by omega) hv_s2_80
            exact lt_m_readsAct_e0 l D cI cZ cS cR N0 g h s0 rz wt na pa z t ct nv r_h r_na n_na r_pa n_pa r_wt n_wt r_t n_t r_nv n_nv krz ks0 kw0 kwt kna kpa kz kt knv l_rz u_rz l_s0 u_s0 hN_0 hWT_0 l_z u_z hc_0 hB hr   g_78 w cc r_79 s2_80 H locs ls hT hI hE hM (by omega) (by omega) (by omega) (by omega) (by omega) (by omega) (by omega) (by omega) kn_99 f_84 f_85 hN hc hWT hU0 hU1 hU2 (by have e0_ : (0 : Int32).toInt = 0 := (by decide); omega) ⟨(ac_vs (q := dq) (q2 := sp.toInt) (q3 := s2_51.toInt) hdg.2.1 (by omega) (by omega) (by omega) hdq hem ⟨by omega, by omega⟩ (by omega) (by omega) (by omega) hv_s2_80 (by omega) hp_s2_80), by omega⟩ ⟨by omega, (by have q_ := hx_.1; omega), (by have q0_ : (0 : Int32).toInt = 0 := (by decide); have q_ := hx_.2; omega)⟩ (lv_sub hl [1, 2, 0, 3] rfl)
        · have ew_ : w2_52 = 1 := i_inj (hw_s2_51.trans (by decide))
          subst ew_
          refine lv_aload_n hx hb dX7_readsAct_260 rfl (lv_at hl 3 rfl) ?_
          refine t_callV (n := 0) (As := []) (rest := []) (ci := 7) hB hT hl.1 (m_readsWorth l D cI cZ cS cR N0 g_50 hI h s2_51 1 z t ct r_58 r_62 n_67 f_54 f_55 kn_73 kn_74 (by have q0 : (1 : Int32).toInt = 1 := (by decide); omega) (by have q0 : (1 : Int32).toInt = 1 := (by decide); omega) (by have q0 : (1 : Int32).toInt = 1 := (by decide); omega) (by have q0 : (1 : Int32).toInt = 1 := (by decide); omega) (by have q0 : (1 : Int32).toInt = 1 := (by decide); omega) (by have q0 : (1 : Int32).toInt = 1 := (by decide); omega) hc) (ro_ci r_58 rfl) rfl k_979 k_65 k_976 k_978 k_25 (by decide +kernel) ⟨(Nat.le_of_ble_eq_true rfl), (Nat.le_of_ble_eq_true rfl)⟩ rfl (Nat.le_of_ble_eq_true rfl) ⟨(Nat.le_of_ble_eq_true rfl), (Nat.le_of_ble_eq_true rfl)⟩ dX7_readsAct_261 (fun v g_107 H locs hp hT => ?_)
          obtain ⟨r_108, s2_109, w2_110, rfl, hI, x_116, m_115, f_111, f_112, f_113, f_114⟩ := hp
          have hN : PL 8 g_107 na pa := hN.sm m_115 r_59 (by decide) rfl r_60 (by decide) rfl
          have hc : g_107.2.2.2.1 t = ct := (Sm.cf m_115 r_62 (by decide) rfl).trans hc
          have hWT : WT g_107 wt := hWT.sm m_115 r_61 (by decide) rfl
          have hU0 : UP g_107 na (g.2.2.2.1 na) false rz.toNatClampNeg 0 := hU0.sm m_115 r_59 (by decide) rfl
          have hU1 : UP g_107 pa (g.2.2.2.1 pa) false rz.toNatClampNeg 0 := hU1.sm m_115 r_60 (by decide) rfl
          have hU2 : UP g_107 nv (g.2.2.2.1 nv) false rz.toNatClampNeg 0 := hU2.sm m_115 r_63 (by decide) rfl
          have hM : Sm md_m_readsAct g g_107 := hM.tr hE (m_115.mo (fun r k h => mdle_m_readsAct_m_readsWorth h))
          have hE : Ex g g_107 := hE.tr x_116
          have r_117 : g_107.1 h = 8 := (Ex.r x_116 r_58 (by decide))
          have r_118 : g_107.1 na = 84 := (Ex.r x_116 r_59 (by decide))
          have r_119 : g_107.1 pa = 85 := (Ex.r x_116 r_60 (by decide))
          have r_120 : g_107.1 wt = 87 := (Ex.r x_116 r_61 (by decide))
          have r_121 : g_107.1 t = 79 := (Ex.r x_116 r_62 (by decide))
          have r_122 : g_107.1 nv = 86 := (Ex.r x_116 r_63 (by decide))
          have n_123 : g_107.2.2.1 na = 8 := (Ex.n x_116 r_59 (by decide) n_64)
          have n_124 : g_107.2.2.1 pa = 8 := (Ex.n x_116 r_60 (by decide) n_65)
          have n_125 : g_107.2.2.1 wt = 24 := (Ex.n x_116 r_61 (by decide) n_66)
          have n_126 : g_107.2.2.1 t = 100 := (Ex.n x_116 r_62 (by decide) n_67)
          have n_127 : g_107.2.2.1 nv = 8 := (Ex.n x_116 r_63 (by decide) n_68)
          have kn_128 : g_107.2.1 h 38 = .int rz := (Sm.v m_115 r_58 (by decide) rfl kn_69)
          have kn_129 : g_107.2.1 h 42 = .ref wt := (Sm.v m_115 r_58 (by decide) rfl kn_70)
          have kn_130 : g_107.2.1 h 39 = .ref na := (Sm.v m_115 r_58 (by decide) rfl kn_71)
          have kn_131 : g_107.2.1 h 40 = .ref pa := (Sm.v m_115 r_58 (by decide) rfl kn_72)
          have kn_132 : g_107.2.1 h 29 = .int z := (Sm.v m_115 r_58 (by decide) rfl kn_73)
          have kn_133 : g_107.2.1 h 28 = .ref t := (Sm.v m_115 r_58 (by decide) rfl kn_74)
          have kn_134 : g_107.2.1 h 41 = .ref nv := (Sm.v m_115 r_58 (by decide) rfl kn_75)
          refine W.eq (g2 := F0 m 264 ls [.int r_108]) rfl ?_
          have qc_135 : (1 : Int32).toInt = 1 := (by decide)
          rcases f_112 with ⟨-, hr_s2_109, hs_s2_109, hw_s2_109⟩ | ⟨hx_, -⟩ | ⟨hx_, -⟩
          rotate_left
          · exact absurd hx_ (by decide)
          · exact absurd hx_ (by decide)
          have ew_ : w2_110 = 1 := i_inj (hw_s2_109.trans (by decide))
          subst ew_
          refine lv_istore_n (lv' := [(3, .int r_108), (1, .int w), (2, .int cc), (0, .ref h)]) hx hb dX7_readsAct_264 rfl hl (by decide) rfl (fun ls hl => ?_)
          exact lt_m_readsAct_e1 l D cI cZ cS cR N0 g h s0 rz wt na pa z t ct nv r_h r_na n_na r_pa n_pa r_wt n_wt r_t n_t r_nv n_nv krz ks0 kw0 kwt kna kpa kz kt knv l_rz u_rz l_s0 u_s0 hN_0 hWT_0 l_z u_z hc_0 hB hr   g_107 w cc r_108 s2_109 H locs ls hT hI hE hM (by omega) (by omega) (by omega) (by omega) (by omega) (by omega) (by omega) (by omega) kn_128 f_113 f_114 hN hc hWT hU0 hU1 hU2 (by have e0_ : (0 : Int32).toInt = 0 := (by decide); omega) (by rw [show s2_109.toInt = sp.toInt by omega]; exact (ac_s (q := dq) (q2 := sp.toInt) hdg.2.1 (by omega) (by omega) (by omega) hdq hem ⟨by omega, by omega⟩ (by omega) (by omega))) (lv_sub hl [1, 2, 0, 3] rfl)
set_option maxHeartbeats 4000000 in
set_option maxRecDepth 100000 in
theorem lt_m_readsAct_d1 (l : Launch) (D : va_G) (cI cZ cS cR : ClassId) (N0 : NT) (g : GS) (h : Nat) (s0 : Int32) (rz : Int32) (wt : Nat) (na : Nat) (pa : Nat) (z : Int32) (t : Nat) (ct : Nat → Int32) (nv : Nat) (r_h : g.1 h = 8) (r_na : g.1 na = 84) (n_na : g.2.2.1 na = 8) (r_pa : g.1 pa = 85) (n_pa : g.2.2.1 pa = 8) (r_wt : g.1 wt = 87) (n_wt : g.2.2.1 wt = 24) (r_t : g.1 t = 79) (n_t : g.2.2.1 t = 100) (r_nv : g.1 nv = 86) (n_nv : g.2.2.1 nv = 8) (krz : g.2.1 h 38 = .int rz) (ks0 : g.2.1 h 36 = .int s0) (kw0 : g.2.1 h 37 = .int 0) (kwt : g.2.1 h 42 = .ref wt) (kna : g.2.1 h 39 = .ref na) (kpa : g.2.1 h 40 = .ref pa) (kz : g.2.1 h 29 = .int z) (kt : g.2.1 h 28 = .ref t) (knv : g.2.1 h 41 = .ref nv) (l_rz : 0 ≤ rz.toInt) (u_rz : rz.toInt ≤ 7) (l_s0 : 0 ≤ s0.toInt) (u_s0 : s0.toInt ≤ 100) (hN_0 : PL 8 g na pa) (hWT_0 : WT g wt) (l_z : 0 ≤ z.toInt) (u_z : z.toInt ≤ 100) (hc_0 : g.2.2.2.1 t = ct) {p : Program} {e : Env} {s : State} {m : MethodId} {args : Array Value} {below : List Frame} {meth : Method} {c : Code} (hB : Tz p s m meth c args cX7_readsAct 4 RX7 D cI cZ cS cR N0) (hr : meth.sig.returnType = none)    : ∀ (g1 : GS) (w : Int32) (cc : Int32) (sp : Int32)  (H : Heap) (locs : List Loc) (ls : Array Slot), Tv D cI cZ cS cR N0 s.heap H locs g1 → Inv g1 → Ex g g1 → Sm md_m_readsAct g g1 → 0 ≤ w.toInt → w.toInt ≤ 8 → 0 ≤ cc.toInt → cc.toInt ≤ 5 → 0 ≤ sp.toInt → sp.toInt ≤ 100 → g1.2.1 h 38 = .int rz → g1.2.1 h 36 = .int sp → g1.2.1 h 37 = .int 1 → (PL 8 g1 na pa) → (g1.2.2.2.1 t = ct) → (WT g1 wt) → (UP g1 na (g.2.2.2.1 na) false rz.toNatClampNeg 0) → (UP g1 pa (g.2.2.2.1 pa) false rz.toNatClampNeg 0) → (UP g1 nv (g.2.2.2.1 nv) false rz.toNatClampNeg 0) → (cc.toInt ≤ 3 ∨ w.toInt = 5) → (ac (txb ct z.toInt) s0.toInt = (false, sp.toInt)) → lv_has ls 4 [(1, .int w), (2, .int cc), (0, .ref h)] → W p l e (rmx 2 0 0) s m args below meth c H locs 0 0 (MQ below (tQ D cI cZ cS cR N0 (fun v g' => ∃ (z2 : Int32) (s2 : Int32) (w2 : Int32) (w_ : Int32) (c_ : Int32) (v_ : Int32), v = none ∧ Inv g' ∧ Ex g g' ∧ Sm md_m_readsAct g g' ∧ ((w2 = 1 ∧ ac (txb ct z.toInt) s0.toInt = (false, s2.toInt)) ∨ (w2 = 0 ∧ ac (txb ct z.toInt) s0.toInt = (true, s2.toInt) ∧ s2.toInt ≤ z.toInt ∧ w_.toInt = wdr (txb ct z.toInt) s0.toInt ∧ c_.toInt = acc (txb ct z.toInt) s0.toInt ∧ v_.toInt = acv (txb ct z.toInt) s0.toInt)) ∧ (g'.2.1 h 38 = .int z2) ∧ (z2.toInt = rz.toInt + 1) ∧ (PL 8 g' na pa) ∧ (g'.2.1 h 36 = .int s2) ∧ (g'.2.1 h 37 = .int w2) ∧ (0 ≤ s2.toInt ∧ s2.toInt ≤ 100) ∧ (UP g' na (g.2.2.2.1 na) true rz.toNatClampNeg w_) ∧ (UP g' pa (g.2.2.2.1 pa) true rz.toNatClampNeg c_) ∧ (UP g' nv (g.2.2.2.1 nv) true rz.toNatClampNeg v_))) args s 0 0 (fun q => N0.1 ≤ q)) (F0 m 236 ls []) := by
  have hx := hB.1
  have hb := hB.2.1
  intro g1 w cc sp H locs ls hT hI hE hM l_w u_w l_cc u_cc l_sp u_sp kp0 kp1 kp2 hN hc hWT hU0 hU1 hU2 hcw hac hl
  have r_1 : g1.1 h = 8 := Ex.r hE r_h (by decide)
  have r_2 : g1.1 na = 84 := Ex.r hE r_na (by decide)
  have n_3 : g1.2.2.1 na = 8 := Ex.n hE r_na (by decide) n_na
  have r_4 : g1.1 pa = 85 := Ex.r hE r_pa (by decide)
  have n_5 : g1.2.2.1 pa = 8 := Ex.n hE r_pa (by decide) n_pa
  have r_6 : g1.1 wt = 87 := Ex.r hE r_wt (by decide)
  have n_7 : g1.2.2.1 wt = 24 := Ex.n hE r_wt (by decide) n_wt
  have r_8 : g1.1 t = 79 := Ex.r hE r_t (by decide)
  have n_9 : g1.2.2.1 t = 100 := Ex.n hE r_t (by decide) n_t
  have r_10 : g1.1 nv = 86 := Ex.r hE r_nv (by decide)
  have n_11 : g1.2.2.1 nv = 8 := Ex.n hE r_nv (by decide) n_nv
  have kn_12 : g1.2.1 h 42 = .ref wt := Sm.v hM r_h (by decide) rfl kwt
  have kn_13 : g1.2.1 h 39 = .ref na := Sm.v hM r_h (by decide) rfl kna
  have kn_14 : g1.2.1 h 40 = .ref pa := Sm.v hM r_h (by decide) rfl kpa
  have kn_15 : g1.2.1 h 29 = .int z := Sm.v hM r_h (by decide) rfl kz
  have kn_16 : g1.2.1 h 28 = .ref t := Sm.v hM r_h (by decide) rfl kt
  have kn_17 : g1.2.1 h 41 = .ref nv := Sm.v hM r_h (by decide) rfl knv
  refine lv_iconst (v := 0) hx hb dX7_readsAct_236 (by decide) ?_
  refine lv_istore_n (lv' := [(3, .int 0), (1, .int w), (2, .int cc), (0, .ref h)]) hx hb dX7_readsAct_237 rfl hl (by decide) rfl (fun ls hl => ?_)
  refine lv_iload_n hx hb dX7_readsAct_238 rfl (lv_at hl 1 rfl) ?_
  refine lv_iconst (v := 3) hx hb dX7_readsAct_239 (by decide) ?_
  refine lv_icmp_eq (tgt := 265) hx hb dX7_readsAct_240 (by decide) (fun c_18 => ?_) (fun c_18 => ?_)
  · have c_18' : w.toInt = 3 := i_eq c_18 rfl (by decide)
    exact lt_m_readsAct_e1 l D cI cZ cS cR N0 g h s0 rz wt na pa z t ct nv r_h r_na n_na r_pa n_pa r_wt n_wt r_t n_t r_nv n_nv krz ks0 kw0 kwt kna kpa kz kt knv l_rz u_rz l_s0 u_s0 hN_0 hWT_0 l_z u_z hc_0 hB hr   g1 w cc (0 : Int32) sp H locs ls hT hI hE hM (by omega) (by omega) (by omega) (by omega) (by decide) (by decide) (by omega) (by omega) kp0 kp1 kp2 hN hc hWT hU0 hU1 hU2 (by have e0_ : (0 : Int32).toInt = 0 := (by decide); omega) hac (lv_sub hl [1, 2, 0, 3] rfl)
  · have c_18' : w.toInt ≠ 3 := i_ne c_18 rfl (by decide)
    refine lv_iload_n hx hb dX7_readsAct_243 rfl (lv_at hl 1 rfl) ?_
    refine lv_iconst (v := 4) hx hb dX7_readsAct_244 (by decide) ?_
    refine lv_icmp_eq (tgt := 265) hx hb dX7_readsAct_245 (by decide) (fun c_19 => ?_) (fun c_19 => ?_)
    · have c_19' : w.toInt = 4 := i_eq c_19 rfl (by decide)
      exact lt_m_readsAct_e1 l D cI cZ cS cR N0 g h s0 rz wt na pa z t ct nv r_h r_na n_na r_pa n_pa r_wt n_wt r_t n_t r_nv n_nv krz ks0 kw0 kwt kna kpa kz kt knv l_rz u_rz l_s0 u_s0 hN_0 hWT_0 l_z u_z hc_0 hB hr   g1 w cc (0 : Int32) sp H locs ls hT hI hE hM (by omega) (by omega) (by omega) (by omega) (by decide) (by decide) (by omega) (by omega) kp0 kp1 kp2 hN hc hWT hU0 hU1 hU2 (by have e0_ : (0 : Int32).toInt = 0 := (by decide); omega) hac (lv_sub hl [1, 2, 0, 3] rfl)
    · have c_19' : w.toInt ≠ 4 := i_ne c_19 rfl (by decide)
      refine lv_iload_n hx hb dX7_readsAct_248 rfl (lv_at hl 1 rfl) ?_
      refine lv_bipush (v := 6) hx hb dX7_readsAct_249 (by decide) ?_
      refine lv_icmp_eq (tgt := 260) hx hb dX7_readsAct_251 (by decide) (fun c_20 => ?_) (fun c_20 => ?_)
      · have c_20' : w.toInt = 6 := i_eq c_20 rfl (by decide)
        refine lv_aload_n hx hb dX7_readsAct_260 rfl (lv_at hl 3 rfl) ?_
        refine t_callV (n := 0) (As := []) (rest := []) (ci := 7) hB hT hl.1 (m_readsWorth l D cI cZ cS cR N0 g1 hI h sp 1 z t ct r_1 r_8 n_9 kp1 kp2 kn_15 kn_16 (by have q0 : (1 : Int32).toInt = 1 := (by decide); omega) (by have q0 : (1 : Int32).toInt = 1 := (by decide); omega) (by have q0 : (1 : Int32).toInt = 1 := (by decide); omega) (by have q0 : (1 : Int32).toInt = 1 := (by decide); omega) (by have q0 : (1 : Int32).toInt = 1 := (by decide); omega) (by have q0 : (1 : Int32).toInt = 1 := (by decide); omega) hc) (ro_ci r_1 rfl) rfl k_979 k_65 k_976 k_978 k_25 (by decide +kernel) ⟨(Nat.le_of_ble_eq_true rfl), (Nat.le_of_ble_eq_true rfl)⟩ rfl (Nat.le_of_ble_eq_true rfl) ⟨(Nat.le_of_ble_eq_true rfl), (Nat.le_of_ble_eq_true rfl)⟩ dX7_readsAct_261 (fun v g_21 H locs hp hT => ?_)
        obtain ⟨r_22, s2_23, w2_24, rfl, hI, x_30, m_29, f_25, f_26, f_27, f_28⟩ := hp
        have hN : PL 8 g_21 na pa := hN.sm m_29 r_2 (by decide) rfl r_4 (by decide) rfl
        have hc : g_21.2.2.2.1 t = ct := (Sm.cf m_29 r_8 (by decide) rfl).trans hc
        have hWT : WT g_21 wt := hWT.sm m_29 r_6 (by decide) rfl
        have hU0 : UP g_21 na (g.2.2.2.1 na) false rz.toNatClampNeg 0 := hU0.sm m_29 r_2 (by decide) rfl
        have hU1 : UP g_21 pa (g.2.2.2.1 pa) false rz.toNatClampNeg 0 := hU1.sm m_29 r_4 (by decide) rfl
        have hU2 : UP g_21 nv (g.2.2.2.1 nv) false rz.toNatClampNeg 0 := hU2.sm m_29 r_10 (by decide) rfl
        have hM : Sm md_m_readsAct g g_21 := hM.tr hE (m_29.mo (fun r k h => mdle_m_readsAct_m_readsWorth h))
        have hE : Ex g g_21 := hE.tr x_30
        have r_31 : g_21.1 h = 8 := (Ex.r x_30 r_1 (by decide))
        have r_32 : g_21.1 na = 84 := (Ex.r x_30 r_2 (by decide))
        have r_33 : g_21.1 pa = 85 := (Ex.r x_30 r_4 (by decide))
        have r_34 : g_21.1 wt = 87 := (Ex.r x_30 r_6 (by decide))
        have r_35 : g_21.1 t = 79 := (Ex.r x_30 r_8 (by decide))
        have r_36 : g_21.1 nv = 86 := (Ex.r x_30 r_10 (by decide))
        have n_37 : g_21.2.2.1 na = 8 := (Ex.n x_30 r_2 (by decide) n_3)
        have n_38 : g_21.2.2.1 pa = 8 := (Ex.n x_30 r_4 (by decide) n_5)
        have n_39 : g_21.2.2.1 wt = 24 := (Ex.n x_30 r_6 (by decide) n_7)
        have n_40 : g_21.2.2.1 t = 100 := (Ex.n x_30 r_8 (by decide) n_9)
        have n_41 : g_21.2.2.1 nv = 8 := (Ex.n x_30 r_10 (by decide) n_11)
        have kn_42 : g_21.2.1 h 38 = .int rz := (Sm.v m_29 r_1 (by decide) rfl kp0)
        have kn_43 : g_21.2.1 h 42 = .ref wt := (Sm.v m_29 r_1 (by decide) rfl kn_12)
        have kn_44 : g_21.2.1 h 39 = .ref na := (Sm.v m_29 r_1 (by decide) rfl kn_13)
        have kn_45 : g_21.2.1 h 40 = .ref pa := (Sm.v m_29 r_1 (by decide) rfl kn_14)
        have kn_46 : g_21.2.1 h 29 = .int z := (Sm.v m_29 r_1 (by decide) rfl kn_15)
        have kn_47 : g_21.2.1 h 28 = .ref t := (Sm.v m_29 r_1 (by decide) rfl kn_16)
        have kn_48 : g_21.2.1 h 41 = .ref nv := (Sm.v m_29 r_1 (by decide) rfl kn_17)
        refine W.eq (g2 := F0 m 264 ls [.int r_22]) rfl ?_
        have qc_49 : (1 : Int32).toInt = 1 := (by decide)
        rcases f_26 with ⟨-, hr_s2_23, hs_s2_23, hw_s2_23⟩ | ⟨hx_, -⟩ | ⟨hx_, -⟩
        rotate_left
        · exact absurd hx_ (by decide)
        · exact absurd hx_ (by decide)
        have ew_ : w2_24 = 1 := i_inj (hw_s2_23.trans (by decide))
        subst ew_
        refine lv_istore_n (lv' := [(3, .int r_22), (1, .int w), (2, .int cc), (0, .ref h)]) hx hb dX7_readsAct_264 rfl hl (by decide) rfl (fun ls hl => ?_)
        exact lt_m_readsAct_e1 l D cI cZ cS cR N0 g h s0 rz wt na pa z t ct nv r_h r_na n_na r_pa n_pa r_wt n_wt r_t n_t r_nv n_nv krz ks0 kw0 kwt kna kpa kz kt knv l_rz u_rz l_s0 u_s0 hN_0 hWT_0 l_z u_z hc_0 hB hr   g_21 w cc r_22 s2_23 H locs ls hT hI hE hM (by omega) (by omega) (by omega) (by omega) (by omega) (by omega) (by omega) (by omega) kn_42 f_27 f_28 hN hc hWT hU0 hU1 hU2 (by have e0_ : (0 : Int32).toInt = 0 := (by decide); omega) (by rw [show s2_23.toInt = sp.toInt by omega]; exact hac) (lv_sub hl [1, 2, 0, 3] rfl)
      · have c_20' : w.toInt ≠ 6 := i_ne c_20 rfl (by decide)
        refine lv_aload_n hx hb dX7_readsAct_254 rfl (lv_at hl 3 rfl) ?_
        refine lv_bipush (v := 32) hx hb dX7_readsAct_255 (by decide) ?_
        refine t_callV (n := 1) (As := [.int 32]) (rest := []) (ci := 7) hB hT hl.1 (m_must l D cI cZ cS cR N0 g1 hI h 32 sp 1 z t ct r_1 r_8 n_9 kp1 kp2 kn_15 kn_16 (by have q0 : (1 : Int32).toInt = 1 := (by decide); have q1 : (32 : Int32).toInt = 32 := (by decide); omega) (by have q0 : (1 : Int32).toInt = 1 := (by decide); have q1 : (32 : Int32).toInt = 32 := (by decide); omega) (by have q0 : (1 : Int32).toInt = 1 := (by decide); have q1 : (32 : Int32).toInt = 32 := (by decide); omega) (by have q0 : (1 : Int32).toInt = 1 := (by decide); have q1 : (32 : Int32).toInt = 32 := (by decide); omega) (by have q0 : (1 : Int32).toInt = 1 := (by decide); have q1 : (32 : Int32).toInt = 32 := (by decide); omega) (by have q0 : (1 : Int32).toInt = 1 := (by decide); have q1 : (32 : Int32).toInt = 32 := (by decide); omega) (by have q0 : (1 : Int32).toInt = 1 := (by decide); have q1 : (32 : Int32).toInt = 32 := (by decide); omega) hc) (ro_ci r_1 rfl) rfl k_975 k_65 k_972 k_974 k_24 (by decide +kernel) ⟨(Nat.le_of_ble_eq_true rfl), (Nat.le_of_ble_eq_true rfl)⟩ rfl (Nat.le_of_ble_eq_true rfl) ⟨(Nat.le_of_ble_eq_true rfl), (Nat.le_of_ble_eq_true rfl)⟩ dX7_readsAct_257 (fun v g_50 H locs hp hT => ?_)
        obtain ⟨s2_51, w2_52, rfl, hI, x_57, m_56, f_53, f_54, f_55⟩ := hp
        have hN : PL 8 g_50 na pa := hN.sm m_56 r_2 (by decide) rfl r_4 (by decide) rfl
        have hc : g_50.2.2.2.1 t = ct := (Sm.cf m_56 r_8 (by decide) rfl).trans hc
        have hWT : WT g_50 wt := hWT.sm m_56 r_6 (by decide) rfl
        have hU0 : UP g_50 na (g.2.2.2.1 na) false rz.toNatClampNeg 0 := hU0.sm m_56 r_2 (by decide) rfl
        have hU1 : UP g_50 pa (g.2.2.2.1 pa) false rz.toNatClampNeg 0 := hU1.sm m_56 r_4 (by decide) rfl
        have hU2 : UP g_50 nv (g.2.2.2.1 nv) false rz.toNatClampNeg 0 := hU2.sm m_56 r_10 (by decide) rfl
        have hM : Sm md_m_readsAct g g_50 := hM.tr hE (m_56.mo (fun r k h => mdle_m_readsAct_m_must h))
        have hE : Ex g g_50 := hE.tr x_57
        have r_58 : g_50.1 h = 8 := (Ex.r x_57 r_1 (by decide))
        have r_59 : g_50.1 na = 84 := (Ex.r x_57 r_2 (by decide))
        have r_60 : g_50.1 pa = 85 := (Ex.r x_57 r_4 (by decide))
        have r_61 : g_50.1 wt = 87 := (Ex.r x_57 r_6 (by decide))
        have r_62 : g_50.1 t = 79 := (Ex.r x_57 r_8 (by decide))
        have r_63 : g_50.1 nv = 86 := (Ex.r x_57 r_10 (by decide))
        have n_64 : g_50.2.2.1 na = 8 := (Ex.n x_57 r_2 (by decide) n_3)
        have n_65 : g_50.2.2.1 pa = 8 := (Ex.n x_57 r_4 (by decide) n_5)
        have n_66 : g_50.2.2.1 wt = 24 := (Ex.n x_57 r_6 (by decide) n_7)
        have n_67 : g_50.2.2.1 t = 100 := (Ex.n x_57 r_8 (by decide) n_9)
        have n_68 : g_50.2.2.1 nv = 8 := (Ex.n x_57 r_10 (by decide) n_11)
        have kn_69 : g_50.2.1 h 38 = .int rz := (Sm.v m_56 r_1 (by decide) rfl kp0)
        have kn_70 : g_50.2.1 h 42 = .ref wt := (Sm.v m_56 r_1 (by decide) rfl kn_12)
        have kn_71 : g_50.2.1 h 39 = .ref na := (Sm.v m_56 r_1 (by decide) rfl kn_13)
        have kn_72 : g_50.2.1 h 40 = .ref pa := (Sm.v m_56 r_1 (by decide) rfl kn_14)
        have kn_73 : g_50.2.1 h 29 = .int z := (Sm.v m_56 r_1 (by decide) rfl kn_15)
        have kn_74 : g_50.2.1 h 28 = .ref t := (Sm.v m_56 r_1 (by decide) rfl kn_16)
        have kn_75 : g_50.2.1 h 41 = .ref nv := (Sm.v m_56 r_1 (by decide) rfl kn_17)
        refine W.eq (g2 := F0 m 260 ls []) rfl ?_
        have qc_76 : (1 : Int32).toInt = 1 := (by decide)
        have qc_77 : (32 : Int32).toInt = 32 := (by decide)
        rcases f_53 with ⟨-, hs_s2_51, hw_s2_51⟩ | ⟨hx_, -⟩ | ⟨hx_, -⟩
        rotate_left
        · exact absurd hx_ (by decide)
        · exact absurd hx_ (by decide)
        have ew_ : w2_52 = 1 := i_inj (hw_s2_51.trans (by decide))
        subst ew_
        refine lv_aload_n hx hb dX7_readsAct_260 rfl (lv_at hl 3 rfl) ?_
        refine t_callV (n := 0) (As := []) (rest := []) (ci := 7) hB hT hl.1 (m_readsWorth l D cI cZ cS cR N0 g_50 hI h s2_51 1 z t ct r_58 r_62 n_67 f_54 f_55 kn_73 kn_74 (by have q0 : (1 : Int32).toInt = 1 := (by decide); omega) (by have q0 : (1 : Int32).toInt = 1 := (by decide); omega) (by have q0 : (1 : Int32).toInt = 1 := (by decide); omega) (by have q0 : (1 : Int32).toInt = 1 := (by decide); omega) (by have q0 : (1 : Int32).toInt = 1 := (by decide); omega) (by have q0 : (1 : Int32).toInt = 1 := (by decide); omega) hc) (ro_ci r_58 rfl) rfl k_979 k_65 k_976 k_978 k_25 (by decide +kernel) ⟨(Nat.le_of_ble_eq_true rfl), (Nat.le_of_ble_eq_true rfl)⟩ rfl (Nat.le_of_ble_eq_true rfl) ⟨(Nat.le_of_ble_eq_true rfl), (Nat.le_of_ble_eq_true rfl)⟩ dX7_readsAct_261 (fun v g_78 H locs hp hT => ?_)
        obtain ⟨r_79, s2_80, w2_81, rfl, hI, x_87, m_86, f_82, f_83, f_84, f_85⟩ := hp
        have hN : PL 8 g_78 na pa := hN.sm m_86 r_59 (by decide) rfl r_60 (by decide) rfl
        have hc : g_78.2.2.2.1 t = ct := (Sm.cf m_86 r_62 (by decide) rfl).trans hc
        have hWT : WT g_78 wt := hWT.sm m_86 r_61 (by decide) rfl
        have hU0 : UP g_78 na (g.2.2.2.1 na) false rz.toNatClampNeg 0 := hU0.sm m_86 r_59 (by decide) rfl
        have hU1 : UP g_78 pa (g.2.2.2.1 pa) false rz.toNatClampNeg 0 := hU1.sm m_86 r_60 (by decide) rfl
        have hU2 : UP g_78 nv (g.2.2.2.1 nv) false rz.toNatClampNeg 0 := hU2.sm m_86 r_63 (by decide) rfl
        have hM : Sm md_m_readsAct g g_78 := hM.tr hE (m_86.mo (fun r k h => mdle_m_readsAct_m_readsWorth h))
        have hE : Ex g g_78 := hE.tr x_87
        have r_88 : g_78.1 h = 8 := (Ex.r x_87 r_58 (by decide))
        have r_89 : g_78.1 na = 84 := (Ex.r x_87 r_59 (by decide))
        have r_90 : g_78.1 pa = 85 := (Ex.r x_87 r_60 (by decide))
        have r_91 : g_78.1 wt = 87 := (Ex.r x_87 r_61 (by decide))
        have r_92 : g_78.1 t = 79 := (Ex.r x_87 r_62 (by decide))
        have r_93 : g_78.1 nv = 86 := (Ex.r x_87 r_63 (by decide))
        have n_94 : g_78.2.2.1 na = 8 := (Ex.n x_87 r_59 (by decide) n_64)
        have n_95 : g_78.2.2.1 pa = 8 := (Ex.n x_87 r_60 (by decide) n_65)
        have n_96 : g_78.2.2.1 wt = 24 := (Ex.n x_87 r_61 (by decide) n_66)
        have n_97 : g_78.2.2.1 t = 100 := (Ex.n x_87 r_62 (by decide) n_67)
        have n_98 : g_78.2.2.1 nv = 8 := (Ex.n x_87 r_63 (by decide) n_68)
        have kn_99 : g_78.2.1 h 38 = .int rz := (Sm.v m_86 r_58 (by decide) rfl kn_69)
        have kn_100 : g_78.2.1 h 42 = .ref wt := (Sm.v m_86 r_58 (by decide) rfl kn_70)
        have kn_101 : g_78.2.1 h 39 = .ref na := (Sm.v m_86 r_58 (by decide) rfl kn_71)
        have kn_102 : g_78.2.1 h 40 = .ref pa := (Sm.v m_86 r_58 (by decide) rfl kn_72)
        have kn_103 : g_78.2.1 h 29 = .int z := (Sm.v m_86 r_58 (by decide) rfl kn_73)
        have kn_104 : g_78.2.1 h 28 = .ref t := (Sm.v m_86 r_58 (by decide) rfl kn_74)
        have kn_105 : g_78.2.1 h 41 = .ref nv := (Sm.v m_86 r_58 (by decide) rfl kn_75)
        refine W.eq (g2 := F0 m 264 ls [.int r_79]) rfl ?_
        have qc_106 : (1 : Int32).toInt = 1 := (by decide)
        rcases f_83 with ⟨-, hr_s2_80, hs_s2_80, hw_s2_80⟩ | ⟨hx_, -⟩ | ⟨hx_, -⟩
        rotate_left
        · exact absurd hx_ (by decide)
        · exact absurd hx_ (by decide)
        have ew_ : w2_81 = 1 := i_inj (hw_s2_80.trans (by decide))
        subst ew_
        refine lv_istore_n (lv' := [(3, .int r_79), (1, .int w), (2, .int cc), (0, .ref h)]) hx hb dX7_readsAct_264 rfl hl (by decide) rfl (fun ls hl => ?_)
        exact lt_m_readsAct_e1 l D cI cZ cS cR N0 g h s0 rz wt na pa z t ct nv r_h r_na n_na r_pa n_pa r_wt n_wt r_t n_t r_nv n_nv krz ks0 kw0 kwt kna kpa kz kt knv l_rz u_rz l_s0 u_s0 hN_0 hWT_0 l_z u_z hc_0 hB hr   g_78 w cc r_79 s2_80 H locs ls hT hI hE hM (by omega) (by omega) (by omega) (by omega) (by omega) (by omega) (by omega) (by omega) kn_99 f_84 f_85 hN hc hWT hU0 hU1 hU2 (by have e0_ : (0 : Int32).toInt = 0 := (by decide); omega) (by rw [show s2_80.toInt = sp.toInt by omega]; exact hac) (lv_sub hl [1, 2, 0, 3] rfl)
set_option maxHeartbeats 4000000 in
set_option maxRecDepth 100000 in
theorem lt_m_readsAct_c0 (l : Launch) (D : va_G) (cI cZ cS cR : ClassId) (N0 : NT) (g : GS) (h : Nat) (s0 : Int32) (rz : Int32) (wt : Nat) (na : Nat) (pa : Nat) (z : Int32) (t : Nat) (ct : Nat → Int32) (nv : Nat) (r_h : g.1 h = 8) (r_na : g.1 na = 84) (n_na : g.2.2.1 na = 8) (r_pa : g.1 pa = 85) (n_pa : g.2.2.1 pa = 8) (r_wt : g.1 wt = 87) (n_wt : g.2.2.1 wt = 24) (r_t : g.1 t = 79) (n_t : g.2.2.1 t = 100) (r_nv : g.1 nv = 86) (n_nv : g.2.2.1 nv = 8) (krz : g.2.1 h 38 = .int rz) (ks0 : g.2.1 h 36 = .int s0) (kw0 : g.2.1 h 37 = .int 0) (kwt : g.2.1 h 42 = .ref wt) (kna : g.2.1 h 39 = .ref na) (kpa : g.2.1 h 40 = .ref pa) (kz : g.2.1 h 29 = .int z) (kt : g.2.1 h 28 = .ref t) (knv : g.2.1 h 41 = .ref nv) (l_rz : 0 ≤ rz.toInt) (u_rz : rz.toInt ≤ 7) (l_s0 : 0 ≤ s0.toInt) (u_s0 : s0.toInt ≤ 100) (hN_0 : PL 8 g na pa) (hWT_0 : WT g wt) (l_z : 0 ≤ z.toInt) (u_z : z.toInt ≤ 100) (hc_0 : g.2.2.2.1 t = ct) {p : Program} {e : Env} {s : State} {m : MethodId} {args : Array Value} {below : List Frame} {meth : Method} {c : Code} (hB : Tz p s m meth c args cX7_readsAct 4 RX7 D cI cZ cS cR N0) (hr : meth.sig.returnType = none)    : ∀ (g1 : GS) (w : Int32) (sp : Int32)  (H : Heap) (locs : List Loc) (ls : Array Slot), Tv D cI cZ cS cR N0 s.heap H locs g1 → Inv g1 → Ex g g1 → Sm md_m_readsAct g g1 → 0 ≤ w.toInt → w.toInt ≤ 8 → 0 ≤ sp.toInt → sp.toInt ≤ 100 → g1.2.1 h 38 = .int rz → g1.2.1 h 36 = .int sp → g1.2.1 h 37 = .int 0 → (PL 8 g1 na pa) → (g1.2.2.2.1 t = ct) → (WT g1 wt) → (UP g1 na (g.2.2.2.1 na) false rz.toNatClampNeg 0) → (UP g1 pa (g.2.2.2.1 pa) false rz.toNatClampNeg 0) → (UP g1 nv (g.2.2.2.1 nv) false rz.toNatClampNeg 0) → (w.toInt ≤ 7 ∧ wdr (txb ct z.toInt) s0.toInt = w.toInt ∧ sp.toInt = wdp (txb ct z.toInt) s0.toInt ∧ sp.toInt ≤ z.toInt) → lv_has ls 4 [(1, .int w), (0, .ref h)] → W p l e (rmx 2 0 0) s m args below meth c H locs 0 0 (MQ below (tQ D cI cZ cS cR N0 (fun v g' => ∃ (z2 : Int32) (s2 : Int32) (w2 : Int32) (w_ : Int32) (c_ : Int32) (v_ : Int32), v = none ∧ Inv g' ∧ Ex g g' ∧ Sm md_m_readsAct g g' ∧ ((w2 = 1 ∧ ac (txb ct z.toInt) s0.toInt = (false, s2.toInt)) ∨ (w2 = 0 ∧ ac (txb ct z.toInt) s0.toInt = (true, s2.toInt) ∧ s2.toInt ≤ z.toInt ∧ w_.toInt = wdr (txb ct z.toInt) s0.toInt ∧ c_.toInt = acc (txb ct z.toInt) s0.toInt ∧ v_.toInt = acv (txb ct z.toInt) s0.toInt)) ∧ (g'.2.1 h 38 = .int z2) ∧ (z2.toInt = rz.toInt + 1) ∧ (PL 8 g' na pa) ∧ (g'.2.1 h 36 = .int s2) ∧ (g'.2.1 h 37 = .int w2) ∧ (0 ≤ s2.toInt ∧ s2.toInt ≤ 100) ∧ (UP g' na (g.2.2.2.1 na) true rz.toNatClampNeg w_) ∧ (UP g' pa (g.2.2.2.1 pa) true rz.toNatClampNeg c_) ∧ (UP g' nv (g.2.2.2.1 nv) true rz.toNatClampNeg v_))) args s 0 0 (fun q => N0.1 ≤ q)) (F0 m 140 ls []) := by
  have hx := hB.1
  have hb := hB.2.1
  intro g1 w sp H locs ls hT hI hE hM l_w u_w l_sp u_sp kp0 kp1 kp2 hN hc hWT hU0 hU1 hU2 hwo hl
  have r_1 : g1.1 h = 8 := Ex.r hE r_h (by decide)
  have r_2 : g1.1 na = 84 := Ex.r hE r_na (by decide)
  have n_3 : g1.2.2.1 na = 8 := Ex.n hE r_na (by decide) n_na
  have r_4 : g1.1 pa = 85 := Ex.r hE r_pa (by decide)
  have n_5 : g1.2.2.1 pa = 8 := Ex.n hE r_pa (by decide) n_pa
  have r_6 : g1.1 wt = 87 := Ex.r hE r_wt (by decide)
  have n_7 : g1.2.2.1 wt = 24 := Ex.n hE r_wt (by decide) n_wt
  have r_8 : g1.1 t = 79 := Ex.r hE r_t (by decide)
  have n_9 : g1.2.2.1 t = 100 := Ex.n hE r_t (by decide) n_t
  have r_10 : g1.1 nv = 86 := Ex.r hE r_nv (by decide)
  have n_11 : g1.2.2.1 nv = 8 := Ex.n hE r_nv (by decide) n_nv
  have kn_12 : g1.2.1 h 42 = .ref wt := Sm.v hM r_h (by decide) rfl kwt
  have kn_13 : g1.2.1 h 39 = .ref na := Sm.v hM r_h (by decide) rfl kna
  have kn_14 : g1.2.1 h 40 = .ref pa := Sm.v hM r_h (by decide) rfl kpa
  have kn_15 : g1.2.1 h 29 = .int z := Sm.v hM r_h (by decide) rfl kz
  have kn_16 : g1.2.1 h 28 = .ref t := Sm.v hM r_h (by decide) rfl kt
  have kn_17 : g1.2.1 h 41 = .ref nv := Sm.v hM r_h (by decide) rfl knv
  refine lv_iconst (v := 0) hx hb dX7_readsAct_140 (by decide) ?_
  refine lv_istore_n (lv' := [(2, .int 0), (1, .int w), (0, .ref h)]) hx hb dX7_readsAct_141 rfl hl (by decide) rfl (fun ls hl => ?_)
  refine lv_iload_n hx hb dX7_readsAct_142 rfl (lv_at hl 1 rfl) ?_
  refine lv_bipush (v := 6) hx hb dX7_readsAct_143 (by decide) ?_
  refine lv_icmp_eq (tgt := 236) hx hb dX7_readsAct_145 (by decide) (fun c_18 => ?_) (fun c_18 => ?_)
  · have c_18' : w.toInt = 6 := i_eq c_18 rfl (by decide)
    exact lt_m_readsAct_d0 l D cI cZ cS cR N0 g h s0 rz wt na pa z t ct nv r_h r_na n_na r_pa n_pa r_wt n_wt r_t n_t r_nv n_nv krz ks0 kw0 kwt kna kpa kz kt knv l_rz u_rz l_s0 u_s0 hN_0 hWT_0 l_z u_z hc_0 hB hr   g1 w (0 : Int32) sp H locs ls hT hI hE hM (by omega) (by omega) (by decide) (by decide) (by omega) (by omega) kp0 kp1 kp2 hN hc hWT hU0 hU1 hU2 (by have e0_ : (0 : Int32).toInt = 0 := (by decide); omega) ⟨by omega, hwo.2.1, by omega, sp.toInt, by omega, Or.inl ⟨by omega, rfl, by decide⟩⟩ (lv_sub hl [1, 0, 2] rfl)
  · have c_18' : w.toInt ≠ 6 := i_ne c_18 rfl (by decide)
    refine lv_aload_n hx hb dX7_readsAct_148 rfl (lv_at hl 2 rfl) ?_
    refine lv_aload_n hx hb dX7_readsAct_149 rfl (lv_at hl 2 rfl) ?_
    refine t_get (ci := 7) (v := .int 0) hB hT (ro_ci r_1 rfl) rfl 37 (by decide) k_782 kp2 dX7_readsAct_150 ?_
    refine lv_if_ne (tgt := 184) hx hb dX7_readsAct_153 (by decide) (fun c_ => absurd (by decide) c_) (fun c_ => ?_)
    refine lv_aload_n hx hb dX7_readsAct_156 rfl (lv_at hl 2 rfl) ?_
    refine lv_aload_n hx hb dX7_readsAct_157 rfl (lv_at hl 2 rfl) ?_
    refine t_get (ci := 7) (v := .int sp) hB hT (ro_ci r_1 rfl) rfl 36 (by decide) k_781 kp1 dX7_readsAct_158 ?_
    refine t_callV (n := 1) (As := [.int sp]) (rest := [.ref h]) (ci := 7) hB hT hl.1 (m_byteAt l D cI cZ cS cR N0 g1 hI h sp z t ct r_1 r_8 n_9 kn_15 kn_16 (by omega) (by omega) (by omega) (by omega) hc) (ro_ci r_1 rfl) rfl k_971 k_65 k_968 k_970 k_23 (by decide +kernel) ⟨(Nat.le_of_ble_eq_true rfl), (Nat.le_of_ble_eq_true rfl)⟩ rfl (Nat.le_of_ble_eq_true rfl) ⟨(Nat.le_of_ble_eq_true rfl), (Nat.le_of_ble_eq_true rfl)⟩ dX7_readsAct_161 (fun v g_19 H locs hp hT => ?_)
    obtain ⟨r_20, rfl, eg, f_21, f_22, f_23⟩ := hp
    rw [eg] at hT
    clear eg
    refine W.eq (g2 := F0 m 164 ls [.int r_20, .ref h]) rfl ?_
    refine lv_bipush (v := 48) hx hb dX7_readsAct_164 (by decide) ?_
    refine lv_iload_n hx hb dX7_readsAct_166 rfl (lv_at hl 1 rfl) ?_
    refine lv_iconst (v := 5) hx hb dX7_readsAct_167 (by decide) ?_
    refine lv_icmp_ne (tgt := 176) hx hb dX7_readsAct_168 (by decide) (fun c_26 => ?_) (fun c_26 => ?_)
    · have c_26' : w.toInt ≠ 5 := i_ne c_26 rfl (by decide)
      refine lv_bipush (v := 51) hx hb dX7_readsAct_176 (by decide) ?_
      refine t_callS (n := 3) (As := [.int r_20, .int 48, .int 51]) (rest := [.ref h]) hB hT hl.1 (m_in l D cI cZ cS cR N0 g1 hI r_20 48 51 ) k_954 k_65 k_952 k_953 (by decide +kernel) ⟨(Nat.le_of_ble_eq_true rfl), (Nat.le_of_ble_eq_true rfl)⟩ rfl (Nat.le_of_ble_eq_true rfl) ⟨(Nat.le_of_ble_eq_true rfl), (Nat.le_of_ble_eq_true rfl)⟩ dX7_readsAct_178 (fun v g_27 H locs hp hT => ?_)
      obtain ⟨r_28, rfl, eg, f_29⟩ := hp
      rw [eg] at hT
      clear eg
      refine W.eq (g2 := F0 m 181 ls [.int r_28, .ref h]) rfl ?_
      have qc_32 : (48 : Int32).toInt = 48 := (by decide)
      have qc_33 : (51 : Int32).toInt = 51 := (by decide)
      rcases f_29 with ⟨rfl, hw_34, hw_35⟩ | ⟨rfl, hw_36⟩
      · refine W.eq (g2 := F0 m 181 ls [.int 1, .ref h]) rfl ?_
        refine lv_if_ne (tgt := 188) hx hb dX7_readsAct_181 (by decide) (fun c_ => ?_) (fun c_ => absurd c_ (by decide))
        refine lv_iconst (v := 0) hx hb dX7_readsAct_188 (by decide) ?_
        refine t_put0 (ci := 7) (v := .int 0) hB hT (ro_ci r_1 rfl) (ro_n0 r_1 (by decide)) rfl 37 (by decide) k_782 (Or.inl rfl) rfl rfl dX7_readsAct_189 (fun H locs hT => ?_)
        have hI : Inv (sF g1 h 37 (.int 0)) := hI.sF (p_8_37 r_1 (⟨_, rfl, by decide, by decide⟩))
        have hM : Sm md_m_readsAct g (sF g1 h 37 (.int 0)) := hM.tr hE (Sm_sF (by rw [r_1]; rfl))
        have hE : Ex g (sF g1 h 37 (.int 0)) := hE
        have hN : PL 8 (sF g1 h 37 (.int 0)) na pa := hN
        have hc : (sF g1 h 37 (.int 0)).2.2.2.1 t = ct := hc
        have hWT : WT (sF g1 h 37 (.int 0)) wt := hWT
        have hU0 : UP (sF g1 h 37 (.int 0)) na (g.2.2.2.1 na) false rz.toNatClampNeg 0 := hU0
        have hU1 : UP (sF g1 h 37 (.int 0)) pa (g.2.2.2.1 pa) false rz.toNatClampNeg 0 := hU1
        have hU2 : UP (sF g1 h 37 (.int 0)) nv (g.2.2.2.1 nv) false rz.toNatClampNeg 0 := hU2
        refine lv_aload_n hx hb dX7_readsAct_192 rfl (lv_at hl 2 rfl) ?_
        refine t_get (ci := 7) (v := .int 0) hB hT (ro_ci r_1 rfl) rfl 37 (by decide) k_782 sF_eq dX7_readsAct_193 ?_
        refine lv_if_eq (tgt := 203) hx hb dX7_readsAct_196 (by decide) (fun c_ => ?_) (fun c_ => absurd (by decide) c_)
        refine lv_aload_n hx hb dX7_readsAct_203 rfl (lv_at hl 2 rfl) ?_
        refine lv_aload_n hx hb dX7_readsAct_204 rfl (lv_at hl 2 rfl) ?_
        refine t_get (ci := 7) (v := .int sp) hB hT (ro_ci r_1 rfl) rfl 36 (by decide) k_781 (sF_k kp1 (by decide)) dX7_readsAct_205 ?_
        refine t_callV (n := 1) (As := [.int sp]) (rest := []) (ci := 7) hB hT hl.1 (m_byteAt l D cI cZ cS cR N0 (sF g1 h 37 (.int 0)) hI h sp z t ct r_1 r_8 n_9 (sF_k kn_15 (by decide)) (sF_k kn_16 (by decide)) (by omega) (by omega) (by omega) (by omega) hc) (ro_ci r_1 rfl) rfl k_971 k_65 k_968 k_970 k_23 (by decide +kernel) ⟨(Nat.le_of_ble_eq_true rfl), (Nat.le_of_ble_eq_true rfl)⟩ rfl (Nat.le_of_ble_eq_true rfl) ⟨(Nat.le_of_ble_eq_true rfl), (Nat.le_of_ble_eq_true rfl)⟩ dX7_readsAct_208 (fun v g_37 H locs hp hT => ?_)
        obtain ⟨r_38, rfl, eg, f_39, f_40, f_41⟩ := hp
        rw [eg] at hT
        clear eg
        refine W.eq (g2 := F0 m 211 ls [.int r_38]) rfl ?_
        refine lv_bipush (v := 48) hx hb dX7_readsAct_211 (by decide) ?_
        refine lv_isub hx hb dX7_readsAct_213 ?_
        refine lv_topi (fun z_44 ez_44 => ?_)
        have e_z_44 : z_44.toInt = r_38.toInt - 48 := i_sub ez_44 rfl (by decide) (by omega) (by omega)
        refine lv_istore_n (lv' := [(2, .int z_44), (1, .int w), (0, .ref h)]) hx hb dX7_readsAct_214 rfl hl (by decide) rfl (fun ls hl => ?_)
        refine lv_aload_n hx hb dX7_readsAct_215 rfl (lv_at hl 2 rfl) ?_
        refine lv_dup hx hb dX7_readsAct_216 rfl ?_
        refine t_get (ci := 7) (v := .int sp) hB hT (ro_ci r_1 rfl) rfl 36 (by decide) k_781 (sF_k kp1 (by decide)) dX7_readsAct_217 ?_
        refine lv_aload_n hx hb dX7_readsAct_220 rfl (lv_at hl 2 rfl) ?_
        refine t_get (ci := 7) (v := .int 0) hB hT (ro_ci r_1 rfl) rfl 37 (by decide) k_782 sF_eq dX7_readsAct_221 ?_
        refine lv_if_eq (tgt := 231) hx hb dX7_readsAct_224 (by decide) (fun c_ => ?_) (fun c_ => absurd (by decide) c_)
        refine lv_iconst (v := 1) hx hb dX7_readsAct_231 (by decide) ?_
        refine lv_iadd hx hb dX7_readsAct_232 ?_
        refine lv_topi (fun z_45 ez_45 => ?_)
        have e_z_45 : z_45.toInt = sp.toInt + 1 := i_add ez_45 rfl (by decide) (by omega) (by omega)
        refine t_put0 (ci := 7) (v := .int z_45) hB hT (ro_ci r_1 rfl) (ro_n0 r_1 (by decide)) rfl 36 (by decide) k_781 (Or.inl rfl) rfl rfl dX7_readsAct_233 (fun H locs hT => ?_)
        have hI : Inv (sF (sF g1 h 37 (.int 0)) h 36 (.int z_45)) := hI.sF (p_8_36 r_1 (⟨_, rfl, by omega, by omega⟩))
        have hM : Sm md_m_readsAct g (sF (sF g1 h 37 (.int 0)) h 36 (.int z_45)) := hM.tr hE (Sm_sF (by rw [r_1]; rfl))
        have hE : Ex g (sF (sF g1 h 37 (.int 0)) h 36 (.int z_45)) := hE
        have hN : PL 8 (sF (sF g1 h 37 (.int 0)) h 36 (.int z_45)) na pa := hN
        have hc : (sF (sF g1 h 37 (.int 0)) h 36 (.int z_45)).2.2.2.1 t = ct := hc
        have hWT : WT (sF (sF g1 h 37 (.int 0)) h 36 (.int z_45)) wt := hWT
        have hU0 : UP (sF (sF g1 h 37 (.int 0)) h 36 (.int z_45)) na (g.2.2.2.1 na) false rz.toNatClampNeg 0 := hU0
        have hU1 : UP (sF (sF g1 h 37 (.int 0)) h 36 (.int z_45)) pa (g.2.2.2.1 pa) false rz.toNatClampNeg 0 := hU1
        have hU2 : UP (sF (sF g1 h 37 (.int 0)) h 36 (.int z_45)) nv (g.2.2.2.1 nv) false rz.toNatClampNeg 0 := hU2
        exact lt_m_readsAct_d0 l D cI cZ cS cR N0 g h s0 rz wt na pa z t ct nv r_h r_na n_na r_pa n_pa r_wt n_wt r_t n_t r_nv n_nv krz ks0 kw0 kwt kna kpa kz kt knv l_rz u_rz l_s0 u_s0 hN_0 hWT_0 l_z u_z hc_0 hB hr   (sF (sF g1 h 37 (.int 0)) h 36 (.int z_45)) w z_44 z_45 H locs ls hT hI hE hM (by omega) (by omega) (by omega) (by omega) (by omega) (by omega) (sF_k (sF_k kp0 (by decide)) (by decide)) sF_eq (sF_k sF_eq (by decide)) hN hc hWT hU0 hU1 hU2 (by have e0_ : (0 : Int32).toInt = 0 := (by decide); omega) ⟨by omega, hwo.2.1, by omega, sp.toInt, by omega, Or.inr ⟨by omega, by omega, (by have em_ : 3 = acm w.toInt := (em_3 (by omega) rfl); omega), by omega, by omega⟩⟩ (lv_sub hl [1, 0, 2] rfl)
      · refine W.eq (g2 := F0 m 181 ls [.int 0, .ref h]) rfl ?_
        refine lv_if_ne (tgt := 188) hx hb dX7_readsAct_181 (by decide) (fun c_ => absurd (by decide) c_) (fun c_ => ?_)
        refine lv_iconst (v := 1) hx hb dX7_readsAct_184 (by decide) ?_
        refine lv_goto (tgt := 189) hx hb dX7_readsAct_185 (by decide) ?_
        refine t_put0 (ci := 7) (v := .int 1) hB hT (ro_ci r_1 rfl) (ro_n0 r_1 (by decide)) rfl 37 (by decide) k_782 (Or.inl rfl) rfl rfl dX7_readsAct_189 (fun H locs hT => ?_)
        have hI : Inv (sF g1 h 37 (.int 1)) := hI.sF (p_8_37 r_1 (⟨_, rfl, by decide, by decide⟩))
        have hM : Sm md_m_readsAct g (sF g1 h 37 (.int 1)) := hM.tr hE (Sm_sF (by rw [r_1]; rfl))
        have hE : Ex g (sF g1 h 37 (.int 1)) := hE
        have hN : PL 8 (sF g1 h 37 (.int 1)) na pa := hN
        have hc : (sF g1 h 37 (.int 1)).2.2.2.1 t = ct := hc
        have hWT : WT (sF g1 h 37 (.int 1)) wt := hWT
        have hU0 : UP (sF g1 h 37 (.int 1)) na (g.2.2.2.1 na) false rz.toNatClampNeg 0 := hU0
        have hU1 : UP (sF g1 h 37 (.int 1)) pa (g.2.2.2.1 pa) false rz.toNatClampNeg 0 := hU1
        have hU2 : UP (sF g1 h 37 (.int 1)) nv (g.2.2.2.1 nv) false rz.toNatClampNeg 0 := hU2
        refine lv_aload_n hx hb dX7_readsAct_192 rfl (lv_at hl 2 rfl) ?_
        refine t_get (ci := 7) (v := .int 1) hB hT (ro_ci r_1 rfl) rfl 37 (by decide) k_782 sF_eq dX7_readsAct_193 ?_
        refine lv_if_eq (tgt := 203) hx hb dX7_readsAct_196 (by decide) (fun c_ => absurd c_ (by decide)) (fun c_ => ?_)
        refine lv_iconst (v := 0) hx hb dX7_readsAct_199 (by decide) ?_
        refine lv_goto (tgt := 214) hx hb dX7_readsAct_200 (by decide) ?_
        refine lv_istore_n (lv' := [(2, .int 0), (1, .int w), (0, .ref h)]) hx hb dX7_readsAct_214 rfl hl (by decide) rfl (fun ls hl => ?_)
        refine lv_aload_n hx hb dX7_readsAct_215 rfl (lv_at hl 2 rfl) ?_
        refine lv_dup hx hb dX7_readsAct_216 rfl ?_
        refine t_get (ci := 7) (v := .int sp) hB hT (ro_ci r_1 rfl) rfl 36 (by decide) k_781 (sF_k kp1 (by decide)) dX7_readsAct_217 ?_
        refine lv_aload_n hx hb dX7_readsAct_220 rfl (lv_at hl 2 rfl) ?_
        refine t_get (ci := 7) (v := .int 1) hB hT (ro_ci r_1 rfl) rfl 37 (by decide) k_782 sF_eq dX7_readsAct_221 ?_
        refine lv_if_eq (tgt := 231) hx hb dX7_readsAct_224 (by decide) (fun c_ => absurd c_ (by decide)) (fun c_ => ?_)
        refine lv_iconst (v := 0) hx hb dX7_readsAct_227 (by decide) ?_
        refine lv_goto (tgt := 232) hx hb dX7_readsAct_228 (by decide) ?_
        refine lv_iadd hx hb dX7_readsAct_232 ?_
        refine lv_topi (fun z_46 ez_46 => ?_)
        have e_z_46 : z_46.toInt = sp.toInt + 0 := i_add ez_46 rfl (by decide) (by omega) (by omega)
        refine t_put0 (ci := 7) (v := .int z_46) hB hT (ro_ci r_1 rfl) (ro_n0 r_1 (by decide)) rfl 36 (by decide) k_781 (Or.inl rfl) rfl rfl dX7_readsAct_233 (fun H locs hT => ?_)
        have hI : Inv (sF (sF g1 h 37 (.int 1)) h 36 (.int z_46)) := hI.sF (p_8_36 r_1 (⟨_, rfl, by omega, by omega⟩))
        have hM : Sm md_m_readsAct g (sF (sF g1 h 37 (.int 1)) h 36 (.int z_46)) := hM.tr hE (Sm_sF (by rw [r_1]; rfl))
        have hE : Ex g (sF (sF g1 h 37 (.int 1)) h 36 (.int z_46)) := hE
        have hN : PL 8 (sF (sF g1 h 37 (.int 1)) h 36 (.int z_46)) na pa := hN
        have hc : (sF (sF g1 h 37 (.int 1)) h 36 (.int z_46)).2.2.2.1 t = ct := hc
        have hWT : WT (sF (sF g1 h 37 (.int 1)) h 36 (.int z_46)) wt := hWT
        have hU0 : UP (sF (sF g1 h 37 (.int 1)) h 36 (.int z_46)) na (g.2.2.2.1 na) false rz.toNatClampNeg 0 := hU0
        have hU1 : UP (sF (sF g1 h 37 (.int 1)) h 36 (.int z_46)) pa (g.2.2.2.1 pa) false rz.toNatClampNeg 0 := hU1
        have hU2 : UP (sF (sF g1 h 37 (.int 1)) h 36 (.int z_46)) nv (g.2.2.2.1 nv) false rz.toNatClampNeg 0 := hU2
        exact lt_m_readsAct_d1 l D cI cZ cS cR N0 g h s0 rz wt na pa z t ct nv r_h r_na n_na r_pa n_pa r_wt n_wt r_t n_t r_nv n_nv krz ks0 kw0 kwt kna kpa kz kt knv l_rz u_rz l_s0 u_s0 hN_0 hWT_0 l_z u_z hc_0 hB hr   (sF (sF g1 h 37 (.int 1)) h 36 (.int z_46)) w (0 : Int32) z_46 H locs ls hT hI hE hM (by omega) (by omega) (by decide) (by decide) (by omega) (by omega) (sF_k (sF_k kp0 (by decide)) (by decide)) sF_eq (sF_k sF_eq (by decide)) hN hc hWT hU0 hU1 hU2 (by have e0_ : (0 : Int32).toInt = 0 := (by decide); omega) (by rw [show z_46.toInt = sp.toInt by omega]; exact (ac_d (m := 3) hwo.2.1 (by omega) (by omega) (by omega) (em_3 (by omega) rfl) (by omega))) (lv_sub hl [1, 0, 2] rfl)
    · have c_26' : w.toInt = 5 := i_eq c_26 rfl (by decide)
      refine lv_bipush (v := 53) hx hb dX7_readsAct_171 (by decide) ?_
      refine lv_goto (tgt := 178) hx hb dX7_readsAct_173 (by decide) ?_
      refine t_callS (n := 3) (As := [.int r_20, .int 48, .int 53]) (rest := [.ref h]) hB hT hl.1 (m_in l D cI cZ cS cR N0 g1 hI r_20 48 53 ) k_954 k_65 k_952 k_953 (by decide +kernel) ⟨(Nat.le_of_ble_eq_true rfl), (Nat.le_of_ble_eq_true rfl)⟩ rfl (Nat.le_of_ble_eq_true rfl) ⟨(Nat.le_of_ble_eq_true rfl), (Nat.le_of_ble_eq_true rfl)⟩ dX7_readsAct_178 (fun v g_47 H locs hp hT => ?_)
      obtain ⟨r_48, rfl, eg, f_49⟩ := hp
      rw [eg] at hT
      clear eg
      refine W.eq (g2 := F0 m 181 ls [.int r_48, .ref h]) rfl ?_
      have qc_52 : (48 : Int32).toInt = 48 := (by decide)
      have qc_53 : (53 : Int32).toInt = 53 := (by decide)
      rcases f_49 with ⟨rfl, hw_54, hw_55⟩ | ⟨rfl, hw_56⟩
      · refine W.eq (g2 := F0 m 181 ls [.int 1, .ref h]) rfl ?_
        refine lv_if_ne (tgt := 188) hx hb dX7_readsAct_181 (by decide) (fun c_ => ?_) (fun c_ => absurd c_ (by decide))
        refine lv_iconst (v := 0) hx hb dX7_readsAct_188 (by decide) ?_
        refine t_put0 (ci := 7) (v := .int 0) hB hT (ro_ci r_1 rfl) (ro_n0 r_1 (by decide)) rfl 37 (by decide) k_782 (Or.inl rfl) rfl rfl dX7_readsAct_189 (fun H locs hT => ?_)
        have hI : Inv (sF g1 h 37 (.int 0)) := hI.sF (p_8_37 r_1 (⟨_, rfl, by decide, by decide⟩))
        have hM : Sm md_m_readsAct g (sF g1 h 37 (.int 0)) := hM.tr hE (Sm_sF (by rw [r_1]; rfl))
        have hE : Ex g (sF g1 h 37 (.int 0)) := hE
        have hN : PL 8 (sF g1 h 37 (.int 0)) na pa := hN
        have hc : (sF g1 h 37 (.int 0)).2.2.2.1 t = ct := hc
        have hWT : WT (sF g1 h 37 (.int 0)) wt := hWT
        have hU0 : UP (sF g1 h 37 (.int 0)) na (g.2.2.2.1 na) false rz.toNatClampNeg 0 := hU0
        have hU1 : UP (sF g1 h 37 (.int 0)) pa (g.2.2.2.1 pa) false rz.toNatClampNeg 0 := hU1
        have hU2 : UP (sF g1 h 37 (.int 0)) nv (g.2.2.2.1 nv) false rz.toNatClampNeg 0 := hU2
        refine lv_aload_n hx hb dX7_readsAct_192 rfl (lv_at hl 2 rfl) ?_
        refine t_get (ci := 7) (v := .int 0) hB hT (ro_ci r_1 rfl) rfl 37 (by decide) k_782 sF_eq dX7_readsAct_193 ?_
        refine lv_if_eq (tgt := 203) hx hb dX7_readsAct_196 (by decide) (fun c_ => ?_) (fun c_ => absurd (by decide) c_)
        refine lv_aload_n hx hb dX7_readsAct_203 rfl (lv_at hl 2 rfl) ?_
        refine lv_aload_n hx hb dX7_readsAct_204 rfl (lv_at hl 2 rfl) ?_
        refine t_get (ci := 7) (v := .int sp) hB hT (ro_ci r_1 rfl) rfl 36 (by decide) k_781 (sF_k kp1 (by decide)) dX7_readsAct_205 ?_
        refine t_callV (n := 1) (As := [.int sp]) (rest := []) (ci := 7) hB hT hl.1 (m_byteAt l D cI cZ cS cR N0 (sF g1 h 37 (.int 0)) hI h sp z t ct r_1 r_8 n_9 (sF_k kn_15 (by decide)) (sF_k kn_16 (by decide)) (by omega) (by omega) (by omega) (by omega) hc) (ro_ci r_1 rfl) rfl k_971 k_65 k_968 k_970 k_23 (by decide +kernel) ⟨(Nat.le_of_ble_eq_true rfl), (Nat.le_of_ble_eq_true rfl)⟩ rfl (Nat.le_of_ble_eq_true rfl) ⟨(Nat.le_of_ble_eq_true rfl), (Nat.le_of_ble_eq_true rfl)⟩ dX7_readsAct_208 (fun v g_57 H locs hp hT => ?_)
        obtain ⟨r_58, rfl, eg, f_59, f_60, f_61⟩ := hp
        rw [eg] at hT
        clear eg
        refine W.eq (g2 := F0 m 211 ls [.int r_58]) rfl ?_
        refine lv_bipush (v := 48) hx hb dX7_readsAct_211 (by decide) ?_
        refine lv_isub hx hb dX7_readsAct_213 ?_
        refine lv_topi (fun z_64 ez_64 => ?_)
        have e_z_64 : z_64.toInt = r_58.toInt - 48 := i_sub ez_64 rfl (by decide) (by omega) (by omega)
        refine lv_istore_n (lv' := [(2, .int z_64), (1, .int w), (0, .ref h)]) hx hb dX7_readsAct_214 rfl hl (by decide) rfl (fun ls hl => ?_)
        refine lv_aload_n hx hb dX7_readsAct_215 rfl (lv_at hl 2 rfl) ?_
        refine lv_dup hx hb dX7_readsAct_216 rfl ?_
        refine t_get (ci := 7) (v := .int sp) hB hT (ro_ci r_1 rfl) rfl 36 (by decide) k_781 (sF_k kp1 (by decide)) dX7_readsAct_217 ?_
        refine lv_aload_n hx hb dX7_readsAct_220 rfl (lv_at hl 2 rfl) ?_
        refine t_get (ci := 7) (v := .int 0) hB hT (ro_ci r_1 rfl) rfl 37 (by decide) k_782 sF_eq dX7_readsAct_221 ?_
        refine lv_if_eq (tgt := 231) hx hb dX7_readsAct_224 (by decide) (fun c_ => ?_) (fun c_ => absurd (by decide) c_)
        refine lv_iconst (v := 1) hx hb dX7_readsAct_231 (by decide) ?_
        refine lv_iadd hx hb dX7_readsAct_232 ?_
        refine lv_topi (fun z_65 ez_65 => ?_)
        have e_z_65 : z_65.toInt = sp.toInt + 1 := i_add ez_65 rfl (by decide) (by omega) (by omega)
        refine t_put0 (ci := 7) (v := .int z_65) hB hT (ro_ci r_1 rfl) (ro_n0 r_1 (by decide)) rfl 36 (by decide) k_781 (Or.inl rfl) rfl rfl dX7_readsAct_233 (fun H locs hT => ?_)
        have hI : Inv (sF (sF g1 h 37 (.int 0)) h 36 (.int z_65)) := hI.sF (p_8_36 r_1 (⟨_, rfl, by omega, by omega⟩))
        have hM : Sm md_m_readsAct g (sF (sF g1 h 37 (.int 0)) h 36 (.int z_65)) := hM.tr hE (Sm_sF (by rw [r_1]; rfl))
        have hE : Ex g (sF (sF g1 h 37 (.int 0)) h 36 (.int z_65)) := hE
        have hN : PL 8 (sF (sF g1 h 37 (.int 0)) h 36 (.int z_65)) na pa := hN
        have hc : (sF (sF g1 h 37 (.int 0)) h 36 (.int z_65)).2.2.2.1 t = ct := hc
        have hWT : WT (sF (sF g1 h 37 (.int 0)) h 36 (.int z_65)) wt := hWT
        have hU0 : UP (sF (sF g1 h 37 (.int 0)) h 36 (.int z_65)) na (g.2.2.2.1 na) false rz.toNatClampNeg 0 := hU0
        have hU1 : UP (sF (sF g1 h 37 (.int 0)) h 36 (.int z_65)) pa (g.2.2.2.1 pa) false rz.toNatClampNeg 0 := hU1
        have hU2 : UP (sF (sF g1 h 37 (.int 0)) h 36 (.int z_65)) nv (g.2.2.2.1 nv) false rz.toNatClampNeg 0 := hU2
        exact lt_m_readsAct_d0 l D cI cZ cS cR N0 g h s0 rz wt na pa z t ct nv r_h r_na n_na r_pa n_pa r_wt n_wt r_t n_t r_nv n_nv krz ks0 kw0 kwt kna kpa kz kt knv l_rz u_rz l_s0 u_s0 hN_0 hWT_0 l_z u_z hc_0 hB hr   (sF (sF g1 h 37 (.int 0)) h 36 (.int z_65)) w z_64 z_65 H locs ls hT hI hE hM (by omega) (by omega) (by omega) (by omega) (by omega) (by omega) (sF_k (sF_k kp0 (by decide)) (by decide)) sF_eq (sF_k sF_eq (by decide)) hN hc hWT hU0 hU1 hU2 (by have e0_ : (0 : Int32).toInt = 0 := (by decide); omega) ⟨by omega, hwo.2.1, by omega, sp.toInt, by omega, Or.inr ⟨by omega, by omega, (by have em_ : 5 = acm w.toInt := (em_5 (by omega) rfl); omega), by omega, by omega⟩⟩ (lv_sub hl [1, 0, 2] rfl)
      · refine W.eq (g2 := F0 m 181 ls [.int 0, .ref h]) rfl ?_
        refine lv_if_ne (tgt := 188) hx hb dX7_readsAct_181 (by decide) (fun c_ => absurd (by decide) c_) (fun c_ => ?_)
        refine lv_iconst (v := 1) hx hb dX7_readsAct_184 (by decide) ?_
        refine lv_goto (tgt := 189) hx hb dX7_readsAct_185 (by decide) ?_
        refine t_put0 (ci := 7) (v := .int 1) hB hT (ro_ci r_1 rfl) (ro_n0 r_1 (by decide)) rfl 37 (by decide) k_782 (Or.inl rfl) rfl rfl dX7_readsAct_189 (fun H locs hT => ?_)
        have hI : Inv (sF g1 h 37 (.int 1)) := hI.sF (p_8_37 r_1 (⟨_, rfl, by decide, by decide⟩))
        have hM : Sm md_m_readsAct g (sF g1 h 37 (.int 1)) := hM.tr hE (Sm_sF (by rw [r_1]; rfl))
        have hE : Ex g (sF g1 h 37 (.int 1)) := hE
        have hN : PL 8 (sF g1 h 37 (.int 1)) na pa := hN
        have hc : (sF g1 h 37 (.int 1)).2.2.2.1 t = ct := hc
        have hWT : WT (sF g1 h 37 (.int 1)) wt := hWT
        have hU0 : UP (sF g1 h 37 (.int 1)) na (g.2.2.2.1 na) false rz.toNatClampNeg 0 := hU0
        have hU1 : UP (sF g1 h 37 (.int 1)) pa (g.2.2.2.1 pa) false rz.toNatClampNeg 0 := hU1
        have hU2 : UP (sF g1 h 37 (.int 1)) nv (g.2.2.2.1 nv) false rz.toNatClampNeg 0 := hU2
        refine lv_aload_n hx hb dX7_readsAct_192 rfl (lv_at hl 2 rfl) ?_
        refine t_get (ci := 7) (v := .int 1) hB hT (ro_ci r_1 rfl) rfl 37 (by decide) k_782 sF_eq dX7_readsAct_193 ?_
        refine lv_if_eq (tgt := 203) hx hb dX7_readsAct_196 (by decide) (fun c_ => absurd c_ (by decide)) (fun c_ => ?_)
        refine lv_iconst (v := 0) hx hb dX7_readsAct_199 (by decide) ?_
        refine lv_goto (tgt := 214) hx hb dX7_readsAct_200 (by decide) ?_
        refine lv_istore_n (lv' := [(2, .int 0), (1, .int w), (0, .ref h)]) hx hb dX7_readsAct_214 rfl hl (by decide) rfl (fun ls hl => ?_)
        refine lv_aload_n hx hb dX7_readsAct_215 rfl (lv_at hl 2 rfl) ?_
        refine lv_dup hx hb dX7_readsAct_216 rfl ?_
        refine t_get (ci := 7) (v := .int sp) hB hT (ro_ci r_1 rfl) rfl 36 (by decide) k_781 (sF_k kp1 (by decide)) dX7_readsAct_217 ?_
        refine lv_aload_n hx hb dX7_readsAct_220 rfl (lv_at hl 2 rfl) ?_
        refine t_get (ci := 7) (v := .int 1) hB hT (ro_ci r_1 rfl) rfl 37 (by decide) k_782 sF_eq dX7_readsAct_221 ?_
        refine lv_if_eq (tgt := 231) hx hb dX7_readsAct_224 (by decide) (fun c_ => absurd c_ (by decide)) (fun c_ => ?_)
        refine lv_iconst (v := 0) hx hb dX7_readsAct_227 (by decide) ?_
        refine lv_goto (tgt := 232) hx hb dX7_readsAct_228 (by decide) ?_
        refine lv_iadd hx hb dX7_readsAct_232 ?_
        refine lv_topi (fun z_66 ez_66 => ?_)
        have e_z_66 : z_66.toInt = sp.toInt + 0 := i_add ez_66 rfl (by decide) (by omega) (by omega)
        refine t_put0 (ci := 7) (v := .int z_66) hB hT (ro_ci r_1 rfl) (ro_n0 r_1 (by decide)) rfl 36 (by decide) k_781 (Or.inl rfl) rfl rfl dX7_readsAct_233 (fun H locs hT => ?_)
        have hI : Inv (sF (sF g1 h 37 (.int 1)) h 36 (.int z_66)) := hI.sF (p_8_36 r_1 (⟨_, rfl, by omega, by omega⟩))
        have hM : Sm md_m_readsAct g (sF (sF g1 h 37 (.int 1)) h 36 (.int z_66)) := hM.tr hE (Sm_sF (by rw [r_1]; rfl))
        have hE : Ex g (sF (sF g1 h 37 (.int 1)) h 36 (.int z_66)) := hE
        have hN : PL 8 (sF (sF g1 h 37 (.int 1)) h 36 (.int z_66)) na pa := hN
        have hc : (sF (sF g1 h 37 (.int 1)) h 36 (.int z_66)).2.2.2.1 t = ct := hc
        have hWT : WT (sF (sF g1 h 37 (.int 1)) h 36 (.int z_66)) wt := hWT
        have hU0 : UP (sF (sF g1 h 37 (.int 1)) h 36 (.int z_66)) na (g.2.2.2.1 na) false rz.toNatClampNeg 0 := hU0
        have hU1 : UP (sF (sF g1 h 37 (.int 1)) h 36 (.int z_66)) pa (g.2.2.2.1 pa) false rz.toNatClampNeg 0 := hU1
        have hU2 : UP (sF (sF g1 h 37 (.int 1)) h 36 (.int z_66)) nv (g.2.2.2.1 nv) false rz.toNatClampNeg 0 := hU2
        exact lt_m_readsAct_d1 l D cI cZ cS cR N0 g h s0 rz wt na pa z t ct nv r_h r_na n_na r_pa n_pa r_wt n_wt r_t n_t r_nv n_nv krz ks0 kw0 kwt kna kpa kz kt knv l_rz u_rz l_s0 u_s0 hN_0 hWT_0 l_z u_z hc_0 hB hr   (sF (sF g1 h 37 (.int 1)) h 36 (.int z_66)) w (0 : Int32) z_66 H locs ls hT hI hE hM (by omega) (by omega) (by decide) (by decide) (by omega) (by omega) (sF_k (sF_k kp0 (by decide)) (by decide)) sF_eq (sF_k sF_eq (by decide)) hN hc hWT hU0 hU1 hU2 (by have e0_ : (0 : Int32).toInt = 0 := (by decide); omega) (by rw [show z_66.toInt = sp.toInt by omega]; exact (ac_d (m := 5) hwo.2.1 (by omega) (by omega) (by omega) (em_5 (by omega) rfl) (by omega))) (lv_sub hl [1, 0, 2] rfl)
set_option maxHeartbeats 4000000 in
set_option maxRecDepth 100000 in
theorem lt_m_readsAct_c1 (l : Launch) (D : va_G) (cI cZ cS cR : ClassId) (N0 : NT) (g : GS) (h : Nat) (s0 : Int32) (rz : Int32) (wt : Nat) (na : Nat) (pa : Nat) (z : Int32) (t : Nat) (ct : Nat → Int32) (nv : Nat) (r_h : g.1 h = 8) (r_na : g.1 na = 84) (n_na : g.2.2.1 na = 8) (r_pa : g.1 pa = 85) (n_pa : g.2.2.1 pa = 8) (r_wt : g.1 wt = 87) (n_wt : g.2.2.1 wt = 24) (r_t : g.1 t = 79) (n_t : g.2.2.1 t = 100) (r_nv : g.1 nv = 86) (n_nv : g.2.2.1 nv = 8) (krz : g.2.1 h 38 = .int rz) (ks0 : g.2.1 h 36 = .int s0) (kw0 : g.2.1 h 37 = .int 0) (kwt : g.2.1 h 42 = .ref wt) (kna : g.2.1 h 39 = .ref na) (kpa : g.2.1 h 40 = .ref pa) (kz : g.2.1 h 29 = .int z) (kt : g.2.1 h 28 = .ref t) (knv : g.2.1 h 41 = .ref nv) (l_rz : 0 ≤ rz.toInt) (u_rz : rz.toInt ≤ 7) (l_s0 : 0 ≤ s0.toInt) (u_s0 : s0.toInt ≤ 100) (hN_0 : PL 8 g na pa) (hWT_0 : WT g wt) (l_z : 0 ≤ z.toInt) (u_z : z.toInt ≤ 100) (hc_0 : g.2.2.2.1 t = ct) {p : Program} {e : Env} {s : State} {m : MethodId} {args : Array Value} {below : List Frame} {meth : Method} {c : Code} (hB : Tz p s m meth c args cX7_readsAct 4 RX7 D cI cZ cS cR N0) (hr : meth.sig.returnType = none)    : ∀ (g1 : GS) (w : Int32) (sp : Int32)  (H : Heap) (locs : List Loc) (ls : Array Slot), Tv D cI cZ cS cR N0 s.heap H locs g1 → Inv g1 → Ex g g1 → Sm md_m_readsAct g g1 → 0 ≤ w.toInt → w.toInt ≤ 8 → 0 ≤ sp.toInt → sp.toInt ≤ 100 → g1.2.1 h 38 = .int rz → g1.2.1 h 36 = .int sp → g1.2.1 h 37 = .int 1 → (PL 8 g1 na pa) → (g1.2.2.2.1 t = ct) → (WT g1 wt) → (UP g1 na (g.2.2.2.1 na) false rz.toNatClampNeg 0) → (UP g1 pa (g.2.2.2.1 pa) false rz.toNatClampNeg 0) → (UP g1 nv (g.2.2.2.1 nv) false rz.toNatClampNeg 0) → (ac (txb ct z.toInt) s0.toInt = (false, sp.toInt)) → lv_has ls 4 [(1, .int w), (0, .ref h)] → W p l e (rmx 2 0 0) s m args below meth c H locs 0 0 (MQ below (tQ D cI cZ cS cR N0 (fun v g' => ∃ (z2 : Int32) (s2 : Int32) (w2 : Int32) (w_ : Int32) (c_ : Int32) (v_ : Int32), v = none ∧ Inv g' ∧ Ex g g' ∧ Sm md_m_readsAct g g' ∧ ((w2 = 1 ∧ ac (txb ct z.toInt) s0.toInt = (false, s2.toInt)) ∨ (w2 = 0 ∧ ac (txb ct z.toInt) s0.toInt = (true, s2.toInt) ∧ s2.toInt ≤ z.toInt ∧ w_.toInt = wdr (txb ct z.toInt) s0.toInt ∧ c_.toInt = acc (txb ct z.toInt) s0.toInt ∧ v_.toInt = acv (txb ct z.toInt) s0.toInt)) ∧ (g'.2.1 h 38 = .int z2) ∧ (z2.toInt = rz.toInt + 1) ∧ (PL 8 g' na pa) ∧ (g'.2.1 h 36 = .int s2) ∧ (g'.2.1 h 37 = .int w2) ∧ (0 ≤ s2.toInt ∧ s2.toInt ≤ 100) ∧ (UP g' na (g.2.2.2.1 na) true rz.toNatClampNeg w_) ∧ (UP g' pa (g.2.2.2.1 pa) true rz.toNatClampNeg c_) ∧ (UP g' nv (g.2.2.2.1 nv) true rz.toNatClampNeg v_))) args s 0 0 (fun q => N0.1 ≤ q)) (F0 m 140 ls []) := by
  have hx := hB.1
  have hb := hB.2.1
  intro g1 w sp H locs ls hT hI hE hM l_w u_w l_sp u_sp kp0 kp1 kp2 hN hc hWT hU0 hU1 hU2 hac hl
  have r_1 : g1.1 h = 8 := Ex.r hE r_h (by decide)
  have r_2 : g1.1 na = 84 := Ex.r hE r_na (by decide)
  have n_3 : g1.2.2.1 na = 8 := Ex.n hE r_na (by decide) n_na
  have r_4 : g1.1 pa = 85 := Ex.r hE r_pa (by decide)
  have n_5 : g1.2.2.1 pa = 8 := Ex.n hE r_pa (by decide) n_pa
  have r_6 : g1.1 wt = 87 := Ex.r hE r_wt (by decide)
  have n_7 : g1.2.2.1 wt = 24 := Ex.n hE r_wt (by decide) n_wt
  have r_8 : g1.1 t = 79 := Ex.r hE r_t (by decide)
  have n_9 : g1.2.2.1 t = 100 := Ex.n hE r_t (by decide) n_t
  have r_10 : g1.1 nv = 86 := Ex.r hE r_nv (by decide)
  have n_11 : g1.2.2.1 nv = 8 := Ex.n hE r_nv (by decide) n_nv
  have kn_12 : g1.2.1 h 42 = .ref wt := Sm.v hM r_h (by decide) rfl kwt
  have kn_13 : g1.2.1 h 39 = .ref na := Sm.v hM r_h (by decide) rfl kna
  have kn_14 : g1.2.1 h 40 = .ref pa := Sm.v hM r_h (by decide) rfl kpa
  have kn_15 : g1.2.1 h 29 = .int z := Sm.v hM r_h (by decide) rfl kz
  have kn_16 : g1.2.1 h 28 = .ref t := Sm.v hM r_h (by decide) rfl kt
  have kn_17 : g1.2.1 h 41 = .ref nv := Sm.v hM r_h (by decide) rfl knv
  refine lv_iconst (v := 0) hx hb dX7_readsAct_140 (by decide) ?_
  refine lv_istore_n (lv' := [(2, .int 0), (1, .int w), (0, .ref h)]) hx hb dX7_readsAct_141 rfl hl (by decide) rfl (fun ls hl => ?_)
  refine lv_iload_n hx hb dX7_readsAct_142 rfl (lv_at hl 1 rfl) ?_
  refine lv_bipush (v := 6) hx hb dX7_readsAct_143 (by decide) ?_
  refine lv_icmp_eq (tgt := 236) hx hb dX7_readsAct_145 (by decide) (fun c_18 => ?_) (fun c_18 => ?_)
  · have c_18' : w.toInt = 6 := i_eq c_18 rfl (by decide)
    exact lt_m_readsAct_d1 l D cI cZ cS cR N0 g h s0 rz wt na pa z t ct nv r_h r_na n_na r_pa n_pa r_wt n_wt r_t n_t r_nv n_nv krz ks0 kw0 kwt kna kpa kz kt knv l_rz u_rz l_s0 u_s0 hN_0 hWT_0 l_z u_z hc_0 hB hr   g1 w (0 : Int32) sp H locs ls hT hI hE hM (by omega) (by omega) (by decide) (by decide) (by omega) (by omega) kp0 kp1 kp2 hN hc hWT hU0 hU1 hU2 (by have e0_ : (0 : Int32).toInt = 0 := (by decide); omega) hac (lv_sub hl [1, 0, 2] rfl)
  · have c_18' : w.toInt ≠ 6 := i_ne c_18 rfl (by decide)
    refine lv_aload_n hx hb dX7_readsAct_148 rfl (lv_at hl 2 rfl) ?_
    refine lv_aload_n hx hb dX7_readsAct_149 rfl (lv_at hl 2 rfl) ?_
    refine t_get (ci := 7) (v := .int 1) hB hT (ro_ci r_1 rfl) rfl 37 (by decide) k_782 kp2 dX7_readsAct_150 ?_
    refine lv_if_ne (tgt := 184) hx hb dX7_readsAct_153 (by decide) (fun c_ => ?_) (fun c_ => absurd c_ (by decide))
    refine lv_iconst (v := 1) hx hb dX7_readsAct_184 (by decide) ?_
    refine lv_goto (tgt := 189) hx hb dX7_readsAct_185 (by decide) ?_
    refine t_put0 (ci := 7) (v := .int 1) hB hT (ro_ci r_1 rfl) (ro_n0 r_1 (by decide)) rfl 37 (by decide) k_782 (Or.inl rfl) rfl rfl dX7_readsAct_189 (fun H locs hT => ?_)
    have hI : Inv (sF g1 h 37 (.int 1)) := hI.sF (p_8_37 r_1 (⟨_, rfl, by decide, by decide⟩))
    have hM : Sm md_m_readsAct g (sF g1 h 37 (.int 1)) := hM.tr hE (Sm_sF (by rw [r_1]; rfl))
    have hE : Ex g (sF g1 h 37 (.int 1)) := hE
    have hN : PL 8 (sF g1 h 37 (.int 1)) na pa := hN
    have hc : (sF g1 h 37 (.int 1)).2.2.2.1 t = ct := hc
    have hWT : WT (sF g1 h 37 (.int 1)) wt := hWT
    have hU0 : UP (sF g1 h 37 (.int 1)) na (g.2.2.2.1 na) false rz.toNatClampNeg 0 := hU0
    have hU1 : UP (sF g1 h 37 (.int 1)) pa (g.2.2.2.1 pa) false rz.toNatClampNeg 0 := hU1
    have hU2 : UP (sF g1 h 37 (.int 1)) nv (g.2.2.2.1 nv) false rz.toNatClampNeg 0 := hU2
    refine lv_aload_n hx hb dX7_readsAct_192 rfl (lv_at hl 2 rfl) ?_
    refine t_get (ci := 7) (v := .int 1) hB hT (ro_ci r_1 rfl) rfl 37 (by decide) k_782 sF_eq dX7_readsAct_193 ?_
    refine lv_if_eq (tgt := 203) hx hb dX7_readsAct_196 (by decide) (fun c_ => absurd c_ (by decide)) (fun c_ => ?_)
    refine lv_iconst (v := 0) hx hb dX7_readsAct_199 (by decide) ?_
    refine lv_goto (tgt := 214) hx hb dX7_readsAct_200 (by decide) ?_
    refine lv_istore_n (lv' := [(2, .int 0), (1, .int w), (0, .ref h)]) hx hb dX7_readsAct_214 rfl hl (by decide) rfl (fun ls hl => ?_)
    refine lv_aload_n hx hb dX7_readsAct_215 rfl (lv_at hl 2 rfl) ?_
    refine lv_dup hx hb dX7_readsAct_216 rfl ?_
    refine t_get (ci := 7) (v := .int sp) hB hT (ro_ci r_1 rfl) rfl 36 (by decide) k_781 (sF_k kp1 (by decide)) dX7_readsAct_217 ?_
    refine lv_aload_n hx hb dX7_readsAct_220 rfl (lv_at hl 2 rfl) ?_
    refine t_get (ci := 7) (v := .int 1) hB hT (ro_ci r_1 rfl) rfl 37 (by decide) k_782 sF_eq dX7_readsAct_221 ?_
    refine lv_if_eq (tgt := 231) hx hb dX7_readsAct_224 (by decide) (fun c_ => absurd c_ (by decide)) (fun c_ => ?_)
    refine lv_iconst (v := 0) hx hb dX7_readsAct_227 (by decide) ?_
    refine lv_goto (tgt := 232) hx hb dX7_readsAct_228 (by decide) ?_
    refine lv_iadd hx hb dX7_readsAct_232 ?_
    refine lv_topi (fun z_19 ez_19 => ?_)
    have e_z_19 : z_19.toInt = sp.toInt + 0 := i_add ez_19 rfl (by decide) (by omega) (by omega)
    refine t_put0 (ci := 7) (v := .int z_19) hB hT (ro_ci r_1 rfl) (ro_n0 r_1 (by decide)) rfl 36 (by decide) k_781 (Or.inl rfl) rfl rfl dX7_readsAct_233 (fun H locs hT => ?_)
    have hI : Inv (sF (sF g1 h 37 (.int 1)) h 36 (.int z_19)) := hI.sF (p_8_36 r_1 (⟨_, rfl, by omega, by omega⟩))
    have hM : Sm md_m_readsAct g (sF (sF g1 h 37 (.int 1)) h 36 (.int z_19)) := hM.tr hE (Sm_sF (by rw [r_1]; rfl))
    have hE : Ex g (sF (sF g1 h 37 (.int 1)) h 36 (.int z_19)) := hE
    have hN : PL 8 (sF (sF g1 h 37 (.int 1)) h 36 (.int z_19)) na pa := hN
    have hc : (sF (sF g1 h 37 (.int 1)) h 36 (.int z_19)).2.2.2.1 t = ct := hc
    have hWT : WT (sF (sF g1 h 37 (.int 1)) h 36 (.int z_19)) wt := hWT
    have hU0 : UP (sF (sF g1 h 37 (.int 1)) h 36 (.int z_19)) na (g.2.2.2.1 na) false rz.toNatClampNeg 0 := hU0
    have hU1 : UP (sF (sF g1 h 37 (.int 1)) h 36 (.int z_19)) pa (g.2.2.2.1 pa) false rz.toNatClampNeg 0 := hU1
    have hU2 : UP (sF (sF g1 h 37 (.int 1)) h 36 (.int z_19)) nv (g.2.2.2.1 nv) false rz.toNatClampNeg 0 := hU2
    exact lt_m_readsAct_d1 l D cI cZ cS cR N0 g h s0 rz wt na pa z t ct nv r_h r_na n_na r_pa n_pa r_wt n_wt r_t n_t r_nv n_nv krz ks0 kw0 kwt kna kpa kz kt knv l_rz u_rz l_s0 u_s0 hN_0 hWT_0 l_z u_z hc_0 hB hr   (sF (sF g1 h 37 (.int 1)) h 36 (.int z_19)) w (0 : Int32) z_19 H locs ls hT hI hE hM (by omega) (by omega) (by decide) (by decide) (by omega) (by omega) (sF_k (sF_k kp0 (by decide)) (by decide)) sF_eq (sF_k sF_eq (by decide)) hN hc hWT hU0 hU1 hU2 (by have e0_ : (0 : Int32).toInt = 0 := (by decide); omega) (by rw [show z_19.toInt = sp.toInt by omega]; exact hac) (lv_sub hl [1, 0, 2] rfl)
set_option maxHeartbeats 4000000 in
set_option maxRecDepth 100000 in
theorem lt_m_readsAct_w8 (l : Launch) (D : va_G) (cI cZ cS cR : ClassId) (N0 : NT) (g : GS) (h : Nat) (s0 : Int32) (rz : Int32) (wt : Nat) (na : Nat) (pa : Nat) (z : Int32) (t : Nat) (ct : Nat → Int32) (nv : Nat) (r_h : g.1 h = 8) (r_na : g.1 na = 84) (n_na : g.2.2.1 na = 8) (r_pa : g.1 pa = 85) (n_pa : g.2.2.1 pa = 8) (r_wt : g.1 wt = 87) (n_wt : g.2.2.1 wt = 24) (r_t : g.1 t = 79) (n_t : g.2.2.1 t = 100) (r_nv : g.1 nv = 86) (n_nv : g.2.2.1 nv = 8) (krz : g.2.1 h 38 = .int rz) (ks0 : g.2.1 h 36 = .int s0) (kw0 : g.2.1 h 37 = .int 0) (kwt : g.2.1 h 42 = .ref wt) (kna : g.2.1 h 39 = .ref na) (kpa : g.2.1 h 40 = .ref pa) (kz : g.2.1 h 29 = .int z) (kt : g.2.1 h 28 = .ref t) (knv : g.2.1 h 41 = .ref nv) (l_rz : 0 ≤ rz.toInt) (u_rz : rz.toInt ≤ 7) (l_s0 : 0 ≤ s0.toInt) (u_s0 : s0.toInt ≤ 100) (hN_0 : PL 8 g na pa) (hWT_0 : WT g wt) (l_z : 0 ≤ z.toInt) (u_z : z.toInt ≤ 100) (hc_0 : g.2.2.2.1 t = ct) {p : Program} {e : Env} {s : State} {m : MethodId} {args : Array Value} {below : List Frame} {meth : Method} {c : Code} (hB : Tz p s m meth c args cX7_readsAct 4 RX7 D cI cZ cS cR N0) (hr : meth.sig.returnType = none)    : ∀ (g1 : GS)   (H : Heap) (locs : List Loc) (ls : Array Slot), Tv D cI cZ cS cR N0 s.heap H locs g1 → Inv g1 → Ex g g1 → Sm md_m_readsAct g g1 → g1.2.1 h 38 = .int rz → g1.2.1 h 36 = .int s0 → g1.2.1 h 37 = .int 0 → (PL 8 g1 na pa) → (g1.2.2.2.1 t = ct) → (WT g1 wt) → (UP g1 na (g.2.2.2.1 na) false rz.toNatClampNeg 0) → (UP g1 pa (g.2.2.2.1 pa) false rz.toNatClampNeg 0) → (UP g1 nv (g.2.2.2.1 nv) false rz.toNatClampNeg 0) → (¬ ((txb ct z.toInt) s0.toInt = 97 ∧ (txb ct z.toInt) (s0.toInt + 1) = 115) ∧ (txb ct z.toInt) s0.toInt ≠ 115 ∧ (txb ct z.toInt) s0.toInt ≠ 97 ∧ (txb ct z.toInt) s0.toInt ≠ 109 ∧ (txb ct z.toInt) s0.toInt ≠ 110 ∧ (txb ct z.toInt) s0.toInt ≠ 103 ∧ (txb ct z.toInt) s0.toInt ≠ 97 ∧ (txb ct z.toInt) s0.toInt ≠ 100 ∧ (txb ct z.toInt) s0.toInt ≠ 105) → lv_has ls 4 [(1, .int 8), (0, .ref h)] → W p l e (rmx 2 0 0) s m args below meth c H locs 0 0 (MQ below (tQ D cI cZ cS cR N0 (fun v g' => ∃ (z2 : Int32) (s2 : Int32) (w2 : Int32) (w_ : Int32) (c_ : Int32) (v_ : Int32), v = none ∧ Inv g' ∧ Ex g g' ∧ Sm md_m_readsAct g g' ∧ ((w2 = 1 ∧ ac (txb ct z.toInt) s0.toInt = (false, s2.toInt)) ∨ (w2 = 0 ∧ ac (txb ct z.toInt) s0.toInt = (true, s2.toInt) ∧ s2.toInt ≤ z.toInt ∧ w_.toInt = wdr (txb ct z.toInt) s0.toInt ∧ c_.toInt = acc (txb ct z.toInt) s0.toInt ∧ v_.toInt = acv (txb ct z.toInt) s0.toInt)) ∧ (g'.2.1 h 38 = .int z2) ∧ (z2.toInt = rz.toInt + 1) ∧ (PL 8 g' na pa) ∧ (g'.2.1 h 36 = .int s2) ∧ (g'.2.1 h 37 = .int w2) ∧ (0 ≤ s2.toInt ∧ s2.toInt ≤ 100) ∧ (UP g' na (g.2.2.2.1 na) true rz.toNatClampNeg w_) ∧ (UP g' pa (g.2.2.2.1 pa) true rz.toNatClampNeg c_) ∧ (UP g' nv (g.2.2.2.1 nv) true rz.toNatClampNeg v_))) args s 0 0 (fun q => N0.1 ≤ q)) (F0 m 34 ls []) := by
  have hx := hB.1
  have hb := hB.2.1
  intro g1 H locs ls hT hI hE hM kp0 kp1 kp2 hN hc hWT hU0 hU1 hU2 hS hl
  have r_1 : g1.1 h = 8 := Ex.r hE r_h (by decide)
  have r_2 : g1.1 na = 84 := Ex.r hE r_na (by decide)
  have n_3 : g1.2.2.1 na = 8 := Ex.n hE r_na (by decide) n_na
  have r_4 : g1.1 pa = 85 := Ex.r hE r_pa (by decide)
  have n_5 : g1.2.2.1 pa = 8 := Ex.n hE r_pa (by decide) n_pa
  have r_6 : g1.1 wt = 87 := Ex.r hE r_wt (by decide)
  have n_7 : g1.2.2.1 wt = 24 := Ex.n hE r_wt (by decide) n_wt
  have r_8 : g1.1 t = 79 := Ex.r hE r_t (by decide)
  have n_9 : g1.2.2.1 t = 100 := Ex.n hE r_t (by decide) n_t
  have r_10 : g1.1 nv = 86 := Ex.r hE r_nv (by decide)
  have n_11 : g1.2.2.1 nv = 8 := Ex.n hE r_nv (by decide) n_nv
  have kn_12 : g1.2.1 h 42 = .ref wt := Sm.v hM r_h (by decide) rfl kwt
  have kn_13 : g1.2.1 h 39 = .ref na := Sm.v hM r_h (by decide) rfl kna
  have kn_14 : g1.2.1 h 40 = .ref pa := Sm.v hM r_h (by decide) rfl kpa
  have kn_15 : g1.2.1 h 29 = .int z := Sm.v hM r_h (by decide) rfl kz
  have kn_16 : g1.2.1 h 28 = .ref t := Sm.v hM r_h (by decide) rfl kt
  have kn_17 : g1.2.1 h 41 = .ref nv := Sm.v hM r_h (by decide) rfl knv
  refine lv_iload_n hx hb dX7_readsAct_34 rfl (lv_at hl 0 rfl) ?_
  refine lv_bipush (v := 8) hx hb dX7_readsAct_35 (by decide) ?_
  refine lv_icmp_ge (tgt := 65) hx hb dX7_readsAct_37 (by decide) (fun c_ => ?_) (fun c_ => absurd (by decide) c_)
  refine lv_aload_n hx hb dX7_readsAct_65 rfl (lv_at hl 1 rfl) ?_
  refine lv_aload_n hx hb dX7_readsAct_66 rfl (lv_at hl 1 rfl) ?_
  refine t_get (ci := 7) (v := .int 0) hB hT (ro_ci r_1 rfl) rfl 37 (by decide) k_782 kp2 dX7_readsAct_67 ?_
  refine lv_if_ne (tgt := 79) hx hb dX7_readsAct_70 (by decide) (fun c_ => absurd (by decide) c_) (fun c_ => ?_)
  refine lv_iload_n hx hb dX7_readsAct_73 rfl (lv_at hl 0 rfl) ?_
  refine lv_bipush (v := 8) hx hb dX7_readsAct_74 (by decide) ?_
  refine lv_icmp_ne (tgt := 83) hx hb dX7_readsAct_76 (by decide) (fun c_ => absurd (by decide) c_) (fun c_ => ?_)
  refine lv_iconst (v := 1) hx hb dX7_readsAct_79 (by decide) ?_
  refine lv_goto (tgt := 84) hx hb dX7_readsAct_80 (by decide) ?_
  refine t_put0 (ci := 7) (v := .int 1) hB hT (ro_ci r_1 rfl) (ro_n0 r_1 (by decide)) rfl 37 (by decide) k_782 (Or.inl rfl) rfl rfl dX7_readsAct_84 (fun H locs hT => ?_)
  have hI : Inv (sF g1 h 37 (.int 1)) := hI.sF (p_8_37 r_1 (⟨_, rfl, by decide, by decide⟩))
  have hM : Sm md_m_readsAct g (sF g1 h 37 (.int 1)) := hM.tr hE (Sm_sF (by rw [r_1]; rfl))
  have hE : Ex g (sF g1 h 37 (.int 1)) := hE
  have hN : PL 8 (sF g1 h 37 (.int 1)) na pa := hN
  have hc : (sF g1 h 37 (.int 1)).2.2.2.1 t = ct := hc
  have hWT : WT (sF g1 h 37 (.int 1)) wt := hWT
  have hU0 : UP (sF g1 h 37 (.int 1)) na (g.2.2.2.1 na) false rz.toNatClampNeg 0 := hU0
  have hU1 : UP (sF g1 h 37 (.int 1)) pa (g.2.2.2.1 pa) false rz.toNatClampNeg 0 := hU1
  have hU2 : UP (sF g1 h 37 (.int 1)) nv (g.2.2.2.1 nv) false rz.toNatClampNeg 0 := hU2
  refine lv_iconst (v := 0) hx hb dX7_readsAct_87 (by decide) ?_
  refine lv_istore_n (lv' := [(2, .int 0), (1, .int 8), (0, .ref h)]) hx hb dX7_readsAct_88 rfl hl (by decide) rfl (fun ls hl => ?_)
  refine lv_iload_n hx hb dX7_readsAct_89 rfl (lv_at hl 0 rfl) ?_
  refine lv_iconst (v := 3) hx hb dX7_readsAct_90 (by decide) ?_
  refine lv_icmp_ge (tgt := 134) hx hb dX7_readsAct_91 (by decide) (fun c_ => absurd c_ (by decide)) (fun c_ => ?_)
  refine lv_aload_n hx hb dX7_readsAct_94 rfl (lv_at hl 2 rfl) ?_
  refine t_get (ci := 7) (v := .int 1) hB hT (ro_ci r_1 rfl) rfl 37 (by decide) k_782 sF_eq dX7_readsAct_95 ?_
  refine lv_if_ne (tgt := 134) hx hb dX7_readsAct_98 (by decide) (fun c_ => ?_) (fun c_ => absurd c_ (by decide))
  refine lv_aload_n hx hb dX7_readsAct_134 rfl (lv_at hl 2 rfl) ?_
  refine lv_bipush (v := 32) hx hb dX7_readsAct_135 (by decide) ?_
  refine t_callV (n := 1) (As := [.int 32]) (rest := []) (ci := 7) hB hT hl.1 (m_must l D cI cZ cS cR N0 (sF g1 h 37 (.int 1)) hI h 32 s0 1 z t ct r_1 r_8 n_9 (sF_k kp1 (by decide)) sF_eq (sF_k kn_15 (by decide)) (sF_k kn_16 (by decide)) (by have q0 : (1 : Int32).toInt = 1 := (by decide); have q1 : (32 : Int32).toInt = 32 := (by decide); omega) (by have q0 : (1 : Int32).toInt = 1 := (by decide); have q1 : (32 : Int32).toInt = 32 := (by decide); omega) (by have q0 : (1 : Int32).toInt = 1 := (by decide); have q1 : (32 : Int32).toInt = 32 := (by decide); omega) (by have q0 : (1 : Int32).toInt = 1 := (by decide); have q1 : (32 : Int32).toInt = 32 := (by decide); omega) (by have q0 : (1 : Int32).toInt = 1 := (by decide); have q1 : (32 : Int32).toInt = 32 := (by decide); omega) (by have q0 : (1 : Int32).toInt = 1 := (by decide); have q1 : (32 : Int32).toInt = 32 := (by decide); omega) (by have q0 : (1 : Int32).toInt = 1 := (by decide); have q1 : (32 : Int32).toInt = 32 := (by decide); omega) hc) (ro_ci r_1 rfl) rfl k_975 k_65 k_972 k_974 k_24 (by decide +kernel) ⟨(Nat.le_of_ble_eq_true rfl), (Nat.le_of_ble_eq_true rfl)⟩ rfl (Nat.le_of_ble_eq_true rfl) ⟨(Nat.le_of_ble_eq_true rfl), (Nat.le_of_ble_eq_true rfl)⟩ dX7_readsAct_137 (fun v g_18 H locs hp hT => ?_)
  obtain ⟨s2_19, w2_20, rfl, hI, x_25, m_24, f_21, f_22, f_23⟩ := hp
  have hN : PL 8 g_18 na pa := hN.sm m_24 r_2 (by decide) rfl r_4 (by decide) rfl
  have hc : g_18.2.2.2.1 t = ct := (Sm.cf m_24 r_8 (by decide) rfl).trans hc
  have hWT : WT g_18 wt := hWT.sm m_24 r_6 (by decide) rfl
  have hU0 : UP g_18 na (g.2.2.2.1 na) false rz.toNatClampNeg 0 := hU0.sm m_24 r_2 (by decide) rfl
  have hU1 : UP g_18 pa (g.2.2.2.1 pa) false rz.toNatClampNeg 0 := hU1.sm m_24 r_4 (by decide) rfl
  have hU2 : UP g_18 nv (g.2.2.2.1 nv) false rz.toNatClampNeg 0 := hU2.sm m_24 r_10 (by decide) rfl
  have hM : Sm md_m_readsAct g g_18 := hM.tr hE (m_24.mo (fun r k h => mdle_m_readsAct_m_must h))
  have hE : Ex g g_18 := hE.tr x_25
  have r_26 : g_18.1 h = 8 := (Ex.r x_25 r_1 (by decide))
  have r_27 : g_18.1 na = 84 := (Ex.r x_25 r_2 (by decide))
  have r_28 : g_18.1 pa = 85 := (Ex.r x_25 r_4 (by decide))
  have r_29 : g_18.1 wt = 87 := (Ex.r x_25 r_6 (by decide))
  have r_30 : g_18.1 t = 79 := (Ex.r x_25 r_8 (by decide))
  have r_31 : g_18.1 nv = 86 := (Ex.r x_25 r_10 (by decide))
  have n_32 : g_18.2.2.1 na = 8 := (Ex.n x_25 r_2 (by decide) n_3)
  have n_33 : g_18.2.2.1 pa = 8 := (Ex.n x_25 r_4 (by decide) n_5)
  have n_34 : g_18.2.2.1 wt = 24 := (Ex.n x_25 r_6 (by decide) n_7)
  have n_35 : g_18.2.2.1 t = 100 := (Ex.n x_25 r_8 (by decide) n_9)
  have n_36 : g_18.2.2.1 nv = 8 := (Ex.n x_25 r_10 (by decide) n_11)
  have kn_37 : g_18.2.1 h 38 = .int rz := (Sm.v m_24 r_1 (by decide) rfl (sF_k kp0 (by decide)))
  have kn_38 : g_18.2.1 h 42 = .ref wt := (Sm.v m_24 r_1 (by decide) rfl (sF_k kn_12 (by decide)))
  have kn_39 : g_18.2.1 h 39 = .ref na := (Sm.v m_24 r_1 (by decide) rfl (sF_k kn_13 (by decide)))
  have kn_40 : g_18.2.1 h 40 = .ref pa := (Sm.v m_24 r_1 (by decide) rfl (sF_k kn_14 (by decide)))
  have kn_41 : g_18.2.1 h 29 = .int z := (Sm.v m_24 r_1 (by decide) rfl (sF_k kn_15 (by decide)))
  have kn_42 : g_18.2.1 h 28 = .ref t := (Sm.v m_24 r_1 (by decide) rfl (sF_k kn_16 (by decide)))
  have kn_43 : g_18.2.1 h 41 = .ref nv := (Sm.v m_24 r_1 (by decide) rfl (sF_k kn_17 (by decide)))
  refine W.eq (g2 := F0 m 140 ls []) rfl ?_
  have qc_44 : (1 : Int32).toInt = 1 := (by decide)
  have qc_45 : (32 : Int32).toInt = 32 := (by decide)
  rcases f_21 with ⟨-, hs_s2_19, hw_s2_19⟩ | ⟨hx_, -⟩ | ⟨hx_, -⟩
  rotate_left
  · exact absurd hx_ (by decide)
  · exact absurd hx_ (by decide)
  have ew_ : w2_20 = 1 := i_inj (hw_s2_19.trans (by decide))
  subst ew_
  have hv_ := wd_f (T := (txb ct z.toInt)) (p := s0.toInt) (ws_8 (by omega) (by omega) (by omega) (by omega) (by omega) (by omega) (by omega)) (Or.inl rfl)
  have hq8_ : qj (txb ct z.toInt) s0.toInt 8 = 0 := rfl
  exact lt_m_readsAct_c1 l D cI cZ cS cR N0 g h s0 rz wt na pa z t ct nv r_h r_na n_na r_pa n_pa r_wt n_wt r_t n_t r_nv n_nv krz ks0 kw0 kwt kna kpa kz kt knv l_rz u_rz l_s0 u_s0 hN_0 hWT_0 l_z u_z hc_0 hB hr   g_18 (8 : Int32) s2_19 H locs ls hT hI hE hM (by decide) (by decide) (by omega) (by omega) kn_37 f_22 f_23 hN hc hWT hU0 hU1 hU2 (ac_n hv_.1 (by have q_ := hv_.2; rw [hq8_] at q_; omega)) (lv_sub hl [1, 2] rfl)
set_option maxHeartbeats 4000000 in
set_option maxRecDepth 100000 in
theorem lt_m_readsAct_w7 (l : Launch) (D : va_G) (cI cZ cS cR : ClassId) (N0 : NT) (g : GS) (h : Nat) (s0 : Int32) (rz : Int32) (wt : Nat) (na : Nat) (pa : Nat) (z : Int32) (t : Nat) (ct : Nat → Int32) (nv : Nat) (r_h : g.1 h = 8) (r_na : g.1 na = 84) (n_na : g.2.2.1 na = 8) (r_pa : g.1 pa = 85) (n_pa : g.2.2.1 pa = 8) (r_wt : g.1 wt = 87) (n_wt : g.2.2.1 wt = 24) (r_t : g.1 t = 79) (n_t : g.2.2.1 t = 100) (r_nv : g.1 nv = 86) (n_nv : g.2.2.1 nv = 8) (krz : g.2.1 h 38 = .int rz) (ks0 : g.2.1 h 36 = .int s0) (kw0 : g.2.1 h 37 = .int 0) (kwt : g.2.1 h 42 = .ref wt) (kna : g.2.1 h 39 = .ref na) (kpa : g.2.1 h 40 = .ref pa) (kz : g.2.1 h 29 = .int z) (kt : g.2.1 h 28 = .ref t) (knv : g.2.1 h 41 = .ref nv) (l_rz : 0 ≤ rz.toInt) (u_rz : rz.toInt ≤ 7) (l_s0 : 0 ≤ s0.toInt) (u_s0 : s0.toInt ≤ 100) (hN_0 : PL 8 g na pa) (hWT_0 : WT g wt) (l_z : 0 ≤ z.toInt) (u_z : z.toInt ≤ 100) (hc_0 : g.2.2.2.1 t = ct) {p : Program} {e : Env} {s : State} {m : MethodId} {args : Array Value} {below : List Frame} {meth : Method} {c : Code} (hB : Tz p s m meth c args cX7_readsAct 4 RX7 D cI cZ cS cR N0) (hr : meth.sig.returnType = none)    : ∀ (g1 : GS)   (H : Heap) (locs : List Loc) (ls : Array Slot), Tv D cI cZ cS cR N0 s.heap H locs g1 → Inv g1 → Ex g g1 → Sm md_m_readsAct g g1 → g1.2.1 h 38 = .int rz → g1.2.1 h 36 = .int s0 → g1.2.1 h 37 = .int 0 → (PL 8 g1 na pa) → (g1.2.2.2.1 t = ct) → (WT g1 wt) → (UP g1 na (g.2.2.2.1 na) false rz.toNatClampNeg 0) → (UP g1 pa (g.2.2.2.1 pa) false rz.toNatClampNeg 0) → (UP g1 nv (g.2.2.2.1 nv) false rz.toNatClampNeg 0) → (¬ ((txb ct z.toInt) s0.toInt = 97 ∧ (txb ct z.toInt) (s0.toInt + 1) = 115) ∧ (txb ct z.toInt) s0.toInt ≠ 115 ∧ (txb ct z.toInt) s0.toInt ≠ 97 ∧ (txb ct z.toInt) s0.toInt ≠ 109 ∧ (txb ct z.toInt) s0.toInt ≠ 110 ∧ (txb ct z.toInt) s0.toInt ≠ 103 ∧ (txb ct z.toInt) s0.toInt ≠ 97 ∧ (txb ct z.toInt) s0.toInt ≠ 100) → lv_has ls 4 [(1, .int 7), (0, .ref h)] → W p l e (rmx 2 0 0) s m args below meth c H locs 0 0 (MQ below (tQ D cI cZ cS cR N0 (fun v g' => ∃ (z2 : Int32) (s2 : Int32) (w2 : Int32) (w_ : Int32) (c_ : Int32) (v_ : Int32), v = none ∧ Inv g' ∧ Ex g g' ∧ Sm md_m_readsAct g g' ∧ ((w2 = 1 ∧ ac (txb ct z.toInt) s0.toInt = (false, s2.toInt)) ∨ (w2 = 0 ∧ ac (txb ct z.toInt) s0.toInt = (true, s2.toInt) ∧ s2.toInt ≤ z.toInt ∧ w_.toInt = wdr (txb ct z.toInt) s0.toInt ∧ c_.toInt = acc (txb ct z.toInt) s0.toInt ∧ v_.toInt = acv (txb ct z.toInt) s0.toInt)) ∧ (g'.2.1 h 38 = .int z2) ∧ (z2.toInt = rz.toInt + 1) ∧ (PL 8 g' na pa) ∧ (g'.2.1 h 36 = .int s2) ∧ (g'.2.1 h 37 = .int w2) ∧ (0 ≤ s2.toInt ∧ s2.toInt ≤ 100) ∧ (UP g' na (g.2.2.2.1 na) true rz.toNatClampNeg w_) ∧ (UP g' pa (g.2.2.2.1 pa) true rz.toNatClampNeg c_) ∧ (UP g' nv (g.2.2.2.1 nv) true rz.toNatClampNeg v_))) args s 0 0 (fun q => N0.1 ≤ q)) (F0 m 34 ls []) := by
  have hx := hB.1
  have hb := hB.2.1
  intro g1 H locs ls hT hI hE hM kp0 kp1 kp2 hN hc hWT hU0 hU1 hU2 hS hl
  have r_1 : g1.1 h = 8 := Ex.r hE r_h (by decide)
  have r_2 : g1.1 na = 84 := Ex.r hE r_na (by decide)
  have n_3 : g1.2.2.1 na = 8 := Ex.n hE r_na (by decide) n_na
  have r_4 : g1.1 pa = 85 := Ex.r hE r_pa (by decide)
  have n_5 : g1.2.2.1 pa = 8 := Ex.n hE r_pa (by decide) n_pa
  have r_6 : g1.1 wt = 87 := Ex.r hE r_wt (by decide)
  have n_7 : g1.2.2.1 wt = 24 := Ex.n hE r_wt (by decide) n_wt
  have r_8 : g1.1 t = 79 := Ex.r hE r_t (by decide)
  have n_9 : g1.2.2.1 t = 100 := Ex.n hE r_t (by decide) n_t
  have r_10 : g1.1 nv = 86 := Ex.r hE r_nv (by decide)
  have n_11 : g1.2.2.1 nv = 8 := Ex.n hE r_nv (by decide) n_nv
  have kn_12 : g1.2.1 h 42 = .ref wt := Sm.v hM r_h (by decide) rfl kwt
  have kn_13 : g1.2.1 h 39 = .ref na := Sm.v hM r_h (by decide) rfl kna
  have kn_14 : g1.2.1 h 40 = .ref pa := Sm.v hM r_h (by decide) rfl kpa
  have kn_15 : g1.2.1 h 29 = .int z := Sm.v hM r_h (by decide) rfl kz
  have kn_16 : g1.2.1 h 28 = .ref t := Sm.v hM r_h (by decide) rfl kt
  have kn_17 : g1.2.1 h 41 = .ref nv := Sm.v hM r_h (by decide) rfl knv
  refine lv_iload_n hx hb dX7_readsAct_34 rfl (lv_at hl 0 rfl) ?_
  refine lv_bipush (v := 8) hx hb dX7_readsAct_35 (by decide) ?_
  refine lv_icmp_ge (tgt := 65) hx hb dX7_readsAct_37 (by decide) (fun c_ => absurd c_ (by decide)) (fun c_ => ?_)
  refine lv_aload_n hx hb dX7_readsAct_40 rfl (lv_at hl 1 rfl) ?_
  refine lv_aload_n hx hb dX7_readsAct_41 rfl (lv_at hl 1 rfl) ?_
  refine t_get (ci := 7) (v := .int s0) hB hT (ro_ci r_1 rfl) rfl 36 (by decide) k_781 kp1 dX7_readsAct_42 ?_
  refine t_callV (n := 1) (As := [.int s0]) (rest := []) (ci := 7) hB hT hl.1 (m_byteAt l D cI cZ cS cR N0 g1 hI h s0 z t ct r_1 r_8 n_9 kn_15 kn_16 (by omega) (by omega) (by omega) (by omega) hc) (ro_ci r_1 rfl) rfl k_971 k_65 k_968 k_970 k_23 (by decide +kernel) ⟨(Nat.le_of_ble_eq_true rfl), (Nat.le_of_ble_eq_true rfl)⟩ rfl (Nat.le_of_ble_eq_true rfl) ⟨(Nat.le_of_ble_eq_true rfl), (Nat.le_of_ble_eq_true rfl)⟩ dX7_readsAct_45 (fun v g_18 H locs hp hT => ?_)
  obtain ⟨r_19, rfl, eg, f_20, f_21, f_22⟩ := hp
  rw [eg] at hT
  clear eg
  refine W.eq (g2 := F0 m 48 ls [.int r_19]) rfl ?_
  refine lv_aload_n hx hb dX7_readsAct_48 rfl (lv_at hl 1 rfl) ?_
  refine t_get (ci := 7) (v := .ref wt) hB hT (ro_ci r_1 rfl) rfl 42 (by decide) k_787 kn_12 dX7_readsAct_49 ?_
  refine lv_iconst (v := 3) hx hb dX7_readsAct_52 (by decide) ?_
  refine lv_iload_n hx hb dX7_readsAct_53 rfl (lv_at hl 0 rfl) ?_
  refine lv_imul hx hb dX7_readsAct_54 ?_
  refine x_ev (y := 21) (by decide) ?_
  have kw_25 : g1.2.2.2.1 wt (21 : Int32).toNatClampNeg = 105 := (hWT (21 : Int32).toNatClampNeg (by decide)).trans (by decide)
  have i_u_26 : vp_in (21 : Int32) 24 := (by unfold vp_in; decide)
  refine t_iald (v := (105 : Int32)) hB hT (ro_in r_6 (by decide)) n_7 i_u_26 kw_25 dX7_readsAct_55 ?_
  refine lv_icmp_eq (tgt := 65) hx hb dX7_readsAct_56 (by decide) (fun c_27 => ?_) (fun c_27 => ?_)
  · have c_27' : r_19.toInt = 105 := i_eq c_27 rfl (by decide)
    refine lv_aload_n hx hb dX7_readsAct_65 rfl (lv_at hl 1 rfl) ?_
    refine lv_aload_n hx hb dX7_readsAct_66 rfl (lv_at hl 1 rfl) ?_
    refine t_get (ci := 7) (v := .int 0) hB hT (ro_ci r_1 rfl) rfl 37 (by decide) k_782 kp2 dX7_readsAct_67 ?_
    refine lv_if_ne (tgt := 79) hx hb dX7_readsAct_70 (by decide) (fun c_ => absurd (by decide) c_) (fun c_ => ?_)
    refine lv_iload_n hx hb dX7_readsAct_73 rfl (lv_at hl 0 rfl) ?_
    refine lv_bipush (v := 8) hx hb dX7_readsAct_74 (by decide) ?_
    refine lv_icmp_ne (tgt := 83) hx hb dX7_readsAct_76 (by decide) (fun c_ => ?_) (fun c_ => absurd c_ (by decide))
    refine lv_iconst (v := 0) hx hb dX7_readsAct_83 (by decide) ?_
    refine t_put0 (ci := 7) (v := .int 0) hB hT (ro_ci r_1 rfl) (ro_n0 r_1 (by decide)) rfl 37 (by decide) k_782 (Or.inl rfl) rfl rfl dX7_readsAct_84 (fun H locs hT => ?_)
    have hI : Inv (sF g1 h 37 (.int 0)) := hI.sF (p_8_37 r_1 (⟨_, rfl, by decide, by decide⟩))
    have hM : Sm md_m_readsAct g (sF g1 h 37 (.int 0)) := hM.tr hE (Sm_sF (by rw [r_1]; rfl))
    have hE : Ex g (sF g1 h 37 (.int 0)) := hE
    have hN : PL 8 (sF g1 h 37 (.int 0)) na pa := hN
    have hc : (sF g1 h 37 (.int 0)).2.2.2.1 t = ct := hc
    have hWT : WT (sF g1 h 37 (.int 0)) wt := hWT
    have hU0 : UP (sF g1 h 37 (.int 0)) na (g.2.2.2.1 na) false rz.toNatClampNeg 0 := hU0
    have hU1 : UP (sF g1 h 37 (.int 0)) pa (g.2.2.2.1 pa) false rz.toNatClampNeg 0 := hU1
    have hU2 : UP (sF g1 h 37 (.int 0)) nv (g.2.2.2.1 nv) false rz.toNatClampNeg 0 := hU2
    refine lv_iconst (v := 0) hx hb dX7_readsAct_87 (by decide) ?_
    refine lv_istore_n (lv' := [(2, .int 0), (1, .int 7), (0, .ref h)]) hx hb dX7_readsAct_88 rfl hl (by decide) rfl (fun ls hl => ?_)
    refine lv_iload_n hx hb dX7_readsAct_89 rfl (lv_at hl 0 rfl) ?_
    refine lv_iconst (v := 3) hx hb dX7_readsAct_90 (by decide) ?_
    refine lv_icmp_ge (tgt := 134) hx hb dX7_readsAct_91 (by decide) (fun c_ => absurd c_ (by decide)) (fun c_ => ?_)
    refine lv_aload_n hx hb dX7_readsAct_94 rfl (lv_at hl 2 rfl) ?_
    refine t_get (ci := 7) (v := .int 0) hB hT (ro_ci r_1 rfl) rfl 37 (by decide) k_782 sF_eq dX7_readsAct_95 ?_
    refine lv_if_ne (tgt := 134) hx hb dX7_readsAct_98 (by decide) (fun c_ => absurd (by decide) c_) (fun c_ => ?_)
    refine lv_aload_n hx hb dX7_readsAct_101 rfl (lv_at hl 2 rfl) ?_
    refine t_get (ci := 7) (v := .ref wt) hB hT (ro_ci r_1 rfl) rfl 42 (by decide) k_787 (sF_k kn_12 (by decide)) dX7_readsAct_102 ?_
    refine lv_iconst (v := 3) hx hb dX7_readsAct_105 (by decide) ?_
    refine lv_iload_n hx hb dX7_readsAct_106 rfl (lv_at hl 1 rfl) ?_
    refine lv_imul hx hb dX7_readsAct_107 ?_
    refine x_ev (y := 21) (by decide) ?_
    refine lv_iload_n hx hb dX7_readsAct_108 rfl (lv_at hl 0 rfl) ?_
    refine lv_iadd hx hb dX7_readsAct_109 ?_
    refine x_ev (y := 21) (by decide) ?_
    have kw_28 : (sF g1 h 37 (.int 0)).2.2.2.1 wt (21 : Int32).toNatClampNeg = 105 := (hWT (21 : Int32).toNatClampNeg (by decide)).trans (by decide)
    have i_u_29 : vp_in (21 : Int32) 24 := (by unfold vp_in; decide)
    refine t_iald (v := (105 : Int32)) hB hT (ro_in r_6 (by decide)) n_7 i_u_29 kw_28 dX7_readsAct_110 ?_
    refine lv_if_eq (tgt := 128) hx hb dX7_readsAct_111 (by decide) (fun c_ => absurd c_ (by decide)) (fun c_ => ?_)
    refine lv_aload_n hx hb dX7_readsAct_114 rfl (lv_at hl 2 rfl) ?_
    refine lv_aload_n hx hb dX7_readsAct_115 rfl (lv_at hl 2 rfl) ?_
    refine t_get (ci := 7) (v := .ref wt) hB hT (ro_ci r_1 rfl) rfl 42 (by decide) k_787 (sF_k kn_12 (by decide)) dX7_readsAct_116 ?_
    refine lv_iconst (v := 3) hx hb dX7_readsAct_119 (by decide) ?_
    refine lv_iload_n hx hb dX7_readsAct_120 rfl (lv_at hl 1 rfl) ?_
    refine lv_imul hx hb dX7_readsAct_121 ?_
    refine x_ev (y := 21) (by decide) ?_
    refine lv_iload_n hx hb dX7_readsAct_122 rfl (lv_at hl 0 rfl) ?_
    refine lv_iadd hx hb dX7_readsAct_123 ?_
    refine x_ev (y := 21) (by decide) ?_
    have kw_30 : (sF g1 h 37 (.int 0)).2.2.2.1 wt (21 : Int32).toNatClampNeg = 105 := (hWT (21 : Int32).toNatClampNeg (by decide)).trans (by decide)
    have i_u_31 : vp_in (21 : Int32) 24 := (by unfold vp_in; decide)
    refine t_iald (v := (105 : Int32)) hB hT (ro_in r_6 (by decide)) n_7 i_u_31 kw_30 dX7_readsAct_124 ?_
    refine t_callV (n := 1) (As := [.int 105]) (rest := []) (ci := 7) hB hT hl.1 (m_must l D cI cZ cS cR N0 (sF g1 h 37 (.int 0)) hI h 105 s0 0 z t ct r_1 r_8 n_9 (sF_k kp1 (by decide)) sF_eq (sF_k kn_15 (by decide)) (sF_k kn_16 (by decide)) (by have q0 : (0 : Int32).toInt = 0 := (by decide); have q1 : (105 : Int32).toInt = 105 := (by decide); omega) (by have q0 : (0 : Int32).toInt = 0 := (by decide); have q1 : (105 : Int32).toInt = 105 := (by decide); omega) (by have q0 : (0 : Int32).toInt = 0 := (by decide); have q1 : (105 : Int32).toInt = 105 := (by decide); omega) (by have q0 : (0 : Int32).toInt = 0 := (by decide); have q1 : (105 : Int32).toInt = 105 := (by decide); omega) (by have q0 : (0 : Int32).toInt = 0 := (by decide); have q1 : (105 : Int32).toInt = 105 := (by decide); omega) (by have q0 : (0 : Int32).toInt = 0 := (by decide); have q1 : (105 : Int32).toInt = 105 := (by decide); omega) (by have q0 : (0 : Int32).toInt = 0 := (by decide); have q1 : (105 : Int32).toInt = 105 := (by decide); omega) hc) (ro_ci r_1 rfl) rfl k_975 k_65 k_972 k_974 k_24 (by decide +kernel) ⟨(Nat.le_of_ble_eq_true rfl), (Nat.le_of_ble_eq_true rfl)⟩ rfl (Nat.le_of_ble_eq_true rfl) ⟨(Nat.le_of_ble_eq_true rfl), (Nat.le_of_ble_eq_true rfl)⟩ dX7_readsAct_125 (fun v g_32 H locs hp hT => ?_)
    obtain ⟨s2_33, w2_34, rfl, hI, x_39, m_38, f_35, f_36, f_37⟩ := hp
    have hN : PL 8 g_32 na pa := hN.sm m_38 r_2 (by decide) rfl r_4 (by decide) rfl
    have hc : g_32.2.2.2.1 t = ct := (Sm.cf m_38 r_8 (by decide) rfl).trans hc
    have hWT : WT g_32 wt := hWT.sm m_38 r_6 (by decide) rfl
    have hU0 : UP g_32 na (g.2.2.2.1 na) false rz.toNatClampNeg 0 := hU0.sm m_38 r_2 (by decide) rfl
    have hU1 : UP g_32 pa (g.2.2.2.1 pa) false rz.toNatClampNeg 0 := hU1.sm m_38 r_4 (by decide) rfl
    have hU2 : UP g_32 nv (g.2.2.2.1 nv) false rz.toNatClampNeg 0 := hU2.sm m_38 r_10 (by decide) rfl
    have hM : Sm md_m_readsAct g g_32 := hM.tr hE (m_38.mo (fun r k h => mdle_m_readsAct_m_must h))
    have hE : Ex g g_32 := hE.tr x_39
    have r_40 : g_32.1 h = 8 := (Ex.r x_39 r_1 (by decide))
    have r_41 : g_32.1 na = 84 := (Ex.r x_39 r_2 (by decide))
    have r_42 : g_32.1 pa = 85 := (Ex.r x_39 r_4 (by decide))
    have r_43 : g_32.1 wt = 87 := (Ex.r x_39 r_6 (by decide))
    have r_44 : g_32.1 t = 79 := (Ex.r x_39 r_8 (by decide))
    have r_45 : g_32.1 nv = 86 := (Ex.r x_39 r_10 (by decide))
    have n_46 : g_32.2.2.1 na = 8 := (Ex.n x_39 r_2 (by decide) n_3)
    have n_47 : g_32.2.2.1 pa = 8 := (Ex.n x_39 r_4 (by decide) n_5)
    have n_48 : g_32.2.2.1 wt = 24 := (Ex.n x_39 r_6 (by decide) n_7)
    have n_49 : g_32.2.2.1 t = 100 := (Ex.n x_39 r_8 (by decide) n_9)
    have n_50 : g_32.2.2.1 nv = 8 := (Ex.n x_39 r_10 (by decide) n_11)
    have kn_51 : g_32.2.1 h 38 = .int rz := (Sm.v m_38 r_1 (by decide) rfl (sF_k kp0 (by decide)))
    have kn_52 : g_32.2.1 h 42 = .ref wt := (Sm.v m_38 r_1 (by decide) rfl (sF_k kn_12 (by decide)))
    have kn_53 : g_32.2.1 h 39 = .ref na := (Sm.v m_38 r_1 (by decide) rfl (sF_k kn_13 (by decide)))
    have kn_54 : g_32.2.1 h 40 = .ref pa := (Sm.v m_38 r_1 (by decide) rfl (sF_k kn_14 (by decide)))
    have kn_55 : g_32.2.1 h 29 = .int z := (Sm.v m_38 r_1 (by decide) rfl (sF_k kn_15 (by decide)))
    have kn_56 : g_32.2.1 h 28 = .ref t := (Sm.v m_38 r_1 (by decide) rfl (sF_k kn_16 (by decide)))
    have kn_57 : g_32.2.1 h 41 = .ref nv := (Sm.v m_38 r_1 (by decide) rfl (sF_k kn_17 (by decide)))
    have kn_58 : g_32.2.2.2.1 wt (21 : Int32).toNatClampNeg = 105 := (Sm.c m_38 r_6 (by decide) rfl kw_30)
    refine W.eq (g2 := F0 m 128 ls []) rfl ?_
    have qc_59 : (0 : Int32).toInt = 0 := (by decide)
    have qc_60 : (105 : Int32).toInt = 105 := (by decide)
    rcases f_35 with ⟨hx_, -⟩ | ⟨-, ht_s2_33, hs_s2_33, hz_s2_33, hw_s2_33⟩ | ⟨-, ht_s2_33, hs_s2_33, hw_s2_33⟩
    · exact absurd hx_ (by decide)
    · have ew_ : w2_34 = 0 := i_inj (hw_s2_33.trans (by decide))
      subst ew_
      refine lv_iinc (v := 1) (lv' := [(2, .int 1), (1, .int 7), (0, .ref h)]) hx hb dX7_readsAct_128 hl (k := 0) rfl (by decide) (by decide) rfl (fun ls hl => ?_)
      refine lv_goto (tgt := 89) hx hb dX7_readsAct_131 (by decide) ?_
      refine lv_iload_n hx hb dX7_readsAct_89 rfl (lv_at hl 0 rfl) ?_
      refine lv_iconst (v := 3) hx hb dX7_readsAct_90 (by decide) ?_
      refine lv_icmp_ge (tgt := 134) hx hb dX7_readsAct_91 (by decide) (fun c_ => absurd c_ (by decide)) (fun c_ => ?_)
      refine lv_aload_n hx hb dX7_readsAct_94 rfl (lv_at hl 2 rfl) ?_
      refine t_get (ci := 7) (v := .int 0) hB hT (ro_ci r_40 rfl) rfl 37 (by decide) k_782 f_37 dX7_readsAct_95 ?_
      refine lv_if_ne (tgt := 134) hx hb dX7_readsAct_98 (by decide) (fun c_ => absurd (by decide) c_) (fun c_ => ?_)
      refine lv_aload_n hx hb dX7_readsAct_101 rfl (lv_at hl 2 rfl) ?_
      refine t_get (ci := 7) (v := .ref wt) hB hT (ro_ci r_40 rfl) rfl 42 (by decide) k_787 kn_52 dX7_readsAct_102 ?_
      refine lv_iconst (v := 3) hx hb dX7_readsAct_105 (by decide) ?_
      refine lv_iload_n hx hb dX7_readsAct_106 rfl (lv_at hl 1 rfl) ?_
      refine lv_imul hx hb dX7_readsAct_107 ?_
      refine x_ev (y := 21) (by decide) ?_
      refine lv_iload_n hx hb dX7_readsAct_108 rfl (lv_at hl 0 rfl) ?_
      refine lv_iadd hx hb dX7_readsAct_109 ?_
      refine x_ev (y := 22) (by decide) ?_
      have kw_61 : g_32.2.2.2.1 wt (22 : Int32).toNatClampNeg = 102 := (hWT (22 : Int32).toNatClampNeg (by decide)).trans (by decide)
      have i_u_62 : vp_in (22 : Int32) 24 := (by unfold vp_in; decide)
      refine t_iald (v := (102 : Int32)) hB hT (ro_in r_43 (by decide)) n_48 i_u_62 kw_61 dX7_readsAct_110 ?_
      refine lv_if_eq (tgt := 128) hx hb dX7_readsAct_111 (by decide) (fun c_ => absurd c_ (by decide)) (fun c_ => ?_)
      refine lv_aload_n hx hb dX7_readsAct_114 rfl (lv_at hl 2 rfl) ?_
      refine lv_aload_n hx hb dX7_readsAct_115 rfl (lv_at hl 2 rfl) ?_
      refine t_get (ci := 7) (v := .ref wt) hB hT (ro_ci r_40 rfl) rfl 42 (by decide) k_787 kn_52 dX7_readsAct_116 ?_
      refine lv_iconst (v := 3) hx hb dX7_readsAct_119 (by decide) ?_
      refine lv_iload_n hx hb dX7_readsAct_120 rfl (lv_at hl 1 rfl) ?_
      refine lv_imul hx hb dX7_readsAct_121 ?_
      refine x_ev (y := 21) (by decide) ?_
      refine lv_iload_n hx hb dX7_readsAct_122 rfl (lv_at hl 0 rfl) ?_
      refine lv_iadd hx hb dX7_readsAct_123 ?_
      refine x_ev (y := 22) (by decide) ?_
      have kw_63 : g_32.2.2.2.1 wt (22 : Int32).toNatClampNeg = 102 := (hWT (22 : Int32).toNatClampNeg (by decide)).trans (by decide)
      have i_u_64 : vp_in (22 : Int32) 24 := (by unfold vp_in; decide)
      refine t_iald (v := (102 : Int32)) hB hT (ro_in r_43 (by decide)) n_48 i_u_64 kw_63 dX7_readsAct_124 ?_
      refine t_callV (n := 1) (As := [.int 102]) (rest := []) (ci := 7) hB hT hl.1 (m_must l D cI cZ cS cR N0 g_32 hI h 102 s2_33 0 z t ct r_40 r_44 n_49 f_36 f_37 kn_55 kn_56 (by have q0 : (0 : Int32).toInt = 0 := (by decide); have q1 : (102 : Int32).toInt = 102 := (by decide); omega) (by have q0 : (0 : Int32).toInt = 0 := (by decide); have q1 : (102 : Int32).toInt = 102 := (by decide); omega) (by have q0 : (0 : Int32).toInt = 0 := (by decide); have q1 : (102 : Int32).toInt = 102 := (by decide); omega) (by have q0 : (0 : Int32).toInt = 0 := (by decide); have q1 : (102 : Int32).toInt = 102 := (by decide); omega) (by have q0 : (0 : Int32).toInt = 0 := (by decide); have q1 : (102 : Int32).toInt = 102 := (by decide); omega) (by have q0 : (0 : Int32).toInt = 0 := (by decide); have q1 : (102 : Int32).toInt = 102 := (by decide); omega) (by have q0 : (0 : Int32).toInt = 0 := (by decide); have q1 : (102 : Int32).toInt = 102 := (by decide); omega) hc) (ro_ci r_40 rfl) rfl k_975 k_65 k_972 k_974 k_24 (by decide +kernel) ⟨(Nat.le_of_ble_eq_true rfl), (Nat.le_of_ble_eq_true rfl)⟩ rfl (Nat.le_of_ble_eq_true rfl) ⟨(Nat.le_of_ble_eq_true rfl), (Nat.le_of_ble_eq_true rfl)⟩ dX7_readsAct_125 (fun v g_65 H locs hp hT => ?_)
      obtain ⟨s2_66, w2_67, rfl, hI, x_72, m_71, f_68, f_69, f_70⟩ := hp
      have hN : PL 8 g_65 na pa := hN.sm m_71 r_41 (by decide) rfl r_42 (by decide) rfl
      have hc : g_65.2.2.2.1 t = ct := (Sm.cf m_71 r_44 (by decide) rfl).trans hc
      have hWT : WT g_65 wt := hWT.sm m_71 r_43 (by decide) rfl
      have hU0 : UP g_65 na (g.2.2.2.1 na) false rz.toNatClampNeg 0 := hU0.sm m_71 r_41 (by decide) rfl
      have hU1 : UP g_65 pa (g.2.2.2.1 pa) false rz.toNatClampNeg 0 := hU1.sm m_71 r_42 (by decide) rfl
      have hU2 : UP g_65 nv (g.2.2.2.1 nv) false rz.toNatClampNeg 0 := hU2.sm m_71 r_45 (by decide) rfl
      have hM : Sm md_m_readsAct g g_65 := hM.tr hE (m_71.mo (fun r k h => mdle_m_readsAct_m_must h))
      have hE : Ex g g_65 := hE.tr x_72
      have r_73 : g_65.1 h = 8 := (Ex.r x_72 r_40 (by decide))
      have r_74 : g_65.1 na = 84 := (Ex.r x_72 r_41 (by decide))
      have r_75 : g_65.1 pa = 85 := (Ex.r x_72 r_42 (by decide))
      have r_76 : g_65.1 wt = 87 := (Ex.r x_72 r_43 (by decide))
      have r_77 : g_65.1 t = 79 := (Ex.r x_72 r_44 (by decide))
      have r_78 : g_65.1 nv = 86 := (Ex.r x_72 r_45 (by decide))
      have n_79 : g_65.2.2.1 na = 8 := (Ex.n x_72 r_41 (by decide) n_46)
      have n_80 : g_65.2.2.1 pa = 8 := (Ex.n x_72 r_42 (by decide) n_47)
      have n_81 : g_65.2.2.1 wt = 24 := (Ex.n x_72 r_43 (by decide) n_48)
      have n_82 : g_65.2.2.1 t = 100 := (Ex.n x_72 r_44 (by decide) n_49)
      have n_83 : g_65.2.2.1 nv = 8 := (Ex.n x_72 r_45 (by decide) n_50)
      have kn_84 : g_65.2.1 h 38 = .int rz := (Sm.v m_71 r_40 (by decide) rfl kn_51)
      have kn_85 : g_65.2.1 h 42 = .ref wt := (Sm.v m_71 r_40 (by decide) rfl kn_52)
      have kn_86 : g_65.2.1 h 39 = .ref na := (Sm.v m_71 r_40 (by decide) rfl kn_53)
      have kn_87 : g_65.2.1 h 40 = .ref pa := (Sm.v m_71 r_40 (by decide) rfl kn_54)
      have kn_88 : g_65.2.1 h 29 = .int z := (Sm.v m_71 r_40 (by decide) rfl kn_55)
      have kn_89 : g_65.2.1 h 28 = .ref t := (Sm.v m_71 r_40 (by decide) rfl kn_56)
      have kn_90 : g_65.2.1 h 41 = .ref nv := (Sm.v m_71 r_40 (by decide) rfl kn_57)
      have kn_91 : g_65.2.2.2.1 wt (21 : Int32).toNatClampNeg = 105 := (Sm.c m_71 r_43 (by decide) rfl kn_58)
      have kn_92 : g_65.2.2.2.1 wt (22 : Int32).toNatClampNeg = 102 := (Sm.c m_71 r_43 (by decide) rfl kw_63)
      refine W.eq (g2 := F0 m 128 ls []) rfl ?_
      have qc_93 : (0 : Int32).toInt = 0 := (by decide)
      have qc_94 : (102 : Int32).toInt = 102 := (by decide)
      rcases f_68 with ⟨hx_, -⟩ | ⟨-, ht_s2_66, hs_s2_66, hz_s2_66, hw_s2_66⟩ | ⟨-, ht_s2_66, hs_s2_66, hw_s2_66⟩
      · exact absurd hx_ (by decide)
      · have ew_ : w2_67 = 0 := i_inj (hw_s2_66.trans (by decide))
        subst ew_
        rw [show s2_33.toInt = s0.toInt + 1 by omega] at ht_s2_66
        refine lv_iinc (v := 2) (lv' := [(2, .int 2), (1, .int 7), (0, .ref h)]) hx hb dX7_readsAct_128 hl (k := 0) rfl (by decide) (by decide) rfl (fun ls hl => ?_)
        refine lv_goto (tgt := 89) hx hb dX7_readsAct_131 (by decide) ?_
        refine lv_iload_n hx hb dX7_readsAct_89 rfl (lv_at hl 0 rfl) ?_
        refine lv_iconst (v := 3) hx hb dX7_readsAct_90 (by decide) ?_
        refine lv_icmp_ge (tgt := 134) hx hb dX7_readsAct_91 (by decide) (fun c_ => absurd c_ (by decide)) (fun c_ => ?_)
        refine lv_aload_n hx hb dX7_readsAct_94 rfl (lv_at hl 2 rfl) ?_
        refine t_get (ci := 7) (v := .int 0) hB hT (ro_ci r_73 rfl) rfl 37 (by decide) k_782 f_70 dX7_readsAct_95 ?_
        refine lv_if_ne (tgt := 134) hx hb dX7_readsAct_98 (by decide) (fun c_ => absurd (by decide) c_) (fun c_ => ?_)
        refine lv_aload_n hx hb dX7_readsAct_101 rfl (lv_at hl 2 rfl) ?_
        refine t_get (ci := 7) (v := .ref wt) hB hT (ro_ci r_73 rfl) rfl 42 (by decide) k_787 kn_85 dX7_readsAct_102 ?_
        refine lv_iconst (v := 3) hx hb dX7_readsAct_105 (by decide) ?_
        refine lv_iload_n hx hb dX7_readsAct_106 rfl (lv_at hl 1 rfl) ?_
        refine lv_imul hx hb dX7_readsAct_107 ?_
        refine x_ev (y := 21) (by decide) ?_
        refine lv_iload_n hx hb dX7_readsAct_108 rfl (lv_at hl 0 rfl) ?_
        refine lv_iadd hx hb dX7_readsAct_109 ?_
        refine x_ev (y := 23) (by decide) ?_
        have kw_95 : g_65.2.2.2.1 wt (23 : Int32).toNatClampNeg = 0 := (hWT (23 : Int32).toNatClampNeg (by decide)).trans (by decide)
        have i_u_96 : vp_in (23 : Int32) 24 := (by unfold vp_in; decide)
        refine t_iald (v := (0 : Int32)) hB hT (ro_in r_76 (by decide)) n_81 i_u_96 kw_95 dX7_readsAct_110 ?_
        refine lv_if_eq (tgt := 128) hx hb dX7_readsAct_111 (by decide) (fun c_ => ?_) (fun c_ => absurd (by decide) c_)
        refine lv_iinc (v := 3) (lv' := [(2, .int 3), (1, .int 7), (0, .ref h)]) hx hb dX7_readsAct_128 hl (k := 0) rfl (by decide) (by decide) rfl (fun ls hl => ?_)
        refine lv_goto (tgt := 89) hx hb dX7_readsAct_131 (by decide) ?_
        refine lv_iload_n hx hb dX7_readsAct_89 rfl (lv_at hl 0 rfl) ?_
        refine lv_iconst (v := 3) hx hb dX7_readsAct_90 (by decide) ?_
        refine lv_icmp_ge (tgt := 134) hx hb dX7_readsAct_91 (by decide) (fun c_ => ?_) (fun c_ => absurd (by decide) c_)
        refine lv_aload_n hx hb dX7_readsAct_134 rfl (lv_at hl 2 rfl) ?_
        refine lv_bipush (v := 32) hx hb dX7_readsAct_135 (by decide) ?_
        refine t_callV (n := 1) (As := [.int 32]) (rest := []) (ci := 7) hB hT hl.1 (m_must l D cI cZ cS cR N0 g_65 hI h 32 s2_66 0 z t ct r_73 r_77 n_82 f_69 f_70 kn_88 kn_89 (by have q0 : (0 : Int32).toInt = 0 := (by decide); have q1 : (32 : Int32).toInt = 32 := (by decide); omega) (by have q0 : (0 : Int32).toInt = 0 := (by decide); have q1 : (32 : Int32).toInt = 32 := (by decide); omega) (by have q0 : (0 : Int32).toInt = 0 := (by decide); have q1 : (32 : Int32).toInt = 32 := (by decide); omega) (by have q0 : (0 : Int32).toInt = 0 := (by decide); have q1 : (32 : Int32).toInt = 32 := (by decide); omega) (by have q0 : (0 : Int32).toInt = 0 := (by decide); have q1 : (32 : Int32).toInt = 32 := (by decide); omega) (by have q0 : (0 : Int32).toInt = 0 := (by decide); have q1 : (32 : Int32).toInt = 32 := (by decide); omega) (by have q0 : (0 : Int32).toInt = 0 := (by decide); have q1 : (32 : Int32).toInt = 32 := (by decide); omega) hc) (ro_ci r_73 rfl) rfl k_975 k_65 k_972 k_974 k_24 (by decide +kernel) ⟨(Nat.le_of_ble_eq_true rfl), (Nat.le_of_ble_eq_true rfl)⟩ rfl (Nat.le_of_ble_eq_true rfl) ⟨(Nat.le_of_ble_eq_true rfl), (Nat.le_of_ble_eq_true rfl)⟩ dX7_readsAct_137 (fun v g_97 H locs hp hT => ?_)
        obtain ⟨s2_98, w2_99, rfl, hI, x_104, m_103, f_100, f_101, f_102⟩ := hp
        have hN : PL 8 g_97 na pa := hN.sm m_103 r_74 (by decide) rfl r_75 (by decide) rfl
        have hc : g_97.2.2.2.1 t = ct := (Sm.cf m_103 r_77 (by decide) rfl).trans hc
        have hWT : WT g_97 wt := hWT.sm m_103 r_76 (by decide) rfl
        have hU0 : UP g_97 na (g.2.2.2.1 na) false rz.toNatClampNeg 0 := hU0.sm m_103 r_74 (by decide) rfl
        have hU1 : UP g_97 pa (g.2.2.2.1 pa) false rz.toNatClampNeg 0 := hU1.sm m_103 r_75 (by decide) rfl
        have hU2 : UP g_97 nv (g.2.2.2.1 nv) false rz.toNatClampNeg 0 := hU2.sm m_103 r_78 (by decide) rfl
        have hM : Sm md_m_readsAct g g_97 := hM.tr hE (m_103.mo (fun r k h => mdle_m_readsAct_m_must h))
        have hE : Ex g g_97 := hE.tr x_104
        have r_105 : g_97.1 h = 8 := (Ex.r x_104 r_73 (by decide))
        have r_106 : g_97.1 na = 84 := (Ex.r x_104 r_74 (by decide))
        have r_107 : g_97.1 pa = 85 := (Ex.r x_104 r_75 (by decide))
        have r_108 : g_97.1 wt = 87 := (Ex.r x_104 r_76 (by decide))
        have r_109 : g_97.1 t = 79 := (Ex.r x_104 r_77 (by decide))
        have r_110 : g_97.1 nv = 86 := (Ex.r x_104 r_78 (by decide))
        have n_111 : g_97.2.2.1 na = 8 := (Ex.n x_104 r_74 (by decide) n_79)
        have n_112 : g_97.2.2.1 pa = 8 := (Ex.n x_104 r_75 (by decide) n_80)
        have n_113 : g_97.2.2.1 wt = 24 := (Ex.n x_104 r_76 (by decide) n_81)
        have n_114 : g_97.2.2.1 t = 100 := (Ex.n x_104 r_77 (by decide) n_82)
        have n_115 : g_97.2.2.1 nv = 8 := (Ex.n x_104 r_78 (by decide) n_83)
        have kn_116 : g_97.2.1 h 38 = .int rz := (Sm.v m_103 r_73 (by decide) rfl kn_84)
        have kn_117 : g_97.2.1 h 42 = .ref wt := (Sm.v m_103 r_73 (by decide) rfl kn_85)
        have kn_118 : g_97.2.1 h 39 = .ref na := (Sm.v m_103 r_73 (by decide) rfl kn_86)
        have kn_119 : g_97.2.1 h 40 = .ref pa := (Sm.v m_103 r_73 (by decide) rfl kn_87)
        have kn_120 : g_97.2.1 h 29 = .int z := (Sm.v m_103 r_73 (by decide) rfl kn_88)
        have kn_121 : g_97.2.1 h 28 = .ref t := (Sm.v m_103 r_73 (by decide) rfl kn_89)
        have kn_122 : g_97.2.1 h 41 = .ref nv := (Sm.v m_103 r_73 (by decide) rfl kn_90)
        have kn_123 : g_97.2.2.2.1 wt (21 : Int32).toNatClampNeg = 105 := (Sm.c m_103 r_76 (by decide) rfl kn_91)
        have kn_124 : g_97.2.2.2.1 wt (22 : Int32).toNatClampNeg = 102 := (Sm.c m_103 r_76 (by decide) rfl kn_92)
        have kn_125 : g_97.2.2.2.1 wt (23 : Int32).toNatClampNeg = 0 := (Sm.c m_103 r_76 (by decide) rfl kw_95)
        refine W.eq (g2 := F0 m 140 ls []) rfl ?_
        have qc_126 : (0 : Int32).toInt = 0 := (by decide)
        have qc_127 : (32 : Int32).toInt = 32 := (by decide)
        rcases f_100 with ⟨hx_, -⟩ | ⟨-, ht_s2_98, hs_s2_98, hz_s2_98, hw_s2_98⟩ | ⟨-, ht_s2_98, hs_s2_98, hw_s2_98⟩
        · exact absurd hx_ (by decide)
        · have ew_ : w2_99 = 0 := i_inj (hw_s2_98.trans (by decide))
          subst ew_
          rw [show s2_66.toInt = s0.toInt + 2 by omega] at ht_s2_98
          have hv_ := wo_7 (T := (txb ct z.toInt)) (p := s0.toInt) ⟨by omega, by omega, by omega⟩
          exact lt_m_readsAct_c0 l D cI cZ cS cR N0 g h s0 rz wt na pa z t ct nv r_h r_na n_na r_pa n_pa r_wt n_wt r_t n_t r_nv n_nv krz ks0 kw0 kwt kna kpa kz kt knv l_rz u_rz l_s0 u_s0 hN_0 hWT_0 l_z u_z hc_0 hB hr   g_97 (7 : Int32) s2_98 H locs ls hT hI hE hM (by decide) (by decide) (by omega) (by omega) kn_116 f_101 f_102 hN hc hWT hU0 hU1 hU2 ⟨by decide, hv_.1.trans (by decide), (by have q_ := hv_.2; omega), by omega⟩ (lv_sub hl [1, 2] rfl)
        · have ew_ : w2_99 = 1 := i_inj (hw_s2_98.trans (by decide))
          subst ew_
          rw [show s2_66.toInt = s0.toInt + 2 by omega] at ht_s2_98
          have hs_ : wsel ((txb ct z.toInt) s0.toInt) ((txb ct z.toInt) (s0.toInt + 1)) = 7 := ws_7 (by omega)
          have hq_ : qj (txb ct z.toInt) s0.toInt 7 = 2 := wp3_2 (by omega) (by omega) (by omega)
          have hv_ := wd_f hs_ (Or.inr (fun h_ => absurd (hq_.symm.trans h_) (by decide)))
          exact lt_m_readsAct_c1 l D cI cZ cS cR N0 g h s0 rz wt na pa z t ct nv r_h r_na n_na r_pa n_pa r_wt n_wt r_t n_t r_nv n_nv krz ks0 kw0 kwt kna kpa kz kt knv l_rz u_rz l_s0 u_s0 hN_0 hWT_0 l_z u_z hc_0 hB hr   g_97 (7 : Int32) s2_98 H locs ls hT hI hE hM (by decide) (by decide) (by omega) (by omega) kn_116 f_101 f_102 hN hc hWT hU0 hU1 hU2 (ac_n hv_.1 (by have q_ := hv_.2; rw [hq_] at q_; omega)) (lv_sub hl [1, 2] rfl)
      · have ew_ : w2_67 = 1 := i_inj (hw_s2_66.trans (by decide))
        subst ew_
        rw [show s2_33.toInt = s0.toInt + 1 by omega] at ht_s2_66
        refine lv_iinc (v := 2) (lv' := [(2, .int 2), (1, .int 7), (0, .ref h)]) hx hb dX7_readsAct_128 hl (k := 0) rfl (by decide) (by decide) rfl (fun ls hl => ?_)
        refine lv_goto (tgt := 89) hx hb dX7_readsAct_131 (by decide) ?_
        refine lv_iload_n hx hb dX7_readsAct_89 rfl (lv_at hl 0 rfl) ?_
        refine lv_iconst (v := 3) hx hb dX7_readsAct_90 (by decide) ?_
        refine lv_icmp_ge (tgt := 134) hx hb dX7_readsAct_91 (by decide) (fun c_ => absurd c_ (by decide)) (fun c_ => ?_)
        refine lv_aload_n hx hb dX7_readsAct_94 rfl (lv_at hl 2 rfl) ?_
        refine t_get (ci := 7) (v := .int 1) hB hT (ro_ci r_73 rfl) rfl 37 (by decide) k_782 f_70 dX7_readsAct_95 ?_
        refine lv_if_ne (tgt := 134) hx hb dX7_readsAct_98 (by decide) (fun c_ => ?_) (fun c_ => absurd c_ (by decide))
        refine lv_aload_n hx hb dX7_readsAct_134 rfl (lv_at hl 2 rfl) ?_
        refine lv_bipush (v := 32) hx hb dX7_readsAct_135 (by decide) ?_
        refine t_callV (n := 1) (As := [.int 32]) (rest := []) (ci := 7) hB hT hl.1 (m_must l D cI cZ cS cR N0 g_65 hI h 32 s2_66 1 z t ct r_73 r_77 n_82 f_69 f_70 kn_88 kn_89 (by have q0 : (1 : Int32).toInt = 1 := (by decide); have q1 : (32 : Int32).toInt = 32 := (by decide); omega) (by have q0 : (1 : Int32).toInt = 1 := (by decide); have q1 : (32 : Int32).toInt = 32 := (by decide); omega) (by have q0 : (1 : Int32).toInt = 1 := (by decide); have q1 : (32 : Int32).toInt = 32 := (by decide); omega) (by have q0 : (1 : Int32).toInt = 1 := (by decide); have q1 : (32 : Int32).toInt = 32 := (by decide); omega) (by have q0 : (1 : Int32).toInt = 1 := (by decide); have q1 : (32 : Int32).toInt = 32 := (by decide); omega) (by have q0 : (1 : Int32).toInt = 1 := (by decide); have q1 : (32 : Int32).toInt = 32 := (by decide); omega) (by have q0 : (1 : Int32).toInt = 1 := (by decide); have q1 : (32 : Int32).toInt = 32 := (by decide); omega) hc) (ro_ci r_73 rfl) rfl k_975 k_65 k_972 k_974 k_24 (by decide +kernel) ⟨(Nat.le_of_ble_eq_true rfl), (Nat.le_of_ble_eq_true rfl)⟩ rfl (Nat.le_of_ble_eq_true rfl) ⟨(Nat.le_of_ble_eq_true rfl), (Nat.le_of_ble_eq_true rfl)⟩ dX7_readsAct_137 (fun v g_128 H locs hp hT => ?_)
        obtain ⟨s2_129, w2_130, rfl, hI, x_135, m_134, f_131, f_132, f_133⟩ := hp
        have hN : PL 8 g_128 na pa := hN.sm m_134 r_74 (by decide) rfl r_75 (by decide) rfl
        have hc : g_128.2.2.2.1 t = ct := (Sm.cf m_134 r_77 (by decide) rfl).trans hc
        have hWT : WT g_128 wt := hWT.sm m_134 r_76 (by decide) rfl
        have hU0 : UP g_128 na (g.2.2.2.1 na) false rz.toNatClampNeg 0 := hU0.sm m_134 r_74 (by decide) rfl
        have hU1 : UP g_128 pa (g.2.2.2.1 pa) false rz.toNatClampNeg 0 := hU1.sm m_134 r_75 (by decide) rfl
        have hU2 : UP g_128 nv (g.2.2.2.1 nv) false rz.toNatClampNeg 0 := hU2.sm m_134 r_78 (by decide) rfl
        have hM : Sm md_m_readsAct g g_128 := hM.tr hE (m_134.mo (fun r k h => mdle_m_readsAct_m_must h))
        have hE : Ex g g_128 := hE.tr x_135
        have r_136 : g_128.1 h = 8 := (Ex.r x_135 r_73 (by decide))
        have r_137 : g_128.1 na = 84 := (Ex.r x_135 r_74 (by decide))
        have r_138 : g_128.1 pa = 85 := (Ex.r x_135 r_75 (by decide))
        have r_139 : g_128.1 wt = 87 := (Ex.r x_135 r_76 (by decide))
        have r_140 : g_128.1 t = 79 := (Ex.r x_135 r_77 (by decide))
        have r_141 : g_128.1 nv = 86 := (Ex.r x_135 r_78 (by decide))
        have n_142 : g_128.2.2.1 na = 8 := (Ex.n x_135 r_74 (by decide) n_79)
        have n_143 : g_128.2.2.1 pa = 8 := (Ex.n x_135 r_75 (by decide) n_80)
        have n_144 : g_128.2.2.1 wt = 24 := (Ex.n x_135 r_76 (by decide) n_81)
        have n_145 : g_128.2.2.1 t = 100 := (Ex.n x_135 r_77 (by decide) n_82)
        have n_146 : g_128.2.2.1 nv = 8 := (Ex.n x_135 r_78 (by decide) n_83)
        have kn_147 : g_128.2.1 h 38 = .int rz := (Sm.v m_134 r_73 (by decide) rfl kn_84)
        have kn_148 : g_128.2.1 h 42 = .ref wt := (Sm.v m_134 r_73 (by decide) rfl kn_85)
        have kn_149 : g_128.2.1 h 39 = .ref na := (Sm.v m_134 r_73 (by decide) rfl kn_86)
        have kn_150 : g_128.2.1 h 40 = .ref pa := (Sm.v m_134 r_73 (by decide) rfl kn_87)
        have kn_151 : g_128.2.1 h 29 = .int z := (Sm.v m_134 r_73 (by decide) rfl kn_88)
        have kn_152 : g_128.2.1 h 28 = .ref t := (Sm.v m_134 r_73 (by decide) rfl kn_89)
        have kn_153 : g_128.2.1 h 41 = .ref nv := (Sm.v m_134 r_73 (by decide) rfl kn_90)
        have kn_154 : g_128.2.2.2.1 wt (21 : Int32).toNatClampNeg = 105 := (Sm.c m_134 r_76 (by decide) rfl kn_91)
        have kn_155 : g_128.2.2.2.1 wt (22 : Int32).toNatClampNeg = 102 := (Sm.c m_134 r_76 (by decide) rfl kn_92)
        refine W.eq (g2 := F0 m 140 ls []) rfl ?_
        have qc_156 : (1 : Int32).toInt = 1 := (by decide)
        have qc_157 : (32 : Int32).toInt = 32 := (by decide)
        rcases f_131 with ⟨-, hs_s2_129, hw_s2_129⟩ | ⟨hx_, -⟩ | ⟨hx_, -⟩
        rotate_left
        · exact absurd hx_ (by decide)
        · exact absurd hx_ (by decide)
        have ew_ : w2_130 = 1 := i_inj (hw_s2_129.trans (by decide))
        subst ew_
        have hs_ : wsel ((txb ct z.toInt) s0.toInt) ((txb ct z.toInt) (s0.toInt + 1)) = 7 := ws_7 (by omega)
        have hq_ : qj (txb ct z.toInt) s0.toInt 7 = 1 := wp3_1 (by omega) (by omega)
        have hv_ := wd_f hs_ (Or.inr (fun h_ => absurd (hq_.symm.trans h_) (by decide)))
        exact lt_m_readsAct_c1 l D cI cZ cS cR N0 g h s0 rz wt na pa z t ct nv r_h r_na n_na r_pa n_pa r_wt n_wt r_t n_t r_nv n_nv krz ks0 kw0 kwt kna kpa kz kt knv l_rz u_rz l_s0 u_s0 hN_0 hWT_0 l_z u_z hc_0 hB hr   g_128 (7 : Int32) s2_129 H locs ls hT hI hE hM (by decide) (by decide) (by omega) (by omega) kn_147 f_132 f_133 hN hc hWT hU0 hU1 hU2 (ac_n hv_.1 (by have q_ := hv_.2; rw [hq_] at q_; omega)) (lv_sub hl [1, 2] rfl)
    · have ew_ : w2_34 = 1 := i_inj (hw_s2_33.trans (by decide))
      subst ew_
      refine lv_iinc (v := 1) (lv' := [(2, .int 1), (1, .int 7), (0, .ref h)]) hx hb dX7_readsAct_128 hl (k := 0) rfl (by decide) (by decide) rfl (fun ls hl => ?_)
      refine lv_goto (tgt := 89) hx hb dX7_readsAct_131 (by decide) ?_
      refine lv_iload_n hx hb dX7_readsAct_89 rfl (lv_at hl 0 rfl) ?_
      refine lv_iconst (v := 3) hx hb dX7_readsAct_90 (by decide) ?_
      refine lv_icmp_ge (tgt := 134) hx hb dX7_readsAct_91 (by decide) (fun c_ => absurd c_ (by decide)) (fun c_ => ?_)
      refine lv_aload_n hx hb dX7_readsAct_94 rfl (lv_at hl 2 rfl) ?_
      refine t_get (ci := 7) (v := .int 1) hB hT (ro_ci r_40 rfl) rfl 37 (by decide) k_782 f_37 dX7_readsAct_95 ?_
      refine lv_if_ne (tgt := 134) hx hb dX7_readsAct_98 (by decide) (fun c_ => ?_) (fun c_ => absurd c_ (by decide))
      refine lv_aload_n hx hb dX7_readsAct_134 rfl (lv_at hl 2 rfl) ?_
      refine lv_bipush (v := 32) hx hb dX7_readsAct_135 (by decide) ?_
      refine t_callV (n := 1) (As := [.int 32]) (rest := []) (ci := 7) hB hT hl.1 (m_must l D cI cZ cS cR N0 g_32 hI h 32 s2_33 1 z t ct r_40 r_44 n_49 f_36 f_37 kn_55 kn_56 (by have q0 : (1 : Int32).toInt = 1 := (by decide); have q1 : (32 : Int32).toInt = 32 := (by decide); omega) (by have q0 : (1 : Int32).toInt = 1 := (by decide); have q1 : (32 : Int32).toInt = 32 := (by decide); omega) (by have q0 : (1 : Int32).toInt = 1 := (by decide); have q1 : (32 : Int32).toInt = 32 := (by decide); omega) (by have q0 : (1 : Int32).toInt = 1 := (by decide); have q1 : (32 : Int32).toInt = 32 := (by decide); omega) (by have q0 : (1 : Int32).toInt = 1 := (by decide); have q1 : (32 : Int32).toInt = 32 := (by decide); omega) (by have q0 : (1 : Int32).toInt = 1 := (by decide); have q1 : (32 : Int32).toInt = 32 := (by decide); omega) (by have q0 : (1 : Int32).toInt = 1 := (by decide); have q1 : (32 : Int32).toInt = 32 := (by decide); omega) hc) (ro_ci r_40 rfl) rfl k_975 k_65 k_972 k_974 k_24 (by decide +kernel) ⟨(Nat.le_of_ble_eq_true rfl), (Nat.le_of_ble_eq_true rfl)⟩ rfl (Nat.le_of_ble_eq_true rfl) ⟨(Nat.le_of_ble_eq_true rfl), (Nat.le_of_ble_eq_true rfl)⟩ dX7_readsAct_137 (fun v g_158 H locs hp hT => ?_)
      obtain ⟨s2_159, w2_160, rfl, hI, x_165, m_164, f_161, f_162, f_163⟩ := hp
      have hN : PL 8 g_158 na pa := hN.sm m_164 r_41 (by decide) rfl r_42 (by decide) rfl
      have hc : g_158.2.2.2.1 t = ct := (Sm.cf m_164 r_44 (by decide) rfl).trans hc
      have hWT : WT g_158 wt := hWT.sm m_164 r_43 (by decide) rfl
      have hU0 : UP g_158 na (g.2.2.2.1 na) false rz.toNatClampNeg 0 := hU0.sm m_164 r_41 (by decide) rfl
      have hU1 : UP g_158 pa (g.2.2.2.1 pa) false rz.toNatClampNeg 0 := hU1.sm m_164 r_42 (by decide) rfl
      have hU2 : UP g_158 nv (g.2.2.2.1 nv) false rz.toNatClampNeg 0 := hU2.sm m_164 r_45 (by decide) rfl
      have hM : Sm md_m_readsAct g g_158 := hM.tr hE (m_164.mo (fun r k h => mdle_m_readsAct_m_must h))
      have hE : Ex g g_158 := hE.tr x_165
      have r_166 : g_158.1 h = 8 := (Ex.r x_165 r_40 (by decide))
      have r_167 : g_158.1 na = 84 := (Ex.r x_165 r_41 (by decide))
      have r_168 : g_158.1 pa = 85 := (Ex.r x_165 r_42 (by decide))
      have r_169 : g_158.1 wt = 87 := (Ex.r x_165 r_43 (by decide))
      have r_170 : g_158.1 t = 79 := (Ex.r x_165 r_44 (by decide))
      have r_171 : g_158.1 nv = 86 := (Ex.r x_165 r_45 (by decide))
      have n_172 : g_158.2.2.1 na = 8 := (Ex.n x_165 r_41 (by decide) n_46)
      have n_173 : g_158.2.2.1 pa = 8 := (Ex.n x_165 r_42 (by decide) n_47)
      have n_174 : g_158.2.2.1 wt = 24 := (Ex.n x_165 r_43 (by decide) n_48)
      have n_175 : g_158.2.2.1 t = 100 := (Ex.n x_165 r_44 (by decide) n_49)
      have n_176 : g_158.2.2.1 nv = 8 := (Ex.n x_165 r_45 (by decide) n_50)
      have kn_177 : g_158.2.1 h 38 = .int rz := (Sm.v m_164 r_40 (by decide) rfl kn_51)
      have kn_178 : g_158.2.1 h 42 = .ref wt := (Sm.v m_164 r_40 (by decide) rfl kn_52)
      have kn_179 : g_158.2.1 h 39 = .ref na := (Sm.v m_164 r_40 (by decide) rfl kn_53)
      have kn_180 : g_158.2.1 h 40 = .ref pa := (Sm.v m_164 r_40 (by decide) rfl kn_54)
      have kn_181 : g_158.2.1 h 29 = .int z := (Sm.v m_164 r_40 (by decide) rfl kn_55)
      have kn_182 : g_158.2.1 h 28 = .ref t := (Sm.v m_164 r_40 (by decide) rfl kn_56)
      have kn_183 : g_158.2.1 h 41 = .ref nv := (Sm.v m_164 r_40 (by decide) rfl kn_57)
      have kn_184 : g_158.2.2.2.1 wt (21 : Int32).toNatClampNeg = 105 := (Sm.c m_164 r_43 (by decide) rfl kn_58)
      refine W.eq (g2 := F0 m 140 ls []) rfl ?_
      have qc_185 : (1 : Int32).toInt = 1 := (by decide)
      have qc_186 : (32 : Int32).toInt = 32 := (by decide)
      rcases f_161 with ⟨-, hs_s2_159, hw_s2_159⟩ | ⟨hx_, -⟩ | ⟨hx_, -⟩
      rotate_left
      · exact absurd hx_ (by decide)
      · exact absurd hx_ (by decide)
      have ew_ : w2_160 = 1 := i_inj (hw_s2_159.trans (by decide))
      subst ew_
      have hs_ : wsel ((txb ct z.toInt) s0.toInt) ((txb ct z.toInt) (s0.toInt + 1)) = 7 := ws_7 (by omega)
      have hq_ : qj (txb ct z.toInt) s0.toInt 7 = 0 := wp3_0 (by omega)
      have hv_ := wd_f hs_ (Or.inr (fun h_ => absurd (hq_.symm.trans h_) (by decide)))
      exact lt_m_readsAct_c1 l D cI cZ cS cR N0 g h s0 rz wt na pa z t ct nv r_h r_na n_na r_pa n_pa r_wt n_wt r_t n_t r_nv n_nv krz ks0 kw0 kwt kna kpa kz kt knv l_rz u_rz l_s0 u_s0 hN_0 hWT_0 l_z u_z hc_0 hB hr   g_158 (7 : Int32) s2_159 H locs ls hT hI hE hM (by decide) (by decide) (by omega) (by omega) kn_177 f_162 f_163 hN hc hWT hU0 hU1 hU2 (ac_n hv_.1 (by have q_ := hv_.2; rw [hq_] at q_; omega)) (lv_sub hl [1, 2] rfl)
  · have c_27' : r_19.toInt ≠ 105 := i_ne c_27 rfl (by decide)
    refine lv_iinc (v := 8) (lv' := [(1, .int 8), (0, .ref h)]) hx hb dX7_readsAct_59 hl (k := 0) rfl (by decide) (by decide) rfl (fun ls hl => ?_)
    refine lv_goto (tgt := 34) hx hb dX7_readsAct_62 (by decide) ?_
    exact lt_m_readsAct_w8 l D cI cZ cS cR N0 g h s0 rz wt na pa z t ct nv r_h r_na n_na r_pa n_pa r_wt n_wt r_t n_t r_nv n_nv krz ks0 kw0 kwt kna kpa kz kt knv l_rz u_rz l_s0 u_s0 hN_0 hWT_0 l_z u_z hc_0 hB hr   g1 H locs ls hT hI hE hM kp0 kp1 kp2 hN hc hWT hU0 hU1 hU2 (by omega) (lv_sub hl [0, 1] rfl)
set_option maxHeartbeats 4000000 in
set_option maxRecDepth 100000 in
theorem lt_m_readsAct_w6 (l : Launch) (D : va_G) (cI cZ cS cR : ClassId) (N0 : NT) (g : GS) (h : Nat) (s0 : Int32) (rz : Int32) (wt : Nat) (na : Nat) (pa : Nat) (z : Int32) (t : Nat) (ct : Nat → Int32) (nv : Nat) (r_h : g.1 h = 8) (r_na : g.1 na = 84) (n_na : g.2.2.1 na = 8) (r_pa : g.1 pa = 85) (n_pa : g.2.2.1 pa = 8) (r_wt : g.1 wt = 87) (n_wt : g.2.2.1 wt = 24) (r_t : g.1 t = 79) (n_t : g.2.2.1 t = 100) (r_nv : g.1 nv = 86) (n_nv : g.2.2.1 nv = 8) (krz : g.2.1 h 38 = .int rz) (ks0 : g.2.1 h 36 = .int s0) (kw0 : g.2.1 h 37 = .int 0) (kwt : g.2.1 h 42 = .ref wt) (kna : g.2.1 h 39 = .ref na) (kpa : g.2.1 h 40 = .ref pa) (kz : g.2.1 h 29 = .int z) (kt : g.2.1 h 28 = .ref t) (knv : g.2.1 h 41 = .ref nv) (l_rz : 0 ≤ rz.toInt) (u_rz : rz.toInt ≤ 7) (l_s0 : 0 ≤ s0.toInt) (u_s0 : s0.toInt ≤ 100) (hN_0 : PL 8 g na pa) (hWT_0 : WT g wt) (l_z : 0 ≤ z.toInt) (u_z : z.toInt ≤ 100) (hc_0 : g.2.2.2.1 t = ct) {p : Program} {e : Env} {s : State} {m : MethodId} {args : Array Value} {below : List Frame} {meth : Method} {c : Code} (hB : Tz p s m meth c args cX7_readsAct 4 RX7 D cI cZ cS cR N0) (hr : meth.sig.returnType = none)    : ∀ (g1 : GS)   (H : Heap) (locs : List Loc) (ls : Array Slot), Tv D cI cZ cS cR N0 s.heap H locs g1 → Inv g1 → Ex g g1 → Sm md_m_readsAct g g1 → g1.2.1 h 38 = .int rz → g1.2.1 h 36 = .int s0 → g1.2.1 h 37 = .int 0 → (PL 8 g1 na pa) → (g1.2.2.2.1 t = ct) → (WT g1 wt) → (UP g1 na (g.2.2.2.1 na) false rz.toNatClampNeg 0) → (UP g1 pa (g.2.2.2.1 pa) false rz.toNatClampNeg 0) → (UP g1 nv (g.2.2.2.1 nv) false rz.toNatClampNeg 0) → (¬ ((txb ct z.toInt) s0.toInt = 97 ∧ (txb ct z.toInt) (s0.toInt + 1) = 115) ∧ (txb ct z.toInt) s0.toInt ≠ 115 ∧ (txb ct z.toInt) s0.toInt ≠ 97 ∧ (txb ct z.toInt) s0.toInt ≠ 109 ∧ (txb ct z.toInt) s0.toInt ≠ 110 ∧ (txb ct z.toInt) s0.toInt ≠ 103 ∧ (txb ct z.toInt) s0.toInt ≠ 97) → lv_has ls 4 [(1, .int 6), (0, .ref h)] → W p l e (rmx 2 0 0) s m args below meth c H locs 0 0 (MQ below (tQ D cI cZ cS cR N0 (fun v g' => ∃ (z2 : Int32) (s2 : Int32) (w2 : Int32) (w_ : Int32) (c_ : Int32) (v_ : Int32), v = none ∧ Inv g' ∧ Ex g g' ∧ Sm md_m_readsAct g g' ∧ ((w2 = 1 ∧ ac (txb ct z.toInt) s0.toInt = (false, s2.toInt)) ∨ (w2 = 0 ∧ ac (txb ct z.toInt) s0.toInt = (true, s2.toInt) ∧ s2.toInt ≤ z.toInt ∧ w_.toInt = wdr (txb ct z.toInt) s0.toInt ∧ c_.toInt = acc (txb ct z.toInt) s0.toInt ∧ v_.toInt = acv (txb ct z.toInt) s0.toInt)) ∧ (g'.2.1 h 38 = .int z2) ∧ (z2.toInt = rz.toInt + 1) ∧ (PL 8 g' na pa) ∧ (g'.2.1 h 36 = .int s2) ∧ (g'.2.1 h 37 = .int w2) ∧ (0 ≤ s2.toInt ∧ s2.toInt ≤ 100) ∧ (UP g' na (g.2.2.2.1 na) true rz.toNatClampNeg w_) ∧ (UP g' pa (g.2.2.2.1 pa) true rz.toNatClampNeg c_) ∧ (UP g' nv (g.2.2.2.1 nv) true rz.toNatClampNeg v_))) args s 0 0 (fun q => N0.1 ≤ q)) (F0 m 34 ls []) := by
  have hx := hB.1
  have hb := hB.2.1
  intro g1 H locs ls hT hI hE hM kp0 kp1 kp2 hN hc hWT hU0 hU1 hU2 hS hl
  have r_1 : g1.1 h = 8 := Ex.r hE r_h (by decide)
  have r_2 : g1.1 na = 84 := Ex.r hE r_na (by decide)
  have n_3 : g1.2.2.1 na = 8 := Ex.n hE r_na (by decide) n_na
  have r_4 : g1.1 pa = 85 := Ex.r hE r_pa (by decide)
  have n_5 : g1.2.2.1 pa = 8 := Ex.n hE r_pa (by decide) n_pa
  have r_6 : g1.1 wt = 87 := Ex.r hE r_wt (by decide)
  have n_7 : g1.2.2.1 wt = 24 := Ex.n hE r_wt (by decide) n_wt
  have r_8 : g1.1 t = 79 := Ex.r hE r_t (by decide)
  have n_9 : g1.2.2.1 t = 100 := Ex.n hE r_t (by decide) n_t
  have r_10 : g1.1 nv = 86 := Ex.r hE r_nv (by decide)
  have n_11 : g1.2.2.1 nv = 8 := Ex.n hE r_nv (by decide) n_nv
  have kn_12 : g1.2.1 h 42 = .ref wt := Sm.v hM r_h (by decide) rfl kwt
  have kn_13 : g1.2.1 h 39 = .ref na := Sm.v hM r_h (by decide) rfl kna
  have kn_14 : g1.2.1 h 40 = .ref pa := Sm.v hM r_h (by decide) rfl kpa
  have kn_15 : g1.2.1 h 29 = .int z := Sm.v hM r_h (by decide) rfl kz
  have kn_16 : g1.2.1 h 28 = .ref t := Sm.v hM r_h (by decide) rfl kt
  have kn_17 : g1.2.1 h 41 = .ref nv := Sm.v hM r_h (by decide) rfl knv
  refine lv_iload_n hx hb dX7_readsAct_34 rfl (lv_at hl 0 rfl) ?_
  refine lv_bipush (v := 8) hx hb dX7_readsAct_35 (by decide) ?_
  refine lv_icmp_ge (tgt := 65) hx hb dX7_readsAct_37 (by decide) (fun c_ => absurd c_ (by decide)) (fun c_ => ?_)
  refine lv_aload_n hx hb dX7_readsAct_40 rfl (lv_at hl 1 rfl) ?_
  refine lv_aload_n hx hb dX7_readsAct_41 rfl (lv_at hl 1 rfl) ?_
  refine t_get (ci := 7) (v := .int s0) hB hT (ro_ci r_1 rfl) rfl 36 (by decide) k_781 kp1 dX7_readsAct_42 ?_
  refine t_callV (n := 1) (As := [.int s0]) (rest := []) (ci := 7) hB hT hl.1 (m_byteAt l D cI cZ cS cR N0 g1 hI h s0 z t ct r_1 r_8 n_9 kn_15 kn_16 (by omega) (by omega) (by omega) (by omega) hc) (ro_ci r_1 rfl) rfl k_971 k_65 k_968 k_970 k_23 (by decide +kernel) ⟨(Nat.le_of_ble_eq_true rfl), (Nat.le_of_ble_eq_true rfl)⟩ rfl (Nat.le_of_ble_eq_true rfl) ⟨(Nat.le_of_ble_eq_true rfl), (Nat.le_of_ble_eq_true rfl)⟩ dX7_readsAct_45 (fun v g_18 H locs hp hT => ?_)
  obtain ⟨r_19, rfl, eg, f_20, f_21, f_22⟩ := hp
  rw [eg] at hT
  clear eg
  refine W.eq (g2 := F0 m 48 ls [.int r_19]) rfl ?_
  refine lv_aload_n hx hb dX7_readsAct_48 rfl (lv_at hl 1 rfl) ?_
  refine t_get (ci := 7) (v := .ref wt) hB hT (ro_ci r_1 rfl) rfl 42 (by decide) k_787 kn_12 dX7_readsAct_49 ?_
  refine lv_iconst (v := 3) hx hb dX7_readsAct_52 (by decide) ?_
  refine lv_iload_n hx hb dX7_readsAct_53 rfl (lv_at hl 0 rfl) ?_
  refine lv_imul hx hb dX7_readsAct_54 ?_
  refine x_ev (y := 18) (by decide) ?_
  have kw_25 : g1.2.2.2.1 wt (18 : Int32).toNatClampNeg = 100 := (hWT (18 : Int32).toNatClampNeg (by decide)).trans (by decide)
  have i_u_26 : vp_in (18 : Int32) 24 := (by unfold vp_in; decide)
  refine t_iald (v := (100 : Int32)) hB hT (ro_in r_6 (by decide)) n_7 i_u_26 kw_25 dX7_readsAct_55 ?_
  refine lv_icmp_eq (tgt := 65) hx hb dX7_readsAct_56 (by decide) (fun c_27 => ?_) (fun c_27 => ?_)
  · have c_27' : r_19.toInt = 100 := i_eq c_27 rfl (by decide)
    refine lv_aload_n hx hb dX7_readsAct_65 rfl (lv_at hl 1 rfl) ?_
    refine lv_aload_n hx hb dX7_readsAct_66 rfl (lv_at hl 1 rfl) ?_
    refine t_get (ci := 7) (v := .int 0) hB hT (ro_ci r_1 rfl) rfl 37 (by decide) k_782 kp2 dX7_readsAct_67 ?_
    refine lv_if_ne (tgt := 79) hx hb dX7_readsAct_70 (by decide) (fun c_ => absurd (by decide) c_) (fun c_ => ?_)
    refine lv_iload_n hx hb dX7_readsAct_73 rfl (lv_at hl 0 rfl) ?_
    refine lv_bipush (v := 8) hx hb dX7_readsAct_74 (by decide) ?_
    refine lv_icmp_ne (tgt := 83) hx hb dX7_readsAct_76 (by decide) (fun c_ => ?_) (fun c_ => absurd c_ (by decide))
    refine lv_iconst (v := 0) hx hb dX7_readsAct_83 (by decide) ?_
    refine t_put0 (ci := 7) (v := .int 0) hB hT (ro_ci r_1 rfl) (ro_n0 r_1 (by decide)) rfl 37 (by decide) k_782 (Or.inl rfl) rfl rfl dX7_readsAct_84 (fun H locs hT => ?_)
    have hI : Inv (sF g1 h 37 (.int 0)) := hI.sF (p_8_37 r_1 (⟨_, rfl, by decide, by decide⟩))
    have hM : Sm md_m_readsAct g (sF g1 h 37 (.int 0)) := hM.tr hE (Sm_sF (by rw [r_1]; rfl))
    have hE : Ex g (sF g1 h 37 (.int 0)) := hE
    have hN : PL 8 (sF g1 h 37 (.int 0)) na pa := hN
    have hc : (sF g1 h 37 (.int 0)).2.2.2.1 t = ct := hc
    have hWT : WT (sF g1 h 37 (.int 0)) wt := hWT
    have hU0 : UP (sF g1 h 37 (.int 0)) na (g.2.2.2.1 na) false rz.toNatClampNeg 0 := hU0
    have hU1 : UP (sF g1 h 37 (.int 0)) pa (g.2.2.2.1 pa) false rz.toNatClampNeg 0 := hU1
    have hU2 : UP (sF g1 h 37 (.int 0)) nv (g.2.2.2.1 nv) false rz.toNatClampNeg 0 := hU2
    refine lv_iconst (v := 0) hx hb dX7_readsAct_87 (by decide) ?_
    refine lv_istore_n (lv' := [(2, .int 0), (1, .int 6), (0, .ref h)]) hx hb dX7_readsAct_88 rfl hl (by decide) rfl (fun ls hl => ?_)
    refine lv_iload_n hx hb dX7_readsAct_89 rfl (lv_at hl 0 rfl) ?_
    refine lv_iconst (v := 3) hx hb dX7_readsAct_90 (by decide) ?_
    refine lv_icmp_ge (tgt := 134) hx hb dX7_readsAct_91 (by decide) (fun c_ => absurd c_ (by decide)) (fun c_ => ?_)
    refine lv_aload_n hx hb dX7_readsAct_94 rfl (lv_at hl 2 rfl) ?_
    refine t_get (ci := 7) (v := .int 0) hB hT (ro_ci r_1 rfl) rfl 37 (by decide) k_782 sF_eq dX7_readsAct_95 ?_
    refine lv_if_ne (tgt := 134) hx hb dX7_readsAct_98 (by decide) (fun c_ => absurd (by decide) c_) (fun c_ => ?_)
    refine lv_aload_n hx hb dX7_readsAct_101 rfl (lv_at hl 2 rfl) ?_
    refine t_get (ci := 7) (v := .ref wt) hB hT (ro_ci r_1 rfl) rfl 42 (by decide) k_787 (sF_k kn_12 (by decide)) dX7_readsAct_102 ?_
    refine lv_iconst (v := 3) hx hb dX7_readsAct_105 (by decide) ?_
    refine lv_iload_n hx hb dX7_readsAct_106 rfl (lv_at hl 1 rfl) ?_
    refine lv_imul hx hb dX7_readsAct_107 ?_
    refine x_ev (y := 18) (by decide) ?_
    refine lv_iload_n hx hb dX7_readsAct_108 rfl (lv_at hl 0 rfl) ?_
    refine lv_iadd hx hb dX7_readsAct_109 ?_
    refine x_ev (y := 18) (by decide) ?_
    have kw_28 : (sF g1 h 37 (.int 0)).2.2.2.1 wt (18 : Int32).toNatClampNeg = 100 := (hWT (18 : Int32).toNatClampNeg (by decide)).trans (by decide)
    have i_u_29 : vp_in (18 : Int32) 24 := (by unfold vp_in; decide)
    refine t_iald (v := (100 : Int32)) hB hT (ro_in r_6 (by decide)) n_7 i_u_29 kw_28 dX7_readsAct_110 ?_
    refine lv_if_eq (tgt := 128) hx hb dX7_readsAct_111 (by decide) (fun c_ => absurd c_ (by decide)) (fun c_ => ?_)
    refine lv_aload_n hx hb dX7_readsAct_114 rfl (lv_at hl 2 rfl) ?_
    refine lv_aload_n hx hb dX7_readsAct_115 rfl (lv_at hl 2 rfl) ?_
    refine t_get (ci := 7) (v := .ref wt) hB hT (ro_ci r_1 rfl) rfl 42 (by decide) k_787 (sF_k kn_12 (by decide)) dX7_readsAct_116 ?_
    refine lv_iconst (v := 3) hx hb dX7_readsAct_119 (by decide) ?_
    refine lv_iload_n hx hb dX7_readsAct_120 rfl (lv_at hl 1 rfl) ?_
    refine lv_imul hx hb dX7_readsAct_121 ?_
    refine x_ev (y := 18) (by decide) ?_
    refine lv_iload_n hx hb dX7_readsAct_122 rfl (lv_at hl 0 rfl) ?_
    refine lv_iadd hx hb dX7_readsAct_123 ?_
    refine x_ev (y := 18) (by decide) ?_
    have kw_30 : (sF g1 h 37 (.int 0)).2.2.2.1 wt (18 : Int32).toNatClampNeg = 100 := (hWT (18 : Int32).toNatClampNeg (by decide)).trans (by decide)
    have i_u_31 : vp_in (18 : Int32) 24 := (by unfold vp_in; decide)
    refine t_iald (v := (100 : Int32)) hB hT (ro_in r_6 (by decide)) n_7 i_u_31 kw_30 dX7_readsAct_124 ?_
    refine t_callV (n := 1) (As := [.int 100]) (rest := []) (ci := 7) hB hT hl.1 (m_must l D cI cZ cS cR N0 (sF g1 h 37 (.int 0)) hI h 100 s0 0 z t ct r_1 r_8 n_9 (sF_k kp1 (by decide)) sF_eq (sF_k kn_15 (by decide)) (sF_k kn_16 (by decide)) (by have q0 : (0 : Int32).toInt = 0 := (by decide); have q1 : (100 : Int32).toInt = 100 := (by decide); omega) (by have q0 : (0 : Int32).toInt = 0 := (by decide); have q1 : (100 : Int32).toInt = 100 := (by decide); omega) (by have q0 : (0 : Int32).toInt = 0 := (by decide); have q1 : (100 : Int32).toInt = 100 := (by decide); omega) (by have q0 : (0 : Int32).toInt = 0 := (by decide); have q1 : (100 : Int32).toInt = 100 := (by decide); omega) (by have q0 : (0 : Int32).toInt = 0 := (by decide); have q1 : (100 : Int32).toInt = 100 := (by decide); omega) (by have q0 : (0 : Int32).toInt = 0 := (by decide); have q1 : (100 : Int32).toInt = 100 := (by decide); omega) (by have q0 : (0 : Int32).toInt = 0 := (by decide); have q1 : (100 : Int32).toInt = 100 := (by decide); omega) hc) (ro_ci r_1 rfl) rfl k_975 k_65 k_972 k_974 k_24 (by decide +kernel) ⟨(Nat.le_of_ble_eq_true rfl), (Nat.le_of_ble_eq_true rfl)⟩ rfl (Nat.le_of_ble_eq_true rfl) ⟨(Nat.le_of_ble_eq_true rfl), (Nat.le_of_ble_eq_true rfl)⟩ dX7_readsAct_125 (fun v g_32 H locs hp hT => ?_)
    obtain ⟨s2_33, w2_34, rfl, hI, x_39, m_38, f_35, f_36, f_37⟩ := hp
    have hN : PL 8 g_32 na pa := hN.sm m_38 r_2 (by decide) rfl r_4 (by decide) rfl
    have hc : g_32.2.2.2.1 t = ct := (Sm.cf m_38 r_8 (by decide) rfl).trans hc
    have hWT : WT g_32 wt := hWT.sm m_38 r_6 (by decide) rfl
    have hU0 : UP g_32 na (g.2.2.2.1 na) false rz.toNatClampNeg 0 := hU0.sm m_38 r_2 (by decide) rfl
    have hU1 : UP g_32 pa (g.2.2.2.1 pa) false rz.toNatClampNeg 0 := hU1.sm m_38 r_4 (by decide) rfl
    have hU2 : UP g_32 nv (g.2.2.2.1 nv) false rz.toNatClampNeg 0 := hU2.sm m_38 r_10 (by decide) rfl
    have hM : Sm md_m_readsAct g g_32 := hM.tr hE (m_38.mo (fun r k h => mdle_m_readsAct_m_must h))
    have hE : Ex g g_32 := hE.tr x_39
    have r_40 : g_32.1 h = 8 := (Ex.r x_39 r_1 (by decide))
    have r_41 : g_32.1 na = 84 := (Ex.r x_39 r_2 (by decide))
    have r_42 : g_32.1 pa = 85 := (Ex.r x_39 r_4 (by decide))
    have r_43 : g_32.1 wt = 87 := (Ex.r x_39 r_6 (by decide))
    have r_44 : g_32.1 t = 79 := (Ex.r x_39 r_8 (by decide))
    have r_45 : g_32.1 nv = 86 := (Ex.r x_39 r_10 (by decide))
    have n_46 : g_32.2.2.1 na = 8 := (Ex.n x_39 r_2 (by decide) n_3)
    have n_47 : g_32.2.2.1 pa = 8 := (Ex.n x_39 r_4 (by decide) n_5)
    have n_48 : g_32.2.2.1 wt = 24 := (Ex.n x_39 r_6 (by decide) n_7)
    have n_49 : g_32.2.2.1 t = 100 := (Ex.n x_39 r_8 (by decide) n_9)
    have n_50 : g_32.2.2.1 nv = 8 := (Ex.n x_39 r_10 (by decide) n_11)
    have kn_51 : g_32.2.1 h 38 = .int rz := (Sm.v m_38 r_1 (by decide) rfl (sF_k kp0 (by decide)))
    have kn_52 : g_32.2.1 h 42 = .ref wt := (Sm.v m_38 r_1 (by decide) rfl (sF_k kn_12 (by decide)))
    have kn_53 : g_32.2.1 h 39 = .ref na := (Sm.v m_38 r_1 (by decide) rfl (sF_k kn_13 (by decide)))
    have kn_54 : g_32.2.1 h 40 = .ref pa := (Sm.v m_38 r_1 (by decide) rfl (sF_k kn_14 (by decide)))
    have kn_55 : g_32.2.1 h 29 = .int z := (Sm.v m_38 r_1 (by decide) rfl (sF_k kn_15 (by decide)))
    have kn_56 : g_32.2.1 h 28 = .ref t := (Sm.v m_38 r_1 (by decide) rfl (sF_k kn_16 (by decide)))
    have kn_57 : g_32.2.1 h 41 = .ref nv := (Sm.v m_38 r_1 (by decide) rfl (sF_k kn_17 (by decide)))
    have kn_58 : g_32.2.2.2.1 wt (18 : Int32).toNatClampNeg = 100 := (Sm.c m_38 r_6 (by decide) rfl kw_30)
    refine W.eq (g2 := F0 m 128 ls []) rfl ?_
    have qc_59 : (0 : Int32).toInt = 0 := (by decide)
    have qc_60 : (100 : Int32).toInt = 100 := (by decide)
    rcases f_35 with ⟨hx_, -⟩ | ⟨-, ht_s2_33, hs_s2_33, hz_s2_33, hw_s2_33⟩ | ⟨-, ht_s2_33, hs_s2_33, hw_s2_33⟩
    · exact absurd hx_ (by decide)
    · have ew_ : w2_34 = 0 := i_inj (hw_s2_33.trans (by decide))
      subst ew_
      refine lv_iinc (v := 1) (lv' := [(2, .int 1), (1, .int 6), (0, .ref h)]) hx hb dX7_readsAct_128 hl (k := 0) rfl (by decide) (by decide) rfl (fun ls hl => ?_)
      refine lv_goto (tgt := 89) hx hb dX7_readsAct_131 (by decide) ?_
      refine lv_iload_n hx hb dX7_readsAct_89 rfl (lv_at hl 0 rfl) ?_
      refine lv_iconst (v := 3) hx hb dX7_readsAct_90 (by decide) ?_
      refine lv_icmp_ge (tgt := 134) hx hb dX7_readsAct_91 (by decide) (fun c_ => absurd c_ (by decide)) (fun c_ => ?_)
      refine lv_aload_n hx hb dX7_readsAct_94 rfl (lv_at hl 2 rfl) ?_
      refine t_get (ci := 7) (v := .int 0) hB hT (ro_ci r_40 rfl) rfl 37 (by decide) k_782 f_37 dX7_readsAct_95 ?_
      refine lv_if_ne (tgt := 134) hx hb dX7_readsAct_98 (by decide) (fun c_ => absurd (by decide) c_) (fun c_ => ?_)
      refine lv_aload_n hx hb dX7_readsAct_101 rfl (lv_at hl 2 rfl) ?_
      refine t_get (ci := 7) (v := .ref wt) hB hT (ro_ci r_40 rfl) rfl 42 (by decide) k_787 kn_52 dX7_readsAct_102 ?_
      refine lv_iconst (v := 3) hx hb dX7_readsAct_105 (by decide) ?_
      refine lv_iload_n hx hb dX7_readsAct_106 rfl (lv_at hl 1 rfl) ?_
      refine lv_imul hx hb dX7_readsAct_107 ?_
      refine x_ev (y := 18) (by decide) ?_
      refine lv_iload_n hx hb dX7_readsAct_108 rfl (lv_at hl 0 rfl) ?_
      refine lv_iadd hx hb dX7_readsAct_109 ?_
      refine x_ev (y := 19) (by decide) ?_
      have kw_61 : g_32.2.2.2.1 wt (19 : Int32).toNatClampNeg = 111 := (hWT (19 : Int32).toNatClampNeg (by decide)).trans (by decide)
      have i_u_62 : vp_in (19 : Int32) 24 := (by unfold vp_in; decide)
      refine t_iald (v := (111 : Int32)) hB hT (ro_in r_43 (by decide)) n_48 i_u_62 kw_61 dX7_readsAct_110 ?_
      refine lv_if_eq (tgt := 128) hx hb dX7_readsAct_111 (by decide) (fun c_ => absurd c_ (by decide)) (fun c_ => ?_)
      refine lv_aload_n hx hb dX7_readsAct_114 rfl (lv_at hl 2 rfl) ?_
      refine lv_aload_n hx hb dX7_readsAct_115 rfl (lv_at hl 2 rfl) ?_
      refine t_get (ci := 7) (v := .ref wt) hB hT (ro_ci r_40 rfl) rfl 42 (by decide) k_787 kn_52 dX7_readsAct_116 ?_
      refine lv_iconst (v := 3) hx hb dX7_readsAct_119 (by decide) ?_
      refine lv_iload_n hx hb dX7_readsAct_120 rfl (lv_at hl 1 rfl) ?_
      refine lv_imul hx hb dX7_readsAct_121 ?_
      refine x_ev (y := 18) (by decide) ?_
      refine lv_iload_n hx hb dX7_readsAct_122 rfl (lv_at hl 0 rfl) ?_
      refine lv_iadd hx hb dX7_readsAct_123 ?_
      refine x_ev (y := 19) (by decide) ?_
      have kw_63 : g_32.2.2.2.1 wt (19 : Int32).toNatClampNeg = 111 := (hWT (19 : Int32).toNatClampNeg (by decide)).trans (by decide)
      have i_u_64 : vp_in (19 : Int32) 24 := (by unfold vp_in; decide)
      refine t_iald (v := (111 : Int32)) hB hT (ro_in r_43 (by decide)) n_48 i_u_64 kw_63 dX7_readsAct_124 ?_
      refine t_callV (n := 1) (As := [.int 111]) (rest := []) (ci := 7) hB hT hl.1 (m_must l D cI cZ cS cR N0 g_32 hI h 111 s2_33 0 z t ct r_40 r_44 n_49 f_36 f_37 kn_55 kn_56 (by have q0 : (0 : Int32).toInt = 0 := (by decide); have q1 : (111 : Int32).toInt = 111 := (by decide); omega) (by have q0 : (0 : Int32).toInt = 0 := (by decide); have q1 : (111 : Int32).toInt = 111 := (by decide); omega) (by have q0 : (0 : Int32).toInt = 0 := (by decide); have q1 : (111 : Int32).toInt = 111 := (by decide); omega) (by have q0 : (0 : Int32).toInt = 0 := (by decide); have q1 : (111 : Int32).toInt = 111 := (by decide); omega) (by have q0 : (0 : Int32).toInt = 0 := (by decide); have q1 : (111 : Int32).toInt = 111 := (by decide); omega) (by have q0 : (0 : Int32).toInt = 0 := (by decide); have q1 : (111 : Int32).toInt = 111 := (by decide); omega) (by have q0 : (0 : Int32).toInt = 0 := (by decide); have q1 : (111 : Int32).toInt = 111 := (by decide); omega) hc) (ro_ci r_40 rfl) rfl k_975 k_65 k_972 k_974 k_24 (by decide +kernel) ⟨(Nat.le_of_ble_eq_true rfl), (Nat.le_of_ble_eq_true rfl)⟩ rfl (Nat.le_of_ble_eq_true rfl) ⟨(Nat.le_of_ble_eq_true rfl), (Nat.le_of_ble_eq_true rfl)⟩ dX7_readsAct_125 (fun v g_65 H locs hp hT => ?_)
      obtain ⟨s2_66, w2_67, rfl, hI, x_72, m_71, f_68, f_69, f_70⟩ := hp
      have hN : PL 8 g_65 na pa := hN.sm m_71 r_41 (by decide) rfl r_42 (by decide) rfl
      have hc : g_65.2.2.2.1 t = ct := (Sm.cf m_71 r_44 (by decide) rfl).trans hc
      have hWT : WT g_65 wt := hWT.sm m_71 r_43 (by decide) rfl
      have hU0 : UP g_65 na (g.2.2.2.1 na) false rz.toNatClampNeg 0 := hU0.sm m_71 r_41 (by decide) rfl
      have hU1 : UP g_65 pa (g.2.2.2.1 pa) false rz.toNatClampNeg 0 := hU1.sm m_71 r_42 (by decide) rfl
      have hU2 : UP g_65 nv (g.2.2.2.1 nv) false rz.toNatClampNeg 0 := hU2.sm m_71 r_45 (by decide) rfl
      have hM : Sm md_m_readsAct g g_65 := hM.tr hE (m_71.mo (fun r k h => mdle_m_readsAct_m_must h))
      have hE : Ex g g_65 := hE.tr x_72
      have r_73 : g_65.1 h = 8 := (Ex.r x_72 r_40 (by decide))
      have r_74 : g_65.1 na = 84 := (Ex.r x_72 r_41 (by decide))
      have r_75 : g_65.1 pa = 85 := (Ex.r x_72 r_42 (by decide))
      have r_76 : g_65.1 wt = 87 := (Ex.r x_72 r_43 (by decide))
      have r_77 : g_65.1 t = 79 := (Ex.r x_72 r_44 (by decide))
      have r_78 : g_65.1 nv = 86 := (Ex.r x_72 r_45 (by decide))
      have n_79 : g_65.2.2.1 na = 8 := (Ex.n x_72 r_41 (by decide) n_46)
      have n_80 : g_65.2.2.1 pa = 8 := (Ex.n x_72 r_42 (by decide) n_47)
      have n_81 : g_65.2.2.1 wt = 24 := (Ex.n x_72 r_43 (by decide) n_48)
      have n_82 : g_65.2.2.1 t = 100 := (Ex.n x_72 r_44 (by decide) n_49)
      have n_83 : g_65.2.2.1 nv = 8 := (Ex.n x_72 r_45 (by decide) n_50)
      have kn_84 : g_65.2.1 h 38 = .int rz := (Sm.v m_71 r_40 (by decide) rfl kn_51)
      have kn_85 : g_65.2.1 h 42 = .ref wt := (Sm.v m_71 r_40 (by decide) rfl kn_52)
      have kn_86 : g_65.2.1 h 39 = .ref na := (Sm.v m_71 r_40 (by decide) rfl kn_53)
      have kn_87 : g_65.2.1 h 40 = .ref pa := (Sm.v m_71 r_40 (by decide) rfl kn_54)
      have kn_88 : g_65.2.1 h 29 = .int z := (Sm.v m_71 r_40 (by decide) rfl kn_55)
      have kn_89 : g_65.2.1 h 28 = .ref t := (Sm.v m_71 r_40 (by decide) rfl kn_56)
      have kn_90 : g_65.2.1 h 41 = .ref nv := (Sm.v m_71 r_40 (by decide) rfl kn_57)
      have kn_91 : g_65.2.2.2.1 wt (18 : Int32).toNatClampNeg = 100 := (Sm.c m_71 r_43 (by decide) rfl kn_58)
      have kn_92 : g_65.2.2.2.1 wt (19 : Int32).toNatClampNeg = 111 := (Sm.c m_71 r_43 (by decide) rfl kw_63)
      refine W.eq (g2 := F0 m 128 ls []) rfl ?_
      have qc_93 : (0 : Int32).toInt = 0 := (by decide)
      have qc_94 : (111 : Int32).toInt = 111 := (by decide)
      rcases f_68 with ⟨hx_, -⟩ | ⟨-, ht_s2_66, hs_s2_66, hz_s2_66, hw_s2_66⟩ | ⟨-, ht_s2_66, hs_s2_66, hw_s2_66⟩
      · exact absurd hx_ (by decide)
      · have ew_ : w2_67 = 0 := i_inj (hw_s2_66.trans (by decide))
        subst ew_
        rw [show s2_33.toInt = s0.toInt + 1 by omega] at ht_s2_66
        refine lv_iinc (v := 2) (lv' := [(2, .int 2), (1, .int 6), (0, .ref h)]) hx hb dX7_readsAct_128 hl (k := 0) rfl (by decide) (by decide) rfl (fun ls hl => ?_)
        refine lv_goto (tgt := 89) hx hb dX7_readsAct_131 (by decide) ?_
        refine lv_iload_n hx hb dX7_readsAct_89 rfl (lv_at hl 0 rfl) ?_
        refine lv_iconst (v := 3) hx hb dX7_readsAct_90 (by decide) ?_
        refine lv_icmp_ge (tgt := 134) hx hb dX7_readsAct_91 (by decide) (fun c_ => absurd c_ (by decide)) (fun c_ => ?_)
        refine lv_aload_n hx hb dX7_readsAct_94 rfl (lv_at hl 2 rfl) ?_
        refine t_get (ci := 7) (v := .int 0) hB hT (ro_ci r_73 rfl) rfl 37 (by decide) k_782 f_70 dX7_readsAct_95 ?_
        refine lv_if_ne (tgt := 134) hx hb dX7_readsAct_98 (by decide) (fun c_ => absurd (by decide) c_) (fun c_ => ?_)
        refine lv_aload_n hx hb dX7_readsAct_101 rfl (lv_at hl 2 rfl) ?_
        refine t_get (ci := 7) (v := .ref wt) hB hT (ro_ci r_73 rfl) rfl 42 (by decide) k_787 kn_85 dX7_readsAct_102 ?_
        refine lv_iconst (v := 3) hx hb dX7_readsAct_105 (by decide) ?_
        refine lv_iload_n hx hb dX7_readsAct_106 rfl (lv_at hl 1 rfl) ?_
        refine lv_imul hx hb dX7_readsAct_107 ?_
        refine x_ev (y := 18) (by decide) ?_
        refine lv_iload_n hx hb dX7_readsAct_108 rfl (lv_at hl 0 rfl) ?_
        refine lv_iadd hx hb dX7_readsAct_109 ?_
        refine x_ev (y := 20) (by decide) ?_
        have kw_95 : g_65.2.2.2.1 wt (20 : Int32).toNatClampNeg = 0 := (hWT (20 : Int32).toNatClampNeg (by decide)).trans (by decide)
        have i_u_96 : vp_in (20 : Int32) 24 := (by unfold vp_in; decide)
        refine t_iald (v := (0 : Int32)) hB hT (ro_in r_76 (by decide)) n_81 i_u_96 kw_95 dX7_readsAct_110 ?_
        refine lv_if_eq (tgt := 128) hx hb dX7_readsAct_111 (by decide) (fun c_ => ?_) (fun c_ => absurd (by decide) c_)
        refine lv_iinc (v := 3) (lv' := [(2, .int 3), (1, .int 6), (0, .ref h)]) hx hb dX7_readsAct_128 hl (k := 0) rfl (by decide) (by decide) rfl (fun ls hl => ?_)
        refine lv_goto (tgt := 89) hx hb dX7_readsAct_131 (by decide) ?_
        refine lv_iload_n hx hb dX7_readsAct_89 rfl (lv_at hl 0 rfl) ?_
        refine lv_iconst (v := 3) hx hb dX7_readsAct_90 (by decide) ?_
        refine lv_icmp_ge (tgt := 134) hx hb dX7_readsAct_91 (by decide) (fun c_ => ?_) (fun c_ => absurd (by decide) c_)
        refine lv_aload_n hx hb dX7_readsAct_134 rfl (lv_at hl 2 rfl) ?_
        refine lv_bipush (v := 32) hx hb dX7_readsAct_135 (by decide) ?_
        refine t_callV (n := 1) (As := [.int 32]) (rest := []) (ci := 7) hB hT hl.1 (m_must l D cI cZ cS cR N0 g_65 hI h 32 s2_66 0 z t ct r_73 r_77 n_82 f_69 f_70 kn_88 kn_89 (by have q0 : (0 : Int32).toInt = 0 := (by decide); have q1 : (32 : Int32).toInt = 32 := (by decide); omega) (by have q0 : (0 : Int32).toInt = 0 := (by decide); have q1 : (32 : Int32).toInt = 32 := (by decide); omega) (by have q0 : (0 : Int32).toInt = 0 := (by decide); have q1 : (32 : Int32).toInt = 32 := (by decide); omega) (by have q0 : (0 : Int32).toInt = 0 := (by decide); have q1 : (32 : Int32).toInt = 32 := (by decide); omega) (by have q0 : (0 : Int32).toInt = 0 := (by decide); have q1 : (32 : Int32).toInt = 32 := (by decide); omega) (by have q0 : (0 : Int32).toInt = 0 := (by decide); have q1 : (32 : Int32).toInt = 32 := (by decide); omega) (by have q0 : (0 : Int32).toInt = 0 := (by decide); have q1 : (32 : Int32).toInt = 32 := (by decide); omega) hc) (ro_ci r_73 rfl) rfl k_975 k_65 k_972 k_974 k_24 (by decide +kernel) ⟨(Nat.le_of_ble_eq_true rfl), (Nat.le_of_ble_eq_true rfl)⟩ rfl (Nat.le_of_ble_eq_true rfl) ⟨(Nat.le_of_ble_eq_true rfl), (Nat.le_of_ble_eq_true rfl)⟩ dX7_readsAct_137 (fun v g_97 H locs hp hT => ?_)
        obtain ⟨s2_98, w2_99, rfl, hI, x_104, m_103, f_100, f_101, f_102⟩ := hp
        have hN : PL 8 g_97 na pa := hN.sm m_103 r_74 (by decide) rfl r_75 (by decide) rfl
        have hc : g_97.2.2.2.1 t = ct := (Sm.cf m_103 r_77 (by decide) rfl).trans hc
        have hWT : WT g_97 wt := hWT.sm m_103 r_76 (by decide) rfl
        have hU0 : UP g_97 na (g.2.2.2.1 na) false rz.toNatClampNeg 0 := hU0.sm m_103 r_74 (by decide) rfl
        have hU1 : UP g_97 pa (g.2.2.2.1 pa) false rz.toNatClampNeg 0 := hU1.sm m_103 r_75 (by decide) rfl
        have hU2 : UP g_97 nv (g.2.2.2.1 nv) false rz.toNatClampNeg 0 := hU2.sm m_103 r_78 (by decide) rfl
        have hM : Sm md_m_readsAct g g_97 := hM.tr hE (m_103.mo (fun r k h => mdle_m_readsAct_m_must h))
        have hE : Ex g g_97 := hE.tr x_104
        have r_105 : g_97.1 h = 8 := (Ex.r x_104 r_73 (by decide))
        have r_106 : g_97.1 na = 84 := (Ex.r x_104 r_74 (by decide))
        have r_107 : g_97.1 pa = 85 := (Ex.r x_104 r_75 (by decide))
        have r_108 : g_97.1 wt = 87 := (Ex.r x_104 r_76 (by decide))
        have r_109 : g_97.1 t = 79 := (Ex.r x_104 r_77 (by decide))
        have r_110 : g_97.1 nv = 86 := (Ex.r x_104 r_78 (by decide))
        have n_111 : g_97.2.2.1 na = 8 := (Ex.n x_104 r_74 (by decide) n_79)
        have n_112 : g_97.2.2.1 pa = 8 := (Ex.n x_104 r_75 (by decide) n_80)
        have n_113 : g_97.2.2.1 wt = 24 := (Ex.n x_104 r_76 (by decide) n_81)
        have n_114 : g_97.2.2.1 t = 100 := (Ex.n x_104 r_77 (by decide) n_82)
        have n_115 : g_97.2.2.1 nv = 8 := (Ex.n x_104 r_78 (by decide) n_83)
        have kn_116 : g_97.2.1 h 38 = .int rz := (Sm.v m_103 r_73 (by decide) rfl kn_84)
        have kn_117 : g_97.2.1 h 42 = .ref wt := (Sm.v m_103 r_73 (by decide) rfl kn_85)
        have kn_118 : g_97.2.1 h 39 = .ref na := (Sm.v m_103 r_73 (by decide) rfl kn_86)
        have kn_119 : g_97.2.1 h 40 = .ref pa := (Sm.v m_103 r_73 (by decide) rfl kn_87)
        have kn_120 : g_97.2.1 h 29 = .int z := (Sm.v m_103 r_73 (by decide) rfl kn_88)
        have kn_121 : g_97.2.1 h 28 = .ref t := (Sm.v m_103 r_73 (by decide) rfl kn_89)
        have kn_122 : g_97.2.1 h 41 = .ref nv := (Sm.v m_103 r_73 (by decide) rfl kn_90)
        have kn_123 : g_97.2.2.2.1 wt (18 : Int32).toNatClampNeg = 100 := (Sm.c m_103 r_76 (by decide) rfl kn_91)
        have kn_124 : g_97.2.2.2.1 wt (19 : Int32).toNatClampNeg = 111 := (Sm.c m_103 r_76 (by decide) rfl kn_92)
        have kn_125 : g_97.2.2.2.1 wt (20 : Int32).toNatClampNeg = 0 := (Sm.c m_103 r_76 (by decide) rfl kw_95)
        refine W.eq (g2 := F0 m 140 ls []) rfl ?_
        have qc_126 : (0 : Int32).toInt = 0 := (by decide)
        have qc_127 : (32 : Int32).toInt = 32 := (by decide)
        rcases f_100 with ⟨hx_, -⟩ | ⟨-, ht_s2_98, hs_s2_98, hz_s2_98, hw_s2_98⟩ | ⟨-, ht_s2_98, hs_s2_98, hw_s2_98⟩
        · exact absurd hx_ (by decide)
        · have ew_ : w2_99 = 0 := i_inj (hw_s2_98.trans (by decide))
          subst ew_
          rw [show s2_66.toInt = s0.toInt + 2 by omega] at ht_s2_98
          have hv_ := wo_6 (T := (txb ct z.toInt)) (p := s0.toInt) ⟨by omega, by omega, by omega⟩
          exact lt_m_readsAct_c0 l D cI cZ cS cR N0 g h s0 rz wt na pa z t ct nv r_h r_na n_na r_pa n_pa r_wt n_wt r_t n_t r_nv n_nv krz ks0 kw0 kwt kna kpa kz kt knv l_rz u_rz l_s0 u_s0 hN_0 hWT_0 l_z u_z hc_0 hB hr   g_97 (6 : Int32) s2_98 H locs ls hT hI hE hM (by decide) (by decide) (by omega) (by omega) kn_116 f_101 f_102 hN hc hWT hU0 hU1 hU2 ⟨by decide, hv_.1.trans (by decide), (by have q_ := hv_.2; omega), by omega⟩ (lv_sub hl [1, 2] rfl)
        · have ew_ : w2_99 = 1 := i_inj (hw_s2_98.trans (by decide))
          subst ew_
          rw [show s2_66.toInt = s0.toInt + 2 by omega] at ht_s2_98
          have hs_ : wsel ((txb ct z.toInt) s0.toInt) ((txb ct z.toInt) (s0.toInt + 1)) = 6 := ws_6 (by omega)
          have hq_ : qj (txb ct z.toInt) s0.toInt 6 = 2 := wp3_2 (by omega) (by omega) (by omega)
          have hv_ := wd_f hs_ (Or.inr (fun h_ => absurd (hq_.symm.trans h_) (by decide)))
          exact lt_m_readsAct_c1 l D cI cZ cS cR N0 g h s0 rz wt na pa z t ct nv r_h r_na n_na r_pa n_pa r_wt n_wt r_t n_t r_nv n_nv krz ks0 kw0 kwt kna kpa kz kt knv l_rz u_rz l_s0 u_s0 hN_0 hWT_0 l_z u_z hc_0 hB hr   g_97 (6 : Int32) s2_98 H locs ls hT hI hE hM (by decide) (by decide) (by omega) (by omega) kn_116 f_101 f_102 hN hc hWT hU0 hU1 hU2 (ac_n hv_.1 (by have q_ := hv_.2; rw [hq_] at q_; omega)) (lv_sub hl [1, 2] rfl)
      · have ew_ : w2_67 = 1 := i_inj (hw_s2_66.trans (by decide))
        subst ew_
        rw [show s2_33.toInt = s0.toInt + 1 by omega] at ht_s2_66
        refine lv_iinc (v := 2) (lv' := [(2, .int 2), (1, .int 6), (0, .ref h)]) hx hb dX7_readsAct_128 hl (k := 0) rfl (by decide) (by decide) rfl (fun ls hl => ?_)
        refine lv_goto (tgt := 89) hx hb dX7_readsAct_131 (by decide) ?_
        refine lv_iload_n hx hb dX7_readsAct_89 rfl (lv_at hl 0 rfl) ?_
        refine lv_iconst (v := 3) hx hb dX7_readsAct_90 (by decide) ?_
        refine lv_icmp_ge (tgt := 134) hx hb dX7_readsAct_91 (by decide) (fun c_ => absurd c_ (by decide)) (fun c_ => ?_)
        refine lv_aload_n hx hb dX7_readsAct_94 rfl (lv_at hl 2 rfl) ?_
        refine t_get (ci := 7) (v := .int 1) hB hT (ro_ci r_73 rfl) rfl 37 (by decide) k_782 f_70 dX7_readsAct_95 ?_
        refine lv_if_ne (tgt := 134) hx hb dX7_readsAct_98 (by decide) (fun c_ => ?_) (fun c_ => absurd c_ (by decide))
        refine lv_aload_n hx hb dX7_readsAct_134 rfl (lv_at hl 2 rfl) ?_
        refine lv_bipush (v := 32) hx hb dX7_readsAct_135 (by decide) ?_
        refine t_callV (n := 1) (As := [.int 32]) (rest := []) (ci := 7) hB hT hl.1 (m_must l D cI cZ cS cR N0 g_65 hI h 32 s2_66 1 z t ct r_73 r_77 n_82 f_69 f_70 kn_88 kn_89 (by have q0 : (1 : Int32).toInt = 1 := (by decide); have q1 : (32 : Int32).toInt = 32 := (by decide); omega) (by have q0 : (1 : Int32).toInt = 1 := (by decide); have q1 : (32 : Int32).toInt = 32 := (by decide); omega) (by have q0 : (1 : Int32).toInt = 1 := (by decide); have q1 : (32 : Int32).toInt = 32 := (by decide); omega) (by have q0 : (1 : Int32).toInt = 1 := (by decide); have q1 : (32 : Int32).toInt = 32 := (by decide); omega) (by have q0 : (1 : Int32).toInt = 1 := (by decide); have q1 : (32 : Int32).toInt = 32 := (by decide); omega) (by have q0 : (1 : Int32).toInt = 1 := (by decide); have q1 : (32 : Int32).toInt = 32 := (by decide); omega) (by have q0 : (1 : Int32).toInt = 1 := (by decide); have q1 : (32 : Int32).toInt = 32 := (by decide); omega) hc) (ro_ci r_73 rfl) rfl k_975 k_65 k_972 k_974 k_24 (by decide +kernel) ⟨(Nat.le_of_ble_eq_true rfl), (Nat.le_of_ble_eq_true rfl)⟩ rfl (Nat.le_of_ble_eq_true rfl) ⟨(Nat.le_of_ble_eq_true rfl), (Nat.le_of_ble_eq_true rfl)⟩ dX7_readsAct_137 (fun v g_128 H locs hp hT => ?_)
        obtain ⟨s2_129, w2_130, rfl, hI, x_135, m_134, f_131, f_132, f_133⟩ := hp
        have hN : PL 8 g_128 na pa := hN.sm m_134 r_74 (by decide) rfl r_75 (by decide) rfl
        have hc : g_128.2.2.2.1 t = ct := (Sm.cf m_134 r_77 (by decide) rfl).trans hc
        have hWT : WT g_128 wt := hWT.sm m_134 r_76 (by decide) rfl
        have hU0 : UP g_128 na (g.2.2.2.1 na) false rz.toNatClampNeg 0 := hU0.sm m_134 r_74 (by decide) rfl
        have hU1 : UP g_128 pa (g.2.2.2.1 pa) false rz.toNatClampNeg 0 := hU1.sm m_134 r_75 (by decide) rfl
        have hU2 : UP g_128 nv (g.2.2.2.1 nv) false rz.toNatClampNeg 0 := hU2.sm m_134 r_78 (by decide) rfl
        have hM : Sm md_m_readsAct g g_128 := hM.tr hE (m_134.mo (fun r k h => mdle_m_readsAct_m_must h))
        have hE : Ex g g_128 := hE.tr x_135
        have r_136 : g_128.1 h = 8 := (Ex.r x_135 r_73 (by decide))
        have r_137 : g_128.1 na = 84 := (Ex.r x_135 r_74 (by decide))
        have r_138 : g_128.1 pa = 85 := (Ex.r x_135 r_75 (by decide))
        have r_139 : g_128.1 wt = 87 := (Ex.r x_135 r_76 (by decide))
        have r_140 : g_128.1 t = 79 := (Ex.r x_135 r_77 (by decide))
        have r_141 : g_128.1 nv = 86 := (Ex.r x_135 r_78 (by decide))
        have n_142 : g_128.2.2.1 na = 8 := (Ex.n x_135 r_74 (by decide) n_79)
        have n_143 : g_128.2.2.1 pa = 8 := (Ex.n x_135 r_75 (by decide) n_80)
        have n_144 : g_128.2.2.1 wt = 24 := (Ex.n x_135 r_76 (by decide) n_81)
        have n_145 : g_128.2.2.1 t = 100 := (Ex.n x_135 r_77 (by decide) n_82)
        have n_146 : g_128.2.2.1 nv = 8 := (Ex.n x_135 r_78 (by decide) n_83)
        have kn_147 : g_128.2.1 h 38 = .int rz := (Sm.v m_134 r_73 (by decide) rfl kn_84)
        have kn_148 : g_128.2.1 h 42 = .ref wt := (Sm.v m_134 r_73 (by decide) rfl kn_85)
        have kn_149 : g_128.2.1 h 39 = .ref na := (Sm.v m_134 r_73 (by decide) rfl kn_86)
        have kn_150 : g_128.2.1 h 40 = .ref pa := (Sm.v m_134 r_73 (by decide) rfl kn_87)
        have kn_151 : g_128.2.1 h 29 = .int z := (Sm.v m_134 r_73 (by decide) rfl kn_88)
        have kn_152 : g_128.2.1 h 28 = .ref t := (Sm.v m_134 r_73 (by decide) rfl kn_89)
        have kn_153 : g_128.2.1 h 41 = .ref nv := (Sm.v m_134 r_73 (by decide) rfl kn_90)
        have kn_154 : g_128.2.2.2.1 wt (18 : Int32).toNatClampNeg = 100 := (Sm.c m_134 r_76 (by decide) rfl kn_91)
        have kn_155 : g_128.2.2.2.1 wt (19 : Int32).toNatClampNeg = 111 := (Sm.c m_134 r_76 (by decide) rfl kn_92)
        refine W.eq (g2 := F0 m 140 ls []) rfl ?_
        have qc_156 : (1 : Int32).toInt = 1 := (by decide)
        have qc_157 : (32 : Int32).toInt = 32 := (by decide)
        rcases f_131 with ⟨-, hs_s2_129, hw_s2_129⟩ | ⟨hx_, -⟩ | ⟨hx_, -⟩
        rotate_left
        · exact absurd hx_ (by decide)
        · exact absurd hx_ (by decide)
        have ew_ : w2_130 = 1 := i_inj (hw_s2_129.trans (by decide))
        subst ew_
        have hs_ : wsel ((txb ct z.toInt) s0.toInt) ((txb ct z.toInt) (s0.toInt + 1)) = 6 := ws_6 (by omega)
        have hq_ : qj (txb ct z.toInt) s0.toInt 6 = 1 := wp3_1 (by omega) (by omega)
        have hv_ := wd_f hs_ (Or.inr (fun h_ => absurd (hq_.symm.trans h_) (by decide)))
        exact lt_m_readsAct_c1 l D cI cZ cS cR N0 g h s0 rz wt na pa z t ct nv r_h r_na n_na r_pa n_pa r_wt n_wt r_t n_t r_nv n_nv krz ks0 kw0 kwt kna kpa kz kt knv l_rz u_rz l_s0 u_s0 hN_0 hWT_0 l_z u_z hc_0 hB hr   g_128 (6 : Int32) s2_129 H locs ls hT hI hE hM (by decide) (by decide) (by omega) (by omega) kn_147 f_132 f_133 hN hc hWT hU0 hU1 hU2 (ac_n hv_.1 (by have q_ := hv_.2; rw [hq_] at q_; omega)) (lv_sub hl [1, 2] rfl)
    · have ew_ : w2_34 = 1 := i_inj (hw_s2_33.trans (by decide))
      subst ew_
      refine lv_iinc (v := 1) (lv' := [(2, .int 1), (1, .int 6), (0, .ref h)]) hx hb dX7_readsAct_128 hl (k := 0) rfl (by decide) (by decide) rfl (fun ls hl => ?_)
      refine lv_goto (tgt := 89) hx hb dX7_readsAct_131 (by decide) ?_
      refine lv_iload_n hx hb dX7_readsAct_89 rfl (lv_at hl 0 rfl) ?_
      refine lv_iconst (v := 3) hx hb dX7_readsAct_90 (by decide) ?_
      refine lv_icmp_ge (tgt := 134) hx hb dX7_readsAct_91 (by decide) (fun c_ => absurd c_ (by decide)) (fun c_ => ?_)
      refine lv_aload_n hx hb dX7_readsAct_94 rfl (lv_at hl 2 rfl) ?_
      refine t_get (ci := 7) (v := .int 1) hB hT (ro_ci r_40 rfl) rfl 37 (by decide) k_782 f_37 dX7_readsAct_95 ?_
      refine lv_if_ne (tgt := 134) hx hb dX7_readsAct_98 (by decide) (fun c_ => ?_) (fun c_ => absurd c_ (by decide))
      refine lv_aload_n hx hb dX7_readsAct_134 rfl (lv_at hl 2 rfl) ?_
      refine lv_bipush (v := 32) hx hb dX7_readsAct_135 (by decide) ?_
      refine t_callV (n := 1) (As := [.int 32]) (rest := []) (ci := 7) hB hT hl.1 (m_must l D cI cZ cS cR N0 g_32 hI h 32 s2_33 1 z t ct r_40 r_44 n_49 f_36 f_37 kn_55 kn_56 (by have q0 : (1 : Int32).toInt = 1 := (by decide); have q1 : (32 : Int32).toInt = 32 := (by decide); omega) (by have q0 : (1 : Int32).toInt = 1 := (by decide); have q1 : (32 : Int32).toInt = 32 := (by decide); omega) (by have q0 : (1 : Int32).toInt = 1 := (by decide); have q1 : (32 : Int32).toInt = 32 := (by decide); omega) (by have q0 : (1 : Int32).toInt = 1 := (by decide); have q1 : (32 : Int32).toInt = 32 := (by decide); omega) (by have q0 : (1 : Int32).toInt = 1 := (by decide); have q1 : (32 : Int32).toInt = 32 := (by decide); omega) (by have q0 : (1 : Int32).toInt = 1 := (by decide); have q1 : (32 : Int32).toInt = 32 := (by decide); omega) (by have q0 : (1 : Int32).toInt = 1 := (by decide); have q1 : (32 : Int32).toInt = 32 := (by decide); omega) hc) (ro_ci r_40 rfl) rfl k_975 k_65 k_972 k_974 k_24 (by decide +kernel) ⟨(Nat.le_of_ble_eq_true rfl), (Nat.le_of_ble_eq_true rfl)⟩ rfl (Nat.le_of_ble_eq_true rfl) ⟨(Nat.le_of_ble_eq_true rfl), (Nat.le_of_ble_eq_true rfl)⟩ dX7_readsAct_137 (fun v g_158 H locs hp hT => ?_)
      obtain ⟨s2_159, w2_160, rfl, hI, x_165, m_164, f_161, f_162, f_163⟩ := hp
      have hN : PL 8 g_158 na pa := hN.sm m_164 r_41 (by decide) rfl r_42 (by decide) rfl
      have hc : g_158.2.2.2.1 t = ct := (Sm.cf m_164 r_44 (by decide) rfl).trans hc
      have hWT : WT g_158 wt := hWT.sm m_164 r_43 (by decide) rfl
      have hU0 : UP g_158 na (g.2.2.2.1 na) false rz.toNatClampNeg 0 := hU0.sm m_164 r_41 (by decide) rfl
      have hU1 : UP g_158 pa (g.2.2.2.1 pa) false rz.toNatClampNeg 0 := hU1.sm m_164 r_42 (by decide) rfl
      have hU2 : UP g_158 nv (g.2.2.2.1 nv) false rz.toNatClampNeg 0 := hU2.sm m_164 r_45 (by decide) rfl
      have hM : Sm md_m_readsAct g g_158 := hM.tr hE (m_164.mo (fun r k h => mdle_m_readsAct_m_must h))
      have hE : Ex g g_158 := hE.tr x_165
      have r_166 : g_158.1 h = 8 := (Ex.r x_165 r_40 (by decide))
      have r_167 : g_158.1 na = 84 := (Ex.r x_165 r_41 (by decide))
      have r_168 : g_158.1 pa = 85 := (Ex.r x_165 r_42 (by decide))
      have r_169 : g_158.1 wt = 87 := (Ex.r x_165 r_43 (by decide))
      have r_170 : g_158.1 t = 79 := (Ex.r x_165 r_44 (by decide))
      have r_171 : g_158.1 nv = 86 := (Ex.r x_165 r_45 (by decide))
      have n_172 : g_158.2.2.1 na = 8 := (Ex.n x_165 r_41 (by decide) n_46)
      have n_173 : g_158.2.2.1 pa = 8 := (Ex.n x_165 r_42 (by decide) n_47)
      have n_174 : g_158.2.2.1 wt = 24 := (Ex.n x_165 r_43 (by decide) n_48)
      have n_175 : g_158.2.2.1 t = 100 := (Ex.n x_165 r_44 (by decide) n_49)
      have n_176 : g_158.2.2.1 nv = 8 := (Ex.n x_165 r_45 (by decide) n_50)
      have kn_177 : g_158.2.1 h 38 = .int rz := (Sm.v m_164 r_40 (by decide) rfl kn_51)
      have kn_178 : g_158.2.1 h 42 = .ref wt := (Sm.v m_164 r_40 (by decide) rfl kn_52)
      have kn_179 : g_158.2.1 h 39 = .ref na := (Sm.v m_164 r_40 (by decide) rfl kn_53)
      have kn_180 : g_158.2.1 h 40 = .ref pa := (Sm.v m_164 r_40 (by decide) rfl kn_54)
      have kn_181 : g_158.2.1 h 29 = .int z := (Sm.v m_164 r_40 (by decide) rfl kn_55)
      have kn_182 : g_158.2.1 h 28 = .ref t := (Sm.v m_164 r_40 (by decide) rfl kn_56)
      have kn_183 : g_158.2.1 h 41 = .ref nv := (Sm.v m_164 r_40 (by decide) rfl kn_57)
      have kn_184 : g_158.2.2.2.1 wt (18 : Int32).toNatClampNeg = 100 := (Sm.c m_164 r_43 (by decide) rfl kn_58)
      refine W.eq (g2 := F0 m 140 ls []) rfl ?_
      have qc_185 : (1 : Int32).toInt = 1 := (by decide)
      have qc_186 : (32 : Int32).toInt = 32 := (by decide)
      rcases f_161 with ⟨-, hs_s2_159, hw_s2_159⟩ | ⟨hx_, -⟩ | ⟨hx_, -⟩
      rotate_left
      · exact absurd hx_ (by decide)
      · exact absurd hx_ (by decide)
      have ew_ : w2_160 = 1 := i_inj (hw_s2_159.trans (by decide))
      subst ew_
      have hs_ : wsel ((txb ct z.toInt) s0.toInt) ((txb ct z.toInt) (s0.toInt + 1)) = 6 := ws_6 (by omega)
      have hq_ : qj (txb ct z.toInt) s0.toInt 6 = 0 := wp3_0 (by omega)
      have hv_ := wd_f hs_ (Or.inr (fun h_ => absurd (hq_.symm.trans h_) (by decide)))
      exact lt_m_readsAct_c1 l D cI cZ cS cR N0 g h s0 rz wt na pa z t ct nv r_h r_na n_na r_pa n_pa r_wt n_wt r_t n_t r_nv n_nv krz ks0 kw0 kwt kna kpa kz kt knv l_rz u_rz l_s0 u_s0 hN_0 hWT_0 l_z u_z hc_0 hB hr   g_158 (6 : Int32) s2_159 H locs ls hT hI hE hM (by decide) (by decide) (by omega) (by omega) kn_177 f_162 f_163 hN hc hWT hU0 hU1 hU2 (ac_n hv_.1 (by have q_ := hv_.2; rw [hq_] at q_; omega)) (lv_sub hl [1, 2] rfl)
  · have c_27' : r_19.toInt ≠ 100 := i_ne c_27 rfl (by decide)
    refine lv_iinc (v := 7) (lv' := [(1, .int 7), (0, .ref h)]) hx hb dX7_readsAct_59 hl (k := 0) rfl (by decide) (by decide) rfl (fun ls hl => ?_)
    refine lv_goto (tgt := 34) hx hb dX7_readsAct_62 (by decide) ?_
    exact lt_m_readsAct_w7 l D cI cZ cS cR N0 g h s0 rz wt na pa z t ct nv r_h r_na n_na r_pa n_pa r_wt n_wt r_t n_t r_nv n_nv krz ks0 kw0 kwt kna kpa kz kt knv l_rz u_rz l_s0 u_s0 hN_0 hWT_0 l_z u_z hc_0 hB hr   g1 H locs ls hT hI hE hM kp0 kp1 kp2 hN hc hWT hU0 hU1 hU2 (by omega) (lv_sub hl [0, 1] rfl)
set_option maxHeartbeats 4000000 in
set_option maxRecDepth 100000 in
theorem lt_m_readsAct_w5 (l : Launch) (D : va_G) (cI cZ cS cR : ClassId) (N0 : NT) (g : GS) (h : Nat) (s0 : Int32) (rz : Int32) (wt : Nat) (na : Nat) (pa : Nat) (z : Int32) (t : Nat) (ct : Nat → Int32) (nv : Nat) (r_h : g.1 h = 8) (r_na : g.1 na = 84) (n_na : g.2.2.1 na = 8) (r_pa : g.1 pa = 85) (n_pa : g.2.2.1 pa = 8) (r_wt : g.1 wt = 87) (n_wt : g.2.2.1 wt = 24) (r_t : g.1 t = 79) (n_t : g.2.2.1 t = 100) (r_nv : g.1 nv = 86) (n_nv : g.2.2.1 nv = 8) (krz : g.2.1 h 38 = .int rz) (ks0 : g.2.1 h 36 = .int s0) (kw0 : g.2.1 h 37 = .int 0) (kwt : g.2.1 h 42 = .ref wt) (kna : g.2.1 h 39 = .ref na) (kpa : g.2.1 h 40 = .ref pa) (kz : g.2.1 h 29 = .int z) (kt : g.2.1 h 28 = .ref t) (knv : g.2.1 h 41 = .ref nv) (l_rz : 0 ≤ rz.toInt) (u_rz : rz.toInt ≤ 7) (l_s0 : 0 ≤ s0.toInt) (u_s0 : s0.toInt ≤ 100) (hN_0 : PL 8 g na pa) (hWT_0 : WT g wt) (l_z : 0 ≤ z.toInt) (u_z : z.toInt ≤ 100) (hc_0 : g.2.2.2.1 t = ct) {p : Program} {e : Env} {s : State} {m : MethodId} {args : Array Value} {below : List Frame} {meth : Method} {c : Code} (hB : Tz p s m meth c args cX7_readsAct 4 RX7 D cI cZ cS cR N0) (hr : meth.sig.returnType = none)    : ∀ (g1 : GS)   (H : Heap) (locs : List Loc) (ls : Array Slot), Tv D cI cZ cS cR N0 s.heap H locs g1 → Inv g1 → Ex g g1 → Sm md_m_readsAct g g1 → g1.2.1 h 38 = .int rz → g1.2.1 h 36 = .int s0 → g1.2.1 h 37 = .int 0 → (PL 8 g1 na pa) → (g1.2.2.2.1 t = ct) → (WT g1 wt) → (UP g1 na (g.2.2.2.1 na) false rz.toNatClampNeg 0) → (UP g1 pa (g.2.2.2.1 pa) false rz.toNatClampNeg 0) → (UP g1 nv (g.2.2.2.1 nv) false rz.toNatClampNeg 0) → (((txb ct z.toInt) s0.toInt = 97 ∧ (txb ct z.toInt) (s0.toInt + 1) = 115) ∨ ¬ ((txb ct z.toInt) s0.toInt = 97 ∧ (txb ct z.toInt) (s0.toInt + 1) = 115) ∧ (txb ct z.toInt) s0.toInt ≠ 115 ∧ (txb ct z.toInt) s0.toInt ≠ 97 ∧ (txb ct z.toInt) s0.toInt ≠ 109 ∧ (txb ct z.toInt) s0.toInt ≠ 110 ∧ (txb ct z.toInt) s0.toInt ≠ 103) → lv_has ls 4 [(1, .int 5), (0, .ref h)] → W p l e (rmx 2 0 0) s m args below meth c H locs 0 0 (MQ below (tQ D cI cZ cS cR N0 (fun v g' => ∃ (z2 : Int32) (s2 : Int32) (w2 : Int32) (w_ : Int32) (c_ : Int32) (v_ : Int32), v = none ∧ Inv g' ∧ Ex g g' ∧ Sm md_m_readsAct g g' ∧ ((w2 = 1 ∧ ac (txb ct z.toInt) s0.toInt = (false, s2.toInt)) ∨ (w2 = 0 ∧ ac (txb ct z.toInt) s0.toInt = (true, s2.toInt) ∧ s2.toInt ≤ z.toInt ∧ w_.toInt = wdr (txb ct z.toInt) s0.toInt ∧ c_.toInt = acc (txb ct z.toInt) s0.toInt ∧ v_.toInt = acv (txb ct z.toInt) s0.toInt)) ∧ (g'.2.1 h 38 = .int z2) ∧ (z2.toInt = rz.toInt + 1) ∧ (PL 8 g' na pa) ∧ (g'.2.1 h 36 = .int s2) ∧ (g'.2.1 h 37 = .int w2) ∧ (0 ≤ s2.toInt ∧ s2.toInt ≤ 100) ∧ (UP g' na (g.2.2.2.1 na) true rz.toNatClampNeg w_) ∧ (UP g' pa (g.2.2.2.1 pa) true rz.toNatClampNeg c_) ∧ (UP g' nv (g.2.2.2.1 nv) true rz.toNatClampNeg v_))) args s 0 0 (fun q => N0.1 ≤ q)) (F0 m 34 ls []) := by
  have hx := hB.1
  have hb := hB.2.1
  intro g1 H locs ls hT hI hE hM kp0 kp1 kp2 hN hc hWT hU0 hU1 hU2 hS hl
  have r_1 : g1.1 h = 8 := Ex.r hE r_h (by decide)
  have r_2 : g1.1 na = 84 := Ex.r hE r_na (by decide)
  have n_3 : g1.2.2.1 na = 8 := Ex.n hE r_na (by decide) n_na
  have r_4 : g1.1 pa = 85 := Ex.r hE r_pa (by decide)
  have n_5 : g1.2.2.1 pa = 8 := Ex.n hE r_pa (by decide) n_pa
  have r_6 : g1.1 wt = 87 := Ex.r hE r_wt (by decide)
  have n_7 : g1.2.2.1 wt = 24 := Ex.n hE r_wt (by decide) n_wt
  have r_8 : g1.1 t = 79 := Ex.r hE r_t (by decide)
  have n_9 : g1.2.2.1 t = 100 := Ex.n hE r_t (by decide) n_t
  have r_10 : g1.1 nv = 86 := Ex.r hE r_nv (by decide)
  have n_11 : g1.2.2.1 nv = 8 := Ex.n hE r_nv (by decide) n_nv
  have kn_12 : g1.2.1 h 42 = .ref wt := Sm.v hM r_h (by decide) rfl kwt
  have kn_13 : g1.2.1 h 39 = .ref na := Sm.v hM r_h (by decide) rfl kna
  have kn_14 : g1.2.1 h 40 = .ref pa := Sm.v hM r_h (by decide) rfl kpa
  have kn_15 : g1.2.1 h 29 = .int z := Sm.v hM r_h (by decide) rfl kz
  have kn_16 : g1.2.1 h 28 = .ref t := Sm.v hM r_h (by decide) rfl kt
  have kn_17 : g1.2.1 h 41 = .ref nv := Sm.v hM r_h (by decide) rfl knv
  refine lv_iload_n hx hb dX7_readsAct_34 rfl (lv_at hl 0 rfl) ?_
  refine lv_bipush (v := 8) hx hb dX7_readsAct_35 (by decide) ?_
  refine lv_icmp_ge (tgt := 65) hx hb dX7_readsAct_37 (by decide) (fun c_ => absurd c_ (by decide)) (fun c_ => ?_)
  refine lv_aload_n hx hb dX7_readsAct_40 rfl (lv_at hl 1 rfl) ?_
  refine lv_aload_n hx hb dX7_readsAct_41 rfl (lv_at hl 1 rfl) ?_
  refine t_get (ci := 7) (v := .int s0) hB hT (ro_ci r_1 rfl) rfl 36 (by decide) k_781 kp1 dX7_readsAct_42 ?_
  refine t_callV (n := 1) (As := [.int s0]) (rest := []) (ci := 7) hB hT hl.1 (m_byteAt l D cI cZ cS cR N0 g1 hI h s0 z t ct r_1 r_8 n_9 kn_15 kn_16 (by omega) (by omega) (by omega) (by omega) hc) (ro_ci r_1 rfl) rfl k_971 k_65 k_968 k_970 k_23 (by decide +kernel) ⟨(Nat.le_of_ble_eq_true rfl), (Nat.le_of_ble_eq_true rfl)⟩ rfl (Nat.le_of_ble_eq_true rfl) ⟨(Nat.le_of_ble_eq_true rfl), (Nat.le_of_ble_eq_true rfl)⟩ dX7_readsAct_45 (fun v g_18 H locs hp hT => ?_)
  obtain ⟨r_19, rfl, eg, f_20, f_21, f_22⟩ := hp
  rw [eg] at hT
  clear eg
  refine W.eq (g2 := F0 m 48 ls [.int r_19]) rfl ?_
  refine lv_aload_n hx hb dX7_readsAct_48 rfl (lv_at hl 1 rfl) ?_
  refine t_get (ci := 7) (v := .ref wt) hB hT (ro_ci r_1 rfl) rfl 42 (by decide) k_787 kn_12 dX7_readsAct_49 ?_
  refine lv_iconst (v := 3) hx hb dX7_readsAct_52 (by decide) ?_
  refine lv_iload_n hx hb dX7_readsAct_53 rfl (lv_at hl 0 rfl) ?_
  refine lv_imul hx hb dX7_readsAct_54 ?_
  refine x_ev (y := 15) (by decide) ?_
  have kw_25 : g1.2.2.2.1 wt (15 : Int32).toNatClampNeg = 97 := (hWT (15 : Int32).toNatClampNeg (by decide)).trans (by decide)
  have i_u_26 : vp_in (15 : Int32) 24 := (by unfold vp_in; decide)
  refine t_iald (v := (97 : Int32)) hB hT (ro_in r_6 (by decide)) n_7 i_u_26 kw_25 dX7_readsAct_55 ?_
  refine lv_icmp_eq (tgt := 65) hx hb dX7_readsAct_56 (by decide) (fun c_27 => ?_) (fun c_27 => ?_)
  · have c_27' : r_19.toInt = 97 := i_eq c_27 rfl (by decide)
    refine lv_aload_n hx hb dX7_readsAct_65 rfl (lv_at hl 1 rfl) ?_
    refine lv_aload_n hx hb dX7_readsAct_66 rfl (lv_at hl 1 rfl) ?_
    refine t_get (ci := 7) (v := .int 0) hB hT (ro_ci r_1 rfl) rfl 37 (by decide) k_782 kp2 dX7_readsAct_67 ?_
    refine lv_if_ne (tgt := 79) hx hb dX7_readsAct_70 (by decide) (fun c_ => absurd (by decide) c_) (fun c_ => ?_)
    refine lv_iload_n hx hb dX7_readsAct_73 rfl (lv_at hl 0 rfl) ?_
    refine lv_bipush (v := 8) hx hb dX7_readsAct_74 (by decide) ?_
    refine lv_icmp_ne (tgt := 83) hx hb dX7_readsAct_76 (by decide) (fun c_ => ?_) (fun c_ => absurd c_ (by decide))
    refine lv_iconst (v := 0) hx hb dX7_readsAct_83 (by decide) ?_
    refine t_put0 (ci := 7) (v := .int 0) hB hT (ro_ci r_1 rfl) (ro_n0 r_1 (by decide)) rfl 37 (by decide) k_782 (Or.inl rfl) rfl rfl dX7_readsAct_84 (fun H locs hT => ?_)
    have hI : Inv (sF g1 h 37 (.int 0)) := hI.sF (p_8_37 r_1 (⟨_, rfl, by decide, by decide⟩))
    have hM : Sm md_m_readsAct g (sF g1 h 37 (.int 0)) := hM.tr hE (Sm_sF (by rw [r_1]; rfl))
    have hE : Ex g (sF g1 h 37 (.int 0)) := hE
    have hN : PL 8 (sF g1 h 37 (.int 0)) na pa := hN
    have hc : (sF g1 h 37 (.int 0)).2.2.2.1 t = ct := hc
    have hWT : WT (sF g1 h 37 (.int 0)) wt := hWT
    have hU0 : UP (sF g1 h 37 (.int 0)) na (g.2.2.2.1 na) false rz.toNatClampNeg 0 := hU0
    have hU1 : UP (sF g1 h 37 (.int 0)) pa (g.2.2.2.1 pa) false rz.toNatClampNeg 0 := hU1
    have hU2 : UP (sF g1 h 37 (.int 0)) nv (g.2.2.2.1 nv) false rz.toNatClampNeg 0 := hU2
    refine lv_iconst (v := 0) hx hb dX7_readsAct_87 (by decide) ?_
    refine lv_istore_n (lv' := [(2, .int 0), (1, .int 5), (0, .ref h)]) hx hb dX7_readsAct_88 rfl hl (by decide) rfl (fun ls hl => ?_)
    refine lv_iload_n hx hb dX7_readsAct_89 rfl (lv_at hl 0 rfl) ?_
    refine lv_iconst (v := 3) hx hb dX7_readsAct_90 (by decide) ?_
    refine lv_icmp_ge (tgt := 134) hx hb dX7_readsAct_91 (by decide) (fun c_ => absurd c_ (by decide)) (fun c_ => ?_)
    refine lv_aload_n hx hb dX7_readsAct_94 rfl (lv_at hl 2 rfl) ?_
    refine t_get (ci := 7) (v := .int 0) hB hT (ro_ci r_1 rfl) rfl 37 (by decide) k_782 sF_eq dX7_readsAct_95 ?_
    refine lv_if_ne (tgt := 134) hx hb dX7_readsAct_98 (by decide) (fun c_ => absurd (by decide) c_) (fun c_ => ?_)
    refine lv_aload_n hx hb dX7_readsAct_101 rfl (lv_at hl 2 rfl) ?_
    refine t_get (ci := 7) (v := .ref wt) hB hT (ro_ci r_1 rfl) rfl 42 (by decide) k_787 (sF_k kn_12 (by decide)) dX7_readsAct_102 ?_
    refine lv_iconst (v := 3) hx hb dX7_readsAct_105 (by decide) ?_
    refine lv_iload_n hx hb dX7_readsAct_106 rfl (lv_at hl 1 rfl) ?_
    refine lv_imul hx hb dX7_readsAct_107 ?_
    refine x_ev (y := 15) (by decide) ?_
    refine lv_iload_n hx hb dX7_readsAct_108 rfl (lv_at hl 0 rfl) ?_
    refine lv_iadd hx hb dX7_readsAct_109 ?_
    refine x_ev (y := 15) (by decide) ?_
    have kw_28 : (sF g1 h 37 (.int 0)).2.2.2.1 wt (15 : Int32).toNatClampNeg = 97 := (hWT (15 : Int32).toNatClampNeg (by decide)).trans (by decide)
    have i_u_29 : vp_in (15 : Int32) 24 := (by unfold vp_in; decide)
    refine t_iald (v := (97 : Int32)) hB hT (ro_in r_6 (by decide)) n_7 i_u_29 kw_28 dX7_readsAct_110 ?_
    refine lv_if_eq (tgt := 128) hx hb dX7_readsAct_111 (by decide) (fun c_ => absurd c_ (by decide)) (fun c_ => ?_)
    refine lv_aload_n hx hb dX7_readsAct_114 rfl (lv_at hl 2 rfl) ?_
    refine lv_aload_n hx hb dX7_readsAct_115 rfl (lv_at hl 2 rfl) ?_
    refine t_get (ci := 7) (v := .ref wt) hB hT (ro_ci r_1 rfl) rfl 42 (by decide) k_787 (sF_k kn_12 (by decide)) dX7_readsAct_116 ?_
    refine lv_iconst (v := 3) hx hb dX7_readsAct_119 (by decide) ?_
    refine lv_iload_n hx hb dX7_readsAct_120 rfl (lv_at hl 1 rfl) ?_
    refine lv_imul hx hb dX7_readsAct_121 ?_
    refine x_ev (y := 15) (by decide) ?_
    refine lv_iload_n hx hb dX7_readsAct_122 rfl (lv_at hl 0 rfl) ?_
    refine lv_iadd hx hb dX7_readsAct_123 ?_
    refine x_ev (y := 15) (by decide) ?_
    have kw_30 : (sF g1 h 37 (.int 0)).2.2.2.1 wt (15 : Int32).toNatClampNeg = 97 := (hWT (15 : Int32).toNatClampNeg (by decide)).trans (by decide)
    have i_u_31 : vp_in (15 : Int32) 24 := (by unfold vp_in; decide)
    refine t_iald (v := (97 : Int32)) hB hT (ro_in r_6 (by decide)) n_7 i_u_31 kw_30 dX7_readsAct_124 ?_
    refine t_callV (n := 1) (As := [.int 97]) (rest := []) (ci := 7) hB hT hl.1 (m_must l D cI cZ cS cR N0 (sF g1 h 37 (.int 0)) hI h 97 s0 0 z t ct r_1 r_8 n_9 (sF_k kp1 (by decide)) sF_eq (sF_k kn_15 (by decide)) (sF_k kn_16 (by decide)) (by have q0 : (0 : Int32).toInt = 0 := (by decide); have q1 : (97 : Int32).toInt = 97 := (by decide); omega) (by have q0 : (0 : Int32).toInt = 0 := (by decide); have q1 : (97 : Int32).toInt = 97 := (by decide); omega) (by have q0 : (0 : Int32).toInt = 0 := (by decide); have q1 : (97 : Int32).toInt = 97 := (by decide); omega) (by have q0 : (0 : Int32).toInt = 0 := (by decide); have q1 : (97 : Int32).toInt = 97 := (by decide); omega) (by have q0 : (0 : Int32).toInt = 0 := (by decide); have q1 : (97 : Int32).toInt = 97 := (by decide); omega) (by have q0 : (0 : Int32).toInt = 0 := (by decide); have q1 : (97 : Int32).toInt = 97 := (by decide); omega) (by have q0 : (0 : Int32).toInt = 0 := (by decide); have q1 : (97 : Int32).toInt = 97 := (by decide); omega) hc) (ro_ci r_1 rfl) rfl k_975 k_65 k_972 k_974 k_24 (by decide +kernel) ⟨(Nat.le_of_ble_eq_true rfl), (Nat.le_of_ble_eq_true rfl)⟩ rfl (Nat.le_of_ble_eq_true rfl) ⟨(Nat.le_of_ble_eq_true rfl), (Nat.le_of_ble_eq_true rfl)⟩ dX7_readsAct_125 (fun v g_32 H locs hp hT => ?_)
    obtain ⟨s2_33, w2_34, rfl, hI, x_39, m_38, f_35, f_36, f_37⟩ := hp
    have hN : PL 8 g_32 na pa := hN.sm m_38 r_2 (by decide) rfl r_4 (by decide) rfl
    have hc : g_32.2.2.2.1 t = ct := (Sm.cf m_38 r_8 (by decide) rfl).trans hc
    have hWT : WT g_32 wt := hWT.sm m_38 r_6 (by decide) rfl
    have hU0 : UP g_32 na (g.2.2.2.1 na) false rz.toNatClampNeg 0 := hU0.sm m_38 r_2 (by decide) rfl
    have hU1 : UP g_32 pa (g.2.2.2.1 pa) false rz.toNatClampNeg 0 := hU1.sm m_38 r_4 (by decide) rfl
    have hU2 : UP g_32 nv (g.2.2.2.1 nv) false rz.toNatClampNeg 0 := hU2.sm m_38 r_10 (by decide) rfl
    have hM : Sm md_m_readsAct g g_32 := hM.tr hE (m_38.mo (fun r k h => mdle_m_readsAct_m_must h))
    have hE : Ex g g_32 := hE.tr x_39
    have r_40 : g_32.1 h = 8 := (Ex.r x_39 r_1 (by decide))
    have r_41 : g_32.1 na = 84 := (Ex.r x_39 r_2 (by decide))
    have r_42 : g_32.1 pa = 85 := (Ex.r x_39 r_4 (by decide))
    have r_43 : g_32.1 wt = 87 := (Ex.r x_39 r_6 (by decide))
    have r_44 : g_32.1 t = 79 := (Ex.r x_39 r_8 (by decide))
    have r_45 : g_32.1 nv = 86 := (Ex.r x_39 r_10 (by decide))
    have n_46 : g_32.2.2.1 na = 8 := (Ex.n x_39 r_2 (by decide) n_3)
    have n_47 : g_32.2.2.1 pa = 8 := (Ex.n x_39 r_4 (by decide) n_5)
    have n_48 : g_32.2.2.1 wt = 24 := (Ex.n x_39 r_6 (by decide) n_7)
    have n_49 : g_32.2.2.1 t = 100 := (Ex.n x_39 r_8 (by decide) n_9)
    have n_50 : g_32.2.2.1 nv = 8 := (Ex.n x_39 r_10 (by decide) n_11)
    have kn_51 : g_32.2.1 h 38 = .int rz := (Sm.v m_38 r_1 (by decide) rfl (sF_k kp0 (by decide)))
    have kn_52 : g_32.2.1 h 42 = .ref wt := (Sm.v m_38 r_1 (by decide) rfl (sF_k kn_12 (by decide)))
    have kn_53 : g_32.2.1 h 39 = .ref na := (Sm.v m_38 r_1 (by decide) rfl (sF_k kn_13 (by decide)))
    have kn_54 : g_32.2.1 h 40 = .ref pa := (Sm.v m_38 r_1 (by decide) rfl (sF_k kn_14 (by decide)))
    have kn_55 : g_32.2.1 h 29 = .int z := (Sm.v m_38 r_1 (by decide) rfl (sF_k kn_15 (by decide)))
    have kn_56 : g_32.2.1 h 28 = .ref t := (Sm.v m_38 r_1 (by decide) rfl (sF_k kn_16 (by decide)))
    have kn_57 : g_32.2.1 h 41 = .ref nv := (Sm.v m_38 r_1 (by decide) rfl (sF_k kn_17 (by decide)))
    have kn_58 : g_32.2.2.2.1 wt (15 : Int32).toNatClampNeg = 97 := (Sm.c m_38 r_6 (by decide) rfl kw_30)
    refine W.eq (g2 := F0 m 128 ls []) rfl ?_
    have qc_59 : (0 : Int32).toInt = 0 := (by decide)
    have qc_60 : (97 : Int32).toInt = 97 := (by decide)
    rcases f_35 with ⟨hx_, -⟩ | ⟨-, ht_s2_33, hs_s2_33, hz_s2_33, hw_s2_33⟩ | ⟨-, ht_s2_33, hs_s2_33, hw_s2_33⟩
    · exact absurd hx_ (by decide)
    · have ew_ : w2_34 = 0 := i_inj (hw_s2_33.trans (by decide))
      subst ew_
      refine lv_iinc (v := 1) (lv' := [(2, .int 1), (1, .int 5), (0, .ref h)]) hx hb dX7_readsAct_128 hl (k := 0) rfl (by decide) (by decide) rfl (fun ls hl => ?_)
      refine lv_goto (tgt := 89) hx hb dX7_readsAct_131 (by decide) ?_
      refine lv_iload_n hx hb dX7_readsAct_89 rfl (lv_at hl 0 rfl) ?_
      refine lv_iconst (v := 3) hx hb dX7_readsAct_90 (by decide) ?_
      refine lv_icmp_ge (tgt := 134) hx hb dX7_readsAct_91 (by decide) (fun c_ => absurd c_ (by decide)) (fun c_ => ?_)
      refine lv_aload_n hx hb dX7_readsAct_94 rfl (lv_at hl 2 rfl) ?_
      refine t_get (ci := 7) (v := .int 0) hB hT (ro_ci r_40 rfl) rfl 37 (by decide) k_782 f_37 dX7_readsAct_95 ?_
      refine lv_if_ne (tgt := 134) hx hb dX7_readsAct_98 (by decide) (fun c_ => absurd (by decide) c_) (fun c_ => ?_)
      refine lv_aload_n hx hb dX7_readsAct_101 rfl (lv_at hl 2 rfl) ?_
      refine t_get (ci := 7) (v := .ref wt) hB hT (ro_ci r_40 rfl) rfl 42 (by decide) k_787 kn_52 dX7_readsAct_102 ?_
      refine lv_iconst (v := 3) hx hb dX7_readsAct_105 (by decide) ?_
      refine lv_iload_n hx hb dX7_readsAct_106 rfl (lv_at hl 1 rfl) ?_
      refine lv_imul hx hb dX7_readsAct_107 ?_
      refine x_ev (y := 15) (by decide) ?_
      refine lv_iload_n hx hb dX7_readsAct_108 rfl (lv_at hl 0 rfl) ?_
      refine lv_iadd hx hb dX7_readsAct_109 ?_
      refine x_ev (y := 16) (by decide) ?_
      have kw_61 : g_32.2.2.2.1 wt (16 : Int32).toNatClampNeg = 115 := (hWT (16 : Int32).toNatClampNeg (by decide)).trans (by decide)
      have i_u_62 : vp_in (16 : Int32) 24 := (by unfold vp_in; decide)
      refine t_iald (v := (115 : Int32)) hB hT (ro_in r_43 (by decide)) n_48 i_u_62 kw_61 dX7_readsAct_110 ?_
      refine lv_if_eq (tgt := 128) hx hb dX7_readsAct_111 (by decide) (fun c_ => absurd c_ (by decide)) (fun c_ => ?_)
      refine lv_aload_n hx hb dX7_readsAct_114 rfl (lv_at hl 2 rfl) ?_
      refine lv_aload_n hx hb dX7_readsAct_115 rfl (lv_at hl 2 rfl) ?_
      refine t_get (ci := 7) (v := .ref wt) hB hT (ro_ci r_40 rfl) rfl 42 (by decide) k_787 kn_52 dX7_readsAct_116 ?_
      refine lv_iconst (v := 3) hx hb dX7_readsAct_119 (by decide) ?_
      refine lv_iload_n hx hb dX7_readsAct_120 rfl (lv_at hl 1 rfl) ?_
      refine lv_imul hx hb dX7_readsAct_121 ?_
      refine x_ev (y := 15) (by decide) ?_
      refine lv_iload_n hx hb dX7_readsAct_122 rfl (lv_at hl 0 rfl) ?_
      refine lv_iadd hx hb dX7_readsAct_123 ?_
      refine x_ev (y := 16) (by decide) ?_
      have kw_63 : g_32.2.2.2.1 wt (16 : Int32).toNatClampNeg = 115 := (hWT (16 : Int32).toNatClampNeg (by decide)).trans (by decide)
      have i_u_64 : vp_in (16 : Int32) 24 := (by unfold vp_in; decide)
      refine t_iald (v := (115 : Int32)) hB hT (ro_in r_43 (by decide)) n_48 i_u_64 kw_63 dX7_readsAct_124 ?_
      refine t_callV (n := 1) (As := [.int 115]) (rest := []) (ci := 7) hB hT hl.1 (m_must l D cI cZ cS cR N0 g_32 hI h 115 s2_33 0 z t ct r_40 r_44 n_49 f_36 f_37 kn_55 kn_56 (by have q0 : (0 : Int32).toInt = 0 := (by decide); have q1 : (115 : Int32).toInt = 115 := (by decide); omega) (by have q0 : (0 : Int32).toInt = 0 := (by decide); have q1 : (115 : Int32).toInt = 115 := (by decide); omega) (by have q0 : (0 : Int32).toInt = 0 := (by decide); have q1 : (115 : Int32).toInt = 115 := (by decide); omega) (by have q0 : (0 : Int32).toInt = 0 := (by decide); have q1 : (115 : Int32).toInt = 115 := (by decide); omega) (by have q0 : (0 : Int32).toInt = 0 := (by decide); have q1 : (115 : Int32).toInt = 115 := (by decide); omega) (by have q0 : (0 : Int32).toInt = 0 := (by decide); have q1 : (115 : Int32).toInt = 115 := (by decide); omega) (by have q0 : (0 : Int32).toInt = 0 := (by decide); have q1 : (115 : Int32).toInt = 115 := (by decide); omega) hc) (ro_ci r_40 rfl) rfl k_975 k_65 k_972 k_974 k_24 (by decide +kernel) ⟨(Nat.le_of_ble_eq_true rfl), (Nat.le_of_ble_eq_true rfl)⟩ rfl (Nat.le_of_ble_eq_true rfl) ⟨(Nat.le_of_ble_eq_true rfl), (Nat.le_of_ble_eq_true rfl)⟩ dX7_readsAct_125 (fun v g_65 H locs hp hT => ?_)
      obtain ⟨s2_66, w2_67, rfl, hI, x_72, m_71, f_68, f_69, f_70⟩ := hp
      have hN : PL 8 g_65 na pa := hN.sm m_71 r_41 (by decide) rfl r_42 (by decide) rfl
      have hc : g_65.2.2.2.1 t = ct := (Sm.cf m_71 r_44 (by decide) rfl).trans hc
      have hWT : WT g_65 wt := hWT.sm m_71 r_43 (by decide) rfl
      have hU0 : UP g_65 na (g.2.2.2.1 na) false rz.toNatClampNeg 0 := hU0.sm m_71 r_41 (by decide) rfl
      have hU1 : UP g_65 pa (g.2.2.2.1 pa) false rz.toNatClampNeg 0 := hU1.sm m_71 r_42 (by decide) rfl
      have hU2 : UP g_65 nv (g.2.2.2.1 nv) false rz.toNatClampNeg 0 := hU2.sm m_71 r_45 (by decide) rfl
      have hM : Sm md_m_readsAct g g_65 := hM.tr hE (m_71.mo (fun r k h => mdle_m_readsAct_m_must h))
      have hE : Ex g g_65 := hE.tr x_72
      have r_73 : g_65.1 h = 8 := (Ex.r x_72 r_40 (by decide))
      have r_74 : g_65.1 na = 84 := (Ex.r x_72 r_41 (by decide))
      have r_75 : g_65.1 pa = 85 := (Ex.r x_72 r_42 (by decide))
      have r_76 : g_65.1 wt = 87 := (Ex.r x_72 r_43 (by decide))
      have r_77 : g_65.1 t = 79 := (Ex.r x_72 r_44 (by decide))
      have r_78 : g_65.1 nv = 86 := (Ex.r x_72 r_45 (by decide))
      have n_79 : g_65.2.2.1 na = 8 := (Ex.n x_72 r_41 (by decide) n_46)
      have n_80 : g_65.2.2.1 pa = 8 := (Ex.n x_72 r_42 (by decide) n_47)
      have n_81 : g_65.2.2.1 wt = 24 := (Ex.n x_72 r_43 (by decide) n_48)
      have n_82 : g_65.2.2.1 t = 100 := (Ex.n x_72 r_44 (by decide) n_49)
      have n_83 : g_65.2.2.1 nv = 8 := (Ex.n x_72 r_45 (by decide) n_50)
      have kn_84 : g_65.2.1 h 38 = .int rz := (Sm.v m_71 r_40 (by decide) rfl kn_51)
      have kn_85 : g_65.2.1 h 42 = .ref wt := (Sm.v m_71 r_40 (by decide) rfl kn_52)
      have kn_86 : g_65.2.1 h 39 = .ref na := (Sm.v m_71 r_40 (by decide) rfl kn_53)
      have kn_87 : g_65.2.1 h 40 = .ref pa := (Sm.v m_71 r_40 (by decide) rfl kn_54)
      have kn_88 : g_65.2.1 h 29 = .int z := (Sm.v m_71 r_40 (by decide) rfl kn_55)
      have kn_89 : g_65.2.1 h 28 = .ref t := (Sm.v m_71 r_40 (by decide) rfl kn_56)
      have kn_90 : g_65.2.1 h 41 = .ref nv := (Sm.v m_71 r_40 (by decide) rfl kn_57)
      have kn_91 : g_65.2.2.2.1 wt (15 : Int32).toNatClampNeg = 97 := (Sm.c m_71 r_43 (by decide) rfl kn_58)
      have kn_92 : g_65.2.2.2.1 wt (16 : Int32).toNatClampNeg = 115 := (Sm.c m_71 r_43 (by decide) rfl kw_63)
      refine W.eq (g2 := F0 m 128 ls []) rfl ?_
      have qc_93 : (0 : Int32).toInt = 0 := (by decide)
      have qc_94 : (115 : Int32).toInt = 115 := (by decide)
      rcases f_68 with ⟨hx_, -⟩ | ⟨-, ht_s2_66, hs_s2_66, hz_s2_66, hw_s2_66⟩ | ⟨-, ht_s2_66, hs_s2_66, hw_s2_66⟩
      · exact absurd hx_ (by decide)
      · have ew_ : w2_67 = 0 := i_inj (hw_s2_66.trans (by decide))
        subst ew_
        rw [show s2_33.toInt = s0.toInt + 1 by omega] at ht_s2_66
        refine lv_iinc (v := 2) (lv' := [(2, .int 2), (1, .int 5), (0, .ref h)]) hx hb dX7_readsAct_128 hl (k := 0) rfl (by decide) (by decide) rfl (fun ls hl => ?_)
        refine lv_goto (tgt := 89) hx hb dX7_readsAct_131 (by decide) ?_
        refine lv_iload_n hx hb dX7_readsAct_89 rfl (lv_at hl 0 rfl) ?_
        refine lv_iconst (v := 3) hx hb dX7_readsAct_90 (by decide) ?_
        refine lv_icmp_ge (tgt := 134) hx hb dX7_readsAct_91 (by decide) (fun c_ => absurd c_ (by decide)) (fun c_ => ?_)
        refine lv_aload_n hx hb dX7_readsAct_94 rfl (lv_at hl 2 rfl) ?_
        refine t_get (ci := 7) (v := .int 0) hB hT (ro_ci r_73 rfl) rfl 37 (by decide) k_782 f_70 dX7_readsAct_95 ?_
        refine lv_if_ne (tgt := 134) hx hb dX7_readsAct_98 (by decide) (fun c_ => absurd (by decide) c_) (fun c_ => ?_)
        refine lv_aload_n hx hb dX7_readsAct_101 rfl (lv_at hl 2 rfl) ?_
        refine t_get (ci := 7) (v := .ref wt) hB hT (ro_ci r_73 rfl) rfl 42 (by decide) k_787 kn_85 dX7_readsAct_102 ?_
        refine lv_iconst (v := 3) hx hb dX7_readsAct_105 (by decide) ?_
        refine lv_iload_n hx hb dX7_readsAct_106 rfl (lv_at hl 1 rfl) ?_
        refine lv_imul hx hb dX7_readsAct_107 ?_
        refine x_ev (y := 15) (by decide) ?_
        refine lv_iload_n hx hb dX7_readsAct_108 rfl (lv_at hl 0 rfl) ?_
        refine lv_iadd hx hb dX7_readsAct_109 ?_
        refine x_ev (y := 17) (by decide) ?_
        have kw_95 : g_65.2.2.2.1 wt (17 : Int32).toNatClampNeg = 107 := (hWT (17 : Int32).toNatClampNeg (by decide)).trans (by decide)
        have i_u_96 : vp_in (17 : Int32) 24 := (by unfold vp_in; decide)
        refine t_iald (v := (107 : Int32)) hB hT (ro_in r_76 (by decide)) n_81 i_u_96 kw_95 dX7_readsAct_110 ?_
        refine lv_if_eq (tgt := 128) hx hb dX7_readsAct_111 (by decide) (fun c_ => absurd c_ (by decide)) (fun c_ => ?_)
        refine lv_aload_n hx hb dX7_readsAct_114 rfl (lv_at hl 2 rfl) ?_
        refine lv_aload_n hx hb dX7_readsAct_115 rfl (lv_at hl 2 rfl) ?_
        refine t_get (ci := 7) (v := .ref wt) hB hT (ro_ci r_73 rfl) rfl 42 (by decide) k_787 kn_85 dX7_readsAct_116 ?_
        refine lv_iconst (v := 3) hx hb dX7_readsAct_119 (by decide) ?_
        refine lv_iload_n hx hb dX7_readsAct_120 rfl (lv_at hl 1 rfl) ?_
        refine lv_imul hx hb dX7_readsAct_121 ?_
        refine x_ev (y := 15) (by decide) ?_
        refine lv_iload_n hx hb dX7_readsAct_122 rfl (lv_at hl 0 rfl) ?_
        refine lv_iadd hx hb dX7_readsAct_123 ?_
        refine x_ev (y := 17) (by decide) ?_
        have kw_97 : g_65.2.2.2.1 wt (17 : Int32).toNatClampNeg = 107 := (hWT (17 : Int32).toNatClampNeg (by decide)).trans (by decide)
        have i_u_98 : vp_in (17 : Int32) 24 := (by unfold vp_in; decide)
        refine t_iald (v := (107 : Int32)) hB hT (ro_in r_76 (by decide)) n_81 i_u_98 kw_97 dX7_readsAct_124 ?_
        refine t_callV (n := 1) (As := [.int 107]) (rest := []) (ci := 7) hB hT hl.1 (m_must l D cI cZ cS cR N0 g_65 hI h 107 s2_66 0 z t ct r_73 r_77 n_82 f_69 f_70 kn_88 kn_89 (by have q0 : (0 : Int32).toInt = 0 := (by decide); have q1 : (107 : Int32).toInt = 107 := (by decide); omega) (by have q0 : (0 : Int32).toInt = 0 := (by decide); have q1 : (107 : Int32).toInt = 107 := (by decide); omega) (by have q0 : (0 : Int32).toInt = 0 := (by decide); have q1 : (107 : Int32).toInt = 107 := (by decide); omega) (by have q0 : (0 : Int32).toInt = 0 := (by decide); have q1 : (107 : Int32).toInt = 107 := (by decide); omega) (by have q0 : (0 : Int32).toInt = 0 := (by decide); have q1 : (107 : Int32).toInt = 107 := (by decide); omega) (by have q0 : (0 : Int32).toInt = 0 := (by decide); have q1 : (107 : Int32).toInt = 107 := (by decide); omega) (by have q0 : (0 : Int32).toInt = 0 := (by decide); have q1 : (107 : Int32).toInt = 107 := (by decide); omega) hc) (ro_ci r_73 rfl) rfl k_975 k_65 k_972 k_974 k_24 (by decide +kernel) ⟨(Nat.le_of_ble_eq_true rfl), (Nat.le_of_ble_eq_true rfl)⟩ rfl (Nat.le_of_ble_eq_true rfl) ⟨(Nat.le_of_ble_eq_true rfl), (Nat.le_of_ble_eq_true rfl)⟩ dX7_readsAct_125 (fun v g_99 H locs hp hT => ?_)
        obtain ⟨s2_100, w2_101, rfl, hI, x_106, m_105, f_102, f_103, f_104⟩ := hp
        have hN : PL 8 g_99 na pa := hN.sm m_105 r_74 (by decide) rfl r_75 (by decide) rfl
        have hc : g_99.2.2.2.1 t = ct := (Sm.cf m_105 r_77 (by decide) rfl).trans hc
        have hWT : WT g_99 wt := hWT.sm m_105 r_76 (by decide) rfl
        have hU0 : UP g_99 na (g.2.2.2.1 na) false rz.toNatClampNeg 0 := hU0.sm m_105 r_74 (by decide) rfl
        have hU1 : UP g_99 pa (g.2.2.2.1 pa) false rz.toNatClampNeg 0 := hU1.sm m_105 r_75 (by decide) rfl
        have hU2 : UP g_99 nv (g.2.2.2.1 nv) false rz.toNatClampNeg 0 := hU2.sm m_105 r_78 (by decide) rfl
        have hM : Sm md_m_readsAct g g_99 := hM.tr hE (m_105.mo (fun r k h => mdle_m_readsAct_m_must h))
        have hE : Ex g g_99 := hE.tr x_106
        have r_107 : g_99.1 h = 8 := (Ex.r x_106 r_73 (by decide))
        have r_108 : g_99.1 na = 84 := (Ex.r x_106 r_74 (by decide))
        have r_109 : g_99.1 pa = 85 := (Ex.r x_106 r_75 (by decide))
        have r_110 : g_99.1 wt = 87 := (Ex.r x_106 r_76 (by decide))
        have r_111 : g_99.1 t = 79 := (Ex.r x_106 r_77 (by decide))
        have r_112 : g_99.1 nv = 86 := (Ex.r x_106 r_78 (by decide))
        have n_113 : g_99.2.2.1 na = 8 := (Ex.n x_106 r_74 (by decide) n_79)
        have n_114 : g_99.2.2.1 pa = 8 := (Ex.n x_106 r_75 (by decide) n_80)
        have n_115 : g_99.2.2.1 wt = 24 := (Ex.n x_106 r_76 (by decide) n_81)
        have n_116 : g_99.2.2.1 t = 100 := (Ex.n x_106 r_77 (by decide) n_82)
        have n_117 : g_99.2.2.1 nv = 8 := (Ex.n x_106 r_78 (by decide) n_83)
        have kn_118 : g_99.2.1 h 38 = .int rz := (Sm.v m_105 r_73 (by decide) rfl kn_84)
        have kn_119 : g_99.2.1 h 42 = .ref wt := (Sm.v m_105 r_73 (by decide) rfl kn_85)
        have kn_120 : g_99.2.1 h 39 = .ref na := (Sm.v m_105 r_73 (by decide) rfl kn_86)
        have kn_121 : g_99.2.1 h 40 = .ref pa := (Sm.v m_105 r_73 (by decide) rfl kn_87)
        have kn_122 : g_99.2.1 h 29 = .int z := (Sm.v m_105 r_73 (by decide) rfl kn_88)
        have kn_123 : g_99.2.1 h 28 = .ref t := (Sm.v m_105 r_73 (by decide) rfl kn_89)
        have kn_124 : g_99.2.1 h 41 = .ref nv := (Sm.v m_105 r_73 (by decide) rfl kn_90)
        have kn_125 : g_99.2.2.2.1 wt (15 : Int32).toNatClampNeg = 97 := (Sm.c m_105 r_76 (by decide) rfl kn_91)
        have kn_126 : g_99.2.2.2.1 wt (16 : Int32).toNatClampNeg = 115 := (Sm.c m_105 r_76 (by decide) rfl kn_92)
        have kn_127 : g_99.2.2.2.1 wt (17 : Int32).toNatClampNeg = 107 := (Sm.c m_105 r_76 (by decide) rfl kw_97)
        refine W.eq (g2 := F0 m 128 ls []) rfl ?_
        have qc_128 : (0 : Int32).toInt = 0 := (by decide)
        have qc_129 : (107 : Int32).toInt = 107 := (by decide)
        rcases f_102 with ⟨hx_, -⟩ | ⟨-, ht_s2_100, hs_s2_100, hz_s2_100, hw_s2_100⟩ | ⟨-, ht_s2_100, hs_s2_100, hw_s2_100⟩
        · exact absurd hx_ (by decide)
        · have ew_ : w2_101 = 0 := i_inj (hw_s2_100.trans (by decide))
          subst ew_
          rw [show s2_66.toInt = s0.toInt + 2 by omega] at ht_s2_100
          refine lv_iinc (v := 3) (lv' := [(2, .int 3), (1, .int 5), (0, .ref h)]) hx hb dX7_readsAct_128 hl (k := 0) rfl (by decide) (by decide) rfl (fun ls hl => ?_)
          refine lv_goto (tgt := 89) hx hb dX7_readsAct_131 (by decide) ?_
          refine lv_iload_n hx hb dX7_readsAct_89 rfl (lv_at hl 0 rfl) ?_
          refine lv_iconst (v := 3) hx hb dX7_readsAct_90 (by decide) ?_
          refine lv_icmp_ge (tgt := 134) hx hb dX7_readsAct_91 (by decide) (fun c_ => ?_) (fun c_ => absurd (by decide) c_)
          refine lv_aload_n hx hb dX7_readsAct_134 rfl (lv_at hl 2 rfl) ?_
          refine lv_bipush (v := 32) hx hb dX7_readsAct_135 (by decide) ?_
          refine t_callV (n := 1) (As := [.int 32]) (rest := []) (ci := 7) hB hT hl.1 (m_must l D cI cZ cS cR N0 g_99 hI h 32 s2_100 0 z t ct r_107 r_111 n_116 f_103 f_104 kn_122 kn_123 (by have q0 : (0 : Int32).toInt = 0 := (by decide); have q1 : (32 : Int32).toInt = 32 := (by decide); omega) (by have q0 : (0 : Int32).toInt = 0 := (by decide); have q1 : (32 : Int32).toInt = 32 := (by decide); omega) (by have q0 : (0 : Int32).toInt = 0 := (by decide); have q1 : (32 : Int32).toInt = 32 := (by decide); omega) (by have q0 : (0 : Int32).toInt = 0 := (by decide); have q1 : (32 : Int32).toInt = 32 := (by decide); omega) (by have q0 : (0 : Int32).toInt = 0 := (by decide); have q1 : (32 : Int32).toInt = 32 := (by decide); omega) (by have q0 : (0 : Int32).toInt = 0 := (by decide); have q1 : (32 : Int32).toInt = 32 := (by decide); omega) (by have q0 : (0 : Int32).toInt = 0 := (by decide); have q1 : (32 : Int32).toInt = 32 := (by decide); omega) hc) (ro_ci r_107 rfl) rfl k_975 k_65 k_972 k_974 k_24 (by decide +kernel) ⟨(Nat.le_of_ble_eq_true rfl), (Nat.le_of_ble_eq_true rfl)⟩ rfl (Nat.le_of_ble_eq_true rfl) ⟨(Nat.le_of_ble_eq_true rfl), (Nat.le_of_ble_eq_true rfl)⟩ dX7_readsAct_137 (fun v g_130 H locs hp hT => ?_)
          obtain ⟨s2_131, w2_132, rfl, hI, x_137, m_136, f_133, f_134, f_135⟩ := hp
          have hN : PL 8 g_130 na pa := hN.sm m_136 r_108 (by decide) rfl r_109 (by decide) rfl
          have hc : g_130.2.2.2.1 t = ct := (Sm.cf m_136 r_111 (by decide) rfl).trans hc
          have hWT : WT g_130 wt := hWT.sm m_136 r_110 (by decide) rfl
          have hU0 : UP g_130 na (g.2.2.2.1 na) false rz.toNatClampNeg 0 := hU0.sm m_136 r_108 (by decide) rfl
          have hU1 : UP g_130 pa (g.2.2.2.1 pa) false rz.toNatClampNeg 0 := hU1.sm m_136 r_109 (by decide) rfl
          have hU2 : UP g_130 nv (g.2.2.2.1 nv) false rz.toNatClampNeg 0 := hU2.sm m_136 r_112 (by decide) rfl
          have hM : Sm md_m_readsAct g g_130 := hM.tr hE (m_136.mo (fun r k h => mdle_m_readsAct_m_must h))
          have hE : Ex g g_130 := hE.tr x_137
          have r_138 : g_130.1 h = 8 := (Ex.r x_137 r_107 (by decide))
          have r_139 : g_130.1 na = 84 := (Ex.r x_137 r_108 (by decide))
          have r_140 : g_130.1 pa = 85 := (Ex.r x_137 r_109 (by decide))
          have r_141 : g_130.1 wt = 87 := (Ex.r x_137 r_110 (by decide))
          have r_142 : g_130.1 t = 79 := (Ex.r x_137 r_111 (by decide))
          have r_143 : g_130.1 nv = 86 := (Ex.r x_137 r_112 (by decide))
          have n_144 : g_130.2.2.1 na = 8 := (Ex.n x_137 r_108 (by decide) n_113)
          have n_145 : g_130.2.2.1 pa = 8 := (Ex.n x_137 r_109 (by decide) n_114)
          have n_146 : g_130.2.2.1 wt = 24 := (Ex.n x_137 r_110 (by decide) n_115)
          have n_147 : g_130.2.2.1 t = 100 := (Ex.n x_137 r_111 (by decide) n_116)
          have n_148 : g_130.2.2.1 nv = 8 := (Ex.n x_137 r_112 (by decide) n_117)
          have kn_149 : g_130.2.1 h 38 = .int rz := (Sm.v m_136 r_107 (by decide) rfl kn_118)
          have kn_150 : g_130.2.1 h 42 = .ref wt := (Sm.v m_136 r_107 (by decide) rfl kn_119)
          have kn_151 : g_130.2.1 h 39 = .ref na := (Sm.v m_136 r_107 (by decide) rfl kn_120)
          have kn_152 : g_130.2.1 h 40 = .ref pa := (Sm.v m_136 r_107 (by decide) rfl kn_121)
          have kn_153 : g_130.2.1 h 29 = .int z := (Sm.v m_136 r_107 (by decide) rfl kn_122)
          have kn_154 : g_130.2.1 h 28 = .ref t := (Sm.v m_136 r_107 (by decide) rfl kn_123)
          have kn_155 : g_130.2.1 h 41 = .ref nv := (Sm.v m_136 r_107 (by decide) rfl kn_124)
          have kn_156 : g_130.2.2.2.1 wt (15 : Int32).toNatClampNeg = 97 := (Sm.c m_136 r_110 (by decide) rfl kn_125)
          have kn_157 : g_130.2.2.2.1 wt (16 : Int32).toNatClampNeg = 115 := (Sm.c m_136 r_110 (by decide) rfl kn_126)
          have kn_158 : g_130.2.2.2.1 wt (17 : Int32).toNatClampNeg = 107 := (Sm.c m_136 r_110 (by decide) rfl kn_127)
          refine W.eq (g2 := F0 m 140 ls []) rfl ?_
          have qc_159 : (0 : Int32).toInt = 0 := (by decide)
          have qc_160 : (32 : Int32).toInt = 32 := (by decide)
          rcases f_133 with ⟨hx_, -⟩ | ⟨-, ht_s2_131, hs_s2_131, hz_s2_131, hw_s2_131⟩ | ⟨-, ht_s2_131, hs_s2_131, hw_s2_131⟩
          · exact absurd hx_ (by decide)
          · have ew_ : w2_132 = 0 := i_inj (hw_s2_131.trans (by decide))
            subst ew_
            rw [show s2_100.toInt = s0.toInt + 3 by omega] at ht_s2_131
            have hv_ := wo_5 (T := (txb ct z.toInt)) (p := s0.toInt) ⟨by omega, by omega, by omega, by omega⟩
            exact lt_m_readsAct_c0 l D cI cZ cS cR N0 g h s0 rz wt na pa z t ct nv r_h r_na n_na r_pa n_pa r_wt n_wt r_t n_t r_nv n_nv krz ks0 kw0 kwt kna kpa kz kt knv l_rz u_rz l_s0 u_s0 hN_0 hWT_0 l_z u_z hc_0 hB hr   g_130 (5 : Int32) s2_131 H locs ls hT hI hE hM (by decide) (by decide) (by omega) (by omega) kn_149 f_134 f_135 hN hc hWT hU0 hU1 hU2 ⟨by decide, hv_.1.trans (by decide), (by have q_ := hv_.2; omega), by omega⟩ (lv_sub hl [1, 2] rfl)
          · have ew_ : w2_132 = 1 := i_inj (hw_s2_131.trans (by decide))
            subst ew_
            rw [show s2_100.toInt = s0.toInt + 3 by omega] at ht_s2_131
            have hs_ : wsel ((txb ct z.toInt) s0.toInt) ((txb ct z.toInt) (s0.toInt + 1)) = 5 := ws_5 (by omega) (by omega)
            have hq_ : qj (txb ct z.toInt) s0.toInt 5 = 3 := wp4_3 (by omega) (by omega) (by omega) (by omega)
            have hv_ := wd_f hs_ (Or.inr (fun h_ => absurd (hq_.symm.trans h_) (by decide)))
            exact lt_m_readsAct_c1 l D cI cZ cS cR N0 g h s0 rz wt na pa z t ct nv r_h r_na n_na r_pa n_pa r_wt n_wt r_t n_t r_nv n_nv krz ks0 kw0 kwt kna kpa kz kt knv l_rz u_rz l_s0 u_s0 hN_0 hWT_0 l_z u_z hc_0 hB hr   g_130 (5 : Int32) s2_131 H locs ls hT hI hE hM (by decide) (by decide) (by omega) (by omega) kn_149 f_134 f_135 hN hc hWT hU0 hU1 hU2 (ac_n hv_.1 (by have q_ := hv_.2; rw [hq_] at q_; omega)) (lv_sub hl [1, 2] rfl)
        · have ew_ : w2_101 = 1 := i_inj (hw_s2_100.trans (by decide))
          subst ew_
          rw [show s2_66.toInt = s0.toInt + 2 by omega] at ht_s2_100
          refine lv_iinc (v := 3) (lv' := [(2, .int 3), (1, .int 5), (0, .ref h)]) hx hb dX7_readsAct_128 hl (k := 0) rfl (by decide) (by decide) rfl (fun ls hl => ?_)
          refine lv_goto (tgt := 89) hx hb dX7_readsAct_131 (by decide) ?_
          refine lv_iload_n hx hb dX7_readsAct_89 rfl (lv_at hl 0 rfl) ?_
          refine lv_iconst (v := 3) hx hb dX7_readsAct_90 (by decide) ?_
          refine lv_icmp_ge (tgt := 134) hx hb dX7_readsAct_91 (by decide) (fun c_ => ?_) (fun c_ => absurd (by decide) c_)
          refine lv_aload_n hx hb dX7_readsAct_134 rfl (lv_at hl 2 rfl) ?_
          refine lv_bipush (v := 32) hx hb dX7_readsAct_135 (by decide) ?_
          refine t_callV (n := 1) (As := [.int 32]) (rest := []) (ci := 7) hB hT hl.1 (m_must l D cI cZ cS cR N0 g_99 hI h 32 s2_100 1 z t ct r_107 r_111 n_116 f_103 f_104 kn_122 kn_123 (by have q0 : (1 : Int32).toInt = 1 := (by decide); have q1 : (32 : Int32).toInt = 32 := (by decide); omega) (by have q0 : (1 : Int32).toInt = 1 := (by decide); have q1 : (32 : Int32).toInt = 32 := (by decide); omega) (by have q0 : (1 : Int32).toInt = 1 := (by decide); have q1 : (32 : Int32).toInt = 32 := (by decide); omega) (by have q0 : (1 : Int32).toInt = 1 := (by decide); have q1 : (32 : Int32).toInt = 32 := (by decide); omega) (by have q0 : (1 : Int32).toInt = 1 := (by decide); have q1 : (32 : Int32).toInt = 32 := (by decide); omega) (by have q0 : (1 : Int32).toInt = 1 := (by decide); have q1 : (32 : Int32).toInt = 32 := (by decide); omega) (by have q0 : (1 : Int32).toInt = 1 := (by decide); have q1 : (32 : Int32).toInt = 32 := (by decide); omega) hc) (ro_ci r_107 rfl) rfl k_975 k_65 k_972 k_974 k_24 (by decide +kernel) ⟨(Nat.le_of_ble_eq_true rfl), (Nat.le_of_ble_eq_true rfl)⟩ rfl (Nat.le_of_ble_eq_true rfl) ⟨(Nat.le_of_ble_eq_true rfl), (Nat.le_of_ble_eq_true rfl)⟩ dX7_readsAct_137 (fun v g_161 H locs hp hT => ?_)
          obtain ⟨s2_162, w2_163, rfl, hI, x_168, m_167, f_164, f_165, f_166⟩ := hp
          have hN : PL 8 g_161 na pa := hN.sm m_167 r_108 (by decide) rfl r_109 (by decide) rfl
          have hc : g_161.2.2.2.1 t = ct := (Sm.cf m_167 r_111 (by decide) rfl).trans hc
          have hWT : WT g_161 wt := hWT.sm m_167 r_110 (by decide) rfl
          have hU0 : UP g_161 na (g.2.2.2.1 na) false rz.toNatClampNeg 0 := hU0.sm m_167 r_108 (by decide) rfl
          have hU1 : UP g_161 pa (g.2.2.2.1 pa) false rz.toNatClampNeg 0 := hU1.sm m_167 r_109 (by decide) rfl
          have hU2 : UP g_161 nv (g.2.2.2.1 nv) false rz.toNatClampNeg 0 := hU2.sm m_167 r_112 (by decide) rfl
          have hM : Sm md_m_readsAct g g_161 := hM.tr hE (m_167.mo (fun r k h => mdle_m_readsAct_m_must h))
          have hE : Ex g g_161 := hE.tr x_168
          have r_169 : g_161.1 h = 8 := (Ex.r x_168 r_107 (by decide))
          have r_170 : g_161.1 na = 84 := (Ex.r x_168 r_108 (by decide))
          have r_171 : g_161.1 pa = 85 := (Ex.r x_168 r_109 (by decide))
          have r_172 : g_161.1 wt = 87 := (Ex.r x_168 r_110 (by decide))
          have r_173 : g_161.1 t = 79 := (Ex.r x_168 r_111 (by decide))
          have r_174 : g_161.1 nv = 86 := (Ex.r x_168 r_112 (by decide))
          have n_175 : g_161.2.2.1 na = 8 := (Ex.n x_168 r_108 (by decide) n_113)
          have n_176 : g_161.2.2.1 pa = 8 := (Ex.n x_168 r_109 (by decide) n_114)
          have n_177 : g_161.2.2.1 wt = 24 := (Ex.n x_168 r_110 (by decide) n_115)
          have n_178 : g_161.2.2.1 t = 100 := (Ex.n x_168 r_111 (by decide) n_116)
          have n_179 : g_161.2.2.1 nv = 8 := (Ex.n x_168 r_112 (by decide) n_117)
          have kn_180 : g_161.2.1 h 38 = .int rz := (Sm.v m_167 r_107 (by decide) rfl kn_118)
          have kn_181 : g_161.2.1 h 42 = .ref wt := (Sm.v m_167 r_107 (by decide) rfl kn_119)
          have kn_182 : g_161.2.1 h 39 = .ref na := (Sm.v m_167 r_107 (by decide) rfl kn_120)
          have kn_183 : g_161.2.1 h 40 = .ref pa := (Sm.v m_167 r_107 (by decide) rfl kn_121)
          have kn_184 : g_161.2.1 h 29 = .int z := (Sm.v m_167 r_107 (by decide) rfl kn_122)
          have kn_185 : g_161.2.1 h 28 = .ref t := (Sm.v m_167 r_107 (by decide) rfl kn_123)
          have kn_186 : g_161.2.1 h 41 = .ref nv := (Sm.v m_167 r_107 (by decide) rfl kn_124)
          have kn_187 : g_161.2.2.2.1 wt (15 : Int32).toNatClampNeg = 97 := (Sm.c m_167 r_110 (by decide) rfl kn_125)
          have kn_188 : g_161.2.2.2.1 wt (16 : Int32).toNatClampNeg = 115 := (Sm.c m_167 r_110 (by decide) rfl kn_126)
          have kn_189 : g_161.2.2.2.1 wt (17 : Int32).toNatClampNeg = 107 := (Sm.c m_167 r_110 (by decide) rfl kn_127)
          refine W.eq (g2 := F0 m 140 ls []) rfl ?_
          have qc_190 : (1 : Int32).toInt = 1 := (by decide)
          have qc_191 : (32 : Int32).toInt = 32 := (by decide)
          rcases f_164 with ⟨-, hs_s2_162, hw_s2_162⟩ | ⟨hx_, -⟩ | ⟨hx_, -⟩
          rotate_left
          · exact absurd hx_ (by decide)
          · exact absurd hx_ (by decide)
          have ew_ : w2_163 = 1 := i_inj (hw_s2_162.trans (by decide))
          subst ew_
          have hs_ : wsel ((txb ct z.toInt) s0.toInt) ((txb ct z.toInt) (s0.toInt + 1)) = 5 := ws_5 (by omega) (by omega)
          have hq_ : qj (txb ct z.toInt) s0.toInt 5 = 2 := wp4_2 (by omega) (by omega) (by omega)
          have hv_ := wd_f hs_ (Or.inr (fun h_ => absurd (hq_.symm.trans h_) (by decide)))
          exact lt_m_readsAct_c1 l D cI cZ cS cR N0 g h s0 rz wt na pa z t ct nv r_h r_na n_na r_pa n_pa r_wt n_wt r_t n_t r_nv n_nv krz ks0 kw0 kwt kna kpa kz kt knv l_rz u_rz l_s0 u_s0 hN_0 hWT_0 l_z u_z hc_0 hB hr   g_161 (5 : Int32) s2_162 H locs ls hT hI hE hM (by decide) (by decide) (by omega) (by omega) kn_180 f_165 f_166 hN hc hWT hU0 hU1 hU2 (ac_n hv_.1 (by have q_ := hv_.2; rw [hq_] at q_; omega)) (lv_sub hl [1, 2] rfl)
      · have ew_ : w2_67 = 1 := i_inj (hw_s2_66.trans (by decide))
        subst ew_
        rw [show s2_33.toInt = s0.toInt + 1 by omega] at ht_s2_66
        refine lv_iinc (v := 2) (lv' := [(2, .int 2), (1, .int 5), (0, .ref h)]) hx hb dX7_readsAct_128 hl (k := 0) rfl (by decide) (by decide) rfl (fun ls hl => ?_)
        refine lv_goto (tgt := 89) hx hb dX7_readsAct_131 (by decide) ?_
        refine lv_iload_n hx hb dX7_readsAct_89 rfl (lv_at hl 0 rfl) ?_
        refine lv_iconst (v := 3) hx hb dX7_readsAct_90 (by decide) ?_
        refine lv_icmp_ge (tgt := 134) hx hb dX7_readsAct_91 (by decide) (fun c_ => absurd c_ (by decide)) (fun c_ => ?_)
        refine lv_aload_n hx hb dX7_readsAct_94 rfl (lv_at hl 2 rfl) ?_
        refine t_get (ci := 7) (v := .int 1) hB hT (ro_ci r_73 rfl) rfl 37 (by decide) k_782 f_70 dX7_readsAct_95 ?_
        refine lv_if_ne (tgt := 134) hx hb dX7_readsAct_98 (by decide) (fun c_ => ?_) (fun c_ => absurd c_ (by decide))
        refine lv_aload_n hx hb dX7_readsAct_134 rfl (lv_at hl 2 rfl) ?_
        refine lv_bipush (v := 32) hx hb dX7_readsAct_135 (by decide) ?_
        refine t_callV (n := 1) (As := [.int 32]) (rest := []) (ci := 7) hB hT hl.1 (m_must l D cI cZ cS cR N0 g_65 hI h 32 s2_66 1 z t ct r_73 r_77 n_82 f_69 f_70 kn_88 kn_89 (by have q0 : (1 : Int32).toInt = 1 := (by decide); have q1 : (32 : Int32).toInt = 32 := (by decide); omega) (by have q0 : (1 : Int32).toInt = 1 := (by decide); have q1 : (32 : Int32).toInt = 32 := (by decide); omega) (by have q0 : (1 : Int32).toInt = 1 := (by decide); have q1 : (32 : Int32).toInt = 32 := (by decide); omega) (by have q0 : (1 : Int32).toInt = 1 := (by decide); have q1 : (32 : Int32).toInt = 32 := (by decide); omega) (by have q0 : (1 : Int32).toInt = 1 := (by decide); have q1 : (32 : Int32).toInt = 32 := (by decide); omega) (by have q0 : (1 : Int32).toInt = 1 := (by decide); have q1 : (32 : Int32).toInt = 32 := (by decide); omega) (by have q0 : (1 : Int32).toInt = 1 := (by decide); have q1 : (32 : Int32).toInt = 32 := (by decide); omega) hc) (ro_ci r_73 rfl) rfl k_975 k_65 k_972 k_974 k_24 (by decide +kernel) ⟨(Nat.le_of_ble_eq_true rfl), (Nat.le_of_ble_eq_true rfl)⟩ rfl (Nat.le_of_ble_eq_true rfl) ⟨(Nat.le_of_ble_eq_true rfl), (Nat.le_of_ble_eq_true rfl)⟩ dX7_readsAct_137 (fun v g_192 H locs hp hT => ?_)
        obtain ⟨s2_193, w2_194, rfl, hI, x_199, m_198, f_195, f_196, f_197⟩ := hp
        have hN : PL 8 g_192 na pa := hN.sm m_198 r_74 (by decide) rfl r_75 (by decide) rfl
        have hc : g_192.2.2.2.1 t = ct := (Sm.cf m_198 r_77 (by decide) rfl).trans hc
        have hWT : WT g_192 wt := hWT.sm m_198 r_76 (by decide) rfl
        have hU0 : UP g_192 na (g.2.2.2.1 na) false rz.toNatClampNeg 0 := hU0.sm m_198 r_74 (by decide) rfl
        have hU1 : UP g_192 pa (g.2.2.2.1 pa) false rz.toNatClampNeg 0 := hU1.sm m_198 r_75 (by decide) rfl
        have hU2 : UP g_192 nv (g.2.2.2.1 nv) false rz.toNatClampNeg 0 := hU2.sm m_198 r_78 (by decide) rfl
        have hM : Sm md_m_readsAct g g_192 := hM.tr hE (m_198.mo (fun r k h => mdle_m_readsAct_m_must h))
        have hE : Ex g g_192 := hE.tr x_199
        have r_200 : g_192.1 h = 8 := (Ex.r x_199 r_73 (by decide))
        have r_201 : g_192.1 na = 84 := (Ex.r x_199 r_74 (by decide))
        have r_202 : g_192.1 pa = 85 := (Ex.r x_199 r_75 (by decide))
        have r_203 : g_192.1 wt = 87 := (Ex.r x_199 r_76 (by decide))
        have r_204 : g_192.1 t = 79 := (Ex.r x_199 r_77 (by decide))
        have r_205 : g_192.1 nv = 86 := (Ex.r x_199 r_78 (by decide))
        have n_206 : g_192.2.2.1 na = 8 := (Ex.n x_199 r_74 (by decide) n_79)
        have n_207 : g_192.2.2.1 pa = 8 := (Ex.n x_199 r_75 (by decide) n_80)
        have n_208 : g_192.2.2.1 wt = 24 := (Ex.n x_199 r_76 (by decide) n_81)
        have n_209 : g_192.2.2.1 t = 100 := (Ex.n x_199 r_77 (by decide) n_82)
        have n_210 : g_192.2.2.1 nv = 8 := (Ex.n x_199 r_78 (by decide) n_83)
        have kn_211 : g_192.2.1 h 38 = .int rz := (Sm.v m_198 r_73 (by decide) rfl kn_84)
        have kn_212 : g_192.2.1 h 42 = .ref wt := (Sm.v m_198 r_73 (by decide) rfl kn_85)
        have kn_213 : g_192.2.1 h 39 = .ref na := (Sm.v m_198 r_73 (by decide) rfl kn_86)
        have kn_214 : g_192.2.1 h 40 = .ref pa := (Sm.v m_198 r_73 (by decide) rfl kn_87)
        have kn_215 : g_192.2.1 h 29 = .int z := (Sm.v m_198 r_73 (by decide) rfl kn_88)
        have kn_216 : g_192.2.1 h 28 = .ref t := (Sm.v m_198 r_73 (by decide) rfl kn_89)
        have kn_217 : g_192.2.1 h 41 = .ref nv := (Sm.v m_198 r_73 (by decide) rfl kn_90)
        have kn_218 : g_192.2.2.2.1 wt (15 : Int32).toNatClampNeg = 97 := (Sm.c m_198 r_76 (by decide) rfl kn_91)
        have kn_219 : g_192.2.2.2.1 wt (16 : Int32).toNatClampNeg = 115 := (Sm.c m_198 r_76 (by decide) rfl kn_92)
        refine W.eq (g2 := F0 m 140 ls []) rfl ?_
        have qc_220 : (1 : Int32).toInt = 1 := (by decide)
        have qc_221 : (32 : Int32).toInt = 32 := (by decide)
        rcases f_195 with ⟨-, hs_s2_193, hw_s2_193⟩ | ⟨hx_, -⟩ | ⟨hx_, -⟩
        rotate_left
        · exact absurd hx_ (by decide)
        · exact absurd hx_ (by decide)
        have ew_ : w2_194 = 1 := i_inj (hw_s2_193.trans (by decide))
        subst ew_
        have hs_ : wsel ((txb ct z.toInt) s0.toInt) ((txb ct z.toInt) (s0.toInt + 1)) = 5 := ws_5 (by omega) (by omega)
        have hq_ : qj (txb ct z.toInt) s0.toInt 5 = 1 := wp4_1 (by omega) (by omega)
        have hv_ := wd_f hs_ (Or.inr (fun h_ => absurd (hq_.symm.trans h_) (by decide)))
        exact lt_m_readsAct_c1 l D cI cZ cS cR N0 g h s0 rz wt na pa z t ct nv r_h r_na n_na r_pa n_pa r_wt n_wt r_t n_t r_nv n_nv krz ks0 kw0 kwt kna kpa kz kt knv l_rz u_rz l_s0 u_s0 hN_0 hWT_0 l_z u_z hc_0 hB hr   g_192 (5 : Int32) s2_193 H locs ls hT hI hE hM (by decide) (by decide) (by omega) (by omega) kn_211 f_196 f_197 hN hc hWT hU0 hU1 hU2 (ac_n hv_.1 (by have q_ := hv_.2; rw [hq_] at q_; omega)) (lv_sub hl [1, 2] rfl)
    · have ew_ : w2_34 = 1 := i_inj (hw_s2_33.trans (by decide))
      subst ew_
      refine lv_iinc (v := 1) (lv' := [(2, .int 1), (1, .int 5), (0, .ref h)]) hx hb dX7_readsAct_128 hl (k := 0) rfl (by decide) (by decide) rfl (fun ls hl => ?_)
      refine lv_goto (tgt := 89) hx hb dX7_readsAct_131 (by decide) ?_
      refine lv_iload_n hx hb dX7_readsAct_89 rfl (lv_at hl 0 rfl) ?_
      refine lv_iconst (v := 3) hx hb dX7_readsAct_90 (by decide) ?_
      refine lv_icmp_ge (tgt := 134) hx hb dX7_readsAct_91 (by decide) (fun c_ => absurd c_ (by decide)) (fun c_ => ?_)
      refine lv_aload_n hx hb dX7_readsAct_94 rfl (lv_at hl 2 rfl) ?_
      refine t_get (ci := 7) (v := .int 1) hB hT (ro_ci r_40 rfl) rfl 37 (by decide) k_782 f_37 dX7_readsAct_95 ?_
      refine lv_if_ne (tgt := 134) hx hb dX7_readsAct_98 (by decide) (fun c_ => ?_) (fun c_ => absurd c_ (by decide))
      refine lv_aload_n hx hb dX7_readsAct_134 rfl (lv_at hl 2 rfl) ?_
      refine lv_bipush (v := 32) hx hb dX7_readsAct_135 (by decide) ?_
      refine t_callV (n := 1) (As := [.int 32]) (rest := []) (ci := 7) hB hT hl.1 (m_must l D cI cZ cS cR N0 g_32 hI h 32 s2_33 1 z t ct r_40 r_44 n_49 f_36 f_37 kn_55 kn_56 (by have q0 : (1 : Int32).toInt = 1 := (by decide); have q1 : (32 : Int32).toInt = 32 := (by decide); omega) (by have q0 : (1 : Int32).toInt = 1 := (by decide); have q1 : (32 : Int32).toInt = 32 := (by decide); omega) (by have q0 : (1 : Int32).toInt = 1 := (by decide); have q1 : (32 : Int32).toInt = 32 := (by decide); omega) (by have q0 : (1 : Int32).toInt = 1 := (by decide); have q1 : (32 : Int32).toInt = 32 := (by decide); omega) (by have q0 : (1 : Int32).toInt = 1 := (by decide); have q1 : (32 : Int32).toInt = 32 := (by decide); omega) (by have q0 : (1 : Int32).toInt = 1 := (by decide); have q1 : (32 : Int32).toInt = 32 := (by decide); omega) (by have q0 : (1 : Int32).toInt = 1 := (by decide); have q1 : (32 : Int32).toInt = 32 := (by decide); omega) hc) (ro_ci r_40 rfl) rfl k_975 k_65 k_972 k_974 k_24 (by decide +kernel) ⟨(Nat.le_of_ble_eq_true rfl), (Nat.le_of_ble_eq_true rfl)⟩ rfl (Nat.le_of_ble_eq_true rfl) ⟨(Nat.le_of_ble_eq_true rfl), (Nat.le_of_ble_eq_true rfl)⟩ dX7_readsAct_137 (fun v g_222 H locs hp hT => ?_)
      obtain ⟨s2_223, w2_224, rfl, hI, x_229, m_228, f_225, f_226, f_227⟩ := hp
      have hN : PL 8 g_222 na pa := hN.sm m_228 r_41 (by decide) rfl r_42 (by decide) rfl
      have hc : g_222.2.2.2.1 t = ct := (Sm.cf m_228 r_44 (by decide) rfl).trans hc
      have hWT : WT g_222 wt := hWT.sm m_228 r_43 (by decide) rfl
      have hU0 : UP g_222 na (g.2.2.2.1 na) false rz.toNatClampNeg 0 := hU0.sm m_228 r_41 (by decide) rfl
      have hU1 : UP g_222 pa (g.2.2.2.1 pa) false rz.toNatClampNeg 0 := hU1.sm m_228 r_42 (by decide) rfl
      have hU2 : UP g_222 nv (g.2.2.2.1 nv) false rz.toNatClampNeg 0 := hU2.sm m_228 r_45 (by decide) rfl
      have hM : Sm md_m_readsAct g g_222 := hM.tr hE (m_228.mo (fun r k h => mdle_m_readsAct_m_must h))
      have hE : Ex g g_222 := hE.tr x_229
      have r_230 : g_222.1 h = 8 := (Ex.r x_229 r_40 (by decide))
      have r_231 : g_222.1 na = 84 := (Ex.r x_229 r_41 (by decide))
      have r_232 : g_222.1 pa = 85 := (Ex.r x_229 r_42 (by decide))
      have r_233 : g_222.1 wt = 87 := (Ex.r x_229 r_43 (by decide))
      have r_234 : g_222.1 t = 79 := (Ex.r x_229 r_44 (by decide))
      have r_235 : g_222.1 nv = 86 := (Ex.r x_229 r_45 (by decide))
      have n_236 : g_222.2.2.1 na = 8 := (Ex.n x_229 r_41 (by decide) n_46)
      have n_237 : g_222.2.2.1 pa = 8 := (Ex.n x_229 r_42 (by decide) n_47)
      have n_238 : g_222.2.2.1 wt = 24 := (Ex.n x_229 r_43 (by decide) n_48)
      have n_239 : g_222.2.2.1 t = 100 := (Ex.n x_229 r_44 (by decide) n_49)
      have n_240 : g_222.2.2.1 nv = 8 := (Ex.n x_229 r_45 (by decide) n_50)
      have kn_241 : g_222.2.1 h 38 = .int rz := (Sm.v m_228 r_40 (by decide) rfl kn_51)
      have kn_242 : g_222.2.1 h 42 = .ref wt := (Sm.v m_228 r_40 (by decide) rfl kn_52)
      have kn_243 : g_222.2.1 h 39 = .ref na := (Sm.v m_228 r_40 (by decide) rfl kn_53)
      have kn_244 : g_222.2.1 h 40 = .ref pa := (Sm.v m_228 r_40 (by decide) rfl kn_54)
      have kn_245 : g_222.2.1 h 29 = .int z := (Sm.v m_228 r_40 (by decide) rfl kn_55)
      have kn_246 : g_222.2.1 h 28 = .ref t := (Sm.v m_228 r_40 (by decide) rfl kn_56)
      have kn_247 : g_222.2.1 h 41 = .ref nv := (Sm.v m_228 r_40 (by decide) rfl kn_57)
      have kn_248 : g_222.2.2.2.1 wt (15 : Int32).toNatClampNeg = 97 := (Sm.c m_228 r_43 (by decide) rfl kn_58)
      refine W.eq (g2 := F0 m 140 ls []) rfl ?_
      have qc_249 : (1 : Int32).toInt = 1 := (by decide)
      have qc_250 : (32 : Int32).toInt = 32 := (by decide)
      rcases f_225 with ⟨-, hs_s2_223, hw_s2_223⟩ | ⟨hx_, -⟩ | ⟨hx_, -⟩
      rotate_left
      · exact absurd hx_ (by decide)
      · exact absurd hx_ (by decide)
      have ew_ : w2_224 = 1 := i_inj (hw_s2_223.trans (by decide))
      subst ew_
      have hs_ : wsel ((txb ct z.toInt) s0.toInt) ((txb ct z.toInt) (s0.toInt + 1)) = 5 := ws_5 (by omega) (by omega)
      have hq_ : qj (txb ct z.toInt) s0.toInt 5 = 0 := wp4_0 (by omega)
      have hv_ := wd_f hs_ (Or.inr (fun h_ => absurd (hq_.symm.trans h_) (by decide)))
      exact lt_m_readsAct_c1 l D cI cZ cS cR N0 g h s0 rz wt na pa z t ct nv r_h r_na n_na r_pa n_pa r_wt n_wt r_t n_t r_nv n_nv krz ks0 kw0 kwt kna kpa kz kt knv l_rz u_rz l_s0 u_s0 hN_0 hWT_0 l_z u_z hc_0 hB hr   g_222 (5 : Int32) s2_223 H locs ls hT hI hE hM (by decide) (by decide) (by omega) (by omega) kn_241 f_226 f_227 hN hc hWT hU0 hU1 hU2 (ac_n hv_.1 (by have q_ := hv_.2; rw [hq_] at q_; omega)) (lv_sub hl [1, 2] rfl)
  · have c_27' : r_19.toInt ≠ 97 := i_ne c_27 rfl (by decide)
    refine lv_iinc (v := 6) (lv' := [(1, .int 6), (0, .ref h)]) hx hb dX7_readsAct_59 hl (k := 0) rfl (by decide) (by decide) rfl (fun ls hl => ?_)
    refine lv_goto (tgt := 34) hx hb dX7_readsAct_62 (by decide) ?_
    exact lt_m_readsAct_w6 l D cI cZ cS cR N0 g h s0 rz wt na pa z t ct nv r_h r_na n_na r_pa n_pa r_wt n_wt r_t n_t r_nv n_nv krz ks0 kw0 kwt kna kpa kz kt knv l_rz u_rz l_s0 u_s0 hN_0 hWT_0 l_z u_z hc_0 hB hr   g1 H locs ls hT hI hE hM kp0 kp1 kp2 hN hc hWT hU0 hU1 hU2 (by omega) (lv_sub hl [0, 1] rfl)
set_option maxHeartbeats 4000000 in
set_option maxRecDepth 100000 in
theorem lt_m_readsAct_w4 (l : Launch) (D : va_G) (cI cZ cS cR : ClassId) (N0 : NT) (g : GS) (h : Nat) (s0 : Int32) (rz : Int32) (wt : Nat) (na : Nat) (pa : Nat) (z : Int32) (t : Nat) (ct : Nat → Int32) (nv : Nat) (r_h : g.1 h = 8) (r_na : g.1 na = 84) (n_na : g.2.2.1 na = 8) (r_pa : g.1 pa = 85) (n_pa : g.2.2.1 pa = 8) (r_wt : g.1 wt = 87) (n_wt : g.2.2.1 wt = 24) (r_t : g.1 t = 79) (n_t : g.2.2.1 t = 100) (r_nv : g.1 nv = 86) (n_nv : g.2.2.1 nv = 8) (krz : g.2.1 h 38 = .int rz) (ks0 : g.2.1 h 36 = .int s0) (kw0 : g.2.1 h 37 = .int 0) (kwt : g.2.1 h 42 = .ref wt) (kna : g.2.1 h 39 = .ref na) (kpa : g.2.1 h 40 = .ref pa) (kz : g.2.1 h 29 = .int z) (kt : g.2.1 h 28 = .ref t) (knv : g.2.1 h 41 = .ref nv) (l_rz : 0 ≤ rz.toInt) (u_rz : rz.toInt ≤ 7) (l_s0 : 0 ≤ s0.toInt) (u_s0 : s0.toInt ≤ 100) (hN_0 : PL 8 g na pa) (hWT_0 : WT g wt) (l_z : 0 ≤ z.toInt) (u_z : z.toInt ≤ 100) (hc_0 : g.2.2.2.1 t = ct) {p : Program} {e : Env} {s : State} {m : MethodId} {args : Array Value} {below : List Frame} {meth : Method} {c : Code} (hB : Tz p s m meth c args cX7_readsAct 4 RX7 D cI cZ cS cR N0) (hr : meth.sig.returnType = none)    : ∀ (g1 : GS)   (H : Heap) (locs : List Loc) (ls : Array Slot), Tv D cI cZ cS cR N0 s.heap H locs g1 → Inv g1 → Ex g g1 → Sm md_m_readsAct g g1 → g1.2.1 h 38 = .int rz → g1.2.1 h 36 = .int s0 → g1.2.1 h 37 = .int 0 → (PL 8 g1 na pa) → (g1.2.2.2.1 t = ct) → (WT g1 wt) → (UP g1 na (g.2.2.2.1 na) false rz.toNatClampNeg 0) → (UP g1 pa (g.2.2.2.1 pa) false rz.toNatClampNeg 0) → (UP g1 nv (g.2.2.2.1 nv) false rz.toNatClampNeg 0) → (¬ ((txb ct z.toInt) s0.toInt = 97 ∧ (txb ct z.toInt) (s0.toInt + 1) = 115) ∧ (txb ct z.toInt) s0.toInt ≠ 115 ∧ (txb ct z.toInt) s0.toInt ≠ 97 ∧ (txb ct z.toInt) s0.toInt ≠ 109 ∧ (txb ct z.toInt) s0.toInt ≠ 110) → lv_has ls 4 [(1, .int 4), (0, .ref h)] → W p l e (rmx 2 0 0) s m args below meth c H locs 0 0 (MQ below (tQ D cI cZ cS cR N0 (fun v g' => ∃ (z2 : Int32) (s2 : Int32) (w2 : Int32) (w_ : Int32) (c_ : Int32) (v_ : Int32), v = none ∧ Inv g' ∧ Ex g g' ∧ Sm md_m_readsAct g g' ∧ ((w2 = 1 ∧ ac (txb ct z.toInt) s0.toInt = (false, s2.toInt)) ∨ (w2 = 0 ∧ ac (txb ct z.toInt) s0.toInt = (true, s2.toInt) ∧ s2.toInt ≤ z.toInt ∧ w_.toInt = wdr (txb ct z.toInt) s0.toInt ∧ c_.toInt = acc (txb ct z.toInt) s0.toInt ∧ v_.toInt = acv (txb ct z.toInt) s0.toInt)) ∧ (g'.2.1 h 38 = .int z2) ∧ (z2.toInt = rz.toInt + 1) ∧ (PL 8 g' na pa) ∧ (g'.2.1 h 36 = .int s2) ∧ (g'.2.1 h 37 = .int w2) ∧ (0 ≤ s2.toInt ∧ s2.toInt ≤ 100) ∧ (UP g' na (g.2.2.2.1 na) true rz.toNatClampNeg w_) ∧ (UP g' pa (g.2.2.2.1 pa) true rz.toNatClampNeg c_) ∧ (UP g' nv (g.2.2.2.1 nv) true rz.toNatClampNeg v_))) args s 0 0 (fun q => N0.1 ≤ q)) (F0 m 34 ls []) := by
  have hx := hB.1
  have hb := hB.2.1
  intro g1 H locs ls hT hI hE hM kp0 kp1 kp2 hN hc hWT hU0 hU1 hU2 hS hl
  have r_1 : g1.1 h = 8 := Ex.r hE r_h (by decide)
  have r_2 : g1.1 na = 84 := Ex.r hE r_na (by decide)
  have n_3 : g1.2.2.1 na = 8 := Ex.n hE r_na (by decide) n_na
  have r_4 : g1.1 pa = 85 := Ex.r hE r_pa (by decide)
  have n_5 : g1.2.2.1 pa = 8 := Ex.n hE r_pa (by decide) n_pa
  have r_6 : g1.1 wt = 87 := Ex.r hE r_wt (by decide)
  have n_7 : g1.2.2.1 wt = 24 := Ex.n hE r_wt (by decide) n_wt
  have r_8 : g1.1 t = 79 := Ex.r hE r_t (by decide)
  have n_9 : g1.2.2.1 t = 100 := Ex.n hE r_t (by decide) n_t
  have r_10 : g1.1 nv = 86 := Ex.r hE r_nv (by decide)
  have n_11 : g1.2.2.1 nv = 8 := Ex.n hE r_nv (by decide) n_nv
  have kn_12 : g1.2.1 h 42 = .ref wt := Sm.v hM r_h (by decide) rfl kwt
  have kn_13 : g1.2.1 h 39 = .ref na := Sm.v hM r_h (by decide) rfl kna
  have kn_14 : g1.2.1 h 40 = .ref pa := Sm.v hM r_h (by decide) rfl kpa
  have kn_15 : g1.2.1 h 29 = .int z := Sm.v hM r_h (by decide) rfl kz
  have kn_16 : g1.2.1 h 28 = .ref t := Sm.v hM r_h (by decide) rfl kt
  have kn_17 : g1.2.1 h 41 = .ref nv := Sm.v hM r_h (by decide) rfl knv
  refine lv_iload_n hx hb dX7_readsAct_34 rfl (lv_at hl 0 rfl) ?_
  refine lv_bipush (v := 8) hx hb dX7_readsAct_35 (by decide) ?_
  refine lv_icmp_ge (tgt := 65) hx hb dX7_readsAct_37 (by decide) (fun c_ => absurd c_ (by decide)) (fun c_ => ?_)
  refine lv_aload_n hx hb dX7_readsAct_40 rfl (lv_at hl 1 rfl) ?_
  refine lv_aload_n hx hb dX7_readsAct_41 rfl (lv_at hl 1 rfl) ?_
  refine t_get (ci := 7) (v := .int s0) hB hT (ro_ci r_1 rfl) rfl 36 (by decide) k_781 kp1 dX7_readsAct_42 ?_
  refine t_callV (n := 1) (As := [.int s0]) (rest := []) (ci := 7) hB hT hl.1 (m_byteAt l D cI cZ cS cR N0 g1 hI h s0 z t ct r_1 r_8 n_9 kn_15 kn_16 (by omega) (by omega) (by omega) (by omega) hc) (ro_ci r_1 rfl) rfl k_971 k_65 k_968 k_970 k_23 (by decide +kernel) ⟨(Nat.le_of_ble_eq_true rfl), (Nat.le_of_ble_eq_true rfl)⟩ rfl (Nat.le_of_ble_eq_true rfl) ⟨(Nat.le_of_ble_eq_true rfl), (Nat.le_of_ble_eq_true rfl)⟩ dX7_readsAct_45 (fun v g_18 H locs hp hT => ?_)
  obtain ⟨r_19, rfl, eg, f_20, f_21, f_22⟩ := hp
  rw [eg] at hT
  clear eg
  refine W.eq (g2 := F0 m 48 ls [.int r_19]) rfl ?_
  refine lv_aload_n hx hb dX7_readsAct_48 rfl (lv_at hl 1 rfl) ?_
  refine t_get (ci := 7) (v := .ref wt) hB hT (ro_ci r_1 rfl) rfl 42 (by decide) k_787 kn_12 dX7_readsAct_49 ?_
  refine lv_iconst (v := 3) hx hb dX7_readsAct_52 (by decide) ?_
  refine lv_iload_n hx hb dX7_readsAct_53 rfl (lv_at hl 0 rfl) ?_
  refine lv_imul hx hb dX7_readsAct_54 ?_
  refine x_ev (y := 12) (by decide) ?_
  have kw_25 : g1.2.2.2.1 wt (12 : Int32).toNatClampNeg = 103 := (hWT (12 : Int32).toNatClampNeg (by decide)).trans (by decide)
  have i_u_26 : vp_in (12 : Int32) 24 := (by unfold vp_in; decide)
  refine t_iald (v := (103 : Int32)) hB hT (ro_in r_6 (by decide)) n_7 i_u_26 kw_25 dX7_readsAct_55 ?_
  refine lv_icmp_eq (tgt := 65) hx hb dX7_readsAct_56 (by decide) (fun c_27 => ?_) (fun c_27 => ?_)
  · have c_27' : r_19.toInt = 103 := i_eq c_27 rfl (by decide)
    refine lv_aload_n hx hb dX7_readsAct_65 rfl (lv_at hl 1 rfl) ?_
    refine lv_aload_n hx hb dX7_readsAct_66 rfl (lv_at hl 1 rfl) ?_
    refine t_get (ci := 7) (v := .int 0) hB hT (ro_ci r_1 rfl) rfl 37 (by decide) k_782 kp2 dX7_readsAct_67 ?_
    refine lv_if_ne (tgt := 79) hx hb dX7_readsAct_70 (by decide) (fun c_ => absurd (by decide) c_) (fun c_ => ?_)
    refine lv_iload_n hx hb dX7_readsAct_73 rfl (lv_at hl 0 rfl) ?_
    refine lv_bipush (v := 8) hx hb dX7_readsAct_74 (by decide) ?_
    refine lv_icmp_ne (tgt := 83) hx hb dX7_readsAct_76 (by decide) (fun c_ => ?_) (fun c_ => absurd c_ (by decide))
    refine lv_iconst (v := 0) hx hb dX7_readsAct_83 (by decide) ?_
    refine t_put0 (ci := 7) (v := .int 0) hB hT (ro_ci r_1 rfl) (ro_n0 r_1 (by decide)) rfl 37 (by decide) k_782 (Or.inl rfl) rfl rfl dX7_readsAct_84 (fun H locs hT => ?_)
    have hI : Inv (sF g1 h 37 (.int 0)) := hI.sF (p_8_37 r_1 (⟨_, rfl, by decide, by decide⟩))
    have hM : Sm md_m_readsAct g (sF g1 h 37 (.int 0)) := hM.tr hE (Sm_sF (by rw [r_1]; rfl))
    have hE : Ex g (sF g1 h 37 (.int 0)) := hE
    have hN : PL 8 (sF g1 h 37 (.int 0)) na pa := hN
    have hc : (sF g1 h 37 (.int 0)).2.2.2.1 t = ct := hc
    have hWT : WT (sF g1 h 37 (.int 0)) wt := hWT
    have hU0 : UP (sF g1 h 37 (.int 0)) na (g.2.2.2.1 na) false rz.toNatClampNeg 0 := hU0
    have hU1 : UP (sF g1 h 37 (.int 0)) pa (g.2.2.2.1 pa) false rz.toNatClampNeg 0 := hU1
    have hU2 : UP (sF g1 h 37 (.int 0)) nv (g.2.2.2.1 nv) false rz.toNatClampNeg 0 := hU2
    refine lv_iconst (v := 0) hx hb dX7_readsAct_87 (by decide) ?_
    refine lv_istore_n (lv' := [(2, .int 0), (1, .int 4), (0, .ref h)]) hx hb dX7_readsAct_88 rfl hl (by decide) rfl (fun ls hl => ?_)
    refine lv_iload_n hx hb dX7_readsAct_89 rfl (lv_at hl 0 rfl) ?_
    refine lv_iconst (v := 3) hx hb dX7_readsAct_90 (by decide) ?_
    refine lv_icmp_ge (tgt := 134) hx hb dX7_readsAct_91 (by decide) (fun c_ => absurd c_ (by decide)) (fun c_ => ?_)
    refine lv_aload_n hx hb dX7_readsAct_94 rfl (lv_at hl 2 rfl) ?_
    refine t_get (ci := 7) (v := .int 0) hB hT (ro_ci r_1 rfl) rfl 37 (by decide) k_782 sF_eq dX7_readsAct_95 ?_
    refine lv_if_ne (tgt := 134) hx hb dX7_readsAct_98 (by decide) (fun c_ => absurd (by decide) c_) (fun c_ => ?_)
    refine lv_aload_n hx hb dX7_readsAct_101 rfl (lv_at hl 2 rfl) ?_
    refine t_get (ci := 7) (v := .ref wt) hB hT (ro_ci r_1 rfl) rfl 42 (by decide) k_787 (sF_k kn_12 (by decide)) dX7_readsAct_102 ?_
    refine lv_iconst (v := 3) hx hb dX7_readsAct_105 (by decide) ?_
    refine lv_iload_n hx hb dX7_readsAct_106 rfl (lv_at hl 1 rfl) ?_
    refine lv_imul hx hb dX7_readsAct_107 ?_
    refine x_ev (y := 12) (by decide) ?_
    refine lv_iload_n hx hb dX7_readsAct_108 rfl (lv_at hl 0 rfl) ?_
    refine lv_iadd hx hb dX7_readsAct_109 ?_
    refine x_ev (y := 12) (by decide) ?_
    have kw_28 : (sF g1 h 37 (.int 0)).2.2.2.1 wt (12 : Int32).toNatClampNeg = 103 := (hWT (12 : Int32).toNatClampNeg (by decide)).trans (by decide)
    have i_u_29 : vp_in (12 : Int32) 24 := (by unfold vp_in; decide)
    refine t_iald (v := (103 : Int32)) hB hT (ro_in r_6 (by decide)) n_7 i_u_29 kw_28 dX7_readsAct_110 ?_
    refine lv_if_eq (tgt := 128) hx hb dX7_readsAct_111 (by decide) (fun c_ => absurd c_ (by decide)) (fun c_ => ?_)
    refine lv_aload_n hx hb dX7_readsAct_114 rfl (lv_at hl 2 rfl) ?_
    refine lv_aload_n hx hb dX7_readsAct_115 rfl (lv_at hl 2 rfl) ?_
    refine t_get (ci := 7) (v := .ref wt) hB hT (ro_ci r_1 rfl) rfl 42 (by decide) k_787 (sF_k kn_12 (by decide)) dX7_readsAct_116 ?_
    refine lv_iconst (v := 3) hx hb dX7_readsAct_119 (by decide) ?_
    refine lv_iload_n hx hb dX7_readsAct_120 rfl (lv_at hl 1 rfl) ?_
    refine lv_imul hx hb dX7_readsAct_121 ?_
    refine x_ev (y := 12) (by decide) ?_
    refine lv_iload_n hx hb dX7_readsAct_122 rfl (lv_at hl 0 rfl) ?_
    refine lv_iadd hx hb dX7_readsAct_123 ?_
    refine x_ev (y := 12) (by decide) ?_
    have kw_30 : (sF g1 h 37 (.int 0)).2.2.2.1 wt (12 : Int32).toNatClampNeg = 103 := (hWT (12 : Int32).toNatClampNeg (by decide)).trans (by decide)
    have i_u_31 : vp_in (12 : Int32) 24 := (by unfold vp_in; decide)
    refine t_iald (v := (103 : Int32)) hB hT (ro_in r_6 (by decide)) n_7 i_u_31 kw_30 dX7_readsAct_124 ?_
    refine t_callV (n := 1) (As := [.int 103]) (rest := []) (ci := 7) hB hT hl.1 (m_must l D cI cZ cS cR N0 (sF g1 h 37 (.int 0)) hI h 103 s0 0 z t ct r_1 r_8 n_9 (sF_k kp1 (by decide)) sF_eq (sF_k kn_15 (by decide)) (sF_k kn_16 (by decide)) (by have q0 : (0 : Int32).toInt = 0 := (by decide); have q1 : (103 : Int32).toInt = 103 := (by decide); omega) (by have q0 : (0 : Int32).toInt = 0 := (by decide); have q1 : (103 : Int32).toInt = 103 := (by decide); omega) (by have q0 : (0 : Int32).toInt = 0 := (by decide); have q1 : (103 : Int32).toInt = 103 := (by decide); omega) (by have q0 : (0 : Int32).toInt = 0 := (by decide); have q1 : (103 : Int32).toInt = 103 := (by decide); omega) (by have q0 : (0 : Int32).toInt = 0 := (by decide); have q1 : (103 : Int32).toInt = 103 := (by decide); omega) (by have q0 : (0 : Int32).toInt = 0 := (by decide); have q1 : (103 : Int32).toInt = 103 := (by decide); omega) (by have q0 : (0 : Int32).toInt = 0 := (by decide); have q1 : (103 : Int32).toInt = 103 := (by decide); omega) hc) (ro_ci r_1 rfl) rfl k_975 k_65 k_972 k_974 k_24 (by decide +kernel) ⟨(Nat.le_of_ble_eq_true rfl), (Nat.le_of_ble_eq_true rfl)⟩ rfl (Nat.le_of_ble_eq_true rfl) ⟨(Nat.le_of_ble_eq_true rfl), (Nat.le_of_ble_eq_true rfl)⟩ dX7_readsAct_125 (fun v g_32 H locs hp hT => ?_)
    obtain ⟨s2_33, w2_34, rfl, hI, x_39, m_38, f_35, f_36, f_37⟩ := hp
    have hN : PL 8 g_32 na pa := hN.sm m_38 r_2 (by decide) rfl r_4 (by decide) rfl
    have hc : g_32.2.2.2.1 t = ct := (Sm.cf m_38 r_8 (by decide) rfl).trans hc
    have hWT : WT g_32 wt := hWT.sm m_38 r_6 (by decide) rfl
    have hU0 : UP g_32 na (g.2.2.2.1 na) false rz.toNatClampNeg 0 := hU0.sm m_38 r_2 (by decide) rfl
    have hU1 : UP g_32 pa (g.2.2.2.1 pa) false rz.toNatClampNeg 0 := hU1.sm m_38 r_4 (by decide) rfl
    have hU2 : UP g_32 nv (g.2.2.2.1 nv) false rz.toNatClampNeg 0 := hU2.sm m_38 r_10 (by decide) rfl
    have hM : Sm md_m_readsAct g g_32 := hM.tr hE (m_38.mo (fun r k h => mdle_m_readsAct_m_must h))
    have hE : Ex g g_32 := hE.tr x_39
    have r_40 : g_32.1 h = 8 := (Ex.r x_39 r_1 (by decide))
    have r_41 : g_32.1 na = 84 := (Ex.r x_39 r_2 (by decide))
    have r_42 : g_32.1 pa = 85 := (Ex.r x_39 r_4 (by decide))
    have r_43 : g_32.1 wt = 87 := (Ex.r x_39 r_6 (by decide))
    have r_44 : g_32.1 t = 79 := (Ex.r x_39 r_8 (by decide))
    have r_45 : g_32.1 nv = 86 := (Ex.r x_39 r_10 (by decide))
    have n_46 : g_32.2.2.1 na = 8 := (Ex.n x_39 r_2 (by decide) n_3)
    have n_47 : g_32.2.2.1 pa = 8 := (Ex.n x_39 r_4 (by decide) n_5)
    have n_48 : g_32.2.2.1 wt = 24 := (Ex.n x_39 r_6 (by decide) n_7)
    have n_49 : g_32.2.2.1 t = 100 := (Ex.n x_39 r_8 (by decide) n_9)
    have n_50 : g_32.2.2.1 nv = 8 := (Ex.n x_39 r_10 (by decide) n_11)
    have kn_51 : g_32.2.1 h 38 = .int rz := (Sm.v m_38 r_1 (by decide) rfl (sF_k kp0 (by decide)))
    have kn_52 : g_32.2.1 h 42 = .ref wt := (Sm.v m_38 r_1 (by decide) rfl (sF_k kn_12 (by decide)))
    have kn_53 : g_32.2.1 h 39 = .ref na := (Sm.v m_38 r_1 (by decide) rfl (sF_k kn_13 (by decide)))
    have kn_54 : g_32.2.1 h 40 = .ref pa := (Sm.v m_38 r_1 (by decide) rfl (sF_k kn_14 (by decide)))
    have kn_55 : g_32.2.1 h 29 = .int z := (Sm.v m_38 r_1 (by decide) rfl (sF_k kn_15 (by decide)))
    have kn_56 : g_32.2.1 h 28 = .ref t := (Sm.v m_38 r_1 (by decide) rfl (sF_k kn_16 (by decide)))
    have kn_57 : g_32.2.1 h 41 = .ref nv := (Sm.v m_38 r_1 (by decide) rfl (sF_k kn_17 (by decide)))
    have kn_58 : g_32.2.2.2.1 wt (12 : Int32).toNatClampNeg = 103 := (Sm.c m_38 r_6 (by decide) rfl kw_30)
    refine W.eq (g2 := F0 m 128 ls []) rfl ?_
    have qc_59 : (0 : Int32).toInt = 0 := (by decide)
    have qc_60 : (103 : Int32).toInt = 103 := (by decide)
    rcases f_35 with ⟨hx_, -⟩ | ⟨-, ht_s2_33, hs_s2_33, hz_s2_33, hw_s2_33⟩ | ⟨-, ht_s2_33, hs_s2_33, hw_s2_33⟩
    · exact absurd hx_ (by decide)
    · have ew_ : w2_34 = 0 := i_inj (hw_s2_33.trans (by decide))
      subst ew_
      refine lv_iinc (v := 1) (lv' := [(2, .int 1), (1, .int 4), (0, .ref h)]) hx hb dX7_readsAct_128 hl (k := 0) rfl (by decide) (by decide) rfl (fun ls hl => ?_)
      refine lv_goto (tgt := 89) hx hb dX7_readsAct_131 (by decide) ?_
      refine lv_iload_n hx hb dX7_readsAct_89 rfl (lv_at hl 0 rfl) ?_
      refine lv_iconst (v := 3) hx hb dX7_readsAct_90 (by decide) ?_
      refine lv_icmp_ge (tgt := 134) hx hb dX7_readsAct_91 (by decide) (fun c_ => absurd c_ (by decide)) (fun c_ => ?_)
      refine lv_aload_n hx hb dX7_readsAct_94 rfl (lv_at hl 2 rfl) ?_
      refine t_get (ci := 7) (v := .int 0) hB hT (ro_ci r_40 rfl) rfl 37 (by decide) k_782 f_37 dX7_readsAct_95 ?_
      refine lv_if_ne (tgt := 134) hx hb dX7_readsAct_98 (by decide) (fun c_ => absurd (by decide) c_) (fun c_ => ?_)
      refine lv_aload_n hx hb dX7_readsAct_101 rfl (lv_at hl 2 rfl) ?_
      refine t_get (ci := 7) (v := .ref wt) hB hT (ro_ci r_40 rfl) rfl 42 (by decide) k_787 kn_52 dX7_readsAct_102 ?_
      refine lv_iconst (v := 3) hx hb dX7_readsAct_105 (by decide) ?_
      refine lv_iload_n hx hb dX7_readsAct_106 rfl (lv_at hl 1 rfl) ?_
      refine lv_imul hx hb dX7_readsAct_107 ?_
      refine x_ev (y := 12) (by decide) ?_
      refine lv_iload_n hx hb dX7_readsAct_108 rfl (lv_at hl 0 rfl) ?_
      refine lv_iadd hx hb dX7_readsAct_109 ?_
      refine x_ev (y := 13) (by decide) ?_
      have kw_61 : g_32.2.2.2.1 wt (13 : Int32).toNatClampNeg = 101 := (hWT (13 : Int32).toNatClampNeg (by decide)).trans (by decide)
      have i_u_62 : vp_in (13 : Int32) 24 := (by unfold vp_in; decide)
      refine t_iald (v := (101 : Int32)) hB hT (ro_in r_43 (by decide)) n_48 i_u_62 kw_61 dX7_readsAct_110 ?_
      refine lv_if_eq (tgt := 128) hx hb dX7_readsAct_111 (by decide) (fun c_ => absurd c_ (by decide)) (fun c_ => ?_)
      refine lv_aload_n hx hb dX7_readsAct_114 rfl (lv_at hl 2 rfl) ?_
      refine lv_aload_n hx hb dX7_readsAct_115 rfl (lv_at hl 2 rfl) ?_
      refine t_get (ci := 7) (v := .ref wt) hB hT (ro_ci r_40 rfl) rfl 42 (by decide) k_787 kn_52 dX7_readsAct_116 ?_
      refine lv_iconst (v := 3) hx hb dX7_readsAct_119 (by decide) ?_
      refine lv_iload_n hx hb dX7_readsAct_120 rfl (lv_at hl 1 rfl) ?_
      refine lv_imul hx hb dX7_readsAct_121 ?_
      refine x_ev (y := 12) (by decide) ?_
      refine lv_iload_n hx hb dX7_readsAct_122 rfl (lv_at hl 0 rfl) ?_
      refine lv_iadd hx hb dX7_readsAct_123 ?_
      refine x_ev (y := 13) (by decide) ?_
      have kw_63 : g_32.2.2.2.1 wt (13 : Int32).toNatClampNeg = 101 := (hWT (13 : Int32).toNatClampNeg (by decide)).trans (by decide)
      have i_u_64 : vp_in (13 : Int32) 24 := (by unfold vp_in; decide)
      refine t_iald (v := (101 : Int32)) hB hT (ro_in r_43 (by decide)) n_48 i_u_64 kw_63 dX7_readsAct_124 ?_
      refine t_callV (n := 1) (As := [.int 101]) (rest := []) (ci := 7) hB hT hl.1 (m_must l D cI cZ cS cR N0 g_32 hI h 101 s2_33 0 z t ct r_40 r_44 n_49 f_36 f_37 kn_55 kn_56 (by have q0 : (0 : Int32).toInt = 0 := (by decide); have q1 : (101 : Int32).toInt = 101 := (by decide); omega) (by have q0 : (0 : Int32).toInt = 0 := (by decide); have q1 : (101 : Int32).toInt = 101 := (by decide); omega) (by have q0 : (0 : Int32).toInt = 0 := (by decide); have q1 : (101 : Int32).toInt = 101 := (by decide); omega) (by have q0 : (0 : Int32).toInt = 0 := (by decide); have q1 : (101 : Int32).toInt = 101 := (by decide); omega) (by have q0 : (0 : Int32).toInt = 0 := (by decide); have q1 : (101 : Int32).toInt = 101 := (by decide); omega) (by have q0 : (0 : Int32).toInt = 0 := (by decide); have q1 : (101 : Int32).toInt = 101 := (by decide); omega) (by have q0 : (0 : Int32).toInt = 0 := (by decide); have q1 : (101 : Int32).toInt = 101 := (by decide); omega) hc) (ro_ci r_40 rfl) rfl k_975 k_65 k_972 k_974 k_24 (by decide +kernel) ⟨(Nat.le_of_ble_eq_true rfl), (Nat.le_of_ble_eq_true rfl)⟩ rfl (Nat.le_of_ble_eq_true rfl) ⟨(Nat.le_of_ble_eq_true rfl), (Nat.le_of_ble_eq_true rfl)⟩ dX7_readsAct_125 (fun v g_65 H locs hp hT => ?_)
      obtain ⟨s2_66, w2_67, rfl, hI, x_72, m_71, f_68, f_69, f_70⟩ := hp
      have hN : PL 8 g_65 na pa := hN.sm m_71 r_41 (by decide) rfl r_42 (by decide) rfl
      have hc : g_65.2.2.2.1 t = ct := (Sm.cf m_71 r_44 (by decide) rfl).trans hc
      have hWT : WT g_65 wt := hWT.sm m_71 r_43 (by decide) rfl
      have hU0 : UP g_65 na (g.2.2.2.1 na) false rz.toNatClampNeg 0 := hU0.sm m_71 r_41 (by decide) rfl
      have hU1 : UP g_65 pa (g.2.2.2.1 pa) false rz.toNatClampNeg 0 := hU1.sm m_71 r_42 (by decide) rfl
      have hU2 : UP g_65 nv (g.2.2.2.1 nv) false rz.toNatClampNeg 0 := hU2.sm m_71 r_45 (by decide) rfl
      have hM : Sm md_m_readsAct g g_65 := hM.tr hE (m_71.mo (fun r k h => mdle_m_readsAct_m_must h))
      have hE : Ex g g_65 := hE.tr x_72
      have r_73 : g_65.1 h = 8 := (Ex.r x_72 r_40 (by decide))
      have r_74 : g_65.1 na = 84 := (Ex.r x_72 r_41 (by decide))
      have r_75 : g_65.1 pa = 85 := (Ex.r x_72 r_42 (by decide))
      have r_76 : g_65.1 wt = 87 := (Ex.r x_72 r_43 (by decide))
      have r_77 : g_65.1 t = 79 := (Ex.r x_72 r_44 (by decide))
      have r_78 : g_65.1 nv = 86 := (Ex.r x_72 r_45 (by decide))
      have n_79 : g_65.2.2.1 na = 8 := (Ex.n x_72 r_41 (by decide) n_46)
      have n_80 : g_65.2.2.1 pa = 8 := (Ex.n x_72 r_42 (by decide) n_47)
      have n_81 : g_65.2.2.1 wt = 24 := (Ex.n x_72 r_43 (by decide) n_48)
      have n_82 : g_65.2.2.1 t = 100 := (Ex.n x_72 r_44 (by decide) n_49)
      have n_83 : g_65.2.2.1 nv = 8 := (Ex.n x_72 r_45 (by decide) n_50)
      have kn_84 : g_65.2.1 h 38 = .int rz := (Sm.v m_71 r_40 (by decide) rfl kn_51)
      have kn_85 : g_65.2.1 h 42 = .ref wt := (Sm.v m_71 r_40 (by decide) rfl kn_52)
      have kn_86 : g_65.2.1 h 39 = .ref na := (Sm.v m_71 r_40 (by decide) rfl kn_53)
      have kn_87 : g_65.2.1 h 40 = .ref pa := (Sm.v m_71 r_40 (by decide) rfl kn_54)
      have kn_88 : g_65.2.1 h 29 = .int z := (Sm.v m_71 r_40 (by decide) rfl kn_55)
      have kn_89 : g_65.2.1 h 28 = .ref t := (Sm.v m_71 r_40 (by decide) rfl kn_56)
      have kn_90 : g_65.2.1 h 41 = .ref nv := (Sm.v m_71 r_40 (by decide) rfl kn_57)
      have kn_91 : g_65.2.2.2.1 wt (12 : Int32).toNatClampNeg = 103 := (Sm.c m_71 r_43 (by decide) rfl kn_58)
      have kn_92 : g_65.2.2.2.1 wt (13 : Int32).toNatClampNeg = 101 := (Sm.c m_71 r_43 (by decide) rfl kw_63)
      refine W.eq (g2 := F0 m 128 ls []) rfl ?_
      have qc_93 : (0 : Int32).toInt = 0 := (by decide)
      have qc_94 : (101 : Int32).toInt = 101 := (by decide)
      rcases f_68 with ⟨hx_, -⟩ | ⟨-, ht_s2_66, hs_s2_66, hz_s2_66, hw_s2_66⟩ | ⟨-, ht_s2_66, hs_s2_66, hw_s2_66⟩
      · exact absurd hx_ (by decide)
      · have ew_ : w2_67 = 0 := i_inj (hw_s2_66.trans (by decide))
        subst ew_
        rw [show s2_33.toInt = s0.toInt + 1 by omega] at ht_s2_66
        refine lv_iinc (v := 2) (lv' := [(2, .int 2), (1, .int 4), (0, .ref h)]) hx hb dX7_readsAct_128 hl (k := 0) rfl (by decide) (by decide) rfl (fun ls hl => ?_)
        refine lv_goto (tgt := 89) hx hb dX7_readsAct_131 (by decide) ?_
        refine lv_iload_n hx hb dX7_readsAct_89 rfl (lv_at hl 0 rfl) ?_
        refine lv_iconst (v := 3) hx hb dX7_readsAct_90 (by decide) ?_
        refine lv_icmp_ge (tgt := 134) hx hb dX7_readsAct_91 (by decide) (fun c_ => absurd c_ (by decide)) (fun c_ => ?_)
        refine lv_aload_n hx hb dX7_readsAct_94 rfl (lv_at hl 2 rfl) ?_
        refine t_get (ci := 7) (v := .int 0) hB hT (ro_ci r_73 rfl) rfl 37 (by decide) k_782 f_70 dX7_readsAct_95 ?_
        refine lv_if_ne (tgt := 134) hx hb dX7_readsAct_98 (by decide) (fun c_ => absurd (by decide) c_) (fun c_ => ?_)
        refine lv_aload_n hx hb dX7_readsAct_101 rfl (lv_at hl 2 rfl) ?_
        refine t_get (ci := 7) (v := .ref wt) hB hT (ro_ci r_73 rfl) rfl 42 (by decide) k_787 kn_85 dX7_readsAct_102 ?_
        refine lv_iconst (v := 3) hx hb dX7_readsAct_105 (by decide) ?_
        refine lv_iload_n hx hb dX7_readsAct_106 rfl (lv_at hl 1 rfl) ?_
        refine lv_imul hx hb dX7_readsAct_107 ?_
        refine x_ev (y := 12) (by decide) ?_
        refine lv_iload_n hx hb dX7_readsAct_108 rfl (lv_at hl 0 rfl) ?_
        refine lv_iadd hx hb dX7_readsAct_109 ?_
        refine x_ev (y := 14) (by decide) ?_
        have kw_95 : g_65.2.2.2.1 wt (14 : Int32).toNatClampNeg = 116 := (hWT (14 : Int32).toNatClampNeg (by decide)).trans (by decide)
        have i_u_96 : vp_in (14 : Int32) 24 := (by unfold vp_in; decide)
        refine t_iald (v := (116 : Int32)) hB hT (ro_in r_76 (by decide)) n_81 i_u_96 kw_95 dX7_readsAct_110 ?_
        refine lv_if_eq (tgt := 128) hx hb dX7_readsAct_111 (by decide) (fun c_ => absurd c_ (by decide)) (fun c_ => ?_)
        refine lv_aload_n hx hb dX7_readsAct_114 rfl (lv_at hl 2 rfl) ?_
        refine lv_aload_n hx hb dX7_readsAct_115 rfl (lv_at hl 2 rfl) ?_
        refine t_get (ci := 7) (v := .ref wt) hB hT (ro_ci r_73 rfl) rfl 42 (by decide) k_787 kn_85 dX7_readsAct_116 ?_
        refine lv_iconst (v := 3) hx hb dX7_readsAct_119 (by decide) ?_
        refine lv_iload_n hx hb dX7_readsAct_120 rfl (lv_at hl 1 rfl) ?_
        refine lv_imul hx hb dX7_readsAct_121 ?_
        refine x_ev (y := 12) (by decide) ?_
        refine lv_iload_n hx hb dX7_readsAct_122 rfl (lv_at hl 0 rfl) ?_
        refine lv_iadd hx hb dX7_readsAct_123 ?_
        refine x_ev (y := 14) (by decide) ?_
        have kw_97 : g_65.2.2.2.1 wt (14 : Int32).toNatClampNeg = 116 := (hWT (14 : Int32).toNatClampNeg (by decide)).trans (by decide)
        have i_u_98 : vp_in (14 : Int32) 24 := (by unfold vp_in; decide)
        refine t_iald (v := (116 : Int32)) hB hT (ro_in r_76 (by decide)) n_81 i_u_98 kw_97 dX7_readsAct_124 ?_
        refine t_callV (n := 1) (As := [.int 116]) (rest := []) (ci := 7) hB hT hl.1 (m_must l D cI cZ cS cR N0 g_65 hI h 116 s2_66 0 z t ct r_73 r_77 n_82 f_69 f_70 kn_88 kn_89 (by have q0 : (0 : Int32).toInt = 0 := (by decide); have q1 : (116 : Int32).toInt = 116 := (by decide); omega) (by have q0 : (0 : Int32).toInt = 0 := (by decide); have q1 : (116 : Int32).toInt = 116 := (by decide); omega) (by have q0 : (0 : Int32).toInt = 0 := (by decide); have q1 : (116 : Int32).toInt = 116 := (by decide); omega) (by have q0 : (0 : Int32).toInt = 0 := (by decide); have q1 : (116 : Int32).toInt = 116 := (by decide); omega) (by have q0 : (0 : Int32).toInt = 0 := (by decide); have q1 : (116 : Int32).toInt = 116 := (by decide); omega) (by have q0 : (0 : Int32).toInt = 0 := (by decide); have q1 : (116 : Int32).toInt = 116 := (by decide); omega) (by have q0 : (0 : Int32).toInt = 0 := (by decide); have q1 : (116 : Int32).toInt = 116 := (by decide); omega) hc) (ro_ci r_73 rfl) rfl k_975 k_65 k_972 k_974 k_24 (by decide +kernel) ⟨(Nat.le_of_ble_eq_true rfl), (Nat.le_of_ble_eq_true rfl)⟩ rfl (Nat.le_of_ble_eq_true rfl) ⟨(Nat.le_of_ble_eq_true rfl), (Nat.le_of_ble_eq_true rfl)⟩ dX7_readsAct_125 (fun v g_99 H locs hp hT => ?_)
        obtain ⟨s2_100, w2_101, rfl, hI, x_106, m_105, f_102, f_103, f_104⟩ := hp
        have hN : PL 8 g_99 na pa := hN.sm m_105 r_74 (by decide) rfl r_75 (by decide) rfl
        have hc : g_99.2.2.2.1 t = ct := (Sm.cf m_105 r_77 (by decide) rfl).trans hc
        have hWT : WT g_99 wt := hWT.sm m_105 r_76 (by decide) rfl
        have hU0 : UP g_99 na (g.2.2.2.1 na) false rz.toNatClampNeg 0 := hU0.sm m_105 r_74 (by decide) rfl
        have hU1 : UP g_99 pa (g.2.2.2.1 pa) false rz.toNatClampNeg 0 := hU1.sm m_105 r_75 (by decide) rfl
        have hU2 : UP g_99 nv (g.2.2.2.1 nv) false rz.toNatClampNeg 0 := hU2.sm m_105 r_78 (by decide) rfl
        have hM : Sm md_m_readsAct g g_99 := hM.tr hE (m_105.mo (fun r k h => mdle_m_readsAct_m_must h))
        have hE : Ex g g_99 := hE.tr x_106
        have r_107 : g_99.1 h = 8 := (Ex.r x_106 r_73 (by decide))
        have r_108 : g_99.1 na = 84 := (Ex.r x_106 r_74 (by decide))
        have r_109 : g_99.1 pa = 85 := (Ex.r x_106 r_75 (by decide))
        have r_110 : g_99.1 wt = 87 := (Ex.r x_106 r_76 (by decide))
        have r_111 : g_99.1 t = 79 := (Ex.r x_106 r_77 (by decide))
        have r_112 : g_99.1 nv = 86 := (Ex.r x_106 r_78 (by decide))
        have n_113 : g_99.2.2.1 na = 8 := (Ex.n x_106 r_74 (by decide) n_79)
        have n_114 : g_99.2.2.1 pa = 8 := (Ex.n x_106 r_75 (by decide) n_80)
        have n_115 : g_99.2.2.1 wt = 24 := (Ex.n x_106 r_76 (by decide) n_81)
        have n_116 : g_99.2.2.1 t = 100 := (Ex.n x_106 r_77 (by decide) n_82)
        have n_117 : g_99.2.2.1 nv = 8 := (Ex.n x_106 r_78 (by decide) n_83)
        have kn_118 : g_99.2.1 h 38 = .int rz := (Sm.v m_105 r_73 (by decide) rfl kn_84)
        have kn_119 : g_99.2.1 h 42 = .ref wt := (Sm.v m_105 r_73 (by decide) rfl kn_85)
        have kn_120 : g_99.2.1 h 39 = .ref na := (Sm.v m_105 r_73 (by decide) rfl kn_86)
        have kn_121 : g_99.2.1 h 40 = .ref pa := (Sm.v m_105 r_73 (by decide) rfl kn_87)
        have kn_122 : g_99.2.1 h 29 = .int z := (Sm.v m_105 r_73 (by decide) rfl kn_88)
        have kn_123 : g_99.2.1 h 28 = .ref t := (Sm.v m_105 r_73 (by decide) rfl kn_89)
        have kn_124 : g_99.2.1 h 41 = .ref nv := (Sm.v m_105 r_73 (by decide) rfl kn_90)
        have kn_125 : g_99.2.2.2.1 wt (12 : Int32).toNatClampNeg = 103 := (Sm.c m_105 r_76 (by decide) rfl kn_91)
        have kn_126 : g_99.2.2.2.1 wt (13 : Int32).toNatClampNeg = 101 := (Sm.c m_105 r_76 (by decide) rfl kn_92)
        have kn_127 : g_99.2.2.2.1 wt (14 : Int32).toNatClampNeg = 116 := (Sm.c m_105 r_76 (by decide) rfl kw_97)
        refine W.eq (g2 := F0 m 128 ls []) rfl ?_
        have qc_128 : (0 : Int32).toInt = 0 := (by decide)
        have qc_129 : (116 : Int32).toInt = 116 := (by decide)
        rcases f_102 with ⟨hx_, -⟩ | ⟨-, ht_s2_100, hs_s2_100, hz_s2_100, hw_s2_100⟩ | ⟨-, ht_s2_100, hs_s2_100, hw_s2_100⟩
        · exact absurd hx_ (by decide)
        · have ew_ : w2_101 = 0 := i_inj (hw_s2_100.trans (by decide))
          subst ew_
          rw [show s2_66.toInt = s0.toInt + 2 by omega] at ht_s2_100
          refine lv_iinc (v := 3) (lv' := [(2, .int 3), (1, .int 4), (0, .ref h)]) hx hb dX7_readsAct_128 hl (k := 0) rfl (by decide) (by decide) rfl (fun ls hl => ?_)
          refine lv_goto (tgt := 89) hx hb dX7_readsAct_131 (by decide) ?_
          refine lv_iload_n hx hb dX7_readsAct_89 rfl (lv_at hl 0 rfl) ?_
          refine lv_iconst (v := 3) hx hb dX7_readsAct_90 (by decide) ?_
          refine lv_icmp_ge (tgt := 134) hx hb dX7_readsAct_91 (by decide) (fun c_ => ?_) (fun c_ => absurd (by decide) c_)
          refine lv_aload_n hx hb dX7_readsAct_134 rfl (lv_at hl 2 rfl) ?_
          refine lv_bipush (v := 32) hx hb dX7_readsAct_135 (by decide) ?_
          refine t_callV (n := 1) (As := [.int 32]) (rest := []) (ci := 7) hB hT hl.1 (m_must l D cI cZ cS cR N0 g_99 hI h 32 s2_100 0 z t ct r_107 r_111 n_116 f_103 f_104 kn_122 kn_123 (by have q0 : (0 : Int32).toInt = 0 := (by decide); have q1 : (32 : Int32).toInt = 32 := (by decide); omega) (by have q0 : (0 : Int32).toInt = 0 := (by decide); have q1 : (32 : Int32).toInt = 32 := (by decide); omega) (by have q0 : (0 : Int32).toInt = 0 := (by decide); have q1 : (32 : Int32).toInt = 32 := (by decide); omega) (by have q0 : (0 : Int32).toInt = 0 := (by decide); have q1 : (32 : Int32).toInt = 32 := (by decide); omega) (by have q0 : (0 : Int32).toInt = 0 := (by decide); have q1 : (32 : Int32).toInt = 32 := (by decide); omega) (by have q0 : (0 : Int32).toInt = 0 := (by decide); have q1 : (32 : Int32).toInt = 32 := (by decide); omega) (by have q0 : (0 : Int32).toInt = 0 := (by decide); have q1 : (32 : Int32).toInt = 32 := (by decide); omega) hc) (ro_ci r_107 rfl) rfl k_975 k_65 k_972 k_974 k_24 (by decide +kernel) ⟨(Nat.le_of_ble_eq_true rfl), (Nat.le_of_ble_eq_true rfl)⟩ rfl (Nat.le_of_ble_eq_true rfl) ⟨(Nat.le_of_ble_eq_true rfl), (Nat.le_of_ble_eq_true rfl)⟩ dX7_readsAct_137 (fun v g_130 H locs hp hT => ?_)
          obtain ⟨s2_131, w2_132, rfl, hI, x_137, m_136, f_133, f_134, f_135⟩ := hp
          have hN : PL 8 g_130 na pa := hN.sm m_136 r_108 (by decide) rfl r_109 (by decide) rfl
          have hc : g_130.2.2.2.1 t = ct := (Sm.cf m_136 r_111 (by decide) rfl).trans hc
          have hWT : WT g_130 wt := hWT.sm m_136 r_110 (by decide) rfl
          have hU0 : UP g_130 na (g.2.2.2.1 na) false rz.toNatClampNeg 0 := hU0.sm m_136 r_108 (by decide) rfl
          have hU1 : UP g_130 pa (g.2.2.2.1 pa) false rz.toNatClampNeg 0 := hU1.sm m_136 r_109 (by decide) rfl
          have hU2 : UP g_130 nv (g.2.2.2.1 nv) false rz.toNatClampNeg 0 := hU2.sm m_136 r_112 (by decide) rfl
          have hM : Sm md_m_readsAct g g_130 := hM.tr hE (m_136.mo (fun r k h => mdle_m_readsAct_m_must h))
          have hE : Ex g g_130 := hE.tr x_137
          have r_138 : g_130.1 h = 8 := (Ex.r x_137 r_107 (by decide))
          have r_139 : g_130.1 na = 84 := (Ex.r x_137 r_108 (by decide))
          have r_140 : g_130.1 pa = 85 := (Ex.r x_137 r_109 (by decide))
          have r_141 : g_130.1 wt = 87 := (Ex.r x_137 r_110 (by decide))
          have r_142 : g_130.1 t = 79 := (Ex.r x_137 r_111 (by decide))
          have r_143 : g_130.1 nv = 86 := (Ex.r x_137 r_112 (by decide))
          have n_144 : g_130.2.2.1 na = 8 := (Ex.n x_137 r_108 (by decide) n_113)
          have n_145 : g_130.2.2.1 pa = 8 := (Ex.n x_137 r_109 (by decide) n_114)
          have n_146 : g_130.2.2.1 wt = 24 := (Ex.n x_137 r_110 (by decide) n_115)
          have n_147 : g_130.2.2.1 t = 100 := (Ex.n x_137 r_111 (by decide) n_116)
          have n_148 : g_130.2.2.1 nv = 8 := (Ex.n x_137 r_112 (by decide) n_117)
          have kn_149 : g_130.2.1 h 38 = .int rz := (Sm.v m_136 r_107 (by decide) rfl kn_118)
          have kn_150 : g_130.2.1 h 42 = .ref wt := (Sm.v m_136 r_107 (by decide) rfl kn_119)
          have kn_151 : g_130.2.1 h 39 = .ref na := (Sm.v m_136 r_107 (by decide) rfl kn_120)
          have kn_152 : g_130.2.1 h 40 = .ref pa := (Sm.v m_136 r_107 (by decide) rfl kn_121)
          have kn_153 : g_130.2.1 h 29 = .int z := (Sm.v m_136 r_107 (by decide) rfl kn_122)
          have kn_154 : g_130.2.1 h 28 = .ref t := (Sm.v m_136 r_107 (by decide) rfl kn_123)
          have kn_155 : g_130.2.1 h 41 = .ref nv := (Sm.v m_136 r_107 (by decide) rfl kn_124)
          have kn_156 : g_130.2.2.2.1 wt (12 : Int32).toNatClampNeg = 103 := (Sm.c m_136 r_110 (by decide) rfl kn_125)
          have kn_157 : g_130.2.2.2.1 wt (13 : Int32).toNatClampNeg = 101 := (Sm.c m_136 r_110 (by decide) rfl kn_126)
          have kn_158 : g_130.2.2.2.1 wt (14 : Int32).toNatClampNeg = 116 := (Sm.c m_136 r_110 (by decide) rfl kn_127)
          refine W.eq (g2 := F0 m 140 ls []) rfl ?_
          have qc_159 : (0 : Int32).toInt = 0 := (by decide)
          have qc_160 : (32 : Int32).toInt = 32 := (by decide)
          rcases f_133 with ⟨hx_, -⟩ | ⟨-, ht_s2_131, hs_s2_131, hz_s2_131, hw_s2_131⟩ | ⟨-, ht_s2_131, hs_s2_131, hw_s2_131⟩
          · exact absurd hx_ (by decide)
          · have ew_ : w2_132 = 0 := i_inj (hw_s2_131.trans (by decide))
            subst ew_
            rw [show s2_100.toInt = s0.toInt + 3 by omega] at ht_s2_131
            have hv_ := wo_4 (T := (txb ct z.toInt)) (p := s0.toInt) ⟨by omega, by omega, by omega, by omega⟩
            exact lt_m_readsAct_c0 l D cI cZ cS cR N0 g h s0 rz wt na pa z t ct nv r_h r_na n_na r_pa n_pa r_wt n_wt r_t n_t r_nv n_nv krz ks0 kw0 kwt kna kpa kz kt knv l_rz u_rz l_s0 u_s0 hN_0 hWT_0 l_z u_z hc_0 hB hr   g_130 (4 : Int32) s2_131 H locs ls hT hI hE hM (by decide) (by decide) (by omega) (by omega) kn_149 f_134 f_135 hN hc hWT hU0 hU1 hU2 ⟨by decide, hv_.1.trans (by decide), (by have q_ := hv_.2; omega), by omega⟩ (lv_sub hl [1, 2] rfl)
          · have ew_ : w2_132 = 1 := i_inj (hw_s2_131.trans (by decide))
            subst ew_
            rw [show s2_100.toInt = s0.toInt + 3 by omega] at ht_s2_131
            have hs_ : wsel ((txb ct z.toInt) s0.toInt) ((txb ct z.toInt) (s0.toInt + 1)) = 4 := ws_4 (by omega)
            have hq_ : qj (txb ct z.toInt) s0.toInt 4 = 3 := wp4_3 (by omega) (by omega) (by omega) (by omega)
            have hv_ := wd_f hs_ (Or.inr (fun h_ => absurd (hq_.symm.trans h_) (by decide)))
            exact lt_m_readsAct_c1 l D cI cZ cS cR N0 g h s0 rz wt na pa z t ct nv r_h r_na n_na r_pa n_pa r_wt n_wt r_t n_t r_nv n_nv krz ks0 kw0 kwt kna kpa kz kt knv l_rz u_rz l_s0 u_s0 hN_0 hWT_0 l_z u_z hc_0 hB hr   g_130 (4 : Int32) s2_131 H locs ls hT hI hE hM (by decide) (by decide) (by omega) (by omega) kn_149 f_134 f_135 hN hc hWT hU0 hU1 hU2 (ac_n hv_.1 (by have q_ := hv_.2; rw [hq_] at q_; omega)) (lv_sub hl [1, 2] rfl)
        · have ew_ : w2_101 = 1 := i_inj (hw_s2_100.trans (by decide))
          subst ew_
          rw [show s2_66.toInt = s0.toInt + 2 by omega] at ht_s2_100
          refine lv_iinc (v := 3) (lv' := [(2, .int 3), (1, .int 4), (0, .ref h)]) hx hb dX7_readsAct_128 hl (k := 0) rfl (by decide) (by decide) rfl (fun ls hl => ?_)
          refine lv_goto (tgt := 89) hx hb dX7_readsAct_131 (by decide) ?_
          refine lv_iload_n hx hb dX7_readsAct_89 rfl (lv_at hl 0 rfl) ?_
          refine lv_iconst (v := 3) hx hb dX7_readsAct_90 (by decide) ?_
          refine lv_icmp_ge (tgt := 134) hx hb dX7_readsAct_91 (by decide) (fun c_ => ?_) (fun c_ => absurd (by decide) c_)
          refine lv_aload_n hx hb dX7_readsAct_134 rfl (lv_at hl 2 rfl) ?_
          refine lv_bipush (v := 32) hx hb dX7_readsAct_135 (by decide) ?_
          refine t_callV (n := 1) (As := [.int 32]) (rest := []) (ci := 7) hB hT hl.1 (m_must l D cI cZ cS cR N0 g_99 hI h 32 s2_100 1 z t ct r_107 r_111 n_116 f_103 f_104 kn_122 kn_123 (by have q0 : (1 : Int32).toInt = 1 := (by decide); have q1 : (32 : Int32).toInt = 32 := (by decide); omega) (by have q0 : (1 : Int32).toInt = 1 := (by decide); have q1 : (32 : Int32).toInt = 32 := (by decide); omega) (by have q0 : (1 : Int32).toInt = 1 := (by decide); have q1 : (32 : Int32).toInt = 32 := (by decide); omega) (by have q0 : (1 : Int32).toInt = 1 := (by decide); have q1 : (32 : Int32).toInt = 32 := (by decide); omega) (by have q0 : (1 : Int32).toInt = 1 := (by decide); have q1 : (32 : Int32).toInt = 32 := (by decide); omega) (by have q0 : (1 : Int32).toInt = 1 := (by decide); have q1 : (32 : Int32).toInt = 32 := (by decide); omega) (by have q0 : (1 : Int32).toInt = 1 := (by decide); have q1 : (32 : Int32).toInt = 32 := (by decide); omega) hc) (ro_ci r_107 rfl) rfl k_975 k_65 k_972 k_974 k_24 (by decide +kernel) ⟨(Nat.le_of_ble_eq_true rfl), (Nat.le_of_ble_eq_true rfl)⟩ rfl (Nat.le_of_ble_eq_true rfl) ⟨(Nat.le_of_ble_eq_true rfl), (Nat.le_of_ble_eq_true rfl)⟩ dX7_readsAct_137 (fun v g_161 H locs hp hT => ?_)
          obtain ⟨s2_162, w2_163, rfl, hI, x_168, m_167, f_164, f_165, f_166⟩ := hp
          have hN : PL 8 g_161 na pa := hN.sm m_167 r_108 (by decide) rfl r_109 (by decide) rfl
          have hc : g_161.2.2.2.1 t = ct := (Sm.cf m_167 r_111 (by decide) rfl).trans hc
          have hWT : WT g_161 wt := hWT.sm m_167 r_110 (by decide) rfl
          have hU0 : UP g_161 na (g.2.2.2.1 na) false rz.toNatClampNeg 0 := hU0.sm m_167 r_108 (by decide) rfl
          have hU1 : UP g_161 pa (g.2.2.2.1 pa) false rz.toNatClampNeg 0 := hU1.sm m_167 r_109 (by decide) rfl
          have hU2 : UP g_161 nv (g.2.2.2.1 nv) false rz.toNatClampNeg 0 := hU2.sm m_167 r_112 (by decide) rfl
          have hM : Sm md_m_readsAct g g_161 := hM.tr hE (m_167.mo (fun r k h => mdle_m_readsAct_m_must h))
          have hE : Ex g g_161 := hE.tr x_168
          have r_169 : g_161.1 h = 8 := (Ex.r x_168 r_107 (by decide))
          have r_170 : g_161.1 na = 84 := (Ex.r x_168 r_108 (by decide))
          have r_171 : g_161.1 pa = 85 := (Ex.r x_168 r_109 (by decide))
          have r_172 : g_161.1 wt = 87 := (Ex.r x_168 r_110 (by decide))
          have r_173 : g_161.1 t = 79 := (Ex.r x_168 r_111 (by decide))
          have r_174 : g_161.1 nv = 86 := (Ex.r x_168 r_112 (by decide))
          have n_175 : g_161.2.2.1 na = 8 := (Ex.n x_168 r_108 (by decide) n_113)
          have n_176 : g_161.2.2.1 pa = 8 := (Ex.n x_168 r_109 (by decide) n_114)
          have n_177 : g_161.2.2.1 wt = 24 := (Ex.n x_168 r_110 (by decide) n_115)
          have n_178 : g_161.2.2.1 t = 100 := (Ex.n x_168 r_111 (by decide) n_116)
          have n_179 : g_161.2.2.1 nv = 8 := (Ex.n x_168 r_112 (by decide) n_117)
          have kn_180 : g_161.2.1 h 38 = .int rz := (Sm.v m_167 r_107 (by decide) rfl kn_118)
          have kn_181 : g_161.2.1 h 42 = .ref wt := (Sm.v m_167 r_107 (by decide) rfl kn_119)
          have kn_182 : g_161.2.1 h 39 = .ref na := (Sm.v m_167 r_107 (by decide) rfl kn_120)
          have kn_183 : g_161.2.1 h 40 = .ref pa := (Sm.v m_167 r_107 (by decide) rfl kn_121)
          have kn_184 : g_161.2.1 h 29 = .int z := (Sm.v m_167 r_107 (by decide) rfl kn_122)
          have kn_185 : g_161.2.1 h 28 = .ref t := (Sm.v m_167 r_107 (by decide) rfl kn_123)
          have kn_186 : g_161.2.1 h 41 = .ref nv := (Sm.v m_167 r_107 (by decide) rfl kn_124)
          have kn_187 : g_161.2.2.2.1 wt (12 : Int32).toNatClampNeg = 103 := (Sm.c m_167 r_110 (by decide) rfl kn_125)
          have kn_188 : g_161.2.2.2.1 wt (13 : Int32).toNatClampNeg = 101 := (Sm.c m_167 r_110 (by decide) rfl kn_126)
          have kn_189 : g_161.2.2.2.1 wt (14 : Int32).toNatClampNeg = 116 := (Sm.c m_167 r_110 (by decide) rfl kn_127)
          refine W.eq (g2 := F0 m 140 ls []) rfl ?_
          have qc_190 : (1 : Int32).toInt = 1 := (by decide)
          have qc_191 : (32 : Int32).toInt = 32 := (by decide)
          rcases f_164 with ⟨-, hs_s2_162, hw_s2_162⟩ | ⟨hx_, -⟩ | ⟨hx_, -⟩
          rotate_left
          · exact absurd hx_ (by decide)
          · exact absurd hx_ (by decide)
          have ew_ : w2_163 = 1 := i_inj (hw_s2_162.trans (by decide))
          subst ew_
          have hs_ : wsel ((txb ct z.toInt) s0.toInt) ((txb ct z.toInt) (s0.toInt + 1)) = 4 := ws_4 (by omega)
          have hq_ : qj (txb ct z.toInt) s0.toInt 4 = 2 := wp4_2 (by omega) (by omega) (by omega)
          have hv_ := wd_f hs_ (Or.inr (fun h_ => absurd (hq_.symm.trans h_) (by decide)))
          exact lt_m_readsAct_c1 l D cI cZ cS cR N0 g h s0 rz wt na pa z t ct nv r_h r_na n_na r_pa n_pa r_wt n_wt r_t n_t r_nv n_nv krz ks0 kw0 kwt kna kpa kz kt knv l_rz u_rz l_s0 u_s0 hN_0 hWT_0 l_z u_z hc_0 hB hr   g_161 (4 : Int32) s2_162 H locs ls hT hI hE hM (by decide) (by decide) (by omega) (by omega) kn_180 f_165 f_166 hN hc hWT hU0 hU1 hU2 (ac_n hv_.1 (by have q_ := hv_.2; rw [hq_] at q_; omega)) (lv_sub hl [1, 2] rfl)
      · have ew_ : w2_67 = 1 := i_inj (hw_s2_66.trans (by decide))
        subst ew_
        rw [show s2_33.toInt = s0.toInt + 1 by omega] at ht_s2_66
        refine lv_iinc (v := 2) (lv' := [(2, .int 2), (1, .int 4), (0, .ref h)]) hx hb dX7_readsAct_128 hl (k := 0) rfl (by decide) (by decide) rfl (fun ls hl => ?_)
        refine lv_goto (tgt := 89) hx hb dX7_readsAct_131 (by decide) ?_
        refine lv_iload_n hx hb dX7_readsAct_89 rfl (lv_at hl 0 rfl) ?_
        refine lv_iconst (v := 3) hx hb dX7_readsAct_90 (by decide) ?_
        refine lv_icmp_ge (tgt := 134) hx hb dX7_readsAct_91 (by decide) (fun c_ => absurd c_ (by decide)) (fun c_ => ?_)
        refine lv_aload_n hx hb dX7_readsAct_94 rfl (lv_at hl 2 rfl) ?_
        refine t_get (ci := 7) (v := .int 1) hB hT (ro_ci r_73 rfl) rfl 37 (by decide) k_782 f_70 dX7_readsAct_95 ?_
        refine lv_if_ne (tgt := 134) hx hb dX7_readsAct_98 (by decide) (fun c_ => ?_) (fun c_ => absurd c_ (by decide))
        refine lv_aload_n hx hb dX7_readsAct_134 rfl (lv_at hl 2 rfl) ?_
        refine lv_bipush (v := 32) hx hb dX7_readsAct_135 (by decide) ?_
        refine t_callV (n := 1) (As := [.int 32]) (rest := []) (ci := 7) hB hT hl.1 (m_must l D cI cZ cS cR N0 g_65 hI h 32 s2_66 1 z t ct r_73 r_77 n_82 f_69 f_70 kn_88 kn_89 (by have q0 : (1 : Int32).toInt = 1 := (by decide); have q1 : (32 : Int32).toInt = 32 := (by decide); omega) (by have q0 : (1 : Int32).toInt = 1 := (by decide); have q1 : (32 : Int32).toInt = 32 := (by decide); omega) (by have q0 : (1 : Int32).toInt = 1 := (by decide); have q1 : (32 : Int32).toInt = 32 := (by decide); omega) (by have q0 : (1 : Int32).toInt = 1 := (by decide); have q1 : (32 : Int32).toInt = 32 := (by decide); omega) (by have q0 : (1 : Int32).toInt = 1 := (by decide); have q1 : (32 : Int32).toInt = 32 := (by decide); omega) (by have q0 : (1 : Int32).toInt = 1 := (by decide); have q1 : (32 : Int32).toInt = 32 := (by decide); omega) (by have q0 : (1 : Int32).toInt = 1 := (by decide); have q1 : (32 : Int32).toInt = 32 := (by decide); omega) hc) (ro_ci r_73 rfl) rfl k_975 k_65 k_972 k_974 k_24 (by decide +kernel) ⟨(Nat.le_of_ble_eq_true rfl), (Nat.le_of_ble_eq_true rfl)⟩ rfl (Nat.le_of_ble_eq_true rfl) ⟨(Nat.le_of_ble_eq_true rfl), (Nat.le_of_ble_eq_true rfl)⟩ dX7_readsAct_137 (fun v g_192 H locs hp hT => ?_)
        obtain ⟨s2_193, w2_194, rfl, hI, x_199, m_198, f_195, f_196, f_197⟩ := hp
        have hN : PL 8 g_192 na pa := hN.sm m_198 r_74 (by decide) rfl r_75 (by decide) rfl
        have hc : g_192.2.2.2.1 t = ct := (Sm.cf m_198 r_77 (by decide) rfl).trans hc
        have hWT : WT g_192 wt := hWT.sm m_198 r_76 (by decide) rfl
        have hU0 : UP g_192 na (g.2.2.2.1 na) false rz.toNatClampNeg 0 := hU0.sm m_198 r_74 (by decide) rfl
        have hU1 : UP g_192 pa (g.2.2.2.1 pa) false rz.toNatClampNeg 0 := hU1.sm m_198 r_75 (by decide) rfl
        have hU2 : UP g_192 nv (g.2.2.2.1 nv) false rz.toNatClampNeg 0 := hU2.sm m_198 r_78 (by decide) rfl
        have hM : Sm md_m_readsAct g g_192 := hM.tr hE (m_198.mo (fun r k h => mdle_m_readsAct_m_must h))
        have hE : Ex g g_192 := hE.tr x_199
        have r_200 : g_192.1 h = 8 := (Ex.r x_199 r_73 (by decide))
        have r_201 : g_192.1 na = 84 := (Ex.r x_199 r_74 (by decide))
        have r_202 : g_192.1 pa = 85 := (Ex.r x_199 r_75 (by decide))
        have r_203 : g_192.1 wt = 87 := (Ex.r x_199 r_76 (by decide))
        have r_204 : g_192.1 t = 79 := (Ex.r x_199 r_77 (by decide))
        have r_205 : g_192.1 nv = 86 := (Ex.r x_199 r_78 (by decide))
        have n_206 : g_192.2.2.1 na = 8 := (Ex.n x_199 r_74 (by decide) n_79)
        have n_207 : g_192.2.2.1 pa = 8 := (Ex.n x_199 r_75 (by decide) n_80)
        have n_208 : g_192.2.2.1 wt = 24 := (Ex.n x_199 r_76 (by decide) n_81)
        have n_209 : g_192.2.2.1 t = 100 := (Ex.n x_199 r_77 (by decide) n_82)
        have n_210 : g_192.2.2.1 nv = 8 := (Ex.n x_199 r_78 (by decide) n_83)
        have kn_211 : g_192.2.1 h 38 = .int rz := (Sm.v m_198 r_73 (by decide) rfl kn_84)
        have kn_212 : g_192.2.1 h 42 = .ref wt := (Sm.v m_198 r_73 (by decide) rfl kn_85)
        have kn_213 : g_192.2.1 h 39 = .ref na := (Sm.v m_198 r_73 (by decide) rfl kn_86)
        have kn_214 : g_192.2.1 h 40 = .ref pa := (Sm.v m_198 r_73 (by decide) rfl kn_87)
        have kn_215 : g_192.2.1 h 29 = .int z := (Sm.v m_198 r_73 (by decide) rfl kn_88)
        have kn_216 : g_192.2.1 h 28 = .ref t := (Sm.v m_198 r_73 (by decide) rfl kn_89)
        have kn_217 : g_192.2.1 h 41 = .ref nv := (Sm.v m_198 r_73 (by decide) rfl kn_90)
        have kn_218 : g_192.2.2.2.1 wt (12 : Int32).toNatClampNeg = 103 := (Sm.c m_198 r_76 (by decide) rfl kn_91)
        have kn_219 : g_192.2.2.2.1 wt (13 : Int32).toNatClampNeg = 101 := (Sm.c m_198 r_76 (by decide) rfl kn_92)
        refine W.eq (g2 := F0 m 140 ls []) rfl ?_
        have qc_220 : (1 : Int32).toInt = 1 := (by decide)
        have qc_221 : (32 : Int32).toInt = 32 := (by decide)
        rcases f_195 with ⟨-, hs_s2_193, hw_s2_193⟩ | ⟨hx_, -⟩ | ⟨hx_, -⟩
        rotate_left
        · exact absurd hx_ (by decide)
        · exact absurd hx_ (by decide)
        have ew_ : w2_194 = 1 := i_inj (hw_s2_193.trans (by decide))
        subst ew_
        have hs_ : wsel ((txb ct z.toInt) s0.toInt) ((txb ct z.toInt) (s0.toInt + 1)) = 4 := ws_4 (by omega)
        have hq_ : qj (txb ct z.toInt) s0.toInt 4 = 1 := wp4_1 (by omega) (by omega)
        have hv_ := wd_f hs_ (Or.inr (fun h_ => absurd (hq_.symm.trans h_) (by decide)))
        exact lt_m_readsAct_c1 l D cI cZ cS cR N0 g h s0 rz wt na pa z t ct nv r_h r_na n_na r_pa n_pa r_wt n_wt r_t n_t r_nv n_nv krz ks0 kw0 kwt kna kpa kz kt knv l_rz u_rz l_s0 u_s0 hN_0 hWT_0 l_z u_z hc_0 hB hr   g_192 (4 : Int32) s2_193 H locs ls hT hI hE hM (by decide) (by decide) (by omega) (by omega) kn_211 f_196 f_197 hN hc hWT hU0 hU1 hU2 (ac_n hv_.1 (by have q_ := hv_.2; rw [hq_] at q_; omega)) (lv_sub hl [1, 2] rfl)
    · have ew_ : w2_34 = 1 := i_inj (hw_s2_33.trans (by decide))
      subst ew_
      refine lv_iinc (v := 1) (lv' := [(2, .int 1), (1, .int 4), (0, .ref h)]) hx hb dX7_readsAct_128 hl (k := 0) rfl (by decide) (by decide) rfl (fun ls hl => ?_)
      refine lv_goto (tgt := 89) hx hb dX7_readsAct_131 (by decide) ?_
      refine lv_iload_n hx hb dX7_readsAct_89 rfl (lv_at hl 0 rfl) ?_
      refine lv_iconst (v := 3) hx hb dX7_readsAct_90 (by decide) ?_
      refine lv_icmp_ge (tgt := 134) hx hb dX7_readsAct_91 (by decide) (fun c_ => absurd c_ (by decide)) (fun c_ => ?_)
      refine lv_aload_n hx hb dX7_readsAct_94 rfl (lv_at hl 2 rfl) ?_
      refine t_get (ci := 7) (v := .int 1) hB hT (ro_ci r_40 rfl) rfl 37 (by decide) k_782 f_37 dX7_readsAct_95 ?_
      refine lv_if_ne (tgt := 134) hx hb dX7_readsAct_98 (by decide) (fun c_ => ?_) (fun c_ => absurd c_ (by decide))
      refine lv_aload_n hx hb dX7_readsAct_134 rfl (lv_at hl 2 rfl) ?_
      refine lv_bipush (v := 32) hx hb dX7_readsAct_135 (by decide) ?_
      refine t_callV (n := 1) (As := [.int 32]) (rest := []) (ci := 7) hB hT hl.1 (m_must l D cI cZ cS cR N0 g_32 hI h 32 s2_33 1 z t ct r_40 r_44 n_49 f_36 f_37 kn_55 kn_56 (by have q0 : (1 : Int32).toInt = 1 := (by decide); have q1 : (32 : Int32).toInt = 32 := (by decide); omega) (by have q0 : (1 : Int32).toInt = 1 := (by decide); have q1 : (32 : Int32).toInt = 32 := (by decide); omega) (by have q0 : (1 : Int32).toInt = 1 := (by decide); have q1 : (32 : Int32).toInt = 32 := (by decide); omega) (by have q0 : (1 : Int32).toInt = 1 := (by decide); have q1 : (32 : Int32).toInt = 32 := (by decide); omega) (by have q0 : (1 : Int32).toInt = 1 := (by decide); have q1 : (32 : Int32).toInt = 32 := (by decide); omega) (by have q0 : (1 : Int32).toInt = 1 := (by decide); have q1 : (32 : Int32).toInt = 32 := (by decide); omega) (by have q0 : (1 : Int32).toInt = 1 := (by decide); have q1 : (32 : Int32).toInt = 32 := (by decide); omega) hc) (ro_ci r_40 rfl) rfl k_975 k_65 k_972 k_974 k_24 (by decide +kernel) ⟨(Nat.le_of_ble_eq_true rfl), (Nat.le_of_ble_eq_true rfl)⟩ rfl (Nat.le_of_ble_eq_true rfl) ⟨(Nat.le_of_ble_eq_true rfl), (Nat.le_of_ble_eq_true rfl)⟩ dX7_readsAct_137 (fun v g_222 H locs hp hT => ?_)
      obtain ⟨s2_223, w2_224, rfl, hI, x_229, m_228, f_225, f_226, f_227⟩ := hp
      have hN : PL 8 g_222 na pa := hN.sm m_228 r_41 (by decide) rfl r_42 (by decide) rfl
      have hc : g_222.2.2.2.1 t = ct := (Sm.cf m_228 r_44 (by decide) rfl).trans hc
      have hWT : WT g_222 wt := hWT.sm m_228 r_43 (by decide) rfl
      have hU0 : UP g_222 na (g.2.2.2.1 na) false rz.toNatClampNeg 0 := hU0.sm m_228 r_41 (by decide) rfl
      have hU1 : UP g_222 pa (g.2.2.2.1 pa) false rz.toNatClampNeg 0 := hU1.sm m_228 r_42 (by decide) rfl
      have hU2 : UP g_222 nv (g.2.2.2.1 nv) false rz.toNatClampNeg 0 := hU2.sm m_228 r_45 (by decide) rfl
      have hM : Sm md_m_readsAct g g_222 := hM.tr hE (m_228.mo (fun r k h => mdle_m_readsAct_m_must h))
      have hE : Ex g g_222 := hE.tr x_229
      have r_230 : g_222.1 h = 8 := (Ex.r x_229 r_40 (by decide))
      have r_231 : g_222.1 na = 84 := (Ex.r x_229 r_41 (by decide))
      have r_232 : g_222.1 pa = 85 := (Ex.r x_229 r_42 (by decide))
      have r_233 : g_222.1 wt = 87 := (Ex.r x_229 r_43 (by decide))
      have r_234 : g_222.1 t = 79 := (Ex.r x_229 r_44 (by decide))
      have r_235 : g_222.1 nv = 86 := (Ex.r x_229 r_45 (by decide))
      have n_236 : g_222.2.2.1 na = 8 := (Ex.n x_229 r_41 (by decide) n_46)
      have n_237 : g_222.2.2.1 pa = 8 := (Ex.n x_229 r_42 (by decide) n_47)
      have n_238 : g_222.2.2.1 wt = 24 := (Ex.n x_229 r_43 (by decide) n_48)
      have n_239 : g_222.2.2.1 t = 100 := (Ex.n x_229 r_44 (by decide) n_49)
      have n_240 : g_222.2.2.1 nv = 8 := (Ex.n x_229 r_45 (by decide) n_50)
      have kn_241 : g_222.2.1 h 38 = .int rz := (Sm.v m_228 r_40 (by decide) rfl kn_51)
      have kn_242 : g_222.2.1 h 42 = .ref wt := (Sm.v m_228 r_40 (by decide) rfl kn_52)
      have kn_243 : g_222.2.1 h 39 = .ref na := (Sm.v m_228 r_40 (by decide) rfl kn_53)
      have kn_244 : g_222.2.1 h 40 = .ref pa := (Sm.v m_228 r_40 (by decide) rfl kn_54)
      have kn_245 : g_222.2.1 h 29 = .int z := (Sm.v m_228 r_40 (by decide) rfl kn_55)
      have kn_246 : g_222.2.1 h 28 = .ref t := (Sm.v m_228 r_40 (by decide) rfl kn_56)
      have kn_247 : g_222.2.1 h 41 = .ref nv := (Sm.v m_228 r_40 (by decide) rfl kn_57)
      have kn_248 : g_222.2.2.2.1 wt (12 : Int32).toNatClampNeg = 103 := (Sm.c m_228 r_43 (by decide) rfl kn_58)
      refine W.eq (g2 := F0 m 140 ls []) rfl ?_
      have qc_249 : (1 : Int32).toInt = 1 := (by decide)
      have qc_250 : (32 : Int32).toInt = 32 := (by decide)
      rcases f_225 with ⟨-, hs_s2_223, hw_s2_223⟩ | ⟨hx_, -⟩ | ⟨hx_, -⟩
      rotate_left
      · exact absurd hx_ (by decide)
      · exact absurd hx_ (by decide)
      have ew_ : w2_224 = 1 := i_inj (hw_s2_223.trans (by decide))
      subst ew_
      have hs_ : wsel ((txb ct z.toInt) s0.toInt) ((txb ct z.toInt) (s0.toInt + 1)) = 4 := ws_4 (by omega)
      have hq_ : qj (txb ct z.toInt) s0.toInt 4 = 0 := wp4_0 (by omega)
      have hv_ := wd_f hs_ (Or.inr (fun h_ => absurd (hq_.symm.trans h_) (by decide)))
      exact lt_m_readsAct_c1 l D cI cZ cS cR N0 g h s0 rz wt na pa z t ct nv r_h r_na n_na r_pa n_pa r_wt n_wt r_t n_t r_nv n_nv krz ks0 kw0 kwt kna kpa kz kt knv l_rz u_rz l_s0 u_s0 hN_0 hWT_0 l_z u_z hc_0 hB hr   g_222 (4 : Int32) s2_223 H locs ls hT hI hE hM (by decide) (by decide) (by omega) (by omega) kn_241 f_226 f_227 hN hc hWT hU0 hU1 hU2 (ac_n hv_.1 (by have q_ := hv_.2; rw [hq_] at q_; omega)) (lv_sub hl [1, 2] rfl)
  · have c_27' : r_19.toInt ≠ 103 := i_ne c_27 rfl (by decide)
    refine lv_iinc (v := 5) (lv' := [(1, .int 5), (0, .ref h)]) hx hb dX7_readsAct_59 hl (k := 0) rfl (by decide) (by decide) rfl (fun ls hl => ?_)
    refine lv_goto (tgt := 34) hx hb dX7_readsAct_62 (by decide) ?_
    exact lt_m_readsAct_w5 l D cI cZ cS cR N0 g h s0 rz wt na pa z t ct nv r_h r_na n_na r_pa n_pa r_wt n_wt r_t n_t r_nv n_nv krz ks0 kw0 kwt kna kpa kz kt knv l_rz u_rz l_s0 u_s0 hN_0 hWT_0 l_z u_z hc_0 hB hr   g1 H locs ls hT hI hE hM kp0 kp1 kp2 hN hc hWT hU0 hU1 hU2 (by omega) (lv_sub hl [0, 1] rfl)
set_option maxHeartbeats 4000000 in
set_option maxRecDepth 100000 in
theorem lt_m_readsAct_w3 (l : Launch) (D : va_G) (cI cZ cS cR : ClassId) (N0 : NT) (g : GS) (h : Nat) (s0 : Int32) (rz : Int32) (wt : Nat) (na : Nat) (pa : Nat) (z : Int32) (t : Nat) (ct : Nat → Int32) (nv : Nat) (r_h : g.1 h = 8) (r_na : g.1 na = 84) (n_na : g.2.2.1 na = 8) (r_pa : g.1 pa = 85) (n_pa : g.2.2.1 pa = 8) (r_wt : g.1 wt = 87) (n_wt : g.2.2.1 wt = 24) (r_t : g.1 t = 79) (n_t : g.2.2.1 t = 100) (r_nv : g.1 nv = 86) (n_nv : g.2.2.1 nv = 8) (krz : g.2.1 h 38 = .int rz) (ks0 : g.2.1 h 36 = .int s0) (kw0 : g.2.1 h 37 = .int 0) (kwt : g.2.1 h 42 = .ref wt) (kna : g.2.1 h 39 = .ref na) (kpa : g.2.1 h 40 = .ref pa) (kz : g.2.1 h 29 = .int z) (kt : g.2.1 h 28 = .ref t) (knv : g.2.1 h 41 = .ref nv) (l_rz : 0 ≤ rz.toInt) (u_rz : rz.toInt ≤ 7) (l_s0 : 0 ≤ s0.toInt) (u_s0 : s0.toInt ≤ 100) (hN_0 : PL 8 g na pa) (hWT_0 : WT g wt) (l_z : 0 ≤ z.toInt) (u_z : z.toInt ≤ 100) (hc_0 : g.2.2.2.1 t = ct) {p : Program} {e : Env} {s : State} {m : MethodId} {args : Array Value} {below : List Frame} {meth : Method} {c : Code} (hB : Tz p s m meth c args cX7_readsAct 4 RX7 D cI cZ cS cR N0) (hr : meth.sig.returnType = none)    : ∀ (g1 : GS)   (H : Heap) (locs : List Loc) (ls : Array Slot), Tv D cI cZ cS cR N0 s.heap H locs g1 → Inv g1 → Ex g g1 → Sm md_m_readsAct g g1 → g1.2.1 h 38 = .int rz → g1.2.1 h 36 = .int s0 → g1.2.1 h 37 = .int 0 → (PL 8 g1 na pa) → (g1.2.2.2.1 t = ct) → (WT g1 wt) → (UP g1 na (g.2.2.2.1 na) false rz.toNatClampNeg 0) → (UP g1 pa (g.2.2.2.1 pa) false rz.toNatClampNeg 0) → (UP g1 nv (g.2.2.2.1 nv) false rz.toNatClampNeg 0) → (¬ ((txb ct z.toInt) s0.toInt = 97 ∧ (txb ct z.toInt) (s0.toInt + 1) = 115) ∧ (txb ct z.toInt) s0.toInt ≠ 115 ∧ (txb ct z.toInt) s0.toInt ≠ 97 ∧ (txb ct z.toInt) s0.toInt ≠ 109) → lv_has ls 4 [(1, .int 3), (0, .ref h)] → W p l e (rmx 2 0 0) s m args below meth c H locs 0 0 (MQ below (tQ D cI cZ cS cR N0 (fun v g' => ∃ (z2 : Int32) (s2 : Int32) (w2 : Int32) (w_ : Int32) (c_ : Int32) (v_ : Int32), v = none ∧ Inv g' ∧ Ex g g' ∧ Sm md_m_readsAct g g' ∧ ((w2 = 1 ∧ ac (txb ct z.toInt) s0.toInt = (false, s2.toInt)) ∨ (w2 = 0 ∧ ac (txb ct z.toInt) s0.toInt = (true, s2.toInt) ∧ s2.toInt ≤ z.toInt ∧ w_.toInt = wdr (txb ct z.toInt) s0.toInt ∧ c_.toInt = acc (txb ct z.toInt) s0.toInt ∧ v_.toInt = acv (txb ct z.toInt) s0.toInt)) ∧ (g'.2.1 h 38 = .int z2) ∧ (z2.toInt = rz.toInt + 1) ∧ (PL 8 g' na pa) ∧ (g'.2.1 h 36 = .int s2) ∧ (g'.2.1 h 37 = .int w2) ∧ (0 ≤ s2.toInt ∧ s2.toInt ≤ 100) ∧ (UP g' na (g.2.2.2.1 na) true rz.toNatClampNeg w_) ∧ (UP g' pa (g.2.2.2.1 pa) true rz.toNatClampNeg c_) ∧ (UP g' nv (g.2.2.2.1 nv) true rz.toNatClampNeg v_))) args s 0 0 (fun q => N0.1 ≤ q)) (F0 m 34 ls []) := by
  have hx := hB.1
  have hb := hB.2.1
  intro g1 H locs ls hT hI hE hM kp0 kp1 kp2 hN hc hWT hU0 hU1 hU2 hS hl
  have r_1 : g1.1 h = 8 := Ex.r hE r_h (by decide)
  have r_2 : g1.1 na = 84 := Ex.r hE r_na (by decide)
  have n_3 : g1.2.2.1 na = 8 := Ex.n hE r_na (by decide) n_na
  have r_4 : g1.1 pa = 85 := Ex.r hE r_pa (by decide)
  have n_5 : g1.2.2.1 pa = 8 := Ex.n hE r_pa (by decide) n_pa
  have r_6 : g1.1 wt = 87 := Ex.r hE r_wt (by decide)
  have n_7 : g1.2.2.1 wt = 24 := Ex.n hE r_wt (by decide) n_wt
  have r_8 : g1.1 t = 79 := Ex.r hE r_t (by decide)
  have n_9 : g1.2.2.1 t = 100 := Ex.n hE r_t (by decide) n_t
  have r_10 : g1.1 nv = 86 := Ex.r hE r_nv (by decide)
  have n_11 : g1.2.2.1 nv = 8 := Ex.n hE r_nv (by decide) n_nv
  have kn_12 : g1.2.1 h 42 = .ref wt := Sm.v hM r_h (by decide) rfl kwt
  have kn_13 : g1.2.1 h 39 = .ref na := Sm.v hM r_h (by decide) rfl kna
  have kn_14 : g1.2.1 h 40 = .ref pa := Sm.v hM r_h (by decide) rfl kpa
  have kn_15 : g1.2.1 h 29 = .int z := Sm.v hM r_h (by decide) rfl kz
  have kn_16 : g1.2.1 h 28 = .ref t := Sm.v hM r_h (by decide) rfl kt
  have kn_17 : g1.2.1 h 41 = .ref nv := Sm.v hM r_h (by decide) rfl knv
  refine lv_iload_n hx hb dX7_readsAct_34 rfl (lv_at hl 0 rfl) ?_
  refine lv_bipush (v := 8) hx hb dX7_readsAct_35 (by decide) ?_
  refine lv_icmp_ge (tgt := 65) hx hb dX7_readsAct_37 (by decide) (fun c_ => absurd c_ (by decide)) (fun c_ => ?_)
  refine lv_aload_n hx hb dX7_readsAct_40 rfl (lv_at hl 1 rfl) ?_
  refine lv_aload_n hx hb dX7_readsAct_41 rfl (lv_at hl 1 rfl) ?_
  refine t_get (ci := 7) (v := .int s0) hB hT (ro_ci r_1 rfl) rfl 36 (by decide) k_781 kp1 dX7_readsAct_42 ?_
  refine t_callV (n := 1) (As := [.int s0]) (rest := []) (ci := 7) hB hT hl.1 (m_byteAt l D cI cZ cS cR N0 g1 hI h s0 z t ct r_1 r_8 n_9 kn_15 kn_16 (by omega) (by omega) (by omega) (by omega) hc) (ro_ci r_1 rfl) rfl k_971 k_65 k_968 k_970 k_23 (by decide +kernel) ⟨(Nat.le_of_ble_eq_true rfl), (Nat.le_of_ble_eq_true rfl)⟩ rfl (Nat.le_of_ble_eq_true rfl) ⟨(Nat.le_of_ble_eq_true rfl), (Nat.le_of_ble_eq_true rfl)⟩ dX7_readsAct_45 (fun v g_18 H locs hp hT => ?_)
  obtain ⟨r_19, rfl, eg, f_20, f_21, f_22⟩ := hp
  rw [eg] at hT
  clear eg
  refine W.eq (g2 := F0 m 48 ls [.int r_19]) rfl ?_
  refine lv_aload_n hx hb dX7_readsAct_48 rfl (lv_at hl 1 rfl) ?_
  refine t_get (ci := 7) (v := .ref wt) hB hT (ro_ci r_1 rfl) rfl 42 (by decide) k_787 kn_12 dX7_readsAct_49 ?_
  refine lv_iconst (v := 3) hx hb dX7_readsAct_52 (by decide) ?_
  refine lv_iload_n hx hb dX7_readsAct_53 rfl (lv_at hl 0 rfl) ?_
  refine lv_imul hx hb dX7_readsAct_54 ?_
  refine x_ev (y := 9) (by decide) ?_
  have kw_25 : g1.2.2.2.1 wt (9 : Int32).toNatClampNeg = 110 := (hWT (9 : Int32).toNatClampNeg (by decide)).trans (by decide)
  have i_u_26 : vp_in (9 : Int32) 24 := (by unfold vp_in; decide)
  refine t_iald (v := (110 : Int32)) hB hT (ro_in r_6 (by decide)) n_7 i_u_26 kw_25 dX7_readsAct_55 ?_
  refine lv_icmp_eq (tgt := 65) hx hb dX7_readsAct_56 (by decide) (fun c_27 => ?_) (fun c_27 => ?_)
  · have c_27' : r_19.toInt = 110 := i_eq c_27 rfl (by decide)
    refine lv_aload_n hx hb dX7_readsAct_65 rfl (lv_at hl 1 rfl) ?_
    refine lv_aload_n hx hb dX7_readsAct_66 rfl (lv_at hl 1 rfl) ?_
    refine t_get (ci := 7) (v := .int 0) hB hT (ro_ci r_1 rfl) rfl 37 (by decide) k_782 kp2 dX7_readsAct_67 ?_
    refine lv_if_ne (tgt := 79) hx hb dX7_readsAct_70 (by decide) (fun c_ => absurd (by decide) c_) (fun c_ => ?_)
    refine lv_iload_n hx hb dX7_readsAct_73 rfl (lv_at hl 0 rfl) ?_
    refine lv_bipush (v := 8) hx hb dX7_readsAct_74 (by decide) ?_
    refine lv_icmp_ne (tgt := 83) hx hb dX7_readsAct_76 (by decide) (fun c_ => ?_) (fun c_ => absurd c_ (by decide))
    refine lv_iconst (v := 0) hx hb dX7_readsAct_83 (by decide) ?_
    refine t_put0 (ci := 7) (v := .int 0) hB hT (ro_ci r_1 rfl) (ro_n0 r_1 (by decide)) rfl 37 (by decide) k_782 (Or.inl rfl) rfl rfl dX7_readsAct_84 (fun H locs hT => ?_)
    have hI : Inv (sF g1 h 37 (.int 0)) := hI.sF (p_8_37 r_1 (⟨_, rfl, by decide, by decide⟩))
    have hM : Sm md_m_readsAct g (sF g1 h 37 (.int 0)) := hM.tr hE (Sm_sF (by rw [r_1]; rfl))
    have hE : Ex g (sF g1 h 37 (.int 0)) := hE
    have hN : PL 8 (sF g1 h 37 (.int 0)) na pa := hN
    have hc : (sF g1 h 37 (.int 0)).2.2.2.1 t = ct := hc
    have hWT : WT (sF g1 h 37 (.int 0)) wt := hWT
    have hU0 : UP (sF g1 h 37 (.int 0)) na (g.2.2.2.1 na) false rz.toNatClampNeg 0 := hU0
    have hU1 : UP (sF g1 h 37 (.int 0)) pa (g.2.2.2.1 pa) false rz.toNatClampNeg 0 := hU1
    have hU2 : UP (sF g1 h 37 (.int 0)) nv (g.2.2.2.1 nv) false rz.toNatClampNeg 0 := hU2
    refine lv_iconst (v := 0) hx hb dX7_readsAct_87 (by decide) ?_
    refine lv_istore_n (lv' := [(2, .int 0), (1, .int 3), (0, .ref h)]) hx hb dX7_readsAct_88 rfl hl (by decide) rfl (fun ls hl => ?_)
    refine lv_iload_n hx hb dX7_readsAct_89 rfl (lv_at hl 0 rfl) ?_
    refine lv_iconst (v := 3) hx hb dX7_readsAct_90 (by decide) ?_
    refine lv_icmp_ge (tgt := 134) hx hb dX7_readsAct_91 (by decide) (fun c_ => absurd c_ (by decide)) (fun c_ => ?_)
    refine lv_aload_n hx hb dX7_readsAct_94 rfl (lv_at hl 2 rfl) ?_
    refine t_get (ci := 7) (v := .int 0) hB hT (ro_ci r_1 rfl) rfl 37 (by decide) k_782 sF_eq dX7_readsAct_95 ?_
    refine lv_if_ne (tgt := 134) hx hb dX7_readsAct_98 (by decide) (fun c_ => absurd (by decide) c_) (fun c_ => ?_)
    refine lv_aload_n hx hb dX7_readsAct_101 rfl (lv_at hl 2 rfl) ?_
    refine t_get (ci := 7) (v := .ref wt) hB hT (ro_ci r_1 rfl) rfl 42 (by decide) k_787 (sF_k kn_12 (by decide)) dX7_readsAct_102 ?_
    refine lv_iconst (v := 3) hx hb dX7_readsAct_105 (by decide) ?_
    refine lv_iload_n hx hb dX7_readsAct_106 rfl (lv_at hl 1 rfl) ?_
    refine lv_imul hx hb dX7_readsAct_107 ?_
    refine x_ev (y := 9) (by decide) ?_
    refine lv_iload_n hx hb dX7_readsAct_108 rfl (lv_at hl 0 rfl) ?_
    refine lv_iadd hx hb dX7_readsAct_109 ?_
    refine x_ev (y := 9) (by decide) ?_
    have kw_28 : (sF g1 h 37 (.int 0)).2.2.2.1 wt (9 : Int32).toNatClampNeg = 110 := (hWT (9 : Int32).toNatClampNeg (by decide)).trans (by decide)
    have i_u_29 : vp_in (9 : Int32) 24 := (by unfold vp_in; decide)
    refine t_iald (v := (110 : Int32)) hB hT (ro_in r_6 (by decide)) n_7 i_u_29 kw_28 dX7_readsAct_110 ?_
    refine lv_if_eq (tgt := 128) hx hb dX7_readsAct_111 (by decide) (fun c_ => absurd c_ (by decide)) (fun c_ => ?_)
    refine lv_aload_n hx hb dX7_readsAct_114 rfl (lv_at hl 2 rfl) ?_
    refine lv_aload_n hx hb dX7_readsAct_115 rfl (lv_at hl 2 rfl) ?_
    refine t_get (ci := 7) (v := .ref wt) hB hT (ro_ci r_1 rfl) rfl 42 (by decide) k_787 (sF_k kn_12 (by decide)) dX7_readsAct_116 ?_
    refine lv_iconst (v := 3) hx hb dX7_readsAct_119 (by decide) ?_
    refine lv_iload_n hx hb dX7_readsAct_120 rfl (lv_at hl 1 rfl) ?_
    refine lv_imul hx hb dX7_readsAct_121 ?_
    refine x_ev (y := 9) (by decide) ?_
    refine lv_iload_n hx hb dX7_readsAct_122 rfl (lv_at hl 0 rfl) ?_
    refine lv_iadd hx hb dX7_readsAct_123 ?_
    refine x_ev (y := 9) (by decide) ?_
    have kw_30 : (sF g1 h 37 (.int 0)).2.2.2.1 wt (9 : Int32).toNatClampNeg = 110 := (hWT (9 : Int32).toNatClampNeg (by decide)).trans (by decide)
    have i_u_31 : vp_in (9 : Int32) 24 := (by unfold vp_in; decide)
    refine t_iald (v := (110 : Int32)) hB hT (ro_in r_6 (by decide)) n_7 i_u_31 kw_30 dX7_readsAct_124 ?_
    refine t_callV (n := 1) (As := [.int 110]) (rest := []) (ci := 7) hB hT hl.1 (m_must l D cI cZ cS cR N0 (sF g1 h 37 (.int 0)) hI h 110 s0 0 z t ct r_1 r_8 n_9 (sF_k kp1 (by decide)) sF_eq (sF_k kn_15 (by decide)) (sF_k kn_16 (by decide)) (by have q0 : (0 : Int32).toInt = 0 := (by decide); have q1 : (110 : Int32).toInt = 110 := (by decide); omega) (by have q0 : (0 : Int32).toInt = 0 := (by decide); have q1 : (110 : Int32).toInt = 110 := (by decide); omega) (by have q0 : (0 : Int32).toInt = 0 := (by decide); have q1 : (110 : Int32).toInt = 110 := (by decide); omega) (by have q0 : (0 : Int32).toInt = 0 := (by decide); have q1 : (110 : Int32).toInt = 110 := (by decide); omega) (by have q0 : (0 : Int32).toInt = 0 := (by decide); have q1 : (110 : Int32).toInt = 110 := (by decide); omega) (by have q0 : (0 : Int32).toInt = 0 := (by decide); have q1 : (110 : Int32).toInt = 110 := (by decide); omega) (by have q0 : (0 : Int32).toInt = 0 := (by decide); have q1 : (110 : Int32).toInt = 110 := (by decide); omega) hc) (ro_ci r_1 rfl) rfl k_975 k_65 k_972 k_974 k_24 (by decide +kernel) ⟨(Nat.le_of_ble_eq_true rfl), (Nat.le_of_ble_eq_true rfl)⟩ rfl (Nat.le_of_ble_eq_true rfl) ⟨(Nat.le_of_ble_eq_true rfl), (Nat.le_of_ble_eq_true rfl)⟩ dX7_readsAct_125 (fun v g_32 H locs hp hT => ?_)
    obtain ⟨s2_33, w2_34, rfl, hI, x_39, m_38, f_35, f_36, f_37⟩ := hp
    have hN : PL 8 g_32 na pa := hN.sm m_38 r_2 (by decide) rfl r_4 (by decide) rfl
    have hc : g_32.2.2.2.1 t = ct := (Sm.cf m_38 r_8 (by decide) rfl).trans hc
    have hWT : WT g_32 wt := hWT.sm m_38 r_6 (by decide) rfl
    have hU0 : UP g_32 na (g.2.2.2.1 na) false rz.toNatClampNeg 0 := hU0.sm m_38 r_2 (by decide) rfl
    have hU1 : UP g_32 pa (g.2.2.2.1 pa) false rz.toNatClampNeg 0 := hU1.sm m_38 r_4 (by decide) rfl
    have hU2 : UP g_32 nv (g.2.2.2.1 nv) false rz.toNatClampNeg 0 := hU2.sm m_38 r_10 (by decide) rfl
    have hM : Sm md_m_readsAct g g_32 := hM.tr hE (m_38.mo (fun r k h => mdle_m_readsAct_m_must h))
    have hE : Ex g g_32 := hE.tr x_39
    have r_40 : g_32.1 h = 8 := (Ex.r x_39 r_1 (by decide))
    have r_41 : g_32.1 na = 84 := (Ex.r x_39 r_2 (by decide))
    have r_42 : g_32.1 pa = 85 := (Ex.r x_39 r_4 (by decide))
    have r_43 : g_32.1 wt = 87 := (Ex.r x_39 r_6 (by decide))
    have r_44 : g_32.1 t = 79 := (Ex.r x_39 r_8 (by decide))
    have r_45 : g_32.1 nv = 86 := (Ex.r x_39 r_10 (by decide))
    have n_46 : g_32.2.2.1 na = 8 := (Ex.n x_39 r_2 (by decide) n_3)
    have n_47 : g_32.2.2.1 pa = 8 := (Ex.n x_39 r_4 (by decide) n_5)
    have n_48 : g_32.2.2.1 wt = 24 := (Ex.n x_39 r_6 (by decide) n_7)
    have n_49 : g_32.2.2.1 t = 100 := (Ex.n x_39 r_8 (by decide) n_9)
    have n_50 : g_32.2.2.1 nv = 8 := (Ex.n x_39 r_10 (by decide) n_11)
    have kn_51 : g_32.2.1 h 38 = .int rz := (Sm.v m_38 r_1 (by decide) rfl (sF_k kp0 (by decide)))
    have kn_52 : g_32.2.1 h 42 = .ref wt := (Sm.v m_38 r_1 (by decide) rfl (sF_k kn_12 (by decide)))
    have kn_53 : g_32.2.1 h 39 = .ref na := (Sm.v m_38 r_1 (by decide) rfl (sF_k kn_13 (by decide)))
    have kn_54 : g_32.2.1 h 40 = .ref pa := (Sm.v m_38 r_1 (by decide) rfl (sF_k kn_14 (by decide)))
    have kn_55 : g_32.2.1 h 29 = .int z := (Sm.v m_38 r_1 (by decide) rfl (sF_k kn_15 (by decide)))
    have kn_56 : g_32.2.1 h 28 = .ref t := (Sm.v m_38 r_1 (by decide) rfl (sF_k kn_16 (by decide)))
    have kn_57 : g_32.2.1 h 41 = .ref nv := (Sm.v m_38 r_1 (by decide) rfl (sF_k kn_17 (by decide)))
    have kn_58 : g_32.2.2.2.1 wt (9 : Int32).toNatClampNeg = 110 := (Sm.c m_38 r_6 (by decide) rfl kw_30)
    refine W.eq (g2 := F0 m 128 ls []) rfl ?_
    have qc_59 : (0 : Int32).toInt = 0 := (by decide)
    have qc_60 : (110 : Int32).toInt = 110 := (by decide)
    rcases f_35 with ⟨hx_, -⟩ | ⟨-, ht_s2_33, hs_s2_33, hz_s2_33, hw_s2_33⟩ | ⟨-, ht_s2_33, hs_s2_33, hw_s2_33⟩
    · exact absurd hx_ (by decide)
    · have ew_ : w2_34 = 0 := i_inj (hw_s2_33.trans (by decide))
      subst ew_
      refine lv_iinc (v := 1) (lv' := [(2, .int 1), (1, .int 3), (0, .ref h)]) hx hb dX7_readsAct_128 hl (k := 0) rfl (by decide) (by decide) rfl (fun ls hl => ?_)
      refine lv_goto (tgt := 89) hx hb dX7_readsAct_131 (by decide) ?_
      refine lv_iload_n hx hb dX7_readsAct_89 rfl (lv_at hl 0 rfl) ?_
      refine lv_iconst (v := 3) hx hb dX7_readsAct_90 (by decide) ?_
      refine lv_icmp_ge (tgt := 134) hx hb dX7_readsAct_91 (by decide) (fun c_ => absurd c_ (by decide)) (fun c_ => ?_)
      refine lv_aload_n hx hb dX7_readsAct_94 rfl (lv_at hl 2 rfl) ?_
      refine t_get (ci := 7) (v := .int 0) hB hT (ro_ci r_40 rfl) rfl 37 (by decide) k_782 f_37 dX7_readsAct_95 ?_
      refine lv_if_ne (tgt := 134) hx hb dX7_readsAct_98 (by decide) (fun c_ => absurd (by decide) c_) (fun c_ => ?_)
      refine lv_aload_n hx hb dX7_readsAct_101 rfl (lv_at hl 2 rfl) ?_
      refine t_get (ci := 7) (v := .ref wt) hB hT (ro_ci r_40 rfl) rfl 42 (by decide) k_787 kn_52 dX7_readsAct_102 ?_
      refine lv_iconst (v := 3) hx hb dX7_readsAct_105 (by decide) ?_
      refine lv_iload_n hx hb dX7_readsAct_106 rfl (lv_at hl 1 rfl) ?_
      refine lv_imul hx hb dX7_readsAct_107 ?_
      refine x_ev (y := 9) (by decide) ?_
      refine lv_iload_n hx hb dX7_readsAct_108 rfl (lv_at hl 0 rfl) ?_
      refine lv_iadd hx hb dX7_readsAct_109 ?_
      refine x_ev (y := 10) (by decide) ?_
      have kw_61 : g_32.2.2.2.1 wt (10 : Int32).toNatClampNeg = 101 := (hWT (10 : Int32).toNatClampNeg (by decide)).trans (by decide)
      have i_u_62 : vp_in (10 : Int32) 24 := (by unfold vp_in; decide)
      refine t_iald (v := (101 : Int32)) hB hT (ro_in r_43 (by decide)) n_48 i_u_62 kw_61 dX7_readsAct_110 ?_
      refine lv_if_eq (tgt := 128) hx hb dX7_readsAct_111 (by decide) (fun c_ => absurd c_ (by decide)) (fun c_ => ?_)
      refine lv_aload_n hx hb dX7_readsAct_114 rfl (lv_at hl 2 rfl) ?_
      refine lv_aload_n hx hb dX7_readsAct_115 rfl (lv_at hl 2 rfl) ?_
      refine t_get (ci := 7) (v := .ref wt) hB hT (ro_ci r_40 rfl) rfl 42 (by decide) k_787 kn_52 dX7_readsAct_116 ?_
      refine lv_iconst (v := 3) hx hb dX7_readsAct_119 (by decide) ?_
      refine lv_iload_n hx hb dX7_readsAct_120 rfl (lv_at hl 1 rfl) ?_
      refine lv_imul hx hb dX7_readsAct_121 ?_
      refine x_ev (y := 9) (by decide) ?_
      refine lv_iload_n hx hb dX7_readsAct_122 rfl (lv_at hl 0 rfl) ?_
      refine lv_iadd hx hb dX7_readsAct_123 ?_
      refine x_ev (y := 10) (by decide) ?_
      have kw_63 : g_32.2.2.2.1 wt (10 : Int32).toNatClampNeg = 101 := (hWT (10 : Int32).toNatClampNeg (by decide)).trans (by decide)
      have i_u_64 : vp_in (10 : Int32) 24 := (by unfold vp_in; decide)
      refine t_iald (v := (101 : Int32)) hB hT (ro_in r_43 (by decide)) n_48 i_u_64 kw_63 dX7_readsAct_124 ?_
      refine t_callV (n := 1) (As := [.int 101]) (rest := []) (ci := 7) hB hT hl.1 (m_must l D cI cZ cS cR N0 g_32 hI h 101 s2_33 0 z t ct r_40 r_44 n_49 f_36 f_37 kn_55 kn_56 (by have q0 : (0 : Int32).toInt = 0 := (by decide); have q1 : (101 : Int32).toInt = 101 := (by decide); omega) (by have q0 : (0 : Int32).toInt = 0 := (by decide); have q1 : (101 : Int32).toInt = 101 := (by decide); omega) (by have q0 : (0 : Int32).toInt = 0 := (by decide); have q1 : (101 : Int32).toInt = 101 := (by decide); omega) (by have q0 : (0 : Int32).toInt = 0 := (by decide); have q1 : (101 : Int32).toInt = 101 := (by decide); omega) (by have q0 : (0 : Int32).toInt = 0 := (by decide); have q1 : (101 : Int32).toInt = 101 := (by decide); omega) (by have q0 : (0 : Int32).toInt = 0 := (by decide); have q1 : (101 : Int32).toInt = 101 := (by decide); omega) (by have q0 : (0 : Int32).toInt = 0 := (by decide); have q1 : (101 : Int32).toInt = 101 := (by decide); omega) hc) (ro_ci r_40 rfl) rfl k_975 k_65 k_972 k_974 k_24 (by decide +kernel) ⟨(Nat.le_of_ble_eq_true rfl), (Nat.le_of_ble_eq_true rfl)⟩ rfl (Nat.le_of_ble_eq_true rfl) ⟨(Nat.le_of_ble_eq_true rfl), (Nat.le_of_ble_eq_true rfl)⟩ dX7_readsAct_125 (fun v g_65 H locs hp hT => ?_)
      obtain ⟨s2_66, w2_67, rfl, hI, x_72, m_71, f_68, f_69, f_70⟩ := hp
      have hN : PL 8 g_65 na pa := hN.sm m_71 r_41 (by decide) rfl r_42 (by decide) rfl
      have hc : g_65.2.2.2.1 t = ct := (Sm.cf m_71 r_44 (by decide) rfl).trans hc
      have hWT : WT g_65 wt := hWT.sm m_71 r_43 (by decide) rfl
      have hU0 : UP g_65 na (g.2.2.2.1 na) false rz.toNatClampNeg 0 := hU0.sm m_71 r_41 (by decide) rfl
      have hU1 : UP g_65 pa (g.2.2.2.1 pa) false rz.toNatClampNeg 0 := hU1.sm m_71 r_42 (by decide) rfl
      have hU2 : UP g_65 nv (g.2.2.2.1 nv) false rz.toNatClampNeg 0 := hU2.sm m_71 r_45 (by decide) rfl
      have hM : Sm md_m_readsAct g g_65 := hM.tr hE (m_71.mo (fun r k h => mdle_m_readsAct_m_must h))
      have hE : Ex g g_65 := hE.tr x_72
      have r_73 : g_65.1 h = 8 := (Ex.r x_72 r_40 (by decide))
      have r_74 : g_65.1 na = 84 := (Ex.r x_72 r_41 (by decide))
      have r_75 : g_65.1 pa = 85 := (Ex.r x_72 r_42 (by decide))
      have r_76 : g_65.1 wt = 87 := (Ex.r x_72 r_43 (by decide))
      have r_77 : g_65.1 t = 79 := (Ex.r x_72 r_44 (by decide))
      have r_78 : g_65.1 nv = 86 := (Ex.r x_72 r_45 (by decide))
      have n_79 : g_65.2.2.1 na = 8 := (Ex.n x_72 r_41 (by decide) n_46)
      have n_80 : g_65.2.2.1 pa = 8 := (Ex.n x_72 r_42 (by decide) n_47)
      have n_81 : g_65.2.2.1 wt = 24 := (Ex.n x_72 r_43 (by decide) n_48)
      have n_82 : g_65.2.2.1 t = 100 := (Ex.n x_72 r_44 (by decide) n_49)
      have n_83 : g_65.2.2.1 nv = 8 := (Ex.n x_72 r_45 (by decide) n_50)
      have kn_84 : g_65.2.1 h 38 = .int rz := (Sm.v m_71 r_40 (by decide) rfl kn_51)
      have kn_85 : g_65.2.1 h 42 = .ref wt := (Sm.v m_71 r_40 (by decide) rfl kn_52)
      have kn_86 : g_65.2.1 h 39 = .ref na := (Sm.v m_71 r_40 (by decide) rfl kn_53)
      have kn_87 : g_65.2.1 h 40 = .ref pa := (Sm.v m_71 r_40 (by decide) rfl kn_54)
      have kn_88 : g_65.2.1 h 29 = .int z := (Sm.v m_71 r_40 (by decide) rfl kn_55)
      have kn_89 : g_65.2.1 h 28 = .ref t := (Sm.v m_71 r_40 (by decide) rfl kn_56)
      have kn_90 : g_65.2.1 h 41 = .ref nv := (Sm.v m_71 r_40 (by decide) rfl kn_57)
      have kn_91 : g_65.2.2.2.1 wt (9 : Int32).toNatClampNeg = 110 := (Sm.c m_71 r_43 (by decide) rfl kn_58)
      have kn_92 : g_65.2.2.2.1 wt (10 : Int32).toNatClampNeg = 101 := (Sm.c m_71 r_43 (by decide) rfl kw_63)
      refine W.eq (g2 := F0 m 128 ls []) rfl ?_
      have qc_93 : (0 : Int32).toInt = 0 := (by decide)
      have qc_94 : (101 : Int32).toInt = 101 := (by decide)
      rcases f_68 with ⟨hx_, -⟩ | ⟨-, ht_s2_66, hs_s2_66, hz_s2_66, hw_s2_66⟩ | ⟨-, ht_s2_66, hs_s2_66, hw_s2_66⟩
      · exact absurd hx_ (by decide)
      · have ew_ : w2_67 = 0 := i_inj (hw_s2_66.trans (by decide))
        subst ew_
        rw [show s2_33.toInt = s0.toInt + 1 by omega] at ht_s2_66
        refine lv_iinc (v := 2) (lv' := [(2, .int 2), (1, .int 3), (0, .ref h)]) hx hb dX7_readsAct_128 hl (k := 0) rfl (by decide) (by decide) rfl (fun ls hl => ?_)
        refine lv_goto (tgt := 89) hx hb dX7_readsAct_131 (by decide) ?_
        refine lv_iload_n hx hb dX7_readsAct_89 rfl (lv_at hl 0 rfl) ?_
        refine lv_iconst (v := 3) hx hb dX7_readsAct_90 (by decide) ?_
        refine lv_icmp_ge (tgt := 134) hx hb dX7_readsAct_91 (by decide) (fun c_ => absurd c_ (by decide)) (fun c_ => ?_)
        refine lv_aload_n hx hb dX7_readsAct_94 rfl (lv_at hl 2 rfl) ?_
        refine t_get (ci := 7) (v := .int 0) hB hT (ro_ci r_73 rfl) rfl 37 (by decide) k_782 f_70 dX7_readsAct_95 ?_
        refine lv_if_ne (tgt := 134) hx hb dX7_readsAct_98 (by decide) (fun c_ => absurd (by decide) c_) (fun c_ => ?_)
        refine lv_aload_n hx hb dX7_readsAct_101 rfl (lv_at hl 2 rfl) ?_
        refine t_get (ci := 7) (v := .ref wt) hB hT (ro_ci r_73 rfl) rfl 42 (by decide) k_787 kn_85 dX7_readsAct_102 ?_
        refine lv_iconst (v := 3) hx hb dX7_readsAct_105 (by decide) ?_
        refine lv_iload_n hx hb dX7_readsAct_106 rfl (lv_at hl 1 rfl) ?_
        refine lv_imul hx hb dX7_readsAct_107 ?_
        refine x_ev (y := 9) (by decide) ?_
        refine lv_iload_n hx hb dX7_readsAct_108 rfl (lv_at hl 0 rfl) ?_
        refine lv_iadd hx hb dX7_readsAct_109 ?_
        refine x_ev (y := 11) (by decide) ?_
        have kw_95 : g_65.2.2.2.1 wt (11 : Int32).toNatClampNeg = 119 := (hWT (11 : Int32).toNatClampNeg (by decide)).trans (by decide)
        have i_u_96 : vp_in (11 : Int32) 24 := (by unfold vp_in; decide)
        refine t_iald (v := (119 : Int32)) hB hT (ro_in r_76 (by decide)) n_81 i_u_96 kw_95 dX7_readsAct_110 ?_
        refine lv_if_eq (tgt := 128) hx hb dX7_readsAct_111 (by decide) (fun c_ => absurd c_ (by decide)) (fun c_ => ?_)
        refine lv_aload_n hx hb dX7_readsAct_114 rfl (lv_at hl 2 rfl) ?_
        refine lv_aload_n hx hb dX7_readsAct_115 rfl (lv_at hl 2 rfl) ?_
        refine t_get (ci := 7) (v := .ref wt) hB hT (ro_ci r_73 rfl) rfl 42 (by decide) k_787 kn_85 dX7_readsAct_116 ?_
        refine lv_iconst (v := 3) hx hb dX7_readsAct_119 (by decide) ?_
        refine lv_iload_n hx hb dX7_readsAct_120 rfl (lv_at hl 1 rfl) ?_
        refine lv_imul hx hb dX7_readsAct_121 ?_
        refine x_ev (y := 9) (by decide) ?_
        refine lv_iload_n hx hb dX7_readsAct_122 rfl (lv_at hl 0 rfl) ?_
        refine lv_iadd hx hb dX7_readsAct_123 ?_
        refine x_ev (y := 11) (by decide) ?_
        have kw_97 : g_65.2.2.2.1 wt (11 : Int32).toNatClampNeg = 119 := (hWT (11 : Int32).toNatClampNeg (by decide)).trans (by decide)
        have i_u_98 : vp_in (11 : Int32) 24 := (by unfold vp_in; decide)
        refine t_iald (v := (119 : Int32)) hB hT (ro_in r_76 (by decide)) n_81 i_u_98 kw_97 dX7_readsAct_124 ?_
        refine t_callV (n := 1) (As := [.int 119]) (rest := []) (ci := 7) hB hT hl.1 (m_must l D cI cZ cS cR N0 g_65 hI h 119 s2_66 0 z t ct r_73 r_77 n_82 f_69 f_70 kn_88 kn_89 (by have q0 : (0 : Int32).toInt = 0 := (by decide); have q1 : (119 : Int32).toInt = 119 := (by decide); omega) (by have q0 : (0 : Int32).toInt = 0 := (by decide); have q1 : (119 : Int32).toInt = 119 := (by decide); omega) (by have q0 : (0 : Int32).toInt = 0 := (by decide); have q1 : (119 : Int32).toInt = 119 := (by decide); omega) (by have q0 : (0 : Int32).toInt = 0 := (by decide); have q1 : (119 : Int32).toInt = 119 := (by decide); omega) (by have q0 : (0 : Int32).toInt = 0 := (by decide); have q1 : (119 : Int32).toInt = 119 := (by decide); omega) (by have q0 : (0 : Int32).toInt = 0 := (by decide); have q1 : (119 : Int32).toInt = 119 := (by decide); omega) (by have q0 : (0 : Int32).toInt = 0 := (by decide); have q1 : (119 : Int32).toInt = 119 := (by decide); omega) hc) (ro_ci r_73 rfl) rfl k_975 k_65 k_972 k_974 k_24 (by decide +kernel) ⟨(Nat.le_of_ble_eq_true rfl), (Nat.le_of_ble_eq_true rfl)⟩ rfl (Nat.le_of_ble_eq_true rfl) ⟨(Nat.le_of_ble_eq_true rfl), (Nat.le_of_ble_eq_true rfl)⟩ dX7_readsAct_125 (fun v g_99 H locs hp hT => ?_)
        obtain ⟨s2_100, w2_101, rfl, hI, x_106, m_105, f_102, f_103, f_104⟩ := hp
        have hN : PL 8 g_99 na pa := hN.sm m_105 r_74 (by decide) rfl r_75 (by decide) rfl
        have hc : g_99.2.2.2.1 t = ct := (Sm.cf m_105 r_77 (by decide) rfl).trans hc
        have hWT : WT g_99 wt := hWT.sm m_105 r_76 (by decide) rfl
        have hU0 : UP g_99 na (g.2.2.2.1 na) false rz.toNatClampNeg 0 := hU0.sm m_105 r_74 (by decide) rfl
        have hU1 : UP g_99 pa (g.2.2.2.1 pa) false rz.toNatClampNeg 0 := hU1.sm m_105 r_75 (by decide) rfl
        have hU2 : UP g_99 nv (g.2.2.2.1 nv) false rz.toNatClampNeg 0 := hU2.sm m_105 r_78 (by decide) rfl
        have hM : Sm md_m_readsAct g g_99 := hM.tr hE (m_105.mo (fun r k h => mdle_m_readsAct_m_must h))
        have hE : Ex g g_99 := hE.tr x_106
        have r_107 : g_99.1 h = 8 := (Ex.r x_106 r_73 (by decide))
        have r_108 : g_99.1 na = 84 := (Ex.r x_106 r_74 (by decide))
        have r_109 : g_99.1 pa = 85 := (Ex.r x_106 r_75 (by decide))
        have r_110 : g_99.1 wt = 87 := (Ex.r x_106 r_76 (by decide))
        have r_111 : g_99.1 t = 79 := (Ex.r x_106 r_77 (by decide))
        have r_112 : g_99.1 nv = 86 := (Ex.r x_106 r_78 (by decide))
        have n_113 : g_99.2.2.1 na = 8 := (Ex.n x_106 r_74 (by decide) n_79)
        have n_114 : g_99.2.2.1 pa = 8 := (Ex.n x_106 r_75 (by decide) n_80)
        have n_115 : g_99.2.2.1 wt = 24 := (Ex.n x_106 r_76 (by decide) n_81)
        have n_116 : g_99.2.2.1 t = 100 := (Ex.n x_106 r_77 (by decide) n_82)
        have n_117 : g_99.2.2.1 nv = 8 := (Ex.n x_106 r_78 (by decide) n_83)
        have kn_118 : g_99.2.1 h 38 = .int rz := (Sm.v m_105 r_73 (by decide) rfl kn_84)
        have kn_119 : g_99.2.1 h 42 = .ref wt := (Sm.v m_105 r_73 (by decide) rfl kn_85)
        have kn_120 : g_99.2.1 h 39 = .ref na := (Sm.v m_105 r_73 (by decide) rfl kn_86)
        have kn_121 : g_99.2.1 h 40 = .ref pa := (Sm.v m_105 r_73 (by decide) rfl kn_87)
        have kn_122 : g_99.2.1 h 29 = .int z := (Sm.v m_105 r_73 (by decide) rfl kn_88)
        have kn_123 : g_99.2.1 h 28 = .ref t := (Sm.v m_105 r_73 (by decide) rfl kn_89)
        have kn_124 : g_99.2.1 h 41 = .ref nv := (Sm.v m_105 r_73 (by decide) rfl kn_90)
        have kn_125 : g_99.2.2.2.1 wt (9 : Int32).toNatClampNeg = 110 := (Sm.c m_105 r_76 (by decide) rfl kn_91)
        have kn_126 : g_99.2.2.2.1 wt (10 : Int32).toNatClampNeg = 101 := (Sm.c m_105 r_76 (by decide) rfl kn_92)
        have kn_127 : g_99.2.2.2.1 wt (11 : Int32).toNatClampNeg = 119 := (Sm.c m_105 r_76 (by decide) rfl kw_97)
        refine W.eq (g2 := F0 m 128 ls []) rfl ?_
        have qc_128 : (0 : Int32).toInt = 0 := (by decide)
        have qc_129 : (119 : Int32).toInt = 119 := (by decide)
        rcases f_102 with ⟨hx_, -⟩ | ⟨-, ht_s2_100, hs_s2_100, hz_s2_100, hw_s2_100⟩ | ⟨-, ht_s2_100, hs_s2_100, hw_s2_100⟩
        · exact absurd hx_ (by decide)
        · have ew_ : w2_101 = 0 := i_inj (hw_s2_100.trans (by decide))
          subst ew_
          rw [show s2_66.toInt = s0.toInt + 2 by omega] at ht_s2_100
          refine lv_iinc (v := 3) (lv' := [(2, .int 3), (1, .int 3), (0, .ref h)]) hx hb dX7_readsAct_128 hl (k := 0) rfl (by decide) (by decide) rfl (fun ls hl => ?_)
          refine lv_goto (tgt := 89) hx hb dX7_readsAct_131 (by decide) ?_
          refine lv_iload_n hx hb dX7_readsAct_89 rfl (lv_at hl 0 rfl) ?_
          refine lv_iconst (v := 3) hx hb dX7_readsAct_90 (by decide) ?_
          refine lv_icmp_ge (tgt := 134) hx hb dX7_readsAct_91 (by decide) (fun c_ => ?_) (fun c_ => absurd (by decide) c_)
          refine lv_aload_n hx hb dX7_readsAct_134 rfl (lv_at hl 2 rfl) ?_
          refine lv_bipush (v := 32) hx hb dX7_readsAct_135 (by decide) ?_
          refine t_callV (n := 1) (As := [.int 32]) (rest := []) (ci := 7) hB hT hl.1 (m_must l D cI cZ cS cR N0 g_99 hI h 32 s2_100 0 z t ct r_107 r_111 n_116 f_103 f_104 kn_122 kn_123 (by have q0 : (0 : Int32).toInt = 0 := (by decide); have q1 : (32 : Int32).toInt = 32 := (by decide); omega) (by have q0 : (0 : Int32).toInt = 0 := (by decide); have q1 : (32 : Int32).toInt = 32 := (by decide); omega) (by have q0 : (0 : Int32).toInt = 0 := (by decide); have q1 : (32 : Int32).toInt = 32 := (by decide); omega) (by have q0 : (0 : Int32).toInt = 0 := (by decide); have q1 : (32 : Int32).toInt = 32 := (by decide); omega) (by have q0 : (0 : Int32).toInt = 0 := (by decide); have q1 : (32 : Int32).toInt = 32 := (by decide); omega) (by have q0 : (0 : Int32).toInt = 0 := (by decide); have q1 : (32 : Int32).toInt = 32 := (by decide); omega) (by have q0 : (0 : Int32).toInt = 0 := (by decide); have q1 : (32 : Int32).toInt = 32 := (by decide); omega) hc) (ro_ci r_107 rfl) rfl k_975 k_65 k_972 k_974 k_24 (by decide +kernel) ⟨(Nat.le_of_ble_eq_true rfl), (Nat.le_of_ble_eq_true rfl)⟩ rfl (Nat.le_of_ble_eq_true rfl) ⟨(Nat.le_of_ble_eq_true rfl), (Nat.le_of_ble_eq_true rfl)⟩ dX7_readsAct_137 (fun v g_130 H locs hp hT => ?_)
          obtain ⟨s2_131, w2_132, rfl, hI, x_137, m_136, f_133, f_134, f_135⟩ := hp
          have hN : PL 8 g_130 na pa := hN.sm m_136 r_108 (by decide) rfl r_109 (by decide) rfl
          have hc : g_130.2.2.2.1 t = ct := (Sm.cf m_136 r_111 (by decide) rfl).trans hc
          have hWT : WT g_130 wt := hWT.sm m_136 r_110 (by decide) rfl
          have hU0 : UP g_130 na (g.2.2.2.1 na) false rz.toNatClampNeg 0 := hU0.sm m_136 r_108 (by decide) rfl
          have hU1 : UP g_130 pa (g.2.2.2.1 pa) false rz.toNatClampNeg 0 := hU1.sm m_136 r_109 (by decide) rfl
          have hU2 : UP g_130 nv (g.2.2.2.1 nv) false rz.toNatClampNeg 0 := hU2.sm m_136 r_112 (by decide) rfl
          have hM : Sm md_m_readsAct g g_130 := hM.tr hE (m_136.mo (fun r k h => mdle_m_readsAct_m_must h))
          have hE : Ex g g_130 := hE.tr x_137
          have r_138 : g_130.1 h = 8 := (Ex.r x_137 r_107 (by decide))
          have r_139 : g_130.1 na = 84 := (Ex.r x_137 r_108 (by decide))
          have r_140 : g_130.1 pa = 85 := (Ex.r x_137 r_109 (by decide))
          have r_141 : g_130.1 wt = 87 := (Ex.r x_137 r_110 (by decide))
          have r_142 : g_130.1 t = 79 := (Ex.r x_137 r_111 (by decide))
          have r_143 : g_130.1 nv = 86 := (Ex.r x_137 r_112 (by decide))
          have n_144 : g_130.2.2.1 na = 8 := (Ex.n x_137 r_108 (by decide) n_113)
          have n_145 : g_130.2.2.1 pa = 8 := (Ex.n x_137 r_109 (by decide) n_114)
          have n_146 : g_130.2.2.1 wt = 24 := (Ex.n x_137 r_110 (by decide) n_115)
          have n_147 : g_130.2.2.1 t = 100 := (Ex.n x_137 r_111 (by decide) n_116)
          have n_148 : g_130.2.2.1 nv = 8 := (Ex.n x_137 r_112 (by decide) n_117)
          have kn_149 : g_130.2.1 h 38 = .int rz := (Sm.v m_136 r_107 (by decide) rfl kn_118)
          have kn_150 : g_130.2.1 h 42 = .ref wt := (Sm.v m_136 r_107 (by decide) rfl kn_119)
          have kn_151 : g_130.2.1 h 39 = .ref na := (Sm.v m_136 r_107 (by decide) rfl kn_120)
          have kn_152 : g_130.2.1 h 40 = .ref pa := (Sm.v m_136 r_107 (by decide) rfl kn_121)
          have kn_153 : g_130.2.1 h 29 = .int z := (Sm.v m_136 r_107 (by decide) rfl kn_122)
          have kn_154 : g_130.2.1 h 28 = .ref t := (Sm.v m_136 r_107 (by decide) rfl kn_123)
          have kn_155 : g_130.2.1 h 41 = .ref nv := (Sm.v m_136 r_107 (by decide) rfl kn_124)
          have kn_156 : g_130.2.2.2.1 wt (9 : Int32).toNatClampNeg = 110 := (Sm.c m_136 r_110 (by decide) rfl kn_125)
          have kn_157 : g_130.2.2.2.1 wt (10 : Int32).toNatClampNeg = 101 := (Sm.c m_136 r_110 (by decide) rfl kn_126)
          have kn_158 : g_130.2.2.2.1 wt (11 : Int32).toNatClampNeg = 119 := (Sm.c m_136 r_110 (by decide) rfl kn_127)
          refine W.eq (g2 := F0 m 140 ls []) rfl ?_
          have qc_159 : (0 : Int32).toInt = 0 := (by decide)
          have qc_160 : (32 : Int32).toInt = 32 := (by decide)
          rcases f_133 with ⟨hx_, -⟩ | ⟨-, ht_s2_131, hs_s2_131, hz_s2_131, hw_s2_131⟩ | ⟨-, ht_s2_131, hs_s2_131, hw_s2_131⟩
          · exact absurd hx_ (by decide)
          · have ew_ : w2_132 = 0 := i_inj (hw_s2_131.trans (by decide))
            subst ew_
            rw [show s2_100.toInt = s0.toInt + 3 by omega] at ht_s2_131
            have hv_ := wo_3 (T := (txb ct z.toInt)) (p := s0.toInt) ⟨by omega, by omega, by omega, by omega⟩
            exact lt_m_readsAct_c0 l D cI cZ cS cR N0 g h s0 rz wt na pa z t ct nv r_h r_na n_na r_pa n_pa r_wt n_wt r_t n_t r_nv n_nv krz ks0 kw0 kwt kna kpa kz kt knv l_rz u_rz l_s0 u_s0 hN_0 hWT_0 l_z u_z hc_0 hB hr   g_130 (3 : Int32) s2_131 H locs ls hT hI hE hM (by decide) (by decide) (by omega) (by omega) kn_149 f_134 f_135 hN hc hWT hU0 hU1 hU2 ⟨by decide, hv_.1.trans (by decide), (by have q_ := hv_.2; omega), by omega⟩ (lv_sub hl [1, 2] rfl)
          · have ew_ : w2_132 = 1 := i_inj (hw_s2_131.trans (by decide))
            subst ew_
            rw [show s2_100.toInt = s0.toInt + 3 by omega] at ht_s2_131
            have hs_ : wsel ((txb ct z.toInt) s0.toInt) ((txb ct z.toInt) (s0.toInt + 1)) = 3 := ws_3 (by omega)
            have hq_ : qj (txb ct z.toInt) s0.toInt 3 = 3 := wp4_3 (by omega) (by omega) (by omega) (by omega)
            have hv_ := wd_f hs_ (Or.inr (fun h_ => absurd (hq_.symm.trans h_) (by decide)))
            exact lt_m_readsAct_c1 l D cI cZ cS cR N0 g h s0 rz wt na pa z t ct nv r_h r_na n_na r_pa n_pa r_wt n_wt r_t n_t r_nv n_nv krz ks0 kw0 kwt kna kpa kz kt knv l_rz u_rz l_s0 u_s0 hN_0 hWT_0 l_z u_z hc_0 hB hr   g_130 (3 : Int32) s2_131 H locs ls hT hI hE hM (by decide) (by decide) (by omega) (by omega) kn_149 f_134 f_135 hN hc hWT hU0 hU1 hU2 (ac_n hv_.1 (by have q_ := hv_.2; rw [hq_] at q_; omega)) (lv_sub hl [1, 2] rfl)
        · have ew_ : w2_101 = 1 := i_inj (hw_s2_100.trans (by decide))
          subst ew_
          rw [show s2_66.toInt = s0.toInt + 2 by omega] at ht_s2_100
          refine lv_iinc (v := 3) (lv' := [(2, .int 3), (1, .int 3), (0, .ref h)]) hx hb dX7_readsAct_128 hl (k := 0) rfl (by decide) (by decide) rfl (fun ls hl => ?_)
          refine lv_goto (tgt := 89) hx hb dX7_readsAct_131 (by decide) ?_
          refine lv_iload_n hx hb dX7_readsAct_89 rfl (lv_at hl 0 rfl) ?_
          refine lv_iconst (v := 3) hx hb dX7_readsAct_90 (by decide) ?_
          refine lv_icmp_ge (tgt := 134) hx hb dX7_readsAct_91 (by decide) (fun c_ => ?_) (fun c_ => absurd (by decide) c_)
          refine lv_aload_n hx hb dX7_readsAct_134 rfl (lv_at hl 2 rfl) ?_
          refine lv_bipush (v := 32) hx hb dX7_readsAct_135 (by decide) ?_
          refine t_callV (n := 1) (As := [.int 32]) (rest := []) (ci := 7) hB hT hl.1 (m_must l D cI cZ cS cR N0 g_99 hI h 32 s2_100 1 z t ct r_107 r_111 n_116 f_103 f_104 kn_122 kn_123 (by have q0 : (1 : Int32).toInt = 1 := (by decide); have q1 : (32 : Int32).toInt = 32 := (by decide); omega) (by have q0 : (1 : Int32).toInt = 1 := (by decide); have q1 : (32 : Int32).toInt = 32 := (by decide); omega) (by have q0 : (1 : Int32).toInt = 1 := (by decide); have q1 : (32 : Int32).toInt = 32 := (by decide); omega) (by have q0 : (1 : Int32).toInt = 1 := (by decide); have q1 : (32 : Int32).toInt = 32 := (by decide); omega) (by have q0 : (1 : Int32).toInt = 1 := (by decide); have q1 : (32 : Int32).toInt = 32 := (by decide); omega) (by have q0 : (1 : Int32).toInt = 1 := (by decide); have q1 : (32 : Int32).toInt = 32 := (by decide); omega) (by have q0 : (1 : Int32).toInt = 1 := (by decide); have q1 : (32 : Int32).toInt = 32 := (by decide); omega) hc) (ro_ci r_107 rfl) rfl k_975 k_65 k_972 k_974 k_24 (by decide +kernel) ⟨(Nat.le_of_ble_eq_true rfl), (Nat.le_of_ble_eq_true rfl)⟩ rfl (Nat.le_of_ble_eq_true rfl) ⟨(Nat.le_of_ble_eq_true rfl), (Nat.le_of_ble_eq_true rfl)⟩ dX7_readsAct_137 (fun v g_161 H locs hp hT => ?_)
          obtain ⟨s2_162, w2_163, rfl, hI, x_168, m_167, f_164, f_165, f_166⟩ := hp
          have hN : PL 8 g_161 na pa := hN.sm m_167 r_108 (by decide) rfl r_109 (by decide) rfl
          have hc : g_161.2.2.2.1 t = ct := (Sm.cf m_167 r_111 (by decide) rfl).trans hc
          have hWT : WT g_161 wt := hWT.sm m_167 r_110 (by decide) rfl
          have hU0 : UP g_161 na (g.2.2.2.1 na) false rz.toNatClampNeg 0 := hU0.sm m_167 r_108 (by decide) rfl
          have hU1 : UP g_161 pa (g.2.2.2.1 pa) false rz.toNatClampNeg 0 := hU1.sm m_167 r_109 (by decide) rfl
          have hU2 : UP g_161 nv (g.2.2.2.1 nv) false rz.toNatClampNeg 0 := hU2.sm m_167 r_112 (by decide) rfl
          have hM : Sm md_m_readsAct g g_161 := hM.tr hE (m_167.mo (fun r k h => mdle_m_readsAct_m_must h))
          have hE : Ex g g_161 := hE.tr x_168
          have r_169 : g_161.1 h = 8 := (Ex.r x_168 r_107 (by decide))
          have r_170 : g_161.1 na = 84 := (Ex.r x_168 r_108 (by decide))
          have r_171 : g_161.1 pa = 85 := (Ex.r x_168 r_109 (by decide))
          have r_172 : g_161.1 wt = 87 := (Ex.r x_168 r_110 (by decide))
          have r_173 : g_161.1 t = 79 := (Ex.r x_168 r_111 (by decide))
          have r_174 : g_161.1 nv = 86 := (Ex.r x_168 r_112 (by decide))
          have n_175 : g_161.2.2.1 na = 8 := (Ex.n x_168 r_108 (by decide) n_113)
          have n_176 : g_161.2.2.1 pa = 8 := (Ex.n x_168 r_109 (by decide) n_114)
          have n_177 : g_161.2.2.1 wt = 24 := (Ex.n x_168 r_110 (by decide) n_115)
          have n_178 : g_161.2.2.1 t = 100 := (Ex.n x_168 r_111 (by decide) n_116)
          have n_179 : g_161.2.2.1 nv = 8 := (Ex.n x_168 r_112 (by decide) n_117)
          have kn_180 : g_161.2.1 h 38 = .int rz := (Sm.v m_167 r_107 (by decide) rfl kn_118)
          have kn_181 : g_161.2.1 h 42 = .ref wt := (Sm.v m_167 r_107 (by decide) rfl kn_119)
          have kn_182 : g_161.2.1 h 39 = .ref na := (Sm.v m_167 r_107 (by decide) rfl kn_120)
          have kn_183 : g_161.2.1 h 40 = .ref pa := (Sm.v m_167 r_107 (by decide) rfl kn_121)
          have kn_184 : g_161.2.1 h 29 = .int z := (Sm.v m_167 r_107 (by decide) rfl kn_122)
          have kn_185 : g_161.2.1 h 28 = .ref t := (Sm.v m_167 r_107 (by decide) rfl kn_123)
          have kn_186 : g_161.2.1 h 41 = .ref nv := (Sm.v m_167 r_107 (by decide) rfl kn_124)
          have kn_187 : g_161.2.2.2.1 wt (9 : Int32).toNatClampNeg = 110 := (Sm.c m_167 r_110 (by decide) rfl kn_125)
          have kn_188 : g_161.2.2.2.1 wt (10 : Int32).toNatClampNeg = 101 := (Sm.c m_167 r_110 (by decide) rfl kn_126)
          have kn_189 : g_161.2.2.2.1 wt (11 : Int32).toNatClampNeg = 119 := (Sm.c m_167 r_110 (by decide) rfl kn_127)
          refine W.eq (g2 := F0 m 140 ls []) rfl ?_
          have qc_190 : (1 : Int32).toInt = 1 := (by decide)
          have qc_191 : (32 : Int32).toInt = 32 := (by decide)
          rcases f_164 with ⟨-, hs_s2_162, hw_s2_162⟩ | ⟨hx_, -⟩ | ⟨hx_, -⟩
          rotate_left
          · exact absurd hx_ (by decide)
          · exact absurd hx_ (by decide)
          have ew_ : w2_163 = 1 := i_inj (hw_s2_162.trans (by decide))
          subst ew_
          have hs_ : wsel ((txb ct z.toInt) s0.toInt) ((txb ct z.toInt) (s0.toInt + 1)) = 3 := ws_3 (by omega)
          have hq_ : qj (txb ct z.toInt) s0.toInt 3 = 2 := wp4_2 (by omega) (by omega) (by omega)
          have hv_ := wd_f hs_ (Or.inr (fun h_ => absurd (hq_.symm.trans h_) (by decide)))
          exact lt_m_readsAct_c1 l D cI cZ cS cR N0 g h s0 rz wt na pa z t ct nv r_h r_na n_na r_pa n_pa r_wt n_wt r_t n_t r_nv n_nv krz ks0 kw0 kwt kna kpa kz kt knv l_rz u_rz l_s0 u_s0 hN_0 hWT_0 l_z u_z hc_0 hB hr   g_161 (3 : Int32) s2_162 H locs ls hT hI hE hM (by decide) (by decide) (by omega) (by omega) kn_180 f_165 f_166 hN hc hWT hU0 hU1 hU2 (ac_n hv_.1 (by have q_ := hv_.2; rw [hq_] at q_; omega)) (lv_sub hl [1, 2] rfl)
      · have ew_ : w2_67 = 1 := i_inj (hw_s2_66.trans (by decide))
        subst ew_
        rw [show s2_33.toInt = s0.toInt + 1 by omega] at ht_s2_66
        refine lv_iinc (v := 2) (lv' := [(2, .int 2), (1, .int 3), (0, .ref h)]) hx hb dX7_readsAct_128 hl (k := 0) rfl (by decide) (by decide) rfl (fun ls hl => ?_)
        refine lv_goto (tgt := 89) hx hb dX7_readsAct_131 (by decide) ?_
        refine lv_iload_n hx hb dX7_readsAct_89 rfl (lv_at hl 0 rfl) ?_
        refine lv_iconst (v := 3) hx hb dX7_readsAct_90 (by decide) ?_
        refine lv_icmp_ge (tgt := 134) hx hb dX7_readsAct_91 (by decide) (fun c_ => absurd c_ (by decide)) (fun c_ => ?_)
        refine lv_aload_n hx hb dX7_readsAct_94 rfl (lv_at hl 2 rfl) ?_
        refine t_get (ci := 7) (v := .int 1) hB hT (ro_ci r_73 rfl) rfl 37 (by decide) k_782 f_70 dX7_readsAct_95 ?_
        refine lv_if_ne (tgt := 134) hx hb dX7_readsAct_98 (by decide) (fun c_ => ?_) (fun c_ => absurd c_ (by decide))
        refine lv_aload_n hx hb dX7_readsAct_134 rfl (lv_at hl 2 rfl) ?_
        refine lv_bipush (v := 32) hx hb dX7_readsAct_135 (by decide) ?_
        refine t_callV (n := 1) (As := [.int 32]) (rest := []) (ci := 7) hB hT hl.1 (m_must l D cI cZ cS cR N0 g_65 hI h 32 s2_66 1 z t ct r_73 r_77 n_82 f_69 f_70 kn_88 kn_89 (by have q0 : (1 : Int32).toInt = 1 := (by decide); have q1 : (32 : Int32).toInt = 32 := (by decide); omega) (by have q0 : (1 : Int32).toInt = 1 := (by decide); have q1 : (32 : Int32).toInt = 32 := (by decide); omega) (by have q0 : (1 : Int32).toInt = 1 := (by decide); have q1 : (32 : Int32).toInt = 32 := (by decide); omega) (by have q0 : (1 : Int32).toInt = 1 := (by decide); have q1 : (32 : Int32).toInt = 32 := (by decide); omega) (by have q0 : (1 : Int32).toInt = 1 := (by decide); have q1 : (32 : Int32).toInt = 32 := (by decide); omega) (by have q0 : (1 : Int32).toInt = 1 := (by decide); have q1 : (32 : Int32).toInt = 32 := (by decide); omega) (by have q0 : (1 : Int32).toInt = 1 := (by decide); have q1 : (32 : Int32).toInt = 32 := (by decide); omega) hc) (ro_ci r_73 rfl) rfl k_975 k_65 k_972 k_974 k_24 (by decide +kernel) ⟨(Nat.le_of_ble_eq_true rfl), (Nat.le_of_ble_eq_true rfl)⟩ rfl (Nat.le_of_ble_eq_true rfl) ⟨(Nat.le_of_ble_eq_true rfl), (Nat.le_of_ble_eq_true rfl)⟩ dX7_readsAct_137 (fun v g_192 H locs hp hT => ?_)
        obtain ⟨s2_193, w2_194, rfl, hI, x_199, m_198, f_195, f_196, f_197⟩ := hp
        have hN : PL 8 g_192 na pa := hN.sm m_198 r_74 (by decide) rfl r_75 (by decide) rfl
        have hc : g_192.2.2.2.1 t = ct := (Sm.cf m_198 r_77 (by decide) rfl).trans hc
        have hWT : WT g_192 wt := hWT.sm m_198 r_76 (by decide) rfl
        have hU0 : UP g_192 na (g.2.2.2.1 na) false rz.toNatClampNeg 0 := hU0.sm m_198 r_74 (by decide) rfl
        have hU1 : UP g_192 pa (g.2.2.2.1 pa) false rz.toNatClampNeg 0 := hU1.sm m_198 r_75 (by decide) rfl
        have hU2 : UP g_192 nv (g.2.2.2.1 nv) false rz.toNatClampNeg 0 := hU2.sm m_198 r_78 (by decide) rfl
        have hM : Sm md_m_readsAct g g_192 := hM.tr hE (m_198.mo (fun r k h => mdle_m_readsAct_m_must h))
        have hE : Ex g g_192 := hE.tr x_199
        have r_200 : g_192.1 h = 8 := (Ex.r x_199 r_73 (by decide))
        have r_201 : g_192.1 na = 84 := (Ex.r x_199 r_74 (by decide))
        have r_202 : g_192.1 pa = 85 := (Ex.r x_199 r_75 (by decide))
        have r_203 : g_192.1 wt = 87 := (Ex.r x_199 r_76 (by decide))
        have r_204 : g_192.1 t = 79 := (Ex.r x_199 r_77 (by decide))
        have r_205 : g_192.1 nv = 86 := (Ex.r x_199 r_78 (by decide))
        have n_206 : g_192.2.2.1 na = 8 := (Ex.n x_199 r_74 (by decide) n_79)
        have n_207 : g_192.2.2.1 pa = 8 := (Ex.n x_199 r_75 (by decide) n_80)
        have n_208 : g_192.2.2.1 wt = 24 := (Ex.n x_199 r_76 (by decide) n_81)
        have n_209 : g_192.2.2.1 t = 100 := (Ex.n x_199 r_77 (by decide) n_82)
        have n_210 : g_192.2.2.1 nv = 8 := (Ex.n x_199 r_78 (by decide) n_83)
        have kn_211 : g_192.2.1 h 38 = .int rz := (Sm.v m_198 r_73 (by decide) rfl kn_84)
        have kn_212 : g_192.2.1 h 42 = .ref wt := (Sm.v m_198 r_73 (by decide) rfl kn_85)
        have kn_213 : g_192.2.1 h 39 = .ref na := (Sm.v m_198 r_73 (by decide) rfl kn_86)
        have kn_214 : g_192.2.1 h 40 = .ref pa := (Sm.v m_198 r_73 (by decide) rfl kn_87)
        have kn_215 : g_192.2.1 h 29 = .int z := (Sm.v m_198 r_73 (by decide) rfl kn_88)
        have kn_216 : g_192.2.1 h 28 = .ref t := (Sm.v m_198 r_73 (by decide) rfl kn_89)
        have kn_217 : g_192.2.1 h 41 = .ref nv := (Sm.v m_198 r_73 (by decide) rfl kn_90)
        have kn_218 : g_192.2.2.2.1 wt (9 : Int32).toNatClampNeg = 110 := (Sm.c m_198 r_76 (by decide) rfl kn_91)
        have kn_219 : g_192.2.2.2.1 wt (10 : Int32).toNatClampNeg = 101 := (Sm.c m_198 r_76 (by decide) rfl kn_92)
        refine W.eq (g2 := F0 m 140 ls []) rfl ?_
        have qc_220 : (1 : Int32).toInt = 1 := (by decide)
        have qc_221 : (32 : Int32).toInt = 32 := (by decide)
        rcases f_195 with ⟨-, hs_s2_193, hw_s2_193⟩ | ⟨hx_, -⟩ | ⟨hx_, -⟩
        rotate_left
        · exact absurd hx_ (by decide)
        · exact absurd hx_ (by decide)
        have ew_ : w2_194 = 1 := i_inj (hw_s2_193.trans (by decide))
        subst ew_
        have hs_ : wsel ((txb ct z.toInt) s0.toInt) ((txb ct z.toInt) (s0.toInt + 1)) = 3 := ws_3 (by omega)
        have hq_ : qj (txb ct z.toInt) s0.toInt 3 = 1 := wp4_1 (by omega) (by omega)
        have hv_ := wd_f hs_ (Or.inr (fun h_ => absurd (hq_.symm.trans h_) (by decide)))
        exact lt_m_readsAct_c1 l D cI cZ cS cR N0 g h s0 rz wt na pa z t ct nv r_h r_na n_na r_pa n_pa r_wt n_wt r_t n_t r_nv n_nv krz ks0 kw0 kwt kna kpa kz kt knv l_rz u_rz l_s0 u_s0 hN_0 hWT_0 l_z u_z hc_0 hB hr   g_192 (3 : Int32) s2_193 H locs ls hT hI hE hM (by decide) (by decide) (by omega) (by omega) kn_211 f_196 f_197 hN hc hWT hU0 hU1 hU2 (ac_n hv_.1 (by have q_ := hv_.2; rw [hq_] at q_; omega)) (lv_sub hl [1, 2] rfl)
    · have ew_ : w2_34 = 1 := i_inj (hw_s2_33.trans (by decide))
      subst ew_
      refine lv_iinc (v := 1) (lv' := [(2, .int 1), (1, .int 3), (0, .ref h)]) hx hb dX7_readsAct_128 hl (k := 0) rfl (by decide) (by decide) rfl (fun ls hl => ?_)
      refine lv_goto (tgt := 89) hx hb dX7_readsAct_131 (by decide) ?_
      refine lv_iload_n hx hb dX7_readsAct_89 rfl (lv_at hl 0 rfl) ?_
      refine lv_iconst (v := 3) hx hb dX7_readsAct_90 (by decide) ?_
      refine lv_icmp_ge (tgt := 134) hx hb dX7_readsAct_91 (by decide) (fun c_ => absurd c_ (by decide)) (fun c_ => ?_)
      refine lv_aload_n hx hb dX7_readsAct_94 rfl (lv_at hl 2 rfl) ?_
      refine t_get (ci := 7) (v := .int 1) hB hT (ro_ci r_40 rfl) rfl 37 (by decide) k_782 f_37 dX7_readsAct_95 ?_
      refine lv_if_ne (tgt := 134) hx hb dX7_readsAct_98 (by decide) (fun c_ => ?_) (fun c_ => absurd c_ (by decide))
      refine lv_aload_n hx hb dX7_readsAct_134 rfl (lv_at hl 2 rfl) ?_
      refine lv_bipush (v := 32) hx hb dX7_readsAct_135 (by decide) ?_
      refine t_callV (n := 1) (As := [.int 32]) (rest := []) (ci := 7) hB hT hl.1 (m_must l D cI cZ cS cR N0 g_32 hI h 32 s2_33 1 z t ct r_40 r_44 n_49 f_36 f_37 kn_55 kn_56 (by have q0 : (1 : Int32).toInt = 1 := (by decide); have q1 : (32 : Int32).toInt = 32 := (by decide); omega) (by have q0 : (1 : Int32).toInt = 1 := (by decide); have q1 : (32 : Int32).toInt = 32 := (by decide); omega) (by have q0 : (1 : Int32).toInt = 1 := (by decide); have q1 : (32 : Int32).toInt = 32 := (by decide); omega) (by have q0 : (1 : Int32).toInt = 1 := (by decide); have q1 : (32 : Int32).toInt = 32 := (by decide); omega) (by have q0 : (1 : Int32).toInt = 1 := (by decide); have q1 : (32 : Int32).toInt = 32 := (by decide); omega) (by have q0 : (1 : Int32).toInt = 1 := (by decide); have q1 : (32 : Int32).toInt = 32 := (by decide); omega) (by have q0 : (1 : Int32).toInt = 1 := (by decide); have q1 : (32 : Int32).toInt = 32 := (by decide); omega) hc) (ro_ci r_40 rfl) rfl k_975 k_65 k_972 k_974 k_24 (by decide +kernel) ⟨(Nat.le_of_ble_eq_true rfl), (Nat.le_of_ble_eq_true rfl)⟩ rfl (Nat.le_of_ble_eq_true rfl) ⟨(Nat.le_of_ble_eq_true rfl), (Nat.le_of_ble_eq_true rfl)⟩ dX7_readsAct_137 (fun v g_222 H locs hp hT => ?_)
      obtain ⟨s2_223, w2_224, rfl, hI, x_229, m_228, f_225, f_226, f_227⟩ := hp
      have hN : PL 8 g_222 na pa := hN.sm m_228 r_41 (by decide) rfl r_42 (by decide) rfl
      have hc : g_222.2.2.2.1 t = ct := (Sm.cf m_228 r_44 (by decide) rfl).trans hc
      have hWT : WT g_222 wt := hWT.sm m_228 r_43 (by decide) rfl
      have hU0 : UP g_222 na (g.2.2.2.1 na) false rz.toNatClampNeg 0 := hU0.sm m_228 r_41 (by decide) rfl
      have hU1 : UP g_222 pa (g.2.2.2.1 pa) false rz.toNatClampNeg 0 := hU1.sm m_228 r_42 (by decide) rfl
      have hU2 : UP g_222 nv (g.2.2.2.1 nv) false rz.toNatClampNeg 0 := hU2.sm m_228 r_45 (by decide) rfl
      have hM : Sm md_m_readsAct g g_222 := hM.tr hE (m_228.mo (fun r k h => mdle_m_readsAct_m_must h))
      have hE : Ex g g_222 := hE.tr x_229
      have r_230 : g_222.1 h = 8 := (Ex.r x_229 r_40 (by decide))
      have r_231 : g_222.1 na = 84 := (Ex.r x_229 r_41 (by decide))
      have r_232 : g_222.1 pa = 85 := (Ex.r x_229 r_42 (by decide))
      have r_233 : g_222.1 wt = 87 := (Ex.r x_229 r_43 (by decide))
      have r_234 : g_222.1 t = 79 := (Ex.r x_229 r_44 (by decide))
      have r_235 : g_222.1 nv = 86 := (Ex.r x_229 r_45 (by decide))
      have n_236 : g_222.2.2.1 na = 8 := (Ex.n x_229 r_41 (by decide) n_46)
      have n_237 : g_222.2.2.1 pa = 8 := (Ex.n x_229 r_42 (by decide) n_47)
      have n_238 : g_222.2.2.1 wt = 24 := (Ex.n x_229 r_43 (by decide) n_48)
      have n_239 : g_222.2.2.1 t = 100 := (Ex.n x_229 r_44 (by decide) n_49)
      have n_240 : g_222.2.2.1 nv = 8 := (Ex.n x_229 r_45 (by decide) n_50)
      have kn_241 : g_222.2.1 h 38 = .int rz := (Sm.v m_228 r_40 (by decide) rfl kn_51)
      have kn_242 : g_222.2.1 h 42 = .ref wt := (Sm.v m_228 r_40 (by decide) rfl kn_52)
      have kn_243 : g_222.2.1 h 39 = .ref na := (Sm.v m_228 r_40 (by decide) rfl kn_53)
      have kn_244 : g_222.2.1 h 40 = .ref pa := (Sm.v m_228 r_40 (by decide) rfl kn_54)
      have kn_245 : g_222.2.1 h 29 = .int z := (Sm.v m_228 r_40 (by decide) rfl kn_55)
      have kn_246 : g_222.2.1 h 28 = .ref t := (Sm.v m_228 r_40 (by decide) rfl kn_56)
      have kn_247 : g_222.2.1 h 41 = .ref nv := (Sm.v m_228 r_40 (by decide) rfl kn_57)
      have kn_248 : g_222.2.2.2.1 wt (9 : Int32).toNatClampNeg = 110 := (Sm.c m_228 r_43 (by decide) rfl kn_58)
      refine W.eq (g2 := F0 m 140 ls []) rfl ?_
      have qc_249 : (1 : Int32).toInt = 1 := (by decide)
      have qc_250 : (32 : Int32).toInt = 32 := (by decide)
      rcases f_225 with ⟨-, hs_s2_223, hw_s2_223⟩ | ⟨hx_, -⟩ | ⟨hx_, -⟩
      rotate_left
      · exact absurd hx_ (by decide)
      · exact absurd hx_ (by decide)
      have ew_ : w2_224 = 1 := i_inj (hw_s2_223.trans (by decide))
      subst ew_
      have hs_ : wsel ((txb ct z.toInt) s0.toInt) ((txb ct z.toInt) (s0.toInt + 1)) = 3 := ws_3 (by omega)
      have hq_ : qj (txb ct z.toInt) s0.toInt 3 = 0 := wp4_0 (by omega)
      have hv_ := wd_f hs_ (Or.inr (fun h_ => absurd (hq_.symm.trans h_) (by decide)))
      exact lt_m_readsAct_c1 l D cI cZ cS cR N0 g h s0 rz wt na pa z t ct nv r_h r_na n_na r_pa n_pa r_wt n_wt r_t n_t r_nv n_nv krz ks0 kw0 kwt kna kpa kz kt knv l_rz u_rz l_s0 u_s0 hN_0 hWT_0 l_z u_z hc_0 hB hr   g_222 (3 : Int32) s2_223 H locs ls hT hI hE hM (by decide) (by decide) (by omega) (by omega) kn_241 f_226 f_227 hN hc hWT hU0 hU1 hU2 (ac_n hv_.1 (by have q_ := hv_.2; rw [hq_] at q_; omega)) (lv_sub hl [1, 2] rfl)
  · have c_27' : r_19.toInt ≠ 110 := i_ne c_27 rfl (by decide)
    refine lv_iinc (v := 4) (lv' := [(1, .int 4), (0, .ref h)]) hx hb dX7_readsAct_59 hl (k := 0) rfl (by decide) (by decide) rfl (fun ls hl => ?_)
    refine lv_goto (tgt := 34) hx hb dX7_readsAct_62 (by decide) ?_
    exact lt_m_readsAct_w4 l D cI cZ cS cR N0 g h s0 rz wt na pa z t ct nv r_h r_na n_na r_pa n_pa r_wt n_wt r_t n_t r_nv n_nv krz ks0 kw0 kwt kna kpa kz kt knv l_rz u_rz l_s0 u_s0 hN_0 hWT_0 l_z u_z hc_0 hB hr   g1 H locs ls hT hI hE hM kp0 kp1 kp2 hN hc hWT hU0 hU1 hU2 (by omega) (lv_sub hl [0, 1] rfl)
set_option maxHeartbeats 4000000 in
set_option maxRecDepth 100000 in
theorem lt_m_readsAct_w2 (l : Launch) (D : va_G) (cI cZ cS cR : ClassId) (N0 : NT) (g : GS) (h : Nat) (s0 : Int32) (rz : Int32) (wt : Nat) (na : Nat) (pa : Nat) (z : Int32) (t : Nat) (ct : Nat → Int32) (nv : Nat) (r_h : g.1 h = 8) (r_na : g.1 na = 84) (n_na : g.2.2.1 na = 8) (r_pa : g.1 pa = 85) (n_pa : g.2.2.1 pa = 8) (r_wt : g.1 wt = 87) (n_wt : g.2.2.1 wt = 24) (r_t : g.1 t = 79) (n_t : g.2.2.1 t = 100) (r_nv : g.1 nv = 86) (n_nv : g.2.2.1 nv = 8) (krz : g.2.1 h 38 = .int rz) (ks0 : g.2.1 h 36 = .int s0) (kw0 : g.2.1 h 37 = .int 0) (kwt : g.2.1 h 42 = .ref wt) (kna : g.2.1 h 39 = .ref na) (kpa : g.2.1 h 40 = .ref pa) (kz : g.2.1 h 29 = .int z) (kt : g.2.1 h 28 = .ref t) (knv : g.2.1 h 41 = .ref nv) (l_rz : 0 ≤ rz.toInt) (u_rz : rz.toInt ≤ 7) (l_s0 : 0 ≤ s0.toInt) (u_s0 : s0.toInt ≤ 100) (hN_0 : PL 8 g na pa) (hWT_0 : WT g wt) (l_z : 0 ≤ z.toInt) (u_z : z.toInt ≤ 100) (hc_0 : g.2.2.2.1 t = ct) {p : Program} {e : Env} {s : State} {m : MethodId} {args : Array Value} {below : List Frame} {meth : Method} {c : Code} (hB : Tz p s m meth c args cX7_readsAct 4 RX7 D cI cZ cS cR N0) (hr : meth.sig.returnType = none)    : ∀ (g1 : GS)   (H : Heap) (locs : List Loc) (ls : Array Slot), Tv D cI cZ cS cR N0 s.heap H locs g1 → Inv g1 → Ex g g1 → Sm md_m_readsAct g g1 → g1.2.1 h 38 = .int rz → g1.2.1 h 36 = .int s0 → g1.2.1 h 37 = .int 0 → (PL 8 g1 na pa) → (g1.2.2.2.1 t = ct) → (WT g1 wt) → (UP g1 na (g.2.2.2.1 na) false rz.toNatClampNeg 0) → (UP g1 pa (g.2.2.2.1 pa) false rz.toNatClampNeg 0) → (UP g1 nv (g.2.2.2.1 nv) false rz.toNatClampNeg 0) → (¬ ((txb ct z.toInt) s0.toInt = 97 ∧ (txb ct z.toInt) (s0.toInt + 1) = 115) ∧ (txb ct z.toInt) s0.toInt ≠ 115 ∧ (txb ct z.toInt) s0.toInt ≠ 97) → lv_has ls 4 [(1, .int 2), (0, .ref h)] → W p l e (rmx 2 0 0) s m args below meth c H locs 0 0 (MQ below (tQ D cI cZ cS cR N0 (fun v g' => ∃ (z2 : Int32) (s2 : Int32) (w2 : Int32) (w_ : Int32) (c_ : Int32) (v_ : Int32), v = none ∧ Inv g' ∧ Ex g g' ∧ Sm md_m_readsAct g g' ∧ ((w2 = 1 ∧ ac (txb ct z.toInt) s0.toInt = (false, s2.toInt)) ∨ (w2 = 0 ∧ ac (txb ct z.toInt) s0.toInt = (true, s2.toInt) ∧ s2.toInt ≤ z.toInt ∧ w_.toInt = wdr (txb ct z.toInt) s0.toInt ∧ c_.toInt = acc (txb ct z.toInt) s0.toInt ∧ v_.toInt = acv (txb ct z.toInt) s0.toInt)) ∧ (g'.2.1 h 38 = .int z2) ∧ (z2.toInt = rz.toInt + 1) ∧ (PL 8 g' na pa) ∧ (g'.2.1 h 36 = .int s2) ∧ (g'.2.1 h 37 = .int w2) ∧ (0 ≤ s2.toInt ∧ s2.toInt ≤ 100) ∧ (UP g' na (g.2.2.2.1 na) true rz.toNatClampNeg w_) ∧ (UP g' pa (g.2.2.2.1 pa) true rz.toNatClampNeg c_) ∧ (UP g' nv (g.2.2.2.1 nv) true rz.toNatClampNeg v_))) args s 0 0 (fun q => N0.1 ≤ q)) (F0 m 34 ls []) := by
  have hx := hB.1
  have hb := hB.2.1
  intro g1 H locs ls hT hI hE hM kp0 kp1 kp2 hN hc hWT hU0 hU1 hU2 hS hl
  have r_1 : g1.1 h = 8 := Ex.r hE r_h (by decide)
  have r_2 : g1.1 na = 84 := Ex.r hE r_na (by decide)
  have n_3 : g1.2.2.1 na = 8 := Ex.n hE r_na (by decide) n_na
  have r_4 : g1.1 pa = 85 := Ex.r hE r_pa (by decide)
  have n_5 : g1.2.2.1 pa = 8 := Ex.n hE r_pa (by decide) n_pa
  have r_6 : g1.1 wt = 87 := Ex.r hE r_wt (by decide)
  have n_7 : g1.2.2.1 wt = 24 := Ex.n hE r_wt (by decide) n_wt
  have r_8 : g1.1 t = 79 := Ex.r hE r_t (by decide)
  have n_9 : g1.2.2.1 t = 100 := Ex.n hE r_t (by decide) n_t
  have r_10 : g1.1 nv = 86 := Ex.r hE r_nv (by decide)
  have n_11 : g1.2.2.1 nv = 8 := Ex.n hE r_nv (by decide) n_nv
  have kn_12 : g1.2.1 h 42 = .ref wt := Sm.v hM r_h (by decide) rfl kwt
  have kn_13 : g1.2.1 h 39 = .ref na := Sm.v hM r_h (by decide) rfl kna
  have kn_14 : g1.2.1 h 40 = .ref pa := Sm.v hM r_h (by decide) rfl kpa
  have kn_15 : g1.2.1 h 29 = .int z := Sm.v hM r_h (by decide) rfl kz
  have kn_16 : g1.2.1 h 28 = .ref t := Sm.v hM r_h (by decide) rfl kt
  have kn_17 : g1.2.1 h 41 = .ref nv := Sm.v hM r_h (by decide) rfl knv
  refine lv_iload_n hx hb dX7_readsAct_34 rfl (lv_at hl 0 rfl) ?_
  refine lv_bipush (v := 8) hx hb dX7_readsAct_35 (by decide) ?_
  refine lv_icmp_ge (tgt := 65) hx hb dX7_readsAct_37 (by decide) (fun c_ => absurd c_ (by decide)) (fun c_ => ?_)
  refine lv_aload_n hx hb dX7_readsAct_40 rfl (lv_at hl 1 rfl) ?_
  refine lv_aload_n hx hb dX7_readsAct_41 rfl (lv_at hl 1 rfl) ?_
  refine t_get (ci := 7) (v := .int s0) hB hT (ro_ci r_1 rfl) rfl 36 (by decide) k_781 kp1 dX7_readsAct_42 ?_
  refine t_callV (n := 1) (As := [.int s0]) (rest := []) (ci := 7) hB hT hl.1 (m_byteAt l D cI cZ cS cR N0 g1 hI h s0 z t ct r_1 r_8 n_9 kn_15 kn_16 (by omega) (by omega) (by omega) (by omega) hc) (ro_ci r_1 rfl) rfl k_971 k_65 k_968 k_970 k_23 (by decide +kernel) ⟨(Nat.le_of_ble_eq_true rfl), (Nat.le_of_ble_eq_true rfl)⟩ rfl (Nat.le_of_ble_eq_true rfl) ⟨(Nat.le_of_ble_eq_true rfl), (Nat.le_of_ble_eq_true rfl)⟩ dX7_readsAct_45 (fun v g_18 H locs hp hT => ?_)
  obtain ⟨r_19, rfl, eg, f_20, f_21, f_22⟩ := hp
  rw [eg] at hT
  clear eg
  refine W.eq (g2 := F0 m 48 ls [.int r_19]) rfl ?_
  refine lv_aload_n hx hb dX7_readsAct_48 rfl (lv_at hl 1 rfl) ?_
  refine t_get (ci := 7) (v := .ref wt) hB hT (ro_ci r_1 rfl) rfl 42 (by decide) k_787 kn_12 dX7_readsAct_49 ?_
  refine lv_iconst (v := 3) hx hb dX7_readsAct_52 (by decide) ?_
  refine lv_iload_n hx hb dX7_readsAct_53 rfl (lv_at hl 0 rfl) ?_
  refine lv_imul hx hb dX7_readsAct_54 ?_
  refine x_ev (y := 6) (by decide) ?_
  have kw_25 : g1.2.2.2.1 wt (6 : Int32).toNatClampNeg = 109 := (hWT (6 : Int32).toNatClampNeg (by decide)).trans (by decide)
  have i_u_26 : vp_in (6 : Int32) 24 := (by unfold vp_in; decide)
  refine t_iald (v := (109 : Int32)) hB hT (ro_in r_6 (by decide)) n_7 i_u_26 kw_25 dX7_readsAct_55 ?_
  refine lv_icmp_eq (tgt := 65) hx hb dX7_readsAct_56 (by decide) (fun c_27 => ?_) (fun c_27 => ?_)
  · have c_27' : r_19.toInt = 109 := i_eq c_27 rfl (by decide)
    refine lv_aload_n hx hb dX7_readsAct_65 rfl (lv_at hl 1 rfl) ?_
    refine lv_aload_n hx hb dX7_readsAct_66 rfl (lv_at hl 1 rfl) ?_
    refine t_get (ci := 7) (v := .int 0) hB hT (ro_ci r_1 rfl) rfl 37 (by decide) k_782 kp2 dX7_readsAct_67 ?_
    refine lv_if_ne (tgt := 79) hx hb dX7_readsAct_70 (by decide) (fun c_ => absurd (by decide) c_) (fun c_ => ?_)
    refine lv_iload_n hx hb dX7_readsAct_73 rfl (lv_at hl 0 rfl) ?_
    refine lv_bipush (v := 8) hx hb dX7_readsAct_74 (by decide) ?_
    refine lv_icmp_ne (tgt := 83) hx hb dX7_readsAct_76 (by decide) (fun c_ => ?_) (fun c_ => absurd c_ (by decide))
    refine lv_iconst (v := 0) hx hb dX7_readsAct_83 (by decide) ?_
    refine t_put0 (ci := 7) (v := .int 0) hB hT (ro_ci r_1 rfl) (ro_n0 r_1 (by decide)) rfl 37 (by decide) k_782 (Or.inl rfl) rfl rfl dX7_readsAct_84 (fun H locs hT => ?_)
    have hI : Inv (sF g1 h 37 (.int 0)) := hI.sF (p_8_37 r_1 (⟨_, rfl, by decide, by decide⟩))
    have hM : Sm md_m_readsAct g (sF g1 h 37 (.int 0)) := hM.tr hE (Sm_sF (by rw [r_1]; rfl))
    have hE : Ex g (sF g1 h 37 (.int 0)) := hE
    have hN : PL 8 (sF g1 h 37 (.int 0)) na pa := hN
    have hc : (sF g1 h 37 (.int 0)).2.2.2.1 t = ct := hc
    have hWT : WT (sF g1 h 37 (.int 0)) wt := hWT
    have hU0 : UP (sF g1 h 37 (.int 0)) na (g.2.2.2.1 na) false rz.toNatClampNeg 0 := hU0
    have hU1 : UP (sF g1 h 37 (.int 0)) pa (g.2.2.2.1 pa) false rz.toNatClampNeg 0 := hU1
    have hU2 : UP (sF g1 h 37 (.int 0)) nv (g.2.2.2.1 nv) false rz.toNatClampNeg 0 := hU2
    refine lv_iconst (v := 0) hx hb dX7_readsAct_87 (by decide) ?_
    refine lv_istore_n (lv' := [(2, .int 0), (1, .int 2), (0, .ref h)]) hx hb dX7_readsAct_88 rfl hl (by decide) rfl (fun ls hl => ?_)
    refine lv_iload_n hx hb dX7_readsAct_89 rfl (lv_at hl 0 rfl) ?_
    refine lv_iconst (v := 3) hx hb dX7_readsAct_90 (by decide) ?_
    refine lv_icmp_ge (tgt := 134) hx hb dX7_readsAct_91 (by decide) (fun c_ => absurd c_ (by decide)) (fun c_ => ?_)
    refine lv_aload_n hx hb dX7_readsAct_94 rfl (lv_at hl 2 rfl) ?_
    refine t_get (ci := 7) (v := .int 0) hB hT (ro_ci r_1 rfl) rfl 37 (by decide) k_782 sF_eq dX7_readsAct_95 ?_
    refine lv_if_ne (tgt := 134) hx hb dX7_readsAct_98 (by decide) (fun c_ => absurd (by decide) c_) (fun c_ => ?_)
    refine lv_aload_n hx hb dX7_readsAct_101 rfl (lv_at hl 2 rfl) ?_
    refine t_get (ci := 7) (v := .ref wt) hB hT (ro_ci r_1 rfl) rfl 42 (by decide) k_787 (sF_k kn_12 (by decide)) dX7_readsAct_102 ?_
    refine lv_iconst (v := 3) hx hb dX7_readsAct_105 (by decide) ?_
    refine lv_iload_n hx hb dX7_readsAct_106 rfl (lv_at hl 1 rfl) ?_
    refine lv_imul hx hb dX7_readsAct_107 ?_
    refine x_ev (y := 6) (by decide) ?_
    refine lv_iload_n hx hb dX7_readsAct_108 rfl (lv_at hl 0 rfl) ?_
    refine lv_iadd hx hb dX7_readsAct_109 ?_
    refine x_ev (y := 6) (by decide) ?_
    have kw_28 : (sF g1 h 37 (.int 0)).2.2.2.1 wt (6 : Int32).toNatClampNeg = 109 := (hWT (6 : Int32).toNatClampNeg (by decide)).trans (by decide)
    have i_u_29 : vp_in (6 : Int32) 24 := (by unfold vp_in; decide)
    refine t_iald (v := (109 : Int32)) hB hT (ro_in r_6 (by decide)) n_7 i_u_29 kw_28 dX7_readsAct_110 ?_
    refine lv_if_eq (tgt := 128) hx hb dX7_readsAct_111 (by decide) (fun c_ => absurd c_ (by decide)) (fun c_ => ?_)
    refine lv_aload_n hx hb dX7_readsAct_114 rfl (lv_at hl 2 rfl) ?_
    refine lv_aload_n hx hb dX7_readsAct_115 rfl (lv_at hl 2 rfl) ?_
    refine t_get (ci := 7) (v := .ref wt) hB hT (ro_ci r_1 rfl) rfl 42 (by decide) k_787 (sF_k kn_12 (by decide)) dX7_readsAct_116 ?_
    refine lv_iconst (v := 3) hx hb dX7_readsAct_119 (by decide) ?_
    refine lv_iload_n hx hb dX7_readsAct_120 rfl (lv_at hl 1 rfl) ?_
    refine lv_imul hx hb dX7_readsAct_121 ?_
    refine x_ev (y := 6) (by decide) ?_
    refine lv_iload_n hx hb dX7_readsAct_122 rfl (lv_at hl 0 rfl) ?_
    refine lv_iadd hx hb dX7_readsAct_123 ?_
    refine x_ev (y := 6) (by decide) ?_
    have kw_30 : (sF g1 h 37 (.int 0)).2.2.2.1 wt (6 : Int32).toNatClampNeg = 109 := (hWT (6 : Int32).toNatClampNeg (by decide)).trans (by decide)
    have i_u_31 : vp_in (6 : Int32) 24 := (by unfold vp_in; decide)
    refine t_iald (v := (109 : Int32)) hB hT (ro_in r_6 (by decide)) n_7 i_u_31 kw_30 dX7_readsAct_124 ?_
    refine t_callV (n := 1) (As := [.int 109]) (rest := []) (ci := 7) hB hT hl.1 (m_must l D cI cZ cS cR N0 (sF g1 h 37 (.int 0)) hI h 109 s0 0 z t ct r_1 r_8 n_9 (sF_k kp1 (by decide)) sF_eq (sF_k kn_15 (by decide)) (sF_k kn_16 (by decide)) (by have q0 : (0 : Int32).toInt = 0 := (by decide); have q1 : (109 : Int32).toInt = 109 := (by decide); omega) (by have q0 : (0 : Int32).toInt = 0 := (by decide); have q1 : (109 : Int32).toInt = 109 := (by decide); omega) (by have q0 : (0 : Int32).toInt = 0 := (by decide); have q1 : (109 : Int32).toInt = 109 := (by decide); omega) (by have q0 : (0 : Int32).toInt = 0 := (by decide); have q1 : (109 : Int32).toInt = 109 := (by decide); omega) (by have q0 : (0 : Int32).toInt = 0 := (by decide); have q1 : (109 : Int32).toInt = 109 := (by decide); omega) (by have q0 : (0 : Int32).toInt = 0 := (by decide); have q1 : (109 : Int32).toInt = 109 := (by decide); omega) (by have q0 : (0 : Int32).toInt = 0 := (by decide); have q1 : (109 : Int32).toInt = 109 := (by decide); omega) hc) (ro_ci r_1 rfl) rfl k_975 k_65 k_972 k_974 k_24 (by decide +kernel) ⟨(Nat.le_of_ble_eq_true rfl), (Nat.le_of_ble_eq_true rfl)⟩ rfl (Nat.le_of_ble_eq_true rfl) ⟨(Nat.le_of_ble_eq_true rfl), (Nat.le_of_ble_eq_true rfl)⟩ dX7_readsAct_125 (fun v g_32 H locs hp hT => ?_)
    obtain ⟨s2_33, w2_34, rfl, hI, x_39, m_38, f_35, f_36, f_37⟩ := hp
    have hN : PL 8 g_32 na pa := hN.sm m_38 r_2 (by decide) rfl r_4 (by decide) rfl
    have hc : g_32.2.2.2.1 t = ct := (Sm.cf m_38 r_8 (by decide) rfl).trans hc
    have hWT : WT g_32 wt := hWT.sm m_38 r_6 (by decide) rfl
    have hU0 : UP g_32 na (g.2.2.2.1 na) false rz.toNatClampNeg 0 := hU0.sm m_38 r_2 (by decide) rfl
    have hU1 : UP g_32 pa (g.2.2.2.1 pa) false rz.toNatClampNeg 0 := hU1.sm m_38 r_4 (by decide) rfl
    have hU2 : UP g_32 nv (g.2.2.2.1 nv) false rz.toNatClampNeg 0 := hU2.sm m_38 r_10 (by decide) rfl
    have hM : Sm md_m_readsAct g g_32 := hM.tr hE (m_38.mo (fun r k h => mdle_m_readsAct_m_must h))
    have hE : Ex g g_32 := hE.tr x_39
    have r_40 : g_32.1 h = 8 := (Ex.r x_39 r_1 (by decide))
    have r_41 : g_32.1 na = 84 := (Ex.r x_39 r_2 (by decide))
    have r_42 : g_32.1 pa = 85 := (Ex.r x_39 r_4 (by decide))
    have r_43 : g_32.1 wt = 87 := (Ex.r x_39 r_6 (by decide))
    have r_44 : g_32.1 t = 79 := (Ex.r x_39 r_8 (by decide))
    have r_45 : g_32.1 nv = 86 := (Ex.r x_39 r_10 (by decide))
    have n_46 : g_32.2.2.1 na = 8 := (Ex.n x_39 r_2 (by decide) n_3)
    have n_47 : g_32.2.2.1 pa = 8 := (Ex.n x_39 r_4 (by decide) n_5)
    have n_48 : g_32.2.2.1 wt = 24 := (Ex.n x_39 r_6 (by decide) n_7)
    have n_49 : g_32.2.2.1 t = 100 := (Ex.n x_39 r_8 (by decide) n_9)
    have n_50 : g_32.2.2.1 nv = 8 := (Ex.n x_39 r_10 (by decide) n_11)
    have kn_51 : g_32.2.1 h 38 = .int rz := (Sm.v m_38 r_1 (by decide) rfl (sF_k kp0 (by decide)))
    have kn_52 : g_32.2.1 h 42 = .ref wt := (Sm.v m_38 r_1 (by decide) rfl (sF_k kn_12 (by decide)))
    have kn_53 : g_32.2.1 h 39 = .ref na := (Sm.v m_38 r_1 (by decide) rfl (sF_k kn_13 (by decide)))
    have kn_54 : g_32.2.1 h 40 = .ref pa := (Sm.v m_38 r_1 (by decide) rfl (sF_k kn_14 (by decide)))
    have kn_55 : g_32.2.1 h 29 = .int z := (Sm.v m_38 r_1 (by decide) rfl (sF_k kn_15 (by decide)))
    have kn_56 : g_32.2.1 h 28 = .ref t := (Sm.v m_38 r_1 (by decide) rfl (sF_k kn_16 (by decide)))
    have kn_57 : g_32.2.1 h 41 = .ref nv := (Sm.v m_38 r_1 (by decide) rfl (sF_k kn_17 (by decide)))
    have kn_58 : g_32.2.2.2.1 wt (6 : Int32).toNatClampNeg = 109 := (Sm.c m_38 r_6 (by decide) rfl kw_30)
    refine W.eq (g2 := F0 m 128 ls []) rfl ?_
    have qc_59 : (0 : Int32).toInt = 0 := (by decide)
    have qc_60 : (109 : Int32).toInt = 109 := (by decide)
    rcases f_35 with ⟨hx_, -⟩ | ⟨-, ht_s2_33, hs_s2_33, hz_s2_33, hw_s2_33⟩ | ⟨-, ht_s2_33, hs_s2_33, hw_s2_33⟩
    · exact absurd hx_ (by decide)
    · have ew_ : w2_34 = 0 := i_inj (hw_s2_33.trans (by decide))
      subst ew_
      refine lv_iinc (v := 1) (lv' := [(2, .int 1), (1, .int 2), (0, .ref h)]) hx hb dX7_readsAct_128 hl (k := 0) rfl (by decide) (by decide) rfl (fun ls hl => ?_)
      refine lv_goto (tgt := 89) hx hb dX7_readsAct_131 (by decide) ?_
      refine lv_iload_n hx hb dX7_readsAct_89 rfl (lv_at hl 0 rfl) ?_
      refine lv_iconst (v := 3) hx hb dX7_readsAct_90 (by decide) ?_
      refine lv_icmp_ge (tgt := 134) hx hb dX7_readsAct_91 (by decide) (fun c_ => absurd c_ (by decide)) (fun c_ => ?_)
      refine lv_aload_n hx hb dX7_readsAct_94 rfl (lv_at hl 2 rfl) ?_
      refine t_get (ci := 7) (v := .int 0) hB hT (ro_ci r_40 rfl) rfl 37 (by decide) k_782 f_37 dX7_readsAct_95 ?_
      refine lv_if_ne (tgt := 134) hx hb dX7_readsAct_98 (by decide) (fun c_ => absurd (by decide) c_) (fun c_ => ?_)
      refine lv_aload_n hx hb dX7_readsAct_101 rfl (lv_at hl 2 rfl) ?_
      refine t_get (ci := 7) (v := .ref wt) hB hT (ro_ci r_40 rfl) rfl 42 (by decide) k_787 kn_52 dX7_readsAct_102 ?_
      refine lv_iconst (v := 3) hx hb dX7_readsAct_105 (by decide) ?_
      refine lv_iload_n hx hb dX7_readsAct_106 rfl (lv_at hl 1 rfl) ?_
      refine lv_imul hx hb dX7_readsAct_107 ?_
      refine x_ev (y := 6) (by decide) ?_
      refine lv_iload_n hx hb dX7_readsAct_108 rfl (lv_at hl 0 rfl) ?_
      refine lv_iadd hx hb dX7_readsAct_109 ?_
      refine x_ev (y := 7) (by decide) ?_
      have kw_61 : g_32.2.2.2.1 wt (7 : Int32).toNatClampNeg = 97 := (hWT (7 : Int32).toNatClampNeg (by decide)).trans (by decide)
      have i_u_62 : vp_in (7 : Int32) 24 := (by unfold vp_in; decide)
      refine t_iald (v := (97 : Int32)) hB hT (ro_in r_43 (by decide)) n_48 i_u_62 kw_61 dX7_readsAct_110 ?_
      refine lv_if_eq (tgt := 128) hx hb dX7_readsAct_111 (by decide) (fun c_ => absurd c_ (by decide)) (fun c_ => ?_)
      refine lv_aload_n hx hb dX7_readsAct_114 rfl (lv_at hl 2 rfl) ?_
      refine lv_aload_n hx hb dX7_readsAct_115 rfl (lv_at hl 2 rfl) ?_
      refine t_get (ci := 7) (v := .ref wt) hB hT (ro_ci r_40 rfl) rfl 42 (by decide) k_787 kn_52 dX7_readsAct_116 ?_
      refine lv_iconst (v := 3) hx hb dX7_readsAct_119 (by decide) ?_
      refine lv_iload_n hx hb dX7_readsAct_120 rfl (lv_at hl 1 rfl) ?_
      refine lv_imul hx hb dX7_readsAct_121 ?_
      refine x_ev (y := 6) (by decide) ?_
      refine lv_iload_n hx hb dX7_readsAct_122 rfl (lv_at hl 0 rfl) ?_
      refine lv_iadd hx hb dX7_readsAct_123 ?_
      refine x_ev (y := 7) (by decide) ?_
      have kw_63 : g_32.2.2.2.1 wt (7 : Int32).toNatClampNeg = 97 := (hWT (7 : Int32).toNatClampNeg (by decide)).trans (by decide)
      have i_u_64 : vp_in (7 : Int32) 24 := (by unfold vp_in; decide)
      refine t_iald (v := (97 : Int32)) hB hT (ro_in r_43 (by decide)) n_48 i_u_64 kw_63 dX7_readsAct_124 ?_
      refine t_callV (n := 1) (As := [.int 97]) (rest := []) (ci := 7) hB hT hl.1 (m_must l D cI cZ cS cR N0 g_32 hI h 97 s2_33 0 z t ct r_40 r_44 n_49 f_36 f_37 kn_55 kn_56 (by have q0 : (0 : Int32).toInt = 0 := (by decide); have q1 : (97 : Int32).toInt = 97 := (by decide); omega) (by have q0 : (0 : Int32).toInt = 0 := (by decide); have q1 : (97 : Int32).toInt = 97 := (by decide); omega) (by have q0 : (0 : Int32).toInt = 0 := (by decide); have q1 : (97 : Int32).toInt = 97 := (by decide); omega) (by have q0 : (0 : Int32).toInt = 0 := (by decide); have q1 : (97 : Int32).toInt = 97 := (by decide); omega) (by have q0 : (0 : Int32).toInt = 0 := (by decide); have q1 : (97 : Int32).toInt = 97 := (by decide); omega) (by have q0 : (0 : Int32).toInt = 0 := (by decide); have q1 : (97 : Int32).toInt = 97 := (by decide); omega) (by have q0 : (0 : Int32).toInt = 0 := (by decide); have q1 : (97 : Int32).toInt = 97 := (by decide); omega) hc) (ro_ci r_40 rfl) rfl k_975 k_65 k_972 k_974 k_24 (by decide +kernel) ⟨(Nat.le_of_ble_eq_true rfl), (Nat.le_of_ble_eq_true rfl)⟩ rfl (Nat.le_of_ble_eq_true rfl) ⟨(Nat.le_of_ble_eq_true rfl), (Nat.le_of_ble_eq_true rfl)⟩ dX7_readsAct_125 (fun v g_65 H locs hp hT => ?_)
      obtain ⟨s2_66, w2_67, rfl, hI, x_72, m_71, f_68, f_69, f_70⟩ := hp
      have hN : PL 8 g_65 na pa := hN.sm m_71 r_41 (by decide) rfl r_42 (by decide) rfl
      have hc : g_65.2.2.2.1 t = ct := (Sm.cf m_71 r_44 (by decide) rfl).trans hc
      have hWT : WT g_65 wt := hWT.sm m_71 r_43 (by decide) rfl
      have hU0 : UP g_65 na (g.2.2.2.1 na) false rz.toNatClampNeg 0 := hU0.sm m_71 r_41 (by decide) rfl
      have hU1 : UP g_65 pa (g.2.2.2.1 pa) false rz.toNatClampNeg 0 := hU1.sm m_71 r_42 (by decide) rfl
      have hU2 : UP g_65 nv (g.2.2.2.1 nv) false rz.toNatClampNeg 0 := hU2.sm m_71 r_45 (by decide) rfl
      have hM : Sm md_m_readsAct g g_65 := hM.tr hE (m_71.mo (fun r k h => mdle_m_readsAct_m_must h))
      have hE : Ex g g_65 := hE.tr x_72
      have r_73 : g_65.1 h = 8 := (Ex.r x_72 r_40 (by decide))
      have r_74 : g_65.1 na = 84 := (Ex.r x_72 r_41 (by decide))
      have r_75 : g_65.1 pa = 85 := (Ex.r x_72 r_42 (by decide))
      have r_76 : g_65.1 wt = 87 := (Ex.r x_72 r_43 (by decide))
      have r_77 : g_65.1 t = 79 := (Ex.r x_72 r_44 (by decide))
      have r_78 : g_65.1 nv = 86 := (Ex.r x_72 r_45 (by decide))
      have n_79 : g_65.2.2.1 na = 8 := (Ex.n x_72 r_41 (by decide) n_46)
      have n_80 : g_65.2.2.1 pa = 8 := (Ex.n x_72 r_42 (by decide) n_47)
      have n_81 : g_65.2.2.1 wt = 24 := (Ex.n x_72 r_43 (by decide) n_48)
      have n_82 : g_65.2.2.1 t = 100 := (Ex.n x_72 r_44 (by decide) n_49)
      have n_83 : g_65.2.2.1 nv = 8 := (Ex.n x_72 r_45 (by decide) n_50)
      have kn_84 : g_65.2.1 h 38 = .int rz := (Sm.v m_71 r_40 (by decide) rfl kn_51)
      have kn_85 : g_65.2.1 h 42 = .ref wt := (Sm.v m_71 r_40 (by decide) rfl kn_52)
      have kn_86 : g_65.2.1 h 39 = .ref na := (Sm.v m_71 r_40 (by decide) rfl kn_53)
      have kn_87 : g_65.2.1 h 40 = .ref pa := (Sm.v m_71 r_40 (by decide) rfl kn_54)
      have kn_88 : g_65.2.1 h 29 = .int z := (Sm.v m_71 r_40 (by decide) rfl kn_55)
      have kn_89 : g_65.2.1 h 28 = .ref t := (Sm.v m_71 r_40 (by decide) rfl kn_56)
      have kn_90 : g_65.2.1 h 41 = .ref nv := (Sm.v m_71 r_40 (by decide) rfl kn_57)
      have kn_91 : g_65.2.2.2.1 wt (6 : Int32).toNatClampNeg = 109 := (Sm.c m_71 r_43 (by decide) rfl kn_58)
      have kn_92 : g_65.2.2.2.1 wt (7 : Int32).toNatClampNeg = 97 := (Sm.c m_71 r_43 (by decide) rfl kw_63)
      refine W.eq (g2 := F0 m 128 ls []) rfl ?_
      have qc_93 : (0 : Int32).toInt = 0 := (by decide)
      have qc_94 : (97 : Int32).toInt = 97 := (by decide)
      rcases f_68 with ⟨hx_, -⟩ | ⟨-, ht_s2_66, hs_s2_66, hz_s2_66, hw_s2_66⟩ | ⟨-, ht_s2_66, hs_s2_66, hw_s2_66⟩
      · exact absurd hx_ (by decide)
      · have ew_ : w2_67 = 0 := i_inj (hw_s2_66.trans (by decide))
        subst ew_
        rw [show s2_33.toInt = s0.toInt + 1 by omega] at ht_s2_66
        refine lv_iinc (v := 2) (lv' := [(2, .int 2), (1, .int 2), (0, .ref h)]) hx hb dX7_readsAct_128 hl (k := 0) rfl (by decide) (by decide) rfl (fun ls hl => ?_)
        refine lv_goto (tgt := 89) hx hb dX7_readsAct_131 (by decide) ?_
        refine lv_iload_n hx hb dX7_readsAct_89 rfl (lv_at hl 0 rfl) ?_
        refine lv_iconst (v := 3) hx hb dX7_readsAct_90 (by decide) ?_
        refine lv_icmp_ge (tgt := 134) hx hb dX7_readsAct_91 (by decide) (fun c_ => absurd c_ (by decide)) (fun c_ => ?_)
        refine lv_aload_n hx hb dX7_readsAct_94 rfl (lv_at hl 2 rfl) ?_
        refine t_get (ci := 7) (v := .int 0) hB hT (ro_ci r_73 rfl) rfl 37 (by decide) k_782 f_70 dX7_readsAct_95 ?_
        refine lv_if_ne (tgt := 134) hx hb dX7_readsAct_98 (by decide) (fun c_ => absurd (by decide) c_) (fun c_ => ?_)
        refine lv_aload_n hx hb dX7_readsAct_101 rfl (lv_at hl 2 rfl) ?_
        refine t_get (ci := 7) (v := .ref wt) hB hT (ro_ci r_73 rfl) rfl 42 (by decide) k_787 kn_85 dX7_readsAct_102 ?_
        refine lv_iconst (v := 3) hx hb dX7_readsAct_105 (by decide) ?_
        refine lv_iload_n hx hb dX7_readsAct_106 rfl (lv_at hl 1 rfl) ?_
        refine lv_imul hx hb dX7_readsAct_107 ?_
        refine x_ev (y := 6) (by decide) ?_
        refine lv_iload_n hx hb dX7_readsAct_108 rfl (lv_at hl 0 rfl) ?_
        refine lv_iadd hx hb dX7_readsAct_109 ?_
        refine x_ev (y := 8) (by decide) ?_
        have kw_95 : g_65.2.2.2.1 wt (8 : Int32).toNatClampNeg = 120 := (hWT (8 : Int32).toNatClampNeg (by decide)).trans (by decide)
        have i_u_96 : vp_in (8 : Int32) 24 := (by unfold vp_in; decide)
        refine t_iald (v := (120 : Int32)) hB hT (ro_in r_76 (by decide)) n_81 i_u_96 kw_95 dX7_readsAct_110 ?_
        refine lv_if_eq (tgt := 128) hx hb dX7_readsAct_111 (by decide) (fun c_ => absurd c_ (by decide)) (fun c_ => ?_)
        refine lv_aload_n hx hb dX7_readsAct_114 rfl (lv_at hl 2 rfl) ?_
        refine lv_aload_n hx hb dX7_readsAct_115 rfl (lv_at hl 2 rfl) ?_
        refine t_get (ci := 7) (v := .ref wt) hB hT (ro_ci r_73 rfl) rfl 42 (by decide) k_787 kn_85 dX7_readsAct_116 ?_
        refine lv_iconst (v := 3) hx hb dX7_readsAct_119 (by decide) ?_
        refine lv_iload_n hx hb dX7_readsAct_120 rfl (lv_at hl 1 rfl) ?_
        refine lv_imul hx hb dX7_readsAct_121 ?_
        refine x_ev (y := 6) (by decide) ?_
        refine lv_iload_n hx hb dX7_readsAct_122 rfl (lv_at hl 0 rfl) ?_
        refine lv_iadd hx hb dX7_readsAct_123 ?_
        refine x_ev (y := 8) (by decide) ?_
        have kw_97 : g_65.2.2.2.1 wt (8 : Int32).toNatClampNeg = 120 := (hWT (8 : Int32).toNatClampNeg (by decide)).trans (by decide)
        have i_u_98 : vp_in (8 : Int32) 24 := (by unfold vp_in; decide)
        refine t_iald (v := (120 : Int32)) hB hT (ro_in r_76 (by decide)) n_81 i_u_98 kw_97 dX7_readsAct_124 ?_
        refine t_callV (n := 1) (As := [.int 120]) (rest := []) (ci := 7) hB hT hl.1 (m_must l D cI cZ cS cR N0 g_65 hI h 120 s2_66 0 z t ct r_73 r_77 n_82 f_69 f_70 kn_88 kn_89 (by have q0 : (0 : Int32).toInt = 0 := (by decide); have q1 : (120 : Int32).toInt = 120 := (by decide); omega) (by have q0 : (0 : Int32).toInt = 0 := (by decide); have q1 : (120 : Int32).toInt = 120 := (by decide); omega) (by have q0 : (0 : Int32).toInt = 0 := (by decide); have q1 : (120 : Int32).toInt = 120 := (by decide); omega) (by have q0 : (0 : Int32).toInt = 0 := (by decide); have q1 : (120 : Int32).toInt = 120 := (by decide); omega) (by have q0 : (0 : Int32).toInt = 0 := (by decide); have q1 : (120 : Int32).toInt = 120 := (by decide); omega) (by have q0 : (0 : Int32).toInt = 0 := (by decide); have q1 : (120 : Int32).toInt = 120 := (by decide); omega) (by have q0 : (0 : Int32).toInt = 0 := (by decide); have q1 : (120 : Int32).toInt = 120 := (by decide); omega) hc) (ro_ci r_73 rfl) rfl k_975 k_65 k_972 k_974 k_24 (by decide +kernel) ⟨(Nat.le_of_ble_eq_true rfl), (Nat.le_of_ble_eq_true rfl)⟩ rfl (Nat.le_of_ble_eq_true rfl) ⟨(Nat.le_of_ble_eq_true rfl), (Nat.le_of_ble_eq_true rfl)⟩ dX7_readsAct_125 (fun v g_99 H locs hp hT => ?_)
        obtain ⟨s2_100, w2_101, rfl, hI, x_106, m_105, f_102, f_103, f_104⟩ := hp
        have hN : PL 8 g_99 na pa := hN.sm m_105 r_74 (by decide) rfl r_75 (by decide) rfl
        have hc : g_99.2.2.2.1 t = ct := (Sm.cf m_105 r_77 (by decide) rfl).trans hc
        have hWT : WT g_99 wt := hWT.sm m_105 r_76 (by decide) rfl
        have hU0 : UP g_99 na (g.2.2.2.1 na) false rz.toNatClampNeg 0 := hU0.sm m_105 r_74 (by decide) rfl
        have hU1 : UP g_99 pa (g.2.2.2.1 pa) false rz.toNatClampNeg 0 := hU1.sm m_105 r_75 (by decide) rfl
        have hU2 : UP g_99 nv (g.2.2.2.1 nv) false rz.toNatClampNeg 0 := hU2.sm m_105 r_78 (by decide) rfl
        have hM : Sm md_m_readsAct g g_99 := hM.tr hE (m_105.mo (fun r k h => mdle_m_readsAct_m_must h))
        have hE : Ex g g_99 := hE.tr x_106
        have r_107 : g_99.1 h = 8 := (Ex.r x_106 r_73 (by decide))
        have r_108 : g_99.1 na = 84 := (Ex.r x_106 r_74 (by decide))
        have r_109 : g_99.1 pa = 85 := (Ex.r x_106 r_75 (by decide))
        have r_110 : g_99.1 wt = 87 := (Ex.r x_106 r_76 (by decide))
        have r_111 : g_99.1 t = 79 := (Ex.r x_106 r_77 (by decide))
        have r_112 : g_99.1 nv = 86 := (Ex.r x_106 r_78 (by decide))
        have n_113 : g_99.2.2.1 na = 8 := (Ex.n x_106 r_74 (by decide) n_79)
        have n_114 : g_99.2.2.1 pa = 8 := (Ex.n x_106 r_75 (by decide) n_80)
        have n_115 : g_99.2.2.1 wt = 24 := (Ex.n x_106 r_76 (by decide) n_81)
        have n_116 : g_99.2.2.1 t = 100 := (Ex.n x_106 r_77 (by decide) n_82)
        have n_117 : g_99.2.2.1 nv = 8 := (Ex.n x_106 r_78 (by decide) n_83)
        have kn_118 : g_99.2.1 h 38 = .int rz := (Sm.v m_105 r_73 (by decide) rfl kn_84)
        have kn_119 : g_99.2.1 h 42 = .ref wt := (Sm.v m_105 r_73 (by decide) rfl kn_85)
        have kn_120 : g_99.2.1 h 39 = .ref na := (Sm.v m_105 r_73 (by decide) rfl kn_86)
        have kn_121 : g_99.2.1 h 40 = .ref pa := (Sm.v m_105 r_73 (by decide) rfl kn_87)
        have kn_122 : g_99.2.1 h 29 = .int z := (Sm.v m_105 r_73 (by decide) rfl kn_88)
        have kn_123 : g_99.2.1 h 28 = .ref t := (Sm.v m_105 r_73 (by decide) rfl kn_89)
        have kn_124 : g_99.2.1 h 41 = .ref nv := (Sm.v m_105 r_73 (by decide) rfl kn_90)
        have kn_125 : g_99.2.2.2.1 wt (6 : Int32).toNatClampNeg = 109 := (Sm.c m_105 r_76 (by decide) rfl kn_91)
        have kn_126 : g_99.2.2.2.1 wt (7 : Int32).toNatClampNeg = 97 := (Sm.c m_105 r_76 (by decide) rfl kn_92)
        have kn_127 : g_99.2.2.2.1 wt (8 : Int32).toNatClampNeg = 120 := (Sm.c m_105 r_76 (by decide) rfl kw_97)
        refine W.eq (g2 := F0 m 128 ls []) rfl ?_
        have qc_128 : (0 : Int32).toInt = 0 := (by decide)
        have qc_129 : (120 : Int32).toInt = 120 := (by decide)
        rcases f_102 with ⟨hx_, -⟩ | ⟨-, ht_s2_100, hs_s2_100, hz_s2_100, hw_s2_100⟩ | ⟨-, ht_s2_100, hs_s2_100, hw_s2_100⟩
        · exact absurd hx_ (by decide)
        · have ew_ : w2_101 = 0 := i_inj (hw_s2_100.trans (by decide))
          subst ew_
          rw [show s2_66.toInt = s0.toInt + 2 by omega] at ht_s2_100
          refine lv_iinc (v := 3) (lv' := [(2, .int 3), (1, .int 2), (0, .ref h)]) hx hb dX7_readsAct_128 hl (k := 0) rfl (by decide) (by decide) rfl (fun ls hl => ?_)
          refine lv_goto (tgt := 89) hx hb dX7_readsAct_131 (by decide) ?_
          refine lv_iload_n hx hb dX7_readsAct_89 rfl (lv_at hl 0 rfl) ?_
          refine lv_iconst (v := 3) hx hb dX7_readsAct_90 (by decide) ?_
          refine lv_icmp_ge (tgt := 134) hx hb dX7_readsAct_91 (by decide) (fun c_ => ?_) (fun c_ => absurd (by decide) c_)
          refine lv_aload_n hx hb dX7_readsAct_134 rfl (lv_at hl 2 rfl) ?_
          refine lv_bipush (v := 32) hx hb dX7_readsAct_135 (by decide) ?_
          refine t_callV (n := 1) (As := [.int 32]) (rest := []) (ci := 7) hB hT hl.1 (m_must l D cI cZ cS cR N0 g_99 hI h 32 s2_100 0 z t ct r_107 r_111 n_116 f_103 f_104 kn_122 kn_123 (by have q0 : (0 : Int32).toInt = 0 := (by decide); have q1 : (32 : Int32).toInt = 32 := (by decide); omega) (by have q0 : (0 : Int32).toInt = 0 := (by decide); have q1 : (32 : Int32).toInt = 32 := (by decide); omega) (by have q0 : (0 : Int32).toInt = 0 := (by decide); have q1 : (32 : Int32).toInt = 32 := (by decide); omega) (by have q0 : (0 : Int32).toInt = 0 := (by decide); have q1 : (32 : Int32).toInt = 32 := (by decide); omega) (by have q0 : (0 : Int32).toInt = 0 := (by decide); have q1 : (32 : Int32).toInt = 32 := (by decide); omega) (by have q0 : (0 : Int32).toInt = 0 := (by decide); have q1 : (32 : Int32).toInt = 32 := (by decide); omega) (by have q0 : (0 : Int32).toInt = 0 := (by decide); have q1 : (32 : Int32).toInt = 32 := (by decide); omega) hc) (ro_ci r_107 rfl) rfl k_975 k_65 k_972 k_974 k_24 (by decide +kernel) ⟨(Nat.le_of_ble_eq_true rfl), (Nat.le_of_ble_eq_true rfl)⟩ rfl (Nat.le_of_ble_eq_true rfl) ⟨(Nat.le_of_ble_eq_true rfl), (Nat.le_of_ble_eq_true rfl)⟩ dX7_readsAct_137 (fun v g_130 H locs hp hT => ?_)
          obtain ⟨s2_131, w2_132, rfl, hI, x_137, m_136, f_133, f_134, f_135⟩ := hp
          have hN : PL 8 g_130 na pa := hN.sm m_136 r_108 (by decide) rfl r_109 (by decide) rfl
          have hc : g_130.2.2.2.1 t = ct := (Sm.cf m_136 r_111 (by decide) rfl).trans hc
          have hWT : WT g_130 wt := hWT.sm m_136 r_110 (by decide) rfl
          have hU0 : UP g_130 na (g.2.2.2.1 na) false rz.toNatClampNeg 0 := hU0.sm m_136 r_108 (by decide) rfl
          have hU1 : UP g_130 pa (g.2.2.2.1 pa) false rz.toNatClampNeg 0 := hU1.sm m_136 r_109 (by decide) rfl
          have hU2 : UP g_130 nv (g.2.2.2.1 nv) false rz.toNatClampNeg 0 := hU2.sm m_136 r_112 (by decide) rfl
          have hM : Sm md_m_readsAct g g_130 := hM.tr hE (m_136.mo (fun r k h => mdle_m_readsAct_m_must h))
          have hE : Ex g g_130 := hE.tr x_137
          have r_138 : g_130.1 h = 8 := (Ex.r x_137 r_107 (by decide))
          have r_139 : g_130.1 na = 84 := (Ex.r x_137 r_108 (by decide))
          have r_140 : g_130.1 pa = 85 := (Ex.r x_137 r_109 (by decide))
          have r_141 : g_130.1 wt = 87 := (Ex.r x_137 r_110 (by decide))
          have r_142 : g_130.1 t = 79 := (Ex.r x_137 r_111 (by decide))
          have r_143 : g_130.1 nv = 86 := (Ex.r x_137 r_112 (by decide))
          have n_144 : g_130.2.2.1 na = 8 := (Ex.n x_137 r_108 (by decide) n_113)
          have n_145 : g_130.2.2.1 pa = 8 := (Ex.n x_137 r_109 (by decide) n_114)
          have n_146 : g_130.2.2.1 wt = 24 := (Ex.n x_137 r_110 (by decide) n_115)
          have n_147 : g_130.2.2.1 t = 100 := (Ex.n x_137 r_111 (by decide) n_116)
          have n_148 : g_130.2.2.1 nv = 8 := (Ex.n x_137 r_112 (by decide) n_117)
          have kn_149 : g_130.2.1 h 38 = .int rz := (Sm.v m_136 r_107 (by decide) rfl kn_118)
          have kn_150 : g_130.2.1 h 42 = .ref wt := (Sm.v m_136 r_107 (by decide) rfl kn_119)
          have kn_151 : g_130.2.1 h 39 = .ref na := (Sm.v m_136 r_107 (by decide) rfl kn_120)
          have kn_152 : g_130.2.1 h 40 = .ref pa := (Sm.v m_136 r_107 (by decide) rfl kn_121)
          have kn_153 : g_130.2.1 h 29 = .int z := (Sm.v m_136 r_107 (by decide) rfl kn_122)
          have kn_154 : g_130.2.1 h 28 = .ref t := (Sm.v m_136 r_107 (by decide) rfl kn_123)
          have kn_155 : g_130.2.1 h 41 = .ref nv := (Sm.v m_136 r_107 (by decide) rfl kn_124)
          have kn_156 : g_130.2.2.2.1 wt (6 : Int32).toNatClampNeg = 109 := (Sm.c m_136 r_110 (by decide) rfl kn_125)
          have kn_157 : g_130.2.2.2.1 wt (7 : Int32).toNatClampNeg = 97 := (Sm.c m_136 r_110 (by decide) rfl kn_126)
          have kn_158 : g_130.2.2.2.1 wt (8 : Int32).toNatClampNeg = 120 := (Sm.c m_136 r_110 (by decide) rfl kn_127)
          refine W.eq (g2 := F0 m 140 ls []) rfl ?_
          have qc_159 : (0 : Int32).toInt = 0 := (by decide)
          have qc_160 : (32 : Int32).toInt = 32 := (by decide)
          rcases f_133 with ⟨hx_, -⟩ | ⟨-, ht_s2_131, hs_s2_131, hz_s2_131, hw_s2_131⟩ | ⟨-, ht_s2_131, hs_s2_131, hw_s2_131⟩
          · exact absurd hx_ (by decide)
          · have ew_ : w2_132 = 0 := i_inj (hw_s2_131.trans (by decide))
            subst ew_
            rw [show s2_100.toInt = s0.toInt + 3 by omega] at ht_s2_131
            have hv_ := wo_2 (T := (txb ct z.toInt)) (p := s0.toInt) ⟨by omega, by omega, by omega, by omega⟩
            exact lt_m_readsAct_c0 l D cI cZ cS cR N0 g h s0 rz wt na pa z t ct nv r_h r_na n_na r_pa n_pa r_wt n_wt r_t n_t r_nv n_nv krz ks0 kw0 kwt kna kpa kz kt knv l_rz u_rz l_s0 u_s0 hN_0 hWT_0 l_z u_z hc_0 hB hr   g_130 (2 : Int32) s2_131 H locs ls hT hI hE hM (by decide) (by decide) (by omega) (by omega) kn_149 f_134 f_135 hN hc hWT hU0 hU1 hU2 ⟨by decide, hv_.1.trans (by decide), (by have q_ := hv_.2; omega), by omega⟩ (lv_sub hl [1, 2] rfl)
          · have ew_ : w2_132 = 1 := i_inj (hw_s2_131.trans (by decide))
            subst ew_
            rw [show s2_100.toInt = s0.toInt + 3 by omega] at ht_s2_131
            have hs_ : wsel ((txb ct z.toInt) s0.toInt) ((txb ct z.toInt) (s0.toInt + 1)) = 2 := ws_2 (by omega)
            have hq_ : qj (txb ct z.toInt) s0.toInt 2 = 3 := wp4_3 (by omega) (by omega) (by omega) (by omega)
            have hv_ := wd_f hs_ (Or.inr (fun h_ => absurd (hq_.symm.trans h_) (by decide)))
            exact lt_m_readsAct_c1 l D cI cZ cS cR N0 g h s0 rz wt na pa z t ct nv r_h r_na n_na r_pa n_pa r_wt n_wt r_t n_t r_nv n_nv krz ks0 kw0 kwt kna kpa kz kt knv l_rz u_rz l_s0 u_s0 hN_0 hWT_0 l_z u_z hc_0 hB hr   g_130 (2 : Int32) s2_131 H locs ls hT hI hE hM (by decide) (by decide) (by omega) (by omega) kn_149 f_134 f_135 hN hc hWT hU0 hU1 hU2 (ac_n hv_.1 (by have q_ := hv_.2; rw [hq_] at q_; omega)) (lv_sub hl [1, 2] rfl)
        · have ew_ : w2_101 = 1 := i_inj (hw_s2_100.trans (by decide))
          subst ew_
          rw [show s2_66.toInt = s0.toInt + 2 by omega] at ht_s2_100
          refine lv_iinc (v := 3) (lv' := [(2, .int 3), (1, .int 2), (0, .ref h)]) hx hb dX7_readsAct_128 hl (k := 0) rfl (by decide) (by decide) rfl (fun ls hl => ?_)
          refine lv_goto (tgt := 89) hx hb dX7_readsAct_131 (by decide) ?_
          refine lv_iload_n hx hb dX7_readsAct_89 rfl (lv_at hl 0 rfl) ?_
          refine lv_iconst (v := 3) hx hb dX7_readsAct_90 (by decide) ?_
          refine lv_icmp_ge (tgt := 134) hx hb dX7_readsAct_91 (by decide) (fun c_ => ?_) (fun c_ => absurd (by decide) c_)
          refine lv_aload_n hx hb dX7_readsAct_134 rfl (lv_at hl 2 rfl) ?_
          refine lv_bipush (v := 32) hx hb dX7_readsAct_135 (by decide) ?_
          refine t_callV (n := 1) (As := [.int 32]) (rest := []) (ci := 7) hB hT hl.1 (m_must l D cI cZ cS cR N0 g_99 hI h 32 s2_100 1 z t ct r_107 r_111 n_116 f_103 f_104 kn_122 kn_123 (by have q0 : (1 : Int32).toInt = 1 := (by decide); have q1 : (32 : Int32).toInt = 32 := (by decide); omega) (by have q0 : (1 : Int32).toInt = 1 := (by decide); have q1 : (32 : Int32).toInt = 32 := (by decide); omega) (by have q0 : (1 : Int32).toInt = 1 := (by decide); have q1 : (32 : Int32).toInt = 32 := (by decide); omega) (by have q0 : (1 : Int32).toInt = 1 := (by decide); have q1 : (32 : Int32).toInt = 32 := (by decide); omega) (by have q0 : (1 : Int32).toInt = 1 := (by decide); have q1 : (32 : Int32).toInt = 32 := (by decide); omega) (by have q0 : (1 : Int32).toInt = 1 := (by decide); have q1 : (32 : Int32).toInt = 32 := (by decide); omega) (by have q0 : (1 : Int32).toInt = 1 := (by decide); have q1 : (32 : Int32).toInt = 32 := (by decide); omega) hc) (ro_ci r_107 rfl) rfl k_975 k_65 k_972 k_974 k_24 (by decide +kernel) ⟨(Nat.le_of_ble_eq_true rfl), (Nat.le_of_ble_eq_true rfl)⟩ rfl (Nat.le_of_ble_eq_true rfl) ⟨(Nat.le_of_ble_eq_true rfl), (Nat.le_of_ble_eq_true rfl)⟩ dX7_readsAct_137 (fun v g_161 H locs hp hT => ?_)
          obtain ⟨s2_162, w2_163, rfl, hI, x_168, m_167, f_164, f_165, f_166⟩ := hp
          have hN : PL 8 g_161 na pa := hN.sm m_167 r_108 (by decide) rfl r_109 (by decide) rfl
          have hc : g_161.2.2.2.1 t = ct := (Sm.cf m_167 r_111 (by decide) rfl).trans hc
          have hWT : WT g_161 wt := hWT.sm m_167 r_110 (by decide) rfl
          have hU0 : UP g_161 na (g.2.2.2.1 na) false rz.toNatClampNeg 0 := hU0.sm m_167 r_108 (by decide) rfl
          have hU1 : UP g_161 pa (g.2.2.2.1 pa) false rz.toNatClampNeg 0 := hU1.sm m_167 r_109 (by decide) rfl
          have hU2 : UP g_161 nv (g.2.2.2.1 nv) false rz.toNatClampNeg 0 := hU2.sm m_167 r_112 (by decide) rfl
          have hM : Sm md_m_readsAct g g_161 := hM.tr hE (m_167.mo (fun r k h => mdle_m_readsAct_m_must h))
          have hE : Ex g g_161 := hE.tr x_168
          have r_169 : g_161.1 h = 8 := (Ex.r x_168 r_107 (by decide))
          have r_170 : g_161.1 na = 84 := (Ex.r x_168 r_108 (by decide))
          have r_171 : g_161.1 pa = 85 := (Ex.r x_168 r_109 (by decide))
          have r_172 : g_161.1 wt = 87 := (Ex.r x_168 r_110 (by decide))
          have r_173 : g_161.1 t = 79 := (Ex.r x_168 r_111 (by decide))
          have r_174 : g_161.1 nv = 86 := (Ex.r x_168 r_112 (by decide))
          have n_175 : g_161.2.2.1 na = 8 := (Ex.n x_168 r_108 (by decide) n_113)
          have n_176 : g_161.2.2.1 pa = 8 := (Ex.n x_168 r_109 (by decide) n_114)
          have n_177 : g_161.2.2.1 wt = 24 := (Ex.n x_168 r_110 (by decide) n_115)
          have n_178 : g_161.2.2.1 t = 100 := (Ex.n x_168 r_111 (by decide) n_116)
          have n_179 : g_161.2.2.1 nv = 8 := (Ex.n x_168 r_112 (by decide) n_117)
          have kn_180 : g_161.2.1 h 38 = .int rz := (Sm.v m_167 r_107 (by decide) rfl kn_118)
          have kn_181 : g_161.2.1 h 42 = .ref wt := (Sm.v m_167 r_107 (by decide) rfl kn_119)
          have kn_182 : g_161.2.1 h 39 = .ref na := (Sm.v m_167 r_107 (by decide) rfl kn_120)
          have kn_183 : g_161.2.1 h 40 = .ref pa := (Sm.v m_167 r_107 (by decide) rfl kn_121)
          have kn_184 : g_161.2.1 h 29 = .int z := (Sm.v m_167 r_107 (by decide) rfl kn_122)
          have kn_185 : g_161.2.1 h 28 = .ref t := (Sm.v m_167 r_107 (by decide) rfl kn_123)
          have kn_186 : g_161.2.1 h 41 = .ref nv := (Sm.v m_167 r_107 (by decide) rfl kn_124)
          have kn_187 : g_161.2.2.2.1 wt (6 : Int32).toNatClampNeg = 109 := (Sm.c m_167 r_110 (by decide) rfl kn_125)
          have kn_188 : g_161.2.2.2.1 wt (7 : Int32).toNatClampNeg = 97 := (Sm.c m_167 r_110 (by decide) rfl kn_126)
          have kn_189 : g_161.2.2.2.1 wt (8 : Int32).toNatClampNeg = 120 := (Sm.c m_167 r_110 (by decide) rfl kn_127)
          refine W.eq (g2 := F0 m 140 ls []) rfl ?_
          have qc_190 : (1 : Int32).toInt = 1 := (by decide)
          have qc_191 : (32 : Int32).toInt = 32 := (by decide)
          rcases f_164 with ⟨-, hs_s2_162, hw_s2_162⟩ | ⟨hx_, -⟩ | ⟨hx_, -⟩
          rotate_left
          · exact absurd hx_ (by decide)
          · exact absurd hx_ (by decide)
          have ew_ : w2_163 = 1 := i_inj (hw_s2_162.trans (by decide))
          subst ew_
          have hs_ : wsel ((txb ct z.toInt) s0.toInt) ((txb ct z.toInt) (s0.toInt + 1)) = 2 := ws_2 (by omega)
          have hq_ : qj (txb ct z.toInt) s0.toInt 2 = 2 := wp4_2 (by omega) (by omega) (by omega)
          have hv_ := wd_f hs_ (Or.inr (fun h_ => absurd (hq_.symm.trans h_) (by decide)))
          exact lt_m_readsAct_c1 l D cI cZ cS cR N0 g h s0 rz wt na pa z t ct nv r_h r_na n_na r_pa n_pa r_wt n_wt r_t n_t r_nv n_nv krz ks0 kw0 kwt kna kpa kz kt knv l_rz u_rz l_s0 u_s0 hN_0 hWT_0 l_z u_z hc_0 hB hr   g_161 (2 : Int32) s2_162 H locs ls hT hI hE hM (by decide) (by decide) (by omega) (by omega) kn_180 f_165 f_166 hN hc hWT hU0 hU1 hU2 (ac_n hv_.1 (by have q_ := hv_.2; rw [hq_] at q_; omega)) (lv_sub hl [1, 2] rfl)
      · have ew_ : w2_67 = 1 := i_inj (hw_s2_66.trans (by decide))
        subst ew_
        rw [show s2_33.toInt = s0.toInt + 1 by omega] at ht_s2_66
        refine lv_iinc (v := 2) (lv' := [(2, .int 2), (1, .int 2), (0, .ref h)]) hx hb dX7_readsAct_128 hl (k := 0) rfl (by decide) (by decide) rfl (fun ls hl => ?_)
        refine lv_goto (tgt := 89) hx hb dX7_readsAct_131 (by decide) ?_
        refine lv_iload_n hx hb dX7_readsAct_89 rfl (lv_at hl 0 rfl) ?_
        refine lv_iconst (v := 3) hx hb dX7_readsAct_90 (by decide) ?_
        refine lv_icmp_ge (tgt := 134) hx hb dX7_readsAct_91 (by decide) (fun c_ => absurd c_ (by decide)) (fun c_ => ?_)
        refine lv_aload_n hx hb dX7_readsAct_94 rfl (lv_at hl 2 rfl) ?_
        refine t_get (ci := 7) (v := .int 1) hB hT (ro_ci r_73 rfl) rfl 37 (by decide) k_782 f_70 dX7_readsAct_95 ?_
        refine lv_if_ne (tgt := 134) hx hb dX7_readsAct_98 (by decide) (fun c_ => ?_) (fun c_ => absurd c_ (by decide))
        refine lv_aload_n hx hb dX7_readsAct_134 rfl (lv_at hl 2 rfl) ?_
        refine lv_bipush (v := 32) hx hb dX7_readsAct_135 (by decide) ?_
        refine t_callV (n := 1) (As := [.int 32]) (rest := []) (ci := 7) hB hT hl.1 (m_must l D cI cZ cS cR N0 g_65 hI h 32 s2_66 1 z t ct r_73 r_77 n_82 f_69 f_70 kn_88 kn_89 (by have q0 : (1 : Int32).toInt = 1 := (by decide); have q1 : (32 : Int32).toInt = 32 := (by decide); omega) (by have q0 : (1 : Int32).toInt = 1 := (by decide); have q1 : (32 : Int32).toInt = 32 := (by decide); omega) (by have q0 : (1 : Int32).toInt = 1 := (by decide); have q1 : (32 : Int32).toInt = 32 := (by decide); omega) (by have q0 : (1 : Int32).toInt = 1 := (by decide); have q1 : (32 : Int32).toInt = 32 := (by decide); omega) (by have q0 : (1 : Int32).toInt = 1 := (by decide); have q1 : (32 : Int32).toInt = 32 := (by decide); omega) (by have q0 : (1 : Int32).toInt = 1 := (by decide); have q1 : (32 : Int32).toInt = 32 := (by decide); omega) (by have q0 : (1 : Int32).toInt = 1 := (by decide); have q1 : (32 : Int32).toInt = 32 := (by decide); omega) hc) (ro_ci r_73 rfl) rfl k_975 k_65 k_972 k_974 k_24 (by decide +kernel) ⟨(Nat.le_of_ble_eq_true rfl), (Nat.le_of_ble_eq_true rfl)⟩ rfl (Nat.le_of_ble_eq_true rfl) ⟨(Nat.le_of_ble_eq_true rfl), (Nat.le_of_ble_eq_true rfl)⟩ dX7_readsAct_137 (fun v g_192 H locs hp hT => ?_)
        obtain ⟨s2_193, w2_194, rfl, hI, x_199, m_198, f_195, f_196, f_197⟩ := hp
        have hN : PL 8 g_192 na pa := hN.sm m_198 r_74 (by decide) rfl r_75 (by decide) rfl
        have hc : g_192.2.2.2.1 t = ct := (Sm.cf m_198 r_77 (by decide) rfl).trans hc
        have hWT : WT g_192 wt := hWT.sm m_198 r_76 (by decide) rfl
        have hU0 : UP g_192 na (g.2.2.2.1 na) false rz.toNatClampNeg 0 := hU0.sm m_198 r_74 (by decide) rfl
        have hU1 : UP g_192 pa (g.2.2.2.1 pa) false rz.toNatClampNeg 0 := hU1.sm m_198 r_75 (by decide) rfl
        have hU2 : UP g_192 nv (g.2.2.2.1 nv) false rz.toNatClampNeg 0 := hU2.sm m_198 r_78 (by decide) rfl
        have hM : Sm md_m_readsAct g g_192 := hM.tr hE (m_198.mo (fun r k h => mdle_m_readsAct_m_must h))
        have hE : Ex g g_192 := hE.tr x_199
        have r_200 : g_192.1 h = 8 := (Ex.r x_199 r_73 (by decide))
        have r_201 : g_192.1 na = 84 := (Ex.r x_199 r_74 (by decide))
        have r_202 : g_192.1 pa = 85 := (Ex.r x_199 r_75 (by decide))
        have r_203 : g_192.1 wt = 87 := (Ex.r x_199 r_76 (by decide))
        have r_204 : g_192.1 t = 79 := (Ex.r x_199 r_77 (by decide))
        have r_205 : g_192.1 nv = 86 := (Ex.r x_199 r_78 (by decide))
        have n_206 : g_192.2.2.1 na = 8 := (Ex.n x_199 r_74 (by decide) n_79)
        have n_207 : g_192.2.2.1 pa = 8 := (Ex.n x_199 r_75 (by decide) n_80)
        have n_208 : g_192.2.2.1 wt = 24 := (Ex.n x_199 r_76 (by decide) n_81)
        have n_209 : g_192.2.2.1 t = 100 := (Ex.n x_199 r_77 (by decide) n_82)
        have n_210 : g_192.2.2.1 nv = 8 := (Ex.n x_199 r_78 (by decide) n_83)
        have kn_211 : g_192.2.1 h 38 = .int rz := (Sm.v m_198 r_73 (by decide) rfl kn_84)
        have kn_212 : g_192.2.1 h 42 = .ref wt := (Sm.v m_198 r_73 (by decide) rfl kn_85)
        have kn_213 : g_192.2.1 h 39 = .ref na := (Sm.v m_198 r_73 (by decide) rfl kn_86)
        have kn_214 : g_192.2.1 h 40 = .ref pa := (Sm.v m_198 r_73 (by decide) rfl kn_87)
        have kn_215 : g_192.2.1 h 29 = .int z := (Sm.v m_198 r_73 (by decide) rfl kn_88)
        have kn_216 : g_192.2.1 h 28 = .ref t := (Sm.v m_198 r_73 (by decide) rfl kn_89)
        have kn_217 : g_192.2.1 h 41 = .ref nv := (Sm.v m_198 r_73 (by decide) rfl kn_90)
        have kn_218 : g_192.2.2.2.1 wt (6 : Int32).toNatClampNeg = 109 := (Sm.c m_198 r_76 (by decide) rfl kn_91)
        have kn_219 : g_192.2.2.2.1 wt (7 : Int32).toNatClampNeg = 97 := (Sm.c m_198 r_76 (by decide) rfl kn_92)
        refine W.eq (g2 := F0 m 140 ls []) rfl ?_
        have qc_220 : (1 : Int32).toInt = 1 := (by decide)
        have qc_221 : (32 : Int32).toInt = 32 := (by decide)
        rcases f_195 with ⟨-, hs_s2_193, hw_s2_193⟩ | ⟨hx_, -⟩ | ⟨hx_, -⟩
        rotate_left
        · exact absurd hx_ (by decide)
        · exact absurd hx_ (by decide)
        have ew_ : w2_194 = 1 := i_inj (hw_s2_193.trans (by decide))
        subst ew_
        have hs_ : wsel ((txb ct z.toInt) s0.toInt) ((txb ct z.toInt) (s0.toInt + 1)) = 2 := ws_2 (by omega)
        have hq_ : qj (txb ct z.toInt) s0.toInt 2 = 1 := wp4_1 (by omega) (by omega)
        have hv_ := wd_f hs_ (Or.inr (fun h_ => absurd (hq_.symm.trans h_) (by decide)))
        exact lt_m_readsAct_c1 l D cI cZ cS cR N0 g h s0 rz wt na pa z t ct nv r_h r_na n_na r_pa n_pa r_wt n_wt r_t n_t r_nv n_nv krz ks0 kw0 kwt kna kpa kz kt knv l_rz u_rz l_s0 u_s0 hN_0 hWT_0 l_z u_z hc_0 hB hr   g_192 (2 : Int32) s2_193 H locs ls hT hI hE hM (by decide) (by decide) (by omega) (by omega) kn_211 f_196 f_197 hN hc hWT hU0 hU1 hU2 (ac_n hv_.1 (by have q_ := hv_.2; rw [hq_] at q_; omega)) (lv_sub hl [1, 2] rfl)
    · have ew_ : w2_34 = 1 := i_inj (hw_s2_33.trans (by decide))
      subst ew_
      refine lv_iinc (v := 1) (lv' := [(2, .int 1), (1, .int 2), (0, .ref h)]) hx hb dX7_readsAct_128 hl (k := 0) rfl (by decide) (by decide) rfl (fun ls hl => ?_)
      refine lv_goto (tgt := 89) hx hb dX7_readsAct_131 (by decide) ?_
      refine lv_iload_n hx hb dX7_readsAct_89 rfl (lv_at hl 0 rfl) ?_
      refine lv_iconst (v := 3) hx hb dX7_readsAct_90 (by decide) ?_
      refine lv_icmp_ge (tgt := 134) hx hb dX7_readsAct_91 (by decide) (fun c_ => absurd c_ (by decide)) (fun c_ => ?_)
      refine lv_aload_n hx hb dX7_readsAct_94 rfl (lv_at hl 2 rfl) ?_
      refine t_get (ci := 7) (v := .int 1) hB hT (ro_ci r_40 rfl) rfl 37 (by decide) k_782 f_37 dX7_readsAct_95 ?_
      refine lv_if_ne (tgt := 134) hx hb dX7_readsAct_98 (by decide) (fun c_ => ?_) (fun c_ => absurd c_ (by decide))
      refine lv_aload_n hx hb dX7_readsAct_134 rfl (lv_at hl 2 rfl) ?_
      refine lv_bipush (v := 32) hx hb dX7_readsAct_135 (by decide) ?_
      refine t_callV (n := 1) (As := [.int 32]) (rest := []) (ci := 7) hB hT hl.1 (m_must l D cI cZ cS cR N0 g_32 hI h 32 s2_33 1 z t ct r_40 r_44 n_49 f_36 f_37 kn_55 kn_56 (by have q0 : (1 : Int32).toInt = 1 := (by decide); have q1 : (32 : Int32).toInt = 32 := (by decide); omega) (by have q0 : (1 : Int32).toInt = 1 := (by decide); have q1 : (32 : Int32).toInt = 32 := (by decide); omega) (by have q0 : (1 : Int32).toInt = 1 := (by decide); have q1 : (32 : Int32).toInt = 32 := (by decide); omega) (by have q0 : (1 : Int32).toInt = 1 := (by decide); have q1 : (32 : Int32).toInt = 32 := (by decide); omega) (by have q0 : (1 : Int32).toInt = 1 := (by decide); have q1 : (32 : Int32).toInt = 32 := (by decide); omega) (by have q0 : (1 : Int32).toInt = 1 := (by decide); have q1 : (32 : Int32).toInt = 32 := (by decide); omega) (by have q0 : (1 : Int32).toInt = 1 := (by decide); have q1 : (32 : Int32).toInt = 32 := (by decide); omega) hc) (ro_ci r_40 rfl) rfl k_975 k_65 k_972 k_974 k_24 (by decide +kernel) ⟨(Nat.le_of_ble_eq_true rfl), (Nat.le_of_ble_eq_true rfl)⟩ rfl (Nat.le_of_ble_eq_true rfl) ⟨(Nat.le_of_ble_eq_true rfl), (Nat.le_of_ble_eq_true rfl)⟩ dX7_readsAct_137 (fun v g_222 H locs hp hT => ?_)
      obtain ⟨s2_223, w2_224, rfl, hI, x_229, m_228, f_225, f_226, f_227⟩ := hp
      have hN : PL 8 g_222 na pa := hN.sm m_228 r_41 (by decide) rfl r_42 (by decide) rfl
      have hc : g_222.2.2.2.1 t = ct := (Sm.cf m_228 r_44 (by decide) rfl).trans hc
      have hWT : WT g_222 wt := hWT.sm m_228 r_43 (by decide) rfl
      have hU0 : UP g_222 na (g.2.2.2.1 na) false rz.toNatClampNeg 0 := hU0.sm m_228 r_41 (by decide) rfl
      have hU1 : UP g_222 pa (g.2.2.2.1 pa) false rz.toNatClampNeg 0 := hU1.sm m_228 r_42 (by decide) rfl
      have hU2 : UP g_222 nv (g.2.2.2.1 nv) false rz.toNatClampNeg 0 := hU2.sm m_228 r_45 (by decide) rfl
      have hM : Sm md_m_readsAct g g_222 := hM.tr hE (m_228.mo (fun r k h => mdle_m_readsAct_m_must h))
      have hE : Ex g g_222 := hE.tr x_229
      have r_230 : g_222.1 h = 8 := (Ex.r x_229 r_40 (by decide))
      have r_231 : g_222.1 na = 84 := (Ex.r x_229 r_41 (by decide))
      have r_232 : g_222.1 pa = 85 := (Ex.r x_229 r_42 (by decide))
      have r_233 : g_222.1 wt = 87 := (Ex.r x_229 r_43 (by decide))
      have r_234 : g_222.1 t = 79 := (Ex.r x_229 r_44 (by decide))
      have r_235 : g_222.1 nv = 86 := (Ex.r x_229 r_45 (by decide))
      have n_236 : g_222.2.2.1 na = 8 := (Ex.n x_229 r_41 (by decide) n_46)
      have n_237 : g_222.2.2.1 pa = 8 := (Ex.n x_229 r_42 (by decide) n_47)
      have n_238 : g_222.2.2.1 wt = 24 := (Ex.n x_229 r_43 (by decide) n_48)
      have n_239 : g_222.2.2.1 t = 100 := (Ex.n x_229 r_44 (by decide) n_49)
      have n_240 : g_222.2.2.1 nv = 8 := (Ex.n x_229 r_45 (by decide) n_50)
      have kn_241 : g_222.2.1 h 38 = .int rz := (Sm.v m_228 r_40 (by decide) rfl kn_51)
      have kn_242 : g_222.2.1 h 42 = .ref wt := (Sm.v m_228 r_40 (by decide) rfl kn_52)
      have kn_243 : g_222.2.1 h 39 = .ref na := (Sm.v m_228 r_40 (by decide) rfl kn_53)
      have kn_244 : g_222.2.1 h 40 = .ref pa := (Sm.v m_228 r_40 (by decide) rfl kn_54)
      have kn_245 : g_222.2.1 h 29 = .int z := (Sm.v m_228 r_40 (by decide) rfl kn_55)
      have kn_246 : g_222.2.1 h 28 = .ref t := (Sm.v m_228 r_40 (by decide) rfl kn_56)
      have kn_247 : g_222.2.1 h 41 = .ref nv := (Sm.v m_228 r_40 (by decide) rfl kn_57)
      have kn_248 : g_222.2.2.2.1 wt (6 : Int32).toNatClampNeg = 109 := (Sm.c m_228 r_43 (by decide) rfl kn_58)
      refine W.eq (g2 := F0 m 140 ls []) rfl ?_
      have qc_249 : (1 : Int32).toInt = 1 := (by decide)
      have qc_250 : (32 : Int32).toInt = 32 := (by decide)
      rcases f_225 with ⟨-, hs_s2_223, hw_s2_223⟩ | ⟨hx_, -⟩ | ⟨hx_, -⟩
      rotate_left
      · exact absurd hx_ (by decide)
      · exact absurd hx_ (by decide)
      have ew_ : w2_224 = 1 := i_inj (hw_s2_223.trans (by decide))
      subst ew_
      have hs_ : wsel ((txb ct z.toInt) s0.toInt) ((txb ct z.toInt) (s0.toInt + 1)) = 2 := ws_2 (by omega)
      have hq_ : qj (txb ct z.toInt) s0.toInt 2 = 0 := wp4_0 (by omega)
      have hv_ := wd_f hs_ (Or.inr (fun h_ => absurd (hq_.symm.trans h_) (by decide)))
      exact lt_m_readsAct_c1 l D cI cZ cS cR N0 g h s0 rz wt na pa z t ct nv r_h r_na n_na r_pa n_pa r_wt n_wt r_t n_t r_nv n_nv krz ks0 kw0 kwt kna kpa kz kt knv l_rz u_rz l_s0 u_s0 hN_0 hWT_0 l_z u_z hc_0 hB hr   g_222 (2 : Int32) s2_223 H locs ls hT hI hE hM (by decide) (by decide) (by omega) (by omega) kn_241 f_226 f_227 hN hc hWT hU0 hU1 hU2 (ac_n hv_.1 (by have q_ := hv_.2; rw [hq_] at q_; omega)) (lv_sub hl [1, 2] rfl)
  · have c_27' : r_19.toInt ≠ 109 := i_ne c_27 rfl (by decide)
    refine lv_iinc (v := 3) (lv' := [(1, .int 3), (0, .ref h)]) hx hb dX7_readsAct_59 hl (k := 0) rfl (by decide) (by decide) rfl (fun ls hl => ?_)
    refine lv_goto (tgt := 34) hx hb dX7_readsAct_62 (by decide) ?_
    exact lt_m_readsAct_w3 l D cI cZ cS cR N0 g h s0 rz wt na pa z t ct nv r_h r_na n_na r_pa n_pa r_wt n_wt r_t n_t r_nv n_nv krz ks0 kw0 kwt kna kpa kz kt knv l_rz u_rz l_s0 u_s0 hN_0 hWT_0 l_z u_z hc_0 hB hr   g1 H locs ls hT hI hE hM kp0 kp1 kp2 hN hc hWT hU0 hU1 hU2 (by omega) (lv_sub hl [0, 1] rfl)
set_option maxHeartbeats 4000000 in
set_option maxRecDepth 100000 in
theorem lt_m_readsAct_w1 (l : Launch) (D : va_G) (cI cZ cS cR : ClassId) (N0 : NT) (g : GS) (h : Nat) (s0 : Int32) (rz : Int32) (wt : Nat) (na : Nat) (pa : Nat) (z : Int32) (t : Nat) (ct : Nat → Int32) (nv : Nat) (r_h : g.1 h = 8) (r_na : g.1 na = 84) (n_na : g.2.2.1 na = 8) (r_pa : g.1 pa = 85) (n_pa : g.2.2.1 pa = 8) (r_wt : g.1 wt = 87) (n_wt : g.2.2.1 wt = 24) (r_t : g.1 t = 79) (n_t : g.2.2.1 t = 100) (r_nv : g.1 nv = 86) (n_nv : g.2.2.1 nv = 8) (krz : g.2.1 h 38 = .int rz) (ks0 : g.2.1 h 36 = .int s0) (kw0 : g.2.1 h 37 = .int 0) (kwt : g.2.1 h 42 = .ref wt) (kna : g.2.1 h 39 = .ref na) (kpa : g.2.1 h 40 = .ref pa) (kz : g.2.1 h 29 = .int z) (kt : g.2.1 h 28 = .ref t) (knv : g.2.1 h 41 = .ref nv) (l_rz : 0 ≤ rz.toInt) (u_rz : rz.toInt ≤ 7) (l_s0 : 0 ≤ s0.toInt) (u_s0 : s0.toInt ≤ 100) (hN_0 : PL 8 g na pa) (hWT_0 : WT g wt) (l_z : 0 ≤ z.toInt) (u_z : z.toInt ≤ 100) (hc_0 : g.2.2.2.1 t = ct) {p : Program} {e : Env} {s : State} {m : MethodId} {args : Array Value} {below : List Frame} {meth : Method} {c : Code} (hB : Tz p s m meth c args cX7_readsAct 4 RX7 D cI cZ cS cR N0) (hr : meth.sig.returnType = none)    : ∀ (g1 : GS)   (H : Heap) (locs : List Loc) (ls : Array Slot), Tv D cI cZ cS cR N0 s.heap H locs g1 → Inv g1 → Ex g g1 → Sm md_m_readsAct g g1 → g1.2.1 h 38 = .int rz → g1.2.1 h 36 = .int s0 → g1.2.1 h 37 = .int 0 → (PL 8 g1 na pa) → (g1.2.2.2.1 t = ct) → (WT g1 wt) → (UP g1 na (g.2.2.2.1 na) false rz.toNatClampNeg 0) → (UP g1 pa (g.2.2.2.1 pa) false rz.toNatClampNeg 0) → (UP g1 nv (g.2.2.2.1 nv) false rz.toNatClampNeg 0) → (¬ ((txb ct z.toInt) s0.toInt = 97 ∧ (txb ct z.toInt) (s0.toInt + 1) = 115) ∧ (txb ct z.toInt) s0.toInt ≠ 115) → lv_has ls 4 [(1, .int 1), (0, .ref h)] → W p l e (rmx 2 0 0) s m args below meth c H locs 0 0 (MQ below (tQ D cI cZ cS cR N0 (fun v g' => ∃ (z2 : Int32) (s2 : Int32) (w2 : Int32) (w_ : Int32) (c_ : Int32) (v_ : Int32), v = none ∧ Inv g' ∧ Ex g g' ∧ Sm md_m_readsAct g g' ∧ ((w2 = 1 ∧ ac (txb ct z.toInt) s0.toInt = (false, s2.toInt)) ∨ (w2 = 0 ∧ ac (txb ct z.toInt) s0.toInt = (true, s2.toInt) ∧ s2.toInt ≤ z.toInt ∧ w_.toInt = wdr (txb ct z.toInt) s0.toInt ∧ c_.toInt = acc (txb ct z.toInt) s0.toInt ∧ v_.toInt = acv (txb ct z.toInt) s0.toInt)) ∧ (g'.2.1 h 38 = .int z2) ∧ (z2.toInt = rz.toInt + 1) ∧ (PL 8 g' na pa) ∧ (g'.2.1 h 36 = .int s2) ∧ (g'.2.1 h 37 = .int w2) ∧ (0 ≤ s2.toInt ∧ s2.toInt ≤ 100) ∧ (UP g' na (g.2.2.2.1 na) true rz.toNatClampNeg w_) ∧ (UP g' pa (g.2.2.2.1 pa) true rz.toNatClampNeg c_) ∧ (UP g' nv (g.2.2.2.1 nv) true rz.toNatClampNeg v_))) args s 0 0 (fun q => N0.1 ≤ q)) (F0 m 34 ls []) := by
  have hx := hB.1
  have hb := hB.2.1
  intro g1 H locs ls hT hI hE hM kp0 kp1 kp2 hN hc hWT hU0 hU1 hU2 hS hl
  have r_1 : g1.1 h = 8 := Ex.r hE r_h (by decide)
  have r_2 : g1.1 na = 84 := Ex.r hE r_na (by decide)
  have n_3 : g1.2.2.1 na = 8 := Ex.n hE r_na (by decide) n_na
  have r_4 : g1.1 pa = 85 := Ex.r hE r_pa (by decide)
  have n_5 : g1.2.2.1 pa = 8 := Ex.n hE r_pa (by decide) n_pa
  have r_6 : g1.1 wt = 87 := Ex.r hE r_wt (by decide)
  have n_7 : g1.2.2.1 wt = 24 := Ex.n hE r_wt (by decide) n_wt
  have r_8 : g1.1 t = 79 := Ex.r hE r_t (by decide)
  have n_9 : g1.2.2.1 t = 100 := Ex.n hE r_t (by decide) n_t
  have r_10 : g1.1 nv = 86 := Ex.r hE r_nv (by decide)
  have n_11 : g1.2.2.1 nv = 8 := Ex.n hE r_nv (by decide) n_nv
  have kn_12 : g1.2.1 h 42 = .ref wt := Sm.v hM r_h (by decide) rfl kwt
  have kn_13 : g1.2.1 h 39 = .ref na := Sm.v hM r_h (by decide) rfl kna
  have kn_14 : g1.2.1 h 40 = .ref pa := Sm.v hM r_h (by decide) rfl kpa
  have kn_15 : g1.2.1 h 29 = .int z := Sm.v hM r_h (by decide) rfl kz
  have kn_16 : g1.2.1 h 28 = .ref t := Sm.v hM r_h (by decide) rfl kt
  have kn_17 : g1.2.1 h 41 = .ref nv := Sm.v hM r_h (by decide) rfl knv
  refine lv_iload_n hx hb dX7_readsAct_34 rfl (lv_at hl 0 rfl) ?_
  refine lv_bipush (v := 8) hx hb dX7_readsAct_35 (by decide) ?_
  refine lv_icmp_ge (tgt := 65) hx hb dX7_readsAct_37 (by decide) (fun c_ => absurd c_ (by decide)) (fun c_ => ?_)
  refine lv_aload_n hx hb dX7_readsAct_40 rfl (lv_at hl 1 rfl) ?_
  refine lv_aload_n hx hb dX7_readsAct_41 rfl (lv_at hl 1 rfl) ?_
  refine t_get (ci := 7) (v := .int s0) hB hT (ro_ci r_1 rfl) rfl 36 (by decide) k_781 kp1 dX7_readsAct_42 ?_
  refine t_callV (n := 1) (As := [.int s0]) (rest := []) (ci := 7) hB hT hl.1 (m_byteAt l D cI cZ cS cR N0 g1 hI h s0 z t ct r_1 r_8 n_9 kn_15 kn_16 (by omega) (by omega) (by omega) (by omega) hc) (ro_ci r_1 rfl) rfl k_971 k_65 k_968 k_970 k_23 (by decide +kernel) ⟨(Nat.le_of_ble_eq_true rfl), (Nat.le_of_ble_eq_true rfl)⟩ rfl (Nat.le_of_ble_eq_true rfl) ⟨(Nat.le_of_ble_eq_true rfl), (Nat.le_of_ble_eq_true rfl)⟩ dX7_readsAct_45 (fun v g_18 H locs hp hT => ?_)
  obtain ⟨r_19, rfl, eg, f_20, f_21, f_22⟩ := hp
  rw [eg] at hT
  clear eg
  refine W.eq (g2 := F0 m 48 ls [.int r_19]) rfl ?_
  refine lv_aload_n hx hb dX7_readsAct_48 rfl (lv_at hl 1 rfl) ?_
  refine t_get (ci := 7) (v := .ref wt) hB hT (ro_ci r_1 rfl) rfl 42 (by decide) k_787 kn_12 dX7_readsAct_49 ?_
  refine lv_iconst (v := 3) hx hb dX7_readsAct_52 (by decide) ?_
  refine lv_iload_n hx hb dX7_readsAct_53 rfl (lv_at hl 0 rfl) ?_
  refine lv_imul hx hb dX7_readsAct_54 ?_
  refine x_ev (y := 3) (by decide) ?_
  have kw_25 : g1.2.2.2.1 wt (3 : Int32).toNatClampNeg = 97 := (hWT (3 : Int32).toNatClampNeg (by decide)).trans (by decide)
  have i_u_26 : vp_in (3 : Int32) 24 := (by unfold vp_in; decide)
  refine t_iald (v := (97 : Int32)) hB hT (ro_in r_6 (by decide)) n_7 i_u_26 kw_25 dX7_readsAct_55 ?_
  refine lv_icmp_eq (tgt := 65) hx hb dX7_readsAct_56 (by decide) (fun c_27 => ?_) (fun c_27 => ?_)
  · have c_27' : r_19.toInt = 97 := i_eq c_27 rfl (by decide)
    refine lv_aload_n hx hb dX7_readsAct_65 rfl (lv_at hl 1 rfl) ?_
    refine lv_aload_n hx hb dX7_readsAct_66 rfl (lv_at hl 1 rfl) ?_
    refine t_get (ci := 7) (v := .int 0) hB hT (ro_ci r_1 rfl) rfl 37 (by decide) k_782 kp2 dX7_readsAct_67 ?_
    refine lv_if_ne (tgt := 79) hx hb dX7_readsAct_70 (by decide) (fun c_ => absurd (by decide) c_) (fun c_ => ?_)
    refine lv_iload_n hx hb dX7_readsAct_73 rfl (lv_at hl 0 rfl) ?_
    refine lv_bipush (v := 8) hx hb dX7_readsAct_74 (by decide) ?_
    refine lv_icmp_ne (tgt := 83) hx hb dX7_readsAct_76 (by decide) (fun c_ => ?_) (fun c_ => absurd c_ (by decide))
    refine lv_iconst (v := 0) hx hb dX7_readsAct_83 (by decide) ?_
    refine t_put0 (ci := 7) (v := .int 0) hB hT (ro_ci r_1 rfl) (ro_n0 r_1 (by decide)) rfl 37 (by decide) k_782 (Or.inl rfl) rfl rfl dX7_readsAct_84 (fun H locs hT => ?_)
    have hI : Inv (sF g1 h 37 (.int 0)) := hI.sF (p_8_37 r_1 (⟨_, rfl, by decide, by decide⟩))
    have hM : Sm md_m_readsAct g (sF g1 h 37 (.int 0)) := hM.tr hE (Sm_sF (by rw [r_1]; rfl))
    have hE : Ex g (sF g1 h 37 (.int 0)) := hE
    have hN : PL 8 (sF g1 h 37 (.int 0)) na pa := hN
    have hc : (sF g1 h 37 (.int 0)).2.2.2.1 t = ct := hc
    have hWT : WT (sF g1 h 37 (.int 0)) wt := hWT
    have hU0 : UP (sF g1 h 37 (.int 0)) na (g.2.2.2.1 na) false rz.toNatClampNeg 0 := hU0
    have hU1 : UP (sF g1 h 37 (.int 0)) pa (g.2.2.2.1 pa) false rz.toNatClampNeg 0 := hU1
    have hU2 : UP (sF g1 h 37 (.int 0)) nv (g.2.2.2.1 nv) false rz.toNatClampNeg 0 := hU2
    refine lv_iconst (v := 0) hx hb dX7_readsAct_87 (by decide) ?_
    refine lv_istore_n (lv' := [(2, .int 0), (1, .int 1), (0, .ref h)]) hx hb dX7_readsAct_88 rfl hl (by decide) rfl (fun ls hl => ?_)
    refine lv_iload_n hx hb dX7_readsAct_89 rfl (lv_at hl 0 rfl) ?_
    refine lv_iconst (v := 3) hx hb dX7_readsAct_90 (by decide) ?_
    refine lv_icmp_ge (tgt := 134) hx hb dX7_readsAct_91 (by decide) (fun c_ => absurd c_ (by decide)) (fun c_ => ?_)
    refine lv_aload_n hx hb dX7_readsAct_94 rfl (lv_at hl 2 rfl) ?_
    refine t_get (ci := 7) (v := .int 0) hB hT (ro_ci r_1 rfl) rfl 37 (by decide) k_782 sF_eq dX7_readsAct_95 ?_
    refine lv_if_ne (tgt := 134) hx hb dX7_readsAct_98 (by decide) (fun c_ => absurd (by decide) c_) (fun c_ => ?_)
    refine lv_aload_n hx hb dX7_readsAct_101 rfl (lv_at hl 2 rfl) ?_
    refine t_get (ci := 7) (v := .ref wt) hB hT (ro_ci r_1 rfl) rfl 42 (by decide) k_787 (sF_k kn_12 (by decide)) dX7_readsAct_102 ?_
    refine lv_iconst (v := 3) hx hb dX7_readsAct_105 (by decide) ?_
    refine lv_iload_n hx hb dX7_readsAct_106 rfl (lv_at hl 1 rfl) ?_
    refine lv_imul hx hb dX7_readsAct_107 ?_
    refine x_ev (y := 3) (by decide) ?_
    refine lv_iload_n hx hb dX7_readsAct_108 rfl (lv_at hl 0 rfl) ?_
    refine lv_iadd hx hb dX7_readsAct_109 ?_
    refine x_ev (y := 3) (by decide) ?_
    have kw_28 : (sF g1 h 37 (.int 0)).2.2.2.1 wt (3 : Int32).toNatClampNeg = 97 := (hWT (3 : Int32).toNatClampNeg (by decide)).trans (by decide)
    have i_u_29 : vp_in (3 : Int32) 24 := (by unfold vp_in; decide)
    refine t_iald (v := (97 : Int32)) hB hT (ro_in r_6 (by decide)) n_7 i_u_29 kw_28 dX7_readsAct_110 ?_
    refine lv_if_eq (tgt := 128) hx hb dX7_readsAct_111 (by decide) (fun c_ => absurd c_ (by decide)) (fun c_ => ?_)
    refine lv_aload_n hx hb dX7_readsAct_114 rfl (lv_at hl 2 rfl) ?_
    refine lv_aload_n hx hb dX7_readsAct_115 rfl (lv_at hl 2 rfl) ?_
    refine t_get (ci := 7) (v := .ref wt) hB hT (ro_ci r_1 rfl) rfl 42 (by decide) k_787 (sF_k kn_12 (by decide)) dX7_readsAct_116 ?_
    refine lv_iconst (v := 3) hx hb dX7_readsAct_119 (by decide) ?_
    refine lv_iload_n hx hb dX7_readsAct_120 rfl (lv_at hl 1 rfl) ?_
    refine lv_imul hx hb dX7_readsAct_121 ?_
    refine x_ev (y := 3) (by decide) ?_
    refine lv_iload_n hx hb dX7_readsAct_122 rfl (lv_at hl 0 rfl) ?_
    refine lv_iadd hx hb dX7_readsAct_123 ?_
    refine x_ev (y := 3) (by decide) ?_
    have kw_30 : (sF g1 h 37 (.int 0)).2.2.2.1 wt (3 : Int32).toNatClampNeg = 97 := (hWT (3 : Int32).toNatClampNeg (by decide)).trans (by decide)
    have i_u_31 : vp_in (3 : Int32) 24 := (by unfold vp_in; decide)
    refine t_iald (v := (97 : Int32)) hB hT (ro_in r_6 (by decide)) n_7 i_u_31 kw_30 dX7_readsAct_124 ?_
    refine t_callV (n := 1) (As := [.int 97]) (rest := []) (ci := 7) hB hT hl.1 (m_must l D cI cZ cS cR N0 (sF g1 h 37 (.int 0)) hI h 97 s0 0 z t ct r_1 r_8 n_9 (sF_k kp1 (by decide)) sF_eq (sF_k kn_15 (by decide)) (sF_k kn_16 (by decide)) (by have q0 : (0 : Int32).toInt = 0 := (by decide); have q1 : (97 : Int32).toInt = 97 := (by decide); omega) (by have q0 : (0 : Int32).toInt = 0 := (by decide); have q1 : (97 : Int32).toInt = 97 := (by decide); omega) (by have q0 : (0 : Int32).toInt = 0 := (by decide); have q1 : (97 : Int32).toInt = 97 := (by decide); omega) (by have q0 : (0 : Int32).toInt = 0 := (by decide); have q1 : (97 : Int32).toInt = 97 := (by decide); omega) (by have q0 : (0 : Int32).toInt = 0 := (by decide); have q1 : (97 : Int32).toInt = 97 := (by decide); omega) (by have q0 : (0 : Int32).toInt = 0 := (by decide); have q1 : (97 : Int32).toInt = 97 := (by decide); omega) (by have q0 : (0 : Int32).toInt = 0 := (by decide); have q1 : (97 : Int32).toInt = 97 := (by decide); omega) hc) (ro_ci r_1 rfl) rfl k_975 k_65 k_972 k_974 k_24 (by decide +kernel) ⟨(Nat.le_of_ble_eq_true rfl), (Nat.le_of_ble_eq_true rfl)⟩ rfl (Nat.le_of_ble_eq_true rfl) ⟨(Nat.le_of_ble_eq_true rfl), (Nat.le_of_ble_eq_true rfl)⟩ dX7_readsAct_125 (fun v g_32 H locs hp hT => ?_)
    obtain ⟨s2_33, w2_34, rfl, hI, x_39, m_38, f_35, f_36, f_37⟩ := hp
    have hN : PL 8 g_32 na pa := hN.sm m_38 r_2 (by decide) rfl r_4 (by decide) rfl
    have hc : g_32.2.2.2.1 t = ct := (Sm.cf m_38 r_8 (by decide) rfl).trans hc
    have hWT : WT g_32 wt := hWT.sm m_38 r_6 (by decide) rfl
    have hU0 : UP g_32 na (g.2.2.2.1 na) false rz.toNatClampNeg 0 := hU0.sm m_38 r_2 (by decide) rfl
    have hU1 : UP g_32 pa (g.2.2.2.1 pa) false rz.toNatClampNeg 0 := hU1.sm m_38 r_4 (by decide) rfl
    have hU2 : UP g_32 nv (g.2.2.2.1 nv) false rz.toNatClampNeg 0 := hU2.sm m_38 r_10 (by decide) rfl
    have hM : Sm md_m_readsAct g g_32 := hM.tr hE (m_38.mo (fun r k h => mdle_m_readsAct_m_must h))
    have hE : Ex g g_32 := hE.tr x_39
    have r_40 : g_32.1 h = 8 := (Ex.r x_39 r_1 (by decide))
    have r_41 : g_32.1 na = 84 := (Ex.r x_39 r_2 (by decide))
    have r_42 : g_32.1 pa = 85 := (Ex.r x_39 r_4 (by decide))
    have r_43 : g_32.1 wt = 87 := (Ex.r x_39 r_6 (by decide))
    have r_44 : g_32.1 t = 79 := (Ex.r x_39 r_8 (by decide))
    have r_45 : g_32.1 nv = 86 := (Ex.r x_39 r_10 (by decide))
    have n_46 : g_32.2.2.1 na = 8 := (Ex.n x_39 r_2 (by decide) n_3)
    have n_47 : g_32.2.2.1 pa = 8 := (Ex.n x_39 r_4 (by decide) n_5)
    have n_48 : g_32.2.2.1 wt = 24 := (Ex.n x_39 r_6 (by decide) n_7)
    have n_49 : g_32.2.2.1 t = 100 := (Ex.n x_39 r_8 (by decide) n_9)
    have n_50 : g_32.2.2.1 nv = 8 := (Ex.n x_39 r_10 (by decide) n_11)
    have kn_51 : g_32.2.1 h 38 = .int rz := (Sm.v m_38 r_1 (by decide) rfl (sF_k kp0 (by decide)))
    have kn_52 : g_32.2.1 h 42 = .ref wt := (Sm.v m_38 r_1 (by decide) rfl (sF_k kn_12 (by decide)))
    have kn_53 : g_32.2.1 h 39 = .ref na := (Sm.v m_38 r_1 (by decide) rfl (sF_k kn_13 (by decide)))
    have kn_54 : g_32.2.1 h 40 = .ref pa := (Sm.v m_38 r_1 (by decide) rfl (sF_k kn_14 (by decide)))
    have kn_55 : g_32.2.1 h 29 = .int z := (Sm.v m_38 r_1 (by decide) rfl (sF_k kn_15 (by decide)))
    have kn_56 : g_32.2.1 h 28 = .ref t := (Sm.v m_38 r_1 (by decide) rfl (sF_k kn_16 (by decide)))
    have kn_57 : g_32.2.1 h 41 = .ref nv := (Sm.v m_38 r_1 (by decide) rfl (sF_k kn_17 (by decide)))
    have kn_58 : g_32.2.2.2.1 wt (3 : Int32).toNatClampNeg = 97 := (Sm.c m_38 r_6 (by decide) rfl kw_30)
    refine W.eq (g2 := F0 m 128 ls []) rfl ?_
    have qc_59 : (0 : Int32).toInt = 0 := (by decide)
    have qc_60 : (97 : Int32).toInt = 97 := (by decide)
    rcases f_35 with ⟨hx_, -⟩ | ⟨-, ht_s2_33, hs_s2_33, hz_s2_33, hw_s2_33⟩ | ⟨-, ht_s2_33, hs_s2_33, hw_s2_33⟩
    · exact absurd hx_ (by decide)
    · have ew_ : w2_34 = 0 := i_inj (hw_s2_33.trans (by decide))
      subst ew_
      refine lv_iinc (v := 1) (lv' := [(2, .int 1), (1, .int 1), (0, .ref h)]) hx hb dX7_readsAct_128 hl (k := 0) rfl (by decide) (by decide) rfl (fun ls hl => ?_)
      refine lv_goto (tgt := 89) hx hb dX7_readsAct_131 (by decide) ?_
      refine lv_iload_n hx hb dX7_readsAct_89 rfl (lv_at hl 0 rfl) ?_
      refine lv_iconst (v := 3) hx hb dX7_readsAct_90 (by decide) ?_
      refine lv_icmp_ge (tgt := 134) hx hb dX7_readsAct_91 (by decide) (fun c_ => absurd c_ (by decide)) (fun c_ => ?_)
      refine lv_aload_n hx hb dX7_readsAct_94 rfl (lv_at hl 2 rfl) ?_
      refine t_get (ci := 7) (v := .int 0) hB hT (ro_ci r_40 rfl) rfl 37 (by decide) k_782 f_37 dX7_readsAct_95 ?_
      refine lv_if_ne (tgt := 134) hx hb dX7_readsAct_98 (by decide) (fun c_ => absurd (by decide) c_) (fun c_ => ?_)
      refine lv_aload_n hx hb dX7_readsAct_101 rfl (lv_at hl 2 rfl) ?_
      refine t_get (ci := 7) (v := .ref wt) hB hT (ro_ci r_40 rfl) rfl 42 (by decide) k_787 kn_52 dX7_readsAct_102 ?_
      refine lv_iconst (v := 3) hx hb dX7_readsAct_105 (by decide) ?_
      refine lv_iload_n hx hb dX7_readsAct_106 rfl (lv_at hl 1 rfl) ?_
      refine lv_imul hx hb dX7_readsAct_107 ?_
      refine x_ev (y := 3) (by decide) ?_
      refine lv_iload_n hx hb dX7_readsAct_108 rfl (lv_at hl 0 rfl) ?_
      refine lv_iadd hx hb dX7_readsAct_109 ?_
      refine x_ev (y := 4) (by decide) ?_
      have kw_61 : g_32.2.2.2.1 wt (4 : Int32).toNatClampNeg = 100 := (hWT (4 : Int32).toNatClampNeg (by decide)).trans (by decide)
      have i_u_62 : vp_in (4 : Int32) 24 := (by unfold vp_in; decide)
      refine t_iald (v := (100 : Int32)) hB hT (ro_in r_43 (by decide)) n_48 i_u_62 kw_61 dX7_readsAct_110 ?_
      refine lv_if_eq (tgt := 128) hx hb dX7_readsAct_111 (by decide) (fun c_ => absurd c_ (by decide)) (fun c_ => ?_)
      refine lv_aload_n hx hb dX7_readsAct_114 rfl (lv_at hl 2 rfl) ?_
      refine lv_aload_n hx hb dX7_readsAct_115 rfl (lv_at hl 2 rfl) ?_
      refine t_get (ci := 7) (v := .ref wt) hB hT (ro_ci r_40 rfl) rfl 42 (by decide) k_787 kn_52 dX7_readsAct_116 ?_
      refine lv_iconst (v := 3) hx hb dX7_readsAct_119 (by decide) ?_
      refine lv_iload_n hx hb dX7_readsAct_120 rfl (lv_at hl 1 rfl) ?_
      refine lv_imul hx hb dX7_readsAct_121 ?_
      refine x_ev (y := 3) (by decide) ?_
      refine lv_iload_n hx hb dX7_readsAct_122 rfl (lv_at hl 0 rfl) ?_
      refine lv_iadd hx hb dX7_readsAct_123 ?_
      refine x_ev (y := 4) (by decide) ?_
      have kw_63 : g_32.2.2.2.1 wt (4 : Int32).toNatClampNeg = 100 := (hWT (4 : Int32).toNatClampNeg (by decide)).trans (by decide)
      have i_u_64 : vp_in (4 : Int32) 24 := (by unfold vp_in; decide)
      refine t_iald (v := (100 : Int32)) hB hT (ro_in r_43 (by decide)) n_48 i_u_64 kw_63 dX7_readsAct_124 ?_
      refine t_callV (n := 1) (As := [.int 100]) (rest := []) (ci := 7) hB hT hl.1 (m_must l D cI cZ cS cR N0 g_32 hI h 100 s2_33 0 z t ct r_40 r_44 n_49 f_36 f_37 kn_55 kn_56 (by have q0 : (0 : Int32).toInt = 0 := (by decide); have q1 : (100 : Int32).toInt = 100 := (by decide); omega) (by have q0 : (0 : Int32).toInt = 0 := (by decide); have q1 : (100 : Int32).toInt = 100 := (by decide); omega) (by have q0 : (0 : Int32).toInt = 0 := (by decide); have q1 : (100 : Int32).toInt = 100 := (by decide); omega) (by have q0 : (0 : Int32).toInt = 0 := (by decide); have q1 : (100 : Int32).toInt = 100 := (by decide); omega) (by have q0 : (0 : Int32).toInt = 0 := (by decide); have q1 : (100 : Int32).toInt = 100 := (by decide); omega) (by have q0 : (0 : Int32).toInt = 0 := (by decide); have q1 : (100 : Int32).toInt = 100 := (by decide); omega) (by have q0 : (0 : Int32).toInt = 0 := (by decide); have q1 : (100 : Int32).toInt = 100 := (by decide); omega) hc) (ro_ci r_40 rfl) rfl k_975 k_65 k_972 k_974 k_24 (by decide +kernel) ⟨(Nat.le_of_ble_eq_true rfl), (Nat.le_of_ble_eq_true rfl)⟩ rfl (Nat.le_of_ble_eq_true rfl) ⟨(Nat.le_of_ble_eq_true rfl), (Nat.le_of_ble_eq_true rfl)⟩ dX7_readsAct_125 (fun v g_65 H locs hp hT => ?_)
      obtain ⟨s2_66, w2_67, rfl, hI, x_72, m_71, f_68, f_69, f_70⟩ := hp
      have hN : PL 8 g_65 na pa := hN.sm m_71 r_41 (by decide) rfl r_42 (by decide) rfl
      have hc : g_65.2.2.2.1 t = ct := (Sm.cf m_71 r_44 (by decide) rfl).trans hc
      have hWT : WT g_65 wt := hWT.sm m_71 r_43 (by decide) rfl
      have hU0 : UP g_65 na (g.2.2.2.1 na) false rz.toNatClampNeg 0 := hU0.sm m_71 r_41 (by decide) rfl
      have hU1 : UP g_65 pa (g.2.2.2.1 pa) false rz.toNatClampNeg 0 := hU1.sm m_71 r_42 (by decide) rfl
      have hU2 : UP g_65 nv (g.2.2.2.1 nv) false rz.toNatClampNeg 0 := hU2.sm m_71 r_45 (by decide) rfl
      have hM : Sm md_m_readsAct g g_65 := hM.tr hE (m_71.mo (fun r k h => mdle_m_readsAct_m_must h))
      have hE : Ex g g_65 := hE.tr x_72
      have r_73 : g_65.1 h = 8 := (Ex.r x_72 r_40 (by decide))
      have r_74 : g_65.1 na = 84 := (Ex.r x_72 r_41 (by decide))
      have r_75 : g_65.1 pa = 85 := (Ex.r x_72 r_42 (by decide))
      have r_76 : g_65.1 wt = 87 := (Ex.r x_72 r_43 (by decide))
      have r_77 : g_65.1 t = 79 := (Ex.r x_72 r_44 (by decide))
      have r_78 : g_65.1 nv = 86 := (Ex.r x_72 r_45 (by decide))
      have n_79 : g_65.2.2.1 na = 8 := (Ex.n x_72 r_41 (by decide) n_46)
      have n_80 : g_65.2.2.1 pa = 8 := (Ex.n x_72 r_42 (by decide) n_47)
      have n_81 : g_65.2.2.1 wt = 24 := (Ex.n x_72 r_43 (by decide) n_48)
      have n_82 : g_65.2.2.1 t = 100 := (Ex.n x_72 r_44 (by decide) n_49)
      have n_83 : g_65.2.2.1 nv = 8 := (Ex.n x_72 r_45 (by decide) n_50)
      have kn_84 : g_65.2.1 h 38 = .int rz := (Sm.v m_71 r_40 (by decide) rfl kn_51)
      have kn_85 : g_65.2.1 h 42 = .ref wt := (Sm.v m_71 r_40 (by decide) rfl kn_52)
      have kn_86 : g_65.2.1 h 39 = .ref na := (Sm.v m_71 r_40 (by decide) rfl kn_53)
      have kn_87 : g_65.2.1 h 40 = .ref pa := (Sm.v m_71 r_40 (by decide) rfl kn_54)
      have kn_88 : g_65.2.1 h 29 = .int z := (Sm.v m_71 r_40 (by decide) rfl kn_55)
      have kn_89 : g_65.2.1 h 28 = .ref t := (Sm.v m_71 r_40 (by decide) rfl kn_56)
      have kn_90 : g_65.2.1 h 41 = .ref nv := (Sm.v m_71 r_40 (by decide) rfl kn_57)
      have kn_91 : g_65.2.2.2.1 wt (3 : Int32).toNatClampNeg = 97 := (Sm.c m_71 r_43 (by decide) rfl kn_58)
      have kn_92 : g_65.2.2.2.1 wt (4 : Int32).toNatClampNeg = 100 := (Sm.c m_71 r_43 (by decide) rfl kw_63)
      refine W.eq (g2 := F0 m 128 ls []) rfl ?_
      have qc_93 : (0 : Int32).toInt = 0 := (by decide)
      have qc_94 : (100 : Int32).toInt = 100 := (by decide)
      rcases f_68 with ⟨hx_, -⟩ | ⟨-, ht_s2_66, hs_s2_66, hz_s2_66, hw_s2_66⟩ | ⟨-, ht_s2_66, hs_s2_66, hw_s2_66⟩
      · exact absurd hx_ (by decide)
      · have ew_ : w2_67 = 0 := i_inj (hw_s2_66.trans (by decide))
        subst ew_
        rw [show s2_33.toInt = s0.toInt + 1 by omega] at ht_s2_66
        refine lv_iinc (v := 2) (lv' := [(2, .int 2), (1, .int 1), (0, .ref h)]) hx hb dX7_readsAct_128 hl (k := 0) rfl (by decide) (by decide) rfl (fun ls hl => ?_)
        refine lv_goto (tgt := 89) hx hb dX7_readsAct_131 (by decide) ?_
        refine lv_iload_n hx hb dX7_readsAct_89 rfl (lv_at hl 0 rfl) ?_
        refine lv_iconst (v := 3) hx hb dX7_readsAct_90 (by decide) ?_
        refine lv_icmp_ge (tgt := 134) hx hb dX7_readsAct_91 (by decide) (fun c_ => absurd c_ (by decide)) (fun c_ => ?_)
        refine lv_aload_n hx hb dX7_readsAct_94 rfl (lv_at hl 2 rfl) ?_
        refine t_get (ci := 7) (v := .int 0) hB hT (ro_ci r_73 rfl) rfl 37 (by decide) k_782 f_70 dX7_readsAct_95 ?_
        refine lv_if_ne (tgt := 134) hx hb dX7_readsAct_98 (by decide) (fun c_ => absurd (by decide) c_) (fun c_ => ?_)
        refine lv_aload_n hx hb dX7_readsAct_101 rfl (lv_at hl 2 rfl) ?_
        refine t_get (ci := 7) (v := .ref wt) hB hT (ro_ci r_73 rfl) rfl 42 (by decide) k_787 kn_85 dX7_readsAct_102 ?_
        refine lv_iconst (v := 3) hx hb dX7_readsAct_105 (by decide) ?_
        refine lv_iload_n hx hb dX7_readsAct_106 rfl (lv_at hl 1 rfl) ?_
        refine lv_imul hx hb dX7_readsAct_107 ?_
        refine x_ev (y := 3) (by decide) ?_
        refine lv_iload_n hx hb dX7_readsAct_108 rfl (lv_at hl 0 rfl) ?_
        refine lv_iadd hx hb dX7_readsAct_109 ?_
        refine x_ev (y := 5) (by decide) ?_
        have kw_95 : g_65.2.2.2.1 wt (5 : Int32).toNatClampNeg = 100 := (hWT (5 : Int32).toNatClampNeg (by decide)).trans (by decide)
        have i_u_96 : vp_in (5 : Int32) 24 := (by unfold vp_in; decide)
        refine t_iald (v := (100 : Int32)) hB hT (ro_in r_76 (by decide)) n_81 i_u_96 kw_95 dX7_readsAct_110 ?_
        refine lv_if_eq (tgt := 128) hx hb dX7_readsAct_111 (by decide) (fun c_ => absurd c_ (by decide)) (fun c_ => ?_)
        refine lv_aload_n hx hb dX7_readsAct_114 rfl (lv_at hl 2 rfl) ?_
        refine lv_aload_n hx hb dX7_readsAct_115 rfl (lv_at hl 2 rfl) ?_
        refine t_get (ci := 7) (v := .ref wt) hB hT (ro_ci r_73 rfl) rfl 42 (by decide) k_787 kn_85 dX7_readsAct_116 ?_
        refine lv_iconst (v := 3) hx hb dX7_readsAct_119 (by decide) ?_
        refine lv_iload_n hx hb dX7_readsAct_120 rfl (lv_at hl 1 rfl) ?_
        refine lv_imul hx hb dX7_readsAct_121 ?_
        refine x_ev (y := 3) (by decide) ?_
        refine lv_iload_n hx hb dX7_readsAct_122 rfl (lv_at hl 0 rfl) ?_
        refine lv_iadd hx hb dX7_readsAct_123 ?_
        refine x_ev (y := 5) (by decide) ?_
        have kw_97 : g_65.2.2.2.1 wt (5 : Int32).toNatClampNeg = 100 := (hWT (5 : Int32).toNatClampNeg (by decide)).trans (by decide)
        have i_u_98 : vp_in (5 : Int32) 24 := (by unfold vp_in; decide)
        refine t_iald (v := (100 : Int32)) hB hT (ro_in r_76 (by decide)) n_81 i_u_98 kw_97 dX7_readsAct_124 ?_
        refine t_callV (n := 1) (As := [.int 100]) (rest := []) (ci := 7) hB hT hl.1 (m_must l D cI cZ cS cR N0 g_65 hI h 100 s2_66 0 z t ct r_73 r_77 n_82 f_69 f_70 kn_88 kn_89 (by have q0 : (0 : Int32).toInt = 0 := (by decide); have q1 : (100 : Int32).toInt = 100 := (by decide); omega) (by have q0 : (0 : Int32).toInt = 0 := (by decide); have q1 : (100 : Int32).toInt = 100 := (by decide); omega) (by have q0 : (0 : Int32).toInt = 0 := (by decide); have q1 : (100 : Int32).toInt = 100 := (by decide); omega) (by have q0 : (0 : Int32).toInt = 0 := (by decide); have q1 : (100 : Int32).toInt = 100 := (by decide); omega) (by have q0 : (0 : Int32).toInt = 0 := (by decide); have q1 : (100 : Int32).toInt = 100 := (by decide); omega) (by have q0 : (0 : Int32).toInt = 0 := (by decide); have q1 : (100 : Int32).toInt = 100 := (by decide); omega) (by have q0 : (0 : Int32).toInt = 0 := (by decide); have q1 : (100 : Int32).toInt = 100 := (by decide); omega) hc) (ro_ci r_73 rfl) rfl k_975 k_65 k_972 k_974 k_24 (by decide +kernel) ⟨(Nat.le_of_ble_eq_true rfl), (Nat.le_of_ble_eq_true rfl)⟩ rfl (Nat.le_of_ble_eq_true rfl) ⟨(Nat.le_of_ble_eq_true rfl), (Nat.le_of_ble_eq_true rfl)⟩ dX7_readsAct_125 (fun v g_99 H locs hp hT => ?_)
        obtain ⟨s2_100, w2_101, rfl, hI, x_106, m_105, f_102, f_103, f_104⟩ := hp
        have hN : PL 8 g_99 na pa := hN.sm m_105 r_74 (by decide) rfl r_75 (by decide) rfl
        have hc : g_99.2.2.2.1 t = ct := (Sm.cf m_105 r_77 (by decide) rfl).trans hc
        have hWT : WT g_99 wt := hWT.sm m_105 r_76 (by decide) rfl
        have hU0 : UP g_99 na (g.2.2.2.1 na) false rz.toNatClampNeg 0 := hU0.sm m_105 r_74 (by decide) rfl
        have hU1 : UP g_99 pa (g.2.2.2.1 pa) false rz.toNatClampNeg 0 := hU1.sm m_105 r_75 (by decide) rfl
        have hU2 : UP g_99 nv (g.2.2.2.1 nv) false rz.toNatClampNeg 0 := hU2.sm m_105 r_78 (by decide) rfl
        have hM : Sm md_m_readsAct g g_99 := hM.tr hE (m_105.mo (fun r k h => mdle_m_readsAct_m_must h))
        have hE : Ex g g_99 := hE.tr x_106
        have r_107 : g_99.1 h = 8 := (Ex.r x_106 r_73 (by decide))
        have r_108 : g_99.1 na = 84 := (Ex.r x_106 r_74 (by decide))
        have r_109 : g_99.1 pa = 85 := (Ex.r x_106 r_75 (by decide))
        have r_110 : g_99.1 wt = 87 := (Ex.r x_106 r_76 (by decide))
        have r_111 : g_99.1 t = 79 := (Ex.r x_106 r_77 (by decide))
        have r_112 : g_99.1 nv = 86 := (Ex.r x_106 r_78 (by decide))
        have n_113 : g_99.2.2.1 na = 8 := (Ex.n x_106 r_74 (by decide) n_79)
        have n_114 : g_99.2.2.1 pa = 8 := (Ex.n x_106 r_75 (by decide) n_80)
        have n_115 : g_99.2.2.1 wt = 24 := (Ex.n x_106 r_76 (by decide) n_81)
        have n_116 : g_99.2.2.1 t = 100 := (Ex.n x_106 r_77 (by decide) n_82)
        have n_117 : g_99.2.2.1 nv = 8 := (Ex.n x_106 r_78 (by decide) n_83)
        have kn_118 : g_99.2.1 h 38 = .int rz := (Sm.v m_105 r_73 (by decide) rfl kn_84)
        have kn_119 : g_99.2.1 h 42 = .ref wt := (Sm.v m_105 r_73 (by decide) rfl kn_85)
        have kn_120 : g_99.2.1 h 39 = .ref na := (Sm.v m_105 r_73 (by decide) rfl kn_86)
        have kn_121 : g_99.2.1 h 40 = .ref pa := (Sm.v m_105 r_73 (by decide) rfl kn_87)
        have kn_122 : g_99.2.1 h 29 = .int z := (Sm.v m_105 r_73 (by decide) rfl kn_88)
        have kn_123 : g_99.2.1 h 28 = .ref t := (Sm.v m_105 r_73 (by decide) rfl kn_89)
        have kn_124 : g_99.2.1 h 41 = .ref nv := (Sm.v m_105 r_73 (by decide) rfl kn_90)
        have kn_125 : g_99.2.2.2.1 wt (3 : Int32).toNatClampNeg = 97 := (Sm.c m_105 r_76 (by decide) rfl kn_91)
        have kn_126 : g_99.2.2.2.1 wt (4 : Int32).toNatClampNeg = 100 := (Sm.c m_105 r_76 (by decide) rfl kn_92)
        have kn_127 : g_99.2.2.2.1 wt (5 : Int32).toNatClampNeg = 100 := (Sm.c m_105 r_76 (by decide) rfl kw_97)
        refine W.eq (g2 := F0 m 128 ls []) rfl ?_
        have qc_128 : (0 : Int32).toInt = 0 := (by decide)
        have qc_129 : (100 : Int32).toInt = 100 := (by decide)
        rcases f_102 with ⟨hx_, -⟩ | ⟨-, ht_s2_100, hs_s2_100, hz_s2_100, hw_s2_100⟩ | ⟨-, ht_s2_100, hs_s2_100, hw_s2_100⟩
        · exact absurd hx_ (by decide)
        · have ew_ : w2_101 = 0 := i_inj (hw_s2_100.trans (by decide))
          subst ew_
          rw [show s2_66.toInt = s0.toInt + 2 by omega] at ht_s2_100
          refine lv_iinc (v := 3) (lv' := [(2, .int 3), (1, .int 1), (0, .ref h)]) hx hb dX7_readsAct_128 hl (k := 0) rfl (by decide) (by decide) rfl (fun ls hl => ?_)
          refine lv_goto (tgt := 89) hx hb dX7_readsAct_131 (by decide) ?_
          refine lv_iload_n hx hb dX7_readsAct_89 rfl (lv_at hl 0 rfl) ?_
          refine lv_iconst (v := 3) hx hb dX7_readsAct_90 (by decide) ?_
          refine lv_icmp_ge (tgt := 134) hx hb dX7_readsAct_91 (by decide) (fun c_ => ?_) (fun c_ => absurd (by decide) c_)
          refine lv_aload_n hx hb dX7_readsAct_134 rfl (lv_at hl 2 rfl) ?_
          refine lv_bipush (v := 32) hx hb dX7_readsAct_135 (by decide) ?_
          refine t_callV (n := 1) (As := [.int 32]) (rest := []) (ci := 7) hB hT hl.1 (m_must l D cI cZ cS cR N0 g_99 hI h 32 s2_100 0 z t ct r_107 r_111 n_116 f_103 f_104 kn_122 kn_123 (by have q0 : (0 : Int32).toInt = 0 := (by decide); have q1 : (32 : Int32).toInt = 32 := (by decide); omega) (by have q0 : (0 : Int32).toInt = 0 := (by decide); have q1 : (32 : Int32).toInt = 32 := (by decide); omega) (by have q0 : (0 : Int32).toInt = 0 := (by decide); have q1 : (32 : Int32).toInt = 32 := (by decide); omega) (by have q0 : (0 : Int32).toInt = 0 := (by decide); have q1 : (32 : Int32).toInt = 32 := (by decide); omega) (by have q0 : (0 : Int32).toInt = 0 := (by decide); have q1 : (32 : Int32).toInt = 32 := (by decide); omega) (by have q0 : (0 : Int32).toInt = 0 := (by decide); have q1 : (32 : Int32).toInt = 32 := (by decide); omega) (by have q0 : (0 : Int32).toInt = 0 := (by decide); have q1 : (32 : Int32).toInt = 32 := (by decide); omega) hc) (ro_ci r_107 rfl) rfl k_975 k_65 k_972 k_974 k_24 (by decide +kernel) ⟨(Nat.le_of_ble_eq_true rfl), (Nat.le_of_ble_eq_true rfl)⟩ rfl (Nat.le_of_ble_eq_true rfl) ⟨(Nat.le_of_ble_eq_true rfl), (Nat.le_of_ble_eq_true rfl)⟩ dX7_readsAct_137 (fun v g_130 H locs hp hT => ?_)
          obtain ⟨s2_131, w2_132, rfl, hI, x_137, m_136, f_133, f_134, f_135⟩ := hp
          have hN : PL 8 g_130 na pa := hN.sm m_136 r_108 (by decide) rfl r_109 (by decide) rfl
          have hc : g_130.2.2.2.1 t = ct := (Sm.cf m_136 r_111 (by decide) rfl).trans hc
          have hWT : WT g_130 wt := hWT.sm m_136 r_110 (by decide) rfl
          have hU0 : UP g_130 na (g.2.2.2.1 na) false rz.toNatClampNeg 0 := hU0.sm m_136 r_108 (by decide) rfl
          have hU1 : UP g_130 pa (g.2.2.2.1 pa) false rz.toNatClampNeg 0 := hU1.sm m_136 r_109 (by decide) rfl
          have hU2 : UP g_130 nv (g.2.2.2.1 nv) false rz.toNatClampNeg 0 := hU2.sm m_136 r_112 (by decide) rfl
          have hM : Sm md_m_readsAct g g_130 := hM.tr hE (m_136.mo (fun r k h => mdle_m_readsAct_m_must h))
          have hE : Ex g g_130 := hE.tr x_137
          have r_138 : g_130.1 h = 8 := (Ex.r x_137 r_107 (by decide))
          have r_139 : g_130.1 na = 84 := (Ex.r x_137 r_108 (by decide))
          have r_140 : g_130.1 pa = 85 := (Ex.r x_137 r_109 (by decide))
          have r_141 : g_130.1 wt = 87 := (Ex.r x_137 r_110 (by decide))
          have r_142 : g_130.1 t = 79 := (Ex.r x_137 r_111 (by decide))
          have r_143 : g_130.1 nv = 86 := (Ex.r x_137 r_112 (by decide))
          have n_144 : g_130.2.2.1 na = 8 := (Ex.n x_137 r_108 (by decide) n_113)
          have n_145 : g_130.2.2.1 pa = 8 := (Ex.n x_137 r_109 (by decide) n_114)
          have n_146 : g_130.2.2.1 wt = 24 := (Ex.n x_137 r_110 (by decide) n_115)
          have n_147 : g_130.2.2.1 t = 100 := (Ex.n x_137 r_111 (by decide) n_116)
          have n_148 : g_130.2.2.1 nv = 8 := (Ex.n x_137 r_112 (by decide) n_117)
          have kn_149 : g_130.2.1 h 38 = .int rz := (Sm.v m_136 r_107 (by decide) rfl kn_118)
          have kn_150 : g_130.2.1 h 42 = .ref wt := (Sm.v m_136 r_107 (by decide) rfl kn_119)
          have kn_151 : g_130.2.1 h 39 = .ref na := (Sm.v m_136 r_107 (by decide) rfl kn_120)
          have kn_152 : g_130.2.1 h 40 = .ref pa := (Sm.v m_136 r_107 (by decide) rfl kn_121)
          have kn_153 : g_130.2.1 h 29 = .int z := (Sm.v m_136 r_107 (by decide) rfl kn_122)
          have kn_154 : g_130.2.1 h 28 = .ref t := (Sm.v m_136 r_107 (by decide) rfl kn_123)
          have kn_155 : g_130.2.1 h 41 = .ref nv := (Sm.v m_136 r_107 (by decide) rfl kn_124)
          have kn_156 : g_130.2.2.2.1 wt (3 : Int32).toNatClampNeg = 97 := (Sm.c m_136 r_110 (by decide) rfl kn_125)
          have kn_157 : g_130.2.2.2.1 wt (4 : Int32).toNatClampNeg = 100 := (Sm.c m_136 r_110 (by decide) rfl kn_126)
          have kn_158 : g_130.2.2.2.1 wt (5 : Int32).toNatClampNeg = 100 := (Sm.c m_136 r_110 (by decide) rfl kn_127)
          refine W.eq (g2 := F0 m 140 ls []) rfl ?_
          have qc_159 : (0 : Int32).toInt = 0 := (by decide)
          have qc_160 : (32 : Int32).toInt = 32 := (by decide)
          rcases f_133 with ⟨hx_, -⟩ | ⟨-, ht_s2_131, hs_s2_131, hz_s2_131, hw_s2_131⟩ | ⟨-, ht_s2_131, hs_s2_131, hw_s2_131⟩
          · exact absurd hx_ (by decide)
          · have ew_ : w2_132 = 0 := i_inj (hw_s2_131.trans (by decide))
            subst ew_
            rw [show s2_100.toInt = s0.toInt + 3 by omega] at ht_s2_131
            have hv_ := wo_1 (T := (txb ct z.toInt)) (p := s0.toInt) ⟨by omega, by omega, by omega, by omega⟩
            exact lt_m_readsAct_c0 l D cI cZ cS cR N0 g h s0 rz wt na pa z t ct nv r_h r_na n_na r_pa n_pa r_wt n_wt r_t n_t r_nv n_nv krz ks0 kw0 kwt kna kpa kz kt knv l_rz u_rz l_s0 u_s0 hN_0 hWT_0 l_z u_z hc_0 hB hr   g_130 (1 : Int32) s2_131 H locs ls hT hI hE hM (by decide) (by decide) (by omega) (by omega) kn_149 f_134 f_135 hN hc hWT hU0 hU1 hU2 ⟨by decide, hv_.1.trans (by decide), (by have q_ := hv_.2; omega), by omega⟩ (lv_sub hl [1, 2] rfl)
          · have ew_ : w2_132 = 1 := i_inj (hw_s2_131.trans (by decide))
            subst ew_
            rw [show s2_100.toInt = s0.toInt + 3 by omega] at ht_s2_131
            have hs_ : wsel ((txb ct z.toInt) s0.toInt) ((txb ct z.toInt) (s0.toInt + 1)) = 1 := ws_1 (by omega) (by omega)
            have hq_ : qj (txb ct z.toInt) s0.toInt 1 = 3 := wp4_3 (by omega) (by omega) (by omega) (by omega)
            have hv_ := wd_f hs_ (Or.inr (fun h_ => absurd (hq_.symm.trans h_) (by decide)))
            exact lt_m_readsAct_c1 l D cI cZ cS cR N0 g h s0 rz wt na pa z t ct nv r_h r_na n_na r_pa n_pa r_wt n_wt r_t n_t r_nv n_nv krz ks0 kw0 kwt kna kpa kz kt knv l_rz u_rz l_s0 u_s0 hN_0 hWT_0 l_z u_z hc_0 hB hr   g_130 (1 : Int32) s2_131 H locs ls hT hI hE hM (by decide) (by decide) (by omega) (by omega) kn_149 f_134 f_135 hN hc hWT hU0 hU1 hU2 (ac_n hv_.1 (by have q_ := hv_.2; rw [hq_] at q_; omega)) (lv_sub hl [1, 2] rfl)
        · have ew_ : w2_101 = 1 := i_inj (hw_s2_100.trans (by decide))
          subst ew_
          rw [show s2_66.toInt = s0.toInt + 2 by omega] at ht_s2_100
          refine lv_iinc (v := 3) (lv' := [(2, .int 3), (1, .int 1), (0, .ref h)]) hx hb dX7_readsAct_128 hl (k := 0) rfl (by decide) (by decide) rfl (fun ls hl => ?_)
          refine lv_goto (tgt := 89) hx hb dX7_readsAct_131 (by decide) ?_
          refine lv_iload_n hx hb dX7_readsAct_89 rfl (lv_at hl 0 rfl) ?_
          refine lv_iconst (v := 3) hx hb dX7_readsAct_90 (by decide) ?_
          refine lv_icmp_ge (tgt := 134) hx hb dX7_readsAct_91 (by decide) (fun c_ => ?_) (fun c_ => absurd (by decide) c_)
          refine lv_aload_n hx hb dX7_readsAct_134 rfl (lv_at hl 2 rfl) ?_
          refine lv_bipush (v := 32) hx hb dX7_readsAct_135 (by decide) ?_
          refine t_callV (n := 1) (As := [.int 32]) (rest := []) (ci := 7) hB hT hl.1 (m_must l D cI cZ cS cR N0 g_99 hI h 32 s2_100 1 z t ct r_107 r_111 n_116 f_103 f_104 kn_122 kn_123 (by have q0 : (1 : Int32).toInt = 1 := (by decide); have q1 : (32 : Int32).toInt = 32 := (by decide); omega) (by have q0 : (1 : Int32).toInt = 1 := (by decide); have q1 : (32 : Int32).toInt = 32 := (by decide); omega) (by have q0 : (1 : Int32).toInt = 1 := (by decide); have q1 : (32 : Int32).toInt = 32 := (by decide); omega) (by have q0 : (1 : Int32).toInt = 1 := (by decide); have q1 : (32 : Int32).toInt = 32 := (by decide); omega) (by have q0 : (1 : Int32).toInt = 1 := (by decide); have q1 : (32 : Int32).toInt = 32 := (by decide); omega) (by have q0 : (1 : Int32).toInt = 1 := (by decide); have q1 : (32 : Int32).toInt = 32 := (by decide); omega) (by have q0 : (1 : Int32).toInt = 1 := (by decide); have q1 : (32 : Int32).toInt = 32 := (by decide); omega) hc) (ro_ci r_107 rfl) rfl k_975 k_65 k_972 k_974 k_24 (by decide +kernel) ⟨(Nat.le_of_ble_eq_true rfl), (Nat.le_of_ble_eq_true rfl)⟩ rfl (Nat.le_of_ble_eq_true rfl) ⟨(Nat.le_of_ble_eq_true rfl), (Nat.le_of_ble_eq_true rfl)⟩ dX7_readsAct_137 (fun v g_161 H locs hp hT => ?_)
          obtain ⟨s2_162, w2_163, rfl, hI, x_168, m_167, f_164, f_165, f_166⟩ := hp
          have hN : PL 8 g_161 na pa := hN.sm m_167 r_108 (by decide) rfl r_109 (by decide) rfl
          have hc : g_161.2.2.2.1 t = ct := (Sm.cf m_167 r_111 (by decide) rfl).trans hc
          have hWT : WT g_161 wt := hWT.sm m_167 r_110 (by decide) rfl
          have hU0 : UP g_161 na (g.2.2.2.1 na) false rz.toNatClampNeg 0 := hU0.sm m_167 r_108 (by decide) rfl
          have hU1 : UP g_161 pa (g.2.2.2.1 pa) false rz.toNatClampNeg 0 := hU1.sm m_167 r_109 (by decide) rfl
          have hU2 : UP g_161 nv (g.2.2.2.1 nv) false rz.toNatClampNeg 0 := hU2.sm m_167 r_112 (by decide) rfl
          have hM : Sm md_m_readsAct g g_161 := hM.tr hE (m_167.mo (fun r k h => mdle_m_readsAct_m_must h))
          have hE : Ex g g_161 := hE.tr x_168
          have r_169 : g_161.1 h = 8 := (Ex.r x_168 r_107 (by decide))
          have r_170 : g_161.1 na = 84 := (Ex.r x_168 r_108 (by decide))
          have r_171 : g_161.1 pa = 85 := (Ex.r x_168 r_109 (by decide))
          have r_172 : g_161.1 wt = 87 := (Ex.r x_168 r_110 (by decide))
          have r_173 : g_161.1 t = 79 := (Ex.r x_168 r_111 (by decide))
          have r_174 : g_161.1 nv = 86 := (Ex.r x_168 r_112 (by decide))
          have n_175 : g_161.2.2.1 na = 8 := (Ex.n x_168 r_108 (by decide) n_113)
          have n_176 : g_161.2.2.1 pa = 8 := (Ex.n x_168 r_109 (by decide) n_114)
          have n_177 : g_161.2.2.1 wt = 24 := (Ex.n x_168 r_110 (by decide) n_115)
          have n_178 : g_161.2.2.1 t = 100 := (Ex.n x_168 r_111 (by decide) n_116)
          have n_179 : g_161.2.2.1 nv = 8 := (Ex.n x_168 r_112 (by decide) n_117)
          have kn_180 : g_161.2.1 h 38 = .int rz := (Sm.v m_167 r_107 (by decide) rfl kn_118)
          have kn_181 : g_161.2.1 h 42 = .ref wt := (Sm.v m_167 r_107 (by decide) rfl kn_119)
          have kn_182 : g_161.2.1 h 39 = .ref na := (Sm.v m_167 r_107 (by decide) rfl kn_120)
          have kn_183 : g_161.2.1 h 40 = .ref pa := (Sm.v m_167 r_107 (by decide) rfl kn_121)
          have kn_184 : g_161.2.1 h 29 = .int z := (Sm.v m_167 r_107 (by decide) rfl kn_122)
          have kn_185 : g_161.2.1 h 28 = .ref t := (Sm.v m_167 r_107 (by decide) rfl kn_123)
          have kn_186 : g_161.2.1 h 41 = .ref nv := (Sm.v m_167 r_107 (by decide) rfl kn_124)
          have kn_187 : g_161.2.2.2.1 wt (3 : Int32).toNatClampNeg = 97 := (Sm.c m_167 r_110 (by decide) rfl kn_125)
          have kn_188 : g_161.2.2.2.1 wt (4 : Int32).toNatClampNeg = 100 := (Sm.c m_167 r_110 (by decide) rfl kn_126)
          have kn_189 : g_161.2.2.2.1 wt (5 : Int32).toNatClampNeg = 100 := (Sm.c m_167 r_110 (by decide) rfl kn_127)
          refine W.eq (g2 := F0 m 140 ls []) rfl ?_
          have qc_190 : (1 : Int32).toInt = 1 := (by decide)
          have qc_191 : (32 : Int32).toInt = 32 := (by decide)
          rcases f_164 with ⟨-, hs_s2_162, hw_s2_162⟩ | ⟨hx_, -⟩ | ⟨hx_, -⟩
          rotate_left
          · exact absurd hx_ (by decide)
          · exact absurd hx_ (by decide)
          have ew_ : w2_163 = 1 := i_inj (hw_s2_162.trans (by decide))
          subst ew_
          have hs_ : wsel ((txb ct z.toInt) s0.toInt) ((txb ct z.toInt) (s0.toInt + 1)) = 1 := ws_1 (by omega) (by omega)
          have hq_ : qj (txb ct z.toInt) s0.toInt 1 = 2 := wp4_2 (by omega) (by omega) (by omega)
          have hv_ := wd_f hs_ (Or.inr (fun h_ => absurd (hq_.symm.trans h_) (by decide)))
          exact lt_m_readsAct_c1 l D cI cZ cS cR N0 g h s0 rz wt na pa z t ct nv r_h r_na n_na r_pa n_pa r_wt n_wt r_t n_t r_nv n_nv krz ks0 kw0 kwt kna kpa kz kt knv l_rz u_rz l_s0 u_s0 hN_0 hWT_0 l_z u_z hc_0 hB hr   g_161 (1 : Int32) s2_162 H locs ls hT hI hE hM (by decide) (by decide) (by omega) (by omega) kn_180 f_165 f_166 hN hc hWT hU0 hU1 hU2 (ac_n hv_.1 (by have q_ := hv_.2; rw [hq_] at q_; omega)) (lv_sub hl [1, 2] rfl)
      · have ew_ : w2_67 = 1 := i_inj (hw_s2_66.trans (by decide))
        subst ew_
        rw [show s2_33.toInt = s0.toInt + 1 by omega] at ht_s2_66
        refine lv_iinc (v := 2) (lv' := [(2, .int 2), (1, .int 1), (0, .ref h)]) hx hb dX7_readsAct_128 hl (k := 0) rfl (by decide) (by decide) rfl (fun ls hl => ?_)
        refine lv_goto (tgt := 89) hx hb dX7_readsAct_131 (by decide) ?_
        refine lv_iload_n hx hb dX7_readsAct_89 rfl (lv_at hl 0 rfl) ?_
        refine lv_iconst (v := 3) hx hb dX7_readsAct_90 (by decide) ?_
        refine lv_icmp_ge (tgt := 134) hx hb dX7_readsAct_91 (by decide) (fun c_ => absurd c_ (by decide)) (fun c_ => ?_)
        refine lv_aload_n hx hb dX7_readsAct_94 rfl (lv_at hl 2 rfl) ?_
        refine t_get (ci := 7) (v := .int 1) hB hT (ro_ci r_73 rfl) rfl 37 (by decide) k_782 f_70 dX7_readsAct_95 ?_
        refine lv_if_ne (tgt := 134) hx hb dX7_readsAct_98 (by decide) (fun c_ => ?_) (fun c_ => absurd c_ (by decide))
        refine lv_aload_n hx hb dX7_readsAct_134 rfl (lv_at hl 2 rfl) ?_
        refine lv_bipush (v := 32) hx hb dX7_readsAct_135 (by decide) ?_
        refine t_callV (n := 1) (As := [.int 32]) (rest := []) (ci := 7) hB hT hl.1 (m_must l D cI cZ cS cR N0 g_65 hI h 32 s2_66 1 z t ct r_73 r_77 n_82 f_69 f_70 kn_88 kn_89 (by have q0 : (1 : Int32).toInt = 1 := (by decide); have q1 : (32 : Int32).toInt = 32 := (by decide); omega) (by have q0 : (1 : Int32).toInt = 1 := (by decide); have q1 : (32 : Int32).toInt = 32 := (by decide); omega) (by have q0 : (1 : Int32).toInt = 1 := (by decide); have q1 : (32 : Int32).toInt = 32 := (by decide); omega) (by have q0 : (1 : Int32).toInt = 1 := (by decide); have q1 : (32 : Int32).toInt = 32 := (by decide); omega) (by have q0 : (1 : Int32).toInt = 1 := (by decide); have q1 : (32 : Int32).toInt = 32 := (by decide); omega) (by have q0 : (1 : Int32).toInt = 1 := (by decide); have q1 : (32 : Int32).toInt = 32 := (by decide); omega) (by have q0 : (1 : Int32).toInt = 1 := (by decide); have q1 : (32 : Int32).toInt = 32 := (by decide); omega) hc) (ro_ci r_73 rfl) rfl k_975 k_65 k_972 k_974 k_24 (by decide +kernel) ⟨(Nat.le_of_ble_eq_true rfl), (Nat.le_of_ble_eq_true rfl)⟩ rfl (Nat.le_of_ble_eq_true rfl) ⟨(Nat.le_of_ble_eq_true rfl), (Nat.le_of_ble_eq_true rfl)⟩ dX7_readsAct_137 (fun v g_192 H locs hp hT => ?_)
        obtain ⟨s2_193, w2_194, rfl, hI, x_199, m_198, f_195, f_196, f_197⟩ := hp
        have hN : PL 8 g_192 na pa := hN.sm m_198 r_74 (by decide) rfl r_75 (by decide) rfl
        have hc : g_192.2.2.2.1 t = ct := (Sm.cf m_198 r_77 (by decide) rfl).trans hc
        have hWT : WT g_192 wt := hWT.sm m_198 r_76 (by decide) rfl
        have hU0 : UP g_192 na (g.2.2.2.1 na) false rz.toNatClampNeg 0 := hU0.sm m_198 r_74 (by decide) rfl
        have hU1 : UP g_192 pa (g.2.2.2.1 pa) false rz.toNatClampNeg 0 := hU1.sm m_198 r_75 (by decide) rfl
        have hU2 : UP g_192 nv (g.2.2.2.1 nv) false rz.toNatClampNeg 0 := hU2.sm m_198 r_78 (by decide) rfl
        have hM : Sm md_m_readsAct g g_192 := hM.tr hE (m_198.mo (fun r k h => mdle_m_readsAct_m_must h))
        have hE : Ex g g_192 := hE.tr x_199
        have r_200 : g_192.1 h = 8 := (Ex.r x_199 r_73 (by decide))
        have r_201 : g_192.1 na = 84 := (Ex.r x_199 r_74 (by decide))
        have r_202 : g_192.1 pa = 85 := (Ex.r x_199 r_75 (by decide))
        have r_203 : g_192.1 wt = 87 := (Ex.r x_199 r_76 (by decide))
        have r_204 : g_192.1 t = 79 := (Ex.r x_199 r_77 (by decide))
        have r_205 : g_192.1 nv = 86 := (Ex.r x_199 r_78 (by decide))
        have n_206 : g_192.2.2.1 na = 8 := (Ex.n x_199 r_74 (by decide) n_79)
        have n_207 : g_192.2.2.1 pa = 8 := (Ex.n x_199 r_75 (by decide) n_80)
        have n_208 : g_192.2.2.1 wt = 24 := (Ex.n x_199 r_76 (by decide) n_81)
        have n_209 : g_192.2.2.1 t = 100 := (Ex.n x_199 r_77 (by decide) n_82)
        have n_210 : g_192.2.2.1 nv = 8 := (Ex.n x_199 r_78 (by decide) n_83)
        have kn_211 : g_192.2.1 h 38 = .int rz := (Sm.v m_198 r_73 (by decide) rfl kn_84)
        have kn_212 : g_192.2.1 h 42 = .ref wt := (Sm.v m_198 r_73 (by decide) rfl kn_85)
        have kn_213 : g_192.2.1 h 39 = .ref na := (Sm.v m_198 r_73 (by decide) rfl kn_86)
        have kn_214 : g_192.2.1 h 40 = .ref pa := (Sm.v m_198 r_73 (by decide) rfl kn_87)
        have kn_215 : g_192.2.1 h 29 = .int z := (Sm.v m_198 r_73 (by decide) rfl kn_88)
        have kn_216 : g_192.2.1 h 28 = .ref t := (Sm.v m_198 r_73 (by decide) rfl kn_89)
        have kn_217 : g_192.2.1 h 41 = .ref nv := (Sm.v m_198 r_73 (by decide) rfl kn_90)
        have kn_218 : g_192.2.2.2.1 wt (3 : Int32).toNatClampNeg = 97 := (Sm.c m_198 r_76 (by decide) rfl kn_91)
        have kn_219 : g_192.2.2.2.1 wt (4 : Int32).toNatClampNeg = 100 := (Sm.c m_198 r_76 (by decide) rfl kn_92)
        refine W.eq (g2 := F0 m 140 ls []) rfl ?_
        have qc_220 : (1 : Int32).toInt = 1 := (by decide)
        have qc_221 : (32 : Int32).toInt = 32 := (by decide)
        rcases f_195 with ⟨-, hs_s2_193, hw_s2_193⟩ | ⟨hx_, -⟩ | ⟨hx_, -⟩
        rotate_left
        · exact absurd hx_ (by decide)
        · exact absurd hx_ (by decide)
        have ew_ : w2_194 = 1 := i_inj (hw_s2_193.trans (by decide))
        subst ew_
        have hs_ : wsel ((txb ct z.toInt) s0.toInt) ((txb ct z.toInt) (s0.toInt + 1)) = 1 := ws_1 (by omega) (by omega)
        have hq_ : qj (txb ct z.toInt) s0.toInt 1 = 1 := wp4_1 (by omega) (by omega)
        have hv_ := wd_f hs_ (Or.inr (fun h_ => absurd (hq_.symm.trans h_) (by decide)))
        exact lt_m_readsAct_c1 l D cI cZ cS cR N0 g h s0 rz wt na pa z t ct nv r_h r_na n_na r_pa n_pa r_wt n_wt r_t n_t r_nv n_nv krz ks0 kw0 kwt kna kpa kz kt knv l_rz u_rz l_s0 u_s0 hN_0 hWT_0 l_z u_z hc_0 hB hr   g_192 (1 : Int32) s2_193 H locs ls hT hI hE hM (by decide) (by decide) (by omega) (by omega) kn_211 f_196 f_197 hN hc hWT hU0 hU1 hU2 (ac_n hv_.1 (by have q_ := hv_.2; rw [hq_] at q_; omega)) (lv_sub hl [1, 2] rfl)
    · have ew_ : w2_34 = 1 := i_inj (hw_s2_33.trans (by decide))
      subst ew_
      refine lv_iinc (v := 1) (lv' := [(2, .int 1), (1, .int 1), (0, .ref h)]) hx hb dX7_readsAct_128 hl (k := 0) rfl (by decide) (by decide) rfl (fun ls hl => ?_)
      refine lv_goto (tgt := 89) hx hb dX7_readsAct_131 (by decide) ?_
      refine lv_iload_n hx hb dX7_readsAct_89 rfl (lv_at hl 0 rfl) ?_
      refine lv_iconst (v := 3) hx hb dX7_readsAct_90 (by decide) ?_
      refine lv_icmp_ge (tgt := 134) hx hb dX7_readsAct_91 (by decide) (fun c_ => absurd c_ (by decide)) (fun c_ => ?_)
      refine lv_aload_n hx hb dX7_readsAct_94 rfl (lv_at hl 2 rfl) ?_
      refine t_get (ci := 7) (v := .int 1) hB hT (ro_ci r_40 rfl) rfl 37 (by decide) k_782 f_37 dX7_readsAct_95 ?_
      refine lv_if_ne (tgt := 134) hx hb dX7_readsAct_98 (by decide) (fun c_ => ?_) (fun c_ => absurd c_ (by decide))
      refine lv_aload_n hx hb dX7_readsAct_134 rfl (lv_at hl 2 rfl) ?_
      refine lv_bipush (v := 32) hx hb dX7_readsAct_135 (by decide) ?_
      refine t_callV (n := 1) (As := [.int 32]) (rest := []) (ci := 7) hB hT hl.1 (m_must l D cI cZ cS cR N0 g_32 hI h 32 s2_33 1 z t ct r_40 r_44 n_49 f_36 f_37 kn_55 kn_56 (by have q0 : (1 : Int32).toInt = 1 := (by decide); have q1 : (32 : Int32).toInt = 32 := (by decide); omega) (by have q0 : (1 : Int32).toInt = 1 := (by decide); have q1 : (32 : Int32).toInt = 32 := (by decide); omega) (by have q0 : (1 : Int32).toInt = 1 := (by decide); have q1 : (32 : Int32).toInt = 32 := (by decide); omega) (by have q0 : (1 : Int32).toInt = 1 := (by decide); have q1 : (32 : Int32).toInt = 32 := (by decide); omega) (by have q0 : (1 : Int32).toInt = 1 := (by decide); have q1 : (32 : Int32).toInt = 32 := (by decide); omega) (by have q0 : (1 : Int32).toInt = 1 := (by decide); have q1 : (32 : Int32).toInt = 32 := (by decide); omega) (by have q0 : (1 : Int32).toInt = 1 := (by decide); have q1 : (32 : Int32).toInt = 32 := (by decide); omega) hc) (ro_ci r_40 rfl) rfl k_975 k_65 k_972 k_974 k_24 (by decide +kernel) ⟨(Nat.le_of_ble_eq_true rfl), (Nat.le_of_ble_eq_true rfl)⟩ rfl (Nat.le_of_ble_eq_true rfl) ⟨(Nat.le_of_ble_eq_true rfl), (Nat.le_of_ble_eq_true rfl)⟩ dX7_readsAct_137 (fun v g_222 H locs hp hT => ?_)
      obtain ⟨s2_223, w2_224, rfl, hI, x_229, m_228, f_225, f_226, f_227⟩ := hp
      have hN : PL 8 g_222 na pa := hN.sm m_228 r_41 (by decide) rfl r_42 (by decide) rfl
      have hc : g_222.2.2.2.1 t = ct := (Sm.cf m_228 r_44 (by decide) rfl).trans hc
      have hWT : WT g_222 wt := hWT.sm m_228 r_43 (by decide) rfl
      have hU0 : UP g_222 na (g.2.2.2.1 na) false rz.toNatClampNeg 0 := hU0.sm m_228 r_41 (by decide) rfl
      have hU1 : UP g_222 pa (g.2.2.2.1 pa) false rz.toNatClampNeg 0 := hU1.sm m_228 r_42 (by decide) rfl
      have hU2 : UP g_222 nv (g.2.2.2.1 nv) false rz.toNatClampNeg 0 := hU2.sm m_228 r_45 (by decide) rfl
      have hM : Sm md_m_readsAct g g_222 := hM.tr hE (m_228.mo (fun r k h => mdle_m_readsAct_m_must h))
      have hE : Ex g g_222 := hE.tr x_229
      have r_230 : g_222.1 h = 8 := (Ex.r x_229 r_40 (by decide))
      have r_231 : g_222.1 na = 84 := (Ex.r x_229 r_41 (by decide))
      have r_232 : g_222.1 pa = 85 := (Ex.r x_229 r_42 (by decide))
      have r_233 : g_222.1 wt = 87 := (Ex.r x_229 r_43 (by decide))
      have r_234 : g_222.1 t = 79 := (Ex.r x_229 r_44 (by decide))
      have r_235 : g_222.1 nv = 86 := (Ex.r x_229 r_45 (by decide))
      have n_236 : g_222.2.2.1 na = 8 := (Ex.n x_229 r_41 (by decide) n_46)
      have n_237 : g_222.2.2.1 pa = 8 := (Ex.n x_229 r_42 (by decide) n_47)
      have n_238 : g_222.2.2.1 wt = 24 := (Ex.n x_229 r_43 (by decide) n_48)
      have n_239 : g_222.2.2.1 t = 100 := (Ex.n x_229 r_44 (by decide) n_49)
      have n_240 : g_222.2.2.1 nv = 8 := (Ex.n x_229 r_45 (by decide) n_50)
      have kn_241 : g_222.2.1 h 38 = .int rz := (Sm.v m_228 r_40 (by decide) rfl kn_51)
      have kn_242 : g_222.2.1 h 42 = .ref wt := (Sm.v m_228 r_40 (by decide) rfl kn_52)
      have kn_243 : g_222.2.1 h 39 = .ref na := (Sm.v m_228 r_40 (by decide) rfl kn_53)
      have kn_244 : g_222.2.1 h 40 = .ref pa := (Sm.v m_228 r_40 (by decide) rfl kn_54)
      have kn_245 : g_222.2.1 h 29 = .int z := (Sm.v m_228 r_40 (by decide) rfl kn_55)
      have kn_246 : g_222.2.1 h 28 = .ref t := (Sm.v m_228 r_40 (by decide) rfl kn_56)
      have kn_247 : g_222.2.1 h 41 = .ref nv := (Sm.v m_228 r_40 (by decide) rfl kn_57)
      have kn_248 : g_222.2.2.2.1 wt (3 : Int32).toNatClampNeg = 97 := (Sm.c m_228 r_43 (by decide) rfl kn_58)
      refine W.eq (g2 := F0 m 140 ls []) rfl ?_
      have qc_249 : (1 : Int32).toInt = 1 := (by decide)
      have qc_250 : (32 : Int32).toInt = 32 := (by decide)
      rcases f_225 with ⟨-, hs_s2_223, hw_s2_223⟩ | ⟨hx_, -⟩ | ⟨hx_, -⟩
      rotate_left
      · exact absurd hx_ (by decide)
      · exact absurd hx_ (by decide)
      have ew_ : w2_224 = 1 := i_inj (hw_s2_223.trans (by decide))
      subst ew_
      have hs_ : wsel ((txb ct z.toInt) s0.toInt) ((txb ct z.toInt) (s0.toInt + 1)) = 1 := ws_1 (by omega) (by omega)
      have hq_ : qj (txb ct z.toInt) s0.toInt 1 = 0 := wp4_0 (by omega)
      have hv_ := wd_f hs_ (Or.inr (fun h_ => absurd (hq_.symm.trans h_) (by decide)))
      exact lt_m_readsAct_c1 l D cI cZ cS cR N0 g h s0 rz wt na pa z t ct nv r_h r_na n_na r_pa n_pa r_wt n_wt r_t n_t r_nv n_nv krz ks0 kw0 kwt kna kpa kz kt knv l_rz u_rz l_s0 u_s0 hN_0 hWT_0 l_z u_z hc_0 hB hr   g_222 (1 : Int32) s2_223 H locs ls hT hI hE hM (by decide) (by decide) (by omega) (by omega) kn_241 f_226 f_227 hN hc hWT hU0 hU1 hU2 (ac_n hv_.1 (by have q_ := hv_.2; rw [hq_] at q_; omega)) (lv_sub hl [1, 2] rfl)
  · have c_27' : r_19.toInt ≠ 97 := i_ne c_27 rfl (by decide)
    refine lv_iinc (v := 2) (lv' := [(1, .int 2), (0, .ref h)]) hx hb dX7_readsAct_59 hl (k := 0) rfl (by decide) (by decide) rfl (fun ls hl => ?_)
    refine lv_goto (tgt := 34) hx hb dX7_readsAct_62 (by decide) ?_
    exact lt_m_readsAct_w2 l D cI cZ cS cR N0 g h s0 rz wt na pa z t ct nv r_h r_na n_na r_pa n_pa r_wt n_wt r_t n_t r_nv n_nv krz ks0 kw0 kwt kna kpa kz kt knv l_rz u_rz l_s0 u_s0 hN_0 hWT_0 l_z u_z hc_0 hB hr   g1 H locs ls hT hI hE hM kp0 kp1 kp2 hN hc hWT hU0 hU1 hU2 (by omega) (lv_sub hl [0, 1] rfl)
set_option maxHeartbeats 4000000 in
set_option maxRecDepth 100000 in
theorem lt_m_readsAct_w0 (l : Launch) (D : va_G) (cI cZ cS cR : ClassId) (N0 : NT) (g : GS) (h : Nat) (s0 : Int32) (rz : Int32) (wt : Nat) (na : Nat) (pa : Nat) (z : Int32) (t : Nat) (ct : Nat → Int32) (nv : Nat) (r_h : g.1 h = 8) (r_na : g.1 na = 84) (n_na : g.2.2.1 na = 8) (r_pa : g.1 pa = 85) (n_pa : g.2.2.1 pa = 8) (r_wt : g.1 wt = 87) (n_wt : g.2.2.1 wt = 24) (r_t : g.1 t = 79) (n_t : g.2.2.1 t = 100) (r_nv : g.1 nv = 86) (n_nv : g.2.2.1 nv = 8) (krz : g.2.1 h 38 = .int rz) (ks0 : g.2.1 h 36 = .int s0) (kw0 : g.2.1 h 37 = .int 0) (kwt : g.2.1 h 42 = .ref wt) (kna : g.2.1 h 39 = .ref na) (kpa : g.2.1 h 40 = .ref pa) (kz : g.2.1 h 29 = .int z) (kt : g.2.1 h 28 = .ref t) (knv : g.2.1 h 41 = .ref nv) (l_rz : 0 ≤ rz.toInt) (u_rz : rz.toInt ≤ 7) (l_s0 : 0 ≤ s0.toInt) (u_s0 : s0.toInt ≤ 100) (hN_0 : PL 8 g na pa) (hWT_0 : WT g wt) (l_z : 0 ≤ z.toInt) (u_z : z.toInt ≤ 100) (hc_0 : g.2.2.2.1 t = ct) {p : Program} {e : Env} {s : State} {m : MethodId} {args : Array Value} {below : List Frame} {meth : Method} {c : Code} (hB : Tz p s m meth c args cX7_readsAct 4 RX7 D cI cZ cS cR N0) (hr : meth.sig.returnType = none)    : ∀ (g1 : GS)   (H : Heap) (locs : List Loc) (ls : Array Slot), Tv D cI cZ cS cR N0 s.heap H locs g1 → Inv g1 → Ex g g1 → Sm md_m_readsAct g g1 → g1.2.1 h 38 = .int rz → g1.2.1 h 36 = .int s0 → g1.2.1 h 37 = .int 0 → (PL 8 g1 na pa) → (g1.2.2.2.1 t = ct) → (WT g1 wt) → (UP g1 na (g.2.2.2.1 na) false rz.toNatClampNeg 0) → (UP g1 pa (g.2.2.2.1 pa) false rz.toNatClampNeg 0) → (UP g1 nv (g.2.2.2.1 nv) false rz.toNatClampNeg 0) → (¬ ((txb ct z.toInt) s0.toInt = 97 ∧ (txb ct z.toInt) (s0.toInt + 1) = 115)) → lv_has ls 4 [(1, .int 0), (0, .ref h)] → W p l e (rmx 2 0 0) s m args below meth c H locs 0 0 (MQ below (tQ D cI cZ cS cR N0 (fun v g' => ∃ (z2 : Int32) (s2 : Int32) (w2 : Int32) (w_ : Int32) (c_ : Int32) (v_ : Int32), v = none ∧ Inv g' ∧ Ex g g' ∧ Sm md_m_readsAct g g' ∧ ((w2 = 1 ∧ ac (txb ct z.toInt) s0.toInt = (false, s2.toInt)) ∨ (w2 = 0 ∧ ac (txb ct z.toInt) s0.toInt = (true, s2.toInt) ∧ s2.toInt ≤ z.toInt ∧ w_.toInt = wdr (txb ct z.toInt) s0.toInt ∧ c_.toInt = acc (txb ct z.toInt) s0.toInt ∧ v_.toInt = acv (txb ct z.toInt) s0.toInt)) ∧ (g'.2.1 h 38 = .int z2) ∧ (z2.toInt = rz.toInt + 1) ∧ (PL 8 g' na pa) ∧ (g'.2.1 h 36 = .int s2) ∧ (g'.2.1 h 37 = .int w2) ∧ (0 ≤ s2.toInt ∧ s2.toInt ≤ 100) ∧ (UP g' na (g.2.2.2.1 na) true rz.toNatClampNeg w_) ∧ (UP g' pa (g.2.2.2.1 pa) true rz.toNatClampNeg c_) ∧ (UP g' nv (g.2.2.2.1 nv) true rz.toNatClampNeg v_))) args s 0 0 (fun q => N0.1 ≤ q)) (F0 m 34 ls []) := by
  have hx := hB.1
  have hb := hB.2.1
  intro g1 H locs ls hT hI hE hM kp0 kp1 kp2 hN hc hWT hU0 hU1 hU2 hS hl
  have r_1 : g1.1 h = 8 := Ex.r hE r_h (by decide)
  have r_2 : g1.1 na = 84 := Ex.r hE r_na (by decide)
  have n_3 : g1.2.2.1 na = 8 := Ex.n hE r_na (by decide) n_na
  have r_4 : g1.1 pa = 85 := Ex.r hE r_pa (by decide)
  have n_5 : g1.2.2.1 pa = 8 := Ex.n hE r_pa (by decide) n_pa
  have r_6 : g1.1 wt = 87 := Ex.r hE r_wt (by decide)
  have n_7 : g1.2.2.1 wt = 24 := Ex.n hE r_wt (by decide) n_wt
  have r_8 : g1.1 t = 79 := Ex.r hE r_t (by decide)
  have n_9 : g1.2.2.1 t = 100 := Ex.n hE r_t (by decide) n_t
  have r_10 : g1.1 nv = 86 := Ex.r hE r_nv (by decide)
  have n_11 : g1.2.2.1 nv = 8 := Ex.n hE r_nv (by decide) n_nv
  have kn_12 : g1.2.1 h 42 = .ref wt := Sm.v hM r_h (by decide) rfl kwt
  have kn_13 : g1.2.1 h 39 = .ref na := Sm.v hM r_h (by decide) rfl kna
  have kn_14 : g1.2.1 h 40 = .ref pa := Sm.v hM r_h (by decide) rfl kpa
  have kn_15 : g1.2.1 h 29 = .int z := Sm.v hM r_h (by decide) rfl kz
  have kn_16 : g1.2.1 h 28 = .ref t := Sm.v hM r_h (by decide) rfl kt
  have kn_17 : g1.2.1 h 41 = .ref nv := Sm.v hM r_h (by decide) rfl knv
  refine lv_iload_n hx hb dX7_readsAct_34 rfl (lv_at hl 0 rfl) ?_
  refine lv_bipush (v := 8) hx hb dX7_readsAct_35 (by decide) ?_
  refine lv_icmp_ge (tgt := 65) hx hb dX7_readsAct_37 (by decide) (fun c_ => absurd c_ (by decide)) (fun c_ => ?_)
  refine lv_aload_n hx hb dX7_readsAct_40 rfl (lv_at hl 1 rfl) ?_
  refine lv_aload_n hx hb dX7_readsAct_41 rfl (lv_at hl 1 rfl) ?_
  refine t_get (ci := 7) (v := .int s0) hB hT (ro_ci r_1 rfl) rfl 36 (by decide) k_781 kp1 dX7_readsAct_42 ?_
  refine t_callV (n := 1) (As := [.int s0]) (rest := []) (ci := 7) hB hT hl.1 (m_byteAt l D cI cZ cS cR N0 g1 hI h s0 z t ct r_1 r_8 n_9 kn_15 kn_16 (by omega) (by omega) (by omega) (by omega) hc) (ro_ci r_1 rfl) rfl k_971 k_65 k_968 k_970 k_23 (by decide +kernel) ⟨(Nat.le_of_ble_eq_true rfl), (Nat.le_of_ble_eq_true rfl)⟩ rfl (Nat.le_of_ble_eq_true rfl) ⟨(Nat.le_of_ble_eq_true rfl), (Nat.le_of_ble_eq_true rfl)⟩ dX7_readsAct_45 (fun v g_18 H locs hp hT => ?_)
  obtain ⟨r_19, rfl, eg, f_20, f_21, f_22⟩ := hp
  rw [eg] at hT
  clear eg
  refine W.eq (g2 := F0 m 48 ls [.int r_19]) rfl ?_
  refine lv_aload_n hx hb dX7_readsAct_48 rfl (lv_at hl 1 rfl) ?_
  refine t_get (ci := 7) (v := .ref wt) hB hT (ro_ci r_1 rfl) rfl 42 (by decide) k_787 kn_12 dX7_readsAct_49 ?_
  refine lv_iconst (v := 3) hx hb dX7_readsAct_52 (by decide) ?_
  refine lv_iload_n hx hb dX7_readsAct_53 rfl (lv_at hl 0 rfl) ?_
  refine lv_imul hx hb dX7_readsAct_54 ?_
  refine x_ev (y := 0) (by decide) ?_
  have kw_25 : g1.2.2.2.1 wt (0 : Int32).toNatClampNeg = 115 := (hWT (0 : Int32).toNatClampNeg (by decide)).trans (by decide)
  have i_u_26 : vp_in (0 : Int32) 24 := (by unfold vp_in; decide)
  refine t_iald (v := (115 : Int32)) hB hT (ro_in r_6 (by decide)) n_7 i_u_26 kw_25 dX7_readsAct_55 ?_
  refine lv_icmp_eq (tgt := 65) hx hb dX7_readsAct_56 (by decide) (fun c_27 => ?_) (fun c_27 => ?_)
  · have c_27' : r_19.toInt = 115 := i_eq c_27 rfl (by decide)
    refine lv_aload_n hx hb dX7_readsAct_65 rfl (lv_at hl 1 rfl) ?_
    refine lv_aload_n hx hb dX7_readsAct_66 rfl (lv_at hl 1 rfl) ?_
    refine t_get (ci := 7) (v := .int 0) hB hT (ro_ci r_1 rfl) rfl 37 (by decide) k_782 kp2 dX7_readsAct_67 ?_
    refine lv_if_ne (tgt := 79) hx hb dX7_readsAct_70 (by decide) (fun c_ => absurd (by decide) c_) (fun c_ => ?_)
    refine lv_iload_n hx hb dX7_readsAct_73 rfl (lv_at hl 0 rfl) ?_
    refine lv_bipush (v := 8) hx hb dX7_readsAct_74 (by decide) ?_
    refine lv_icmp_ne (tgt := 83) hx hb dX7_readsAct_76 (by decide) (fun c_ => ?_) (fun c_ => absurd c_ (by decide))
    refine lv_iconst (v := 0) hx hb dX7_readsAct_83 (by decide) ?_
    refine t_put0 (ci := 7) (v := .int 0) hB hT (ro_ci r_1 rfl) (ro_n0 r_1 (by decide)) rfl 37 (by decide) k_782 (Or.inl rfl) rfl rfl dX7_readsAct_84 (fun H locs hT => ?_)
    have hI : Inv (sF g1 h 37 (.int 0)) := hI.sF (p_8_37 r_1 (⟨_, rfl, by decide, by decide⟩))
    have hM : Sm md_m_readsAct g (sF g1 h 37 (.int 0)) := hM.tr hE (Sm_sF (by rw [r_1]; rfl))
    have hE : Ex g (sF g1 h 37 (.int 0)) := hE
    have hN : PL 8 (sF g1 h 37 (.int 0)) na pa := hN
    have hc : (sF g1 h 37 (.int 0)).2.2.2.1 t = ct := hc
    have hWT : WT (sF g1 h 37 (.int 0)) wt := hWT
    have hU0 : UP (sF g1 h 37 (.int 0)) na (g.2.2.2.1 na) false rz.toNatClampNeg 0 := hU0
    have hU1 : UP (sF g1 h 37 (.int 0)) pa (g.2.2.2.1 pa) false rz.toNatClampNeg 0 := hU1
    have hU2 : UP (sF g1 h 37 (.int 0)) nv (g.2.2.2.1 nv) false rz.toNatClampNeg 0 := hU2
    refine lv_iconst (v := 0) hx hb dX7_readsAct_87 (by decide) ?_
    refine lv_istore_n (lv' := [(2, .int 0), (1, .int 0), (0, .ref h)]) hx hb dX7_readsAct_88 rfl hl (by decide) rfl (fun ls hl => ?_)
    refine lv_iload_n hx hb dX7_readsAct_89 rfl (lv_at hl 0 rfl) ?_
    refine lv_iconst (v := 3) hx hb dX7_readsAct_90 (by decide) ?_
    refine lv_icmp_ge (tgt := 134) hx hb dX7_readsAct_91 (by decide) (fun c_ => absurd c_ (by decide)) (fun c_ => ?_)
    refine lv_aload_n hx hb dX7_readsAct_94 rfl (lv_at hl 2 rfl) ?_
    refine t_get (ci := 7) (v := .int 0) hB hT (ro_ci r_1 rfl) rfl 37 (by decide) k_782 sF_eq dX7_readsAct_95 ?_
    refine lv_if_ne (tgt := 134) hx hb dX7_readsAct_98 (by decide) (fun c_ => absurd (by decide) c_) (fun c_ => ?_)
    refine lv_aload_n hx hb dX7_readsAct_101 rfl (lv_at hl 2 rfl) ?_
    refine t_get (ci := 7) (v := .ref wt) hB hT (ro_ci r_1 rfl) rfl 42 (by decide) k_787 (sF_k kn_12 (by decide)) dX7_readsAct_102 ?_
    refine lv_iconst (v := 3) hx hb dX7_readsAct_105 (by decide) ?_
    refine lv_iload_n hx hb dX7_readsAct_106 rfl (lv_at hl 1 rfl) ?_
    refine lv_imul hx hb dX7_readsAct_107 ?_
    refine x_ev (y := 0) (by decide) ?_
    refine lv_iload_n hx hb dX7_readsAct_108 rfl (lv_at hl 0 rfl) ?_
    refine lv_iadd hx hb dX7_readsAct_109 ?_
    refine x_ev (y := 0) (by decide) ?_
    have kw_28 : (sF g1 h 37 (.int 0)).2.2.2.1 wt (0 : Int32).toNatClampNeg = 115 := (hWT (0 : Int32).toNatClampNeg (by decide)).trans (by decide)
    have i_u_29 : vp_in (0 : Int32) 24 := (by unfold vp_in; decide)
    refine t_iald (v := (115 : Int32)) hB hT (ro_in r_6 (by decide)) n_7 i_u_29 kw_28 dX7_readsAct_110 ?_
    refine lv_if_eq (tgt := 128) hx hb dX7_readsAct_111 (by decide) (fun c_ => absurd c_ (by decide)) (fun c_ => ?_)
    refine lv_aload_n hx hb dX7_readsAct_114 rfl (lv_at hl 2 rfl) ?_
    refine lv_aload_n hx hb dX7_readsAct_115 rfl (lv_at hl 2 rfl) ?_
    refine t_get (ci := 7) (v := .ref wt) hB hT (ro_ci r_1 rfl) rfl 42 (by decide) k_787 (sF_k kn_12 (by decide)) dX7_readsAct_116 ?_
    refine lv_iconst (v := 3) hx hb dX7_readsAct_119 (by decide) ?_
    refine lv_iload_n hx hb dX7_readsAct_120 rfl (lv_at hl 1 rfl) ?_
    refine lv_imul hx hb dX7_readsAct_121 ?_
    refine x_ev (y := 0) (by decide) ?_
    refine lv_iload_n hx hb dX7_readsAct_122 rfl (lv_at hl 0 rfl) ?_
    refine lv_iadd hx hb dX7_readsAct_123 ?_
    refine x_ev (y := 0) (by decide) ?_
    have kw_30 : (sF g1 h 37 (.int 0)).2.2.2.1 wt (0 : Int32).toNatClampNeg = 115 := (hWT (0 : Int32).toNatClampNeg (by decide)).trans (by decide)
    have i_u_31 : vp_in (0 : Int32) 24 := (by unfold vp_in; decide)
    refine t_iald (v := (115 : Int32)) hB hT (ro_in r_6 (by decide)) n_7 i_u_31 kw_30 dX7_readsAct_124 ?_
    refine t_callV (n := 1) (As := [.int 115]) (rest := []) (ci := 7) hB hT hl.1 (m_must l D cI cZ cS cR N0 (sF g1 h 37 (.int 0)) hI h 115 s0 0 z t ct r_1 r_8 n_9 (sF_k kp1 (by decide)) sF_eq (sF_k kn_15 (by decide)) (sF_k kn_16 (by decide)) (by have q0 : (0 : Int32).toInt = 0 := (by decide); have q1 : (115 : Int32).toInt = 115 := (by decide); omega) (by have q0 : (0 : Int32).toInt = 0 := (by decide); have q1 : (115 : Int32).toInt = 115 := (by decide); omega) (by have q0 : (0 : Int32).toInt = 0 := (by decide); have q1 : (115 : Int32).toInt = 115 := (by decide); omega) (by have q0 : (0 : Int32).toInt = 0 := (by decide); have q1 : (115 : Int32).toInt = 115 := (by decide); omega) (by have q0 : (0 : Int32).toInt = 0 := (by decide); have q1 : (115 : Int32).toInt = 115 := (by decide); omega) (by have q0 : (0 : Int32).toInt = 0 := (by decide); have q1 : (115 : Int32).toInt = 115 := (by decide); omega) (by have q0 : (0 : Int32).toInt = 0 := (by decide); have q1 : (115 : Int32).toInt = 115 := (by decide); omega) hc) (ro_ci r_1 rfl) rfl k_975 k_65 k_972 k_974 k_24 (by decide +kernel) ⟨(Nat.le_of_ble_eq_true rfl), (Nat.le_of_ble_eq_true rfl)⟩ rfl (Nat.le_of_ble_eq_true rfl) ⟨(Nat.le_of_ble_eq_true rfl), (Nat.le_of_ble_eq_true rfl)⟩ dX7_readsAct_125 (fun v g_32 H locs hp hT => ?_)
    obtain ⟨s2_33, w2_34, rfl, hI, x_39, m_38, f_35, f_36, f_37⟩ := hp
    have hN : PL 8 g_32 na pa := hN.sm m_38 r_2 (by decide) rfl r_4 (by decide) rfl
    have hc : g_32.2.2.2.1 t = ct := (Sm.cf m_38 r_8 (by decide) rfl).trans hc
    have hWT : WT g_32 wt := hWT.sm m_38 r_6 (by decide) rfl
    have hU0 : UP g_32 na (g.2.2.2.1 na) false rz.toNatClampNeg 0 := hU0.sm m_38 r_2 (by decide) rfl
    have hU1 : UP g_32 pa (g.2.2.2.1 pa) false rz.toNatClampNeg 0 := hU1.sm m_38 r_4 (by decide) rfl
    have hU2 : UP g_32 nv (g.2.2.2.1 nv) false rz.toNatClampNeg 0 := hU2.sm m_38 r_10 (by decide) rfl
    have hM : Sm md_m_readsAct g g_32 := hM.tr hE (m_38.mo (fun r k h => mdle_m_readsAct_m_must h))
    have hE : Ex g g_32 := hE.tr x_39
    have r_40 : g_32.1 h = 8 := (Ex.r x_39 r_1 (by decide))
    have r_41 : g_32.1 na = 84 := (Ex.r x_39 r_2 (by decide))
    have r_42 : g_32.1 pa = 85 := (Ex.r x_39 r_4 (by decide))
    have r_43 : g_32.1 wt = 87 := (Ex.r x_39 r_6 (by decide))
    have r_44 : g_32.1 t = 79 := (Ex.r x_39 r_8 (by decide))
    have r_45 : g_32.1 nv = 86 := (Ex.r x_39 r_10 (by decide))
    have n_46 : g_32.2.2.1 na = 8 := (Ex.n x_39 r_2 (by decide) n_3)
    have n_47 : g_32.2.2.1 pa = 8 := (Ex.n x_39 r_4 (by decide) n_5)
    have n_48 : g_32.2.2.1 wt = 24 := (Ex.n x_39 r_6 (by decide) n_7)
    have n_49 : g_32.2.2.1 t = 100 := (Ex.n x_39 r_8 (by decide) n_9)
    have n_50 : g_32.2.2.1 nv = 8 := (Ex.n x_39 r_10 (by decide) n_11)
    have kn_51 : g_32.2.1 h 38 = .int rz := (Sm.v m_38 r_1 (by decide) rfl (sF_k kp0 (by decide)))
    have kn_52 : g_32.2.1 h 42 = .ref wt := (Sm.v m_38 r_1 (by decide) rfl (sF_k kn_12 (by decide)))
    have kn_53 : g_32.2.1 h 39 = .ref na := (Sm.v m_38 r_1 (by decide) rfl (sF_k kn_13 (by decide)))
    have kn_54 : g_32.2.1 h 40 = .ref pa := (Sm.v m_38 r_1 (by decide) rfl (sF_k kn_14 (by decide)))
    have kn_55 : g_32.2.1 h 29 = .int z := (Sm.v m_38 r_1 (by decide) rfl (sF_k kn_15 (by decide)))
    have kn_56 : g_32.2.1 h 28 = .ref t := (Sm.v m_38 r_1 (by decide) rfl (sF_k kn_16 (by decide)))
    have kn_57 : g_32.2.1 h 41 = .ref nv := (Sm.v m_38 r_1 (by decide) rfl (sF_k kn_17 (by decide)))
    have kn_58 : g_32.2.2.2.1 wt (0 : Int32).toNatClampNeg = 115 := (Sm.c m_38 r_6 (by decide) rfl kw_30)
    refine W.eq (g2 := F0 m 128 ls []) rfl ?_
    have qc_59 : (0 : Int32).toInt = 0 := (by decide)
    have qc_60 : (115 : Int32).toInt = 115 := (by decide)
    rcases f_35 with ⟨hx_, -⟩ | ⟨-, ht_s2_33, hs_s2_33, hz_s2_33, hw_s2_33⟩ | ⟨-, ht_s2_33, hs_s2_33, hw_s2_33⟩
    · exact absurd hx_ (by decide)
    · have ew_ : w2_34 = 0 := i_inj (hw_s2_33.trans (by decide))
      subst ew_
      refine lv_iinc (v := 1) (lv' := [(2, .int 1), (1, .int 0), (0, .ref h)]) hx hb dX7_readsAct_128 hl (k := 0) rfl (by decide) (by decide) rfl (fun ls hl => ?_)
      refine lv_goto (tgt := 89) hx hb dX7_readsAct_131 (by decide) ?_
      refine lv_iload_n hx hb dX7_readsAct_89 rfl (lv_at hl 0 rfl) ?_
      refine lv_iconst (v := 3) hx hb dX7_readsAct_90 (by decide) ?_
      refine lv_icmp_ge (tgt := 134) hx hb dX7_readsAct_91 (by decide) (fun c_ => absurd c_ (by decide)) (fun c_ => ?_)
      refine lv_aload_n hx hb dX7_readsAct_94 rfl (lv_at hl 2 rfl) ?_
      refine t_get (ci := 7) (v := .int 0) hB hT (ro_ci r_40 rfl) rfl 37 (by decide) k_782 f_37 dX7_readsAct_95 ?_
      refine lv_if_ne (tgt := 134) hx hb dX7_readsAct_98 (by decide) (fun c_ => absurd (by decide) c_) (fun c_ => ?_)
      refine lv_aload_n hx hb dX7_readsAct_101 rfl (lv_at hl 2 rfl) ?_
      refine t_get (ci := 7) (v := .ref wt) hB hT (ro_ci r_40 rfl) rfl 42 (by decide) k_787 kn_52 dX7_readsAct_102 ?_
      refine lv_iconst (v := 3) hx hb dX7_readsAct_105 (by decide) ?_
      refine lv_iload_n hx hb dX7_readsAct_106 rfl (lv_at hl 1 rfl) ?_
      refine lv_imul hx hb dX7_readsAct_107 ?_
      refine x_ev (y := 0) (by decide) ?_
      refine lv_iload_n hx hb dX7_readsAct_108 rfl (lv_at hl 0 rfl) ?_
      refine lv_iadd hx hb dX7_readsAct_109 ?_
      refine x_ev (y := 1) (by decide) ?_
      have kw_61 : g_32.2.2.2.1 wt (1 : Int32).toNatClampNeg = 101 := (hWT (1 : Int32).toNatClampNeg (by decide)).trans (by decide)
      have i_u_62 : vp_in (1 : Int32) 24 := (by unfold vp_in; decide)
      refine t_iald (v := (101 : Int32)) hB hT (ro_in r_43 (by decide)) n_48 i_u_62 kw_61 dX7_readsAct_110 ?_
      refine lv_if_eq (tgt := 128) hx hb dX7_readsAct_111 (by decide) (fun c_ => absurd c_ (by decide)) (fun c_ => ?_)
      refine lv_aload_n hx hb dX7_readsAct_114 rfl (lv_at hl 2 rfl) ?_
      refine lv_aload_n hx hb dX7_readsAct_115 rfl (lv_at hl 2 rfl) ?_
      refine t_get (ci := 7) (v := .ref wt) hB hT (ro_ci r_40 rfl) rfl 42 (by decide) k_787 kn_52 dX7_readsAct_116 ?_
      refine lv_iconst (v := 3) hx hb dX7_readsAct_119 (by decide) ?_
      refine lv_iload_n hx hb dX7_readsAct_120 rfl (lv_at hl 1 rfl) ?_
      refine lv_imul hx hb dX7_readsAct_121 ?_
      refine x_ev (y := 0) (by decide) ?_
      refine lv_iload_n hx hb dX7_readsAct_122 rfl (lv_at hl 0 rfl) ?_
      refine lv_iadd hx hb dX7_readsAct_123 ?_
      refine x_ev (y := 1) (by decide) ?_
      have kw_63 : g_32.2.2.2.1 wt (1 : Int32).toNatClampNeg = 101 := (hWT (1 : Int32).toNatClampNeg (by decide)).trans (by decide)
      have i_u_64 : vp_in (1 : Int32) 24 := (by unfold vp_in; decide)
      refine t_iald (v := (101 : Int32)) hB hT (ro_in r_43 (by decide)) n_48 i_u_64 kw_63 dX7_readsAct_124 ?_
      refine t_callV (n := 1) (As := [.int 101]) (rest := []) (ci := 7) hB hT hl.1 (m_must l D cI cZ cS cR N0 g_32 hI h 101 s2_33 0 z t ct r_40 r_44 n_49 f_36 f_37 kn_55 kn_56 (by have q0 : (0 : Int32).toInt = 0 := (by decide); have q1 : (101 : Int32).toInt = 101 := (by decide); omega) (by have q0 : (0 : Int32).toInt = 0 := (by decide); have q1 : (101 : Int32).toInt = 101 := (by decide); omega) (by have q0 : (0 : Int32).toInt = 0 := (by decide); have q1 : (101 : Int32).toInt = 101 := (by decide); omega) (by have q0 : (0 : Int32).toInt = 0 := (by decide); have q1 : (101 : Int32).toInt = 101 := (by decide); omega) (by have q0 : (0 : Int32).toInt = 0 := (by decide); have q1 : (101 : Int32).toInt = 101 := (by decide); omega) (by have q0 : (0 : Int32).toInt = 0 := (by decide); have q1 : (101 : Int32).toInt = 101 := (by decide); omega) (by have q0 : (0 : Int32).toInt = 0 := (by decide); have q1 : (101 : Int32).toInt = 101 := (by decide); omega) hc) (ro_ci r_40 rfl) rfl k_975 k_65 k_972 k_974 k_24 (by decide +kernel) ⟨(Nat.le_of_ble_eq_true rfl), (Nat.le_of_ble_eq_true rfl)⟩ rfl (Nat.le_of_ble_eq_true rfl) ⟨(Nat.le_of_ble_eq_true rfl), (Nat.le_of_ble_eq_true rfl)⟩ dX7_readsAct_125 (fun v g_65 H locs hp hT => ?_)
      obtain ⟨s2_66, w2_67, rfl, hI, x_72, m_71, f_68, f_69, f_70⟩ := hp
      have hN : PL 8 g_65 na pa := hN.sm m_71 r_41 (by decide) rfl r_42 (by decide) rfl
      have hc : g_65.2.2.2.1 t = ct := (Sm.cf m_71 r_44 (by decide) rfl).trans hc
      have hWT : WT g_65 wt := hWT.sm m_71 r_43 (by decide) rfl
      have hU0 : UP g_65 na (g.2.2.2.1 na) false rz.toNatClampNeg 0 := hU0.sm m_71 r_41 (by decide) rfl
      have hU1 : UP g_65 pa (g.2.2.2.1 pa) false rz.toNatClampNeg 0 := hU1.sm m_71 r_42 (by decide) rfl
      have hU2 : UP g_65 nv (g.2.2.2.1 nv) false rz.toNatClampNeg 0 := hU2.sm m_71 r_45 (by decide) rfl
      have hM : Sm md_m_readsAct g g_65 := hM.tr hE (m_71.mo (fun r k h => mdle_m_readsAct_m_must h))
      have hE : Ex g g_65 := hE.tr x_72
      have r_73 : g_65.1 h = 8 := (Ex.r x_72 r_40 (by decide))
      have r_74 : g_65.1 na = 84 := (Ex.r x_72 r_41 (by decide))
      have r_75 : g_65.1 pa = 85 := (Ex.r x_72 r_42 (by decide))
      have r_76 : g_65.1 wt = 87 := (Ex.r x_72 r_43 (by decide))
      have r_77 : g_65.1 t = 79 := (Ex.r x_72 r_44 (by decide))
      have r_78 : g_65.1 nv = 86 := (Ex.r x_72 r_45 (by decide))
      have n_79 : g_65.2.2.1 na = 8 := (Ex.n x_72 r_41 (by decide) n_46)
      have n_80 : g_65.2.2.1 pa = 8 := (Ex.n x_72 r_42 (by decide) n_47)
      have n_81 : g_65.2.2.1 wt = 24 := (Ex.n x_72 r_43 (by decide) n_48)
      have n_82 : g_65.2.2.1 t = 100 := (Ex.n x_72 r_44 (by decide) n_49)
      have n_83 : g_65.2.2.1 nv = 8 := (Ex.n x_72 r_45 (by decide) n_50)
      have kn_84 : g_65.2.1 h 38 = .int rz := (Sm.v m_71 r_40 (by decide) rfl kn_51)
      have kn_85 : g_65.2.1 h 42 = .ref wt := (Sm.v m_71 r_40 (by decide) rfl kn_52)
      have kn_86 : g_65.2.1 h 39 = .ref na := (Sm.v m_71 r_40 (by decide) rfl kn_53)
      have kn_87 : g_65.2.1 h 40 = .ref pa := (Sm.v m_71 r_40 (by decide) rfl kn_54)
      have kn_88 : g_65.2.1 h 29 = .int z := (Sm.v m_71 r_40 (by decide) rfl kn_55)
      have kn_89 : g_65.2.1 h 28 = .ref t := (Sm.v m_71 r_40 (by decide) rfl kn_56)
      have kn_90 : g_65.2.1 h 41 = .ref nv := (Sm.v m_71 r_40 (by decide) rfl kn_57)
      have kn_91 : g_65.2.2.2.1 wt (0 : Int32).toNatClampNeg = 115 := (Sm.c m_71 r_43 (by decide) rfl kn_58)
      have kn_92 : g_65.2.2.2.1 wt (1 : Int32).toNatClampNeg = 101 := (Sm.c m_71 r_43 (by decide) rfl kw_63)
      refine W.eq (g2 := F0 m 128 ls []) rfl ?_
      have qc_93 : (0 : Int32).toInt = 0 := (by decide)
      have qc_94 : (101 : Int32).toInt = 101 := (by decide)
      rcases f_68 with ⟨hx_, -⟩ | ⟨-, ht_s2_66, hs_s2_66, hz_s2_66, hw_s2_66⟩ | ⟨-, ht_s2_66, hs_s2_66, hw_s2_66⟩
      · exact absurd hx_ (by decide)
      · have ew_ : w2_67 = 0 := i_inj (hw_s2_66.trans (by decide))
        subst ew_
        rw [show s2_33.toInt = s0.toInt + 1 by omega] at ht_s2_66
        refine lv_iinc (v := 2) (lv' := [(2, .int 2), (1, .int 0), (0, .ref h)]) hx hb dX7_readsAct_128 hl (k := 0) rfl (by decide) (by decide) rfl (fun ls hl => ?_)
        refine lv_goto (tgt := 89) hx hb dX7_readsAct_131 (by decide) ?_
        refine lv_iload_n hx hb dX7_readsAct_89 rfl (lv_at hl 0 rfl) ?_
        refine lv_iconst (v := 3) hx hb dX7_readsAct_90 (by decide) ?_
        refine lv_icmp_ge (tgt := 134) hx hb dX7_readsAct_91 (by decide) (fun c_ => absurd c_ (by decide)) (fun c_ => ?_)
        refine lv_aload_n hx hb dX7_readsAct_94 rfl (lv_at hl 2 rfl) ?_
        refine t_get (ci := 7) (v := .int 0) hB hT (ro_ci r_73 rfl) rfl 37 (by decide) k_782 f_70 dX7_readsAct_95 ?_
        refine lv_if_ne (tgt := 134) hx hb dX7_readsAct_98 (by decide) (fun c_ => absurd (by decide) c_) (fun c_ => ?_)
        refine lv_aload_n hx hb dX7_readsAct_101 rfl (lv_at hl 2 rfl) ?_
        refine t_get (ci := 7) (v := .ref wt) hB hT (ro_ci r_73 rfl) rfl 42 (by decide) k_787 kn_85 dX7_readsAct_102 ?_
        refine lv_iconst (v := 3) hx hb dX7_readsAct_105 (by decide) ?_
        refine lv_iload_n hx hb dX7_readsAct_106 rfl (lv_at hl 1 rfl) ?_
        refine lv_imul hx hb dX7_readsAct_107 ?_
        refine x_ev (y := 0) (by decide) ?_
        refine lv_iload_n hx hb dX7_readsAct_108 rfl (lv_at hl 0 rfl) ?_
        refine lv_iadd hx hb dX7_readsAct_109 ?_
        refine x_ev (y := 2) (by decide) ?_
        have kw_95 : g_65.2.2.2.1 wt (2 : Int32).toNatClampNeg = 116 := (hWT (2 : Int32).toNatClampNeg (by decide)).trans (by decide)
        have i_u_96 : vp_in (2 : Int32) 24 := (by unfold vp_in; decide)
        refine t_iald (v := (116 : Int32)) hB hT (ro_in r_76 (by decide)) n_81 i_u_96 kw_95 dX7_readsAct_110 ?_
        refine lv_if_eq (tgt := 128) hx hb dX7_readsAct_111 (by decide) (fun c_ => absurd c_ (by decide)) (fun c_ => ?_)
        refine lv_aload_n hx hb dX7_readsAct_114 rfl (lv_at hl 2 rfl) ?_
        refine lv_aload_n hx hb dX7_readsAct_115 rfl (lv_at hl 2 rfl) ?_
        refine t_get (ci := 7) (v := .ref wt) hB hT (ro_ci r_73 rfl) rfl 42 (by decide) k_787 kn_85 dX7_readsAct_116 ?_
        refine lv_iconst (v := 3) hx hb dX7_readsAct_119 (by decide) ?_
        refine lv_iload_n hx hb dX7_readsAct_120 rfl (lv_at hl 1 rfl) ?_
        refine lv_imul hx hb dX7_readsAct_121 ?_
        refine x_ev (y := 0) (by decide) ?_
        refine lv_iload_n hx hb dX7_readsAct_122 rfl (lv_at hl 0 rfl) ?_
        refine lv_iadd hx hb dX7_readsAct_123 ?_
        refine x_ev (y := 2) (by decide) ?_
        have kw_97 : g_65.2.2.2.1 wt (2 : Int32).toNatClampNeg = 116 := (hWT (2 : Int32).toNatClampNeg (by decide)).trans (by decide)
        have i_u_98 : vp_in (2 : Int32) 24 := (by unfold vp_in; decide)
        refine t_iald (v := (116 : Int32)) hB hT (ro_in r_76 (by decide)) n_81 i_u_98 kw_97 dX7_readsAct_124 ?_
        refine t_callV (n := 1) (As := [.int 116]) (rest := []) (ci := 7) hB hT hl.1 (m_must l D cI cZ cS cR N0 g_65 hI h 116 s2_66 0 z t ct r_73 r_77 n_82 f_69 f_70 kn_88 kn_89 (by have q0 : (0 : Int32).toInt = 0 := (by decide); have q1 : (116 : Int32).toInt = 116 := (by decide); omega) (by have q0 : (0 : Int32).toInt = 0 := (by decide); have q1 : (116 : Int32).toInt = 116 := (by decide); omega) (by have q0 : (0 : Int32).toInt = 0 := (by decide); have q1 : (116 : Int32).toInt = 116 := (by decide); omega) (by have q0 : (0 : Int32).toInt = 0 := (by decide); have q1 : (116 : Int32).toInt = 116 := (by decide); omega) (by have q0 : (0 : Int32).toInt = 0 := (by decide); have q1 : (116 : Int32).toInt = 116 := (by decide); omega) (by have q0 : (0 : Int32).toInt = 0 := (by decide); have q1 : (116 : Int32).toInt = 116 := (by decide); omega) (by have q0 : (0 : Int32).toInt = 0 := (by decide); have q1 : (116 : Int32).toInt = 116 := (by decide); omega) hc) (ro_ci r_73 rfl) rfl k_975 k_65 k_972 k_974 k_24 (by decide +kernel) ⟨(Nat.le_of_ble_eq_true rfl), (Nat.le_of_ble_eq_true rfl)⟩ rfl (Nat.le_of_ble_eq_true rfl) ⟨(Nat.le_of_ble_eq_true rfl), (Nat.le_of_ble_eq_true rfl)⟩ dX7_readsAct_125 (fun v g_99 H locs hp hT => ?_)
        obtain ⟨s2_100, w2_101, rfl, hI, x_106, m_105, f_102, f_103, f_104⟩ := hp
        have hN : PL 8 g_99 na pa := hN.sm m_105 r_74 (by decide) rfl r_75 (by decide) rfl
        have hc : g_99.2.2.2.1 t = ct := (Sm.cf m_105 r_77 (by decide) rfl).trans hc
        have hWT : WT g_99 wt := hWT.sm m_105 r_76 (by decide) rfl
        have hU0 : UP g_99 na (g.2.2.2.1 na) false rz.toNatClampNeg 0 := hU0.sm m_105 r_74 (by decide) rfl
        have hU1 : UP g_99 pa (g.2.2.2.1 pa) false rz.toNatClampNeg 0 := hU1.sm m_105 r_75 (by decide) rfl
        have hU2 : UP g_99 nv (g.2.2.2.1 nv) false rz.toNatClampNeg 0 := hU2.sm m_105 r_78 (by decide) rfl
        have hM : Sm md_m_readsAct g g_99 := hM.tr hE (m_105.mo (fun r k h => mdle_m_readsAct_m_must h))
        have hE : Ex g g_99 := hE.tr x_106
        have r_107 : g_99.1 h = 8 := (Ex.r x_106 r_73 (by decide))
        have r_108 : g_99.1 na = 84 := (Ex.r x_106 r_74 (by decide))
        have r_109 : g_99.1 pa = 85 := (Ex.r x_106 r_75 (by decide))
        have r_110 : g_99.1 wt = 87 := (Ex.r x_106 r_76 (by decide))
        have r_111 : g_99.1 t = 79 := (Ex.r x_106 r_77 (by decide))
        have r_112 : g_99.1 nv = 86 := (Ex.r x_106 r_78 (by decide))
        have n_113 : g_99.2.2.1 na = 8 := (Ex.n x_106 r_74 (by decide) n_79)
        have n_114 : g_99.2.2.1 pa = 8 := (Ex.n x_106 r_75 (by decide) n_80)
        have n_115 : g_99.2.2.1 wt = 24 := (Ex.n x_106 r_76 (by decide) n_81)
        have n_116 : g_99.2.2.1 t = 100 := (Ex.n x_106 r_77 (by decide) n_82)
        have n_117 : g_99.2.2.1 nv = 8 := (Ex.n x_106 r_78 (by decide) n_83)
        have kn_118 : g_99.2.1 h 38 = .int rz := (Sm.v m_105 r_73 (by decide) rfl kn_84)
        have kn_119 : g_99.2.1 h 42 = .ref wt := (Sm.v m_105 r_73 (by decide) rfl kn_85)
        have kn_120 : g_99.2.1 h 39 = .ref na := (Sm.v m_105 r_73 (by decide) rfl kn_86)
        have kn_121 : g_99.2.1 h 40 = .ref pa := (Sm.v m_105 r_73 (by decide) rfl kn_87)
        have kn_122 : g_99.2.1 h 29 = .int z := (Sm.v m_105 r_73 (by decide) rfl kn_88)
        have kn_123 : g_99.2.1 h 28 = .ref t := (Sm.v m_105 r_73 (by decide) rfl kn_89)
        have kn_124 : g_99.2.1 h 41 = .ref nv := (Sm.v m_105 r_73 (by decide) rfl kn_90)
        have kn_125 : g_99.2.2.2.1 wt (0 : Int32).toNatClampNeg = 115 := (Sm.c m_105 r_76 (by decide) rfl kn_91)
        have kn_126 : g_99.2.2.2.1 wt (1 : Int32).toNatClampNeg = 101 := (Sm.c m_105 r_76 (by decide) rfl kn_92)
        have kn_127 : g_99.2.2.2.1 wt (2 : Int32).toNatClampNeg = 116 := (Sm.c m_105 r_76 (by decide) rfl kw_97)
        refine W.eq (g2 := F0 m 128 ls []) rfl ?_
        have qc_128 : (0 : Int32).toInt = 0 := (by decide)
        have qc_129 : (116 : Int32).toInt = 116 := (by decide)
        rcases f_102 with ⟨hx_, -⟩ | ⟨-, ht_s2_100, hs_s2_100, hz_s2_100, hw_s2_100⟩ | ⟨-, ht_s2_100, hs_s2_100, hw_s2_100⟩
        · exact absurd hx_ (by decide)
        · have ew_ : w2_101 = 0 := i_inj (hw_s2_100.trans (by decide))
          subst ew_
          rw [show s2_66.toInt = s0.toInt + 2 by omega] at ht_s2_100
          refine lv_iinc (v := 3) (lv' := [(2, .int 3), (1, .int 0), (0, .ref h)]) hx hb dX7_readsAct_128 hl (k := 0) rfl (by decide) (by decide) rfl (fun ls hl => ?_)
          refine lv_goto (tgt := 89) hx hb dX7_readsAct_131 (by decide) ?_
          refine lv_iload_n hx hb dX7_readsAct_89 rfl (lv_at hl 0 rfl) ?_
          refine lv_iconst (v := 3) hx hb dX7_readsAct_90 (by decide) ?_
          refine lv_icmp_ge (tgt := 134) hx hb dX7_readsAct_91 (by decide) (fun c_ => ?_) (fun c_ => absurd (by decide) c_)
          refine lv_aload_n hx hb dX7_readsAct_134 rfl (lv_at hl 2 rfl) ?_
          refine lv_bipush (v := 32) hx hb dX7_readsAct_135 (by decide) ?_
          refine t_callV (n := 1) (As := [.int 32]) (rest := []) (ci := 7) hB hT hl.1 (m_must l D cI cZ cS cR N0 g_99 hI h 32 s2_100 0 z t ct r_107 r_111 n_116 f_103 f_104 kn_122 kn_123 (by have q0 : (0 : Int32).toInt = 0 := (by decide); have q1 : (32 : Int32).toInt = 32 := (by decide); omega) (by have q0 : (0 : Int32).toInt = 0 := (by decide); have q1 : (32 : Int32).toInt = 32 := (by decide); omega) (by have q0 : (0 : Int32).toInt = 0 := (by decide); have q1 : (32 : Int32).toInt = 32 := (by decide); omega) (by have q0 : (0 : Int32).toInt = 0 := (by decide); have q1 : (32 : Int32).toInt = 32 := (by decide); omega) (by have q0 : (0 : Int32).toInt = 0 := (by decide); have q1 : (32 : Int32).toInt = 32 := (by decide); omega) (by have q0 : (0 : Int32).toInt = 0 := (by decide); have q1 : (32 : Int32).toInt = 32 := (by decide); omega) (by have q0 : (0 : Int32).toInt = 0 := (by decide); have q1 : (32 : Int32).toInt = 32 := (by decide); omega) hc) (ro_ci r_107 rfl) rfl k_975 k_65 k_972 k_974 k_24 (by decide +kernel) ⟨(Nat.le_of_ble_eq_true rfl), (Nat.le_of_ble_eq_true rfl)⟩ rfl (Nat.le_of_ble_eq_true rfl) ⟨(Nat.le_of_ble_eq_true rfl), (Nat.le_of_ble_eq_true rfl)⟩ dX7_readsAct_137 (fun v g_130 H locs hp hT => ?_)
          obtain ⟨s2_131, w2_132, rfl, hI, x_137, m_136, f_133, f_134, f_135⟩ := hp
          have hN : PL 8 g_130 na pa := hN.sm m_136 r_108 (by decide) rfl r_109 (by decide) rfl
          have hc : g_130.2.2.2.1 t = ct := (Sm.cf m_136 r_111 (by decide) rfl).trans hc
          have hWT : WT g_130 wt := hWT.sm m_136 r_110 (by decide) rfl
          have hU0 : UP g_130 na (g.2.2.2.1 na) false rz.toNatClampNeg 0 := hU0.sm m_136 r_108 (by decide) rfl
          have hU1 : UP g_130 pa (g.2.2.2.1 pa) false rz.toNatClampNeg 0 := hU1.sm m_136 r_109 (by decide) rfl
          have hU2 : UP g_130 nv (g.2.2.2.1 nv) false rz.toNatClampNeg 0 := hU2.sm m_136 r_112 (by decide) rfl
          have hM : Sm md_m_readsAct g g_130 := hM.tr hE (m_136.mo (fun r k h => mdle_m_readsAct_m_must h))
          have hE : Ex g g_130 := hE.tr x_137
          have r_138 : g_130.1 h = 8 := (Ex.r x_137 r_107 (by decide))
          have r_139 : g_130.1 na = 84 := (Ex.r x_137 r_108 (by decide))
          have r_140 : g_130.1 pa = 85 := (Ex.r x_137 r_109 (by decide))
          have r_141 : g_130.1 wt = 87 := (Ex.r x_137 r_110 (by decide))
          have r_142 : g_130.1 t = 79 := (Ex.r x_137 r_111 (by decide))
          have r_143 : g_130.1 nv = 86 := (Ex.r x_137 r_112 (by decide))
          have n_144 : g_130.2.2.1 na = 8 := (Ex.n x_137 r_108 (by decide) n_113)
          have n_145 : g_130.2.2.1 pa = 8 := (Ex.n x_137 r_109 (by decide) n_114)
          have n_146 : g_130.2.2.1 wt = 24 := (Ex.n x_137 r_110 (by decide) n_115)
          have n_147 : g_130.2.2.1 t = 100 := (Ex.n x_137 r_111 (by decide) n_116)
          have n_148 : g_130.2.2.1 nv = 8 := (Ex.n x_137 r_112 (by decide) n_117)
          have kn_149 : g_130.2.1 h 38 = .int rz := (Sm.v m_136 r_107 (by decide) rfl kn_118)
          have kn_150 : g_130.2.1 h 42 = .ref wt := (Sm.v m_136 r_107 (by decide) rfl kn_119)
          have kn_151 : g_130.2.1 h 39 = .ref na := (Sm.v m_136 r_107 (by decide) rfl kn_120)
          have kn_152 : g_130.2.1 h 40 = .ref pa := (Sm.v m_136 r_107 (by decide) rfl kn_121)
          have kn_153 : g_130.2.1 h 29 = .int z := (Sm.v m_136 r_107 (by decide) rfl kn_122)
          have kn_154 : g_130.2.1 h 28 = .ref t := (Sm.v m_136 r_107 (by decide) rfl kn_123)
          have kn_155 : g_130.2.1 h 41 = .ref nv := (Sm.v m_136 r_107 (by decide) rfl kn_124)
          have kn_156 : g_130.2.2.2.1 wt (0 : Int32).toNatClampNeg = 115 := (Sm.c m_136 r_110 (by decide) rfl kn_125)
          have kn_157 : g_130.2.2.2.1 wt (1 : Int32).toNatClampNeg = 101 := (Sm.c m_136 r_110 (by decide) rfl kn_126)
          have kn_158 : g_130.2.2.2.1 wt (2 : Int32).toNatClampNeg = 116 := (Sm.c m_136 r_110 (by decide) rfl kn_127)
          refine W.eq (g2 := F0 m 140 ls []) rfl ?_
          have qc_159 : (0 : Int32).toInt = 0 := (by decide)
          have qc_160 : (32 : Int32).toInt = 32 := (by decide)
          rcases f_133 with ⟨hx_, -⟩ | ⟨-, ht_s2_131, hs_s2_131, hz_s2_131, hw_s2_131⟩ | ⟨-, ht_s2_131, hs_s2_131, hw_s2_131⟩
          · exact absurd hx_ (by decide)
          · have ew_ : w2_132 = 0 := i_inj (hw_s2_131.trans (by decide))
            subst ew_
            rw [show s2_100.toInt = s0.toInt + 3 by omega] at ht_s2_131
            have hv_ := wo_0 (T := (txb ct z.toInt)) (p := s0.toInt) ⟨by omega, by omega, by omega, by omega⟩
            exact lt_m_readsAct_c0 l D cI cZ cS cR N0 g h s0 rz wt na pa z t ct nv r_h r_na n_na r_pa n_pa r_wt n_wt r_t n_t r_nv n_nv krz ks0 kw0 kwt kna kpa kz kt knv l_rz u_rz l_s0 u_s0 hN_0 hWT_0 l_z u_z hc_0 hB hr   g_130 (0 : Int32) s2_131 H locs ls hT hI hE hM (by decide) (by decide) (by omega) (by omega) kn_149 f_134 f_135 hN hc hWT hU0 hU1 hU2 ⟨by decide, hv_.1.trans (by decide), (by have q_ := hv_.2; omega), by omega⟩ (lv_sub hl [1, 2] rfl)
          · have ew_ : w2_132 = 1 := i_inj (hw_s2_131.trans (by decide))
            subst ew_
            rw [show s2_100.toInt = s0.toInt + 3 by omega] at ht_s2_131
            have hs_ : wsel ((txb ct z.toInt) s0.toInt) ((txb ct z.toInt) (s0.toInt + 1)) = 0 := ws_0 (by omega)
            have hq_ : qj (txb ct z.toInt) s0.toInt 0 = 3 := wp4_3 (by omega) (by omega) (by omega) (by omega)
            have hv_ := wd_f hs_ (Or.inr (fun h_ => absurd (hq_.symm.trans h_) (by decide)))
            exact lt_m_readsAct_c1 l D cI cZ cS cR N0 g h s0 rz wt na pa z t ct nv r_h r_na n_na r_pa n_pa r_wt n_wt r_t n_t r_nv n_nv krz ks0 kw0 kwt kna kpa kz kt knv l_rz u_rz l_s0 u_s0 hN_0 hWT_0 l_z u_z hc_0 hB hr   g_130 (0 : Int32) s2_131 H locs ls hT hI hE hM (by decide) (by decide) (by omega) (by omega) kn_149 f_134 f_135 hN hc hWT hU0 hU1 hU2 (ac_n hv_.1 (by have q_ := hv_.2; rw [hq_] at q_; omega)) (lv_sub hl [1, 2] rfl)
        · have ew_ : w2_101 = 1 := i_inj (hw_s2_100.trans (by decide))
          subst ew_
          rw [show s2_66.toInt = s0.toInt + 2 by omega] at ht_s2_100
          refine lv_iinc (v := 3) (lv' := [(2, .int 3), (1, .int 0), (0, .ref h)]) hx hb dX7_readsAct_128 hl (k := 0) rfl (by decide) (by decide) rfl (fun ls hl => ?_)
          refine lv_goto (tgt := 89) hx hb dX7_readsAct_131 (by decide) ?_
          refine lv_iload_n hx hb dX7_readsAct_89 rfl (lv_at hl 0 rfl) ?_
          refine lv_iconst (v := 3) hx hb dX7_readsAct_90 (by decide) ?_
          refine lv_icmp_ge (tgt := 134) hx hb dX7_readsAct_91 (by decide) (fun c_ => ?_) (fun c_ => absurd (by decide) c_)
          refine lv_aload_n hx hb dX7_readsAct_134 rfl (lv_at hl 2 rfl) ?_
          refine lv_bipush (v := 32) hx hb dX7_readsAct_135 (by decide) ?_
          refine t_callV (n := 1) (As := [.int 32]) (rest := []) (ci := 7) hB hT hl.1 (m_must l D cI cZ cS cR N0 g_99 hI h 32 s2_100 1 z t ct r_107 r_111 n_116 f_103 f_104 kn_122 kn_123 (by have q0 : (1 : Int32).toInt = 1 := (by decide); have q1 : (32 : Int32).toInt = 32 := (by decide); omega) (by have q0 : (1 : Int32).toInt = 1 := (by decide); have q1 : (32 : Int32).toInt = 32 := (by decide); omega) (by have q0 : (1 : Int32).toInt = 1 := (by decide); have q1 : (32 : Int32).toInt = 32 := (by decide); omega) (by have q0 : (1 : Int32).toInt = 1 := (by decide); have q1 : (32 : Int32).toInt = 32 := (by decide); omega) (by have q0 : (1 : Int32).toInt = 1 := (by decide); have q1 : (32 : Int32).toInt = 32 := (by decide); omega) (by have q0 : (1 : Int32).toInt = 1 := (by decide); have q1 : (32 : Int32).toInt = 32 := (by decide); omega) (by have q0 : (1 : Int32).toInt = 1 := (by decide); have q1 : (32 : Int32).toInt = 32 := (by decide); omega) hc) (ro_ci r_107 rfl) rfl k_975 k_65 k_972 k_974 k_24 (by decide +kernel) ⟨(Nat.le_of_ble_eq_true rfl), (Nat.le_of_ble_eq_true rfl)⟩ rfl (Nat.le_of_ble_eq_true rfl) ⟨(Nat.le_of_ble_eq_true rfl), (Nat.le_of_ble_eq_true rfl)⟩ dX7_readsAct_137 (fun v g_161 H locs hp hT => ?_)
          obtain ⟨s2_162, w2_163, rfl, hI, x_168, m_167, f_164, f_165, f_166⟩ := hp
          have hN : PL 8 g_161 na pa := hN.sm m_167 r_108 (by decide) rfl r_109 (by decide) rfl
          have hc : g_161.2.2.2.1 t = ct := (Sm.cf m_167 r_111 (by decide) rfl).trans hc
          have hWT : WT g_161 wt := hWT.sm m_167 r_110 (by decide) rfl
          have hU0 : UP g_161 na (g.2.2.2.1 na) false rz.toNatClampNeg 0 := hU0.sm m_167 r_108 (by decide) rfl
          have hU1 : UP g_161 pa (g.2.2.2.1 pa) false rz.toNatClampNeg 0 := hU1.sm m_167 r_109 (by decide) rfl
          have hU2 : UP g_161 nv (g.2.2.2.1 nv) false rz.toNatClampNeg 0 := hU2.sm m_167 r_112 (by decide) rfl
          have hM : Sm md_m_readsAct g g_161 := hM.tr hE (m_167.mo (fun r k h => mdle_m_readsAct_m_must h))
          have hE : Ex g g_161 := hE.tr x_168
          have r_169 : g_161.1 h = 8 := (Ex.r x_168 r_107 (by decide))
          have r_170 : g_161.1 na = 84 := (Ex.r x_168 r_108 (by decide))
          have r_171 : g_161.1 pa = 85 := (Ex.r x_168 r_109 (by decide))
          have r_172 : g_161.1 wt = 87 := (Ex.r x_168 r_110 (by decide))
          have r_173 : g_161.1 t = 79 := (Ex.r x_168 r_111 (by decide))
          have r_174 : g_161.1 nv = 86 := (Ex.r x_168 r_112 (by decide))
          have n_175 : g_161.2.2.1 na = 8 := (Ex.n x_168 r_108 (by decide) n_113)
          have n_176 : g_161.2.2.1 pa = 8 := (Ex.n x_168 r_109 (by decide) n_114)
          have n_177 : g_161.2.2.1 wt = 24 := (Ex.n x_168 r_110 (by decide) n_115)
          have n_178 : g_161.2.2.1 t = 100 := (Ex.n x_168 r_111 (by decide) n_116)
          have n_179 : g_161.2.2.1 nv = 8 := (Ex.n x_168 r_112 (by decide) n_117)
          have kn_180 : g_161.2.1 h 38 = .int rz := (Sm.v m_167 r_107 (by decide) rfl kn_118)
          have kn_181 : g_161.2.1 h 42 = .ref wt := (Sm.v m_167 r_107 (by decide) rfl kn_119)
          have kn_182 : g_161.2.1 h 39 = .ref na := (Sm.v m_167 r_107 (by decide) rfl kn_120)
          have kn_183 : g_161.2.1 h 40 = .ref pa := (Sm.v m_167 r_107 (by decide) rfl kn_121)
          have kn_184 : g_161.2.1 h 29 = .int z := (Sm.v m_167 r_107 (by decide) rfl kn_122)
          have kn_185 : g_161.2.1 h 28 = .ref t := (Sm.v m_167 r_107 (by decide) rfl kn_123)
          have kn_186 : g_161.2.1 h 41 = .ref nv := (Sm.v m_167 r_107 (by decide) rfl kn_124)
          have kn_187 : g_161.2.2.2.1 wt (0 : Int32).toNatClampNeg = 115 := (Sm.c m_167 r_110 (by decide) rfl kn_125)
          have kn_188 : g_161.2.2.2.1 wt (1 : Int32).toNatClampNeg = 101 := (Sm.c m_167 r_110 (by decide) rfl kn_126)
          have kn_189 : g_161.2.2.2.1 wt (2 : Int32).toNatClampNeg = 116 := (Sm.c m_167 r_110 (by decide) rfl kn_127)
          refine W.eq (g2 := F0 m 140 ls []) rfl ?_
          have qc_190 : (1 : Int32).toInt = 1 := (by decide)
          have qc_191 : (32 : Int32).toInt = 32 := (by decide)
          rcases f_164 with ⟨-, hs_s2_162, hw_s2_162⟩ | ⟨hx_, -⟩ | ⟨hx_, -⟩
          rotate_left
          · exact absurd hx_ (by decide)
          · exact absurd hx_ (by decide)
          have ew_ : w2_163 = 1 := i_inj (hw_s2_162.trans (by decide))
          subst ew_
          have hs_ : wsel ((txb ct z.toInt) s0.toInt) ((txb ct z.toInt) (s0.toInt + 1)) = 0 := ws_0 (by omega)
          have hq_ : qj (txb ct z.toInt) s0.toInt 0 = 2 := wp4_2 (by omega) (by omega) (by omega)
          have hv_ := wd_f hs_ (Or.inr (fun h_ => absurd (hq_.symm.trans h_) (by decide)))
          exact lt_m_readsAct_c1 l D cI cZ cS cR N0 g h s0 rz wt na pa z t ct nv r_h r_na n_na r_pa n_pa r_wt n_wt r_t n_t r_nv n_nv krz ks0 kw0 kwt kna kpa kz kt knv l_rz u_rz l_s0 u_s0 hN_0 hWT_0 l_z u_z hc_0 hB hr   g_161 (0 : Int32) s2_162 H locs ls hT hI hE hM (by decide) (by decide) (by omega) (by omega) kn_180 f_165 f_166 hN hc hWT hU0 hU1 hU2 (ac_n hv_.1 (by have q_ := hv_.2; rw [hq_] at q_; omega)) (lv_sub hl [1, 2] rfl)
      · have ew_ : w2_67 = 1 := i_inj (hw_s2_66.trans (by decide))
        subst ew_
        rw [show s2_33.toInt = s0.toInt + 1 by omega] at ht_s2_66
        refine lv_iinc (v := 2) (lv' := [(2, .int 2), (1, .int 0), (0, .ref h)]) hx hb dX7_readsAct_128 hl (k := 0) rfl (by decide) (by decide) rfl (fun ls hl => ?_)
        refine lv_goto (tgt := 89) hx hb dX7_readsAct_131 (by decide) ?_
        refine lv_iload_n hx hb dX7_readsAct_89 rfl (lv_at hl 0 rfl) ?_
        refine lv_iconst (v := 3) hx hb dX7_readsAct_90 (by decide) ?_
        refine lv_icmp_ge (tgt := 134) hx hb dX7_readsAct_91 (by decide) (fun c_ => absurd c_ (by decide)) (fun c_ => ?_)
        refine lv_aload_n hx hb dX7_readsAct_94 rfl (lv_at hl 2 rfl) ?_
        refine t_get (ci := 7) (v := .int 1) hB hT (ro_ci r_73 rfl) rfl 37 (by decide) k_782 f_70 dX7_readsAct_95 ?_
        refine lv_if_ne (tgt := 134) hx hb dX7_readsAct_98 (by decide) (fun c_ => ?_) (fun c_ => absurd c_ (by decide))
        refine lv_aload_n hx hb dX7_readsAct_134 rfl (lv_at hl 2 rfl) ?_
        refine lv_bipush (v := 32) hx hb dX7_readsAct_135 (by decide) ?_
        refine t_callV (n := 1) (As := [.int 32]) (rest := []) (ci := 7) hB hT hl.1 (m_must l D cI cZ cS cR N0 g_65 hI h 32 s2_66 1 z t ct r_73 r_77 n_82 f_69 f_70 kn_88 kn_89 (by have q0 : (1 : Int32).toInt = 1 := (by decide); have q1 : (32 : Int32).toInt = 32 := (by decide); omega) (by have q0 : (1 : Int32).toInt = 1 := (by decide); have q1 : (32 : Int32).toInt = 32 := (by decide); omega) (by have q0 : (1 : Int32).toInt = 1 := (by decide); have q1 : (32 : Int32).toInt = 32 := (by decide); omega) (by have q0 : (1 : Int32).toInt = 1 := (by decide); have q1 : (32 : Int32).toInt = 32 := (by decide); omega) (by have q0 : (1 : Int32).toInt = 1 := (by decide); have q1 : (32 : Int32).toInt = 32 := (by decide); omega) (by have q0 : (1 : Int32).toInt = 1 := (by decide); have q1 : (32 : Int32).toInt = 32 := (by decide); omega) (by have q0 : (1 : Int32).toInt = 1 := (by decide); have q1 : (32 : Int32).toInt = 32 := (by decide); omega) hc) (ro_ci r_73 rfl) rfl k_975 k_65 k_972 k_974 k_24 (by decide +kernel) ⟨(Nat.le_of_ble_eq_true rfl), (Nat.le_of_ble_eq_true rfl)⟩ rfl (Nat.le_of_ble_eq_true rfl) ⟨(Nat.le_of_ble_eq_true rfl), (Nat.le_of_ble_eq_true rfl)⟩ dX7_readsAct_137 (fun v g_192 H locs hp hT => ?_)
        obtain ⟨s2_193, w2_194, rfl, hI, x_199, m_198, f_195, f_196, f_197⟩ := hp
        have hN : PL 8 g_192 na pa := hN.sm m_198 r_74 (by decide) rfl r_75 (by decide) rfl
        have hc : g_192.2.2.2.1 t = ct := (Sm.cf m_198 r_77 (by decide) rfl).trans hc
        have hWT : WT g_192 wt := hWT.sm m_198 r_76 (by decide) rfl
        have hU0 : UP g_192 na (g.2.2.2.1 na) false rz.toNatClampNeg 0 := hU0.sm m_198 r_74 (by decide) rfl
        have hU1 : UP g_192 pa (g.2.2.2.1 pa) false rz.toNatClampNeg 0 := hU1.sm m_198 r_75 (by decide) rfl
        have hU2 : UP g_192 nv (g.2.2.2.1 nv) false rz.toNatClampNeg 0 := hU2.sm m_198 r_78 (by decide) rfl
        have hM : Sm md_m_readsAct g g_192 := hM.tr hE (m_198.mo (fun r k h => mdle_m_readsAct_m_must h))
        have hE : Ex g g_192 := hE.tr x_199
        have r_200 : g_192.1 h = 8 := (Ex.r x_199 r_73 (by decide))
        have r_201 : g_192.1 na = 84 := (Ex.r x_199 r_74 (by decide))
        have r_202 : g_192.1 pa = 85 := (Ex.r x_199 r_75 (by decide))
        have r_203 : g_192.1 wt = 87 := (Ex.r x_199 r_76 (by decide))
        have r_204 : g_192.1 t = 79 := (Ex.r x_199 r_77 (by decide))
        have r_205 : g_192.1 nv = 86 := (Ex.r x_199 r_78 (by decide))
        have n_206 : g_192.2.2.1 na = 8 := (Ex.n x_199 r_74 (by decide) n_79)
        have n_207 : g_192.2.2.1 pa = 8 := (Ex.n x_199 r_75 (by decide) n_80)
        have n_208 : g_192.2.2.1 wt = 24 := (Ex.n x_199 r_76 (by decide) n_81)
        have n_209 : g_192.2.2.1 t = 100 := (Ex.n x_199 r_77 (by decide) n_82)
        have n_210 : g_192.2.2.1 nv = 8 := (Ex.n x_199 r_78 (by decide) n_83)
        have kn_211 : g_192.2.1 h 38 = .int rz := (Sm.v m_198 r_73 (by decide) rfl kn_84)
        have kn_212 : g_192.2.1 h 42 = .ref wt := (Sm.v m_198 r_73 (by decide) rfl kn_85)
        have kn_213 : g_192.2.1 h 39 = .ref na := (Sm.v m_198 r_73 (by decide) rfl kn_86)
        have kn_214 : g_192.2.1 h 40 = .ref pa := (Sm.v m_198 r_73 (by decide) rfl kn_87)
        have kn_215 : g_192.2.1 h 29 = .int z := (Sm.v m_198 r_73 (by decide) rfl kn_88)
        have kn_216 : g_192.2.1 h 28 = .ref t := (Sm.v m_198 r_73 (by decide) rfl kn_89)
        have kn_217 : g_192.2.1 h 41 = .ref nv := (Sm.v m_198 r_73 (by decide) rfl kn_90)
        have kn_218 : g_192.2.2.2.1 wt (0 : Int32).toNatClampNeg = 115 := (Sm.c m_198 r_76 (by decide) rfl kn_91)
        have kn_219 : g_192.2.2.2.1 wt (1 : Int32).toNatClampNeg = 101 := (Sm.c m_198 r_76 (by decide) rfl kn_92)
        refine W.eq (g2 := F0 m 140 ls []) rfl ?_
        have qc_220 : (1 : Int32).toInt = 1 := (by decide)
        have qc_221 : (32 : Int32).toInt = 32 := (by decide)
        rcases f_195 with ⟨-, hs_s2_193, hw_s2_193⟩ | ⟨hx_, -⟩ | ⟨hx_, -⟩
        rotate_left
        · exact absurd hx_ (by decide)
        · exact absurd hx_ (by decide)
        have ew_ : w2_194 = 1 := i_inj (hw_s2_193.trans (by decide))
        subst ew_
        have hs_ : wsel ((txb ct z.toInt) s0.toInt) ((txb ct z.toInt) (s0.toInt + 1)) = 0 := ws_0 (by omega)
        have hq_ : qj (txb ct z.toInt) s0.toInt 0 = 1 := wp4_1 (by omega) (by omega)
        have hv_ := wd_f hs_ (Or.inr (fun h_ => absurd (hq_.symm.trans h_) (by decide)))
        exact lt_m_readsAct_c1 l D cI cZ cS cR N0 g h s0 rz wt na pa z t ct nv r_h r_na n_na r_pa n_pa r_wt n_wt r_t n_t r_nv n_nv krz ks0 kw0 kwt kna kpa kz kt knv l_rz u_rz l_s0 u_s0 hN_0 hWT_0 l_z u_z hc_0 hB hr   g_192 (0 : Int32) s2_193 H locs ls hT hI hE hM (by decide) (by decide) (by omega) (by omega) kn_211 f_196 f_197 hN hc hWT hU0 hU1 hU2 (ac_n hv_.1 (by have q_ := hv_.2; rw [hq_] at q_; omega)) (lv_sub hl [1, 2] rfl)
    · have ew_ : w2_34 = 1 := i_inj (hw_s2_33.trans (by decide))
      subst ew_
      refine lv_iinc (v := 1) (lv' := [(2, .int 1), (1, .int 0), (0, .ref h)]) hx hb dX7_readsAct_128 hl (k := 0) rfl (by decide) (by decide) rfl (fun ls hl => ?_)
      refine lv_goto (tgt := 89) hx hb dX7_readsAct_131 (by decide) ?_
      refine lv_iload_n hx hb dX7_readsAct_89 rfl (lv_at hl 0 rfl) ?_
      refine lv_iconst (v := 3) hx hb dX7_readsAct_90 (by decide) ?_
      refine lv_icmp_ge (tgt := 134) hx hb dX7_readsAct_91 (by decide) (fun c_ => absurd c_ (by decide)) (fun c_ => ?_)
      refine lv_aload_n hx hb dX7_readsAct_94 rfl (lv_at hl 2 rfl) ?_
      refine t_get (ci := 7) (v := .int 1) hB hT (ro_ci r_40 rfl) rfl 37 (by decide) k_782 f_37 dX7_readsAct_95 ?_
      refine lv_if_ne (tgt := 134) hx hb dX7_readsAct_98 (by decide) (fun c_ => ?_) (fun c_ => absurd c_ (by decide))
      refine lv_aload_n hx hb dX7_readsAct_134 rfl (lv_at hl 2 rfl) ?_
      refine lv_bipush (v := 32) hx hb dX7_readsAct_135 (by decide) ?_
      refine t_callV (n := 1) (As := [.int 32]) (rest := []) (ci := 7) hB hT hl.1 (m_must l D cI cZ cS cR N0 g_32 hI h 32 s2_33 1 z t ct r_40 r_44 n_49 f_36 f_37 kn_55 kn_56 (by have q0 : (1 : Int32).toInt = 1 := (by decide); have q1 : (32 : Int32).toInt = 32 := (by decide); omega) (by have q0 : (1 : Int32).toInt = 1 := (by decide); have q1 : (32 : Int32).toInt = 32 := (by decide); omega) (by have q0 : (1 : Int32).toInt = 1 := (by decide); have q1 : (32 : Int32).toInt = 32 := (by decide); omega) (by have q0 : (1 : Int32).toInt = 1 := (by decide); have q1 : (32 : Int32).toInt = 32 := (by decide); omega) (by have q0 : (1 : Int32).toInt = 1 := (by decide); have q1 : (32 : Int32).toInt = 32 := (by decide); omega) (by have q0 : (1 : Int32).toInt = 1 := (by decide); have q1 : (32 : Int32).toInt = 32 := (by decide); omega) (by have q0 : (1 : Int32).toInt = 1 := (by decide); have q1 : (32 : Int32).toInt = 32 := (by decide); omega) hc) (ro_ci r_40 rfl) rfl k_975 k_65 k_972 k_974 k_24 (by decide +kernel) ⟨(Nat.le_of_ble_eq_true rfl), (Nat.le_of_ble_eq_true rfl)⟩ rfl (Nat.le_of_ble_eq_true rfl) ⟨(Nat.le_of_ble_eq_true rfl), (Nat.le_of_ble_eq_true rfl)⟩ dX7_readsAct_137 (fun v g_222 H locs hp hT => ?_)
      obtain ⟨s2_223, w2_224, rfl, hI, x_229, m_228, f_225, f_226, f_227⟩ := hp
      have hN : PL 8 g_222 na pa := hN.sm m_228 r_41 (by decide) rfl r_42 (by decide) rfl
      have hc : g_222.2.2.2.1 t = ct := (Sm.cf m_228 r_44 (by decide) rfl).trans hc
      have hWT : WT g_222 wt := hWT.sm m_228 r_43 (by decide) rfl
      have hU0 : UP g_222 na (g.2.2.2.1 na) false rz.toNatClampNeg 0 := hU0.sm m_228 r_41 (by decide) rfl
      have hU1 : UP g_222 pa (g.2.2.2.1 pa) false rz.toNatClampNeg 0 := hU1.sm m_228 r_42 (by decide) rfl
      have hU2 : UP g_222 nv (g.2.2.2.1 nv) false rz.toNatClampNeg 0 := hU2.sm m_228 r_45 (by decide) rfl
      have hM : Sm md_m_readsAct g g_222 := hM.tr hE (m_228.mo (fun r k h => mdle_m_readsAct_m_must h))
      have hE : Ex g g_222 := hE.tr x_229
      have r_230 : g_222.1 h = 8 := (Ex.r x_229 r_40 (by decide))
      have r_231 : g_222.1 na = 84 := (Ex.r x_229 r_41 (by decide))
      have r_232 : g_222.1 pa = 85 := (Ex.r x_229 r_42 (by decide))
      have r_233 : g_222.1 wt = 87 := (Ex.r x_229 r_43 (by decide))
      have r_234 : g_222.1 t = 79 := (Ex.r x_229 r_44 (by decide))
      have r_235 : g_222.1 nv = 86 := (Ex.r x_229 r_45 (by decide))
      have n_236 : g_222.2.2.1 na = 8 := (Ex.n x_229 r_41 (by decide) n_46)
      have n_237 : g_222.2.2.1 pa = 8 := (Ex.n x_229 r_42 (by decide) n_47)
      have n_238 : g_222.2.2.1 wt = 24 := (Ex.n x_229 r_43 (by decide) n_48)
      have n_239 : g_222.2.2.1 t = 100 := (Ex.n x_229 r_44 (by decide) n_49)
      have n_240 : g_222.2.2.1 nv = 8 := (Ex.n x_229 r_45 (by decide) n_50)
      have kn_241 : g_222.2.1 h 38 = .int rz := (Sm.v m_228 r_40 (by decide) rfl kn_51)
      have kn_242 : g_222.2.1 h 42 = .ref wt := (Sm.v m_228 r_40 (by decide) rfl kn_52)
      have kn_243 : g_222.2.1 h 39 = .ref na := (Sm.v m_228 r_40 (by decide) rfl kn_53)
      have kn_244 : g_222.2.1 h 40 = .ref pa := (Sm.v m_228 r_40 (by decide) rfl kn_54)
      have kn_245 : g_222.2.1 h 29 = .int z := (Sm.v m_228 r_40 (by decide) rfl kn_55)
      have kn_246 : g_222.2.1 h 28 = .ref t := (Sm.v m_228 r_40 (by decide) rfl kn_56)
      have kn_247 : g_222.2.1 h 41 = .ref nv := (Sm.v m_228 r_40 (by decide) rfl kn_57)
      have kn_248 : g_222.2.2.2.1 wt (0 : Int32).toNatClampNeg = 115 := (Sm.c m_228 r_43 (by decide) rfl kn_58)
      refine W.eq (g2 := F0 m 140 ls []) rfl ?_
      have qc_249 : (1 : Int32).toInt = 1 := (by decide)
      have qc_250 : (32 : Int32).toInt = 32 := (by decide)
      rcases f_225 with ⟨-, hs_s2_223, hw_s2_223⟩ | ⟨hx_, -⟩ | ⟨hx_, -⟩
      rotate_left
      · exact absurd hx_ (by decide)
      · exact absurd hx_ (by decide)
      have ew_ : w2_224 = 1 := i_inj (hw_s2_223.trans (by decide))
      subst ew_
      have hs_ : wsel ((txb ct z.toInt) s0.toInt) ((txb ct z.toInt) (s0.toInt + 1)) = 0 := ws_0 (by omega)
      have hq_ : qj (txb ct z.toInt) s0.toInt 0 = 0 := wp4_0 (by omega)
      have hv_ := wd_f hs_ (Or.inr (fun h_ => absurd (hq_.symm.trans h_) (by decide)))
      exact lt_m_readsAct_c1 l D cI cZ cS cR N0 g h s0 rz wt na pa z t ct nv r_h r_na n_na r_pa n_pa r_wt n_wt r_t n_t r_nv n_nv krz ks0 kw0 kwt kna kpa kz kt knv l_rz u_rz l_s0 u_s0 hN_0 hWT_0 l_z u_z hc_0 hB hr   g_222 (0 : Int32) s2_223 H locs ls hT hI hE hM (by decide) (by decide) (by omega) (by omega) kn_241 f_226 f_227 hN hc hWT hU0 hU1 hU2 (ac_n hv_.1 (by have q_ := hv_.2; rw [hq_] at q_; omega)) (lv_sub hl [1, 2] rfl)
  · have c_27' : r_19.toInt ≠ 115 := i_ne c_27 rfl (by decide)
    refine lv_iinc (v := 1) (lv' := [(1, .int 1), (0, .ref h)]) hx hb dX7_readsAct_59 hl (k := 0) rfl (by decide) (by decide) rfl (fun ls hl => ?_)
    refine lv_goto (tgt := 34) hx hb dX7_readsAct_62 (by decide) ?_
    exact lt_m_readsAct_w1 l D cI cZ cS cR N0 g h s0 rz wt na pa z t ct nv r_h r_na n_na r_pa n_pa r_wt n_wt r_t n_t r_nv n_nv krz ks0 kw0 kwt kna kpa kz kt knv l_rz u_rz l_s0 u_s0 hN_0 hWT_0 l_z u_z hc_0 hB hr   g1 H locs ls hT hI hE hM kp0 kp1 kp2 hN hc hWT hU0 hU1 hU2 (by omega) (lv_sub hl [0, 1] rfl)
set_option maxHeartbeats 4000000 in
set_option maxRecDepth 100000 in
theorem m_readsAct (l : Launch) (D : va_G) (cI cZ cS cR : ClassId) (N0 : NT) (g : GS) (hI : Inv g) (h : Nat) (s0 : Int32) (rz : Int32) (wt : Nat) (na : Nat) (pa : Nat) (z : Int32) (t : Nat) (ct : Nat → Int32) (nv : Nat) (r_h : g.1 h = 8) (r_na : g.1 na = 84) (n_na : g.2.2.1 na = 8) (r_pa : g.1 pa = 85) (n_pa : g.2.2.1 pa = 8) (r_wt : g.1 wt = 87) (n_wt : g.2.2.1 wt = 24) (r_t : g.1 t = 79) (n_t : g.2.2.1 t = 100) (r_nv : g.1 nv = 86) (n_nv : g.2.2.1 nv = 8) (krz : g.2.1 h 38 = .int rz) (ks0 : g.2.1 h 36 = .int s0) (kw0 : g.2.1 h 37 = .int 0) (kwt : g.2.1 h 42 = .ref wt) (kna : g.2.1 h 39 = .ref na) (kpa : g.2.1 h 40 = .ref pa) (kz : g.2.1 h 29 = .int z) (kt : g.2.1 h 28 = .ref t) (knv : g.2.1 h 41 = .ref nv) (l_rz : 0 ≤ rz.toInt) (u_rz : rz.toInt ≤ 7) (l_s0 : 0 ≤ s0.toInt) (u_s0 : s0.toInt ≤ 100) (hN_0 : PL 8 g na pa) (hWT_0 : WT g wt) (l_z : 0 ≤ z.toInt) (u_z : z.toInt ≤ 100) (hc_0 : g.2.2.2.1 t = ct) : Ty l D cI cZ cS cR N0 yX7_readsAct cX7_readsAct 4 none 2 0 0 [.ref h] g (fun v g' => ∃ (z2 : Int32) (s2 : Int32) (w2 : Int32) (w_ : Int32) (c_ : Int32) (v_ : Int32), v = none ∧ Inv g' ∧ Ex g g' ∧ Sm md_m_readsAct g g' ∧ ((w2 = 1 ∧ ac (txb ct z.toInt) s0.toInt = (false, s2.toInt)) ∨ (w2 = 0 ∧ ac (txb ct z.toInt) s0.toInt = (true, s2.toInt) ∧ s2.toInt ≤ z.toInt ∧ w_.toInt = wdr (txb ct z.toInt) s0.toInt ∧ c_.toInt = acc (txb ct z.toInt) s0.toInt ∧ v_.toInt = acv (txb ct z.toInt) s0.toInt)) ∧ (g'.2.1 h 38 = .int z2) ∧ (z2.toInt = rz.toInt + 1) ∧ (PL 8 g' na pa) ∧ (g'.2.1 h 36 = .int s2) ∧ (g'.2.1 h 37 = .int w2) ∧ (0 ≤ s2.toInt ∧ s2.toInt ≤ 100) ∧ (UP g' na (g.2.2.2.1 na) true rz.toNatClampNeg w_) ∧ (UP g' pa (g.2.2.2.1 pa) true rz.toNatClampNeg c_) ∧ (UP g' nv (g.2.2.2.1 nv) true rz.toNatClampNeg v_)) := by
  refine t_enter (by decide) (Nat.le_of_ble_eq_true rfl) ?_
  intro p e s m args below meth c ls H locs hB hr hin hl hT
  have hx := hB.1
  have hb := hB.2.1
  have hl : lv_has ls 4 [(0, .ref h)] := hl
  have hE : Ex g g := Ex.rf
  have hM : Sm md_m_readsAct g g := Sm.rf
  have hN := hN_0
  have hWT := hWT_0
  have hc := hc_0
  have hU0 : UP g na (g.2.2.2.1 na) false rz.toNatClampNeg 0 := UP.zero rfl
  have hU1 : UP g pa (g.2.2.2.1 pa) false rz.toNatClampNeg 0 := UP.zero rfl
  have hU2 : UP g nv (g.2.2.2.1 nv) false rz.toNatClampNeg 0 := UP.zero rfl
  refine lv_aload_n hx hb dX7_readsAct_0 rfl (lv_at hl 0 rfl) ?_
  refine lv_aload_n hx hb dX7_readsAct_1 rfl (lv_at hl 0 rfl) ?_
  refine t_get (ci := 7) (v := .int s0) hB hT (ro_ci r_h rfl) rfl 36 (by decide) k_781 ks0 dX7_readsAct_2 ?_
  refine t_callV (n := 1) (As := [.int s0]) (rest := []) (ci := 7) hB hT hl.1 (m_byteAt l D cI cZ cS cR N0 g hI h s0 z t ct r_h r_t n_t kz kt (by omega) (by omega) (by omega) (by omega) hc) (ro_ci r_h rfl) rfl k_971 k_65 k_968 k_970 k_23 (by decide +kernel) ⟨(Nat.le_of_ble_eq_true rfl), (Nat.le_of_ble_eq_true rfl)⟩ rfl (Nat.le_of_ble_eq_true rfl) ⟨(Nat.le_of_ble_eq_true rfl), (Nat.le_of_ble_eq_true rfl)⟩ dX7_readsAct_5 (fun v g_1 H locs hp hT => ?_)
  obtain ⟨r_2, rfl, eg, f_3, f_4, f_5⟩ := hp
  rw [eg] at hT
  clear eg
  refine W.eq (g2 := F0 m 8 ls [.int r_2]) rfl ?_
  refine lv_bipush (v := 97) hx hb dX7_readsAct_8 (by decide) ?_
  refine lv_icmp_ne (tgt := 32) hx hb dX7_readsAct_10 (by decide) (fun c_8 => ?_) (fun c_8 => ?_)
  · have c_8' : r_2.toInt ≠ 97 := i_ne c_8 rfl (by decide)
    refine lv_iconst (v := 0) hx hb dX7_readsAct_32 (by decide) ?_
    refine lv_istore_n (lv' := [(1, .int 0), (0, .ref h)]) hx hb dX7_readsAct_33 rfl hl (by decide) rfl (fun ls hl => ?_)
    exact lt_m_readsAct_w0 l D cI cZ cS cR N0 g h s0 rz wt na pa z t ct nv r_h r_na n_na r_pa n_pa r_wt n_wt r_t n_t r_nv n_nv krz ks0 kw0 kwt kna kpa kz kt knv l_rz u_rz l_s0 u_s0 hN_0 hWT_0 l_z u_z hc_0 hB hr   g H locs ls hT hI hE hM krz ks0 kw0 hN hc hWT hU0 hU1 hU2 (by omega) (lv_sub hl [0, 1] rfl)
  · have c_8' : r_2.toInt = 97 := i_eq c_8 rfl (by decide)
    refine lv_aload_n hx hb dX7_readsAct_13 rfl (lv_at hl 0 rfl) ?_
    refine lv_aload_n hx hb dX7_readsAct_14 rfl (lv_at hl 0 rfl) ?_
    refine t_get (ci := 7) (v := .int s0) hB hT (ro_ci r_h rfl) rfl 36 (by decide) k_781 ks0 dX7_readsAct_15 ?_
    refine lv_iconst (v := 1) hx hb dX7_readsAct_18 (by decide) ?_
    refine lv_iadd hx hb dX7_readsAct_19 ?_
    refine lv_topi (fun z_9 ez_9 => ?_)
    have e_z_9 : z_9.toInt = s0.toInt + 1 := i_add ez_9 rfl (by decide) (by omega) (by omega)
    refine t_callV (n := 1) (As := [.int z_9]) (rest := []) (ci := 7) hB hT hl.1 (m_byteAt l D cI cZ cS cR N0 g hI h z_9 z t ct r_h r_t n_t kz kt (by omega) (by omega) (by omega) (by omega) hc) (ro_ci r_h rfl) rfl k_971 k_65 k_968 k_970 k_23 (by decide +kernel) ⟨(Nat.le_of_ble_eq_true rfl), (Nat.le_of_ble_eq_true rfl)⟩ rfl (Nat.le_of_ble_eq_true rfl) ⟨(Nat.le_of_ble_eq_true rfl), (Nat.le_of_ble_eq_true rfl)⟩ dX7_readsAct_20 (fun v g_10 H locs hp hT => ?_)
    obtain ⟨r_11, rfl, eg, f_12, f_13, f_14⟩ := hp
    rw [eg] at hT
    clear eg
    refine W.eq (g2 := F0 m 23 ls [.int r_11]) rfl ?_
    rw [show z_9.toInt = s0.toInt + 1 by omega] at f_12
    refine lv_bipush (v := 115) hx hb dX7_readsAct_23 (by decide) ?_
    refine lv_icmp_ne (tgt := 32) hx hb dX7_readsAct_25 (by decide) (fun c_17 => ?_) (fun c_17 => ?_)
    · have c_17' : r_11.toInt ≠ 115 := i_ne c_17 rfl (by decide)
      refine lv_iconst (v := 0) hx hb dX7_readsAct_32 (by decide) ?_
      refine lv_istore_n (lv' := [(1, .int 0), (0, .ref h)]) hx hb dX7_readsAct_33 rfl hl (by decide) rfl (fun ls hl => ?_)
      exact lt_m_readsAct_w0 l D cI cZ cS cR N0 g h s0 rz wt na pa z t ct nv r_h r_na n_na r_pa n_pa r_wt n_wt r_t n_t r_nv n_nv krz ks0 kw0 kwt kna kpa kz kt knv l_rz u_rz l_s0 u_s0 hN_0 hWT_0 l_z u_z hc_0 hB hr   g H locs ls hT hI hE hM krz ks0 kw0 hN hc hWT hU0 hU1 hU2 (by omega) (lv_sub hl [0, 1] rfl)
    · have c_17' : r_11.toInt = 115 := i_eq c_17 rfl (by decide)
      refine lv_iconst (v := 5) hx hb dX7_readsAct_28 (by decide) ?_
      refine lv_goto (tgt := 33) hx hb dX7_readsAct_29 (by decide) ?_
      refine lv_istore_n (lv' := [(1, .int 5), (0, .ref h)]) hx hb dX7_readsAct_33 rfl hl (by decide) rfl (fun ls hl => ?_)
      exact lt_m_readsAct_w5 l D cI cZ cS cR N0 g h s0 rz wt na pa z t ct nv r_h r_na n_na r_pa n_pa r_wt n_wt r_t n_t r_nv n_nv krz ks0 kw0 kwt kna kpa kz kt knv l_rz u_rz l_s0 u_s0 hN_0 hWT_0 l_z u_z hc_0 hB hr   g H locs ls hT hI hE hM krz ks0 kw0 hN hc hWT hU0 hU1 hU2 (by omega) (lv_sub hl [0, 1] rfl)
