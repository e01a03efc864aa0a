theorem k_12 : Cond.selects RX5 yX5_serve yX5_serve ∈ tb := mt 12 (by decide +kernel) rfl
theorem k_13 : Cond.selects RX5 yX5_runActs yX5_runActs ∈ tb := mt 13 (by decide +kernel) rfl
theorem k_61 : Cond.initialized RX2 ∈ tb := mt 61 (by decide +kernel) rfl
theorem k_213 : Cond.fieldLink RX5 31 "TwiceOnce$World" "came" "I" ∈ tb := mt 213 (by decide +kernel) rfl
theorem k_215 : Cond.fieldLink RX5 34 "TwiceOnce$World" "breakAt" "I" ∈ tb := mt 215 (by decide +kernel) rfl
theorem k_216 : Cond.fieldLink RX5 37 "TwiceOnce$World" "broken" "Z" ∈ tb := mt 216 (by decide +kernel) rfl
theorem k_501 : Cond.methodLink RX5 85 yX3_dropOver ∈ tb := mt 501 (by decide +kernel) rfl
theorem k_502 : Cond.instanceMethod yX3_dropOver ∈ tb := mt 502 (by decide +kernel) rfl
theorem k_503 : Cond.selects RX3 yX3_dropOver yX3_dropOver ∈ tb := mt 503 (by decide +kernel) rfl
set_option maxRecDepth 20000 in
theorem k_504 : Cond.code yX3_dropOver cX3_dropOver 4 none ∈ tb := mt 504 rfl rfl
theorem k_505 : Cond.methodLink RX5 89 yX5_serve ∈ tb := mt 505 (by decide +kernel) rfl
theorem k_507 : Cond.instanceMethod yX5_serve ∈ tb := mt 507 (by decide +kernel) rfl
set_option maxRecDepth 20000 in
theorem k_508 : Cond.code yX5_serve cX5_serve 9 (some .int) ∈ tb := mt 508 rfl rfl
theorem k_509 : Cond.methodLink RX5 93 yX3_isMended ∈ tb := mt 509 (by decide +kernel) rfl
theorem k_513 : Cond.methodLink RX5 96 yX3_placeOfKey ∈ tb := mt 513 (by decide +kernel) rfl
theorem k_514 : Cond.instanceMethod yX3_placeOfKey ∈ tb := mt 514 (by decide +kernel) rfl
theorem k_515 : Cond.selects RX3 yX3_placeOfKey yX3_placeOfKey ∈ tb := mt 515 (by decide +kernel) rfl
set_option maxRecDepth 20000 in
theorem k_516 : Cond.code yX3_placeOfKey cX3_placeOfKey 3 (some .int) ∈ tb := mt 516 rfl rfl
theorem k_517 : Cond.methodLink RX5 99 yX3_keptAnswer ∈ tb := mt 517 (by decide +kernel) rfl
theorem k_518 : Cond.instanceMethod yX3_keptAnswer ∈ tb := mt 518 (by decide +kernel) rfl
theorem k_519 : Cond.selects RX3 yX3_keptAnswer yX3_keptAnswer ∈ tb := mt 519 (by decide +kernel) rfl
set_option maxRecDepth 20000 in
theorem k_520 : Cond.code yX3_keptAnswer cX3_keptAnswer 3 (some .int) ∈ tb := mt 520 rfl rfl
theorem k_521 : Cond.methodLink RX5 103 yX3_keep ∈ tb := mt 521 (by decide +kernel) rfl
theorem k_522 : Cond.instanceMethod yX3_keep ∈ tb := mt 522 (by decide +kernel) rfl
theorem k_523 : Cond.selects RX3 yX3_keep yX3_keep ∈ tb := mt 523 (by decide +kernel) rfl
set_option maxRecDepth 20000 in
theorem k_524 : Cond.code yX3_keep cX3_keep 5 none ∈ tb := mt 524 rfl rfl
theorem k_526 : Cond.methodLink RX5 107 yX3_beginKnown ∈ tb := mt 526 (by decide +kernel) rfl
theorem k_527 : Cond.instanceMethod yX3_beginKnown ∈ tb := mt 527 (by decide +kernel) rfl
theorem k_528 : Cond.selects RX3 yX3_beginKnown yX3_beginKnown ∈ tb := mt 528 (by decide +kernel) rfl
set_option maxRecDepth 20000 in
theorem k_529 : Cond.code yX3_beginKnown cX3_beginKnown 4 none ∈ tb := mt 529 rfl rfl
theorem k_531 : Cond.methodLink RX5 111 yX5_runActs ∈ tb := mt 531 (by decide +kernel) rfl
theorem k_533 : Cond.instanceMethod yX5_runActs ∈ tb := mt 533 (by decide +kernel) rfl
set_option maxRecDepth 20000 in
theorem k_534 : Cond.code yX5_runActs cX5_runActs 14 (some .int) ∈ tb := mt 534 rfl rfl
theorem k_535 : Cond.methodLink RX5 117 yX2_valueAt ∈ tb := mt 535 (by decide +kernel) rfl
theorem k_536 : Cond.instanceMethod yX2_valueAt ∈ tb := mt 536 (by decide +kernel) rfl
theorem k_537 : Cond.selects RX2 yX2_valueAt yX2_valueAt ∈ tb := mt 537 (by decide +kernel) rfl
set_option maxRecDepth 20000 in
theorem k_538 : Cond.code yX2_valueAt cX2_valueAt 5 (some .int) ∈ tb := mt 538 rfl rfl
theorem k_539 : Cond.methodLink RX5 120 yX3_isHeldBack ∈ tb := mt 539 (by decide +kernel) rfl
theorem k_540 : Cond.instanceMethod yX3_isHeldBack ∈ tb := mt 540 (by decide +kernel) rfl
theorem k_541 : Cond.selects RX3 yX3_isHeldBack yX3_isHeldBack ∈ tb := mt 541 (by decide +kernel) rfl
set_option maxRecDepth 20000 in
theorem k_542 : Cond.code yX3_isHeldBack cX3_isHeldBack 6 (some .boolean) ∈ tb := mt 542 rfl rfl
theorem k_543 : Cond.methodLink RX5 123 yX3_passesOver ∈ tb := mt 543 (by decide +kernel) rfl
theorem k_544 : Cond.instanceMethod yX3_passesOver ∈ tb := mt 544 (by decide +kernel) rfl
theorem k_545 : Cond.selects RX3 yX3_passesOver yX3_passesOver ∈ tb := mt 545 (by decide +kernel) rfl
set_option maxRecDepth 20000 in
theorem k_546 : Cond.code yX3_passesOver cX3_passesOver 4 (some .boolean) ∈ tb := mt 546 rfl rfl
theorem k_547 : Cond.methodLink RX5 126 yX3_perform ∈ tb := mt 547 (by decide +kernel) rfl
theorem k_548 : Cond.instanceMethod yX3_perform ∈ tb := mt 548 (by decide +kernel) rfl
theorem k_549 : Cond.selects RX3 yX3_perform yX3_perform ∈ tb := mt 549 (by decide +kernel) rfl
set_option maxRecDepth 20000 in
theorem k_550 : Cond.code yX3_perform cX3_perform 5 (some .int) ∈ tb := mt 550 rfl rfl
theorem k_551 : Cond.methodLink RX5 114 yX3_answerNewest ∈ tb := mt 551 (by decide +kernel) rfl
theorem k_552 : Cond.instanceMethod yX3_answerNewest ∈ tb := mt 552 (by decide +kernel) rfl
theorem k_553 : Cond.selects RX3 yX3_answerNewest yX3_answerNewest ∈ tb := mt 553 (by decide +kernel) rfl
set_option maxRecDepth 20000 in
theorem k_554 : Cond.code yX3_answerNewest cX3_answerNewest 3 none ∈ tb := mt 554 rfl rfl
theorem dX5_runActs_44 : decode cX5_runActs 44 = .ok (.iload 9, 2) := by decide +kernel
theorem dX5_runActs_46 : decode cX5_runActs 46 = .ok (.aload 5, 2) := by decide +kernel
theorem dX5_runActs_48 : decode cX5_runActs 48 = .ok (.getfield 68, 3) := by decide +kernel
theorem dX5_runActs_51 : decode cX5_runActs 51 = .ok (.if_icmp .ge 237, 3) := by decide +kernel
theorem dX5_runActs_288 : decode cX5_runActs 288 = .ok (.iload 7, 2) := by decide +kernel
theorem dX5_runActs_290 : decode cX5_runActs 290 = .ok (.ireturn, 1) := by decide +kernel
theorem dX5_runActs_54 : decode cX5_runActs 54 = .ok (.iload 8, 2) := by decide +kernel
theorem dX5_runActs_56 : decode cX5_runActs 56 = .ok (.ifCond .eq 9, 3) := by decide +kernel
theorem dX5_runActs_65 : decode cX5_runActs 65 = .ok (.aload_n 0, 1) := by decide +kernel
theorem dX5_runActs_66 : decode cX5_runActs 66 = .ok (.getfield 31, 3) := by decide +kernel
theorem dX5_runActs_69 : decode cX5_runActs 69 = .ok (.iconst 1, 1) := by decide +kernel
theorem dX5_runActs_70 : decode cX5_runActs 70 = .ok (.iadd, 1) := by decide +kernel
theorem dX5_runActs_71 : decode cX5_runActs 71 = .ok (.aload_n 0, 1) := by decide +kernel
theorem dX5_runActs_72 : decode cX5_runActs 72 = .ok (.getfield 34, 3) := by decide +kernel
theorem dX5_runActs_75 : decode cX5_runActs 75 = .ok (.if_icmp .lt 11, 3) := by decide +kernel
theorem dX5_runActs_86 : decode cX5_runActs 86 = .ok (.aload_n 0, 1) := by decide +kernel
theorem dX5_runActs_87 : decode cX5_runActs 87 = .ok (.dup, 1) := by decide +kernel
theorem dX5_runActs_88 : decode cX5_runActs 88 = .ok (.getfield 31, 3) := by decide +kernel
theorem dX5_runActs_91 : decode cX5_runActs 91 = .ok (.iconst 1, 1) := by decide +kernel
theorem dX5_runActs_92 : decode cX5_runActs 92 = .ok (.iadd, 1) := by decide +kernel
theorem dX5_runActs_93 : decode cX5_runActs 93 = .ok (.putfield 31, 3) := by decide +kernel
theorem dX5_runActs_96 : decode cX5_runActs 96 = .ok (.aload 5, 2) := by decide +kernel
theorem dX5_runActs_98 : decode cX5_runActs 98 = .ok (.iload 9, 2) := by decide +kernel
theorem dX5_runActs_100 : decode cX5_runActs 100 = .ok (.iload_n 2, 1) := by decide +kernel
theorem dX5_runActs_101 : decode cX5_runActs 101 = .ok (.iload 7, 2) := by decide +kernel
theorem dX5_runActs_103 : decode cX5_runActs 103 = .ok (.invokevirtual 117, 3) := by decide +kernel
theorem dX5_runActs_106 : decode cX5_runActs 106 = .ok (.istore 10, 2) := by decide +kernel
theorem dX5_runActs_108 : decode cX5_runActs 108 = .ok (.aload 4, 2) := by decide +kernel
theorem dX5_runActs_110 : decode cX5_runActs 110 = .ok (.iload 9, 2) := by decide +kernel
theorem dX5_runActs_112 : decode cX5_runActs 112 = .ok (.iload 10, 2) := by decide +kernel
theorem dX5_runActs_114 : decode cX5_runActs 114 = .ok (.invokevirtual 120, 3) := by decide +kernel
theorem dX5_runActs_117 : decode cX5_runActs 117 = .ok (.ifCond .eq 6, 3) := by decide +kernel
theorem dX5_runActs_120 : decode cX5_runActs 120 = .ok (.goto 162, 3) := by decide +kernel
theorem dX5_runActs_282 : decode cX5_runActs 282 = .ok (.iinc 9 1, 3) := by decide +kernel
theorem dX5_runActs_285 : decode cX5_runActs 285 = .ok (.goto (-241), 3) := by decide +kernel
theorem dX5_runActs_123 : decode cX5_runActs 123 = .ok (.aload 5, 2) := by decide +kernel
theorem dX5_runActs_125 : decode cX5_runActs 125 = .ok (.getfield 71, 3) := by decide +kernel
theorem dX5_runActs_128 : decode cX5_runActs 128 = .ok (.iload 9, 2) := by decide +kernel
theorem dX5_runActs_130 : decode cX5_runActs 130 = .ok (.iaload, 1) := by decide +kernel
theorem dX5_runActs_131 : decode cX5_runActs 131 = .ok (.istore 11, 2) := by decide +kernel
theorem dX5_runActs_133 : decode cX5_runActs 133 = .ok (.aload 5, 2) := by decide +kernel
theorem dX5_runActs_135 : decode cX5_runActs 135 = .ok (.getfield 74, 3) := by decide +kernel
theorem dX5_runActs_138 : decode cX5_runActs 138 = .ok (.iload 9, 2) := by decide +kernel
theorem dX5_runActs_140 : decode cX5_runActs 140 = .ok (.iaload, 1) := by decide +kernel
theorem dX5_runActs_141 : decode cX5_runActs 141 = .ok (.istore 12, 2) := by decide +kernel
theorem dX5_runActs_143 : decode cX5_runActs 143 = .ok (.iload 11, 2) := by decide +kernel
theorem dX5_runActs_145 : decode cX5_runActs 145 = .ok (.iconst 5, 1) := by decide +kernel
theorem dX5_runActs_146 : decode cX5_runActs 146 = .ok (.if_icmp .ne 61, 3) := by decide +kernel
theorem dX5_runActs_207 : decode cX5_runActs 207 = .ok (.iload 11, 2) := by decide +kernel
theorem dX5_runActs_209 : decode cX5_runActs 209 = .ok (.bipush 6, 2) := by decide +kernel
theorem dX5_runActs_211 : decode cX5_runActs 211 = .ok (.if_icmp .ne 31, 3) := by decide +kernel
theorem dX5_runActs_242 : decode cX5_runActs 242 = .ok (.iload 11, 2) := by decide +kernel
theorem dX5_runActs_244 : decode cX5_runActs 244 = .ok (.bipush 7, 2) := by decide +kernel
theorem dX5_runActs_246 : decode cX5_runActs 246 = .ok (.if_icmp .ne 17, 3) := by decide +kernel
theorem dX5_runActs_263 : decode cX5_runActs 263 = .ok (.iload 11, 2) := by decide +kernel
theorem dX5_runActs_265 : decode cX5_runActs 265 = .ok (.iconst 5, 1) := by decide +kernel
theorem dX5_runActs_266 : decode cX5_runActs 266 = .ok (.if_icmp .eq 16, 3) := by decide +kernel
theorem dX5_runActs_269 : decode cX5_runActs 269 = .ok (.aload 4, 2) := by decide +kernel
theorem dX5_runActs_271 : decode cX5_runActs 271 = .ok (.iload 9, 2) := by decide +kernel
theorem dX5_runActs_273 : decode cX5_runActs 273 = .ok (.iload 10, 2) := by decide +kernel
theorem dX5_runActs_275 : decode cX5_runActs 275 = .ok (.iload 7, 2) := by decide +kernel
theorem dX5_runActs_277 : decode cX5_runActs 277 = .ok (.invokevirtual 126, 3) := by decide +kernel
theorem dX5_runActs_280 : decode cX5_runActs 280 = .ok (.istore 7, 2) := by decide +kernel
theorem dX5_runActs_249 : decode cX5_runActs 249 = .ok (.aload 4, 2) := by decide +kernel
theorem dX5_runActs_251 : decode cX5_runActs 251 = .ok (.iload 9, 2) := by decide +kernel
theorem dX5_runActs_253 : decode cX5_runActs 253 = .ok (.iload 10, 2) := by decide +kernel
theorem dX5_runActs_255 : decode cX5_runActs 255 = .ok (.invokevirtual 123, 3) := by decide +kernel
theorem dX5_runActs_258 : decode cX5_runActs 258 = .ok (.istore 8, 2) := by decide +kernel
theorem dX5_runActs_260 : decode cX5_runActs 260 = .ok (.goto 22, 3) := by decide +kernel
theorem dX5_runActs_214 : decode cX5_runActs 214 = .ok (.aload_n 0, 1) := by decide +kernel
theorem dX5_runActs_215 : decode cX5_runActs 215 = .ok (.getfield 24, 3) := by decide +kernel
theorem dX5_runActs_218 : decode cX5_runActs 218 = .ok (.aload_n 0, 1) := by decide +kernel
theorem dX5_runActs_219 : decode cX5_runActs 219 = .ok (.getfield 28, 3) := by decide +kernel
theorem dX5_runActs_222 : decode cX5_runActs 222 = .ok (.sipush 511, 3) := by decide +kernel
theorem dX5_runActs_225 : decode cX5_runActs 225 = .ok (.iand, 1) := by decide +kernel
theorem dX5_runActs_226 : decode cX5_runActs 226 = .ok (.iload 10, 2) := by decide +kernel
theorem dX5_runActs_228 : decode cX5_runActs 228 = .ok (.iastore, 1) := by decide +kernel
theorem dX5_runActs_229 : decode cX5_runActs 229 = .ok (.aload_n 0, 1) := by decide +kernel
theorem dX5_runActs_230 : decode cX5_runActs 230 = .ok (.dup, 1) := by decide +kernel
theorem dX5_runActs_231 : decode cX5_runActs 231 = .ok (.getfield 28, 3) := by decide +kernel
theorem dX5_runActs_234 : decode cX5_runActs 234 = .ok (.iconst 1, 1) := by decide +kernel
theorem dX5_runActs_235 : decode cX5_runActs 235 = .ok (.iadd, 1) := by decide +kernel
theorem dX5_runActs_236 : decode cX5_runActs 236 = .ok (.putfield 28, 3) := by decide +kernel
theorem dX5_runActs_239 : decode cX5_runActs 239 = .ok (.goto 43, 3) := by decide +kernel
theorem dX5_runActs_149 : decode cX5_runActs 149 = .ok (.aload_n 0, 1) := by decide +kernel
theorem dX5_runActs_150 : decode cX5_runActs 150 = .ok (.iload_n 1, 1) := by decide +kernel
theorem dX5_runActs_151 : decode cX5_runActs 151 = .ok (.iload 12, 2) := by decide +kernel
theorem dX5_runActs_153 : decode cX5_runActs 153 = .ok (.invokevirtual 77, 3) := by decide +kernel
theorem dX5_runActs_156 : decode cX5_runActs 156 = .ok (.ifCond .eq 51, 3) := by decide +kernel
theorem dX5_runActs_78 : decode cX5_runActs 78 = .ok (.aload_n 0, 1) := by decide +kernel
theorem dX5_runActs_79 : decode cX5_runActs 79 = .ok (.iconst 1, 1) := by decide +kernel
theorem dX5_runActs_80 : decode cX5_runActs 80 = .ok (.putfield 37, 3) := by decide +kernel
theorem dX5_runActs_83 : decode cX5_runActs 83 = .ok (.bipush (-2), 2) := by decide +kernel
theorem dX5_runActs_85 : decode cX5_runActs 85 = .ok (.ireturn, 1) := by decide +kernel
theorem dX5_runActs_59 : decode cX5_runActs 59 = .ok (.iconst 0, 1) := by decide +kernel
theorem dX5_runActs_60 : decode cX5_runActs 60 = .ok (.istore 8, 2) := by decide +kernel
theorem dX5_runActs_62 : decode cX5_runActs 62 = .ok (.goto 220, 3) := by decide +kernel
theorem dX5_runActs_0 : decode cX5_runActs 0 = .ok (.aload_n 0, 1) := by decide +kernel
theorem dX5_runActs_1 : decode cX5_runActs 1 = .ok (.getfield 11, 3) := by decide +kernel
theorem dX5_runActs_4 : decode cX5_runActs 4 = .ok (.iload_n 1, 1) := by decide +kernel
theorem dX5_runActs_5 : decode cX5_runActs 5 = .ok (.aaload, 1) := by decide +kernel
theorem dX5_runActs_6 : decode cX5_runActs 6 = .ok (.astore 4, 2) := by decide +kernel
theorem dX5_runActs_8 : decode cX5_runActs 8 = .ok (.aload 4, 2) := by decide +kernel
theorem dX5_runActs_10 : decode cX5_runActs 10 = .ok (.getfield 64, 3) := by decide +kernel
theorem dX5_runActs_13 : decode cX5_runActs 13 = .ok (.astore 5, 2) := by decide +kernel
theorem dX5_runActs_15 : decode cX5_runActs 15 = .ok (.iload_n 3, 1) := by decide +kernel
theorem dX5_runActs_16 : decode cX5_runActs 16 = .ok (.ifCond .eq 16, 3) := by decide +kernel
theorem dX5_runActs_32 : decode cX5_runActs 32 = .ok (.iconst 0, 1) := by decide +kernel
theorem dX5_runActs_33 : decode cX5_runActs 33 = .ok (.istore 6, 2) := by decide +kernel
theorem dX5_runActs_35 : decode cX5_runActs 35 = .ok (.iconst 0, 1) := by decide +kernel
theorem dX5_runActs_36 : decode cX5_runActs 36 = .ok (.istore 7, 2) := by decide +kernel
theorem dX5_runActs_38 : decode cX5_runActs 38 = .ok (.iconst 0, 1) := by decide +kernel
theorem dX5_runActs_39 : decode cX5_runActs 39 = .ok (.istore 8, 2) := by decide +kernel
theorem dX5_runActs_41 : decode cX5_runActs 41 = .ok (.iconst 0, 1) := by decide +kernel
theorem dX5_runActs_42 : decode cX5_runActs 42 = .ok (.istore 9, 2) := by decide +kernel
theorem dX5_runActs_19 : decode cX5_runActs 19 = .ok (.aload 4, 2) := by decide +kernel
theorem dX5_runActs_21 : decode cX5_runActs 21 = .ok (.iconst 2, 1) := by decide +kernel
theorem dX5_runActs_22 : decode cX5_runActs 22 = .ok (.invokevirtual 93, 3) := by decide +kernel
theorem dX5_runActs_25 : decode cX5_runActs 25 = .ok (.ifCond .eq 7, 3) := by decide +kernel
theorem dX5_runActs_28 : decode cX5_runActs 28 = .ok (.iconst 1, 1) := by decide +kernel
theorem dX5_runActs_29 : decode cX5_runActs 29 = .ok (.goto 4, 3) := by decide +kernel
theorem dX5_serve_0 : decode cX5_serve 0 = .ok (.aload_n 0, 1) := by decide +kernel
theorem dX5_serve_1 : decode cX5_serve 1 = .ok (.getfield 11, 3) := by decide +kernel
theorem dX5_serve_4 : decode cX5_serve 4 = .ok (.iload_n 1, 1) := by decide +kernel
theorem dX5_serve_5 : decode cX5_serve 5 = .ok (.aaload, 1) := by decide +kernel
theorem dX5_serve_6 : decode cX5_serve 6 = .ok (.astore 4, 2) := by decide +kernel
theorem dX5_serve_8 : decode cX5_serve 8 = .ok (.iload_n 3, 1) := by decide +kernel
theorem dX5_serve_9 : decode cX5_serve 9 = .ok (.ifCond .eq 16, 3) := by decide +kernel
theorem dX5_serve_25 : decode cX5_serve 25 = .ok (.iconst 0, 1) := by decide +kernel
theorem dX5_serve_26 : decode cX5_serve 26 = .ok (.istore 5, 2) := by decide +kernel
theorem dX5_serve_28 : decode cX5_serve 28 = .ok (.iload 5, 2) := by decide +kernel
theorem dX5_serve_30 : decode cX5_serve 30 = .ok (.ifCond .eq 16, 3) := by decide +kernel
theorem dX5_serve_46 : decode cX5_serve 46 = .ok (.iconst 0, 1) := by decide +kernel
theorem dX5_serve_47 : decode cX5_serve 47 = .ok (.istore 6, 2) := by decide +kernel
theorem dX5_serve_49 : decode cX5_serve 49 = .ok (.iload 5, 2) := by decide +kernel
theorem dX5_serve_51 : decode cX5_serve 51 = .ok (.ifCond .eq 12, 3) := by decide +kernel
theorem dX5_serve_63 : decode cX5_serve 63 = .ok (.iconst (-1), 1) := by decide +kernel
theorem dX5_serve_64 : decode cX5_serve 64 = .ok (.istore 7, 2) := by decide +kernel
theorem dX5_serve_66 : decode cX5_serve 66 = .ok (.iload 7, 2) := by decide +kernel
theorem dX5_serve_68 : decode cX5_serve 68 = .ok (.iconst (-1), 1) := by decide +kernel
theorem dX5_serve_69 : decode cX5_serve 69 = .ok (.if_icmp .eq 12, 3) := by decide +kernel
theorem dX5_serve_81 : decode cX5_serve 81 = .ok (.iload 6, 2) := by decide +kernel
theorem dX5_serve_83 : decode cX5_serve 83 = .ok (.ifCond .eq 15, 3) := by decide +kernel
theorem dX5_serve_98 : decode cX5_serve 98 = .ok (.aload 4, 2) := by decide +kernel
theorem dX5_serve_100 : decode cX5_serve 100 = .ok (.iload_n 2, 1) := by decide +kernel
theorem dX5_serve_101 : decode cX5_serve 101 = .ok (.iload_n 3, 1) := by decide +kernel
theorem dX5_serve_102 : decode cX5_serve 102 = .ok (.invokevirtual 107, 3) := by decide +kernel
theorem dX5_serve_105 : decode cX5_serve 105 = .ok (.aload_n 0, 1) := by decide +kernel
theorem dX5_serve_106 : decode cX5_serve 106 = .ok (.iload_n 1, 1) := by decide +kernel
theorem dX5_serve_107 : decode cX5_serve 107 = .ok (.iload_n 2, 1) := by decide +kernel
theorem dX5_serve_108 : decode cX5_serve 108 = .ok (.iload_n 3, 1) := by decide +kernel
theorem dX5_serve_109 : decode cX5_serve 109 = .ok (.invokevirtual 111, 3) := by decide +kernel
theorem dX5_serve_112 : decode cX5_serve 112 = .ok (.istore 8, 2) := by decide +kernel
theorem dX5_serve_114 : decode cX5_serve 114 = .ok (.aload_n 0, 1) := by decide +kernel
theorem dX5_serve_115 : decode cX5_serve 115 = .ok (.getfield 37, 3) := by decide +kernel
theorem dX5_serve_118 : decode cX5_serve 118 = .ok (.ifCond .eq 6, 3) := by decide +kernel
theorem dX5_serve_124 : decode cX5_serve 124 = .ok (.iload 6, 2) := by decide +kernel
theorem dX5_serve_126 : decode cX5_serve 126 = .ok (.ifCond .eq 14, 3) := by decide +kernel
theorem dX5_serve_140 : decode cX5_serve 140 = .ok (.iload 5, 2) := by decide +kernel
theorem dX5_serve_142 : decode cX5_serve 142 = .ok (.ifCond .eq 16, 3) := by decide +kernel
theorem dX5_serve_158 : decode cX5_serve 158 = .ok (.iload 8, 2) := by decide +kernel
theorem dX5_serve_160 : decode cX5_serve 160 = .ok (.ireturn, 1) := by decide +kernel
theorem dX5_serve_121 : decode cX5_serve 121 = .ok (.bipush (-2), 2) := by decide +kernel
theorem dX5_serve_123 : decode cX5_serve 123 = .ok (.ireturn, 1) := by decide +kernel
theorem dX5_serve_12 : decode cX5_serve 12 = .ok (.aload 4, 2) := by decide +kernel
theorem dX5_serve_14 : decode cX5_serve 14 = .ok (.iconst 0, 1) := by decide +kernel
theorem dX5_serve_15 : decode cX5_serve 15 = .ok (.invokevirtual 93, 3) := by decide +kernel
theorem dX5_serve_18 : decode cX5_serve 18 = .ok (.ifCond .eq 7, 3) := by decide +kernel
theorem dX5_serve_21 : decode cX5_serve 21 = .ok (.iconst 1, 1) := by decide +kernel
theorem dX5_serve_22 : decode cX5_serve 22 = .ok (.goto 4, 3) := by decide +kernel
theorem dX5_serve_33 : decode cX5_serve 33 = .ok (.aload 4, 2) := by decide +kernel
theorem dX5_serve_35 : decode cX5_serve 35 = .ok (.iconst 1, 1) := by decide +kernel
theorem dX5_serve_36 : decode cX5_serve 36 = .ok (.invokevirtual 93, 3) := by decide +kernel
theorem dX5_serve_39 : decode cX5_serve 39 = .ok (.ifCond .eq 7, 3) := by decide +kernel
theorem dX5_serve_42 : decode cX5_serve 42 = .ok (.iconst 1, 1) := by decide +kernel
theorem dX5_serve_43 : decode cX5_serve 43 = .ok (.goto 4, 3) := by decide +kernel
theorem dX5_serve_54 : decode cX5_serve 54 = .ok (.aload 4, 2) := by decide +kernel
theorem dX5_serve_56 : decode cX5_serve 56 = .ok (.iload_n 3, 1) := by decide +kernel
theorem dX5_serve_57 : decode cX5_serve 57 = .ok (.invokevirtual 96, 3) := by decide +kernel
theorem dX5_serve_60 : decode cX5_serve 60 = .ok (.goto 4, 3) := by decide +kernel
theorem dX5_serve_86 : decode cX5_serve 86 = .ok (.aload 4, 2) := by decide +kernel
theorem dX5_serve_88 : decode cX5_serve 88 = .ok (.iload_n 3, 1) := by decide +kernel
theorem dX5_serve_89 : decode cX5_serve 89 = .ok (.iload_n 2, 1) := by decide +kernel
theorem dX5_serve_90 : decode cX5_serve 90 = .ok (.iconst 0, 1) := by decide +kernel
theorem dX5_serve_91 : decode cX5_serve 91 = .ok (.aload_n 0, 1) := by decide +kernel
theorem dX5_serve_92 : decode cX5_serve 92 = .ok (.getfield 21, 3) := by decide +kernel
theorem dX5_serve_95 : decode cX5_serve 95 = .ok (.invokevirtual 103, 3) := by decide +kernel
theorem dX5_serve_129 : decode cX5_serve 129 = .ok (.aload 4, 2) := by decide +kernel
theorem dX5_serve_131 : decode cX5_serve 131 = .ok (.iload_n 3, 1) := by decide +kernel
theorem dX5_serve_132 : decode cX5_serve 132 = .ok (.iload 8, 2) := by decide +kernel
theorem dX5_serve_134 : decode cX5_serve 134 = .ok (.invokevirtual 114, 3) := by decide +kernel
theorem dX5_serve_137 : decode cX5_serve 137 = .ok (.goto 21, 3) := by decide +kernel
theorem dX5_serve_72 : decode cX5_serve 72 = .ok (.aload 4, 2) := by decide +kernel
theorem dX5_serve_74 : decode cX5_serve 74 = .ok (.iload 7, 2) := by decide +kernel
theorem dX5_serve_76 : decode cX5_serve 76 = .ok (.iload_n 2, 1) := by decide +kernel
theorem dX5_serve_77 : decode cX5_serve 77 = .ok (.invokevirtual 99, 3) := by decide +kernel
theorem dX5_serve_80 : decode cX5_serve 80 = .ok (.ireturn, 1) := by decide +kernel
theorem dX5_serve_145 : decode cX5_serve 145 = .ok (.aload 4, 2) := by decide +kernel
theorem dX5_serve_147 : decode cX5_serve 147 = .ok (.iload_n 3, 1) := by decide +kernel
theorem dX5_serve_148 : decode cX5_serve 148 = .ok (.iload_n 2, 1) := by decide +kernel
theorem dX5_serve_149 : decode cX5_serve 149 = .ok (.iload 8, 2) := by decide +kernel
theorem dX5_serve_151 : decode cX5_serve 151 = .ok (.aload_n 0, 1) := by decide +kernel
theorem dX5_serve_152 : decode cX5_serve 152 = .ok (.getfield 21, 3) := by decide +kernel
theorem dX5_serve_155 : decode cX5_serve 155 = .ok (.invokevirtual 103, 3) := by decide +kernel
theorem dX5_runActs_159 : decode cX5_runActs 159 = .ok (.iload 6, 2) := by decide +kernel
theorem dX5_runActs_161 : decode cX5_runActs 161 = .ok (.ifCond .eq 18, 3) := by decide +kernel
theorem dX5_runActs_179 : decode cX5_runActs 179 = .ok (.iconst 0, 1) := by decide +kernel
theorem dX5_runActs_180 : decode cX5_runActs 180 = .ok (.istore 13, 2) := by decide +kernel
theorem dX5_runActs_182 : decode cX5_runActs 182 = .ok (.aload_n 0, 1) := by decide +kernel
theorem dX5_runActs_183 : decode cX5_runActs 183 = .ok (.iload 12, 2) := by decide +kernel
theorem dX5_runActs_185 : decode cX5_runActs 185 = .ok (.iload 10, 2) := by decide +kernel
theorem dX5_runActs_187 : decode cX5_runActs 187 = .ok (.iload 13, 2) := by decide +kernel
theorem dX5_runActs_189 : decode cX5_runActs 189 = .ok (.invokevirtual 89, 3) := by decide +kernel
theorem dX5_runActs_192 : decode cX5_runActs 192 = .ok (.istore 7, 2) := by decide +kernel
theorem dX5_runActs_194 : decode cX5_runActs 194 = .ok (.aload_n 0, 1) := by decide +kernel
theorem dX5_runActs_195 : decode cX5_runActs 195 = .ok (.getfield 37, 3) := by decide +kernel
theorem dX5_runActs_198 : decode cX5_runActs 198 = .ok (.ifCond .eq 6, 3) := by decide +kernel
theorem dX5_runActs_204 : decode cX5_runActs 204 = .ok (.goto 78, 3) := by decide +kernel
theorem dX5_runActs_201 : decode cX5_runActs 201 = .ok (.bipush (-2), 2) := by decide +kernel
theorem dX5_runActs_203 : decode cX5_runActs 203 = .ok (.ireturn, 1) := by decide +kernel
theorem dX5_runActs_164 : decode cX5_runActs 164 = .ok (.iload_n 3, 1) := by decide +kernel
theorem dX5_runActs_165 : decode cX5_runActs 165 = .ok (.bipush 7, 2) := by decide +kernel
theorem dX5_runActs_167 : decode cX5_runActs 167 = .ok (.iload 9, 2) := by decide +kernel
theorem dX5_runActs_169 : decode cX5_runActs 169 = .ok (.imul, 1) := by decide +kernel
theorem dX5_runActs_170 : decode cX5_runActs 170 = .ok (.iadd, 1) := by decide +kernel
theorem dX5_runActs_171 : decode cX5_runActs 171 = .ok (.bipush 99, 2) := by decide +kernel
theorem dX5_runActs_173 : decode cX5_runActs 173 = .ok (.irem, 1) := by decide +kernel
theorem dX5_runActs_174 : decode cX5_runActs 174 = .ok (.iconst 1, 1) := by decide +kernel
theorem dX5_runActs_175 : decode cX5_runActs 175 = .ok (.iadd, 1) := by decide +kernel
theorem dX5_runActs_176 : decode cX5_runActs 176 = .ok (.goto 4, 3) := by decide +kernel
theorem dX5_fromOutside_13 : decode cX5_fromOutside 13 = .ok (.iload 5, 2) := by decide +kernel
theorem dX5_fromOutside_15 : decode cX5_fromOutside 15 = .ok (.aload_n 0, 1) := by decide +kernel
theorem dX5_fromOutside_16 : decode cX5_fromOutside 16 = .ok (.getfield 17, 3) := by decide +kernel
theorem dX5_fromOutside_19 : decode cX5_fromOutside 19 = .ok (.if_icmp .ge 23, 3) := by decide +kernel
theorem dX5_fromOutside_42 : decode cX5_fromOutside 42 = .ok (.aload_n 0, 1) := by decide +kernel
theorem dX5_fromOutside_43 : decode cX5_fromOutside 43 = .ok (.iconst 0, 1) := by decide +kernel
theorem dX5_fromOutside_44 : decode cX5_fromOutside 44 = .ok (.putfield 31, 3) := by decide +kernel
theorem dX5_fromOutside_47 : decode cX5_fromOutside 47 = .ok (.aload_n 0, 1) := by decide +kernel
theorem dX5_fromOutside_48 : decode cX5_fromOutside 48 = .ok (.iload 4, 2) := by decide +kernel
theorem dX5_fromOutside_50 : decode cX5_fromOutside 50 = .ok (.iconst 1, 1) := by decide +kernel
theorem dX5_fromOutside_51 : decode cX5_fromOutside 51 = .ok (.if_icmp .lt 15, 3) := by decide +kernel
theorem dX5_fromOutside_66 : decode cX5_fromOutside 66 = .ok (.bipush 61, 2) := by decide +kernel
theorem dX5_fromOutside_68 : decode cX5_fromOutside 68 = .ok (.putfield 34, 3) := by decide +kernel
theorem dX5_fromOutside_71 : decode cX5_fromOutside 71 = .ok (.aload_n 0, 1) := by decide +kernel
theorem dX5_fromOutside_72 : decode cX5_fromOutside 72 = .ok (.iconst 0, 1) := by decide +kernel
theorem dX5_fromOutside_73 : decode cX5_fromOutside 73 = .ok (.putfield 37, 3) := by decide +kernel
theorem dX5_fromOutside_76 : decode cX5_fromOutside 76 = .ok (.aload_n 0, 1) := by decide +kernel
theorem dX5_fromOutside_77 : decode cX5_fromOutside 77 = .ok (.iload_n 1, 1) := by decide +kernel
theorem dX5_fromOutside_78 : decode cX5_fromOutside 78 = .ok (.iload_n 2, 1) := by decide +kernel
theorem dX5_fromOutside_79 : decode cX5_fromOutside 79 = .ok (.iload_n 3, 1) := by decide +kernel
theorem dX5_fromOutside_80 : decode cX5_fromOutside 80 = .ok (.invokevirtual 89, 3) := by decide +kernel
theorem dX5_fromOutside_83 : decode cX5_fromOutside 83 = .ok (.istore 5, 2) := by decide +kernel
theorem dX5_fromOutside_85 : decode cX5_fromOutside 85 = .ok (.aload_n 0, 1) := by decide +kernel
theorem dX5_fromOutside_86 : decode cX5_fromOutside 86 = .ok (.getfield 37, 3) := by decide +kernel
theorem dX5_fromOutside_89 : decode cX5_fromOutside 89 = .ok (.ifCond .eq 8, 3) := by decide +kernel
theorem dX5_fromOutside_97 : decode cX5_fromOutside 97 = .ok (.iload 5, 2) := by decide +kernel
theorem dX5_fromOutside_99 : decode cX5_fromOutside 99 = .ok (.ireturn, 1) := by decide +kernel
theorem dX5_fromOutside_92 : decode cX5_fromOutside 92 = .ok (.bipush (-2), 2) := by decide +kernel
theorem dX5_fromOutside_94 : decode cX5_fromOutside 94 = .ok (.goto 5, 3) := by decide +kernel
theorem dX5_fromOutside_54 : decode cX5_fromOutside 54 = .ok (.iload 4, 2) := by decide +kernel
theorem dX5_fromOutside_56 : decode cX5_fromOutside 56 = .ok (.bipush 60, 2) := by decide +kernel
theorem dX5_fromOutside_58 : decode cX5_fromOutside 58 = .ok (.if_icmp .gt 8, 3) := by decide +kernel
theorem dX5_fromOutside_61 : decode cX5_fromOutside 61 = .ok (.iload 4, 2) := by decide +kernel
theorem dX5_fromOutside_63 : decode cX5_fromOutside 63 = .ok (.goto 5, 3) := by decide +kernel
theorem dX5_fromOutside_22 : decode cX5_fromOutside 22 = .ok (.aload_n 0, 1) := by decide +kernel
theorem dX5_fromOutside_23 : decode cX5_fromOutside 23 = .ok (.getfield 11, 3) := by decide +kernel
theorem dX5_fromOutside_26 : decode cX5_fromOutside 26 = .ok (.iload 5, 2) := by decide +kernel
theorem dX5_fromOutside_28 : decode cX5_fromOutside 28 = .ok (.aaload, 1) := by decide +kernel
theorem dX5_fromOutside_29 : decode cX5_fromOutside 29 = .ok (.aload_n 0, 1) := by decide +kernel
theorem dX5_fromOutside_30 : decode cX5_fromOutside 30 = .ok (.getfield 21, 3) := by decide +kernel
theorem dX5_fromOutside_33 : decode cX5_fromOutside 33 = .ok (.invokevirtual 85, 3) := by decide +kernel
theorem dX5_fromOutside_36 : decode cX5_fromOutside 36 = .ok (.iinc 5 1, 3) := by decide +kernel
theorem dX5_fromOutside_39 : decode cX5_fromOutside 39 = .ok (.goto (-26), 3) := by decide +kernel
theorem dX5_fromOutside_0 : decode cX5_fromOutside 0 = .ok (.aload_n 0, 1) := by decide +kernel
theorem dX5_fromOutside_1 : decode cX5_fromOutside 1 = .ok (.dup, 1) := by decide +kernel
theorem dX5_fromOutside_2 : decode cX5_fromOutside 2 = .ok (.getfield 21, 3) := by decide +kernel
theorem dX5_fromOutside_5 : decode cX5_fromOutside 5 = .ok (.iconst 1, 1) := by decide +kernel
theorem dX5_fromOutside_6 : decode cX5_fromOutside 6 = .ok (.iadd, 1) := by decide +kernel
theorem dX5_fromOutside_7 : decode cX5_fromOutside 7 = .ok (.putfield 21, 3) := by decide +kernel
theorem dX5_fromOutside_10 : decode cX5_fromOutside 10 = .ok (.iconst 0, 1) := by decide +kernel
theorem dX5_fromOutside_11 : decode cX5_fromOutside 11 = .ok (.istore 5, 2) := by decide +kernel
abbrev md_s_runActs0 : Nat → Nat → Bool := mdf [(4, 2), (6, 4), (6, 5), (6, 7), (50, 99)]
theorem mdle_s_runActs0_s_isHeldBack {r k : Nat} (h : md_s_runActs0 r k = false) : md_s_isHeldBack r k = false := mdf_le (by decide +kernel) h
theorem mdle_s_runActs0_s_perform {r k : Nat} (h : md_s_runActs0 r k = false) : md_s_perform r k = false := mdf_le (by decide +kernel) h
set_option maxHeartbeats 4000000 in
set_option maxRecDepth 100000 in
theorem lt_s_runActs0_a (l : Launch) (D : va_G) (cI cZ cS cR : ClassId) (N0 : NT) (g : GS) (h : Nat) (n : Int32) (x1 : Int32) (x2 : Int32) (r_h : g.1 h = 6) (l_n : 5 ≤ n.toInt) (u_n : n.toInt ≤ 5) {p : Program} {e : Env} {s : State} {m : MethodId} {args : Array Value} {below : List Frame} {meth : Method} {c : Code} (hB : Tz p s m meth c args cX5_runActs 14 RX5 D cI cZ cS cR N0) (hr : meth.sig.returnType = (some .int))    : ∀ (kf : Nat) (g1 : GS) (i : Int32) (j : Int32) (pk : Int32) (po : Int32) (q1 : Nat) (q2 : Nat) (H : Heap) (locs : List Loc) (ls : Array Slot), Tv D cI cZ cS cR N0 s.heap H locs g1 → Inv g1 → Ex g g1 → Sm md_s_runActs0 g g1 → 0 ≤ i.toInt → i.toInt ≤ 8 → 0 ≤ pk.toInt → pk.toInt ≤ 1 → 0 ≤ po.toInt → po.toInt ≤ 1 → g1.1 q1 = 4 → g1.1 q2 = 3 → (8 ≤ i.toInt + kf) → lv_has ls 14 [(9, .int i), (8, .int po), (7, .int j), (6, .int pk), (5, .ref q2), (4, .ref q1), (0, .ref h), (1, .int n), (2, .int x1), (3, .int x2)] → W p l e (rmx 1 0 0) s m args below meth c H locs 0 0 (MQ below (tQ D cI cZ cS cR N0 (fun v g' => ∃ (r : Int32), v = some (.int r) ∧ Inv g' ∧ Ex g g' ∧ Sm md_s_runActs0 g g')) args s 0 0 (fun q => N0.1 ≤ q)) (F0 m 44 ls []) := by
  have hx := hB.1
  have hb := hB.2.1
  intro kf
  induction kf using Nat.strongRecOn with
  | ind kf ih =>
    intro g1 i j pk po q1 q2 H locs ls hT hI hE hM l_i u_i l_pk u_pk l_po u_po r1_q1 r1_q2 hk hl
    have r_1 : g1.1 h = 6 := Ex.r hE r_h (by decide)
    refine lv_iload hx hb dX5_runActs_44 (lv_at hl 0 rfl) ?_
    refine lv_aload hx hb dX5_runActs_46 (lv_at hl 4 rfl) ?_
    obtain ⟨v_2, e_v_2, l_v_2, u_v_2⟩ := f_3_3 hI r1_q2
    refine t_get (ci := 2) (v := .int v_2) hB hT (ro_ci r1_q2 rfl) rfl 3 (by decide) k_133 e_v_2 dX5_runActs_48 ?_
    refine lv_icmp_ge (tgt := 288) hx hb dX5_runActs_51 (by decide) (fun c_3 => ?_) (fun c_3 => ?_)
    · have c_3' : v_2.toInt ≤ i.toInt := i_le c_3 rfl rfl
      refine lv_iload hx hb dX5_runActs_288 (lv_at hl 2 rfl) ?_
      exact t_iret hB hr hT (Nat.le_of_ble_eq_true rfl) (Nat.le_of_ble_eq_true rfl) dX5_runActs_290 ⟨j, rfl, hI, hE, hM⟩
    · have c_3' : i.toInt < v_2.toInt := i_nle c_3 rfl rfl
      refine lv_iload hx hb dX5_runActs_54 (lv_at hl 1 rfl) ?_
      refine lv_if_eq (tgt := 65) hx hb dX5_runActs_56 (by decide) (fun c_4 => ?_) (fun c_4 => ?_)
      · have c_4' : po.toInt = 0 := i_eq c_4 rfl (by decide)
        refine lv_aload_n hx hb dX5_runActs_65 rfl (lv_at hl 6 rfl) ?_
        obtain ⟨v_5, e_v_5⟩ := f_6_5 hI r_1
        refine t_get (ci := 5) (v := .int v_5) hB hT (ro_ci r_1 rfl) rfl 5 (by decide) k_213 e_v_5 dX5_runActs_66 ?_
        refine lv_iconst (v := 1) hx hb dX5_runActs_69 (by decide) ?_
        refine lv_iadd hx hb dX5_runActs_70 ?_
        refine lv_topi (fun z_6 ez_6 => ?_)
        refine lv_aload_n hx hb dX5_runActs_71 rfl (lv_at hl 6 rfl) ?_
        obtain ⟨v_7, e_v_7⟩ := f_6_6 hI r_1
        refine t_get (ci := 5) (v := .int v_7) hB hT (ro_ci r_1 rfl) rfl 6 (by decide) k_215 e_v_7 dX5_runActs_72 ?_
        refine lv_icmp_lt (tgt := 86) hx hb dX5_runActs_75 (by decide) (fun c_8 => ?_) (fun c_8 => ?_)
        · have c_8' : z_6.toInt < v_7.toInt := i_lt c_8 rfl rfl
          refine lv_aload_n hx hb dX5_runActs_86 rfl (lv_at hl 6 rfl) ?_
          refine lv_dup hx hb dX5_runActs_87 rfl ?_
          refine t_get (ci := 5) (v := .int v_5) hB hT (ro_ci r_1 rfl) rfl 5 (by decide) k_213 e_v_5 dX5_runActs_88 ?_
          refine lv_iconst (v := 1) hx hb dX5_runActs_91 (by decide) ?_
          refine lv_iadd hx hb dX5_runActs_92 ?_
          refine lv_topi (fun z_9 ez_9 => ?_)
          refine t_put0 (ci := 5) (v := .int z_9) hB hT (ro_ci r_1 rfl) (ro_n0 r_1 (by decide)) rfl 5 (by decide) k_213 (Or.inl rfl) rfl rfl dX5_runActs_93 (fun H locs hT => ?_)
          have hI : Inv (sF g1 h 5 (.int z_9)) := hI.sF (p_6_5 r_1 (⟨_, rfl⟩))
          have hM : Sm md_s_runActs0 g (sF g1 h 5 (.int z_9)) := hM.tr hE (Sm_sF (by rw [r_1]; rfl))
          have hE : Ex g (sF g1 h 5 (.int z_9)) := hE
          refine lv_aload hx hb dX5_runActs_96 (lv_at hl 4 rfl) ?_
          refine lv_iload hx hb dX5_runActs_98 (lv_at hl 0 rfl) ?_
          refine lv_iload_n hx hb dX5_runActs_100 rfl (lv_at hl 8 rfl) ?_
          refine lv_iload hx hb dX5_runActs_101 (lv_at hl 2 rfl) ?_
          refine t_callV (n := 3) (As := [.int i, .int x1, .int j]) (rest := []) (ci := 2) hB hT hl.1 (s_valueAt l D cI cZ cS cR N0 (sF g1 h 5 (.int z_9)) hI q2 i x1 j r1_q2 (by omega) (by omega)) (ro_ci r1_q2 rfl) rfl k_538 k_61 k_535 k_536 k_537 (by decide +kernel) ⟨(Nat.le_of_ble_eq_true rfl), (Nat.le_of_ble_eq_true rfl)⟩ rfl (Nat.le_of_ble_eq_true rfl) ⟨(Nat.le_of_ble_eq_true rfl), (Nat.le_of_ble_eq_true rfl)⟩ dX5_runActs_103 (fun v g_10 H locs hp hT => ?_)
          obtain ⟨r_11, rfl, eg⟩ := hp
          rw [eg] at hT
          clear eg
          refine W.eq (g2 := F0 m 106 ls [.int r_11]) rfl ?_
          refine lv_istore (lv' := [(10, .int r_11), (9, .int i), (8, .int po), (7, .int j), (6, .int pk), (5, .ref q2), (4, .ref q1), (0, .ref h), (1, .int n), (2, .int x1), (3, .int x2)]) hx hb dX5_runActs_106 hl (by decide) rfl (fun ls hl => ?_)
          refine lv_aload hx hb dX5_runActs_108 (lv_at hl 6 rfl) ?_
          refine lv_iload hx hb dX5_runActs_110 (lv_at hl 1 rfl) ?_
          refine lv_iload hx hb dX5_runActs_112 (lv_at hl 0 rfl) ?_
          refine t_callV (n := 2) (As := [.int i, .int r_11]) (rest := []) (ci := 3) hB hT hl.1 (s_isHeldBack l D cI cZ cS cR N0 (sF g1 h 5 (.int z_9)) hI q1 i r_11 r1_q1 (by omega) (by omega)) (ro_ci r1_q1 rfl) rfl k_542 k_60 k_539 k_540 k_541 (by decide +kernel) ⟨(Nat.le_of_ble_eq_true rfl), (Nat.le_of_ble_eq_true rfl)⟩ rfl (Nat.le_of_ble_eq_true rfl) ⟨(Nat.le_of_ble_eq_true rfl), (Nat.le_of_ble_eq_true rfl)⟩ dX5_runActs_114 (fun v g_14 H locs hp hT => ?_)
          obtain ⟨r_15, rfl, hI, x_18, m_17, f_16⟩ := hp
          have hM : Sm md_s_runActs0 g g_14 := hM.tr hE (m_17.mo (fun r k h => mdle_s_runActs0_s_isHeldBack h))
          have hE : Ex g g_14 := hE.tr x_18
          have r_19 : g_14.1 h = 6 := (Ex.r x_18 r_1 (by decide))
          have r_20 : g_14.1 q1 = 4 := (Ex.r x_18 r1_q1 (by decide))
          have r_21 : g_14.1 q2 = 3 := (Ex.r x_18 r1_q2 (by decide))
          have kn_22 : g_14.2.1 q2 3 = .int v_2 := (Sm.v m_17 r1_q2 (by decide) rfl (sF_k e_v_2 (by decide)))
          have kn_23 : g_14.2.1 h 6 = .int v_7 := (Sm.v m_17 r_1 (by decide) rfl (sF_k e_v_7 (by decide)))
          have kn_24 : g_14.2.1 h 5 = .int z_9 := (Sm.v m_17 r_1 (by decide) rfl sF_eq)
          refine W.eq (g2 := F0 m 117 ls [.int r_15]) rfl ?_
          rcases f_16 with rfl | rfl
          · refine W.eq (g2 := F0 m 117 ls [.int 1]) rfl ?_
            refine lv_if_eq (tgt := 123) hx hb dX5_runActs_117 (by decide) (fun c_ => absurd c_ (by decide)) (fun c_ => ?_)
            refine lv_goto (tgt := 282) hx hb dX5_runActs_120 (by decide) ?_
            obtain ⟨z_25, ez_25⟩ : ∃ z : Int32, z = i + 1 := ⟨_, rfl⟩
            have e_z_25 : z_25.toInt = i.toInt + 1 := i_add ez_25 rfl (by decide) (by omega) (by omega)
            refine lv_iinc (v := z_25) (lv' := [(9, .int z_25), (10, .int r_11), (8, .int po), (7, .int j), (6, .int pk), (5, .ref q2), (4, .ref q1), (0, .ref h), (1, .int n), (2, .int x1), (3, .int x2)]) hx hb dX5_runActs_282 hl (k := 1) rfl (by rw [ez_25]; rfl) (by decide) rfl (fun ls hl => ?_)
            refine lv_goto (tgt := 44) hx hb dX5_runActs_285 (by decide) ?_
            exact ih (kf - 1) (by omega) g_14 z_25 j pk po q1 q2 H locs ls hT hI hE hM (by omega) (by omega) (by omega) (by omega) (by omega) (by omega) r_20 r_21 (by have e0_ : (0 : Int32).toInt = 0 := (by decide); omega) (lv_sub hl [0, 2, 3, 4, 5, 6, 7, 8, 9, 10] rfl)
          · refine W.eq (g2 := F0 m 117 ls [.int 0]) rfl ?_
            refine lv_if_eq (tgt := 123) hx hb dX5_runActs_117 (by decide) (fun c_ => ?_) (fun c_ => absurd (by decide) c_)
            refine lv_aload hx hb dX5_runActs_123 (lv_at hl 5 rfl) ?_
            obtain ⟨v_26, e_v_26, r_v_26, n_v_26⟩ := f_3_0 hI r_21
            refine t_get (ci := 2) (v := .ref v_26) hB hT (ro_ci r_21 rfl) rfl 0 (by decide) k_122 e_v_26 dX5_runActs_125 ?_
            refine lv_iload hx hb dX5_runActs_128 (lv_at hl 1 rfl) ?_
            have i_u_27 : vp_in i 8 := (i_in (n := 8) rfl (by omega) (by omega))
            refine t_iald hB hT (ro_in r_v_26 (by decide)) n_v_26 i_u_27 rfl dX5_runActs_130 ?_
            refine lv_topi (fun u_27 e_u_27 => ?_)
            refine lv_istore (lv' := [(11, .int u_27), (10, .int r_11), (9, .int i), (8, .int po), (7, .int j), (6, .int pk), (5, .ref q2), (4, .ref q1), (0, .ref h), (1, .int n), (2, .int x1), (3, .int x2)]) hx hb dX5_runActs_131 hl (by decide) rfl (fun ls hl => ?_)
            refine lv_aload hx hb dX5_runActs_133 (lv_at hl 6 rfl) ?_
            obtain ⟨v_28, e_v_28, r_v_28, n_v_28⟩ := f_3_1 hI r_21
            refine t_get (ci := 2) (v := .ref v_28) hB hT (ro_ci r_21 rfl) rfl 1 (by decide) k_126 e_v_28 dX5_runActs_135 ?_
            refine lv_iload hx hb dX5_runActs_138 (lv_at hl 2 rfl) ?_
            have i_u_29 : vp_in i 8 := (i_in (n := 8) rfl (by omega) (by omega))
            refine t_iald hB hT (ro_in r_v_28 (by decide)) n_v_28 i_u_29 rfl dX5_runActs_140 ?_
            have c_u_29 := hI.c r_v_28 n_v_28 (i_cl i_u_29)
            refine lv_topi (fun u_29 e_u_29 => ?_)
            obtain ⟨l_u_29, u_u_29⟩ := c_u_29
            rw [← e_u_29] at l_u_29 u_u_29
            refine lv_istore (lv' := [(12, .int u_29), (11, .int u_27), (10, .int r_11), (9, .int i), (8, .int po), (7, .int j), (6, .int pk), (5, .ref q2), (4, .ref q1), (0, .ref h), (1, .int n), (2, .int x1), (3, .int x2)]) hx hb dX5_runActs_141 hl (by decide) rfl (fun ls hl => ?_)
            refine lv_iload hx hb dX5_runActs_143 (lv_at hl 1 rfl) ?_
            refine lv_iconst (v := 5) hx hb dX5_runActs_145 (by decide) ?_
            refine lv_icmp_ne (tgt := 207) hx hb dX5_runActs_146 (by decide) (fun c_30 => ?_) (fun c_30 => ?_)
            · have c_30' : u_27.toInt ≠ 5 := i_ne c_30 rfl (by decide)
              refine lv_iload hx hb dX5_runActs_207 (lv_at hl 1 rfl) ?_
              refine lv_bipush (v := 6) hx hb dX5_runActs_209 (by decide) ?_
              refine lv_icmp_ne (tgt := 242) hx hb dX5_runActs_211 (by decide) (fun c_31 => ?_) (fun c_31 => ?_)
              · have c_31' : u_27.toInt ≠ 6 := i_ne c_31 rfl (by decide)
                refine lv_iload hx hb dX5_runActs_242 (lv_at hl 1 rfl) ?_
                refine lv_bipush (v := 7) hx hb dX5_runActs_244 (by decide) ?_
                refine lv_icmp_ne (tgt := 263) hx hb dX5_runActs_246 (by decide) (fun c_32 => ?_) (fun c_32 => ?_)
                · have c_32' : u_27.toInt ≠ 7 := i_ne c_32 rfl (by decide)
                  refine lv_iload hx hb dX5_runActs_263 (lv_at hl 1 rfl) ?_
                  refine lv_iconst (v := 5) hx hb dX5_runActs_265 (by decide) ?_
                  refine lv_icmp_eq (tgt := 282) hx hb dX5_runActs_266 (by decide) (fun c_33 => ?_) (fun c_33 => ?_)
                  · have c_33' : u_27.toInt = 5 := i_eq c_33 rfl (by decide)
                    obtain ⟨z_34, ez_34⟩ : ∃ z : Int32, z = i + 1 := ⟨_, rfl⟩
                    have e_z_34 : z_34.toInt = i.toInt + 1 := i_add ez_34 rfl (by decide) (by omega) (by omega)
                    refine lv_iinc (v := z_34) (lv' := [(9, .int z_34), (12, .int u_29), (11, .int u_27), (10, .int r_11), (8, .int po), (7, .int j), (6, .int pk), (5, .ref q2), (4, .ref q1), (0, .ref h), (1, .int n), (2, .int x1), (3, .int x2)]) hx hb dX5_runActs_282 hl (k := 3) rfl (by rw [ez_34]; rfl) (by decide) rfl (fun ls hl => ?_)
                    refine lv_goto (tgt := 44) hx hb dX5_runActs_285 (by decide) ?_
                    exact ih (kf - 1) (by omega) g_14 z_34 j pk po q1 q2 H locs ls hT hI hE hM (by omega) (by omega) (by omega) (by omega) (by omega) (by omega) r_20 r_21 (by have e0_ : (0 : Int32).toInt = 0 := (by decide); omega) (lv_sub hl [0, 4, 5, 6, 7, 8, 9, 10, 11, 12] rfl)
                  · have c_33' : u_27.toInt ≠ 5 := i_ne c_33 rfl (by decide)
                    refine lv_aload hx hb dX5_runActs_269 (lv_at hl 8 rfl) ?_
                    refine lv_iload hx hb dX5_runActs_271 (lv_at hl 3 rfl) ?_
                    refine lv_iload hx hb dX5_runActs_273 (lv_at hl 2 rfl) ?_
                    refine lv_iload hx hb dX5_runActs_275 (lv_at hl 5 rfl) ?_
                    refine t_callV (n := 3) (As := [.int i, .int r_11, .int j]) (rest := []) (ci := 3) hB hT hl.1 (s_perform l D cI cZ cS cR N0 g_14 hI q1 i r_11 j r_20 (by omega) (by omega)) (ro_ci r_20 rfl) rfl k_550 k_60 k_547 k_548 k_549 (by decide +kernel) ⟨(Nat.le_of_ble_eq_true rfl), (Nat.le_of_ble_eq_true rfl)⟩ rfl (Nat.le_of_ble_eq_true rfl) ⟨(Nat.le_of_ble_eq_true rfl), (Nat.le_of_ble_eq_true rfl)⟩ dX5_runActs_277 (fun v g_35 H locs hp hT => ?_)
                    obtain ⟨r_36, rfl, hI, x_38, m_37⟩ := hp
                    have hM : Sm md_s_runActs0 g g_35 := hM.tr hE (m_37.mo (fun r k h => mdle_s_runActs0_s_perform h))
                    have hE : Ex g g_35 := hE.tr x_38
                    have r_39 : g_35.1 h = 6 := (Ex.r x_38 r_19 (by decide))
                    have r_40 : g_35.1 q1 = 4 := (Ex.r x_38 r_20 (by decide))
                    have r_41 : g_35.1 q2 = 3 := (Ex.r x_38 r_21 (by decide))
                    have r_42 : g_35.1 v_26 = 68 := (Ex.r x_38 r_v_26 (by decide))
                    have r_43 : g_35.1 v_28 = 69 := (Ex.r x_38 r_v_28 (by decide))
                    have n_44 : g_35.2.2.1 v_26 = 8 := (Ex.n x_38 r_v_26 (by decide) n_v_26)
                    have n_45 : g_35.2.2.1 v_28 = 8 := (Ex.n x_38 r_v_28 (by decide) n_v_28)
                    have kn_46 : g_35.2.1 q2 3 = .int v_2 := (Sm.v m_37 r_21 (by decide) rfl kn_22)
                    have kn_47 : g_35.2.1 h 6 = .int v_7 := (Sm.v m_37 r_19 (by decide) rfl kn_23)
                    have kn_48 : g_35.2.1 h 5 = .int z_9 := (Sm.v m_37 r_19 (by decide) rfl kn_24)
                    have kn_49 : g_35.2.1 q2 0 = .ref v_26 := (Sm.v m_37 r_21 (by decide) rfl e_v_26)
                    have kn_50 : g_35.2.1 q2 1 = .ref v_28 := (Sm.v m_37 r_21 (by decide) rfl e_v_28)
                    have kn_51 : g_35.2.2.2.1 v_26 i.toNatClampNeg = u_27 := (Sm.c m_37 r_v_26 (by decide) rfl e_u_27.symm)
                    have kn_52 : g_35.2.2.2.1 v_28 i.toNatClampNeg = u_29 := (Sm.c m_37 r_v_28 (by decide) rfl e_u_29.symm)
                    refine W.eq (g2 := F0 m 280 ls [.int r_36]) rfl ?_
                    refine lv_istore (lv' := [(7, .int r_36), (12, .int u_29), (11, .int u_27), (10, .int r_11), (9, .int i), (8, .int po), (6, .int pk), (5, .ref q2), (4, .ref q1), (0, .ref h), (1, .int n), (2, .int x1), (3, .int x2)]) hx hb dX5_runActs_280 hl (by decide) rfl (fun ls hl => ?_)
                    obtain ⟨z_53, ez_53⟩ : ∃ z : Int32, z = i + 1 := ⟨_, rfl⟩
                    have e_z_53 : z_53.toInt = i.toInt + 1 := i_add ez_53 rfl (by decide) (by omega) (by omega)
                    refine lv_iinc (v := z_53) (lv' := [(9, .int z_53), (7, .int r_36), (12, .int u_29), (11, .int u_27), (10, .int r_11), (8, .int po), (6, .int pk), (5, .ref q2), (4, .ref q1), (0, .ref h), (1, .int n), (2, .int x1), (3, .int x2)]) hx hb dX5_runActs_282 hl (k := 4) rfl (by rw [ez_53]; rfl) (by decide) rfl (fun ls hl => ?_)
                    refine lv_goto (tgt := 44) hx hb dX5_runActs_285 (by decide) ?_
                    exact ih (kf - 1) (by omega) g_35 z_53 r_36 pk po q1 q2 H locs ls hT hI hE hM (by omega) (by omega) (by omega) (by omega) (by omega) (by omega) r_40 r_41 (by have e0_ : (0 : Int32).toInt = 0 := (by decide); omega) (lv_sub hl [0, 5, 1, 6, 7, 8, 9, 10, 11, 12] rfl)
                · have c_32' : u_27.toInt = 7 := i_eq c_32 rfl (by decide)
                  refine lv_aload hx hb dX5_runActs_249 (lv_at hl 8 rfl) ?_
                  refine lv_iload hx hb dX5_runActs_251 (lv_at hl 3 rfl) ?_
                  refine lv_iload hx hb dX5_runActs_253 (lv_at hl 2 rfl) ?_
                  refine t_callV (n := 2) (As := [.int i, .int r_11]) (rest := []) (ci := 3) hB hT hl.1 (s_passesOver l D cI cZ cS cR N0 g_14 hI q1 i r_11 r_20 (by omega) (by omega)) (ro_ci r_20 rfl) rfl k_546 k_60 k_543 k_544 k_545 (by decide +kernel) ⟨(Nat.le_of_ble_eq_true rfl), (Nat.le_of_ble_eq_true rfl)⟩ rfl (Nat.le_of_ble_eq_true rfl) ⟨(Nat.le_of_ble_eq_true rfl), (Nat.le_of_ble_eq_true rfl)⟩ dX5_runActs_255 (fun v g_54 H locs hp hT => ?_)
                  obtain ⟨r_55, rfl, eg, f_56⟩ := hp
                  rw [eg] at hT
                  clear eg
                  refine W.eq (g2 := F0 m 258 ls [.int r_55]) rfl ?_
                  rcases f_56 with rfl | rfl
                  · refine W.eq (g2 := F0 m 258 ls [.int 1]) rfl ?_
                    refine lv_istore (lv' := [(8, .int 1), (12, .int u_29), (11, .int u_27), (10, .int r_11), (9, .int i), (7, .int j), (6, .int pk), (5, .ref q2), (4, .ref q1), (0, .ref h), (1, .int n), (2, .int x1), (3, .int x2)]) hx hb dX5_runActs_258 hl (by decide) rfl (fun ls hl => ?_)
                    refine lv_goto (tgt := 282) hx hb dX5_runActs_260 (by decide) ?_
                    obtain ⟨z_59, ez_59⟩ : ∃ z : Int32, z = i + 1 := ⟨_, rfl⟩
                    have e_z_59 : z_59.toInt = i.toInt + 1 := i_add ez_59 rfl (by decide) (by omega) (by omega)
                    refine lv_iinc (v := z_59) (lv' := [(9, .int z_59), (8, .int 1), (12, .int u_29), (11, .int u_27), (10, .int r_11), (7, .int j), (6, .int pk), (5, .ref q2), (4, .ref q1), (0, .ref h), (1, .int n), (2, .int x1), (3, .int x2)]) hx hb dX5_runActs_282 hl (k := 4) rfl (by rw [ez_59]; rfl) (by decide) rfl (fun ls hl => ?_)
                    refine lv_goto (tgt := 44) hx hb dX5_runActs_285 (by decide) ?_
                    exact ih (kf - 1) (by omega) g_14 z_59 j pk (1 : Int32) q1 q2 H locs ls hT hI hE hM (by omega) (by omega) (by omega) (by omega) (by decide) (by decide) r_20 r_21 (by have e0_ : (0 : Int32).toInt = 0 := (by decide); have e1_ : (1 : Int32).toInt = 1 := (by decide); omega) (lv_sub hl [0, 1, 5, 6, 7, 8, 9, 10, 11, 12] rfl)
                  · refine W.eq (g2 := F0 m 258 ls [.int 0]) rfl ?_
                    refine lv_istore (lv' := [(8, .int 0), (12, .int u_29), (11, .int u_27), (10, .int r_11), (9, .int i), (7, .int j), (6, .int pk), (5, .ref q2), (4, .ref q1), (0, .ref h), (1, .int n), (2, .int x1), (3, .int x2)]) hx hb dX5_runActs_258 hl (by decide) rfl (fun ls hl => ?_)
                    refine lv_goto (tgt := 282) hx hb dX5_runActs_260 (by decide) ?_
                    obtain ⟨z_60, ez_60⟩ : ∃ z : Int32, z = i + 1 := ⟨_, rfl⟩
                    have e_z_60 : z_60.toInt = i.toInt + 1 := i_add ez_60 rfl (by decide) (by omega) (by omega)
                    refine lv_iinc (v := z_60) (lv' := [(9, .int z_60), (8, .int 0), (12, .int u_29), (11, .int u_27), (10, .int r_11), (7, .int j), (6, .int pk), (5, .ref q2), (4, .ref q1), (0, .ref h), (1, .int n), (2, .int x1), (3, .int x2)]) hx hb dX5_runActs_282 hl (k := 4) rfl (by rw [ez_60]; rfl) (by decide) rfl (fun ls hl => ?_)
                    refine lv_goto (tgt := 44) hx hb dX5_runActs_285 (by decide) ?_
                    exact ih (kf - 1) (by omega) g_14 z_60 j pk (0 : Int32) q1 q2 H locs ls hT hI hE hM (by omega) (by omega) (by omega) (by omega) (by decide) (by decide) r_20 r_21 (by have e0_ : (0 : Int32).toInt = 0 := (by decide); omega) (lv_sub hl [0, 1, 5, 6, 7, 8, 9, 10, 11, 12] rfl)
              · have c_31' : u_27.toInt = 6 := i_eq c_31 rfl (by decide)
                refine lv_aload_n hx hb dX5_runActs_214 rfl (lv_at hl 9 rfl) ?_
                obtain ⟨v_61, e_v_61, r_v_61, n_v_61⟩ := f_6_3 hI r_19
                refine t_get (ci := 5) (v := .ref v_61) hB hT (ro_ci r_19 rfl) rfl 3 (by decide) k_207 e_v_61 dX5_runActs_215 ?_
                refine lv_aload_n hx hb dX5_runActs_218 rfl (lv_at hl 9 rfl) ?_
                obtain ⟨v_62, e_v_62⟩ := f_6_4 hI r_19
                refine t_get (ci := 5) (v := .int v_62) hB hT (ro_ci r_19 rfl) rfl 4 (by decide) k_210 e_v_62 dX5_runActs_219 ?_
                refine lv_sipush (v := 511) hx hb dX5_runActs_222 (by decide) ?_
                refine lv_iand hx hb dX5_runActs_225 ?_
                refine lv_topi (fun z_63 ez_63 => ?_)
                have e_z_63 := i_and 9 (b := 511) ez_63 (by decide) (by decide) (by decide)
                refine lv_iload hx hb dX5_runActs_226 (lv_at hl 2 rfl) ?_
                have i_64 : vp_in z_63 512 := (i_in (n := 512) rfl (by omega) (by omega))
                refine t_iast hB hT (ro_in r_v_61 (by decide)) n_v_61 i_64 dX5_runActs_228 (fun H locs hT => ?_)
                have hI : Inv (sC g_14 v_61 z_63.toNatClampNeg r_11) := hI.sC (ck r_v_61 trivial)
                have hM : Sm md_s_runActs0 g (sC g_14 v_61 z_63.toNatClampNeg r_11) := hM.tr hE (Sm_sC (by rw [r_v_61]; rfl))
                have hE : Ex g (sC g_14 v_61 z_63.toNatClampNeg r_11) := hE
                refine lv_aload_n hx hb dX5_runActs_229 rfl (lv_at hl 9 rfl) ?_
                refine lv_dup hx hb dX5_runActs_230 rfl ?_
                refine t_get (ci := 5) (v := .int v_62) hB hT (ro_ci r_19 rfl) rfl 4 (by decide) k_210 e_v_62 dX5_runActs_231 ?_
                refine lv_iconst (v := 1) hx hb dX5_runActs_234 (by decide) ?_
                refine lv_iadd hx hb dX5_runActs_235 ?_
                refine lv_topi (fun z_65 ez_65 => ?_)
                refine t_put0 (ci := 5) (v := .int z_65) hB hT (ro_ci r_19 rfl) (ro_n0 r_19 (by decide)) rfl 4 (by decide) k_210 (Or.inl rfl) rfl rfl dX5_runActs_236 (fun H locs hT => ?_)
                have hI : Inv (sF (sC g_14 v_61 z_63.toNatClampNeg r_11) h 4 (.int z_65)) := hI.sF (p_6_4 r_19 (⟨_, rfl⟩))
                have hM : Sm md_s_runActs0 g (sF (sC g_14 v_61 z_63.toNatClampNeg r_11) h 4 (.int z_65)) := hM.tr hE (Sm_sF (by rw [r_19]; rfl))
                have hE : Ex g (sF (sC g_14 v_61 z_63.toNatClampNeg r_11) h 4 (.int z_65)) := hE
                refine lv_goto (tgt := 282) hx hb dX5_runActs_239 (by decide) ?_
                obtain ⟨z_66, ez_66⟩ : ∃ z : Int32, z = i + 1 := ⟨_, rfl⟩
                have e_z_66 : z_66.toInt = i.toInt + 1 := i_add ez_66 rfl (by decide) (by omega) (by omega)
                refine lv_iinc (v := z_66) (lv' := [(9, .int z_66), (12, .int u_29), (11, .int u_27), (10, .int r_11), (8, .int po), (7, .int j), (6, .int pk), (5, .ref q2), (4, .ref q1), (0, .ref h), (1, .int n), (2, .int x1), (3, .int x2)]) hx hb dX5_runActs_282 hl (k := 3) rfl (by rw [ez_66]; rfl) (by decide) rfl (fun ls hl => ?_)
                refine lv_goto (tgt := 44) hx hb dX5_runActs_285 (by decide) ?_
                exact ih (kf - 1) (by omega) (sF (sC g_14 v_61 z_63.toNatClampNeg r_11) h 4 (.int z_65)) z_66 j pk po q1 q2 H locs ls hT hI hE hM (by omega) (by omega) (by omega) (by omega) (by omega) (by omega) r_20 r_21 (by have e0_ : (0 : Int32).toInt = 0 := (by decide); omega) (lv_sub hl [0, 4, 5, 6, 7, 8, 9, 10, 11, 12] rfl)
            · have c_30' : u_27.toInt = 5 := i_eq c_30 rfl (by decide)
              refine lv_aload_n hx hb dX5_runActs_149 rfl (lv_at hl 9 rfl) ?_
              refine lv_iload_n hx hb dX5_runActs_150 rfl (lv_at hl 10 rfl) ?_
              refine lv_iload hx hb dX5_runActs_151 (lv_at hl 0 rfl) ?_
              refine t_callV (n := 2) (As := [.int n, .int u_29]) (rest := []) (ci := 5) hB hT hl.1 (s_canAsk l D cI cZ cS cR N0 g_14 hI h n u_29 r_19) (ro_ci r_19 rfl) rfl k_477 k_59 k_474 k_476 k_10 (by decide +kernel) ⟨(Nat.le_of_ble_eq_true rfl), (Nat.le_of_ble_eq_true rfl)⟩ rfl (Nat.le_of_ble_eq_true rfl) ⟨(Nat.le_of_ble_eq_true rfl), (Nat.le_of_ble_eq_true rfl)⟩ dX5_runActs_153 (fun v g_67 H locs hp hT => ?_)
              obtain ⟨r_68, rfl, eg, f_69⟩ := hp
              rw [eg] at hT
              clear eg
              refine W.eq (g2 := F0 m 156 ls [.int r_68]) rfl ?_
              rcases f_69 with ⟨rfl, hw_72, hw_73⟩ | rfl
              · exfalso
                omega
              · refine W.eq (g2 := F0 m 156 ls [.int 0]) rfl ?_
                refine lv_if_eq (tgt := 207) hx hb dX5_runActs_156 (by decide) (fun c_ => ?_) (fun c_ => absurd (by decide) c_)
                refine lv_iload hx hb dX5_runActs_207 (lv_at hl 1 rfl) ?_
                refine lv_bipush (v := 6) hx hb dX5_runActs_209 (by decide) ?_
                refine lv_icmp_ne (tgt := 242) hx hb dX5_runActs_211 (by decide) (fun c_74 => ?_) (fun c_74 => ?_)
                · have c_74' : u_27.toInt ≠ 6 := i_ne c_74 rfl (by decide)
                  refine lv_iload hx hb dX5_runActs_242 (lv_at hl 1 rfl) ?_
                  refine lv_bipush (v := 7) hx hb dX5_runActs_244 (by decide) ?_
                  refine lv_icmp_ne (tgt := 263) hx hb dX5_runActs_246 (by decide) (fun c_75 => ?_) (fun c_75 => ?_)
                  · have c_75' : u_27.toInt ≠ 7 := i_ne c_75 rfl (by decide)
                    refine lv_iload hx hb dX5_runActs_263 (lv_at hl 1 rfl) ?_
                    refine lv_iconst (v := 5) hx hb dX5_runActs_265 (by decide) ?_
                    refine lv_icmp_eq (tgt := 282) hx hb dX5_runActs_266 (by decide) (fun c_76 => ?_) (fun c_76 => ?_)
                    · have c_76' : u_27.toInt = 5 := i_eq c_76 rfl (by decide)
                      obtain ⟨z_77, ez_77⟩ : ∃ z : Int32, z = i + 1 := ⟨_, rfl⟩
                      have e_z_77 : z_77.toInt = i.toInt + 1 := i_add ez_77 rfl (by decide) (by omega) (by omega)
                      refine lv_iinc (v := z_77) (lv' := [(9, .int z_77), (12, .int u_29), (11, .int u_27), (10, .int r_11), (8, .int po), (7, .int j), (6, .int pk), (5, .ref q2), (4, .ref q1), (0, .ref h), (1, .int n), (2, .int x1), (3, .int x2)]) hx hb dX5_runActs_282 hl (k := 3) rfl (by rw [ez_77]; rfl) (by decide) rfl (fun ls hl => ?_)
                      refine lv_goto (tgt := 44) hx hb dX5_runActs_285 (by decide) ?_
                      exact ih (kf - 1) (by omega) g_14 z_77 j pk po q1 q2 H locs ls hT hI hE hM (by omega) (by omega) (by omega) (by omega) (by omega) (by omega) r_20 r_21 (by have e0_ : (0 : Int32).toInt = 0 := (by decide); omega) (lv_sub hl [0, 4, 5, 6, 7, 8, 9, 10, 11, 12] rfl)
                    · have c_76' : u_27.toInt ≠ 5 := i_ne c_76 rfl (by decide)
                      exact absurd c_76' (by omega)
                  · have c_75' : u_27.toInt = 7 := i_eq c_75 rfl (by decide)
                    exact absurd c_75' (by omega)
                · have c_74' : u_27.toInt = 6 := i_eq c_74 rfl (by decide)
                  exact absurd c_74' (by omega)
        · have c_8' : v_7.toInt ≤ z_6.toInt := i_nlt c_8 rfl rfl
          refine lv_aload_n hx hb dX5_runActs_78 rfl (lv_at hl 6 rfl) ?_
          refine lv_iconst (v := 1) hx hb dX5_runActs_79 (by decide) ?_
          refine t_put0 (ci := 5) (v := .int 1) hB hT (ro_ci r_1 rfl) (ro_n0 r_1 (by decide)) rfl 7 (by decide) k_216 (Or.inl rfl) rfl rfl dX5_runActs_80 (fun H locs hT => ?_)
          have hI : Inv (sF g1 h 7 (.int 1)) := hI.sF (p_6_7 r_1 (⟨_, rfl, by decide, by decide⟩))
          have hM : Sm md_s_runActs0 g (sF g1 h 7 (.int 1)) := hM.tr hE (Sm_sF (by rw [r_1]; rfl))
          have hE : Ex g (sF g1 h 7 (.int 1)) := hE
          refine lv_bipush (v := (-2)) hx hb dX5_runActs_83 (by decide) ?_
          exact t_iret hB hr hT (Nat.le_of_ble_eq_true rfl) (Nat.le_of_ble_eq_true rfl) dX5_runActs_85 ⟨(-2), rfl, hI, hE, hM⟩
      · have c_4' : po.toInt ≠ 0 := i_ne c_4 rfl (by decide)
        refine lv_iconst (v := 0) hx hb dX5_runActs_59 (by decide) ?_
        refine lv_istore (lv' := [(8, .int 0), (9, .int i), (7, .int j), (6, .int pk), (5, .ref q2), (4, .ref q1), (0, .ref h), (1, .int n), (2, .int x1), (3, .int x2)]) hx hb dX5_runActs_60 hl (by decide) rfl (fun ls hl => ?_)
        refine lv_goto (tgt := 282) hx hb dX5_runActs_62 (by decide) ?_
        obtain ⟨z_78, ez_78⟩ : ∃ z : Int32, z = i + 1 := ⟨_, rfl⟩
        have e_z_78 : z_78.toInt = i.toInt + 1 := i_add ez_78 rfl (by decide) (by omega) (by omega)
        refine lv_iinc (v := z_78) (lv' := [(9, .int z_78), (8, .int 0), (7, .int j), (6, .int pk), (5, .ref q2), (4, .ref q1), (0, .ref h), (1, .int n), (2, .int x1), (3, .int x2)]) hx hb dX5_runActs_282 hl (k := 1) rfl (by rw [ez_78]; rfl) (by decide) rfl (fun ls hl => ?_)
        refine lv_goto (tgt := 44) hx hb dX5_runActs_285 (by decide) ?_
        exact ih (kf - 1) (by omega) g1 z_78 j pk (0 : Int32) q1 q2 H locs ls hT hI hE hM (by omega) (by omega) (by omega) (by omega) (by decide) (by decide) r1_q1 r1_q2 (by have e0_ : (0 : Int32).toInt = 0 := (by decide); omega) (lv_sub hl [0, 1, 2, 3, 4, 5, 6, 7, 8, 9] rfl)
set_option maxHeartbeats 4000000 in
set_option maxRecDepth 100000 in
theorem s_runActs0 (l : Launch) (D : va_G) (cI cZ cS cR : ClassId) (N0 : NT) (g : GS) (hI : Inv g) (h : Nat) (n : Int32) (x1 : Int32) (x2 : Int32) (r_h : g.1 h = 6) (l_n : 5 ≤ n.toInt) (u_n : n.toInt ≤ 5) : Ty l D cI cZ cS cR N0 yX5_runActs cX5_runActs 14 (some .int) 1 0 0 [.ref h, .int n, .int x1, .int x2] g (fun v g' => ∃ (r : Int32), v = some (.int r) ∧ Inv g' ∧ Ex g g' ∧ Sm md_s_runActs0 g g') := by
  refine t_enter (by decide) (Nat.le_of_ble_eq_true rfl) ?_
  intro p e s m args below meth c ls H locs hB hr hin hl hT
  have hx := hB.1
  have hb := hB.2.1
  have hl : lv_has ls 14 [(0, .ref h), (1, .int n), (2, .int x1), (3, .int x2)] := hl
  have hE : Ex g g := Ex.rf
  have hM : Sm md_s_runActs0 g g := Sm.rf
  refine lv_aload_n hx hb dX5_runActs_0 rfl (lv_at hl 0 rfl) ?_
  obtain ⟨v_1, e_v_1, r_v_1, n_v_1⟩ := f_6_0 hI r_h
  refine t_get (ci := 5) (v := .ref v_1) hB hT (ro_ci r_h rfl) rfl 0 (by decide) k_199 e_v_1 dX5_runActs_1 ?_
  refine lv_iload_n hx hb dX5_runActs_4 rfl (lv_at hl 1 rfl) ?_
  have i_q_2 : vp_in n 6 := (i_in (n := 6) rfl (by omega) (by omega))
  obtain ⟨q_2, e_q_2, r_q_2⟩ := hI.q r_v_1 n_v_1 (i_cl i_q_2)
  refine t_aald hB hT (Or.inl r_v_1) n_v_1 i_q_2 e_q_2 dX5_runActs_5 ?_
  refine lv_astore (lv' := [(4, .ref q_2), (0, .ref h), (1, .int n), (2, .int x1), (3, .int x2)]) hx hb dX5_runActs_6 hl (by decide) rfl (fun ls hl => ?_)
  refine lv_aload hx hb dX5_runActs_8 (lv_at hl 0 rfl) ?_
  obtain ⟨v_3, e_v_3, r_v_3⟩ := f_4_0 hI r_q_2
  refine t_get (ci := 3) (v := .ref v_3) hB hT (ro_ci r_q_2 rfl) rfl 0 (by decide) k_145 e_v_3 dX5_runActs_10 ?_
  refine lv_astore (lv' := [(5, .ref v_3), (4, .ref q_2), (0, .ref h), (1, .int n), (2, .int x1), (3, .int x2)]) hx hb dX5_runActs_13 hl (by decide) rfl (fun ls hl => ?_)
  refine lv_iload_n hx hb dX5_runActs_15 rfl (lv_at hl 5 rfl) ?_
  refine lv_if_eq (tgt := 32) hx hb dX5_runActs_16 (by decide) (fun c_4 => ?_) (fun c_4 => ?_)
  · have c_4' : x2.toInt = 0 := i_eq c_4 rfl (by decide)
    refine lv_iconst (v := 0) hx hb dX5_runActs_32 (by decide) ?_
    refine lv_istore (lv' := [(6, .int 0), (5, .ref v_3), (4, .ref q_2), (0, .ref h), (1, .int n), (2, .int x1), (3, .int x2)]) hx hb dX5_runActs_33 hl (by decide) rfl (fun ls hl => ?_)
    refine lv_iconst (v := 0) hx hb dX5_runActs_35 (by decide) ?_
    refine lv_istore (lv' := [(7, .int 0), (6, .int 0), (5, .ref v_3), (4, .ref q_2), (0, .ref h), (1, .int n), (2, .int x1), (3, .int x2)]) hx hb dX5_runActs_36 hl (by decide) rfl (fun ls hl => ?_)
    refine lv_iconst (v := 0) hx hb dX5_runActs_38 (by decide) ?_
    refine lv_istore (lv' := [(8, .int 0), (7, .int 0), (6, .int 0), (5, .ref v_3), (4, .ref q_2), (0, .ref h), (1, .int n), (2, .int x1), (3, .int x2)]) hx hb dX5_runActs_39 hl (by decide) rfl (fun ls hl => ?_)
    refine lv_iconst (v := 0) hx hb dX5_runActs_41 (by decide) ?_
    refine lv_istore (lv' := [(9, .int 0), (8, .int 0), (7, .int 0), (6, .int 0), (5, .ref v_3), (4, .ref q_2), (0, .ref h), (1, .int n), (2, .int x1), (3, .int x2)]) hx hb dX5_runActs_42 hl (by decide) rfl (fun ls hl => ?_)
    exact lt_s_runActs0_a l D cI cZ cS cR N0 g h n x1 x2 r_h l_n u_n hB hr   8 g (0 : Int32) (0 : Int32) (0 : Int32) (0 : Int32) q_2 v_3 H locs ls hT hI hE hM (by decide) (by decide) (by decide) (by decide) (by decide) (by decide) r_q_2 r_v_3 (by have e0_ : (0 : Int32).toInt = 0 := (by decide); omega) (lv_sub hl [0, 1, 2, 3, 4, 5, 6, 7, 8, 9] rfl)
  · have c_4' : x2.toInt ≠ 0 := i_ne c_4 rfl (by decide)
    refine lv_aload hx hb dX5_runActs_19 (lv_at hl 1 rfl) ?_
    refine lv_iconst (v := 2) hx hb dX5_runActs_21 (by decide) ?_
    refine t_callV (n := 1) (As := [.int 2]) (rest := []) (ci := 3) hB hT hl.1 (s_isMended l D cI cZ cS cR N0 g hI q_2 2 r_q_2) (ro_ci r_q_2 rfl) rfl k_512 k_60 k_509 k_510 k_511 (by decide +kernel) ⟨(Nat.le_of_ble_eq_true rfl), (Nat.le_of_ble_eq_true rfl)⟩ rfl (Nat.le_of_ble_eq_true rfl) ⟨(Nat.le_of_ble_eq_true rfl), (Nat.le_of_ble_eq_true rfl)⟩ dX5_runActs_22 (fun v g_5 H locs hp hT => ?_)
    obtain ⟨r_6, rfl, eg, f_7⟩ := hp
    rw [eg] at hT
    clear eg
    refine W.eq (g2 := F0 m 25 ls [.int r_6]) rfl ?_
    have qc_10 : (2 : Int32).toInt = 2 := (by decide)
    rcases f_7 with rfl | rfl
    · refine W.eq (g2 := F0 m 25 ls [.int 1]) rfl ?_
      refine lv_if_eq (tgt := 32) hx hb dX5_runActs_25 (by decide) (fun c_ => absurd c_ (by decide)) (fun c_ => ?_)
      refine lv_iconst (v := 1) hx hb dX5_runActs_28 (by decide) ?_
      refine lv_goto (tgt := 33) hx hb dX5_runActs_29 (by decide) ?_
      refine lv_istore (lv' := [(6, .int 1), (5, .ref v_3), (4, .ref q_2), (0, .ref h), (1, .int n), (2, .int x1), (3, .int x2)]) hx hb dX5_runActs_33 hl (by decide) rfl (fun ls hl => ?_)
      refine lv_iconst (v := 0) hx hb dX5_runActs_35 (by decide) ?_
      refine lv_istore (lv' := [(7, .int 0), (6, .int 1), (5, .ref v_3), (4, .ref q_2), (0, .ref h), (1, .int n), (2, .int x1), (3, .int x2)]) hx hb dX5_runActs_36 hl (by decide) rfl (fun ls hl => ?_)
      refine lv_iconst (v := 0) hx hb dX5_runActs_38 (by decide) ?_
      refine lv_istore (lv' := [(8, .int 0), (7, .int 0), (6, .int 1), (5, .ref v_3), (4, .ref q_2), (0, .ref h), (1, .int n), (2, .int x1), (3, .int x2)]) hx hb dX5_runActs_39 hl (by decide) rfl (fun ls hl => ?_)
      refine lv_iconst (v := 0) hx hb dX5_runActs_41 (by decide) ?_
      refine lv_istore (lv' := [(9, .int 0), (8, .int 0), (7, .int 0), (6, .int 1), (5, .ref v_3), (4, .ref q_2), (0, .ref h), (1, .int n), (2, .int x1), (3, .int x2)]) hx hb dX5_runActs_42 hl (by decide) rfl (fun ls hl => ?_)
      exact lt_s_runActs0_a l D cI cZ cS cR N0 g h n x1 x2 r_h l_n u_n hB hr   8 g (0 : Int32) (0 : Int32) (1 : Int32) (0 : Int32) q_2 v_3 H locs ls hT hI hE hM (by decide) (by decide) (by decide) (by decide) (by decide) (by decide) r_q_2 r_v_3 (by have e0_ : (0 : Int32).toInt = 0 := (by decide); have e1_ : (1 : Int32).toInt = 1 := (by decide); omega) (lv_sub hl [0, 1, 2, 3, 4, 5, 6, 7, 8, 9] rfl)
    · refine W.eq (g2 := F0 m 25 ls [.int 0]) rfl ?_
      refine lv_if_eq (tgt := 32) hx hb dX5_runActs_25 (by decide) (fun c_ => ?_) (fun c_ => absurd (by decide) c_)
      refine lv_iconst (v := 0) hx hb dX5_runActs_32 (by decide) ?_
      refine lv_istore (lv' := [(6, .int 0), (5, .ref v_3), (4, .ref q_2), (0, .ref h), (1, .int n), (2, .int x1), (3, .int x2)]) hx hb dX5_runActs_33 hl (by decide) rfl (fun ls hl => ?_)
      refine lv_iconst (v := 0) hx hb dX5_runActs_35 (by decide) ?_
      refine lv_istore (lv' := [(7, .int 0), (6, .int 0), (5, .ref v_3), (4, .ref q_2), (0, .ref h), (1, .int n), (2, .int x1), (3, .int x2)]) hx hb dX5_runActs_36 hl (by decide) rfl (fun ls hl => ?_)
      refine lv_iconst (v := 0) hx hb dX5_runActs_38 (by decide) ?_
      refine lv_istore (lv' := [(8, .int 0), (7, .int 0), (6, .int 0), (5, .ref v_3), (4, .ref q_2), (0, .ref h), (1, .int n), (2, .int x1), (3, .int x2)]) hx hb dX5_runActs_39 hl (by decide) rfl (fun ls hl => ?_)
      refine lv_iconst (v := 0) hx hb dX5_runActs_41 (by decide) ?_
      refine lv_istore (lv' := [(9, .int 0), (8, .int 0), (7, .int 0), (6, .int 0), (5, .ref v_3), (4, .ref q_2), (0, .ref h), (1, .int n), (2, .int x1), (3, .int x2)]) hx hb dX5_runActs_42 hl (by decide) rfl (fun ls hl => ?_)
      exact lt_s_runActs0_a l D cI cZ cS cR N0 g h n x1 x2 r_h l_n u_n hB hr   8 g (0 : Int32) (0 : Int32) (0 : Int32) (0 : Int32) q_2 v_3 H locs ls hT hI hE hM (by decide) (by decide) (by decide) (by decide) (by decide) (by decide) r_q_2 r_v_3 (by have e0_ : (0 : Int32).toInt = 0 := (by decide); omega) (lv_sub hl [0, 1, 2, 3, 4, 5, 6, 7, 8, 9] rfl)
abbrev md_s_serve0 : Nat → Nat → Bool := mdf [(4, 2), (4, 5), (4, 10), (4, 11), (4, 14), (6, 4), (6, 5), (6, 7), (50, 99)]
theorem mdle_s_serve0_s_answerNewest {r k : Nat} (h : md_s_serve0 r k = false) : md_s_answerNewest r k = false := mdf_le (by decide +kernel) h
theorem mdle_s_serve0_s_beginKnown {r k : Nat} (h : md_s_serve0 r k = false) : md_s_beginKnown r k = false := mdf_le (by decide +kernel) h
theorem mdle_s_serve0_s_keep {r k : Nat} (h : md_s_serve0 r k = false) : md_s_keep r k = false := mdf_le (by decide +kernel) h
theorem mdle_s_serve0_s_runActs0 {r k : Nat} (h : md_s_serve0 r k = false) : md_s_runActs0 r k = false := mdf_le (by decide +kernel) h
set_option maxHeartbeats 4000000 in
set_option maxRecDepth 100000 in
theorem s_serve0 (l : Launch) (D : va_G) (cI cZ cS cR : ClassId) (N0 : NT) (g : GS) (hI : Inv g) (h : Nat) (n : Int32) (x1 : Int32) (x2 : Int32) (r_h : g.1 h = 6) (l_n : 5 ≤ n.toInt) (u_n : n.toInt ≤ 5) : Ty l D cI cZ cS cR N0 yX5_serve cX5_serve 9 (some .int) 2 0 0 [.ref h, .int n, .int x1, .int x2] g (fun v g' => ∃ (r : Int32), v = some (.int r) ∧ Inv g' ∧ Ex g g' ∧ Sm md_s_serve0 g g') := by
  refine t_enter (by decide) (Nat.le_of_ble_eq_true rfl) ?_
  intro p e s m args below meth c ls H locs hB hr hin hl hT
  have hx := hB.1
  have hb := hB.2.1
  have hl : lv_has ls 9 [(0, .ref h), (1, .int n), (2, .int x1), (3, .int x2)] := hl
  have hE : Ex g g := Ex.rf
  have hM : Sm md_s_serve0 g g := Sm.rf
  refine lv_aload_n hx hb dX5_serve_0 rfl (lv_at hl 0 rfl) ?_
  obtain ⟨v_1, e_v_1, r_v_1, n_v_1⟩ := f_6_0 hI r_h
  refine t_get (ci := 5) (v := .ref v_1) hB hT (ro_ci r_h rfl) rfl 0 (by decide) k_199 e_v_1 dX5_serve_1 ?_
  refine lv_iload_n hx hb dX5_serve_4 rfl (lv_at hl 1 rfl) ?_
  have i_q_2 : vp_in n 6 := (i_in (n := 6) rfl (by omega) (by omega))
  obtain ⟨q_2, e_q_2, r_q_2⟩ := hI.q r_v_1 n_v_1 (i_cl i_q_2)
  refine t_aald hB hT (Or.inl r_v_1) n_v_1 i_q_2 e_q_2 dX5_serve_5 ?_
  refine lv_astore (lv' := [(4, .ref q_2), (0, .ref h), (1, .int n), (2, .int x1), (3, .int x2)]) hx hb dX5_serve_6 hl (by decide) rfl (fun ls hl => ?_)
  refine lv_iload_n hx hb dX5_serve_8 rfl (lv_at hl 4 rfl) ?_
  refine lv_if_eq (tgt := 25) hx hb dX5_serve_9 (by decide) (fun c_3 => ?_) (fun c_3 => ?_)
  · have c_3' : x2.toInt = 0 := i_eq c_3 rfl (by decide)
    refine lv_iconst (v := 0) hx hb dX5_serve_25 (by decide) ?_
    refine lv_istore (lv' := [(5, .int 0), (4, .ref q_2), (0, .ref h), (1, .int n), (2, .int x1), (3, .int x2)]) hx hb dX5_serve_26 hl (by decide) rfl (fun ls hl => ?_)
    refine lv_iload hx hb dX5_serve_28 (lv_at hl 0 rfl) ?_
    refine lv_if_eq (tgt := 46) hx hb dX5_serve_30 (by decide) (fun c_ => ?_) (fun c_ => absurd (by decide) c_)
    refine lv_iconst (v := 0) hx hb dX5_serve_46 (by decide) ?_
    refine lv_istore (lv' := [(6, .int 0), (5, .int 0), (4, .ref q_2), (0, .ref h), (1, .int n), (2, .int x1), (3, .int x2)]) hx hb dX5_serve_47 hl (by decide) rfl (fun ls hl => ?_)
    refine lv_iload hx hb dX5_serve_49 (lv_at hl 1 rfl) ?_
    refine lv_if_eq (tgt := 63) hx hb dX5_serve_51 (by decide) (fun c_ => ?_) (fun c_ => absurd (by decide) c_)
    refine lv_iconst (v := (-1)) hx hb dX5_serve_63 (by decide) ?_
    refine lv_istore (lv' := [(7, .int (-1)), (6, .int 0), (5, .int 0), (4, .ref q_2), (0, .ref h), (1, .int n), (2, .int x1), (3, .int x2)]) hx hb dX5_serve_64 hl (by decide) rfl (fun ls hl => ?_)
    refine lv_iload hx hb dX5_serve_66 (lv_at hl 0 rfl) ?_
    refine lv_iconst (v := (-1)) hx hb dX5_serve_68 (by decide) ?_
    refine lv_icmp_eq (tgt := 81) hx hb dX5_serve_69 (by decide) (fun c_ => ?_) (fun c_ => absurd (by decide) c_)
    refine lv_iload hx hb dX5_serve_81 (lv_at hl 1 rfl) ?_
    refine lv_if_eq (tgt := 98) hx hb dX5_serve_83 (by decide) (fun c_ => ?_) (fun c_ => absurd (by decide) c_)
    refine lv_aload hx hb dX5_serve_98 (lv_at hl 3 rfl) ?_
    refine lv_iload_n hx hb dX5_serve_100 rfl (lv_at hl 6 rfl) ?_
    refine lv_iload_n hx hb dX5_serve_101 rfl (lv_at hl 7 rfl) ?_
    refine t_callV (n := 2) (As := [.int x1, .int x2]) (rest := []) (ci := 3) hB hT hl.1 (s_beginKnown l D cI cZ cS cR N0 g hI q_2 x1 x2 r_q_2) (ro_ci r_q_2 rfl) rfl k_529 k_60 k_526 k_527 k_528 (by decide +kernel) ⟨(Nat.le_of_ble_eq_true rfl), (Nat.le_of_ble_eq_true rfl)⟩ rfl (Nat.le_of_ble_eq_true rfl) ⟨(Nat.le_of_ble_eq_true rfl), (Nat.le_of_ble_eq_true rfl)⟩ dX5_serve_102 (fun v g_4 H locs hp hT => ?_)
    obtain ⟨rfl, hI, x_6, m_5⟩ := hp
    have hM : Sm md_s_serve0 g g_4 := hM.tr hE (m_5.mo (fun r k h => mdle_s_serve0_s_beginKnown h))
    have hE : Ex g g_4 := hE.tr x_6
    have r_7 : g_4.1 h = 6 := (Ex.r x_6 r_h (by decide))
    have r_8 : g_4.1 v_1 = 41 := (Ex.r x_6 r_v_1 (by decide))
    have r_9 : g_4.1 q_2 = 4 := (Ex.r x_6 r_q_2 (by decide))
    have n_10 : g_4.2.2.1 v_1 = 6 := (Ex.n x_6 r_v_1 (by decide) n_v_1)
    have kn_11 : g_4.2.1 h 0 = .ref v_1 := (Sm.v m_5 r_h (by decide) rfl e_v_1)
    refine W.eq (g2 := F0 m 105 ls []) rfl ?_
    refine lv_aload_n hx hb dX5_serve_105 rfl (lv_at hl 4 rfl) ?_
    refine lv_iload_n hx hb dX5_serve_106 rfl (lv_at hl 5 rfl) ?_
    refine lv_iload_n hx hb dX5_serve_107 rfl (lv_at hl 6 rfl) ?_
    refine lv_iload_n hx hb dX5_serve_108 rfl (lv_at hl 7 rfl) ?_
    refine t_callV (n := 3) (As := [.int n, .int x1, .int x2]) (rest := []) (ci := 5) hB hT hl.1 (s_runActs0 l D cI cZ cS cR N0 g_4 hI h n x1 x2 r_7 (by omega) (by omega)) (ro_ci r_7 rfl) rfl k_534 k_59 k_531 k_533 k_13 (by decide +kernel) ⟨(Nat.le_of_ble_eq_true rfl), (Nat.le_of_ble_eq_true rfl)⟩ rfl (Nat.le_of_ble_eq_true rfl) ⟨(Nat.le_of_ble_eq_true rfl), (Nat.le_of_ble_eq_true rfl)⟩ dX5_serve_109 (fun v g_12 H locs hp hT => ?_)
    obtain ⟨r_13, rfl, hI, x_15, m_14⟩ := hp
    have hM : Sm md_s_serve0 g g_12 := hM.tr hE (m_14.mo (fun r k h => mdle_s_serve0_s_runActs0 h))
    have hE : Ex g g_12 := hE.tr x_15
    have r_16 : g_12.1 h = 6 := (Ex.r x_15 r_7 (by decide))
    have r_17 : g_12.1 v_1 = 41 := (Ex.r x_15 r_8 (by decide))
    have r_18 : g_12.1 q_2 = 4 := (Ex.r x_15 r_9 (by decide))
    have n_19 : g_12.2.2.1 v_1 = 6 := (Ex.n x_15 r_8 (by decide) n_10)
    have kn_20 : g_12.2.1 h 0 = .ref v_1 := (Sm.v m_14 r_7 (by decide) rfl kn_11)
    refine W.eq (g2 := F0 m 112 ls [.int r_13]) rfl ?_
    refine lv_istore (lv' := [(8, .int r_13), (7, .int (-1)), (6, .int 0), (5, .int 0), (4, .ref q_2), (0, .ref h), (1, .int n), (2, .int x1), (3, .int x2)]) hx hb dX5_serve_112 hl (by decide) rfl (fun ls hl => ?_)
    refine lv_aload_n hx hb dX5_serve_114 rfl (lv_at hl 5 rfl) ?_
    obtain ⟨v_21, e_v_21, l_v_21, u_v_21⟩ := f_6_7 hI r_16
    refine t_get (ci := 5) (v := .int v_21) hB hT (ro_ci r_16 rfl) rfl 7 (by decide) k_216 e_v_21 dX5_serve_115 ?_
    refine lv_if_eq (tgt := 124) hx hb dX5_serve_118 (by decide) (fun c_22 => ?_) (fun c_22 => ?_)
    · have c_22' : v_21.toInt = 0 := i_eq c_22 rfl (by decide)
      refine lv_iload hx hb dX5_serve_124 (lv_at hl 2 rfl) ?_
      refine lv_if_eq (tgt := 140) hx hb dX5_serve_126 (by decide) (fun c_ => ?_) (fun c_ => absurd (by decide) c_)
      refine lv_iload hx hb dX5_serve_140 (lv_at hl 3 rfl) ?_
      refine lv_if_eq (tgt := 158) hx hb dX5_serve_142 (by decide) (fun c_ => ?_) (fun c_ => absurd (by decide) c_)
      refine lv_iload hx hb dX5_serve_158 (lv_at hl 0 rfl) ?_
      exact t_iret hB hr hT (Nat.le_of_ble_eq_true rfl) (Nat.le_of_ble_eq_true rfl) dX5_serve_160 ⟨r_13, rfl, hI, hE, hM⟩
    · have c_22' : v_21.toInt ≠ 0 := i_ne c_22 rfl (by decide)
      refine lv_bipush (v := (-2)) hx hb dX5_serve_121 (by decide) ?_
      exact t_iret hB hr hT (Nat.le_of_ble_eq_true rfl) (Nat.le_of_ble_eq_true rfl) dX5_serve_123 ⟨(-2), rfl, hI, hE, hM⟩
  · have c_3' : x2.toInt ≠ 0 := i_ne c_3 rfl (by decide)
    refine lv_aload hx hb dX5_serve_12 (lv_at hl 0 rfl) ?_
    refine lv_iconst (v := 0) hx hb dX5_serve_14 (by decide) ?_
    refine t_callV (n := 1) (As := [.int 0]) (rest := []) (ci := 3) hB hT hl.1 (s_isMended l D cI cZ cS cR N0 g hI q_2 0 r_q_2) (ro_ci r_q_2 rfl) rfl k_512 k_60 k_509 k_510 k_511 (by decide +kernel) ⟨(Nat.le_of_ble_eq_true rfl), (Nat.le_of_ble_eq_true rfl)⟩ rfl (Nat.le_of_ble_eq_true rfl) ⟨(Nat.le_of_ble_eq_true rfl), (Nat.le_of_ble_eq_true rfl)⟩ dX5_serve_15 (fun v g_23 H locs hp hT => ?_)
    obtain ⟨r_24, rfl, eg, f_25⟩ := hp
    rw [eg] at hT
    clear eg
    refine W.eq (g2 := F0 m 18 ls [.int r_24]) rfl ?_
    have qc_28 : (0 : Int32).toInt = 0 := (by decide)
    rcases f_25 with rfl | rfl
    · refine W.eq (g2 := F0 m 18 ls [.int 1]) rfl ?_
      refine lv_if_eq (tgt := 25) hx hb dX5_serve_18 (by decide) (fun c_ => absurd c_ (by decide)) (fun c_ => ?_)
      refine lv_iconst (v := 1) hx hb dX5_serve_21 (by decide) ?_
      refine lv_goto (tgt := 26) hx hb dX5_serve_22 (by decide) ?_
      refine lv_istore (lv' := [(5, .int 1), (4, .ref q_2), (0, .ref h), (1, .int n), (2, .int x1), (3, .int x2)]) hx hb dX5_serve_26 hl (by decide) rfl (fun ls hl => ?_)
      refine lv_iload hx hb dX5_serve_28 (lv_at hl 0 rfl) ?_
      refine lv_if_eq (tgt := 46) hx hb dX5_serve_30 (by decide) (fun c_ => absurd c_ (by decide)) (fun c_ => ?_)
      refine lv_aload hx hb dX5_serve_33 (lv_at hl 1 rfl) ?_
      refine lv_iconst (v := 1) hx hb dX5_serve_35 (by decide) ?_
      refine t_callV (n := 1) (As := [.int 1]) (rest := []) (ci := 3) hB hT hl.1 (s_isMended l D cI cZ cS cR N0 g hI q_2 1 r_q_2) (ro_ci r_q_2 rfl) rfl k_512 k_60 k_509 k_510 k_511 (by decide +kernel) ⟨(Nat.le_of_ble_eq_true rfl), (Nat.le_of_ble_eq_true rfl)⟩ rfl (Nat.le_of_ble_eq_true rfl) ⟨(Nat.le_of_ble_eq_true rfl), (Nat.le_of_ble_eq_true rfl)⟩ dX5_serve_36 (fun v g_29 H locs hp hT => ?_)
      obtain ⟨r_30, rfl, eg, f_31⟩ := hp
      rw [eg] at hT
      clear eg
      refine W.eq (g2 := F0 m 39 ls [.int r_30]) rfl ?_
      have qc_34 : (1 : Int32).toInt = 1 := (by decide)
      rcases f_31 with rfl | rfl
      · refine W.eq (g2 := F0 m 39 ls [.int 1]) rfl ?_
        refine lv_if_eq (tgt := 46) hx hb dX5_serve_39 (by decide) (fun c_ => absurd c_ (by decide)) (fun c_ => ?_)
        refine lv_iconst (v := 1) hx hb dX5_serve_42 (by decide) ?_
        refine lv_goto (tgt := 47) hx hb dX5_serve_43 (by decide) ?_
        refine lv_istore (lv' := [(6, .int 1), (5, .int 1), (4, .ref q_2), (0, .ref h), (1, .int n), (2, .int x1), (3, .int x2)]) hx hb dX5_serve_47 hl (by decide) rfl (fun ls hl => ?_)
        refine lv_iload hx hb dX5_serve_49 (lv_at hl 1 rfl) ?_
        refine lv_if_eq (tgt := 63) hx hb dX5_serve_51 (by decide) (fun c_ => absurd c_ (by decide)) (fun c_ => ?_)
        refine lv_aload hx hb dX5_serve_54 (lv_at hl 2 rfl) ?_
        refine lv_iload_n hx hb dX5_serve_56 rfl (lv_at hl 6 rfl) ?_
        refine t_callV (n := 1) (As := [.int x2]) (rest := []) (ci := 3) hB hT hl.1 (s_placeOfKey l D cI cZ cS cR N0 g hI q_2 x2 r_q_2) (ro_ci r_q_2 rfl) rfl k_516 k_60 k_513 k_514 k_515 (by decide +kernel) ⟨(Nat.le_of_ble_eq_true rfl), (Nat.le_of_ble_eq_true rfl)⟩ rfl (Nat.le_of_ble_eq_true rfl) ⟨(Nat.le_of_ble_eq_true rfl), (Nat.le_of_ble_eq_true rfl)⟩ dX5_serve_57 (fun v g_35 H locs hp hT => ?_)
        obtain ⟨r_36, rfl, eg, f_37⟩ := hp
        rw [eg] at hT
        clear eg
        refine W.eq (g2 := F0 m 60 ls [.int r_36]) rfl ?_
        rcases f_37 with rfl | ⟨hw_40, hw_41⟩
        · refine W.eq (g2 := F0 m 60 ls [.int (-1)]) rfl ?_
          refine lv_goto (tgt := 64) hx hb dX5_serve_60 (by decide) ?_
          refine lv_istore (lv' := [(7, .int (-1)), (6, .int 1), (5, .int 1), (4, .ref q_2), (0, .ref h), (1, .int n), (2, .int x1), (3, .int x2)]) hx hb dX5_serve_64 hl (by decide) rfl (fun ls hl => ?_)
          refine lv_iload hx hb dX5_serve_66 (lv_at hl 0 rfl) ?_
          refine lv_iconst (v := (-1)) hx hb dX5_serve_68 (by decide) ?_
          refine lv_icmp_eq (tgt := 81) hx hb dX5_serve_69 (by decide) (fun c_ => ?_) (fun c_ => absurd (by decide) c_)
          refine lv_iload hx hb dX5_serve_81 (lv_at hl 1 rfl) ?_
          refine lv_if_eq (tgt := 98) hx hb dX5_serve_83 (by decide) (fun c_ => absurd c_ (by decide)) (fun c_ => ?_)
          refine lv_aload hx hb dX5_serve_86 (lv_at hl 3 rfl) ?_
          refine lv_iload_n hx hb dX5_serve_88 rfl (lv_at hl 7 rfl) ?_
          refine lv_iload_n hx hb dX5_serve_89 rfl (lv_at hl 6 rfl) ?_
          refine lv_iconst (v := 0) hx hb dX5_serve_90 (by decide) ?_
          refine lv_aload_n hx hb dX5_serve_91 rfl (lv_at hl 4 rfl) ?_
          obtain ⟨v_42, e_v_42⟩ := f_6_2 hI r_h
          refine t_get (ci := 5) (v := .int v_42) hB hT (ro_ci r_h rfl) rfl 2 (by decide) k_205 e_v_42 dX5_serve_92 ?_
          refine t_callV (n := 4) (As := [.int x2, .int x1, .int 0, .int v_42]) (rest := []) (ci := 3) hB hT hl.1 (s_keep l D cI cZ cS cR N0 g hI q_2 x2 x1 0 v_42 r_q_2) (ro_ci r_q_2 rfl) rfl k_524 k_60 k_521 k_522 k_523 (by decide +kernel) ⟨(Nat.le_of_ble_eq_true rfl), (Nat.le_of_ble_eq_true rfl)⟩ rfl (Nat.le_of_ble_eq_true rfl) ⟨(Nat.le_of_ble_eq_true rfl), (Nat.le_of_ble_eq_true rfl)⟩ dX5_serve_95 (fun v g_43 H locs hp hT => ?_)
          obtain ⟨rfl, hI, x_45, m_44⟩ := hp
          have hM : Sm md_s_serve0 g g_43 := hM.tr hE (m_44.mo (fun r k h => mdle_s_serve0_s_keep h))
          have hE : Ex g g_43 := hE.tr x_45
          have r_46 : g_43.1 h = 6 := (Ex.r x_45 r_h (by decide))
          have r_47 : g_43.1 v_1 = 41 := (Ex.r x_45 r_v_1 (by decide))
          have r_48 : g_43.1 q_2 = 4 := (Ex.r x_45 r_q_2 (by decide))
          have n_49 : g_43.2.2.1 v_1 = 6 := (Ex.n x_45 r_v_1 (by decide) n_v_1)
          have kn_50 : g_43.2.1 h 0 = .ref v_1 := (Sm.v m_44 r_h (by decide) rfl e_v_1)
          have kn_51 : g_43.2.1 h 2 = .int v_42 := (Sm.v m_44 r_h (by decide) rfl e_v_42)
          refine W.eq (g2 := F0 m 98 ls []) rfl ?_
          refine lv_aload hx hb dX5_serve_98 (lv_at hl 3 rfl) ?_
          refine lv_iload_n hx hb dX5_serve_100 rfl (lv_at hl 6 rfl) ?_
          refine lv_iload_n hx hb dX5_serve_101 rfl (lv_at hl 7 rfl) ?_
          refine t_callV (n := 2) (As := [.int x1, .int x2]) (rest := []) (ci := 3) hB hT hl.1 (s_beginKnown l D cI cZ cS cR N0 g_43 hI q_2 x1 x2 r_48) (ro_ci r_48 rfl) rfl k_529 k_60 k_526 k_527 k_528 (by decide +kernel) ⟨(Nat.le_of_ble_eq_true rfl), (Nat.le_of_ble_eq_true rfl)⟩ rfl (Nat.le_of_ble_eq_true rfl) ⟨(Nat.le_of_ble_eq_true rfl), (Nat.le_of_ble_eq_true rfl)⟩ dX5_serve_102 (fun v g_52 H locs hp hT => ?_)
          obtain ⟨rfl, hI, x_54, m_53⟩ := hp
          have hM : Sm md_s_serve0 g g_52 := hM.tr hE (m_53.mo (fun r k h => mdle_s_serve0_s_beginKnown h))
          have hE : Ex g g_52 := hE.tr x_54
          have r_55 : g_52.1 h = 6 := (Ex.r x_54 r_46 (by decide))
          have r_56 : g_52.1 v_1 = 41 := (Ex.r x_54 r_47 (by decide))
          have r_57 : g_52.1 q_2 = 4 := (Ex.r x_54 r_48 (by decide))
          have n_58 : g_52.2.2.1 v_1 = 6 := (Ex.n x_54 r_47 (by decide) n_49)
          have kn_59 : g_52.2.1 h 0 = .ref v_1 := (Sm.v m_53 r_46 (by decide) rfl kn_50)
          have kn_60 : g_52.2.1 h 2 = .int v_42 := (Sm.v m_53 r_46 (by decide) rfl kn_51)
          refine W.eq (g2 := F0 m 105 ls []) rfl ?_
          refine lv_aload_n hx hb dX5_serve_105 rfl (lv_at hl 4 rfl) ?_
          refine lv_iload_n hx hb dX5_serve_106 rfl (lv_at hl 5 rfl) ?_
          refine lv_iload_n hx hb dX5_serve_107 rfl (lv_at hl 6 rfl) ?_
          refine lv_iload_n hx hb dX5_serve_108 rfl (lv_at hl 7 rfl) ?_
          refine t_callV (n := 3) (As := [.int n, .int x1, .int x2]) (rest := []) (ci := 5) hB hT hl.1 (s_runActs0 l D cI cZ cS cR N0 g_52 hI h n x1 x2 r_55 (by omega) (by omega)) (ro_ci r_55 rfl) rfl k_534 k_59 k_531 k_533 k_13 (by decide +kernel) ⟨(Nat.le_of_ble_eq_true rfl), (Nat.le_of_ble_eq_true rfl)⟩ rfl (Nat.le_of_ble_eq_true rfl) ⟨(Nat.le_of_ble_eq_true rfl), (Nat.le_of_ble_eq_true rfl)⟩ dX5_serve_109 (fun v g_61 H locs hp hT => ?_)
          obtain ⟨r_62, rfl, hI, x_64, m_63⟩ := hp
          have hM : Sm md_s_serve0 g g_61 := hM.tr hE (m_63.mo (fun r k h => mdle_s_serve0_s_runActs0 h))
          have hE : Ex g g_61 := hE.tr x_64
          have r_65 : g_61.1 h = 6 := (Ex.r x_64 r_55 (by decide))
          have r_66 : g_61.1 v_1 = 41 := (Ex.r x_64 r_56 (by decide))
          have r_67 : g_61.1 q_2 = 4 := (Ex.r x_64 r_57 (by decide))
          have n_68 : g_61.2.2.1 v_1 = 6 := (Ex.n x_64 r_56 (by decide) n_58)
          have kn_69 : g_61.2.1 h 0 = .ref v_1 := (Sm.v m_63 r_55 (by decide) rfl kn_59)
          have kn_70 : g_61.2.1 h 2 = .int v_42 := (Sm.v m_63 r_55 (by decide) rfl kn_60)
          refine W.eq (g2 := F0 m 112 ls [.int r_62]) rfl ?_
          refine lv_istore (lv' := [(8, .int r_62), (7, .int (-1)), (6, .int 1), (5, .int 1), (4, .ref q_2), (0, .ref h), (1, .int n), (2, .int x1), (3, .int x2)]) hx hb dX5_serve_112 hl (by decide) rfl (fun ls hl => ?_)
          refine lv_aload_n hx hb dX5_serve_114 rfl (lv_at hl 5 rfl) ?_
          obtain ⟨v_71, e_v_71, l_v_71, u_v_71⟩ := f_6_7 hI r_65
          refine t_get (ci := 5) (v := .int v_71) hB hT (ro_ci r_65 rfl) rfl 7 (by decide) k_216 e_v_71 dX5_serve_115 ?_
          refine lv_if_eq (tgt := 124) hx hb dX5_serve_118 (by decide) (fun c_72 => ?_) (fun c_72 => ?_)
          · have c_72' : v_71.toInt = 0 := i_eq c_72 rfl (by decide)
            refine lv_iload hx hb dX5_serve_124 (lv_at hl 2 rfl) ?_
            refine lv_if_eq (tgt := 140) hx hb dX5_serve_126 (by decide) (fun c_ => absurd c_ (by decide)) (fun c_ => ?_)
            refine lv_aload hx hb dX5_serve_129 (lv_at hl 4 rfl) ?_
            refine lv_iload_n hx hb dX5_serve_131 rfl (lv_at hl 8 rfl) ?_
            refine lv_iload hx hb dX5_serve_132 (lv_at hl 0 rfl) ?_
            refine t_callV (n := 2) (As := [.int x2, .int r_62]) (rest := []) (ci := 3) hB hT hl.1 (s_answerNewest l D cI cZ cS cR N0 g_61 hI q_2 x2 r_62 r_67) (ro_ci r_67 rfl) rfl k_554 k_60 k_551 k_552 k_553 (by decide +kernel) ⟨(Nat.le_of_ble_eq_true rfl), (Nat.le_of_ble_eq_true rfl)⟩ rfl (Nat.le_of_ble_eq_true rfl) ⟨(Nat.le_of_ble_eq_true rfl), (Nat.le_of_ble_eq_true rfl)⟩ dX5_serve_134 (fun v g_73 H locs hp hT => ?_)
            obtain ⟨rfl, hI, x_75, m_74⟩ := hp
            have hM : Sm md_s_serve0 g g_73 := hM.tr hE (m_74.mo (fun r k h => mdle_s_serve0_s_answerNewest h))
            have hE : Ex g g_73 := hE.tr x_75
            have r_76 : g_73.1 h = 6 := (Ex.r x_75 r_65 (by decide))
            have r_77 : g_73.1 v_1 = 41 := (Ex.r x_75 r_66 (by decide))
            have r_78 : g_73.1 q_2 = 4 := (Ex.r x_75 r_67 (by decide))
            have n_79 : g_73.2.2.1 v_1 = 6 := (Ex.n x_75 r_66 (by decide) n_68)
            have kn_80 : g_73.2.1 h 0 = .ref v_1 := (Sm.v m_74 r_65 (by decide) rfl kn_69)
            have kn_81 : g_73.2.1 h 2 = .int v_42 := (Sm.v m_74 r_65 (by decide) rfl kn_70)
            have kn_82 : g_73.2.1 h 7 = .int v_71 := (Sm.v m_74 r_65 (by decide) rfl e_v_71)
            refine W.eq (g2 := F0 m 137 ls []) rfl ?_
            refine lv_goto (tgt := 158) hx hb dX5_serve_137 (by decide) ?_
            refine lv_iload hx hb dX5_serve_158 (lv_at hl 0 rfl) ?_
            exact t_iret hB hr hT (Nat.le_of_ble_eq_true rfl) (Nat.le_of_ble_eq_true rfl) dX5_serve_160 ⟨r_62, rfl, hI, hE, hM⟩
          · have c_72' : v_71.toInt ≠ 0 := i_ne c_72 rfl (by decide)
            refine lv_bipush (v := (-2)) hx hb dX5_serve_121 (by decide) ?_
            exact t_iret hB hr hT (Nat.le_of_ble_eq_true rfl) (Nat.le_of_ble_eq_true rfl) dX5_serve_123 ⟨(-2), rfl, hI, hE, hM⟩
        · refine W.eq (g2 := F0 m 60 ls [.int r_36]) rfl ?_
          refine lv_goto (tgt := 64) hx hb dX5_serve_60 (by decide) ?_
          refine lv_istore (lv' := [(7, .int r_36), (6, .int 1), (5, .int 1), (4, .ref q_2), (0, .ref h), (1, .int n), (2, .int x1), (3, .int x2)]) hx hb dX5_serve_64 hl (by decide) rfl (fun ls hl => ?_)
          refine lv_iload hx hb dX5_serve_66 (lv_at hl 0 rfl) ?_
          refine lv_iconst (v := (-1)) hx hb dX5_serve_68 (by decide) ?_
          refine lv_icmp_eq (tgt := 81) hx hb dX5_serve_69 (by decide) (fun c_83 => ?_) (fun c_83 => ?_)
          · have c_83' : r_36.toInt = (-1) := i_eq c_83 rfl (by decide)
            exact absurd c_83' (by omega)
          · have c_83' : r_36.toInt ≠ (-1) := i_ne c_83 rfl (by decide)
            refine lv_aload hx hb dX5_serve_72 (lv_at hl 3 rfl) ?_
            refine lv_iload hx hb dX5_serve_74 (lv_at hl 0 rfl) ?_
            refine lv_iload_n hx hb dX5_serve_76 rfl (lv_at hl 6 rfl) ?_
            refine t_callV (n := 2) (As := [.int r_36, .int x1]) (rest := []) (ci := 3) hB hT hl.1 (s_keptAnswer l D cI cZ cS cR N0 g hI q_2 r_36 x1 r_q_2 (by omega) (by omega)) (ro_ci r_q_2 rfl) rfl k_520 k_60 k_517 k_518 k_519 (by decide +kernel) ⟨(Nat.le_of_ble_eq_true rfl), (Nat.le_of_ble_eq_true rfl)⟩ rfl (Nat.le_of_ble_eq_true rfl) ⟨(Nat.le_of_ble_eq_true rfl), (Nat.le_of_ble_eq_true rfl)⟩ dX5_serve_77 (fun v g_84 H locs hp hT => ?_)
            obtain ⟨r_85, rfl, eg⟩ := hp
            rw [eg] at hT
            clear eg
            refine W.eq (g2 := F0 m 80 ls [.int r_85]) rfl ?_
            exact t_iret hB hr hT (Nat.le_of_ble_eq_true rfl) (Nat.le_of_ble_eq_true rfl) dX5_serve_80 ⟨r_85, rfl, hI, hE, hM⟩
      · refine W.eq (g2 := F0 m 39 ls [.int 0]) rfl ?_
        refine lv_if_eq (tgt := 46) hx hb dX5_serve_39 (by decide) (fun c_ => ?_) (fun c_ => absurd (by decide) c_)
        refine lv_iconst (v := 0) hx hb dX5_serve_46 (by decide) ?_
        refine lv_istore (lv' := [(6, .int 0), (5, .int 1), (4, .ref q_2), (0, .ref h), (1, .int n), (2, .int x1), (3, .int x2)]) hx hb dX5_serve_47 hl (by decide) rfl (fun ls hl => ?_)
        refine lv_iload hx hb dX5_serve_49 (lv_at hl 1 rfl) ?_
        refine lv_if_eq (tgt := 63) hx hb dX5_serve_51 (by decide) (fun c_ => absurd c_ (by decide)) (fun c_ => ?_)
        refine lv_aload hx hb dX5_serve_54 (lv_at hl 2 rfl) ?_
        refine lv_iload_n hx hb dX5_serve_56 rfl (lv_at hl 6 rfl) ?_
        refine t_callV (n := 1) (As := [.int x2]) (rest := []) (ci := 3) hB hT hl.1 (s_placeOfKey l D cI cZ cS cR N0 g hI q_2 x2 r_q_2) (ro_ci r_q_2 rfl) rfl k_516 k_60 k_513 k_514 k_515 (by decide +kernel) ⟨(Nat.le_of_ble_eq_true rfl), (Nat.le_of_ble_eq_true rfl)⟩ rfl (Nat.le_of_ble_eq_true rfl) ⟨(Nat.le_of_ble_eq_true rfl), (Nat.le_of_ble_eq_true rfl)⟩ dX5_serve_57 (fun v g_88 H locs hp hT => ?_)
        obtain ⟨r_89, rfl, eg, f_90⟩ := hp
        rw [eg] at hT
        clear eg
        refine W.eq (g2 := F0 m 60 ls [.int r_89]) rfl ?_
        rcases f_90 with rfl | ⟨hw_93, hw_94⟩
        · refine W.eq (g2 := F0 m 60 ls [.int (-1)]) rfl ?_
          refine lv_goto (tgt := 64) hx hb dX5_serve_60 (by decide) ?_
          refine lv_istore (lv' := [(7, .int (-1)), (6, .int 0), (5, .int 1), (4, .ref q_2), (0, .ref h), (1, .int n), (2, .int x1), (3, .int x2)]) hx hb dX5_serve_64 hl (by decide) rfl (fun ls hl => ?_)
          refine lv_iload hx hb dX5_serve_66 (lv_at hl 0 rfl) ?_
          refine lv_iconst (v := (-1)) hx hb dX5_serve_68 (by decide) ?_
          refine lv_icmp_eq (tgt := 81) hx hb dX5_serve_69 (by decide) (fun c_ => ?_) (fun c_ => absurd (by decide) c_)
          refine lv_iload hx hb dX5_serve_81 (lv_at hl 1 rfl) ?_
          refine lv_if_eq (tgt := 98) hx hb dX5_serve_83 (by decide) (fun c_ => ?_) (fun c_ => absurd (by decide) c_)
          refine lv_aload hx hb dX5_serve_98 (lv_at hl 3 rfl) ?_
          refine lv_iload_n hx hb dX5_serve_100 rfl (lv_at hl 6 rfl) ?_
          refine lv_iload_n hx hb dX5_serve_101 rfl (lv_at hl 7 rfl) ?_
          refine t_callV (n := 2) (As := [.int x1, .int x2]) (rest := []) (ci := 3) hB hT hl.1 (s_beginKnown l D cI cZ cS cR N0 g hI q_2 x1 x2 r_q_2) (ro_ci r_q_2 rfl) rfl k_529 k_60 k_526 k_527 k_528 (by decide +kernel) ⟨(Nat.le_of_ble_eq_true rfl), (Nat.le_of_ble_eq_true rfl)⟩ rfl (Nat.le_of_ble_eq_true rfl) ⟨(Nat.le_of_ble_eq_true rfl), (Nat.le_of_ble_eq_true rfl)⟩ dX5_serve_102 (fun v g_95 H locs hp hT => ?_)
          obtain ⟨rfl, hI, x_97, m_96⟩ := hp
          have hM : Sm md_s_serve0 g g_95 := hM.tr hE (m_96.mo (fun r k h => mdle_s_serve0_s_beginKnown h))
          have hE : Ex g g_95 := hE.tr x_97
          have r_98 : g_95.1 h = 6 := (Ex.r x_97 r_h (by decide))
          have r_99 : g_95.1 v_1 = 41 := (Ex.r x_97 r_v_1 (by decide))
          have r_100 : g_95.1 q_2 = 4 := (Ex.r x_97 r_q_2 (by decide))
          have n_101 : g_95.2.2.1 v_1 = 6 := (Ex.n x_97 r_v_1 (by decide) n_v_1)
          have kn_102 : g_95.2.1 h 0 = .ref v_1 := (Sm.v m_96 r_h (by decide) rfl e_v_1)
          refine W.eq (g2 := F0 m 105 ls []) rfl ?_
          refine lv_aload_n hx hb dX5_serve_105 rfl (lv_at hl 4 rfl) ?_
          refine lv_iload_n hx hb dX5_serve_106 rfl (lv_at hl 5 rfl) ?_
          refine lv_iload_n hx hb dX5_serve_107 rfl (lv_at hl 6 rfl) ?_
          refine lv_iload_n hx hb dX5_serve_108 rfl (lv_at hl 7 rfl) ?_
          refine t_callV (n := 3) (As := [.int n, .int x1, .int x2]) (rest := []) (ci := 5) hB hT hl.1 (s_runActs0 l D cI cZ cS cR N0 g_95 hI h n x1 x2 r_98 (by omega) (by omega)) (ro_ci r_98 rfl) rfl k_534 k_59 k_531 k_533 k_13 (by decide +kernel) ⟨(Nat.le_of_ble_eq_true rfl), (Nat.le_of_ble_eq_true rfl)⟩ rfl (Nat.le_of_ble_eq_true rfl) ⟨(Nat.le_of_ble_eq_true rfl), (Nat.le_of_ble_eq_true rfl)⟩ dX5_serve_109 (fun v g_103 H locs hp hT => ?_)
          obtain ⟨r_104, rfl, hI, x_106, m_105⟩ := hp
          have hM : Sm md_s_serve0 g g_103 := hM.tr hE (m_105.mo (fun r k h => mdle_s_serve0_s_runActs0 h))
          have hE : Ex g g_103 := hE.tr x_106
          have r_107 : g_103.1 h = 6 := (Ex.r x_106 r_98 (by decide))
          have r_108 : g_103.1 v_1 = 41 := (Ex.r x_106 r_99 (by decide))
          have r_109 : g_103.1 q_2 = 4 := (Ex.r x_106 r_100 (by decide))
          have n_110 : g_103.2.2.1 v_1 = 6 := (Ex.n x_106 r_99 (by decide) n_101)
          have kn_111 : g_103.2.1 h 0 = .ref v_1 := (Sm.v m_105 r_98 (by decide) rfl kn_102)
          refine W.eq (g2 := F0 m 112 ls [.int r_104]) rfl ?_
          refine lv_istore (lv' := [(8, .int r_104), (7, .int (-1)), (6, .int 0), (5, .int 1), (4, .ref q_2), (0, .ref h), (1, .int n), (2, .int x1), (3, .int x2)]) hx hb dX5_serve_112 hl (by decide) rfl (fun ls hl => ?_)
          refine lv_aload_n hx hb dX5_serve_114 rfl (lv_at hl 5 rfl) ?_
          obtain ⟨v_112, e_v_112, l_v_112, u_v_112⟩ := f_6_7 hI r_107
          refine t_get (ci := 5) (v := .int v_112) hB hT (ro_ci r_107 rfl) rfl 7 (by decide) k_216 e_v_112 dX5_serve_115 ?_
          refine lv_if_eq (tgt := 124) hx hb dX5_serve_118 (by decide) (fun c_113 => ?_) (fun c_113 => ?_)
          · have c_113' : v_112.toInt = 0 := i_eq c_113 rfl (by decide)
            refine lv_iload hx hb dX5_serve_124 (lv_at hl 2 rfl) ?_
            refine lv_if_eq (tgt := 140) hx hb dX5_serve_126 (by decide) (fun c_ => ?_) (fun c_ => absurd (by decide) c_)
            refine lv_iload hx hb dX5_serve_140 (lv_at hl 3 rfl) ?_
            refine lv_if_eq (tgt := 158) hx hb dX5_serve_142 (by decide) (fun c_ => absurd c_ (by decide)) (fun c_ => ?_)
            refine lv_aload hx hb dX5_serve_145 (lv_at hl 4 rfl) ?_
            refine lv_iload_n hx hb dX5_serve_147 rfl (lv_at hl 8 rfl) ?_
            refine lv_iload_n hx hb dX5_serve_148 rfl (lv_at hl 7 rfl) ?_
            refine lv_iload hx hb dX5_serve_149 (lv_at hl 0 rfl) ?_
            refine lv_aload_n hx hb dX5_serve_151 rfl (lv_at hl 5 rfl) ?_
            obtain ⟨v_114, e_v_114⟩ := f_6_2 hI r_107
            refine t_get (ci := 5) (v := .int v_114) hB hT (ro_ci r_107 rfl) rfl 2 (by decide) k_205 e_v_114 dX5_serve_152 ?_
            refine t_callV (n := 4) (As := [.int x2, .int x1, .int r_104, .int v_114]) (rest := []) (ci := 3) hB hT hl.1 (s_keep l D cI cZ cS cR N0 g_103 hI q_2 x2 x1 r_104 v_114 r_109) (ro_ci r_109 rfl) rfl k_524 k_60 k_521 k_522 k_523 (by decide +kernel) ⟨(Nat.le_of_ble_eq_true rfl), (Nat.le_of_ble_eq_true rfl)⟩ rfl (Nat.le_of_ble_eq_true rfl) ⟨(Nat.le_of_ble_eq_true rfl), (Nat.le_of_ble_eq_true rfl)⟩ dX5_serve_155 (fun v g_115 H locs hp hT => ?_)
            obtain ⟨rfl, hI, x_117, m_116⟩ := hp
            have hM : Sm md_s_serve0 g g_115 := hM.tr hE (m_116.mo (fun r k h => mdle_s_serve0_s_keep h))
            have hE : Ex g g_115 := hE.tr x_117
            have r_118 : g_115.1 h = 6 := (Ex.r x_117 r_107 (by decide))
            have r_119 : g_115.1 v_1 = 41 := (Ex.r x_117 r_108 (by decide))
            have r_120 : g_115.1 q_2 = 4 := (Ex.r x_117 r_109 (by decide))
            have n_121 : g_115.2.2.1 v_1 = 6 := (Ex.n x_117 r_108 (by decide) n_110)
            have kn_122 : g_115.2.1 h 0 = .ref v_1 := (Sm.v m_116 r_107 (by decide) rfl kn_111)
            have kn_123 : g_115.2.1 h 7 = .int v_112 := (Sm.v m_116 r_107 (by decide) rfl e_v_112)
            have kn_124 : g_115.2.1 h 2 = .int v_114 := (Sm.v m_116 r_107 (by decide) rfl e_v_114)
            refine W.eq (g2 := F0 m 158 ls []) rfl ?_
            refine lv_iload hx hb dX5_serve_158 (lv_at hl 0 rfl) ?_
            exact t_iret hB hr hT (Nat.le_of_ble_eq_true rfl) (Nat.le_of_ble_eq_true rfl) dX5_serve_160 ⟨r_104, rfl, hI, hE, hM⟩
          · have c_113' : v_112.toInt ≠ 0 := i_ne c_113 rfl (by decide)
            refine lv_bipush (v := (-2)) hx hb dX5_serve_121 (by decide) ?_
            exact t_iret hB hr hT (Nat.le_of_ble_eq_true rfl) (Nat.le_of_ble_eq_true rfl) dX5_serve_123 ⟨(-2), rfl, hI, hE, hM⟩
        · refine W.eq (g2 := F0 m 60 ls [.int r_89]) rfl ?_
          refine lv_goto (tgt := 64) hx hb dX5_serve_60 (by decide) ?_
          refine lv_istore (lv' := [(7, .int r_89), (6, .int 0), (5, .int 1), (4, .ref q_2), (0, .ref h), (1, .int n), (2, .int x1), (3, .int x2)]) hx hb dX5_serve_64 hl (by decide) rfl (fun ls hl => ?_)
          refine lv_iload hx hb dX5_serve_66 (lv_at hl 0 rfl) ?_
          refine lv_iconst (v := (-1)) hx hb dX5_serve_68 (by decide) ?_
          refine lv_icmp_eq (tgt := 81) hx hb dX5_serve_69 (by decide) (fun c_125 => ?_) (fun c_125 => ?_)
          · have c_125' : r_89.toInt = (-1) := i_eq c_125 rfl (by decide)
            exact absurd c_125' (by omega)
          · have c_125' : r_89.toInt ≠ (-1) := i_ne c_125 rfl (by decide)
            refine lv_aload hx hb dX5_serve_72 (lv_at hl 3 rfl) ?_
            refine lv_iload hx hb dX5_serve_74 (lv_at hl 0 rfl) ?_
            refine lv_iload_n hx hb dX5_serve_76 rfl (lv_at hl 6 rfl) ?_
            refine t_callV (n := 2) (As := [.int r_89, .int x1]) (rest := []) (ci := 3) hB hT hl.1 (s_keptAnswer l D cI cZ cS cR N0 g hI q_2 r_89 x1 r_q_2 (by omega) (by omega)) (ro_ci r_q_2 rfl) rfl k_520 k_60 k_517 k_518 k_519 (by decide +kernel) ⟨(Nat.le_of_ble_eq_true rfl), (Nat.le_of_ble_eq_true rfl)⟩ rfl (Nat.le_of_ble_eq_true rfl) ⟨(Nat.le_of_ble_eq_true rfl), (Nat.le_of_ble_eq_true rfl)⟩ dX5_serve_77 (fun v g_126 H locs hp hT => ?_)
            obtain ⟨r_127, rfl, eg⟩ := hp
            rw [eg] at hT
            clear eg
            refine W.eq (g2 := F0 m 80 ls [.int r_127]) rfl ?_
            exact t_iret hB hr hT (Nat.le_of_ble_eq_true rfl) (Nat.le_of_ble_eq_true rfl) dX5_serve_80 ⟨r_127, rfl, hI, hE, hM⟩
    · refine W.eq (g2 := F0 m 18 ls [.int 0]) rfl ?_
      refine lv_if_eq (tgt := 25) hx hb dX5_serve_18 (by decide) (fun c_ => ?_) (fun c_ => absurd (by decide) c_)
      refine lv_iconst (v := 0) hx hb dX5_serve_25 (by decide) ?_
      refine lv_istore (lv' := [(5, .int 0), (4, .ref q_2), (0, .ref h), (1, .int n), (2, .int x1), (3, .int x2)]) hx hb dX5_serve_26 hl (by decide) rfl (fun ls hl => ?_)
      refine lv_iload hx hb dX5_serve_28 (lv_at hl 0 rfl) ?_
      refine lv_if_eq (tgt := 46) hx hb dX5_serve_30 (by decide) (fun c_ => ?_) (fun c_ => absurd (by decide) c_)
      refine lv_iconst (v := 0) hx hb dX5_serve_46 (by decide) ?_
      refine lv_istore (lv' := [(6, .int 0), (5, .int 0), (4, .ref q_2), (0, .ref h), (1, .int n), (2, .int x1), (3, .int x2)]) hx hb dX5_serve_47 hl (by decide) rfl (fun ls hl => ?_)
      refine lv_iload hx hb dX5_serve_49 (lv_at hl 1 rfl) ?_
      refine lv_if_eq (tgt := 63) hx hb dX5_serve_51 (by decide) (fun c_ => ?_) (fun c_ => absurd (by decide) c_)
      refine lv_iconst (v := (-1)) hx hb dX5_serve_63 (by decide) ?_
      refine lv_istore (lv' := [(7, .int (-1)), (6, .int 0), (5, .int 0), (4, .ref q_2), (0, .ref h), (1, .int n), (2, .int x1), (3, .int x2)]) hx hb dX5_serve_64 hl (by decide) rfl (fun ls hl => ?_)
      refine lv_iload hx hb dX5_serve_66 (lv_at hl 0 rfl) ?_
      refine lv_iconst (v := (-1)) hx hb dX5_serve_68 (by decide) ?_
      refine lv_icmp_eq (tgt := 81) hx hb dX5_serve_69 (by decide) (fun c_ => ?_) (fun c_ => absurd (by decide) c_)
      refine lv_iload hx hb dX5_serve_81 (lv_at hl 1 rfl) ?_
      refine lv_if_eq (tgt := 98) hx hb dX5_serve_83 (by decide) (fun c_ => ?_) (fun c_ => absurd (by decide) c_)
      refine lv_aload hx hb dX5_serve_98 (lv_at hl 3 rfl) ?_
      refine lv_iload_n hx hb dX5_serve_100 rfl (lv_at hl 6 rfl) ?_
      refine lv_iload_n hx hb dX5_serve_101 rfl (lv_at hl 7 rfl) ?_
      refine t_callV (n := 2) (As := [.int x1, .int x2]) (rest := []) (ci := 3) hB hT hl.1 (s_beginKnown l D cI cZ cS cR N0 g hI q_2 x1 x2 r_q_2) (ro_ci r_q_2 rfl) rfl k_529 k_60 k_526 k_527 k_528 (by decide +kernel) ⟨(Nat.le_of_ble_eq_true rfl), (Nat.le_of_ble_eq_true rfl)⟩ rfl (Nat.le_of_ble_eq_true rfl) ⟨(Nat.le_of_ble_eq_true rfl), (Nat.le_of_ble_eq_true rfl)⟩ dX5_serve_102 (fun v g_130 H locs hp hT => ?_)
      obtain ⟨rfl, hI, x_132, m_131⟩ := hp
      have hM : Sm md_s_serve0 g g_130 := hM.tr hE (m_131.mo (fun r k h => mdle_s_serve0_s_beginKnown h))
      have hE : Ex g g_130 := hE.tr x_132
      have r_133 : g_130.1 h = 6 := (Ex.r x_132 r_h (by decide))
      have r_134 : g_130.1 v_1 = 41 := (Ex.r x_132 r_v_1 (by decide))
      have r_135 : g_130.1 q_2 = 4 := (Ex.r x_132 r_q_2 (by decide))
      have n_136 : g_130.2.2.1 v_1 = 6 := (Ex.n x_132 r_v_1 (by decide) n_v_1)
      have kn_137 : g_130.2.1 h 0 = .ref v_1 := (Sm.v m_131 r_h (by decide) rfl e_v_1)
      refine W.eq (g2 := F0 m 105 ls []) rfl ?_
      refine lv_aload_n hx hb dX5_serve_105 rfl (lv_at hl 4 rfl) ?_
      refine lv_iload_n hx hb dX5_serve_106 rfl (lv_at hl 5 rfl) ?_
      refine lv_iload_n hx hb dX5_serve_107 rfl (lv_at hl 6 rfl) ?_
      refine lv_iload_n hx hb dX5_serve_108 rfl (lv_at hl 7 rfl) ?_
      refine t_callV (n := 3) (As := [.int n, .int x1, .int x2]) (rest := []) (ci := 5) hB hT hl.1 (s_runActs0 l D cI cZ cS cR N0 g_130 hI h n x1 x2 r_133 (by omega) (by omega)) (ro_ci r_133 rfl) rfl k_534 k_59 k_531 k_533 k_13 (by decide +kernel) ⟨(Nat.le_of_ble_eq_true rfl), (Nat.le_of_ble_eq_true rfl)⟩ rfl (Nat.le_of_ble_eq_true rfl) ⟨(Nat.le_of_ble_eq_true rfl), (Nat.le_of_ble_eq_true rfl)⟩ dX5_serve_109 (fun v g_138 H locs hp hT => ?_)
      obtain ⟨r_139, rfl, hI, x_141, m_140⟩ := hp
      have hM : Sm md_s_serve0 g g_138 := hM.tr hE (m_140.mo (fun r k h => mdle_s_serve0_s_runActs0 h))
      have hE : Ex g g_138 := hE.tr x_141
      have r_142 : g_138.1 h = 6 := (Ex.r x_141 r_133 (by decide))
      have r_143 : g_138.1 v_1 = 41 := (Ex.r x_141 r_134 (by decide))
      have r_144 : g_138.1 q_2 = 4 := (Ex.r x_141 r_135 (by decide))
      have n_145 : g_138.2.2.1 v_1 = 6 := (Ex.n x_141 r_134 (by decide) n_136)
      have kn_146 : g_138.2.1 h 0 = .ref v_1 := (Sm.v m_140 r_133 (by decide) rfl kn_137)
      refine W.eq (g2 := F0 m 112 ls [.int r_139]) rfl ?_
      refine lv_istore (lv' := [(8, .int r_139), (7, .int (-1)), (6, .int 0), (5, .int 0), (4, .ref q_2), (0, .ref h), (1, .int n), (2, .int x1), (3, .int x2)]) hx hb dX5_serve_112 hl (by decide) rfl (fun ls hl => ?_)
      refine lv_aload_n hx hb dX5_serve_114 rfl (lv_at hl 5 rfl) ?_
      obtain ⟨v_147, e_v_147, l_v_147, u_v_147⟩ := f_6_7 hI r_142
      refine t_get (ci := 5) (v := .int v_147) hB hT (ro_ci r_142 rfl) rfl 7 (by decide) k_216 e_v_147 dX5_serve_115 ?_
      refine lv_if_eq (tgt := 124) hx hb dX5_serve_118 (by decide) (fun c_148 => ?_) (fun c_148 => ?_)
      · have c_148' : v_147.toInt = 0 := i_eq c_148 rfl (by decide)
        refine lv_iload hx hb dX5_serve_124 (lv_at hl 2 rfl) ?_
        refine lv_if_eq (tgt := 140) hx hb dX5_serve_126 (by decide) (fun c_ => ?_) (fun c_ => absurd (by decide) c_)
        refine lv_iload hx hb dX5_serve_140 (lv_at hl 3 rfl) ?_
        refine lv_if_eq (tgt := 158) hx hb dX5_serve_142 (by decide) (fun c_ => ?_) (fun c_ => absurd (by decide) c_)
        refine lv_iload hx hb dX5_serve_158 (lv_at hl 0 rfl) ?_
        exact t_iret hB hr hT (Nat.le_of_ble_eq_true rfl) (Nat.le_of_ble_eq_true rfl) dX5_serve_160 ⟨r_139, rfl, hI, hE, hM⟩
      · have c_148' : v_147.toInt ≠ 0 := i_ne c_148 rfl (by decide)
        refine lv_bipush (v := (-2)) hx hb dX5_serve_121 (by decide) ?_
        exact t_iret hB hr hT (Nat.le_of_ble_eq_true rfl) (Nat.le_of_ble_eq_true rfl) dX5_serve_123 ⟨(-2), rfl, hI, hE, hM⟩
abbrev md_s_runActs1 : Nat → Nat → Bool := mdf [(4, 2), (4, 5), (4, 10), (4, 11), (4, 14), (6, 4), (6, 5), (6, 7), (50, 99)]
theorem mdle_s_runActs1_s_isHeldBack {r k : Nat} (h : md_s_runActs1 r k = false) : md_s_isHeldBack r k = false := mdf_le (by decide +kernel) h
theorem mdle_s_runActs1_s_perform {r k : Nat} (h : md_s_runActs1 r k = false) : md_s_perform r k = false := mdf_le (by decide +kernel) h
theorem mdle_s_runActs1_s_serve0 {r k : Nat} (h : md_s_runActs1 r k = false) : md_s_serve0 r k = false := mdf_le (by decide +kernel) h
set_option maxHeartbeats 4000000 in
set_option maxRecDepth 100000 in
theorem lt_s_runActs1_a (l : Launch) (D : va_G) (cI cZ cS cR : ClassId) (N0 : NT) (g : GS) (h : Nat) (n : Int32) (x1 : Int32) (x2 : Int32) (r_h : g.1 h = 6) (l_n : 4 ≤ n.toInt) (u_n : n.toInt ≤ 5) {p : Program} {e : Env} {s : State} {m : MethodId} {args : Array Value} {below : List Frame} {meth : Method} {c : Code} (hB : Tz p s m meth c args cX5_runActs 14 RX5 D cI cZ cS cR N0) (hr : meth.sig.returnType = (some .int))    : ∀ (kf : Nat) (g1 : GS) (i : Int32) (j : Int32) (pk : Int32) (po : Int32) (q1 : Nat) (q2 : Nat) (H : Heap) (locs : List Loc) (ls : Array Slot), Tv D cI cZ cS cR N0 s.heap H locs g1 → Inv g1 → Ex g g1 → Sm md_s_runActs1 g g1 → 0 ≤ i.toInt → i.toInt ≤ 8 → 0 ≤ pk.toInt → pk.toInt ≤ 1 → 0 ≤ po.toInt → po.toInt ≤ 1 → g1.1 q1 = 4 → g1.1 q2 = 3 → (8 ≤ i.toInt + kf) → lv_has ls 14 [(9, .int i), (8, .int po), (7, .int j), (6, .int pk), (5, .ref q2), (4, .ref q1), (0, .ref h), (1, .int n), (2, .int x1), (3, .int x2)] → W p l e (rmx 3 0 0) s m args below meth c H locs 0 0 (MQ below (tQ D cI cZ cS cR N0 (fun v g' => ∃ (r : Int32), v = some (.int r) ∧ Inv g' ∧ Ex g g' ∧ Sm md_s_runActs1 g g')) args s 0 0 (fun q => N0.1 ≤ q)) (F0 m 44 ls []) := by
  have hx := hB.1
  have hb := hB.2.1
  intro kf
  induction kf using Nat.strongRecOn with
  | ind kf ih =>
    intro g1 i j pk po q1 q2 H locs ls hT hI hE hM l_i u_i l_pk u_pk l_po u_po r1_q1 r1_q2 hk hl
    have r_1 : g1.1 h = 6 := Ex.r hE r_h (by decide)
    refine lv_iload hx hb dX5_runActs_44 (lv_at hl 0 rfl) ?_
    refine lv_aload hx hb dX5_runActs_46 (lv_at hl 4 rfl) ?_
    obtain ⟨v_2, e_v_2, l_v_2, u_v_2⟩ := f_3_3 hI r1_q2
    refine t_get (ci := 2) (v := .int v_2) hB hT (ro_ci r1_q2 rfl) rfl 3 (by decide) k_133 e_v_2 dX5_runActs_48 ?_
    refine lv_icmp_ge (tgt := 288) hx hb dX5_runActs_51 (by decide) (fun c_3 => ?_) (fun c_3 => ?_)
    · have c_3' : v_2.toInt ≤ i.toInt := i_le c_3 rfl rfl
      refine lv_iload hx hb dX5_runActs_288 (lv_at hl 2 rfl) ?_
      exact t_iret hB hr hT (Nat.le_of_ble_eq_true rfl) (Nat.le_of_ble_eq_true rfl) dX5_runActs_290 ⟨j, rfl, hI, hE, hM⟩
    · have c_3' : i.toInt < v_2.toInt := i_nle c_3 rfl rfl
      refine lv_iload hx hb dX5_runActs_54 (lv_at hl 1 rfl) ?_
      refine lv_if_eq (tgt := 65) hx hb dX5_runActs_56 (by decide) (fun c_4 => ?_) (fun c_4 => ?_)
      · have c_4' : po.toInt = 0 := i_eq c_4 rfl (by decide)
        refine lv_aload_n hx hb dX5_runActs_65 rfl (lv_at hl 6 rfl) ?_
        obtain ⟨v_5, e_v_5⟩ := f_6_5 hI r_1
        refine t_get (ci := 5) (v := .int v_5) hB hT (ro_ci r_1 rfl) rfl 5 (by decide) k_213 e_v_5 dX5_runActs_66 ?_
        refine lv_iconst (v := 1) hx hb dX5_runActs_69 (by decide) ?_
        refine lv_iadd hx hb dX5_runActs_70 ?_
        refine lv_topi (fun z_6 ez_6 => ?_)
        refine lv_aload_n hx hb dX5_runActs_71 rfl (lv_at hl 6 rfl) ?_
        obtain ⟨v_7, e_v_7⟩ := f_6_6 hI r_1
        refine t_get (ci := 5) (v := .int v_7) hB hT (ro_ci r_1 rfl) rfl 6 (by decide) k_215 e_v_7 dX5_runActs_72 ?_
        refine lv_icmp_lt (tgt := 86) hx hb dX5_runActs_75 (by decide) (fun c_8 => ?_) (fun c_8 => ?_)
        · have c_8' : z_6.toInt < v_7.toInt := i_lt c_8 rfl rfl
          refine lv_aload_n hx hb dX5_runActs_86 rfl (lv_at hl 6 rfl) ?_
          refine lv_dup hx hb dX5_runActs_87 rfl ?_
          refine t_get (ci := 5) (v := .int v_5) hB hT (ro_ci r_1 rfl) rfl 5 (by decide) k_213 e_v_5 dX5_runActs_88 ?_
          refine lv_iconst (v := 1) hx hb dX5_runActs_91 (by decide) ?_
          refine lv_iadd hx hb dX5_runActs_92 ?_
          refine lv_topi (fun z_9 ez_9 => ?_)
          refine t_put0 (ci := 5) (v := .int z_9) hB hT (ro_ci r_1 rfl) (ro_n0 r_1 (by decide)) rfl 5 (by decide) k_213 (Or.inl rfl) rfl rfl dX5_runActs_93 (fun H locs hT => ?_)
          have hI : Inv (sF g1 h 5 (.int z_9)) := hI.sF (p_6_5 r_1 (⟨_, rfl⟩))
          have hM : Sm md_s_runActs1 g (sF g1 h 5 (.int z_9)) := hM.tr hE (Sm_sF (by rw [r_1]; rfl))
          have hE : Ex g (sF g1 h 5 (.int z_9)) := hE
          refine lv_aload hx hb dX5_runActs_96 (lv_at hl 4 rfl) ?_
          refine lv_iload hx hb dX5_runActs_98 (lv_at hl 0 rfl) ?_
          refine lv_iload_n hx hb dX5_runActs_100 rfl (lv_at hl 8 rfl) ?_
          refine lv_iload hx hb dX5_runActs_101 (lv_at hl 2 rfl) ?_
          refine t_callV (n := 3) (As := [.int i, .int x1, .int j]) (rest := []) (ci := 2) hB hT hl.1 (s_valueAt l D cI cZ cS cR N0 (sF g1 h 5 (.int z_9)) hI q2 i x1 j r1_q2 (by omega) (by omega)) (ro_ci r1_q2 rfl) rfl k_538 k_61 k_535 k_536 k_537 (by decide +kernel) ⟨(Nat.le_of_ble_eq_true rfl), (Nat.le_of_ble_eq_true rfl)⟩ rfl (Nat.le_of_ble_eq_true rfl) ⟨(Nat.le_of_ble_eq_true rfl), (Nat.le_of_ble_eq_true rfl)⟩ dX5_runActs_103 (fun v g_10 H locs hp hT => ?_)
          obtain ⟨r_11, rfl, eg⟩ := hp
          rw [eg] at hT
          clear eg
          refine W.eq (g2 := F0 m 106 ls [.int r_11]) rfl ?_
          refine lv_istore (lv' := [(10, .int r_11), (9, .int i), (8, .int po), (7, .int j), (6, .int pk), (5, .ref q2), (4, .ref q1), (0, .ref h), (1, .int n), (2, .int x1), (3, .int x2)]) hx hb dX5_runActs_106 hl (by decide) rfl (fun ls hl => ?_)
          refine lv_aload hx hb dX5_runActs_108 (lv_at hl 6 rfl) ?_
          refine lv_iload hx hb dX5_runActs_110 (lv_at hl 1 rfl) ?_
          refine lv_iload hx hb dX5_runActs_112 (lv_at hl 0 rfl) ?_
          refine t_callV (n := 2) (As := [.int i, .int r_11]) (rest := []) (ci := 3) hB hT hl.1 (s_isHeldBack l D cI cZ cS cR N0 (sF g1 h 5 (.int z_9)) hI q1 i r_11 r1_q1 (by omega) (by omega)) (ro_ci r1_q1 rfl) rfl k_542 k_60 k_539 k_540 k_541 (by decide +kernel) ⟨(Nat.le_of_ble_eq_true rfl), (Nat.le_of_ble_eq_true rfl)⟩ rfl (Nat.le_of_ble_eq_true rfl) ⟨(Nat.le_of_ble_eq_true rfl), (Nat.le_of_ble_eq_true rfl)⟩ dX5_runActs_114 (fun v g_14 H locs hp hT => ?_)
          obtain ⟨r_15, rfl, hI, x_18, m_17, f_16⟩ := hp
          have hM : Sm md_s_runActs1 g g_14 := hM.tr hE (m_17.mo (fun r k h => mdle_s_runActs1_s_isHeldBack h))
          have hE : Ex g g_14 := hE.tr x_18
          have r_19 : g_14.1 h = 6 := (Ex.r x_18 r_1 (by decide))
          have r_20 : g_14.1 q1 = 4 := (Ex.r x_18 r1_q1 (by decide))
          have r_21 : g_14.1 q2 = 3 := (Ex.r x_18 r1_q2 (by decide))
          have kn_22 : g_14.2.1 q2 3 = .int v_2 := (Sm.v m_17 r1_q2 (by decide) rfl (sF_k e_v_2 (by decide)))
          have kn_23 : g_14.2.1 h 6 = .int v_7 := (Sm.v m_17 r_1 (by decide) rfl (sF_k e_v_7 (by decide)))
          have kn_24 : g_14.2.1 h 5 = .int z_9 := (Sm.v m_17 r_1 (by decide) rfl sF_eq)
          refine W.eq (g2 := F0 m 117 ls [.int r_15]) rfl ?_
          rcases f_16 with rfl | rfl
          · refine W.eq (g2 := F0 m 117 ls [.int 1]) rfl ?_
            refine lv_if_eq (tgt := 123) hx hb dX5_runActs_117 (by decide) (fun c_ => absurd c_ (by decide)) (fun c_ => ?_)
            refine lv_goto (tgt := 282) hx hb dX5_runActs_120 (by decide) ?_
            obtain ⟨z_25, ez_25⟩ : ∃ z : Int32, z = i + 1 := ⟨_, rfl⟩
            have e_z_25 : z_25.toInt = i.toInt + 1 := i_add ez_25 rfl (by decide) (by omega) (by omega)
            refine lv_iinc (v := z_25) (lv' := [(9, .int z_25), (10, .int r_11), (8, .int po), (7, .int j), (6, .int pk), (5, .ref q2), (4, .ref q1), (0, .ref h), (1, .int n), (2, .int x1), (3, .int x2)]) hx hb dX5_runActs_282 hl (k := 1) rfl (by rw [ez_25]; rfl) (by decide) rfl (fun ls hl => ?_)
            refine lv_goto (tgt := 44) hx hb dX5_runActs_285 (by decide) ?_
            exact ih (kf - 1) (by omega) g_14 z_25 j pk po q1 q2 H locs ls hT hI hE hM (by omega) (by omega) (by omega) (by omega) (by omega) (by omega) r_20 r_21 (by have e0_ : (0 : Int32).toInt = 0 := (by decide); omega) (lv_sub hl [0, 2, 3, 4, 5, 6, 7, 8, 9, 10] rfl)
          · refine W.eq (g2 := F0 m 117 ls [.int 0]) rfl ?_
            refine lv_if_eq (tgt := 123) hx hb dX5_runActs_117 (by decide) (fun c_ => ?_) (fun c_ => absurd (by decide) c_)
            refine lv_aload hx hb dX5_runActs_123 (lv_at hl 5 rfl) ?_
            obtain ⟨v_26, e_v_26, r_v_26, n_v_26⟩ := f_3_0 hI r_21
            refine t_get (ci := 2) (v := .ref v_26) hB hT (ro_ci r_21 rfl) rfl 0 (by decide) k_122 e_v_26 dX5_runActs_125 ?_
            refine lv_iload hx hb dX5_runActs_128 (lv_at hl 1 rfl) ?_
            have i_u_27 : vp_in i 8 := (i_in (n := 8) rfl (by omega) (by omega))
            refine t_iald hB hT (ro_in r_v_26 (by decide)) n_v_26 i_u_27 rfl dX5_runActs_130 ?_
            refine lv_topi (fun u_27 e_u_27 => ?_)
            refine lv_istore (lv' := [(11, .int u_27), (10, .int r_11), (9, .int i), (8, .int po), (7, .int j), (6, .int pk), (5, .ref q2), (4, .ref q1), (0, .ref h), (1, .int n), (2, .int x1), (3, .int x2)]) hx hb dX5_runActs_131 hl (by decide) rfl (fun ls hl => ?_)
            refine lv_aload hx hb dX5_runActs_133 (lv_at hl 6 rfl) ?_
            obtain ⟨v_28, e_v_28, r_v_28, n_v_28⟩ := f_3_1 hI r_21
            refine t_get (ci := 2) (v := .ref v_28) hB hT (ro_ci r_21 rfl) rfl 1 (by decide) k_126 e_v_28 dX5_runActs_135 ?_
            refine lv_iload hx hb dX5_runActs_138 (lv_at hl 2 rfl) ?_
            have i_u_29 : vp_in i 8 := (i_in (n := 8) rfl (by omega) (by omega))
            refine t_iald hB hT (ro_in r_v_28 (by decide)) n_v_28 i_u_29 rfl dX5_runActs_140 ?_
            have c_u_29 := hI.c r_v_28 n_v_28 (i_cl i_u_29)
            refine lv_topi (fun u_29 e_u_29 => ?_)
            obtain ⟨l_u_29, u_u_29⟩ := c_u_29
            rw [← e_u_29] at l_u_29 u_u_29
            refine lv_istore (lv' := [(12, .int u_29), (11, .int u_27), (10, .int r_11), (9, .int i), (8, .int po), (7, .int j), (6, .int pk), (5, .ref q2), (4, .ref q1), (0, .ref h), (1, .int n), (2, .int x1), (3, .int x2)]) hx hb dX5_runActs_141 hl (by decide) rfl (fun ls hl => ?_)
            refine lv_iload hx hb dX5_runActs_143 (lv_at hl 1 rfl) ?_
            refine lv_iconst (v := 5) hx hb dX5_runActs_145 (by decide) ?_
            refine lv_icmp_ne (tgt := 207) hx hb dX5_runActs_146 (by decide) (fun c_30 => ?_) (fun c_30 => ?_)
            · have c_30' : u_27.toInt ≠ 5 := i_ne c_30 rfl (by decide)
              refine lv_iload hx hb dX5_runActs_207 (lv_at hl 1 rfl) ?_
              refine lv_bipush (v := 6) hx hb dX5_runActs_209 (by decide) ?_
              refine lv_icmp_ne (tgt := 242) hx hb dX5_runActs_211 (by decide) (fun c_31 => ?_) (fun c_31 => ?_)
              · have c_31' : u_27.toInt ≠ 6 := i_ne c_31 rfl (by decide)
                refine lv_iload hx hb dX5_runActs_242 (lv_at hl 1 rfl) ?_
                refine lv_bipush (v := 7) hx hb dX5_runActs_244 (by decide) ?_
                refine lv_icmp_ne (tgt := 263) hx hb dX5_runActs_246 (by decide) (fun c_32 => ?_) (fun c_32 => ?_)
                · have c_32' : u_27.toInt ≠ 7 := i_ne c_32 rfl (by decide)
                  refine lv_iload hx hb dX5_runActs_263 (lv_at hl 1 rfl) ?_
                  refine lv_iconst (v := 5) hx hb dX5_runActs_265 (by decide) ?_
                  refine lv_icmp_eq (tgt := 282) hx hb dX5_runActs_266 (by decide) (fun c_33 => ?_) (fun c_33 => ?_)
                  · have c_33' : u_27.toInt = 5 := i_eq c_33 rfl (by decide)
                    obtain ⟨z_34, ez_34⟩ : ∃ z : Int32, z = i + 1 := ⟨_, rfl⟩
                    have e_z_34 : z_34.toInt = i.toInt + 1 := i_add ez_34 rfl (by decide) (by omega) (by omega)
                    refine lv_iinc (v := z_34) (lv' := [(9, .int z_34), (12, .int u_29), (11, .int u_27), (10, .int r_11), (8, .int po), (7, .int j), (6, .int pk), (5, .ref q2), (4, .ref q1), (0, .ref h), (1, .int n), (2, .int x1), (3, .int x2)]) hx hb dX5_runActs_282 hl (k := 3) rfl (by rw [ez_34]; rfl) (by decide) rfl (fun ls hl => ?_)
                    refine lv_goto (tgt := 44) hx hb dX5_runActs_285 (by decide) ?_
                    exact ih (kf - 1) (by omega) g_14 z_34 j pk po q1 q2 H locs ls hT hI hE hM (by omega) (by omega) (by omega) (by omega) (by omega) (by omega) r_20 r_21 (by have e0_ : (0 : Int32).toInt = 0 := (by decide); omega) (lv_sub hl [0, 4, 5, 6, 7, 8, 9, 10, 11, 12] rfl)
                  · have c_33' : u_27.toInt ≠ 5 := i_ne c_33 rfl (by decide)
                    refine lv_aload hx hb dX5_runActs_269 (lv_at hl 8 rfl) ?_
                    refine lv_iload hx hb dX5_runActs_271 (lv_at hl 3 rfl) ?_
                    refine lv_iload hx hb dX5_runActs_273 (lv_at hl 2 rfl) ?_
                    refine lv_iload hx hb dX5_runActs_275 (lv_at hl 5 rfl) ?_
                    refine t_callV (n := 3) (As := [.int i, .int r_11, .int j]) (rest := []) (ci := 3) hB hT hl.1 (s_perform l D cI cZ cS cR N0 g_14 hI q1 i r_11 j r_20 (by omega) (by omega)) (ro_ci r_20 rfl) rfl k_550 k_60 k_547 k_548 k_549 (by decide +kernel) ⟨(Nat.le_of_ble_eq_true rfl), (Nat.le_of_ble_eq_true rfl)⟩ rfl (Nat.le_of_ble_eq_true rfl) ⟨(Nat.le_of_ble_eq_true rfl), (Nat.le_of_ble_eq_true rfl)⟩ dX5_runActs_277 (fun v g_35 H locs hp hT => ?_)
                    obtain ⟨r_36, rfl, hI, x_38, m_37⟩ := hp
                    have hM : Sm md_s_runActs1 g g_35 := hM.tr hE (m_37.mo (fun r k h => mdle_s_runActs1_s_perform h))
                    have hE : Ex g g_35 := hE.tr x_38
                    have r_39 : g_35.1 h = 6 := (Ex.r x_38 r_19 (by decide))
                    have r_40 : g_35.1 q1 = 4 := (Ex.r x_38 r_20 (by decide))
                    have r_41 : g_35.1 q2 = 3 := (Ex.r x_38 r_21 (by decide))
                    have r_42 : g_35.1 v_26 = 68 := (Ex.r x_38 r_v_26 (by decide))
                    have r_43 : g_35.1 v_28 = 69 := (Ex.r x_38 r_v_28 (by decide))
                    have n_44 : g_35.2.2.1 v_26 = 8 := (Ex.n x_38 r_v_26 (by decide) n_v_26)
                    have n_45 : g_35.2.2.1 v_28 = 8 := (Ex.n x_38 r_v_28 (by decide) n_v_28)
                    have kn_46 : g_35.2.1 q2 3 = .int v_2 := (Sm.v m_37 r_21 (by decide) rfl kn_22)
                    have kn_47 : g_35.2.1 h 6 = .int v_7 := (Sm.v m_37 r_19 (by decide) rfl kn_23)
                    have kn_48 : g_35.2.1 h 5 = .int z_9 := (Sm.v m_37 r_19 (by decide) rfl kn_24)
                    have kn_49 : g_35.2.1 q2 0 = .ref v_26 := (Sm.v m_37 r_21 (by decide) rfl e_v_26)
                    have kn_50 : g_35.2.1 q2 1 = .ref v_28 := (Sm.v m_37 r_21 (by decide) rfl e_v_28)
                    have kn_51 : g_35.2.2.2.1 v_26 i.toNatClampNeg = u_27 := (Sm.c m_37 r_v_26 (by decide) rfl e_u_27.symm)
                    have kn_52 : g_35.2.2.2.1 v_28 i.toNatClampNeg = u_29 := (Sm.c m_37 r_v_28 (by decide) rfl e_u_29.symm)
                    refine W.eq (g2 := F0 m 280 ls [.int r_36]) rfl ?_
                    refine lv_istore (lv' := [(7, .int r_36), (12, .int u_29), (11, .int u_27), (10, .int r_11), (9, .int i), (8, .int po), (6, .int pk), (5, .ref q2), (4, .ref q1), (0, .ref h), (1, .int n), (2, .int x1), (3, .int x2)]) hx hb dX5_runActs_280 hl (by decide) rfl (fun ls hl => ?_)
                    obtain ⟨z_53, ez_53⟩ : ∃ z : Int32, z = i + 1 := ⟨_, rfl⟩
                    have e_z_53 : z_53.toInt = i.toInt + 1 := i_add ez_53 rfl (by decide) (by omega) (by omega)
                    refine lv_iinc (v := z_53) (lv' := [(9, .int z_53), (7, .int r_36), (12, .int u_29), (11, .int u_27), (10, .int r_11), (8, .int po), (6, .int pk), (5, .ref q2), (4, .ref q1), (0, .ref h), (1, .int n), (2, .int x1), (3, .int x2)]) hx hb dX5_runActs_282 hl (k := 4) rfl (by rw [ez_53]; rfl) (by decide) rfl (fun ls hl => ?_)
                    refine lv_goto (tgt := 44) hx hb dX5_runActs_285 (by decide) ?_
                    exact ih (kf - 1) (by omega) g_35 z_53 r_36 pk po q1 q2 H locs ls hT hI hE hM (by omega) (by omega) (by omega) (by omega) (by omega) (by omega) r_40 r_41 (by have e0_ : (0 : Int32).toInt = 0 := (by decide); omega) (lv_sub hl [0, 5, 1, 6, 7, 8, 9, 10, 11, 12] rfl)
                · have c_32' : u_27.toInt = 7 := i_eq c_32 rfl (by decide)
                  refine lv_aload hx hb dX5_runActs_249 (lv_at hl 8 rfl) ?_
                  refine lv_iload hx hb dX5_runActs_251 (lv_at hl 3 rfl) ?_
                  refine lv_iload hx hb dX5_runActs_253 (lv_at hl 2 rfl) ?_
                  refine t_callV (n := 2) (As := [.int i, .int r_11]) (rest := []) (ci := 3) hB hT hl.1 (s_passesOver l D cI cZ cS cR N0 g_14 hI q1 i r_11 r_20 (by omega) (by omega)) (ro_ci r_20 rfl) rfl k_546 k_60 k_543 k_544 k_545 (by decide +kernel) ⟨(Nat.le_of_ble_eq_true rfl), (Nat.le_of_ble_eq_true rfl)⟩ rfl (Nat.le_of_ble_eq_true rfl) ⟨(Nat.le_of_ble_eq_true rfl), (Nat.le_of_ble_eq_true rfl)⟩ dX5_runActs_255 (fun v g_54 H locs hp hT => ?_)
                  obtain ⟨r_55, rfl, eg, f_56⟩ := hp
                  rw [eg] at hT
                  clear eg
                  refine W.eq (g2 := F0 m 258 ls [.int r_55]) rfl ?_
                  rcases f_56 with rfl | rfl
                  · refine W.eq (g2 := F0 m 258 ls [.int 1]) rfl ?_
                    refine lv_istore (lv' := [(8, .int 1), (12, .int u_29), (11, .int u_27), (10, .int r_11), (9, .int i), (7, .int j), (6, .int pk), (5, .ref q2), (4, .ref q1), (0, .ref h), (1, .int n), (2, .int x1), (3, .int x2)]) hx hb dX5_runActs_258 hl (by decide) rfl (fun ls hl => ?_)
                    refine lv_goto (tgt := 282) hx hb dX5_runActs_260 (by decide) ?_
                    obtain ⟨z_59, ez_59⟩ : ∃ z : Int32, z = i + 1 := ⟨_, rfl⟩
                    have e_z_59 : z_59.toInt = i.toInt + 1 := i_add ez_59 rfl (by decide) (by omega) (by omega)
                    refine lv_iinc (v := z_59) (lv' := [(9, .int z_59), (8, .int 1), (12, .int u_29), (11, .int u_27), (10, .int r_11), (7, .int j), (6, .int pk), (5, .ref q2), (4, .ref q1), (0, .ref h), (1, .int n), (2, .int x1), (3, .int x2)]) hx hb dX5_runActs_282 hl (k := 4) rfl (by rw [ez_59]; rfl) (by decide) rfl (fun ls hl => ?_)
                    refine lv_goto (tgt := 44) hx hb dX5_runActs_285 (by decide) ?_
                    exact ih (kf - 1) (by omega) g_14 z_59 j pk (1 : Int32) q1 q2 H locs ls hT hI hE hM (by omega) (by omega) (by omega) (by omega) (by decide) (by decide) r_20 r_21 (by have e0_ : (0 : Int32).toInt = 0 := (by decide); have e1_ : (1 : Int32).toInt = 1 := (by decide); omega) (lv_sub hl [0, 1, 5, 6, 7, 8, 9, 10, 11, 12] rfl)
                  · refine W.eq (g2 := F0 m 258 ls [.int 0]) rfl ?_
                    refine lv_istore (lv' := [(8, .int 0), (12, .int u_29), (11, .int u_27), (10, .int r_11), (9, .int i), (7, .int j), (6, .int pk), (5, .ref q2), (4, .ref q1), (0, .ref h), (1, .int n), (2, .int x1), (3, .int x2)]) hx hb dX5_runActs_258 hl (by decide) rfl (fun ls hl => ?_)
                    refine lv_goto (tgt := 282) hx hb dX5_runActs_260 (by decide) ?_
                    obtain ⟨z_60, ez_60⟩ : ∃ z : Int32, z = i + 1 := ⟨_, rfl⟩
                    have e_z_60 : z_60.toInt = i.toInt + 1 := i_add ez_60 rfl (by decide) (by omega) (by omega)
                    refine lv_iinc (v := z_60) (lv' := [(9, .int z_60), (8, .int 0), (12, .int u_29), (11, .int u_27), (10, .int r_11), (7, .int j), (6, .int pk), (5, .ref q2), (4, .ref q1), (0, .ref h), (1, .int n), (2, .int x1), (3, .int x2)]) hx hb dX5_runActs_282 hl (k := 4) rfl (by rw [ez_60]; rfl) (by decide) rfl (fun ls hl => ?_)
                    refine lv_goto (tgt := 44) hx hb dX5_runActs_285 (by decide) ?_
                    exact ih (kf - 1) (by omega) g_14 z_60 j pk (0 : Int32) q1 q2 H locs ls hT hI hE hM (by omega) (by omega) (by omega) (by omega) (by decide) (by decide) r_20 r_21 (by have e0_ : (0 : Int32).toInt = 0 := (by decide); omega) (lv_sub hl [0, 1, 5, 6, 7, 8, 9, 10, 11, 12] rfl)
              · have c_31' : u_27.toInt = 6 := i_eq c_31 rfl (by decide)
                refine lv_aload_n hx hb dX5_runActs_214 rfl (lv_at hl 9 rfl) ?_
                obtain ⟨v_61, e_v_61, r_v_61, n_v_61⟩ := f_6_3 hI r_19
                refine t_get (ci := 5) (v := .ref v_61) hB hT (ro_ci r_19 rfl) rfl 3 (by decide) k_207 e_v_61 dX5_runActs_215 ?_
                refine lv_aload_n hx hb dX5_runActs_218 rfl (lv_at hl 9 rfl) ?_
                obtain ⟨v_62, e_v_62⟩ := f_6_4 hI r_19
                refine t_get (ci := 5) (v := .int v_62) hB hT (ro_ci r_19 rfl) rfl 4 (by decide) k_210 e_v_62 dX5_runActs_219 ?_
                refine lv_sipush (v := 511) hx hb dX5_runActs_222 (by decide) ?_
                refine lv_iand hx hb dX5_runActs_225 ?_
                refine lv_topi (fun z_63 ez_63 => ?_)
                have e_z_63 := i_and 9 (b := 511) ez_63 (by decide) (by decide) (by decide)
                refine lv_iload hx hb dX5_runActs_226 (lv_at hl 2 rfl) ?_
                have i_64 : vp_in z_63 512 := (i_in (n := 512) rfl (by omega) (by omega))
                refine t_iast hB hT (ro_in r_v_61 (by decide)) n_v_61 i_64 dX5_runActs_228 (fun H locs hT => ?_)
                have hI : Inv (sC g_14 v_61 z_63.toNatClampNeg r_11) := hI.sC (ck r_v_61 trivial)
                have hM : Sm md_s_runActs1 g (sC g_14 v_61 z_63.toNatClampNeg r_11) := hM.tr hE (Sm_sC (by rw [r_v_61]; rfl))
                have hE : Ex g (sC g_14 v_61 z_63.toNatClampNeg r_11) := hE
                refine lv_aload_n hx hb dX5_runActs_229 rfl (lv_at hl 9 rfl) ?_
                refine lv_dup hx hb dX5_runActs_230 rfl ?_
                refine t_get (ci := 5) (v := .int v_62) hB hT (ro_ci r_19 rfl) rfl 4 (by decide) k_210 e_v_62 dX5_runActs_231 ?_
                refine lv_iconst (v := 1) hx hb dX5_runActs_234 (by decide) ?_
                refine lv_iadd hx hb dX5_runActs_235 ?_
                refine lv_topi (fun z_65 ez_65 => ?_)
                refine t_put0 (ci := 5) (v := .int z_65) hB hT (ro_ci r_19 rfl) (ro_n0 r_19 (by decide)) rfl 4 (by decide) k_210 (Or.inl rfl) rfl rfl dX5_runActs_236 (fun H locs hT => ?_)
                have hI : Inv (sF (sC g_14 v_61 z_63.toNatClampNeg r_11) h 4 (.int z_65)) := hI.sF (p_6_4 r_19 (⟨_, rfl⟩))
                have hM : Sm md_s_runActs1 g (sF (sC g_14 v_61 z_63.toNatClampNeg r_11) h 4 (.int z_65)) := hM.tr hE (Sm_sF (by rw [r_19]; rfl))
                have hE : Ex g (sF (sC g_14 v_61 z_63.toNatClampNeg r_11) h 4 (.int z_65)) := hE
                refine lv_goto (tgt := 282) hx hb dX5_runActs_239 (by decide) ?_
                obtain ⟨z_66, ez_66⟩ : ∃ z : Int32, z = i + 1 := ⟨_, rfl⟩
                have e_z_66 : z_66.toInt = i.toInt + 1 := i_add ez_66 rfl (by decide) (by omega) (by omega)
                refine lv_iinc (v := z_66) (lv' := [(9, .int z_66), (12, .int u_29), (11, .int u_27), (10, .int r_11), (8, .int po), (7, .int j), (6, .int pk), (5, .ref q2), (4, .ref q1), (0, .ref h), (1, .int n), (2, .int x1), (3, .int x2)]) hx hb dX5_runActs_282 hl (k := 3) rfl (by rw [ez_66]; rfl) (by decide) rfl (fun ls hl => ?_)
                refine lv_goto (tgt := 44) hx hb dX5_runActs_285 (by decide) ?_
                exact ih (kf - 1) (by omega) (sF (sC g_14 v_61 z_63.toNatClampNeg r_11) h 4 (.int z_65)) z_66 j pk po q1 q2 H locs ls hT hI hE hM (by omega) (by omega) (by omega) (by omega) (by omega) (by omega) r_20 r_21 (by have e0_ : (0 : Int32).toInt = 0 := (by decide); omega) (lv_sub hl [0, 4, 5, 6, 7, 8, 9, 10, 11, 12] rfl)
            · have c_30' : u_27.toInt = 5 := i_eq c_30 rfl (by decide)
              refine lv_aload_n hx hb dX5_runActs_149 rfl (lv_at hl 9 rfl) ?_
              refine lv_iload_n hx hb dX5_runActs_150 rfl (lv_at hl 10 rfl) ?_
              refine lv_iload hx hb dX5_runActs_151 (lv_at hl 0 rfl) ?_
              refine t_callV (n := 2) (As := [.int n, .int u_29]) (rest := []) (ci := 5) hB hT hl.1 (s_canAsk l D cI cZ cS cR N0 g_14 hI h n u_29 r_19) (ro_ci r_19 rfl) rfl k_477 k_59 k_474 k_476 k_10 (by decide +kernel) ⟨(Nat.le_of_ble_eq_true rfl), (Nat.le_of_ble_eq_true rfl)⟩ rfl (Nat.le_of_ble_eq_true rfl) ⟨(Nat.le_of_ble_eq_true rfl), (Nat.le_of_ble_eq_true rfl)⟩ dX5_runActs_153 (fun v g_67 H locs hp hT => ?_)
              obtain ⟨r_68, rfl, eg, f_69⟩ := hp
              rw [eg] at hT
              clear eg
              refine W.eq (g2 := F0 m 156 ls [.int r_68]) rfl ?_
              rcases f_69 with ⟨rfl, hw_72, hw_73⟩ | rfl
              · refine W.eq (g2 := F0 m 156 ls [.int 1]) rfl ?_
                refine lv_if_eq (tgt := 207) hx hb dX5_runActs_156 (by decide) (fun c_ => absurd c_ (by decide)) (fun c_ => ?_)
                refine lv_iload hx hb dX5_runActs_159 (lv_at hl 6 rfl) ?_
                refine lv_if_eq (tgt := 179) hx hb dX5_runActs_161 (by decide) (fun c_74 => ?_) (fun c_74 => ?_)
                · have c_74' : pk.toInt = 0 := i_eq c_74 rfl (by decide)
                  refine lv_iconst (v := 0) hx hb dX5_runActs_179 (by decide) ?_
                  refine lv_istore (lv' := [(13, .int 0), (12, .int u_29), (11, .int u_27), (10, .int r_11), (9, .int i), (8, .int po), (7, .int j), (6, .int pk), (5, .ref q2), (4, .ref q1), (0, .ref h), (1, .int n), (2, .int x1), (3, .int x2)]) hx hb dX5_runActs_180 hl (by decide) rfl (fun ls hl => ?_)
                  refine lv_aload_n hx hb dX5_runActs_182 rfl (lv_at hl 10 rfl) ?_
                  refine lv_iload hx hb dX5_runActs_183 (lv_at hl 1 rfl) ?_
                  refine lv_iload hx hb dX5_runActs_185 (lv_at hl 3 rfl) ?_
                  refine lv_iload hx hb dX5_runActs_187 (lv_at hl 0 rfl) ?_
                  refine t_callV (n := 3) (As := [.int u_29, .int r_11, .int 0]) (rest := []) (ci := 5) hB hT hl.1 (s_serve0 l D cI cZ cS cR N0 g_14 hI h u_29 r_11 0 r_19 (by have q0 : (0 : Int32).toInt = 0 := (by decide); omega) (by have q0 : (0 : Int32).toInt = 0 := (by decide); omega)) (ro_ci r_19 rfl) rfl k_508 k_59 k_505 k_507 k_12 (by decide +kernel) ⟨(Nat.le_of_ble_eq_true rfl), (Nat.le_of_ble_eq_true rfl)⟩ rfl (Nat.le_of_ble_eq_true rfl) ⟨(Nat.le_of_ble_eq_true rfl), (Nat.le_of_ble_eq_true rfl)⟩ dX5_runActs_189 (fun v g_75 H locs hp hT => ?_)
                  obtain ⟨r_76, rfl, hI, x_78, m_77⟩ := hp
                  have hM : Sm md_s_runActs1 g g_75 := hM.tr hE (m_77.mo (fun r k h => mdle_s_runActs1_s_serve0 h))
                  have hE : Ex g g_75 := hE.tr x_78
                  have r_79 : g_75.1 h = 6 := (Ex.r x_78 r_19 (by decide))
                  have r_80 : g_75.1 q1 = 4 := (Ex.r x_78 r_20 (by decide))
                  have r_81 : g_75.1 q2 = 3 := (Ex.r x_78 r_21 (by decide))
                  have r_82 : g_75.1 v_26 = 68 := (Ex.r x_78 r_v_26 (by decide))
                  have r_83 : g_75.1 v_28 = 69 := (Ex.r x_78 r_v_28 (by decide))
                  have n_84 : g_75.2.2.1 v_26 = 8 := (Ex.n x_78 r_v_26 (by decide) n_v_26)
                  have n_85 : g_75.2.2.1 v_28 = 8 := (Ex.n x_78 r_v_28 (by decide) n_v_28)
                  have kn_86 : g_75.2.1 q2 3 = .int v_2 := (Sm.v m_77 r_21 (by decide) rfl kn_22)
                  have kn_87 : g_75.2.1 h 6 = .int v_7 := (Sm.v m_77 r_19 (by decide) rfl kn_23)
                  have kn_88 : g_75.2.1 q2 0 = .ref v_26 := (Sm.v m_77 r_21 (by decide) rfl e_v_26)
                  have kn_89 : g_75.2.1 q2 1 = .ref v_28 := (Sm.v m_77 r_21 (by decide) rfl e_v_28)
                  have kn_90 : g_75.2.2.2.1 v_26 i.toNatClampNeg = u_27 := (Sm.c m_77 r_v_26 (by decide) rfl e_u_27.symm)
                  have kn_91 : g_75.2.2.2.1 v_28 i.toNatClampNeg = u_29 := (Sm.c m_77 r_v_28 (by decide) rfl e_u_29.symm)
                  refine W.eq (g2 := F0 m 192 ls [.int r_76]) rfl ?_
                  refine lv_istore (lv' := [(7, .int r_76), (13, .int 0), (12, .int u_29), (11, .int u_27), (10, .int r_11), (9, .int i), (8, .int po), (6, .int pk), (5, .ref q2), (4, .ref q1), (0, .ref h), (1, .int n), (2, .int x1), (3, .int x2)]) hx hb dX5_runActs_192 hl (by decide) rfl (fun ls hl => ?_)
                  refine lv_aload_n hx hb dX5_runActs_194 rfl (lv_at hl 10 rfl) ?_
                  obtain ⟨v_92, e_v_92, l_v_92, u_v_92⟩ := f_6_7 hI r_79
                  refine t_get (ci := 5) (v := .int v_92) hB hT (ro_ci r_79 rfl) rfl 7 (by decide) k_216 e_v_92 dX5_runActs_195 ?_
                  refine lv_if_eq (tgt := 204) hx hb dX5_runActs_198 (by decide) (fun c_93 => ?_) (fun c_93 => ?_)
                  · have c_93' : v_92.toInt = 0 := i_eq c_93 rfl (by decide)
                    refine lv_goto (tgt := 282) hx hb dX5_runActs_204 (by decide) ?_
                    obtain ⟨z_94, ez_94⟩ : ∃ z : Int32, z = i + 1 := ⟨_, rfl⟩
                    have e_z_94 : z_94.toInt = i.toInt + 1 := i_add ez_94 rfl (by decide) (by omega) (by omega)
                    refine lv_iinc (v := z_94) (lv' := [(9, .int z_94), (7, .int r_76), (13, .int 0), (12, .int u_29), (11, .int u_27), (10, .int r_11), (8, .int po), (6, .int pk), (5, .ref q2), (4, .ref q1), (0, .ref h), (1, .int n), (2, .int x1), (3, .int x2)]) hx hb dX5_runActs_282 hl (k := 5) rfl (by rw [ez_94]; rfl) (by decide) rfl (fun ls hl => ?_)
                    refine lv_goto (tgt := 44) hx hb dX5_runActs_285 (by decide) ?_
                    exact ih (kf - 1) (by omega) g_75 z_94 r_76 pk po q1 q2 H locs ls hT hI hE hM (by omega) (by omega) (by omega) (by omega) (by omega) (by omega) r_80 r_81 (by have e0_ : (0 : Int32).toInt = 0 := (by decide); omega) (lv_sub hl [0, 6, 1, 7, 8, 9, 10, 11, 12, 13] rfl)
                  · have c_93' : v_92.toInt ≠ 0 := i_ne c_93 rfl (by decide)
                    refine lv_bipush (v := (-2)) hx hb dX5_runActs_201 (by decide) ?_
                    exact t_iret hB hr hT (Nat.le_of_ble_eq_true rfl) (Nat.le_of_ble_eq_true rfl) dX5_runActs_203 ⟨(-2), rfl, hI, hE, hM⟩
                · have c_74' : pk.toInt ≠ 0 := i_ne c_74 rfl (by decide)
                  refine lv_iload_n hx hb dX5_runActs_164 rfl (lv_at hl 12 rfl) ?_
                  refine lv_bipush (v := 7) hx hb dX5_runActs_165 (by decide) ?_
                  refine lv_iload hx hb dX5_runActs_167 (lv_at hl 3 rfl) ?_
                  refine lv_imul hx hb dX5_runActs_169 ?_
                  refine lv_topi (fun z_95 ez_95 => ?_)
                  have e_z_95 : z_95.toInt = 7 * i.toInt := i_mul ez_95 (by decide) rfl (by omega) (by omega)
                  refine lv_iadd hx hb dX5_runActs_170 ?_
                  refine lv_topi (fun z_96 ez_96 => ?_)
                  refine lv_bipush (v := 99) hx hb dX5_runActs_171 (by decide) ?_
                  refine lv_irem hx hb dX5_runActs_173 (by decide) ?_
                  refine lv_topi (fun z_97 ez_97 => ?_)
                  refine lv_iconst (v := 1) hx hb dX5_runActs_174 (by decide) ?_
                  refine lv_iadd hx hb dX5_runActs_175 ?_
                  refine lv_topi (fun z_98 ez_98 => ?_)
                  refine lv_goto (tgt := 180) hx hb dX5_runActs_176 (by decide) ?_
                  refine lv_istore (lv' := [(13, .int z_98), (12, .int u_29), (11, .int u_27), (10, .int r_11), (9, .int i), (8, .int po), (7, .int j), (6, .int pk), (5, .ref q2), (4, .ref q1), (0, .ref h), (1, .int n), (2, .int x1), (3, .int x2)]) hx hb dX5_runActs_180 hl (by decide) rfl (fun ls hl => ?_)
                  refine lv_aload_n hx hb dX5_runActs_182 rfl (lv_at hl 10 rfl) ?_
                  refine lv_iload hx hb dX5_runActs_183 (lv_at hl 1 rfl) ?_
                  refine lv_iload hx hb dX5_runActs_185 (lv_at hl 3 rfl) ?_
                  refine lv_iload hx hb dX5_runActs_187 (lv_at hl 0 rfl) ?_
                  refine t_callV (n := 3) (As := [.int u_29, .int r_11, .int z_98]) (rest := []) (ci := 5) hB hT hl.1 (s_serve0 l D cI cZ cS cR N0 g_14 hI h u_29 r_11 z_98 r_19 (by omega) (by omega)) (ro_ci r_19 rfl) rfl k_508 k_59 k_505 k_507 k_12 (by decide +kernel) ⟨(Nat.le_of_ble_eq_true rfl), (Nat.le_of_ble_eq_true rfl)⟩ rfl (Nat.le_of_ble_eq_true rfl) ⟨(Nat.le_of_ble_eq_true rfl), (Nat.le_of_ble_eq_true rfl)⟩ dX5_runActs_189 (fun v g_99 H locs hp hT => ?_)
                  obtain ⟨r_100, rfl, hI, x_102, m_101⟩ := hp
                  have hM : Sm md_s_runActs1 g g_99 := hM.tr hE (m_101.mo (fun r k h => mdle_s_runActs1_s_serve0 h))
                  have hE : Ex g g_99 := hE.tr x_102
                  have r_103 : g_99.1 h = 6 := (Ex.r x_102 r_19 (by decide))
                  have r_104 : g_99.1 q1 = 4 := (Ex.r x_102 r_20 (by decide))
                  have r_105 : g_99.1 q2 = 3 := (Ex.r x_102 r_21 (by decide))
                  have r_106 : g_99.1 v_26 = 68 := (Ex.r x_102 r_v_26 (by decide))
                  have r_107 : g_99.1 v_28 = 69 := (Ex.r x_102 r_v_28 (by decide))
                  have n_108 : g_99.2.2.1 v_26 = 8 := (Ex.n x_102 r_v_26 (by decide) n_v_26)
                  have n_109 : g_99.2.2.1 v_28 = 8 := (Ex.n x_102 r_v_28 (by decide) n_v_28)
                  have kn_110 : g_99.2.1 q2 3 = .int v_2 := (Sm.v m_101 r_21 (by decide) rfl kn_22)
                  have kn_111 : g_99.2.1 h 6 = .int v_7 := (Sm.v m_101 r_19 (by decide) rfl kn_23)
                  have kn_112 : g_99.2.1 q2 0 = .ref v_26 := (Sm.v m_101 r_21 (by decide) rfl e_v_26)
                  have kn_113 : g_99.2.1 q2 1 = .ref v_28 := (Sm.v m_101 r_21 (by decide) rfl e_v_28)
                  have kn_114 : g_99.2.2.2.1 v_26 i.toNatClampNeg = u_27 := (Sm.c m_101 r_v_26 (by decide) rfl e_u_27.symm)
                  have kn_115 : g_99.2.2.2.1 v_28 i.toNatClampNeg = u_29 := (Sm.c m_101 r_v_28 (by decide) rfl e_u_29.symm)
                  refine W.eq (g2 := F0 m 192 ls [.int r_100]) rfl ?_
                  refine lv_istore (lv' := [(7, .int r_100), (13, .int z_98), (12, .int u_29), (11, .int u_27), (10, .int r_11), (9, .int i), (8, .int po), (6, .int pk), (5, .ref q2), (4, .ref q1), (0, .ref h), (1, .int n), (2, .int x1), (3, .int x2)]) hx hb dX5_runActs_192 hl (by decide) rfl (fun ls hl => ?_)
                  refine lv_aload_n hx hb dX5_runActs_194 rfl (lv_at hl 10 rfl) ?_
                  obtain ⟨v_116, e_v_116, l_v_116, u_v_116⟩ := f_6_7 hI r_103
                  refine t_get (ci := 5) (v := .int v_116) hB hT (ro_ci r_103 rfl) rfl 7 (by decide) k_216 e_v_116 dX5_runActs_195 ?_
                  refine lv_if_eq (tgt := 204) hx hb dX5_runActs_198 (by decide) (fun c_117 => ?_) (fun c_117 => ?_)
                  · have c_117' : v_116.toInt = 0 := i_eq c_117 rfl (by decide)
                    refine lv_goto (tgt := 282) hx hb dX5_runActs_204 (by decide) ?_
                    obtain ⟨z_118, ez_118⟩ : ∃ z : Int32, z = i + 1 := ⟨_, rfl⟩
                    have e_z_118 : z_118.toInt = i.toInt + 1 := i_add ez_118 rfl (by decide) (by omega) (by omega)
                    refine lv_iinc (v := z_118) (lv' := [(9, .int z_118), (7, .int r_100), (13, .int z_98), (12, .int u_29), (11, .int u_27), (10, .int r_11), (8, .int po), (6, .int pk), (5, .ref q2), (4, .ref q1), (0, .ref h), (1, .int n), (2, .int x1), (3, .int x2)]) hx hb dX5_runActs_282 hl (k := 5) rfl (by rw [ez_118]; rfl) (by decide) rfl (fun ls hl => ?_)
                    refine lv_goto (tgt := 44) hx hb dX5_runActs_285 (by decide) ?_
                    exact ih (kf - 1) (by omega) g_99 z_118 r_100 pk po q1 q2 H locs ls hT hI hE hM (by omega) (by omega) (by omega) (by omega) (by omega) (by omega) r_104 r_105 (by have e0_ : (0 : Int32).toInt = 0 := (by decide); omega) (lv_sub hl [0, 6, 1, 7, 8, 9, 10, 11, 12, 13] rfl)
                  · have c_117' : v_116.toInt ≠ 0 := i_ne c_117 rfl (by decide)
                    refine lv_bipush (v := (-2)) hx hb dX5_runActs_201 (by decide) ?_
                    exact t_iret hB hr hT (Nat.le_of_ble_eq_true rfl) (Nat.le_of_ble_eq_true rfl) dX5_runActs_203 ⟨(-2), rfl, hI, hE, hM⟩
              · refine W.eq (g2 := F0 m 156 ls [.int 0]) rfl ?_
                refine lv_if_eq (tgt := 207) hx hb dX5_runActs_156 (by decide) (fun c_ => ?_) (fun c_ => absurd (by decide) c_)
                refine lv_iload hx hb dX5_runActs_207 (lv_at hl 1 rfl) ?_
                refine lv_bipush (v := 6) hx hb dX5_runActs_209 (by decide) ?_
                refine lv_icmp_ne (tgt := 242) hx hb dX5_runActs_211 (by decide) (fun c_119 => ?_) (fun c_119 => ?_)
                · have c_119' : u_27.toInt ≠ 6 := i_ne c_119 rfl (by decide)
                  refine lv_iload hx hb dX5_runActs_242 (lv_at hl 1 rfl) ?_
                  refine lv_bipush (v := 7) hx hb dX5_runActs_244 (by decide) ?_
                  refine lv_icmp_ne (tgt := 263) hx hb dX5_runActs_246 (by decide) (fun c_120 => ?_) (fun c_120 => ?_)
                  · have c_120' : u_27.toInt ≠ 7 := i_ne c_120 rfl (by decide)
                    refine lv_iload hx hb dX5_runActs_263 (lv_at hl 1 rfl) ?_
                    refine lv_iconst (v := 5) hx hb dX5_runActs_265 (by decide) ?_
                    refine lv_icmp_eq (tgt := 282) hx hb dX5_runActs_266 (by decide) (fun c_121 => ?_) (fun c_121 => ?_)
                    · have c_121' : u_27.toInt = 5 := i_eq c_121 rfl (by decide)
                      obtain ⟨z_122, ez_122⟩ : ∃ z : Int32, z = i + 1 := ⟨_, rfl⟩
                      have e_z_122 : z_122.toInt = i.toInt + 1 := i_add ez_122 rfl (by decide) (by omega) (by omega)
                      refine lv_iinc (v := z_122) (lv' := [(9, .int z_122), (12, .int u_29), (11, .int u_27), (10, .int r_11), (8, .int po), (7, .int j), (6, .int pk), (5, .ref q2), (4, .ref q1), (0, .ref h), (1, .int n), (2, .int x1), (3, .int x2)]) hx hb dX5_runActs_282 hl (k := 3) rfl (by rw [ez_122]; rfl) (by decide) rfl (fun ls hl => ?_)
                      refine lv_goto (tgt := 44) hx hb dX5_runActs_285 (by decide) ?_
                      exact ih (kf - 1) (by omega) g_14 z_122 j pk po q1 q2 H locs ls hT hI hE hM (by omega) (by omega) (by omega) (by omega) (by omega) (by omega) r_20 r_21 (by have e0_ : (0 : Int32).toInt = 0 := (by decide); omega) (lv_sub hl [0, 4, 5, 6, 7, 8, 9, 10, 11, 12] rfl)
                    · have c_121' : u_27.toInt ≠ 5 := i_ne c_121 rfl (by decide)
                      exact absurd c_121' (by omega)
                  · have c_120' : u_27.toInt = 7 := i_eq c_120 rfl (by decide)
                    exact absurd c_120' (by omega)
                · have c_119' : u_27.toInt = 6 := i_eq c_119 rfl (by decide)
                  exact absurd c_119' (by omega)
        · have c_8' : v_7.toInt ≤ z_6.toInt := i_nlt c_8 rfl rfl
          refine lv_aload_n hx hb dX5_runActs_78 rfl (lv_at hl 6 rfl) ?_
          refine lv_iconst (v := 1) hx hb dX5_runActs_79 (by decide) ?_
          refine t_put0 (ci := 5) (v := .int 1) hB hT (ro_ci r_1 rfl) (ro_n0 r_1 (by decide)) rfl 7 (by decide) k_216 (Or.inl rfl) rfl rfl dX5_runActs_80 (fun H locs hT => ?_)
          have hI : Inv (sF g1 h 7 (.int 1)) := hI.sF (p_6_7 r_1 (⟨_, rfl, by decide, by decide⟩))
          have hM : Sm md_s_runActs1 g (sF g1 h 7 (.int 1)) := hM.tr hE (Sm_sF (by rw [r_1]; rfl))
          have hE : Ex g (sF g1 h 7 (.int 1)) := hE
          refine lv_bipush (v := (-2)) hx hb dX5_runActs_83 (by decide) ?_
          exact t_iret hB hr hT (Nat.le_of_ble_eq_true rfl) (Nat.le_of_ble_eq_true rfl) dX5_runActs_85 ⟨(-2), rfl, hI, hE, hM⟩
      · have c_4' : po.toInt ≠ 0 := i_ne c_4 rfl (by decide)
        refine lv_iconst (v := 0) hx hb dX5_runActs_59 (by decide) ?_
        refine lv_istore (lv' := [(8, .int 0), (9, .int i), (7, .int j), (6, .int pk), (5, .ref q2), (4, .ref q1), (0, .ref h), (1, .int n), (2, .int x1), (3, .int x2)]) hx hb dX5_runActs_60 hl (by decide) rfl (fun ls hl => ?_)
        refine lv_goto (tgt := 282) hx hb dX5_runActs_62 (by decide) ?_
        obtain ⟨z_123, ez_123⟩ : ∃ z : Int32, z = i + 1 := ⟨_, rfl⟩
        have e_z_123 : z_123.toInt = i.toInt + 1 := i_add ez_123 rfl (by decide) (by omega) (by omega)
        refine lv_iinc (v := z_123) (lv' := [(9, .int z_123), (8, .int 0), (7, .int j), (6, .int pk), (5, .ref q2), (4, .ref q1), (0, .ref h), (1, .int n), (2, .int x1), (3, .int x2)]) hx hb dX5_runActs_282 hl (k := 1) rfl (by rw [ez_123]; rfl) (by decide) rfl (fun ls hl => ?_)
        refine lv_goto (tgt := 44) hx hb dX5_runActs_285 (by decide) ?_
        exact ih (kf - 1) (by omega) g1 z_123 j pk (0 : Int32) q1 q2 H locs ls hT hI hE hM (by omega) (by omega) (by omega) (by omega) (by decide) (by decide) r1_q1 r1_q2 (by have e0_ : (0 : Int32).toInt = 0 := (by decide); omega) (lv_sub hl [0, 1, 2, 3, 4, 5, 6, 7, 8, 9] rfl)
set_option maxHeartbeats 4000000 in
set_option maxRecDepth 100000 in
theorem s_runActs1 (l : Launch) (D : va_G) (cI cZ cS cR : ClassId) (N0 : NT) (g : GS) (hI : Inv g) (h : Nat) (n : Int32) (x1 : Int32) (x2 : Int32) (r_h : g.1 h = 6) (l_n : 4 ≤ n.toInt) (u_n : n.toInt ≤ 5) : Ty l D cI cZ cS cR N0 yX5_runActs cX5_runActs 14 (some .int) 3 0 0 [.ref h, .int n, .int x1, .int x2] g (fun v g' => ∃ (r : Int32), v = some (.int r) ∧ Inv g' ∧ Ex g g' ∧ Sm md_s_runActs1 g g') := by
  refine t_enter (by decide) (Nat.le_of_ble_eq_true rfl) ?_
  intro p e s m args below meth c ls H locs hB hr hin hl hT
  have hx := hB.1
  have hb := hB.2.1
  have hl : lv_has ls 14 [(0, .ref h), (1, .int n), (2, .int x1), (3, .int x2)] := hl
  have hE : Ex g g := Ex.rf
  have hM : Sm md_s_runActs1 g g := Sm.rf
  refine lv_aload_n hx hb dX5_runActs_0 rfl (lv_at hl 0 rfl) ?_
  obtain ⟨v_1, e_v_1, r_v_1, n_v_1⟩ := f_6_0 hI r_h
  refine t_get (ci := 5) (v := .ref v_1) hB hT (ro_ci r_h rfl) rfl 0 (by decide) k_199 e_v_1 dX5_runActs_1 ?_
  refine lv_iload_n hx hb dX5_runActs_4 rfl (lv_at hl 1 rfl) ?_
  have i_q_2 : vp_in n 6 := (i_in (n := 6) rfl (by omega) (by omega))
  obtain ⟨q_2, e_q_2, r_q_2⟩ := hI.q r_v_1 n_v_1 (i_cl i_q_2)
  refine t_aald hB hT (Or.inl r_v_1) n_v_1 i_q_2 e_q_2 dX5_runActs_5 ?_
  refine lv_astore (lv' := [(4, .ref q_2), (0, .ref h), (1, .int n), (2, .int x1), (3, .int x2)]) hx hb dX5_runActs_6 hl (by decide) rfl (fun ls hl => ?_)
  refine lv_aload hx hb dX5_runActs_8 (lv_at hl 0 rfl) ?_
  obtain ⟨v_3, e_v_3, r_v_3⟩ := f_4_0 hI r_q_2
  refine t_get (ci := 3) (v := .ref v_3) hB hT (ro_ci r_q_2 rfl) rfl 0 (by decide) k_145 e_v_3 dX5_runActs_10 ?_
  refine lv_astore (lv' := [(5, .ref v_3), (4, .ref q_2), (0, .ref h), (1, .int n), (2, .int x1), (3, .int x2)]) hx hb dX5_runActs_13 hl (by decide) rfl (fun ls hl => ?_)
  refine lv_iload_n hx hb dX5_runActs_15 rfl (lv_at hl 5 rfl) ?_
  refine lv_if_eq (tgt := 32) hx hb dX5_runActs_16 (by decide) (fun c_4 => ?_) (fun c_4 => ?_)
  · have c_4' : x2.toInt = 0 := i_eq c_4 rfl (by decide)
    refine lv_iconst (v := 0) hx hb dX5_runActs_32 (by decide) ?_
    refine lv_istore (lv' := [(6, .int 0), (5, .ref v_3), (4, .ref q_2), (0, .ref h), (1, .int n), (2, .int x1), (3, .int x2)]) hx hb dX5_runActs_33 hl (by decide) rfl (fun ls hl => ?_)
    refine lv_iconst (v := 0) hx hb dX5_runActs_35 (by decide) ?_
    refine lv_istore (lv' := [(7, .int 0), (6, .int 0), (5, .ref v_3), (4, .ref q_2), (0, .ref h), (1, .int n), (2, .int x1), (3, .int x2)]) hx hb dX5_runActs_36 hl (by decide) rfl (fun ls hl => ?_)
    refine lv_iconst (v := 0) hx hb dX5_runActs_38 (by decide) ?_
    refine lv_istore (lv' := [(8, .int 0), (7, .int 0), (6, .int 0), (5, .ref v_3), (4, .ref q_2), (0, .ref h), (1, .int n), (2, .int x1), (3, .int x2)]) hx hb dX5_runActs_39 hl (by decide) rfl (fun ls hl => ?_)
    refine lv_iconst (v := 0) hx hb dX5_runActs_41 (by decide) ?_
    refine lv_istore (lv' := [(9, .int 0), (8, .int 0), (7, .int 0), (6, .int 0), (5, .ref v_3), (4, .ref q_2), (0, .ref h), (1, .int n), (2, .int x1), (3, .int x2)]) hx hb dX5_runActs_42 hl (by decide) rfl (fun ls hl => ?_)
    exact lt_s_runActs1_a l D cI cZ cS cR N0 g h n x1 x2 r_h l_n u_n hB hr   8 g (0 : Int32) (0 : Int32) (0 : Int32) (0 : Int32) q_2 v_3 H locs ls hT hI hE hM (by decide) (by decide) (by decide) (by decide) (by decide) (by decide) r_q_2 r_v_3 (by have e0_ : (0 : Int32).toInt = 0 := (by decide); omega) (lv_sub hl [0, 1, 2, 3, 4, 5, 6, 7, 8, 9] rfl)
  · have c_4' : x2.toInt ≠ 0 := i_ne c_4 rfl (by decide)
    refine lv_aload hx hb dX5_runActs_19 (lv_at hl 1 rfl) ?_
    refine lv_iconst (v := 2) hx hb dX5_runActs_21 (by decide) ?_
    refine t_callV (n := 1) (As := [.int 2]) (rest := []) (ci := 3) hB hT hl.1 (s_isMended l D cI cZ cS cR N0 g hI q_2 2 r_q_2) (ro_ci r_q_2 rfl) rfl k_512 k_60 k_509 k_510 k_511 (by decide +kernel) ⟨(Nat.le_of_ble_eq_true rfl), (Nat.le_of_ble_eq_true rfl)⟩ rfl (Nat.le_of_ble_eq_true rfl) ⟨(Nat.le_of_ble_eq_true rfl), (Nat.le_of_ble_eq_true rfl)⟩ dX5_runActs_22 (fun v g_5 H locs hp hT => ?_)
    obtain ⟨r_6, rfl, eg, f_7⟩ := hp
    rw [eg] at hT
    clear eg
    refine W.eq (g2 := F0 m 25 ls [.int r_6]) rfl ?_
    have qc_10 : (2 : Int32).toInt = 2 := (by decide)
    rcases f_7 with rfl | rfl
    · refine W.eq (g2 := F0 m 25 ls [.int 1]) rfl ?_
      refine lv_if_eq (tgt := 32) hx hb dX5_runActs_25 (by decide) (fun c_ => absurd c_ (by decide)) (fun c_ => ?_)
      refine lv_iconst (v := 1) hx hb dX5_runActs_28 (by decide) ?_
      refine lv_goto (tgt := 33) hx hb dX5_runActs_29 (by decide) ?_
      refine lv_istore (lv' := [(6, .int 1), (5, .ref v_3), (4, .ref q_2), (0, .ref h), (1, .int n), (2, .int x1), (3, .int x2)]) hx hb dX5_runActs_33 hl (by decide) rfl (fun ls hl => ?_)
      refine lv_iconst (v := 0) hx hb dX5_runActs_35 (by decide) ?_
      refine lv_istore (lv' := [(7, .int 0), (6, .int 1), (5, .ref v_3), (4, .ref q_2), (0, .ref h), (1, .int n), (2, .int x1), (3, .int x2)]) hx hb dX5_runActs_36 hl (by decide) rfl (fun ls hl => ?_)
      refine lv_iconst (v := 0) hx hb dX5_runActs_38 (by decide) ?_
      refine lv_istore (lv' := [(8, .int 0), (7, .int 0), (6, .int 1), (5, .ref v_3), (4, .ref q_2), (0, .ref h), (1, .int n), (2, .int x1), (3, .int x2)]) hx hb dX5_runActs_39 hl (by decide) rfl (fun ls hl => ?_)
      refine lv_iconst (v := 0) hx hb dX5_runActs_41 (by decide) ?_
      refine lv_istore (lv' := [(9, .int 0), (8, .int 0), (7, .int 0), (6, .int 1), (5, .ref v_3), (4, .ref q_2), (0, .ref h), (1, .int n), (2, .int x1), (3, .int x2)]) hx hb dX5_runActs_42 hl (by decide) rfl (fun ls hl => ?_)
      exact lt_s_runActs1_a l D cI cZ cS cR N0 g h n x1 x2 r_h l_n u_n hB hr   8 g (0 : Int32) (0 : Int32) (1 : Int32) (0 : Int32) q_2 v_3 H locs ls hT hI hE hM (by decide) (by decide) (by decide) (by decide) (by decide) (by decide) r_q_2 r_v_3 (by have e0_ : (0 : Int32).toInt = 0 := (by decide); have e1_ : (1 : Int32).toInt = 1 := (by decide); omega) (lv_sub hl [0, 1, 2, 3, 4, 5, 6, 7, 8, 9] rfl)
    · refine W.eq (g2 := F0 m 25 ls [.int 0]) rfl ?_
      refine lv_if_eq (tgt := 32) hx hb dX5_runActs_25 (by decide) (fun c_ => ?_) (fun c_ => absurd (by decide) c_)
      refine lv_iconst (v := 0) hx hb dX5_runActs_32 (by decide) ?_
      refine lv_istore (lv' := [(6, .int 0), (5, .ref v_3), (4, .ref q_2), (0, .ref h), (1, .int n), (2, .int x1), (3, .int x2)]) hx hb dX5_runActs_33 hl (by decide) rfl (fun ls hl => ?_)
      refine lv_iconst (v := 0) hx hb dX5_runActs_35 (by decide) ?_
      refine lv_istore (lv' := [(7, .int 0), (6, .int 0), (5, .ref v_3), (4, .ref q_2), (0, .ref h), (1, .int n), (2, .int x1), (3, .int x2)]) hx hb dX5_runActs_36 hl (by decide) rfl (fun ls hl => ?_)
      refine lv_iconst (v := 0) hx hb dX5_runActs_38 (by decide) ?_
      refine lv_istore (lv' := [(8, .int 0), (7, .int 0), (6, .int 0), (5, .ref v_3), (4, .ref q_2), (0, .ref h), (1, .int n), (2, .int x1), (3, .int x2)]) hx hb dX5_runActs_39 hl (by decide) rfl (fun ls hl => ?_)
      refine lv_iconst (v := 0) hx hb dX5_runActs_41 (by decide) ?_
      refine lv_istore (lv' := [(9, .int 0), (8, .int 0), (7, .int 0), (6, .int 0), (5, .ref v_3), (4, .ref q_2), (0, .ref h), (1, .int n), (2, .int x1), (3, .int x2)]) hx hb dX5_runActs_42 hl (by decide) rfl (fun ls hl => ?_)
      exact lt_s_runActs1_a l D cI cZ cS cR N0 g h n x1 x2 r_h l_n u_n hB hr   8 g (0 : Int32) (0 : Int32) (0 : Int32) (0 : Int32) q_2 v_3 H locs ls hT hI hE hM (by decide) (by decide) (by decide) (by decide) (by decide) (by decide) r_q_2 r_v_3 (by have e0_ : (0 : Int32).toInt = 0 := (by decide); omega) (lv_sub hl [0, 1, 2, 3, 4, 5, 6, 7, 8, 9] rfl)
abbrev md_s_serve1 : Nat → Nat → Bool := mdf [(4, 2), (4, 5), (4, 10), (4, 11), (4, 14), (6, 4), (6, 5), (6, 7), (50, 99)]
theorem mdle_s_serve1_s_answerNewest {r k : Nat} (h : md_s_serve1 r k = false) : md_s_answerNewest r k = false := mdf_le (by decide +kernel) h
theorem mdle_s_serve1_s_beginKnown {r k : Nat} (h : md_s_serve1 r k = false) : md_s_beginKnown r k = false := mdf_le (by decide +kernel) h
theorem mdle_s_serve1_s_keep {r k : Nat} (h : md_s_serve1 r k = false) : md_s_keep r k = false := mdf_le (by decide +kernel) h
theorem mdle_s_serve1_s_runActs1 {r k : Nat} (h : md_s_serve1 r k = false) : md_s_runActs1 r k = false := mdf_le (by decide +kernel) h
set_option maxHeartbeats 4000000 in
set_option maxRecDepth 100000 in
theorem s_serve1 (l : Launch) (D : va_G) (cI cZ cS cR : ClassId) (N0 : NT) (g : GS) (hI : Inv g) (h : Nat) (n : Int32) (x1 : Int32) (x2 : Int32) (r_h : g.1 h = 6) (l_n : 4 ≤ n.toInt) (u_n : n.toInt ≤ 5) : Ty l D cI cZ cS cR N0 yX5_serve cX5_serve 9 (some .int) 4 0 0 [.ref h, .int n, .int x1, .int x2] g (fun v g' => ∃ (r : Int32), v = some (.int r) ∧ Inv g' ∧ Ex g g' ∧ Sm md_s_serve1 g g') := by
  refine t_enter (by decide) (Nat.le_of_ble_eq_true rfl) ?_
  intro p e s m args below meth c ls H locs hB hr hin hl hT
  have hx := hB.1
  have hb := hB.2.1
  have hl : lv_has ls 9 [(0, .ref h), (1, .int n), (2, .int x1), (3, .int x2)] := hl
  have hE : Ex g g := Ex.rf
  have hM : Sm md_s_serve1 g g := Sm.rf
  refine lv_aload_n hx hb dX5_serve_0 rfl (lv_at hl 0 rfl) ?_
  obtain ⟨v_1, e_v_1, r_v_1, n_v_1⟩ := f_6_0 hI r_h
  refine t_get (ci := 5) (v := .ref v_1) hB hT (ro_ci r_h rfl) rfl 0 (by decide) k_199 e_v_1 dX5_serve_1 ?_
  refine lv_iload_n hx hb dX5_serve_4 rfl (lv_at hl 1 rfl) ?_
  have i_q_2 : vp_in n 6 := (i_in (n := 6) rfl (by omega) (by omega))
  obtain ⟨q_2, e_q_2, r_q_2⟩ := hI.q r_v_1 n_v_1 (i_cl i_q_2)
  refine t_aald hB hT (Or.inl r_v_1) n_v_1 i_q_2 e_q_2 dX5_serve_5 ?_
  refine lv_astore (lv' := [(4, .ref q_2), (0, .ref h), (1, .int n), (2, .int x1), (3, .int x2)]) hx hb dX5_serve_6 hl (by decide) rfl (fun ls hl => ?_)
  refine lv_iload_n hx hb dX5_serve_8 rfl (lv_at hl 4 rfl) ?_
  refine lv_if_eq (tgt := 25) hx hb dX5_serve_9 (by decide) (fun c_3 => ?_) (fun c_3 => ?_)
  · have c_3' : x2.toInt = 0 := i_eq c_3 rfl (by decide)
    refine lv_iconst (v := 0) hx hb dX5_serve_25 (by decide) ?_
    refine lv_istore (lv' := [(5, .int 0), (4, .ref q_2), (0, .ref h), (1, .int n), (2, .int x1), (3, .int x2)]) hx hb dX5_serve_26 hl (by decide) rfl (fun ls hl => ?_)
    refine lv_iload hx hb dX5_serve_28 (lv_at hl 0 rfl) ?_
    refine lv_if_eq (tgt := 46) hx hb dX5_serve_30 (by decide) (fun c_ => ?_) (fun c_ => absurd (by decide) c_)
    refine lv_iconst (v := 0) hx hb dX5_serve_46 (by decide) ?_
    refine lv_istore (lv' := [(6, .int 0), (5, .int 0), (4, .ref q_2), (0, .ref h), (1, .int n), (2, .int x1), (3, .int x2)]) hx hb dX5_serve_47 hl (by decide) rfl (fun ls hl => ?_)
    refine lv_iload hx hb dX5_serve_49 (lv_at hl 1 rfl) ?_
    refine lv_if_eq (tgt := 63) hx hb dX5_serve_51 (by decide) (fun c_ => ?_) (fun c_ => absurd (by decide) c_)
    refine lv_iconst (v := (-1)) hx hb dX5_serve_63 (by decide) ?_
    refine lv_istore (lv' := [(7, .int (-1)), (6, .int 0), (5, .int 0), (4, .ref q_2), (0, .ref h), (1, .int n), (2, .int x1), (3, .int x2)]) hx hb dX5_serve_64 hl (by decide) rfl (fun ls hl => ?_)
    refine lv_iload hx hb dX5_serve_66 (lv_at hl 0 rfl) ?_
    refine lv_iconst (v := (-1)) hx hb dX5_serve_68 (by decide) ?_
    refine lv_icmp_eq (tgt := 81) hx hb dX5_serve_69 (by decide) (fun c_ => ?_) (fun c_ => absurd (by decide) c_)
    refine lv_iload hx hb dX5_serve_81 (lv_at hl 1 rfl) ?_
    refine lv_if_eq (tgt := 98) hx hb dX5_serve_83 (by decide) (fun c_ => ?_) (fun c_ => absurd (by decide) c_)
    refine lv_aload hx hb dX5_serve_98 (lv_at hl 3 rfl) ?_
    refine lv_iload_n hx hb dX5_serve_100 rfl (lv_at hl 6 rfl) ?_
    refine lv_iload_n hx hb dX5_serve_101 rfl (lv_at hl 7 rfl) ?_
    refine t_callV (n := 2) (As := [.int x1, .int x2]) (rest := []) (ci := 3) hB hT hl.1 (s_beginKnown l D cI cZ cS cR N0 g hI q_2 x1 x2 r_q_2) (ro_ci r_q_2 rfl) rfl k_529 k_60 k_526 k_527 k_528 (by decide +kernel) ⟨(Nat.le_of_ble_eq_true rfl), (Nat.le_of_ble_eq_true rfl)⟩ rfl (Nat.le_of_ble_eq_true rfl) ⟨(Nat.le_of_ble_eq_true rfl), (Nat.le_of_ble_eq_true rfl)⟩ dX5_serve_102 (fun v g_4 H locs hp hT => ?_)
    obtain ⟨rfl, hI, x_6, m_5⟩ := hp
    have hM : Sm md_s_serve1 g g_4 := hM.tr hE (m_5.mo (fun r k h => mdle_s_serve1_s_beginKnown h))
    have hE : Ex g g_4 := hE.tr x_6
    have r_7 : g_4.1 h = 6 := (Ex.r x_6 r_h (by decide))
    have r_8 : g_4.1 v_1 = 41 := (Ex.r x_6 r_v_1 (by decide))
    have r_9 : g_4.1 q_2 = 4 := (Ex.r x_6 r_q_2 (by decide))
    have n_10 : g_4.2.2.1 v_1 = 6 := (Ex.n x_6 r_v_1 (by decide) n_v_1)
    have kn_11 : g_4.2.1 h 0 = .ref v_1 := (Sm.v m_5 r_h (by decide) rfl e_v_1)
    refine W.eq (g2 := F0 m 105 ls []) rfl ?_
    refine lv_aload_n hx hb dX5_serve_105 rfl (lv_at hl 4 rfl) ?_
    refine lv_iload_n hx hb dX5_serve_106 rfl (lv_at hl 5 rfl) ?_
    refine lv_iload_n hx hb dX5_serve_107 rfl (lv_at hl 6 rfl) ?_
    refine lv_iload_n hx hb dX5_serve_108 rfl (lv_at hl 7 rfl) ?_
    refine t_callV (n := 3) (As := [.int n, .int x1, .int x2]) (rest := []) (ci := 5) hB hT hl.1 (s_runActs1 l D cI cZ cS cR N0 g_4 hI h n x1 x2 r_7 (by omega) (by omega)) (ro_ci r_7 rfl) rfl k_534 k_59 k_531 k_533 k_13 (by decide +kernel) ⟨(Nat.le_of_ble_eq_true rfl), (Nat.le_of_ble_eq_true rfl)⟩ rfl (Nat.le_of_ble_eq_true rfl) ⟨(Nat.le_of_ble_eq_true rfl), (Nat.le_of_ble_eq_true rfl)⟩ dX5_serve_109 (fun v g_12 H locs hp hT => ?_)
    obtain ⟨r_13, rfl, hI, x_15, m_14⟩ := hp
    have hM : Sm md_s_serve1 g g_12 := hM.tr hE (m_14.mo (fun r k h => mdle_s_serve1_s_runActs1 h))
    have hE : Ex g g_12 := hE.tr x_15
    have r_16 : g_12.1 h = 6 := (Ex.r x_15 r_7 (by decide))
    have r_17 : g_12.1 v_1 = 41 := (Ex.r x_15 r_8 (by decide))
    have r_18 : g_12.1 q_2 = 4 := (Ex.r x_15 r_9 (by decide))
    have n_19 : g_12.2.2.1 v_1 = 6 := (Ex.n x_15 r_8 (by decide) n_10)
    have kn_20 : g_12.2.1 h 0 = .ref v_1 := (Sm.v m_14 r_7 (by decide) rfl kn_11)
    refine W.eq (g2 := F0 m 112 ls [.int r_13]) rfl ?_
    refine lv_istore (lv' := [(8, .int r_13), (7, .int (-1)), (6, .int 0), (5, .int 0), (4, .ref q_2), (0, .ref h), (1, .int n), (2, .int x1), (3, .int x2)]) hx hb dX5_serve_112 hl (by decide) rfl (fun ls hl => ?_)
    refine lv_aload_n hx hb dX5_serve_114 rfl (lv_at hl 5 rfl) ?_
    obtain ⟨v_21, e_v_21, l_v_21, u_v_21⟩ := f_6_7 hI r_16
    refine t_get (ci := 5) (v := .int v_21) hB hT (ro_ci r_16 rfl) rfl 7 (by decide) k_216 e_v_21 dX5_serve_115 ?_
    refine lv_if_eq (tgt := 124) hx hb dX5_serve_118 (by decide) (fun c_22 => ?_) (fun c_22 => ?_)
    · have c_22' : v_21.toInt = 0 := i_eq c_22 rfl (by decide)
      refine lv_iload hx hb dX5_serve_124 (lv_at hl 2 rfl) ?_
      refine lv_if_eq (tgt := 140) hx hb dX5_serve_126 (by decide) (fun c_ => ?_) (fun c_ => absurd (by decide) c_)
      refine lv_iload hx hb dX5_serve_140 (lv_at hl 3 rfl) ?_
      refine lv_if_eq (tgt := 158) hx hb dX5_serve_142 (by decide) (fun c_ => ?_) (fun c_ => absurd (by decide) c_)
      refine lv_iload hx hb dX5_serve_158 (lv_at hl 0 rfl) ?_
      exact t_iret hB hr hT (Nat.le_of_ble_eq_true rfl) (Nat.le_of_ble_eq_true rfl) dX5_serve_160 ⟨r_13, rfl, hI, hE, hM⟩
    · have c_22' : v_21.toInt ≠ 0 := i_ne c_22 rfl (by decide)
      refine lv_bipush (v := (-2)) hx hb dX5_serve_121 (by decide) ?_
      exact t_iret hB hr hT (Nat.le_of_ble_eq_true rfl) (Nat.le_of_ble_eq_true rfl) dX5_serve_123 ⟨(-2), rfl, hI, hE, hM⟩
  · have c_3' : x2.toInt ≠ 0 := i_ne c_3 rfl (by decide)
    refine lv_aload hx hb dX5_serve_12 (lv_at hl 0 rfl) ?_
    refine lv_iconst (v := 0) hx hb dX5_serve_14 (by decide) ?_
    refine t_callV (n := 1) (As := [.int 0]) (rest := []) (ci := 3) hB hT hl.1 (s_isMended l D cI cZ cS cR N0 g hI q_2 0 r_q_2) (ro_ci r_q_2 rfl) rfl k_512 k_60 k_509 k_510 k_511 (by decide +kernel) ⟨(Nat.le_of_ble_eq_true rfl), (Nat.le_of_ble_eq_true rfl)⟩ rfl (Nat.le_of_ble_eq_true rfl) ⟨(Nat.le_of_ble_eq_true rfl), (Nat.le_of_ble_eq_true rfl)⟩ dX5_serve_15 (fun v g_23 H locs hp hT => ?_)
    obtain ⟨r_24, rfl, eg, f_25⟩ := hp
    rw [eg] at hT
    clear eg
    refine W.eq (g2 := F0 m 18 ls [.int r_24]) rfl ?_
    have qc_28 : (0 : Int32).toInt = 0 := (by decide)
    rcases f_25 with rfl | rfl
    · refine W.eq (g2 := F0 m 18 ls [.int 1]) rfl ?_
      refine lv_if_eq (tgt := 25) hx hb dX5_serve_18 (by decide) (fun c_ => absurd c_ (by decide)) (fun c_ => ?_)
      refine lv_iconst (v := 1) hx hb dX5_serve_21 (by decide) ?_
      refine lv_goto (tgt := 26) hx hb dX5_serve_22 (by decide) ?_
      refine lv_istore (lv' := [(5, .int 1), (4, .ref q_2), (0, .ref h), (1, .int n), (2, .int x1), (3, .int x2)]) hx hb dX5_serve_26 hl (by decide) rfl (fun ls hl => ?_)
      refine lv_iload hx hb dX5_serve_28 (lv_at hl 0 rfl) ?_
      refine lv_if_eq (tgt := 46) hx hb dX5_serve_30 (by decide) (fun c_ => absurd c_ (by decide)) (fun c_ => ?_)
      refine lv_aload hx hb dX5_serve_33 (lv_at hl 1 rfl) ?_
      refine lv_iconst (v := 1) hx hb dX5_serve_35 (by decide) ?_
      refine t_callV (n := 1) (As := [.int 1]) (rest := []) (ci := 3) hB hT hl.1 (s_isMended l D cI cZ cS cR N0 g hI q_2 1 r_q_2) (ro_ci r_q_2 rfl) rfl k_512 k_60 k_509 k_510 k_511 (by decide +kernel) ⟨(Nat.le_of_ble_eq_true rfl), (Nat.le_of_ble_eq_true rfl)⟩ rfl (Nat.le_of_ble_eq_true rfl) ⟨(Nat.le_of_ble_eq_true rfl), (Nat.le_of_ble_eq_true rfl)⟩ dX5_serve_36 (fun v g_29 H locs hp hT => ?_)
      obtain ⟨r_30, rfl, eg, f_31⟩ := hp
      rw [eg] at hT
      clear eg
      refine W.eq (g2 := F0 m 39 ls [.int r_30]) rfl ?_
      have qc_34 : (1 : Int32).toInt = 1 := (by decide)
      rcases f_31 with rfl | rfl
      · refine W.eq (g2 := F0 m 39 ls [.int 1]) rfl ?_
        refine lv_if_eq (tgt := 46) hx hb dX5_serve_39 (by decide) (fun c_ => absurd c_ (by decide)) (fun c_ => ?_)
        refine lv_iconst (v := 1) hx hb dX5_serve_42 (by decide) ?_
        refine lv_goto (tgt := 47) hx hb dX5_serve_43 (by decide) ?_
        refine lv_istore (lv' := [(6, .int 1), (5, .int 1), (4, .ref q_2), (0, .ref h), (1, .int n), (2, .int x1), (3, .int x2)]) hx hb dX5_serve_47 hl (by decide) rfl (fun ls hl => ?_)
        refine lv_iload hx hb dX5_serve_49 (lv_at hl 1 rfl) ?_
        refine lv_if_eq (tgt := 63) hx hb dX5_serve_51 (by decide) (fun c_ => absurd c_ (by decide)) (fun c_ => ?_)
        refine lv_aload hx hb dX5_serve_54 (lv_at hl 2 rfl) ?_
        refine lv_iload_n hx hb dX5_serve_56 rfl (lv_at hl 6 rfl) ?_
        refine t_callV (n := 1) (As := [.int x2]) (rest := []) (ci := 3) hB hT hl.1 (s_placeOfKey l D cI cZ cS cR N0 g hI q_2 x2 r_q_2) (ro_ci r_q_2 rfl) rfl k_516 k_60 k_513 k_514 k_515 (by decide +kernel) ⟨(Nat.le_of_ble_eq_true rfl), (Nat.le_of_ble_eq_true rfl)⟩ rfl (Nat.le_of_ble_eq_true rfl) ⟨(Nat.le_of_ble_eq_true rfl), (Nat.le_of_ble_eq_true rfl)⟩ dX5_serve_57 (fun v g_35 H locs hp hT => ?_)
        obtain ⟨r_36, rfl, eg, f_37⟩ := hp
        rw [eg] at hT
        clear eg
        refine W.eq (g2 := F0 m 60 ls [.int r_36]) rfl ?_
        rcases f_37 with rfl | ⟨hw_40, hw_41⟩
        · refine W.eq (g2 := F0 m 60 ls [.int (-1)]) rfl ?_
          refine lv_goto (tgt := 64) hx hb dX5_serve_60 (by decide) ?_
          refine lv_istore (lv' := [(7, .int (-1)), (6, .int 1), (5, .int 1), (4, .ref q_2), (0, .ref h), (1, .int n), (2, .int x1), (3, .int x2)]) hx hb dX5_serve_64 hl (by decide) rfl (fun ls hl => ?_)
          refine lv_iload hx hb dX5_serve_66 (lv_at hl 0 rfl) ?_
          refine lv_iconst (v := (-1)) hx hb dX5_serve_68 (by decide) ?_
          refine lv_icmp_eq (tgt := 81) hx hb dX5_serve_69 (by decide) (fun c_ => ?_) (fun c_ => absurd (by decide) c_)
          refine lv_iload hx hb dX5_serve_81 (lv_at hl 1 rfl) ?_
          refine lv_if_eq (tgt := 98) hx hb dX5_serve_83 (by decide) (fun c_ => absurd c_ (by decide)) (fun c_ => ?_)
          refine lv_aload hx hb dX5_serve_86 (lv_at hl 3 rfl) ?_
          refine lv_iload_n hx hb dX5_serve_88 rfl (lv_at hl 7 rfl) ?_
          refine lv_iload_n hx hb dX5_serve_89 rfl (lv_at hl 6 rfl) ?_
          refine lv_iconst (v := 0) hx hb dX5_serve_90 (by decide) ?_
          refine lv_aload_n hx hb dX5_serve_91 rfl (lv_at hl 4 rfl) ?_
          obtain ⟨v_42, e_v_42⟩ := f_6_2 hI r_h
          refine t_get (ci := 5) (v := .int v_42) hB hT (ro_ci r_h rfl) rfl 2 (by decide) k_205 e_v_42 dX5_serve_92 ?_
          refine t_callV (n := 4) (As := [.int x2, .int x1, .int 0, .int v_42]) (rest := []) (ci := 3) hB hT hl.1 (s_keep l D cI cZ cS cR N0 g hI q_2 x2 x1 0 v_42 r_q_2) (ro_ci r_q_2 rfl) rfl k_524 k_60 k_521 k_522 k_523 (by decide +kernel) ⟨(Nat.le_of_ble_eq_true rfl), (Nat.le_of_ble_eq_true rfl)⟩ rfl (Nat.le_of_ble_eq_true rfl) ⟨(Nat.le_of_ble_eq_true rfl), (Nat.le_of_ble_eq_true rfl)⟩ dX5_serve_95 (fun v g_43 H locs hp hT => ?_)
          obtain ⟨rfl, hI, x_45, m_44⟩ := hp
          have hM : Sm md_s_serve1 g g_43 := hM.tr hE (m_44.mo (fun r k h => mdle_s_serve1_s_keep h))
          have hE : Ex g g_43 := hE.tr x_45
          have r_46 : g_43.1 h = 6 := (Ex.r x_45 r_h (by decide))
          have r_47 : g_43.1 v_1 = 41 := (Ex.r x_45 r_v_1 (by decide))
          have r_48 : g_43.1 q_2 = 4 := (Ex.r x_45 r_q_2 (by decide))
          have n_49 : g_43.2.2.1 v_1 = 6 := (Ex.n x_45 r_v_1 (by decide) n_v_1)
          have kn_50 : g_43.2.1 h 0 = .ref v_1 := (Sm.v m_44 r_h (by decide) rfl e_v_1)
          have kn_51 : g_43.2.1 h 2 = .int v_42 := (Sm.v m_44 r_h (by decide) rfl e_v_42)
          refine W.eq (g2 := F0 m 98 ls []) rfl ?_
          refine lv_aload hx hb dX5_serve_98 (lv_at hl 3 rfl) ?_
          refine lv_iload_n hx hb dX5_serve_100 rfl (lv_at hl 6 rfl) ?_
          refine lv_iload_n hx hb dX5_serve_101 rfl (lv_at hl 7 rfl) ?_
          refine t_callV (n := 2) (As := [.int x1, .int x2]) (rest := []) (ci := 3) hB hT hl.1 (s_beginKnown l D cI cZ cS cR N0 g_43 hI q_2 x1 x2 r_48) (ro_ci r_48 rfl) rfl k_529 k_60 k_526 k_527 k_528 (by decide +kernel) ⟨(Nat.le_of_ble_eq_true rfl), (Nat.le_of_ble_eq_true rfl)⟩ rfl (Nat.le_of_ble_eq_true rfl) ⟨(Nat.le_of_ble_eq_true rfl), (Nat.le_of_ble_eq_true rfl)⟩ dX5_serve_102 (fun v g_52 H locs hp hT => ?_)
          obtain ⟨rfl, hI, x_54, m_53⟩ := hp
          have hM : Sm md_s_serve1 g g_52 := hM.tr hE (m_53.mo (fun r k h => mdle_s_serve1_s_beginKnown h))
          have hE : Ex g g_52 := hE.tr x_54
          have r_55 : g_52.1 h = 6 := (Ex.r x_54 r_46 (by decide))
          have r_56 : g_52.1 v_1 = 41 := (Ex.r x_54 r_47 (by decide))
          have r_57 : g_52.1 q_2 = 4 := (Ex.r x_54 r_48 (by decide))
          have n_58 : g_52.2.2.1 v_1 = 6 := (Ex.n x_54 r_47 (by decide) n_49)
          have kn_59 : g_52.2.1 h 0 = .ref v_1 := (Sm.v m_53 r_46 (by decide) rfl kn_50)
          have kn_60 : g_52.2.1 h 2 = .int v_42 := (Sm.v m_53 r_46 (by decide) rfl kn_51)
          refine W.eq (g2 := F0 m 105 ls []) rfl ?_
          refine lv_aload_n hx hb dX5_serve_105 rfl (lv_at hl 4 rfl) ?_
          refine lv_iload_n hx hb dX5_serve_106 rfl (lv_at hl 5 rfl) ?_
          refine lv_iload_n hx hb dX5_serve_107 rfl (lv_at hl 6 rfl) ?_
          refine lv_iload_n hx hb dX5_serve_108 rfl (lv_at hl 7 rfl) ?_
          refine t_callV (n := 3) (As := [.int n, .int x1, .int x2]) (rest := []) (ci := 5) hB hT hl.1 (s_runActs1 l D cI cZ cS cR N0 g_52 hI h n x1 x2 r_55 (by omega) (by omega)) (ro_ci r_55 rfl) rfl k_534 k_59 k_531 k_533 k_13 (by decide +kernel) ⟨(Nat.le_of_ble_eq_true rfl), (Nat.le_of_ble_eq_true rfl)⟩ rfl (Nat.le_of_ble_eq_true rfl) ⟨(Nat.le_of_ble_eq_true rfl), (Nat.le_of_ble_eq_true rfl)⟩ dX5_serve_109 (fun v g_61 H locs hp hT => ?_)
          obtain ⟨r_62, rfl, hI, x_64, m_63⟩ := hp
          have hM : Sm md_s_serve1 g g_61 := hM.tr hE (m_63.mo (fun r k h => mdle_s_serve1_s_runActs1 h))
          have hE : Ex g g_61 := hE.tr x_64
          have r_65 : g_61.1 h = 6 := (Ex.r x_64 r_55 (by decide))
          have r_66 : g_61.1 v_1 = 41 := (Ex.r x_64 r_56 (by decide))
          have r_67 : g_61.1 q_2 = 4 := (Ex.r x_64 r_57 (by decide))
          have n_68 : g_61.2.2.1 v_1 = 6 := (Ex.n x_64 r_56 (by decide) n_58)
          have kn_69 : g_61.2.1 h 0 = .ref v_1 := (Sm.v m_63 r_55 (by decide) rfl kn_59)
          have kn_70 : g_61.2.1 h 2 = .int v_42 := (Sm.v m_63 r_55 (by decide) rfl kn_60)
          refine W.eq (g2 := F0 m 112 ls [.int r_62]) rfl ?_
          refine lv_istore (lv' := [(8, .int r_62), (7, .int (-1)), (6, .int 1), (5, .int 1), (4, .ref q_2), (0, .ref h), (1, .int n), (2, .int x1), (3, .int x2)]) hx hb dX5_serve_112 hl (by decide) rfl (fun ls hl => ?_)
          refine lv_aload_n hx hb dX5_serve_114 rfl (lv_at hl 5 rfl) ?_
          obtain ⟨v_71, e_v_71, l_v_71, u_v_71⟩ := f_6_7 hI r_65
          refine t_get (ci := 5) (v := .int v_71) hB hT (ro_ci r_65 rfl) rfl 7 (by decide) k_216 e_v_71 dX5_serve_115 ?_
          refine lv_if_eq (tgt := 124) hx hb dX5_serve_118 (by decide) (fun c_72 => ?_) (fun c_72 => ?_)
          · have c_72' : v_71.toInt = 0 := i_eq c_72 rfl (by decide)
            refine lv_iload hx hb dX5_serve_124 (lv_at hl 2 rfl) ?_
            refine lv_if_eq (tgt := 140) hx hb dX5_serve_126 (by decide) (fun c_ => absurd c_ (by decide)) (fun c_ => ?_)
            refine lv_aload hx hb dX5_serve_129 (lv_at hl 4 rfl) ?_
            refine lv_iload_n hx hb dX5_serve_131 rfl (lv_at hl 8 rfl) ?_
            refine lv_iload hx hb dX5_serve_132 (lv_at hl 0 rfl) ?_
            refine t_callV (n := 2) (As := [.int x2, .int r_62]) (rest := []) (ci := 3) hB hT hl.1 (s_answerNewest l D cI cZ cS cR N0 g_61 hI q_2 x2 r_62 r_67) (ro_ci r_67 rfl) rfl k_554 k_60 k_551 k_552 k_553 (by decide +kernel) ⟨(Nat.le_of_ble_eq_true rfl), (Nat.le_of_ble_eq_true rfl)⟩ rfl (Nat.le_of_ble_eq_true rfl) ⟨(Nat.le_of_ble_eq_true rfl), (Nat.le_of_ble_eq_true rfl)⟩ dX5_serve_134 (fun v g_73 H locs hp hT => ?_)
            obtain ⟨rfl, hI, x_75, m_74⟩ := hp
            have hM : Sm md_s_serve1 g g_73 := hM.tr hE (m_74.mo (fun r k h => mdle_s_serve1_s_answerNewest h))
            have hE : Ex g g_73 := hE.tr x_75
            have r_76 : g_73.1 h = 6 := (Ex.r x_75 r_65 (by decide))
            have r_77 : g_73.1 v_1 = 41 := (Ex.r x_75 r_66 (by decide))
            have r_78 : g_73.1 q_2 = 4 := (Ex.r x_75 r_67 (by decide))
            have n_79 : g_73.2.2.1 v_1 = 6 := (Ex.n x_75 r_66 (by decide) n_68)
            have kn_80 : g_73.2.1 h 0 = .ref v_1 := (Sm.v m_74 r_65 (by decide) rfl kn_69)
            have kn_81 : g_73.2.1 h 2 = .int v_42 := (Sm.v m_74 r_65 (by decide) rfl kn_70)
            have kn_82 : g_73.2.1 h 7 = .int v_71 := (Sm.v m_74 r_65 (by decide) rfl e_v_71)
            refine W.eq (g2 := F0 m 137 ls []) rfl ?_
            refine lv_goto (tgt := 158) hx hb dX5_serve_137 (by decide) ?_
            refine lv_iload hx hb dX5_serve_158 (lv_at hl 0 rfl) ?_
            exact t_iret hB hr hT (Nat.le_of_ble_eq_true rfl) (Nat.le_of_ble_eq_true rfl) dX5_serve_160 ⟨r_62, rfl, hI, hE, hM⟩
          · have c_72' : v_71.toInt ≠ 0 := i_ne c_72 rfl (by decide)
            refine lv_bipush (v := (-2)) hx hb dX5_serve_121 (by decide) ?_
            exact t_iret hB hr hT (Nat.le_of_ble_eq_true rfl) (Nat.le_of_ble_eq_true rfl) dX5_serve_123 ⟨(-2), rfl, hI, hE, hM⟩
        · refine W.eq (g2 := F0 m 60 ls [.int r_36]) rfl ?_
          refine lv_goto (tgt := 64) hx hb dX5_serve_60 (by decide) ?_
          refine lv_istore (lv' := [(7, .int r_36), (6, .int 1), (5, .int 1), (4, .ref q_2), (0, .ref h), (1, .int n), (2, .int x1), (3, .int x2)]) hx hb dX5_serve_64 hl (by decide) rfl (fun ls hl => ?_)
          refine lv_iload hx hb dX5_serve_66 (lv_at hl 0 rfl) ?_
          refine lv_iconst (v := (-1)) hx hb dX5_serve_68 (by decide) ?_
          refine lv_icmp_eq (tgt := 81) hx hb dX5_serve_69 (by decide) (fun c_83 => ?_) (fun c_83 => ?_)
          · have c_83' : r_36.toInt = (-1) := i_eq c_83 rfl (by decide)
            exact absurd c_83' (by omega)
          · have c_83' : r_36.toInt ≠ (-1) := i_ne c_83 rfl (by decide)
            refine lv_aload hx hb dX5_serve_72 (lv_at hl 3 rfl) ?_
            refine lv_iload hx hb dX5_serve_74 (lv_at hl 0 rfl) ?_
            refine lv_iload_n hx hb dX5_serve_76 rfl (lv_at hl 6 rfl) ?_
            refine t_callV (n := 2) (As := [.int r_36, .int x1]) (rest := []) (ci := 3) hB hT hl.1 (s_keptAnswer l D cI cZ cS cR N0 g hI q_2 r_36 x1 r_q_2 (by omega) (by omega)) (ro_ci r_q_2 rfl) rfl k_520 k_60 k_517 k_518 k_519 (by decide +kernel) ⟨(Nat.le_of_ble_eq_true rfl), (Nat.le_of_ble_eq_true rfl)⟩ rfl (Nat.le_of_ble_eq_true rfl) ⟨(Nat.le_of_ble_eq_true rfl), (Nat.le_of_ble_eq_true rfl)⟩ dX5_serve_77 (fun v g_84 H locs hp hT => ?_)
            obtain ⟨r_85, rfl, eg⟩ := hp
            rw [eg] at hT
            clear eg
            refine W.eq (g2 := F0 m 80 ls [.int r_85]) rfl ?_
            exact t_iret hB hr hT (Nat.le_of_ble_eq_true rfl) (Nat.le_of_ble_eq_true rfl) dX5_serve_80 ⟨r_85, rfl, hI, hE, hM⟩
      · refine W.eq (g2 := F0 m 39 ls [.int 0]) rfl ?_
        refine lv_if_eq (tgt := 46) hx hb dX5_serve_39 (by decide) (fun c_ => ?_) (fun c_ => absurd (by decide) c_)
        refine lv_iconst (v := 0) hx hb dX5_serve_46 (by decide) ?_
        refine lv_istore (lv' := [(6, .int 0), (5, .int 1), (4, .ref q_2), (0, .ref h), (1, .int n), (2, .int x1), (3, .int x2)]) hx hb dX5_serve_47 hl (by decide) rfl (fun ls hl => ?_)
        refine lv_iload hx hb dX5_serve_49 (lv_at hl 1 rfl) ?_
        refine lv_if_eq (tgt := 63) hx hb dX5_serve_51 (by decide) (fun c_ => absurd c_ (by decide)) (fun c_ => ?_)
        refine lv_aload hx hb dX5_serve_54 (lv_at hl 2 rfl) ?_
        refine lv_iload_n hx hb dX5_serve_56 rfl (lv_at hl 6 rfl) ?_
        refine t_callV (n := 1) (As := [.int x2]) (rest := []) (ci := 3) hB hT hl.1 (s_placeOfKey l D cI cZ cS cR N0 g hI q_2 x2 r_q_2) (ro_ci r_q_2 rfl) rfl k_516 k_60 k_513 k_514 k_515 (by decide +kernel) ⟨(Nat.le_of_ble_eq_true rfl), (Nat.le_of_ble_eq_true rfl)⟩ rfl (Nat.le_of_ble_eq_true rfl) ⟨(Nat.le_of_ble_eq_true rfl), (Nat.le_of_ble_eq_true rfl)⟩ dX5_serve_57 (fun v g_88 H locs hp hT => ?_)
        obtain ⟨r_89, rfl, eg, f_90⟩ := hp
        rw [eg] at hT
        clear eg
        refine W.eq (g2 := F0 m 60 ls [.int r_89]) rfl ?_
        rcases f_90 with rfl | ⟨hw_93, hw_94⟩
        · refine W.eq (g2 := F0 m 60 ls [.int (-1)]) rfl ?_
          refine lv_goto (tgt := 64) hx hb dX5_serve_60 (by decide) ?_
          refine lv_istore (lv' := [(7, .int (-1)), (6, .int 0), (5, .int 1), (4, .ref q_2), (0, .ref h), (1, .int n), (2, .int x1), (3, .int x2)]) hx hb dX5_serve_64 hl (by decide) rfl (fun ls hl => ?_)
          refine lv_iload hx hb dX5_serve_66 (lv_at hl 0 rfl) ?_
          refine lv_iconst (v := (-1)) hx hb dX5_serve_68 (by decide) ?_
          refine lv_icmp_eq (tgt := 81) hx hb dX5_serve_69 (by decide) (fun c_ => ?_) (fun c_ => absurd (by decide) c_)
          refine lv_iload hx hb dX5_serve_81 (lv_at hl 1 rfl) ?_
          refine lv_if_eq (tgt := 98) hx hb dX5_serve_83 (by decide) (fun c_ => ?_) (fun c_ => absurd (by decide) c_)
          refine lv_aload hx hb dX5_serve_98 (lv_at hl 3 rfl) ?_
          refine lv_iload_n hx hb dX5_serve_100 rfl (lv_at hl 6 rfl) ?_
          refine lv_iload_n hx hb dX5_serve_101 rfl (lv_at hl 7 rfl) ?_
          refine t_callV (n := 2) (As := [.int x1, .int x2]) (rest := []) (ci := 3) hB hT hl.1 (s_beginKnown l D cI cZ cS cR N0 g hI q_2 x1 x2 r_q_2) (ro_ci r_q_2 rfl) rfl k_529 k_60 k_526 k_527 k_528 (by decide +kernel) ⟨(Nat.le_of_ble_eq_true rfl), (Nat.le_of_ble_eq_true rfl)⟩ rfl (Nat.le_of_ble_eq_true rfl) ⟨(Nat.le_of_ble_eq_true rfl), (Nat.le_of_ble_eq_true rfl)⟩ dX5_serve_102 (fun v g_95 H locs hp hT => ?_)
          obtain ⟨rfl, hI, x_97, m_96⟩ := hp
          have hM : Sm md_s_serve1 g g_95 := hM.tr hE (m_96.mo (fun r k h => mdle_s_serve1_s_beginKnown h))
          have hE : Ex g g_95 := hE.tr x_97
          have r_98 : g_95.1 h = 6 := (Ex.r x_97 r_h (by decide))
          have r_99 : g_95.1 v_1 = 41 := (Ex.r x_97 r_v_1 (by decide))
          have r_100 : g_95.1 q_2 = 4 := (Ex.r x_97 r_q_2 (by decide))
          have n_101 : g_95.2.2.1 v_1 = 6 := (Ex.n x_97 r_v_1 (by decide) n_v_1)
          have kn_102 : g_95.2.1 h 0 = .ref v_1 := (Sm.v m_96 r_h (by decide) rfl e_v_1)
          refine W.eq (g2 := F0 m 105 ls []) rfl ?_
          refine lv_aload_n hx hb dX5_serve_105 rfl (lv_at hl 4 rfl) ?_
          refine lv_iload_n hx hb dX5_serve_106 rfl (lv_at hl 5 rfl) ?_
          refine lv_iload_n hx hb dX5_serve_107 rfl (lv_at hl 6 rfl) ?_
          refine lv_iload_n hx hb dX5_serve_108 rfl (lv_at hl 7 rfl) ?_
          refine t_callV (n := 3) (As := [.int n, .int x1, .int x2]) (rest := []) (ci := 5) hB hT hl.1 (s_runActs1 l D cI cZ cS cR N0 g_95 hI h n x1 x2 r_98 (by omega) (by omega)) (ro_ci r_98 rfl) rfl k_534 k_59 k_531 k_533 k_13 (by decide +kernel) ⟨(Nat.le_of_ble_eq_true rfl), (Nat.le_of_ble_eq_true rfl)⟩ rfl (Nat.le_of_ble_eq_true rfl) ⟨(Nat.le_of_ble_eq_true rfl), (Nat.le_of_ble_eq_true rfl)⟩ dX5_serve_109 (fun v g_103 H locs hp hT => ?_)
          obtain ⟨r_104, rfl, hI, x_106, m_105⟩ := hp
          have hM : Sm md_s_serve1 g g_103 := hM.tr hE (m_105.mo (fun r k h => mdle_s_serve1_s_runActs1 h))
          have hE : Ex g g_103 := hE.tr x_106
          have r_107 : g_103.1 h = 6 := (Ex.r x_106 r_98 (by decide))
          have r_108 : g_103.1 v_1 = 41 := (Ex.r x_106 r_99 (by decide))
          have r_109 : g_103.1 q_2 = 4 := (Ex.r x_106 r_100 (by decide))
          have n_110 : g_103.2.2.1 v_1 = 6 := (Ex.n x_106 r_99 (by decide) n_101)
          have kn_111 : g_103.2.1 h 0 = .ref v_1 := (Sm.v m_105 r_98 (by decide) rfl kn_102)
          refine W.eq (g2 := F0 m 112 ls [.int r_104]) rfl ?_
          refine lv_istore (lv' := [(8, .int r_104), (7, .int (-1)), (6, .int 0), (5, .int 1), (4, .ref q_2), (0, .ref h), (1, .int n), (2, .int x1), (3, .int x2)]) hx hb dX5_serve_112 hl (by decide) rfl (fun ls hl => ?_)
          refine lv_aload_n hx hb dX5_serve_114 rfl (lv_at hl 5 rfl) ?_
          obtain ⟨v_112, e_v_112, l_v_112, u_v_112⟩ := f_6_7 hI r_107
          refine t_get (ci := 5) (v := .int v_112) hB hT (ro_ci r_107 rfl) rfl 7 (by decide) k_216 e_v_112 dX5_serve_115 ?_
          refine lv_if_eq (tgt := 124) hx hb dX5_serve_118 (by decide) (fun c_113 => ?_) (fun c_113 => ?_)
          · have c_113' : v_112.toInt = 0 := i_eq c_113 rfl (by decide)
            refine lv_iload hx hb dX5_serve_124 (lv_at hl 2 rfl) ?_
            refine lv_if_eq (tgt := 140) hx hb dX5_serve_126 (by decide) (fun c_ => ?_) (fun c_ => absurd (by decide) c_)
            refine lv_iload hx hb dX5_serve_140 (lv_at hl 3 rfl) ?_
            refine lv_if_eq (tgt := 158) hx hb dX5_serve_142 (by decide) (fun c_ => absurd c_ (by decide)) (fun c_ => ?_)
            refine lv_aload hx hb dX5_serve_145 (lv_at hl 4 rfl) ?_
            refine lv_iload_n hx hb dX5_serve_147 rfl (lv_at hl 8 rfl) ?_
            refine lv_iload_n hx hb dX5_serve_148 rfl (lv_at hl 7 rfl) ?_
            refine lv_iload hx hb dX5_serve_149 (lv_at hl 0 rfl) ?_
            refine lv_aload_n hx hb dX5_serve_151 rfl (lv_at hl 5 rfl) ?_
            obtain ⟨v_114, e_v_114⟩ := f_6_2 hI r_107
            refine t_get (ci := 5) (v := .int v_114) hB hT (ro_ci r_107 rfl) rfl 2 (by decide) k_205 e_v_114 dX5_serve_152 ?_
            refine t_callV (n := 4) (As := [.int x2, .int x1, .int r_104, .int v_114]) (rest := []) (ci := 3) hB hT hl.1 (s_keep l D cI cZ cS cR N0 g_103 hI q_2 x2 x1 r_104 v_114 r_109) (ro_ci r_109 rfl) rfl k_524 k_60 k_521 k_522 k_523 (by decide +kernel) ⟨(Nat.le_of_ble_eq_true rfl), (Nat.le_of_ble_eq_true rfl)⟩ rfl (Nat.le_of_ble_eq_true rfl) ⟨(Nat.le_of_ble_eq_true rfl), (Nat.le_of_ble_eq_true rfl)⟩ dX5_serve_155 (fun v g_115 H locs hp hT => ?_)
            obtain ⟨rfl, hI, x_117, m_116⟩ := hp
            have hM : Sm md_s_serve1 g g_115 := hM.tr hE (m_116.mo (fun r k h => mdle_s_serve1_s_keep h))
            have hE : Ex g g_115 := hE.tr x_117
            have r_118 : g_115.1 h = 6 := (Ex.r x_117 r_107 (by decide))
            have r_119 : g_115.1 v_1 = 41 := (Ex.r x_117 r_108 (by decide))
            have r_120 : g_115.1 q_2 = 4 := (Ex.r x_117 r_109 (by decide))
            have n_121 : g_115.2.2.1 v_1 = 6 := (Ex.n x_117 r_108 (by decide) n_110)
            have kn_122 : g_115.2.1 h 0 = .ref v_1 := (Sm.v m_116 r_107 (by decide) rfl kn_111)
            have kn_123 : g_115.2.1 h 7 = .int v_112 := (Sm.v m_116 r_107 (by decide) rfl e_v_112)
            have kn_124 : g_115.2.1 h 2 = .int v_114 := (Sm.v m_116 r_107 (by decide) rfl e_v_114)
            refine W.eq (g2 := F0 m 158 ls []) rfl ?_
            refine lv_iload hx hb dX5_serve_158 (lv_at hl 0 rfl) ?_
            exact t_iret hB hr hT (Nat.le_of_ble_eq_true rfl) (Nat.le_of_ble_eq_true rfl) dX5_serve_160 ⟨r_104, rfl, hI, hE, hM⟩
          · have c_113' : v_112.toInt ≠ 0 := i_ne c_113 rfl (by decide)
            refine lv_bipush (v := (-2)) hx hb dX5_serve_121 (by decide) ?_
            exact t_iret hB hr hT (Nat.le_of_ble_eq_true rfl) (Nat.le_of_ble_eq_true rfl) dX5_serve_123 ⟨(-2), rfl, hI, hE, hM⟩
        · refine W.eq (g2 := F0 m 60 ls [.int r_89]) rfl ?_
          refine lv_goto (tgt := 64) hx hb dX5_serve_60 (by decide) ?_
          refine lv_istore (lv' := [(7, .int r_89), (6, .int 0), (5, .int 1), (4, .ref q_2), (0, .ref h), (1, .int n), (2, .int x1), (3, .int x2)]) hx hb dX5_serve_64 hl (by decide) rfl (fun ls hl => ?_)
          refine lv_iload hx hb dX5_serve_66 (lv_at hl 0 rfl) ?_
          refine lv_iconst (v := (-1)) hx hb dX5_serve_68 (by decide) ?_
          refine lv_icmp_eq (tgt := 81) hx hb dX5_serve_69 (by decide) (fun c_125 => ?_) (fun c_125 => ?_)
          · have c_125' : r_89.toInt = (-1) := i_eq c_125 rfl (by decide)
            exact absurd c_125' (by omega)
          · have c_125' : r_89.toInt ≠ (-1) := i_ne c_125 rfl (by decide)
            refine lv_aload hx hb dX5_serve_72 (lv_at hl 3 rfl) ?_
            refine lv_iload hx hb dX5_serve_74 (lv_at hl 0 rfl) ?_
            refine lv_iload_n hx hb dX5_serve_76 rfl (lv_at hl 6 rfl) ?_
            refine t_callV (n := 2) (As := [.int r_89, .int x1]) (rest := []) (ci := 3) hB hT hl.1 (s_keptAnswer l D cI cZ cS cR N0 g hI q_2 r_89 x1 r_q_2 (by omega) (by omega)) (ro_ci r_q_2 rfl) rfl k_520 k_60 k_517 k_518 k_519 (by decide +kernel) ⟨(Nat.le_of_ble_eq_true rfl), (Nat.le_of_ble_eq_true rfl)⟩ rfl (Nat.le_of_ble_eq_true rfl) ⟨(Nat.le_of_ble_eq_true rfl), (Nat.le_of_ble_eq_true rfl)⟩ dX5_serve_77 (fun v g_126 H locs hp hT => ?_)
            obtain ⟨r_127, rfl, eg⟩ := hp
            rw [eg] at hT
            clear eg
            refine W.eq (g2 := F0 m 80 ls [.int r_127]) rfl ?_
            exact t_iret hB hr hT (Nat.le_of_ble_eq_true rfl) (Nat.le_of_ble_eq_true rfl) dX5_serve_80 ⟨r_127, rfl, hI, hE, hM⟩
    · refine W.eq (g2 := F0 m 18 ls [.int 0]) rfl ?_
      refine lv_if_eq (tgt := 25) hx hb dX5_serve_18 (by decide) (fun c_ => ?_) (fun c_ => absurd (by decide) c_)
      refine lv_iconst (v := 0) hx hb dX5_serve_25 (by decide) ?_
      refine lv_istore (lv' := [(5, .int 0), (4, .ref q_2), (0, .ref h), (1, .int n), (2, .int x1), (3, .int x2)]) hx hb dX5_serve_26 hl (by decide) rfl (fun ls hl => ?_)
      refine lv_iload hx hb dX5_serve_28 (lv_at hl 0 rfl) ?_
      refine lv_if_eq (tgt := 46) hx hb dX5_serve_30 (by decide) (fun c_ => ?_) (fun c_ => absurd (by decide) c_)
      refine lv_iconst (v := 0) hx hb dX5_serve_46 (by decide) ?_
      refine lv_istore (lv' := [(6, .int 0), (5, .int 0), (4, .ref q_2), (0, .ref h), (1, .int n), (2, .int x1), (3, .int x2)]) hx hb dX5_serve_47 hl (by decide) rfl (fun ls hl => ?_)
      refine lv_iload hx hb dX5_serve_49 (lv_at hl 1 rfl) ?_
      refine lv_if_eq (tgt := 63) hx hb dX5_serve_51 (by decide) (fun c_ => ?_) (fun c_ => absurd (by decide) c_)
      refine lv_iconst (v := (-1)) hx hb dX5_serve_63 (by decide) ?_
      refine lv_istore (lv' := [(7, .int (-1)), (6, .int 0), (5, .int 0), (4, .ref q_2), (0, .ref h), (1, .int n), (2, .int x1), (3, .int x2)]) hx hb dX5_serve_64 hl (by decide) rfl (fun ls hl => ?_)
      refine lv_iload hx hb dX5_serve_66 (lv_at hl 0 rfl) ?_
      refine lv_iconst (v := (-1)) hx hb dX5_serve_68 (by decide) ?_
      refine lv_icmp_eq (tgt := 81) hx hb dX5_serve_69 (by decide) (fun c_ => ?_) (fun c_ => absurd (by decide) c_)
      refine lv_iload hx hb dX5_serve_81 (lv_at hl 1 rfl) ?_
      refine lv_if_eq (tgt := 98) hx hb dX5_serve_83 (by decide) (fun c_ => ?_) (fun c_ => absurd (by decide) c_)
      refine lv_aload hx hb dX5_serve_98 (lv_at hl 3 rfl) ?_
      refine lv_iload_n hx hb dX5_serve_100 rfl (lv_at hl 6 rfl) ?_
      refine lv_iload_n hx hb dX5_serve_101 rfl (lv_at hl 7 rfl) ?_
      refine t_callV (n := 2) (As := [.int x1, .int x2]) (rest := []) (ci := 3) hB hT hl.1 (s_beginKnown l D cI cZ cS cR N0 g hI q_2 x1 x2 r_q_2) (ro_ci r_q_2 rfl) rfl k_529 k_60 k_526 k_527 k_528 (by decide +kernel) ⟨(Nat.le_of_ble_eq_true rfl), (Nat.le_of_ble_eq_true rfl)⟩ rfl (Nat.le_of_ble_eq_true rfl) ⟨(Nat.le_of_ble_eq_true rfl), (Nat.le_of_ble_eq_true rfl)⟩ dX5_serve_102 (fun v g_130 H locs hp hT => ?_)
      obtain ⟨rfl, hI, x_132, m_131⟩ := hp
      have hM : Sm md_s_serve1 g g_130 := hM.tr hE (m_131.mo (fun r k h => mdle_s_serve1_s_beginKnown h))
      have hE : Ex g g_130 := hE.tr x_132
      have r_133 : g_130.1 h = 6 := (Ex.r x_132 r_h (by decide))
      have r_134 : g_130.1 v_1 = 41 := (Ex.r x_132 r_v_1 (by decide))
      have r_135 : g_130.1 q_2 = 4 := (Ex.r x_132 r_q_2 (by decide))
      have n_136 : g_130.2.2.1 v_1 = 6 := (Ex.n x_132 r_v_1 (by decide) n_v_1)
      have kn_137 : g_130.2.1 h 0 = .ref v_1 := (Sm.v m_131 r_h (by decide) rfl e_v_1)
      refine W.eq (g2 := F0 m 105 ls []) rfl ?_
      refine lv_aload_n hx hb dX5_serve_105 rfl (lv_at hl 4 rfl) ?_
      refine lv_iload_n hx hb dX5_serve_106 rfl (lv_at hl 5 rfl) ?_
      refine lv_iload_n hx hb dX5_serve_107 rfl (lv_at hl 6 rfl) ?_
      refine lv_iload_n hx hb dX5_serve_108 rfl (lv_at hl 7 rfl) ?_
      refine t_callV (n := 3) (As := [.int n, .int x1, .int x2]) (rest := []) (ci := 5) hB hT hl.1 (s_runActs1 l D cI cZ cS cR N0 g_130 hI h n x1 x2 r_133 (by omega) (by omega)) (ro_ci r_133 rfl) rfl k_534 k_59 k_531 k_533 k_13 (by decide +kernel) ⟨(Nat.le_of_ble_eq_true rfl), (Nat.le_of_ble_eq_true rfl)⟩ rfl (Nat.le_of_ble_eq_true rfl) ⟨(Nat.le_of_ble_eq_true rfl), (Nat.le_of_ble_eq_true rfl)⟩ dX5_serve_109 (fun v g_138 H locs hp hT => ?_)
      obtain ⟨r_139, rfl, hI, x_141, m_140⟩ := hp
      have hM : Sm md_s_serve1 g g_138 := hM.tr hE (m_140.mo (fun r k h => mdle_s_serve1_s_runActs1 h))
      have hE : Ex g g_138 := hE.tr x_141
      have r_142 : g_138.1 h = 6 := (Ex.r x_141 r_133 (by decide))
      have r_143 : g_138.1 v_1 = 41 := (Ex.r x_141 r_134 (by decide))
      have r_144 : g_138.1 q_2 = 4 := (Ex.r x_141 r_135 (by decide))
      have n_145 : g_138.2.2.1 v_1 = 6 := (Ex.n x_141 r_134 (by decide) n_136)
      have kn_146 : g_138.2.1 h 0 = .ref v_1 := (Sm.v m_140 r_133 (by decide) rfl kn_137)
      refine W.eq (g2 := F0 m 112 ls [.int r_139]) rfl ?_
      refine lv_istore (lv' := [(8, .int r_139), (7, .int (-1)), (6, .int 0), (5, .int 0), (4, .ref q_2), (0, .ref h), (1, .int n), (2, .int x1), (3, .int x2)]) hx hb dX5_serve_112 hl (by decide) rfl (fun ls hl => ?_)
      refine lv_aload_n hx hb dX5_serve_114 rfl (lv_at hl 5 rfl) ?_
      obtain ⟨v_147, e_v_147, l_v_147, u_v_147⟩ := f_6_7 hI r_142
      refine t_get (ci := 5) (v := .int v_147) hB hT (ro_ci r_142 rfl) rfl 7 (by decide) k_216 e_v_147 dX5_serve_115 ?_
      refine lv_if_eq (tgt := 124) hx hb dX5_serve_118 (by decide) (fun c_148 => ?_) (fun c_148 => ?_)
      · have c_148' : v_147.toInt = 0 := i_eq c_148 rfl (by decide)
        refine lv_iload hx hb dX5_serve_124 (lv_at hl 2 rfl) ?_
        refine lv_if_eq (tgt := 140) hx hb dX5_serve_126 (by decide) (fun c_ => ?_) (fun c_ => absurd (by decide) c_)
        refine lv_iload hx hb dX5_serve_140 (lv_at hl 3 rfl) ?_
        refine lv_if_eq (tgt := 158) hx hb dX5_serve_142 (by decide) (fun c_ => ?_) (fun c_ => absurd (by decide) c_)
        refine lv_iload hx hb dX5_serve_158 (lv_at hl 0 rfl) ?_
        exact t_iret hB hr hT (Nat.le_of_ble_eq_true rfl) (Nat.le_of_ble_eq_true rfl) dX5_serve_160 ⟨r_139, rfl, hI, hE, hM⟩
      · have c_148' : v_147.toInt ≠ 0 := i_ne c_148 rfl (by decide)
        refine lv_bipush (v := (-2)) hx hb dX5_serve_121 (by decide) ?_
        exact t_iret hB hr hT (Nat.le_of_ble_eq_true rfl) (Nat.le_of_ble_eq_true rfl) dX5_serve_123 ⟨(-2), rfl, hI, hE, hM⟩
abbrev md_s_runActs2 : Nat → Nat → Bool := mdf [(4, 2), (4, 5), (4, 10), (4, 11), (4, 14), (6, 4), (6, 5), (6, 7), (50, 99)]
theorem mdle_s_runActs2_s_isHeldBack {r k : Nat} (h : md_s_runActs2 r k = false) : md_s_isHeldBack r k = false := mdf_le (by decide +kernel) h
theorem mdle_s_runActs2_s_perform {r k : Nat} (h : md_s_runActs2 r k = false) : md_s_perform r k = false := mdf_le (by decide +kernel) h
theorem mdle_s_runActs2_s_serve1 {r k : Nat} (h : md_s_runActs2 r k = false) : md_s_serve1 r k = false := mdf_le (by decide +kernel) h
set_option maxHeartbeats 4000000 in
set_option maxRecDepth 100000 in
theorem lt_s_runActs2_a (l : Launch) (D : va_G) (cI cZ cS cR : ClassId) (N0 : NT) (g : GS) (h : Nat) (n : Int32) (x1 : Int32) (x2 : Int32) (r_h : g.1 h = 6) (l_n : 3 ≤ n.toInt) (u_n : n.toInt ≤ 5) {p : Program} {e : Env} {s : State} {m : MethodId} {args : Array Value} {below : List Frame} {meth : Method} {c : Code} (hB : Tz p s m meth c args cX5_runActs 14 RX5 D cI cZ cS cR N0) (hr : meth.sig.returnType = (some .int))    : ∀ (kf : Nat) (g1 : GS) (i : Int32) (j : Int32) (pk : Int32) (po : Int32) (q1 : Nat) (q2 : Nat) (H : Heap) (locs : List Loc) (ls : Array Slot), Tv D cI cZ cS cR N0 s.heap H locs g1 → Inv g1 → Ex g g1 → Sm md_s_runActs2 g g1 → 0 ≤ i.toInt → i.toInt ≤ 8 → 0 ≤ pk.toInt → pk.toInt ≤ 1 → 0 ≤ po.toInt → po.toInt ≤ 1 → g1.1 q1 = 4 → g1.1 q2 = 3 → (8 ≤ i.toInt + kf) → lv_has ls 14 [(9, .int i), (8, .int po), (7, .int j), (6, .int pk), (5, .ref q2), (4, .ref q1), (0, .ref h), (1, .int n), (2, .int x1), (3, .int x2)] → W p l e (rmx 5 0 0) s m args below meth c H locs 0 0 (MQ below (tQ D cI cZ cS cR N0 (fun v g' => ∃ (r : Int32), v = some (.int r) ∧ Inv g' ∧ Ex g g' ∧ Sm md_s_runActs2 g g')) args s 0 0 (fun q => N0.1 ≤ q)) (F0 m 44 ls []) := by
  have hx := hB.1
  have hb := hB.2.1
  intro kf
  induction kf using Nat.strongRecOn with
  | ind kf ih =>
    intro g1 i j pk po q1 q2 H locs ls hT hI hE hM l_i u_i l_pk u_pk l_po u_po r1_q1 r1_q2 hk hl
    have r_1 : g1.1 h = 6 := Ex.r hE r_h (by decide)
    refine lv_iload hx hb dX5_runActs_44 (lv_at hl 0 rfl) ?_
    refine lv_aload hx hb dX5_runActs_46 (lv_at hl 4 rfl) ?_
    obtain ⟨v_2, e_v_2, l_v_2, u_v_2⟩ := f_3_3 hI r1_q2
    refine t_get (ci := 2) (v := .int v_2) hB hT (ro_ci r1_q2 rfl) rfl 3 (by decide) k_133 e_v_2 dX5_runActs_48 ?_
    refine lv_icmp_ge (tgt := 288) hx hb dX5_runActs_51 (by decide) (fun c_3 => ?_) (fun c_3 => ?_)
    · have c_3' : v_2.toInt ≤ i.toInt := i_le c_3 rfl rfl
      refine lv_iload hx hb dX5_runActs_288 (lv_at hl 2 rfl) ?_
      exact t_iret hB hr hT (Nat.le_of_ble_eq_true rfl) (Nat.le_of_ble_eq_true rfl) dX5_runActs_290 ⟨j, rfl, hI, hE, hM⟩
    · have c_3' : i.toInt < v_2.toInt := i_nle c_3 rfl rfl
      refine lv_iload hx hb dX5_runActs_54 (lv_at hl 1 rfl) ?_
      refine lv_if_eq (tgt := 65) hx hb dX5_runActs_56 (by decide) (fun c_4 => ?_) (fun c_4 => ?_)
      · have c_4' : po.toInt = 0 := i_eq c_4 rfl (by decide)
        refine lv_aload_n hx hb dX5_runActs_65 rfl (lv_at hl 6 rfl) ?_
        obtain ⟨v_5, e_v_5⟩ := f_6_5 hI r_1
        refine t_get (ci := 5) (v := .int v_5) hB hT (ro_ci r_1 rfl) rfl 5 (by decide) k_213 e_v_5 dX5_runActs_66 ?_
        refine lv_iconst (v := 1) hx hb dX5_runActs_69 (by decide) ?_
        refine lv_iadd hx hb dX5_runActs_70 ?_
        refine lv_topi (fun z_6 ez_6 => ?_)
        refine lv_aload_n hx hb dX5_runActs_71 rfl (lv_at hl 6 rfl) ?_
        obtain ⟨v_7, e_v_7⟩ := f_6_6 hI r_1
        refine t_get (ci := 5) (v := .int v_7) hB hT (ro_ci r_1 rfl) rfl 6 (by decide) k_215 e_v_7 dX5_runActs_72 ?_
        refine lv_icmp_lt (tgt := 86) hx hb dX5_runActs_75 (by decide) (fun c_8 => ?_) (fun c_8 => ?_)
        · have c_8' : z_6.toInt < v_7.toInt := i_lt c_8 rfl rfl
          refine lv_aload_n hx hb dX5_runActs_86 rfl (lv_at hl 6 rfl) ?_
          refine lv_dup hx hb dX5_runActs_87 rfl ?_
          refine t_get (ci := 5) (v := .int v_5) hB hT (ro_ci r_1 rfl) rfl 5 (by decide) k_213 e_v_5 dX5_runActs_88 ?_
          refine lv_iconst (v := 1) hx hb dX5_runActs_91 (by decide) ?_
          refine lv_iadd hx hb dX5_runActs_92 ?_
          refine lv_topi (fun z_9 ez_9 => ?_)
          refine t_put0 (ci := 5) (v := .int z_9) hB hT (ro_ci r_1 rfl) (ro_n0 r_1 (by decide)) rfl 5 (by decide) k_213 (Or.inl rfl) rfl rfl dX5_runActs_93 (fun H locs hT => ?_)
          have hI : Inv (sF g1 h 5 (.int z_9)) := hI.sF (p_6_5 r_1 (⟨_, rfl⟩))
          have hM : Sm md_s_runActs2 g (sF g1 h 5 (.int z_9)) := hM.tr hE (Sm_sF (by rw [r_1]; rfl))
          have hE : Ex g (sF g1 h 5 (.int z_9)) := hE
          refine lv_aload hx hb dX5_runActs_96 (lv_at hl 4 rfl) ?_
          refine lv_iload hx hb dX5_runActs_98 (lv_at hl 0 rfl) ?_
          refine lv_iload_n hx hb dX5_runActs_100 rfl (lv_at hl 8 rfl) ?_
          refine lv_iload hx hb dX5_runActs_101 (lv_at hl 2 rfl) ?_
          refine t_callV (n := 3) (As := [.int i, .int x1, .int j]) (rest := []) (ci := 2) hB hT hl.1 (s_valueAt l D cI cZ cS cR N0 (sF g1 h 5 (.int z_9)) hI q2 i x1 j r1_q2 (by omega) (by omega)) (ro_ci r1_q2 rfl) rfl k_538 k_61 k_535 k_536 k_537 (by decide +kernel) ⟨(Nat.le_of_ble_eq_true rfl), (Nat.le_of_ble_eq_true rfl)⟩ rfl (Nat.le_of_ble_eq_true rfl) ⟨(Nat.le_of_ble_eq_true rfl), (Nat.le_of_ble_eq_true rfl)⟩ dX5_runActs_103 (fun v g_10 H locs hp hT => ?_)
          obtain ⟨r_11, rfl, eg⟩ := hp
          rw [eg] at hT
          clear eg
          refine W.eq (g2 := F0 m 106 ls [.int r_11]) rfl ?_
          refine lv_istore (lv' := [(10, .int r_11), (9, .int i), (8, .int po), (7, .int j), (6, .int pk), (5, .ref q2), (4, .ref q1), (0, .ref h), (1, .int n), (2, .int x1), (3, .int x2)]) hx hb dX5_runActs_106 hl (by decide) rfl (fun ls hl => ?_)
          refine lv_aload hx hb dX5_runActs_108 (lv_at hl 6 rfl) ?_
          refine lv_iload hx hb dX5_runActs_110 (lv_at hl 1 rfl) ?_
          refine lv_iload hx hb dX5_runActs_112 (lv_at hl 0 rfl) ?_
          refine t_callV (n := 2) (As := [.int i, .int r_11]) (rest := []) (ci := 3) hB hT hl.1 (s_isHeldBack l D cI cZ cS cR N0 (sF g1 h 5 (.int z_9)) hI q1 i r_11 r1_q1 (by omega) (by omega)) (ro_ci r1_q1 rfl) rfl k_542 k_60 k_539 k_540 k_541 (by decide +kernel) ⟨(Nat.le_of_ble_eq_true rfl), (Nat.le_of_ble_eq_true rfl)⟩ rfl (Nat.le_of_ble_eq_true rfl) ⟨(Nat.le_of_ble_eq_true rfl), (Nat.le_of_ble_eq_true rfl)⟩ dX5_runActs_114 (fun v g_14 H locs hp hT => ?_)
          obtain ⟨r_15, rfl, hI, x_18, m_17, f_16⟩ := hp
          have hM : Sm md_s_runActs2 g g_14 := hM.tr hE (m_17.mo (fun r k h => mdle_s_runActs2_s_isHeldBack h))
          have hE : Ex g g_14 := hE.tr x_18
          have r_19 : g_14.1 h = 6 := (Ex.r x_18 r_1 (by decide))
          have r_20 : g_14.1 q1 = 4 := (Ex.r x_18 r1_q1 (by decide))
          have r_21 : g_14.1 q2 = 3 := (Ex.r x_18 r1_q2 (by decide))
          have kn_22 : g_14.2.1 q2 3 = .int v_2 := (Sm.v m_17 r1_q2 (by decide) rfl (sF_k e_v_2 (by decide)))
          have kn_23 : g_14.2.1 h 6 = .int v_7 := (Sm.v m_17 r_1 (by decide) rfl (sF_k e_v_7 (by decide)))
          have kn_24 : g_14.2.1 h 5 = .int z_9 := (Sm.v m_17 r_1 (by decide) rfl sF_eq)
          refine W.eq (g2 := F0 m 117 ls [.int r_15]) rfl ?_
          rcases f_16 with rfl | rfl
          · refine W.eq (g2 := F0 m 117 ls [.int 1]) rfl ?_
            refine lv_if_eq (tgt := 123) hx hb dX5_runActs_117 (by decide) (fun c_ => absurd c_ (by decide)) (fun c_ => ?_)
            refine lv_goto (tgt := 282) hx hb dX5_runActs_120 (by decide) ?_
            obtain ⟨z_25, ez_25⟩ : ∃ z : Int32, z = i + 1 := ⟨_, rfl⟩
            have e_z_25 : z_25.toInt = i.toInt + 1 := i_add ez_25 rfl (by decide) (by omega) (by omega)
            refine lv_iinc (v := z_25) (lv' := [(9, .int z_25), (10, .int r_11), (8, .int po), (7, .int j), (6, .int pk), (5, .ref q2), (4, .ref q1), (0, .ref h), (1, .int n), (2, .int x1), (3, .int x2)]) hx hb dX5_runActs_282 hl (k := 1) rfl (by rw [ez_25]; rfl) (by decide) rfl (fun ls hl => ?_)
            refine lv_goto (tgt := 44) hx hb dX5_runActs_285 (by decide) ?_
            exact ih (kf - 1) (by omega) g_14 z_25 j pk po q1 q2 H locs ls hT hI hE hM (by omega) (by omega) (by omega) (by omega) (by omega) (by omega) r_20 r_21 (by have e0_ : (0 : Int32).toInt = 0 := (by decide); omega) (lv_sub hl [0, 2, 3, 4, 5, 6, 7, 8, 9, 10] rfl)
          · refine W.eq (g2 := F0 m 117 ls [.int 0]) rfl ?_
            refine lv_if_eq (tgt := 123) hx hb dX5_runActs_117 (by decide) (fun c_ => ?_) (fun c_ => absurd (by decide) c_)
            refine lv_aload hx hb dX5_runActs_123 (lv_at hl 5 rfl) ?_
            obtain ⟨v_26, e_v_26, r_v_26, n_v_26⟩ := f_3_0 hI r_21
            refine t_get (ci := 2) (v := .ref v_26) hB hT (ro_ci r_21 rfl) rfl 0 (by decide) k_122 e_v_26 dX5_runActs_125 ?_
            refine lv_iload hx hb dX5_runActs_128 (lv_at hl 1 rfl) ?_
            have i_u_27 : vp_in i 8 := (i_in (n := 8) rfl (by omega) (by omega))
            refine t_iald hB hT (ro_in r_v_26 (by decide)) n_v_26 i_u_27 rfl dX5_runActs_130 ?_
            refine lv_topi (fun u_27 e_u_27 => ?_)
            refine lv_istore (lv' := [(11, .int u_27), (10, .int r_11), (9, .int i), (8, .int po), (7, .int j), (6, .int pk), (5, .ref q2), (4, .ref q1), (0, .ref h), (1, .int n), (2, .int x1), (3, .int x2)]) hx hb dX5_runActs_131 hl (by decide) rfl (fun ls hl => ?_)
            refine lv_aload hx hb dX5_runActs_133 (lv_at hl 6 rfl) ?_
            obtain ⟨v_28, e_v_28, r_v_28, n_v_28⟩ := f_3_1 hI r_21
            refine t_get (ci := 2) (v := .ref v_28) hB hT (ro_ci r_21 rfl) rfl 1 (by decide) k_126 e_v_28 dX5_runActs_135 ?_
            refine lv_iload hx hb dX5_runActs_138 (lv_at hl 2 rfl) ?_
            have i_u_29 : vp_in i 8 := (i_in (n := 8) rfl (by omega) (by omega))
            refine t_iald hB hT (ro_in r_v_28 (by decide)) n_v_28 i_u_29 rfl dX5_runActs_140 ?_
            have c_u_29 := hI.c r_v_28 n_v_28 (i_cl i_u_29)
            refine lv_topi (fun u_29 e_u_29 => ?_)
            obtain ⟨l_u_29, u_u_29⟩ := c_u_29
            rw [← e_u_29] at l_u_29 u_u_29
            refine lv_istore (lv' := [(12, .int u_29), (11, .int u_27), (10, .int r_11), (9, .int i), (8, .int po), (7, .int j), (6, .int pk), (5, .ref q2), (4, .ref q1), (0, .ref h), (1, .int n), (2, .int x1), (3, .int x2)]) hx hb dX5_runActs_141 hl (by decide) rfl (fun ls hl => ?_)
            refine lv_iload hx hb dX5_runActs_143 (lv_at hl 1 rfl) ?_
            refine lv_iconst (v := 5) hx hb dX5_runActs_145 (by decide) ?_
            refine lv_icmp_ne (tgt := 207) hx hb dX5_runActs_146 (by decide) (fun c_30 => ?_) (fun c_30 => ?_)
            · have c_30' : u_27.toInt ≠ 5 := i_ne c_30 rfl (by decide)
              refine lv_iload hx hb dX5_runActs_207 (lv_at hl 1 rfl) ?_
              refine lv_bipush (v := 6) hx hb dX5_runActs_209 (by decide) ?_
              refine lv_icmp_ne (tgt := 242) hx hb dX5_runActs_211 (by decide) (fun c_31 => ?_) (fun c_31 => ?_)
              · have c_31' : u_27.toInt ≠ 6 := i_ne c_31 rfl (by decide)
                refine lv_iload hx hb dX5_runActs_242 (lv_at hl 1 rfl) ?_
                refine lv_bipush (v := 7) hx hb dX5_runActs_244 (by decide) ?_
                refine lv_icmp_ne (tgt := 263) hx hb dX5_runActs_246 (by decide) (fun c_32 => ?_) (fun c_32 => ?_)
                · have c_32' : u_27.toInt ≠ 7 := i_ne c_32 rfl (by decide)
                  refine lv_iload hx hb dX5_runActs_263 (lv_at hl 1 rfl) ?_
                  refine lv_iconst (v := 5) hx hb dX5_runActs_265 (by decide) ?_
                  refine lv_icmp_eq (tgt := 282) hx hb dX5_runActs_266 (by decide) (fun c_33 => ?_) (fun c_33 => ?_)
                  · have c_33' : u_27.toInt = 5 := i_eq c_33 rfl (by decide)
                    obtain ⟨z_34, ez_34⟩ : ∃ z : Int32, z = i + 1 := ⟨_, rfl⟩
                    have e_z_34 : z_34.toInt = i.toInt + 1 := i_add ez_34 rfl (by decide) (by omega) (by omega)
                    refine lv_iinc (v := z_34) (lv' := [(9, .int z_34), (12, .int u_29), (11, .int u_27), (10, .int r_11), (8, .int po), (7, .int j), (6, .int pk), (5, .ref q2), (4, .ref q1), (0, .ref h), (1, .int n), (2, .int x1), (3, .int x2)]) hx hb dX5_runActs_282 hl (k := 3) rfl (by rw [ez_34]; rfl) (by decide) rfl (fun ls hl => ?_)
                    refine lv_goto (tgt := 44) hx hb dX5_runActs_285 (by decide) ?_
                    exact ih (kf - 1) (by omega) g_14 z_34 j pk po q1 q2 H locs ls hT hI hE hM (by omega) (by omega) (by omega) (by omega) (by omega) (by omega) r_20 r_21 (by have e0_ : (0 : Int32).toInt = 0 := (by decide); omega) (lv_sub hl [0, 4, 5, 6, 7, 8, 9, 10, 11, 12] rfl)
                  · have c_33' : u_27.toInt ≠ 5 := i_ne c_33 rfl (by decide)
                    refine lv_aload hx hb dX5_runActs_269 (lv_at hl 8 rfl) ?_
                    refine lv_iload hx hb dX5_runActs_271 (lv_at hl 3 rfl) ?_
                    refine lv_iload hx hb dX5_runActs_273 (lv_at hl 2 rfl) ?_
                    refine lv_iload hx hb dX5_runActs_275 (lv_at hl 5 rfl) ?_
                    refine t_callV (n := 3) (As := [.int i, .int r_11, .int j]) (rest := []) (ci := 3) hB hT hl.1 (s_perform l D cI cZ cS cR N0 g_14 hI q1 i r_11 j r_20 (by omega) (by omega)) (ro_ci r_20 rfl) rfl k_550 k_60 k_547 k_548 k_549 (by decide +kernel) ⟨(Nat.le_of_ble_eq_true rfl), (Nat.le_of_ble_eq_true rfl)⟩ rfl (Nat.le_of_ble_eq_true rfl) ⟨(Nat.le_of_ble_eq_true rfl), (Nat.le_of_ble_eq_true rfl)⟩ dX5_runActs_277 (fun v g_35 H locs hp hT => ?_)
                    obtain ⟨r_36, rfl, hI, x_38, m_37⟩ := hp
                    have hM : Sm md_s_runActs2 g g_35 := hM.tr hE (m_37.mo (fun r k h => mdle_s_runActs2_s_perform h))
                    have hE : Ex g g_35 := hE.tr x_38
                    have r_39 : g_35.1 h = 6 := (Ex.r x_38 r_19 (by decide))
                    have r_40 : g_35.1 q1 = 4 := (Ex.r x_38 r_20 (by decide))
                    have r_41 : g_35.1 q2 = 3 := (Ex.r x_38 r_21 (by decide))
                    have r_42 : g_35.1 v_26 = 68 := (Ex.r x_38 r_v_26 (by decide))
                    have r_43 : g_35.1 v_28 = 69 := (Ex.r x_38 r_v_28 (by decide))
                    have n_44 : g_35.2.2.1 v_26 = 8 := (Ex.n x_38 r_v_26 (by decide) n_v_26)
                    have n_45 : g_35.2.2.1 v_28 = 8 := (Ex.n x_38 r_v_28 (by decide) n_v_28)
                    have kn_46 : g_35.2.1 q2 3 = .int v_2 := (Sm.v m_37 r_21 (by decide) rfl kn_22)
                    have kn_47 : g_35.2.1 h 6 = .int v_7 := (Sm.v m_37 r_19 (by decide) rfl kn_23)
                    have kn_48 : g_35.2.1 h 5 = .int z_9 := (Sm.v m_37 r_19 (by decide) rfl kn_24)
                    have kn_49 : g_35.2.1 q2 0 = .ref v_26 := (Sm.v m_37 r_21 (by decide) rfl e_v_26)
                    have kn_50 : g_35.2.1 q2 1 = .ref v_28 := (Sm.v m_37 r_21 (by decide) rfl e_v_28)
                    have kn_51 : g_35.2.2.2.1 v_26 i.toNatClampNeg = u_27 := (Sm.c m_37 r_v_26 (by decide) rfl e_u_27.symm)
                    have kn_52 : g_35.2.2.2.1 v_28 i.toNatClampNeg = u_29 := (Sm.c m_37 r_v_28 (by decide) rfl e_u_29.symm)
                    refine W.eq (g2 := F0 m 280 ls [.int r_36]) rfl ?_
                    refine lv_istore (lv' := [(7, .int r_36), (12, .int u_29), (11, .int u_27), (10, .int r_11), (9, .int i), (8, .int po), (6, .int pk), (5, .ref q2), (4, .ref q1), (0, .ref h), (1, .int n), (2, .int x1), (3, .int x2)]) hx hb dX5_runActs_280 hl (by decide) rfl (fun ls hl => ?_)
                    obtain ⟨z_53, ez_53⟩ : ∃ z : Int32, z = i + 1 := ⟨_, rfl⟩
                    have e_z_53 : z_53.toInt = i.toInt + 1 := i_add ez_53 rfl (by decide) (by omega) (by omega)
                    refine lv_iinc (v := z_53) (lv' := [(9, .int z_53), (7, .int r_36), (12, .int u_29), (11, .int u_27), (10, .int r_11), (8, .int po), (6, .int pk), (5, .ref q2), (4, .ref q1), (0, .ref h), (1, .int n), (2, .int x1), (3, .int x2)]) hx hb dX5_runActs_282 hl (k := 4) rfl (by rw [ez_53]; rfl) (by decide) rfl (fun ls hl => ?_)
                    refine lv_goto (tgt := 44) hx hb dX5_runActs_285 (by decide) ?_
                    exact ih (kf - 1) (by omega) g_35 z_53 r_36 pk po q1 q2 H locs ls hT hI hE hM (by omega) (by omega) (by omega) (by omega) (by omega) (by omega) r_40 r_41 (by have e0_ : (0 : Int32).toInt = 0 := (by decide); omega) (lv_sub hl [0, 5, 1, 6, 7, 8, 9, 10, 11, 12] rfl)
                · have c_32' : u_27.toInt = 7 := i_eq c_32 rfl (by decide)
                  refine lv_aload hx hb dX5_runActs_249 (lv_at hl 8 rfl) ?_
                  refine lv_iload hx hb dX5_runActs_251 (lv_at hl 3 rfl) ?_
                  refine lv_iload hx hb dX5_runActs_253 (lv_at hl 2 rfl) ?_
                  refine t_callV (n := 2) (As := [.int i, .int r_11]) (rest := []) (ci := 3) hB hT hl.1 (s_passesOver l D cI cZ cS cR N0 g_14 hI q1 i r_11 r_20 (by omega) (by omega)) (ro_ci r_20 rfl) rfl k_546 k_60 k_543 k_544 k_545 (by decide +kernel) ⟨(Nat.le_of_ble_eq_true rfl), (Nat.le_of_ble_eq_true rfl)⟩ rfl (Nat.le_of_ble_eq_true rfl) ⟨(Nat.le_of_ble_eq_true rfl), (Nat.le_of_ble_eq_true rfl)⟩ dX5_runActs_255 (fun v g_54 H locs hp hT => ?_)
                  obtain ⟨r_55, rfl, eg, f_56⟩ := hp
                  rw [eg] at hT
                  clear eg
                  refine W.eq (g2 := F0 m 258 ls [.int r_55]) rfl ?_
                  rcases f_56 with rfl | rfl
                  · refine W.eq (g2 := F0 m 258 ls [.int 1]) rfl ?_
                    refine lv_istore (lv' := [(8, .int 1), (12, .int u_29), (11, .int u_27), (10, .int r_11), (9, .int i), (7, .int j), (6, .int pk), (5, .ref q2), (4, .ref q1), (0, .ref h), (1, .int n), (2, .int x1), (3, .int x2)]) hx hb dX5_runActs_258 hl (by decide) rfl (fun ls hl => ?_)
                    refine lv_goto (tgt := 282) hx hb dX5_runActs_260 (by decide) ?_
                    obtain ⟨z_59, ez_59⟩ : ∃ z : Int32, z = i + 1 := ⟨_, rfl⟩
                    have e_z_59 : z_59.toInt = i.toInt + 1 := i_add ez_59 rfl (by decide) (by omega) (by omega)
                    refine lv_iinc (v := z_59) (lv' := [(9, .int z_59), (8, .int 1), (12, .int u_29), (11, .int u_27), (10, .int r_11), (7, .int j), (6, .int pk), (5, .ref q2), (4, .ref q1), (0, .ref h), (1, .int n), (2, .int x1), (3, .int x2)]) hx hb dX5_runActs_282 hl (k := 4) rfl (by rw [ez_59]; rfl) (by decide) rfl (fun ls hl => ?_)
                    refine lv_goto (tgt := 44) hx hb dX5_runActs_285 (by decide) ?_
                    exact ih (kf - 1) (by omega) g_14 z_59 j pk (1 : Int32) q1 q2 H locs ls hT hI hE hM (by omega) (by omega) (by omega) (by omega) (by decide) (by decide) r_20 r_21 (by have e0_ : (0 : Int32).toInt = 0 := (by decide); have e1_ : (1 : Int32).toInt = 1 := (by decide); omega) (lv_sub hl [0, 1, 5, 6, 7, 8, 9, 10, 11, 12] rfl)
                  · refine W.eq (g2 := F0 m 258 ls [.int 0]) rfl ?_
                    refine lv_istore (lv' := [(8, .int 0), (12, .int u_29), (11, .int u_27), (10, .int r_11), (9, .int i), (7, .int j), (6, .int pk), (5, .ref q2), (4, .ref q1), (0, .ref h), (1, .int n), (2, .int x1), (3, .int x2)]) hx hb dX5_runActs_258 hl (by decide) rfl (fun ls hl => ?_)
                    refine lv_goto (tgt := 282) hx hb dX5_runActs_260 (by decide) ?_
                    obtain ⟨z_60, ez_60⟩ : ∃ z : Int32, z = i + 1 := ⟨_, rfl⟩
                    have e_z_60 : z_60.toInt = i.toInt + 1 := i_add ez_60 rfl (by decide) (by omega) (by omega)
                    refine lv_iinc (v := z_60) (lv' := [(9, .int z_60), (8, .int 0), (12, .int u_29), (11, .int u_27), (10, .int r_11), (7, .int j), (6, .int pk), (5, .ref q2), (4, .ref q1), (0, .ref h), (1, .int n), (2, .int x1), (3, .int x2)]) hx hb dX5_runActs_282 hl (k := 4) rfl (by rw [ez_60]; rfl) (by decide) rfl (fun ls hl => ?_)
                    refine lv_goto (tgt := 44) hx hb dX5_runActs_285 (by decide) ?_
                    exact ih (kf - 1) (by omega) g_14 z_60 j pk (0 : Int32) q1 q2 H locs ls hT hI hE hM (by omega) (by omega) (by omega) (by omega) (by decide) (by decide) r_20 r_21 (by have e0_ : (0 : Int32).toInt = 0 := (by decide); omega) (lv_sub hl [0, 1, 5, 6, 7, 8, 9, 10, 11, 12] rfl)
              · have c_31' : u_27.toInt = 6 := i_eq c_31 rfl (by decide)
                refine lv_aload_n hx hb dX5_runActs_214 rfl (lv_at hl 9 rfl) ?_
                obtain ⟨v_61, e_v_61, r_v_61, n_v_61⟩ := f_6_3 hI r_19
                refine t_get (ci := 5) (v := .ref v_61) hB hT (ro_ci r_19 rfl) rfl 3 (by decide) k_207 e_v_61 dX5_runActs_215 ?_
                refine lv_aload_n hx hb dX5_runActs_218 rfl (lv_at hl 9 rfl) ?_
                obtain ⟨v_62, e_v_62⟩ := f_6_4 hI r_19
                refine t_get (ci := 5) (v := .int v_62) hB hT (ro_ci r_19 rfl) rfl 4 (by decide) k_210 e_v_62 dX5_runActs_219 ?_
                refine lv_sipush (v := 511) hx hb dX5_runActs_222 (by decide) ?_
                refine lv_iand hx hb dX5_runActs_225 ?_
                refine lv_topi (fun z_63 ez_63 => ?_)
                have e_z_63 := i_and 9 (b := 511) ez_63 (by decide) (by decide) (by decide)
                refine lv_iload hx hb dX5_runActs_226 (lv_at hl 2 rfl) ?_
                have i_64 : vp_in z_63 512 := (i_in (n := 512) rfl (by omega) (by omega))
                refine t_iast hB hT (ro_in r_v_61 (by decide)) n_v_61 i_64 dX5_runActs_228 (fun H locs hT => ?_)
                have hI : Inv (sC g_14 v_61 z_63.toNatClampNeg r_11) := hI.sC (ck r_v_61 trivial)
                have hM : Sm md_s_runActs2 g (sC g_14 v_61 z_63.toNatClampNeg r_11) := hM.tr hE (Sm_sC (by rw [r_v_61]; rfl))
                have hE : Ex g (sC g_14 v_61 z_63.toNatClampNeg r_11) := hE
                refine lv_aload_n hx hb dX5_runActs_229 rfl (lv_at hl 9 rfl) ?_
                refine lv_dup hx hb dX5_runActs_230 rfl ?_
                refine t_get (ci := 5) (v := .int v_62) hB hT (ro_ci r_19 rfl) rfl 4 (by decide) k_210 e_v_62 dX5_runActs_231 ?_
                refine lv_iconst (v := 1) hx hb dX5_runActs_234 (by decide) ?_
                refine lv_iadd hx hb dX5_runActs_235 ?_
                refine lv_topi (fun z_65 ez_65 => ?_)
                refine t_put0 (ci := 5) (v := .int z_65) hB hT (ro_ci r_19 rfl) (ro_n0 r_19 (by decide)) rfl 4 (by decide) k_210 (Or.inl rfl) rfl rfl dX5_runActs_236 (fun H locs hT => ?_)
                have hI : Inv (sF (sC g_14 v_61 z_63.toNatClampNeg r_11) h 4 (.int z_65)) := hI.sF (p_6_4 r_19 (⟨_, rfl⟩))
                have hM : Sm md_s_runActs2 g (sF (sC g_14 v_61 z_63.toNatClampNeg r_11) h 4 (.int z_65)) := hM.tr hE (Sm_sF (by rw [r_19]; rfl))
                have hE : Ex g (sF (sC g_14 v_61 z_63.toNatClampNeg r_11) h 4 (.int z_65)) := hE
                refine lv_goto (tgt := 282) hx hb dX5_runActs_239 (by decide) ?_
                obtain ⟨z_66, ez_66⟩ : ∃ z : Int32, z = i + 1 := ⟨_, rfl⟩
                have e_z_66 : z_66.toInt = i.toInt + 1 := i_add ez_66 rfl (by decide) (by omega) (by omega)
                refine lv_iinc (v := z_66) (lv' := [(9, .int z_66), (12, .int u_29), (11, .int u_27), (10, .int r_11), (8, .int po), (7, .int j), (6, .int pk), (5, .ref q2), (4, .ref q1), (0, .ref h), (1, .int n), (2, .int x1), (3, .int x2)]) hx hb dX5_runActs_282 hl (k := 3) rfl (by rw [ez_66]; rfl) (by decide) rfl (fun ls hl => ?_)
                refine lv_goto (tgt := 44) hx hb dX5_runActs_285 (by decide) ?_
                exact ih (kf - 1) (by omega) (sF (sC g_14 v_61 z_63.toNatClampNeg r_11) h 4 (.int z_65)) z_66 j pk po q1 q2 H locs ls hT hI hE hM (by omega) (by omega) (by omega) (by omega) (by omega) (by omega) r_20 r_21 (by have e0_ : (0 : Int32).toInt = 0 := (by decide); omega) (lv_sub hl [0, 4, 5, 6, 7, 8, 9, 10, 11, 12] rfl)
            · have c_30' : u_27.toInt = 5 := i_eq c_30 rfl (by decide)
              refine lv_aload_n hx hb dX5_runActs_149 rfl (lv_at hl 9 rfl) ?_
              refine lv_iload_n hx hb dX5_runActs_150 rfl (lv_at hl 10 rfl) ?_
              refine lv_iload hx hb dX5_runActs_151 (lv_at hl 0 rfl) ?_
              refine t_callV (n := 2) (As := [.int n, .int u_29]) (rest := []) (ci := 5) hB hT hl.1 (s_canAsk l D cI cZ cS cR N0 g_14 hI h n u_29 r_19) (ro_ci r_19 rfl) rfl k_477 k_59 k_474 k_476 k_10 (by decide +kernel) ⟨(Nat.le_of_ble_eq_true rfl), (Nat.le_of_ble_eq_true rfl)⟩ rfl (Nat.le_of_ble_eq_true rfl) ⟨(Nat.le_of_ble_eq_true rfl), (Nat.le_of_ble_eq_true rfl)⟩ dX5_runActs_153 (fun v g_67 H locs hp hT => ?_)
              obtain ⟨r_68, rfl, eg, f_69⟩ := hp
              rw [eg] at hT
              clear eg
              refine W.eq (g2 := F0 m 156 ls [.int r_68]) rfl ?_
              rcases f_69 with ⟨rfl, hw_72, hw_73⟩ | rfl
              · refine W.eq (g2 := F0 m 156 ls [.int 1]) rfl ?_
                refine lv_if_eq (tgt := 207) hx hb dX5_runActs_156 (by decide) (fun c_ => absurd c_ (by decide)) (fun c_ => ?_)
                refine lv_iload hx hb dX5_runActs_159 (lv_at hl 6 rfl) ?_
                refine lv_if_eq (tgt := 179) hx hb dX5_runActs_161 (by decide) (fun c_74 => ?_) (fun c_74 => ?_)
                · have c_74' : pk.toInt = 0 := i_eq c_74 rfl (by decide)
                  refine lv_iconst (v := 0) hx hb dX5_runActs_179 (by decide) ?_
                  refine lv_istore (lv' := [(13, .int 0), (12, .int u_29), (11, .int u_27), (10, .int r_11), (9, .int i), (8, .int po), (7, .int j), (6, .int pk), (5, .ref q2), (4, .ref q1), (0, .ref h), (1, .int n), (2, .int x1), (3, .int x2)]) hx hb dX5_runActs_180 hl (by decide) rfl (fun ls hl => ?_)
                  refine lv_aload_n hx hb dX5_runActs_182 rfl (lv_at hl 10 rfl) ?_
                  refine lv_iload hx hb dX5_runActs_183 (lv_at hl 1 rfl) ?_
                  refine lv_iload hx hb dX5_runActs_185 (lv_at hl 3 rfl) ?_
                  refine lv_iload hx hb dX5_runActs_187 (lv_at hl 0 rfl) ?_
                  refine t_callV (n := 3) (As := [.int u_29, .int r_11, .int 0]) (rest := []) (ci := 5) hB hT hl.1 (s_serve1 l D cI cZ cS cR N0 g_14 hI h u_29 r_11 0 r_19 (by have q0 : (0 : Int32).toInt = 0 := (by decide); omega) (by have q0 : (0 : Int32).toInt = 0 := (by decide); omega)) (ro_ci r_19 rfl) rfl k_508 k_59 k_505 k_507 k_12 (by decide +kernel) ⟨(Nat.le_of_ble_eq_true rfl), (Nat.le_of_ble_eq_true rfl)⟩ rfl (Nat.le_of_ble_eq_true rfl) ⟨(Nat.le_of_ble_eq_true rfl), (Nat.le_of_ble_eq_true rfl)⟩ dX5_runActs_189 (fun v g_75 H locs hp hT => ?_)
                  obtain ⟨r_76, rfl, hI, x_78, m_77⟩ := hp
                  have hM : Sm md_s_runActs2 g g_75 := hM.tr hE (m_77.mo (fun r k h => mdle_s_runActs2_s_serve1 h))
                  have hE : Ex g g_75 := hE.tr x_78
                  have r_79 : g_75.1 h = 6 := (Ex.r x_78 r_19 (by decide))
                  have r_80 : g_75.1 q1 = 4 := (Ex.r x_78 r_20 (by decide))
                  have r_81 : g_75.1 q2 = 3 := (Ex.r x_78 r_21 (by decide))
                  have r_82 : g_75.1 v_26 = 68 := (Ex.r x_78 r_v_26 (by decide))
                  have r_83 : g_75.1 v_28 = 69 := (Ex.r x_78 r_v_28 (by decide))
                  have n_84 : g_75.2.2.1 v_26 = 8 := (Ex.n x_78 r_v_26 (by decide) n_v_26)
                  have n_85 : g_75.2.2.1 v_28 = 8 := (Ex.n x_78 r_v_28 (by decide) n_v_28)
                  have kn_86 : g_75.2.1 q2 3 = .int v_2 := (Sm.v m_77 r_21 (by decide) rfl kn_22)
                  have kn_87 : g_75.2.1 h 6 = .int v_7 := (Sm.v m_77 r_19 (by decide) rfl kn_23)
                  have kn_88 : g_75.2.1 q2 0 = .ref v_26 := (Sm.v m_77 r_21 (by decide) rfl e_v_26)
                  have kn_89 : g_75.2.1 q2 1 = .ref v_28 := (Sm.v m_77 r_21 (by decide) rfl e_v_28)
                  have kn_90 : g_75.2.2.2.1 v_26 i.toNatClampNeg = u_27 := (Sm.c m_77 r_v_26 (by decide) rfl e_u_27.symm)
                  have kn_91 : g_75.2.2.2.1 v_28 i.toNatClampNeg = u_29 := (Sm.c m_77 r_v_28 (by decide) rfl e_u_29.symm)
                  refine W.eq (g2 := F0 m 192 ls [.int r_76]) rfl ?_
                  refine lv_istore (lv' := [(7, .int r_76), (13, .int 0), (12, .int u_29), (11, .int u_27), (10, .int r_11), (9, .int i), (8, .int po), (6, .int pk), (5, .ref q2), (4, .ref q1), (0, .ref h), (1, .int n), (2, .int x1), (3, .int x2)]) hx hb dX5_runActs_192 hl (by decide) rfl (fun ls hl => ?_)
                  refine lv_aload_n hx hb dX5_runActs_194 rfl (lv_at hl 10 rfl) ?_
                  obtain ⟨v_92, e_v_92, l_v_92, u_v_92⟩ := f_6_7 hI r_79
                  refine t_get (ci := 5) (v := .int v_92) hB hT (ro_ci r_79 rfl) rfl 7 (by decide) k_216 e_v_92 dX5_runActs_195 ?_
                  refine lv_if_eq (tgt := 204) hx hb dX5_runActs_198 (by decide) (fun c_93 => ?_) (fun c_93 => ?_)
                  · have c_93' : v_92.toInt = 0 := i_eq c_93 rfl (by decide)
                    refine lv_goto (tgt := 282) hx hb dX5_runActs_204 (by decide) ?_
                    obtain ⟨z_94, ez_94⟩ : ∃ z : Int32, z = i + 1 := ⟨_, rfl⟩
                    have e_z_94 : z_94.toInt = i.toInt + 1 := i_add ez_94 rfl (by decide) (by omega) (by omega)
                    refine lv_iinc (v := z_94) (lv' := [(9, .int z_94), (7, .int r_76), (13, .int 0), (12, .int u_29), (11, .int u_27), (10, .int r_11), (8, .int po), (6, .int pk), (5, .ref q2), (4, .ref q1), (0, .ref h), (1, .int n), (2, .int x1), (3, .int x2)]) hx hb dX5_runActs_282 hl (k := 5) rfl (by rw [ez_94]; rfl) (by decide) rfl (fun ls hl => ?_)
                    refine lv_goto (tgt := 44) hx hb dX5_runActs_285 (by decide) ?_
                    exact ih (kf - 1) (by omega) g_75 z_94 r_76 pk po q1 q2 H locs ls hT hI hE hM (by omega) (by omega) (by omega) (by omega) (by omega) (by omega) r_80 r_81 (by have e0_ : (0 : Int32).toInt = 0 := (by decide); omega) (lv_sub hl [0, 6, 1, 7, 8, 9, 10, 11, 12, 13] rfl)
                  · have c_93' : v_92.toInt ≠ 0 := i_ne c_93 rfl (by decide)
                    refine lv_bipush (v := (-2)) hx hb dX5_runActs_201 (by decide) ?_
                    exact t_iret hB hr hT (Nat.le_of_ble_eq_true rfl) (Nat.le_of_ble_eq_true rfl) dX5_runActs_203 ⟨(-2), rfl, hI, hE, hM⟩
                · have c_74' : pk.toInt ≠ 0 := i_ne c_74 rfl (by decide)
                  refine lv_iload_n hx hb dX5_runActs_164 rfl (lv_at hl 12 rfl) ?_
                  refine lv_bipush (v := 7) hx hb dX5_runActs_165 (by decide) ?_
                  refine lv_iload hx hb dX5_runActs_167 (lv_at hl 3 rfl) ?_
                  refine lv_imul hx hb dX5_runActs_169 ?_
                  refine lv_topi (fun z_95 ez_95 => ?_)
                  have e_z_95 : z_95.toInt = 7 * i.toInt := i_mul ez_95 (by decide) rfl (by omega) (by omega)
                  refine lv_iadd hx hb dX5_runActs_170 ?_
                  refine lv_topi (fun z_96 ez_96 => ?_)
                  refine lv_bipush (v := 99) hx hb dX5_runActs_171 (by decide) ?_
                  refine lv_irem hx hb dX5_runActs_173 (by decide) ?_
                  refine lv_topi (fun z_97 ez_97 => ?_)
                  refine lv_iconst (v := 1) hx hb dX5_runActs_174 (by decide) ?_
                  refine lv_iadd hx hb dX5_runActs_175 ?_
                  refine lv_topi (fun z_98 ez_98 => ?_)
                  refine lv_goto (tgt := 180) hx hb dX5_runActs_176 (by decide) ?_
                  refine lv_istore (lv' := [(13, .int z_98), (12, .int u_29), (11, .int u_27), (10, .int r_11), (9, .int i), (8, .int po), (7, .int j), (6, .int pk), (5, .ref q2), (4, .ref q1), (0, .ref h), (1, .int n), (2, .int x1), (3, .int x2)]) hx hb dX5_runActs_180 hl (by decide) rfl (fun ls hl => ?_)
                  refine lv_aload_n hx hb dX5_runActs_182 rfl (lv_at hl 10 rfl) ?_
                  refine lv_iload hx hb dX5_runActs_183 (lv_at hl 1 rfl) ?_
                  refine lv_iload hx hb dX5_runActs_185 (lv_at hl 3 rfl) ?_
                  refine lv_iload hx hb dX5_runActs_187 (lv_at hl 0 rfl) ?_
                  refine t_callV (n := 3) (As := [.int u_29, .int r_11, .int z_98]) (rest := []) (ci := 5) hB hT hl.1 (s_serve1 l D cI cZ cS cR N0 g_14 hI h u_29 r_11 z_98 r_19 (by omega) (by omega)) (ro_ci r_19 rfl) rfl k_508 k_59 k_505 k_507 k_12 (by decide +kernel) ⟨(Nat.le_of_ble_eq_true rfl), (Nat.le_of_ble_eq_true rfl)⟩ rfl (Nat.le_of_ble_eq_true rfl) ⟨(Nat.le_of_ble_eq_true rfl), (Nat.le_of_ble_eq_true rfl)⟩ dX5_runActs_189 (fun v g_99 H locs hp hT => ?_)
                  obtain ⟨r_100, rfl, hI, x_102, m_101⟩ := hp
                  have hM : Sm md_s_runActs2 g g_99 := hM.tr hE (m_101.mo (fun r k h => mdle_s_runActs2_s_serve1 h))
                  have hE : Ex g g_99 := hE.tr x_102
                  have r_103 : g_99.1 h = 6 := (Ex.r x_102 r_19 (by decide))
                  have r_104 : g_99.1 q1 = 4 := (Ex.r x_102 r_20 (by decide))
                  have r_105 : g_99.1 q2 = 3 := (Ex.r x_102 r_21 (by decide))
                  have r_106 : g_99.1 v_26 = 68 := (Ex.r x_102 r_v_26 (by decide))
                  have r_107 : g_99.1 v_28 = 69 := (Ex.r x_102 r_v_28 (by decide))
                  have n_108 : g_99.2.2.1 v_26 = 8 := (Ex.n x_102 r_v_26 (by decide) n_v_26)
                  have n_109 : g_99.2.2.1 v_28 = 8 := (Ex.n x_102 r_v_28 (by decide) n_v_28)
                  have kn_110 : g_99.2.1 q2 3 = .int v_2 := (Sm.v m_101 r_21 (by decide) rfl kn_22)
                  have kn_111 : g_99.2.1 h 6 = .int v_7 := (Sm.v m_101 r_19 (by decide) rfl kn_23)
                  have kn_112 : g_99.2.1 q2 0 = .ref v_26 := (Sm.v m_101 r_21 (by decide) rfl e_v_26)
                  have kn_113 : g_99.2.1 q2 1 = .ref v_28 := (Sm.v m_101 r_21 (by decide) rfl e_v_28)
                  have kn_114 : g_99.2.2.2.1 v_26 i.toNatClampNeg = u_27 := (Sm.c m_101 r_v_26 (by decide) rfl e_u_27.symm)
                  have kn_115 : g_99.2.2.2.1 v_28 i.toNatClampNeg = u_29 := (Sm.c m_101 r_v_28 (by decide) rfl e_u_29.symm)
                  refine W.eq (g2 := F0 m 192 ls [.int r_100]) rfl ?_
                  refine lv_istore (lv' := [(7, .int r_100), (13, .int z_98), (12, .int u_29), (11, .int u_27), (10, .int r_11), (9, .int i), (8, .int po), (6, .int pk), (5, .ref q2), (4, .ref q1), (0, .ref h), (1, .int n), (2, .int x1), (3, .int x2)]) hx hb dX5_runActs_192 hl (by decide) rfl (fun ls hl => ?_)
                  refine lv_aload_n hx hb dX5_runActs_194 rfl (lv_at hl 10 rfl) ?_
                  obtain ⟨v_116, e_v_116, l_v_116, u_v_116⟩ := f_6_7 hI r_103
                  refine t_get (ci := 5) (v := .int v_116) hB hT (ro_ci r_103 rfl) rfl 7 (by decide) k_216 e_v_116 dX5_runActs_195 ?_
                  refine lv_if_eq (tgt := 204) hx hb dX5_runActs_198 (by decide) (fun c_117 => ?_) (fun c_117 => ?_)
                  · have c_117' : v_116.toInt = 0 := i_eq c_117 rfl (by decide)
                    refine lv_goto (tgt := 282) hx hb dX5_runActs_204 (by decide) ?_
                    obtain ⟨z_118, ez_118⟩ : ∃ z : Int32, z = i + 1 := ⟨_, rfl⟩
                    have e_z_118 : z_118.toInt = i.toInt + 1 := i_add ez_118 rfl (by decide) (by omega) (by omega)
                    refine lv_iinc (v := z_118) (lv' := [(9, .int z_118), (7, .int r_100), (13, .int z_98), (12, .int u_29), (11, .int u_27), (10, .int r_11), (8, .int po), (6, .int pk), (5, .ref q2), (4, .ref q1), (0, .ref h), (1, .int n), (2, .int x1), (3, .int x2)]) hx hb dX5_runActs_282 hl (k := 5) rfl (by rw [ez_118]; rfl) (by decide) rfl (fun ls hl => ?_)
                    refine lv_goto (tgt := 44) hx hb dX5_runActs_285 (by decide) ?_
                    exact ih (kf - 1) (by omega) g_99 z_118 r_100 pk po q1 q2 H locs ls hT hI hE hM (by omega) (by omega) (by omega) (by omega) (by omega) (by omega) r_104 r_105 (by have e0_ : (0 : Int32).toInt = 0 := (by decide); omega) (lv_sub hl [0, 6, 1, 7, 8, 9, 10, 11, 12, 13] rfl)
                  · have c_117' : v_116.toInt ≠ 0 := i_ne c_117 rfl (by decide)
                    refine lv_bipush (v := (-2)) hx hb dX5_runActs_201 (by decide) ?_
                    exact t_iret hB hr hT (Nat.le_of_ble_eq_true rfl) (Nat.le_of_ble_eq_true rfl) dX5_runActs_203 ⟨(-2), rfl, hI, hE, hM⟩
              · refine W.eq (g2 := F0 m 156 ls [.int 0]) rfl ?_
                refine lv_if_eq (tgt := 207) hx hb dX5_runActs_156 (by decide) (fun c_ => ?_) (fun c_ => absurd (by decide) c_)
                refine lv_iload hx hb dX5_runActs_207 (lv_at hl 1 rfl) ?_
                refine lv_bipush (v := 6) hx hb dX5_runActs_209 (by decide) ?_
                refine lv_icmp_ne (tgt := 242) hx hb dX5_runActs_211 (by decide) (fun c_119 => ?_) (fun c_119 => ?_)
                · have c_119' : u_27.toInt ≠ 6 := i_ne c_119 rfl (by decide)
                  refine lv_iload hx hb dX5_runActs_242 (lv_at hl 1 rfl) ?_
                  refine lv_bipush (v := 7) hx hb dX5_runActs_244 (by decide) ?_
                  refine lv_icmp_ne (tgt := 263) hx hb dX5_runActs_246 (by decide) (fun c_120 => ?_) (fun c_120 => ?_)
                  · have c_120' : u_27.toInt ≠ 7 := i_ne c_120 rfl (by decide)
                    refine lv_iload hx hb dX5_runActs_263 (lv_at hl 1 rfl) ?_
                    refine lv_iconst (v := 5) hx hb dX5_runActs_265 (by decide) ?_
                    refine lv_icmp_eq (tgt := 282) hx hb dX5_runActs_266 (by decide) (fun c_121 => ?_) (fun c_121 => ?_)
                    · have c_121' : u_27.toInt = 5 := i_eq c_121 rfl (by decide)
                      obtain ⟨z_122, ez_122⟩ : ∃ z : Int32, z = i + 1 := ⟨_, rfl⟩
                      have e_z_122 : z_122.toInt = i.toInt + 1 := i_add ez_122 rfl (by decide) (by omega) (by omega)
                      refine lv_iinc (v := z_122) (lv' := [(9, .int z_122), (12, .int u_29), (11, .int u_27), (10, .int r_11), (8, .int po), (7, .int j), (6, .int pk), (5, .ref q2), (4, .ref q1), (0, .ref h), (1, .int n), (2, .int x1), (3, .int x2)]) hx hb dX5_runActs_282 hl (k := 3) rfl (by rw [ez_122]; rfl) (by decide) rfl (fun ls hl => ?_)
                      refine lv_goto (tgt := 44) hx hb dX5_runActs_285 (by decide) ?_
                      exact ih (kf - 1) (by omega) g_14 z_122 j pk po q1 q2 H locs ls hT hI hE hM (by omega) (by omega) (by omega) (by omega) (by omega) (by omega) r_20 r_21 (by have e0_ : (0 : Int32).toInt = 0 := (by decide); omega) (lv_sub hl [0, 4, 5, 6, 7, 8, 9, 10, 11, 12] rfl)
                    · have c_121' : u_27.toInt ≠ 5 := i_ne c_121 rfl (by decide)
                      exact absurd c_121' (by omega)
                  · have c_120' : u_27.toInt = 7 := i_eq c_120 rfl (by decide)
                    exact absurd c_120' (by omega)
                · have c_119' : u_27.toInt = 6 := i_eq c_119 rfl (by decide)
                  exact absurd c_119' (by omega)
        · have c_8' : v_7.toInt ≤ z_6.toInt := i_nlt c_8 rfl rfl
          refine lv_aload_n hx hb dX5_runActs_78 rfl (lv_at hl 6 rfl) ?_
          refine lv_iconst (v := 1) hx hb dX5_runActs_79 (by decide) ?_
          refine t_put0 (ci := 5) (v := .int 1) hB hT (ro_ci r_1 rfl) (ro_n0 r_1 (by decide)) rfl 7 (by decide) k_216 (Or.inl rfl) rfl rfl dX5_runActs_80 (fun H locs hT => ?_)
          have hI : Inv (sF g1 h 7 (.int 1)) := hI.sF (p_6_7 r_1 (⟨_, rfl, by decide, by decide⟩))
          have hM : Sm md_s_runActs2 g (sF g1 h 7 (.int 1)) := hM.tr hE (Sm_sF (by rw [r_1]; rfl))
          have hE : Ex g (sF g1 h 7 (.int 1)) := hE
          refine lv_bipush (v := (-2)) hx hb dX5_runActs_83 (by decide) ?_
          exact t_iret hB hr hT (Nat.le_of_ble_eq_true rfl) (Nat.le_of_ble_eq_true rfl) dX5_runActs_85 ⟨(-2), rfl, hI, hE, hM⟩
      · have c_4' : po.toInt ≠ 0 := i_ne c_4 rfl (by decide)
        refine lv_iconst (v := 0) hx hb dX5_runActs_59 (by decide) ?_
        refine lv_istore (lv' := [(8, .int 0), (9, .int i), (7, .int j), (6, .int pk), (5, .ref q2), (4, .ref q1), (0, .ref h), (1, .int n), (2, .int x1), (3, .int x2)]) hx hb dX5_runActs_60 hl (by decide) rfl (fun ls hl => ?_)
        refine lv_goto (tgt := 282) hx hb dX5_runActs_62 (by decide) ?_
        obtain ⟨z_123, ez_123⟩ : ∃ z : Int32, z = i + 1 := ⟨_, rfl⟩
        have e_z_123 : z_123.toInt = i.toInt + 1 := i_add ez_123 rfl (by decide) (by omega) (by omega)
        refine lv_iinc (v := z_123) (lv' := [(9, .int z_123), (8, .int 0), (7, .int j), (6, .int pk), (5, .ref q2), (4, .ref q1), (0, .ref h), (1, .int n), (2, .int x1), (3, .int x2)]) hx hb dX5_runActs_282 hl (k := 1) rfl (by rw [ez_123]; rfl) (by decide) rfl (fun ls hl => ?_)
        refine lv_goto (tgt := 44) hx hb dX5_runActs_285 (by decide) ?_
        exact ih (kf - 1) (by omega) g1 z_123 j pk (0 : Int32) q1 q2 H locs ls hT hI hE hM (by omega) (by omega) (by omega) (by omega) (by decide) (by decide) r1_q1 r1_q2 (by have e0_ : (0 : Int32).toInt = 0 := (by decide); omega) (lv_sub hl [0, 1, 2, 3, 4, 5, 6, 7, 8, 9] rfl)
set_option maxHeartbeats 4000000 in
set_option maxRecDepth 100000 in
theorem s_runActs2 (l : Launch) (D : va_G) (cI cZ cS cR : ClassId) (N0 : NT) (g : GS) (hI : Inv g) (h : Nat) (n : Int32) (x1 : Int32) (x2 : Int32) (r_h : g.1 h = 6) (l_n : 3 ≤ n.toInt) (u_n : n.toInt ≤ 5) : Ty l D cI cZ cS cR N0 yX5_runActs cX5_runActs 14 (some .int) 5 0 0 [.ref h, .int n, .int x1, .int x2] g (fun v g' => ∃ (r : Int32), v = some (.int r) ∧ Inv g' ∧ Ex g g' ∧ Sm md_s_runActs2 g g') := by
  refine t_enter (by decide) (Nat.le_of_ble_eq_true rfl) ?_
  intro p e s m args below meth c ls H locs hB hr hin hl hT
  have hx := hB.1
  have hb := hB.2.1
  have hl : lv_has ls 14 [(0, .ref h), (1, .int n), (2, .int x1), (3, .int x2)] := hl
  have hE : Ex g g := Ex.rf
  have hM : Sm md_s_runActs2 g g := Sm.rf
  refine lv_aload_n hx hb dX5_runActs_0 rfl (lv_at hl 0 rfl) ?_
  obtain ⟨v_1, e_v_1, r_v_1, n_v_1⟩ := f_6_0 hI r_h
  refine t_get (ci := 5) (v := .ref v_1) hB hT (ro_ci r_h rfl) rfl 0 (by decide) k_199 e_v_1 dX5_runActs_1 ?_
  refine lv_iload_n hx hb dX5_runActs_4 rfl (lv_at hl 1 rfl) ?_
  have i_q_2 : vp_in n 6 := (i_in (n := 6) rfl (by omega) (by omega))
  obtain ⟨q_2, e_q_2, r_q_2⟩ := hI.q r_v_1 n_v_1 (i_cl i_q_2)
  refine t_aald hB hT (Or.inl r_v_1) n_v_1 i_q_2 e_q_2 dX5_runActs_5 ?_
  refine lv_astore (lv' := [(4, .ref q_2), (0, .ref h), (1, .int n), (2, .int x1), (3, .int x2)]) hx hb dX5_runActs_6 hl (by decide) rfl (fun ls hl => ?_)
  refine lv_aload hx hb dX5_runActs_8 (lv_at hl 0 rfl) ?_
  obtain ⟨v_3, e_v_3, r_v_3⟩ := f_4_0 hI r_q_2
  refine t_get (ci := 3) (v := .ref v_3) hB hT (ro_ci r_q_2 rfl) rfl 0 (by decide) k_145 e_v_3 dX5_runActs_10 ?_
  refine lv_astore (lv' := [(5, .ref v_3), (4, .ref q_2), (0, .ref h), (1, .int n), (2, .int x1), (3, .int x2)]) hx hb dX5_runActs_13 hl (by decide) rfl (fun ls hl => ?_)
  refine lv_iload_n hx hb dX5_runActs_15 rfl (lv_at hl 5 rfl) ?_
  refine lv_if_eq (tgt := 32) hx hb dX5_runActs_16 (by decide) (fun c_4 => ?_) (fun c_4 => ?_)
  · have c_4' : x2.toInt = 0 := i_eq c_4 rfl (by decide)
    refine lv_iconst (v := 0) hx hb dX5_runActs_32 (by decide) ?_
    refine lv_istore (lv' := [(6, .int 0), (5, .ref v_3), (4, .ref q_2), (0, .ref h), (1, .int n), (2, .int x1), (3, .int x2)]) hx hb dX5_runActs_33 hl (by decide) rfl (fun ls hl => ?_)
    refine lv_iconst (v := 0) hx hb dX5_runActs_35 (by decide) ?_
    refine lv_istore (lv' := [(7, .int 0), (6, .int 0), (5, .ref v_3), (4, .ref q_2), (0, .ref h), (1, .int n), (2, .int x1), (3, .int x2)]) hx hb dX5_runActs_36 hl (by decide) rfl (fun ls hl => ?_)
    refine lv_iconst (v := 0) hx hb dX5_runActs_38 (by decide) ?_
    refine lv_istore (lv' := [(8, .int 0), (7, .int 0), (6, .int 0), (5, .ref v_3), (4, .ref q_2), (0, .ref h), (1, .int n), (2, .int x1), (3, .int x2)]) hx hb dX5_runActs_39 hl (by decide) rfl (fun ls hl => ?_)
    refine lv_iconst (v := 0) hx hb dX5_runActs_41 (by decide) ?_
    refine lv_istore (lv' := [(9, .int 0), (8, .int 0), (7, .int 0), (6, .int 0), (5, .ref v_3), (4, .ref q_2), (0, .ref h), (1, .int n), (2, .int x1), (3, .int x2)]) hx hb dX5_runActs_42 hl (by decide) rfl (fun ls hl => ?_)
    exact lt_s_runActs2_a l D cI cZ cS cR N0 g h n x1 x2 r_h l_n u_n hB hr   8 g (0 : Int32) (0 : Int32) (0 : Int32) (0 : Int32) q_2 v_3 H locs ls hT hI hE hM (by decide) (by decide) (by decide) (by decide) (by decide) (by decide) r_q_2 r_v_3 (by have e0_ : (0 : Int32).toInt = 0 := (by decide); omega) (lv_sub hl [0, 1, 2, 3, 4, 5, 6, 7, 8, 9] rfl)
  · have c_4' : x2.toInt ≠ 0 := i_ne c_4 rfl (by decide)
    refine lv_aload hx hb dX5_runActs_19 (lv_at hl 1 rfl) ?_
    refine lv_iconst (v := 2) hx hb dX5_runActs_21 (by decide) ?_
    refine t_callV (n := 1) (As := [.int 2]) (rest := []) (ci := 3) hB hT hl.1 (s_isMended l D cI cZ cS cR N0 g hI q_2 2 r_q_2) (ro_ci r_q_2 rfl) rfl k_512 k_60 k_509 k_510 k_511 (by decide +kernel) ⟨(Nat.le_of_ble_eq_true rfl), (Nat.le_of_ble_eq_true rfl)⟩ rfl (Nat.le_of_ble_eq_true rfl) ⟨(Nat.le_of_ble_eq_true rfl), (Nat.le_of_ble_eq_true rfl)⟩ dX5_runActs_22 (fun v g_5 H locs hp hT => ?_)
    obtain ⟨r_6, rfl, eg, f_7⟩ := hp
    rw [eg] at hT
    clear eg
    refine W.eq (g2 := F0 m 25 ls [.int r_6]) rfl ?_
    have qc_10 : (2 : Int32).toInt = 2 := (by decide)
    rcases f_7 with rfl | rfl
    · refine W.eq (g2 := F0 m 25 ls [.int 1]) rfl ?_
      refine lv_if_eq (tgt := 32) hx hb dX5_runActs_25 (by decide) (fun c_ => absurd c_ (by decide)) (fun c_ => ?_)
      refine lv_iconst (v := 1) hx hb dX5_runActs_28 (by decide) ?_
      refine lv_goto (tgt := 33) hx hb dX5_runActs_29 (by decide) ?_
      refine lv_istore (lv' := [(6, .int 1), (5, .ref v_3), (4, .ref q_2), (0, .ref h), (1, .int n), (2, .int x1), (3, .int x2)]) hx hb dX5_runActs_33 hl (by decide) rfl (fun ls hl => ?_)
      refine lv_iconst (v := 0) hx hb dX5_runActs_35 (by decide) ?_
      refine lv_istore (lv' := [(7, .int 0), (6, .int 1), (5, .ref v_3), (4, .ref q_2), (0, .ref h), (1, .int n), (2, .int x1), (3, .int x2)]) hx hb dX5_runActs_36 hl (by decide) rfl (fun ls hl => ?_)
      refine lv_iconst (v := 0) hx hb dX5_runActs_38 (by decide) ?_
      refine lv_istore (lv' := [(8, .int 0), (7, .int 0), (6, .int 1), (5, .ref v_3), (4, .ref q_2), (0, .ref h), (1, .int n), (2, .int x1), (3, .int x2)]) hx hb dX5_runActs_39 hl (by decide) rfl (fun ls hl => ?_)
      refine lv_iconst (v := 0) hx hb dX5_runActs_41 (by decide) ?_
      refine lv_istore (lv' := [(9, .int 0), (8, .int 0), (7, .int 0), (6, .int 1), (5, .ref v_3), (4, .ref q_2), (0, .ref h), (1, .int n), (2, .int x1), (3, .int x2)]) hx hb dX5_runActs_42 hl (by decide) rfl (fun ls hl => ?_)
      exact lt_s_runActs2_a l D cI cZ cS cR N0 g h n x1 x2 r_h l_n u_n hB hr   8 g (0 : Int32) (0 : Int32) (1 : Int32) (0 : Int32) q_2 v_3 H locs ls hT hI hE hM (by decide) (by decide) (by decide) (by decide) (by decide) (by decide) r_q_2 r_v_3 (by have e0_ : (0 : Int32).toInt = 0 := (by decide); have e1_ : (1 : Int32).toInt = 1 := (by decide); omega) (lv_sub hl [0, 1, 2, 3, 4, 5, 6, 7, 8, 9] rfl)
    · refine W.eq (g2 := F0 m 25 ls [.int 0]) rfl ?_
      refine lv_if_eq (tgt := 32) hx hb dX5_runActs_25 (by decide) (fun c_ => ?_) (fun c_ => absurd (by decide) c_)
      refine lv_iconst (v := 0) hx hb dX5_runActs_32 (by decide) ?_
      refine lv_istore (lv' := [(6, .int 0), (5, .ref v_3), (4, .ref q_2), (0, .ref h), (1, .int n), (2, .int x1), (3, .int x2)]) hx hb dX5_runActs_33 hl (by decide) rfl (fun ls hl => ?_)
      refine lv_iconst (v := 0) hx hb dX5_runActs_35 (by decide) ?_
      refine lv_istore (lv' := [(7, .int 0), (6, .int 0), (5, .ref v_3), (4, .ref q_2), (0, .ref h), (1, .int n), (2, .int x1), (3, .int x2)]) hx hb dX5_runActs_36 hl (by decide) rfl (fun ls hl => ?_)
      refine lv_iconst (v := 0) hx hb dX5_runActs_38 (by decide) ?_
      refine lv_istore (lv' := [(8, .int 0), (7, .int 0), (6, .int 0), (5, .ref v_3), (4, .ref q_2), (0, .ref h), (1, .int n), (2, .int x1), (3, .int x2)]) hx hb dX5_runActs_39 hl (by decide) rfl (fun ls hl => ?_)
      refine lv_iconst (v := 0) hx hb dX5_runActs_41 (by decide) ?_
      refine lv_istore (lv' := [(9, .int 0), (8, .int 0), (7, .int 0), (6, .int 0), (5, .ref v_3), (4, .ref q_2), (0, .ref h), (1, .int n), (2, .int x1), (3, .int x2)]) hx hb dX5_runActs_42 hl (by decide) rfl (fun ls hl => ?_)
      exact lt_s_runActs2_a l D cI cZ cS cR N0 g h n x1 x2 r_h l_n u_n hB hr   8 g (0 : Int32) (0 : Int32) (0 : Int32) (0 : Int32) q_2 v_3 H locs ls hT hI hE hM (by decide) (by decide) (by decide) (by decide) (by decide) (by decide) r_q_2 r_v_3 (by have e0_ : (0 : Int32).toInt = 0 := (by decide); omega) (lv_sub hl [0, 1, 2, 3, 4, 5, 6, 7, 8, 9] rfl)
abbrev md_s_serve2 : Nat → Nat → Bool := mdf [(4, 2), (4, 5), (4, 10), (4, 11), (4, 14), (6, 4), (6, 5), (6, 7), (50, 99)]
theorem mdle_s_serve2_s_answerNewest {r k : Nat} (h : md_s_serve2 r k = false) : md_s_answerNewest r k = false := mdf_le (by decide +kernel) h
theorem mdle_s_serve2_s_beginKnown {r k : Nat} (h : md_s_serve2 r k = false) : md_s_beginKnown r k = false := mdf_le (by decide +kernel) h
theorem mdle_s_serve2_s_keep {r k : Nat} (h : md_s_serve2 r k = false) : md_s_keep r k = false := mdf_le (by decide +kernel) h
theorem mdle_s_serve2_s_runActs2 {r k : Nat} (h : md_s_serve2 r k = false) : md_s_runActs2 r k = false := mdf_le (by decide +kernel) h
set_option maxHeartbeats 4000000 in
set_option maxRecDepth 100000 in
theorem s_serve2 (l : Launch) (D : va_G) (cI cZ cS cR : ClassId) (N0 : NT) (g : GS) (hI : Inv g) (h : Nat) (n : Int32) (x1 : Int32) (x2 : Int32) (r_h : g.1 h = 6) (l_n : 3 ≤ n.toInt) (u_n : n.toInt ≤ 5) : Ty l D cI cZ cS cR N0 yX5_serve cX5_serve 9 (some .int) 6 0 0 [.ref h, .int n, .int x1, .int x2] g (fun v g' => ∃ (r : Int32), v = some (.int r) ∧ Inv g' ∧ Ex g g' ∧ Sm md_s_serve2 g g') := by
  refine t_enter (by decide) (Nat.le_of_ble_eq_true rfl) ?_
  intro p e s m args below meth c ls H locs hB hr hin hl hT
  have hx := hB.1
  have hb := hB.2.1
  have hl : lv_has ls 9 [(0, .ref h), (1, .int n), (2, .int x1), (3, .int x2)] := hl
  have hE : Ex g g := Ex.rf
  have hM : Sm md_s_serve2 g g := Sm.rf
  refine lv_aload_n hx hb dX5_serve_0 rfl (lv_at hl 0 rfl) ?_
  obtain ⟨v_1, e_v_1, r_v_1, n_v_1⟩ := f_6_0 hI r_h
  refine t_get (ci := 5) (v := .ref v_1) hB hT (ro_ci r_h rfl) rfl 0 (by decide) k_199 e_v_1 dX5_serve_1 ?_
  refine lv_iload_n hx hb dX5_serve_4 rfl (lv_at hl 1 rfl) ?_
  have i_q_2 : vp_in n 6 := (i_in (n := 6) rfl (by omega) (by omega))
  obtain ⟨q_2, e_q_2, r_q_2⟩ := hI.q r_v_1 n_v_1 (i_cl i_q_2)
  refine t_aald hB hT (Or.inl r_v_1) n_v_1 i_q_2 e_q_2 dX5_serve_5 ?_
  refine lv_astore (lv' := [(4, .ref q_2), (0, .ref h), (1, .int n), (2, .int x1), (3, .int x2)]) hx hb dX5_serve_6 hl (by decide) rfl (fun ls hl => ?_)
  refine lv_iload_n hx hb dX5_serve_8 rfl (lv_at hl 4 rfl) ?_
  refine lv_if_eq (tgt := 25) hx hb dX5_serve_9 (by decide) (fun c_3 => ?_) (fun c_3 => ?_)
  · have c_3' : x2.toInt = 0 := i_eq c_3 rfl (by decide)
    refine lv_iconst (v := 0) hx hb dX5_serve_25 (by decide) ?_
    refine lv_istore (lv' := [(5, .int 0), (4, .ref q_2), (0, .ref h), (1, .int n), (2, .int x1), (3, .int x2)]) hx hb dX5_serve_26 hl (by decide) rfl (fun ls hl => ?_)
    refine lv_iload hx hb dX5_serve_28 (lv_at hl 0 rfl) ?_
    refine lv_if_eq (tgt := 46) hx hb dX5_serve_30 (by decide) (fun c_ => ?_) (fun c_ => absurd (by decide) c_)
    refine lv_iconst (v := 0) hx hb dX5_serve_46 (by decide) ?_
    refine lv_istore (lv' := [(6, .int 0), (5, .int 0), (4, .ref q_2), (0, .ref h), (1, .int n), (2, .int x1), (3, .int x2)]) hx hb dX5_serve_47 hl (by decide) rfl (fun ls hl => ?_)
    refine lv_iload hx hb dX5_serve_49 (lv_at hl 1 rfl) ?_
    refine lv_if_eq (tgt := 63) hx hb dX5_serve_51 (by decide) (fun c_ => ?_) (fun c_ => absurd (by decide) c_)
    refine lv_iconst (v := (-1)) hx hb dX5_serve_63 (by decide) ?_
    refine lv_istore (lv' := [(7, .int (-1)), (6, .int 0), (5, .int 0), (4, .ref q_2), (0, .ref h), (1, .int n), (2, .int x1), (3, .int x2)]) hx hb dX5_serve_64 hl (by decide) rfl (fun ls hl => ?_)
    refine lv_iload hx hb dX5_serve_66 (lv_at hl 0 rfl) ?_
    refine lv_iconst (v := (-1)) hx hb dX5_serve_68 (by decide) ?_
    refine lv_icmp_eq (tgt := 81) hx hb dX5_serve_69 (by decide) (fun c_ => ?_) (fun c_ => absurd (by decide) c_)
    refine lv_iload hx hb dX5_serve_81 (lv_at hl 1 rfl) ?_
    refine lv_if_eq (tgt := 98) hx hb dX5_serve_83 (by decide) (fun c_ => ?_) (fun c_ => absurd (by decide) c_)
    refine lv_aload hx hb dX5_serve_98 (lv_at hl 3 rfl) ?_
    refine lv_iload_n hx hb dX5_serve_100 rfl (lv_at hl 6 rfl) ?_
    refine lv_iload_n hx hb dX5_serve_101 rfl (lv_at hl 7 rfl) ?_
    refine t_callV (n := 2) (As := [.int x1, .int x2]) (rest := []) (ci := 3) hB hT hl.1 (s_beginKnown l D cI cZ cS cR N0 g hI q_2 x1 x2 r_q_2) (ro_ci r_q_2 rfl) rfl k_529 k_60 k_526 k_527 k_528 (by decide +kernel) ⟨(Nat.le_of_ble_eq_true rfl), (Nat.le_of_ble_eq_true rfl)⟩ rfl (Nat.le_of_ble_eq_true rfl) ⟨(Nat.le_of_ble_eq_true rfl), (Nat.le_of_ble_eq_true rfl)⟩ dX5_serve_102 (fun v g_4 H locs hp hT => ?_)
    obtain ⟨rfl, hI, x_6, m_5⟩ := hp
    have hM : Sm md_s_serve2 g g_4 := hM.tr hE (m_5.mo (fun r k h => mdle_s_serve2_s_beginKnown h))
    have hE : Ex g g_4 := hE.tr x_6
    have r_7 : g_4.1 h = 6 := (Ex.r x_6 r_h (by decide))
    have r_8 : g_4.1 v_1 = 41 := (Ex.r x_6 r_v_1 (by decide))
    have r_9 : g_4.1 q_2 = 4 := (Ex.r x_6 r_q_2 (by decide))
    have n_10 : g_4.2.2.1 v_1 = 6 := (Ex.n x_6 r_v_1 (by decide) n_v_1)
    have kn_11 : g_4.2.1 h 0 = .ref v_1 := (Sm.v m_5 r_h (by decide) rfl e_v_1)
    refine W.eq (g2 := F0 m 105 ls []) rfl ?_
    refine lv_aload_n hx hb dX5_serve_105 rfl (lv_at hl 4 rfl) ?_
    refine lv_iload_n hx hb dX5_serve_106 rfl (lv_at hl 5 rfl) ?_
    refine lv_iload_n hx hb dX5_serve_107 rfl (lv_at hl 6 rfl) ?_
    refine lv_iload_n hx hb dX5_serve_108 rfl (lv_at hl 7 rfl) ?_
    refine t_callV (n := 3) (As := [.int n, .int x1, .int x2]) (rest := []) (ci := 5) hB hT hl.1 (s_runActs2 l D cI cZ cS cR N0 g_4 hI h n x1 x2 r_7 (by omega) (by omega)) (ro_ci r_7 rfl) rfl k_534 k_59 k_531 k_533 k_13 (by decide +kernel) ⟨(Nat.le_of_ble_eq_true rfl), (Nat.le_of_ble_eq_true rfl)⟩ rfl (Nat.le_of_ble_eq_true rfl) ⟨(Nat.le_of_ble_eq_true rfl), (Nat.le_of_ble_eq_true rfl)⟩ dX5_serve_109 (fun v g_12 H locs hp hT => ?_)
    obtain ⟨r_13, rfl, hI, x_15, m_14⟩ := hp
    have hM : Sm md_s_serve2 g g_12 := hM.tr hE (m_14.mo (fun r k h => mdle_s_serve2_s_runActs2 h))
    have hE : Ex g g_12 := hE.tr x_15
    have r_16 : g_12.1 h = 6 := (Ex.r x_15 r_7 (by decide))
    have r_17 : g_12.1 v_1 = 41 := (Ex.r x_15 r_8 (by decide))
    have r_18 : g_12.1 q_2 = 4 := (Ex.r x_15 r_9 (by decide))
    have n_19 : g_12.2.2.1 v_1 = 6 := (Ex.n x_15 r_8 (by decide) n_10)
    have kn_20 : g_12.2.1 h 0 = .ref v_1 := (Sm.v m_14 r_7 (by decide) rfl kn_11)
    refine W.eq (g2 := F0 m 112 ls [.int r_13]) rfl ?_
    refine lv_istore (lv' := [(8, .int r_13), (7, .int (-1)), (6, .int 0), (5, .int 0), (4, .ref q_2), (0, .ref h), (1, .int n), (2, .int x1), (3, .int x2)]) hx hb dX5_serve_112 hl (by decide) rfl (fun ls hl => ?_)
    refine lv_aload_n hx hb dX5_serve_114 rfl (lv_at hl 5 rfl) ?_
    obtain ⟨v_21, e_v_21, l_v_21, u_v_21⟩ := f_6_7 hI r_16
    refine t_get (ci := 5) (v := .int v_21) hB hT (ro_ci r_16 rfl) rfl 7 (by decide) k_216 e_v_21 dX5_serve_115 ?_
    refine lv_if_eq (tgt := 124) hx hb dX5_serve_118 (by decide) (fun c_22 => ?_) (fun c_22 => ?_)
    · have c_22' : v_21.toInt = 0 := i_eq c_22 rfl (by decide)
      refine lv_iload hx hb dX5_serve_124 (lv_at hl 2 rfl) ?_
      refine lv_if_eq (tgt := 140) hx hb dX5_serve_126 (by decide) (fun c_ => ?_) (fun c_ => absurd (by decide) c_)
      refine lv_iload hx hb dX5_serve_140 (lv_at hl 3 rfl) ?_
      refine lv_if_eq (tgt := 158) hx hb dX5_serve_142 (by decide) (fun c_ => ?_) (fun c_ => absurd (by decide) c_)
      refine lv_iload hx hb dX5_serve_158 (lv_at hl 0 rfl) ?_
      exact t_iret hB hr hT (Nat.le_of_ble_eq_true rfl) (Nat.le_of_ble_eq_true rfl) dX5_serve_160 ⟨r_13, rfl, hI, hE, hM⟩
    · have c_22' : v_21.toInt ≠ 0 := i_ne c_22 rfl (by decide)
      refine lv_bipush (v := (-2)) hx hb dX5_serve_121 (by decide) ?_
      exact t_iret hB hr hT (Nat.le_of_ble_eq_true rfl) (Nat.le_of_ble_eq_true rfl) dX5_serve_123 ⟨(-2), rfl, hI, hE, hM⟩
  · have c_3' : x2.toInt ≠ 0 := i_ne c_3 rfl (by decide)
    refine lv_aload hx hb dX5_serve_12 (lv_at hl 0 rfl) ?_
    refine lv_iconst (v := 0) hx hb dX5_serve_14 (by decide) ?_
    refine t_callV (n := 1) (As := [.int 0]) (rest := []) (ci := 3) hB hT hl.1 (s_isMended l D cI cZ cS cR N0 g hI q_2 0 r_q_2) (ro_ci r_q_2 rfl) rfl k_512 k_60 k_509 k_510 k_511 (by decide +kernel) ⟨(Nat.le_of_ble_eq_true rfl), (Nat.le_of_ble_eq_true rfl)⟩ rfl (Nat.le_of_ble_eq_true rfl) ⟨(Nat.le_of_ble_eq_true rfl), (Nat.le_of_ble_eq_true rfl)⟩ dX5_serve_15 (fun v g_23 H locs hp hT => ?_)
    obtain ⟨r_24, rfl, eg, f_25⟩ := hp
    rw [eg] at hT
    clear eg
    refine W.eq (g2 := F0 m 18 ls [.int r_24]) rfl ?_
    have qc_28 : (0 : Int32).toInt = 0 := (by decide)
    rcases f_25 with rfl | rfl
    · refine W.eq (g2 := F0 m 18 ls [.int 1]) rfl ?_
      refine lv_if_eq (tgt := 25) hx hb dX5_serve_18 (by decide) (fun c_ => absurd c_ (by decide)) (fun c_ => ?_)
      refine lv_iconst (v := 1) hx hb dX5_serve_21 (by decide) ?_
      refine lv_goto (tgt := 26) hx hb dX5_serve_22 (by decide) ?_
      refine lv_istore (lv' := [(5, .int 1), (4, .ref q_2), (0, .ref h), (1, .int n), (2, .int x1), (3, .int x2)]) hx hb dX5_serve_26 hl (by decide) rfl (fun ls hl => ?_)
      refine lv_iload hx hb dX5_serve_28 (lv_at hl 0 rfl) ?_
      refine lv_if_eq (tgt := 46) hx hb dX5_serve_30 (by decide) (fun c_ => absurd c_ (by decide)) (fun c_ => ?_)
      refine lv_aload hx hb dX5_serve_33 (lv_at hl 1 rfl) ?_
      refine lv_iconst (v := 1) hx hb dX5_serve_35 (by decide) ?_
      refine t_callV (n := 1) (As := [.int 1]) (rest := []) (ci := 3) hB hT hl.1 (s_isMended l D cI cZ cS cR N0 g hI q_2 1 r_q_2) (ro_ci r_q_2 rfl) rfl k_512 k_60 k_509 k_510 k_511 (by decide +kernel) ⟨(Nat.le_of_ble_eq_true rfl), (Nat.le_of_ble_eq_true rfl)⟩ rfl (Nat.le_of_ble_eq_true rfl) ⟨(Nat.le_of_ble_eq_true rfl), (Nat.le_of_ble_eq_true rfl)⟩ dX5_serve_36 (fun v g_29 H locs hp hT => ?_)
      obtain ⟨r_30, rfl, eg, f_31⟩ := hp
      rw [eg] at hT
      clear eg
      refine W.eq (g2 := F0 m 39 ls [.int r_30]) rfl ?_
      have qc_34 : (1 : Int32).toInt = 1 := (by decide)
      rcases f_31 with rfl | rfl
      · refine W.eq (g2 := F0 m 39 ls [.int 1]) rfl ?_
        refine lv_if_eq (tgt := 46) hx hb dX5_serve_39 (by decide) (fun c_ => absurd c_ (by decide)) (fun c_ => ?_)
        refine lv_iconst (v := 1) hx hb dX5_serve_42 (by decide) ?_
        refine lv_goto (tgt := 47) hx hb dX5_serve_43 (by decide) ?_
        refine lv_istore (lv' := [(6, .int 1), (5, .int 1), (4, .ref q_2), (0, .ref h), (1, .int n), (2, .int x1), (3, .int x2)]) hx hb dX5_serve_47 hl (by decide) rfl (fun ls hl => ?_)
        refine lv_iload hx hb dX5_serve_49 (lv_at hl 1 rfl) ?_
        refine lv_if_eq (tgt := 63) hx hb dX5_serve_51 (by decide) (fun c_ => absurd c_ (by decide)) (fun c_ => ?_)
        refine lv_aload hx hb dX5_serve_54 (lv_at hl 2 rfl) ?_
        refine lv_iload_n hx hb dX5_serve_56 rfl (lv_at hl 6 rfl) ?_
        refine t_callV (n := 1) (As := [.int x2]) (rest := []) (ci := 3) hB hT hl.1 (s_placeOfKey l D cI cZ cS cR N0 g hI q_2 x2 r_q_2) (ro_ci r_q_2 rfl) rfl k_516 k_60 k_513 k_514 k_515 (by decide +kernel) ⟨(Nat.le_of_ble_eq_true rfl), (Nat.le_of_ble_eq_true rfl)⟩ rfl (Nat.le_of_ble_eq_true rfl) ⟨(Nat.le_of_ble_eq_true rfl), (Nat.le_of_ble_eq_true rfl)⟩ dX5_serve_57 (fun v g_35 H locs hp hT => ?_)
        obtain ⟨r_36, rfl, eg, f_37⟩ := hp
        rw [eg] at hT
        clear eg
        refine W.eq (g2 := F0 m 60 ls [.int r_36]) rfl ?_
        rcases f_37 with rfl | ⟨hw_40, hw_41⟩
        · refine W.eq (g2 := F0 m 60 ls [.int (-1)]) rfl ?_
          refine lv_goto (tgt := 64) hx hb dX5_serve_60 (by decide) ?_
          refine lv_istore (lv' := [(7, .int (-1)), (6, .int 1), (5, .int 1), (4, .ref q_2), (0, .ref h), (1, .int n), (2, .int x1), (3, .int x2)]) hx hb dX5_serve_64 hl (by decide) rfl (fun ls hl => ?_)
          refine lv_iload hx hb dX5_serve_66 (lv_at hl 0 rfl) ?_
          refine lv_iconst (v := (-1)) hx hb dX5_serve_68 (by decide) ?_
          refine lv_icmp_eq (tgt := 81) hx hb dX5_serve_69 (by decide) (fun c_ => ?_) (fun c_ => absurd (by decide) c_)
          refine lv_iload hx hb dX5_serve_81 (lv_at hl 1 rfl) ?_
          refine lv_if_eq (tgt := 98) hx hb dX5_serve_83 (by decide) (fun c_ => absurd c_ (by decide)) (fun c_ => ?_)
          refine lv_aload hx hb dX5_serve_86 (lv_at hl 3 rfl) ?_
          refine lv_iload_n hx hb dX5_serve_88 rfl (lv_at hl 7 rfl) ?_
          refine lv_iload_n hx hb dX5_serve_89 rfl (lv_at hl 6 rfl) ?_
          refine lv_iconst (v := 0) hx hb dX5_serve_90 (by decide) ?_
          refine lv_aload_n hx hb dX5_serve_91 rfl (lv_at hl 4 rfl) ?_
          obtain ⟨v_42, e_v_42⟩ := f_6_2 hI r_h
          refine t_get (ci := 5) (v := .int v_42) hB hT (ro_ci r_h rfl) rfl 2 (by decide) k_205 e_v_42 dX5_serve_92 ?_
          refine t_callV (n := 4) (As := [.int x2, .int x1, .int 0, .int v_42]) (rest := []) (ci := 3) hB hT hl.1 (s_keep l D cI cZ cS cR N0 g hI q_2 x2 x1 0 v_42 r_q_2) (ro_ci r_q_2 rfl) rfl k_524 k_60 k_521 k_522 k_523 (by decide +kernel) ⟨(Nat.le_of_ble_eq_true rfl), (Nat.le_of_ble_eq_true rfl)⟩ rfl (Nat.le_of_ble_eq_true rfl) ⟨(Nat.le_of_ble_eq_true rfl), (Nat.le_of_ble_eq_true rfl)⟩ dX5_serve_95 (fun v g_43 H locs hp hT => ?_)
          obtain ⟨rfl, hI, x_45, m_44⟩ := hp
          have hM : Sm md_s_serve2 g g_43 := hM.tr hE (m_44.mo (fun r k h => mdle_s_serve2_s_keep h))
          have hE : Ex g g_43 := hE.tr x_45
          have r_46 : g_43.1 h = 6 := (Ex.r x_45 r_h (by decide))
          have r_47 : g_43.1 v_1 = 41 := (Ex.r x_45 r_v_1 (by decide))
          have r_48 : g_43.1 q_2 = 4 := (Ex.r x_45 r_q_2 (by decide))
          have n_49 : g_43.2.2.1 v_1 = 6 := (Ex.n x_45 r_v_1 (by decide) n_v_1)
          have kn_50 : g_43.2.1 h 0 = .ref v_1 := (Sm.v m_44 r_h (by decide) rfl e_v_1)
          have kn_51 : g_43.2.1 h 2 = .int v_42 := (Sm.v m_44 r_h (by decide) rfl e_v_42)
          refine W.eq (g2 := F0 m 98 ls []) rfl ?_
          refine lv_aload hx hb dX5_serve_98 (lv_at hl 3 rfl) ?_
          refine lv_iload_n hx hb dX5_serve_100 rfl (lv_at hl 6 rfl) ?_
          refine lv_iload_n hx hb dX5_serve_101 rfl (lv_at hl 7 rfl) ?_
          refine t_callV (n := 2) (As := [.int x1, .int x2]) (rest := []) (ci := 3) hB hT hl.1 (s_beginKnown l D cI cZ cS cR N0 g_43 hI q_2 x1 x2 r_48) (ro_ci r_48 rfl) rfl k_529 k_60 k_526 k_527 k_528 (by decide +kernel) ⟨(Nat.le_of_ble_eq_true rfl), (Nat.le_of_ble_eq_true rfl)⟩ rfl (Nat.le_of_ble_eq_true rfl) ⟨(Nat.le_of_ble_eq_true rfl), (Nat.le_of_ble_eq_true rfl)⟩ dX5_serve_102 (fun v g_52 H locs hp hT => ?_)
          obtain ⟨rfl, hI, x_54, m_53⟩ := hp
          have hM : Sm md_s_serve2 g g_52 := hM.tr hE (m_53.mo (fun r k h => mdle_s_serve2_s_beginKnown h))
          have hE : Ex g g_52 := hE.tr x_54
          have r_55 : g_52.1 h = 6 := (Ex.r x_54 r_46 (by decide))
          have r_56 : g_52.1 v_1 = 41 := (Ex.r x_54 r_47 (by decide))
          have r_57 : g_52.1 q_2 = 4 := (Ex.r x_54 r_48 (by decide))
          have n_58 : g_52.2.2.1 v_1 = 6 := (Ex.n x_54 r_47 (by decide) n_49)
          have kn_59 : g_52.2.1 h 0 = .ref v_1 := (Sm.v m_53 r_46 (by decide) rfl kn_50)
          have kn_60 : g_52.2.1 h 2 = .int v_42 := (Sm.v m_53 r_46 (by decide) rfl kn_51)
          refine W.eq (g2 := F0 m 105 ls []) rfl ?_
          refine lv_aload_n hx hb dX5_serve_105 rfl (lv_at hl 4 rfl) ?_
          refine lv_iload_n hx hb dX5_serve_106 rfl (lv_at hl 5 rfl) ?_
          refine lv_iload_n hx hb dX5_serve_107 rfl (lv_at hl 6 rfl) ?_
          refine lv_iload_n hx hb dX5_serve_108 rfl (lv_at hl 7 rfl) ?_
          refine t_callV (n := 3) (As := [.int n, .int x1, .int x2]) (rest := []) (ci := 5) hB hT hl.1 (s_runActs2 l D cI cZ cS cR N0 g_52 hI h n x1 x2 r_55 (by omega) (by omega)) (ro_ci r_55 rfl) rfl k_534 k_59 k_531 k_533 k_13 (by decide +kernel) ⟨(Nat.le_of_ble_eq_true rfl), (Nat.le_of_ble_eq_true rfl)⟩ rfl (Nat.le_of_ble_eq_true rfl) ⟨(Nat.le_of_ble_eq_true rfl), (Nat.le_of_ble_eq_true rfl)⟩ dX5_serve_109 (fun v g_61 H locs hp hT => ?_)
          obtain ⟨r_62, rfl, hI, x_64, m_63⟩ := hp
          have hM : Sm md_s_serve2 g g_61 := hM.tr hE (m_63.mo (fun r k h => mdle_s_serve2_s_runActs2 h))
          have hE : Ex g g_61 := hE.tr x_64
          have r_65 : g_61.1 h = 6 := (Ex.r x_64 r_55 (by decide))
          have r_66 : g_61.1 v_1 = 41 := (Ex.r x_64 r_56 (by decide))
          have r_67 : g_61.1 q_2 = 4 := (Ex.r x_64 r_57 (by decide))
          have n_68 : g_61.2.2.1 v_1 = 6 := (Ex.n x_64 r_56 (by decide) n_58)
          have kn_69 : g_61.2.1 h 0 = .ref v_1 := (Sm.v m_63 r_55 (by decide) rfl kn_59)
          have kn_70 : g_61.2.1 h 2 = .int v_42 := (Sm.v m_63 r_55 (by decide) rfl kn_60)
          refine W.eq (g2 := F0 m 112 ls [.int r_62]) rfl ?_
          refine lv_istore (lv' := [(8, .int r_62), (7, .int (-1)), (6, .int 1), (5, .int 1), (4, .ref q_2), (0, .ref h), (1, .int n), (2, .int x1), (3, .int x2)]) hx hb dX5_serve_112 hl (by decide) rfl (fun ls hl => ?_)
          refine lv_aload_n hx hb dX5_serve_114 rfl (lv_at hl 5 rfl) ?_
          obtain ⟨v_71, e_v_71, l_v_71, u_v_71⟩ := f_6_7 hI r_65
          refine t_get (ci := 5) (v := .int v_71) hB hT (ro_ci r_65 rfl) rfl 7 (by decide) k_216 e_v_71 dX5_serve_115 ?_
          refine lv_if_eq (tgt := 124) hx hb dX5_serve_118 (by decide) (fun c_72 => ?_) (fun c_72 => ?_)
          · have c_72' : v_71.toInt = 0 := i_eq c_72 rfl (by decide)
            refine lv_iload hx hb dX5_serve_124 (lv_at hl 2 rfl) ?_
            refine lv_if_eq (tgt := 140) hx hb dX5_serve_126 (by decide) (fun c_ => absurd c_ (by decide)) (fun c_ => ?_)
            refine lv_aload hx hb dX5_serve_129 (lv_at hl 4 rfl) ?_
            refine lv_iload_n hx hb dX5_serve_131 rfl (lv_at hl 8 rfl) ?_
            refine lv_iload hx hb dX5_serve_132 (lv_at hl 0 rfl) ?_
            refine t_callV (n := 2) (As := [.int x2, .int r_62]) (rest := []) (ci := 3) hB hT hl.1 (s_answerNewest l D cI cZ cS cR N0 g_61 hI q_2 x2 r_62 r_67) (ro_ci r_67 rfl) rfl k_554 k_60 k_551 k_552 k_553 (by decide +kernel) ⟨(Nat.le_of_ble_eq_true rfl), (Nat.le_of_ble_eq_true rfl)⟩ rfl (Nat.le_of_ble_eq_true rfl) ⟨(Nat.le_of_ble_eq_true rfl), (Nat.le_of_ble_eq_true rfl)⟩ dX5_serve_134 (fun v g_73 H locs hp hT => ?_)
            obtain ⟨rfl, hI, x_75, m_74⟩ := hp
            have hM : Sm md_s_serve2 g g_73 := hM.tr hE (m_74.mo (fun r k h => mdle_s_serve2_s_answerNewest h))
            have hE : Ex g g_73 := hE.tr x_75
            have r_76 : g_73.1 h = 6 := (Ex.r x_75 r_65 (by decide))
            have r_77 : g_73.1 v_1 = 41 := (Ex.r x_75 r_66 (by decide))
            have r_78 : g_73.1 q_2 = 4 := (Ex.r x_75 r_67 (by decide))
            have n_79 : g_73.2.2.1 v_1 = 6 := (Ex.n x_75 r_66 (by decide) n_68)
            have kn_80 : g_73.2.1 h 0 = .ref v_1 := (Sm.v m_74 r_65 (by decide) rfl kn_69)
            have kn_81 : g_73.2.1 h 2 = .int v_42 := (Sm.v m_74 r_65 (by decide) rfl kn_70)
            have kn_82 : g_73.2.1 h 7 = .int v_71 := (Sm.v m_74 r_65 (by decide) rfl e_v_71)
            refine W.eq (g2 := F0 m 137 ls []) rfl ?_
            refine lv_goto (tgt := 158) hx hb dX5_serve_137 (by decide) ?_
            refine lv_iload hx hb dX5_serve_158 (lv_at hl 0 rfl) ?_
            exact t_iret hB hr hT (Nat.le_of_ble_eq_true rfl) (Nat.le_of_ble_eq_true rfl) dX5_serve_160 ⟨r_62, rfl, hI, hE, hM⟩
          · have c_72' : v_71.toInt ≠ 0 := i_ne c_72 rfl (by decide)
            refine lv_bipush (v := (-2)) hx hb dX5_serve_121 (by decide) ?_
            exact t_iret hB hr hT (Nat.le_of_ble_eq_true rfl) (Nat.le_of_ble_eq_true rfl) dX5_serve_123 ⟨(-2), rfl, hI, hE, hM⟩
        · refine W.eq (g2 := F0 m 60 ls [.int r_36]) rfl ?_
          refine lv_goto (tgt := 64) hx hb dX5_serve_60 (by decide) ?_
          refine lv_istore (lv' := [(7, .int r_36), (6, .int 1), (5, .int 1), (4, .ref q_2), (0, .ref h), (1, .int n), (2, .int x1), (3, .int x2)]) hx hb dX5_serve_64 hl (by decide) rfl (fun ls hl => ?_)
          refine lv_iload hx hb dX5_serve_66 (lv_at hl 0 rfl) ?_
          refine lv_iconst (v := (-1)) hx hb dX5_serve_68 (by decide) ?_
          refine lv_icmp_eq (tgt := 81) hx hb dX5_serve_69 (by decide) (fun c_83 => ?_) (fun c_83 => ?_)
          · have c_83' : r_36.toInt = (-1) := i_eq c_83 rfl (by decide)
            exact absurd c_83' (by omega)
          · have c_83' : r_36.toInt ≠ (-1) := i_ne c_83 rfl (by decide)
            refine lv_aload hx hb dX5_serve_72 (lv_at hl 3 rfl) ?_
            refine lv_iload hx hb dX5_serve_74 (lv_at hl 0 rfl) ?_
            refine lv_iload_n hx hb dX5_serve_76 rfl (lv_at hl 6 rfl) ?_
            refine t_callV (n := 2) (As := [.int r_36, .int x1]) (rest := []) (ci := 3) hB hT hl.1 (s_keptAnswer l D cI cZ cS cR N0 g hI q_2 r_36 x1 r_q_2 (by omega) (by omega)) (ro_ci r_q_2 rfl) rfl k_520 k_60 k_517 k_518 k_519 (by decide +kernel) ⟨(Nat.le_of_ble_eq_true rfl), (Nat.le_of_ble_eq_true rfl)⟩ rfl (Nat.le_of_ble_eq_true rfl) ⟨(Nat.le_of_ble_eq_true rfl), (Nat.le_of_ble_eq_true rfl)⟩ dX5_serve_77 (fun v g_84 H locs hp hT => ?_)
            obtain ⟨r_85, rfl, eg⟩ := hp
            rw [eg] at hT
            clear eg
            refine W.eq (g2 := F0 m 80 ls [.int r_85]) rfl ?_
            exact t_iret hB hr hT (Nat.le_of_ble_eq_true rfl) (Nat.le_of_ble_eq_true rfl) dX5_serve_80 ⟨r_85, rfl, hI, hE, hM⟩
      · refine W.eq (g2 := F0 m 39 ls [.int 0]) rfl ?_
        refine lv_if_eq (tgt := 46) hx hb dX5_serve_39 (by decide) (fun c_ => ?_) (fun c_ => absurd (by decide) c_)
        refine lv_iconst (v := 0) hx hb dX5_serve_46 (by decide) ?_
        refine lv_istore (lv' := [(6, .int 0), (5, .int 1), (4, .ref q_2), (0, .ref h), (1, .int n), (2, .int x1), (3, .int x2)]) hx hb dX5_serve_47 hl (by decide) rfl (fun ls hl => ?_)
        refine lv_iload hx hb dX5_serve_49 (lv_at hl 1 rfl) ?_
        refine lv_if_eq (tgt := 63) hx hb dX5_serve_51 (by decide) (fun c_ => absurd c_ (by decide)) (fun c_ => ?_)
        refine lv_aload hx hb dX5_serve_54 (lv_at hl 2 rfl) ?_
        refine lv_iload_n hx hb dX5_serve_56 rfl (lv_at hl 6 rfl) ?_
        refine t_callV (n := 1) (As := [.int x2]) (rest := []) (ci := 3) hB hT hl.1 (s_placeOfKey l D cI cZ cS cR N0 g hI q_2 x2 r_q_2) (ro_ci r_q_2 rfl) rfl k_516 k_60 k_513 k_514 k_515 (by decide +kernel) ⟨(Nat.le_of_ble_eq_true rfl), (Nat.le_of_ble_eq_true rfl)⟩ rfl (Nat.le_of_ble_eq_true rfl) ⟨(Nat.le_of_ble_eq_true rfl), (Nat.le_of_ble_eq_true rfl)⟩ dX5_serve_57 (fun v g_88 H locs hp hT => ?_)
        obtain ⟨r_89, rfl, eg, f_90⟩ := hp
        rw [eg] at hT
        clear eg
        refine W.eq (g2 := F0 m 60 ls [.int r_89]) rfl ?_
        rcases f_90 with rfl | ⟨hw_93, hw_94⟩
        · refine W.eq (g2 := F0 m 60 ls [.int (-1)]) rfl ?_
          refine lv_goto (tgt := 64) hx hb dX5_serve_60 (by decide) ?_
          refine lv_istore (lv' := [(7, .int (-1)), (6, .int 0), (5, .int 1), (4, .ref q_2), (0, .ref h), (1, .int n), (2, .int x1), (3, .int x2)]) hx hb dX5_serve_64 hl (by decide) rfl (fun ls hl => ?_)
          refine lv_iload hx hb dX5_serve_66 (lv_at hl 0 rfl) ?_
          refine lv_iconst (v := (-1)) hx hb dX5_serve_68 (by decide) ?_
          refine lv_icmp_eq (tgt := 81) hx hb dX5_serve_69 (by decide) (fun c_ => ?_) (fun c_ => absurd (by decide) c_)
          refine lv_iload hx hb dX5_serve_81 (lv_at hl 1 rfl) ?_
          refine lv_if_eq (tgt := 98) hx hb dX5_serve_83 (by decide) (fun c_ => ?_) (fun c_ => absurd (by decide) c_)
          refine lv_aload hx hb dX5_serve_98 (lv_at hl 3 rfl) ?_
          refine lv_iload_n hx hb dX5_serve_100 rfl (lv_at hl 6 rfl) ?_
          refine lv_iload_n hx hb dX5_serve_101 rfl (lv_at hl 7 rfl) ?_
          refine t_callV (n := 2) (As := [.int x1, .int x2]) (rest := []) (ci := 3) hB hT hl.1 (s_beginKnown l D cI cZ cS cR N0 g hI q_2 x1 x2 r_q_2) (ro_ci r_q_2 rfl) rfl k_529 k_60 k_526 k_527 k_528 (by decide +kernel) ⟨(Nat.le_of_ble_eq_true rfl), (Nat.le_of_ble_eq_true rfl)⟩ rfl (Nat.le_of_ble_eq_true rfl) ⟨(Nat.le_of_ble_eq_true rfl), (Nat.le_of_ble_eq_true rfl)⟩ dX5_serve_102 (fun v g_95 H locs hp hT => ?_)
          obtain ⟨rfl, hI, x_97, m_96⟩ := hp
          have hM : Sm md_s_serve2 g g_95 := hM.tr hE (m_96.mo (fun r k h => mdle_s_serve2_s_beginKnown h))
          have hE : Ex g g_95 := hE.tr x_97
          have r_98 : g_95.1 h = 6 := (Ex.r x_97 r_h (by decide))
          have r_99 : g_95.1 v_1 = 41 := (Ex.r x_97 r_v_1 (by decide))
          have r_100 : g_95.1 q_2 = 4 := (Ex.r x_97 r_q_2 (by decide))
          have n_101 : g_95.2.2.1 v_1 = 6 := (Ex.n x_97 r_v_1 (by decide) n_v_1)
          have kn_102 : g_95.2.1 h 0 = .ref v_1 := (Sm.v m_96 r_h (by decide) rfl e_v_1)
          refine W.eq (g2 := F0 m 105 ls []) rfl ?_
          refine lv_aload_n hx hb dX5_serve_105 rfl (lv_at hl 4 rfl) ?_
          refine lv_iload_n hx hb dX5_serve_106 rfl (lv_at hl 5 rfl) ?_
          refine lv_iload_n hx hb dX5_serve_107 rfl (lv_at hl 6 rfl) ?_
          refine lv_iload_n hx hb dX5_serve_108 rfl (lv_at hl 7 rfl) ?_
          refine t_callV (n := 3) (As := [.int n, .int x1, .int x2]) (rest := []) (ci := 5) hB hT hl.1 (s_runActs2 l D cI cZ cS cR N0 g_95 hI h n x1 x2 r_98 (by omega) (by omega)) (ro_ci r_98 rfl) rfl k_534 k_59 k_531 k_533 k_13 (by decide +kernel) ⟨(Nat.le_of_ble_eq_true rfl), (Nat.le_of_ble_eq_true rfl)⟩ rfl (Nat.le_of_ble_eq_true rfl) ⟨(Nat.le_of_ble_eq_true rfl), (Nat.le_of_ble_eq_true rfl)⟩ dX5_serve_109 (fun v g_103 H locs hp hT => ?_)
          obtain ⟨r_104, rfl, hI, x_106, m_105⟩ := hp
          have hM : Sm md_s_serve2 g g_103 := hM.tr hE (m_105.mo (fun r k h => mdle_s_serve2_s_runActs2 h))
          have hE : Ex g g_103 := hE.tr x_106
          have r_107 : g_103.1 h = 6 := (Ex.r x_106 r_98 (by decide))
          have r_108 : g_103.1 v_1 = 41 := (Ex.r x_106 r_99 (by decide))
          have r_109 : g_103.1 q_2 = 4 := (Ex.r x_106 r_100 (by decide))
          have n_110 : g_103.2.2.1 v_1 = 6 := (Ex.n x_106 r_99 (by decide) n_101)
          have kn_111 : g_103.2.1 h 0 = .ref v_1 := (Sm.v m_105 r_98 (by decide) rfl kn_102)
          refine W.eq (g2 := F0 m 112 ls [.int r_104]) rfl ?_
          refine lv_istore (lv' := [(8, .int r_104), (7, .int (-1)), (6, .int 0), (5, .int 1), (4, .ref q_2), (0, .ref h), (1, .int n), (2, .int x1), (3, .int x2)]) hx hb dX5_serve_112 hl (by decide) rfl (fun ls hl => ?_)
          refine lv_aload_n hx hb dX5_serve_114 rfl (lv_at hl 5 rfl) ?_
          obtain ⟨v_112, e_v_112, l_v_112, u_v_112⟩ := f_6_7 hI r_107
          refine t_get (ci := 5) (v := .int v_112) hB hT (ro_ci r_107 rfl) rfl 7 (by decide) k_216 e_v_112 dX5_serve_115 ?_
          refine lv_if_eq (tgt := 124) hx hb dX5_serve_118 (by decide) (fun c_113 => ?_) (fun c_113 => ?_)
          · have c_113' : v_112.toInt = 0 := i_eq c_113 rfl (by decide)
            refine lv_iload hx hb dX5_serve_124 (lv_at hl 2 rfl) ?_
            refine lv_if_eq (tgt := 140) hx hb dX5_serve_126 (by decide) (fun c_ => ?_) (fun c_ => absurd (by decide) c_)
            refine lv_iload hx hb dX5_serve_140 (lv_at hl 3 rfl) ?_
            refine lv_if_eq (tgt := 158) hx hb dX5_serve_142 (by decide) (fun c_ => absurd c_ (by decide)) (fun c_ => ?_)
            refine lv_aload hx hb dX5_serve_145 (lv_at hl 4 rfl) ?_
            refine lv_iload_n hx hb dX5_serve_147 rfl (lv_at hl 8 rfl) ?_
            refine lv_iload_n hx hb dX5_serve_148 rfl (lv_at hl 7 rfl) ?_
            refine lv_iload hx hb dX5_serve_149 (lv_at hl 0 rfl) ?_
            refine lv_aload_n hx hb dX5_serve_151 rfl (lv_at hl 5 rfl) ?_
            obtain ⟨v_114, e_v_114⟩ := f_6_2 hI r_107
            refine t_get (ci := 5) (v := .int v_114) hB hT (ro_ci r_107 rfl) rfl 2 (by decide) k_205 e_v_114 dX5_serve_152 ?_
            refine t_callV (n := 4) (As := [.int x2, .int x1, .int r_104, .int v_114]) (rest := []) (ci := 3) hB hT hl.1 (s_keep l D cI cZ cS cR N0 g_103 hI q_2 x2 x1 r_104 v_114 r_109) (ro_ci r_109 rfl) rfl k_524 k_60 k_521 k_522 k_523 (by decide +kernel) ⟨(Nat.le_of_ble_eq_true rfl), (Nat.le_of_ble_eq_true rfl)⟩ rfl (Nat.le_of_ble_eq_true rfl) ⟨(Nat.le_of_ble_eq_true rfl), (Nat.le_of_ble_eq_true rfl)⟩ dX5_serve_155 (fun v g_115 H locs hp hT => ?_)
            obtain ⟨rfl, hI, x_117, m_116⟩ := hp
            have hM : Sm md_s_serve2 g g_115 := hM.tr hE (m_116.mo (fun r k h => mdle_s_serve2_s_keep h))
            have hE : Ex g g_115 := hE.tr x_117
            have r_118 : g_115.1 h = 6 := (Ex.r x_117 r_107 (by decide))
            have r_119 : g_115.1 v_1 = 41 := (Ex.r x_117 r_108 (by decide))
            have r_120 : g_115.1 q_2 = 4 := (Ex.r x_117 r_109 (by decide))
            have n_121 : g_115.2.2.1 v_1 = 6 := (Ex.n x_117 r_108 (by decide) n_110)
            have kn_122 : g_115.2.1 h 0 = .ref v_1 := (Sm.v m_116 r_107 (by decide) rfl kn_111)
            have kn_123 : g_115.2.1 h 7 = .int v_112 := (Sm.v m_116 r_107 (by decide) rfl e_v_112)
            have kn_124 : g_115.2.1 h 2 = .int v_114 := (Sm.v m_116 r_107 (by decide) rfl e_v_114)
            refine W.eq (g2 := F0 m 158 ls []) rfl ?_
            refine lv_iload hx hb dX5_serve_158 (lv_at hl 0 rfl) ?_
            exact t_iret hB hr hT (Nat.le_of_ble_eq_true rfl) (Nat.le_of_ble_eq_true rfl) dX5_serve_160 ⟨r_104, rfl, hI, hE, hM⟩
          · have c_113' : v_112.toInt ≠ 0 := i_ne c_113 rfl (by decide)
            refine lv_bipush (v := (-2)) hx hb dX5_serve_121 (by decide) ?_
            exact t_iret hB hr hT (Nat.le_of_ble_eq_true rfl) (Nat.le_of_ble_eq_true rfl) dX5_serve_123 ⟨(-2), rfl, hI, hE, hM⟩
        · refine W.eq (g2 := F0 m 60 ls [.int r_89]) rfl ?_
          refine lv_goto (tgt := 64) hx hb dX5_serve_60 (by decide) ?_
          refine lv_istore (lv' := [(7, .int r_89), (6, .int 0), (5, .int 1), (4, .ref q_2), (0, .ref h), (1, .int n), (2, .int x1), (3, .int x2)]) hx hb dX5_serve_64 hl (by decide) rfl (fun ls hl => ?_)
          refine lv_iload hx hb dX5_serve_66 (lv_at hl 0 rfl) ?_
          refine lv_iconst (v := (-1)) hx hb dX5_serve_68 (by decide) ?_
          refine lv_icmp_eq (tgt := 81) hx hb dX5_serve_69 (by decide) (fun c_125 => ?_) (fun c_125 => ?_)
          · have c_125' : r_89.toInt = (-1) := i_eq c_125 rfl (by decide)
            exact absurd c_125' (by omega)
          · have c_125' : r_89.toInt ≠ (-1) := i_ne c_125 rfl (by decide)
            refine lv_aload hx hb dX5_serve_72 (lv_at hl 3 rfl) ?_
            refine lv_iload hx hb dX5_serve_74 (lv_at hl 0 rfl) ?_
            refine lv_iload_n hx hb dX5_serve_76 rfl (lv_at hl 6 rfl) ?_
            refine t_callV (n := 2) (As := [.int r_89, .int x1]) (rest := []) (ci := 3) hB hT hl.1 (s_keptAnswer l D cI cZ cS cR N0 g hI q_2 r_89 x1 r_q_2 (by omega) (by omega)) (ro_ci r_q_2 rfl) rfl k_520 k_60 k_517 k_518 k_519 (by decide +kernel) ⟨(Nat.le_of_ble_eq_true rfl), (Nat.le_of_ble_eq_true rfl)⟩ rfl (Nat.le_of_ble_eq_true rfl) ⟨(Nat.le_of_ble_eq_true rfl), (Nat.le_of_ble_eq_true rfl)⟩ dX5_serve_77 (fun v g_126 H locs hp hT => ?_)
            obtain ⟨r_127, rfl, eg⟩ := hp
            rw [eg] at hT
            clear eg
            refine W.eq (g2 := F0 m 80 ls [.int r_127]) rfl ?_
            exact t_iret hB hr hT (Nat.le_of_ble_eq_true rfl) (Nat.le_of_ble_eq_true rfl) dX5_serve_80 ⟨r_127, rfl, hI, hE, hM⟩
    · refine W.eq (g2 := F0 m 18 ls [.int 0]) rfl ?_
      refine lv_if_eq (tgt := 25) hx hb dX5_serve_18 (by decide) (fun c_ => ?_) (fun c_ => absurd (by decide) c_)
      refine lv_iconst (v := 0) hx hb dX5_serve_25 (by decide) ?_
      refine lv_istore (lv' := [(5, .int 0), (4, .ref q_2), (0, .ref h), (1, .int n), (2, .int x1), (3, .int x2)]) hx hb dX5_serve_26 hl (by decide) rfl (fun ls hl => ?_)
      refine lv_iload hx hb dX5_serve_28 (lv_at hl 0 rfl) ?_
      refine lv_if_eq (tgt := 46) hx hb dX5_serve_30 (by decide) (fun c_ => ?_) (fun c_ => absurd (by decide) c_)
      refine lv_iconst (v := 0) hx hb dX5_serve_46 (by decide) ?_
      refine lv_istore (lv' := [(6, .int 0), (5, .int 0), (4, .ref q_2), (0, .ref h), (1, .int n), (2, .int x1), (3, .int x2)]) hx hb dX5_serve_47 hl (by decide) rfl (fun ls hl => ?_)
      refine lv_iload hx hb dX5_serve_49 (lv_at hl 1 rfl) ?_
      refine lv_if_eq (tgt := 63) hx hb dX5_serve_51 (by decide) (fun c_ => ?_) (fun c_ => absurd (by decide) c_)
      refine lv_iconst (v := (-1)) hx hb dX5_serve_63 (by decide) ?_
      refine lv_istore (lv' := [(7, .int (-1)), (6, .int 0), (5, .int 0), (4, .ref q_2), (0, .ref h), (1, .int n), (2, .int x1), (3, .int x2)]) hx hb dX5_serve_64 hl (by decide) rfl (fun ls hl => ?_)
      refine lv_iload hx hb dX5_serve_66 (lv_at hl 0 rfl) ?_
      refine lv_iconst (v := (-1)) hx hb dX5_serve_68 (by decide) ?_
      refine lv_icmp_eq (tgt := 81) hx hb dX5_serve_69 (by decide) (fun c_ => ?_) (fun c_ => absurd (by decide) c_)
      refine lv_iload hx hb dX5_serve_81 (lv_at hl 1 rfl) ?_
      refine lv_if_eq (tgt := 98) hx hb dX5_serve_83 (by decide) (fun c_ => ?_) (fun c_ => absurd (by decide) c_)
      refine lv_aload hx hb dX5_serve_98 (lv_at hl 3 rfl) ?_
      refine lv_iload_n hx hb dX5_serve_100 rfl (lv_at hl 6 rfl) ?_
      refine lv_iload_n hx hb dX5_serve_101 rfl (lv_at hl 7 rfl) ?_
      refine t_callV (n := 2) (As := [.int x1, .int x2]) (rest := []) (ci := 3) hB hT hl.1 (s_beginKnown l D cI cZ cS cR N0 g hI q_2 x1 x2 r_q_2) (ro_ci r_q_2 rfl) rfl k_529 k_60 k_526 k_527 k_528 (by decide +kernel) ⟨(Nat.le_of_ble_eq_true rfl), (Nat.le_of_ble_eq_true rfl)⟩ rfl (Nat.le_of_ble_eq_true rfl) ⟨(Nat.le_of_ble_eq_true rfl), (Nat.le_of_ble_eq_true rfl)⟩ dX5_serve_102 (fun v g_130 H locs hp hT => ?_)
      obtain ⟨rfl, hI, x_132, m_131⟩ := hp
      have hM : Sm md_s_serve2 g g_130 := hM.tr hE (m_131.mo (fun r k h => mdle_s_serve2_s_beginKnown h))
      have hE : Ex g g_130 := hE.tr x_132
      have r_133 : g_130.1 h = 6 := (Ex.r x_132 r_h (by decide))
      have r_134 : g_130.1 v_1 = 41 := (Ex.r x_132 r_v_1 (by decide))
      have r_135 : g_130.1 q_2 = 4 := (Ex.r x_132 r_q_2 (by decide))
      have n_136 : g_130.2.2.1 v_1 = 6 := (Ex.n x_132 r_v_1 (by decide) n_v_1)
      have kn_137 : g_130.2.1 h 0 = .ref v_1 := (Sm.v m_131 r_h (by decide) rfl e_v_1)
      refine W.eq (g2 := F0 m 105 ls []) rfl ?_
      refine lv_aload_n hx hb dX5_serve_105 rfl (lv_at hl 4 rfl) ?_
      refine lv_iload_n hx hb dX5_serve_106 rfl (lv_at hl 5 rfl) ?_
      refine lv_iload_n hx hb dX5_serve_107 rfl (lv_at hl 6 rfl) ?_
      refine lv_iload_n hx hb dX5_serve_108 rfl (lv_at hl 7 rfl) ?_
      refine t_callV (n := 3) (As := [.int n, .int x1, .int x2]) (rest := []) (ci := 5) hB hT hl.1 (s_runActs2 l D cI cZ cS cR N0 g_130 hI h n x1 x2 r_133 (by omega) (by omega)) (ro_ci r_133 rfl) rfl k_534 k_59 k_531 k_533 k_13 (by decide +kernel) ⟨(Nat.le_of_ble_eq_true rfl), (Nat.le_of_ble_eq_true rfl)⟩ rfl (Nat.le_of_ble_eq_true rfl) ⟨(Nat.le_of_ble_eq_true rfl), (Nat.le_of_ble_eq_true rfl)⟩ dX5_serve_109 (fun v g_138 H locs hp hT => ?_)
      obtain ⟨r_139, rfl, hI, x_141, m_140⟩ := hp
      have hM : Sm md_s_serve2 g g_138 := hM.tr hE (m_140.mo (fun r k h => mdle_s_serve2_s_runActs2 h))
      have hE : Ex g g_138 := hE.tr x_141
      have r_142 : g_138.1 h = 6 := (Ex.r x_141 r_133 (by decide))
      have r_143 : g_138.1 v_1 = 41 := (Ex.r x_141 r_134 (by decide))
      have r_144 : g_138.1 q_2 = 4 := (Ex.r x_141 r_135 (by decide))
      have n_145 : g_138.2.2.1 v_1 = 6 := (Ex.n x_141 r_134 (by decide) n_136)
      have kn_146 : g_138.2.1 h 0 = .ref v_1 := (Sm.v m_140 r_133 (by decide) rfl kn_137)
      refine W.eq (g2 := F0 m 112 ls [.int r_139]) rfl ?_
      refine lv_istore (lv' := [(8, .int r_139), (7, .int (-1)), (6, .int 0), (5, .int 0), (4, .ref q_2), (0, .ref h), (1, .int n), (2, .int x1), (3, .int x2)]) hx hb dX5_serve_112 hl (by decide) rfl (fun ls hl => ?_)
      refine lv_aload_n hx hb dX5_serve_114 rfl (lv_at hl 5 rfl) ?_
      obtain ⟨v_147, e_v_147, l_v_147, u_v_147⟩ := f_6_7 hI r_142
      refine t_get (ci := 5) (v := .int v_147) hB hT (ro_ci r_142 rfl) rfl 7 (by decide) k_216 e_v_147 dX5_serve_115 ?_
      refine lv_if_eq (tgt := 124) hx hb dX5_serve_118 (by decide) (fun c_148 => ?_) (fun c_148 => ?_)
      · have c_148' : v_147.toInt = 0 := i_eq c_148 rfl (by decide)
        refine lv_iload hx hb dX5_serve_124 (lv_at hl 2 rfl) ?_
        refine lv_if_eq (tgt := 140) hx hb dX5_serve_126 (by decide) (fun c_ => ?_) (fun c_ => absurd (by decide) c_)
        refine lv_iload hx hb dX5_serve_140 (lv_at hl 3 rfl) ?_
        refine lv_if_eq (tgt := 158) hx hb dX5_serve_142 (by decide) (fun c_ => ?_) (fun c_ => absurd (by decide) c_)
        refine lv_iload hx hb dX5_serve_158 (lv_at hl 0 rfl) ?_
        exact t_iret hB hr hT (Nat.le_of_ble_eq_true rfl) (Nat.le_of_ble_eq_true rfl) dX5_serve_160 ⟨r_139, rfl, hI, hE, hM⟩
      · have c_148' : v_147.toInt ≠ 0 := i_ne c_148 rfl (by decide)
        refine lv_bipush (v := (-2)) hx hb dX5_serve_121 (by decide) ?_
        exact t_iret hB hr hT (Nat.le_of_ble_eq_true rfl) (Nat.le_of_ble_eq_true rfl) dX5_serve_123 ⟨(-2), rfl, hI, hE, hM⟩
abbrev md_s_runActs3 : Nat → Nat → Bool := mdf [(4, 2), (4, 5), (4, 10), (4, 11), (4, 14), (6, 4), (6, 5), (6, 7), (50, 99)]
theorem mdle_s_runActs3_s_isHeldBack {r k : Nat} (h : md_s_runActs3 r k = false) : md_s_isHeldBack r k = false := mdf_le (by decide +kernel) h
theorem mdle_s_runActs3_s_perform {r k : Nat} (h : md_s_runActs3 r k = false) : md_s_perform r k = false := mdf_le (by decide +kernel) h
theorem mdle_s_runActs3_s_serve2 {r k : Nat} (h : md_s_runActs3 r k = false) : md_s_serve2 r k = false := mdf_le (by decide +kernel) h
set_option maxHeartbeats 4000000 in
set_option maxRecDepth 100000 in
theorem lt_s_runActs3_a (l : Launch) (D : va_G) (cI cZ cS cR : ClassId) (N0 : NT) (g : GS) (h : Nat) (n : Int32) (x1 : Int32) (x2 : Int32) (r_h : g.1 h = 6) (l_n : 2 ≤ n.toInt) (u_n : n.toInt ≤ 5) {p : Program} {e : Env} {s : State} {m : MethodId} {args : Array Value} {below : List Frame} {meth : Method} {c : Code} (hB : Tz p s m meth c args cX5_runActs 14 RX5 D cI cZ cS cR N0) (hr : meth.sig.returnType = (some .int))    : ∀ (kf : Nat) (g1 : GS) (i : Int32) (j : Int32) (pk : Int32) (po : Int32) (q1 : Nat) (q2 : Nat) (H : Heap) (locs : List Loc) (ls : Array Slot), Tv D cI cZ cS cR N0 s.heap H locs g1 → Inv g1 → Ex g g1 → Sm md_s_runActs3 g g1 → 0 ≤ i.toInt → i.toInt ≤ 8 → 0 ≤ pk.toInt → pk.toInt ≤ 1 → 0 ≤ po.toInt → po.toInt ≤ 1 → g1.1 q1 = 4 → g1.1 q2 = 3 → (8 ≤ i.toInt + kf) → lv_has ls 14 [(9, .int i), (8, .int po), (7, .int j), (6, .int pk), (5, .ref q2), (4, .ref q1), (0, .ref h), (1, .int n), (2, .int x1), (3, .int x2)] → W p l e (rmx 7 0 0) s m args below meth c H locs 0 0 (MQ below (tQ D cI cZ cS cR N0 (fun v g' => ∃ (r : Int32), v = some (.int r) ∧ Inv g' ∧ Ex g g' ∧ Sm md_s_runActs3 g g')) args s 0 0 (fun q => N0.1 ≤ q)) (F0 m 44 ls []) := by
  have hx := hB.1
  have hb := hB.2.1
  intro kf
  induction kf using Nat.strongRecOn with
  | ind kf ih =>
    intro g1 i j pk po q1 q2 H locs ls hT hI hE hM l_i u_i l_pk u_pk l_po u_po r1_q1 r1_q2 hk hl
    have r_1 : g1.1 h = 6 := Ex.r hE r_h (by decide)
    refine lv_iload hx hb dX5_runActs_44 (lv_at hl 0 rfl) ?_
    refine lv_aload hx hb dX5_runActs_46 (lv_at hl 4 rfl) ?_
    obtain ⟨v_2, e_v_2, l_v_2, u_v_2⟩ := f_3_3 hI r1_q2
    refine t_get (ci := 2) (v := .int v_2) hB hT (ro_ci r1_q2 rfl) rfl 3 (by decide) k_133 e_v_2 dX5_runActs_48 ?_
    refine lv_icmp_ge (tgt := 288) hx hb dX5_runActs_51 (by decide) (fun c_3 => ?_) (fun c_3 => ?_)
    · have c_3' : v_2.toInt ≤ i.toInt := i_le c_3 rfl rfl
      refine lv_iload hx hb dX5_runActs_288 (lv_at hl 2 rfl) ?_
      exact t_iret hB hr hT (Nat.le_of_ble_eq_true rfl) (Nat.le_of_ble_eq_true rfl) dX5_runActs_290 ⟨j, rfl, hI, hE, hM⟩
    · have c_3' : i.toInt < v_2.toInt := i_nle c_3 rfl rfl
      refine lv_iload hx hb dX5_runActs_54 (lv_at hl 1 rfl) ?_
      refine lv_if_eq (tgt := 65) hx hb dX5_runActs_56 (by decide) (fun c_4 => ?_) (fun c_4 => ?_)
      · have c_4' : po.toInt = 0 := i_eq c_4 rfl (by decide)
        refine lv_aload_n hx hb dX5_runActs_65 rfl (lv_at hl 6 rfl) ?_
        obtain ⟨v_5, e_v_5⟩ := f_6_5 hI r_1
        refine t_get (ci := 5) (v := .int v_5) hB hT (ro_ci r_1 rfl) rfl 5 (by decide) k_213 e_v_5 dX5_runActs_66 ?_
        refine lv_iconst (v := 1) hx hb dX5_runActs_69 (by decide) ?_
        refine lv_iadd hx hb dX5_runActs_70 ?_
        refine lv_topi (fun z_6 ez_6 => ?_)
        refine lv_aload_n hx hb dX5_runActs_71 rfl (lv_at hl 6 rfl) ?_
        obtain ⟨v_7, e_v_7⟩ := f_6_6 hI r_1
        refine t_get (ci := 5) (v := .int v_7) hB hT (ro_ci r_1 rfl) rfl 6 (by decide) k_215 e_v_7 dX5_runActs_72 ?_
        refine lv_icmp_lt (tgt := 86) hx hb dX5_runActs_75 (by decide) (fun c_8 => ?_) (fun c_8 => ?_)
        · have c_8' : z_6.toInt < v_7.toInt := i_lt c_8 rfl rfl
          refine lv_aload_n hx hb dX5_runActs_86 rfl (lv_at hl 6 rfl) ?_
          refine lv_dup hx hb dX5_runActs_87 rfl ?_
          refine t_get (ci := 5) (v := .int v_5) hB hT (ro_ci r_1 rfl) rfl 5 (by decide) k_213 e_v_5 dX5_runActs_88 ?_
          refine lv_iconst (v := 1) hx hb dX5_runActs_91 (by decide) ?_
          refine lv_iadd hx hb dX5_runActs_92 ?_
          refine lv_topi (fun z_9 ez_9 => ?_)
          refine t_put0 (ci := 5) (v := .int z_9) hB hT (ro_ci r_1 rfl) (ro_n0 r_1 (by decide)) rfl 5 (by decide) k_213 (Or.inl rfl) rfl rfl dX5_runActs_93 (fun H locs hT => ?_)
          have hI : Inv (sF g1 h 5 (.int z_9)) := hI.sF (p_6_5 r_1 (⟨_, rfl⟩))
          have hM : Sm md_s_runActs3 g (sF g1 h 5 (.int z_9)) := hM.tr hE (Sm_sF (by rw [r_1]; rfl))
          have hE : Ex g (sF g1 h 5 (.int z_9)) := hE
          refine lv_aload hx hb dX5_runActs_96 (lv_at hl 4 rfl) ?_
          refine lv_iload hx hb dX5_runActs_98 (lv_at hl 0 rfl) ?_
          refine lv_iload_n hx hb dX5_runActs_100 rfl (lv_at hl 8 rfl) ?_
          refine lv_iload hx hb dX5_runActs_101 (lv_at hl 2 rfl) ?_
          refine t_callV (n := 3) (As := [.int i, .int x1, .int j]) (rest := []) (ci := 2) hB hT hl.1 (s_valueAt l D cI cZ cS cR N0 (sF g1 h 5 (.int z_9)) hI q2 i x1 j r1_q2 (by omega) (by omega)) (ro_ci r1_q2 rfl) rfl k_538 k_61 k_535 k_536 k_537 (by decide +kernel) ⟨(Nat.le_of_ble_eq_true rfl), (Nat.le_of_ble_eq_true rfl)⟩ rfl (Nat.le_of_ble_eq_true rfl) ⟨(Nat.le_of_ble_eq_true rfl), (Nat.le_of_ble_eq_true rfl)⟩ dX5_runActs_103 (fun v g_10 H locs hp hT => ?_)
          obtain ⟨r_11, rfl, eg⟩ := hp
          rw [eg] at hT
          clear eg
          refine W.eq (g2 := F0 m 106 ls [.int r_11]) rfl ?_
          refine lv_istore (lv' := [(10, .int r_11), (9, .int i), (8, .int po), (7, .int j), (6, .int pk), (5, .ref q2), (4, .ref q1), (0, .ref h), (1, .int n), (2, .int x1), (3, .int x2)]) hx hb dX5_runActs_106 hl (by decide) rfl (fun ls hl => ?_)
          refine lv_aload hx hb dX5_runActs_108 (lv_at hl 6 rfl) ?_
          refine lv_iload hx hb dX5_runActs_110 (lv_at hl 1 rfl) ?_
          refine lv_iload hx hb dX5_runActs_112 (lv_at hl 0 rfl) ?_
          refine t_callV (n := 2) (As := [.int i, .int r_11]) (rest := []) (ci := 3) hB hT hl.1 (s_isHeldBack l D cI cZ cS cR N0 (sF g1 h 5 (.int z_9)) hI q1 i r_11 r1_q1 (by omega) (by omega)) (ro_ci r1_q1 rfl) rfl k_542 k_60 k_539 k_540 k_541 (by decide +kernel) ⟨(Nat.le_of_ble_eq_true rfl), (Nat.le_of_ble_eq_true rfl)⟩ rfl (Nat.le_of_ble_eq_true rfl) ⟨(Nat.le_of_ble_eq_true rfl), (Nat.le_of_ble_eq_true rfl)⟩ dX5_runActs_114 (fun v g_14 H locs hp hT => ?_)
          obtain ⟨r_15, rfl, hI, x_18, m_17, f_16⟩ := hp
          have hM : Sm md_s_runActs3 g g_14 := hM.tr hE (m_17.mo (fun r k h => mdle_s_runActs3_s_isHeldBack h))
          have hE : Ex g g_14 := hE.tr x_18
          have r_19 : g_14.1 h = 6 := (Ex.r x_18 r_1 (by decide))
          have r_20 : g_14.1 q1 = 4 := (Ex.r x_18 r1_q1 (by decide))
          have r_21 : g_14.1 q2 = 3 := (Ex.r x_18 r1_q2 (by decide))
          have kn_22 : g_14.2.1 q2 3 = .int v_2 := (Sm.v m_17 r1_q2 (by decide) rfl (sF_k e_v_2 (by decide)))
          have kn_23 : g_14.2.1 h 6 = .int v_7 := (Sm.v m_17 r_1 (by decide) rfl (sF_k e_v_7 (by decide)))
          have kn_24 : g_14.2.1 h 5 = .int z_9 := (Sm.v m_17 r_1 (by decide) rfl sF_eq)
          refine W.eq (g2 := F0 m 117 ls [.int r_15]) rfl ?_
          rcases f_16 with rfl | rfl
          · refine W.eq (g2 := F0 m 117 ls [.int 1]) rfl ?_
            refine lv_if_eq (tgt := 123) hx hb dX5_runActs_117 (by decide) (fun c_ => absurd c_ (by decide)) (fun c_ => ?_)
            refine lv_goto (tgt := 282) hx hb dX5_runActs_120 (by decide) ?_
            obtain ⟨z_25, ez_25⟩ : ∃ z : Int32, z = i + 1 := ⟨_, rfl⟩
            have e_z_25 : z_25.toInt = i.toInt + 1 := i_add ez_25 rfl (by decide) (by omega) (by omega)
            refine lv_iinc (v := z_25) (lv' := [(9, .int z_25), (10, .int r_11), (8, .int po), (7, .int j), (6, .int pk), (5, .ref q2), (4, .ref q1), (0, .ref h), (1, .int n), (2, .int x1), (3, .int x2)]) hx hb dX5_runActs_282 hl (k := 1) rfl (by rw [ez_25]; rfl) (by decide) rfl (fun ls hl => ?_)
            refine lv_goto (tgt := 44) hx hb dX5_runActs_285 (by decide) ?_
            exact ih (kf - 1) (by omega) g_14 z_25 j pk po q1 q2 H locs ls hT hI hE hM (by omega) (by omega) (by omega) (by omega) (by omega) (by omega) r_20 r_21 (by have e0_ : (0 : Int32).toInt = 0 := (by decide); omega) (lv_sub hl [0, 2, 3, 4, 5, 6, 7, 8, 9, 10] rfl)
          · refine W.eq (g2 := F0 m 117 ls [.int 0]) rfl ?_
            refine lv_if_eq (tgt := 123) hx hb dX5_runActs_117 (by decide) (fun c_ => ?_) (fun c_ => absurd (by decide) c_)
            refine lv_aload hx hb dX5_runActs_123 (lv_at hl 5 rfl) ?_
            obtain ⟨v_26, e_v_26, r_v_26, n_v_26⟩ := f_3_0 hI r_21
            refine t_get (ci := 2) (v := .ref v_26) hB hT (ro_ci r_21 rfl) rfl 0 (by decide) k_122 e_v_26 dX5_runActs_125 ?_
            refine lv_iload hx hb dX5_runActs_128 (lv_at hl 1 rfl) ?_
            have i_u_27 : vp_in i 8 := (i_in (n := 8) rfl (by omega) (by omega))
            refine t_iald hB hT (ro_in r_v_26 (by decide)) n_v_26 i_u_27 rfl dX5_runActs_130 ?_
            refine lv_topi (fun u_27 e_u_27 => ?_)
            refine lv_istore (lv' := [(11, .int u_27), (10, .int r_11), (9, .int i), (8, .int po), (7, .int j), (6, .int pk), (5, .ref q2), (4, .ref q1), (0, .ref h), (1, .int n), (2, .int x1), (3, .int x2)]) hx hb dX5_runActs_131 hl (by decide) rfl (fun ls hl => ?_)
            refine lv_aload hx hb dX5_runActs_133 (lv_at hl 6 rfl) ?_
            obtain ⟨v_28, e_v_28, r_v_28, n_v_28⟩ := f_3_1 hI r_21
            refine t_get (ci := 2) (v := .ref v_28) hB hT (ro_ci r_21 rfl) rfl 1 (by decide) k_126 e_v_28 dX5_runActs_135 ?_
            refine lv_iload hx hb dX5_runActs_138 (lv_at hl 2 rfl) ?_
            have i_u_29 : vp_in i 8 := (i_in (n := 8) rfl (by omega) (by omega))
            refine t_iald hB hT (ro_in r_v_28 (by decide)) n_v_28 i_u_29 rfl dX5_runActs_140 ?_
            have c_u_29 := hI.c r_v_28 n_v_28 (i_cl i_u_29)
            refine lv_topi (fun u_29 e_u_29 => ?_)
            obtain ⟨l_u_29, u_u_29⟩ := c_u_29
            rw [← e_u_29] at l_u_29 u_u_29
            refine lv_istore (lv' := [(12, .int u_29), (11, .int u_27), (10, .int r_11), (9, .int i), (8, .int po), (7, .int j), (6, .int pk), (5, .ref q2), (4, .ref q1), (0, .ref h), (1, .int n), (2, .int x1), (3, .int x2)]) hx hb dX5_runActs_141 hl (by decide) rfl (fun ls hl => ?_)
            refine lv_iload hx hb dX5_runActs_143 (lv_at hl 1 rfl) ?_
            refine lv_iconst (v := 5) hx hb dX5_runActs_145 (by decide) ?_
            refine lv_icmp_ne (tgt := 207) hx hb dX5_runActs_146 (by decide) (fun c_30 => ?_) (fun c_30 => ?_)
            · have c_30' : u_27.toInt ≠ 5 := i_ne c_30 rfl (by decide)
              refine lv_iload hx hb dX5_runActs_207 (lv_at hl 1 rfl) ?_
              refine lv_bipush (v := 6) hx hb dX5_runActs_209 (by decide) ?_
              refine lv_icmp_ne (tgt := 242) hx hb dX5_runActs_211 (by decide) (fun c_31 => ?_) (fun c_31 => ?_)
              · have c_31' : u_27.toInt ≠ 6 := i_ne c_31 rfl (by decide)
                refine lv_iload hx hb dX5_runActs_242 (lv_at hl 1 rfl) ?_
                refine lv_bipush (v := 7) hx hb dX5_runActs_244 (by decide) ?_
                refine lv_icmp_ne (tgt := 263) hx hb dX5_runActs_246 (by decide) (fun c_32 => ?_) (fun c_32 => ?_)
                · have c_32' : u_27.toInt ≠ 7 := i_ne c_32 rfl (by decide)
                  refine lv_iload hx hb dX5_runActs_263 (lv_at hl 1 rfl) ?_
                  refine lv_iconst (v := 5) hx hb dX5_runActs_265 (by decide) ?_
                  refine lv_icmp_eq (tgt := 282) hx hb dX5_runActs_266 (by decide) (fun c_33 => ?_) (fun c_33 => ?_)
                  · have c_33' : u_27.toInt = 5 := i_eq c_33 rfl (by decide)
                    obtain ⟨z_34, ez_34⟩ : ∃ z : Int32, z = i + 1 := ⟨_, rfl⟩
                    have e_z_34 : z_34.toInt = i.toInt + 1 := i_add ez_34 rfl (by decide) (by omega) (by omega)
                    refine lv_iinc (v := z_34) (lv' := [(9, .int z_34), (12, .int u_29), (11, .int u_27), (10, .int r_11), (8, .int po), (7, .int j), (6, .int pk), (5, .ref q2), (4, .ref q1), (0, .ref h), (1, .int n), (2, .int x1), (3, .int x2)]) hx hb dX5_runActs_282 hl (k := 3) rfl (by rw [ez_34]; rfl) (by decide) rfl (fun ls hl => ?_)
                    refine lv_goto (tgt := 44) hx hb dX5_runActs_285 (by decide) ?_
                    exact ih (kf - 1) (by omega) g_14 z_34 j pk po q1 q2 H locs ls hT hI hE hM (by omega) (by omega) (by omega) (by omega) (by omega) (by omega) r_20 r_21 (by have e0_ : (0 : Int32).toInt = 0 := (by decide); omega) (lv_sub hl [0, 4, 5, 6, 7, 8, 9, 10, 11, 12] rfl)
                  · have c_33' : u_27.toInt ≠ 5 := i_ne c_33 rfl (by decide)
                    refine lv_aload hx hb dX5_runActs_269 (lv_at hl 8 rfl) ?_
                    refine lv_iload hx hb dX5_runActs_271 (lv_at hl 3 rfl) ?_
                    refine lv_iload hx hb dX5_runActs_273 (lv_at hl 2 rfl) ?_
                    refine lv_iload hx hb dX5_runActs_275 (lv_at hl 5 rfl) ?_
                    refine t_callV (n := 3) (As := [.int i, .int r_11, .int j]) (rest := []) (ci := 3) hB hT hl.1 (s_perform l D cI cZ cS cR N0 g_14 hI q1 i r_11 j r_20 (by omega) (by omega)) (ro_ci r_20 rfl) rfl k_550 k_60 k_547 k_548 k_549 (by decide +kernel) ⟨(Nat.le_of_ble_eq_true rfl), (Nat.le_of_ble_eq_true rfl)⟩ rfl (Nat.le_of_ble_eq_true rfl) ⟨(Nat.le_of_ble_eq_true rfl), (Nat.le_of_ble_eq_true rfl)⟩ dX5_runActs_277 (fun v g_35 H locs hp hT => ?_)
                    obtain ⟨r_36, rfl, hI, x_38, m_37⟩ := hp
                    have hM : Sm md_s_runActs3 g g_35 := hM.tr hE (m_37.mo (fun r k h => mdle_s_runActs3_s_perform h))
                    have hE : Ex g g_35 := hE.tr x_38
                    have r_39 : g_35.1 h = 6 := (Ex.r x_38 r_19 (by decide))
                    have r_40 : g_35.1 q1 = 4 := (Ex.r x_38 r_20 (by decide))
                    have r_41 : g_35.1 q2 = 3 := (Ex.r x_38 r_21 (by decide))
                    have r_42 : g_35.1 v_26 = 68 := (Ex.r x_38 r_v_26 (by decide))
                    have r_43 : g_35.1 v_28 = 69 := (Ex.r x_38 r_v_28 (by decide))
                    have n_44 : g_35.2.2.1 v_26 = 8 := (Ex.n x_38 r_v_26 (by decide) n_v_26)
                    have n_45 : g_35.2.2.1 v_28 = 8 := (Ex.n x_38 r_v_28 (by decide) n_v_28)
                    have kn_46 : g_35.2.1 q2 3 = .int v_2 := (Sm.v m_37 r_21 (by decide) rfl kn_22)
                    have kn_47 : g_35.2.1 h 6 = .int v_7 := (Sm.v m_37 r_19 (by decide) rfl kn_23)
                    have kn_48 : g_35.2.1 h 5 = .int z_9 := (Sm.v m_37 r_19 (by decide) rfl kn_24)
                    have kn_49 : g_35.2.1 q2 0 = .ref v_26 := (Sm.v m_37 r_21 (by decide) rfl e_v_26)
                    have kn_50 : g_35.2.1 q2 1 = .ref v_28 := (Sm.v m_37 r_21 (by decide) rfl e_v_28)
                    have kn_51 : g_35.2.2.2.1 v_26 i.toNatClampNeg = u_27 := (Sm.c m_37 r_v_26 (by decide) rfl e_u_27.symm)
                    have kn_52 : g_35.2.2.2.1 v_28 i.toNatClampNeg = u_29 := (Sm.c m_37 r_v_28 (by decide) rfl e_u_29.symm)
                    refine W.eq (g2 := F0 m 280 ls [.int r_36]) rfl ?_
                    refine lv_istore (lv' := [(7, .int r_36), (12, .int u_29), (11, .int u_27), (10, .int r_11), (9, .int i), (8, .int po), (6, .int pk), (5, .ref q2), (4, .ref q1), (0, .ref h), (1, .int n), (2, .int x1), (3, .int x2)]) hx hb dX5_runActs_280 hl (by decide) rfl (fun ls hl => ?_)
                    obtain ⟨z_53, ez_53⟩ : ∃ z : Int32, z = i + 1 := ⟨_, rfl⟩
                    have e_z_53 : z_53.toInt = i.toInt + 1 := i_add ez_53 rfl (by decide) (by omega) (by omega)
                    refine lv_iinc (v := z_53) (lv' := [(9, .int z_53), (7, .int r_36), (12, .int u_29), (11, .int u_27), (10, .int r_11), (8, .int po), (6, .int pk), (5, .ref q2), (4, .ref q1), (0, .ref h), (1, .int n), (2, .int x1), (3, .int x2)]) hx hb dX5_runActs_282 hl (k := 4) rfl (by rw [ez_53]; rfl) (by decide) rfl (fun ls hl => ?_)
                    refine lv_goto (tgt := 44) hx hb dX5_runActs_285 (by decide) ?_
                    exact ih (kf - 1) (by omega) g_35 z_53 r_36 pk po q1 q2 H locs ls hT hI hE hM (by omega) (by omega) (by omega) (by omega) (by omega) (by omega) r_40 r_41 (by have e0_ : (0 : Int32).toInt = 0 := (by decide); omega) (lv_sub hl [0, 5, 1, 6, 7, 8, 9, 10, 11, 12] rfl)
                · have c_32' : u_27.toInt = 7 := i_eq c_32 rfl (by decide)
                  refine lv_aload hx hb dX5_runActs_249 (lv_at hl 8 rfl) ?_
                  refine lv_iload hx hb dX5_runActs_251 (lv_at hl 3 rfl) ?_
                  refine lv_iload hx hb dX5_runActs_253 (lv_at hl 2 rfl) ?_
                  refine t_callV (n := 2) (As := [.int i, .int r_11]) (rest := []) (ci := 3) hB hT hl.1 (s_passesOver l D cI cZ cS cR N0 g_14 hI q1 i r_11 r_20 (by omega) (by omega)) (ro_ci r_20 rfl) rfl k_546 k_60 k_543 k_544 k_545 (by decide +kernel) ⟨(Nat.le_of_ble_eq_true rfl), (Nat.le_of_ble_eq_true rfl)⟩ rfl (Nat.le_of_ble_eq_true rfl) ⟨(Nat.le_of_ble_eq_true rfl), (Nat.le_of_ble_eq_true rfl)⟩ dX5_runActs_255 (fun v g_54 H locs hp hT => ?_)
                  obtain ⟨r_55, rfl, eg, f_56⟩ := hp
                  rw [eg] at hT
                  clear eg
                  refine W.eq (g2 := F0 m 258 ls [.int r_55]) rfl ?_
                  rcases f_56 with rfl | rfl
                  · refine W.eq (g2 := F0 m 258 ls [.int 1]) rfl ?_
                    refine lv_istore (lv' := [(8, .int 1), (12, .int u_29), (11, .int u_27), (10, .int r_11), (9, .int i), (7, .int j), (6, .int pk), (5, .ref q2), (4, .ref q1), (0, .ref h), (1, .int n), (2, .int x1), (3, .int x2)]) hx hb dX5_runActs_258 hl (by decide) rfl (fun ls hl => ?_)
                    refine lv_goto (tgt := 282) hx hb dX5_runActs_260 (by decide) ?_
                    obtain ⟨z_59, ez_59⟩ : ∃ z : Int32, z = i + 1 := ⟨_, rfl⟩
                    have e_z_59 : z_59.toInt = i.toInt + 1 := i_add ez_59 rfl (by decide) (by omega) (by omega)
                    refine lv_iinc (v := z_59) (lv' := [(9, .int z_59), (8, .int 1), (12, .int u_29), (11, .int u_27), (10, .int r_11), (7, .int j), (6, .int pk), (5, .ref q2), (4, .ref q1), (0, .ref h), (1, .int n), (2, .int x1), (3, .int x2)]) hx hb dX5_runActs_282 hl (k := 4) rfl (by rw [ez_59]; rfl) (by decide) rfl (fun ls hl => ?_)
                    refine lv_goto (tgt := 44) hx hb dX5_runActs_285 (by decide) ?_
                    exact ih (kf - 1) (by omega) g_14 z_59 j pk (1 : Int32) q1 q2 H locs ls hT hI hE hM (by omega) (by omega) (by omega) (by omega) (by decide) (by decide) r_20 r_21 (by have e0_ : (0 : Int32).toInt = 0 := (by decide); have e1_ : (1 : Int32).toInt = 1 := (by decide); omega) (lv_sub hl [0, 1, 5, 6, 7, 8, 9, 10, 11, 12] rfl)
                  · refine W.eq (g2 := F0 m 258 ls [.int 0]) rfl ?_
                    refine lv_istore (lv' := [(8, .int 0), (12, .int u_29), (11, .int u_27), (10, .int r_11), (9, .int i), (7, .int j), (6, .int pk), (5, .ref q2), (4, .ref q1), (0, .ref h), (1, .int n), (2, .int x1), (3, .int x2)]) hx hb dX5_runActs_258 hl (by decide) rfl (fun ls hl => ?_)
                    refine lv_goto (tgt := 282) hx hb dX5_runActs_260 (by decide) ?_
                    obtain ⟨z_60, ez_60⟩ : ∃ z : Int32, z = i + 1 := ⟨_, rfl⟩
                    have e_z_60 : z_60.toInt = i.toInt + 1 := i_add ez_60 rfl (by decide) (by omega) (by omega)
                    refine lv_iinc (v := z_60) (lv' := [(9, .int z_60), (8, .int 0), (12, .int u_29), (11, .int u_27), (10, .int r_11), (7, .int j), (6, .int pk), (5, .ref q2), (4, .ref q1), (0, .ref h), (1, .int n), (2, .int x1), (3, .int x2)]) hx hb dX5_runActs_282 hl (k := 4) rfl (by rw [ez_60]; rfl) (by decide) rfl (fun ls hl => ?_)
                    refine lv_goto (tgt := 44) hx hb dX5_runActs_285 (by decide) ?_
                    exact ih (kf - 1) (by omega) g_14 z_60 j pk (0 : Int32) q1 q2 H locs ls hT hI hE hM (by omega) (by omega) (by omega) (by omega) (by decide) (by decide) r_20 r_21 (by have e0_ : (0 : Int32).toInt = 0 := (by decide); omega) (lv_sub hl [0, 1, 5, 6, 7, 8, 9, 10, 11, 12] rfl)
              · have c_31' : u_27.toInt = 6 := i_eq c_31 rfl (by decide)
                refine lv_aload_n hx hb dX5_runActs_214 rfl (lv_at hl 9 rfl) ?_
                obtain ⟨v_61, e_v_61, r_v_61, n_v_61⟩ := f_6_3 hI r_19
                refine t_get (ci := 5) (v := .ref v_61) hB hT (ro_ci r_19 rfl) rfl 3 (by decide) k_207 e_v_61 dX5_runActs_215 ?_
                refine lv_aload_n hx hb dX5_runActs_218 rfl (lv_at hl 9 rfl) ?_
                obtain ⟨v_62, e_v_62⟩ := f_6_4 hI r_19
                refine t_get (ci := 5) (v := .int v_62) hB hT (ro_ci r_19 rfl) rfl 4 (by decide) k_210 e_v_62 dX5_runActs_219 ?_
                refine lv_sipush (v := 511) hx hb dX5_runActs_222 (by decide) ?_
                refine lv_iand hx hb dX5_runActs_225 ?_
                refine lv_topi (fun z_63 ez_63 => ?_)
                have e_z_63 := i_and 9 (b := 511) ez_63 (by decide) (by decide) (by decide)
                refine lv_iload hx hb dX5_runActs_226 (lv_at hl 2 rfl) ?_
                have i_64 : vp_in z_63 512 := (i_in (n := 512) rfl (by omega) (by omega))
                refine t_iast hB hT (ro_in r_v_61 (by decide)) n_v_61 i_64 dX5_runActs_228 (fun H locs hT => ?_)
                have hI : Inv (sC g_14 v_61 z_63.toNatClampNeg r_11) := hI.sC (ck r_v_61 trivial)
                have hM : Sm md_s_runActs3 g (sC g_14 v_61 z_63.toNatClampNeg r_11) := hM.tr hE (Sm_sC (by rw [r_v_61]; rfl))
                have hE : Ex g (sC g_14 v_61 z_63.toNatClampNeg r_11) := hE
                refine lv_aload_n hx hb dX5_runActs_229 rfl (lv_at hl 9 rfl) ?_
                refine lv_dup hx hb dX5_runActs_230 rfl ?_
                refine t_get (ci := 5) (v := .int v_62) hB hT (ro_ci r_19 rfl) rfl 4 (by decide) k_210 e_v_62 dX5_runActs_231 ?_
                refine lv_iconst (v := 1) hx hb dX5_runActs_234 (by decide) ?_
                refine lv_iadd hx hb dX5_runActs_235 ?_
                refine lv_topi (fun z_65 ez_65 => ?_)
                refine t_put0 (ci := 5) (v := .int z_65) hB hT (ro_ci r_19 rfl) (ro_n0 r_19 (by decide)) rfl 4 (by decide) k_210 (Or.inl rfl) rfl rfl dX5_runActs_236 (fun H locs hT => ?_)
                have hI : Inv (sF (sC g_14 v_61 z_63.toNatClampNeg r_11) h 4 (.int z_65)) := hI.sF (p_6_4 r_19 (⟨_, rfl⟩))
                have hM : Sm md_s_runActs3 g (sF (sC g_14 v_61 z_63.toNatClampNeg r_11) h 4 (.int z_65)) := hM.tr hE (Sm_sF (by rw [r_19]; rfl))
                have hE : Ex g (sF (sC g_14 v_61 z_63.toNatClampNeg r_11) h 4 (.int z_65)) := hE
                refine lv_goto (tgt := 282) hx hb dX5_runActs_239 (by decide) ?_
                obtain ⟨z_66, ez_66⟩ : ∃ z : Int32, z = i + 1 := ⟨_, rfl⟩
                have e_z_66 : z_66.toInt = i.toInt + 1 := i_add ez_66 rfl (by decide) (by omega) (by omega)
                refine lv_iinc (v := z_66) (lv' := [(9, .int z_66), (12, .int u_29), (11, .int u_27), (10, .int r_11), (8, .int po), (7, .int j), (6, .int pk), (5, .ref q2), (4, .ref q1), (0, .ref h), (1, .int n), (2, .int x1), (3, .int x2)]) hx hb dX5_runActs_282 hl (k := 3) rfl (by rw [ez_66]; rfl) (by decide) rfl (fun ls hl => ?_)
                refine lv_goto (tgt := 44) hx hb dX5_runActs_285 (by decide) ?_
                exact ih (kf - 1) (by omega) (sF (sC g_14 v_61 z_63.toNatClampNeg r_11) h 4 (.int z_65)) z_66 j pk po q1 q2 H locs ls hT hI hE hM (by omega) (by omega) (by omega) (by omega) (by omega) (by omega) r_20 r_21 (by have e0_ : (0 : Int32).toInt = 0 := (by decide); omega) (lv_sub hl [0, 4, 5, 6, 7, 8, 9, 10, 11, 12] rfl)
            · have c_30' : u_27.toInt = 5 := i_eq c_30 rfl (by decide)
              refine lv_aload_n hx hb dX5_runActs_149 rfl (lv_at hl 9 rfl) ?_
              refine lv_iload_n hx hb dX5_runActs_150 rfl (lv_at hl 10 rfl) ?_
              refine lv_iload hx hb dX5_runActs_151 (lv_at hl 0 rfl) ?_
              refine t_callV (n := 2) (As := [.int n, .int u_29]) (rest := []) (ci := 5) hB hT hl.1 (s_canAsk l D cI cZ cS cR N0 g_14 hI h n u_29 r_19) (ro_ci r_19 rfl) rfl k_477 k_59 k_474 k_476 k_10 (by decide +kernel) ⟨(Nat.le_of_ble_eq_true rfl), (Nat.le_of_ble_eq_true rfl)⟩ rfl (Nat.le_of_ble_eq_true rfl) ⟨(Nat.le_of_ble_eq_true rfl), (Nat.le_of_ble_eq_true rfl)⟩ dX5_runActs_153 (fun v g_67 H locs hp hT => ?_)
              obtain ⟨r_68, rfl, eg, f_69⟩ := hp
              rw [eg] at hT
              clear eg
              refine W.eq (g2 := F0 m 156 ls [.int r_68]) rfl ?_
              rcases f_69 with ⟨rfl, hw_72, hw_73⟩ | rfl
              · refine W.eq (g2 := F0 m 156 ls [.int 1]) rfl ?_
                refine lv_if_eq (tgt := 207) hx hb dX5_runActs_156 (by decide) (fun c_ => absurd c_ (by decide)) (fun c_ => ?_)
                refine lv_iload hx hb dX5_runActs_159 (lv_at hl 6 rfl) ?_
                refine lv_if_eq (tgt := 179) hx hb dX5_runActs_161 (by decide) (fun c_74 => ?_) (fun c_74 => ?_)
                · have c_74' : pk.toInt = 0 := i_eq c_74 rfl (by decide)
                  refine lv_iconst (v := 0) hx hb dX5_runActs_179 (by decide) ?_
                  refine lv_istore (lv' := [(13, .int 0), (12, .int u_29), (11, .int u_27), (10, .int r_11), (9, .int i), (8, .int po), (7, .int j), (6, .int pk), (5, .ref q2), (4, .ref q1), (0, .ref h), (1, .int n), (2, .int x1), (3, .int x2)]) hx hb dX5_runActs_180 hl (by decide) rfl (fun ls hl => ?_)
                  refine lv_aload_n hx hb dX5_runActs_182 rfl (lv_at hl 10 rfl) ?_
                  refine lv_iload hx hb dX5_runActs_183 (lv_at hl 1 rfl) ?_
                  refine lv_iload hx hb dX5_runActs_185 (lv_at hl 3 rfl) ?_
                  refine lv_iload hx hb dX5_runActs_187 (lv_at hl 0 rfl) ?_
                  refine t_callV (n := 3) (As := [.int u_29, .int r_11, .int 0]) (rest := []) (ci := 5) hB hT hl.1 (s_serve2 l D cI cZ cS cR N0 g_14 hI h u_29 r_11 0 r_19 (by have q0 : (0 : Int32).toInt = 0 := (by decide); omega) (by have q0 : (0 : Int32).toInt = 0 := (by decide); omega)) (ro_ci r_19 rfl) rfl k_508 k_59 k_505 k_507 k_12 (by decide +kernel) ⟨(Nat.le_of_ble_eq_true rfl), (Nat.le_of_ble_eq_true rfl)⟩ rfl (Nat.le_of_ble_eq_true rfl) ⟨(Nat.le_of_ble_eq_true rfl), (Nat.le_of_ble_eq_true rfl)⟩ dX5_runActs_189 (fun v g_75 H locs hp hT => ?_)
                  obtain ⟨r_76, rfl, hI, x_78, m_77⟩ := hp
                  have hM : Sm md_s_runActs3 g g_75 := hM.tr hE (m_77.mo (fun r k h => mdle_s_runActs3_s_serve2 h))
                  have hE : Ex g g_75 := hE.tr x_78
                  have r_79 : g_75.1 h = 6 := (Ex.r x_78 r_19 (by decide))
                  have r_80 : g_75.1 q1 = 4 := (Ex.r x_78 r_20 (by decide))
                  have r_81 : g_75.1 q2 = 3 := (Ex.r x_78 r_21 (by decide))
                  have r_82 : g_75.1 v_26 = 68 := (Ex.r x_78 r_v_26 (by decide))
                  have r_83 : g_75.1 v_28 = 69 := (Ex.r x_78 r_v_28 (by decide))
                  have n_84 : g_75.2.2.1 v_26 = 8 := (Ex.n x_78 r_v_26 (by decide) n_v_26)
                  have n_85 : g_75.2.2.1 v_28 = 8 := (Ex.n x_78 r_v_28 (by decide) n_v_28)
                  have kn_86 : g_75.2.1 q2 3 = .int v_2 := (Sm.v m_77 r_21 (by decide) rfl kn_22)
                  have kn_87 : g_75.2.1 h 6 = .int v_7 := (Sm.v m_77 r_19 (by decide) rfl kn_23)
                  have kn_88 : g_75.2.1 q2 0 = .ref v_26 := (Sm.v m_77 r_21 (by decide) rfl e_v_26)
                  have kn_89 : g_75.2.1 q2 1 = .ref v_28 := (Sm.v m_77 r_21 (by decide) rfl e_v_28)
                  have kn_90 : g_75.2.2.2.1 v_26 i.toNatClampNeg = u_27 := (Sm.c m_77 r_v_26 (by decide) rfl e_u_27.symm)
                  have kn_91 : g_75.2.2.2.1 v_28 i.toNatClampNeg = u_29 := (Sm.c m_77 r_v_28 (by decide) rfl e_u_29.symm)
                  refine W.eq (g2 := F0 m 192 ls [.int r_76]) rfl ?_
                  refine lv_istore (lv' := [(7, .int r_76), (13, .int 0), (12, .int u_29), (11, .int u_27), (10, .int r_11), (9, .int i), (8, .int po), (6, .int pk), (5, .ref q2), (4, .ref q1), (0, .ref h), (1, .int n), (2, .int x1), (3, .int x2)]) hx hb dX5_runActs_192 hl (by decide) rfl (fun ls hl => ?_)
                  refine lv_aload_n hx hb dX5_runActs_194 rfl (lv_at hl 10 rfl) ?_
                  obtain ⟨v_92, e_v_92, l_v_92, u_v_92⟩ := f_6_7 hI r_79
                  refine t_get (ci := 5) (v := .int v_92) hB hT (ro_ci r_79 rfl) rfl 7 (by decide) k_216 e_v_92 dX5_runActs_195 ?_
                  refine lv_if_eq (tgt := 204) hx hb dX5_runActs_198 (by decide) (fun c_93 => ?_) (fun c_93 => ?_)
                  · have c_93' : v_92.toInt = 0 := i_eq c_93 rfl (by decide)
                    refine lv_goto (tgt := 282) hx hb dX5_runActs_204 (by decide) ?_
                    obtain ⟨z_94, ez_94⟩ : ∃ z : Int32, z = i + 1 := ⟨_, rfl⟩
                    have e_z_94 : z_94.toInt = i.toInt + 1 := i_add ez_94 rfl (by decide) (by omega) (by omega)
                    refine lv_iinc (v := z_94) (lv' := [(9, .int z_94), (7, .int r_76), (13, .int 0), (12, .int u_29), (11, .int u_27), (10, .int r_11), (8, .int po), (6, .int pk), (5, .ref q2), (4, .ref q1), (0, .ref h), (1, .int n), (2, .int x1), (3, .int x2)]) hx hb dX5_runActs_282 hl (k := 5) rfl (by rw [ez_94]; rfl) (by decide) rfl (fun ls hl => ?_)
                    refine lv_goto (tgt := 44) hx hb dX5_runActs_285 (by decide) ?_
                    exact ih (kf - 1) (by omega) g_75 z_94 r_76 pk po q1 q2 H locs ls hT hI hE hM (by omega) (by omega) (by omega) (by omega) (by omega) (by omega) r_80 r_81 (by have e0_ : (0 : Int32).toInt = 0 := (by decide); omega) (lv_sub hl [0, 6, 1, 7, 8, 9, 10, 11, 12, 13] rfl)
                  · have c_93' : v_92.toInt ≠ 0 := i_ne c_93 rfl (by decide)
                    refine lv_bipush (v := (-2)) hx hb dX5_runActs_201 (by decide) ?_
                    exact t_iret hB hr hT (Nat.le_of_ble_eq_true rfl) (Nat.le_of_ble_eq_true rfl) dX5_runActs_203 ⟨(-2), rfl, hI, hE, hM⟩
                · have c_74' : pk.toInt ≠ 0 := i_ne c_74 rfl (by decide)
                  refine lv_iload_n hx hb dX5_runActs_164 rfl (lv_at hl 12 rfl) ?_
                  refine lv_bipush (v := 7) hx hb dX5_runActs_165 (by decide) ?_
                  refine lv_iload hx hb dX5_runActs_167 (lv_at hl 3 rfl) ?_
                  refine lv_imul hx hb dX5_runActs_169 ?_
                  refine lv_topi (fun z_95 ez_95 => ?_)
                  have e_z_95 : z_95.toInt = 7 * i.toInt := i_mul ez_95 (by decide) rfl (by omega) (by omega)
                  refine lv_iadd hx hb dX5_runActs_170 ?_
                  refine lv_topi (fun z_96 ez_96 => ?_)
                  refine lv_bipush (v := 99) hx hb dX5_runActs_171 (by decide) ?_
                  refine lv_irem hx hb dX5_runActs_173 (by decide) ?_
                  refine lv_topi (fun z_97 ez_97 => ?_)
                  refine lv_iconst (v := 1) hx hb dX5_runActs_174 (by decide) ?_
                  refine lv_iadd hx hb dX5_runActs_175 ?_
                  refine lv_topi (fun z_98 ez_98 => ?_)
                  refine lv_goto (tgt := 180) hx hb dX5_runActs_176 (by decide) ?_
                  refine lv_istore (lv' := [(13, .int z_98), (12, .int u_29), (11, .int u_27), (10, .int r_11), (9, .int i), (8, .int po), (7, .int j), (6, .int pk), (5, .ref q2), (4, .ref q1), (0, .ref h), (1, .int n), (2, .int x1), (3, .int x2)]) hx hb dX5_runActs_180 hl (by decide) rfl (fun ls hl => ?_)
                  refine lv_aload_n hx hb dX5_runActs_182 rfl (lv_at hl 10 rfl) ?_
                  refine lv_iload hx hb dX5_runActs_183 (lv_at hl 1 rfl) ?_
                  refine lv_iload hx hb dX5_runActs_185 (lv_at hl 3 rfl) ?_
                  refine lv_iload hx hb dX5_runActs_187 (lv_at hl 0 rfl) ?_
                  refine t_callV (n := 3) (As := [.int u_29, .int r_11, .int z_98]) (rest := []) (ci := 5) hB hT hl.1 (s_serve2 l D cI cZ cS cR N0 g_14 hI h u_29 r_11 z_98 r_19 (by omega) (by omega)) (ro_ci r_19 rfl) rfl k_508 k_59 k_505 k_507 k_12 (by decide +kernel) ⟨(Nat.le_of_ble_eq_true rfl), (Nat.le_of_ble_eq_true rfl)⟩ rfl (Nat.le_of_ble_eq_true rfl) ⟨(Nat.le_of_ble_eq_true rfl), (Nat.le_of_ble_eq_true rfl)⟩ dX5_runActs_189 (fun v g_99 H locs hp hT => ?_)
                  obtain ⟨r_100, rfl, hI, x_102, m_101⟩ := hp
                  have hM : Sm md_s_runActs3 g g_99 := hM.tr hE (m_101.mo (fun r k h => mdle_s_runActs3_s_serve2 h))
                  have hE : Ex g g_99 := hE.tr x_102
                  have r_103 : g_99.1 h = 6 := (Ex.r x_102 r_19 (by decide))
                  have r_104 : g_99.1 q1 = 4 := (Ex.r x_102 r_20 (by decide))
                  have r_105 : g_99.1 q2 = 3 := (Ex.r x_102 r_21 (by decide))
                  have r_106 : g_99.1 v_26 = 68 := (Ex.r x_102 r_v_26 (by decide))
                  have r_107 : g_99.1 v_28 = 69 := (Ex.r x_102 r_v_28 (by decide))
                  have n_108 : g_99.2.2.1 v_26 = 8 := (Ex.n x_102 r_v_26 (by decide) n_v_26)
                  have n_109 : g_99.2.2.1 v_28 = 8 := (Ex.n x_102 r_v_28 (by decide) n_v_28)
                  have kn_110 : g_99.2.1 q2 3 = .int v_2 := (Sm.v m_101 r_21 (by decide) rfl kn_22)
                  have kn_111 : g_99.2.1 h 6 = .int v_7 := (Sm.v m_101 r_19 (by decide) rfl kn_23)
                  have kn_112 : g_99.2.1 q2 0 = .ref v_26 := (Sm.v m_101 r_21 (by decide) rfl e_v_26)
                  have kn_113 : g_99.2.1 q2 1 = .ref v_28 := (Sm.v m_101 r_21 (by decide) rfl e_v_28)
                  have kn_114 : g_99.2.2.2.1 v_26 i.toNatClampNeg = u_27 := (Sm.c m_101 r_v_26 (by decide) rfl e_u_27.symm)
                  have kn_115 : g_99.2.2.2.1 v_28 i.toNatClampNeg = u_29 := (Sm.c m_101 r_v_28 (by decide) rfl e_u_29.symm)
                  refine W.eq (g2 := F0 m 192 ls [.int r_100]) rfl ?_
                  refine lv_istore (lv' := [(7, .int r_100), (13, .int z_98), (12, .int u_29), (11, .int u_27), (10, .int r_11), (9, .int i), (8, .int po), (6, .int pk), (5, .ref q2), (4, .ref q1), (0, .ref h), (1, .int n), (2, .int x1), (3, .int x2)]) hx hb dX5_runActs_192 hl (by decide) rfl (fun ls hl => ?_)
                  refine lv_aload_n hx hb dX5_runActs_194 rfl (lv_at hl 10 rfl) ?_
                  obtain ⟨v_116, e_v_116, l_v_116, u_v_116⟩ := f_6_7 hI r_103
                  refine t_get (ci := 5) (v := .int v_116) hB hT (ro_ci r_103 rfl) rfl 7 (by decide) k_216 e_v_116 dX5_runActs_195 ?_
                  refine lv_if_eq (tgt := 204) hx hb dX5_runActs_198 (by decide) (fun c_117 => ?_) (fun c_117 => ?_)
                  · have c_117' : v_116.toInt = 0 := i_eq c_117 rfl (by decide)
                    refine lv_goto (tgt := 282) hx hb dX5_runActs_204 (by decide) ?_
                    obtain ⟨z_118, ez_118⟩ : ∃ z : Int32, z = i + 1 := ⟨_, rfl⟩
                    have e_z_118 : z_118.toInt = i.toInt + 1 := i_add ez_118 rfl (by decide) (by omega) (by omega)
                    refine lv_iinc (v := z_118) (lv' := [(9, .int z_118), (7, .int r_100), (13, .int z_98), (12, .int u_29), (11, .int u_27), (10, .int r_11), (8, .int po), (6, .int pk), (5, .ref q2), (4, .ref q1), (0, .ref h), (1, .int n), (2, .int x1), (3, .int x2)]) hx hb dX5_runActs_282 hl (k := 5) rfl (by rw [ez_118]; rfl) (by decide) rfl (fun ls hl => ?_)
                    refine lv_goto (tgt := 44) hx hb dX5_runActs_285 (by decide) ?_
                    exact ih (kf - 1) (by omega) g_99 z_118 r_100 pk po q1 q2 H locs ls hT hI hE hM (by omega) (by omega) (by omega) (by omega) (by omega) (by omega) r_104 r_105 (by have e0_ : (0 : Int32).toInt = 0 := (by decide); omega) (lv_sub hl [0, 6, 1, 7, 8, 9, 10, 11, 12, 13] rfl)
                  · have c_117' : v_116.toInt ≠ 0 := i_ne c_117 rfl (by decide)
                    refine lv_bipush (v := (-2)) hx hb dX5_runActs_201 (by decide) ?_
                    exact t_iret hB hr hT (Nat.le_of_ble_eq_true rfl) (Nat.le_of_ble_eq_true rfl) dX5_runActs_203 ⟨(-2), rfl, hI, hE, hM⟩
              · refine W.eq (g2 := F0 m 156 ls [.int 0]) rfl ?_
                refine lv_if_eq (tgt := 207) hx hb dX5_runActs_156 (by decide) (fun c_ => ?_) (fun c_ => absurd (by decide) c_)
                refine lv_iload hx hb dX5_runActs_207 (lv_at hl 1 rfl) ?_
                refine lv_bipush (v := 6) hx hb dX5_runActs_209 (by decide) ?_
                refine lv_icmp_ne (tgt := 242) hx hb dX5_runActs_211 (by decide) (fun c_119 => ?_) (fun c_119 => ?_)
                · have c_119' : u_27.toInt ≠ 6 := i_ne c_119 rfl (by decide)
                  refine lv_iload hx hb dX5_runActs_242 (lv_at hl 1 rfl) ?_
                  refine lv_bipush (v := 7) hx hb dX5_runActs_244 (by decide) ?_
                  refine lv_icmp_ne (tgt := 263) hx hb dX5_runActs_246 (by decide) (fun c_120 => ?_) (fun c_120 => ?_)
                  · have c_120' : u_27.toInt ≠ 7 := i_ne c_120 rfl (by decide)
                    refine lv_iload hx hb dX5_runActs_263 (lv_at hl 1 rfl) ?_
                    refine lv_iconst (v := 5) hx hb dX5_runActs_265 (by decide) ?_
                    refine lv_icmp_eq (tgt := 282) hx hb dX5_runActs_266 (by decide) (fun c_121 => ?_) (fun c_121 => ?_)
                    · have c_121' : u_27.toInt = 5 := i_eq c_121 rfl (by decide)
                      obtain ⟨z_122, ez_122⟩ : ∃ z : Int32, z = i + 1 := ⟨_, rfl⟩
                      have e_z_122 : z_122.toInt = i.toInt + 1 := i_add ez_122 rfl (by decide) (by omega) (by omega)
                      refine lv_iinc (v := z_122) (lv' := [(9, .int z_122), (12, .int u_29), (11, .int u_27), (10, .int r_11), (8, .int po), (7, .int j), (6, .int pk), (5, .ref q2), (4, .ref q1), (0, .ref h), (1, .int n), (2, .int x1), (3, .int x2)]) hx hb dX5_runActs_282 hl (k := 3) rfl (by rw [ez_122]; rfl) (by decide) rfl (fun ls hl => ?_)
                      refine lv_goto (tgt := 44) hx hb dX5_runActs_285 (by decide) ?_
                      exact ih (kf - 1) (by omega) g_14 z_122 j pk po q1 q2 H locs ls hT hI hE hM (by omega) (by omega) (by omega) (by omega) (by omega) (by omega) r_20 r_21 (by have e0_ : (0 : Int32).toInt = 0 := (by decide); omega) (lv_sub hl [0, 4, 5, 6, 7, 8, 9, 10, 11, 12] rfl)
                    · have c_121' : u_27.toInt ≠ 5 := i_ne c_121 rfl (by decide)
                      exact absurd c_121' (by omega)
                  · have c_120' : u_27.toInt = 7 := i_eq c_120 rfl (by decide)
                    exact absurd c_120' (by omega)
                · have c_119' : u_27.toInt = 6 := i_eq c_119 rfl (by decide)
                  exact absurd c_119' (by omega)
        · have c_8' : v_7.toInt ≤ z_6.toInt := i_nlt c_8 rfl rfl
          refine lv_aload_n hx hb dX5_runActs_78 rfl (lv_at hl 6 rfl) ?_
          refine lv_iconst (v := 1) hx hb dX5_runActs_79 (by decide) ?_
          refine t_put0 (ci := 5) (v := .int 1) hB hT (ro_ci r_1 rfl) (ro_n0 r_1 (by decide)) rfl 7 (by decide) k_216 (Or.inl rfl) rfl rfl dX5_runActs_80 (fun H locs hT => ?_)
          have hI : Inv (sF g1 h 7 (.int 1)) := hI.sF (p_6_7 r_1 (⟨_, rfl, by decide, by decide⟩))
          have hM : Sm md_s_runActs3 g (sF g1 h 7 (.int 1)) := hM.tr hE (Sm_sF (by rw [r_1]; rfl))
          have hE : Ex g (sF g1 h 7 (.int 1)) := hE
          refine lv_bipush (v := (-2)) hx hb dX5_runActs_83 (by decide) ?_
          exact t_iret hB hr hT (Nat.le_of_ble_eq_true rfl) (Nat.le_of_ble_eq_true rfl) dX5_runActs_85 ⟨(-2), rfl, hI, hE, hM⟩
      · have c_4' : po.toInt ≠ 0 := i_ne c_4 rfl (by decide)
        refine lv_iconst (v := 0) hx hb dX5_runActs_59 (by decide) ?_
        refine lv_istore (lv' := [(8, .int 0), (9, .int i), (7, .int j), (6, .int pk), (5, .ref q2), (4, .ref q1), (0, .ref h), (1, .int n), (2, .int x1), (3, .int x2)]) hx hb dX5_runActs_60 hl (by decide) rfl (fun ls hl => ?_)
        refine lv_goto (tgt := 282) hx hb dX5_runActs_62 (by decide) ?_
        obtain ⟨z_123, ez_123⟩ : ∃ z : Int32, z = i + 1 := ⟨_, rfl⟩
        have e_z_123 : z_123.toInt = i.toInt + 1 := i_add ez_123 rfl (by decide) (by omega) (by omega)
        refine lv_iinc (v := z_123) (lv' := [(9, .int z_123), (8, .int 0), (7, .int j), (6, .int pk), (5, .ref q2), (4, .ref q1), (0, .ref h), (1, .int n), (2, .int x1), (3, .int x2)]) hx hb dX5_runActs_282 hl (k := 1) rfl (by rw [ez_123]; rfl) (by decide) rfl (fun ls hl => ?_)
        refine lv_goto (tgt := 44) hx hb dX5_runActs_285 (by decide) ?_
        exact ih (kf - 1) (by omega) g1 z_123 j pk (0 : Int32) q1 q2 H locs ls hT hI hE hM (by omega) (by omega) (by omega) (by omega) (by decide) (by decide) r1_q1 r1_q2 (by have e0_ : (0 : Int32).toInt = 0 := (by decide); omega) (lv_sub hl [0, 1, 2, 3, 4, 5, 6, 7, 8, 9] rfl)
set_option maxHeartbeats 4000000 in
set_option maxRecDepth 100000 in
theorem s_runActs3 (l : Launch) (D : va_G) (cI cZ cS cR : ClassId) (N0 : NT) (g : GS) (hI : Inv g) (h : Nat) (n : Int32) (x1 : Int32) (x2 : Int32) (r_h : g.1 h = 6) (l_n : 2 ≤ n.toInt) (u_n : n.toInt ≤ 5) : Ty l D cI cZ cS cR N0 yX5_runActs cX5_runActs 14 (some .int) 7 0 0 [.ref h, .int n, .int x1, .int x2] g (fun v g' => ∃ (r : Int32), v = some (.int r) ∧ Inv g' ∧ Ex g g' ∧ Sm md_s_runActs3 g g') := by
  refine t_enter (by decide) (Nat.le_of_ble_eq_true rfl) ?_
  intro p e s m args below meth c ls H locs hB hr hin hl hT
  have hx := hB.1
  have hb := hB.2.1
  have hl : lv_has ls 14 [(0, .ref h), (1, .int n), (2, .int x1), (3, .int x2)] := hl
  have hE : Ex g g := Ex.rf
  have hM : Sm md_s_runActs3 g g := Sm.rf
  refine lv_aload_n hx hb dX5_runActs_0 rfl (lv_at hl 0 rfl) ?_
  obtain ⟨v_1, e_v_1, r_v_1, n_v_1⟩ := f_6_0 hI r_h
  refine t_get (ci := 5) (v := .ref v_1) hB hT (ro_ci r_h rfl) rfl 0 (by decide) k_199 e_v_1 dX5_runActs_1 ?_
  refine lv_iload_n hx hb dX5_runActs_4 rfl (lv_at hl 1 rfl) ?_
  have i_q_2 : vp_in n 6 := (i_in (n := 6) rfl (by omega) (by omega))
  obtain ⟨q_2, e_q_2, r_q_2⟩ := hI.q r_v_1 n_v_1 (i_cl i_q_2)
  refine t_aald hB hT (Or.inl r_v_1) n_v_1 i_q_2 e_q_2 dX5_runActs_5 ?_
  refine lv_astore (lv' := [(4, .ref q_2), (0, .ref h), (1, .int n), (2, .int x1), (3, .int x2)]) hx hb dX5_runActs_6 hl (by decide) rfl (fun ls hl => ?_)
  refine lv_aload hx hb dX5_runActs_8 (lv_at hl 0 rfl) ?_
  obtain ⟨v_3, e_v_3, r_v_3⟩ := f_4_0 hI r_q_2
  refine t_get (ci := 3) (v := .ref v_3) hB hT (ro_ci r_q_2 rfl) rfl 0 (by decide) k_145 e_v_3 dX5_runActs_10 ?_
  refine lv_astore (lv' := [(5, .ref v_3), (4, .ref q_2), (0, .ref h), (1, .int n), (2, .int x1), (3, .int x2)]) hx hb dX5_runActs_13 hl (by decide) rfl (fun ls hl => ?_)
  refine lv_iload_n hx hb dX5_runActs_15 rfl (lv_at hl 5 rfl) ?_
  refine lv_if_eq (tgt := 32) hx hb dX5_runActs_16 (by decide) (fun c_4 => ?_) (fun c_4 => ?_)
  · have c_4' : x2.toInt = 0 := i_eq c_4 rfl (by decide)
    refine lv_iconst (v := 0) hx hb dX5_runActs_32 (by decide) ?_
    refine lv_istore (lv' := [(6, .int 0), (5, .ref v_3), (4, .ref q_2), (0, .ref h), (1, .int n), (2, .int x1), (3, .int x2)]) hx hb dX5_runActs_33 hl (by decide) rfl (fun ls hl => ?_)
    refine lv_iconst (v := 0) hx hb dX5_runActs_35 (by decide) ?_
    refine lv_istore (lv' := [(7, .int 0), (6, .int 0), (5, .ref v_3), (4, .ref q_2), (0, .ref h), (1, .int n), (2, .int x1), (3, .int x2)]) hx hb dX5_runActs_36 hl (by decide) rfl (fun ls hl => ?_)
    refine lv_iconst (v := 0) hx hb dX5_runActs_38 (by decide) ?_
    refine lv_istore (lv' := [(8, .int 0), (7, .int 0), (6, .int 0), (5, .ref v_3), (4, .ref q_2), (0, .ref h), (1, .int n), (2, .int x1), (3, .int x2)]) hx hb dX5_runActs_39 hl (by decide) rfl (fun ls hl => ?_)
    refine lv_iconst (v := 0) hx hb dX5_runActs_41 (by decide) ?_
    refine lv_istore (lv' := [(9, .int 0), (8, .int 0), (7, .int 0), (6, .int 0), (5, .ref v_3), (4, .ref q_2), (0, .ref h), (1, .int n), (2, .int x1), (3, .int x2)]) hx hb dX5_runActs_42 hl (by decide) rfl (fun ls hl => ?_)
    exact lt_s_runActs3_a l D cI cZ cS cR N0 g h n x1 x2 r_h l_n u_n hB hr   8 g (0 : Int32) (0 : Int32) (0 : Int32) (0 : Int32) q_2 v_3 H locs ls hT hI hE hM (by decide) (by decide) (by decide) (by decide) (by decide) (by decide) r_q_2 r_v_3 (by have e0_ : (0 : Int32).toInt = 0 := (by decide); omega) (lv_sub hl [0, 1, 2, 3, 4, 5, 6, 7, 8, 9] rfl)
  · have c_4' : x2.toInt ≠ 0 := i_ne c_4 rfl (by decide)
    refine lv_aload hx hb dX5_runActs_19 (lv_at hl 1 rfl) ?_
    refine lv_iconst (v := 2) hx hb dX5_runActs_21 (by decide) ?_
    refine t_callV (n := 1) (As := [.int 2]) (rest := []) (ci := 3) hB hT hl.1 (s_isMended l D cI cZ cS cR N0 g hI q_2 2 r_q_2) (ro_ci r_q_2 rfl) rfl k_512 k_60 k_509 k_510 k_511 (by decide +kernel) ⟨(Nat.le_of_ble_eq_true rfl), (Nat.le_of_ble_eq_true rfl)⟩ rfl (Nat.le_of_ble_eq_true rfl) ⟨(Nat.le_of_ble_eq_true rfl), (Nat.le_of_ble_eq_true rfl)⟩ dX5_runActs_22 (fun v g_5 H locs hp hT => ?_)
    obtain ⟨r_6, rfl, eg, f_7⟩ := hp
    rw [eg] at hT
    clear eg
    refine W.eq (g2 := F0 m 25 ls [.int r_6]) rfl ?_
    have qc_10 : (2 : Int32).toInt = 2 := (by decide)
    rcases f_7 with rfl | rfl
    · refine W.eq (g2 := F0 m 25 ls [.int 1]) rfl ?_
      refine lv_if_eq (tgt := 32) hx hb dX5_runActs_25 (by decide) (fun c_ => absurd c_ (by decide)) (fun c_ => ?_)
      refine lv_iconst (v := 1) hx hb dX5_runActs_28 (by decide) ?_
      refine lv_goto (tgt := 33) hx hb dX5_runActs_29 (by decide) ?_
      refine lv_istore (lv' := [(6, .int 1), (5, .ref v_3), (4, .ref q_2), (0, .ref h), (1, .int n), (2, .int x1), (3, .int x2)]) hx hb dX5_runActs_33 hl (by decide) rfl (fun ls hl => ?_)
      refine lv_iconst (v := 0) hx hb dX5_runActs_35 (by decide) ?_
      refine lv_istore (lv' := [(7, .int 0), (6, .int 1), (5, .ref v_3), (4, .ref q_2), (0, .ref h), (1, .int n), (2, .int x1), (3, .int x2)]) hx hb dX5_runActs_36 hl (by decide) rfl (fun ls hl => ?_)
      refine lv_iconst (v := 0) hx hb dX5_runActs_38 (by decide) ?_
      refine lv_istore (lv' := [(8, .int 0), (7, .int 0), (6, .int 1), (5, .ref v_3), (4, .ref q_2), (0, .ref h), (1, .int n), (2, .int x1), (3, .int x2)]) hx hb dX5_runActs_39 hl (by decide) rfl (fun ls hl => ?_)
      refine lv_iconst (v := 0) hx hb dX5_runActs_41 (by decide) ?_
      refine lv_istore (lv' := [(9, .int 0), (8, .int 0), (7, .int 0), (6, .int 1), (5, .ref v_3), (4, .ref q_2), (0, .ref h), (1, .int n), (2, .int x1), (3, .int x2)]) hx hb dX5_runActs_42 hl (by decide) rfl (fun ls hl => ?_)
      exact lt_s_runActs3_a l D cI cZ cS cR N0 g h n x1 x2 r_h l_n u_n hB hr   8 g (0 : Int32) (0 : Int32) (1 : Int32) (0 : Int32) q_2 v_3 H locs ls hT hI hE hM (by decide) (by decide) (by decide) (by decide) (by decide) (by decide) r_q_2 r_v_3 (by have e0_ : (0 : Int32).toInt = 0 := (by decide); have e1_ : (1 : Int32).toInt = 1 := (by decide); omega) (lv_sub hl [0, 1, 2, 3, 4, 5, 6, 7, 8, 9] rfl)
    · refine W.eq (g2 := F0 m 25 ls [.int 0]) rfl ?_
      refine lv_if_eq (tgt := 32) hx hb dX5_runActs_25 (by decide) (fun c_ => ?_) (fun c_ => absurd (by decide) c_)
      refine lv_iconst (v := 0) hx hb dX5_runActs_32 (by decide) ?_
      refine lv_istore (lv' := [(6, .int 0), (5, .ref v_3), (4, .ref q_2), (0, .ref h), (1, .int n), (2, .int x1), (3, .int x2)]) hx hb dX5_runActs_33 hl (by decide) rfl (fun ls hl => ?_)
      refine lv_iconst (v := 0) hx hb dX5_runActs_35 (by decide) ?_
      refine lv_istore (lv' := [(7, .int 0), (6, .int 0), (5, .ref v_3), (4, .ref q_2), (0, .ref h), (1, .int n), (2, .int x1), (3, .int x2)]) hx hb dX5_runActs_36 hl (by decide) rfl (fun ls hl => ?_)
      refine lv_iconst (v := 0) hx hb dX5_runActs_38 (by decide) ?_
      refine lv_istore (lv' := [(8, .int 0), (7, .int 0), (6, .int 0), (5, .ref v_3), (4, .ref q_2), (0, .ref h), (1, .int n), (2, .int x1), (3, .int x2)]) hx hb dX5_runActs_39 hl (by decide) rfl (fun ls hl => ?_)
      refine lv_iconst (v := 0) hx hb dX5_runActs_41 (by decide) ?_
      refine lv_istore (lv' := [(9, .int 0), (8, .int 0), (7, .int 0), (6, .int 0), (5, .ref v_3), (4, .ref q_2), (0, .ref h), (1, .int n), (2, .int x1), (3, .int x2)]) hx hb dX5_runActs_42 hl (by decide) rfl (fun ls hl => ?_)
      exact lt_s_runActs3_a l D cI cZ cS cR N0 g h n x1 x2 r_h l_n u_n hB hr   8 g (0 : Int32) (0 : Int32) (0 : Int32) (0 : Int32) q_2 v_3 H locs ls hT hI hE hM (by decide) (by decide) (by decide) (by decide) (by decide) (by decide) r_q_2 r_v_3 (by have e0_ : (0 : Int32).toInt = 0 := (by decide); omega) (lv_sub hl [0, 1, 2, 3, 4, 5, 6, 7, 8, 9] rfl)
abbrev md_s_serve3 : Nat → Nat → Bool := mdf [(4, 2), (4, 5), (4, 10), (4, 11), (4, 14), (6, 4), (6, 5), (6, 7), (50, 99)]
theorem mdle_s_serve3_s_answerNewest {r k : Nat} (h : md_s_serve3 r k = false) : md_s_answerNewest r k = false := mdf_le (by decide +kernel) h
theorem mdle_s_serve3_s_beginKnown {r k : Nat} (h : md_s_serve3 r k = false) : md_s_beginKnown r k = false := mdf_le (by decide +kernel) h
theorem mdle_s_serve3_s_keep {r k : Nat} (h : md_s_serve3 r k = false) : md_s_keep r k = false := mdf_le (by decide +kernel) h
theorem mdle_s_serve3_s_runActs3 {r k : Nat} (h : md_s_serve3 r k = false) : md_s_runActs3 r k = false := mdf_le (by decide +kernel) h
set_option maxHeartbeats 4000000 in
set_option maxRecDepth 100000 in
theorem s_serve3 (l : Launch) (D : va_G) (cI cZ cS cR : ClassId) (N0 : NT) (g : GS) (hI : Inv g) (h : Nat) (n : Int32) (x1 : Int32) (x2 : Int32) (r_h : g.1 h = 6) (l_n : 2 ≤ n.toInt) (u_n : n.toInt ≤ 5) : Ty l D cI cZ cS cR N0 yX5_serve cX5_serve 9 (some .int) 8 0 0 [.ref h, .int n, .int x1, .int x2] g (fun v g' => ∃ (r : Int32), v = some (.int r) ∧ Inv g' ∧ Ex g g' ∧ Sm md_s_serve3 g g') := by
  refine t_enter (by decide) (Nat.le_of_ble_eq_true rfl) ?_
  intro p e s m args below meth c ls H locs hB hr hin hl hT
  have hx := hB.1
  have hb := hB.2.1
  have hl : lv_has ls 9 [(0, .ref h), (1, .int n), (2, .int x1), (3, .int x2)] := hl
  have hE : Ex g g := Ex.rf
  have hM : Sm md_s_serve3 g g := Sm.rf
  refine lv_aload_n hx hb dX5_serve_0 rfl (lv_at hl 0 rfl) ?_
  obtain ⟨v_1, e_v_1, r_v_1, n_v_1⟩ := f_6_0 hI r_h
  refine t_get (ci := 5) (v := .ref v_1) hB hT (ro_ci r_h rfl) rfl 0 (by decide) k_199 e_v_1 dX5_serve_1 ?_
  refine lv_iload_n hx hb dX5_serve_4 rfl (lv_at hl 1 rfl) ?_
  have i_q_2 : vp_in n 6 := (i_in (n := 6) rfl (by omega) (by omega))
  obtain ⟨q_2, e_q_2, r_q_2⟩ := hI.q r_v_1 n_v_1 (i_cl i_q_2)
  refine t_aald hB hT (Or.inl r_v_1) n_v_1 i_q_2 e_q_2 dX5_serve_5 ?_
  refine lv_astore (lv' := [(4, .ref q_2), (0, .ref h), (1, .int n), (2, .int x1), (3, .int x2)]) hx hb dX5_serve_6 hl (by decide) rfl (fun ls hl => ?_)
  refine lv_iload_n hx hb dX5_serve_8 rfl (lv_at hl 4 rfl) ?_
  refine lv_if_eq (tgt := 25) hx hb dX5_serve_9 (by decide) (fun c_3 => ?_) (fun c_3 => ?_)
  · have c_3' : x2.toInt = 0 := i_eq c_3 rfl (by decide)
    refine lv_iconst (v := 0) hx hb dX5_serve_25 (by decide) ?_
    refine lv_istore (lv' := [(5, .int 0), (4, .ref q_2), (0, .ref h), (1, .int n), (2, .int x1), (3, .int x2)]) hx hb dX5_serve_26 hl (by decide) rfl (fun ls hl => ?_)
    refine lv_iload hx hb dX5_serve_28 (lv_at hl 0 rfl) ?_
    refine lv_if_eq (tgt := 46) hx hb dX5_serve_30 (by decide) (fun c_ => ?_) (fun c_ => absurd (by decide) c_)
    refine lv_iconst (v := 0) hx hb dX5_serve_46 (by decide) ?_
    refine lv_istore (lv' := [(6, .int 0), (5, .int 0), (4, .ref q_2), (0, .ref h), (1, .int n), (2, .int x1), (3, .int x2)]) hx hb dX5_serve_47 hl (by decide) rfl (fun ls hl => ?_)
    refine lv_iload hx hb dX5_serve_49 (lv_at hl 1 rfl) ?_
    refine lv_if_eq (tgt := 63) hx hb dX5_serve_51 (by decide) (fun c_ => ?_) (fun c_ => absurd (by decide) c_)
    refine lv_iconst (v := (-1)) hx hb dX5_serve_63 (by decide) ?_
    refine lv_istore (lv' := [(7, .int (-1)), (6, .int 0), (5, .int 0), (4, .ref q_2), (0, .ref h), (1, .int n), (2, .int x1), (3, .int x2)]) hx hb dX5_serve_64 hl (by decide) rfl (fun ls hl => ?_)
    refine lv_iload hx hb dX5_serve_66 (lv_at hl 0 rfl) ?_
    refine lv_iconst (v := (-1)) hx hb dX5_serve_68 (by decide) ?_
    refine lv_icmp_eq (tgt := 81) hx hb dX5_serve_69 (by decide) (fun c_ => ?_) (fun c_ => absurd (by decide) c_)
    refine lv_iload hx hb dX5_serve_81 (lv_at hl 1 rfl) ?_
    refine lv_if_eq (tgt := 98) hx hb dX5_serve_83 (by decide) (fun c_ => ?_) (fun c_ => absurd (by decide) c_)
    refine lv_aload hx hb dX5_serve_98 (lv_at hl 3 rfl) ?_
    refine lv_iload_n hx hb dX5_serve_100 rfl (lv_at hl 6 rfl) ?_
    refine lv_iload_n hx hb dX5_serve_101 rfl (lv_at hl 7 rfl) ?_
    refine t_callV (n := 2) (As := [.int x1, .int x2]) (rest := []) (ci := 3) hB hT hl.1 (s_beginKnown l D cI cZ cS cR N0 g hI q_2 x1 x2 r_q_2) (ro_ci r_q_2 rfl) rfl k_529 k_60 k_526 k_527 k_528 (by decide +kernel) ⟨(Nat.le_of_ble_eq_true rfl), (Nat.le_of_ble_eq_true rfl)⟩ rfl (Nat.le_of_ble_eq_true rfl) ⟨(Nat.le_of_ble_eq_true rfl), (Nat.le_of_ble_eq_true rfl)⟩ dX5_serve_102 (fun v g_4 H locs hp hT => ?_)
    obtain ⟨rfl, hI, x_6, m_5⟩ := hp
    have hM : Sm md_s_serve3 g g_4 := hM.tr hE (m_5.mo (fun r k h => mdle_s_serve3_s_beginKnown h))
    have hE : Ex g g_4 := hE.tr x_6
    have r_7 : g_4.1 h = 6 := (Ex.r x_6 r_h (by decide))
    have r_8 : g_4.1 v_1 = 41 := (Ex.r x_6 r_v_1 (by decide))
    have r_9 : g_4.1 q_2 = 4 := (Ex.r x_6 r_q_2 (by decide))
    have n_10 : g_4.2.2.1 v_1 = 6 := (Ex.n x_6 r_v_1 (by decide) n_v_1)
    have kn_11 : g_4.2.1 h 0 = .ref v_1 := (Sm.v m_5 r_h (by decide) rfl e_v_1)
    refine W.eq (g2 := F0 m 105 ls []) rfl ?_
    refine lv_aload_n hx hb dX5_serve_105 rfl (lv_at hl 4 rfl) ?_
    refine lv_iload_n hx hb dX5_serve_106 rfl (lv_at hl 5 rfl) ?_
    refine lv_iload_n hx hb dX5_serve_107 rfl (lv_at hl 6 rfl) ?_
    refine lv_iload_n hx hb dX5_serve_108 rfl (lv_at hl 7 rfl) ?_
    refine t_callV (n := 3) (As := [.int n, .int x1, .int x2]) (rest := []) (ci := 5) hB hT hl.1 (s_runActs3 l D cI cZ cS cR N0 g_4 hI h n x1 x2 r_7 (by omega) (by omega)) (ro_ci r_7 rfl) rfl k_534 k_59 k_531 k_533 k_13 (by decide +kernel) ⟨(Nat.le_of_ble_eq_true rfl), (Nat.le_of_ble_eq_true rfl)⟩ rfl (Nat.le_of_ble_eq_true rfl) ⟨(Nat.le_of_ble_eq_true rfl), (Nat.le_of_ble_eq_true rfl)⟩ dX5_serve_109 (fun v g_12 H locs hp hT => ?_)
    obtain ⟨r_13, rfl, hI, x_15, m_14⟩ := hp
    have hM : Sm md_s_serve3 g g_12 := hM.tr hE (m_14.mo (fun r k h => mdle_s_serve3_s_runActs3 h))
    have hE : Ex g g_12 := hE.tr x_15
    have r_16 : g_12.1 h = 6 := (Ex.r x_15 r_7 (by decide))
    have r_17 : g_12.1 v_1 = 41 := (Ex.r x_15 r_8 (by decide))
    have r_18 : g_12.1 q_2 = 4 := (Ex.r x_15 r_9 (by decide))
    have n_19 : g_12.2.2.1 v_1 = 6 := (Ex.n x_15 r_8 (by decide) n_10)
    have kn_20 : g_12.2.1 h 0 = .ref v_1 := (Sm.v m_14 r_7 (by decide) rfl kn_11)
    refine W.eq (g2 := F0 m 112 ls [.int r_13]) rfl ?_
    refine lv_istore (lv' := [(8, .int r_13), (7, .int (-1)), (6, .int 0), (5, .int 0), (4, .ref q_2), (0, .ref h), (1, .int n), (2, .int x1), (3, .int x2)]) hx hb dX5_serve_112 hl (by decide) rfl (fun ls hl => ?_)
    refine lv_aload_n hx hb dX5_serve_114 rfl (lv_at hl 5 rfl) ?_
    obtain ⟨v_21, e_v_21, l_v_21, u_v_21⟩ := f_6_7 hI r_16
    refine t_get (ci := 5) (v := .int v_21) hB hT (ro_ci r_16 rfl) rfl 7 (by decide) k_216 e_v_21 dX5_serve_115 ?_
    refine lv_if_eq (tgt := 124) hx hb dX5_serve_118 (by decide) (fun c_22 => ?_) (fun c_22 => ?_)
    · have c_22' : v_21.toInt = 0 := i_eq c_22 rfl (by decide)
      refine lv_iload hx hb dX5_serve_124 (lv_at hl 2 rfl) ?_
      refine lv_if_eq (tgt := 140) hx hb dX5_serve_126 (by decide) (fun c_ => ?_) (fun c_ => absurd (by decide) c_)
      refine lv_iload hx hb dX5_serve_140 (lv_at hl 3 rfl) ?_
      refine lv_if_eq (tgt := 158) hx hb dX5_serve_142 (by decide) (fun c_ => ?_) (fun c_ => absurd (by decide) c_)
      refine lv_iload hx hb dX5_serve_158 (lv_at hl 0 rfl) ?_
      exact t_iret hB hr hT (Nat.le_of_ble_eq_true rfl) (Nat.le_of_ble_eq_true rfl) dX5_serve_160 ⟨r_13, rfl, hI, hE, hM⟩
    · have c_22' : v_21.toInt ≠ 0 := i_ne c_22 rfl (by decide)
      refine lv_bipush (v := (-2)) hx hb dX5_serve_121 (by decide) ?_
      exact t_iret hB hr hT (Nat.le_of_ble_eq_true rfl) (Nat.le_of_ble_eq_true rfl) dX5_serve_123 ⟨(-2), rfl, hI, hE, hM⟩
  · have c_3' : x2.toInt ≠ 0 := i_ne c_3 rfl (by decide)
    refine lv_aload hx hb dX5_serve_12 (lv_at hl 0 rfl) ?_
    refine lv_iconst (v := 0) hx hb dX5_serve_14 (by decide) ?_
    refine t_callV (n := 1) (As := [.int 0]) (rest := []) (ci := 3) hB hT hl.1 (s_isMended l D cI cZ cS cR N0 g hI q_2 0 r_q_2) (ro_ci r_q_2 rfl) rfl k_512 k_60 k_509 k_510 k_511 (by decide +kernel) ⟨(Nat.le_of_ble_eq_true rfl), (Nat.le_of_ble_eq_true rfl)⟩ rfl (Nat.le_of_ble_eq_true rfl) ⟨(Nat.le_of_ble_eq_true rfl), (Nat.le_of_ble_eq_true rfl)⟩ dX5_serve_15 (fun v g_23 H locs hp hT => ?_)
    obtain ⟨r_24, rfl, eg, f_25⟩ := hp
    rw [eg] at hT
    clear eg
    refine W.eq (g2 := F0 m 18 ls [.int r_24]) rfl ?_
    have qc_28 : (0 : Int32).toInt = 0 := (by decide)
    rcases f_25 with rfl | rfl
    · refine W.eq (g2 := F0 m 18 ls [.int 1]) rfl ?_
      refine lv_if_eq (tgt := 25) hx hb dX5_serve_18 (by decide) (fun c_ => absurd c_ (by decide)) (fun c_ => ?_)
      refine lv_iconst (v := 1) hx hb dX5_serve_21 (by decide) ?_
      refine lv_goto (tgt := 26) hx hb dX5_serve_22 (by decide) ?_
      refine lv_istore (lv' := [(5, .int 1), (4, .ref q_2), (0, .ref h), (1, .int n), (2, .int x1), (3, .int x2)]) hx hb dX5_serve_26 hl (by decide) rfl (fun ls hl => ?_)
      refine lv_iload hx hb dX5_serve_28 (lv_at hl 0 rfl) ?_
      refine lv_if_eq (tgt := 46) hx hb dX5_serve_30 (by decide) (fun c_ => absurd c_ (by decide)) (fun c_ => ?_)
      refine lv_aload hx hb dX5_serve_33 (lv_at hl 1 rfl) ?_
      refine lv_iconst (v := 1) hx hb dX5_serve_35 (by decide) ?_
      refine t_callV (n := 1) (As := [.int 1]) (rest := []) (ci := 3) hB hT hl.1 (s_isMended l D cI cZ cS cR N0 g hI q_2 1 r_q_2) (ro_ci r_q_2 rfl) rfl k_512 k_60 k_509 k_510 k_511 (by decide +kernel) ⟨(Nat.le_of_ble_eq_true rfl), (Nat.le_of_ble_eq_true rfl)⟩ rfl (Nat.le_of_ble_eq_true rfl) ⟨(Nat.le_of_ble_eq_true rfl), (Nat.le_of_ble_eq_true rfl)⟩ dX5_serve_36 (fun v g_29 H locs hp hT => ?_)
      obtain ⟨r_30, rfl, eg, f_31⟩ := hp
      rw [eg] at hT
      clear eg
      refine W.eq (g2 := F0 m 39 ls [.int r_30]) rfl ?_
      have qc_34 : (1 : Int32).toInt = 1 := (by decide)
      rcases f_31 with rfl | rfl
      · refine W.eq (g2 := F0 m 39 ls [.int 1]) rfl ?_
        refine lv_if_eq (tgt := 46) hx hb dX5_serve_39 (by decide) (fun c_ => absurd c_ (by decide)) (fun c_ => ?_)
        refine lv_iconst (v := 1) hx hb dX5_serve_42 (by decide) ?_
        refine lv_goto (tgt := 47) hx hb dX5_serve_43 (by decide) ?_
        refine lv_istore (lv' := [(6, .int 1), (5, .int 1), (4, .ref q_2), (0, .ref h), (1, .int n), (2, .int x1), (3, .int x2)]) hx hb dX5_serve_47 hl (by decide) rfl (fun ls hl => ?_)
        refine lv_iload hx hb dX5_serve_49 (lv_at hl 1 rfl) ?_
        refine lv_if_eq (tgt := 63) hx hb dX5_serve_51 (by decide) (fun c_ => absurd c_ (by decide)) (fun c_ => ?_)
        refine lv_aload hx hb dX5_serve_54 (lv_at hl 2 rfl) ?_
        refine lv_iload_n hx hb dX5_serve_56 rfl (lv_at hl 6 rfl) ?_
        refine t_callV (n := 1) (As := [.int x2]) (rest := []) (ci := 3) hB hT hl.1 (s_placeOfKey l D cI cZ cS cR N0 g hI q_2 x2 r_q_2) (ro_ci r_q_2 rfl) rfl k_516 k_60 k_513 k_514 k_515 (by decide +kernel) ⟨(Nat.le_of_ble_eq_true rfl), (Nat.le_of_ble_eq_true rfl)⟩ rfl (Nat.le_of_ble_eq_true rfl) ⟨(Nat.le_of_ble_eq_true rfl), (Nat.le_of_ble_eq_true rfl)⟩ dX5_serve_57 (fun v g_35 H locs hp hT => ?_)
        obtain ⟨r_36, rfl, eg, f_37⟩ := hp
        rw [eg] at hT
        clear eg
        refine W.eq (g2 := F0 m 60 ls [.int r_36]) rfl ?_
        rcases f_37 with rfl | ⟨hw_40, hw_41⟩
        · refine W.eq (g2 := F0 m 60 ls [.int (-1)]) rfl ?_
          refine lv_goto (tgt := 64) hx hb dX5_serve_60 (by decide) ?_
          refine lv_istore (lv' := [(7, .int (-1)), (6, .int 1), (5, .int 1), (4, .ref q_2), (0, .ref h), (1, .int n), (2, .int x1), (3, .int x2)]) hx hb dX5_serve_64 hl (by decide) rfl (fun ls hl => ?_)
          refine lv_iload hx hb dX5_serve_66 (lv_at hl 0 rfl) ?_
          refine lv_iconst (v := (-1)) hx hb dX5_serve_68 (by decide) ?_
          refine lv_icmp_eq (tgt := 81) hx hb dX5_serve_69 (by decide) (fun c_ => ?_) (fun c_ => absurd (by decide) c_)
          refine lv_iload hx hb dX5_serve_81 (lv_at hl 1 rfl) ?_
          refine lv_if_eq (tgt := 98) hx hb dX5_serve_83 (by decide) (fun c_ => absurd c_ (by decide)) (fun c_ => ?_)
          refine lv_aload hx hb dX5_serve_86 (lv_at hl 3 rfl) ?_
          refine lv_iload_n hx hb dX5_serve_88 rfl (lv_at hl 7 rfl) ?_
          refine lv_iload_n hx hb dX5_serve_89 rfl (lv_at hl 6 rfl) ?_
          refine lv_iconst (v := 0) hx hb dX5_serve_90 (by decide) ?_
          refine lv_aload_n hx hb dX5_serve_91 rfl (lv_at hl 4 rfl) ?_
          obtain ⟨v_42, e_v_42⟩ := f_6_2 hI r_h
          refine t_get (ci := 5) (v := .int v_42) hB hT (ro_ci r_h rfl) rfl 2 (by decide) k_205 e_v_42 dX5_serve_92 ?_
          refine t_callV (n := 4) (As := [.int x2, .int x1, .int 0, .int v_42]) (rest := []) (ci := 3) hB hT hl.1 (s_keep l D cI cZ cS cR N0 g hI q_2 x2 x1 0 v_42 r_q_2) (ro_ci r_q_2 rfl) rfl k_524 k_60 k_521 k_522 k_523 (by decide +kernel) ⟨(Nat.le_of_ble_eq_true rfl), (Nat.le_of_ble_eq_true rfl)⟩ rfl (Nat.le_of_ble_eq_true rfl) ⟨(Nat.le_of_ble_eq_true rfl), (Nat.le_of_ble_eq_true rfl)⟩ dX5_serve_95 (fun v g_43 H locs hp hT => ?_)
          obtain ⟨rfl, hI, x_45, m_44⟩ := hp
          have hM : Sm md_s_serve3 g g_43 := hM.tr hE (m_44.mo (fun r k h => mdle_s_serve3_s_keep h))
          have hE : Ex g g_43 := hE.tr x_45
          have r_46 : g_43.1 h = 6 := (Ex.r x_45 r_h (by decide))
          have r_47 : g_43.1 v_1 = 41 := (Ex.r x_45 r_v_1 (by decide))
          have r_48 : g_43.1 q_2 = 4 := (Ex.r x_45 r_q_2 (by decide))
          have n_49 : g_43.2.2.1 v_1 = 6 := (Ex.n x_45 r_v_1 (by decide) n_v_1)
          have kn_50 : g_43.2.1 h 0 = .ref v_1 := (Sm.v m_44 r_h (by decide) rfl e_v_1)
          have kn_51 : g_43.2.1 h 2 = .int v_42 := (Sm.v m_44 r_h (by decide) rfl e_v_42)
          refine W.eq (g2 := F0 m 98 ls []) rfl ?_
          refine lv_aload hx hb dX5_serve_98 (lv_at hl 3 rfl) ?_
          refine lv_iload_n hx hb dX5_serve_100 rfl (lv_at hl 6 rfl) ?_
          refine lv_iload_n hx hb dX5_serve_101 rfl (lv_at hl 7 rfl) ?_
          refine t_callV (n := 2) (As := [.int x1, .int x2]) (rest := []) (ci := 3) hB hT hl.1 (s_beginKnown l D cI cZ cS cR N0 g_43 hI q_2 x1 x2 r_48) (ro_ci r_48 rfl) rfl k_529 k_60 k_526 k_527 k_528 (by decide +kernel) ⟨(Nat.le_of_ble_eq_true rfl), (Nat.le_of_ble_eq_true rfl)⟩ rfl (Nat.le_of_ble_eq_true rfl) ⟨(Nat.le_of_ble_eq_true rfl), (Nat.le_of_ble_eq_true rfl)⟩ dX5_serve_102 (fun v g_52 H locs hp hT => ?_)
          obtain ⟨rfl, hI, x_54, m_53⟩ := hp
          have hM : Sm md_s_serve3 g g_52 := hM.tr hE (m_53.mo (fun r k h => mdle_s_serve3_s_beginKnown h))
          have hE : Ex g g_52 := hE.tr x_54
          have r_55 : g_52.1 h = 6 := (Ex.r x_54 r_46 (by decide))
          have r_56 : g_52.1 v_1 = 41 := (Ex.r x_54 r_47 (by decide))
          have r_57 : g_52.1 q_2 = 4 := (Ex.r x_54 r_48 (by decide))
          have n_58 : g_52.2.2.1 v_1 = 6 := (Ex.n x_54 r_47 (by decide) n_49)
          have kn_59 : g_52.2.1 h 0 = .ref v_1 := (Sm.v m_53 r_46 (by decide) rfl kn_50)
          have kn_60 : g_52.2.1 h 2 = .int v_42 := (Sm.v m_53 r_46 (by decide) rfl kn_51)
          refine W.eq (g2 := F0 m 105 ls []) rfl ?_
          refine lv_aload_n hx hb dX5_serve_105 rfl (lv_at hl 4 rfl) ?_
          refine lv_iload_n hx hb dX5_serve_106 rfl (lv_at hl 5 rfl) ?_
          refine lv_iload_n hx hb dX5_serve_107 rfl (lv_at hl 6 rfl) ?_
          refine lv_iload_n hx hb dX5_serve_108 rfl (lv_at hl 7 rfl) ?_
          refine t_callV (n := 3) (As := [.int n, .int x1, .int x2]) (rest := []) (ci := 5) hB hT hl.1 (s_runActs3 l D cI cZ cS cR N0 g_52 hI h n x1 x2 r_55 (by omega) (by omega)) (ro_ci r_55 rfl) rfl k_534 k_59 k_531 k_533 k_13 (by decide +kernel) ⟨(Nat.le_of_ble_eq_true rfl), (Nat.le_of_ble_eq_true rfl)⟩ rfl (Nat.le_of_ble_eq_true rfl) ⟨(Nat.le_of_ble_eq_true rfl), (Nat.le_of_ble_eq_true rfl)⟩ dX5_serve_109 (fun v g_61 H locs hp hT => ?_)
          obtain ⟨r_62, rfl, hI, x_64, m_63⟩ := hp
          have hM : Sm md_s_serve3 g g_61 := hM.tr hE (m_63.mo (fun r k h => mdle_s_serve3_s_runActs3 h))
          have hE : Ex g g_61 := hE.tr x_64
          have r_65 : g_61.1 h = 6 := (Ex.r x_64 r_55 (by decide))
          have r_66 : g_61.1 v_1 = 41 := (Ex.r x_64 r_56 (by decide))
          have r_67 : g_61.1 q_2 = 4 := (Ex.r x_64 r_57 (by decide))
          have n_68 : g_61.2.2.1 v_1 = 6 := (Ex.n x_64 r_56 (by decide) n_58)
          have kn_69 : g_61.2.1 h 0 = .ref v_1 := (Sm.v m_63 r_55 (by decide) rfl kn_59)
          have kn_70 : g_61.2.1 h 2 = .int v_42 := (Sm.v m_63 r_55 (by decide) rfl kn_60)
          refine W.eq (g2 := F0 m 112 ls [.int r_62]) rfl ?_
          refine lv_istore (lv' := [(8, .int r_62), (7, .int (-1)), (6, .int 1), (5, .int 1), (4, .ref q_2), (0, .ref h), (1, .int n), (2, .int x1), (3, .int x2)]) hx hb dX5_serve_112 hl (by decide) rfl (fun ls hl => ?_)
          refine lv_aload_n hx hb dX5_serve_114 rfl (lv_at hl 5 rfl) ?_
          obtain ⟨v_71, e_v_71, l_v_71, u_v_71⟩ := f_6_7 hI r_65
          refine t_get (ci := 5) (v := .int v_71) hB hT (ro_ci r_65 rfl) rfl 7 (by decide) k_216 e_v_71 dX5_serve_115 ?_
          refine lv_if_eq (tgt := 124) hx hb dX5_serve_118 (by decide) (fun c_72 => ?_) (fun c_72 => ?_)
          · have c_72' : v_71.toInt = 0 := i_eq c_72 rfl (by decide)
            refine lv_iload hx hb dX5_serve_124 (lv_at hl 2 rfl) ?_
            refine lv_if_eq (tgt := 140) hx hb dX5_serve_126 (by decide) (fun c_ => absurd c_ (by decide)) (fun c_ => ?_)
            refine lv_aload hx hb dX5_serve_129 (lv_at hl 4 rfl) ?_
            refine lv_iload_n hx hb dX5_serve_131 rfl (lv_at hl 8 rfl) ?_
            refine lv_iload hx hb dX5_serve_132 (lv_at hl 0 rfl) ?_
            refine t_callV (n := 2) (As := [.int x2, .int r_62]) (rest := []) (ci := 3) hB hT hl.1 (s_answerNewest l D cI cZ cS cR N0 g_61 hI q_2 x2 r_62 r_67) (ro_ci r_67 rfl) rfl k_554 k_60 k_551 k_552 k_553 (by decide +kernel) ⟨(Nat.le_of_ble_eq_true rfl), (Nat.le_of_ble_eq_true rfl)⟩ rfl (Nat.le_of_ble_eq_true rfl) ⟨(Nat.le_of_ble_eq_true rfl), (Nat.le_of_ble_eq_true rfl)⟩ dX5_serve_134 (fun v g_73 H locs hp hT => ?_)
            obtain ⟨rfl, hI, x_75, m_74⟩ := hp
            have hM : Sm md_s_serve3 g g_73 := hM.tr hE (m_74.mo (fun r k h => mdle_s_serve3_s_answerNewest h))
            have hE : Ex g g_73 := hE.tr x_75
            have r_76 : g_73.1 h = 6 := (Ex.r x_75 r_65 (by decide))
            have r_77 : g_73.1 v_1 = 41 := (Ex.r x_75 r_66 (by decide))
            have r_78 : g_73.1 q_2 = 4 := (Ex.r x_75 r_67 (by decide))
            have n_79 : g_73.2.2.1 v_1 = 6 := (Ex.n x_75 r_66 (by decide) n_68)
            have kn_80 : g_73.2.1 h 0 = .ref v_1 := (Sm.v m_74 r_65 (by decide) rfl kn_69)
            have kn_81 : g_73.2.1 h 2 = .int v_42 := (Sm.v m_74 r_65 (by decide) rfl kn_70)
            have kn_82 : g_73.2.1 h 7 = .int v_71 := (Sm.v m_74 r_65 (by decide) rfl e_v_71)
            refine W.eq (g2 := F0 m 137 ls []) rfl ?_
            refine lv_goto (tgt := 158) hx hb dX5_serve_137 (by decide) ?_
            refine lv_iload hx hb dX5_serve_158 (lv_at hl 0 rfl) ?_
            exact t_iret hB hr hT (Nat.le_of_ble_eq_true rfl) (Nat.le_of_ble_eq_true rfl) dX5_serve_160 ⟨r_62, rfl, hI, hE, hM⟩
          · have c_72' : v_71.toInt ≠ 0 := i_ne c_72 rfl (by decide)
            refine lv_bipush (v := (-2)) hx hb dX5_serve_121 (by decide) ?_
            exact t_iret hB hr hT (Nat.le_of_ble_eq_true rfl) (Nat.le_of_ble_eq_true rfl) dX5_serve_123 ⟨(-2), rfl, hI, hE, hM⟩
        · refine W.eq (g2 := F0 m 60 ls [.int r_36]) rfl ?_
          refine lv_goto (tgt := 64) hx hb dX5_serve_60 (by decide) ?_
          refine lv_istore (lv' := [(7, .int r_36), (6, .int 1), (5, .int 1), (4, .ref q_2), (0, .ref h), (1, .int n), (2, .int x1), (3, .int x2)]) hx hb dX5_serve_64 hl (by decide) rfl (fun ls hl => ?_)
          refine lv_iload hx hb dX5_serve_66 (lv_at hl 0 rfl) ?_
          refine lv_iconst (v := (-1)) hx hb dX5_serve_68 (by decide) ?_
          refine lv_icmp_eq (tgt := 81) hx hb dX5_serve_69 (by decide) (fun c_83 => ?_) (fun c_83 => ?_)
          · have c_83' : r_36.toInt = (-1) := i_eq c_83 rfl (by decide)
            exact absurd c_83' (by omega)
          · have c_83' : r_36.toInt ≠ (-1) := i_ne c_83 rfl (by decide)
            refine lv_aload hx hb dX5_serve_72 (lv_at hl 3 rfl) ?_
            refine lv_iload hx hb dX5_serve_74 (lv_at hl 0 rfl) ?_
            refine lv_iload_n hx hb dX5_serve_76 rfl (lv_at hl 6 rfl) ?_
            refine t_callV (n := 2) (As := [.int r_36, .int x1]) (rest := []) (ci := 3) hB hT hl.1 (s_keptAnswer l D cI cZ cS cR N0 g hI q_2 r_36 x1 r_q_2 (by omega) (by omega)) (ro_ci r_q_2 rfl) rfl k_520 k_60 k_517 k_518 k_519 (by decide +kernel) ⟨(Nat.le_of_ble_eq_true rfl), (Nat.le_of_ble_eq_true rfl)⟩ rfl (Nat.le_of_ble_eq_true rfl) ⟨(Nat.le_of_ble_eq_true rfl), (Nat.le_of_ble_eq_true rfl)⟩ dX5_serve_77 (fun v g_84 H locs hp hT => ?_)
            obtain ⟨r_85, rfl, eg⟩ := hp
            rw [eg] at hT
            clear eg
            refine W.eq (g2 := F0 m 80 ls [.int r_85]) rfl ?_
            exact t_iret hB hr hT (Nat.le_of_ble_eq_true rfl) (Nat.le_of_ble_eq_true rfl) dX5_serve_80 ⟨r_85, rfl, hI, hE, hM⟩
      · refine W.eq (g2 := F0 m 39 ls [.int 0]) rfl ?_
        refine lv_if_eq (tgt := 46) hx hb dX5_serve_39 (by decide) (fun c_ => ?_) (fun c_ => absurd (by decide) c_)
        refine lv_iconst (v := 0) hx hb dX5_serve_46 (by decide) ?_
        refine lv_istore (lv' := [(6, .int 0), (5, .int 1), (4, .ref q_2), (0, .ref h), (1, .int n), (2, .int x1), (3, .int x2)]) hx hb dX5_serve_47 hl (by decide) rfl (fun ls hl => ?_)
        refine lv_iload hx hb dX5_serve_49 (lv_at hl 1 rfl) ?_
        refine lv_if_eq (tgt := 63) hx hb dX5_serve_51 (by decide) (fun c_ => absurd c_ (by decide)) (fun c_ => ?_)
        refine lv_aload hx hb dX5_serve_54 (lv_at hl 2 rfl) ?_
        refine lv_iload_n hx hb dX5_serve_56 rfl (lv_at hl 6 rfl) ?_
        refine t_callV (n := 1) (As := [.int x2]) (rest := []) (ci := 3) hB hT hl.1 (s_placeOfKey l D cI cZ cS cR N0 g hI q_2 x2 r_q_2) (ro_ci r_q_2 rfl) rfl k_516 k_60 k_513 k_514 k_515 (by decide +kernel) ⟨(Nat.le_of_ble_eq_true rfl), (Nat.le_of_ble_eq_true rfl)⟩ rfl (Nat.le_of_ble_eq_true rfl) ⟨(Nat.le_of_ble_eq_true rfl), (Nat.le_of_ble_eq_true rfl)⟩ dX5_serve_57 (fun v g_88 H locs hp hT => ?_)
        obtain ⟨r_89, rfl, eg, f_90⟩ := hp
        rw [eg] at hT
        clear eg
        refine W.eq (g2 := F0 m 60 ls [.int r_89]) rfl ?_
        rcases f_90 with rfl | ⟨hw_93, hw_94⟩
        · refine W.eq (g2 := F0 m 60 ls [.int (-1)]) rfl ?_
          refine lv_goto (tgt := 64) hx hb dX5_serve_60 (by decide) ?_
          refine lv_istore (lv' := [(7, .int (-1)), (6, .int 0), (5, .int 1), (4, .ref q_2), (0, .ref h), (1, .int n), (2, .int x1), (3, .int x2)]) hx hb dX5_serve_64 hl (by decide) rfl (fun ls hl => ?_)
          refine lv_iload hx hb dX5_serve_66 (lv_at hl 0 rfl) ?_
          refine lv_iconst (v := (-1)) hx hb dX5_serve_68 (by decide) ?_
          refine lv_icmp_eq (tgt := 81) hx hb dX5_serve_69 (by decide) (fun c_ => ?_) (fun c_ => absurd (by decide) c_)
          refine lv_iload hx hb dX5_serve_81 (lv_at hl 1 rfl) ?_
          refine lv_if_eq (tgt := 98) hx hb dX5_serve_83 (by decide) (fun c_ => ?_) (fun c_ => absurd (by decide) c_)
          refine lv_aload hx hb dX5_serve_98 (lv_at hl 3 rfl) ?_
          refine lv_iload_n hx hb dX5_serve_100 rfl (lv_at hl 6 rfl) ?_
          refine lv_iload_n hx hb dX5_serve_101 rfl (lv_at hl 7 rfl) ?_
          refine t_callV (n := 2) (As := [.int x1, .int x2]) (rest := []) (ci := 3) hB hT hl.1 (s_beginKnown l D cI cZ cS cR N0 g hI q_2 x1 x2 r_q_2) (ro_ci r_q_2 rfl) rfl k_529 k_60 k_526 k_527 k_528 (by decide +kernel) ⟨(Nat.le_of_ble_eq_true rfl), (Nat.le_of_ble_eq_true rfl)⟩ rfl (Nat.le_of_ble_eq_true rfl) ⟨(Nat.le_of_ble_eq_true rfl), (Nat.le_of_ble_eq_true rfl)⟩ dX5_serve_102 (fun v g_95 H locs hp hT => ?_)
          obtain ⟨rfl, hI, x_97, m_96⟩ := hp
          have hM : Sm md_s_serve3 g g_95 := hM.tr hE (m_96.mo (fun r k h => mdle_s_serve3_s_beginKnown h))
          have hE : Ex g g_95 := hE.tr x_97
          have r_98 : g_95.1 h = 6 := (Ex.r x_97 r_h (by decide))
          have r_99 : g_95.1 v_1 = 41 := (Ex.r x_97 r_v_1 (by decide))
          have r_100 : g_95.1 q_2 = 4 := (Ex.r x_97 r_q_2 (by decide))
          have n_101 : g_95.2.2.1 v_1 = 6 := (Ex.n x_97 r_v_1 (by decide) n_v_1)
          have kn_102 : g_95.2.1 h 0 = .ref v_1 := (Sm.v m_96 r_h (by decide) rfl e_v_1)
          refine W.eq (g2 := F0 m 105 ls []) rfl ?_
          refine lv_aload_n hx hb dX5_serve_105 rfl (lv_at hl 4 rfl) ?_
          refine lv_iload_n hx hb dX5_serve_106 rfl (lv_at hl 5 rfl) ?_
          refine lv_iload_n hx hb dX5_serve_107 rfl (lv_at hl 6 rfl) ?_
          refine lv_iload_n hx hb dX5_serve_108 rfl (lv_at hl 7 rfl) ?_
          refine t_callV (n := 3) (As := [.int n, .int x1, .int x2]) (rest := []) (ci := 5) hB hT hl.1 (s_runActs3 l D cI cZ cS cR N0 g_95 hI h n x1 x2 r_98 (by omega) (by omega)) (ro_ci r_98 rfl) rfl k_534 k_59 k_531 k_533 k_13 (by decide +kernel) ⟨(Nat.le_of_ble_eq_true rfl), (Nat.le_of_ble_eq_true rfl)⟩ rfl (Nat.le_of_ble_eq_true rfl) ⟨(Nat.le_of_ble_eq_true rfl), (Nat.le_of_ble_eq_true rfl)⟩ dX5_serve_109 (fun v g_103 H locs hp hT => ?_)
          obtain ⟨r_104, rfl, hI, x_106, m_105⟩ := hp
          have hM : Sm md_s_serve3 g g_103 := hM.tr hE (m_105.mo (fun r k h => mdle_s_serve3_s_runActs3 h))
          have hE : Ex g g_103 := hE.tr x_106
          have r_107 : g_103.1 h = 6 := (Ex.r x_106 r_98 (by decide))
          have r_108 : g_103.1 v_1 = 41 := (Ex.r x_106 r_99 (by decide))
          have r_109 : g_103.1 q_2 = 4 := (Ex.r x_106 r_100 (by decide))
          have n_110 : g_103.2.2.1 v_1 = 6 := (Ex.n x_106 r_99 (by decide) n_101)
          have kn_111 : g_103.2.1 h 0 = .ref v_1 := (Sm.v m_105 r_98 (by decide) rfl kn_102)
          refine W.eq (g2 := F0 m 112 ls [.int r_104]) rfl ?_
          refine lv_istore (lv' := [(8, .int r_104), (7, .int (-1)), (6, .int 0), (5, .int 1), (4, .ref q_2), (0, .ref h), (1, .int n), (2, .int x1), (3, .int x2)]) hx hb dX5_serve_112 hl (by decide) rfl (fun ls hl => ?_)
          refine lv_aload_n hx hb dX5_serve_114 rfl (lv_at hl 5 rfl) ?_
          obtain ⟨v_112, e_v_112, l_v_112, u_v_112⟩ := f_6_7 hI r_107
          refine t_get (ci := 5) (v := .int v_112) hB hT (ro_ci r_107 rfl) rfl 7 (by decide) k_216 e_v_112 dX5_serve_115 ?_
          refine lv_if_eq (tgt := 124) hx hb dX5_serve_118 (by decide) (fun c_113 => ?_) (fun c_113 => ?_)
          · have c_113' : v_112.toInt = 0 := i_eq c_113 rfl (by decide)
            refine lv_iload hx hb dX5_serve_124 (lv_at hl 2 rfl) ?_
            refine lv_if_eq (tgt := 140) hx hb dX5_serve_126 (by decide) (fun c_ => ?_) (fun c_ => absurd (by decide) c_)
            refine lv_iload hx hb dX5_serve_140 (lv_at hl 3 rfl) ?_
            refine lv_if_eq (tgt := 158) hx hb dX5_serve_142 (by decide) (fun c_ => absurd c_ (by decide)) (fun c_ => ?_)
            refine lv_aload hx hb dX5_serve_145 (lv_at hl 4 rfl) ?_
            refine lv_iload_n hx hb dX5_serve_147 rfl (lv_at hl 8 rfl) ?_
            refine lv_iload_n hx hb dX5_serve_148 rfl (lv_at hl 7 rfl) ?_
            refine lv_iload hx hb dX5_serve_149 (lv_at hl 0 rfl) ?_
            refine lv_aload_n hx hb dX5_serve_151 rfl (lv_at hl 5 rfl) ?_
            obtain ⟨v_114, e_v_114⟩ := f_6_2 hI r_107
            refine t_get (ci := 5) (v := .int v_114) hB hT (ro_ci r_107 rfl) rfl 2 (by decide) k_205 e_v_114 dX5_serve_152 ?_
            refine t_callV (n := 4) (As := [.int x2, .int x1, .int r_104, .int v_114]) (rest := []) (ci := 3) hB hT hl.1 (s_keep l D cI cZ cS cR N0 g_103 hI q_2 x2 x1 r_104 v_114 r_109) (ro_ci r_109 rfl) rfl k_524 k_60 k_521 k_522 k_523 (by decide +kernel) ⟨(Nat.le_of_ble_eq_true rfl), (Nat.le_of_ble_eq_true rfl)⟩ rfl (Nat.le_of_ble_eq_true rfl) ⟨(Nat.le_of_ble_eq_true rfl), (Nat.le_of_ble_eq_true rfl)⟩ dX5_serve_155 (fun v g_115 H locs hp hT => ?_)
            obtain ⟨rfl, hI, x_117, m_116⟩ := hp
            have hM : Sm md_s_serve3 g g_115 := hM.tr hE (m_116.mo (fun r k h => mdle_s_serve3_s_keep h))
            have hE : Ex g g_115 := hE.tr x_117
            have r_118 : g_115.1 h = 6 := (Ex.r x_117 r_107 (by decide))
            have r_119 : g_115.1 v_1 = 41 := (Ex.r x_117 r_108 (by decide))
            have r_120 : g_115.1 q_2 = 4 := (Ex.r x_117 r_109 (by decide))
            have n_121 : g_115.2.2.1 v_1 = 6 := (Ex.n x_117 r_108 (by decide) n_110)
            have kn_122 : g_115.2.1 h 0 = .ref v_1 := (Sm.v m_116 r_107 (by decide) rfl kn_111)
            have kn_123 : g_115.2.1 h 7 = .int v_112 := (Sm.v m_116 r_107 (by decide) rfl e_v_112)
            have kn_124 : g_115.2.1 h 2 = .int v_114 := (Sm.v m_116 r_107 (by decide) rfl e_v_114)
            refine W.eq (g2 := F0 m 158 ls []) rfl ?_
            refine lv_iload hx hb dX5_serve_158 (lv_at hl 0 rfl) ?_
            exact t_iret hB hr hT (Nat.le_of_ble_eq_true rfl) (Nat.le_of_ble_eq_true rfl) dX5_serve_160 ⟨r_104, rfl, hI, hE, hM⟩
          · have c_113' : v_112.toInt ≠ 0 := i_ne c_113 rfl (by decide)
            refine lv_bipush (v := (-2)) hx hb dX5_serve_121 (by decide) ?_
            exact t_iret hB hr hT (Nat.le_of_ble_eq_true rfl) (Nat.le_of_ble_eq_true rfl) dX5_serve_123 ⟨(-2), rfl, hI, hE, hM⟩
        · refine W.eq (g2 := F0 m 60 ls [.int r_89]) rfl ?_
          refine lv_goto (tgt := 64) hx hb dX5_serve_60 (by decide) ?_
          refine lv_istore (lv' := [(7, .int r_89), (6, .int 0), (5, .int 1), (4, .ref q_2), (0, .ref h), (1, .int n), (2, .int x1), (3, .int x2)]) hx hb dX5_serve_64 hl (by decide) rfl (fun ls hl => ?_)
          refine lv_iload hx hb dX5_serve_66 (lv_at hl 0 rfl) ?_
          refine lv_iconst (v := (-1)) hx hb dX5_serve_68 (by decide) ?_
          refine lv_icmp_eq (tgt := 81) hx hb dX5_serve_69 (by decide) (fun c_125 => ?_) (fun c_125 => ?_)
          · have c_125' : r_89.toInt = (-1) := i_eq c_125 rfl (by decide)
            exact absurd c_125' (by omega)
          · have c_125' : r_89.toInt ≠ (-1) := i_ne c_125 rfl (by decide)
            refine lv_aload hx hb dX5_serve_72 (lv_at hl 3 rfl) ?_
            refine lv_iload hx hb dX5_serve_74 (lv_at hl 0 rfl) ?_
            refine lv_iload_n hx hb dX5_serve_76 rfl (lv_at hl 6 rfl) ?_
            refine t_callV (n := 2) (As := [.int r_89, .int x1]) (rest := []) (ci := 3) hB hT hl.1 (s_keptAnswer l D cI cZ cS cR N0 g hI q_2 r_89 x1 r_q_2 (by omega) (by omega)) (ro_ci r_q_2 rfl) rfl k_520 k_60 k_517 k_518 k_519 (by decide +kernel) ⟨(Nat.le_of_ble_eq_true rfl), (Nat.le_of_ble_eq_true rfl)⟩ rfl (Nat.le_of_ble_eq_true rfl) ⟨(Nat.le_of_ble_eq_true rfl), (Nat.le_of_ble_eq_true rfl)⟩ dX5_serve_77 (fun v g_126 H locs hp hT => ?_)
            obtain ⟨r_127, rfl, eg⟩ := hp
            rw [eg] at hT
            clear eg
            refine W.eq (g2 := F0 m 80 ls [.int r_127]) rfl ?_
            exact t_iret hB hr hT (Nat.le_of_ble_eq_true rfl) (Nat.le_of_ble_eq_true rfl) dX5_serve_80 ⟨r_127, rfl, hI, hE, hM⟩
    · refine W.eq (g2 := F0 m 18 ls [.int 0]) rfl ?_
      refine lv_if_eq (tgt := 25) hx hb dX5_serve_18 (by decide) (fun c_ => ?_) (fun c_ => absurd (by decide) c_)
      refine lv_iconst (v := 0) hx hb dX5_serve_25 (by decide) ?_
      refine lv_istore (lv' := [(5, .int 0), (4, .ref q_2), (0, .ref h), (1, .int n), (2, .int x1), (3, .int x2)]) hx hb dX5_serve_26 hl (by decide) rfl (fun ls hl => ?_)
      refine lv_iload hx hb dX5_serve_28 (lv_at hl 0 rfl) ?_
      refine lv_if_eq (tgt := 46) hx hb dX5_serve_30 (by decide) (fun c_ => ?_) (fun c_ => absurd (by decide) c_)
      refine lv_iconst (v := 0) hx hb dX5_serve_46 (by decide) ?_
      refine lv_istore (lv' := [(6, .int 0), (5, .int 0), (4, .ref q_2), (0, .ref h), (1, .int n), (2, .int x1), (3, .int x2)]) hx hb dX5_serve_47 hl (by decide) rfl (fun ls hl => ?_)
      refine lv_iload hx hb dX5_serve_49 (lv_at hl 1 rfl) ?_
      refine lv_if_eq (tgt := 63) hx hb dX5_serve_51 (by decide) (fun c_ => ?_) (fun c_ => absurd (by decide) c_)
      refine lv_iconst (v := (-1)) hx hb dX5_serve_63 (by decide) ?_
      refine lv_istore (lv' := [(7, .int (-1)), (6, .int 0), (5, .int 0), (4, .ref q_2), (0, .ref h), (1, .int n), (2, .int x1), (3, .int x2)]) hx hb dX5_serve_64 hl (by decide) rfl (fun ls hl => ?_)
      refine lv_iload hx hb dX5_serve_66 (lv_at hl 0 rfl) ?_
      refine lv_iconst (v := (-1)) hx hb dX5_serve_68 (by decide) ?_
      refine lv_icmp_eq (tgt := 81) hx hb dX5_serve_69 (by decide) (fun c_ => ?_) (fun c_ => absurd (by decide) c_)
      refine lv_iload hx hb dX5_serve_81 (lv_at hl 1 rfl) ?_
      refine lv_if_eq (tgt := 98) hx hb dX5_serve_83 (by decide) (fun c_ => ?_) (fun c_ => absurd (by decide) c_)
      refine lv_aload hx hb dX5_serve_98 (lv_at hl 3 rfl) ?_
      refine lv_iload_n hx hb dX5_serve_100 rfl (lv_at hl 6 rfl) ?_
      refine lv_iload_n hx hb dX5_serve_101 rfl (lv_at hl 7 rfl) ?_
      refine t_callV (n := 2) (As := [.int x1, .int x2]) (rest := []) (ci := 3) hB hT hl.1 (s_beginKnown l D cI cZ cS cR N0 g hI q_2 x1 x2 r_q_2) (ro_ci r_q_2 rfl) rfl k_529 k_60 k_526 k_527 k_528 (by decide +kernel) ⟨(Nat.le_of_ble_eq_true rfl), (Nat.le_of_ble_eq_true rfl)⟩ rfl (Nat.le_of_ble_eq_true rfl) ⟨(Nat.le_of_ble_eq_true rfl), (Nat.le_of_ble_eq_true rfl)⟩ dX5_serve_102 (fun v g_130 H locs hp hT => ?_)
      obtain ⟨rfl, hI, x_132, m_131⟩ := hp
      have hM : Sm md_s_serve3 g g_130 := hM.tr hE (m_131.mo (fun r k h => mdle_s_serve3_s_beginKnown h))
      have hE : Ex g g_130 := hE.tr x_132
      have r_133 : g_130.1 h = 6 := (Ex.r x_132 r_h (by decide))
      have r_134 : g_130.1 v_1 = 41 := (Ex.r x_132 r_v_1 (by decide))
      have r_135 : g_130.1 q_2 = 4 := (Ex.r x_132 r_q_2 (by decide))
      have n_136 : g_130.2.2.1 v_1 = 6 := (Ex.n x_132 r_v_1 (by decide) n_v_1)
      have kn_137 : g_130.2.1 h 0 = .ref v_1 := (Sm.v m_131 r_h (by decide) rfl e_v_1)
      refine W.eq (g2 := F0 m 105 ls []) rfl ?_
      refine lv_aload_n hx hb dX5_serve_105 rfl (lv_at hl 4 rfl) ?_
      refine lv_iload_n hx hb dX5_serve_106 rfl (lv_at hl 5 rfl) ?_
      refine lv_iload_n hx hb dX5_serve_107 rfl (lv_at hl 6 rfl) ?_
      refine lv_iload_n hx hb dX5_serve_108 rfl (lv_at hl 7 rfl) ?_
      refine t_callV (n := 3) (As := [.int n, .int x1, .int x2]) (rest := []) (ci := 5) hB hT hl.1 (s_runActs3 l D cI cZ cS cR N0 g_130 hI h n x1 x2 r_133 (by omega) (by omega)) (ro_ci r_133 rfl) rfl k_534 k_59 k_531 k_533 k_13 (by decide +kernel) ⟨(Nat.le_of_ble_eq_true rfl), (Nat.le_of_ble_eq_true rfl)⟩ rfl (Nat.le_of_ble_eq_true rfl) ⟨(Nat.le_of_ble_eq_true rfl), (Nat.le_of_ble_eq_true rfl)⟩ dX5_serve_109 (fun v g_138 H locs hp hT => ?_)
      obtain ⟨r_139, rfl, hI, x_141, m_140⟩ := hp
      have hM : Sm md_s_serve3 g g_138 := hM.tr hE (m_140.mo (fun r k h => mdle_s_serve3_s_runActs3 h))
      have hE : Ex g g_138 := hE.tr x_141
      have r_142 : g_138.1 h = 6 := (Ex.r x_141 r_133 (by decide))
      have r_143 : g_138.1 v_1 = 41 := (Ex.r x_141 r_134 (by decide))
      have r_144 : g_138.1 q_2 = 4 := (Ex.r x_141 r_135 (by decide))
      have n_145 : g_138.2.2.1 v_1 = 6 := (Ex.n x_141 r_134 (by decide) n_136)
      have kn_146 : g_138.2.1 h 0 = .ref v_1 := (Sm.v m_140 r_133 (by decide) rfl kn_137)
      refine W.eq (g2 := F0 m 112 ls [.int r_139]) rfl ?_
      refine lv_istore (lv' := [(8, .int r_139), (7, .int (-1)), (6, .int 0), (5, .int 0), (4, .ref q_2), (0, .ref h), (1, .int n), (2, .int x1), (3, .int x2)]) hx hb dX5_serve_112 hl (by decide) rfl (fun ls hl => ?_)
      refine lv_aload_n hx hb dX5_serve_114 rfl (lv_at hl 5 rfl) ?_
      obtain ⟨v_147, e_v_147, l_v_147, u_v_147⟩ := f_6_7 hI r_142
      refine t_get (ci := 5) (v := .int v_147) hB hT (ro_ci r_142 rfl) rfl 7 (by decide) k_216 e_v_147 dX5_serve_115 ?_
      refine lv_if_eq (tgt := 124) hx hb dX5_serve_118 (by decide) (fun c_148 => ?_) (fun c_148 => ?_)
      · have c_148' : v_147.toInt = 0 := i_eq c_148 rfl (by decide)
        refine lv_iload hx hb dX5_serve_124 (lv_at hl 2 rfl) ?_
        refine lv_if_eq (tgt := 140) hx hb dX5_serve_126 (by decide) (fun c_ => ?_) (fun c_ => absurd (by decide) c_)
        refine lv_iload hx hb dX5_serve_140 (lv_at hl 3 rfl) ?_
        refine lv_if_eq (tgt := 158) hx hb dX5_serve_142 (by decide) (fun c_ => ?_) (fun c_ => absurd (by decide) c_)
        refine lv_iload hx hb dX5_serve_158 (lv_at hl 0 rfl) ?_
        exact t_iret hB hr hT (Nat.le_of_ble_eq_true rfl) (Nat.le_of_ble_eq_true rfl) dX5_serve_160 ⟨r_139, rfl, hI, hE, hM⟩
      · have c_148' : v_147.toInt ≠ 0 := i_ne c_148 rfl (by decide)
        refine lv_bipush (v := (-2)) hx hb dX5_serve_121 (by decide) ?_
        exact t_iret hB hr hT (Nat.le_of_ble_eq_true rfl) (Nat.le_of_ble_eq_true rfl) dX5_serve_123 ⟨(-2), rfl, hI, hE, hM⟩
abbrev md_s_runActs4 : Nat → Nat → Bool := mdf [(4, 2), (4, 5), (4, 10), (4, 11), (4, 14), (6, 4), (6, 5), (6, 7), (50, 99)]
theorem mdle_s_runActs4_s_isHeldBack {r k : Nat} (h : md_s_runActs4 r k = false) : md_s_isHeldBack r k = false := mdf_le (by decide +kernel) h
theorem mdle_s_runActs4_s_perform {r k : Nat} (h : md_s_runActs4 r k = false) : md_s_perform r k = false := mdf_le (by decide +kernel) h
theorem mdle_s_runActs4_s_serve3 {r k : Nat} (h : md_s_runActs4 r k = false) : md_s_serve3 r k = false := mdf_le (by decide +kernel) h
set_option maxHeartbeats 4000000 in
set_option maxRecDepth 100000 in
theorem lt_s_runActs4_a (l : Launch) (D : va_G) (cI cZ cS cR : ClassId) (N0 : NT) (g : GS) (h : Nat) (n : Int32) (x1 : Int32) (x2 : Int32) (r_h : g.1 h = 6) (l_n : 1 ≤ n.toInt) (u_n : n.toInt ≤ 5) {p : Program} {e : Env} {s : State} {m : MethodId} {args : Array Value} {below : List Frame} {meth : Method} {c : Code} (hB : Tz p s m meth c args cX5_runActs 14 RX5 D cI cZ cS cR N0) (hr : meth.sig.returnType = (some .int))    : ∀ (kf : Nat) (g1 : GS) (i : Int32) (j : Int32) (pk : Int32) (po : Int32) (q1 : Nat) (q2 : Nat) (H : Heap) (locs : List Loc) (ls : Array Slot), Tv D cI cZ cS cR N0 s.heap H locs g1 → Inv g1 → Ex g g1 → Sm md_s_runActs4 g g1 → 0 ≤ i.toInt → i.toInt ≤ 8 → 0 ≤ pk.toInt → pk.toInt ≤ 1 → 0 ≤ po.toInt → po.toInt ≤ 1 → g1.1 q1 = 4 → g1.1 q2 = 3 → (8 ≤ i.toInt + kf) → lv_has ls 14 [(9, .int i), (8, .int po), (7, .int j), (6, .int pk), (5, .ref q2), (4, .ref q1), (0, .ref h), (1, .int n), (2, .int x1), (3, .int x2)] → W p l e (rmx 9 0 0) s m args below meth c H locs 0 0 (MQ below (tQ D cI cZ cS cR N0 (fun v g' => ∃ (r : Int32), v = some (.int r) ∧ Inv g' ∧ Ex g g' ∧ Sm md_s_runActs4 g g')) args s 0 0 (fun q => N0.1 ≤ q)) (F0 m 44 ls []) := by
  have hx := hB.1
  have hb := hB.2.1
  intro kf
  induction kf using Nat.strongRecOn with
  | ind kf ih =>
    intro g1 i j pk po q1 q2 H locs ls hT hI hE hM l_i u_i l_pk u_pk l_po u_po r1_q1 r1_q2 hk hl
    have r_1 : g1.1 h = 6 := Ex.r hE r_h (by decide)
    refine lv_iload hx hb dX5_runActs_44 (lv_at hl 0 rfl) ?_
    refine lv_aload hx hb dX5_runActs_46 (lv_at hl 4 rfl) ?_
    obtain ⟨v_2, e_v_2, l_v_2, u_v_2⟩ := f_3_3 hI r1_q2
    refine t_get (ci := 2) (v := .int v_2) hB hT (ro_ci r1_q2 rfl) rfl 3 (by decide) k_133 e_v_2 dX5_runActs_48 ?_
    refine lv_icmp_ge (tgt := 288) hx hb dX5_runActs_51 (by decide) (fun c_3 => ?_) (fun c_3 => ?_)
    · have c_3' : v_2.toInt ≤ i.toInt := i_le c_3 rfl rfl
      refine lv_iload hx hb dX5_runActs_288 (lv_at hl 2 rfl) ?_
      exact t_iret hB hr hT (Nat.le_of_ble_eq_true rfl) (Nat.le_of_ble_eq_true rfl) dX5_runActs_290 ⟨j, rfl, hI, hE, hM⟩
    · have c_3' : i.toInt < v_2.toInt := i_nle c_3 rfl rfl
      refine lv_iload hx hb dX5_runActs_54 (lv_at hl 1 rfl) ?_
      refine lv_if_eq (tgt := 65) hx hb dX5_runActs_56 (by decide) (fun c_4 => ?_) (fun c_4 => ?_)
      · have c_4' : po.toInt = 0 := i_eq c_4 rfl (by decide)
        refine lv_aload_n hx hb dX5_runActs_65 rfl (lv_at hl 6 rfl) ?_
        obtain ⟨v_5, e_v_5⟩ := f_6_5 hI r_1
        refine t_get (ci := 5) (v := .int v_5) hB hT (ro_ci r_1 rfl) rfl 5 (by decide) k_213 e_v_5 dX5_runActs_66 ?_
        refine lv_iconst (v := 1) hx hb dX5_runActs_69 (by decide) ?_
        refine lv_iadd hx hb dX5_runActs_70 ?_
        refine lv_topi (fun z_6 ez_6 => ?_)
        refine lv_aload_n hx hb dX5_runActs_71 rfl (lv_at hl 6 rfl) ?_
        obtain ⟨v_7, e_v_7⟩ := f_6_6 hI r_1
        refine t_get (ci := 5) (v := .int v_7) hB hT (ro_ci r_1 rfl) rfl 6 (by decide) k_215 e_v_7 dX5_runActs_72 ?_
        refine lv_icmp_lt (tgt := 86) hx hb dX5_runActs_75 (by decide) (fun c_8 => ?_) (fun c_8 => ?_)
        · have c_8' : z_6.toInt < v_7.toInt := i_lt c_8 rfl rfl
          refine lv_aload_n hx hb dX5_runActs_86 rfl (lv_at hl 6 rfl) ?_
          refine lv_dup hx hb dX5_runActs_87 rfl ?_
          refine t_get (ci := 5) (v := .int v_5) hB hT (ro_ci r_1 rfl) rfl 5 (by decide) k_213 e_v_5 dX5_runActs_88 ?_
          refine lv_iconst (v := 1) hx hb dX5_runActs_91 (by decide) ?_
          refine lv_iadd hx hb dX5_runActs_92 ?_
          refine lv_topi (fun z_9 ez_9 => ?_)
          refine t_put0 (ci := 5) (v := .int z_9) hB hT (ro_ci r_1 rfl) (ro_n0 r_1 (by decide)) rfl 5 (by decide) k_213 (Or.inl rfl) rfl rfl dX5_runActs_93 (fun H locs hT => ?_)
          have hI : Inv (sF g1 h 5 (.int z_9)) := hI.sF (p_6_5 r_1 (⟨_, rfl⟩))
          have hM : Sm md_s_runActs4 g (sF g1 h 5 (.int z_9)) := hM.tr hE (Sm_sF (by rw [r_1]; rfl))
          have hE : Ex g (sF g1 h 5 (.int z_9)) := hE
          refine lv_aload hx hb dX5_runActs_96 (lv_at hl 4 rfl) ?_
          refine lv_iload hx hb dX5_runActs_98 (lv_at hl 0 rfl) ?_
          refine lv_iload_n hx hb dX5_runActs_100 rfl (lv_at hl 8 rfl) ?_
          refine lv_iload hx hb dX5_runActs_101 (lv_at hl 2 rfl) ?_
          refine t_callV (n := 3) (As := [.int i, .int x1, .int j]) (rest := []) (ci := 2) hB hT hl.1 (s_valueAt l D cI cZ cS cR N0 (sF g1 h 5 (.int z_9)) hI q2 i x1 j r1_q2 (by omega) (by omega)) (ro_ci r1_q2 rfl) rfl k_538 k_61 k_535 k_536 k_537 (by decide +kernel) ⟨(Nat.le_of_ble_eq_true rfl), (Nat.le_of_ble_eq_true rfl)⟩ rfl (Nat.le_of_ble_eq_true rfl) ⟨(Nat.le_of_ble_eq_true rfl), (Nat.le_of_ble_eq_true rfl)⟩ dX5_runActs_103 (fun v g_10 H locs hp hT => ?_)
          obtain ⟨r_11, rfl, eg⟩ := hp
          rw [eg] at hT
          clear eg
          refine W.eq (g2 := F0 m 106 ls [.int r_11]) rfl ?_
          refine lv_istore (lv' := [(10, .int r_11), (9, .int i), (8, .int po), (7, .int j), (6, .int pk), (5, .ref q2), (4, .ref q1), (0, .ref h), (1, .int n), (2, .int x1), (3, .int x2)]) hx hb dX5_runActs_106 hl (by decide) rfl (fun ls hl => ?_)
          refine lv_aload hx hb dX5_runActs_108 (lv_at hl 6 rfl) ?_
          refine lv_iload hx hb dX5_runActs_110 (lv_at hl 1 rfl) ?_
          refine lv_iload hx hb dX5_runActs_112 (lv_at hl 0 rfl) ?_
          refine t_callV (n := 2) (As := [.int i, .int r_11]) (rest := []) (ci := 3) hB hT hl.1 (s_isHeldBack l D cI cZ cS cR N0 (sF g1 h 5 (.int z_9)) hI q1 i r_11 r1_q1 (by omega) (by omega)) (ro_ci r1_q1 rfl) rfl k_542 k_60 k_539 k_540 k_541 (by decide +kernel) ⟨(Nat.le_of_ble_eq_true rfl), (Nat.le_of_ble_eq_true rfl)⟩ rfl (Nat.le_of_ble_eq_true rfl) ⟨(Nat.le_of_ble_eq_true rfl), (Nat.le_of_ble_eq_true rfl)⟩ dX5_runActs_114 (fun v g_14 H locs hp hT => ?_)
          obtain ⟨r_15, rfl, hI, x_18, m_17, f_16⟩ := hp
          have hM : Sm md_s_runActs4 g g_14 := hM.tr hE (m_17.mo (fun r k h => mdle_s_runActs4_s_isHeldBack h))
          have hE : Ex g g_14 := hE.tr x_18
          have r_19 : g_14.1 h = 6 := (Ex.r x_18 r_1 (by decide))
          have r_20 : g_14.1 q1 = 4 := (Ex.r x_18 r1_q1 (by decide))
          have r_21 : g_14.1 q2 = 3 := (Ex.r x_18 r1_q2 (by decide))
          have kn_22 : g_14.2.1 q2 3 = .int v_2 := (Sm.v m_17 r1_q2 (by decide) rfl (sF_k e_v_2 (by decide)))
          have kn_23 : g_14.2.1 h 6 = .int v_7 := (Sm.v m_17 r_1 (by decide) rfl (sF_k e_v_7 (by decide)))
          have kn_24 : g_14.2.1 h 5 = .int z_9 := (Sm.v m_17 r_1 (by decide) rfl sF_eq)
          refine W.eq (g2 := F0 m 117 ls [.int r_15]) rfl ?_
          rcases f_16 with rfl | rfl
          · refine W.eq (g2 := F0 m 117 ls [.int 1]) rfl ?_
            refine lv_if_eq (tgt := 123) hx hb dX5_runActs_117 (by decide) (fun c_ => absurd c_ (by decide)) (fun c_ => ?_)
            refine lv_goto (tgt := 282) hx hb dX5_runActs_120 (by decide) ?_
            obtain ⟨z_25, ez_25⟩ : ∃ z : Int32, z = i + 1 := ⟨_, rfl⟩
            have e_z_25 : z_25.toInt = i.toInt + 1 := i_add ez_25 rfl (by decide) (by omega) (by omega)
            refine lv_iinc (v := z_25) (lv' := [(9, .int z_25), (10, .int r_11), (8, .int po), (7, .int j), (6, .int pk), (5, .ref q2), (4, .ref q1), (0, .ref h), (1, .int n), (2, .int x1), (3, .int x2)]) hx hb dX5_runActs_282 hl (k := 1) rfl (by rw [ez_25]; rfl) (by decide) rfl (fun ls hl => ?_)
            refine lv_goto (tgt := 44) hx hb dX5_runActs_285 (by decide) ?_
            exact ih (kf - 1) (by omega) g_14 z_25 j pk po q1 q2 H locs ls hT hI hE hM (by omega) (by omega) (by omega) (by omega) (by omega) (by omega) r_20 r_21 (by have e0_ : (0 : Int32).toInt = 0 := (by decide); omega) (lv_sub hl [0, 2, 3, 4, 5, 6, 7, 8, 9, 10] rfl)
          · refine W.eq (g2 := F0 m 117 ls [.int 0]) rfl ?_
            refine lv_if_eq (tgt := 123) hx hb dX5_runActs_117 (by decide) (fun c_ => ?_) (fun c_ => absurd (by decide) c_)
            refine lv_aload hx hb dX5_runActs_123 (lv_at hl 5 rfl) ?_
            obtain ⟨v_26, e_v_26, r_v_26, n_v_26⟩ := f_3_0 hI r_21
            refine t_get (ci := 2) (v := .ref v_26) hB hT (ro_ci r_21 rfl) rfl 0 (by decide) k_122 e_v_26 dX5_runActs_125 ?_
            refine lv_iload hx hb dX5_runActs_128 (lv_at hl 1 rfl) ?_
            have i_u_27 : vp_in i 8 := (i_in (n := 8) rfl (by omega) (by omega))
            refine t_iald hB hT (ro_in r_v_26 (by decide)) n_v_26 i_u_27 rfl dX5_runActs_130 ?_
            refine lv_topi (fun u_27 e_u_27 => ?_)
            refine lv_istore (lv' := [(11, .int u_27), (10, .int r_11), (9, .int i), (8, .int po), (7, .int j), (6, .int pk), (5, .ref q2), (4, .ref q1), (0, .ref h), (1, .int n), (2, .int x1), (3, .int x2)]) hx hb dX5_runActs_131 hl (by decide) rfl (fun ls hl => ?_)
            refine lv_aload hx hb dX5_runActs_133 (lv_at hl 6 rfl) ?_
            obtain ⟨v_28, e_v_28, r_v_28, n_v_28⟩ := f_3_1 hI r_21
            refine t_get (ci := 2) (v := .ref v_28) hB hT (ro_ci r_21 rfl) rfl 1 (by decide) k_126 e_v_28 dX5_runActs_135 ?_
            refine lv_iload hx hb dX5_runActs_138 (lv_at hl 2 rfl) ?_
            have i_u_29 : vp_in i 8 := (i_in (n := 8) rfl (by omega) (by omega))
            refine t_iald hB hT (ro_in r_v_28 (by decide)) n_v_28 i_u_29 rfl dX5_runActs_140 ?_
            have c_u_29 := hI.c r_v_28 n_v_28 (i_cl i_u_29)
            refine lv_topi (fun u_29 e_u_29 => ?_)
            obtain ⟨l_u_29, u_u_29⟩ := c_u_29
            rw [← e_u_29] at l_u_29 u_u_29
            refine lv_istore (lv' := [(12, .int u_29), (11, .int u_27), (10, .int r_11), (9, .int i), (8, .int po), (7, .int j), (6, .int pk), (5, .ref q2), (4, .ref q1), (0, .ref h), (1, .int n), (2, .int x1), (3, .int x2)]) hx hb dX5_runActs_141 hl (by decide) rfl (fun ls hl => ?_)
            refine lv_iload hx hb dX5_runActs_143 (lv_at hl 1 rfl) ?_
            refine lv_iconst (v := 5) hx hb dX5_runActs_145 (by decide) ?_
            refine lv_icmp_ne (tgt := 207) hx hb dX5_runActs_146 (by decide) (fun c_30 => ?_) (fun c_30 => ?_)
            · have c_30' : u_27.toInt ≠ 5 := i_ne c_30 rfl (by decide)
              refine lv_iload hx hb dX5_runActs_207 (lv_at hl 1 rfl) ?_
              refine lv_bipush (v := 6) hx hb dX5_runActs_209 (by decide) ?_
              refine lv_icmp_ne (tgt := 242) hx hb dX5_runActs_211 (by decide) (fun c_31 => ?_) (fun c_31 => ?_)
              · have c_31' : u_27.toInt ≠ 6 := i_ne c_31 rfl (by decide)
                refine lv_iload hx hb dX5_runActs_242 (lv_at hl 1 rfl) ?_
                refine lv_bipush (v := 7) hx hb dX5_runActs_244 (by decide) ?_
                refine lv_icmp_ne (tgt := 263) hx hb dX5_runActs_246 (by decide) (fun c_32 => ?_) (fun c_32 => ?_)
                · have c_32' : u_27.toInt ≠ 7 := i_ne c_32 rfl (by decide)
                  refine lv_iload hx hb dX5_runActs_263 (lv_at hl 1 rfl) ?_
                  refine lv_iconst (v := 5) hx hb dX5_runActs_265 (by decide) ?_
                  refine lv_icmp_eq (tgt := 282) hx hb dX5_runActs_266 (by decide) (fun c_33 => ?_) (fun c_33 => ?_)
                  · have c_33' : u_27.toInt = 5 := i_eq c_33 rfl (by decide)
                    obtain ⟨z_34, ez_34⟩ : ∃ z : Int32, z = i + 1 := ⟨_, rfl⟩
                    have e_z_34 : z_34.toInt = i.toInt + 1 := i_add ez_34 rfl (by decide) (by omega) (by omega)
                    refine lv_iinc (v := z_34) (lv' := [(9, .int z_34), (12, .int u_29), (11, .int u_27), (10, .int r_11), (8, .int po), (7, .int j), (6, .int pk), (5, .ref q2), (4, .ref q1), (0, .ref h), (1, .int n), (2, .int x1), (3, .int x2)]) hx hb dX5_runActs_282 hl (k := 3) rfl (by rw [ez_34]; rfl) (by decide) rfl (fun ls hl => ?_)
                    refine lv_goto (tgt := 44) hx hb dX5_runActs_285 (by decide) ?_
                    exact ih (kf - 1) (by omega) g_14 z_34 j pk po q1 q2 H locs ls hT hI hE hM (by omega) (by omega) (by omega) (by omega) (by omega) (by omega) r_20 r_21 (by have e0_ : (0 : Int32).toInt = 0 := (by decide); omega) (lv_sub hl [0, 4, 5, 6, 7, 8, 9, 10, 11, 12] rfl)
                  · have c_33' : u_27.toInt ≠ 5 := i_ne c_33 rfl (by decide)
                    refine lv_aload hx hb dX5_runActs_269 (lv_at hl 8 rfl) ?_
                    refine lv_iload hx hb dX5_runActs_271 (lv_at hl 3 rfl) ?_
                    refine lv_iload hx hb dX5_runActs_273 (lv_at hl 2 rfl) ?_
                    refine lv_iload hx hb dX5_runActs_275 (lv_at hl 5 rfl) ?_
                    refine t_callV (n := 3) (As := [.int i, .int r_11, .int j]) (rest := []) (ci := 3) hB hT hl.1 (s_perform l D cI cZ cS cR N0 g_14 hI q1 i r_11 j r_20 (by omega) (by omega)) (ro_ci r_20 rfl) rfl k_550 k_60 k_547 k_548 k_549 (by decide +kernel) ⟨(Nat.le_of_ble_eq_true rfl), (Nat.le_of_ble_eq_true rfl)⟩ rfl (Nat.le_of_ble_eq_true rfl) ⟨(Nat.le_of_ble_eq_true rfl), (Nat.le_of_ble_eq_true rfl)⟩ dX5_runActs_277 (fun v g_35 H locs hp hT => ?_)
                    obtain ⟨r_36, rfl, hI, x_38, m_37⟩ := hp
                    have hM : Sm md_s_runActs4 g g_35 := hM.tr hE (m_37.mo (fun r k h => mdle_s_runActs4_s_perform h))
                    have hE : Ex g g_35 := hE.tr x_38
                    have r_39 : g_35.1 h = 6 := (Ex.r x_38 r_19 (by decide))
                    have r_40 : g_35.1 q1 = 4 := (Ex.r x_38 r_20 (by decide))
                    have r_41 : g_35.1 q2 = 3 := (Ex.r x_38 r_21 (by decide))
                    have r_42 : g_35.1 v_26 = 68 := (Ex.r x_38 r_v_26 (by decide))
                    have r_43 : g_35.1 v_28 = 69 := (Ex.r x_38 r_v_28 (by decide))
                    have n_44 : g_35.2.2.1 v_26 = 8 := (Ex.n x_38 r_v_26 (by decide) n_v_26)
                    have n_45 : g_35.2.2.1 v_28 = 8 := (Ex.n x_38 r_v_28 (by decide) n_v_28)
                    have kn_46 : g_35.2.1 q2 3 = .int v_2 := (Sm.v m_37 r_21 (by decide) rfl kn_22)
                    have kn_47 : g_35.2.1 h 6 = .int v_7 := (Sm.v m_37 r_19 (by decide) rfl kn_23)
                    have kn_48 : g_35.2.1 h 5 = .int z_9 := (Sm.v m_37 r_19 (by decide) rfl kn_24)
                    have kn_49 : g_35.2.1 q2 0 = .ref v_26 := (Sm.v m_37 r_21 (by decide) rfl e_v_26)
                    have kn_50 : g_35.2.1 q2 1 = .ref v_28 := (Sm.v m_37 r_21 (by decide) rfl e_v_28)
                    have kn_51 : g_35.2.2.2.1 v_26 i.toNatClampNeg = u_27 := (Sm.c m_37 r_v_26 (by decide) rfl e_u_27.symm)
                    have kn_52 : g_35.2.2.2.1 v_28 i.toNatClampNeg = u_29 := (Sm.c m_37 r_v_28 (by decide) rfl e_u_29.symm)
                    refine W.eq (g2 := F0 m 280 ls [.int r_36]) rfl ?_
                    refine lv_istore (lv' := [(7, .int r_36), (12, .int u_29), (11, .int u_27), (10, .int r_11), (9, .int i), (8, .int po), (6, .int pk), (5, .ref q2), (4, .ref q1), (0, .ref h), (1, .int n), (2, .int x1), (3, .int x2)]) hx hb dX5_runActs_280 hl (by decide) rfl (fun ls hl => ?_)
                    obtain ⟨z_53, ez_53⟩ : ∃ z : Int32, z = i + 1 := ⟨_, rfl⟩
                    have e_z_53 : z_53.toInt = i.toInt + 1 := i_add ez_53 rfl (by decide) (by omega) (by omega)
                    refine lv_iinc (v := z_53) (lv' := [(9, .int z_53), (7, .int r_36), (12, .int u_29), (11, .int u_27), (10, .int r_11), (8, .int po), (6, .int pk), (5, .ref q2), (4, .ref q1), (0, .ref h), (1, .int n), (2, .int x1), (3, .int x2)]) hx hb dX5_runActs_282 hl (k := 4) rfl (by rw [ez_53]; rfl) (by decide) rfl (fun ls hl => ?_)
                    refine lv_goto (tgt := 44) hx hb dX5_runActs_285 (by decide) ?_
                    exact ih (kf - 1) (by omega) g_35 z_53 r_36 pk po q1 q2 H locs ls hT hI hE hM (by omega) (by omega) (by omega) (by omega) (by omega) (by omega) r_40 r_41 (by have e0_ : (0 : Int32).toInt = 0 := (by decide); omega) (lv_sub hl [0, 5, 1, 6, 7, 8, 9, 10, 11, 12] rfl)
                · have c_32' : u_27.toInt = 7 := i_eq c_32 rfl (by decide)
                  refine lv_aload hx hb dX5_runActs_249 (lv_at hl 8 rfl) ?_
                  refine lv_iload hx hb dX5_runActs_251 (lv_at hl 3 rfl) ?_
                  refine lv_iload hx hb dX5_runActs_253 (lv_at hl 2 rfl) ?_
                  refine t_callV (n := 2) (As := [.int i, .int r_11]) (rest := []) (ci := 3) hB hT hl.1 (s_passesOver l D cI cZ cS cR N0 g_14 hI q1 i r_11 r_20 (by omega) (by omega)) (ro_ci r_20 rfl) rfl k_546 k_60 k_543 k_544 k_545 (by decide +kernel) ⟨(Nat.le_of_ble_eq_true rfl), (Nat.le_of_ble_eq_true rfl)⟩ rfl (Nat.le_of_ble_eq_true rfl) ⟨(Nat.le_of_ble_eq_true rfl), (Nat.le_of_ble_eq_true rfl)⟩ dX5_runActs_255 (fun v g_54 H locs hp hT => ?_)
                  obtain ⟨r_55, rfl, eg, f_56⟩ := hp
                  rw [eg] at hT
                  clear eg
                  refine W.eq (g2 := F0 m 258 ls [.int r_55]) rfl ?_
                  rcases f_56 with rfl | rfl
                  · refine W.eq (g2 := F0 m 258 ls [.int 1]) rfl ?_
                    refine lv_istore (lv' := [(8, .int 1), (12, .int u_29), (11, .int u_27), (10, .int r_11), (9, .int i), (7, .int j), (6, .int pk), (5, .ref q2), (4, .ref q1), (0, .ref h), (1, .int n), (2, .int x1), (3, .int x2)]) hx hb dX5_runActs_258 hl (by decide) rfl (fun ls hl => ?_)
                    refine lv_goto (tgt := 282) hx hb dX5_runActs_260 (by decide) ?_
                    obtain ⟨z_59, ez_59⟩ : ∃ z : Int32, z = i + 1 := ⟨_, rfl⟩
                    have e_z_59 : z_59.toInt = i.toInt + 1 := i_add ez_59 rfl (by decide) (by omega) (by omega)
                    refine lv_iinc (v := z_59) (lv' := [(9, .int z_59), (8, .int 1), (12, .int u_29), (11, .int u_27), (10, .int r_11), (7, .int j), (6, .int pk), (5, .ref q2), (4, .ref q1), (0, .ref h), (1, .int n), (2, .int x1), (3, .int x2)]) hx hb dX5_runActs_282 hl (k := 4) rfl (by rw [ez_59]; rfl) (by decide) rfl (fun ls hl => ?_)
                    refine lv_goto (tgt := 44) hx hb dX5_runActs_285 (by decide) ?_
                    exact ih (kf - 1) (by omega) g_14 z_59 j pk (1 : Int32) q1 q2 H locs ls hT hI hE hM (by omega) (by omega) (by omega) (by omega) (by decide) (by decide) r_20 r_21 (by have e0_ : (0 : Int32).toInt = 0 := (by decide); have e1_ : (1 : Int32).toInt = 1 := (by decide); omega) (lv_sub hl [0, 1, 5, 6, 7, 8, 9, 10, 11, 12] rfl)
                  · refine W.eq (g2 := F0 m 258 ls [.int 0]) rfl ?_
                    refine lv_istore (lv' := [(8, .int 0), (12, .int u_29), (11, .int u_27), (10, .int r_11), (9, .int i), (7, .int j), (6, .int pk), (5, .ref q2), (4, .ref q1), (0, .ref h), (1, .int n), (2, .int x1), (3, .int x2)]) hx hb dX5_runActs_258 hl (by decide) rfl (fun ls hl => ?_)
                    refine lv_goto (tgt := 282) hx hb dX5_runActs_260 (by decide) ?_
                    obtain ⟨z_60, ez_60⟩ : ∃ z : Int32, z = i + 1 := ⟨_, rfl⟩
                    have e_z_60 : z_60.toInt = i.toInt + 1 := i_add ez_60 rfl (by decide) (by omega) (by omega)
                    refine lv_iinc (v := z_60) (lv' := [(9, .int z_60), (8, .int 0), (12, .int u_29), (11, .int u_27), (10, .int r_11), (7, .int j), (6, .int pk), (5, .ref q2), (4, .ref q1), (0, .ref h), (1, .int n), (2, .int x1), (3, .int x2)]) hx hb dX5_runActs_282 hl (k := 4) rfl (by rw [ez_60]; rfl) (by decide) rfl (fun ls hl => ?_)
                    refine lv_goto (tgt := 44) hx hb dX5_runActs_285 (by decide) ?_
                    exact ih (kf - 1) (by omega) g_14 z_60 j pk (0 : Int32) q1 q2 H locs ls hT hI hE hM (by omega) (by omega) (by omega) (by omega) (by decide) (by decide) r_20 r_21 (by have e0_ : (0 : Int32).toInt = 0 := (by decide); omega) (lv_sub hl [0, 1, 5, 6, 7, 8, 9, 10, 11, 12] rfl)
              · have c_31' : u_27.toInt = 6 := i_eq c_31 rfl (by decide)
                refine lv_aload_n hx hb dX5_runActs_214 rfl (lv_at hl 9 rfl) ?_
                obtain ⟨v_61, e_v_61, r_v_61, n_v_61⟩ := f_6_3 hI r_19
                refine t_get (ci := 5) (v := .ref v_61) hB hT (ro_ci r_19 rfl) rfl 3 (by decide) k_207 e_v_61 dX5_runActs_215 ?_
                refine lv_aload_n hx hb dX5_runActs_218 rfl (lv_at hl 9 rfl) ?_
                obtain ⟨v_62, e_v_62⟩ := f_6_4 hI r_19
                refine t_get (ci := 5) (v := .int v_62) hB hT (ro_ci r_19 rfl) rfl 4 (by decide) k_210 e_v_62 dX5_runActs_219 ?_
                refine lv_sipush (v := 511) hx hb dX5_runActs_222 (by decide) ?_
                refine lv_iand hx hb dX5_runActs_225 ?_
                refine lv_topi (fun z_63 ez_63 => ?_)
                have e_z_63 := i_and 9 (b := 511) ez_63 (by decide) (by decide) (by decide)
                refine lv_iload hx hb dX5_runActs_226 (lv_at hl 2 rfl) ?_
                have i_64 : vp_in z_63 512 := (i_in (n := 512) rfl (by omega) (by omega))
                refine t_iast hB hT (ro_in r_v_61 (by decide)) n_v_61 i_64 dX5_runActs_228 (fun H locs hT => ?_)
                have hI : Inv (sC g_14 v_61 z_63.toNatClampNeg r_11) := hI.sC (ck r_v_61 trivial)
                have hM : Sm md_s_runActs4 g (sC g_14 v_61 z_63.toNatClampNeg r_11) := hM.tr hE (Sm_sC (by rw [r_v_61]; rfl))
                have hE : Ex g (sC g_14 v_61 z_63.toNatClampNeg r_11) := hE
                refine lv_aload_n hx hb dX5_runActs_229 rfl (lv_at hl 9 rfl) ?_
                refine lv_dup hx hb dX5_runActs_230 rfl ?_
                refine t_get (ci := 5) (v := .int v_62) hB hT (ro_ci r_19 rfl) rfl 4 (by decide) k_210 e_v_62 dX5_runActs_231 ?_
                refine lv_iconst (v := 1) hx hb dX5_runActs_234 (by decide) ?_
                refine lv_iadd hx hb dX5_runActs_235 ?_
                refine lv_topi (fun z_65 ez_65 => ?_)
                refine t_put0 (ci := 5) (v := .int z_65) hB hT (ro_ci r_19 rfl) (ro_n0 r_19 (by decide)) rfl 4 (by decide) k_210 (Or.inl rfl) rfl rfl dX5_runActs_236 (fun H locs hT => ?_)
                have hI : Inv (sF (sC g_14 v_61 z_63.toNatClampNeg r_11) h 4 (.int z_65)) := hI.sF (p_6_4 r_19 (⟨_, rfl⟩))
                have hM : Sm md_s_runActs4 g (sF (sC g_14 v_61 z_63.toNatClampNeg r_11) h 4 (.int z_65)) := hM.tr hE (Sm_sF (by rw [r_19]; rfl))
                have hE : Ex g (sF (sC g_14 v_61 z_63.toNatClampNeg r_11) h 4 (.int z_65)) := hE
                refine lv_goto (tgt := 282) hx hb dX5_runActs_239 (by decide) ?_
                obtain ⟨z_66, ez_66⟩ : ∃ z : Int32, z = i + 1 := ⟨_, rfl⟩
                have e_z_66 : z_66.toInt = i.toInt + 1 := i_add ez_66 rfl (by decide) (by omega) (by omega)
                refine lv_iinc (v := z_66) (lv' := [(9, .int z_66), (12, .int u_29), (11, .int u_27), (10, .int r_11), (8, .int po), (7, .int j), (6, .int pk), (5, .ref q2), (4, .ref q1), (0, .ref h), (1, .int n), (2, .int x1), (3, .int x2)]) hx hb dX5_runActs_282 hl (k := 3) rfl (by rw [ez_66]; rfl) (by decide) rfl (fun ls hl => ?_)
                refine lv_goto (tgt := 44) hx hb dX5_runActs_285 (by decide) ?_
                exact ih (kf - 1) (by omega) (sF (sC g_14 v_61 z_63.toNatClampNeg r_11) h 4 (.int z_65)) z_66 j pk po q1 q2 H locs ls hT hI hE hM (by omega) (by omega) (by omega) (by omega) (by omega) (by omega) r_20 r_21 (by have e0_ : (0 : Int32).toInt = 0 := (by decide); omega) (lv_sub hl [0, 4, 5, 6, 7, 8, 9, 10, 11, 12] rfl)
            · have c_30' : u_27.toInt = 5 := i_eq c_30 rfl (by decide)
              refine lv_aload_n hx hb dX5_runActs_149 rfl (lv_at hl 9 rfl) ?_
              refine lv_iload_n hx hb dX5_runActs_150 rfl (lv_at hl 10 rfl) ?_
              refine lv_iload hx hb dX5_runActs_151 (lv_at hl 0 rfl) ?_
              refine t_callV (n := 2) (As := [.int n, .int u_29]) (rest := []) (ci := 5) hB hT hl.1 (s_canAsk l D cI cZ cS cR N0 g_14 hI h n u_29 r_19) (ro_ci r_19 rfl) rfl k_477 k_59 k_474 k_476 k_10 (by decide +kernel) ⟨(Nat.le_of_ble_eq_true rfl), (Nat.le_of_ble_eq_true rfl)⟩ rfl (Nat.le_of_ble_eq_true rfl) ⟨(Nat.le_of_ble_eq_true rfl), (Nat.le_of_ble_eq_true rfl)⟩ dX5_runActs_153 (fun v g_67 H locs hp hT => ?_)
              obtain ⟨r_68, rfl, eg, f_69⟩ := hp
              rw [eg] at hT
              clear eg
              refine W.eq (g2 := F0 m 156 ls [.int r_68]) rfl ?_
              rcases f_69 with ⟨rfl, hw_72, hw_73⟩ | rfl
              · refine W.eq (g2 := F0 m 156 ls [.int 1]) rfl ?_
                refine lv_if_eq (tgt := 207) hx hb dX5_runActs_156 (by decide) (fun c_ => absurd c_ (by decide)) (fun c_ => ?_)
                refine lv_iload hx hb dX5_runActs_159 (lv_at hl 6 rfl) ?_
                refine lv_if_eq (tgt := 179) hx hb dX5_runActs_161 (by decide) (fun c_74 => ?_) (fun c_74 => ?_)
                · have c_74' : pk.toInt = 0 := i_eq c_74 rfl (by decide)
                  refine lv_iconst (v := 0) hx hb dX5_runActs_179 (by decide) ?_
                  refine lv_istore (lv' := [(13, .int 0), (12, .int u_29), (11, .int u_27), (10, .int r_11), (9, .int i), (8, .int po), (7, .int j), (6, .int pk), (5, .ref q2), (4, .ref q1), (0, .ref h), (1, .int n), (2, .int x1), (3, .int x2)]) hx hb dX5_runActs_180 hl (by decide) rfl (fun ls hl => ?_)
                  refine lv_aload_n hx hb dX5_runActs_182 rfl (lv_at hl 10 rfl) ?_
                  refine lv_iload hx hb dX5_runActs_183 (lv_at hl 1 rfl) ?_
                  refine lv_iload hx hb dX5_runActs_185 (lv_at hl 3 rfl) ?_
                  refine lv_iload hx hb dX5_runActs_187 (lv_at hl 0 rfl) ?_
                  refine t_callV (n := 3) (As := [.int u_29, .int r_11, .int 0]) (rest := []) (ci := 5) hB hT hl.1 (s_serve3 l D cI cZ cS cR N0 g_14 hI h u_29 r_11 0 r_19 (by have q0 : (0 : Int32).toInt = 0 := (by decide); omega) (by have q0 : (0 : Int32).toInt = 0 := (by decide); omega)) (ro_ci r_19 rfl) rfl k_508 k_59 k_505 k_507 k_12 (by decide +kernel) ⟨(Nat.le_of_ble_eq_true rfl), (Nat.le_of_ble_eq_true rfl)⟩ rfl (Nat.le_of_ble_eq_true rfl) ⟨(Nat.le_of_ble_eq_true rfl), (Nat.le_of_ble_eq_true rfl)⟩ dX5_runActs_189 (fun v g_75 H locs hp hT => ?_)
                  obtain ⟨r_76, rfl, hI, x_78, m_77⟩ := hp
                  have hM : Sm md_s_runActs4 g g_75 := hM.tr hE (m_77.mo (fun r k h => mdle_s_runActs4_s_serve3 h))
                  have hE : Ex g g_75 := hE.tr x_78
                  have r_79 : g_75.1 h = 6 := (Ex.r x_78 r_19 (by decide))
                  have r_80 : g_75.1 q1 = 4 := (Ex.r x_78 r_20 (by decide))
                  have r_81 : g_75.1 q2 = 3 := (Ex.r x_78 r_21 (by decide))
                  have r_82 : g_75.1 v_26 = 68 := (Ex.r x_78 r_v_26 (by decide))
                  have r_83 : g_75.1 v_28 = 69 := (Ex.r x_78 r_v_28 (by decide))
                  have n_84 : g_75.2.2.1 v_26 = 8 := (Ex.n x_78 r_v_26 (by decide) n_v_26)
                  have n_85 : g_75.2.2.1 v_28 = 8 := (Ex.n x_78 r_v_28 (by decide) n_v_28)
                  have kn_86 : g_75.2.1 q2 3 = .int v_2 := (Sm.v m_77 r_21 (by decide) rfl kn_22)
                  have kn_87 : g_75.2.1 h 6 = .int v_7 := (Sm.v m_77 r_19 (by decide) rfl kn_23)
                  have kn_88 : g_75.2.1 q2 0 = .ref v_26 := (Sm.v m_77 r_21 (by decide) rfl e_v_26)
                  have kn_89 : g_75.2.1 q2 1 = .ref v_28 := (Sm.v m_77 r_21 (by decide) rfl e_v_28)
                  have kn_90 : g_75.2.2.2.1 v_26 i.toNatClampNeg = u_27 := (Sm.c m_77 r_v_26 (by decide) rfl e_u_27.symm)
                  have kn_91 : g_75.2.2.2.1 v_28 i.toNatClampNeg = u_29 := (Sm.c m_77 r_v_28 (by decide) rfl e_u_29.symm)
                  refine W.eq (g2 := F0 m 192 ls [.int r_76]) rfl ?_
                  refine lv_istore (lv' := [(7, .int r_76), (13, .int 0), (12, .int u_29), (11, .int u_27), (10, .int r_11), (9, .int i), (8, .int po), (6, .int pk), (5, .ref q2), (4, .ref q1), (0, .ref h), (1, .int n), (2, .int x1), (3, .int x2)]) hx hb dX5_runActs_192 hl (by decide) rfl (fun ls hl => ?_)
                  refine lv_aload_n hx hb dX5_runActs_194 rfl (lv_at hl 10 rfl) ?_
                  obtain ⟨v_92, e_v_92, l_v_92, u_v_92⟩ := f_6_7 hI r_79
                  refine t_get (ci := 5) (v := .int v_92) hB hT (ro_ci r_79 rfl) rfl 7 (by decide) k_216 e_v_92 dX5_runActs_195 ?_
                  refine lv_if_eq (tgt := 204) hx hb dX5_runActs_198 (by decide) (fun c_93 => ?_) (fun c_93 => ?_)
                  · have c_93' : v_92.toInt = 0 := i_eq c_93 rfl (by decide)
                    refine lv_goto (tgt := 282) hx hb dX5_runActs_204 (by decide) ?_
                    obtain ⟨z_94, ez_94⟩ : ∃ z : Int32, z = i + 1 := ⟨_, rfl⟩
                    have e_z_94 : z_94.toInt = i.toInt + 1 := i_add ez_94 rfl (by decide) (by omega) (by omega)
                    refine lv_iinc (v := z_94) (lv' := [(9, .int z_94), (7, .int r_76), (13, .int 0), (12, .int u_29), (11, .int u_27), (10, .int r_11), (8, .int po), (6, .int pk), (5, .ref q2), (4, .ref q1), (0, .ref h), (1, .int n), (2, .int x1), (3, .int x2)]) hx hb dX5_runActs_282 hl (k := 5) rfl (by rw [ez_94]; rfl) (by decide) rfl (fun ls hl => ?_)
                    refine lv_goto (tgt := 44) hx hb dX5_runActs_285 (by decide) ?_
                    exact ih (kf - 1) (by omega) g_75 z_94 r_76 pk po q1 q2 H locs ls hT hI hE hM (by omega) (by omega) (by omega) (by omega) (by omega) (by omega) r_80 r_81 (by have e0_ : (0 : Int32).toInt = 0 := (by decide); omega) (lv_sub hl [0, 6, 1, 7, 8, 9, 10, 11, 12, 13] rfl)
                  · have c_93' : v_92.toInt ≠ 0 := i_ne c_93 rfl (by decide)
                    refine lv_bipush (v := (-2)) hx hb dX5_runActs_201 (by decide) ?_
                    exact t_iret hB hr hT (Nat.le_of_ble_eq_true rfl) (Nat.le_of_ble_eq_true rfl) dX5_runActs_203 ⟨(-2), rfl, hI, hE, hM⟩
                · have c_74' : pk.toInt ≠ 0 := i_ne c_74 rfl (by decide)
                  refine lv_iload_n hx hb dX5_runActs_164 rfl (lv_at hl 12 rfl) ?_
                  refine lv_bipush (v := 7) hx hb dX5_runActs_165 (by decide) ?_
                  refine lv_iload hx hb dX5_runActs_167 (lv_at hl 3 rfl) ?_
                  refine lv_imul hx hb dX5_runActs_169 ?_
                  refine lv_topi (fun z_95 ez_95 => ?_)
                  have e_z_95 : z_95.toInt = 7 * i.toInt := i_mul ez_95 (by decide) rfl (by omega) (by omega)
                  refine lv_iadd hx hb dX5_runActs_170 ?_
                  refine lv_topi (fun z_96 ez_96 => ?_)
                  refine lv_bipush (v := 99) hx hb dX5_runActs_171 (by decide) ?_
                  refine lv_irem hx hb dX5_runActs_173 (by decide) ?_
                  refine lv_topi (fun z_97 ez_97 => ?_)
                  refine lv_iconst (v := 1) hx hb dX5_runActs_174 (by decide) ?_
                  refine lv_iadd hx hb dX5_runActs_175 ?_
                  refine lv_topi (fun z_98 ez_98 => ?_)
                  refine lv_goto (tgt := 180) hx hb dX5_runActs_176 (by decide) ?_
                  refine lv_istore (lv' := [(13, .int z_98), (12, .int u_29), (11, .int u_27), (10, .int r_11), (9, .int i), (8, .int po), (7, .int j), (6, .int pk), (5, .ref q2), (4, .ref q1), (0, .ref h), (1, .int n), (2, .int x1), (3, .int x2)]) hx hb dX5_runActs_180 hl (by decide) rfl (fun ls hl => ?_)
                  refine lv_aload_n hx hb dX5_runActs_182 rfl (lv_at hl 10 rfl) ?_
                  refine lv_iload hx hb dX5_runActs_183 (lv_at hl 1 rfl) ?_
                  refine lv_iload hx hb dX5_runActs_185 (lv_at hl 3 rfl) ?_
                  refine lv_iload hx hb dX5_runActs_187 (lv_at hl 0 rfl) ?_
                  refine t_callV (n := 3) (As := [.int u_29, .int r_11, .int z_98]) (rest := []) (ci := 5) hB hT hl.1 (s_serve3 l D cI cZ cS cR N0 g_14 hI h u_29 r_11 z_98 r_19 (by omega) (by omega)) (ro_ci r_19 rfl) rfl k_508 k_59 k_505 k_507 k_12 (by decide +kernel) ⟨(Nat.le_of_ble_eq_true rfl), (Nat.le_of_ble_eq_true rfl)⟩ rfl (Nat.le_of_ble_eq_true rfl) ⟨(Nat.le_of_ble_eq_true rfl), (Nat.le_of_ble_eq_true rfl)⟩ dX5_runActs_189 (fun v g_99 H locs hp hT => ?_)
                  obtain ⟨r_100, rfl, hI, x_102, m_101⟩ := hp
                  have hM : Sm md_s_runActs4 g g_99 := hM.tr hE (m_101.mo (fun r k h => mdle_s_runActs4_s_serve3 h))
                  have hE : Ex g g_99 := hE.tr x_102
                  have r_103 : g_99.1 h = 6 := (Ex.r x_102 r_19 (by decide))
                  have r_104 : g_99.1 q1 = 4 := (Ex.r x_102 r_20 (by decide))
                  have r_105 : g_99.1 q2 = 3 := (Ex.r x_102 r_21 (by decide))
                  have r_106 : g_99.1 v_26 = 68 := (Ex.r x_102 r_v_26 (by decide))
                  have r_107 : g_99.1 v_28 = 69 := (Ex.r x_102 r_v_28 (by decide))
                  have n_108 : g_99.2.2.1 v_26 = 8 := (Ex.n x_102 r_v_26 (by decide) n_v_26)
                  have n_109 : g_99.2.2.1 v_28 = 8 := (Ex.n x_102 r_v_28 (by decide) n_v_28)
                  have kn_110 : g_99.2.1 q2 3 = .int v_2 := (Sm.v m_101 r_21 (by decide) rfl kn_22)
                  have kn_111 : g_99.2.1 h 6 = .int v_7 := (Sm.v m_101 r_19 (by decide) rfl kn_23)
                  have kn_112 : g_99.2.1 q2 0 = .ref v_26 := (Sm.v m_101 r_21 (by decide) rfl e_v_26)
                  have kn_113 : g_99.2.1 q2 1 = .ref v_28 := (Sm.v m_101 r_21 (by decide) rfl e_v_28)
                  have kn_114 : g_99.2.2.2.1 v_26 i.toNatClampNeg = u_27 := (Sm.c m_101 r_v_26 (by decide) rfl e_u_27.symm)
                  have kn_115 : g_99.2.2.2.1 v_28 i.toNatClampNeg = u_29 := (Sm.c m_101 r_v_28 (by decide) rfl e_u_29.symm)
                  refine W.eq (g2 := F0 m 192 ls [.int r_100]) rfl ?_
                  refine lv_istore (lv' := [(7, .int r_100), (13, .int z_98), (12, .int u_29), (11, .int u_27), (10, .int r_11), (9, .int i), (8, .int po), (6, .int pk), (5, .ref q2), (4, .ref q1), (0, .ref h), (1, .int n), (2, .int x1), (3, .int x2)]) hx hb dX5_runActs_192 hl (by decide) rfl (fun ls hl => ?_)
                  refine lv_aload_n hx hb dX5_runActs_194 rfl (lv_at hl 10 rfl) ?_
                  obtain ⟨v_116, e_v_116, l_v_116, u_v_116⟩ := f_6_7 hI r_103
                  refine t_get (ci := 5) (v := .int v_116) hB hT (ro_ci r_103 rfl) rfl 7 (by decide) k_216 e_v_116 dX5_runActs_195 ?_
                  refine lv_if_eq (tgt := 204) hx hb dX5_runActs_198 (by decide) (fun c_117 => ?_) (fun c_117 => ?_)
                  · have c_117' : v_116.toInt = 0 := i_eq c_117 rfl (by decide)
                    refine lv_goto (tgt := 282) hx hb dX5_runActs_204 (by decide) ?_
                    obtain ⟨z_118, ez_118⟩ : ∃ z : Int32, z = i + 1 := ⟨_, rfl⟩
                    have e_z_118 : z_118.toInt = i.toInt + 1 := i_add ez_118 rfl (by decide) (by omega) (by omega)
                    refine lv_iinc (v := z_118) (lv' := [(9, .int z_118), (7, .int r_100), (13, .int z_98), (12, .int u_29), (11, .int u_27), (10, .int r_11), (8, .int po), (6, .int pk), (5, .ref q2), (4, .ref q1), (0, .ref h), (1, .int n), (2, .int x1), (3, .int x2)]) hx hb dX5_runActs_282 hl (k := 5) rfl (by rw [ez_118]; rfl) (by decide) rfl (fun ls hl => ?_)
                    refine lv_goto (tgt := 44) hx hb dX5_runActs_285 (by decide) ?_
                    exact ih (kf - 1) (by omega) g_99 z_118 r_100 pk po q1 q2 H locs ls hT hI hE hM (by omega) (by omega) (by omega) (by omega) (by omega) (by omega) r_104 r_105 (by have e0_ : (0 : Int32).toInt = 0 := (by decide); omega) (lv_sub hl [0, 6, 1, 7, 8, 9, 10, 11, 12, 13] rfl)
                  · have c_117' : v_116.toInt ≠ 0 := i_ne c_117 rfl (by decide)
                    refine lv_bipush (v := (-2)) hx hb dX5_runActs_201 (by decide) ?_
                    exact t_iret hB hr hT (Nat.le_of_ble_eq_true rfl) (Nat.le_of_ble_eq_true rfl) dX5_runActs_203 ⟨(-2), rfl, hI, hE, hM⟩
              · refine W.eq (g2 := F0 m 156 ls [.int 0]) rfl ?_
                refine lv_if_eq (tgt := 207) hx hb dX5_runActs_156 (by decide) (fun c_ => ?_) (fun c_ => absurd (by decide) c_)
                refine lv_iload hx hb dX5_runActs_207 (lv_at hl 1 rfl) ?_
                refine lv_bipush (v := 6) hx hb dX5_runActs_209 (by decide) ?_
                refine lv_icmp_ne (tgt := 242) hx hb dX5_runActs_211 (by decide) (fun c_119 => ?_) (fun c_119 => ?_)
                · have c_119' : u_27.toInt ≠ 6 := i_ne c_119 rfl (by decide)
                  refine lv_iload hx hb dX5_runActs_242 (lv_at hl 1 rfl) ?_
                  refine lv_bipush (v := 7) hx hb dX5_runActs_244 (by decide) ?_
                  refine lv_icmp_ne (tgt := 263) hx hb dX5_runActs_246 (by decide) (fun c_120 => ?_) (fun c_120 => ?_)
                  · have c_120' : u_27.toInt ≠ 7 := i_ne c_120 rfl (by decide)
                    refine lv_iload hx hb dX5_runActs_263 (lv_at hl 1 rfl) ?_
                    refine lv_iconst (v := 5) hx hb dX5_runActs_265 (by decide) ?_
                    refine lv_icmp_eq (tgt := 282) hx hb dX5_runActs_266 (by decide) (fun c_121 => ?_) (fun c_121 => ?_)
                    · have c_121' : u_27.toInt = 5 := i_eq c_121 rfl (by decide)
                      obtain ⟨z_122, ez_122⟩ : ∃ z : Int32, z = i + 1 := ⟨_, rfl⟩
                      have e_z_122 : z_122.toInt = i.toInt + 1 := i_add ez_122 rfl (by decide) (by omega) (by omega)
                      refine lv_iinc (v := z_122) (lv' := [(9, .int z_122), (12, .int u_29), (11, .int u_27), (10, .int r_11), (8, .int po), (7, .int j), (6, .int pk), (5, .ref q2), (4, .ref q1), (0, .ref h), (1, .int n), (2, .int x1), (3, .int x2)]) hx hb dX5_runActs_282 hl (k := 3) rfl (by rw [ez_122]; rfl) (by decide) rfl (fun ls hl => ?_)
                      refine lv_goto (tgt := 44) hx hb dX5_runActs_285 (by decide) ?_
                      exact ih (kf - 1) (by omega) g_14 z_122 j pk po q1 q2 H locs ls hT hI hE hM (by omega) (by omega) (by omega) (by omega) (by omega) (by omega) r_20 r_21 (by have e0_ : (0 : Int32).toInt = 0 := (by decide); omega) (lv_sub hl [0, 4, 5, 6, 7, 8, 9, 10, 11, 12] rfl)
                    · have c_121' : u_27.toInt ≠ 5 := i_ne c_121 rfl (by decide)
                      exact absurd c_121' (by omega)
                  · have c_120' : u_27.toInt = 7 := i_eq c_120 rfl (by decide)
                    exact absurd c_120' (by omega)
                · have c_119' : u_27.toInt = 6 := i_eq c_119 rfl (by decide)
                  exact absurd c_119' (by omega)
        · have c_8' : v_7.toInt ≤ z_6.toInt := i_nlt c_8 rfl rfl
          refine lv_aload_n hx hb dX5_runActs_78 rfl (lv_at hl 6 rfl) ?_
          refine lv_iconst (v := 1) hx hb dX5_runActs_79 (by decide) ?_
          refine t_put0 (ci := 5) (v := .int 1) hB hT (ro_ci r_1 rfl) (ro_n0 r_1 (by decide)) rfl 7 (by decide) k_216 (Or.inl rfl) rfl rfl dX5_runActs_80 (fun H locs hT => ?_)
          have hI : Inv (sF g1 h 7 (.int 1)) := hI.sF (p_6_7 r_1 (⟨_, rfl, by decide, by decide⟩))
          have hM : Sm md_s_runActs4 g (sF g1 h 7 (.int 1)) := hM.tr hE (Sm_sF (by rw [r_1]; rfl))
          have hE : Ex g (sF g1 h 7 (.int 1)) := hE
          refine lv_bipush (v := (-2)) hx hb dX5_runActs_83 (by decide) ?_
          exact t_iret hB hr hT (Nat.le_of_ble_eq_true rfl) (Nat.le_of_ble_eq_true rfl) dX5_runActs_85 ⟨(-2), rfl, hI, hE, hM⟩
      · have c_4' : po.toInt ≠ 0 := i_ne c_4 rfl (by decide)
        refine lv_iconst (v := 0) hx hb dX5_runActs_59 (by decide) ?_
        refine lv_istore (lv' := [(8, .int 0), (9, .int i), (7, .int j), (6, .int pk), (5, .ref q2), (4, .ref q1), (0, .ref h), (1, .int n), (2, .int x1), (3, .int x2)]) hx hb dX5_runActs_60 hl (by decide) rfl (fun ls hl => ?_)
        refine lv_goto (tgt := 282) hx hb dX5_runActs_62 (by decide) ?_
        obtain ⟨z_123, ez_123⟩ : ∃ z : Int32, z = i + 1 := ⟨_, rfl⟩
        have e_z_123 : z_123.toInt = i.toInt + 1 := i_add ez_123 rfl (by decide) (by omega) (by omega)
        refine lv_iinc (v := z_123) (lv' := [(9, .int z_123), (8, .int 0), (7, .int j), (6, .int pk), (5, .ref q2), (4, .ref q1), (0, .ref h), (1, .int n), (2, .int x1), (3, .int x2)]) hx hb dX5_runActs_282 hl (k := 1) rfl (by rw [ez_123]; rfl) (by decide) rfl (fun ls hl => ?_)
        refine lv_goto (tgt := 44) hx hb dX5_runActs_285 (by decide) ?_
        exact ih (kf - 1) (by omega) g1 z_123 j pk (0 : Int32) q1 q2 H locs ls hT hI hE hM (by omega) (by omega) (by omega) (by omega) (by decide) (by decide) r1_q1 r1_q2 (by have e0_ : (0 : Int32).toInt = 0 := (by decide); omega) (lv_sub hl [0, 1, 2, 3, 4, 5, 6, 7, 8, 9] rfl)
set_option maxHeartbeats 4000000 in
set_option maxRecDepth 100000 in
theorem s_runActs4 (l : Launch) (D : va_G) (cI cZ cS cR : ClassId) (N0 : NT) (g : GS) (hI : Inv g) (h : Nat) (n : Int32) (x1 : Int32) (x2 : Int32) (r_h : g.1 h = 6) (l_n : 1 ≤ n.toInt) (u_n : n.toInt ≤ 5) : Ty l D cI cZ cS cR N0 yX5_runActs cX5_runActs 14 (some .int) 9 0 0 [.ref h, .int n, .int x1, .int x2] g (fun v g' => ∃ (r : Int32), v = some (.int r) ∧ Inv g' ∧ Ex g g' ∧ Sm md_s_runActs4 g g') := by
  refine t_enter (by decide) (Nat.le_of_ble_eq_true rfl) ?_
  intro p e s m args below meth c ls H locs hB hr hin hl hT
  have hx := hB.1
  have hb := hB.2.1
  have hl : lv_has ls 14 [(0, .ref h), (1, .int n), (2, .int x1), (3, .int x2)] := hl
  have hE : Ex g g := Ex.rf
  have hM : Sm md_s_runActs4 g g := Sm.rf
  refine lv_aload_n hx hb dX5_runActs_0 rfl (lv_at hl 0 rfl) ?_
  obtain ⟨v_1, e_v_1, r_v_1, n_v_1⟩ := f_6_0 hI r_h
  refine t_get (ci := 5) (v := .ref v_1) hB hT (ro_ci r_h rfl) rfl 0 (by decide) k_199 e_v_1 dX5_runActs_1 ?_
  refine lv_iload_n hx hb dX5_runActs_4 rfl (lv_at hl 1 rfl) ?_
  have i_q_2 : vp_in n 6 := (i_in (n := 6) rfl (by omega) (by omega))
  obtain ⟨q_2, e_q_2, r_q_2⟩ := hI.q r_v_1 n_v_1 (i_cl i_q_2)
  refine t_aald hB hT (Or.inl r_v_1) n_v_1 i_q_2 e_q_2 dX5_runActs_5 ?_
  refine lv_astore (lv' := [(4, .ref q_2), (0, .ref h), (1, .int n), (2, .int x1), (3, .int x2)]) hx hb dX5_runActs_6 hl (by decide) rfl (fun ls hl => ?_)
  refine lv_aload hx hb dX5_runActs_8 (lv_at hl 0 rfl) ?_
  obtain ⟨v_3, e_v_3, r_v_3⟩ := f_4_0 hI r_q_2
  refine t_get (ci := 3) (v := .ref v_3) hB hT (ro_ci r_q_2 rfl) rfl 0 (by decide) k_145 e_v_3 dX5_runActs_10 ?_
  refine lv_astore (lv' := [(5, .ref v_3), (4, .ref q_2), (0, .ref h), (1, .int n), (2, .int x1), (3, .int x2)]) hx hb dX5_runActs_13 hl (by decide) rfl (fun ls hl => ?_)
  refine lv_iload_n hx hb dX5_runActs_15 rfl (lv_at hl 5 rfl) ?_
  refine lv_if_eq (tgt := 32) hx hb dX5_runActs_16 (by decide) (fun c_4 => ?_) (fun c_4 => ?_)
  · have c_4' : x2.toInt = 0 := i_eq c_4 rfl (by decide)
    refine lv_iconst (v := 0) hx hb dX5_runActs_32 (by decide) ?_
    refine lv_istore (lv' := [(6, .int 0), (5, .ref v_3), (4, .ref q_2), (0, .ref h), (1, .int n), (2, .int x1), (3, .int x2)]) hx hb dX5_runActs_33 hl (by decide) rfl (fun ls hl => ?_)
    refine lv_iconst (v := 0) hx hb dX5_runActs_35 (by decide) ?_
    refine lv_istore (lv' := [(7, .int 0), (6, .int 0), (5, .ref v_3), (4, .ref q_2), (0, .ref h), (1, .int n), (2, .int x1), (3, .int x2)]) hx hb dX5_runActs_36 hl (by decide) rfl (fun ls hl => ?_)
    refine lv_iconst (v := 0) hx hb dX5_runActs_38 (by decide) ?_
    refine lv_istore (lv' := [(8, .int 0), (7, .int 0), (6, .int 0), (5, .ref v_3), (4, .ref q_2), (0, .ref h), (1, .int n), (2, .int x1), (3, .int x2)]) hx hb dX5_runActs_39 hl (by decide) rfl (fun ls hl => ?_)
    refine lv_iconst (v := 0) hx hb dX5_runActs_41 (by decide) ?_
    refine lv_istore (lv' := [(9, .int 0), (8, .int 0), (7, .int 0), (6, .int 0), (5, .ref v_3), (4, .ref q_2), (0, .ref h), (1, .int n), (2, .int x1), (3, .int x2)]) hx hb dX5_runActs_42 hl (by decide) rfl (fun ls hl => ?_)
    exact lt_s_runActs4_a l D cI cZ cS cR N0 g h n x1 x2 r_h l_n u_n hB hr   8 g (0 : Int32) (0 : Int32) (0 : Int32) (0 : Int32) q_2 v_3 H locs ls hT hI hE hM (by decide) (by decide) (by decide) (by decide) (by decide) (by decide) r_q_2 r_v_3 (by have e0_ : (0 : Int32).toInt = 0 := (by decide); omega) (lv_sub hl [0, 1, 2, 3, 4, 5, 6, 7, 8, 9] rfl)
  · have c_4' : x2.toInt ≠ 0 := i_ne c_4 rfl (by decide)
    refine lv_aload hx hb dX5_runActs_19 (lv_at hl 1 rfl) ?_
    refine lv_iconst (v := 2) hx hb dX5_runActs_21 (by decide) ?_
    refine t_callV (n := 1) (As := [.int 2]) (rest := []) (ci := 3) hB hT hl.1 (s_isMended l D cI cZ cS cR N0 g hI q_2 2 r_q_2) (ro_ci r_q_2 rfl) rfl k_512 k_60 k_509 k_510 k_511 (by decide +kernel) ⟨(Nat.le_of_ble_eq_true rfl), (Nat.le_of_ble_eq_true rfl)⟩ rfl (Nat.le_of_ble_eq_true rfl) ⟨(Nat.le_of_ble_eq_true rfl), (Nat.le_of_ble_eq_true rfl)⟩ dX5_runActs_22 (fun v g_5 H locs hp hT => ?_)
    obtain ⟨r_6, rfl, eg, f_7⟩ := hp
    rw [eg] at hT
    clear eg
    refine W.eq (g2 := F0 m 25 ls [.int r_6]) rfl ?_
    have qc_10 : (2 : Int32).toInt = 2 := (by decide)
    rcases f_7 with rfl | rfl
    · refine W.eq (g2 := F0 m 25 ls [.int 1]) rfl ?_
      refine lv_if_eq (tgt := 32) hx hb dX5_runActs_25 (by decide) (fun c_ => absurd c_ (by decide)) (fun c_ => ?_)
      refine lv_iconst (v := 1) hx hb dX5_runActs_28 (by decide) ?_
      refine lv_goto (tgt := 33) hx hb dX5_runActs_29 (by decide) ?_
      refine lv_istore (lv' := [(6, .int 1), (5, .ref v_3), (4, .ref q_2), (0, .ref h), (1, .int n), (2, .int x1), (3, .int x2)]) hx hb dX5_runActs_33 hl (by decide) rfl (fun ls hl => ?_)
      refine lv_iconst (v := 0) hx hb dX5_runActs_35 (by decide) ?_
      refine lv_istore (lv' := [(7, .int 0), (6, .int 1), (5, .ref v_3), (4, .ref q_2), (0, .ref h), (1, .int n), (2, .int x1), (3, .int x2)]) hx hb dX5_runActs_36 hl (by decide) rfl (fun ls hl => ?_)
      refine lv_iconst (v := 0) hx hb dX5_runActs_38 (by decide) ?_
      refine lv_istore (lv' := [(8, .int 0), (7, .int 0), (6, .int 1), (5, .ref v_3), (4, .ref q_2), (0, .ref h), (1, .int n), (2, .int x1), (3, .int x2)]) hx hb dX5_runActs_39 hl (by decide) rfl (fun ls hl => ?_)
      refine lv_iconst (v := 0) hx hb dX5_runActs_41 (by decide) ?_
      refine lv_istore (lv' := [(9, .int 0), (8, .int 0), (7, .int 0), (6, .int 1), (5, .ref v_3), (4, .ref q_2), (0, .ref h), (1, .int n), (2, .int x1), (3, .int x2)]) hx hb dX5_runActs_42 hl (by decide) rfl (fun ls hl => ?_)
      exact lt_s_runActs4_a l D cI cZ cS cR N0 g h n x1 x2 r_h l_n u_n hB hr   8 g (0 : Int32) (0 : Int32) (1 : Int32) (0 : Int32) q_2 v_3 H locs ls hT hI hE hM (by decide) (by decide) (by decide) (by decide) (by decide) (by decide) r_q_2 r_v_3 (by have e0_ : (0 : Int32).toInt = 0 := (by decide); have e1_ : (1 : Int32).toInt = 1 := (by decide); omega) (lv_sub hl [0, 1, 2, 3, 4, 5, 6, 7, 8, 9] rfl)
    · refine W.eq (g2 := F0 m 25 ls [.int 0]) rfl ?_
      refine lv_if_eq (tgt := 32) hx hb dX5_runActs_25 (by decide) (fun c_ => ?_) (fun c_ => absurd (by decide) c_)
      refine lv_iconst (v := 0) hx hb dX5_runActs_32 (by decide) ?_
      refine lv_istore (lv' := [(6, .int 0), (5, .ref v_3), (4, .ref q_2), (0, .ref h), (1, .int n), (2, .int x1), (3, .int x2)]) hx hb dX5_runActs_33 hl (by decide) rfl (fun ls hl => ?_)
      refine lv_iconst (v := 0) hx hb dX5_runActs_35 (by decide) ?_
      refine lv_istore (lv' := [(7, .int 0), (6, .int 0), (5, .ref v_3), (4, .ref q_2), (0, .ref h), (1, .int n), (2, .int x1), (3, .int x2)]) hx hb dX5_runActs_36 hl (by decide) rfl (fun ls hl => ?_)
      refine lv_iconst (v := 0) hx hb dX5_runActs_38 (by decide) ?_
      refine lv_istore (lv' := [(8, .int 0), (7, .int 0), (6, .int 0), (5, .ref v_3), (4, .ref q_2), (0, .ref h), (1, .int n), (2, .int x1), (3, .int x2)]) hx hb dX5_runActs_39 hl (by decide) rfl (fun ls hl => ?_)
      refine lv_iconst (v := 0) hx hb dX5_runActs_41 (by decide) ?_
      refine lv_istore (lv' := [(9, .int 0), (8, .int 0), (7, .int 0), (6, .int 0), (5, .ref v_3), (4, .ref q_2), (0, .ref h), (1, .int n), (2, .int x1), (3, .int x2)]) hx hb dX5_runActs_42 hl (by decide) rfl (fun ls hl => ?_)
      exact lt_s_runActs4_a l D cI cZ cS cR N0 g h n x1 x2 r_h l_n u_n hB hr   8 g (0 : Int32) (0 : Int32) (0 : Int32) (0 : Int32) q_2 v_3 H locs ls hT hI hE hM (by decide) (by decide) (by decide) (by decide) (by decide) (by decide) r_q_2 r_v_3 (by have e0_ : (0 : Int32).toInt = 0 := (by decide); omega) (lv_sub hl [0, 1, 2, 3, 4, 5, 6, 7, 8, 9] rfl)
abbrev md_s_serve4 : Nat → Nat → Bool := mdf [(4, 2), (4, 5), (4, 10), (4, 11), (4, 14), (6, 4), (6, 5), (6, 7), (50, 99)]
theorem mdle_s_serve4_s_answerNewest {r k : Nat} (h : md_s_serve4 r k = false) : md_s_answerNewest r k = false := mdf_le (by decide +kernel) h
theorem mdle_s_serve4_s_beginKnown {r k : Nat} (h : md_s_serve4 r k = false) : md_s_beginKnown r k = false := mdf_le (by decide +kernel) h
theorem mdle_s_serve4_s_keep {r k : Nat} (h : md_s_serve4 r k = false) : md_s_keep r k = false := mdf_le (by decide +kernel) h
theorem mdle_s_serve4_s_runActs4 {r k : Nat} (h : md_s_serve4 r k = false) : md_s_runActs4 r k = false := mdf_le (by decide +kernel) h
set_option maxHeartbeats 4000000 in
set_option maxRecDepth 100000 in
theorem s_serve4 (l : Launch) (D : va_G) (cI cZ cS cR : ClassId) (N0 : NT) (g : GS) (hI : Inv g) (h : Nat) (n : Int32) (x1 : Int32) (x2 : Int32) (r_h : g.1 h = 6) (l_n : 1 ≤ n.toInt) (u_n : n.toInt ≤ 5) : Ty l D cI cZ cS cR N0 yX5_serve cX5_serve 9 (some .int) 10 0 0 [.ref h, .int n, .int x1, .int x2] g (fun v g' => ∃ (r : Int32), v = some (.int r) ∧ Inv g' ∧ Ex g g' ∧ Sm md_s_serve4 g g') := by
  refine t_enter (by decide) (Nat.le_of_ble_eq_true rfl) ?_
  intro p e s m args below meth c ls H locs hB hr hin hl hT
  have hx := hB.1
  have hb := hB.2.1
  have hl : lv_has ls 9 [(0, .ref h), (1, .int n), (2, .int x1), (3, .int x2)] := hl
  have hE : Ex g g := Ex.rf
  have hM : Sm md_s_serve4 g g := Sm.rf
  refine lv_aload_n hx hb dX5_serve_0 rfl (lv_at hl 0 rfl) ?_
  obtain ⟨v_1, e_v_1, r_v_1, n_v_1⟩ := f_6_0 hI r_h
  refine t_get (ci := 5) (v := .ref v_1) hB hT (ro_ci r_h rfl) rfl 0 (by decide) k_199 e_v_1 dX5_serve_1 ?_
  refine lv_iload_n hx hb dX5_serve_4 rfl (lv_at hl 1 rfl) ?_
  have i_q_2 : vp_in n 6 := (i_in (n := 6) rfl (by omega) (by omega))
  obtain ⟨q_2, e_q_2, r_q_2⟩ := hI.q r_v_1 n_v_1 (i_cl i_q_2)
  refine t_aald hB hT (Or.inl r_v_1) n_v_1 i_q_2 e_q_2 dX5_serve_5 ?_
  refine lv_astore (lv' := [(4, .ref q_2), (0, .ref h), (1, .int n), (2, .int x1), (3, .int x2)]) hx hb dX5_serve_6 hl (by decide) rfl (fun ls hl => ?_)
  refine lv_iload_n hx hb dX5_serve_8 rfl (lv_at hl 4 rfl) ?_
  refine lv_if_eq (tgt := 25) hx hb dX5_serve_9 (by decide) (fun c_3 => ?_) (fun c_3 => ?_)
  · have c_3' : x2.toInt = 0 := i_eq c_3 rfl (by decide)
    refine lv_iconst (v := 0) hx hb dX5_serve_25 (by decide) ?_
    refine lv_istore (lv' := [(5, .int 0), (4, .ref q_2), (0, .ref h), (1, .int n), (2, .int x1), (3, .int x2)]) hx hb dX5_serve_26 hl (by decide) rfl (fun ls hl => ?_)
    refine lv_iload hx hb dX5_serve_28 (lv_at hl 0 rfl) ?_
    refine lv_if_eq (tgt := 46) hx hb dX5_serve_30 (by decide) (fun c_ => ?_) (fun c_ => absurd (by decide) c_)
    refine lv_iconst (v := 0) hx hb dX5_serve_46 (by decide) ?_
    refine lv_istore (lv' := [(6, .int 0), (5, .int 0), (4, .ref q_2), (0, .ref h), (1, .int n), (2, .int x1), (3, .int x2)]) hx hb dX5_serve_47 hl (by decide) rfl (fun ls hl => ?_)
    refine lv_iload hx hb dX5_serve_49 (lv_at hl 1 rfl) ?_
    refine lv_if_eq (tgt := 63) hx hb dX5_serve_51 (by decide) (fun c_ => ?_) (fun c_ => absurd (by decide) c_)
    refine lv_iconst (v := (-1)) hx hb dX5_serve_63 (by decide) ?_
    refine lv_istore (lv' := [(7, .int (-1)), (6, .int 0), (5, .int 0), (4, .ref q_2), (0, .ref h), (1, .int n), (2, .int x1), (3, .int x2)]) hx hb dX5_serve_64 hl (by decide) rfl (fun ls hl => ?_)
    refine lv_iload hx hb dX5_serve_66 (lv_at hl 0 rfl) ?_
    refine lv_iconst (v := (-1)) hx hb dX5_serve_68 (by decide) ?_
    refine lv_icmp_eq (tgt := 81) hx hb dX5_serve_69 (by decide) (fun c_ => ?_) (fun c_ => absurd (by decide) c_)
    refine lv_iload hx hb dX5_serve_81 (lv_at hl 1 rfl) ?_
    refine lv_if_eq (tgt := 98) hx hb dX5_serve_83 (by decide) (fun c_ => ?_) (fun c_ => absurd (by decide) c_)
    refine lv_aload hx hb dX5_serve_98 (lv_at hl 3 rfl) ?_
    refine lv_iload_n hx hb dX5_serve_100 rfl (lv_at hl 6 rfl) ?_
    refine lv_iload_n hx hb dX5_serve_101 rfl (lv_at hl 7 rfl) ?_
    refine t_callV (n := 2) (As := [.int x1, .int x2]) (rest := []) (ci := 3) hB hT hl.1 (s_beginKnown l D cI cZ cS cR N0 g hI q_2 x1 x2 r_q_2) (ro_ci r_q_2 rfl) rfl k_529 k_60 k_526 k_527 k_528 (by decide +kernel) ⟨(Nat.le_of_ble_eq_true rfl), (Nat.le_of_ble_eq_true rfl)⟩ rfl (Nat.le_of_ble_eq_true rfl) ⟨(Nat.le_of_ble_eq_true rfl), (Nat.le_of_ble_eq_true rfl)⟩ dX5_serve_102 (fun v g_4 H locs hp hT => ?_)
    obtain ⟨rfl, hI, x_6, m_5⟩ := hp
    have hM : Sm md_s_serve4 g g_4 := hM.tr hE (m_5.mo (fun r k h => mdle_s_serve4_s_beginKnown h))
    have hE : Ex g g_4 := hE.tr x_6
    have r_7 : g_4.1 h = 6 := (Ex.r x_6 r_h (by decide))
    have r_8 : g_4.1 v_1 = 41 := (Ex.r x_6 r_v_1 (by decide))
    have r_9 : g_4.1 q_2 = 4 := (Ex.r x_6 r_q_2 (by decide))
    have n_10 : g_4.2.2.1 v_1 = 6 := (Ex.n x_6 r_v_1 (by decide) n_v_1)
    have kn_11 : g_4.2.1 h 0 = .ref v_1 := (Sm.v m_5 r_h (by decide) rfl e_v_1)
    refine W.eq (g2 := F0 m 105 ls []) rfl ?_
    refine lv_aload_n hx hb dX5_serve_105 rfl (lv_at hl 4 rfl) ?_
    refine lv_iload_n hx hb dX5_serve_106 rfl (lv_at hl 5 rfl) ?_
    refine lv_iload_n hx hb dX5_serve_107 rfl (lv_at hl 6 rfl) ?_
    refine lv_iload_n hx hb dX5_serve_108 rfl (lv_at hl 7 rfl) ?_
    refine t_callV (n := 3) (As := [.int n, .int x1, .int x2]) (rest := []) (ci := 5) hB hT hl.1 (s_runActs4 l D cI cZ cS cR N0 g_4 hI h n x1 x2 r_7 (by omega) (by omega)) (ro_ci r_7 rfl) rfl k_534 k_59 k_531 k_533 k_13 (by decide +kernel) ⟨(Nat.le_of_ble_eq_true rfl), (Nat.le_of_ble_eq_true rfl)⟩ rfl (Nat.le_of_ble_eq_true rfl) ⟨(Nat.le_of_ble_eq_true rfl), (Nat.le_of_ble_eq_true rfl)⟩ dX5_serve_109 (fun v g_12 H locs hp hT => ?_)
    obtain ⟨r_13, rfl, hI, x_15, m_14⟩ := hp
    have hM : Sm md_s_serve4 g g_12 := hM.tr hE (m_14.mo (fun r k h => mdle_s_serve4_s_runActs4 h))
    have hE : Ex g g_12 := hE.tr x_15
    have r_16 : g_12.1 h = 6 := (Ex.r x_15 r_7 (by decide))
    have r_17 : g_12.1 v_1 = 41 := (Ex.r x_15 r_8 (by decide))
    have r_18 : g_12.1 q_2 = 4 := (Ex.r x_15 r_9 (by decide))
    have n_19 : g_12.2.2.1 v_1 = 6 := (Ex.n x_15 r_8 (by decide) n_10)
    have kn_20 : g_12.2.1 h 0 = .ref v_1 := (Sm.v m_14 r_7 (by decide) rfl kn_11)
    refine W.eq (g2 := F0 m 112 ls [.int r_13]) rfl ?_
    refine lv_istore (lv' := [(8, .int r_13), (7, .int (-1)), (6, .int 0), (5, .int 0), (4, .ref q_2), (0, .ref h), (1, .int n), (2, .int x1), (3, .int x2)]) hx hb dX5_serve_112 hl (by decide) rfl (fun ls hl => ?_)
    refine lv_aload_n hx hb dX5_serve_114 rfl (lv_at hl 5 rfl) ?_
    obtain ⟨v_21, e_v_21, l_v_21, u_v_21⟩ := f_6_7 hI r_16
    refine t_get (ci := 5) (v := .int v_21) hB hT (ro_ci r_16 rfl) rfl 7 (by decide) k_216 e_v_21 dX5_serve_115 ?_
    refine lv_if_eq (tgt := 124) hx hb dX5_serve_118 (by decide) (fun c_22 => ?_) (fun c_22 => ?_)
    · have c_22' : v_21.toInt = 0 := i_eq c_22 rfl (by decide)
      refine lv_iload hx hb dX5_serve_124 (lv_at hl 2 rfl) ?_
      refine lv_if_eq (tgt := 140) hx hb dX5_serve_126 (by decide) (fun c_ => ?_) (fun c_ => absurd (by decide) c_)
      refine lv_iload hx hb dX5_serve_140 (lv_at hl 3 rfl) ?_
      refine lv_if_eq (tgt := 158) hx hb dX5_serve_142 (by decide) (fun c_ => ?_) (fun c_ => absurd (by decide) c_)
      refine lv_iload hx hb dX5_serve_158 (lv_at hl 0 rfl) ?_
      exact t_iret hB hr hT (Nat.le_of_ble_eq_true rfl) (Nat.le_of_ble_eq_true rfl) dX5_serve_160 ⟨r_13, rfl, hI, hE, hM⟩
    · have c_22' : v_21.toInt ≠ 0 := i_ne c_22 rfl (by decide)
      refine lv_bipush (v := (-2)) hx hb dX5_serve_121 (by decide) ?_
      exact t_iret hB hr hT (Nat.le_of_ble_eq_true rfl) (Nat.le_of_ble_eq_true rfl) dX5_serve_123 ⟨(-2), rfl, hI, hE, hM⟩
  · have c_3' : x2.toInt ≠ 0 := i_ne c_3 rfl (by decide)
    refine lv_aload hx hb dX5_serve_12 (lv_at hl 0 rfl) ?_
    refine lv_iconst (v := 0) hx hb dX5_serve_14 (by decide) ?_
    refine t_callV (n := 1) (As := [.int 0]) (rest := []) (ci := 3) hB hT hl.1 (s_isMended l D cI cZ cS cR N0 g hI q_2 0 r_q_2) (ro_ci r_q_2 rfl) rfl k_512 k_60 k_509 k_510 k_511 (by decide +kernel) ⟨(Nat.le_of_ble_eq_true rfl), (Nat.le_of_ble_eq_true rfl)⟩ rfl (Nat.le_of_ble_eq_true rfl) ⟨(Nat.le_of_ble_eq_true rfl), (Nat.le_of_ble_eq_true rfl)⟩ dX5_serve_15 (fun v g_23 H locs hp hT => ?_)
    obtain ⟨r_24, rfl, eg, f_25⟩ := hp
    rw [eg] at hT
    clear eg
    refine W.eq (g2 := F0 m 18 ls [.int r_24]) rfl ?_
    have qc_28 : (0 : Int32).toInt = 0 := (by decide)
    rcases f_25 with rfl | rfl
    · refine W.eq (g2 := F0 m 18 ls [.int 1]) rfl ?_
      refine lv_if_eq (tgt := 25) hx hb dX5_serve_18 (by decide) (fun c_ => absurd c_ (by decide)) (fun c_ => ?_)
      refine lv_iconst (v := 1) hx hb dX5_serve_21 (by decide) ?_
      refine lv_goto (tgt := 26) hx hb dX5_serve_22 (by decide) ?_
      refine lv_istore (lv' := [(5, .int 1), (4, .ref q_2), (0, .ref h), (1, .int n), (2, .int x1), (3, .int x2)]) hx hb dX5_serve_26 hl (by decide) rfl (fun ls hl => ?_)
      refine lv_iload hx hb dX5_serve_28 (lv_at hl 0 rfl) ?_
      refine lv_if_eq (tgt := 46) hx hb dX5_serve_30 (by decide) (fun c_ => absurd c_ (by decide)) (fun c_ => ?_)
      refine lv_aload hx hb dX5_serve_33 (lv_at hl 1 rfl) ?_
      refine lv_iconst (v := 1) hx hb dX5_serve_35 (by decide) ?_
      refine t_callV (n := 1) (As := [.int 1]) (rest := []) (ci := 3) hB hT hl.1 (s_isMended l D cI cZ cS cR N0 g hI q_2 1 r_q_2) (ro_ci r_q_2 rfl) rfl k_512 k_60 k_509 k_510 k_511 (by decide +kernel) ⟨(Nat.le_of_ble_eq_true rfl), (Nat.le_of_ble_eq_true rfl)⟩ rfl (Nat.le_of_ble_eq_true rfl) ⟨(Nat.le_of_ble_eq_true rfl), (Nat.le_of_ble_eq_true rfl)⟩ dX5_serve_36 (fun v g_29 H locs hp hT => ?_)
      obtain ⟨r_30, rfl, eg, f_31⟩ := hp
      rw [eg] at hT
      clear eg
      refine W.eq (g2 := F0 m 39 ls [.int r_30]) rfl ?_
      have qc_34 : (1 : Int32).toInt = 1 := (by decide)
      rcases f_31 with rfl | rfl
      · refine W.eq (g2 := F0 m 39 ls [.int 1]) rfl ?_
        refine lv_if_eq (tgt := 46) hx hb dX5_serve_39 (by decide) (fun c_ => absurd c_ (by decide)) (fun c_ => ?_)
        refine lv_iconst (v := 1) hx hb dX5_serve_42 (by decide) ?_
        refine lv_goto (tgt := 47) hx hb dX5_serve_43 (by decide) ?_
        refine lv_istore (lv' := [(6, .int 1), (5, .int 1), (4, .ref q_2), (0, .ref h), (1, .int n), (2, .int x1), (3, .int x2)]) hx hb dX5_serve_47 hl (by decide) rfl (fun ls hl => ?_)
        refine lv_iload hx hb dX5_serve_49 (lv_at hl 1 rfl) ?_
        refine lv_if_eq (tgt := 63) hx hb dX5_serve_51 (by decide) (fun c_ => absurd c_ (by decide)) (fun c_ => ?_)
        refine lv_aload hx hb dX5_serve_54 (lv_at hl 2 rfl) ?_
        refine lv_iload_n hx hb dX5_serve_56 rfl (lv_at hl 6 rfl) ?_
        refine t_callV (n := 1) (As := [.int x2]) (rest := []) (ci := 3) hB hT hl.1 (s_placeOfKey l D cI cZ cS cR N0 g hI q_2 x2 r_q_2) (ro_ci r_q_2 rfl) rfl k_516 k_60 k_513 k_514 k_515 (by decide +kernel) ⟨(Nat.le_of_ble_eq_true rfl), (Nat.le_of_ble_eq_true rfl)⟩ rfl (Nat.le_of_ble_eq_true rfl) ⟨(Nat.le_of_ble_eq_true rfl), (Nat.le_of_ble_eq_true rfl)⟩ dX5_serve_57 (fun v g_35 H locs hp hT => ?_)
        obtain ⟨r_36, rfl, eg, f_37⟩ := hp
        rw [eg] at hT
        clear eg
        refine W.eq (g2 := F0 m 60 ls [.int r_36]) rfl ?_
        rcases f_37 with rfl | ⟨hw_40, hw_41⟩
        · refine W.eq (g2 := F0 m 60 ls [.int (-1)]) rfl ?_
          refine lv_goto (tgt := 64) hx hb dX5_serve_60 (by decide) ?_
          refine lv_istore (lv' := [(7, .int (-1)), (6, .int 1), (5, .int 1), (4, .ref q_2), (0, .ref h), (1, .int n), (2, .int x1), (3, .int x2)]) hx hb dX5_serve_64 hl (by decide) rfl (fun ls hl => ?_)
          refine lv_iload hx hb dX5_serve_66 (lv_at hl 0 rfl) ?_
          refine lv_iconst (v := (-1)) hx hb dX5_serve_68 (by decide) ?_
          refine lv_icmp_eq (tgt := 81) hx hb dX5_serve_69 (by decide) (fun c_ => ?_) (fun c_ => absurd (by decide) c_)
          refine lv_iload hx hb dX5_serve_81 (lv_at hl 1 rfl) ?_
          refine lv_if_eq (tgt := 98) hx hb dX5_serve_83 (by decide) (fun c_ => absurd c_ (by decide)) (fun c_ => ?_)
          refine lv_aload hx hb dX5_serve_86 (lv_at hl 3 rfl) ?_
          refine lv_iload_n hx hb dX5_serve_88 rfl (lv_at hl 7 rfl) ?_
          refine lv_iload_n hx hb dX5_serve_89 rfl (lv_at hl 6 rfl) ?_
          refine lv_iconst (v := 0) hx hb dX5_serve_90 (by decide) ?_
          refine lv_aload_n hx hb dX5_serve_91 rfl (lv_at hl 4 rfl) ?_
          obtain ⟨v_42, e_v_42⟩ := f_6_2 hI r_h
          refine t_get (ci := 5) (v := .int v_42) hB hT (ro_ci r_h rfl) rfl 2 (by decide) k_205 e_v_42 dX5_serve_92 ?_
          refine t_callV (n := 4) (As := [.int x2, .int x1, .int 0, .int v_42]) (rest := []) (ci := 3) hB hT hl.1 (s_keep l D cI cZ cS cR N0 g hI q_2 x2 x1 0 v_42 r_q_2) (ro_ci r_q_2 rfl) rfl k_524 k_60 k_521 k_522 k_523 (by decide +kernel) ⟨(Nat.le_of_ble_eq_true rfl), (Nat.le_of_ble_eq_true rfl)⟩ rfl (Nat.le_of_ble_eq_true rfl) ⟨(Nat.le_of_ble_eq_true rfl), (Nat.le_of_ble_eq_true rfl)⟩ dX5_serve_95 (fun v g_43 H locs hp hT => ?_)
          obtain ⟨rfl, hI, x_45, m_44⟩ := hp
          have hM : Sm md_s_serve4 g g_43 := hM.tr hE (m_44.mo (fun r k h => mdle_s_serve4_s_keep h))
          have hE : Ex g g_43 := hE.tr x_45
          have r_46 : g_43.1 h = 6 := (Ex.r x_45 r_h (by decide))
          have r_47 : g_43.1 v_1 = 41 := (Ex.r x_45 r_v_1 (by decide))
          have r_48 : g_43.1 q_2 = 4 := (Ex.r x_45 r_q_2 (by decide))
          have n_49 : g_43.2.2.1 v_1 = 6 := (Ex.n x_45 r_v_1 (by decide) n_v_1)
          have kn_50 : g_43.2.1 h 0 = .ref v_1 := (Sm.v m_44 r_h (by decide) rfl e_v_1)
          have kn_51 : g_43.2.1 h 2 = .int v_42 := (Sm.v m_44 r_h (by decide) rfl e_v_42)
          refine W.eq (g2 := F0 m 98 ls []) rfl ?_
          refine lv_aload hx hb dX5_serve_98 (lv_at hl 3 rfl) ?_
          refine lv_iload_n hx hb dX5_serve_100 rfl (lv_at hl 6 rfl) ?_
          refine lv_iload_n hx hb dX5_serve_101 rfl (lv_at hl 7 rfl) ?_
          refine t_callV (n := 2) (As := [.int x1, .int x2]) (rest := []) (ci := 3) hB hT hl.1 (s_beginKnown l D cI cZ cS cR N0 g_43 hI q_2 x1 x2 r_48) (ro_ci r_48 rfl) rfl k_529 k_60 k_526 k_527 k_528 (by decide +kernel) ⟨(Nat.le_of_ble_eq_true rfl), (Nat.le_of_ble_eq_true rfl)⟩ rfl (Nat.le_of_ble_eq_true rfl) ⟨(Nat.le_of_ble_eq_true rfl), (Nat.le_of_ble_eq_true rfl)⟩ dX5_serve_102 (fun v g_52 H locs hp hT => ?_)
          obtain ⟨rfl, hI, x_54, m_53⟩ := hp
          have hM : Sm md_s_serve4 g g_52 := hM.tr hE (m_53.mo (fun r k h => mdle_s_serve4_s_beginKnown h))
          have hE : Ex g g_52 := hE.tr x_54
          have r_55 : g_52.1 h = 6 := (Ex.r x_54 r_46 (by decide))
          have r_56 : g_52.1 v_1 = 41 := (Ex.r x_54 r_47 (by decide))
          have r_57 : g_52.1 q_2 = 4 := (Ex.r x_54 r_48 (by decide))
          have n_58 : g_52.2.2.1 v_1 = 6 := (Ex.n x_54 r_47 (by decide) n_49)
          have kn_59 : g_52.2.1 h 0 = .ref v_1 := (Sm.v m_53 r_46 (by decide) rfl kn_50)
          have kn_60 : g_52.2.1 h 2 = .int v_42 := (Sm.v m_53 r_46 (by decide) rfl kn_51)
          refine W.eq (g2 := F0 m 105 ls []) rfl ?_
          refine lv_aload_n hx hb dX5_serve_105 rfl (lv_at hl 4 rfl) ?_
          refine lv_iload_n hx hb dX5_serve_106 rfl (lv_at hl 5 rfl) ?_
          refine lv_iload_n hx hb dX5_serve_107 rfl (lv_at hl 6 rfl) ?_
          refine lv_iload_n hx hb dX5_serve_108 rfl (lv_at hl 7 rfl) ?_
          refine t_callV (n := 3) (As := [.int n, .int x1, .int x2]) (rest := []) (ci := 5) hB hT hl.1 (s_runActs4 l D cI cZ cS cR N0 g_52 hI h n x1 x2 r_55 (by omega) (by omega)) (ro_ci r_55 rfl) rfl k_534 k_59 k_531 k_533 k_13 (by decide +kernel) ⟨(Nat.le_of_ble_eq_true rfl), (Nat.le_of_ble_eq_true rfl)⟩ rfl (Nat.le_of_ble_eq_true rfl) ⟨(Nat.le_of_ble_eq_true rfl), (Nat.le_of_ble_eq_true rfl)⟩ dX5_serve_109 (fun v g_61 H locs hp hT => ?_)
          obtain ⟨r_62, rfl, hI, x_64, m_63⟩ := hp
          have hM : Sm md_s_serve4 g g_61 := hM.tr hE (m_63.mo (fun r k h => mdle_s_serve4_s_runActs4 h))
          have hE : Ex g g_61 := hE.tr x_64
          have r_65 : g_61.1 h = 6 := (Ex.r x_64 r_55 (by decide))
          have r_66 : g_61.1 v_1 = 41 := (Ex.r x_64 r_56 (by decide))
          have r_67 : g_61.1 q_2 = 4 := (Ex.r x_64 r_57 (by decide))
          have n_68 : g_61.2.2.1 v_1 = 6 := (Ex.n x_64 r_56 (by decide) n_58)
          have kn_69 : g_61.2.1 h 0 = .ref v_1 := (Sm.v m_63 r_55 (by decide) rfl kn_59)
          have kn_70 : g_61.2.1 h 2 = .int v_42 := (Sm.v m_63 r_55 (by decide) rfl kn_60)
          refine W.eq (g2 := F0 m 112 ls [.int r_62]) rfl ?_
          refine lv_istore (lv' := [(8, .int r_62), (7, .int (-1)), (6, .int 1), (5, .int 1), (4, .ref q_2), (0, .ref h), (1, .int n), (2, .int x1), (3, .int x2)]) hx hb dX5_serve_112 hl (by decide) rfl (fun ls hl => ?_)
          refine lv_aload_n hx hb dX5_serve_114 rfl (lv_at hl 5 rfl) ?_
          obtain ⟨v_71, e_v_71, l_v_71, u_v_71⟩ := f_6_7 hI r_65
          refine t_get (ci := 5) (v := .int v_71) hB hT (ro_ci r_65 rfl) rfl 7 (by decide) k_216 e_v_71 dX5_serve_115 ?_
          refine lv_if_eq (tgt := 124) hx hb dX5_serve_118 (by decide) (fun c_72 => ?_) (fun c_72 => ?_)
          · have c_72' : v_71.toInt = 0 := i_eq c_72 rfl (by decide)
            refine lv_iload hx hb dX5_serve_124 (lv_at hl 2 rfl) ?_
            refine lv_if_eq (tgt := 140) hx hb dX5_serve_126 (by decide) (fun c_ => absurd c_ (by decide)) (fun c_ => ?_)
            refine lv_aload hx hb dX5_serve_129 (lv_at hl 4 rfl) ?_
            refine lv_iload_n hx hb dX5_serve_131 rfl (lv_at hl 8 rfl) ?_
            refine lv_iload hx hb dX5_serve_132 (lv_at hl 0 rfl) ?_
            refine t_callV (n := 2) (As := [.int x2, .int r_62]) (rest := []) (ci := 3) hB hT hl.1 (s_answerNewest l D cI cZ cS cR N0 g_61 hI q_2 x2 r_62 r_67) (ro_ci r_67 rfl) rfl k_554 k_60 k_551 k_552 k_553 (by decide +kernel) ⟨(Nat.le_of_ble_eq_true rfl), (Nat.le_of_ble_eq_true rfl)⟩ rfl (Nat.le_of_ble_eq_true rfl) ⟨(Nat.le_of_ble_eq_true rfl), (Nat.le_of_ble_eq_true rfl)⟩ dX5_serve_134 (fun v g_73 H locs hp hT => ?_)
            obtain ⟨rfl, hI, x_75, m_74⟩ := hp
            have hM : Sm md_s_serve4 g g_73 := hM.tr hE (m_74.mo (fun r k h => mdle_s_serve4_s_answerNewest h))
            have hE : Ex g g_73 := hE.tr x_75
            have r_76 : g_73.1 h = 6 := (Ex.r x_75 r_65 (by decide))
            have r_77 : g_73.1 v_1 = 41 := (Ex.r x_75 r_66 (by decide))
            have r_78 : g_73.1 q_2 = 4 := (Ex.r x_75 r_67 (by decide))
            have n_79 : g_73.2.2.1 v_1 = 6 := (Ex.n x_75 r_66 (by decide) n_68)
            have kn_80 : g_73.2.1 h 0 = .ref v_1 := (Sm.v m_74 r_65 (by decide) rfl kn_69)
            have kn_81 : g_73.2.1 h 2 = .int v_42 := (Sm.v m_74 r_65 (by decide) rfl kn_70)
            have kn_82 : g_73.2.1 h 7 = .int v_71 := (Sm.v m_74 r_65 (by decide) rfl e_v_71)
            refine W.eq (g2 := F0 m 137 ls []) rfl ?_
            refine lv_goto (tgt := 158) hx hb dX5_serve_137 (by decide) ?_
            refine lv_iload hx hb dX5_serve_158 (lv_at hl 0 rfl) ?_
            exact t_iret hB hr hT (Nat.le_of_ble_eq_true rfl) (Nat.le_of_ble_eq_true rfl) dX5_serve_160 ⟨r_62, rfl, hI, hE, hM⟩
          · have c_72' : v_71.toInt ≠ 0 := i_ne c_72 rfl (by decide)
            refine lv_bipush (v := (-2)) hx hb dX5_serve_121 (by decide) ?_
            exact t_iret hB hr hT (Nat.le_of_ble_eq_true rfl) (Nat.le_of_ble_eq_true rfl) dX5_serve_123 ⟨(-2), rfl, hI, hE, hM⟩
        · refine W.eq (g2 := F0 m 60 ls [.int r_36]) rfl ?_
          refine lv_goto (tgt := 64) hx hb dX5_serve_60 (by decide) ?_
          refine lv_istore (lv' := [(7, .int r_36), (6, .int 1), (5, .int 1), (4, .ref q_2), (0, .ref h), (1, .int n), (2, .int x1), (3, .int x2)]) hx hb dX5_serve_64 hl (by decide) rfl (fun ls hl => ?_)
          refine lv_iload hx hb dX5_serve_66 (lv_at hl 0 rfl) ?_
          refine lv_iconst (v := (-1)) hx hb dX5_serve_68 (by decide) ?_
          refine lv_icmp_eq (tgt := 81) hx hb dX5_serve_69 (by decide) (fun c_83 => ?_) (fun c_83 => ?_)
          · have c_83' : r_36.toInt = (-1) := i_eq c_83 rfl (by decide)
            exact absurd c_83' (by omega)
          · have c_83' : r_36.toInt ≠ (-1) := i_ne c_83 rfl (by decide)
            refine lv_aload hx hb dX5_serve_72 (lv_at hl 3 rfl) ?_
            refine lv_iload hx hb dX5_serve_74 (lv_at hl 0 rfl) ?_
            refine lv_iload_n hx hb dX5_serve_76 rfl (lv_at hl 6 rfl) ?_
            refine t_callV (n := 2) (As := [.int r_36, .int x1]) (rest := []) (ci := 3) hB hT hl.1 (s_keptAnswer l D cI cZ cS cR N0 g hI q_2 r_36 x1 r_q_2 (by omega) (by omega)) (ro_ci r_q_2 rfl) rfl k_520 k_60 k_517 k_518 k_519 (by decide +kernel) ⟨(Nat.le_of_ble_eq_true rfl), (Nat.le_of_ble_eq_true rfl)⟩ rfl (Nat.le_of_ble_eq_true rfl) ⟨(Nat.le_of_ble_eq_true rfl), (Nat.le_of_ble_eq_true rfl)⟩ dX5_serve_77 (fun v g_84 H locs hp hT => ?_)
            obtain ⟨r_85, rfl, eg⟩ := hp
            rw [eg] at hT
            clear eg
            refine W.eq (g2 := F0 m 80 ls [.int r_85]) rfl ?_
            exact t_iret hB hr hT (Nat.le_of_ble_eq_true rfl) (Nat.le_of_ble_eq_true rfl) dX5_serve_80 ⟨r_85, rfl, hI, hE, hM⟩
      · refine W.eq (g2 := F0 m 39 ls [.int 0]) rfl ?_
        refine lv_if_eq (tgt := 46) hx hb dX5_serve_39 (by decide) (fun c_ => ?_) (fun c_ => absurd (by decide) c_)
        refine lv_iconst (v := 0) hx hb dX5_serve_46 (by decide) ?_
        refine lv_istore (lv' := [(6, .int 0), (5, .int 1), (4, .ref q_2), (0, .ref h), (1, .int n), (2, .int x1), (3, .int x2)]) hx hb dX5_serve_47 hl (by decide) rfl (fun ls hl => ?_)
        refine lv_iload hx hb dX5_serve_49 (lv_at hl 1 rfl) ?_
        refine lv_if_eq (tgt := 63) hx hb dX5_serve_51 (by decide) (fun c_ => absurd c_ (by decide)) (fun c_ => ?_)
        refine lv_aload hx hb dX5_serve_54 (lv_at hl 2 rfl) ?_
        refine lv_iload_n hx hb dX5_serve_56 rfl (lv_at hl 6 rfl) ?_
        refine t_callV (n := 1) (As := [.int x2]) (rest := []) (ci := 3) hB hT hl.1 (s_placeOfKey l D cI cZ cS cR N0 g hI q_2 x2 r_q_2) (ro_ci r_q_2 rfl) rfl k_516 k_60 k_513 k_514 k_515 (by decide +kernel) ⟨(Nat.le_of_ble_eq_true rfl), (Nat.le_of_ble_eq_true rfl)⟩ rfl (Nat.le_of_ble_eq_true rfl) ⟨(Nat.le_of_ble_eq_true rfl), (Nat.le_of_ble_eq_true rfl)⟩ dX5_serve_57 (fun v g_88 H locs hp hT => ?_)
        obtain ⟨r_89, rfl, eg, f_90⟩ := hp
        rw [eg] at hT
        clear eg
        refine W.eq (g2 := F0 m 60 ls [.int r_89]) rfl ?_
        rcases f_90 with rfl | ⟨hw_93, hw_94⟩
        · refine W.eq (g2 := F0 m 60 ls [.int (-1)]) rfl ?_
          refine lv_goto (tgt := 64) hx hb dX5_serve_60 (by decide) ?_
          refine lv_istore (lv' := [(7, .int (-1)), (6, .int 0), (5, .int 1), (4, .ref q_2), (0, .ref h), (1, .int n), (2, .int x1), (3, .int x2)]) hx hb dX5_serve_64 hl (by decide) rfl (fun ls hl => ?_)
          refine lv_iload hx hb dX5_serve_66 (lv_at hl 0 rfl) ?_
          refine lv_iconst (v := (-1)) hx hb dX5_serve_68 (by decide) ?_
          refine lv_icmp_eq (tgt := 81) hx hb dX5_serve_69 (by decide) (fun c_ => ?_) (fun c_ => absurd (by decide) c_)
          refine lv_iload hx hb dX5_serve_81 (lv_at hl 1 rfl) ?_
          refine lv_if_eq (tgt := 98) hx hb dX5_serve_83 (by decide) (fun c_ => ?_) (fun c_ => absurd (by decide) c_)
          refine lv_aload hx hb dX5_serve_98 (lv_at hl 3 rfl) ?_
          refine lv_iload_n hx hb dX5_serve_100 rfl (lv_at hl 6 rfl) ?_
          refine lv_iload_n hx hb dX5_serve_101 rfl (lv_at hl 7 rfl) ?_
          refine t_callV (n := 2) (As := [.int x1, .int x2]) (rest := []) (ci := 3) hB hT hl.1 (s_beginKnown l D cI cZ cS cR N0 g hI q_2 x1 x2 r_q_2) (ro_ci r_q_2 rfl) rfl k_529 k_60 k_526 k_527 k_528 (by decide +kernel) ⟨(Nat.le_of_ble_eq_true rfl), (Nat.le_of_ble_eq_true rfl)⟩ rfl (Nat.le_of_ble_eq_true rfl) ⟨(Nat.le_of_ble_eq_true rfl), (Nat.le_of_ble_eq_true rfl)⟩ dX5_serve_102 (fun v g_95 H locs hp hT => ?_)
          obtain ⟨rfl, hI, x_97, m_96⟩ := hp
          have hM : Sm md_s_serve4 g g_95 := hM.tr hE (m_96.mo (fun r k h => mdle_s_serve4_s_beginKnown h))
          have hE : Ex g g_95 := hE.tr x_97
          have r_98 : g_95.1 h = 6 := (Ex.r x_97 r_h (by decide))
          have r_99 : g_95.1 v_1 = 41 := (Ex.r x_97 r_v_1 (by decide))
          have r_100 : g_95.1 q_2 = 4 := (Ex.r x_97 r_q_2 (by decide))
          have n_101 : g_95.2.2.1 v_1 = 6 := (Ex.n x_97 r_v_1 (by decide) n_v_1)
          have kn_102 : g_95.2.1 h 0 = .ref v_1 := (Sm.v m_96 r_h (by decide) rfl e_v_1)
          refine W.eq (g2 := F0 m 105 ls []) rfl ?_
          refine lv_aload_n hx hb dX5_serve_105 rfl (lv_at hl 4 rfl) ?_
          refine lv_iload_n hx hb dX5_serve_106 rfl (lv_at hl 5 rfl) ?_
          refine lv_iload_n hx hb dX5_serve_107 rfl (lv_at hl 6 rfl) ?_
          refine lv_iload_n hx hb dX5_serve_108 rfl (lv_at hl 7 rfl) ?_
          refine t_callV (n := 3) (As := [.int n, .int x1, .int x2]) (rest := []) (ci := 5) hB hT hl.1 (s_runActs4 l D cI cZ cS cR N0 g_95 hI h n x1 x2 r_98 (by omega) (by omega)) (ro_ci r_98 rfl) rfl k_534 k_59 k_531 k_533 k_13 (by decide +kernel) ⟨(Nat.le_of_ble_eq_true rfl), (Nat.le_of_ble_eq_true rfl)⟩ rfl (Nat.le_of_ble_eq_true rfl) ⟨(Nat.le_of_ble_eq_true rfl), (Nat.le_of_ble_eq_true rfl)⟩ dX5_serve_109 (fun v g_103 H locs hp hT => ?_)
          obtain ⟨r_104, rfl, hI, x_106, m_105⟩ := hp
          have hM : Sm md_s_serve4 g g_103 := hM.tr hE (m_105.mo (fun r k h => mdle_s_serve4_s_runActs4 h))
          have hE : Ex g g_103 := hE.tr x_106
          have r_107 : g_103.1 h = 6 := (Ex.r x_106 r_98 (by decide))
          have r_108 : g_103.1 v_1 = 41 := (Ex.r x_106 r_99 (by decide))
          have r_109 : g_103.1 q_2 = 4 := (Ex.r x_106 r_100 (by decide))
          have n_110 : g_103.2.2.1 v_1 = 6 := (Ex.n x_106 r_99 (by decide) n_101)
          have kn_111 : g_103.2.1 h 0 = .ref v_1 := (Sm.v m_105 r_98 (by decide) rfl kn_102)
          refine W.eq (g2 := F0 m 112 ls [.int r_104]) rfl ?_
          refine lv_istore (lv' := [(8, .int r_104), (7, .int (-1)), (6, .int 0), (5, .int 1), (4, .ref q_2), (0, .ref h), (1, .int n), (2, .int x1), (3, .int x2)]) hx hb dX5_serve_112 hl (by decide) rfl (fun ls hl => ?_)
          refine lv_aload_n hx hb dX5_serve_114 rfl (lv_at hl 5 rfl) ?_
          obtain ⟨v_112, e_v_112, l_v_112, u_v_112⟩ := f_6_7 hI r_107
          refine t_get (ci := 5) (v := .int v_112) hB hT (ro_ci r_107 rfl) rfl 7 (by decide) k_216 e_v_112 dX5_serve_115 ?_
          refine lv_if_eq (tgt := 124) hx hb dX5_serve_118 (by decide) (fun c_113 => ?_) (fun c_113 => ?_)
          · have c_113' : v_112.toInt = 0 := i_eq c_113 rfl (by decide)
            refine lv_iload hx hb dX5_serve_124 (lv_at hl 2 rfl) ?_
            refine lv_if_eq (tgt := 140) hx hb dX5_serve_126 (by decide) (fun c_ => ?_) (fun c_ => absurd (by decide) c_)
            refine lv_iload hx hb dX5_serve_140 (lv_at hl 3 rfl) ?_
            refine lv_if_eq (tgt := 158) hx hb dX5_serve_142 (by decide) (fun c_ => absurd c_ (by decide)) (fun c_ => ?_)
            refine lv_aload hx hb dX5_serve_145 (lv_at hl 4 rfl) ?_
            refine lv_iload_n hx hb dX5_serve_147 rfl (lv_at hl 8 rfl) ?_
            refine lv_iload_n hx hb dX5_serve_148 rfl (lv_at hl 7 rfl) ?_
            refine lv_iload hx hb dX5_serve_149 (lv_at hl 0 rfl) ?_
            refine lv_aload_n hx hb dX5_serve_151 rfl (lv_at hl 5 rfl) ?_
            obtain ⟨v_114, e_v_114⟩ := f_6_2 hI r_107
            refine t_get (ci := 5) (v := .int v_114) hB hT (ro_ci r_107 rfl) rfl 2 (by decide) k_205 e_v_114 dX5_serve_152 ?_
            refine t_callV (n := 4) (As := [.int x2, .int x1, .int r_104, .int v_114]) (rest := []) (ci := 3) hB hT hl.1 (s_keep l D cI cZ cS cR N0 g_103 hI q_2 x2 x1 r_104 v_114 r_109) (ro_ci r_109 rfl) rfl k_524 k_60 k_521 k_522 k_523 (by decide +kernel) ⟨(Nat.le_of_ble_eq_true rfl), (Nat.le_of_ble_eq_true rfl)⟩ rfl (Nat.le_of_ble_eq_true rfl) ⟨(Nat.le_of_ble_eq_true rfl), (Nat.le_of_ble_eq_true rfl)⟩ dX5_serve_155 (fun v g_115 H locs hp hT => ?_)
            obtain ⟨rfl, hI, x_117, m_116⟩ := hp
            have hM : Sm md_s_serve4 g g_115 := hM.tr hE (m_116.mo (fun r k h => mdle_s_serve4_s_keep h))
            have hE : Ex g g_115 := hE.tr x_117
            have r_118 : g_115.1 h = 6 := (Ex.r x_117 r_107 (by decide))
            have r_119 : g_115.1 v_1 = 41 := (Ex.r x_117 r_108 (by decide))
            have r_120 : g_115.1 q_2 = 4 := (Ex.r x_117 r_109 (by decide))
            have n_121 : g_115.2.2.1 v_1 = 6 := (Ex.n x_117 r_108 (by decide) n_110)
            have kn_122 : g_115.2.1 h 0 = .ref v_1 := (Sm.v m_116 r_107 (by decide) rfl kn_111)
            have kn_123 : g_115.2.1 h 7 = .int v_112 := (Sm.v m_116 r_107 (by decide) rfl e_v_112)
            have kn_124 : g_115.2.1 h 2 = .int v_114 := (Sm.v m_116 r_107 (by decide) rfl e_v_114)
            refine W.eq (g2 := F0 m 158 ls []) rfl ?_
            refine lv_iload hx hb dX5_serve_158 (lv_at hl 0 rfl) ?_
            exact t_iret hB hr hT (Nat.le_of_ble_eq_true rfl) (Nat.le_of_ble_eq_true rfl) dX5_serve_160 ⟨r_104, rfl, hI, hE, hM⟩
          · have c_113' : v_112.toInt ≠ 0 := i_ne c_113 rfl (by decide)
            refine lv_bipush (v := (-2)) hx hb dX5_serve_121 (by decide) ?_
            exact t_iret hB hr hT (Nat.le_of_ble_eq_true rfl) (Nat.le_of_ble_eq_true rfl) dX5_serve_123 ⟨(-2), rfl, hI, hE, hM⟩
        · refine W.eq (g2 := F0 m 60 ls [.int r_89]) rfl ?_
          refine lv_goto (tgt := 64) hx hb dX5_serve_60 (by decide) ?_
          refine lv_istore (lv' := [(7, .int r_89), (6, .int 0), (5, .int 1), (4, .ref q_2), (0, .ref h), (1, .int n), (2, .int x1), (3, .int x2)]) hx hb dX5_serve_64 hl (by decide) rfl (fun ls hl => ?_)
          refine lv_iload hx hb dX5_serve_66 (lv_at hl 0 rfl) ?_
          refine lv_iconst (v := (-1)) hx hb dX5_serve_68 (by decide) ?_
          refine lv_icmp_eq (tgt := 81) hx hb dX5_serve_69 (by decide) (fun c_125 => ?_) (fun c_125 => ?_)
          · have c_125' : r_89.toInt = (-1) := i_eq c_125 rfl (by decide)
            exact absurd c_125' (by omega)
          · have c_125' : r_89.toInt ≠ (-1) := i_ne c_125 rfl (by decide)
            refine lv_aload hx hb dX5_serve_72 (lv_at hl 3 rfl) ?_
            refine lv_iload hx hb dX5_serve_74 (lv_at hl 0 rfl) ?_
            refine lv_iload_n hx hb dX5_serve_76 rfl (lv_at hl 6 rfl) ?_
            refine t_callV (n := 2) (As := [.int r_89, .int x1]) (rest := []) (ci := 3) hB hT hl.1 (s_keptAnswer l D cI cZ cS cR N0 g hI q_2 r_89 x1 r_q_2 (by omega) (by omega)) (ro_ci r_q_2 rfl) rfl k_520 k_60 k_517 k_518 k_519 (by decide +kernel) ⟨(Nat.le_of_ble_eq_true rfl), (Nat.le_of_ble_eq_true rfl)⟩ rfl (Nat.le_of_ble_eq_true rfl) ⟨(Nat.le_of_ble_eq_true rfl), (Nat.le_of_ble_eq_true rfl)⟩ dX5_serve_77 (fun v g_126 H locs hp hT => ?_)
            obtain ⟨r_127, rfl, eg⟩ := hp
            rw [eg] at hT
            clear eg
            refine W.eq (g2 := F0 m 80 ls [.int r_127]) rfl ?_
            exact t_iret hB hr hT (Nat.le_of_ble_eq_true rfl) (Nat.le_of_ble_eq_true rfl) dX5_serve_80 ⟨r_127, rfl, hI, hE, hM⟩
    · refine W.eq (g2 := F0 m 18 ls [.int 0]) rfl ?_
      refine lv_if_eq (tgt := 25) hx hb dX5_serve_18 (by decide) (fun c_ => ?_) (fun c_ => absurd (by decide) c_)
      refine lv_iconst (v := 0) hx hb dX5_serve_25 (by decide) ?_
      refine lv_istore (lv' := [(5, .int 0), (4, .ref q_2), (0, .ref h), (1, .int n), (2, .int x1), (3, .int x2)]) hx hb dX5_serve_26 hl (by decide) rfl (fun ls hl => ?_)
      refine lv_iload hx hb dX5_serve_28 (lv_at hl 0 rfl) ?_
      refine lv_if_eq (tgt := 46) hx hb dX5_serve_30 (by decide) (fun c_ => ?_) (fun c_ => absurd (by decide) c_)
      refine lv_iconst (v := 0) hx hb dX5_serve_46 (by decide) ?_
      refine lv_istore (lv' := [(6, .int 0), (5, .int 0), (4, .ref q_2), (0, .ref h), (1, .int n), (2, .int x1), (3, .int x2)]) hx hb dX5_serve_47 hl (by decide) rfl (fun ls hl => ?_)
      refine lv_iload hx hb dX5_serve_49 (lv_at hl 1 rfl) ?_
      refine lv_if_eq (tgt := 63) hx hb dX5_serve_51 (by decide) (fun c_ => ?_) (fun c_ => absurd (by decide) c_)
      refine lv_iconst (v := (-1)) hx hb dX5_serve_63 (by decide) ?_
      refine lv_istore (lv' := [(7, .int (-1)), (6, .int 0), (5, .int 0), (4, .ref q_2), (0, .ref h), (1, .int n), (2, .int x1), (3, .int x2)]) hx hb dX5_serve_64 hl (by decide) rfl (fun ls hl => ?_)
      refine lv_iload hx hb dX5_serve_66 (lv_at hl 0 rfl) ?_
      refine lv_iconst (v := (-1)) hx hb dX5_serve_68 (by decide) ?_
      refine lv_icmp_eq (tgt := 81) hx hb dX5_serve_69 (by decide) (fun c_ => ?_) (fun c_ => absurd (by decide) c_)
      refine lv_iload hx hb dX5_serve_81 (lv_at hl 1 rfl) ?_
      refine lv_if_eq (tgt := 98) hx hb dX5_serve_83 (by decide) (fun c_ => ?_) (fun c_ => absurd (by decide) c_)
      refine lv_aload hx hb dX5_serve_98 (lv_at hl 3 rfl) ?_
      refine lv_iload_n hx hb dX5_serve_100 rfl (lv_at hl 6 rfl) ?_
      refine lv_iload_n hx hb dX5_serve_101 rfl (lv_at hl 7 rfl) ?_
      refine t_callV (n := 2) (As := [.int x1, .int x2]) (rest := []) (ci := 3) hB hT hl.1 (s_beginKnown l D cI cZ cS cR N0 g hI q_2 x1 x2 r_q_2) (ro_ci r_q_2 rfl) rfl k_529 k_60 k_526 k_527 k_528 (by decide +kernel) ⟨(Nat.le_of_ble_eq_true rfl), (Nat.le_of_ble_eq_true rfl)⟩ rfl (Nat.le_of_ble_eq_true rfl) ⟨(Nat.le_of_ble_eq_true rfl), (Nat.le_of_ble_eq_true rfl)⟩ dX5_serve_102 (fun v g_130 H locs hp hT => ?_)
      obtain ⟨rfl, hI, x_132, m_131⟩ := hp
      have hM : Sm md_s_serve4 g g_130 := hM.tr hE (m_131.mo (fun r k h => mdle_s_serve4_s_beginKnown h))
      have hE : Ex g g_130 := hE.tr x_132
      have r_133 : g_130.1 h = 6 := (Ex.r x_132 r_h (by decide))
      have r_134 : g_130.1 v_1 = 41 := (Ex.r x_132 r_v_1 (by decide))
      have r_135 : g_130.1 q_2 = 4 := (Ex.r x_132 r_q_2 (by decide))
      have n_136 : g_130.2.2.1 v_1 = 6 := (Ex.n x_132 r_v_1 (by decide) n_v_1)
      have kn_137 : g_130.2.1 h 0 = .ref v_1 := (Sm.v m_131 r_h (by decide) rfl e_v_1)
      refine W.eq (g2 := F0 m 105 ls []) rfl ?_
      refine lv_aload_n hx hb dX5_serve_105 rfl (lv_at hl 4 rfl) ?_
      refine lv_iload_n hx hb dX5_serve_106 rfl (lv_at hl 5 rfl) ?_
      refine lv_iload_n hx hb dX5_serve_107 rfl (lv_at hl 6 rfl) ?_
      refine lv_iload_n hx hb dX5_serve_108 rfl (lv_at hl 7 rfl) ?_
      refine t_callV (n := 3) (As := [.int n, .int x1, .int x2]) (rest := []) (ci := 5) hB hT hl.1 (s_runActs4 l D cI cZ cS cR N0 g_130 hI h n x1 x2 r_133 (by omega) (by omega)) (ro_ci r_133 rfl) rfl k_534 k_59 k_531 k_533 k_13 (by decide +kernel) ⟨(Nat.le_of_ble_eq_true rfl), (Nat.le_of_ble_eq_true rfl)⟩ rfl (Nat.le_of_ble_eq_true rfl) ⟨(Nat.le_of_ble_eq_true rfl), (Nat.le_of_ble_eq_true rfl)⟩ dX5_serve_109 (fun v g_138 H locs hp hT => ?_)
      obtain ⟨r_139, rfl, hI, x_141, m_140⟩ := hp
      have hM : Sm md_s_serve4 g g_138 := hM.tr hE (m_140.mo (fun r k h => mdle_s_serve4_s_runActs4 h))
      have hE : Ex g g_138 := hE.tr x_141
      have r_142 : g_138.1 h = 6 := (Ex.r x_141 r_133 (by decide))
      have r_143 : g_138.1 v_1 = 41 := (Ex.r x_141 r_134 (by decide))
      have r_144 : g_138.1 q_2 = 4 := (Ex.r x_141 r_135 (by decide))
      have n_145 : g_138.2.2.1 v_1 = 6 := (Ex.n x_141 r_134 (by decide) n_136)
      have kn_146 : g_138.2.1 h 0 = .ref v_1 := (Sm.v m_140 r_133 (by decide) rfl kn_137)
      refine W.eq (g2 := F0 m 112 ls [.int r_139]) rfl ?_
      refine lv_istore (lv' := [(8, .int r_139), (7, .int (-1)), (6, .int 0), (5, .int 0), (4, .ref q_2), (0, .ref h), (1, .int n), (2, .int x1), (3, .int x2)]) hx hb dX5_serve_112 hl (by decide) rfl (fun ls hl => ?_)
      refine lv_aload_n hx hb dX5_serve_114 rfl (lv_at hl 5 rfl) ?_
      obtain ⟨v_147, e_v_147, l_v_147, u_v_147⟩ := f_6_7 hI r_142
      refine t_get (ci := 5) (v := .int v_147) hB hT (ro_ci r_142 rfl) rfl 7 (by decide) k_216 e_v_147 dX5_serve_115 ?_
      refine lv_if_eq (tgt := 124) hx hb dX5_serve_118 (by decide) (fun c_148 => ?_) (fun c_148 => ?_)
      · have c_148' : v_147.toInt = 0 := i_eq c_148 rfl (by decide)
        refine lv_iload hx hb dX5_serve_124 (lv_at hl 2 rfl) ?_
        refine lv_if_eq (tgt := 140) hx hb dX5_serve_126 (by decide) (fun c_ => ?_) (fun c_ => absurd (by decide) c_)
        refine lv_iload hx hb dX5_serve_140 (lv_at hl 3 rfl) ?_
        refine lv_if_eq (tgt := 158) hx hb dX5_serve_142 (by decide) (fun c_ => ?_) (fun c_ => absurd (by decide) c_)
        refine lv_iload hx hb dX5_serve_158 (lv_at hl 0 rfl) ?_
        exact t_iret hB hr hT (Nat.le_of_ble_eq_true rfl) (Nat.le_of_ble_eq_true rfl) dX5_serve_160 ⟨r_139, rfl, hI, hE, hM⟩
      · have c_148' : v_147.toInt ≠ 0 := i_ne c_148 rfl (by decide)
        refine lv_bipush (v := (-2)) hx hb dX5_serve_121 (by decide) ?_
        exact t_iret hB hr hT (Nat.le_of_ble_eq_true rfl) (Nat.le_of_ble_eq_true rfl) dX5_serve_123 ⟨(-2), rfl, hI, hE, hM⟩
abbrev md_s_runActs5 : Nat → Nat → Bool := mdf [(4, 2), (4, 5), (4, 10), (4, 11), (4, 14), (6, 4), (6, 5), (6, 7), (50, 99)]
theorem mdle_s_runActs5_s_isHeldBack {r k : Nat} (h : md_s_runActs5 r k = false) : md_s_isHeldBack r k = false := mdf_le (by decide +kernel) h
theorem mdle_s_runActs5_s_perform {r k : Nat} (h : md_s_runActs5 r k = false) : md_s_perform r k = false := mdf_le (by decide +kernel) h
theorem mdle_s_runActs5_s_serve4 {r k : Nat} (h : md_s_runActs5 r k = false) : md_s_serve4 r k = false := mdf_le (by decide +kernel) h
set_option maxHeartbeats 4000000 in
set_option maxRecDepth 100000 in
theorem lt_s_runActs5_a (l : Launch) (D : va_G) (cI cZ cS cR : ClassId) (N0 : NT) (g : GS) (h : Nat) (n : Int32) (x1 : Int32) (x2 : Int32) (r_h : g.1 h = 6) (l_n : 0 ≤ n.toInt) (u_n : n.toInt ≤ 5) {p : Program} {e : Env} {s : State} {m : MethodId} {args : Array Value} {below : List Frame} {meth : Method} {c : Code} (hB : Tz p s m meth c args cX5_runActs 14 RX5 D cI cZ cS cR N0) (hr : meth.sig.returnType = (some .int))    : ∀ (kf : Nat) (g1 : GS) (i : Int32) (j : Int32) (pk : Int32) (po : Int32) (q1 : Nat) (q2 : Nat) (H : Heap) (locs : List Loc) (ls : Array Slot), Tv D cI cZ cS cR N0 s.heap H locs g1 → Inv g1 → Ex g g1 → Sm md_s_runActs5 g g1 → 0 ≤ i.toInt → i.toInt ≤ 8 → 0 ≤ pk.toInt → pk.toInt ≤ 1 → 0 ≤ po.toInt → po.toInt ≤ 1 → g1.1 q1 = 4 → g1.1 q2 = 3 → (8 ≤ i.toInt + kf) → lv_has ls 14 [(9, .int i), (8, .int po), (7, .int j), (6, .int pk), (5, .ref q2), (4, .ref q1), (0, .ref h), (1, .int n), (2, .int x1), (3, .int x2)] → W p l e (rmx 11 0 0) s m args below meth c H locs 0 0 (MQ below (tQ D cI cZ cS cR N0 (fun v g' => ∃ (r : Int32), v = some (.int r) ∧ Inv g' ∧ Ex g g' ∧ Sm md_s_runActs5 g g')) args s 0 0 (fun q => N0.1 ≤ q)) (F0 m 44 ls []) := by
  have hx := hB.1
  have hb := hB.2.1
  intro kf
  induction kf using Nat.strongRecOn with
  | ind kf ih =>
    intro g1 i j pk po q1 q2 H locs ls hT hI hE hM l_i u_i l_pk u_pk l_po u_po r1_q1 r1_q2 hk hl
    have r_1 : g1.1 h = 6 := Ex.r hE r_h (by decide)
    refine lv_iload hx hb dX5_runActs_44 (lv_at hl 0 rfl) ?_
    refine lv_aload hx hb dX5_runActs_46 (lv_at hl 4 rfl) ?_
    obtain ⟨v_2, e_v_2, l_v_2, u_v_2⟩ := f_3_3 hI r1_q2
    refine t_get (ci := 2) (v := .int v_2) hB hT (ro_ci r1_q2 rfl) rfl 3 (by decide) k_133 e_v_2 dX5_runActs_48 ?_
    refine lv_icmp_ge (tgt := 288) hx hb dX5_runActs_51 (by decide) (fun c_3 => ?_) (fun c_3 => ?_)
    · have c_3' : v_2.toInt ≤ i.toInt := i_le c_3 rfl rfl
      refine lv_iload hx hb dX5_runActs_288 (lv_at hl 2 rfl) ?_
      exact t_iret hB hr hT (Nat.le_of_ble_eq_true rfl) (Nat.le_of_ble_eq_true rfl) dX5_runActs_290 ⟨j, rfl, hI, hE, hM⟩
    · have c_3' : i.toInt < v_2.toInt := i_nle c_3 rfl rfl
      refine lv_iload hx hb dX5_runActs_54 (lv_at hl 1 rfl) ?_
      refine lv_if_eq (tgt := 65) hx hb dX5_runActs_56 (by decide) (fun c_4 => ?_) (fun c_4 => ?_)
      · have c_4' : po.toInt = 0 := i_eq c_4 rfl (by decide)
        refine lv_aload_n hx hb dX5_runActs_65 rfl (lv_at hl 6 rfl) ?_
        obtain ⟨v_5, e_v_5⟩ := f_6_5 hI r_1
        refine t_get (ci := 5) (v := .int v_5) hB hT (ro_ci r_1 rfl) rfl 5 (by decide) k_213 e_v_5 dX5_runActs_66 ?_
        refine lv_iconst (v := 1) hx hb dX5_runActs_69 (by decide) ?_
        refine lv_iadd hx hb dX5_runActs_70 ?_
        refine lv_topi (fun z_6 ez_6 => ?_)
        refine lv_aload_n hx hb dX5_runActs_71 rfl (lv_at hl 6 rfl) ?_
        obtain ⟨v_7, e_v_7⟩ := f_6_6 hI r_1
        refine t_get (ci := 5) (v := .int v_7) hB hT (ro_ci r_1 rfl) rfl 6 (by decide) k_215 e_v_7 dX5_runActs_72 ?_
        refine lv_icmp_lt (tgt := 86) hx hb dX5_runActs_75 (by decide) (fun c_8 => ?_) (fun c_8 => ?_)
        · have c_8' : z_6.toInt < v_7.toInt := i_lt c_8 rfl rfl
          refine lv_aload_n hx hb dX5_runActs_86 rfl (lv_at hl 6 rfl) ?_
          refine lv_dup hx hb dX5_runActs_87 rfl ?_
          refine t_get (ci := 5) (v := .int v_5) hB hT (ro_ci r_1 rfl) rfl 5 (by decide) k_213 e_v_5 dX5_runActs_88 ?_
          refine lv_iconst (v := 1) hx hb dX5_runActs_91 (by decide) ?_
          refine lv_iadd hx hb dX5_runActs_92 ?_
          refine lv_topi (fun z_9 ez_9 => ?_)
          refine t_put0 (ci := 5) (v := .int z_9) hB hT (ro_ci r_1 rfl) (ro_n0 r_1 (by decide)) rfl 5 (by decide) k_213 (Or.inl rfl) rfl rfl dX5_runActs_93 (fun H locs hT => ?_)
          have hI : Inv (sF g1 h 5 (.int z_9)) := hI.sF (p_6_5 r_1 (⟨_, rfl⟩))
          have hM : Sm md_s_runActs5 g (sF g1 h 5 (.int z_9)) := hM.tr hE (Sm_sF (by rw [r_1]; rfl))
          have hE : Ex g (sF g1 h 5 (.int z_9)) := hE
          refine lv_aload hx hb dX5_runActs_96 (lv_at hl 4 rfl) ?_
          refine lv_iload hx hb dX5_runActs_98 (lv_at hl 0 rfl) ?_
          refine lv_iload_n hx hb dX5_runActs_100 rfl (lv_at hl 8 rfl) ?_
          refine lv_iload hx hb dX5_runActs_101 (lv_at hl 2 rfl) ?_
          refine t_callV (n := 3) (As := [.int i, .int x1, .int j]) (rest := []) (ci := 2) hB hT hl.1 (s_valueAt l D cI cZ cS cR N0 (sF g1 h 5 (.int z_9)) hI q2 i x1 j r1_q2 (by omega) (by omega)) (ro_ci r1_q2 rfl) rfl k_538 k_61 k_535 k_536 k_537 (by decide +kernel) ⟨(Nat.le_of_ble_eq_true rfl), (Nat.le_of_ble_eq_true rfl)⟩ rfl (Nat.le_of_ble_eq_true rfl) ⟨(Nat.le_of_ble_eq_true rfl), (Nat.le_of_ble_eq_true rfl)⟩ dX5_runActs_103 (fun v g_10 H locs hp hT => ?_)
          obtain ⟨r_11, rfl, eg⟩ := hp
          rw [eg] at hT
          clear eg
          refine W.eq (g2 := F0 m 106 ls [.int r_11]) rfl ?_
          refine lv_istore (lv' := [(10, .int r_11), (9, .int i), (8, .int po), (7, .int j), (6, .int pk), (5, .ref q2), (4, .ref q1), (0, .ref h), (1, .int n), (2, .int x1), (3, .int x2)]) hx hb dX5_runActs_106 hl (by decide) rfl (fun ls hl => ?_)
          refine lv_aload hx hb dX5_runActs_108 (lv_at hl 6 rfl) ?_
          refine lv_iload hx hb dX5_runActs_110 (lv_at hl 1 rfl) ?_
          refine lv_iload hx hb dX5_runActs_112 (lv_at hl 0 rfl) ?_
          refine t_callV (n := 2) (As := [.int i, .int r_11]) (rest := []) (ci := 3) hB hT hl.1 (s_isHeldBack l D cI cZ cS cR N0 (sF g1 h 5 (.int z_9)) hI q1 i r_11 r1_q1 (by omega) (by omega)) (ro_ci r1_q1 rfl) rfl k_542 k_60 k_539 k_540 k_541 (by decide +kernel) ⟨(Nat.le_of_ble_eq_true rfl), (Nat.le_of_ble_eq_true rfl)⟩ rfl (Nat.le_of_ble_eq_true rfl) ⟨(Nat.le_of_ble_eq_true rfl), (Nat.le_of_ble_eq_true rfl)⟩ dX5_runActs_114 (fun v g_14 H locs hp hT => ?_)
          obtain ⟨r_15, rfl, hI, x_18, m_17, f_16⟩ := hp
          have hM : Sm md_s_runActs5 g g_14 := hM.tr hE (m_17.mo (fun r k h => mdle_s_runActs5_s_isHeldBack h))
          have hE : Ex g g_14 := hE.tr x_18
          have r_19 : g_14.1 h = 6 := (Ex.r x_18 r_1 (by decide))
          have r_20 : g_14.1 q1 = 4 := (Ex.r x_18 r1_q1 (by decide))
          have r_21 : g_14.1 q2 = 3 := (Ex.r x_18 r1_q2 (by decide))
          have kn_22 : g_14.2.1 q2 3 = .int v_2 := (Sm.v m_17 r1_q2 (by decide) rfl (sF_k e_v_2 (by decide)))
          have kn_23 : g_14.2.1 h 6 = .int v_7 := (Sm.v m_17 r_1 (by decide) rfl (sF_k e_v_7 (by decide)))
          have kn_24 : g_14.2.1 h 5 = .int z_9 := (Sm.v m_17 r_1 (by decide) rfl sF_eq)
          refine W.eq (g2 := F0 m 117 ls [.int r_15]) rfl ?_
          rcases f_16 with rfl | rfl
          · refine W.eq (g2 := F0 m 117 ls [.int 1]) rfl ?_
            refine lv_if_eq (tgt := 123) hx hb dX5_runActs_117 (by decide) (fun c_ => absurd c_ (by decide)) (fun c_ => ?_)
            refine lv_goto (tgt := 282) hx hb dX5_runActs_120 (by decide) ?_
            obtain ⟨z_25, ez_25⟩ : ∃ z : Int32, z = i + 1 := ⟨_, rfl⟩
            have e_z_25 : z_25.toInt = i.toInt + 1 := i_add ez_25 rfl (by decide) (by omega) (by omega)
            refine lv_iinc (v := z_25) (lv' := [(9, .int z_25), (10, .int r_11), (8, .int po), (7, .int j), (6, .int pk), (5, .ref q2), (4, .ref q1), (0, .ref h), (1, .int n), (2, .int x1), (3, .int x2)]) hx hb dX5_runActs_282 hl (k := 1) rfl (by rw [ez_25]; rfl) (by decide) rfl (fun ls hl => ?_)
            refine lv_goto (tgt := 44) hx hb dX5_runActs_285 (by decide) ?_
            exact ih (kf - 1) (by omega) g_14 z_25 j pk po q1 q2 H locs ls hT hI hE hM (by omega) (by omega) (by omega) (by omega) (by omega) (by omega) r_20 r_21 (by have e0_ : (0 : Int32).toInt = 0 := (by decide); omega) (lv_sub hl [0, 2, 3, 4, 5, 6, 7, 8, 9, 10] rfl)
          · refine W.eq (g2 := F0 m 117 ls [.int 0]) rfl ?_
            refine lv_if_eq (tgt := 123) hx hb dX5_runActs_117 (by decide) (fun c_ => ?_) (fun c_ => absurd (by decide) c_)
            refine lv_aload hx hb dX5_runActs_123 (lv_at hl 5 rfl) ?_
            obtain ⟨v_26, e_v_26, r_v_26, n_v_26⟩ := f_3_0 hI r_21
            refine t_get (ci := 2) (v := .ref v_26) hB hT (ro_ci r_21 rfl) rfl 0 (by decide) k_122 e_v_26 dX5_runActs_125 ?_
            refine lv_iload hx hb dX5_runActs_128 (lv_at hl 1 rfl) ?_
            have i_u_27 : vp_in i 8 := (i_in (n := 8) rfl (by omega) (by omega))
            refine t_iald hB hT (ro_in r_v_26 (by decide)) n_v_26 i_u_27 rfl dX5_runActs_130 ?_
            refine lv_topi (fun u_27 e_u_27 => ?_)
            refine lv_istore (lv' := [(11, .int u_27), (10, .int r_11), (9, .int i), (8, .int po), (7, .int j), (6, .int pk), (5, .ref q2), (4, .ref q1), (0, .ref h), (1, .int n), (2, .int x1), (3, .int x2)]) hx hb dX5_runActs_131 hl (by decide) rfl (fun ls hl => ?_)
            refine lv_aload hx hb dX5_runActs_133 (lv_at hl 6 rfl) ?_
            obtain ⟨v_28, e_v_28, r_v_28, n_v_28⟩ := f_3_1 hI r_21
            refine t_get (ci := 2) (v := .ref v_28) hB hT (ro_ci r_21 rfl) rfl 1 (by decide) k_126 e_v_28 dX5_runActs_135 ?_
            refine lv_iload hx hb dX5_runActs_138 (lv_at hl 2 rfl) ?_
            have i_u_29 : vp_in i 8 := (i_in (n := 8) rfl (by omega) (by omega))
            refine t_iald hB hT (ro_in r_v_28 (by decide)) n_v_28 i_u_29 rfl dX5_runActs_140 ?_
            have c_u_29 := hI.c r_v_28 n_v_28 (i_cl i_u_29)
            refine lv_topi (fun u_29 e_u_29 => ?_)
            obtain ⟨l_u_29, u_u_29⟩ := c_u_29
            rw [← e_u_29] at l_u_29 u_u_29
            refine lv_istore (lv' := [(12, .int u_29), (11, .int u_27), (10, .int r_11), (9, .int i), (8, .int po), (7, .int j), (6, .int pk), (5, .ref q2), (4, .ref q1), (0, .ref h), (1, .int n), (2, .int x1), (3, .int x2)]) hx hb dX5_runActs_141 hl (by decide) rfl (fun ls hl => ?_)
            refine lv_iload hx hb dX5_runActs_143 (lv_at hl 1 rfl) ?_
            refine lv_iconst (v := 5) hx hb dX5_runActs_145 (by decide) ?_
            refine lv_icmp_ne (tgt := 207) hx hb dX5_runActs_146 (by decide) (fun c_30 => ?_) (fun c_30 => ?_)
            · have c_30' : u_27.toInt ≠ 5 := i_ne c_30 rfl (by decide)
              refine lv_iload hx hb dX5_runActs_207 (lv_at hl 1 rfl) ?_
              refine lv_bipush (v := 6) hx hb dX5_runActs_209 (by decide) ?_
              refine lv_icmp_ne (tgt := 242) hx hb dX5_runActs_211 (by decide) (fun c_31 => ?_) (fun c_31 => ?_)
              · have c_31' : u_27.toInt ≠ 6 := i_ne c_31 rfl (by decide)
                refine lv_iload hx hb dX5_runActs_242 (lv_at hl 1 rfl) ?_
                refine lv_bipush (v := 7) hx hb dX5_runActs_244 (by decide) ?_
                refine lv_icmp_ne (tgt := 263) hx hb dX5_runActs_246 (by decide) (fun c_32 => ?_) (fun c_32 => ?_)
                · have c_32' : u_27.toInt ≠ 7 := i_ne c_32 rfl (by decide)
                  refine lv_iload hx hb dX5_runActs_263 (lv_at hl 1 rfl) ?_
                  refine lv_iconst (v := 5) hx hb dX5_runActs_265 (by decide) ?_
                  refine lv_icmp_eq (tgt := 282) hx hb dX5_runActs_266 (by decide) (fun c_33 => ?_) (fun c_33 => ?_)
                  · have c_33' : u_27.toInt = 5 := i_eq c_33 rfl (by decide)
                    obtain ⟨z_34, ez_34⟩ : ∃ z : Int32, z = i + 1 := ⟨_, rfl⟩
                    have e_z_34 : z_34.toInt = i.toInt + 1 := i_add ez_34 rfl (by decide) (by omega) (by omega)
                    refine lv_iinc (v := z_34) (lv' := [(9, .int z_34), (12, .int u_29), (11, .int u_27), (10, .int r_11), (8, .int po), (7, .int j), (6, .int pk), (5, .ref q2), (4, .ref q1), (0, .ref h), (1, .int n), (2, .int x1), (3, .int x2)]) hx hb dX5_runActs_282 hl (k := 3) rfl (by rw [ez_34]; rfl) (by decide) rfl (fun ls hl => ?_)
                    refine lv_goto (tgt := 44) hx hb dX5_runActs_285 (by decide) ?_
                    exact ih (kf - 1) (by omega) g_14 z_34 j pk po q1 q2 H locs ls hT hI hE hM (by omega) (by omega) (by omega) (by omega) (by omega) (by omega) r_20 r_21 (by have e0_ : (0 : Int32).toInt = 0 := (by decide); omega) (lv_sub hl [0, 4, 5, 6, 7, 8, 9, 10, 11, 12] rfl)
                  · have c_33' : u_27.toInt ≠ 5 := i_ne c_33 rfl (by decide)
                    refine lv_aload hx hb dX5_runActs_269 (lv_at hl 8 rfl) ?_
                    refine lv_iload hx hb dX5_runActs_271 (lv_at hl 3 rfl) ?_
                    refine lv_iload hx hb dX5_runActs_273 (lv_at hl 2 rfl) ?_
                    refine lv_iload hx hb dX5_runActs_275 (lv_at hl 5 rfl) ?_
                    refine t_callV (n := 3) (As := [.int i, .int r_11, .int j]) (rest := []) (ci := 3) hB hT hl.1 (s_perform l D cI cZ cS cR N0 g_14 hI q1 i r_11 j r_20 (by omega) (by omega)) (ro_ci r_20 rfl) rfl k_550 k_60 k_547 k_548 k_549 (by decide +kernel) ⟨(Nat.le_of_ble_eq_true rfl), (Nat.le_of_ble_eq_true rfl)⟩ rfl (Nat.le_of_ble_eq_true rfl) ⟨(Nat.le_of_ble_eq_true rfl), (Nat.le_of_ble_eq_true rfl)⟩ dX5_runActs_277 (fun v g_35 H locs hp hT => ?_)
                    obtain ⟨r_36, rfl, hI, x_38, m_37⟩ := hp
                    have hM : Sm md_s_runActs5 g g_35 := hM.tr hE (m_37.mo (fun r k h => mdle_s_runActs5_s_perform h))
                    have hE : Ex g g_35 := hE.tr x_38
                    have r_39 : g_35.1 h = 6 := (Ex.r x_38 r_19 (by decide))
                    have r_40 : g_35.1 q1 = 4 := (Ex.r x_38 r_20 (by decide))
                    have r_41 : g_35.1 q2 = 3 := (Ex.r x_38 r_21 (by decide))
                    have r_42 : g_35.1 v_26 = 68 := (Ex.r x_38 r_v_26 (by decide))
                    have r_43 : g_35.1 v_28 = 69 := (Ex.r x_38 r_v_28 (by decide))
                    have n_44 : g_35.2.2.1 v_26 = 8 := (Ex.n x_38 r_v_26 (by decide) n_v_26)
                    have n_45 : g_35.2.2.1 v_28 = 8 := (Ex.n x_38 r_v_28 (by decide) n_v_28)
                    have kn_46 : g_35.2.1 q2 3 = .int v_2 := (Sm.v m_37 r_21 (by decide) rfl kn_22)
                    have kn_47 : g_35.2.1 h 6 = .int v_7 := (Sm.v m_37 r_19 (by decide) rfl kn_23)
                    have kn_48 : g_35.2.1 h 5 = .int z_9 := (Sm.v m_37 r_19 (by decide) rfl kn_24)
                    have kn_49 : g_35.2.1 q2 0 = .ref v_26 := (Sm.v m_37 r_21 (by decide) rfl e_v_26)
                    have kn_50 : g_35.2.1 q2 1 = .ref v_28 := (Sm.v m_37 r_21 (by decide) rfl e_v_28)
                    have kn_51 : g_35.2.2.2.1 v_26 i.toNatClampNeg = u_27 := (Sm.c m_37 r_v_26 (by decide) rfl e_u_27.symm)
                    have kn_52 : g_35.2.2.2.1 v_28 i.toNatClampNeg = u_29 := (Sm.c m_37 r_v_28 (by decide) rfl e_u_29.symm)
                    refine W.eq (g2 := F0 m 280 ls [.int r_36]) rfl ?_
                    refine lv_istore (lv' := [(7, .int r_36), (12, .int u_29), (11, .int u_27), (10, .int r_11), (9, .int i), (8, .int po), (6, .int pk), (5, .ref q2), (4, .ref q1), (0, .ref h), (1, .int n), (2, .int x1), (3, .int x2)]) hx hb dX5_runActs_280 hl (by decide) rfl (fun ls hl => ?_)
                    obtain ⟨z_53, ez_53⟩ : ∃ z : Int32, z = i + 1 := ⟨_, rfl⟩
                    have e_z_53 : z_53.toInt = i.toInt + 1 := i_add ez_53 rfl (by decide) (by omega) (by omega)
                    refine lv_iinc (v := z_53) (lv' := [(9, .int z_53), (7, .int r_36), (12, .int u_29), (11, .int u_27), (10, .int r_11), (8, .int po), (6, .int pk), (5, .ref q2), (4, .ref q1), (0, .ref h), (1, .int n), (2, .int x1), (3, .int x2)]) hx hb dX5_runActs_282 hl (k := 4) rfl (by rw [ez_53]; rfl) (by decide) rfl (fun ls hl => ?_)
                    refine lv_goto (tgt := 44) hx hb dX5_runActs_285 (by decide) ?_
                    exact ih (kf - 1) (by omega) g_35 z_53 r_36 pk po q1 q2 H locs ls hT hI hE hM (by omega) (by omega) (by omega) (by omega) (by omega) (by omega) r_40 r_41 (by have e0_ : (0 : Int32).toInt = 0 := (by decide); omega) (lv_sub hl [0, 5, 1, 6, 7, 8, 9, 10, 11, 12] rfl)
                · have c_32' : u_27.toInt = 7 := i_eq c_32 rfl (by decide)
                  refine lv_aload hx hb dX5_runActs_249 (lv_at hl 8 rfl) ?_
                  refine lv_iload hx hb dX5_runActs_251 (lv_at hl 3 rfl) ?_
                  refine lv_iload hx hb dX5_runActs_253 (lv_at hl 2 rfl) ?_
                  refine t_callV (n := 2) (As := [.int i, .int r_11]) (rest := []) (ci := 3) hB hT hl.1 (s_passesOver l D cI cZ cS cR N0 g_14 hI q1 i r_11 r_20 (by omega) (by omega)) (ro_ci r_20 rfl) rfl k_546 k_60 k_543 k_544 k_545 (by decide +kernel) ⟨(Nat.le_of_ble_eq_true rfl), (Nat.le_of_ble_eq_true rfl)⟩ rfl (Nat.le_of_ble_eq_true rfl) ⟨(Nat.le_of_ble_eq_true rfl), (Nat.le_of_ble_eq_true rfl)⟩ dX5_runActs_255 (fun v g_54 H locs hp hT => ?_)
                  obtain ⟨r_55, rfl, eg, f_56⟩ := hp
                  rw [eg] at hT
                  clear eg
                  refine W.eq (g2 := F0 m 258 ls [.int r_55]) rfl ?_
                  rcases f_56 with rfl | rfl
                  · refine W.eq (g2 := F0 m 258 ls [.int 1]) rfl ?_
                    refine lv_istore (lv' := [(8, .int 1), (12, .int u_29), (11, .int u_27), (10, .int r_11), (9, .int i), (7, .int j), (6, .int pk), (5, .ref q2), (4, .ref q1), (0, .ref h), (1, .int n), (2, .int x1), (3, .int x2)]) hx hb dX5_runActs_258 hl (by decide) rfl (fun ls hl => ?_)
                    refine lv_goto (tgt := 282) hx hb dX5_runActs_260 (by decide) ?_
                    obtain ⟨z_59, ez_59⟩ : ∃ z : Int32, z = i + 1 := ⟨_, rfl⟩
                    have e_z_59 : z_59.toInt = i.toInt + 1 := i_add ez_59 rfl (by decide) (by omega) (by omega)
                    refine lv_iinc (v := z_59) (lv' := [(9, .int z_59), (8, .int 1), (12, .int u_29), (11, .int u_27), (10, .int r_11), (7, .int j), (6, .int pk), (5, .ref q2), (4, .ref q1), (0, .ref h), (1, .int n), (2, .int x1), (3, .int x2)]) hx hb dX5_runActs_282 hl (k := 4) rfl (by rw [ez_59]; rfl) (by decide) rfl (fun ls hl => ?_)
                    refine lv_goto (tgt := 44) hx hb dX5_runActs_285 (by decide) ?_
                    exact ih (kf - 1) (by omega) g_14 z_59 j pk (1 : Int32) q1 q2 H locs ls hT hI hE hM (by omega) (by omega) (by omega) (by omega) (by decide) (by decide) r_20 r_21 (by have e0_ : (0 : Int32).toInt = 0 := (by decide); have e1_ : (1 : Int32).toInt = 1 := (by decide); omega) (lv_sub hl [0, 1, 5, 6, 7, 8, 9, 10, 11, 12] rfl)
                  · refine W.eq (g2 := F0 m 258 ls [.int 0]) rfl ?_
                    refine lv_istore (lv' := [(8, .int 0), (12, .int u_29), (11, .int u_27), (10, .int r_11), (9, .int i), (7, .int j), (6, .int pk), (5, .ref q2), (4, .ref q1), (0, .ref h), (1, .int n), (2, .int x1), (3, .int x2)]) hx hb dX5_runActs_258 hl (by decide) rfl (fun ls hl => ?_)
                    refine lv_goto (tgt := 282) hx hb dX5_runActs_260 (by decide) ?_
                    obtain ⟨z_60, ez_60⟩ : ∃ z : Int32, z = i + 1 := ⟨_, rfl⟩
                    have e_z_60 : z_60.toInt = i.toInt + 1 := i_add ez_60 rfl (by decide) (by omega) (by omega)
                    refine lv_iinc (v := z_60) (lv' := [(9, .int z_60), (8, .int 0), (12, .int u_29), (11, .int u_27), (10, .int r_11), (7, .int j), (6, .int pk), (5, .ref q2), (4, .ref q1), (0, .ref h), (1, .int n), (2, .int x1), (3, .int x2)]) hx hb dX5_runActs_282 hl (k := 4) rfl (by rw [ez_60]; rfl) (by decide) rfl (fun ls hl => ?_)
                    refine lv_goto (tgt := 44) hx hb dX5_runActs_285 (by decide) ?_
                    exact ih (kf - 1) (by omega) g_14 z_60 j pk (0 : Int32) q1 q2 H locs ls hT hI hE hM (by omega) (by omega) (by omega) (by omega) (by decide) (by decide) r_20 r_21 (by have e0_ : (0 : Int32).toInt = 0 := (by decide); omega) (lv_sub hl [0, 1, 5, 6, 7, 8, 9, 10, 11, 12] rfl)
              · have c_31' : u_27.toInt = 6 := i_eq c_31 rfl (by decide)
                refine lv_aload_n hx hb dX5_runActs_214 rfl (lv_at hl 9 rfl) ?_
                obtain ⟨v_61, e_v_61, r_v_61, n_v_61⟩ := f_6_3 hI r_19
                refine t_get (ci := 5) (v := .ref v_61) hB hT (ro_ci r_19 rfl) rfl 3 (by decide) k_207 e_v_61 dX5_runActs_215 ?_
                refine lv_aload_n hx hb dX5_runActs_218 rfl (lv_at hl 9 rfl) ?_
                obtain ⟨v_62, e_v_62⟩ := f_6_4 hI r_19
                refine t_get (ci := 5) (v := .int v_62) hB hT (ro_ci r_19 rfl) rfl 4 (by decide) k_210 e_v_62 dX5_runActs_219 ?_
                refine lv_sipush (v := 511) hx hb dX5_runActs_222 (by decide) ?_
                refine lv_iand hx hb dX5_runActs_225 ?_
                refine lv_topi (fun z_63 ez_63 => ?_)
                have e_z_63 := i_and 9 (b := 511) ez_63 (by decide) (by decide) (by decide)
                refine lv_iload hx hb dX5_runActs_226 (lv_at hl 2 rfl) ?_
                have i_64 : vp_in z_63 512 := (i_in (n := 512) rfl (by omega) (by omega))
                refine t_iast hB hT (ro_in r_v_61 (by decide)) n_v_61 i_64 dX5_runActs_228 (fun H locs hT => ?_)
                have hI : Inv (sC g_14 v_61 z_63.toNatClampNeg r_11) := hI.sC (ck r_v_61 trivial)
                have hM : Sm md_s_runActs5 g (sC g_14 v_61 z_63.toNatClampNeg r_11) := hM.tr hE (Sm_sC (by rw [r_v_61]; rfl))
                have hE : Ex g (sC g_14 v_61 z_63.toNatClampNeg r_11) := hE
                refine lv_aload_n hx hb dX5_runActs_229 rfl (lv_at hl 9 rfl) ?_
                refine lv_dup hx hb dX5_runActs_230 rfl ?_
                refine t_get (ci := 5) (v := .int v_62) hB hT (ro_ci r_19 rfl) rfl 4 (by decide) k_210 e_v_62 dX5_runActs_231 ?_
                refine lv_iconst (v := 1) hx hb dX5_runActs_234 (by decide) ?_
                refine lv_iadd hx hb dX5_runActs_235 ?_
                refine lv_topi (fun z_65 ez_65 => ?_)
                refine t_put0 (ci := 5) (v := .int z_65) hB hT (ro_ci r_19 rfl) (ro_n0 r_19 (by decide)) rfl 4 (by decide) k_210 (Or.inl rfl) rfl rfl dX5_runActs_236 (fun H locs hT => ?_)
                have hI : Inv (sF (sC g_14 v_61 z_63.toNatClampNeg r_11) h 4 (.int z_65)) := hI.sF (p_6_4 r_19 (⟨_, rfl⟩))
                have hM : Sm md_s_runActs5 g (sF (sC g_14 v_61 z_63.toNatClampNeg r_11) h 4 (.int z_65)) := hM.tr hE (Sm_sF (by rw [r_19]; rfl))
                have hE : Ex g (sF (sC g_14 v_61 z_63.toNatClampNeg r_11) h 4 (.int z_65)) := hE
                refine lv_goto (tgt := 282) hx hb dX5_runActs_239 (by decide) ?_
                obtain ⟨z_66, ez_66⟩ : ∃ z : Int32, z = i + 1 := ⟨_, rfl⟩
                have e_z_66 : z_66.toInt = i.toInt + 1 := i_add ez_66 rfl (by decide) (by omega) (by omega)
                refine lv_iinc (v := z_66) (lv' := [(9, .int z_66), (12, .int u_29), (11, .int u_27), (10, .int r_11), (8, .int po), (7, .int j), (6, .int pk), (5, .ref q2), (4, .ref q1), (0, .ref h), (1, .int n), (2, .int x1), (3, .int x2)]) hx hb dX5_runActs_282 hl (k := 3) rfl (by rw [ez_66]; rfl) (by decide) rfl (fun ls hl => ?_)
                refine lv_goto (tgt := 44) hx hb dX5_runActs_285 (by decide) ?_
                exact ih (kf - 1) (by omega) (sF (sC g_14 v_61 z_63.toNatClampNeg r_11) h 4 (.int z_65)) z_66 j pk po q1 q2 H locs ls hT hI hE hM (by omega) (by omega) (by omega) (by omega) (by omega) (by omega) r_20 r_21 (by have e0_ : (0 : Int32).toInt = 0 := (by decide); omega) (lv_sub hl [0, 4, 5, 6, 7, 8, 9, 10, 11, 12] rfl)
            · have c_30' : u_27.toInt = 5 := i_eq c_30 rfl (by decide)
              refine lv_aload_n hx hb dX5_runActs_149 rfl (lv_at hl 9 rfl) ?_
              refine lv_iload_n hx hb dX5_runActs_150 rfl (lv_at hl 10 rfl) ?_
              refine lv_iload hx hb dX5_runActs_151 (lv_at hl 0 rfl) ?_
              refine t_callV (n := 2) (As := [.int n, .int u_29]) (rest := []) (ci := 5) hB hT hl.1 (s_canAsk l D cI cZ cS cR N0 g_14 hI h n u_29 r_19) (ro_ci r_19 rfl) rfl k_477 k_59 k_474 k_476 k_10 (by decide +kernel) ⟨(Nat.le_of_ble_eq_true rfl), (Nat.le_of_ble_eq_true rfl)⟩ rfl (Nat.le_of_ble_eq_true rfl) ⟨(Nat.le_of_ble_eq_true rfl), (Nat.le_of_ble_eq_true rfl)⟩ dX5_runActs_153 (fun v g_67 H locs hp hT => ?_)
              obtain ⟨r_68, rfl, eg, f_69⟩ := hp
              rw [eg] at hT
              clear eg
              refine W.eq (g2 := F0 m 156 ls [.int r_68]) rfl ?_
              rcases f_69 with ⟨rfl, hw_72, hw_73⟩ | rfl
              · refine W.eq (g2 := F0 m 156 ls [.int 1]) rfl ?_
                refine lv_if_eq (tgt := 207) hx hb dX5_runActs_156 (by decide) (fun c_ => absurd c_ (by decide)) (fun c_ => ?_)
                refine lv_iload hx hb dX5_runActs_159 (lv_at hl 6 rfl) ?_
                refine lv_if_eq (tgt := 179) hx hb dX5_runActs_161 (by decide) (fun c_74 => ?_) (fun c_74 => ?_)
                · have c_74' : pk.toInt = 0 := i_eq c_74 rfl (by decide)
                  refine lv_iconst (v := 0) hx hb dX5_runActs_179 (by decide) ?_
                  refine lv_istore (lv' := [(13, .int 0), (12, .int u_29), (11, .int u_27), (10, .int r_11), (9, .int i), (8, .int po), (7, .int j), (6, .int pk), (5, .ref q2), (4, .ref q1), (0, .ref h), (1, .int n), (2, .int x1), (3, .int x2)]) hx hb dX5_runActs_180 hl (by decide) rfl (fun ls hl => ?_)
                  refine lv_aload_n hx hb dX5_runActs_182 rfl (lv_at hl 10 rfl) ?_
                  refine lv_iload hx hb dX5_runActs_183 (lv_at hl 1 rfl) ?_
                  refine lv_iload hx hb dX5_runActs_185 (lv_at hl 3 rfl) ?_
                  refine lv_iload hx hb dX5_runActs_187 (lv_at hl 0 rfl) ?_
                  refine t_callV (n := 3) (As := [.int u_29, .int r_11, .int 0]) (rest := []) (ci := 5) hB hT hl.1 (s_serve4 l D cI cZ cS cR N0 g_14 hI h u_29 r_11 0 r_19 (by have q0 : (0 : Int32).toInt = 0 := (by decide); omega) (by have q0 : (0 : Int32).toInt = 0 := (by decide); omega)) (ro_ci r_19 rfl) rfl k_508 k_59 k_505 k_507 k_12 (by decide +kernel) ⟨(Nat.le_of_ble_eq_true rfl), (Nat.le_of_ble_eq_true rfl)⟩ rfl (Nat.le_of_ble_eq_true rfl) ⟨(Nat.le_of_ble_eq_true rfl), (Nat.le_of_ble_eq_true rfl)⟩ dX5_runActs_189 (fun v g_75 H locs hp hT => ?_)
                  obtain ⟨r_76, rfl, hI, x_78, m_77⟩ := hp
                  have hM : Sm md_s_runActs5 g g_75 := hM.tr hE (m_77.mo (fun r k h => mdle_s_runActs5_s_serve4 h))
                  have hE : Ex g g_75 := hE.tr x_78
                  have r_79 : g_75.1 h = 6 := (Ex.r x_78 r_19 (by decide))
                  have r_80 : g_75.1 q1 = 4 := (Ex.r x_78 r_20 (by decide))
                  have r_81 : g_75.1 q2 = 3 := (Ex.r x_78 r_21 (by decide))
                  have r_82 : g_75.1 v_26 = 68 := (Ex.r x_78 r_v_26 (by decide))
                  have r_83 : g_75.1 v_28 = 69 := (Ex.r x_78 r_v_28 (by decide))
                  have n_84 : g_75.2.2.1 v_26 = 8 := (Ex.n x_78 r_v_26 (by decide) n_v_26)
                  have n_85 : g_75.2.2.1 v_28 = 8 := (Ex.n x_78 r_v_28 (by decide) n_v_28)
                  have kn_86 : g_75.2.1 q2 3 = .int v_2 := (Sm.v m_77 r_21 (by decide) rfl kn_22)
                  have kn_87 : g_75.2.1 h 6 = .int v_7 := (Sm.v m_77 r_19 (by decide) rfl kn_23)
                  have kn_88 : g_75.2.1 q2 0 = .ref v_26 := (Sm.v m_77 r_21 (by decide) rfl e_v_26)
                  have kn_89 : g_75.2.1 q2 1 = .ref v_28 := (Sm.v m_77 r_21 (by decide) rfl e_v_28)
                  have kn_90 : g_75.2.2.2.1 v_26 i.toNatClampNeg = u_27 := (Sm.c m_77 r_v_26 (by decide) rfl e_u_27.symm)
                  have kn_91 : g_75.2.2.2.1 v_28 i.toNatClampNeg = u_29 := (Sm.c m_77 r_v_28 (by decide) rfl e_u_29.symm)
                  refine W.eq (g2 := F0 m 192 ls [.int r_76]) rfl ?_
                  refine lv_istore (lv' := [(7, .int r_76), (13, .int 0), (12, .int u_29), (11, .int u_27), (10, .int r_11), (9, .int i), (8, .int po), (6, .int pk), (5, .ref q2), (4, .ref q1), (0, .ref h), (1, .int n), (2, .int x1), (3, .int x2)]) hx hb dX5_runActs_192 hl (by decide) rfl (fun ls hl => ?_)
                  refine lv_aload_n hx hb dX5_runActs_194 rfl (lv_at hl 10 rfl) ?_
                  obtain ⟨v_92, e_v_92, l_v_92, u_v_92⟩ := f_6_7 hI r_79
                  refine t_get (ci := 5) (v := .int v_92) hB hT (ro_ci r_79 rfl) rfl 7 (by decide) k_216 e_v_92 dX5_runActs_195 ?_
                  refine lv_if_eq (tgt := 204) hx hb dX5_runActs_198 (by decide) (fun c_93 => ?_) (fun c_93 => ?_)
                  · have c_93' : v_92.toInt = 0 := i_eq c_93 rfl (by decide)
                    refine lv_goto (tgt := 282) hx hb dX5_runActs_204 (by decide) ?_
                    obtain ⟨z_94, ez_94⟩ : ∃ z : Int32, z = i + 1 := ⟨_, rfl⟩
                    have e_z_94 : z_94.toInt = i.toInt + 1 := i_add ez_94 rfl (by decide) (by omega) (by omega)
                    refine lv_iinc (v := z_94) (lv' := [(9, .int z_94), (7, .int r_76), (13, .int 0), (12, .int u_29), (11, .int u_27), (10, .int r_11), (8, .int po), (6, .int pk), (5, .ref q2), (4, .ref q1), (0, .ref h), (1, .int n), (2, .int x1), (3, .int x2)]) hx hb dX5_runActs_282 hl (k := 5) rfl (by rw [ez_94]; rfl) (by decide) rfl (fun ls hl => ?_)
                    refine lv_goto (tgt := 44) hx hb dX5_runActs_285 (by decide) ?_
                    exact ih (kf - 1) (by omega) g_75 z_94 r_76 pk po q1 q2 H locs ls hT hI hE hM (by omega) (by omega) (by omega) (by omega) (by omega) (by omega) r_80 r_81 (by have e0_ : (0 : Int32).toInt = 0 := (by decide); omega) (lv_sub hl [0, 6, 1, 7, 8, 9, 10, 11, 12, 13] rfl)
                  · have c_93' : v_92.toInt ≠ 0 := i_ne c_93 rfl (by decide)
                    refine lv_bipush (v := (-2)) hx hb dX5_runActs_201 (by decide) ?_
                    exact t_iret hB hr hT (Nat.le_of_ble_eq_true rfl) (Nat.le_of_ble_eq_true rfl) dX5_runActs_203 ⟨(-2), rfl, hI, hE, hM⟩
                · have c_74' : pk.toInt ≠ 0 := i_ne c_74 rfl (by decide)
                  refine lv_iload_n hx hb dX5_runActs_164 rfl (lv_at hl 12 rfl) ?_
                  refine lv_bipush (v := 7) hx hb dX5_runActs_165 (by decide) ?_
                  refine lv_iload hx hb dX5_runActs_167 (lv_at hl 3 rfl) ?_
                  refine lv_imul hx hb dX5_runActs_169 ?_
                  refine lv_topi (fun z_95 ez_95 => ?_)
                  have e_z_95 : z_95.toInt = 7 * i.toInt := i_mul ez_95 (by decide) rfl (by omega) (by omega)
                  refine lv_iadd hx hb dX5_runActs_170 ?_
                  refine lv_topi (fun z_96 ez_96 => ?_)
                  refine lv_bipush (v := 99) hx hb dX5_runActs_171 (by decide) ?_
                  refine lv_irem hx hb dX5_runActs_173 (by decide) ?_
                  refine lv_topi (fun z_97 ez_97 => ?_)
                  refine lv_iconst (v := 1) hx hb dX5_runActs_174 (by decide) ?_
                  refine lv_iadd hx hb dX5_runActs_175 ?_
                  refine lv_topi (fun z_98 ez_98 => ?_)
                  refine lv_goto (tgt := 180) hx hb dX5_runActs_176 (by decide) ?_
                  refine lv_istore (lv' := [(13, .int z_98), (12, .int u_29), (11, .int u_27), (10, .int r_11), (9, .int i), (8, .int po), (7, .int j), (6, .int pk), (5, .ref q2), (4, .ref q1), (0, .ref h), (1, .int n), (2, .int x1), (3, .int x2)]) hx hb dX5_runActs_180 hl (by decide) rfl (fun ls hl => ?_)
                  refine lv_aload_n hx hb dX5_runActs_182 rfl (lv_at hl 10 rfl) ?_
                  refine lv_iload hx hb dX5_runActs_183 (lv_at hl 1 rfl) ?_
                  refine lv_iload hx hb dX5_runActs_185 (lv_at hl 3 rfl) ?_
                  refine lv_iload hx hb dX5_runActs_187 (lv_at hl 0 rfl) ?_
                  refine t_callV (n := 3) (As := [.int u_29, .int r_11, .int z_98]) (rest := []) (ci := 5) hB hT hl.1 (s_serve4 l D cI cZ cS cR N0 g_14 hI h u_29 r_11 z_98 r_19 (by omega) (by omega)) (ro_ci r_19 rfl) rfl k_508 k_59 k_505 k_507 k_12 (by decide +kernel) ⟨(Nat.le_of_ble_eq_true rfl), (Nat.le_of_ble_eq_true rfl)⟩ rfl (Nat.le_of_ble_eq_true rfl) ⟨(Nat.le_of_ble_eq_true rfl), (Nat.le_of_ble_eq_true rfl)⟩ dX5_runActs_189 (fun v g_99 H locs hp hT => ?_)
                  obtain ⟨r_100, rfl, hI, x_102, m_101⟩ := hp
                  have hM : Sm md_s_runActs5 g g_99 := hM.tr hE (m_101.mo (fun r k h => mdle_s_runActs5_s_serve4 h))
                  have hE : Ex g g_99 := hE.tr x_102
                  have r_103 : g_99.1 h = 6 := (Ex.r x_102 r_19 (by decide))
                  have r_104 : g_99.1 q1 = 4 := (Ex.r x_102 r_20 (by decide))
                  have r_105 : g_99.1 q2 = 3 := (Ex.r x_102 r_21 (by decide))
                  have r_106 : g_99.1 v_26 = 68 := (Ex.r x_102 r_v_26 (by decide))
                  have r_107 : g_99.1 v_28 = 69 := (Ex.r x_102 r_v_28 (by decide))
                  have n_108 : g_99.2.2.1 v_26 = 8 := (Ex.n x_102 r_v_26 (by decide) n_v_26)
                  have n_109 : g_99.2.2.1 v_28 = 8 := (Ex.n x_102 r_v_28 (by decide) n_v_28)
                  have kn_110 : g_99.2.1 q2 3 = .int v_2 := (Sm.v m_101 r_21 (by decide) rfl kn_22)
                  have kn_111 : g_99.2.1 h 6 = .int v_7 := (Sm.v m_101 r_19 (by decide) rfl kn_23)
                  have kn_112 : g_99.2.1 q2 0 = .ref v_26 := (Sm.v m_101 r_21 (by decide) rfl e_v_26)
                  have kn_113 : g_99.2.1 q2 1 = .ref v_28 := (Sm.v m_101 r_21 (by decide) rfl e_v_28)
                  have kn_114 : g_99.2.2.2.1 v_26 i.toNatClampNeg = u_27 := (Sm.c m_101 r_v_26 (by decide) rfl e_u_27.symm)
                  have kn_115 : g_99.2.2.2.1 v_28 i.toNatClampNeg = u_29 := (Sm.c m_101 r_v_28 (by decide) rfl e_u_29.symm)
                  refine W.eq (g2 := F0 m 192 ls [.int r_100]) rfl ?_
                  refine lv_istore (lv' := [(7, .int r_100), (13, .int z_98), (12, .int u_29), (11, .int u_27), (10, .int r_11), (9, .int i), (8, .int po), (6, .int pk), (5, .ref q2), (4, .ref q1), (0, .ref h), (1, .int n), (2, .int x1), (3, .int x2)]) hx hb dX5_runActs_192 hl (by decide) rfl (fun ls hl => ?_)
                  refine lv_aload_n hx hb dX5_runActs_194 rfl (lv_at hl 10 rfl) ?_
                  obtain ⟨v_116, e_v_116, l_v_116, u_v_116⟩ := f_6_7 hI r_103
                  refine t_get (ci := 5) (v := .int v_116) hB hT (ro_ci r_103 rfl) rfl 7 (by decide) k_216 e_v_116 dX5_runActs_195 ?_
                  refine lv_if_eq (tgt := 204) hx hb dX5_runActs_198 (by decide) (fun c_117 => ?_) (fun c_117 => ?_)
                  · have c_117' : v_116.toInt = 0 := i_eq c_117 rfl (by decide)
                    refine lv_goto (tgt := 282) hx hb dX5_runActs_204 (by decide) ?_
                    obtain ⟨z_118, ez_118⟩ : ∃ z : Int32, z = i + 1 := ⟨_, rfl⟩
                    have e_z_118 : z_118.toInt = i.toInt + 1 := i_add ez_118 rfl (by decide) (by omega) (by omega)
                    refine lv_iinc (v := z_118) (lv' := [(9, .int z_118), (7, .int r_100), (13, .int z_98), (12, .int u_29), (11, .int u_27), (10, .int r_11), (8, .int po), (6, .int pk), (5, .ref q2), (4, .ref q1), (0, .ref h), (1, .int n), (2, .int x1), (3, .int x2)]) hx hb dX5_runActs_282 hl (k := 5) rfl (by rw [ez_118]; rfl) (by decide) rfl (fun ls hl => ?_)
                    refine lv_goto (tgt := 44) hx hb dX5_runActs_285 (by decide) ?_
                    exact ih (kf - 1) (by omega) g_99 z_118 r_100 pk po q1 q2 H locs ls hT hI hE hM (by omega) (by omega) (by omega) (by omega) (by omega) (by omega) r_104 r_105 (by have e0_ : (0 : Int32).toInt = 0 := (by decide); omega) (lv_sub hl [0, 6, 1, 7, 8, 9, 10, 11, 12, 13] rfl)
                  · have c_117' : v_116.toInt ≠ 0 := i_ne c_117 rfl (by decide)
                    refine lv_bipush (v := (-2)) hx hb dX5_runActs_201 (by decide) ?_
                    exact t_iret hB hr hT (Nat.le_of_ble_eq_true rfl) (Nat.le_of_ble_eq_true rfl) dX5_runActs_203 ⟨(-2), rfl, hI, hE, hM⟩
              · refine W.eq (g2 := F0 m 156 ls [.int 0]) rfl ?_
                refine lv_if_eq (tgt := 207) hx hb dX5_runActs_156 (by decide) (fun c_ => ?_) (fun c_ => absurd (by decide) c_)
                refine lv_iload hx hb dX5_runActs_207 (lv_at hl 1 rfl) ?_
                refine lv_bipush (v := 6) hx hb dX5_runActs_209 (by decide) ?_
                refine lv_icmp_ne (tgt := 242) hx hb dX5_runActs_211 (by decide) (fun c_119 => ?_) (fun c_119 => ?_)
                · have c_119' : u_27.toInt ≠ 6 := i_ne c_119 rfl (by decide)
                  refine lv_iload hx hb dX5_runActs_242 (lv_at hl 1 rfl) ?_
                  refine lv_bipush (v := 7) hx hb dX5_runActs_244 (by decide) ?_
                  refine lv_icmp_ne (tgt := 263) hx hb dX5_runActs_246 (by decide) (fun c_120 => ?_) (fun c_120 => ?_)
                  · have c_120' : u_27.toInt ≠ 7 := i_ne c_120 rfl (by decide)
                    refine lv_iload hx hb dX5_runActs_263 (lv_at hl 1 rfl) ?_
                    refine lv_iconst (v := 5) hx hb dX5_runActs_265 (by decide) ?_
                    refine lv_icmp_eq (tgt := 282) hx hb dX5_runActs_266 (by decide) (fun c_121 => ?_) (fun c_121 => ?_)
                    · have c_121' : u_27.toInt = 5 := i_eq c_121 rfl (by decide)
                      obtain ⟨z_122, ez_122⟩ : ∃ z : Int32, z = i + 1 := ⟨_, rfl⟩
                      have e_z_122 : z_122.toInt = i.toInt + 1 := i_add ez_122 rfl (by decide) (by omega) (by omega)
                      refine lv_iinc (v := z_122) (lv' := [(9, .int z_122), (12, .int u_29), (11, .int u_27), (10, .int r_11), (8, .int po), (7, .int j), (6, .int pk), (5, .ref q2), (4, .ref q1), (0, .ref h), (1, .int n), (2, .int x1), (3, .int x2)]) hx hb dX5_runActs_282 hl (k := 3) rfl (by rw [ez_122]; rfl) (by decide) rfl (fun ls hl => ?_)
                      refine lv_goto (tgt := 44) hx hb dX5_runActs_285 (by decide) ?_
                      exact ih (kf - 1) (by omega) g_14 z_122 j pk po q1 q2 H locs ls hT hI hE hM (by omega) (by omega) (by omega) (by omega) (by omega) (by omega) r_20 r_21 (by have e0_ : (0 : Int32).toInt = 0 := (by decide); omega) (lv_sub hl [0, 4, 5, 6, 7, 8, 9, 10, 11, 12] rfl)
                    · have c_121' : u_27.toInt ≠ 5 := i_ne c_121 rfl (by decide)
                      exact absurd c_121' (by omega)
                  · have c_120' : u_27.toInt = 7 := i_eq c_120 rfl (by decide)
                    exact absurd c_120' (by omega)
                · have c_119' : u_27.toInt = 6 := i_eq c_119 rfl (by decide)
                  exact absurd c_119' (by omega)
        · have c_8' : v_7.toInt ≤ z_6.toInt := i_nlt c_8 rfl rfl
          refine lv_aload_n hx hb dX5_runActs_78 rfl (lv_at hl 6 rfl) ?_
          refine lv_iconst (v := 1) hx hb dX5_runActs_79 (by decide) ?_
          refine t_put0 (ci := 5) (v := .int 1) hB hT (ro_ci r_1 rfl) (ro_n0 r_1 (by decide)) rfl 7 (by decide) k_216 (Or.inl rfl) rfl rfl dX5_runActs_80 (fun H locs hT => ?_)
          have hI : Inv (sF g1 h 7 (.int 1)) := hI.sF (p_6_7 r_1 (⟨_, rfl, by decide, by decide⟩))
          have hM : Sm md_s_runActs5 g (sF g1 h 7 (.int 1)) := hM.tr hE (Sm_sF (by rw [r_1]; rfl))
          have hE : Ex g (sF g1 h 7 (.int 1)) := hE
          refine lv_bipush (v := (-2)) hx hb dX5_runActs_83 (by decide) ?_
          exact t_iret hB hr hT (Nat.le_of_ble_eq_true rfl) (Nat.le_of_ble_eq_true rfl) dX5_runActs_85 ⟨(-2), rfl, hI, hE, hM⟩
      · have c_4' : po.toInt ≠ 0 := i_ne c_4 rfl (by decide)
        refine lv_iconst (v := 0) hx hb dX5_runActs_59 (by decide) ?_
        refine lv_istore (lv' := [(8, .int 0), (9, .int i), (7, .int j), (6, .int pk), (5, .ref q2), (4, .ref q1), (0, .ref h), (1, .int n), (2, .int x1), (3, .int x2)]) hx hb dX5_runActs_60 hl (by decide) rfl (fun ls hl => ?_)
        refine lv_goto (tgt := 282) hx hb dX5_runActs_62 (by decide) ?_
        obtain ⟨z_123, ez_123⟩ : ∃ z : Int32, z = i + 1 := ⟨_, rfl⟩
        have e_z_123 : z_123.toInt = i.toInt + 1 := i_add ez_123 rfl (by decide) (by omega) (by omega)
        refine lv_iinc (v := z_123) (lv' := [(9, .int z_123), (8, .int 0), (7, .int j), (6, .int pk), (5, .ref q2), (4, .ref q1), (0, .ref h), (1, .int n), (2, .int x1), (3, .int x2)]) hx hb dX5_runActs_282 hl (k := 1) rfl (by rw [ez_123]; rfl) (by decide) rfl (fun ls hl => ?_)
        refine lv_goto (tgt := 44) hx hb dX5_runActs_285 (by decide) ?_
        exact ih (kf - 1) (by omega) g1 z_123 j pk (0 : Int32) q1 q2 H locs ls hT hI hE hM (by omega) (by omega) (by omega) (by omega) (by decide) (by decide) r1_q1 r1_q2 (by have e0_ : (0 : Int32).toInt = 0 := (by decide); omega) (lv_sub hl [0, 1, 2, 3, 4, 5, 6, 7, 8, 9] rfl)
set_option maxHeartbeats 4000000 in
set_option maxRecDepth 100000 in
theorem s_runActs5 (l : Launch) (D : va_G) (cI cZ cS cR : ClassId) (N0 : NT) (g : GS) (hI : Inv g) (h : Nat) (n : Int32) (x1 : Int32) (x2 : Int32) (r_h : g.1 h = 6) (l_n : 0 ≤ n.toInt) (u_n : n.toInt ≤ 5) : Ty l D cI cZ cS cR N0 yX5_runActs cX5_runActs 14 (some .int) 11 0 0 [.ref h, .int n, .int x1, .int x2] g (fun v g' => ∃ (r : Int32), v = some (.int r) ∧ Inv g' ∧ Ex g g' ∧ Sm md_s_runActs5 g g') := by
  refine t_enter (by decide) (Nat.le_of_ble_eq_true rfl) ?_
  intro p e s m args below meth c ls H locs hB hr hin hl hT
  have hx := hB.1
  have hb := hB.2.1
  have hl : lv_has ls 14 [(0, .ref h), (1, .int n), (2, .int x1), (3, .int x2)] := hl
  have hE : Ex g g := Ex.rf
  have hM : Sm md_s_runActs5 g g := Sm.rf
  refine lv_aload_n hx hb dX5_runActs_0 rfl (lv_at hl 0 rfl) ?_
  obtain ⟨v_1, e_v_1, r_v_1, n_v_1⟩ := f_6_0 hI r_h
  refine t_get (ci := 5) (v := .ref v_1) hB hT (ro_ci r_h rfl) rfl 0 (by decide) k_199 e_v_1 dX5_runActs_1 ?_
  refine lv_iload_n hx hb dX5_runActs_4 rfl (lv_at hl 1 rfl) ?_
  have i_q_2 : vp_in n 6 := (i_in (n := 6) rfl (by omega) (by omega))
  obtain ⟨q_2, e_q_2, r_q_2⟩ := hI.q r_v_1 n_v_1 (i_cl i_q_2)
  refine t_aald hB hT (Or.inl r_v_1) n_v_1 i_q_2 e_q_2 dX5_runActs_5 ?_
  refine lv_astore (lv' := [(4, .ref q_2), (0, .ref h), (1, .int n), (2, .int x1), (3, .int x2)]) hx hb dX5_runActs_6 hl (by decide) rfl (fun ls hl => ?_)
  refine lv_aload hx hb dX5_runActs_8 (lv_at hl 0 rfl) ?_
  obtain ⟨v_3, e_v_3, r_v_3⟩ := f_4_0 hI r_q_2
  refine t_get (ci := 3) (v := .ref v_3) hB hT (ro_ci r_q_2 rfl) rfl 0 (by decide) k_145 e_v_3 dX5_runActs_10 ?_
  refine lv_astore (lv' := [(5, .ref v_3), (4, .ref q_2), (0, .ref h), (1, .int n), (2, .int x1), (3, .int x2)]) hx hb dX5_runActs_13 hl (by decide) rfl (fun ls hl => ?_)
  refine lv_iload_n hx hb dX5_runActs_15 rfl (lv_at hl 5 rfl) ?_
  refine lv_if_eq (tgt := 32) hx hb dX5_runActs_16 (by decide) (fun c_4 => ?_) (fun c_4 => ?_)
  · have c_4' : x2.toInt = 0 := i_eq c_4 rfl (by decide)
    refine lv_iconst (v := 0) hx hb dX5_runActs_32 (by decide) ?_
    refine lv_istore (lv' := [(6, .int 0), (5, .ref v_3), (4, .ref q_2), (0, .ref h), (1, .int n), (2, .int x1), (3, .int x2)]) hx hb dX5_runActs_33 hl (by decide) rfl (fun ls hl => ?_)
    refine lv_iconst (v := 0) hx hb dX5_runActs_35 (by decide) ?_
    refine lv_istore (lv' := [(7, .int 0), (6, .int 0), (5, .ref v_3), (4, .ref q_2), (0, .ref h), (1, .int n), (2, .int x1), (3, .int x2)]) hx hb dX5_runActs_36 hl (by decide) rfl (fun ls hl => ?_)
    refine lv_iconst (v := 0) hx hb dX5_runActs_38 (by decide) ?_
    refine lv_istore (lv' := [(8, .int 0), (7, .int 0), (6, .int 0), (5, .ref v_3), (4, .ref q_2), (0, .ref h), (1, .int n), (2, .int x1), (3, .int x2)]) hx hb dX5_runActs_39 hl (by decide) rfl (fun ls hl => ?_)
    refine lv_iconst (v := 0) hx hb dX5_runActs_41 (by decide) ?_
    refine lv_istore (lv' := [(9, .int 0), (8, .int 0), (7, .int 0), (6, .int 0), (5, .ref v_3), (4, .ref q_2), (0, .ref h), (1, .int n), (2, .int x1), (3, .int x2)]) hx hb dX5_runActs_42 hl (by decide) rfl (fun ls hl => ?_)
    exact lt_s_runActs5_a l D cI cZ cS cR N0 g h n x1 x2 r_h l_n u_n hB hr   8 g (0 : Int32) (0 : Int32) (0 : Int32) (0 : Int32) q_2 v_3 H locs ls hT hI hE hM (by decide) (by decide) (by decide) (by decide) (by decide) (by decide) r_q_2 r_v_3 (by have e0_ : (0 : Int32).toInt = 0 := (by decide); omega) (lv_sub hl [0, 1, 2, 3, 4, 5, 6, 7, 8, 9] rfl)
  · have c_4' : x2.toInt ≠ 0 := i_ne c_4 rfl (by decide)
    refine lv_aload hx hb dX5_runActs_19 (lv_at hl 1 rfl) ?_
    refine lv_iconst (v := 2) hx hb dX5_runActs_21 (by decide) ?_
    refine t_callV (n := 1) (As := [.int 2]) (rest := []) (ci := 3) hB hT hl.1 (s_isMended l D cI cZ cS cR N0 g hI q_2 2 r_q_2) (ro_ci r_q_2 rfl) rfl k_512 k_60 k_509 k_510 k_511 (by decide +kernel) ⟨(Nat.le_of_ble_eq_true rfl), (Nat.le_of_ble_eq_true rfl)⟩ rfl (Nat.le_of_ble_eq_true rfl) ⟨(Nat.le_of_ble_eq_true rfl), (Nat.le_of_ble_eq_true rfl)⟩ dX5_runActs_22 (fun v g_5 H locs hp hT => ?_)
    obtain ⟨r_6, rfl, eg, f_7⟩ := hp
    rw [eg] at hT
    clear eg
    refine W.eq (g2 := F0 m 25 ls [.int r_6]) rfl ?_
    have qc_10 : (2 : Int32).toInt = 2 := (by decide)
    rcases f_7 with rfl | rfl
    · refine W.eq (g2 := F0 m 25 ls [.int 1]) rfl ?_
      refine lv_if_eq (tgt := 32) hx hb dX5_runActs_25 (by decide) (fun c_ => absurd c_ (by decide)) (fun c_ => ?_)
      refine lv_iconst (v := 1) hx hb dX5_runActs_28 (by decide) ?_
      refine lv_goto (tgt := 33) hx hb dX5_runActs_29 (by decide) ?_
      refine lv_istore (lv' := [(6, .int 1), (5, .ref v_3), (4, .ref q_2), (0, .ref h), (1, .int n), (2, .int x1), (3, .int x2)]) hx hb dX5_runActs_33 hl (by decide) rfl (fun ls hl => ?_)
      refine lv_iconst (v := 0) hx hb dX5_runActs_35 (by decide) ?_
      refine lv_istore (lv' := [(7, .int 0), (6, .int 1), (5, .ref v_3), (4, .ref q_2), (0, .ref h), (1, .int n), (2, .int x1), (3, .int x2)]) hx hb dX5_runActs_36 hl (by decide) rfl (fun ls hl => ?_)
      refine lv_iconst (v := 0) hx hb dX5_runActs_38 (by decide) ?_
      refine lv_istore (lv' := [(8, .int 0), (7, .int 0), (6, .int 1), (5, .ref v_3), (4, .ref q_2), (0, .ref h), (1, .int n), (2, .int x1), (3, .int x2)]) hx hb dX5_runActs_39 hl (by decide) rfl (fun ls hl => ?_)
      refine lv_iconst (v := 0) hx hb dX5_runActs_41 (by decide) ?_
      refine lv_istore (lv' := [(9, .int 0), (8, .int 0), (7, .int 0), (6, .int 1), (5, .ref v_3), (4, .ref q_2), (0, .ref h), (1, .int n), (2, .int x1), (3, .int x2)]) hx hb dX5_runActs_42 hl (by decide) rfl (fun ls hl => ?_)
      exact lt_s_runActs5_a l D cI cZ cS cR N0 g h n x1 x2 r_h l_n u_n hB hr   8 g (0 : Int32) (0 : Int32) (1 : Int32) (0 : Int32) q_2 v_3 H locs ls hT hI hE hM (by decide) (by decide) (by decide) (by decide) (by decide) (by decide) r_q_2 r_v_3 (by have e0_ : (0 : Int32).toInt = 0 := (by decide); have e1_ : (1 : Int32).toInt = 1 := (by decide); omega) (lv_sub hl [0, 1, 2, 3, 4, 5, 6, 7, 8, 9] rfl)
    · refine W.eq (g2 := F0 m 25 ls [.int 0]) rfl ?_
      refine lv_if_eq (tgt := 32) hx hb dX5_runActs_25 (by decide) (fun c_ => ?_) (fun c_ => absurd (by decide) c_)
      refine lv_iconst (v := 0) hx hb dX5_runActs_32 (by decide) ?_
      refine lv_istore (lv' := [(6, .int 0), (5, .ref v_3), (4, .ref q_2), (0, .ref h), (1, .int n), (2, .int x1), (3, .int x2)]) hx hb dX5_runActs_33 hl (by decide) rfl (fun ls hl => ?_)
      refine lv_iconst (v := 0) hx hb dX5_runActs_35 (by decide) ?_
      refine lv_istore (lv' := [(7, .int 0), (6, .int 0), (5, .ref v_3), (4, .ref q_2), (0, .ref h), (1, .int n), (2, .int x1), (3, .int x2)]) hx hb dX5_runActs_36 hl (by decide) rfl (fun ls hl => ?_)
      refine lv_iconst (v := 0) hx hb dX5_runActs_38 (by decide) ?_
      refine lv_istore (lv' := [(8, .int 0), (7, .int 0), (6, .int 0), (5, .ref v_3), (4, .ref q_2), (0, .ref h), (1, .int n), (2, .int x1), (3, .int x2)]) hx hb dX5_runActs_39 hl (by decide) rfl (fun ls hl => ?_)
      refine lv_iconst (v := 0) hx hb dX5_runActs_41 (by decide) ?_
      refine lv_istore (lv' := [(9, .int 0), (8, .int 0), (7, .int 0), (6, .int 0), (5, .ref v_3), (4, .ref q_2), (0, .ref h), (1, .int n), (2, .int x1), (3, .int x2)]) hx hb dX5_runActs_42 hl (by decide) rfl (fun ls hl => ?_)
      exact lt_s_runActs5_a l D cI cZ cS cR N0 g h n x1 x2 r_h l_n u_n hB hr   8 g (0 : Int32) (0 : Int32) (0 : Int32) (0 : Int32) q_2 v_3 H locs ls hT hI hE hM (by decide) (by decide) (by decide) (by decide) (by decide) (by decide) r_q_2 r_v_3 (by have e0_ : (0 : Int32).toInt = 0 := (by decide); omega) (lv_sub hl [0, 1, 2, 3, 4, 5, 6, 7, 8, 9] rfl)
abbrev md_s_serve5 : Nat → Nat → Bool := mdf [(4, 2), (4, 5), (4, 10), (4, 11), (4, 14), (6, 4), (6, 5), (6, 7), (50, 99)]
theorem mdle_s_serve5_s_answerNewest {r k : Nat} (h : md_s_serve5 r k = false) : md_s_answerNewest r k = false := mdf_le (by decide +kernel) h
theorem mdle_s_serve5_s_beginKnown {r k : Nat} (h : md_s_serve5 r k = false) : md_s_beginKnown r k = false := mdf_le (by decide +kernel) h
theorem mdle_s_serve5_s_keep {r k : Nat} (h : md_s_serve5 r k = false) : md_s_keep r k = false := mdf_le (by decide +kernel) h
theorem mdle_s_serve5_s_runActs5 {r k : Nat} (h : md_s_serve5 r k = false) : md_s_runActs5 r k = false := mdf_le (by decide +kernel) h
set_option maxHeartbeats 4000000 in
set_option maxRecDepth 100000 in
theorem s_serve5 (l : Launch) (D : va_G) (cI cZ cS cR : ClassId) (N0 : NT) (g : GS) (hI : Inv g) (h : Nat) (n : Int32) (x1 : Int32) (x2 : Int32) (r_h : g.1 h = 6) (l_n : 0 ≤ n.toInt) (u_n : n.toInt ≤ 5) : Ty l D cI cZ cS cR N0 yX5_serve cX5_serve 9 (some .int) 12 0 0 [.ref h, .int n, .int x1, .int x2] g (fun v g' => ∃ (r : Int32), v = some (.int r) ∧ Inv g' ∧ Ex g g' ∧ Sm md_s_serve5 g g') := by
  refine t_enter (by decide) (Nat.le_of_ble_eq_true rfl) ?_
  intro p e s m args below meth c ls H locs hB hr hin hl hT
  have hx := hB.1
  have hb := hB.2.1
  have hl : lv_has ls 9 [(0, .ref h), (1, .int n), (2, .int x1), (3, .int x2)] := hl
  have hE : Ex g g := Ex.rf
  have hM : Sm md_s_serve5 g g := Sm.rf
  refine lv_aload_n hx hb dX5_serve_0 rfl (lv_at hl 0 rfl) ?_
  obtain ⟨v_1, e_v_1, r_v_1, n_v_1⟩ := f_6_0 hI r_h
  refine t_get (ci := 5) (v := .ref v_1) hB hT (ro_ci r_h rfl) rfl 0 (by decide) k_199 e_v_1 dX5_serve_1 ?_
  refine lv_iload_n hx hb dX5_serve_4 rfl (lv_at hl 1 rfl) ?_
  have i_q_2 : vp_in n 6 := (i_in (n := 6) rfl (by omega) (by omega))
  obtain ⟨q_2, e_q_2, r_q_2⟩ := hI.q r_v_1 n_v_1 (i_cl i_q_2)
  refine t_aald hB hT (Or.inl r_v_1) n_v_1 i_q_2 e_q_2 dX5_serve_5 ?_
  refine lv_astore (lv' := [(4, .ref q_2), (0, .ref h), (1, .int n), (2, .int x1), (3, .int x2)]) hx hb dX5_serve_6 hl (by decide) rfl (fun ls hl => ?_)
  refine lv_iload_n hx hb dX5_serve_8 rfl (lv_at hl 4 rfl) ?_
  refine lv_if_eq (tgt := 25) hx hb dX5_serve_9 (by decide) (fun c_3 => ?_) (fun c_3 => ?_)
  · have c_3' : x2.toInt = 0 := i_eq c_3 rfl (by decide)
    refine lv_iconst (v := 0) hx hb dX5_serve_25 (by decide) ?_
    refine lv_istore (lv' := [(5, .int 0), (4, .ref q_2), (0, .ref h), (1, .int n), (2, .int x1), (3, .int x2)]) hx hb dX5_serve_26 hl (by decide) rfl (fun ls hl => ?_)
    refine lv_iload hx hb dX5_serve_28 (lv_at hl 0 rfl) ?_
    refine lv_if_eq (tgt := 46) hx hb dX5_serve_30 (by decide) (fun c_ => ?_) (fun c_ => absurd (by decide) c_)
    refine lv_iconst (v := 0) hx hb dX5_serve_46 (by decide) ?_
    refine lv_istore (lv' := [(6, .int 0), (5, .int 0), (4, .ref q_2), (0, .ref h), (1, .int n), (2, .int x1), (3, .int x2)]) hx hb dX5_serve_47 hl (by decide) rfl (fun ls hl => ?_)
    refine lv_iload hx hb dX5_serve_49 (lv_at hl 1 rfl) ?_
    refine lv_if_eq (tgt := 63) hx hb dX5_serve_51 (by decide) (fun c_ => ?_) (fun c_ => absurd (by decide) c_)
    refine lv_iconst (v := (-1)) hx hb dX5_serve_63 (by decide) ?_
    refine lv_istore (lv' := [(7, .int (-1)), (6, .int 0), (5, .int 0), (4, .ref q_2), (0, .ref h), (1, .int n), (2, .int x1), (3, .int x2)]) hx hb dX5_serve_64 hl (by decide) rfl (fun ls hl => ?_)
    refine lv_iload hx hb dX5_serve_66 (lv_at hl 0 rfl) ?_
    refine lv_iconst (v := (-1)) hx hb dX5_serve_68 (by decide) ?_
    refine lv_icmp_eq (tgt := 81) hx hb dX5_serve_69 (by decide) (fun c_ => ?_) (fun c_ => absurd (by decide) c_)
    refine lv_iload hx hb dX5_serve_81 (lv_at hl 1 rfl) ?_
    refine lv_if_eq (tgt := 98) hx hb dX5_serve_83 (by decide) (fun c_ => ?_) (fun c_ => absurd (by decide) c_)
    refine lv_aload hx hb dX5_serve_98 (lv_at hl 3 rfl) ?_
    refine lv_iload_n hx hb dX5_serve_100 rfl (lv_at hl 6 rfl) ?_
    refine lv_iload_n hx hb dX5_serve_101 rfl (lv_at hl 7 rfl) ?_
    refine t_callV (n := 2) (As := [.int x1, .int x2]) (rest := []) (ci := 3) hB hT hl.1 (s_beginKnown l D cI cZ cS cR N0 g hI q_2 x1 x2 r_q_2) (ro_ci r_q_2 rfl) rfl k_529 k_60 k_526 k_527 k_528 (by decide +kernel) ⟨(Nat.le_of_ble_eq_true rfl), (Nat.le_of_ble_eq_true rfl)⟩ rfl (Nat.le_of_ble_eq_true rfl) ⟨(Nat.le_of_ble_eq_true rfl), (Nat.le_of_ble_eq_true rfl)⟩ dX5_serve_102 (fun v g_4 H locs hp hT => ?_)
    obtain ⟨rfl, hI, x_6, m_5⟩ := hp
    have hM : Sm md_s_serve5 g g_4 := hM.tr hE (m_5.mo (fun r k h => mdle_s_serve5_s_beginKnown h))
    have hE : Ex g g_4 := hE.tr x_6
    have r_7 : g_4.1 h = 6 := (Ex.r x_6 r_h (by decide))
    have r_8 : g_4.1 v_1 = 41 := (Ex.r x_6 r_v_1 (by decide))
    have r_9 : g_4.1 q_2 = 4 := (Ex.r x_6 r_q_2 (by decide))
    have n_10 : g_4.2.2.1 v_1 = 6 := (Ex.n x_6 r_v_1 (by decide) n_v_1)
    have kn_11 : g_4.2.1 h 0 = .ref v_1 := (Sm.v m_5 r_h (by decide) rfl e_v_1)
    refine W.eq (g2 := F0 m 105 ls []) rfl ?_
    refine lv_aload_n hx hb dX5_serve_105 rfl (lv_at hl 4 rfl) ?_
    refine lv_iload_n hx hb dX5_serve_106 rfl (lv_at hl 5 rfl) ?_
    refine lv_iload_n hx hb dX5_serve_107 rfl (lv_at hl 6 rfl) ?_
    refine lv_iload_n hx hb dX5_serve_108 rfl (lv_at hl 7 rfl) ?_
    refine t_callV (n := 3) (As := [.int n, .int x1, .int x2]) (rest := []) (ci := 5) hB hT hl.1 (s_runActs5 l D cI cZ cS cR N0 g_4 hI h n x1 x2 r_7 (by omega) (by omega)) (ro_ci r_7 rfl) rfl k_534 k_59 k_531 k_533 k_13 (by decide +kernel) ⟨(Nat.le_of_ble_eq_true rfl), (Nat.le_of_ble_eq_true rfl)⟩ rfl (Nat.le_of_ble_eq_true rfl) ⟨(Nat.le_of_ble_eq_true rfl), (Nat.le_of_ble_eq_true rfl)⟩ dX5_serve_109 (fun v g_12 H locs hp hT => ?_)
    obtain ⟨r_13, rfl, hI, x_15, m_14⟩ := hp
    have hM : Sm md_s_serve5 g g_12 := hM.tr hE (m_14.mo (fun r k h => mdle_s_serve5_s_runActs5 h))
    have hE : Ex g g_12 := hE.tr x_15
    have r_16 : g_12.1 h = 6 := (Ex.r x_15 r_7 (by decide))
    have r_17 : g_12.1 v_1 = 41 := (Ex.r x_15 r_8 (by decide))
    have r_18 : g_12.1 q_2 = 4 := (Ex.r x_15 r_9 (by decide))
    have n_19 : g_12.2.2.1 v_1 = 6 := (Ex.n x_15 r_8 (by decide) n_10)
    have kn_20 : g_12.2.1 h 0 = .ref v_1 := (Sm.v m_14 r_7 (by decide) rfl kn_11)
    refine W.eq (g2 := F0 m 112 ls [.int r_13]) rfl ?_
    refine lv_istore (lv' := [(8, .int r_13), (7, .int (-1)), (6, .int 0), (5, .int 0), (4, .ref q_2), (0, .ref h), (1, .int n), (2, .int x1), (3, .int x2)]) hx hb dX5_serve_112 hl (by decide) rfl (fun ls hl => ?_)
    refine lv_aload_n hx hb dX5_serve_114 rfl (lv_at hl 5 rfl) ?_
    obtain ⟨v_21, e_v_21, l_v_21, u_v_21⟩ := f_6_7 hI r_16
    refine t_get (ci := 5) (v := .int v_21) hB hT (ro_ci r_16 rfl) rfl 7 (by decide) k_216 e_v_21 dX5_serve_115 ?_
    refine lv_if_eq (tgt := 124) hx hb dX5_serve_118 (by decide) (fun c_22 => ?_) (fun c_22 => ?_)
    · have c_22' : v_21.toInt = 0 := i_eq c_22 rfl (by decide)
      refine lv_iload hx hb dX5_serve_124 (lv_at hl 2 rfl) ?_
      refine lv_if_eq (tgt := 140) hx hb dX5_serve_126 (by decide) (fun c_ => ?_) (fun c_ => absurd (by decide) c_)
      refine lv_iload hx hb dX5_serve_140 (lv_at hl 3 rfl) ?_
      refine lv_if_eq (tgt := 158) hx hb dX5_serve_142 (by decide) (fun c_ => ?_) (fun c_ => absurd (by decide) c_)
      refine lv_iload hx hb dX5_serve_158 (lv_at hl 0 rfl) ?_
      exact t_iret hB hr hT (Nat.le_of_ble_eq_true rfl) (Nat.le_of_ble_eq_true rfl) dX5_serve_160 ⟨r_13, rfl, hI, hE, hM⟩
    · have c_22' : v_21.toInt ≠ 0 := i_ne c_22 rfl (by decide)
      refine lv_bipush (v := (-2)) hx hb dX5_serve_121 (by decide) ?_
      exact t_iret hB hr hT (Nat.le_of_ble_eq_true rfl) (Nat.le_of_ble_eq_true rfl) dX5_serve_123 ⟨(-2), rfl, hI, hE, hM⟩
  · have c_3' : x2.toInt ≠ 0 := i_ne c_3 rfl (by decide)
    refine lv_aload hx hb dX5_serve_12 (lv_at hl 0 rfl) ?_
    refine lv_iconst (v := 0) hx hb dX5_serve_14 (by decide) ?_
    refine t_callV (n := 1) (As := [.int 0]) (rest := []) (ci := 3) hB hT hl.1 (s_isMended l D cI cZ cS cR N0 g hI q_2 0 r_q_2) (ro_ci r_q_2 rfl) rfl k_512 k_60 k_509 k_510 k_511 (by decide +kernel) ⟨(Nat.le_of_ble_eq_true rfl), (Nat.le_of_ble_eq_true rfl)⟩ rfl (Nat.le_of_ble_eq_true rfl) ⟨(Nat.le_of_ble_eq_true rfl), (Nat.le_of_ble_eq_true rfl)⟩ dX5_serve_15 (fun v g_23 H locs hp hT => ?_)
    obtain ⟨r_24, rfl, eg, f_25⟩ := hp
    rw [eg] at hT
    clear eg
    refine W.eq (g2 := F0 m 18 ls [.int r_24]) rfl ?_
    have qc_28 : (0 : Int32).toInt = 0 := (by decide)
    rcases f_25 with rfl | rfl
    · refine W.eq (g2 := F0 m 18 ls [.int 1]) rfl ?_
      refine lv_if_eq (tgt := 25) hx hb dX5_serve_18 (by decide) (fun c_ => absurd c_ (by decide)) (fun c_ => ?_)
      refine lv_iconst (v := 1) hx hb dX5_serve_21 (by decide) ?_
      refine lv_goto (tgt := 26) hx hb dX5_serve_22 (by decide) ?_
      refine lv_istore (lv' := [(5, .int 1), (4, .ref q_2), (0, .ref h), (1, .int n), (2, .int x1), (3, .int x2)]) hx hb dX5_serve_26 hl (by decide) rfl (fun ls hl => ?_)
      refine lv_iload hx hb dX5_serve_28 (lv_at hl 0 rfl) ?_
      refine lv_if_eq (tgt := 46) hx hb dX5_serve_30 (by decide) (fun c_ => absurd c_ (by decide)) (fun c_ => ?_)
      refine lv_aload hx hb dX5_serve_33 (lv_at hl 1 rfl) ?_
      refine lv_iconst (v := 1) hx hb dX5_serve_35 (by decide) ?_
      refine t_callV (n := 1) (As := [.int 1]) (rest := []) (ci := 3) hB hT hl.1 (s_isMended l D cI cZ cS cR N0 g hI q_2 1 r_q_2) (ro_ci r_q_2 rfl) rfl k_512 k_60 k_509 k_510 k_511 (by decide +kernel) ⟨(Nat.le_of_ble_eq_true rfl), (Nat.le_of_ble_eq_true rfl)⟩ rfl (Nat.le_of_ble_eq_true rfl) ⟨(Nat.le_of_ble_eq_true rfl), (Nat.le_of_ble_eq_true rfl)⟩ dX5_serve_36 (fun v g_29 H locs hp hT => ?_)
      obtain ⟨r_30, rfl, eg, f_31⟩ := hp
      rw [eg] at hT
      clear eg
      refine W.eq (g2 := F0 m 39 ls [.int r_30]) rfl ?_
      have qc_34 : (1 : Int32).toInt = 1 := (by decide)
      rcases f_31 with rfl | rfl
      · refine W.eq (g2 := F0 m 39 ls [.int 1]) rfl ?_
        refine lv_if_eq (tgt := 46) hx hb dX5_serve_39 (by decide) (fun c_ => absurd c_ (by decide)) (fun c_ => ?_)
        refine lv_iconst (v := 1) hx hb dX5_serve_42 (by decide) ?_
        refine lv_goto (tgt := 47) hx hb dX5_serve_43 (by decide) ?_
        refine lv_istore (lv' := [(6, .int 1), (5, .int 1), (4, .ref q_2), (0, .ref h), (1, .int n), (2, .int x1), (3, .int x2)]) hx hb dX5_serve_47 hl (by decide) rfl (fun ls hl => ?_)
        refine lv_iload hx hb dX5_serve_49 (lv_at hl 1 rfl) ?_
        refine lv_if_eq (tgt := 63) hx hb dX5_serve_51 (by decide) (fun c_ => absurd c_ (by decide)) (fun c_ => ?_)
        refine lv_aload hx hb dX5_serve_54 (lv_at hl 2 rfl) ?_
        refine lv_iload_n hx hb dX5_serve_56 rfl (lv_at hl 6 rfl) ?_
        refine t_callV (n := 1) (As := [.int x2]) (rest := []) (ci := 3) hB hT hl.1 (s_placeOfKey l D cI cZ cS cR N0 g hI q_2 x2 r_q_2) (ro_ci r_q_2 rfl) rfl k_516 k_60 k_513 k_514 k_515 (by decide +kernel) ⟨(Nat.le_of_ble_eq_true rfl), (Nat.le_of_ble_eq_true rfl)⟩ rfl (Nat.le_of_ble_eq_true rfl) ⟨(Nat.le_of_ble_eq_true rfl), (Nat.le_of_ble_eq_true rfl)⟩ dX5_serve_57 (fun v g_35 H locs hp hT => ?_)
        obtain ⟨r_36, rfl, eg, f_37⟩ := hp
        rw [eg] at hT
        clear eg
        refine W.eq (g2 := F0 m 60 ls [.int r_36]) rfl ?_
        rcases f_37 with rfl | ⟨hw_40, hw_41⟩
        · refine W.eq (g2 := F0 m 60 ls [.int (-1)]) rfl ?_
          refine lv_goto (tgt := 64) hx hb dX5_serve_60 (by decide) ?_
          refine lv_istore (lv' := [(7, .int (-1)), (6, .int 1), (5, .int 1), (4, .ref q_2), (0, .ref h), (1, .int n), (2, .int x1), (3, .int x2)]) hx hb dX5_serve_64 hl (by decide) rfl (fun ls hl => ?_)
          refine lv_iload hx hb dX5_serve_66 (lv_at hl 0 rfl) ?_
          refine lv_iconst (v := (-1)) hx hb dX5_serve_68 (by decide) ?_
          refine lv_icmp_eq (tgt := 81) hx hb dX5_serve_69 (by decide) (fun c_ => ?_) (fun c_ => absurd (by decide) c_)
          refine lv_iload hx hb dX5_serve_81 (lv_at hl 1 rfl) ?_
          refine lv_if_eq (tgt := 98) hx hb dX5_serve_83 (by decide) (fun c_ => absurd c_ (by decide)) (fun c_ => ?_)
          refine lv_aload hx hb dX5_serve_86 (lv_at hl 3 rfl) ?_
          refine lv_iload_n hx hb dX5_serve_88 rfl (lv_at hl 7 rfl) ?_
          refine lv_iload_n hx hb dX5_serve_89 rfl (lv_at hl 6 rfl) ?_
          refine lv_iconst (v := 0) hx hb dX5_serve_90 (by decide) ?_
          refine lv_aload_n hx hb dX5_serve_91 rfl (lv_at hl 4 rfl) ?_
          obtain ⟨v_42, e_v_42⟩ := f_6_2 hI r_h
          refine t_get (ci := 5) (v := .int v_42) hB hT (ro_ci r_h rfl) rfl 2 (by decide) k_205 e_v_42 dX5_serve_92 ?_
          refine t_callV (n := 4) (As := [.int x2, .int x1, .int 0, .int v_42]) (rest := []) (ci := 3) hB hT hl.1 (s_keep l D cI cZ cS cR N0 g hI q_2 x2 x1 0 v_42 r_q_2) (ro_ci r_q_2 rfl) rfl k_524 k_60 k_521 k_522 k_523 (by decide +kernel) ⟨(Nat.le_of_ble_eq_true rfl), (Nat.le_of_ble_eq_true rfl)⟩ rfl (Nat.le_of_ble_eq_true rfl) ⟨(Nat.le_of_ble_eq_true rfl), (Nat.le_of_ble_eq_true rfl)⟩ dX5_serve_95 (fun v g_43 H locs hp hT => ?_)
          obtain ⟨rfl, hI, x_45, m_44⟩ := hp
          have hM : Sm md_s_serve5 g g_43 := hM.tr hE (m_44.mo (fun r k h => mdle_s_serve5_s_keep h))
          have hE : Ex g g_43 := hE.tr x_45
          have r_46 : g_43.1 h = 6 := (Ex.r x_45 r_h (by decide))
          have r_47 : g_43.1 v_1 = 41 := (Ex.r x_45 r_v_1 (by decide))
          have r_48 : g_43.1 q_2 = 4 := (Ex.r x_45 r_q_2 (by decide))
          have n_49 : g_43.2.2.1 v_1 = 6 := (Ex.n x_45 r_v_1 (by decide) n_v_1)
          have kn_50 : g_43.2.1 h 0 = .ref v_1 := (Sm.v m_44 r_h (by decide) rfl e_v_1)
          have kn_51 : g_43.2.1 h 2 = .int v_42 := (Sm.v m_44 r_h (by decide) rfl e_v_42)
          refine W.eq (g2 := F0 m 98 ls []) rfl ?_
          refine lv_aload hx hb dX5_serve_98 (lv_at hl 3 rfl) ?_
          refine lv_iload_n hx hb dX5_serve_100 rfl (lv_at hl 6 rfl) ?_
          refine lv_iload_n hx hb dX5_serve_101 rfl (lv_at hl 7 rfl) ?_
          refine t_callV (n := 2) (As := [.int x1, .int x2]) (rest := []) (ci := 3) hB hT hl.1 (s_beginKnown l D cI cZ cS cR N0 g_43 hI q_2 x1 x2 r_48) (ro_ci r_48 rfl) rfl k_529 k_60 k_526 k_527 k_528 (by decide +kernel) ⟨(Nat.le_of_ble_eq_true rfl), (Nat.le_of_ble_eq_true rfl)⟩ rfl (Nat.le_of_ble_eq_true rfl) ⟨(Nat.le_of_ble_eq_true rfl), (Nat.le_of_ble_eq_true rfl)⟩ dX5_serve_102 (fun v g_52 H locs hp hT => ?_)
          obtain ⟨rfl, hI, x_54, m_53⟩ := hp
          have hM : Sm md_s_serve5 g g_52 := hM.tr hE (m_53.mo (fun r k h => mdle_s_serve5_s_beginKnown h))
          have hE : Ex g g_52 := hE.tr x_54
          have r_55 : g_52.1 h = 6 := (Ex.r x_54 r_46 (by decide))
          have r_56 : g_52.1 v_1 = 41 := (Ex.r x_54 r_47 (by decide))
          have r_57 : g_52.1 q_2 = 4 := (Ex.r x_54 r_48 (by decide))
          have n_58 : g_52.2.2.1 v_1 = 6 := (Ex.n x_54 r_47 (by decide) n_49)
          have kn_59 : g_52.2.1 h 0 = .ref v_1 := (Sm.v m_53 r_46 (by decide) rfl kn_50)
          have kn_60 : g_52.2.1 h 2 = .int v_42 := (Sm.v m_53 r_46 (by decide) rfl kn_51)
          refine W.eq (g2 := F0 m 105 ls []) rfl ?_
          refine lv_aload_n hx hb dX5_serve_105 rfl (lv_at hl 4 rfl) ?_
          refine lv_iload_n hx hb dX5_serve_106 rfl (lv_at hl 5 rfl) ?_
          refine lv_iload_n hx hb dX5_serve_107 rfl (lv_at hl 6 rfl) ?_
          refine lv_iload_n hx hb dX5_serve_108 rfl (lv_at hl 7 rfl) ?_
          refine t_callV (n := 3) (As := [.int n, .int x1, .int x2]) (rest := []) (ci := 5) hB hT hl.1 (s_runActs5 l D cI cZ cS cR N0 g_52 hI h n x1 x2 r_55 (by omega) (by omega)) (ro_ci r_55 rfl) rfl k_534 k_59 k_531 k_533 k_13 (by decide +kernel) ⟨(Nat.le_of_ble_eq_true rfl), (Nat.le_of_ble_eq_true rfl)⟩ rfl (Nat.le_of_ble_eq_true rfl) ⟨(Nat.le_of_ble_eq_true rfl), (Nat.le_of_ble_eq_true rfl)⟩ dX5_serve_109 (fun v g_61 H locs hp hT => ?_)
          obtain ⟨r_62, rfl, hI, x_64, m_63⟩ := hp
          have hM : Sm md_s_serve5 g g_61 := hM.tr hE (m_63.mo (fun r k h => mdle_s_serve5_s_runActs5 h))
          have hE : Ex g g_61 := hE.tr x_64
          have r_65 : g_61.1 h = 6 := (Ex.r x_64 r_55 (by decide))
          have r_66 : g_61.1 v_1 = 41 := (Ex.r x_64 r_56 (by decide))
          have r_67 : g_61.1 q_2 = 4 := (Ex.r x_64 r_57 (by decide))
          have n_68 : g_61.2.2.1 v_1 = 6 := (Ex.n x_64 r_56 (by decide) n_58)
          have kn_69 : g_61.2.1 h 0 = .ref v_1 := (Sm.v m_63 r_55 (by decide) rfl kn_59)
          have kn_70 : g_61.2.1 h 2 = .int v_42 := (Sm.v m_63 r_55 (by decide) rfl kn_60)
          refine W.eq (g2 := F0 m 112 ls [.int r_62]) rfl ?_
          refine lv_istore (lv' := [(8, .int r_62), (7, .int (-1)), (6, .int 1), (5, .int 1), (4, .ref q_2), (0, .ref h), (1, .int n), (2, .int x1), (3, .int x2)]) hx hb dX5_serve_112 hl (by decide) rfl (fun ls hl => ?_)
          refine lv_aload_n hx hb dX5_serve_114 rfl (lv_at hl 5 rfl) ?_
          obtain ⟨v_71, e_v_71, l_v_71, u_v_71⟩ := f_6_7 hI r_65
          refine t_get (ci := 5) (v := .int v_71) hB hT (ro_ci r_65 rfl) rfl 7 (by decide) k_216 e_v_71 dX5_serve_115 ?_
          refine lv_if_eq (tgt := 124) hx hb dX5_serve_118 (by decide) (fun c_72 => ?_) (fun c_72 => ?_)
          · have c_72' : v_71.toInt = 0 := i_eq c_72 rfl (by decide)
            refine lv_iload hx hb dX5_serve_124 (lv_at hl 2 rfl) ?_
            refine lv_if_eq (tgt := 140) hx hb dX5_serve_126 (by decide) (fun c_ => absurd c_ (by decide)) (fun c_ => ?_)
            refine lv_aload hx hb dX5_serve_129 (lv_at hl 4 rfl) ?_
            refine lv_iload_n hx hb dX5_serve_131 rfl (lv_at hl 8 rfl) ?_
            refine lv_iload hx hb dX5_serve_132 (lv_at hl 0 rfl) ?_
            refine t_callV (n := 2) (As := [.int x2, .int r_62]) (rest := []) (ci := 3) hB hT hl.1 (s_answerNewest l D cI cZ cS cR N0 g_61 hI q_2 x2 r_62 r_67) (ro_ci r_67 rfl) rfl k_554 k_60 k_551 k_552 k_553 (by decide +kernel) ⟨(Nat.le_of_ble_eq_true rfl), (Nat.le_of_ble_eq_true rfl)⟩ rfl (Nat.le_of_ble_eq_true rfl) ⟨(Nat.le_of_ble_eq_true rfl), (Nat.le_of_ble_eq_true rfl)⟩ dX5_serve_134 (fun v g_73 H locs hp hT => ?_)
            obtain ⟨rfl, hI, x_75, m_74⟩ := hp
            have hM : Sm md_s_serve5 g g_73 := hM.tr hE (m_74.mo (fun r k h => mdle_s_serve5_s_answerNewest h))
            have hE : Ex g g_73 := hE.tr x_75
            have r_76 : g_73.1 h = 6 := (Ex.r x_75 r_65 (by decide))
            have r_77 : g_73.1 v_1 = 41 := (Ex.r x_75 r_66 (by decide))
            have r_78 : g_73.1 q_2 = 4 := (Ex.r x_75 r_67 (by decide))
            have n_79 : g_73.2.2.1 v_1 = 6 := (Ex.n x_75 r_66 (by decide) n_68)
            have kn_80 : g_73.2.1 h 0 = .ref v_1 := (Sm.v m_74 r_65 (by decide) rfl kn_69)
            have kn_81 : g_73.2.1 h 2 = .int v_42 := (Sm.v m_74 r_65 (by decide) rfl kn_70)
            have kn_82 : g_73.2.1 h 7 = .int v_71 := (Sm.v m_74 r_65 (by decide) rfl e_v_71)
            refine W.eq (g2 := F0 m 137 ls []) rfl ?_
            refine lv_goto (tgt := 158) hx hb dX5_serve_137 (by decide) ?_
            refine lv_iload hx hb dX5_serve_158 (lv_at hl 0 rfl) ?_
            exact t_iret hB hr hT (Nat.le_of_ble_eq_true rfl) (Nat.le_of_ble_eq_true rfl) dX5_serve_160 ⟨r_62, rfl, hI, hE, hM⟩
          · have c_72' : v_71.toInt ≠ 0 := i_ne c_72 rfl (by decide)
            refine lv_bipush (v := (-2)) hx hb dX5_serve_121 (by decide) ?_
            exact t_iret hB hr hT (Nat.le_of_ble_eq_true rfl) (Nat.le_of_ble_eq_true rfl) dX5_serve_123 ⟨(-2), rfl, hI, hE, hM⟩
        · refine W.eq (g2 := F0 m 60 ls [.int r_36]) rfl ?_
          refine lv_goto (tgt := 64) hx hb dX5_serve_60 (by decide) ?_
          refine lv_istore (lv' := [(7, .int r_36), (6, .int 1), (5, .int 1), (4, .ref q_2), (0, .ref h), (1, .int n), (2, .int x1), (3, .int x2)]) hx hb dX5_serve_64 hl (by decide) rfl (fun ls hl => ?_)
          refine lv_iload hx hb dX5_serve_66 (lv_at hl 0 rfl) ?_
          refine lv_iconst (v := (-1)) hx hb dX5_serve_68 (by decide) ?_
          refine lv_icmp_eq (tgt := 81) hx hb dX5_serve_69 (by decide) (fun c_83 => ?_) (fun c_83 => ?_)
          · have c_83' : r_36.toInt = (-1) := i_eq c_83 rfl (by decide)
            exact absurd c_83' (by omega)
          · have c_83' : r_36.toInt ≠ (-1) := i_ne c_83 rfl (by decide)
            refine lv_aload hx hb dX5_serve_72 (lv_at hl 3 rfl) ?_
            refine lv_iload hx hb dX5_serve_74 (lv_at hl 0 rfl) ?_
            refine lv_iload_n hx hb dX5_serve_76 rfl (lv_at hl 6 rfl) ?_
            refine t_callV (n := 2) (As := [.int r_36, .int x1]) (rest := []) (ci := 3) hB hT hl.1 (s_keptAnswer l D cI cZ cS cR N0 g hI q_2 r_36 x1 r_q_2 (by omega) (by omega)) (ro_ci r_q_2 rfl) rfl k_520 k_60 k_517 k_518 k_519 (by decide +kernel) ⟨(Nat.le_of_ble_eq_true rfl), (Nat.le_of_ble_eq_true rfl)⟩ rfl (Nat.le_of_ble_eq_true rfl) ⟨(Nat.le_of_ble_eq_true rfl), (Nat.le_of_ble_eq_true rfl)⟩ dX5_serve_77 (fun v g_84 H locs hp hT => ?_)
            obtain ⟨r_85, rfl, eg⟩ := hp
            rw [eg] at hT
            clear eg
            refine W.eq (g2 := F0 m 80 ls [.int r_85]) rfl ?_
            exact t_iret hB hr hT (Nat.le_of_ble_eq_true rfl) (Nat.le_of_ble_eq_true rfl) dX5_serve_80 ⟨r_85, rfl, hI, hE, hM⟩
      · refine W.eq (g2 := F0 m 39 ls [.int 0]) rfl ?_
        refine lv_if_eq (tgt := 46) hx hb dX5_serve_39 (by decide) (fun c_ => ?_) (fun c_ => absurd (by decide) c_)
        refine lv_iconst (v := 0) hx hb dX5_serve_46 (by decide) ?_
        refine lv_istore (lv' := [(6, .int 0), (5, .int 1), (4, .ref q_2), (0, .ref h), (1, .int n), (2, .int x1), (3, .int x2)]) hx hb dX5_serve_47 hl (by decide) rfl (fun ls hl => ?_)
        refine lv_iload hx hb dX5_serve_49 (lv_at hl 1 rfl) ?_
        refine lv_if_eq (tgt := 63) hx hb dX5_serve_51 (by decide) (fun c_ => absurd c_ (by decide)) (fun c_ => ?_)
        refine lv_aload hx hb dX5_serve_54 (lv_at hl 2 rfl) ?_
        refine lv_iload_n hx hb dX5_serve_56 rfl (lv_at hl 6 rfl) ?_
        refine t_callV (n := 1) (As := [.int x2]) (rest := []) (ci := 3) hB hT hl.1 (s_placeOfKey l D cI cZ cS cR N0 g hI q_2 x2 r_q_2) (ro_ci r_q_2 rfl) rfl k_516 k_60 k_513 k_514 k_515 (by decide +kernel) ⟨(Nat.le_of_ble_eq_true rfl), (Nat.le_of_ble_eq_true rfl)⟩ rfl (Nat.le_of_ble_eq_true rfl) ⟨(Nat.le_of_ble_eq_true rfl), (Nat.le_of_ble_eq_true rfl)⟩ dX5_serve_57 (fun v g_88 H locs hp hT => ?_)
        obtain ⟨r_89, rfl, eg, f_90⟩ := hp
        rw [eg] at hT
        clear eg
        refine W.eq (g2 := F0 m 60 ls [.int r_89]) rfl ?_
        rcases f_90 with rfl | ⟨hw_93, hw_94⟩
        · refine W.eq (g2 := F0 m 60 ls [.int (-1)]) rfl ?_
          refine lv_goto (tgt := 64) hx hb dX5_serve_60 (by decide) ?_
          refine lv_istore (lv' := [(7, .int (-1)), (6, .int 0), (5, .int 1), (4, .ref q_2), (0, .ref h), (1, .int n), (2, .int x1), (3, .int x2)]) hx hb dX5_serve_64 hl (by decide) rfl (fun ls hl => ?_)
          refine lv_iload hx hb dX5_serve_66 (lv_at hl 0 rfl) ?_
          refine lv_iconst (v := (-1)) hx hb dX5_serve_68 (by decide) ?_
          refine lv_icmp_eq (tgt := 81) hx hb dX5_serve_69 (by decide) (fun c_ => ?_) (fun c_ => absurd (by decide) c_)
          refine lv_iload hx hb dX5_serve_81 (lv_at hl 1 rfl) ?_
          refine lv_if_eq (tgt := 98) hx hb dX5_serve_83 (by decide) (fun c_ => ?_) (fun c_ => absurd (by decide) c_)
          refine lv_aload hx hb dX5_serve_98 (lv_at hl 3 rfl) ?_
          refine lv_iload_n hx hb dX5_serve_100 rfl (lv_at hl 6 rfl) ?_
          refine lv_iload_n hx hb dX5_serve_101 rfl (lv_at hl 7 rfl) ?_
          refine t_callV (n := 2) (As := [.int x1, .int x2]) (rest := []) (ci := 3) hB hT hl.1 (s_beginKnown l D cI cZ cS cR N0 g hI q_2 x1 x2 r_q_2) (ro_ci r_q_2 rfl) rfl k_529 k_60 k_526 k_527 k_528 (by decide +kernel) ⟨(Nat.le_of_ble_eq_true rfl), (Nat.le_of_ble_eq_true rfl)⟩ rfl (Nat.le_of_ble_eq_true rfl) ⟨(Nat.le_of_ble_eq_true rfl), (Nat.le_of_ble_eq_true rfl)⟩ dX5_serve_102 (fun v g_95 H locs hp hT => ?_)
          obtain ⟨rfl, hI, x_97, m_96⟩ := hp
          have hM : Sm md_s_serve5 g g_95 := hM.tr hE (m_96.mo (fun r k h => mdle_s_serve5_s_beginKnown h))
          have hE : Ex g g_95 := hE.tr x_97
          have r_98 : g_95.1 h = 6 := (Ex.r x_97 r_h (by decide))
          have r_99 : g_95.1 v_1 = 41 := (Ex.r x_97 r_v_1 (by decide))
          have r_100 : g_95.1 q_2 = 4 := (Ex.r x_97 r_q_2 (by decide))
          have n_101 : g_95.2.2.1 v_1 = 6 := (Ex.n x_97 r_v_1 (by decide) n_v_1)
          have kn_102 : g_95.2.1 h 0 = .ref v_1 := (Sm.v m_96 r_h (by decide) rfl e_v_1)
          refine W.eq (g2 := F0 m 105 ls []) rfl ?_
          refine lv_aload_n hx hb dX5_serve_105 rfl (lv_at hl 4 rfl) ?_
          refine lv_iload_n hx hb dX5_serve_106 rfl (lv_at hl 5 rfl) ?_
          refine lv_iload_n hx hb dX5_serve_107 rfl (lv_at hl 6 rfl) ?_
          refine lv_iload_n hx hb dX5_serve_108 rfl (lv_at hl 7 rfl) ?_
          refine t_callV (n := 3) (As := [.int n, .int x1, .int x2]) (rest := []) (ci := 5) hB hT hl.1 (s_runActs5 l D cI cZ cS cR N0 g_95 hI h n x1 x2 r_98 (by omega) (by omega)) (ro_ci r_98 rfl) rfl k_534 k_59 k_531 k_533 k_13 (by decide +kernel) ⟨(Nat.le_of_ble_eq_true rfl), (Nat.le_of_ble_eq_true rfl)⟩ rfl (Nat.le_of_ble_eq_true rfl) ⟨(Nat.le_of_ble_eq_true rfl), (Nat.le_of_ble_eq_true rfl)⟩ dX5_serve_109 (fun v g_103 H locs hp hT => ?_)
          obtain ⟨r_104, rfl, hI, x_106, m_105⟩ := hp
          have hM : Sm md_s_serve5 g g_103 := hM.tr hE (m_105.mo (fun r k h => mdle_s_serve5_s_runActs5 h))
          have hE : Ex g g_103 := hE.tr x_106
          have r_107 : g_103.1 h = 6 := (Ex.r x_106 r_98 (by decide))
          have r_108 : g_103.1 v_1 = 41 := (Ex.r x_106 r_99 (by decide))
          have r_109 : g_103.1 q_2 = 4 := (Ex.r x_106 r_100 (by decide))
          have n_110 : g_103.2.2.1 v_1 = 6 := (Ex.n x_106 r_99 (by decide) n_101)
          have kn_111 : g_103.2.1 h 0 = .ref v_1 := (Sm.v m_105 r_98 (by decide) rfl kn_102)
          refine W.eq (g2 := F0 m 112 ls [.int r_104]) rfl ?_
          refine lv_istore (lv' := [(8, .int r_104), (7, .int (-1)), (6, .int 0), (5, .int 1), (4, .ref q_2), (0, .ref h), (1, .int n), (2, .int x1), (3, .int x2)]) hx hb dX5_serve_112 hl (by decide) rfl (fun ls hl => ?_)
          refine lv_aload_n hx hb dX5_serve_114 rfl (lv_at hl 5 rfl) ?_
          obtain ⟨v_112, e_v_112, l_v_112, u_v_112⟩ := f_6_7 hI r_107
          refine t_get (ci := 5) (v := .int v_112) hB hT (ro_ci r_107 rfl) rfl 7 (by decide) k_216 e_v_112 dX5_serve_115 ?_
          refine lv_if_eq (tgt := 124) hx hb dX5_serve_118 (by decide) (fun c_113 => ?_) (fun c_113 => ?_)
          · have c_113' : v_112.toInt = 0 := i_eq c_113 rfl (by decide)
            refine lv_iload hx hb dX5_serve_124 (lv_at hl 2 rfl) ?_
            refine lv_if_eq (tgt := 140) hx hb dX5_serve_126 (by decide) (fun c_ => ?_) (fun c_ => absurd (by decide) c_)
            refine lv_iload hx hb dX5_serve_140 (lv_at hl 3 rfl) ?_
            refine lv_if_eq (tgt := 158) hx hb dX5_serve_142 (by decide) (fun c_ => absurd c_ (by decide)) (fun c_ => ?_)
            refine lv_aload hx hb dX5_serve_145 (lv_at hl 4 rfl) ?_
            refine lv_iload_n hx hb dX5_serve_147 rfl (lv_at hl 8 rfl) ?_
            refine lv_iload_n hx hb dX5_serve_148 rfl (lv_at hl 7 rfl) ?_
            refine lv_iload hx hb dX5_serve_149 (lv_at hl 0 rfl) ?_
            refine lv_aload_n hx hb dX5_serve_151 rfl (lv_at hl 5 rfl) ?_
            obtain ⟨v_114, e_v_114⟩ := f_6_2 hI r_107
            refine t_get (ci := 5) (v := .int v_114) hB hT (ro_ci r_107 rfl) rfl 2 (by decide) k_205 e_v_114 dX5_serve_152 ?_
            refine t_callV (n := 4) (As := [.int x2, .int x1, .int r_104, .int v_114]) (rest := []) (ci := 3) hB hT hl.1 (s_keep l D cI cZ cS cR N0 g_103 hI q_2 x2 x1 r_104 v_114 r_109) (ro_ci r_109 rfl) rfl k_524 k_60 k_521 k_522 k_523 (by decide +kernel) ⟨(Nat.le_of_ble_eq_true rfl), (Nat.le_of_ble_eq_true rfl)⟩ rfl (Nat.le_of_ble_eq_true rfl) ⟨(Nat.le_of_ble_eq_true rfl), (Nat.le_of_ble_eq_true rfl)⟩ dX5_serve_155 (fun v g_115 H locs hp hT => ?_)
            obtain ⟨rfl, hI, x_117, m_116⟩ := hp
            have hM : Sm md_s_serve5 g g_115 := hM.tr hE (m_116.mo (fun r k h => mdle_s_serve5_s_keep h))
            have hE : Ex g g_115 := hE.tr x_117
            have r_118 : g_115.1 h = 6 := (Ex.r x_117 r_107 (by decide))
            have r_119 : g_115.1 v_1 = 41 := (Ex.r x_117 r_108 (by decide))
            have r_120 : g_115.1 q_2 = 4 := (Ex.r x_117 r_109 (by decide))
            have n_121 : g_115.2.2.1 v_1 = 6 := (Ex.n x_117 r_108 (by decide) n_110)
            have kn_122 : g_115.2.1 h 0 = .ref v_1 := (Sm.v m_116 r_107 (by decide) rfl kn_111)
            have kn_123 : g_115.2.1 h 7 = .int v_112 := (Sm.v m_116 r_107 (by decide) rfl e_v_112)
            have kn_124 : g_115.2.1 h 2 = .int v_114 := (Sm.v m_116 r_107 (by decide) rfl e_v_114)
            refine W.eq (g2 := F0 m 158 ls []) rfl ?_
            refine lv_iload hx hb dX5_serve_158 (lv_at hl 0 rfl) ?_
            exact t_iret hB hr hT (Nat.le_of_ble_eq_true rfl) (Nat.le_of_ble_eq_true rfl) dX5_serve_160 ⟨r_104, rfl, hI, hE, hM⟩
          · have c_113' : v_112.toInt ≠ 0 := i_ne c_113 rfl (by decide)
            refine lv_bipush (v := (-2)) hx hb dX5_serve_121 (by decide) ?_
            exact t_iret hB hr hT (Nat.le_of_ble_eq_true rfl) (Nat.le_of_ble_eq_true rfl) dX5_serve_123 ⟨(-2), rfl, hI, hE, hM⟩
        · refine W.eq (g2 := F0 m 60 ls [.int r_89]) rfl ?_
          refine lv_goto (tgt := 64) hx hb dX5_serve_60 (by decide) ?_
          refine lv_istore (lv' := [(7, .int r_89), (6, .int 0), (5, .int 1), (4, .ref q_2), (0, .ref h), (1, .int n), (2, .int x1), (3, .int x2)]) hx hb dX5_serve_64 hl (by decide) rfl (fun ls hl => ?_)
          refine lv_iload hx hb dX5_serve_66 (lv_at hl 0 rfl) ?_
          refine lv_iconst (v := (-1)) hx hb dX5_serve_68 (by decide) ?_
          refine lv_icmp_eq (tgt := 81) hx hb dX5_serve_69 (by decide) (fun c_125 => ?_) (fun c_125 => ?_)
          · have c_125' : r_89.toInt = (-1) := i_eq c_125 rfl (by decide)
            exact absurd c_125' (by omega)
          · have c_125' : r_89.toInt ≠ (-1) := i_ne c_125 rfl (by decide)
            refine lv_aload hx hb dX5_serve_72 (lv_at hl 3 rfl) ?_
            refine lv_iload hx hb dX5_serve_74 (lv_at hl 0 rfl) ?_
            refine lv_iload_n hx hb dX5_serve_76 rfl (lv_at hl 6 rfl) ?_
            refine t_callV (n := 2) (As := [.int r_89, .int x1]) (rest := []) (ci := 3) hB hT hl.1 (s_keptAnswer l D cI cZ cS cR N0 g hI q_2 r_89 x1 r_q_2 (by omega) (by omega)) (ro_ci r_q_2 rfl) rfl k_520 k_60 k_517 k_518 k_519 (by decide +kernel) ⟨(Nat.le_of_ble_eq_true rfl), (Nat.le_of_ble_eq_true rfl)⟩ rfl (Nat.le_of_ble_eq_true rfl) ⟨(Nat.le_of_ble_eq_true rfl), (Nat.le_of_ble_eq_true rfl)⟩ dX5_serve_77 (fun v g_126 H locs hp hT => ?_)
            obtain ⟨r_127, rfl, eg⟩ := hp
            rw [eg] at hT
            clear eg
            refine W.eq (g2 := F0 m 80 ls [.int r_127]) rfl ?_
            exact t_iret hB hr hT (Nat.le_of_ble_eq_true rfl) (Nat.le_of_ble_eq_true rfl) dX5_serve_80 ⟨r_127, rfl, hI, hE, hM⟩
    · refine W.eq (g2 := F0 m 18 ls [.int 0]) rfl ?_
      refine lv_if_eq (tgt := 25) hx hb dX5_serve_18 (by decide) (fun c_ => ?_) (fun c_ => absurd (by decide) c_)
      refine lv_iconst (v := 0) hx hb dX5_serve_25 (by decide) ?_
      refine lv_istore (lv' := [(5, .int 0), (4, .ref q_2), (0, .ref h), (1, .int n), (2, .int x1), (3, .int x2)]) hx hb dX5_serve_26 hl (by decide) rfl (fun ls hl => ?_)
      refine lv_iload hx hb dX5_serve_28 (lv_at hl 0 rfl) ?_
      refine lv_if_eq (tgt := 46) hx hb dX5_serve_30 (by decide) (fun c_ => ?_) (fun c_ => absurd (by decide) c_)
      refine lv_iconst (v := 0) hx hb dX5_serve_46 (by decide) ?_
      refine lv_istore (lv' := [(6, .int 0), (5, .int 0), (4, .ref q_2), (0, .ref h), (1, .int n), (2, .int x1), (3, .int x2)]) hx hb dX5_serve_47 hl (by decide) rfl (fun ls hl => ?_)
      refine lv_iload hx hb dX5_serve_49 (lv_at hl 1 rfl) ?_
      refine lv_if_eq (tgt := 63) hx hb dX5_serve_51 (by decide) (fun c_ => ?_) (fun c_ => absurd (by decide) c_)
      refine lv_iconst (v := (-1)) hx hb dX5_serve_63 (by decide) ?_
      refine lv_istore (lv' := [(7, .int (-1)), (6, .int 0), (5, .int 0), (4, .ref q_2), (0, .ref h), (1, .int n), (2, .int x1), (3, .int x2)]) hx hb dX5_serve_64 hl (by decide) rfl (fun ls hl => ?_)
      refine lv_iload hx hb dX5_serve_66 (lv_at hl 0 rfl) ?_
      refine lv_iconst (v := (-1)) hx hb dX5_serve_68 (by decide) ?_
      refine lv_icmp_eq (tgt := 81) hx hb dX5_serve_69 (by decide) (fun c_ => ?_) (fun c_ => absurd (by decide) c_)
      refine lv_iload hx hb dX5_serve_81 (lv_at hl 1 rfl) ?_
      refine lv_if_eq (tgt := 98) hx hb dX5_serve_83 (by decide) (fun c_ => ?_) (fun c_ => absurd (by decide) c_)
      refine lv_aload hx hb dX5_serve_98 (lv_at hl 3 rfl) ?_
      refine lv_iload_n hx hb dX5_serve_100 rfl (lv_at hl 6 rfl) ?_
      refine lv_iload_n hx hb dX5_serve_101 rfl (lv_at hl 7 rfl) ?_
      refine t_callV (n := 2) (As := [.int x1, .int x2]) (rest := []) (ci := 3) hB hT hl.1 (s_beginKnown l D cI cZ cS cR N0 g hI q_2 x1 x2 r_q_2) (ro_ci r_q_2 rfl) rfl k_529 k_60 k_526 k_527 k_528 (by decide +kernel) ⟨(Nat.le_of_ble_eq_true rfl), (Nat.le_of_ble_eq_true rfl)⟩ rfl (Nat.le_of_ble_eq_true rfl) ⟨(Nat.le_of_ble_eq_true rfl), (Nat.le_of_ble_eq_true rfl)⟩ dX5_serve_102 (fun v g_130 H locs hp hT => ?_)
      obtain ⟨rfl, hI, x_132, m_131⟩ := hp
      have hM : Sm md_s_serve5 g g_130 := hM.tr hE (m_131.mo (fun r k h => mdle_s_serve5_s_beginKnown h))
      have hE : Ex g g_130 := hE.tr x_132
      have r_133 : g_130.1 h = 6 := (Ex.r x_132 r_h (by decide))
      have r_134 : g_130.1 v_1 = 41 := (Ex.r x_132 r_v_1 (by decide))
      have r_135 : g_130.1 q_2 = 4 := (Ex.r x_132 r_q_2 (by decide))
      have n_136 : g_130.2.2.1 v_1 = 6 := (Ex.n x_132 r_v_1 (by decide) n_v_1)
      have kn_137 : g_130.2.1 h 0 = .ref v_1 := (Sm.v m_131 r_h (by decide) rfl e_v_1)
      refine W.eq (g2 := F0 m 105 ls []) rfl ?_
      refine lv_aload_n hx hb dX5_serve_105 rfl (lv_at hl 4 rfl) ?_
      refine lv_iload_n hx hb dX5_serve_106 rfl (lv_at hl 5 rfl) ?_
      refine lv_iload_n hx hb dX5_serve_107 rfl (lv_at hl 6 rfl) ?_
      refine lv_iload_n hx hb dX5_serve_108 rfl (lv_at hl 7 rfl) ?_
      refine t_callV (n := 3) (As := [.int n, .int x1, .int x2]) (rest := []) (ci := 5) hB hT hl.1 (s_runActs5 l D cI cZ cS cR N0 g_130 hI h n x1 x2 r_133 (by omega) (by omega)) (ro_ci r_133 rfl) rfl k_534 k_59 k_531 k_533 k_13 (by decide +kernel) ⟨(Nat.le_of_ble_eq_true rfl), (Nat.le_of_ble_eq_true rfl)⟩ rfl (Nat.le_of_ble_eq_true rfl) ⟨(Nat.le_of_ble_eq_true rfl), (Nat.le_of_ble_eq_true rfl)⟩ dX5_serve_109 (fun v g_138 H locs hp hT => ?_)
      obtain ⟨r_139, rfl, hI, x_141, m_140⟩ := hp
      have hM : Sm md_s_serve5 g g_138 := hM.tr hE (m_140.mo (fun r k h => mdle_s_serve5_s_runActs5 h))
      have hE : Ex g g_138 := hE.tr x_141
      have r_142 : g_138.1 h = 6 := (Ex.r x_141 r_133 (by decide))
      have r_143 : g_138.1 v_1 = 41 := (Ex.r x_141 r_134 (by decide))
      have r_144 : g_138.1 q_2 = 4 := (Ex.r x_141 r_135 (by decide))
      have n_145 : g_138.2.2.1 v_1 = 6 := (Ex.n x_141 r_134 (by decide) n_136)
      have kn_146 : g_138.2.1 h 0 = .ref v_1 := (Sm.v m_140 r_133 (by decide) rfl kn_137)
      refine W.eq (g2 := F0 m 112 ls [.int r_139]) rfl ?_
      refine lv_istore (lv' := [(8, .int r_139), (7, .int (-1)), (6, .int 0), (5, .int 0), (4, .ref q_2), (0, .ref h), (1, .int n), (2, .int x1), (3, .int x2)]) hx hb dX5_serve_112 hl (by decide) rfl (fun ls hl => ?_)
      refine lv_aload_n hx hb dX5_serve_114 rfl (lv_at hl 5 rfl) ?_
      obtain ⟨v_147, e_v_147, l_v_147, u_v_147⟩ := f_6_7 hI r_142
      refine t_get (ci := 5) (v := .int v_147) hB hT (ro_ci r_142 rfl) rfl 7 (by decide) k_216 e_v_147 dX5_serve_115 ?_
      refine lv_if_eq (tgt := 124) hx hb dX5_serve_118 (by decide) (fun c_148 => ?_) (fun c_148 => ?_)
      · have c_148' : v_147.toInt = 0 := i_eq c_148 rfl (by decide)
        refine lv_iload hx hb dX5_serve_124 (lv_at hl 2 rfl) ?_
        refine lv_if_eq (tgt := 140) hx hb dX5_serve_126 (by decide) (fun c_ => ?_) (fun c_ => absurd (by decide) c_)
        refine lv_iload hx hb dX5_serve_140 (lv_at hl 3 rfl) ?_
        refine lv_if_eq (tgt := 158) hx hb dX5_serve_142 (by decide) (fun c_ => ?_) (fun c_ => absurd (by decide) c_)
        refine lv_iload hx hb dX5_serve_158 (lv_at hl 0 rfl) ?_
        exact t_iret hB hr hT (Nat.le_of_ble_eq_true rfl) (Nat.le_of_ble_eq_true rfl) dX5_serve_160 ⟨r_139, rfl, hI, hE, hM⟩
      · have c_148' : v_147.toInt ≠ 0 := i_ne c_148 rfl (by decide)
        refine lv_bipush (v := (-2)) hx hb dX5_serve_121 (by decide) ?_
        exact t_iret hB hr hT (Nat.le_of_ble_eq_true rfl) (Nat.le_of_ble_eq_true rfl) dX5_serve_123 ⟨(-2), rfl, hI, hE, hM⟩
abbrev md_s_fromOutside : Nat → Nat → Bool := mdf [(4, 2), (4, 5), (4, 10), (4, 11), (4, 14), (6, 2), (6, 4), (6, 5), (6, 6), (6, 7), (50, 99)]
theorem mdle_s_fromOutside_s_dropOver {r k : Nat} (h : md_s_fromOutside r k = false) : md_s_dropOver r k = false := mdf_le (by decide +kernel) h
theorem mdle_s_fromOutside_s_serve5 {r k : Nat} (h : md_s_fromOutside r k = false) : md_s_serve5 r k = false := mdf_le (by decide +kernel) h
set_option maxHeartbeats 4000000 in
set_option maxRecDepth 100000 in
theorem lt_s_fromOutside_a (l : Launch) (D : va_G) (cI cZ cS cR : ClassId) (N0 : NT) (g : GS) (h : Nat) (n : Int32) (x1 : Int32) (x2 : Int32) (x3 : Int32) (r_h : g.1 h = 6) (l_n : 0 ≤ n.toInt) (u_n : n.toInt ≤ 5) {p : Program} {e : Env} {s : State} {m : MethodId} {args : Array Value} {below : List Frame} {meth : Method} {c : Code} (hB : Tz p s m meth c args cX5_fromOutside 6 RX5 D cI cZ cS cR N0) (hr : meth.sig.returnType = (some .int))    : ∀ (kf : Nat) (g1 : GS) (i : Int32)  (H : Heap) (locs : List Loc) (ls : Array Slot), Tv D cI cZ cS cR N0 s.heap H locs g1 → Inv g1 → Ex g g1 → Sm md_s_fromOutside g g1 → 0 ≤ i.toInt → i.toInt ≤ 6 → (6 ≤ i.toInt + kf) → lv_has ls 6 [(5, .int i), (0, .ref h), (1, .int n), (2, .int x1), (3, .int x2), (4, .int x3)] → W p l e (rmx 13 0 0) s m args below meth c H locs 0 0 (MQ below (tQ D cI cZ cS cR N0 (fun v g' => ∃ (r : Int32), v = some (.int r) ∧ Inv g' ∧ Ex g g' ∧ Sm md_s_fromOutside g g')) args s 0 0 (fun q => N0.1 ≤ q)) (F0 m 13 ls []) := by
  have hx := hB.1
  have hb := hB.2.1
  intro kf
  induction kf using Nat.strongRecOn with
  | ind kf ih =>
    intro g1 i H locs ls hT hI hE hM l_i u_i hk hl
    have r_1 : g1.1 h = 6 := Ex.r hE r_h (by decide)
    refine lv_iload hx hb dX5_fromOutside_13 (lv_at hl 0 rfl) ?_
    refine lv_aload_n hx hb dX5_fromOutside_15 rfl (lv_at hl 1 rfl) ?_
    obtain ⟨v_2, e_v_2, l_v_2, u_v_2⟩ := f_6_1 hI r_1
    refine t_get (ci := 5) (v := .int v_2) hB hT (ro_ci r_1 rfl) rfl 1 (by decide) k_202 e_v_2 dX5_fromOutside_16 ?_
    refine lv_icmp_ge (tgt := 42) hx hb dX5_fromOutside_19 (by decide) (fun c_3 => ?_) (fun c_3 => ?_)
    · have c_3' : v_2.toInt ≤ i.toInt := i_le c_3 rfl rfl
      refine lv_aload_n hx hb dX5_fromOutside_42 rfl (lv_at hl 1 rfl) ?_
      refine lv_iconst (v := 0) hx hb dX5_fromOutside_43 (by decide) ?_
      refine t_put0 (ci := 5) (v := .int 0) hB hT (ro_ci r_1 rfl) (ro_n0 r_1 (by decide)) rfl 5 (by decide) k_213 (Or.inl rfl) rfl rfl dX5_fromOutside_44 (fun H locs hT => ?_)
      have hI : Inv (sF g1 h 5 (.int 0)) := hI.sF (p_6_5 r_1 (⟨_, rfl⟩))
      have hM : Sm md_s_fromOutside g (sF g1 h 5 (.int 0)) := hM.tr hE (Sm_sF (by rw [r_1]; rfl))
      have hE : Ex g (sF g1 h 5 (.int 0)) := hE
      refine lv_aload_n hx hb dX5_fromOutside_47 rfl (lv_at hl 1 rfl) ?_
      refine lv_iload hx hb dX5_fromOutside_48 (lv_at hl 5 rfl) ?_
      refine lv_iconst (v := 1) hx hb dX5_fromOutside_50 (by decide) ?_
      refine lv_icmp_lt (tgt := 66) hx hb dX5_fromOutside_51 (by decide) (fun c_4 => ?_) (fun c_4 => ?_)
      · have c_4' : x3.toInt < 1 := i_lt c_4 rfl (by decide)
        refine lv_bipush (v := 61) hx hb dX5_fromOutside_66 (by decide) ?_
        refine t_put0 (ci := 5) (v := .int 61) hB hT (ro_ci r_1 rfl) (ro_n0 r_1 (by decide)) rfl 6 (by decide) k_215 (Or.inl rfl) rfl rfl dX5_fromOutside_68 (fun H locs hT => ?_)
        have hI : Inv (sF (sF g1 h 5 (.int 0)) h 6 (.int 61)) := hI.sF (p_6_6 r_1 (⟨_, rfl⟩))
        have hM : Sm md_s_fromOutside g (sF (sF g1 h 5 (.int 0)) h 6 (.int 61)) := hM.tr hE (Sm_sF (by rw [r_1]; rfl))
        have hE : Ex g (sF (sF g1 h 5 (.int 0)) h 6 (.int 61)) := hE
        refine lv_aload_n hx hb dX5_fromOutside_71 rfl (lv_at hl 1 rfl) ?_
        refine lv_iconst (v := 0) hx hb dX5_fromOutside_72 (by decide) ?_
        refine t_put0 (ci := 5) (v := .int 0) hB hT (ro_ci r_1 rfl) (ro_n0 r_1 (by decide)) rfl 7 (by decide) k_216 (Or.inl rfl) rfl rfl dX5_fromOutside_73 (fun H locs hT => ?_)
        have hI : Inv (sF (sF (sF g1 h 5 (.int 0)) h 6 (.int 61)) h 7 (.int 0)) := hI.sF (p_6_7 r_1 (⟨_, rfl, by decide, by decide⟩))
        have hM : Sm md_s_fromOutside g (sF (sF (sF g1 h 5 (.int 0)) h 6 (.int 61)) h 7 (.int 0)) := hM.tr hE (Sm_sF (by rw [r_1]; rfl))
        have hE : Ex g (sF (sF (sF g1 h 5 (.int 0)) h 6 (.int 61)) h 7 (.int 0)) := hE
        refine lv_aload_n hx hb dX5_fromOutside_76 rfl (lv_at hl 1 rfl) ?_
        refine lv_iload_n hx hb dX5_fromOutside_77 rfl (lv_at hl 2 rfl) ?_
        refine lv_iload_n hx hb dX5_fromOutside_78 rfl (lv_at hl 3 rfl) ?_
        refine lv_iload_n hx hb dX5_fromOutside_79 rfl (lv_at hl 4 rfl) ?_
        refine t_callV (n := 3) (As := [.int n, .int x1, .int x2]) (rest := []) (ci := 5) hB hT hl.1 (s_serve5 l D cI cZ cS cR N0 (sF (sF (sF g1 h 5 (.int 0)) h 6 (.int 61)) h 7 (.int 0)) hI h n x1 x2 r_1 (by omega) (by omega)) (ro_ci r_1 rfl) rfl k_508 k_59 k_505 k_507 k_12 (by decide +kernel) ⟨(Nat.le_of_ble_eq_true rfl), (Nat.le_of_ble_eq_true rfl)⟩ rfl (Nat.le_of_ble_eq_true rfl) ⟨(Nat.le_of_ble_eq_true rfl), (Nat.le_of_ble_eq_true rfl)⟩ dX5_fromOutside_80 (fun v g_5 H locs hp hT => ?_)
        obtain ⟨r_6, rfl, hI, x_8, m_7⟩ := hp
        have hM : Sm md_s_fromOutside g g_5 := hM.tr hE (m_7.mo (fun r k h => mdle_s_fromOutside_s_serve5 h))
        have hE : Ex g g_5 := hE.tr x_8
        have r_9 : g_5.1 h = 6 := (Ex.r x_8 r_1 (by decide))
        have kn_10 : g_5.2.1 h 1 = .int v_2 := (Sm.v m_7 r_1 (by decide) rfl (sF_k (sF_k (sF_k e_v_2 (by decide)) (by decide)) (by decide)))
        have kn_11 : g_5.2.1 h 6 = .int 61 := (Sm.v m_7 r_1 (by decide) rfl (sF_k sF_eq (by decide)))
        refine W.eq (g2 := F0 m 83 ls [.int r_6]) rfl ?_
        refine lv_istore (lv' := [(5, .int r_6), (0, .ref h), (1, .int n), (2, .int x1), (3, .int x2), (4, .int x3)]) hx hb dX5_fromOutside_83 hl (by decide) rfl (fun ls hl => ?_)
        refine lv_aload_n hx hb dX5_fromOutside_85 rfl (lv_at hl 1 rfl) ?_
        obtain ⟨v_12, e_v_12, l_v_12, u_v_12⟩ := f_6_7 hI r_9
        refine t_get (ci := 5) (v := .int v_12) hB hT (ro_ci r_9 rfl) rfl 7 (by decide) k_216 e_v_12 dX5_fromOutside_86 ?_
        refine lv_if_eq (tgt := 97) hx hb dX5_fromOutside_89 (by decide) (fun c_13 => ?_) (fun c_13 => ?_)
        · have c_13' : v_12.toInt = 0 := i_eq c_13 rfl (by decide)
          refine lv_iload hx hb dX5_fromOutside_97 (lv_at hl 0 rfl) ?_
          exact t_iret hB hr hT (Nat.le_of_ble_eq_true rfl) (Nat.le_of_ble_eq_true rfl) dX5_fromOutside_99 ⟨r_6, rfl, hI, hE, hM⟩
        · have c_13' : v_12.toInt ≠ 0 := i_ne c_13 rfl (by decide)
          refine lv_bipush (v := (-2)) hx hb dX5_fromOutside_92 (by decide) ?_
          refine lv_goto (tgt := 99) hx hb dX5_fromOutside_94 (by decide) ?_
          exact t_iret hB hr hT (Nat.le_of_ble_eq_true rfl) (Nat.le_of_ble_eq_true rfl) dX5_fromOutside_99 ⟨(-2), rfl, hI, hE, hM⟩
      · have c_4' : 1 ≤ x3.toInt := i_nlt c_4 rfl (by decide)
        refine lv_iload hx hb dX5_fromOutside_54 (lv_at hl 5 rfl) ?_
        refine lv_bipush (v := 60) hx hb dX5_fromOutside_56 (by decide) ?_
        refine lv_icmp_gt (tgt := 66) hx hb dX5_fromOutside_58 (by decide) (fun c_14 => ?_) (fun c_14 => ?_)
        · have c_14' : 60 < x3.toInt := i_lt c_14 (by decide) rfl
          refine lv_bipush (v := 61) hx hb dX5_fromOutside_66 (by decide) ?_
          refine t_put0 (ci := 5) (v := .int 61) hB hT (ro_ci r_1 rfl) (ro_n0 r_1 (by decide)) rfl 6 (by decide) k_215 (Or.inl rfl) rfl rfl dX5_fromOutside_68 (fun H locs hT => ?_)
          have hI : Inv (sF (sF g1 h 5 (.int 0)) h 6 (.int 61)) := hI.sF (p_6_6 r_1 (⟨_, rfl⟩))
          have hM : Sm md_s_fromOutside g (sF (sF g1 h 5 (.int 0)) h 6 (.int 61)) := hM.tr hE (Sm_sF (by rw [r_1]; rfl))
          have hE : Ex g (sF (sF g1 h 5 (.int 0)) h 6 (.int 61)) := hE
          refine lv_aload_n hx hb dX5_fromOutside_71 rfl (lv_at hl 1 rfl) ?_
          refine lv_iconst (v := 0) hx hb dX5_fromOutside_72 (by decide) ?_
          refine t_put0 (ci := 5) (v := .int 0) hB hT (ro_ci r_1 rfl) (ro_n0 r_1 (by decide)) rfl 7 (by decide) k_216 (Or.inl rfl) rfl rfl dX5_fromOutside_73 (fun H locs hT => ?_)
          have hI : Inv (sF (sF (sF g1 h 5 (.int 0)) h 6 (.int 61)) h 7 (.int 0)) := hI.sF (p_6_7 r_1 (⟨_, rfl, by decide, by decide⟩))
          have hM : Sm md_s_fromOutside g (sF (sF (sF g1 h 5 (.int 0)) h 6 (.int 61)) h 7 (.int 0)) := hM.tr hE (Sm_sF (by rw [r_1]; rfl))
          have hE : Ex g (sF (sF (sF g1 h 5 (.int 0)) h 6 (.int 61)) h 7 (.int 0)) := hE
          refine lv_aload_n hx hb dX5_fromOutside_76 rfl (lv_at hl 1 rfl) ?_
          refine lv_iload_n hx hb dX5_fromOutside_77 rfl (lv_at hl 2 rfl) ?_
          refine lv_iload_n hx hb dX5_fromOutside_78 rfl (lv_at hl 3 rfl) ?_
          refine lv_iload_n hx hb dX5_fromOutside_79 rfl (lv_at hl 4 rfl) ?_
          refine t_callV (n := 3) (As := [.int n, .int x1, .int x2]) (rest := []) (ci := 5) hB hT hl.1 (s_serve5 l D cI cZ cS cR N0 (sF (sF (sF g1 h 5 (.int 0)) h 6 (.int 61)) h 7 (.int 0)) hI h n x1 x2 r_1 (by omega) (by omega)) (ro_ci r_1 rfl) rfl k_508 k_59 k_505 k_507 k_12 (by decide +kernel) ⟨(Nat.le_of_ble_eq_true rfl), (Nat.le_of_ble_eq_true rfl)⟩ rfl (Nat.le_of_ble_eq_true rfl) ⟨(Nat.le_of_ble_eq_true rfl), (Nat.le_of_ble_eq_true rfl)⟩ dX5_fromOutside_80 (fun v g_15 H locs hp hT => ?_)
          obtain ⟨r_16, rfl, hI, x_18, m_17⟩ := hp
          have hM : Sm md_s_fromOutside g g_15 := hM.tr hE (m_17.mo (fun r k h => mdle_s_fromOutside_s_serve5 h))
          have hE : Ex g g_15 := hE.tr x_18
          have r_19 : g_15.1 h = 6 := (Ex.r x_18 r_1 (by decide))
          have kn_20 : g_15.2.1 h 1 = .int v_2 := (Sm.v m_17 r_1 (by decide) rfl (sF_k (sF_k (sF_k e_v_2 (by decide)) (by decide)) (by decide)))
          have kn_21 : g_15.2.1 h 6 = .int 61 := (Sm.v m_17 r_1 (by decide) rfl (sF_k sF_eq (by decide)))
          refine W.eq (g2 := F0 m 83 ls [.int r_16]) rfl ?_
          refine lv_istore (lv' := [(5, .int r_16), (0, .ref h), (1, .int n), (2, .int x1), (3, .int x2), (4, .int x3)]) hx hb dX5_fromOutside_83 hl (by decide) rfl (fun ls hl => ?_)
          refine lv_aload_n hx hb dX5_fromOutside_85 rfl (lv_at hl 1 rfl) ?_
          obtain ⟨v_22, e_v_22, l_v_22, u_v_22⟩ := f_6_7 hI r_19
          refine t_get (ci := 5) (v := .int v_22) hB hT (ro_ci r_19 rfl) rfl 7 (by decide) k_216 e_v_22 dX5_fromOutside_86 ?_
          refine lv_if_eq (tgt := 97) hx hb dX5_fromOutside_89 (by decide) (fun c_23 => ?_) (fun c_23 => ?_)
          · have c_23' : v_22.toInt = 0 := i_eq c_23 rfl (by decide)
            refine lv_iload hx hb dX5_fromOutside_97 (lv_at hl 0 rfl) ?_
            exact t_iret hB hr hT (Nat.le_of_ble_eq_true rfl) (Nat.le_of_ble_eq_true rfl) dX5_fromOutside_99 ⟨r_16, rfl, hI, hE, hM⟩
          · have c_23' : v_22.toInt ≠ 0 := i_ne c_23 rfl (by decide)
            refine lv_bipush (v := (-2)) hx hb dX5_fromOutside_92 (by decide) ?_
            refine lv_goto (tgt := 99) hx hb dX5_fromOutside_94 (by decide) ?_
            exact t_iret hB hr hT (Nat.le_of_ble_eq_true rfl) (Nat.le_of_ble_eq_true rfl) dX5_fromOutside_99 ⟨(-2), rfl, hI, hE, hM⟩
        · have c_14' : x3.toInt ≤ 60 := i_nlt c_14 (by decide) rfl
          refine lv_iload hx hb dX5_fromOutside_61 (lv_at hl 5 rfl) ?_
          refine lv_goto (tgt := 68) hx hb dX5_fromOutside_63 (by decide) ?_
          refine t_put0 (ci := 5) (v := .int x3) hB hT (ro_ci r_1 rfl) (ro_n0 r_1 (by decide)) rfl 6 (by decide) k_215 (Or.inl rfl) rfl rfl dX5_fromOutside_68 (fun H locs hT => ?_)
          have hI : Inv (sF (sF g1 h 5 (.int 0)) h 6 (.int x3)) := hI.sF (p_6_6 r_1 (⟨_, rfl⟩))
          have hM : Sm md_s_fromOutside g (sF (sF g1 h 5 (.int 0)) h 6 (.int x3)) := hM.tr hE (Sm_sF (by rw [r_1]; rfl))
          have hE : Ex g (sF (sF g1 h 5 (.int 0)) h 6 (.int x3)) := hE
          refine lv_aload_n hx hb dX5_fromOutside_71 rfl (lv_at hl 1 rfl) ?_
          refine lv_iconst (v := 0) hx hb dX5_fromOutside_72 (by decide) ?_
          refine t_put0 (ci := 5) (v := .int 0) hB hT (ro_ci r_1 rfl) (ro_n0 r_1 (by decide)) rfl 7 (by decide) k_216 (Or.inl rfl) rfl rfl dX5_fromOutside_73 (fun H locs hT => ?_)
          have hI : Inv (sF (sF (sF g1 h 5 (.int 0)) h 6 (.int x3)) h 7 (.int 0)) := hI.sF (p_6_7 r_1 (⟨_, rfl, by decide, by decide⟩))
          have hM : Sm md_s_fromOutside g (sF (sF (sF g1 h 5 (.int 0)) h 6 (.int x3)) h 7 (.int 0)) := hM.tr hE (Sm_sF (by rw [r_1]; rfl))
          have hE : Ex g (sF (sF (sF g1 h 5 (.int 0)) h 6 (.int x3)) h 7 (.int 0)) := hE
          refine lv_aload_n hx hb dX5_fromOutside_76 rfl (lv_at hl 1 rfl) ?_
          refine lv_iload_n hx hb dX5_fromOutside_77 rfl (lv_at hl 2 rfl) ?_
          refine lv_iload_n hx hb dX5_fromOutside_78 rfl (lv_at hl 3 rfl) ?_
          refine lv_iload_n hx hb dX5_fromOutside_79 rfl (lv_at hl 4 rfl) ?_
          refine t_callV (n := 3) (As := [.int n, .int x1, .int x2]) (rest := []) (ci := 5) hB hT hl.1 (s_serve5 l D cI cZ cS cR N0 (sF (sF (sF g1 h 5 (.int 0)) h 6 (.int x3)) h 7 (.int 0)) hI h n x1 x2 r_1 (by omega) (by omega)) (ro_ci r_1 rfl) rfl k_508 k_59 k_505 k_507 k_12 (by decide +kernel) ⟨(Nat.le_of_ble_eq_true rfl), (Nat.le_of_ble_eq_true rfl)⟩ rfl (Nat.le_of_ble_eq_true rfl) ⟨(Nat.le_of_ble_eq_true rfl), (Nat.le_of_ble_eq_true rfl)⟩ dX5_fromOutside_80 (fun v g_24 H locs hp hT => ?_)
          obtain ⟨r_25, rfl, hI, x_27, m_26⟩ := hp
          have hM : Sm md_s_fromOutside g g_24 := hM.tr hE (m_26.mo (fun r k h => mdle_s_fromOutside_s_serve5 h))
          have hE : Ex g g_24 := hE.tr x_27
          have r_28 : g_24.1 h = 6 := (Ex.r x_27 r_1 (by decide))
          have kn_29 : g_24.2.1 h 1 = .int v_2 := (Sm.v m_26 r_1 (by decide) rfl (sF_k (sF_k (sF_k e_v_2 (by decide)) (by decide)) (by decide)))
          have kn_30 : g_24.2.1 h 6 = .int x3 := (Sm.v m_26 r_1 (by decide) rfl (sF_k sF_eq (by decide)))
          refine W.eq (g2 := F0 m 83 ls [.int r_25]) rfl ?_
          refine lv_istore (lv' := [(5, .int r_25), (0, .ref h), (1, .int n), (2, .int x1), (3, .int x2), (4, .int x3)]) hx hb dX5_fromOutside_83 hl (by decide) rfl (fun ls hl => ?_)
          refine lv_aload_n hx hb dX5_fromOutside_85 rfl (lv_at hl 1 rfl) ?_
          obtain ⟨v_31, e_v_31, l_v_31, u_v_31⟩ := f_6_7 hI r_28
          refine t_get (ci := 5) (v := .int v_31) hB hT (ro_ci r_28 rfl) rfl 7 (by decide) k_216 e_v_31 dX5_fromOutside_86 ?_
          refine lv_if_eq (tgt := 97) hx hb dX5_fromOutside_89 (by decide) (fun c_32 => ?_) (fun c_32 => ?_)
          · have c_32' : v_31.toInt = 0 := i_eq c_32 rfl (by decide)
            refine lv_iload hx hb dX5_fromOutside_97 (lv_at hl 0 rfl) ?_
            exact t_iret hB hr hT (Nat.le_of_ble_eq_true rfl) (Nat.le_of_ble_eq_true rfl) dX5_fromOutside_99 ⟨r_25, rfl, hI, hE, hM⟩
          · have c_32' : v_31.toInt ≠ 0 := i_ne c_32 rfl (by decide)
            refine lv_bipush (v := (-2)) hx hb dX5_fromOutside_92 (by decide) ?_
            refine lv_goto (tgt := 99) hx hb dX5_fromOutside_94 (by decide) ?_
            exact t_iret hB hr hT (Nat.le_of_ble_eq_true rfl) (Nat.le_of_ble_eq_true rfl) dX5_fromOutside_99 ⟨(-2), rfl, hI, hE, hM⟩
    · have c_3' : i.toInt < v_2.toInt := i_nle c_3 rfl rfl
      refine lv_aload_n hx hb dX5_fromOutside_22 rfl (lv_at hl 1 rfl) ?_
      obtain ⟨v_33, e_v_33, r_v_33, n_v_33⟩ := f_6_0 hI r_1
      refine t_get (ci := 5) (v := .ref v_33) hB hT (ro_ci r_1 rfl) rfl 0 (by decide) k_199 e_v_33 dX5_fromOutside_23 ?_
      refine lv_iload hx hb dX5_fromOutside_26 (lv_at hl 0 rfl) ?_
      have i_q_34 : vp_in i 6 := (i_in (n := 6) rfl (by omega) (by omega))
      obtain ⟨q_34, e_q_34, r_q_34⟩ := hI.q r_v_33 n_v_33 (i_cl i_q_34)
      refine t_aald hB hT (Or.inl r_v_33) n_v_33 i_q_34 e_q_34 dX5_fromOutside_28 ?_
      refine lv_aload_n hx hb dX5_fromOutside_29 rfl (lv_at hl 1 rfl) ?_
      obtain ⟨v_35, e_v_35⟩ := f_6_2 hI r_1
      refine t_get (ci := 5) (v := .int v_35) hB hT (ro_ci r_1 rfl) rfl 2 (by decide) k_205 e_v_35 dX5_fromOutside_30 ?_
      refine t_callV (n := 1) (As := [.int v_35]) (rest := []) (ci := 3) hB hT hl.1 (s_dropOver l D cI cZ cS cR N0 g1 hI q_34 v_35 r_q_34) (ro_ci r_q_34 rfl) rfl k_504 k_60 k_501 k_502 k_503 (by decide +kernel) ⟨(Nat.le_of_ble_eq_true rfl), (Nat.le_of_ble_eq_true rfl)⟩ rfl (Nat.le_of_ble_eq_true rfl) ⟨(Nat.le_of_ble_eq_true rfl), (Nat.le_of_ble_eq_true rfl)⟩ dX5_fromOutside_33 (fun v g_36 H locs hp hT => ?_)
      obtain ⟨rfl, hI, x_38, m_37⟩ := hp
      have hM : Sm md_s_fromOutside g g_36 := hM.tr hE (m_37.mo (fun r k h => mdle_s_fromOutside_s_dropOver h))
      have hE : Ex g g_36 := hE.tr x_38
      have r_39 : g_36.1 h = 6 := (Ex.r x_38 r_1 (by decide))
      have r_40 : g_36.1 v_33 = 41 := (Ex.r x_38 r_v_33 (by decide))
      have r_41 : g_36.1 q_34 = 4 := (Ex.r x_38 r_q_34 (by decide))
      have n_42 : g_36.2.2.1 v_33 = 6 := (Ex.n x_38 r_v_33 (by decide) n_v_33)
      have kn_43 : g_36.2.1 h 1 = .int v_2 := (Sm.v m_37 r_1 (by decide) rfl e_v_2)
      have kn_44 : g_36.2.1 h 0 = .ref v_33 := (Sm.v m_37 r_1 (by decide) rfl e_v_33)
      have kn_45 : g_36.2.1 h 2 = .int v_35 := (Sm.v m_37 r_1 (by decide) rfl e_v_35)
      refine W.eq (g2 := F0 m 36 ls []) rfl ?_
      obtain ⟨z_46, ez_46⟩ : ∃ z : Int32, z = i + 1 := ⟨_, rfl⟩
      have e_z_46 : z_46.toInt = i.toInt + 1 := i_add ez_46 rfl (by decide) (by omega) (by omega)
      refine lv_iinc (v := z_46) (lv' := [(5, .int z_46), (0, .ref h), (1, .int n), (2, .int x1), (3, .int x2), (4, .int x3)]) hx hb dX5_fromOutside_36 hl (k := 0) rfl (by rw [ez_46]; rfl) (by decide) rfl (fun ls hl => ?_)
      refine lv_goto (tgt := 13) hx hb dX5_fromOutside_39 (by decide) ?_
      exact ih (kf - 1) (by omega) g_36 z_46 H locs ls hT hI hE hM (by omega) (by omega) (by have e0_ : (0 : Int32).toInt = 0 := (by decide); omega) (lv_sub hl [0, 1, 2, 3, 4, 5] rfl)
set_option maxHeartbeats 4000000 in
set_option maxRecDepth 100000 in
theorem s_fromOutside (l : Launch) (D : va_G) (cI cZ cS cR : ClassId) (N0 : NT) (g : GS) (hI : Inv g) (h : Nat) (n : Int32) (x1 : Int32) (x2 : Int32) (x3 : Int32) (r_h : g.1 h = 6) (l_n : 0 ≤ n.toInt) (u_n : n.toInt ≤ 5) : Ty l D cI cZ cS cR N0 yX5_fromOutside cX5_fromOutside 6 (some .int) 13 0 0 [.ref h, .int n, .int x1, .int x2, .int x3] g (fun v g' => ∃ (r : Int32), v = some (.int r) ∧ Inv g' ∧ Ex g g' ∧ Sm md_s_fromOutside g g') := by
  refine t_enter (by decide) (Nat.le_of_ble_eq_true rfl) ?_
  intro p e s m args below meth c ls H locs hB hr hin hl hT
  have hx := hB.1
  have hb := hB.2.1
  have hl : lv_has ls 6 [(0, .ref h), (1, .int n), (2, .int x1), (3, .int x2), (4, .int x3)] := hl
  have hE : Ex g g := Ex.rf
  have hM : Sm md_s_fromOutside g g := Sm.rf
  refine lv_aload_n hx hb dX5_fromOutside_0 rfl (lv_at hl 0 rfl) ?_
  refine lv_dup hx hb dX5_fromOutside_1 rfl ?_
  obtain ⟨v_1, e_v_1⟩ := f_6_2 hI r_h
  refine t_get (ci := 5) (v := .int v_1) hB hT (ro_ci r_h rfl) rfl 2 (by decide) k_205 e_v_1 dX5_fromOutside_2 ?_
  refine lv_iconst (v := 1) hx hb dX5_fromOutside_5 (by decide) ?_
  refine lv_iadd hx hb dX5_fromOutside_6 ?_
  refine lv_topi (fun z_2 ez_2 => ?_)
  refine t_put0 (ci := 5) (v := .int z_2) hB hT (ro_ci r_h rfl) (ro_n0 r_h (by decide)) rfl 2 (by decide) k_205 (Or.inl rfl) rfl rfl dX5_fromOutside_7 (fun H locs hT => ?_)
  have hI : Inv (sF g h 2 (.int z_2)) := hI.sF (p_6_2 r_h (⟨_, rfl⟩))
  have hM : Sm md_s_fromOutside g (sF g h 2 (.int z_2)) := hM.tr hE (Sm_sF (by rw [r_h]; rfl))
  have hE : Ex g (sF g h 2 (.int z_2)) := hE
  refine lv_iconst (v := 0) hx hb dX5_fromOutside_10 (by decide) ?_
  refine lv_istore (lv' := [(5, .int 0), (0, .ref h), (1, .int n), (2, .int x1), (3, .int x2), (4, .int x3)]) hx hb dX5_fromOutside_11 hl (by decide) rfl (fun ls hl => ?_)
  exact lt_s_fromOutside_a l D cI cZ cS cR N0 g h n x1 x2 x3 r_h l_n u_n hB hr   6 (sF g h 2 (.int z_2)) (0 : Int32) H locs ls hT hI hE hM (by decide) (by decide) (by have e0_ : (0 : Int32).toInt = 0 := (by decide); omega) (lv_sub hl [0, 1, 2, 3, 4, 5] rfl)
