theorem k_58 : Cond.initialized RX4 ∈ tb := mt 58 (by decide +kernel) rfl
theorem k_59 : Cond.initialized RX5 ∈ tb := mt 59 (by decide +kernel) rfl
theorem k_60 : Cond.initialized RX3 ∈ tb := mt 60 (by decide +kernel) rfl
theorem k_61 : Cond.initialized RX2 ∈ tb := mt 61 (by decide +kernel) rfl
theorem k_62 : Cond.initialized RX0 ∈ tb := mt 62 (by decide +kernel) rfl
theorem k_63 : Cond.initialized RJ9 ∈ tb := mt 63 (by decide +kernel) rfl
theorem k_64 : Cond.initialized RX1 ∈ tb := mt 64 (by decide +kernel) rfl
theorem k_77 : Cond.methodLink RX6 3 Lib.objectInit ∈ tb := mt 77 (by decide +kernel) rfl
theorem k_78 : Cond.instanceMethod Lib.objectInit ∈ tb := mt 78 (by decide +kernel) rfl
set_option maxRecDepth 20000 in
theorem k_79 : Cond.code Lib.objectInit ⟨#[0xb1]⟩ 1 none ∈ tb := mt 79 rfl rfl
theorem k_80 : Cond.classLink RX6 9 RX4 ∈ tb := mt 80 (by decide +kernel) rfl
theorem k_81 : Cond.instantiable RX4 4 ∈ tb := mt 81 (by decide +kernel) rfl
theorem k_83 : Cond.instanceMethod yX4_init ∈ tb := mt 83 (by decide +kernel) rfl
set_option maxRecDepth 20000 in
theorem k_84 : Cond.code yX4_init cX4_init 1 none ∈ tb := mt 84 rfl rfl
theorem k_85 : Cond.methodLink RX4 3 Lib.objectInit ∈ tb := mt 85 (by decide +kernel) rfl
theorem k_86 : Cond.fieldLink RX4 9 "TwiceOnce$Tape" "bytes" "[I" ∈ tb := mt 86 (by decide +kernel) rfl
theorem k_87 : Cond.fieldLink RX4 15 "TwiceOnce$Tape" "size" "I" ∈ tb := mt 87 (by decide +kernel) rfl
theorem k_89 : Cond.fieldLink RX4 19 "TwiceOnce$Tape" "fault" "I" ∈ tb := mt 89 (by decide +kernel) rfl
theorem k_91 : Cond.fieldLink RX4 22 "TwiceOnce$Tape" "place" "I" ∈ tb := mt 91 (by decide +kernel) rfl
theorem k_101 : Cond.arrayClass .int ∈ tb := mt 101 (by decide +kernel) rfl
theorem k_102 : Cond.classLink RX6 16 RX5 ∈ tb := mt 102 (by decide +kernel) rfl
theorem k_103 : Cond.instantiable RX5 8 ∈ tb := mt 103 (by decide +kernel) rfl
theorem k_104 : Cond.methodLink RX6 18 yX5_init ∈ tb := mt 104 (by decide +kernel) rfl
theorem k_105 : Cond.instanceMethod yX5_init ∈ tb := mt 105 (by decide +kernel) rfl
set_option maxRecDepth 20000 in
theorem k_106 : Cond.code yX5_init cX5_init 2 none ∈ tb := mt 106 rfl rfl
theorem k_107 : Cond.methodLink RX5 3 Lib.objectInit ∈ tb := mt 107 (by decide +kernel) rfl
theorem k_108 : Cond.classLink RX5 9 "TwiceOnce$Service" ∈ tb := mt 108 (by decide +kernel) rfl
theorem k_110 : Cond.instantiable RX3 15 ∈ tb := mt 110 (by decide +kernel) rfl
theorem k_112 : Cond.instanceMethod yX3_init ∈ tb := mt 112 (by decide +kernel) rfl
set_option maxRecDepth 20000 in
theorem k_113 : Cond.code yX3_init cX3_init 1 none ∈ tb := mt 113 rfl rfl
theorem k_114 : Cond.methodLink RX3 3 Lib.objectInit ∈ tb := mt 114 (by decide +kernel) rfl
theorem k_115 : Cond.classLink RX3 9 RX2 ∈ tb := mt 115 (by decide +kernel) rfl
theorem k_116 : Cond.instantiable RX2 4 ∈ tb := mt 116 (by decide +kernel) rfl
theorem k_118 : Cond.instanceMethod yX2_init ∈ tb := mt 118 (by decide +kernel) rfl
set_option maxRecDepth 20000 in
theorem k_119 : Cond.code yX2_init cX2_init 1 none ∈ tb := mt 119 rfl rfl
theorem k_120 : Cond.methodLink RX2 3 Lib.objectInit ∈ tb := mt 120 (by decide +kernel) rfl
theorem k_121 : Cond.fieldLink RX2 9 "TwiceOnce$Program" "words" "[I" ∈ tb := mt 121 (by decide +kernel) rfl
theorem k_125 : Cond.fieldLink RX2 15 "TwiceOnce$Program" "targets" "[I" ∈ tb := mt 125 (by decide +kernel) rfl
theorem k_129 : Cond.fieldLink RX2 18 "TwiceOnce$Program" "values" "[I" ∈ tb := mt 129 (by decide +kernel) rfl
theorem k_131 : Cond.fieldLink RX2 21 "TwiceOnce$Program" "size" "I" ∈ tb := mt 131 (by decide +kernel) rfl
theorem k_143 : Cond.fieldLink RX3 12 "TwiceOnce$Service" "program" "LTwiceOnce$Program;" ∈ tb := mt 143 (by decide +kernel) rfl
theorem k_146 : Cond.fieldLink RX3 18 "TwiceOnce$Service" "cells" "[I" ∈ tb := mt 146 (by decide +kernel) rfl
theorem k_149 : Cond.fieldLink RX3 22 "TwiceOnce$Service" "counter" "I" ∈ tb := mt 149 (by decide +kernel) rfl
theorem k_152 : Cond.fieldLink RX3 26 "TwiceOnce$Service" "mends" "I" ∈ tb := mt 152 (by decide +kernel) rfl
theorem k_155 : Cond.fieldLink RX3 29 "TwiceOnce$Service" "holdTicks" "I" ∈ tb := mt 155 (by decide +kernel) rfl
theorem k_158 : Cond.fieldLink RX3 32 "TwiceOnce$Service" "kept" "I" ∈ tb := mt 158 (by decide +kernel) rfl
theorem k_159 : Cond.fieldLink RX3 35 "TwiceOnce$Service" "keptKeys" "[I" ∈ tb := mt 159 (by decide +kernel) rfl
theorem k_160 : Cond.fieldLink RX3 38 "TwiceOnce$Service" "keptXs" "[I" ∈ tb := mt 160 (by decide +kernel) rfl
theorem k_161 : Cond.fieldLink RX3 41 "TwiceOnce$Service" "keptAnswers" "[I" ∈ tb := mt 161 (by decide +kernel) rfl
theorem k_162 : Cond.fieldLink RX3 44 "TwiceOnce$Service" "keptTicks" "[I" ∈ tb := mt 162 (by decide +kernel) rfl
theorem k_163 : Cond.fieldLink RX3 47 "TwiceOnce$Service" "knownX" "I" ∈ tb := mt 163 (by decide +kernel) rfl
theorem k_164 : Cond.fieldLink RX3 50 "TwiceOnce$Service" "knownKey" "I" ∈ tb := mt 164 (by decide +kernel) rfl
theorem k_165 : Cond.fieldLink RX3 53 "TwiceOnce$Service" "knownActs" "[I" ∈ tb := mt 165 (by decide +kernel) rfl
theorem k_166 : Cond.fieldLink RX3 56 "TwiceOnce$Service" "earlierActs" "[I" ∈ tb := mt 166 (by decide +kernel) rfl
theorem k_167 : Cond.fieldLink RX3 59 "TwiceOnce$Service" "holdsBack" "Z" ∈ tb := mt 167 (by decide +kernel) rfl
theorem k_199 : Cond.fieldLink RX5 11 "TwiceOnce$World" "services" "[LTwiceOnce$Service;" ∈ tb := mt 199 (by decide +kernel) rfl
theorem k_202 : Cond.fieldLink RX5 17 "TwiceOnce$World" "size" "I" ∈ tb := mt 202 (by decide +kernel) rfl
theorem k_205 : Cond.fieldLink RX5 21 "TwiceOnce$World" "ticks" "I" ∈ tb := mt 205 (by decide +kernel) rfl
theorem k_207 : Cond.fieldLink RX5 24 "TwiceOnce$World" "done" "[I" ∈ tb := mt 207 (by decide +kernel) rfl
theorem k_210 : Cond.fieldLink RX5 28 "TwiceOnce$World" "doneInAll" "I" ∈ tb := mt 210 (by decide +kernel) rfl
theorem k_213 : Cond.fieldLink RX5 31 "TwiceOnce$World" "came" "I" ∈ tb := mt 213 (by decide +kernel) rfl
theorem k_215 : Cond.fieldLink RX5 34 "TwiceOnce$World" "breakAt" "I" ∈ tb := mt 215 (by decide +kernel) rfl
theorem k_216 : Cond.fieldLink RX5 37 "TwiceOnce$World" "broken" "Z" ∈ tb := mt 216 (by decide +kernel) rfl
theorem k_234 : Cond.classLink RX6 23 RX0 ∈ tb := mt 234 (by decide +kernel) rfl
theorem k_235 : Cond.instantiable RX0 4 ∈ tb := mt 235 (by decide +kernel) rfl
theorem k_236 : Cond.methodLink RX6 25 yX0_init ∈ tb := mt 236 (by decide +kernel) rfl
theorem k_237 : Cond.instanceMethod yX0_init ∈ tb := mt 237 (by decide +kernel) rfl
set_option maxRecDepth 20000 in
theorem k_238 : Cond.code yX0_init cX0_init 3 none ∈ tb := mt 238 rfl rfl
theorem k_239 : Cond.methodLink RX0 1 Lib.objectInit ∈ tb := mt 239 (by decide +kernel) rfl
theorem k_240 : Cond.methodLink RX0 13 Lib.Math.max.name ∈ tb := mt 240 (by decide +kernel) rfl
theorem k_241 : Cond.static Lib.Math.max.name ∈ tb := mt 241 (by decide +kernel) rfl
set_option maxRecDepth 20000 in
theorem k_242 : Cond.code Lib.Math.max.name Lib.Math.max.code 2 (some .int) ∈ tb := mt 242 rfl rfl
theorem k_243 : Cond.fieldLink RX0 19 "TwiceOnce$CallList" "services" "[I" ∈ tb := mt 243 (by decide +kernel) rfl
theorem k_247 : Cond.fieldLink RX0 23 "TwiceOnce$CallList" "xs" "[I" ∈ tb := mt 247 (by decide +kernel) rfl
theorem k_250 : Cond.fieldLink RX0 26 "TwiceOnce$CallList" "keys" "[I" ∈ tb := mt 250 (by decide +kernel) rfl
theorem k_253 : Cond.fieldLink RX0 7 "TwiceOnce$CallList" "size" "I" ∈ tb := mt 253 (by decide +kernel) rfl
theorem k_266 : Cond.classLink RX6 35 RX1 ∈ tb := mt 266 (by decide +kernel) rfl
theorem k_267 : Cond.instantiable RX1 10 ∈ tb := mt 267 (by decide +kernel) rfl
theorem k_269 : Cond.instanceMethod yX1_init ∈ tb := mt 269 (by decide +kernel) rfl
set_option maxRecDepth 20000 in
theorem k_270 : Cond.code yX1_init cX1_init 1 none ∈ tb := mt 270 rfl rfl
theorem k_271 : Cond.methodLink RX1 3 Lib.objectInit ∈ tb := mt 271 (by decide +kernel) rfl
theorem k_272 : Cond.classLink RX1 9 RX5 ∈ tb := mt 272 (by decide +kernel) rfl
theorem k_273 : Cond.methodLink RX1 11 yX5_init ∈ tb := mt 273 (by decide +kernel) rfl
theorem k_274 : Cond.classLink RX1 38 "[[I" ∈ tb := mt 274 (by decide +kernel) rfl
theorem k_276 : Cond.fieldLink RX1 12 "TwiceOnce$Judge" "start" "LTwiceOnce$World;" ∈ tb := mt 276 (by decide +kernel) rfl
theorem k_278 : Cond.fieldLink RX1 18 "TwiceOnce$Judge" "once" "LTwiceOnce$World;" ∈ tb := mt 278 (by decide +kernel) rfl
theorem k_279 : Cond.fieldLink RX1 21 "TwiceOnce$Judge" "twice" "LTwiceOnce$World;" ∈ tb := mt 279 (by decide +kernel) rfl
theorem k_280 : Cond.fieldLink RX1 24 "TwiceOnce$Judge" "onceAnswers" "[I" ∈ tb := mt 280 (by decide +kernel) rfl
theorem k_281 : Cond.fieldLink RX1 28 "TwiceOnce$Judge" "onceCame" "[I" ∈ tb := mt 281 (by decide +kernel) rfl
theorem k_282 : Cond.fieldLink RX1 31 "TwiceOnce$Judge" "twiceAnswers" "[I" ∈ tb := mt 282 (by decide +kernel) rfl
theorem k_283 : Cond.fieldLink RX1 34 "TwiceOnce$Judge" "againAnswer" "I" ∈ tb := mt 283 (by decide +kernel) rfl
theorem k_284 : Cond.fieldLink RX1 40 "TwiceOnce$Judge" "ends" "[[I" ∈ tb := mt 284 (by decide +kernel) rfl
theorem k_285 : Cond.fieldLink RX1 43 "TwiceOnce$Judge" "order" "[I" ∈ tb := mt 285 (by decide +kernel) rfl
theorem k_286 : Cond.fieldLink RX1 46 "TwiceOnce$Judge" "comings" "[I" ∈ tb := mt 286 (by decide +kernel) rfl
theorem k_308 : Cond.fieldLink RX6 12 "TwiceOnce" "tape" "LTwiceOnce$Tape;" ∈ tb := mt 308 (by decide +kernel) rfl
theorem k_309 : Cond.fieldLink RX6 19 "TwiceOnce" "now" "LTwiceOnce$World;" ∈ tb := mt 309 (by decide +kernel) rfl
theorem k_310 : Cond.fieldLink RX6 28 "TwiceOnce" "rowCalls" "LTwiceOnce$CallList;" ∈ tb := mt 310 (by decide +kernel) rfl
theorem k_311 : Cond.fieldLink RX6 32 "TwiceOnce" "logCalls" "LTwiceOnce$CallList;" ∈ tb := mt 311 (by decide +kernel) rfl
theorem k_312 : Cond.fieldLink RX6 38 "TwiceOnce" "judge" "LTwiceOnce$Judge;" ∈ tb := mt 312 (by decide +kernel) rfl
theorem k_313 : Cond.fieldLink RX6 42 "TwiceOnce" "prices" "[I" ∈ tb := mt 313 (by decide +kernel) rfl
theorem k_314 : Cond.fieldLink RX6 46 "TwiceOnce" "answersFree" "Z" ∈ tb := mt 314 (by decide +kernel) rfl
theorem dX2_init_0 : decode cX2_init 0 = .ok (.aload_n 0, 1) := by decide +kernel
theorem dX2_init_1 : decode cX2_init 1 = .ok (.invokespecial 3, 3) := by decide +kernel
theorem dX2_init_4 : decode cX2_init 4 = .ok (.aload_n 0, 1) := by decide +kernel
theorem dX2_init_5 : decode cX2_init 5 = .ok (.bipush 8, 2) := by decide +kernel
theorem dX2_init_7 : decode cX2_init 7 = .ok (.newarray .int, 2) := by decide +kernel
theorem dX2_init_9 : decode cX2_init 9 = .ok (.putfield 9, 3) := by decide +kernel
theorem dX2_init_12 : decode cX2_init 12 = .ok (.aload_n 0, 1) := by decide +kernel
theorem dX2_init_13 : decode cX2_init 13 = .ok (.bipush 8, 2) := by decide +kernel
theorem dX2_init_15 : decode cX2_init 15 = .ok (.newarray .int, 2) := by decide +kernel
theorem dX2_init_17 : decode cX2_init 17 = .ok (.putfield 15, 3) := by decide +kernel
theorem dX2_init_20 : decode cX2_init 20 = .ok (.aload_n 0, 1) := by decide +kernel
theorem dX2_init_21 : decode cX2_init 21 = .ok (.bipush 8, 2) := by decide +kernel
theorem dX2_init_23 : decode cX2_init 23 = .ok (.newarray .int, 2) := by decide +kernel
theorem dX2_init_25 : decode cX2_init 25 = .ok (.putfield 18, 3) := by decide +kernel
theorem dX2_init_28 : decode cX2_init 28 = .ok (.aload_n 0, 1) := by decide +kernel
theorem dX2_init_29 : decode cX2_init 29 = .ok (.iconst 0, 1) := by decide +kernel
theorem dX2_init_30 : decode cX2_init 30 = .ok (.putfield 21, 3) := by decide +kernel
theorem dX2_init_33 : decode cX2_init 33 = .ok (.return_, 1) := by decide +kernel
theorem dX3_init_0 : decode cX3_init 0 = .ok (.aload_n 0, 1) := by decide +kernel
theorem dX3_init_1 : decode cX3_init 1 = .ok (.invokespecial 3, 3) := by decide +kernel
theorem dX3_init_4 : decode cX3_init 4 = .ok (.aload_n 0, 1) := by decide +kernel
theorem dX3_init_5 : decode cX3_init 5 = .ok (.new 9, 3) := by decide +kernel
theorem dX3_init_8 : decode cX3_init 8 = .ok (.dup, 1) := by decide +kernel
theorem dX3_init_9 : decode cX3_init 9 = .ok (.invokespecial 11, 3) := by decide +kernel
theorem dX3_init_12 : decode cX3_init 12 = .ok (.putfield 12, 3) := by decide +kernel
theorem dX3_init_15 : decode cX3_init 15 = .ok (.aload_n 0, 1) := by decide +kernel
theorem dX3_init_16 : decode cX3_init 16 = .ok (.iconst 4, 1) := by decide +kernel
theorem dX3_init_17 : decode cX3_init 17 = .ok (.newarray .int, 2) := by decide +kernel
theorem dX3_init_19 : decode cX3_init 19 = .ok (.putfield 18, 3) := by decide +kernel
theorem dX3_init_22 : decode cX3_init 22 = .ok (.aload_n 0, 1) := by decide +kernel
theorem dX3_init_23 : decode cX3_init 23 = .ok (.iconst 0, 1) := by decide +kernel
theorem dX3_init_24 : decode cX3_init 24 = .ok (.putfield 22, 3) := by decide +kernel
theorem dX3_init_27 : decode cX3_init 27 = .ok (.aload_n 0, 1) := by decide +kernel
theorem dX3_init_28 : decode cX3_init 28 = .ok (.iconst 0, 1) := by decide +kernel
theorem dX3_init_29 : decode cX3_init 29 = .ok (.putfield 26, 3) := by decide +kernel
theorem dX3_init_32 : decode cX3_init 32 = .ok (.aload_n 0, 1) := by decide +kernel
theorem dX3_init_33 : decode cX3_init 33 = .ok (.bipush 10, 2) := by decide +kernel
theorem dX3_init_35 : decode cX3_init 35 = .ok (.putfield 29, 3) := by decide +kernel
theorem dX3_init_38 : decode cX3_init 38 = .ok (.aload_n 0, 1) := by decide +kernel
theorem dX3_init_39 : decode cX3_init 39 = .ok (.iconst 0, 1) := by decide +kernel
theorem dX3_init_40 : decode cX3_init 40 = .ok (.putfield 32, 3) := by decide +kernel
theorem dX3_init_43 : decode cX3_init 43 = .ok (.aload_n 0, 1) := by decide +kernel
theorem dX3_init_44 : decode cX3_init 44 = .ok (.bipush 16, 2) := by decide +kernel
theorem dX3_init_46 : decode cX3_init 46 = .ok (.newarray .int, 2) := by decide +kernel
theorem dX3_init_48 : decode cX3_init 48 = .ok (.putfield 35, 3) := by decide +kernel
theorem dX3_init_51 : decode cX3_init 51 = .ok (.aload_n 0, 1) := by decide +kernel
theorem dX3_init_52 : decode cX3_init 52 = .ok (.bipush 16, 2) := by decide +kernel
theorem dX3_init_54 : decode cX3_init 54 = .ok (.newarray .int, 2) := by decide +kernel
theorem dX3_init_56 : decode cX3_init 56 = .ok (.putfield 38, 3) := by decide +kernel
theorem dX3_init_59 : decode cX3_init 59 = .ok (.aload_n 0, 1) := by decide +kernel
theorem dX3_init_60 : decode cX3_init 60 = .ok (.bipush 16, 2) := by decide +kernel
theorem dX3_init_62 : decode cX3_init 62 = .ok (.newarray .int, 2) := by decide +kernel
theorem dX3_init_64 : decode cX3_init 64 = .ok (.putfield 41, 3) := by decide +kernel
theorem dX3_init_67 : decode cX3_init 67 = .ok (.aload_n 0, 1) := by decide +kernel
theorem dX3_init_68 : decode cX3_init 68 = .ok (.bipush 16, 2) := by decide +kernel
theorem dX3_init_70 : decode cX3_init 70 = .ok (.newarray .int, 2) := by decide +kernel
theorem dX3_init_72 : decode cX3_init 72 = .ok (.putfield 44, 3) := by decide +kernel
theorem dX3_init_75 : decode cX3_init 75 = .ok (.aload_n 0, 1) := by decide +kernel
theorem dX3_init_76 : decode cX3_init 76 = .ok (.iconst (-1), 1) := by decide +kernel
theorem dX3_init_77 : decode cX3_init 77 = .ok (.putfield 47, 3) := by decide +kernel
theorem dX3_init_80 : decode cX3_init 80 = .ok (.aload_n 0, 1) := by decide +kernel
theorem dX3_init_81 : decode cX3_init 81 = .ok (.iconst (-1), 1) := by decide +kernel
theorem dX3_init_82 : decode cX3_init 82 = .ok (.putfield 50, 3) := by decide +kernel
theorem dX3_init_85 : decode cX3_init 85 = .ok (.aload_n 0, 1) := by decide +kernel
theorem dX3_init_86 : decode cX3_init 86 = .ok (.bipush 8, 2) := by decide +kernel
theorem dX3_init_88 : decode cX3_init 88 = .ok (.newarray .int, 2) := by decide +kernel
theorem dX3_init_90 : decode cX3_init 90 = .ok (.putfield 53, 3) := by decide +kernel
theorem dX3_init_93 : decode cX3_init 93 = .ok (.aload_n 0, 1) := by decide +kernel
theorem dX3_init_94 : decode cX3_init 94 = .ok (.bipush 8, 2) := by decide +kernel
theorem dX3_init_96 : decode cX3_init 96 = .ok (.newarray .int, 2) := by decide +kernel
theorem dX3_init_98 : decode cX3_init 98 = .ok (.putfield 56, 3) := by decide +kernel
theorem dX3_init_101 : decode cX3_init 101 = .ok (.aload_n 0, 1) := by decide +kernel
theorem dX3_init_102 : decode cX3_init 102 = .ok (.iconst 0, 1) := by decide +kernel
theorem dX3_init_103 : decode cX3_init 103 = .ok (.putfield 59, 3) := by decide +kernel
theorem dX3_init_106 : decode cX3_init 106 = .ok (.return_, 1) := by decide +kernel
theorem dX5_init_0 : decode cX5_init 0 = .ok (.aload_n 0, 1) := by decide +kernel
theorem dX5_init_1 : decode cX5_init 1 = .ok (.invokespecial 3, 3) := by decide +kernel
theorem dX5_init_4 : decode cX5_init 4 = .ok (.aload_n 0, 1) := by decide +kernel
theorem dX5_init_5 : decode cX5_init 5 = .ok (.bipush 6, 2) := by decide +kernel
theorem dX5_init_7 : decode cX5_init 7 = .ok (.anewarray 9, 3) := by decide +kernel
theorem dX5_init_10 : decode cX5_init 10 = .ok (.putfield 11, 3) := by decide +kernel
theorem dX5_init_13 : decode cX5_init 13 = .ok (.aload_n 0, 1) := by decide +kernel
theorem dX5_init_14 : decode cX5_init 14 = .ok (.iconst 0, 1) := by decide +kernel
theorem dX5_init_15 : decode cX5_init 15 = .ok (.putfield 17, 3) := by decide +kernel
theorem dX5_init_18 : decode cX5_init 18 = .ok (.aload_n 0, 1) := by decide +kernel
theorem dX5_init_19 : decode cX5_init 19 = .ok (.iconst 0, 1) := by decide +kernel
theorem dX5_init_20 : decode cX5_init 20 = .ok (.putfield 21, 3) := by decide +kernel
theorem dX5_init_23 : decode cX5_init 23 = .ok (.aload_n 0, 1) := by decide +kernel
theorem dX5_init_24 : decode cX5_init 24 = .ok (.sipush 512, 3) := by decide +kernel
theorem dX5_init_27 : decode cX5_init 27 = .ok (.newarray .int, 2) := by decide +kernel
theorem dX5_init_29 : decode cX5_init 29 = .ok (.putfield 24, 3) := by decide +kernel
theorem dX5_init_32 : decode cX5_init 32 = .ok (.aload_n 0, 1) := by decide +kernel
theorem dX5_init_33 : decode cX5_init 33 = .ok (.iconst 0, 1) := by decide +kernel
theorem dX5_init_34 : decode cX5_init 34 = .ok (.putfield 28, 3) := by decide +kernel
theorem dX5_init_37 : decode cX5_init 37 = .ok (.aload_n 0, 1) := by decide +kernel
theorem dX5_init_38 : decode cX5_init 38 = .ok (.iconst 0, 1) := by decide +kernel
theorem dX5_init_39 : decode cX5_init 39 = .ok (.putfield 31, 3) := by decide +kernel
theorem dX5_init_42 : decode cX5_init 42 = .ok (.aload_n 0, 1) := by decide +kernel
theorem dX5_init_43 : decode cX5_init 43 = .ok (.iconst 0, 1) := by decide +kernel
theorem dX5_init_44 : decode cX5_init 44 = .ok (.putfield 34, 3) := by decide +kernel
theorem dX5_init_47 : decode cX5_init 47 = .ok (.aload_n 0, 1) := by decide +kernel
theorem dX5_init_48 : decode cX5_init 48 = .ok (.iconst 0, 1) := by decide +kernel
theorem dX5_init_49 : decode cX5_init 49 = .ok (.putfield 37, 3) := by decide +kernel
theorem dX5_init_52 : decode cX5_init 52 = .ok (.iconst 0, 1) := by decide +kernel
theorem dX5_init_53 : decode cX5_init 53 = .ok (.istore_n 1, 1) := by decide +kernel
theorem dX5_init_54 : decode cX5_init 54 = .ok (.iload_n 1, 1) := by decide +kernel
theorem dX5_init_55 : decode cX5_init 55 = .ok (.bipush 6, 2) := by decide +kernel
theorem dX5_init_57 : decode cX5_init 57 = .ok (.if_icmp .ge 22, 3) := by decide +kernel
theorem dX5_init_60 : decode cX5_init 60 = .ok (.aload_n 0, 1) := by decide +kernel
theorem dX5_init_61 : decode cX5_init 61 = .ok (.getfield 11, 3) := by decide +kernel
theorem dX5_init_64 : decode cX5_init 64 = .ok (.iload_n 1, 1) := by decide +kernel
theorem dX5_init_65 : decode cX5_init 65 = .ok (.new 9, 3) := by decide +kernel
theorem dX5_init_68 : decode cX5_init 68 = .ok (.dup, 1) := by decide +kernel
theorem dX5_init_69 : decode cX5_init 69 = .ok (.invokespecial 41, 3) := by decide +kernel
theorem dX5_init_72 : decode cX5_init 72 = .ok (.aastore, 1) := by decide +kernel
theorem dX5_init_73 : decode cX5_init 73 = .ok (.iinc 1 1, 3) := by decide +kernel
theorem dX5_init_76 : decode cX5_init 76 = .ok (.goto (-22), 3) := by decide +kernel
theorem dX5_init_79 : decode cX5_init 79 = .ok (.return_, 1) := by decide +kernel
theorem dX0_init_0 : decode cX0_init 0 = .ok (.aload_n 0, 1) := by decide +kernel
theorem dX0_init_1 : decode cX0_init 1 = .ok (.invokespecial 1, 3) := by decide +kernel
theorem dX0_init_4 : decode cX0_init 4 = .ok (.aload_n 0, 1) := by decide +kernel
theorem dX0_init_5 : decode cX0_init 5 = .ok (.iconst 0, 1) := by decide +kernel
theorem dX0_init_6 : decode cX0_init 6 = .ok (.putfield 7, 3) := by decide +kernel
theorem dX0_init_9 : decode cX0_init 9 = .ok (.iload_n 1, 1) := by decide +kernel
theorem dX0_init_10 : decode cX0_init 10 = .ok (.iconst 1, 1) := by decide +kernel
theorem dX0_init_11 : decode cX0_init 11 = .ok (.invokestatic 13, 3) := by decide +kernel
theorem dX0_init_14 : decode cX0_init 14 = .ok (.istore_n 2, 1) := by decide +kernel
theorem dX0_init_15 : decode cX0_init 15 = .ok (.aload_n 0, 1) := by decide +kernel
theorem dX0_init_16 : decode cX0_init 16 = .ok (.iload_n 2, 1) := by decide +kernel
theorem dX0_init_17 : decode cX0_init 17 = .ok (.newarray .int, 2) := by decide +kernel
theorem dX0_init_19 : decode cX0_init 19 = .ok (.putfield 19, 3) := by decide +kernel
theorem dX0_init_22 : decode cX0_init 22 = .ok (.aload_n 0, 1) := by decide +kernel
theorem dX0_init_23 : decode cX0_init 23 = .ok (.iload_n 2, 1) := by decide +kernel
theorem dX0_init_24 : decode cX0_init 24 = .ok (.newarray .int, 2) := by decide +kernel
theorem dX0_init_26 : decode cX0_init 26 = .ok (.putfield 23, 3) := by decide +kernel
theorem dX0_init_29 : decode cX0_init 29 = .ok (.aload_n 0, 1) := by decide +kernel
theorem dX0_init_30 : decode cX0_init 30 = .ok (.iload_n 2, 1) := by decide +kernel
theorem dX0_init_31 : decode cX0_init 31 = .ok (.newarray .int, 2) := by decide +kernel
theorem dX0_init_33 : decode cX0_init 33 = .ok (.putfield 26, 3) := by decide +kernel
theorem dX0_init_36 : decode cX0_init 36 = .ok (.return_, 1) := by decide +kernel
theorem dX4_init_0 : decode cX4_init 0 = .ok (.aload_n 0, 1) := by decide +kernel
theorem dX4_init_1 : decode cX4_init 1 = .ok (.invokespecial 3, 3) := by decide +kernel
theorem dX4_init_4 : decode cX4_init 4 = .ok (.aload_n 0, 1) := by decide +kernel
theorem dX4_init_5 : decode cX4_init 5 = .ok (.bipush 100, 2) := by decide +kernel
theorem dX4_init_7 : decode cX4_init 7 = .ok (.newarray .int, 2) := by decide +kernel
theorem dX4_init_9 : decode cX4_init 9 = .ok (.putfield 9, 3) := by decide +kernel
theorem dX4_init_12 : decode cX4_init 12 = .ok (.aload_n 0, 1) := by decide +kernel
theorem dX4_init_13 : decode cX4_init 13 = .ok (.iconst 0, 1) := by decide +kernel
theorem dX4_init_14 : decode cX4_init 14 = .ok (.putfield 15, 3) := by decide +kernel
theorem dX4_init_17 : decode cX4_init 17 = .ok (.aload_n 0, 1) := by decide +kernel
theorem dX4_init_18 : decode cX4_init 18 = .ok (.iconst 0, 1) := by decide +kernel
theorem dX4_init_19 : decode cX4_init 19 = .ok (.putfield 19, 3) := by decide +kernel
theorem dX4_init_22 : decode cX4_init 22 = .ok (.aload_n 0, 1) := by decide +kernel
theorem dX4_init_23 : decode cX4_init 23 = .ok (.iconst 0, 1) := by decide +kernel
theorem dX4_init_24 : decode cX4_init 24 = .ok (.putfield 22, 3) := by decide +kernel
theorem dX4_init_27 : decode cX4_init 27 = .ok (.return_, 1) := by decide +kernel
theorem dX1_init_0 : decode cX1_init 0 = .ok (.aload_n 0, 1) := by decide +kernel
theorem dX1_init_1 : decode cX1_init 1 = .ok (.invokespecial 3, 3) := by decide +kernel
theorem dX1_init_4 : decode cX1_init 4 = .ok (.aload_n 0, 1) := by decide +kernel
theorem dX1_init_5 : decode cX1_init 5 = .ok (.new 9, 3) := by decide +kernel
theorem dX1_init_8 : decode cX1_init 8 = .ok (.dup, 1) := by decide +kernel
theorem dX1_init_9 : decode cX1_init 9 = .ok (.invokespecial 11, 3) := by decide +kernel
theorem dX1_init_12 : decode cX1_init 12 = .ok (.putfield 12, 3) := by decide +kernel
theorem dX1_init_15 : decode cX1_init 15 = .ok (.aload_n 0, 1) := by decide +kernel
theorem dX1_init_16 : decode cX1_init 16 = .ok (.new 9, 3) := by decide +kernel
theorem dX1_init_19 : decode cX1_init 19 = .ok (.dup, 1) := by decide +kernel
theorem dX1_init_20 : decode cX1_init 20 = .ok (.invokespecial 11, 3) := by decide +kernel
theorem dX1_init_23 : decode cX1_init 23 = .ok (.putfield 18, 3) := by decide +kernel
theorem dX1_init_26 : decode cX1_init 26 = .ok (.aload_n 0, 1) := by decide +kernel
theorem dX1_init_27 : decode cX1_init 27 = .ok (.new 9, 3) := by decide +kernel
theorem dX1_init_30 : decode cX1_init 30 = .ok (.dup, 1) := by decide +kernel
theorem dX1_init_31 : decode cX1_init 31 = .ok (.invokespecial 11, 3) := by decide +kernel
theorem dX1_init_34 : decode cX1_init 34 = .ok (.putfield 21, 3) := by decide +kernel
theorem dX1_init_37 : decode cX1_init 37 = .ok (.aload_n 0, 1) := by decide +kernel
theorem dX1_init_38 : decode cX1_init 38 = .ok (.bipush 6, 2) := by decide +kernel
theorem dX1_init_40 : decode cX1_init 40 = .ok (.newarray .int, 2) := by decide +kernel
theorem dX1_init_42 : decode cX1_init 42 = .ok (.putfield 24, 3) := by decide +kernel
theorem dX1_init_45 : decode cX1_init 45 = .ok (.aload_n 0, 1) := by decide +kernel
theorem dX1_init_46 : decode cX1_init 46 = .ok (.bipush 6, 2) := by decide +kernel
theorem dX1_init_48 : decode cX1_init 48 = .ok (.newarray .int, 2) := by decide +kernel
theorem dX1_init_50 : decode cX1_init 50 = .ok (.putfield 28, 3) := by decide +kernel
theorem dX1_init_53 : decode cX1_init 53 = .ok (.aload_n 0, 1) := by decide +kernel
theorem dX1_init_54 : decode cX1_init 54 = .ok (.bipush 6, 2) := by decide +kernel
theorem dX1_init_56 : decode cX1_init 56 = .ok (.newarray .int, 2) := by decide +kernel
theorem dX1_init_58 : decode cX1_init 58 = .ok (.putfield 31, 3) := by decide +kernel
theorem dX1_init_61 : decode cX1_init 61 = .ok (.aload_n 0, 1) := by decide +kernel
theorem dX1_init_62 : decode cX1_init 62 = .ok (.iconst 0, 1) := by decide +kernel
theorem dX1_init_63 : decode cX1_init 63 = .ok (.putfield 34, 3) := by decide +kernel
theorem dX1_init_66 : decode cX1_init 66 = .ok (.aload_n 0, 1) := by decide +kernel
theorem dX1_init_67 : decode cX1_init 67 = .ok (.bipush 25, 2) := by decide +kernel
theorem dX1_init_69 : decode cX1_init 69 = .ok (.sipush 325, 3) := by decide +kernel
theorem dX1_init_72 : decode cX1_init 72 = .ok (.multianewarray 38 2, 4) := by decide +kernel
theorem dX1_init_76 : decode cX1_init 76 = .ok (.putfield 40, 3) := by decide +kernel
theorem dX1_init_79 : decode cX1_init 79 = .ok (.aload_n 0, 1) := by decide +kernel
theorem dX1_init_80 : decode cX1_init 80 = .ok (.iconst 5, 1) := by decide +kernel
theorem dX1_init_81 : decode cX1_init 81 = .ok (.newarray .int, 2) := by decide +kernel
theorem dX1_init_83 : decode cX1_init 83 = .ok (.putfield 43, 3) := by decide +kernel
theorem dX1_init_86 : decode cX1_init 86 = .ok (.aload_n 0, 1) := by decide +kernel
theorem dX1_init_87 : decode cX1_init 87 = .ok (.iconst 4, 1) := by decide +kernel
theorem dX1_init_88 : decode cX1_init 88 = .ok (.newarray .int, 2) := by decide +kernel
theorem dX1_init_90 : decode cX1_init 90 = .ok (.putfield 46, 3) := by decide +kernel
theorem dX1_init_93 : decode cX1_init 93 = .ok (.return_, 1) := by decide +kernel
theorem dX6_init_0 : decode cX6_init 0 = .ok (.aload_n 0, 1) := by decide +kernel
theorem dX6_init_1 : decode cX6_init 1 = .ok (.invokespecial 3, 3) := by decide +kernel
theorem dX6_init_4 : decode cX6_init 4 = .ok (.aload_n 0, 1) := by decide +kernel
theorem dX6_init_5 : decode cX6_init 5 = .ok (.new 9, 3) := by decide +kernel
theorem dX6_init_8 : decode cX6_init 8 = .ok (.dup, 1) := by decide +kernel
theorem dX6_init_9 : decode cX6_init 9 = .ok (.invokespecial 11, 3) := by decide +kernel
theorem dX6_init_12 : decode cX6_init 12 = .ok (.putfield 12, 3) := by decide +kernel
theorem dX6_init_15 : decode cX6_init 15 = .ok (.aload_n 0, 1) := by decide +kernel
theorem dX6_init_16 : decode cX6_init 16 = .ok (.new 16, 3) := by decide +kernel
theorem dX6_init_19 : decode cX6_init 19 = .ok (.dup, 1) := by decide +kernel
theorem dX6_init_20 : decode cX6_init 20 = .ok (.invokespecial 18, 3) := by decide +kernel
theorem dX6_init_23 : decode cX6_init 23 = .ok (.putfield 19, 3) := by decide +kernel
theorem dX6_init_26 : decode cX6_init 26 = .ok (.aload_n 0, 1) := by decide +kernel
theorem dX6_init_27 : decode cX6_init 27 = .ok (.new 23, 3) := by decide +kernel
theorem dX6_init_30 : decode cX6_init 30 = .ok (.dup, 1) := by decide +kernel
theorem dX6_init_31 : decode cX6_init 31 = .ok (.bipush 6, 2) := by decide +kernel
theorem dX6_init_33 : decode cX6_init 33 = .ok (.invokespecial 25, 3) := by decide +kernel
theorem dX6_init_36 : decode cX6_init 36 = .ok (.putfield 28, 3) := by decide +kernel
theorem dX6_init_39 : decode cX6_init 39 = .ok (.aload_n 0, 1) := by decide +kernel
theorem dX6_init_40 : decode cX6_init 40 = .ok (.new 23, 3) := by decide +kernel
theorem dX6_init_43 : decode cX6_init 43 = .ok (.dup, 1) := by decide +kernel
theorem dX6_init_44 : decode cX6_init 44 = .ok (.bipush 20, 2) := by decide +kernel
theorem dX6_init_46 : decode cX6_init 46 = .ok (.invokespecial 25, 3) := by decide +kernel
theorem dX6_init_49 : decode cX6_init 49 = .ok (.putfield 32, 3) := by decide +kernel
theorem dX6_init_52 : decode cX6_init 52 = .ok (.aload_n 0, 1) := by decide +kernel
theorem dX6_init_53 : decode cX6_init 53 = .ok (.new 35, 3) := by decide +kernel
theorem dX6_init_56 : decode cX6_init 56 = .ok (.dup, 1) := by decide +kernel
theorem dX6_init_57 : decode cX6_init 57 = .ok (.invokespecial 37, 3) := by decide +kernel
theorem dX6_init_60 : decode cX6_init 60 = .ok (.putfield 38, 3) := by decide +kernel
theorem dX6_init_63 : decode cX6_init 63 = .ok (.aload_n 0, 1) := by decide +kernel
theorem dX6_init_64 : decode cX6_init 64 = .ok (.iconst 4, 1) := by decide +kernel
theorem dX6_init_65 : decode cX6_init 65 = .ok (.newarray .int, 2) := by decide +kernel
theorem dX6_init_67 : decode cX6_init 67 = .ok (.putfield 42, 3) := by decide +kernel
theorem dX6_init_70 : decode cX6_init 70 = .ok (.aload_n 0, 1) := by decide +kernel
theorem dX6_init_71 : decode cX6_init 71 = .ok (.iconst 0, 1) := by decide +kernel
theorem dX6_init_72 : decode cX6_init 72 = .ok (.putfield 46, 3) := by decide +kernel
theorem dX6_init_75 : decode cX6_init 75 = .ok (.iconst 0, 1) := by decide +kernel
theorem dX6_init_76 : decode cX6_init 76 = .ok (.istore_n 1, 1) := by decide +kernel
theorem dX6_init_77 : decode cX6_init 77 = .ok (.iload_n 1, 1) := by decide +kernel
theorem dX6_init_78 : decode cX6_init 78 = .ok (.iconst 4, 1) := by decide +kernel
theorem dX6_init_79 : decode cX6_init 79 = .ok (.if_icmp .ge 16, 3) := by decide +kernel
theorem dX6_init_82 : decode cX6_init 82 = .ok (.aload_n 0, 1) := by decide +kernel
theorem dX6_init_83 : decode cX6_init 83 = .ok (.getfield 42, 3) := by decide +kernel
theorem dX6_init_86 : decode cX6_init 86 = .ok (.iload_n 1, 1) := by decide +kernel
theorem dX6_init_87 : decode cX6_init 87 = .ok (.iconst 1, 1) := by decide +kernel
theorem dX6_init_88 : decode cX6_init 88 = .ok (.iastore, 1) := by decide +kernel
theorem dX6_init_89 : decode cX6_init 89 = .ok (.iinc 1 1, 3) := by decide +kernel
theorem dX6_init_92 : decode cX6_init 92 = .ok (.goto (-15), 3) := by decide +kernel
theorem dX6_init_95 : decode cX6_init 95 = .ok (.return_, 1) := by decide +kernel
set_option maxHeartbeats 4000000 in
set_option maxRecDepth 100000 in
theorem c_Program_init (l : Launch) (D : va_G) (cI cZ cS : ClassId) (N0 : NT) (h : Nat)  : Mx l D cI cZ cS N0 yX2_init cX2_init 1 none 1 3 24 [.ref h] [(h, .inr (2, [.null, .null, .null, .int 0]))] (fun v w => ∃ (a1 : Nat) (a2 : Nat) (a3 : Nat), v = none ∧ w = ([(h, .inr (2, [.ref a1, .ref a2, .ref a3, .int 0]))] : va_W)) := by
  refine x_enter (by decide) (Nat.le_of_ble_eq_true rfl) ?_
  intro p e s m args below meth c A ls H locs hB hr hin hl hV hA
  have hx := hB.1
  have hb := hB.2.1
  have hl : lv_has ls 1 [(0, .ref h)] := hl
  refine lv_aload_n hx hb dX2_init_0 rfl (lv_at hl 0 rfl) ?_
  refine x_oinit hB k_120 k_78 k_79 hl.1 dX2_init_1 (Nat.le_of_ble_eq_true rfl) (Nat.le_of_ble_eq_true rfl) ?_
  refine lv_aload_n hx hb dX2_init_4 rfl (lv_at hl 0 rfl) ?_
  refine lv_bipush (v := 8) hx hb dX2_init_5 (by decide) ?_
  refine x_newi (N' := 8) hB hV k_101 (by decide) (by decide) (by decide) (Nat.le_of_ble_eq_true rfl) (Nat.le_of_ble_eq_true rfl) dX2_init_7 (fun q_1 H hV => ?_)
  have hV : Vx D A s.heap H locs [(h, .inr (2, [.null, .null, .null, .int 0])), (q_1, .inl (cI, 8, .inl (fun _ => 0)))] := hV
  refine W.widen (k := 1) (n := 8) (Nat.le_of_ble_eq_true rfl) (Nat.le_of_ble_eq_true rfl) ?_
  refine x_putF (v := .ref q_1) hB hV hin 0 rfl rfl 0 (by decide) k_121 rfl rfl rfl rfl (Nat.le_of_ble_eq_true rfl) dX2_init_9 (fun H locs hV => ?_)
  have hV : Vx D A s.heap H locs [(h, .inr (2, [.ref q_1, .null, .null, .int 0])), (q_1, .inl (cI, 8, .inl (fun _ => 0)))] := hV
  refine lv_aload_n hx hb dX2_init_12 rfl (lv_at hl 0 rfl) ?_
  refine lv_bipush (v := 8) hx hb dX2_init_13 (by decide) ?_
  refine x_newi (N' := 8) hB hV k_101 (by decide) (by decide) (by decide) (Nat.le_of_ble_eq_true rfl) (Nat.le_of_ble_eq_true rfl) dX2_init_15 (fun q_2 H hV => ?_)
  have hV : Vx D A s.heap H locs [(h, .inr (2, [.ref q_1, .null, .null, .int 0])), (q_1, .inl (cI, 8, .inl (fun _ => 0))), (q_2, .inl (cI, 8, .inl (fun _ => 0)))] := hV
  refine W.widen (k := 2) (n := 16) (Nat.le_of_ble_eq_true rfl) (Nat.le_of_ble_eq_true rfl) ?_
  refine x_putF (v := .ref q_2) hB hV hin 0 rfl rfl 1 (by decide) k_125 rfl rfl rfl rfl (Nat.le_of_ble_eq_true rfl) dX2_init_17 (fun H locs hV => ?_)
  have hV : Vx D A s.heap H locs [(h, .inr (2, [.ref q_1, .ref q_2, .null, .int 0])), (q_1, .inl (cI, 8, .inl (fun _ => 0))), (q_2, .inl (cI, 8, .inl (fun _ => 0)))] := hV
  refine lv_aload_n hx hb dX2_init_20 rfl (lv_at hl 0 rfl) ?_
  refine lv_bipush (v := 8) hx hb dX2_init_21 (by decide) ?_
  refine x_newi (N' := 8) hB hV k_101 (by decide) (by decide) (by decide) (Nat.le_of_ble_eq_true rfl) (Nat.le_of_ble_eq_true rfl) dX2_init_23 (fun q_3 H hV => ?_)
  have hV : Vx D A s.heap H locs [(h, .inr (2, [.ref q_1, .ref q_2, .null, .int 0])), (q_1, .inl (cI, 8, .inl (fun _ => 0))), (q_2, .inl (cI, 8, .inl (fun _ => 0))), (q_3, .inl (cI, 8, .inl (fun _ => 0)))] := hV
  refine W.widen (k := 3) (n := 24) (Nat.le_of_ble_eq_true rfl) (Nat.le_of_ble_eq_true rfl) ?_
  refine x_putF (v := .ref q_3) hB hV hin 0 rfl rfl 2 (by decide) k_129 rfl rfl rfl rfl (Nat.le_of_ble_eq_true rfl) dX2_init_25 (fun H locs hV => ?_)
  have hV : Vx D A s.heap H locs [(h, .inr (2, [.ref q_1, .ref q_2, .ref q_3, .int 0])), (q_1, .inl (cI, 8, .inl (fun _ => 0))), (q_2, .inl (cI, 8, .inl (fun _ => 0))), (q_3, .inl (cI, 8, .inl (fun _ => 0)))] := hV
  refine lv_aload_n hx hb dX2_init_28 rfl (lv_at hl 0 rfl) ?_
  refine lv_iconst (v := 0) hx hb dX2_init_29 (by decide) ?_
  refine x_put (v := .int 0) hB hV 0 rfl rfl 3 (by decide) k_131 rfl rfl rfl (Nat.le_of_ble_eq_true rfl) dX2_init_30 (fun H locs hV => ?_)
  have hV : Vx D A s.heap H locs [(h, .inr (2, [.ref q_1, .ref q_2, .ref q_3, .int 0])), (q_1, .inl (cI, 8, .inl (fun _ => 0))), (q_2, .inl (cI, 8, .inl (fun _ => 0))), (q_3, .inl (cI, 8, .inl (fun _ => 0)))] := hV
  exact x_vret (w := [(h, .inr (2, [.ref q_1, .ref q_2, .ref q_3, .int 0]))]) hB hr hV hA (Nat.le_of_ble_eq_true rfl) (Nat.le_of_ble_eq_true rfl) [0] rfl rfl (by decide) dX2_init_33 ⟨q_1, q_2, q_3, rfl, rfl⟩
set_option maxHeartbeats 4000000 in
set_option maxRecDepth 100000 in
theorem c_Service_init (l : Launch) (D : va_G) (cI cZ cS : ClassId) (N0 : NT) (h : Nat)  : Mx l D cI cZ cS N0 yX3_init cX3_init 1 none 2 11 112 [.ref h] [(h, .inr (3, [.null, .null, .int 0, .int 0, .int 0, .int 0, .null, .null, .null, .null, .int 0, .int 0, .null, .null, .int 0]))] (fun v w => ∃ (a1 : Nat) (a2 : Nat) (a3 : Nat) (a4 : Nat) (a5 : Nat) (a6 : Nat) (a7 : Nat) (a8 : Nat), v = none ∧ w = ([(h, .inr (3, [.ref a1, .ref a2, .int 0, .int 0, .int 10, .int 0, .ref a3, .ref a4, .ref a5, .ref a6, .int (-1), .int (-1), .ref a7, .ref a8, .int 0]))] : va_W)) := by
  refine x_enter (by decide) (Nat.le_of_ble_eq_true rfl) ?_
  intro p e s m args below meth c A ls H locs hB hr hin hl hV hA
  have hx := hB.1
  have hb := hB.2.1
  have hl : lv_has ls 1 [(0, .ref h)] := hl
  refine lv_aload_n hx hb dX3_init_0 rfl (lv_at hl 0 rfl) ?_
  refine x_oinit hB k_114 k_78 k_79 hl.1 dX3_init_1 (Nat.le_of_ble_eq_true rfl) (Nat.le_of_ble_eq_true rfl) ?_
  refine lv_aload_n hx hb dX3_init_4 rfl (lv_at hl 0 rfl) ?_
  refine x_new (ci := 2) (fs := [.null, .null, .null, .int 0]) hB hV rfl k_115 k_116 k_61 (fnew_2) (Nat.le_of_ble_eq_true rfl) (Nat.le_of_ble_eq_true rfl) dX3_init_5 (fun q_1 H hV => ?_)
  have hV : Vx D A s.heap H locs [(h, .inr (3, [.null, .null, .int 0, .int 0, .int 0, .int 0, .null, .null, .null, .null, .int 0, .int 0, .null, .null, .int 0])), (q_1, .inr (2, [.null, .null, .null, .int 0]))] := hV
  refine W.widen (k := 1) (n := 4) (Nat.le_of_ble_eq_true rfl) (Nat.le_of_ble_eq_true rfl) ?_
  refine lv_dup hx hb dX3_init_8 rfl ?_
  refine x_callIN (n := 0) (host := RX6) (wr := [(h, .inr (3, [.null, .null, .int 0, .int 0, .int 0, .int 0, .null, .null, .null, .null, .int 0, .int 0, .null, .null, .int 0]))]) (As := []) (rest := [.ref q_1, .ref h]) hB hV (x_N hB) hl.1 (c_Program_init l D cI cZ cS N0 q_1 ) k_119 k_61 hB.2.2.2.2.2.2.2.2.1.2.2.1 k_118 rfl (by decide +kernel) ⟨(Nat.le_of_ble_eq_true rfl), (Nat.le_of_ble_eq_true rfl)⟩ rfl (Nat.le_of_ble_eq_true rfl) ⟨(Nat.le_of_ble_eq_true rfl), (Nat.le_of_ble_eq_true rfl)⟩ [1] [0] rfl rfl rfl ⟨by decide, by decide, by decide⟩ dX3_init_9 (fun v w H locs hp hV => ?_)
  obtain ⟨a1_2, a2_3, a3_4, rfl, rfl⟩ := hp
  have hV : Vx D A s.heap H locs [(h, .inr (3, [.null, .null, .int 0, .int 0, .int 0, .int 0, .null, .null, .null, .null, .int 0, .int 0, .null, .null, .int 0])), (q_1, .inr (2, [.ref a1_2, .ref a2_3, .ref a3_4, .int 0]))] := hV
  refine W.eq (g2 := F0 m 12 ls [.ref q_1, .ref h]) rfl ?_
  refine x_put (v := .ref q_1) hB hV 0 rfl rfl 0 (by decide) k_143 rfl rfl rfl (Nat.le_of_ble_eq_true rfl) dX3_init_12 (fun H locs hV => ?_)
  have hV : Vx D A s.heap H locs [(h, .inr (3, [.ref q_1, .null, .int 0, .int 0, .int 0, .int 0, .null, .null, .null, .null, .int 0, .int 0, .null, .null, .int 0])), (q_1, .inr (2, [.ref a1_2, .ref a2_3, .ref a3_4, .int 0]))] := hV
  refine lv_aload_n hx hb dX3_init_15 rfl (lv_at hl 0 rfl) ?_
  refine lv_iconst (v := 4) hx hb dX3_init_16 (by decide) ?_
  refine x_newi (N' := 4) hB hV k_101 (by decide) (by decide) (by decide) (Nat.le_of_ble_eq_true rfl) (Nat.le_of_ble_eq_true rfl) dX3_init_17 (fun q_5 H hV => ?_)
  have hV : Vx D A s.heap H locs [(h, .inr (3, [.ref q_1, .null, .int 0, .int 0, .int 0, .int 0, .null, .null, .null, .null, .int 0, .int 0, .null, .null, .int 0])), (q_1, .inr (2, [.ref a1_2, .ref a2_3, .ref a3_4, .int 0])), (q_5, .inl (cI, 4, .inl (fun _ => 0)))] := hV
  refine W.widen (k := 5) (n := 32) (Nat.le_of_ble_eq_true rfl) (Nat.le_of_ble_eq_true rfl) ?_
  refine x_putF (v := .ref q_5) hB hV hin 0 rfl rfl 1 (by decide) k_146 rfl rfl rfl rfl (Nat.le_of_ble_eq_true rfl) dX3_init_19 (fun H locs hV => ?_)
  have hV : Vx D A s.heap H locs [(h, .inr (3, [.ref q_1, .ref q_5, .int 0, .int 0, .int 0, .int 0, .null, .null, .null, .null, .int 0, .int 0, .null, .null, .int 0])), (q_1, .inr (2, [.ref a1_2, .ref a2_3, .ref a3_4, .int 0])), (q_5, .inl (cI, 4, .inl (fun _ => 0)))] := hV
  refine lv_aload_n hx hb dX3_init_22 rfl (lv_at hl 0 rfl) ?_
  refine lv_iconst (v := 0) hx hb dX3_init_23 (by decide) ?_
  refine x_put (v := .int 0) hB hV 0 rfl rfl 2 (by decide) k_149 rfl rfl rfl (Nat.le_of_ble_eq_true rfl) dX3_init_24 (fun H locs hV => ?_)
  have hV : Vx D A s.heap H locs [(h, .inr (3, [.ref q_1, .ref q_5, .int 0, .int 0, .int 0, .int 0, .null, .null, .null, .null, .int 0, .int 0, .null, .null, .int 0])), (q_1, .inr (2, [.ref a1_2, .ref a2_3, .ref a3_4, .int 0])), (q_5, .inl (cI, 4, .inl (fun _ => 0)))] := hV
  refine lv_aload_n hx hb dX3_init_27 rfl (lv_at hl 0 rfl) ?_
  refine lv_iconst (v := 0) hx hb dX3_init_28 (by decide) ?_
  refine x_put (v := .int 0) hB hV 0 rfl rfl 3 (by decide) k_152 rfl rfl rfl (Nat.le_of_ble_eq_true rfl) dX3_init_29 (fun H locs hV => ?_)
  have hV : Vx D A s.heap H locs [(h, .inr (3, [.ref q_1, .ref q_5, .int 0, .int 0, .int 0, .int 0, .null, .null, .null, .null, .int 0, .int 0, .null, .null, .int 0])), (q_1, .inr (2, [.ref a1_2, .ref a2_3, .ref a3_4, .int 0])), (q_5, .inl (cI, 4, .inl (fun _ => 0)))] := hV
  refine lv_aload_n hx hb dX3_init_32 rfl (lv_at hl 0 rfl) ?_
  refine lv_bipush (v := 10) hx hb dX3_init_33 (by decide) ?_
  refine x_put (v := .int 10) hB hV 0 rfl rfl 4 (by decide) k_155 rfl rfl rfl (Nat.le_of_ble_eq_true rfl) dX3_init_35 (fun H locs hV => ?_)
  have hV : Vx D A s.heap H locs [(h, .inr (3, [.ref q_1, .ref q_5, .int 0, .int 0, .int 10, .int 0, .null, .null, .null, .null, .int 0, .int 0, .null, .null, .int 0])), (q_1, .inr (2, [.ref a1_2, .ref a2_3, .ref a3_4, .int 0])), (q_5, .inl (cI, 4, .inl (fun _ => 0)))] := hV
  refine lv_aload_n hx hb dX3_init_38 rfl (lv_at hl 0 rfl) ?_
  refine lv_iconst (v := 0) hx hb dX3_init_39 (by decide) ?_
  refine x_put (v := .int 0) hB hV 0 rfl rfl 5 (by decide) k_158 rfl rfl rfl (Nat.le_of_ble_eq_true rfl) dX3_init_40 (fun H locs hV => ?_)
  have hV : Vx D A s.heap H locs [(h, .inr (3, [.ref q_1, .ref q_5, .int 0, .int 0, .int 10, .int 0, .null, .null, .null, .null, .int 0, .int 0, .null, .null, .int 0])), (q_1, .inr (2, [.ref a1_2, .ref a2_3, .ref a3_4, .int 0])), (q_5, .inl (cI, 4, .inl (fun _ => 0)))] := hV
  refine lv_aload_n hx hb dX3_init_43 rfl (lv_at hl 0 rfl) ?_
  refine lv_bipush (v := 16) hx hb dX3_init_44 (by decide) ?_
  refine x_newi (N' := 16) hB hV k_101 (by decide) (by decide) (by decide) (Nat.le_of_ble_eq_true rfl) (Nat.le_of_ble_eq_true rfl) dX3_init_46 (fun q_6 H hV => ?_)
  have hV : Vx D A s.heap H locs [(h, .inr (3, [.ref q_1, .ref q_5, .int 0, .int 0, .int 10, .int 0, .null, .null, .null, .null, .int 0, .int 0, .null, .null, .int 0])), (q_1, .inr (2, [.ref a1_2, .ref a2_3, .ref a3_4, .int 0])), (q_5, .inl (cI, 4, .inl (fun _ => 0))), (q_6, .inl (cI, 16, .inl (fun _ => 0)))] := hV
  refine W.widen (k := 6) (n := 48) (Nat.le_of_ble_eq_true rfl) (Nat.le_of_ble_eq_true rfl) ?_
  refine x_putF (v := .ref q_6) hB hV hin 0 rfl rfl 6 (by decide) k_159 rfl rfl rfl rfl (Nat.le_of_ble_eq_true rfl) dX3_init_48 (fun H locs hV => ?_)
  have hV : Vx D A s.heap H locs [(h, .inr (3, [.ref q_1, .ref q_5, .int 0, .int 0, .int 10, .int 0, .ref q_6, .null, .null, .null, .int 0, .int 0, .null, .null, .int 0])), (q_1, .inr (2, [.ref a1_2, .ref a2_3, .ref a3_4, .int 0])), (q_5, .inl (cI, 4, .inl (fun _ => 0))), (q_6, .inl (cI, 16, .inl (fun _ => 0)))] := hV
  refine lv_aload_n hx hb dX3_init_51 rfl (lv_at hl 0 rfl) ?_
  refine lv_bipush (v := 16) hx hb dX3_init_52 (by decide) ?_
  refine x_newi (N' := 16) hB hV k_101 (by decide) (by decide) (by decide) (Nat.le_of_ble_eq_true rfl) (Nat.le_of_ble_eq_true rfl) dX3_init_54 (fun q_7 H hV => ?_)
  have hV : Vx D A s.heap H locs [(h, .inr (3, [.ref q_1, .ref q_5, .int 0, .int 0, .int 10, .int 0, .ref q_6, .null, .null, .null, .int 0, .int 0, .null, .null, .int 0])), (q_1, .inr (2, [.ref a1_2, .ref a2_3, .ref a3_4, .int 0])), (q_5, .inl (cI, 4, .inl (fun _ => 0))), (q_6, .inl (cI, 16, .inl (fun _ => 0))), (q_7, .inl (cI, 16, .inl (fun _ => 0)))] := hV
  refine W.widen (k := 7) (n := 64) (Nat.le_of_ble_eq_true rfl) (Nat.le_of_ble_eq_true rfl) ?_
  refine x_putF (v := .ref q_7) hB hV hin 0 rfl rfl 7 (by decide) k_160 rfl rfl rfl rfl (Nat.le_of_ble_eq_true rfl) dX3_init_56 (fun H locs hV => ?_)
  have hV : Vx D A s.heap H locs [(h, .inr (3, [.ref q_1, .ref q_5, .int 0, .int 0, .int 10, .int 0, .ref q_6, .ref q_7, .null, .null, .int 0, .int 0, .null, .null, .int 0])), (q_1, .inr (2, [.ref a1_2, .ref a2_3, .ref a3_4, .int 0])), (q_5, .inl (cI, 4, .inl (fun _ => 0))), (q_6, .inl (cI, 16, .inl (fun _ => 0))), (q_7, .inl (cI, 16, .inl (fun _ => 0)))] := hV
  refine lv_aload_n hx hb dX3_init_59 rfl (lv_at hl 0 rfl) ?_
  refine lv_bipush (v := 16) hx hb dX3_init_60 (by decide) ?_
  refine x_newi (N' := 16) hB hV k_101 (by decide) (by decide) (by decide) (Nat.le_of_ble_eq_true rfl) (Nat.le_of_ble_eq_true rfl) dX3_init_62 (fun q_8 H hV => ?_)
  have hV : Vx D A s.heap H locs [(h, .inr (3, [.ref q_1, .ref q_5, .int 0, .int 0, .int 10, .int 0, .ref q_6, .ref q_7, .null, .null, .int 0, .int 0, .null, .null, .int 0])), (q_1, .inr (2, [.ref a1_2, .ref a2_3, .ref a3_4, .int 0])), (q_5, .inl (cI, 4, .inl (fun _ => 0))), (q_6, .inl (cI, 16, .inl (fun _ => 0))), (q_7, .inl (cI, 16, .inl (fun _ => 0))), (q_8, .inl (cI, 16, .inl (fun _ => 0)))] := hV
  refine W.widen (k := 8) (n := 80) (Nat.le_of_ble_eq_true rfl) (Nat.le_of_ble_eq_true rfl) ?_
  refine x_putF (v := .ref q_8) hB hV hin 0 rfl rfl 8 (by decide) k_161 rfl rfl rfl rfl (Nat.le_of_ble_eq_true rfl) dX3_init_64 (fun H locs hV => ?_)
  have hV : Vx D A s.heap H locs [(h, .inr (3, [.ref q_1, .ref q_5, .int 0, .int 0, .int 10, .int 0, .ref q_6, .ref q_7, .ref q_8, .null, .int 0, .int 0, .null, .null, .int 0])), (q_1, .inr (2, [.ref a1_2, .ref a2_3, .ref a3_4, .int 0])), (q_5, .inl (cI, 4, .inl (fun _ => 0))), (q_6, .inl (cI, 16, .inl (fun _ => 0))), (q_7, .inl (cI, 16, .inl (fun _ => 0))), (q_8, .inl (cI, 16, .inl (fun _ => 0)))] := hV
  refine lv_aload_n hx hb dX3_init_67 rfl (lv_at hl 0 rfl) ?_
  refine lv_bipush (v := 16) hx hb dX3_init_68 (by decide) ?_
  refine x_newi (N' := 16) hB hV k_101 (by decide) (by decide) (by decide) (Nat.le_of_ble_eq_true rfl) (Nat.le_of_ble_eq_true rfl) dX3_init_70 (fun q_9 H hV => ?_)
  have hV : Vx D A s.heap H locs [(h, .inr (3, [.ref q_1, .ref q_5, .int 0, .int 0, .int 10, .int 0, .ref q_6, .ref q_7, .ref q_8, .null, .int 0, .int 0, .null, .null, .int 0])), (q_1, .inr (2, [.ref a1_2, .ref a2_3, .ref a3_4, .int 0])), (q_5, .inl (cI, 4, .inl (fun _ => 0))), (q_6, .inl (cI, 16, .inl (fun _ => 0))), (q_7, .inl (cI, 16, .inl (fun _ => 0))), (q_8, .inl (cI, 16, .inl (fun _ => 0))), (q_9, .inl (cI, 16, .inl (fun _ => 0)))] := hV
  refine W.widen (k := 9) (n := 96) (Nat.le_of_ble_eq_true rfl) (Nat.le_of_ble_eq_true rfl) ?_
  refine x_putF (v := .ref q_9) hB hV hin 0 rfl rfl 9 (by decide) k_162 rfl rfl rfl rfl (Nat.le_of_ble_eq_true rfl) dX3_init_72 (fun H locs hV => ?_)
  have hV : Vx D A s.heap H locs [(h, .inr (3, [.ref q_1, .ref q_5, .int 0, .int 0, .int 10, .int 0, .ref q_6, .ref q_7, .ref q_8, .ref q_9, .int 0, .int 0, .null, .null, .int 0])), (q_1, .inr (2, [.ref a1_2, .ref a2_3, .ref a3_4, .int 0])), (q_5, .inl (cI, 4, .inl (fun _ => 0))), (q_6, .inl (cI, 16, .inl (fun _ => 0))), (q_7, .inl (cI, 16, .inl (fun _ => 0))), (q_8, .inl (cI, 16, .inl (fun _ => 0))), (q_9, .inl (cI, 16, .inl (fun _ => 0)))] := hV
  refine lv_aload_n hx hb dX3_init_75 rfl (lv_at hl 0 rfl) ?_
  refine lv_iconst (v := (-1)) hx hb dX3_init_76 (by decide) ?_
  refine x_put (v := .int (-1)) hB hV 0 rfl rfl 10 (by decide) k_163 rfl rfl rfl (Nat.le_of_ble_eq_true rfl) dX3_init_77 (fun H locs hV => ?_)
  have hV : Vx D A s.heap H locs [(h, .inr (3, [.ref q_1, .ref q_5, .int 0, .int 0, .int 10, .int 0, .ref q_6, .ref q_7, .ref q_8, .ref q_9, .int (-1), .int 0, .null, .null, .int 0])), (q_1, .inr (2, [.ref a1_2, .ref a2_3, .ref a3_4, .int 0])), (q_5, .inl (cI, 4, .inl (fun _ => 0))), (q_6, .inl (cI, 16, .inl (fun _ => 0))), (q_7, .inl (cI, 16, .inl (fun _ => 0))), (q_8, .inl (cI, 16, .inl (fun _ => 0))), (q_9, .inl (cI, 16, .inl (fun _ => 0)))] := hV
  refine lv_aload_n hx hb dX3_init_80 rfl (lv_at hl 0 rfl) ?_
  refine lv_iconst (v := (-1)) hx hb dX3_init_81 (by decide) ?_
  refine x_put (v := .int (-1)) hB hV 0 rfl rfl 11 (by decide) k_164 rfl rfl rfl (Nat.le_of_ble_eq_true rfl) dX3_init_82 (fun H locs hV => ?_)
  have hV : Vx D A s.heap H locs [(h, .inr (3, [.ref q_1, .ref q_5, .int 0, .int 0, .int 10, .int 0, .ref q_6, .ref q_7, .ref q_8, .ref q_9, .int (-1), .int (-1), .null, .null, .int 0])), (q_1, .inr (2, [.ref a1_2, .ref a2_3, .ref a3_4, .int 0])), (q_5, .inl (cI, 4, .inl (fun _ => 0))), (q_6, .inl (cI, 16, .inl (fun _ => 0))), (q_7, .inl (cI, 16, .inl (fun _ => 0))), (q_8, .inl (cI, 16, .inl (fun _ => 0))), (q_9, .inl (cI, 16, .inl (fun _ => 0)))] := hV
  refine lv_aload_n hx hb dX3_init_85 rfl (lv_at hl 0 rfl) ?_
  refine lv_bipush (v := 8) hx hb dX3_init_86 (by decide) ?_
  refine x_newi (N' := 8) hB hV k_101 (by decide) (by decide) (by decide) (Nat.le_of_ble_eq_true rfl) (Nat.le_of_ble_eq_true rfl) dX3_init_88 (fun q_10 H hV => ?_)
  have hV : Vx D A s.heap H locs [(h, .inr (3, [.ref q_1, .ref q_5, .int 0, .int 0, .int 10, .int 0, .ref q_6, .ref q_7, .ref q_8, .ref q_9, .int (-1), .int (-1), .null, .null, .int 0])), (q_1, .inr (2, [.ref a1_2, .ref a2_3, .ref a3_4, .int 0])), (q_5, .inl (cI, 4, .inl (fun _ => 0))), (q_6, .inl (cI, 16, .inl (fun _ => 0))), (q_7, .inl (cI, 16, .inl (fun _ => 0))), (q_8, .inl (cI, 16, .inl (fun _ => 0))), (q_9, .inl (cI, 16, .inl (fun _ => 0))), (q_10, .inl (cI, 8, .inl (fun _ => 0)))] := hV
  refine W.widen (k := 10) (n := 104) (Nat.le_of_ble_eq_true rfl) (Nat.le_of_ble_eq_true rfl) ?_
  refine x_putF (v := .ref q_10) hB hV hin 0 rfl rfl 12 (by decide) k_165 rfl rfl rfl rfl (Nat.le_of_ble_eq_true rfl) dX3_init_90 (fun H locs hV => ?_)
  have hV : Vx D A s.heap H locs [(h, .inr (3, [.ref q_1, .ref q_5, .int 0, .int 0, .int 10, .int 0, .ref q_6, .ref q_7, .ref q_8, .ref q_9, .int (-1), .int (-1), .ref q_10, .null, .int 0])), (q_1, .inr (2, [.ref a1_2, .ref a2_3, .ref a3_4, .int 0])), (q_5, .inl (cI, 4, .inl (fun _ => 0))), (q_6, .inl (cI, 16, .inl (fun _ => 0))), (q_7, .inl (cI, 16, .inl (fun _ => 0))), (q_8, .inl (cI, 16, .inl (fun _ => 0))), (q_9, .inl (cI, 16, .inl (fun _ => 0))), (q_10, .inl (cI, 8, .inl (fun _ => 0)))] := hV
  refine lv_aload_n hx hb dX3_init_93 rfl (lv_at hl 0 rfl) ?_
  refine lv_bipush (v := 8) hx hb dX3_init_94 (by decide) ?_
  refine x_newi (N' := 8) hB hV k_101 (by decide) (by decide) (by decide) (Nat.le_of_ble_eq_true rfl) (Nat.le_of_ble_eq_true rfl) dX3_init_96 (fun q_11 H hV => ?_)
  have hV : Vx D A s.heap H locs [(h, .inr (3, [.ref q_1, .ref q_5, .int 0, .int 0, .int 10, .int 0, .ref q_6, .ref q_7, .ref q_8, .ref q_9, .int (-1), .int (-1), .ref q_10, .null, .int 0])), (q_1, .inr (2, [.ref a1_2, .ref a2_3, .ref a3_4, .int 0])), (q_5, .inl (cI, 4, .inl (fun _ => 0))), (q_6, .inl (cI, 16, .inl (fun _ => 0))), (q_7, .inl (cI, 16, .inl (fun _ => 0))), (q_8, .inl (cI, 16, .inl (fun _ => 0))), (q_9, .inl (cI, 16, .inl (fun _ => 0))), (q_10, .inl (cI, 8, .inl (fun _ => 0))), (q_11, .inl (cI, 8, .inl (fun _ => 0)))] := hV
  refine W.widen (k := 11) (n := 112) (Nat.le_of_ble_eq_true rfl) (Nat.le_of_ble_eq_true rfl) ?_
  refine x_putF (v := .ref q_11) hB hV hin 0 rfl rfl 13 (by decide) k_166 rfl rfl rfl rfl (Nat.le_of_ble_eq_true rfl) dX3_init_98 (fun H locs hV => ?_)
  have hV : Vx D A s.heap H locs [(h, .inr (3, [.ref q_1, .ref q_5, .int 0, .int 0, .int 10, .int 0, .ref q_6, .ref q_7, .ref q_8, .ref q_9, .int (-1), .int (-1), .ref q_10, .ref q_11, .int 0])), (q_1, .inr (2, [.ref a1_2, .ref a2_3, .ref a3_4, .int 0])), (q_5, .inl (cI, 4, .inl (fun _ => 0))), (q_6, .inl (cI, 16, .inl (fun _ => 0))), (q_7, .inl (cI, 16, .inl (fun _ => 0))), (q_8, .inl (cI, 16, .inl (fun _ => 0))), (q_9, .inl (cI, 16, .inl (fun _ => 0))), (q_10, .inl (cI, 8, .inl (fun _ => 0))), (q_11, .inl (cI, 8, .inl (fun _ => 0)))] := hV
  refine lv_aload_n hx hb dX3_init_101 rfl (lv_at hl 0 rfl) ?_
  refine lv_iconst (v := 0) hx hb dX3_init_102 (by decide) ?_
  refine x_put (v := .int 0) hB hV 0 rfl rfl 14 (by decide) k_167 rfl rfl rfl (Nat.le_of_ble_eq_true rfl) dX3_init_103 (fun H locs hV => ?_)
  have hV : Vx D A s.heap H locs [(h, .inr (3, [.ref q_1, .ref q_5, .int 0, .int 0, .int 10, .int 0, .ref q_6, .ref q_7, .ref q_8, .ref q_9, .int (-1), .int (-1), .ref q_10, .ref q_11, .int 0])), (q_1, .inr (2, [.ref a1_2, .ref a2_3, .ref a3_4, .int 0])), (q_5, .inl (cI, 4, .inl (fun _ => 0))), (q_6, .inl (cI, 16, .inl (fun _ => 0))), (q_7, .inl (cI, 16, .inl (fun _ => 0))), (q_8, .inl (cI, 16, .inl (fun _ => 0))), (q_9, .inl (cI, 16, .inl (fun _ => 0))), (q_10, .inl (cI, 8, .inl (fun _ => 0))), (q_11, .inl (cI, 8, .inl (fun _ => 0)))] := hV
  exact x_vret (w := [(h, .inr (3, [.ref q_1, .ref q_5, .int 0, .int 0, .int 10, .int 0, .ref q_6, .ref q_7, .ref q_8, .ref q_9, .int (-1), .int (-1), .ref q_10, .ref q_11, .int 0]))]) hB hr hV hA (Nat.le_of_ble_eq_true rfl) (Nat.le_of_ble_eq_true rfl) [0] rfl rfl (by decide) dX3_init_106 ⟨q_1, q_5, q_6, q_7, q_8, q_9, q_10, q_11, rfl, rfl⟩
set_option maxHeartbeats 4000000 in
set_option maxRecDepth 100000 in
theorem c_World_init (l : Launch) (D : va_G) (cI cZ cS : ClassId) (N0 : NT) (h : Nat)  : Mx l D cI cZ cS N0 yX5_init cX5_init 2 none 3 74 1280 [.ref h] [(h, .inr (5, [.null, .int 0, .int 0, .null, .int 0, .int 0, .int 0, .int 0]))] (fun v w => ∃ (a1 : Nat) (a2 : Nat), v = none ∧ w = ([(h, .inr (5, [.ref a1, .int 0, .int 0, .ref a2, .int 0, .int 0, .int 0, .int 0]))] : va_W)) := by
  refine x_enter (by decide) (Nat.le_of_ble_eq_true rfl) ?_
  intro p e s m args below meth c A ls H locs hB hr hin hl hV hA
  have hx := hB.1
  have hb := hB.2.1
  have hl : lv_has ls 2 [(0, .ref h)] := hl
  refine lv_aload_n hx hb dX5_init_0 rfl (lv_at hl 0 rfl) ?_
  refine x_oinit hB k_107 k_78 k_79 hl.1 dX5_init_1 (Nat.le_of_ble_eq_true rfl) (Nat.le_of_ble_eq_true rfl) ?_
  refine lv_aload_n hx hb dX5_init_4 rfl (lv_at hl 0 rfl) ?_
  refine lv_bipush (v := 6) hx hb dX5_init_5 (by decide) ?_
  refine x_newq (N' := 6) hB hV k_108 (by decide) (by decide) (by decide) (Nat.le_of_ble_eq_true rfl) (Nat.le_of_ble_eq_true rfl) dX5_init_7 (fun q_1 H hV => ?_)
  have hV : Vx D A s.heap H locs [(h, .inr (5, [.null, .int 0, .int 0, .null, .int 0, .int 0, .int 0, .int 0])), (q_1, .inl (cS, 6, .inr (.inr (.inr (.inr (fun _ => none))))))] := hV
  refine W.widen (k := 1) (n := 6) (Nat.le_of_ble_eq_true rfl) (Nat.le_of_ble_eq_true rfl) ?_
  refine x_putF (v := .ref q_1) hB hV hin 0 rfl rfl 0 (by decide) k_199 rfl rfl rfl rfl (Nat.le_of_ble_eq_true rfl) dX5_init_10 (fun H locs hV => ?_)
  have hV : Vx D A s.heap H locs [(h, .inr (5, [.ref q_1, .int 0, .int 0, .null, .int 0, .int 0, .int 0, .int 0])), (q_1, .inl (cS, 6, .inr (.inr (.inr (.inr (fun _ => none))))))] := hV
  refine lv_aload_n hx hb dX5_init_13 rfl (lv_at hl 0 rfl) ?_
  refine lv_iconst (v := 0) hx hb dX5_init_14 (by decide) ?_
  refine x_put (v := .int 0) hB hV 0 rfl rfl 1 (by decide) k_202 rfl rfl rfl (Nat.le_of_ble_eq_true rfl) dX5_init_15 (fun H locs hV => ?_)
  have hV : Vx D A s.heap H locs [(h, .inr (5, [.ref q_1, .int 0, .int 0, .null, .int 0, .int 0, .int 0, .int 0])), (q_1, .inl (cS, 6, .inr (.inr (.inr (.inr (fun _ => none))))))] := hV
  refine lv_aload_n hx hb dX5_init_18 rfl (lv_at hl 0 rfl) ?_
  refine lv_iconst (v := 0) hx hb dX5_init_19 (by decide) ?_
  refine x_put (v := .int 0) hB hV 0 rfl rfl 2 (by decide) k_205 rfl rfl rfl (Nat.le_of_ble_eq_true rfl) dX5_init_20 (fun H locs hV => ?_)
  have hV : Vx D A s.heap H locs [(h, .inr (5, [.ref q_1, .int 0, .int 0, .null, .int 0, .int 0, .int 0, .int 0])), (q_1, .inl (cS, 6, .inr (.inr (.inr (.inr (fun _ => none))))))] := hV
  refine lv_aload_n hx hb dX5_init_23 rfl (lv_at hl 0 rfl) ?_
  refine lv_sipush (v := 512) hx hb dX5_init_24 (by decide) ?_
  refine x_newi (N' := 512) hB hV k_101 (by decide) (by decide) (by decide) (Nat.le_of_ble_eq_true rfl) (Nat.le_of_ble_eq_true rfl) dX5_init_27 (fun q_2 H hV => ?_)
  have hV : Vx D A s.heap H locs [(h, .inr (5, [.ref q_1, .int 0, .int 0, .null, .int 0, .int 0, .int 0, .int 0])), (q_1, .inl (cS, 6, .inr (.inr (.inr (.inr (fun _ => none)))))), (q_2, .inl (cI, 512, .inl (fun _ => 0)))] := hV
  refine W.widen (k := 2) (n := 518) (Nat.le_of_ble_eq_true rfl) (Nat.le_of_ble_eq_true rfl) ?_
  refine x_putF (v := .ref q_2) hB hV hin 0 rfl rfl 3 (by decide) k_207 rfl rfl rfl rfl (Nat.le_of_ble_eq_true rfl) dX5_init_29 (fun H locs hV => ?_)
  have hV : Vx D A s.heap H locs [(h, .inr (5, [.ref q_1, .int 0, .int 0, .ref q_2, .int 0, .int 0, .int 0, .int 0])), (q_1, .inl (cS, 6, .inr (.inr (.inr (.inr (fun _ => none)))))), (q_2, .inl (cI, 512, .inl (fun _ => 0)))] := hV
  refine lv_aload_n hx hb dX5_init_32 rfl (lv_at hl 0 rfl) ?_
  refine lv_iconst (v := 0) hx hb dX5_init_33 (by decide) ?_
  refine x_put (v := .int 0) hB hV 0 rfl rfl 4 (by decide) k_210 rfl rfl rfl (Nat.le_of_ble_eq_true rfl) dX5_init_34 (fun H locs hV => ?_)
  have hV : Vx D A s.heap H locs [(h, .inr (5, [.ref q_1, .int 0, .int 0, .ref q_2, .int 0, .int 0, .int 0, .int 0])), (q_1, .inl (cS, 6, .inr (.inr (.inr (.inr (fun _ => none)))))), (q_2, .inl (cI, 512, .inl (fun _ => 0)))] := hV
  refine lv_aload_n hx hb dX5_init_37 rfl (lv_at hl 0 rfl) ?_
  refine lv_iconst (v := 0) hx hb dX5_init_38 (by decide) ?_
  refine x_put (v := .int 0) hB hV 0 rfl rfl 5 (by decide) k_213 rfl rfl rfl (Nat.le_of_ble_eq_true rfl) dX5_init_39 (fun H locs hV => ?_)
  have hV : Vx D A s.heap H locs [(h, .inr (5, [.ref q_1, .int 0, .int 0, .ref q_2, .int 0, .int 0, .int 0, .int 0])), (q_1, .inl (cS, 6, .inr (.inr (.inr (.inr (fun _ => none)))))), (q_2, .inl (cI, 512, .inl (fun _ => 0)))] := hV
  refine lv_aload_n hx hb dX5_init_42 rfl (lv_at hl 0 rfl) ?_
  refine lv_iconst (v := 0) hx hb dX5_init_43 (by decide) ?_
  refine x_put (v := .int 0) hB hV 0 rfl rfl 6 (by decide) k_215 rfl rfl rfl (Nat.le_of_ble_eq_true rfl) dX5_init_44 (fun H locs hV => ?_)
  have hV : Vx D A s.heap H locs [(h, .inr (5, [.ref q_1, .int 0, .int 0, .ref q_2, .int 0, .int 0, .int 0, .int 0])), (q_1, .inl (cS, 6, .inr (.inr (.inr (.inr (fun _ => none)))))), (q_2, .inl (cI, 512, .inl (fun _ => 0)))] := hV
  refine lv_aload_n hx hb dX5_init_47 rfl (lv_at hl 0 rfl) ?_
  refine lv_iconst (v := 0) hx hb dX5_init_48 (by decide) ?_
  refine x_put (v := .int 0) hB hV 0 rfl rfl 7 (by decide) k_216 rfl rfl rfl (Nat.le_of_ble_eq_true rfl) dX5_init_49 (fun H locs hV => ?_)
  have hV : Vx D A s.heap H locs [(h, .inr (5, [.ref q_1, .int 0, .int 0, .ref q_2, .int 0, .int 0, .int 0, .int 0])), (q_1, .inl (cS, 6, .inr (.inr (.inr (.inr (fun _ => none)))))), (q_2, .inl (cI, 512, .inl (fun _ => 0)))] := hV
  refine lv_iconst (v := 0) hx hb dX5_init_52 (by decide) ?_
  refine lv_istore_n (lv' := [(1, .int 0), (0, .ref h)]) hx hb dX5_init_53 rfl hl (by decide) rfl (fun ls hl => ?_)
  refine lv_iload_n hx hb dX5_init_54 rfl (lv_at hl 0 rfl) ?_
  refine lv_bipush (v := 6) hx hb dX5_init_55 (by decide) ?_
  refine lv_icmp_ge (tgt := 79) hx hb dX5_init_57 (by decide) (fun c_ => absurd c_ (by decide)) (fun c_ => ?_)
  refine lv_aload_n hx hb dX5_init_60 rfl (lv_at hl 1 rfl) ?_
  refine x_get (v := .ref q_1) hB hV 0 rfl rfl 0 (by decide) k_199 rfl dX5_init_61 ?_
  refine lv_iload_n hx hb dX5_init_64 rfl (lv_at hl 0 rfl) ?_
  refine x_new (ci := 3) (fs := [.null, .null, .int 0, .int 0, .int 0, .int 0, .null, .null, .null, .null, .int 0, .int 0, .null, .null, .int 0]) hB hV rfl k_108 k_110 k_60 (fnew_3) (Nat.le_of_ble_eq_true rfl) (Nat.le_of_ble_eq_true rfl) dX5_init_65 (fun q_3 H hV => ?_)
  have hV : Vx D A s.heap H locs [(h, .inr (5, [.ref q_1, .int 0, .int 0, .ref q_2, .int 0, .int 0, .int 0, .int 0])), (q_1, .inl (cS, 6, .inr (.inr (.inr (.inr (fun _ => none)))))), (q_2, .inl (cI, 512, .inl (fun _ => 0))), (q_3, .inr (3, [.null, .null, .int 0, .int 0, .int 0, .int 0, .null, .null, .null, .null, .int 0, .int 0, .null, .null, .int 0]))] := hV
  refine W.widen (k := 3) (n := 533) (Nat.le_of_ble_eq_true rfl) (Nat.le_of_ble_eq_true rfl) ?_
  refine lv_dup hx hb dX5_init_68 rfl ?_
  refine x_callIN (n := 0) (host := RX6) (wr := [(h, .inr (5, [.ref q_1, .int 0, .int 0, .ref q_2, .int 0, .int 0, .int 0, .int 0])), (q_1, .inl (cS, 6, .inr (.inr (.inr (.inr (fun _ => none)))))), (q_2, .inl (cI, 512, .inl (fun _ => 0)))]) (As := []) (rest := [.ref q_3, .int 0, .ref q_1]) hB hV (x_N hB) hl.1 (c_Service_init l D cI cZ cS N0 q_3 ) k_113 k_60 hB.2.2.2.2.2.2.2.2.1.2.1 k_112 rfl (by decide +kernel) ⟨(Nat.le_of_ble_eq_true rfl), (Nat.le_of_ble_eq_true rfl)⟩ rfl (Nat.le_of_ble_eq_true rfl) ⟨(Nat.le_of_ble_eq_true rfl), (Nat.le_of_ble_eq_true rfl)⟩ [3] [0, 1, 2] rfl rfl rfl ⟨by decide, by decide, by decide⟩ dX5_init_69 (fun v w H locs hp hV => ?_)
  obtain ⟨a1_4, a2_5, a3_6, a4_7, a5_8, a6_9, a7_10, a8_11, rfl, rfl⟩ := hp
  have hV : Vx D A s.heap H locs [(h, .inr (5, [.ref q_1, .int 0, .int 0, .ref q_2, .int 0, .int 0, .int 0, .int 0])), (q_1, .inl (cS, 6, .inr (.inr (.inr (.inr (fun _ => none)))))), (q_2, .inl (cI, 512, .inl (fun _ => 0))), (q_3, .inr (3, [.ref a1_4, .ref a2_5, .int 0, .int 0, .int 10, .int 0, .ref a3_6, .ref a4_7, .ref a5_8, .ref a6_9, .int (-1), .int (-1), .ref a7_10, .ref a8_11, .int 0]))] := hV
  refine W.eq (g2 := F0 m 72 ls [.ref q_3, .int 0, .ref q_1]) rfl ?_
  refine x_astq hB hV 1 3 rfl rfl (by unfold vp_in; decide) dX5_init_72 (fun H locs g_12 hV => ?_)
  have hV : Vx D A s.heap H locs [(h, .inr (5, [.ref q_1, .int 0, .int 0, .ref q_2, .int 0, .int 0, .int 0, .int 0])), (q_1, .inl (cS, 6, .inr (.inr (.inr (.inr g_12))))), (q_2, .inl (cI, 512, .inl (fun _ => 0))), (q_3, .inr (3, [.ref a1_4, .ref a2_5, .int 0, .int 0, .int 10, .int 0, .ref a3_6, .ref a4_7, .ref a5_8, .ref a6_9, .int (-1), .int (-1), .ref a7_10, .ref a8_11, .int 0]))] := hV
  have hV := Vx_sub (w := [(h, .inr (5, [.ref q_1, .int 0, .int 0, .ref q_2, .int 0, .int 0, .int 0, .int 0])), (q_1, .inl (cS, 6, .inr (.inr (.inr (.inr g_12))))), (q_2, .inl (cI, 512, .inl (fun _ => 0)))]) hV [0, 1, 2] rfl rfl (by decide)
  refine lv_iinc (v := 1) (lv' := [(1, .int 1), (0, .ref h)]) hx hb dX5_init_73 hl (k := 0) rfl (by decide) (by decide) rfl (fun ls hl => ?_)
  refine lv_goto (tgt := 54) hx hb dX5_init_76 (by decide) ?_
  refine lv_iload_n hx hb dX5_init_54 rfl (lv_at hl 0 rfl) ?_
  refine lv_bipush (v := 6) hx hb dX5_init_55 (by decide) ?_
  refine lv_icmp_ge (tgt := 79) hx hb dX5_init_57 (by decide) (fun c_ => absurd c_ (by decide)) (fun c_ => ?_)
  refine lv_aload_n hx hb dX5_init_60 rfl (lv_at hl 1 rfl) ?_
  refine x_get (v := .ref q_1) hB hV 0 rfl rfl 0 (by decide) k_199 rfl dX5_init_61 ?_
  refine lv_iload_n hx hb dX5_init_64 rfl (lv_at hl 0 rfl) ?_
  refine x_new (ci := 3) (fs := [.null, .null, .int 0, .int 0, .int 0, .int 0, .null, .null, .null, .null, .int 0, .int 0, .null, .null, .int 0]) hB hV rfl k_108 k_110 k_60 (fnew_3) (Nat.le_of_ble_eq_true rfl) (Nat.le_of_ble_eq_true rfl) dX5_init_65 (fun q_13 H hV => ?_)
  have hV : Vx D A s.heap H locs [(h, .inr (5, [.ref q_1, .int 0, .int 0, .ref q_2, .int 0, .int 0, .int 0, .int 0])), (q_1, .inl (cS, 6, .inr (.inr (.inr (.inr g_12))))), (q_2, .inl (cI, 512, .inl (fun _ => 0))), (q_13, .inr (3, [.null, .null, .int 0, .int 0, .int 0, .int 0, .null, .null, .null, .null, .int 0, .int 0, .null, .null, .int 0]))] := hV
  refine W.widen (k := 15) (n := 660) (Nat.le_of_ble_eq_true rfl) (Nat.le_of_ble_eq_true rfl) ?_
  refine lv_dup hx hb dX5_init_68 rfl ?_
  refine x_callIN (n := 0) (host := RX6) (wr := [(h, .inr (5, [.ref q_1, .int 0, .int 0, .ref q_2, .int 0, .int 0, .int 0, .int 0])), (q_1, .inl (cS, 6, .inr (.inr (.inr (.inr g_12))))), (q_2, .inl (cI, 512, .inl (fun _ => 0)))]) (As := []) (rest := [.ref q_13, .int 1, .ref q_1]) hB hV (x_N hB) hl.1 (c_Service_init l D cI cZ cS N0 q_13 ) k_113 k_60 hB.2.2.2.2.2.2.2.2.1.2.1 k_112 rfl (by decide +kernel) ⟨(Nat.le_of_ble_eq_true rfl), (Nat.le_of_ble_eq_true rfl)⟩ rfl (Nat.le_of_ble_eq_true rfl) ⟨(Nat.le_of_ble_eq_true rfl), (Nat.le_of_ble_eq_true rfl)⟩ [3] [0, 1, 2] rfl rfl rfl ⟨by decide, by decide, by decide⟩ dX5_init_69 (fun v w H locs hp hV => ?_)
  obtain ⟨a1_14, a2_15, a3_16, a4_17, a5_18, a6_19, a7_20, a8_21, rfl, rfl⟩ := hp
  have hV : Vx D A s.heap H locs [(h, .inr (5, [.ref q_1, .int 0, .int 0, .ref q_2, .int 0, .int 0, .int 0, .int 0])), (q_1, .inl (cS, 6, .inr (.inr (.inr (.inr g_12))))), (q_2, .inl (cI, 512, .inl (fun _ => 0))), (q_13, .inr (3, [.ref a1_14, .ref a2_15, .int 0, .int 0, .int 10, .int 0, .ref a3_16, .ref a4_17, .ref a5_18, .ref a6_19, .int (-1), .int (-1), .ref a7_20, .ref a8_21, .int 0]))] := hV
  refine W.eq (g2 := F0 m 72 ls [.ref q_13, .int 1, .ref q_1]) rfl ?_
  refine x_astq hB hV 1 3 rfl rfl (by unfold vp_in; decide) dX5_init_72 (fun H locs g_22 hV => ?_)
  have hV : Vx D A s.heap H locs [(h, .inr (5, [.ref q_1, .int 0, .int 0, .ref q_2, .int 0, .int 0, .int 0, .int 0])), (q_1, .inl (cS, 6, .inr (.inr (.inr (.inr g_22))))), (q_2, .inl (cI, 512, .inl (fun _ => 0))), (q_13, .inr (3, [.ref a1_14, .ref a2_15, .int 0, .int 0, .int 10, .int 0, .ref a3_16, .ref a4_17, .ref a5_18, .ref a6_19, .int (-1), .int (-1), .ref a7_20, .ref a8_21, .int 0]))] := hV
  have hV := Vx_sub (w := [(h, .inr (5, [.ref q_1, .int 0, .int 0, .ref q_2, .int 0, .int 0, .int 0, .int 0])), (q_1, .inl (cS, 6, .inr (.inr (.inr (.inr g_22))))), (q_2, .inl (cI, 512, .inl (fun _ => 0)))]) hV [0, 1, 2] rfl rfl (by decide)
  refine lv_iinc (v := 2) (lv' := [(1, .int 2), (0, .ref h)]) hx hb dX5_init_73 hl (k := 0) rfl (by decide) (by decide) rfl (fun ls hl => ?_)
  refine lv_goto (tgt := 54) hx hb dX5_init_76 (by decide) ?_
  refine lv_iload_n hx hb dX5_init_54 rfl (lv_at hl 0 rfl) ?_
  refine lv_bipush (v := 6) hx hb dX5_init_55 (by decide) ?_
  refine lv_icmp_ge (tgt := 79) hx hb dX5_init_57 (by decide) (fun c_ => absurd c_ (by decide)) (fun c_ => ?_)
  refine lv_aload_n hx hb dX5_init_60 rfl (lv_at hl 1 rfl) ?_
  refine x_get (v := .ref q_1) hB hV 0 rfl rfl 0 (by decide) k_199 rfl dX5_init_61 ?_
  refine lv_iload_n hx hb dX5_init_64 rfl (lv_at hl 0 rfl) ?_
  refine x_new (ci := 3) (fs := [.null, .null, .int 0, .int 0, .int 0, .int 0, .null, .null, .null, .null, .int 0, .int 0, .null, .null, .int 0]) hB hV rfl k_108 k_110 k_60 (fnew_3) (Nat.le_of_ble_eq_true rfl) (Nat.le_of_ble_eq_true rfl) dX5_init_65 (fun q_23 H hV => ?_)
  have hV : Vx D A s.heap H locs [(h, .inr (5, [.ref q_1, .int 0, .int 0, .ref q_2, .int 0, .int 0, .int 0, .int 0])), (q_1, .inl (cS, 6, .inr (.inr (.inr (.inr g_22))))), (q_2, .inl (cI, 512, .inl (fun _ => 0))), (q_23, .inr (3, [.null, .null, .int 0, .int 0, .int 0, .int 0, .null, .null, .null, .null, .int 0, .int 0, .null, .null, .int 0]))] := hV
  refine W.widen (k := 27) (n := 787) (Nat.le_of_ble_eq_true rfl) (Nat.le_of_ble_eq_true rfl) ?_
  refine lv_dup hx hb dX5_init_68 rfl ?_
  refine x_callIN (n := 0) (host := RX6) (wr := [(h, .inr (5, [.ref q_1, .int 0, .int 0, .ref q_2, .int 0, .int 0, .int 0, .int 0])), (q_1, .inl (cS, 6, .inr (.inr (.inr (.inr g_22))))), (q_2, .inl (cI, 512, .inl (fun _ => 0)))]) (As := []) (rest := [.ref q_23, .int 2, .ref q_1]) hB hV (x_N hB) hl.1 (c_Service_init l D cI cZ cS N0 q_23 ) k_113 k_60 hB.2.2.2.2.2.2.2.2.1.2.1 k_112 rfl (by decide +kernel) ⟨(Nat.le_of_ble_eq_true rfl), (Nat.le_of_ble_eq_true rfl)⟩ rfl (Nat.le_of_ble_eq_true rfl) ⟨(Nat.le_of_ble_eq_true rfl), (Nat.le_of_ble_eq_true rfl)⟩ [3] [0, 1, 2] rfl rfl rfl ⟨by decide, by decide, by decide⟩ dX5_init_69 (fun v w H locs hp hV => ?_)
  obtain ⟨a1_24, a2_25, a3_26, a4_27, a5_28, a6_29, a7_30, a8_31, rfl, rfl⟩ := hp
  have hV : Vx D A s.heap H locs [(h, .inr (5, [.ref q_1, .int 0, .int 0, .ref q_2, .int 0, .int 0, .int 0, .int 0])), (q_1, .inl (cS, 6, .inr (.inr (.inr (.inr g_22))))), (q_2, .inl (cI, 512, .inl (fun _ => 0))), (q_23, .inr (3, [.ref a1_24, .ref a2_25, .int 0, .int 0, .int 10, .int 0, .ref a3_26, .ref a4_27, .ref a5_28, .ref a6_29, .int (-1), .int (-1), .ref a7_30, .ref a8_31, .int 0]))] := hV
  refine W.eq (g2 := F0 m 72 ls [.ref q_23, .int 2, .ref q_1]) rfl ?_
  refine x_astq hB hV 1 3 rfl rfl (by unfold vp_in; decide) dX5_init_72 (fun H locs g_32 hV => ?_)
  have hV : Vx D A s.heap H locs [(h, .inr (5, [.ref q_1, .int 0, .int 0, .ref q_2, .int 0, .int 0, .int 0, .int 0])), (q_1, .inl (cS, 6, .inr (.inr (.inr (.inr g_32))))), (q_2, .inl (cI, 512, .inl (fun _ => 0))), (q_23, .inr (3, [.ref a1_24, .ref a2_25, .int 0, .int 0, .int 10, .int 0, .ref a3_26, .ref a4_27, .ref a5_28, .ref a6_29, .int (-1), .int (-1), .ref a7_30, .ref a8_31, .int 0]))] := hV
  have hV := Vx_sub (w := [(h, .inr (5, [.ref q_1, .int 0, .int 0, .ref q_2, .int 0, .int 0, .int 0, .int 0])), (q_1, .inl (cS, 6, .inr (.inr (.inr (.inr g_32))))), (q_2, .inl (cI, 512, .inl (fun _ => 0)))]) hV [0, 1, 2] rfl rfl (by decide)
  refine lv_iinc (v := 3) (lv' := [(1, .int 3), (0, .ref h)]) hx hb dX5_init_73 hl (k := 0) rfl (by decide) (by decide) rfl (fun ls hl => ?_)
  refine lv_goto (tgt := 54) hx hb dX5_init_76 (by decide) ?_
  refine lv_iload_n hx hb dX5_init_54 rfl (lv_at hl 0 rfl) ?_
  refine lv_bipush (v := 6) hx hb dX5_init_55 (by decide) ?_
  refine lv_icmp_ge (tgt := 79) hx hb dX5_init_57 (by decide) (fun c_ => absurd c_ (by decide)) (fun c_ => ?_)
  refine lv_aload_n hx hb dX5_init_60 rfl (lv_at hl 1 rfl) ?_
  refine x_get (v := .ref q_1) hB hV 0 rfl rfl 0 (by decide) k_199 rfl dX5_init_61 ?_
  refine lv_iload_n hx hb dX5_init_64 rfl (lv_at hl 0 rfl) ?_
  refine x_new (ci := 3) (fs := [.null, .null, .int 0, .int 0, .int 0, .int 0, .null, .null, .null, .null, .int 0, .int 0, .null, .null, .int 0]) hB hV rfl k_108 k_110 k_60 (fnew_3) (Nat.le_of_ble_eq_true rfl) (Nat.le_of_ble_eq_true rfl) dX5_init_65 (fun q_33 H hV => ?_)
  have hV : Vx D A s.heap H locs [(h, .inr (5, [.ref q_1, .int 0, .int 0, .ref q_2, .int 0, .int 0, .int 0, .int 0])), (q_1, .inl (cS, 6, .inr (.inr (.inr (.inr g_32))))), (q_2, .inl (cI, 512, .inl (fun _ => 0))), (q_33, .inr (3, [.null, .null, .int 0, .int 0, .int 0, .int 0, .null, .null, .null, .null, .int 0, .int 0, .null, .null, .int 0]))] := hV
  refine W.widen (k := 39) (n := 914) (Nat.le_of_ble_eq_true rfl) (Nat.le_of_ble_eq_true rfl) ?_
  refine lv_dup hx hb dX5_init_68 rfl ?_
  refine x_callIN (n := 0) (host := RX6) (wr := [(h, .inr (5, [.ref q_1, .int 0, .int 0, .ref q_2, .int 0, .int 0, .int 0, .int 0])), (q_1, .inl (cS, 6, .inr (.inr (.inr (.inr g_32))))), (q_2, .inl (cI, 512, .inl (fun _ => 0)))]) (As := []) (rest := [.ref q_33, .int 3, .ref q_1]) hB hV (x_N hB) hl.1 (c_Service_init l D cI cZ cS N0 q_33 ) k_113 k_60 hB.2.2.2.2.2.2.2.2.1.2.1 k_112 rfl (by decide +kernel) ⟨(Nat.le_of_ble_eq_true rfl), (Nat.le_of_ble_eq_true rfl)⟩ rfl (Nat.le_of_ble_eq_true rfl) ⟨(Nat.le_of_ble_eq_true rfl), (Nat.le_of_ble_eq_true rfl)⟩ [3] [0, 1, 2] rfl rfl rfl ⟨by decide, by decide, by decide⟩ dX5_init_69 (fun v w H locs hp hV => ?_)
  obtain ⟨a1_34, a2_35, a3_36, a4_37, a5_38, a6_39, a7_40, a8_41, rfl, rfl⟩ := hp
  have hV : Vx D A s.heap H locs [(h, .inr (5, [.ref q_1, .int 0, .int 0, .ref q_2, .int 0, .int 0, .int 0, .int 0])), (q_1, .inl (cS, 6, .inr (.inr (.inr (.inr g_32))))), (q_2, .inl (cI, 512, .inl (fun _ => 0))), (q_33, .inr (3, [.ref a1_34, .ref a2_35, .int 0, .int 0, .int 10, .int 0, .ref a3_36, .ref a4_37, .ref a5_38, .ref a6_39, .int (-1), .int (-1), .ref a7_40, .ref a8_41, .int 0]))] := hV
  refine W.eq (g2 := F0 m 72 ls [.ref q_33, .int 3, .ref q_1]) rfl ?_
  refine x_astq hB hV 1 3 rfl rfl (by unfold vp_in; decide) dX5_init_72 (fun H locs g_42 hV => ?_)
  have hV : Vx D A s.heap H locs [(h, .inr (5, [.ref q_1, .int 0, .int 0, .ref q_2, .int 0, .int 0, .int 0, .int 0])), (q_1, .inl (cS, 6, .inr (.inr (.inr (.inr g_42))))), (q_2, .inl (cI, 512, .inl (fun _ => 0))), (q_33, .inr (3, [.ref a1_34, .ref a2_35, .int 0, .int 0, .int 10, .int 0, .ref a3_36, .ref a4_37, .ref a5_38, .ref a6_39, .int (-1), .int (-1), .ref a7_40, .ref a8_41, .int 0]))] := hV
  have hV := Vx_sub (w := [(h, .inr (5, [.ref q_1, .int 0, .int 0, .ref q_2, .int 0, .int 0, .int 0, .int 0])), (q_1, .inl (cS, 6, .inr (.inr (.inr (.inr g_42))))), (q_2, .inl (cI, 512, .inl (fun _ => 0)))]) hV [0, 1, 2] rfl rfl (by decide)
  refine lv_iinc (v := 4) (lv' := [(1, .int 4), (0, .ref h)]) hx hb dX5_init_73 hl (k := 0) rfl (by decide) (by decide) rfl (fun ls hl => ?_)
  refine lv_goto (tgt := 54) hx hb dX5_init_76 (by decide) ?_
  refine lv_iload_n hx hb dX5_init_54 rfl (lv_at hl 0 rfl) ?_
  refine lv_bipush (v := 6) hx hb dX5_init_55 (by decide) ?_
  refine lv_icmp_ge (tgt := 79) hx hb dX5_init_57 (by decide) (fun c_ => absurd c_ (by decide)) (fun c_ => ?_)
  refine lv_aload_n hx hb dX5_init_60 rfl (lv_at hl 1 rfl) ?_
  refine x_get (v := .ref q_1) hB hV 0 rfl rfl 0 (by decide) k_199 rfl dX5_init_61 ?_
  refine lv_iload_n hx hb dX5_init_64 rfl (lv_at hl 0 rfl) ?_
  refine x_new (ci := 3) (fs := [.null, .null, .int 0, .int 0, .int 0, .int 0, .null, .null, .null, .null, .int 0, .int 0, .null, .null, .int 0]) hB hV rfl k_108 k_110 k_60 (fnew_3) (Nat.le_of_ble_eq_true rfl) (Nat.le_of_ble_eq_true rfl) dX5_init_65 (fun q_43 H hV => ?_)
  have hV : Vx D A s.heap H locs [(h, .inr (5, [.ref q_1, .int 0, .int 0, .ref q_2, .int 0, .int 0, .int 0, .int 0])), (q_1, .inl (cS, 6, .inr (.inr (.inr (.inr g_42))))), (q_2, .inl (cI, 512, .inl (fun _ => 0))), (q_43, .inr (3, [.null, .null, .int 0, .int 0, .int 0, .int 0, .null, .null, .null, .null, .int 0, .int 0, .null, .null, .int 0]))] := hV
  refine W.widen (k := 51) (n := 1041) (Nat.le_of_ble_eq_true rfl) (Nat.le_of_ble_eq_true rfl) ?_
  refine lv_dup hx hb dX5_init_68 rfl ?_
  refine x_callIN (n := 0) (host := RX6) (wr := [(h, .inr (5, [.ref q_1, .int 0, .int 0, .ref q_2, .int 0, .int 0, .int 0, .int 0])), (q_1, .inl (cS, 6, .inr (.inr (.inr (.inr g_42))))), (q_2, .inl (cI, 512, .inl (fun _ => 0)))]) (As := []) (rest := [.ref q_43, .int 4, .ref q_1]) hB hV (x_N hB) hl.1 (c_Service_init l D cI cZ cS N0 q_43 ) k_113 k_60 hB.2.2.2.2.2.2.2.2.1.2.1 k_112 rfl (by decide +kernel) ⟨(Nat.le_of_ble_eq_true rfl), (Nat.le_of_ble_eq_true rfl)⟩ rfl (Nat.le_of_ble_eq_true rfl) ⟨(Nat.le_of_ble_eq_true rfl), (Nat.le_of_ble_eq_true rfl)⟩ [3] [0, 1, 2] rfl rfl rfl ⟨by decide, by decide, by decide⟩ dX5_init_69 (fun v w H locs hp hV => ?_)
  obtain ⟨a1_44, a2_45, a3_46, a4_47, a5_48, a6_49, a7_50, a8_51, rfl, rfl⟩ := hp
  have hV : Vx D A s.heap H locs [(h, .inr (5, [.ref q_1, .int 0, .int 0, .ref q_2, .int 0, .int 0, .int 0, .int 0])), (q_1, .inl (cS, 6, .inr (.inr (.inr (.inr g_42))))), (q_2, .inl (cI, 512, .inl (fun _ => 0))), (q_43, .inr (3, [.ref a1_44, .ref a2_45, .int 0, .int 0, .int 10, .int 0, .ref a3_46, .ref a4_47, .ref a5_48, .ref a6_49, .int (-1), .int (-1), .ref a7_50, .ref a8_51, .int 0]))] := hV
  refine W.eq (g2 := F0 m 72 ls [.ref q_43, .int 4, .ref q_1]) rfl ?_
  refine x_astq hB hV 1 3 rfl rfl (by unfold vp_in; decide) dX5_init_72 (fun H locs g_52 hV => ?_)
  have hV : Vx D A s.heap H locs [(h, .inr (5, [.ref q_1, .int 0, .int 0, .ref q_2, .int 0, .int 0, .int 0, .int 0])), (q_1, .inl (cS, 6, .inr (.inr (.inr (.inr g_52))))), (q_2, .inl (cI, 512, .inl (fun _ => 0))), (q_43, .inr (3, [.ref a1_44, .ref a2_45, .int 0, .int 0, .int 10, .int 0, .ref a3_46, .ref a4_47, .ref a5_48, .ref a6_49, .int (-1), .int (-1), .ref a7_50, .ref a8_51, .int 0]))] := hV
  have hV := Vx_sub (w := [(h, .inr (5, [.ref q_1, .int 0, .int 0, .ref q_2, .int 0, .int 0, .int 0, .int 0])), (q_1, .inl (cS, 6, .inr (.inr (.inr (.inr g_52))))), (q_2, .inl (cI, 512, .inl (fun _ => 0)))]) hV [0, 1, 2] rfl rfl (by decide)
  refine lv_iinc (v := 5) (lv' := [(1, .int 5), (0, .ref h)]) hx hb dX5_init_73 hl (k := 0) rfl (by decide) (by decide) rfl (fun ls hl => ?_)
  refine lv_goto (tgt := 54) hx hb dX5_init_76 (by decide) ?_
  refine lv_iload_n hx hb dX5_init_54 rfl (lv_at hl 0 rfl) ?_
  refine lv_bipush (v := 6) hx hb dX5_init_55 (by decide) ?_
  refine lv_icmp_ge (tgt := 79) hx hb dX5_init_57 (by decide) (fun c_ => absurd c_ (by decide)) (fun c_ => ?_)
  refine lv_aload_n hx hb dX5_init_60 rfl (lv_at hl 1 rfl) ?_
  refine x_get (v := .ref q_1) hB hV 0 rfl rfl 0 (by decide) k_199 rfl dX5_init_61 ?_
  refine lv_iload_n hx hb dX5_init_64 rfl (lv_at hl 0 rfl) ?_
  refine x_new (ci := 3) (fs := [.null, .null, .int 0, .int 0, .int 0, .int 0, .null, .null, .null, .null, .int 0, .int 0, .null, .null, .int 0]) hB hV rfl k_108 k_110 k_60 (fnew_3) (Nat.le_of_ble_eq_true rfl) (Nat.le_of_ble_eq_true rfl) dX5_init_65 (fun q_53 H hV => ?_)
  have hV : Vx D A s.heap H locs [(h, .inr (5, [.ref q_1, .int 0, .int 0, .ref q_2, .int 0, .int 0, .int 0, .int 0])), (q_1, .inl (cS, 6, .inr (.inr (.inr (.inr g_52))))), (q_2, .inl (cI, 512, .inl (fun _ => 0))), (q_53, .inr (3, [.null, .null, .int 0, .int 0, .int 0, .int 0, .null, .null, .null, .null, .int 0, .int 0, .null, .null, .int 0]))] := hV
  refine W.widen (k := 63) (n := 1168) (Nat.le_of_ble_eq_true rfl) (Nat.le_of_ble_eq_true rfl) ?_
  refine lv_dup hx hb dX5_init_68 rfl ?_
  refine x_callIN (n := 0) (host := RX6) (wr := [(h, .inr (5, [.ref q_1, .int 0, .int 0, .ref q_2, .int 0, .int 0, .int 0, .int 0])), (q_1, .inl (cS, 6, .inr (.inr (.inr (.inr g_52))))), (q_2, .inl (cI, 512, .inl (fun _ => 0)))]) (As := []) (rest := [.ref q_53, .int 5, .ref q_1]) hB hV (x_N hB) hl.1 (c_Service_init l D cI cZ cS N0 q_53 ) k_113 k_60 hB.2.2.2.2.2.2.2.2.1.2.1 k_112 rfl (by decide +kernel) ⟨(Nat.le_of_ble_eq_true rfl), (Nat.le_of_ble_eq_true rfl)⟩ rfl (Nat.le_of_ble_eq_true rfl) ⟨(Nat.le_of_ble_eq_true rfl), (Nat.le_of_ble_eq_true rfl)⟩ [3] [0, 1, 2] rfl rfl rfl ⟨by decide, by decide, by decide⟩ dX5_init_69 (fun v w H locs hp hV => ?_)
  obtain ⟨a1_54, a2_55, a3_56, a4_57, a5_58, a6_59, a7_60, a8_61, rfl, rfl⟩ := hp
  have hV : Vx D A s.heap H locs [(h, .inr (5, [.ref q_1, .int 0, .int 0, .ref q_2, .int 0, .int 0, .int 0, .int 0])), (q_1, .inl (cS, 6, .inr (.inr (.inr (.inr g_52))))), (q_2, .inl (cI, 512, .inl (fun _ => 0))), (q_53, .inr (3, [.ref a1_54, .ref a2_55, .int 0, .int 0, .int 10, .int 0, .ref a3_56, .ref a4_57, .ref a5_58, .ref a6_59, .int (-1), .int (-1), .ref a7_60, .ref a8_61, .int 0]))] := hV
  refine W.eq (g2 := F0 m 72 ls [.ref q_53, .int 5, .ref q_1]) rfl ?_
  refine x_astq hB hV 1 3 rfl rfl (by unfold vp_in; decide) dX5_init_72 (fun H locs g_62 hV => ?_)
  have hV : Vx D A s.heap H locs [(h, .inr (5, [.ref q_1, .int 0, .int 0, .ref q_2, .int 0, .int 0, .int 0, .int 0])), (q_1, .inl (cS, 6, .inr (.inr (.inr (.inr g_62))))), (q_2, .inl (cI, 512, .inl (fun _ => 0))), (q_53, .inr (3, [.ref a1_54, .ref a2_55, .int 0, .int 0, .int 10, .int 0, .ref a3_56, .ref a4_57, .ref a5_58, .ref a6_59, .int (-1), .int (-1), .ref a7_60, .ref a8_61, .int 0]))] := hV
  have hV := Vx_sub (w := [(h, .inr (5, [.ref q_1, .int 0, .int 0, .ref q_2, .int 0, .int 0, .int 0, .int 0])), (q_1, .inl (cS, 6, .inr (.inr (.inr (.inr g_62))))), (q_2, .inl (cI, 512, .inl (fun _ => 0)))]) hV [0, 1, 2] rfl rfl (by decide)
  refine lv_iinc (v := 6) (lv' := [(1, .int 6), (0, .ref h)]) hx hb dX5_init_73 hl (k := 0) rfl (by decide) (by decide) rfl (fun ls hl => ?_)
  refine lv_goto (tgt := 54) hx hb dX5_init_76 (by decide) ?_
  refine lv_iload_n hx hb dX5_init_54 rfl (lv_at hl 0 rfl) ?_
  refine lv_bipush (v := 6) hx hb dX5_init_55 (by decide) ?_
  refine lv_icmp_ge (tgt := 79) hx hb dX5_init_57 (by decide) (fun c_ => ?_) (fun c_ => absurd (by decide) c_)
  exact x_vret (w := [(h, .inr (5, [.ref q_1, .int 0, .int 0, .ref q_2, .int 0, .int 0, .int 0, .int 0]))]) hB hr hV hA (Nat.le_of_ble_eq_true rfl) (Nat.le_of_ble_eq_true rfl) [0] rfl rfl (by decide) dX5_init_79 ⟨q_1, q_2, rfl, rfl⟩
set_option maxHeartbeats 4000000 in
set_option maxRecDepth 100000 in
theorem c_CallList_init (l : Launch) (D : va_G) (cI cZ cS : ClassId) (N0 : NT) (h : Nat)  : Mx l D cI cZ cS N0 yX0_init cX0_init 3 none 1 3 18 [.ref h, .int 6] [(h, .inr (0, [.null, .null, .null, .int 0]))] (fun v w => ∃ (a1 : Nat) (a2 : Nat) (a3 : Nat), v = none ∧ w = ([(h, .inr (0, [.ref a1, .ref a2, .ref a3, .int 0]))] : va_W)) := by
  refine x_enter (by decide) (Nat.le_of_ble_eq_true rfl) ?_
  intro p e s m args below meth c A ls H locs hB hr hin hl hV hA
  have hx := hB.1
  have hb := hB.2.1
  have hl : lv_has ls 3 [(0, .ref h), (1, .int 6)] := hl
  refine lv_aload_n hx hb dX0_init_0 rfl (lv_at hl 0 rfl) ?_
  refine x_oinit hB k_239 k_78 k_79 hl.1 dX0_init_1 (Nat.le_of_ble_eq_true rfl) (Nat.le_of_ble_eq_true rfl) ?_
  refine lv_aload_n hx hb dX0_init_4 rfl (lv_at hl 0 rfl) ?_
  refine lv_iconst (v := 0) hx hb dX0_init_5 (by decide) ?_
  refine x_put (v := .int 0) hB hV 0 rfl rfl 3 (by decide) k_253 rfl rfl rfl (Nat.le_of_ble_eq_true rfl) dX0_init_6 (fun H locs hV => ?_)
  have hV : Vx D A s.heap H locs [(h, .inr (0, [.null, .null, .null, .int 0]))] := hV
  refine lv_iload_n hx hb dX0_init_9 rfl (lv_at hl 1 rfl) ?_
  refine lv_iconst (v := 1) hx hb dX0_init_10 (by decide) ?_
  refine x_max (v := 6) hB k_240 k_241 k_63 k_242 hl.1 (Nat.le_of_ble_eq_true rfl) (Nat.le_of_ble_eq_true rfl) (Nat.le_of_ble_eq_true rfl) (Nat.le_of_ble_eq_true rfl) (by decide) dX0_init_11 ?_
  refine lv_istore_n (lv' := [(2, .int 6), (0, .ref h), (1, .int 6)]) hx hb dX0_init_14 rfl hl (by decide) rfl (fun ls hl => ?_)
  refine lv_aload_n hx hb dX0_init_15 rfl (lv_at hl 1 rfl) ?_
  refine lv_iload_n hx hb dX0_init_16 rfl (lv_at hl 0 rfl) ?_
  refine x_newi (N' := 6) hB hV k_101 (by decide) (by decide) (by decide) (Nat.le_of_ble_eq_true rfl) (Nat.le_of_ble_eq_true rfl) dX0_init_17 (fun q_1 H hV => ?_)
  have hV : Vx D A s.heap H locs [(h, .inr (0, [.null, .null, .null, .int 0])), (q_1, .inl (cI, 6, .inl (fun _ => 0)))] := hV
  refine W.widen (k := 1) (n := 6) (Nat.le_of_ble_eq_true rfl) (Nat.le_of_ble_eq_true rfl) ?_
  refine x_putF (v := .ref q_1) hB hV hin 0 rfl rfl 0 (by decide) k_243 rfl rfl rfl rfl (Nat.le_of_ble_eq_true rfl) dX0_init_19 (fun H locs hV => ?_)
  have hV : Vx D A s.heap H locs [(h, .inr (0, [.ref q_1, .null, .null, .int 0])), (q_1, .inl (cI, 6, .inl (fun _ => 0)))] := hV
  refine lv_aload_n hx hb dX0_init_22 rfl (lv_at hl 1 rfl) ?_
  refine lv_iload_n hx hb dX0_init_23 rfl (lv_at hl 0 rfl) ?_
  refine x_newi (N' := 6) hB hV k_101 (by decide) (by decide) (by decide) (Nat.le_of_ble_eq_true rfl) (Nat.le_of_ble_eq_true rfl) dX0_init_24 (fun q_2 H hV => ?_)
  have hV : Vx D A s.heap H locs [(h, .inr (0, [.ref q_1, .null, .null, .int 0])), (q_1, .inl (cI, 6, .inl (fun _ => 0))), (q_2, .inl (cI, 6, .inl (fun _ => 0)))] := hV
  refine W.widen (k := 2) (n := 12) (Nat.le_of_ble_eq_true rfl) (Nat.le_of_ble_eq_true rfl) ?_
  refine x_putF (v := .ref q_2) hB hV hin 0 rfl rfl 1 (by decide) k_247 rfl rfl rfl rfl (Nat.le_of_ble_eq_true rfl) dX0_init_26 (fun H locs hV => ?_)
  have hV : Vx D A s.heap H locs [(h, .inr (0, [.ref q_1, .ref q_2, .null, .int 0])), (q_1, .inl (cI, 6, .inl (fun _ => 0))), (q_2, .inl (cI, 6, .inl (fun _ => 0)))] := hV
  refine lv_aload_n hx hb dX0_init_29 rfl (lv_at hl 1 rfl) ?_
  refine lv_iload_n hx hb dX0_init_30 rfl (lv_at hl 0 rfl) ?_
  refine x_newi (N' := 6) hB hV k_101 (by decide) (by decide) (by decide) (Nat.le_of_ble_eq_true rfl) (Nat.le_of_ble_eq_true rfl) dX0_init_31 (fun q_3 H hV => ?_)
  have hV : Vx D A s.heap H locs [(h, .inr (0, [.ref q_1, .ref q_2, .null, .int 0])), (q_1, .inl (cI, 6, .inl (fun _ => 0))), (q_2, .inl (cI, 6, .inl (fun _ => 0))), (q_3, .inl (cI, 6, .inl (fun _ => 0)))] := hV
  refine W.widen (k := 3) (n := 18) (Nat.le_of_ble_eq_true rfl) (Nat.le_of_ble_eq_true rfl) ?_
  refine x_putF (v := .ref q_3) hB hV hin 0 rfl rfl 2 (by decide) k_250 rfl rfl rfl rfl (Nat.le_of_ble_eq_true rfl) dX0_init_33 (fun H locs hV => ?_)
  have hV : Vx D A s.heap H locs [(h, .inr (0, [.ref q_1, .ref q_2, .ref q_3, .int 0])), (q_1, .inl (cI, 6, .inl (fun _ => 0))), (q_2, .inl (cI, 6, .inl (fun _ => 0))), (q_3, .inl (cI, 6, .inl (fun _ => 0)))] := hV
  exact x_vret (w := [(h, .inr (0, [.ref q_1, .ref q_2, .ref q_3, .int 0]))]) hB hr hV hA (Nat.le_of_ble_eq_true rfl) (Nat.le_of_ble_eq_true rfl) [0] rfl rfl (by decide) dX0_init_36 ⟨q_1, q_2, q_3, rfl, rfl⟩
set_option maxHeartbeats 4000000 in
set_option maxRecDepth 100000 in
theorem c_CallList_init20 (l : Launch) (D : va_G) (cI cZ cS : ClassId) (N0 : NT) (h : Nat)  : Mx l D cI cZ cS N0 yX0_init cX0_init 3 none 1 3 60 [.ref h, .int 20] [(h, .inr (0, [.null, .null, .null, .int 0]))] (fun v w => ∃ (a1 : Nat) (a2 : Nat) (a3 : Nat), v = none ∧ w = ([(h, .inr (0, [.ref a1, .ref a2, .ref a3, .int 0]))] : va_W)) := by
  refine x_enter (by decide) (Nat.le_of_ble_eq_true rfl) ?_
  intro p e s m args below meth c A ls H locs hB hr hin hl hV hA
  have hx := hB.1
  have hb := hB.2.1
  have hl : lv_has ls 3 [(0, .ref h), (1, .int 20)] := hl
  refine lv_aload_n hx hb dX0_init_0 rfl (lv_at hl 0 rfl) ?_
  refine x_oinit hB k_239 k_78 k_79 hl.1 dX0_init_1 (Nat.le_of_ble_eq_true rfl) (Nat.le_of_ble_eq_true rfl) ?_
  refine lv_aload_n hx hb dX0_init_4 rfl (lv_at hl 0 rfl) ?_
  refine lv_iconst (v := 0) hx hb dX0_init_5 (by decide) ?_
  refine x_put (v := .int 0) hB hV 0 rfl rfl 3 (by decide) k_253 rfl rfl rfl (Nat.le_of_ble_eq_true rfl) dX0_init_6 (fun H locs hV => ?_)
  have hV : Vx D A s.heap H locs [(h, .inr (0, [.null, .null, .null, .int 0]))] := hV
  refine lv_iload_n hx hb dX0_init_9 rfl (lv_at hl 1 rfl) ?_
  refine lv_iconst (v := 1) hx hb dX0_init_10 (by decide) ?_
  refine x_max (v := 20) hB k_240 k_241 k_63 k_242 hl.1 (Nat.le_of_ble_eq_true rfl) (Nat.le_of_ble_eq_true rfl) (Nat.le_of_ble_eq_true rfl) (Nat.le_of_ble_eq_true rfl) (by decide) dX0_init_11 ?_
  refine lv_istore_n (lv' := [(2, .int 20), (0, .ref h), (1, .int 20)]) hx hb dX0_init_14 rfl hl (by decide) rfl (fun ls hl => ?_)
  refine lv_aload_n hx hb dX0_init_15 rfl (lv_at hl 1 rfl) ?_
  refine lv_iload_n hx hb dX0_init_16 rfl (lv_at hl 0 rfl) ?_
  refine x_newi (N' := 20) hB hV k_101 (by decide) (by decide) (by decide) (Nat.le_of_ble_eq_true rfl) (Nat.le_of_ble_eq_true rfl) dX0_init_17 (fun q_1 H hV => ?_)
  have hV : Vx D A s.heap H locs [(h, .inr (0, [.null, .null, .null, .int 0])), (q_1, .inl (cI, 20, .inl (fun _ => 0)))] := hV
  refine W.widen (k := 1) (n := 20) (Nat.le_of_ble_eq_true rfl) (Nat.le_of_ble_eq_true rfl) ?_
  refine x_putF (v := .ref q_1) hB hV hin 0 rfl rfl 0 (by decide) k_243 rfl rfl rfl rfl (Nat.le_of_ble_eq_true rfl) dX0_init_19 (fun H locs hV => ?_)
  have hV : Vx D A s.heap H locs [(h, .inr (0, [.ref q_1, .null, .null, .int 0])), (q_1, .inl (cI, 20, .inl (fun _ => 0)))] := hV
  refine lv_aload_n hx hb dX0_init_22 rfl (lv_at hl 1 rfl) ?_
  refine lv_iload_n hx hb dX0_init_23 rfl (lv_at hl 0 rfl) ?_
  refine x_newi (N' := 20) hB hV k_101 (by decide) (by decide) (by decide) (Nat.le_of_ble_eq_true rfl) (Nat.le_of_ble_eq_true rfl) dX0_init_24 (fun q_2 H hV => ?_)
  have hV : Vx D A s.heap H locs [(h, .inr (0, [.ref q_1, .null, .null, .int 0])), (q_1, .inl (cI, 20, .inl (fun _ => 0))), (q_2, .inl (cI, 20, .inl (fun _ => 0)))] := hV
  refine W.widen (k := 2) (n := 40) (Nat.le_of_ble_eq_true rfl) (Nat.le_of_ble_eq_true rfl) ?_
  refine x_putF (v := .ref q_2) hB hV hin 0 rfl rfl 1 (by decide) k_247 rfl rfl rfl rfl (Nat.le_of_ble_eq_true rfl) dX0_init_26 (fun H locs hV => ?_)
  have hV : Vx D A s.heap H locs [(h, .inr (0, [.ref q_1, .ref q_2, .null, .int 0])), (q_1, .inl (cI, 20, .inl (fun _ => 0))), (q_2, .inl (cI, 20, .inl (fun _ => 0)))] := hV
  refine lv_aload_n hx hb dX0_init_29 rfl (lv_at hl 1 rfl) ?_
  refine lv_iload_n hx hb dX0_init_30 rfl (lv_at hl 0 rfl) ?_
  refine x_newi (N' := 20) hB hV k_101 (by decide) (by decide) (by decide) (Nat.le_of_ble_eq_true rfl) (Nat.le_of_ble_eq_true rfl) dX0_init_31 (fun q_3 H hV => ?_)
  have hV : Vx D A s.heap H locs [(h, .inr (0, [.ref q_1, .ref q_2, .null, .int 0])), (q_1, .inl (cI, 20, .inl (fun _ => 0))), (q_2, .inl (cI, 20, .inl (fun _ => 0))), (q_3, .inl (cI, 20, .inl (fun _ => 0)))] := hV
  refine W.widen (k := 3) (n := 60) (Nat.le_of_ble_eq_true rfl) (Nat.le_of_ble_eq_true rfl) ?_
  refine x_putF (v := .ref q_3) hB hV hin 0 rfl rfl 2 (by decide) k_250 rfl rfl rfl rfl (Nat.le_of_ble_eq_true rfl) dX0_init_33 (fun H locs hV => ?_)
  have hV : Vx D A s.heap H locs [(h, .inr (0, [.ref q_1, .ref q_2, .ref q_3, .int 0])), (q_1, .inl (cI, 20, .inl (fun _ => 0))), (q_2, .inl (cI, 20, .inl (fun _ => 0))), (q_3, .inl (cI, 20, .inl (fun _ => 0)))] := hV
  exact x_vret (w := [(h, .inr (0, [.ref q_1, .ref q_2, .ref q_3, .int 0]))]) hB hr hV hA (Nat.le_of_ble_eq_true rfl) (Nat.le_of_ble_eq_true rfl) [0] rfl rfl (by decide) dX0_init_36 ⟨q_1, q_2, q_3, rfl, rfl⟩
set_option maxHeartbeats 4000000 in
set_option maxRecDepth 100000 in
theorem c_Tape_init (l : Launch) (D : va_G) (cI cZ cS : ClassId) (N0 : NT) (h : Nat)  : Mx l D cI cZ cS N0 yX4_init cX4_init 1 none 1 1 100 [.ref h] [(h, .inr (4, [.null, .int 0, .int 0, .int 0]))] (fun v w => ∃ (a1 : Nat), v = none ∧ w = ([(h, .inr (4, [.ref a1, .int 0, .int 0, .int 0])), (a1, .inl (cI, 100, .inl (fun _ => 0)))] : va_W)) := by
  refine x_enter (by decide) (Nat.le_of_ble_eq_true rfl) ?_
  intro p e s m args below meth c A ls H locs hB hr hin hl hV hA
  have hx := hB.1
  have hb := hB.2.1
  have hl : lv_has ls 1 [(0, .ref h)] := hl
  refine lv_aload_n hx hb dX4_init_0 rfl (lv_at hl 0 rfl) ?_
  refine x_oinit hB k_85 k_78 k_79 hl.1 dX4_init_1 (Nat.le_of_ble_eq_true rfl) (Nat.le_of_ble_eq_true rfl) ?_
  refine lv_aload_n hx hb dX4_init_4 rfl (lv_at hl 0 rfl) ?_
  refine lv_bipush (v := 100) hx hb dX4_init_5 (by decide) ?_
  refine x_newi (N' := 100) hB hV k_101 (by decide) (by decide) (by decide) (Nat.le_of_ble_eq_true rfl) (Nat.le_of_ble_eq_true rfl) dX4_init_7 (fun q_1 H hV => ?_)
  have hV : Vx D A s.heap H locs [(h, .inr (4, [.null, .int 0, .int 0, .int 0])), (q_1, .inl (cI, 100, .inl (fun _ => 0)))] := hV
  refine W.widen (k := 1) (n := 100) (Nat.le_of_ble_eq_true rfl) (Nat.le_of_ble_eq_true rfl) ?_
  refine x_putF (v := .ref q_1) hB hV hin 0 rfl rfl 0 (by decide) k_86 rfl rfl rfl rfl (Nat.le_of_ble_eq_true rfl) dX4_init_9 (fun H locs hV => ?_)
  have hV : Vx D A s.heap H locs [(h, .inr (4, [.ref q_1, .int 0, .int 0, .int 0])), (q_1, .inl (cI, 100, .inl (fun _ => 0)))] := hV
  refine lv_aload_n hx hb dX4_init_12 rfl (lv_at hl 0 rfl) ?_
  refine lv_iconst (v := 0) hx hb dX4_init_13 (by decide) ?_
  refine x_put (v := .int 0) hB hV 0 rfl rfl 1 (by decide) k_87 rfl rfl rfl (Nat.le_of_ble_eq_true rfl) dX4_init_14 (fun H locs hV => ?_)
  have hV : Vx D A s.heap H locs [(h, .inr (4, [.ref q_1, .int 0, .int 0, .int 0])), (q_1, .inl (cI, 100, .inl (fun _ => 0)))] := hV
  refine lv_aload_n hx hb dX4_init_17 rfl (lv_at hl 0 rfl) ?_
  refine lv_iconst (v := 0) hx hb dX4_init_18 (by decide) ?_
  refine x_put (v := .int 0) hB hV 0 rfl rfl 2 (by decide) k_89 rfl rfl rfl (Nat.le_of_ble_eq_true rfl) dX4_init_19 (fun H locs hV => ?_)
  have hV : Vx D A s.heap H locs [(h, .inr (4, [.ref q_1, .int 0, .int 0, .int 0])), (q_1, .inl (cI, 100, .inl (fun _ => 0)))] := hV
  refine lv_aload_n hx hb dX4_init_22 rfl (lv_at hl 0 rfl) ?_
  refine lv_iconst (v := 0) hx hb dX4_init_23 (by decide) ?_
  refine x_put (v := .int 0) hB hV 0 rfl rfl 3 (by decide) k_91 rfl rfl rfl (Nat.le_of_ble_eq_true rfl) dX4_init_24 (fun H locs hV => ?_)
  have hV : Vx D A s.heap H locs [(h, .inr (4, [.ref q_1, .int 0, .int 0, .int 0])), (q_1, .inl (cI, 100, .inl (fun _ => 0)))] := hV
  exact x_vret (w := [(h, .inr (4, [.ref q_1, .int 0, .int 0, .int 0])), (q_1, .inl (cI, 100, .inl (fun _ => 0)))]) hB hr hV hA (Nat.le_of_ble_eq_true rfl) (Nat.le_of_ble_eq_true rfl) [0, 1] rfl rfl (by decide) dX4_init_27 ⟨q_1, rfl, rfl⟩
set_option maxHeartbeats 4000000 in
set_option maxRecDepth 100000 in
theorem c_Judge_init (l : Launch) (D : va_G) (cI cZ cS : ClassId) (N0 : NT) (h : Nat)  : Mx l D cI cZ cS N0 yX1_init cX1_init 1 none 4 256 12041 [.ref h] [(h, .inr (1, [.null, .null, .null, .null, .null, .null, .int 0, .null, .null, .null]))] (fun v w => ∃ (s1 : Nat) (s2 : Nat) (s3 : Nat) (s4 : Nat) (s5 : Nat) (s6 : Nat) (s7 : Nat) (s8 : Nat) (s9 : Nat) (b1 : Nat) (b2 : Nat) (b3 : Nat) (b4 : Nat) (b5 : Nat) (b6 : Nat), v = none ∧ w = ([(h, .inr (1, [.ref s1, .ref s2, .ref s3, .ref b1, .ref b2, .ref b3, .int 0, .ref b4, .ref b5, .ref b6])), (s1, .inr (5, [.ref s4, .int 0, .int 0, .ref s5, .int 0, .int 0, .int 0, .int 0])), (s2, .inr (5, [.ref s6, .int 0, .int 0, .ref s7, .int 0, .int 0, .int 0, .int 0])), (s3, .inr (5, [.ref s8, .int 0, .int 0, .ref s9, .int 0, .int 0, .int 0, .int 0]))] : va_W)) := by
  refine x_enter (by decide) (Nat.le_of_ble_eq_true rfl) ?_
  intro p e s m args below meth c A ls H locs hB hr hin hl hV hA
  have hx := hB.1
  have hb := hB.2.1
  have hl : lv_has ls 1 [(0, .ref h)] := hl
  refine lv_aload_n hx hb dX1_init_0 rfl (lv_at hl 0 rfl) ?_
  refine x_oinit hB k_271 k_78 k_79 hl.1 dX1_init_1 (Nat.le_of_ble_eq_true rfl) (Nat.le_of_ble_eq_true rfl) ?_
  refine lv_aload_n hx hb dX1_init_4 rfl (lv_at hl 0 rfl) ?_
  refine x_new (ci := 5) (fs := [.null, .int 0, .int 0, .null, .int 0, .int 0, .int 0, .int 0]) hB hV rfl k_272 k_103 k_59 (fnew_5) (Nat.le_of_ble_eq_true rfl) (Nat.le_of_ble_eq_true rfl) dX1_init_5 (fun q_1 H hV => ?_)
  have hV : Vx D A s.heap H locs [(h, .inr (1, [.null, .null, .null, .null, .null, .null, .int 0, .null, .null, .null])), (q_1, .inr (5, [.null, .int 0, .int 0, .null, .int 0, .int 0, .int 0, .int 0]))] := hV
  refine W.widen (k := 1) (n := 8) (Nat.le_of_ble_eq_true rfl) (Nat.le_of_ble_eq_true rfl) ?_
  refine lv_dup hx hb dX1_init_8 rfl ?_
  refine x_callI (n := 0) (wr := [(h, .inr (1, [.null, .null, .null, .null, .null, .null, .int 0, .null, .null, .null]))]) (As := []) (rest := [.ref q_1, .ref h]) hB hV (x_N hB) hl.1 (c_World_init l D cI cZ cS N0 q_1 ) k_106 k_59 k_273 k_105 rfl (by decide +kernel) ⟨(Nat.le_of_ble_eq_true rfl), (Nat.le_of_ble_eq_true rfl)⟩ rfl (Nat.le_of_ble_eq_true rfl) ⟨(Nat.le_of_ble_eq_true rfl), (Nat.le_of_ble_eq_true rfl)⟩ [1] [0] rfl rfl rfl ⟨by decide, by decide, by decide⟩ dX1_init_9 (fun v w H locs hp hV => ?_)
  obtain ⟨a1_2, a2_3, rfl, rfl⟩ := hp
  have hV : Vx D A s.heap H locs [(h, .inr (1, [.null, .null, .null, .null, .null, .null, .int 0, .null, .null, .null])), (q_1, .inr (5, [.ref a1_2, .int 0, .int 0, .ref a2_3, .int 0, .int 0, .int 0, .int 0]))] := hV
  refine W.eq (g2 := F0 m 12 ls [.ref q_1, .ref h]) rfl ?_
  refine x_putF (v := .ref q_1) hB hV hin 0 rfl rfl 0 (by decide) k_276 rfl rfl rfl rfl (Nat.le_of_ble_eq_true rfl) dX1_init_12 (fun H locs hV => ?_)
  have hV : Vx D A s.heap H locs [(h, .inr (1, [.ref q_1, .null, .null, .null, .null, .null, .int 0, .null, .null, .null])), (q_1, .inr (5, [.ref a1_2, .int 0, .int 0, .ref a2_3, .int 0, .int 0, .int 0, .int 0]))] := hV
  refine lv_aload_n hx hb dX1_init_15 rfl (lv_at hl 0 rfl) ?_
  refine x_new (ci := 5) (fs := [.null, .int 0, .int 0, .null, .int 0, .int 0, .int 0, .int 0]) hB hV rfl k_272 k_103 k_59 (fnew_5) (Nat.le_of_ble_eq_true rfl) (Nat.le_of_ble_eq_true rfl) dX1_init_16 (fun q_4 H hV => ?_)
  have hV : Vx D A s.heap H locs [(h, .inr (1, [.ref q_1, .null, .null, .null, .null, .null, .int 0, .null, .null, .null])), (q_1, .inr (5, [.ref a1_2, .int 0, .int 0, .ref a2_3, .int 0, .int 0, .int 0, .int 0])), (q_4, .inr (5, [.null, .int 0, .int 0, .null, .int 0, .int 0, .int 0, .int 0]))] := hV
  refine W.widen (k := 76) (n := 1296) (Nat.le_of_ble_eq_true rfl) (Nat.le_of_ble_eq_true rfl) ?_
  refine lv_dup hx hb dX1_init_19 rfl ?_
  refine x_callI (n := 0) (wr := [(h, .inr (1, [.ref q_1, .null, .null, .null, .null, .null, .int 0, .null, .null, .null])), (q_1, .inr (5, [.ref a1_2, .int 0, .int 0, .ref a2_3, .int 0, .int 0, .int 0, .int 0]))]) (As := []) (rest := [.ref q_4, .ref h]) hB hV (x_N hB) hl.1 (c_World_init l D cI cZ cS N0 q_4 ) k_106 k_59 k_273 k_105 rfl (by decide +kernel) ⟨(Nat.le_of_ble_eq_true rfl), (Nat.le_of_ble_eq_true rfl)⟩ rfl (Nat.le_of_ble_eq_true rfl) ⟨(Nat.le_of_ble_eq_true rfl), (Nat.le_of_ble_eq_true rfl)⟩ [2] [0, 1] rfl rfl rfl ⟨by decide, by decide, by decide⟩ dX1_init_20 (fun v w H locs hp hV => ?_)
  obtain ⟨a1_5, a2_6, rfl, rfl⟩ := hp
  have hV : Vx D A s.heap H locs [(h, .inr (1, [.ref q_1, .null, .null, .null, .null, .null, .int 0, .null, .null, .null])), (q_1, .inr (5, [.ref a1_2, .int 0, .int 0, .ref a2_3, .int 0, .int 0, .int 0, .int 0])), (q_4, .inr (5, [.ref a1_5, .int 0, .int 0, .ref a2_6, .int 0, .int 0, .int 0, .int 0]))] := hV
  refine W.eq (g2 := F0 m 23 ls [.ref q_4, .ref h]) rfl ?_
  refine x_putF (v := .ref q_4) hB hV hin 0 rfl rfl 1 (by decide) k_278 rfl rfl rfl rfl (Nat.le_of_ble_eq_true rfl) dX1_init_23 (fun H locs hV => ?_)
  have hV : Vx D A s.heap H locs [(h, .inr (1, [.ref q_1, .ref q_4, .null, .null, .null, .null, .int 0, .null, .null, .null])), (q_1, .inr (5, [.ref a1_2, .int 0, .int 0, .ref a2_3, .int 0, .int 0, .int 0, .int 0])), (q_4, .inr (5, [.ref a1_5, .int 0, .int 0, .ref a2_6, .int 0, .int 0, .int 0, .int 0]))] := hV
  refine lv_aload_n hx hb dX1_init_26 rfl (lv_at hl 0 rfl) ?_
  refine x_new (ci := 5) (fs := [.null, .int 0, .int 0, .null, .int 0, .int 0, .int 0, .int 0]) hB hV rfl k_272 k_103 k_59 (fnew_5) (Nat.le_of_ble_eq_true rfl) (Nat.le_of_ble_eq_true rfl) dX1_init_27 (fun q_7 H hV => ?_)
  have hV : Vx D A s.heap H locs [(h, .inr (1, [.ref q_1, .ref q_4, .null, .null, .null, .null, .int 0, .null, .null, .null])), (q_1, .inr (5, [.ref a1_2, .int 0, .int 0, .ref a2_3, .int 0, .int 0, .int 0, .int 0])), (q_4, .inr (5, [.ref a1_5, .int 0, .int 0, .ref a2_6, .int 0, .int 0, .int 0, .int 0])), (q_7, .inr (5, [.null, .int 0, .int 0, .null, .int 0, .int 0, .int 0, .int 0]))] := hV
  refine W.widen (k := 151) (n := 2584) (Nat.le_of_ble_eq_true rfl) (Nat.le_of_ble_eq_true rfl) ?_
  refine lv_dup hx hb dX1_init_30 rfl ?_
  refine x_callI (n := 0) (wr := [(h, .inr (1, [.ref q_1, .ref q_4, .null, .null, .null, .null, .int 0, .null, .null, .null])), (q_1, .inr (5, [.ref a1_2, .int 0, .int 0, .ref a2_3, .int 0, .int 0, .int 0, .int 0])), (q_4, .inr (5, [.ref a1_5, .int 0, .int 0, .ref a2_6, .int 0, .int 0, .int 0, .int 0]))]) (As := []) (rest := [.ref q_7, .ref h]) hB hV (x_N hB) hl.1 (c_World_init l D cI cZ cS N0 q_7 ) k_106 k_59 k_273 k_105 rfl (by decide +kernel) ⟨(Nat.le_of_ble_eq_true rfl), (Nat.le_of_ble_eq_true rfl)⟩ rfl (Nat.le_of_ble_eq_true rfl) ⟨(Nat.le_of_ble_eq_true rfl), (Nat.le_of_ble_eq_true rfl)⟩ [3] [0, 1, 2] rfl rfl rfl ⟨by decide, by decide, by decide⟩ dX1_init_31 (fun v w H locs hp hV => ?_)
  obtain ⟨a1_8, a2_9, rfl, rfl⟩ := hp
  have hV : Vx D A s.heap H locs [(h, .inr (1, [.ref q_1, .ref q_4, .null, .null, .null, .null, .int 0, .null, .null, .null])), (q_1, .inr (5, [.ref a1_2, .int 0, .int 0, .ref a2_3, .int 0, .int 0, .int 0, .int 0])), (q_4, .inr (5, [.ref a1_5, .int 0, .int 0, .ref a2_6, .int 0, .int 0, .int 0, .int 0])), (q_7, .inr (5, [.ref a1_8, .int 0, .int 0, .ref a2_9, .int 0, .int 0, .int 0, .int 0]))] := hV
  refine W.eq (g2 := F0 m 34 ls [.ref q_7, .ref h]) rfl ?_
  refine x_putF (v := .ref q_7) hB hV hin 0 rfl rfl 2 (by decide) k_279 rfl rfl rfl rfl (Nat.le_of_ble_eq_true rfl) dX1_init_34 (fun H locs hV => ?_)
  have hV : Vx D A s.heap H locs [(h, .inr (1, [.ref q_1, .ref q_4, .ref q_7, .null, .null, .null, .int 0, .null, .null, .null])), (q_1, .inr (5, [.ref a1_2, .int 0, .int 0, .ref a2_3, .int 0, .int 0, .int 0, .int 0])), (q_4, .inr (5, [.ref a1_5, .int 0, .int 0, .ref a2_6, .int 0, .int 0, .int 0, .int 0])), (q_7, .inr (5, [.ref a1_8, .int 0, .int 0, .ref a2_9, .int 0, .int 0, .int 0, .int 0]))] := hV
  refine lv_aload_n hx hb dX1_init_37 rfl (lv_at hl 0 rfl) ?_
  refine lv_bipush (v := 6) hx hb dX1_init_38 (by decide) ?_
  refine x_newi (N' := 6) hB hV k_101 (by decide) (by decide) (by decide) (Nat.le_of_ble_eq_true rfl) (Nat.le_of_ble_eq_true rfl) dX1_init_40 (fun q_10 H hV => ?_)
  have hV : Vx D A s.heap H locs [(h, .inr (1, [.ref q_1, .ref q_4, .ref q_7, .null, .null, .null, .int 0, .null, .null, .null])), (q_1, .inr (5, [.ref a1_2, .int 0, .int 0, .ref a2_3, .int 0, .int 0, .int 0, .int 0])), (q_4, .inr (5, [.ref a1_5, .int 0, .int 0, .ref a2_6, .int 0, .int 0, .int 0, .int 0])), (q_7, .inr (5, [.ref a1_8, .int 0, .int 0, .ref a2_9, .int 0, .int 0, .int 0, .int 0])), (q_10, .inl (cI, 6, .inl (fun _ => 0)))] := hV
  refine W.widen (k := 226) (n := 3870) (Nat.le_of_ble_eq_true rfl) (Nat.le_of_ble_eq_true rfl) ?_
  refine x_putF (v := .ref q_10) hB hV hin 0 rfl rfl 3 (by decide) k_280 rfl rfl rfl rfl (Nat.le_of_ble_eq_true rfl) dX1_init_42 (fun H locs hV => ?_)
  have hV : Vx D A s.heap H locs [(h, .inr (1, [.ref q_1, .ref q_4, .ref q_7, .ref q_10, .null, .null, .int 0, .null, .null, .null])), (q_1, .inr (5, [.ref a1_2, .int 0, .int 0, .ref a2_3, .int 0, .int 0, .int 0, .int 0])), (q_4, .inr (5, [.ref a1_5, .int 0, .int 0, .ref a2_6, .int 0, .int 0, .int 0, .int 0])), (q_7, .inr (5, [.ref a1_8, .int 0, .int 0, .ref a2_9, .int 0, .int 0, .int 0, .int 0])), (q_10, .inl (cI, 6, .inl (fun _ => 0)))] := hV
  refine lv_aload_n hx hb dX1_init_45 rfl (lv_at hl 0 rfl) ?_
  refine lv_bipush (v := 6) hx hb dX1_init_46 (by decide) ?_
  refine x_newi (N' := 6) hB hV k_101 (by decide) (by decide) (by decide) (Nat.le_of_ble_eq_true rfl) (Nat.le_of_ble_eq_true rfl) dX1_init_48 (fun q_11 H hV => ?_)
  have hV : Vx D A s.heap H locs [(h, .inr (1, [.ref q_1, .ref q_4, .ref q_7, .ref q_10, .null, .null, .int 0, .null, .null, .null])), (q_1, .inr (5, [.ref a1_2, .int 0, .int 0, .ref a2_3, .int 0, .int 0, .int 0, .int 0])), (q_4, .inr (5, [.ref a1_5, .int 0, .int 0, .ref a2_6, .int 0, .int 0, .int 0, .int 0])), (q_7, .inr (5, [.ref a1_8, .int 0, .int 0, .ref a2_9, .int 0, .int 0, .int 0, .int 0])), (q_10, .inl (cI, 6, .inl (fun _ => 0))), (q_11, .inl (cI, 6, .inl (fun _ => 0)))] := hV
  refine W.widen (k := 227) (n := 3876) (Nat.le_of_ble_eq_true rfl) (Nat.le_of_ble_eq_true rfl) ?_
  refine x_putF (v := .ref q_11) hB hV hin 0 rfl rfl 4 (by decide) k_281 rfl rfl rfl rfl (Nat.le_of_ble_eq_true rfl) dX1_init_50 (fun H locs hV => ?_)
  have hV : Vx D A s.heap H locs [(h, .inr (1, [.ref q_1, .ref q_4, .ref q_7, .ref q_10, .ref q_11, .null, .int 0, .null, .null, .null])), (q_1, .inr (5, [.ref a1_2, .int 0, .int 0, .ref a2_3, .int 0, .int 0, .int 0, .int 0])), (q_4, .inr (5, [.ref a1_5, .int 0, .int 0, .ref a2_6, .int 0, .int 0, .int 0, .int 0])), (q_7, .inr (5, [.ref a1_8, .int 0, .int 0, .ref a2_9, .int 0, .int 0, .int 0, .int 0])), (q_10, .inl (cI, 6, .inl (fun _ => 0))), (q_11, .inl (cI, 6, .inl (fun _ => 0)))] := hV
  refine lv_aload_n hx hb dX1_init_53 rfl (lv_at hl 0 rfl) ?_
  refine lv_bipush (v := 6) hx hb dX1_init_54 (by decide) ?_
  refine x_newi (N' := 6) hB hV k_101 (by decide) (by decide) (by decide) (Nat.le_of_ble_eq_true rfl) (Nat.le_of_ble_eq_true rfl) dX1_init_56 (fun q_12 H hV => ?_)
  have hV : Vx D A s.heap H locs [(h, .inr (1, [.ref q_1, .ref q_4, .ref q_7, .ref q_10, .ref q_11, .null, .int 0, .null, .null, .null])), (q_1, .inr (5, [.ref a1_2, .int 0, .int 0, .ref a2_3, .int 0, .int 0, .int 0, .int 0])), (q_4, .inr (5, [.ref a1_5, .int 0, .int 0, .ref a2_6, .int 0, .int 0, .int 0, .int 0])), (q_7, .inr (5, [.ref a1_8, .int 0, .int 0, .ref a2_9, .int 0, .int 0, .int 0, .int 0])), (q_10, .inl (cI, 6, .inl (fun _ => 0))), (q_11, .inl (cI, 6, .inl (fun _ => 0))), (q_12, .inl (cI, 6, .inl (fun _ => 0)))] := hV
  refine W.widen (k := 228) (n := 3882) (Nat.le_of_ble_eq_true rfl) (Nat.le_of_ble_eq_true rfl) ?_
  refine x_putF (v := .ref q_12) hB hV hin 0 rfl rfl 5 (by decide) k_282 rfl rfl rfl rfl (Nat.le_of_ble_eq_true rfl) dX1_init_58 (fun H locs hV => ?_)
  have hV : Vx D A s.heap H locs [(h, .inr (1, [.ref q_1, .ref q_4, .ref q_7, .ref q_10, .ref q_11, .ref q_12, .int 0, .null, .null, .null])), (q_1, .inr (5, [.ref a1_2, .int 0, .int 0, .ref a2_3, .int 0, .int 0, .int 0, .int 0])), (q_4, .inr (5, [.ref a1_5, .int 0, .int 0, .ref a2_6, .int 0, .int 0, .int 0, .int 0])), (q_7, .inr (5, [.ref a1_8, .int 0, .int 0, .ref a2_9, .int 0, .int 0, .int 0, .int 0])), (q_10, .inl (cI, 6, .inl (fun _ => 0))), (q_11, .inl (cI, 6, .inl (fun _ => 0))), (q_12, .inl (cI, 6, .inl (fun _ => 0)))] := hV
  refine lv_aload_n hx hb dX1_init_61 rfl (lv_at hl 0 rfl) ?_
  refine lv_iconst (v := 0) hx hb dX1_init_62 (by decide) ?_
  refine x_put (v := .int 0) hB hV 0 rfl rfl 6 (by decide) k_283 rfl rfl rfl (Nat.le_of_ble_eq_true rfl) dX1_init_63 (fun H locs hV => ?_)
  have hV : Vx D A s.heap H locs [(h, .inr (1, [.ref q_1, .ref q_4, .ref q_7, .ref q_10, .ref q_11, .ref q_12, .int 0, .null, .null, .null])), (q_1, .inr (5, [.ref a1_2, .int 0, .int 0, .ref a2_3, .int 0, .int 0, .int 0, .int 0])), (q_4, .inr (5, [.ref a1_5, .int 0, .int 0, .ref a2_6, .int 0, .int 0, .int 0, .int 0])), (q_7, .inr (5, [.ref a1_8, .int 0, .int 0, .ref a2_9, .int 0, .int 0, .int 0, .int 0])), (q_10, .inl (cI, 6, .inl (fun _ => 0))), (q_11, .inl (cI, 6, .inl (fun _ => 0))), (q_12, .inl (cI, 6, .inl (fun _ => 0)))] := hV
  refine lv_aload_n hx hb dX1_init_66 rfl (lv_at hl 0 rfl) ?_
  refine lv_bipush (v := 25) hx hb dX1_init_67 (by decide) ?_
  refine lv_sipush (v := 325) hx hb dX1_init_69 (by decide) ?_
  refine x_mna (N' := 25) (K' := 325) hB hV k_274 k_101 (by decide) (by decide) (by decide) (by decide) (by decide) (by decide) (Nat.le_of_ble_eq_true rfl) (Nat.le_of_ble_eq_true rfl) dX1_init_72 (fun q_13 H locs hV => ?_)
  refine W.widen (k := 254) (n := 12032) (Nat.le_of_ble_eq_true rfl) (Nat.le_of_ble_eq_true rfl) ?_
  refine x_putF (v := .ref q_13) hB hV hin 0 rfl rfl 7 (by decide) k_284 rfl rfl rfl rfl (Nat.le_of_ble_eq_true rfl) dX1_init_76 (fun H locs hV => ?_)
  have hV : Vx D A s.heap H locs [(h, .inr (1, [.ref q_1, .ref q_4, .ref q_7, .ref q_10, .ref q_11, .ref q_12, .int 0, .ref q_13, .null, .null])), (q_1, .inr (5, [.ref a1_2, .int 0, .int 0, .ref a2_3, .int 0, .int 0, .int 0, .int 0])), (q_4, .inr (5, [.ref a1_5, .int 0, .int 0, .ref a2_6, .int 0, .int 0, .int 0, .int 0])), (q_7, .inr (5, [.ref a1_8, .int 0, .int 0, .ref a2_9, .int 0, .int 0, .int 0, .int 0])), (q_10, .inl (cI, 6, .inl (fun _ => 0))), (q_11, .inl (cI, 6, .inl (fun _ => 0))), (q_12, .inl (cI, 6, .inl (fun _ => 0)))] := hV
  refine lv_aload_n hx hb dX1_init_79 rfl (lv_at hl 0 rfl) ?_
  refine lv_iconst (v := 5) hx hb dX1_init_80 (by decide) ?_
  refine x_newi (N' := 5) hB hV k_101 (by decide) (by decide) (by decide) (Nat.le_of_ble_eq_true rfl) (Nat.le_of_ble_eq_true rfl) dX1_init_81 (fun q_14 H hV => ?_)
  have hV : Vx D A s.heap H locs [(h, .inr (1, [.ref q_1, .ref q_4, .ref q_7, .ref q_10, .ref q_11, .ref q_12, .int 0, .ref q_13, .null, .null])), (q_1, .inr (5, [.ref a1_2, .int 0, .int 0, .ref a2_3, .int 0, .int 0, .int 0, .int 0])), (q_4, .inr (5, [.ref a1_5, .int 0, .int 0, .ref a2_6, .int 0, .int 0, .int 0, .int 0])), (q_7, .inr (5, [.ref a1_8, .int 0, .int 0, .ref a2_9, .int 0, .int 0, .int 0, .int 0])), (q_10, .inl (cI, 6, .inl (fun _ => 0))), (q_11, .inl (cI, 6, .inl (fun _ => 0))), (q_12, .inl (cI, 6, .inl (fun _ => 0))), (q_14, .inl (cI, 5, .inl (fun _ => 0)))] := hV
  refine W.widen (k := 255) (n := 12037) (Nat.le_of_ble_eq_true rfl) (Nat.le_of_ble_eq_true rfl) ?_
  refine x_putF (v := .ref q_14) hB hV hin 0 rfl rfl 8 (by decide) k_285 rfl rfl rfl rfl (Nat.le_of_ble_eq_true rfl) dX1_init_83 (fun H locs hV => ?_)
  have hV : Vx D A s.heap H locs [(h, .inr (1, [.ref q_1, .ref q_4, .ref q_7, .ref q_10, .ref q_11, .ref q_12, .int 0, .ref q_13, .ref q_14, .null])), (q_1, .inr (5, [.ref a1_2, .int 0, .int 0, .ref a2_3, .int 0, .int 0, .int 0, .int 0])), (q_4, .inr (5, [.ref a1_5, .int 0, .int 0, .ref a2_6, .int 0, .int 0, .int 0, .int 0])), (q_7, .inr (5, [.ref a1_8, .int 0, .int 0, .ref a2_9, .int 0, .int 0, .int 0, .int 0])), (q_10, .inl (cI, 6, .inl (fun _ => 0))), (q_11, .inl (cI, 6, .inl (fun _ => 0))), (q_12, .inl (cI, 6, .inl (fun _ => 0))), (q_14, .inl (cI, 5, .inl (fun _ => 0)))] := hV
  refine lv_aload_n hx hb dX1_init_86 rfl (lv_at hl 0 rfl) ?_
  refine lv_iconst (v := 4) hx hb dX1_init_87 (by decide) ?_
  refine x_newi (N' := 4) hB hV k_101 (by decide) (by decide) (by decide) (Nat.le_of_ble_eq_true rfl) (Nat.le_of_ble_eq_true rfl) dX1_init_88 (fun q_15 H hV => ?_)
  have hV : Vx D A s.heap H locs [(h, .inr (1, [.ref q_1, .ref q_4, .ref q_7, .ref q_10, .ref q_11, .ref q_12, .int 0, .ref q_13, .ref q_14, .null])), (q_1, .inr (5, [.ref a1_2, .int 0, .int 0, .ref a2_3, .int 0, .int 0, .int 0, .int 0])), (q_4, .inr (5, [.ref a1_5, .int 0, .int 0, .ref a2_6, .int 0, .int 0, .int 0, .int 0])), (q_7, .inr (5, [.ref a1_8, .int 0, .int 0, .ref a2_9, .int 0, .int 0, .int 0, .int 0])), (q_10, .inl (cI, 6, .inl (fun _ => 0))), (q_11, .inl (cI, 6, .inl (fun _ => 0))), (q_12, .inl (cI, 6, .inl (fun _ => 0))), (q_14, .inl (cI, 5, .inl (fun _ => 0))), (q_15, .inl (cI, 4, .inl (fun _ => 0)))] := hV
  refine W.widen (k := 256) (n := 12041) (Nat.le_of_ble_eq_true rfl) (Nat.le_of_ble_eq_true rfl) ?_
  refine x_putF (v := .ref q_15) hB hV hin 0 rfl rfl 9 (by decide) k_286 rfl rfl rfl rfl (Nat.le_of_ble_eq_true rfl) dX1_init_90 (fun H locs hV => ?_)
  have hV : Vx D A s.heap H locs [(h, .inr (1, [.ref q_1, .ref q_4, .ref q_7, .ref q_10, .ref q_11, .ref q_12, .int 0, .ref q_13, .ref q_14, .ref q_15])), (q_1, .inr (5, [.ref a1_2, .int 0, .int 0, .ref a2_3, .int 0, .int 0, .int 0, .int 0])), (q_4, .inr (5, [.ref a1_5, .int 0, .int 0, .ref a2_6, .int 0, .int 0, .int 0, .int 0])), (q_7, .inr (5, [.ref a1_8, .int 0, .int 0, .ref a2_9, .int 0, .int 0, .int 0, .int 0])), (q_10, .inl (cI, 6, .inl (fun _ => 0))), (q_11, .inl (cI, 6, .inl (fun _ => 0))), (q_12, .inl (cI, 6, .inl (fun _ => 0))), (q_14, .inl (cI, 5, .inl (fun _ => 0))), (q_15, .inl (cI, 4, .inl (fun _ => 0)))] := hV
  exact x_vret (w := [(h, .inr (1, [.ref q_1, .ref q_4, .ref q_7, .ref q_10, .ref q_11, .ref q_12, .int 0, .ref q_13, .ref q_14, .ref q_15])), (q_1, .inr (5, [.ref a1_2, .int 0, .int 0, .ref a2_3, .int 0, .int 0, .int 0, .int 0])), (q_4, .inr (5, [.ref a1_5, .int 0, .int 0, .ref a2_6, .int 0, .int 0, .int 0, .int 0])), (q_7, .inr (5, [.ref a1_8, .int 0, .int 0, .ref a2_9, .int 0, .int 0, .int 0, .int 0]))]) hB hr hV hA (Nat.le_of_ble_eq_true rfl) (Nat.le_of_ble_eq_true rfl) [0, 1, 2, 3] rfl rfl (by decide) dX1_init_93 ⟨q_1, q_4, q_7, a1_2, a2_3, a1_5, a2_6, a1_8, a2_9, q_10, q_11, q_12, q_13, q_14, q_15, rfl, rfl⟩
set_option maxHeartbeats 4000000 in
set_option maxRecDepth 100000 in
theorem c_TwiceOnce_init (l : Launch) (D : va_G) (cI cZ cS : ClassId) (N0 : NT) (h : Nat)  : Mx l D cI cZ cS N0 yX6_init cX6_init 2 none 5 343 13533 [.ref h] [(h, .inr (6, [.null, .null, .null, .null, .null, .null, .int 0]))] (fun v w => ∃ (tp : Nat) (nw : Nat) (rw : Nat) (lg : Nat) (jd : Nat) (pr : Nat) (byt : Nat) (n1 : Nat) (n2 : Nat) (r1 : Nat) (r2 : Nat) (r3 : Nat) (l1 : Nat) (l2 : Nat) (l3 : Nat) (s1 : Nat) (s2 : Nat) (s3 : Nat) (s4 : Nat) (s5 : Nat) (s6 : Nat) (s7 : Nat) (s8 : Nat) (s9 : Nat) (b1 : Nat) (b2 : Nat) (b3 : Nat) (b4 : Nat) (b5 : Nat) (b6 : Nat), v = none ∧ w = ([(h, .inr (6, [.ref tp, .ref nw, .ref rw, .ref lg, .ref jd, .ref pr, .int 0])), (tp, .inr (4, [.ref byt, .int 0, .int 0, .int 0])), (byt, .inl (cI, 100, .inl (fun _ => 0))), (nw, .inr (5, [.ref n1, .int 0, .int 0, .ref n2, .int 0, .int 0, .int 0, .int 0])), (rw, .inr (0, [.ref r1, .ref r2, .ref r3, .int 0])), (lg, .inr (0, [.ref l1, .ref l2, .ref l3, .int 0])), (jd, .inr (1, [.ref s1, .ref s2, .ref s3, .ref b1, .ref b2, .ref b3, .int 0, .ref b4, .ref b5, .ref b6])), (s1, .inr (5, [.ref s4, .int 0, .int 0, .ref s5, .int 0, .int 0, .int 0, .int 0])), (s2, .inr (5, [.ref s6, .int 0, .int 0, .ref s7, .int 0, .int 0, .int 0, .int 0])), (s3, .inr (5, [.ref s8, .int 0, .int 0, .ref s9, .int 0, .int 0, .int 0, .int 0])), (pr, .inl (cI, 4, .inl (upd (upd (upd (upd (fun _ => 0) 0 1) 1 1) 2 1) 3 1)))] : va_W)) := by
  refine x_enter (by decide) (Nat.le_of_ble_eq_true rfl) ?_
  intro p e s m args below meth c A ls H locs hB hr hin hl hV hA
  have hx := hB.1
  have hb := hB.2.1
  have hl : lv_has ls 2 [(0, .ref h)] := hl
  refine lv_aload_n hx hb dX6_init_0 rfl (lv_at hl 0 rfl) ?_
  refine x_oinit hB k_77 k_78 k_79 hl.1 dX6_init_1 (Nat.le_of_ble_eq_true rfl) (Nat.le_of_ble_eq_true rfl) ?_
  refine lv_aload_n hx hb dX6_init_4 rfl (lv_at hl 0 rfl) ?_
  refine x_new (ci := 4) (fs := [.null, .int 0, .int 0, .int 0]) hB hV rfl k_80 k_81 k_58 (fnew_4) (Nat.le_of_ble_eq_true rfl) (Nat.le_of_ble_eq_true rfl) dX6_init_5 (fun q_1 H hV => ?_)
  have hV : Vx D A s.heap H locs [(h, .inr (6, [.null, .null, .null, .null, .null, .null, .int 0])), (q_1, .inr (4, [.null, .int 0, .int 0, .int 0]))] := hV
  refine W.widen (k := 1) (n := 4) (Nat.le_of_ble_eq_true rfl) (Nat.le_of_ble_eq_true rfl) ?_
  refine lv_dup hx hb dX6_init_8 rfl ?_
  refine x_callIN (n := 0) (host := RX6) (wr := [(h, .inr (6, [.null, .null, .null, .null, .null, .null, .int 0]))]) (As := []) (rest := [.ref q_1, .ref h]) hB hV (x_N hB) hl.1 (c_Tape_init l D cI cZ cS N0 q_1 ) k_84 k_58 hB.2.2.2.2.2.2.2.2.1.1 k_83 rfl (by decide +kernel) ⟨(Nat.le_of_ble_eq_true rfl), (Nat.le_of_ble_eq_true rfl)⟩ rfl (Nat.le_of_ble_eq_true rfl) ⟨(Nat.le_of_ble_eq_true rfl), (Nat.le_of_ble_eq_true rfl)⟩ [1] [0] rfl rfl rfl ⟨by decide, by decide, by decide⟩ dX6_init_9 (fun v w H locs hp hV => ?_)
  obtain ⟨a1_2, rfl, rfl⟩ := hp
  have hV : Vx D A s.heap H locs [(h, .inr (6, [.null, .null, .null, .null, .null, .null, .int 0])), (q_1, .inr (4, [.ref a1_2, .int 0, .int 0, .int 0])), (a1_2, .inl (cI, 100, .inl (fun _ => 0)))] := hV
  refine W.eq (g2 := F0 m 12 ls [.ref q_1, .ref h]) rfl ?_
  refine x_putF (v := .ref q_1) hB hV hin 0 rfl rfl 0 (by decide) k_308 rfl rfl rfl rfl (Nat.le_of_ble_eq_true rfl) dX6_init_12 (fun H locs hV => ?_)
  have hV : Vx D A s.heap H locs [(h, .inr (6, [.ref q_1, .null, .null, .null, .null, .null, .int 0])), (q_1, .inr (4, [.ref a1_2, .int 0, .int 0, .int 0])), (a1_2, .inl (cI, 100, .inl (fun _ => 0)))] := hV
  refine lv_aload_n hx hb dX6_init_15 rfl (lv_at hl 0 rfl) ?_
  refine x_new (ci := 5) (fs := [.null, .int 0, .int 0, .null, .int 0, .int 0, .int 0, .int 0]) hB hV rfl k_102 k_103 k_59 (fnew_5) (Nat.le_of_ble_eq_true rfl) (Nat.le_of_ble_eq_true rfl) dX6_init_16 (fun q_3 H hV => ?_)
  have hV : Vx D A s.heap H locs [(h, .inr (6, [.ref q_1, .null, .null, .null, .null, .null, .int 0])), (q_1, .inr (4, [.ref a1_2, .int 0, .int 0, .int 0])), (a1_2, .inl (cI, 100, .inl (fun _ => 0))), (q_3, .inr (5, [.null, .int 0, .int 0, .null, .int 0, .int 0, .int 0, .int 0]))] := hV
  refine W.widen (k := 3) (n := 112) (Nat.le_of_ble_eq_true rfl) (Nat.le_of_ble_eq_true rfl) ?_
  refine lv_dup hx hb dX6_init_19 rfl ?_
  refine x_callI (n := 0) (wr := [(h, .inr (6, [.ref q_1, .null, .null, .null, .null, .null, .int 0])), (q_1, .inr (4, [.ref a1_2, .int 0, .int 0, .int 0])), (a1_2, .inl (cI, 100, .inl (fun _ => 0)))]) (As := []) (rest := [.ref q_3, .ref h]) hB hV (x_N hB) hl.1 (c_World_init l D cI cZ cS N0 q_3 ) k_106 k_59 k_104 k_105 rfl (by decide +kernel) ⟨(Nat.le_of_ble_eq_true rfl), (Nat.le_of_ble_eq_true rfl)⟩ rfl (Nat.le_of_ble_eq_true rfl) ⟨(Nat.le_of_ble_eq_true rfl), (Nat.le_of_ble_eq_true rfl)⟩ [3] [0, 1, 2] rfl rfl rfl ⟨by decide, by decide, by decide⟩ dX6_init_20 (fun v w H locs hp hV => ?_)
  obtain ⟨a1_4, a2_5, rfl, rfl⟩ := hp
  have hV : Vx D A s.heap H locs [(h, .inr (6, [.ref q_1, .null, .null, .null, .null, .null, .int 0])), (q_1, .inr (4, [.ref a1_2, .int 0, .int 0, .int 0])), (a1_2, .inl (cI, 100, .inl (fun _ => 0))), (q_3, .inr (5, [.ref a1_4, .int 0, .int 0, .ref a2_5, .int 0, .int 0, .int 0, .int 0]))] := hV
  refine W.eq (g2 := F0 m 23 ls [.ref q_3, .ref h]) rfl ?_
  refine x_putF (v := .ref q_3) hB hV hin 0 rfl rfl 1 (by decide) k_309 rfl rfl rfl rfl (Nat.le_of_ble_eq_true rfl) dX6_init_23 (fun H locs hV => ?_)
  have hV : Vx D A s.heap H locs [(h, .inr (6, [.ref q_1, .ref q_3, .null, .null, .null, .null, .int 0])), (q_1, .inr (4, [.ref a1_2, .int 0, .int 0, .int 0])), (a1_2, .inl (cI, 100, .inl (fun _ => 0))), (q_3, .inr (5, [.ref a1_4, .int 0, .int 0, .ref a2_5, .int 0, .int 0, .int 0, .int 0]))] := hV
  refine lv_aload_n hx hb dX6_init_26 rfl (lv_at hl 0 rfl) ?_
  refine x_new (ci := 0) (fs := [.null, .null, .null, .int 0]) hB hV rfl k_234 k_235 k_62 (fnew_0) (Nat.le_of_ble_eq_true rfl) (Nat.le_of_ble_eq_true rfl) dX6_init_27 (fun q_6 H hV => ?_)
  have hV : Vx D A s.heap H locs [(h, .inr (6, [.ref q_1, .ref q_3, .null, .null, .null, .null, .int 0])), (q_1, .inr (4, [.ref a1_2, .int 0, .int 0, .int 0])), (a1_2, .inl (cI, 100, .inl (fun _ => 0))), (q_3, .inr (5, [.ref a1_4, .int 0, .int 0, .ref a2_5, .int 0, .int 0, .int 0, .int 0])), (q_6, .inr (0, [.null, .null, .null, .int 0]))] := hV
  refine W.widen (k := 78) (n := 1396) (Nat.le_of_ble_eq_true rfl) (Nat.le_of_ble_eq_true rfl) ?_
  refine lv_dup hx hb dX6_init_30 rfl ?_
  refine lv_bipush (v := 6) hx hb dX6_init_31 (by decide) ?_
  refine x_callI (n := 1) (wr := [(h, .inr (6, [.ref q_1, .ref q_3, .null, .null, .null, .null, .int 0])), (q_1, .inr (4, [.ref a1_2, .int 0, .int 0, .int 0])), (a1_2, .inl (cI, 100, .inl (fun _ => 0))), (q_3, .inr (5, [.ref a1_4, .int 0, .int 0, .ref a2_5, .int 0, .int 0, .int 0, .int 0]))]) (As := [.int 6]) (rest := [.ref q_6, .ref h]) hB hV (x_N hB) hl.1 (c_CallList_init l D cI cZ cS N0 q_6 ) k_238 k_62 k_236 k_237 rfl (by decide +kernel) ⟨(Nat.le_of_ble_eq_true rfl), (Nat.le_of_ble_eq_true rfl)⟩ rfl (Nat.le_of_ble_eq_true rfl) ⟨(Nat.le_of_ble_eq_true rfl), (Nat.le_of_ble_eq_true rfl)⟩ [4] [0, 1, 2, 3] rfl rfl rfl ⟨by decide, by decide, by decide⟩ dX6_init_33 (fun v w H locs hp hV => ?_)
  obtain ⟨a1_7, a2_8, a3_9, rfl, rfl⟩ := hp
  have hV : Vx D A s.heap H locs [(h, .inr (6, [.ref q_1, .ref q_3, .null, .null, .null, .null, .int 0])), (q_1, .inr (4, [.ref a1_2, .int 0, .int 0, .int 0])), (a1_2, .inl (cI, 100, .inl (fun _ => 0))), (q_3, .inr (5, [.ref a1_4, .int 0, .int 0, .ref a2_5, .int 0, .int 0, .int 0, .int 0])), (q_6, .inr (0, [.ref a1_7, .ref a2_8, .ref a3_9, .int 0]))] := hV
  refine W.eq (g2 := F0 m 36 ls [.ref q_6, .ref h]) rfl ?_
  refine x_putF (v := .ref q_6) hB hV hin 0 rfl rfl 2 (by decide) k_310 rfl rfl rfl rfl (Nat.le_of_ble_eq_true rfl) dX6_init_36 (fun H locs hV => ?_)
  have hV : Vx D A s.heap H locs [(h, .inr (6, [.ref q_1, .ref q_3, .ref q_6, .null, .null, .null, .int 0])), (q_1, .inr (4, [.ref a1_2, .int 0, .int 0, .int 0])), (a1_2, .inl (cI, 100, .inl (fun _ => 0))), (q_3, .inr (5, [.ref a1_4, .int 0, .int 0, .ref a2_5, .int 0, .int 0, .int 0, .int 0])), (q_6, .inr (0, [.ref a1_7, .ref a2_8, .ref a3_9, .int 0]))] := hV
  refine lv_aload_n hx hb dX6_init_39 rfl (lv_at hl 0 rfl) ?_
  refine x_new (ci := 0) (fs := [.null, .null, .null, .int 0]) hB hV rfl k_234 k_235 k_62 (fnew_0) (Nat.le_of_ble_eq_true rfl) (Nat.le_of_ble_eq_true rfl) dX6_init_40 (fun q_10 H hV => ?_)
  have hV : Vx D A s.heap H locs [(h, .inr (6, [.ref q_1, .ref q_3, .ref q_6, .null, .null, .null, .int 0])), (q_1, .inr (4, [.ref a1_2, .int 0, .int 0, .int 0])), (a1_2, .inl (cI, 100, .inl (fun _ => 0))), (q_3, .inr (5, [.ref a1_4, .int 0, .int 0, .ref a2_5, .int 0, .int 0, .int 0, .int 0])), (q_6, .inr (0, [.ref a1_7, .ref a2_8, .ref a3_9, .int 0])), (q_10, .inr (0, [.null, .null, .null, .int 0]))] := hV
  refine W.widen (k := 82) (n := 1418) (Nat.le_of_ble_eq_true rfl) (Nat.le_of_ble_eq_true rfl) ?_
  refine lv_dup hx hb dX6_init_43 rfl ?_
  refine lv_bipush (v := 20) hx hb dX6_init_44 (by decide) ?_
  refine x_callI (n := 1) (wr := [(h, .inr (6, [.ref q_1, .ref q_3, .ref q_6, .null, .null, .null, .int 0])), (q_1, .inr (4, [.ref a1_2, .int 0, .int 0, .int 0])), (a1_2, .inl (cI, 100, .inl (fun _ => 0))), (q_3, .inr (5, [.ref a1_4, .int 0, .int 0, .ref a2_5, .int 0, .int 0, .int 0, .int 0])), (q_6, .inr (0, [.ref a1_7, .ref a2_8, .ref a3_9, .int 0]))]) (As := [.int 20]) (rest := [.ref q_10, .ref h]) hB hV (x_N hB) hl.1 (c_CallList_init20 l D cI cZ cS N0 q_10 ) k_238 k_62 k_236 k_237 rfl (by decide +kernel) ⟨(Nat.le_of_ble_eq_true rfl), (Nat.le_of_ble_eq_true rfl)⟩ rfl (Nat.le_of_ble_eq_true rfl) ⟨(Nat.le_of_ble_eq_true rfl), (Nat.le_of_ble_eq_true rfl)⟩ [5] [0, 1, 2, 3, 4] rfl rfl rfl ⟨by decide, by decide, by decide⟩ dX6_init_46 (fun v w H locs hp hV => ?_)
  obtain ⟨a1_11, a2_12, a3_13, rfl, rfl⟩ := hp
  have hV : Vx D A s.heap H locs [(h, .inr (6, [.ref q_1, .ref q_3, .ref q_6, .null, .null, .null, .int 0])), (q_1, .inr (4, [.ref a1_2, .int 0, .int 0, .int 0])), (a1_2, .inl (cI, 100, .inl (fun _ => 0))), (q_3, .inr (5, [.ref a1_4, .int 0, .int 0, .ref a2_5, .int 0, .int 0, .int 0, .int 0])), (q_6, .inr (0, [.ref a1_7, .ref a2_8, .ref a3_9, .int 0])), (q_10, .inr (0, [.ref a1_11, .ref a2_12, .ref a3_13, .int 0]))] := hV
  refine W.eq (g2 := F0 m 49 ls [.ref q_10, .ref h]) rfl ?_
  refine x_putF (v := .ref q_10) hB hV hin 0 rfl rfl 3 (by decide) k_311 rfl rfl rfl rfl (Nat.le_of_ble_eq_true rfl) dX6_init_49 (fun H locs hV => ?_)
  have hV : Vx D A s.heap H locs [(h, .inr (6, [.ref q_1, .ref q_3, .ref q_6, .ref q_10, .null, .null, .int 0])), (q_1, .inr (4, [.ref a1_2, .int 0, .int 0, .int 0])), (a1_2, .inl (cI, 100, .inl (fun _ => 0))), (q_3, .inr (5, [.ref a1_4, .int 0, .int 0, .ref a2_5, .int 0, .int 0, .int 0, .int 0])), (q_6, .inr (0, [.ref a1_7, .ref a2_8, .ref a3_9, .int 0])), (q_10, .inr (0, [.ref a1_11, .ref a2_12, .ref a3_13, .int 0]))] := hV
  refine lv_aload_n hx hb dX6_init_52 rfl (lv_at hl 0 rfl) ?_
  refine x_new (ci := 1) (fs := [.null, .null, .null, .null, .null, .null, .int 0, .null, .null, .null]) hB hV rfl k_266 k_267 k_64 (fnew_1) (Nat.le_of_ble_eq_true rfl) (Nat.le_of_ble_eq_true rfl) dX6_init_53 (fun q_14 H hV => ?_)
  have hV : Vx D A s.heap H locs [(h, .inr (6, [.ref q_1, .ref q_3, .ref q_6, .ref q_10, .null, .null, .int 0])), (q_1, .inr (4, [.ref a1_2, .int 0, .int 0, .int 0])), (a1_2, .inl (cI, 100, .inl (fun _ => 0))), (q_3, .inr (5, [.ref a1_4, .int 0, .int 0, .ref a2_5, .int 0, .int 0, .int 0, .int 0])), (q_6, .inr (0, [.ref a1_7, .ref a2_8, .ref a3_9, .int 0])), (q_10, .inr (0, [.ref a1_11, .ref a2_12, .ref a3_13, .int 0])), (q_14, .inr (1, [.null, .null, .null, .null, .null, .null, .int 0, .null, .null, .null]))] := hV
  refine W.widen (k := 86) (n := 1488) (Nat.le_of_ble_eq_true rfl) (Nat.le_of_ble_eq_true rfl) ?_
  refine lv_dup hx hb dX6_init_56 rfl ?_
  refine x_callIN (n := 0) (host := RX6) (wr := [(h, .inr (6, [.ref q_1, .ref q_3, .ref q_6, .ref q_10, .null, .null, .int 0])), (q_1, .inr (4, [.ref a1_2, .int 0, .int 0, .int 0])), (a1_2, .inl (cI, 100, .inl (fun _ => 0))), (q_3, .inr (5, [.ref a1_4, .int 0, .int 0, .ref a2_5, .int 0, .int 0, .int 0, .int 0])), (q_6, .inr (0, [.ref a1_7, .ref a2_8, .ref a3_9, .int 0])), (q_10, .inr (0, [.ref a1_11, .ref a2_12, .ref a3_13, .int 0]))]) (As := []) (rest := [.ref q_14, .ref h]) hB hV (x_N hB) hl.1 (c_Judge_init l D cI cZ cS N0 q_14 ) k_270 k_64 hB.2.2.2.2.2.2.2.2.1.2.2.2.1 k_269 rfl (by decide +kernel) ⟨(Nat.le_of_ble_eq_true rfl), (Nat.le_of_ble_eq_true rfl)⟩ rfl (Nat.le_of_ble_eq_true rfl) ⟨(Nat.le_of_ble_eq_true rfl), (Nat.le_of_ble_eq_true rfl)⟩ [6] [0, 1, 2, 3, 4, 5] rfl rfl rfl ⟨by decide, by decide, by decide⟩ dX6_init_57 (fun v w H locs hp hV => ?_)
  obtain ⟨s1_15, s2_16, s3_17, s4_18, s5_19, s6_20, s7_21, s8_22, s9_23, b1_24, b2_25, b3_26, b4_27, b5_28, b6_29, rfl, rfl⟩ := hp
  have hV : Vx D A s.heap H locs [(h, .inr (6, [.ref q_1, .ref q_3, .ref q_6, .ref q_10, .null, .null, .int 0])), (q_1, .inr (4, [.ref a1_2, .int 0, .int 0, .int 0])), (a1_2, .inl (cI, 100, .inl (fun _ => 0))), (q_3, .inr (5, [.ref a1_4, .int 0, .int 0, .ref a2_5, .int 0, .int 0, .int 0, .int 0])), (q_6, .inr (0, [.ref a1_7, .ref a2_8, .ref a3_9, .int 0])), (q_10, .inr (0, [.ref a1_11, .ref a2_12, .ref a3_13, .int 0])), (q_14, .inr (1, [.ref s1_15, .ref s2_16, .ref s3_17, .ref b1_24, .ref b2_25, .ref b3_26, .int 0, .ref b4_27, .ref b5_28, .ref b6_29])), (s1_15, .inr (5, [.ref s4_18, .int 0, .int 0, .ref s5_19, .int 0, .int 0, .int 0, .int 0])), (s2_16, .inr (5, [.ref s6_20, .int 0, .int 0, .ref s7_21, .int 0, .int 0, .int 0, .int 0])), (s3_17, .inr (5, [.ref s8_22, .int 0, .int 0, .ref s9_23, .int 0, .int 0, .int 0, .int 0]))] := hV
  refine W.eq (g2 := F0 m 60 ls [.ref q_14, .ref h]) rfl ?_
  refine x_putF (v := .ref q_14) hB hV hin 0 rfl rfl 4 (by decide) k_312 rfl rfl rfl rfl (Nat.le_of_ble_eq_true rfl) dX6_init_60 (fun H locs hV => ?_)
  have hV : Vx D A s.heap H locs [(h, .inr (6, [.ref q_1, .ref q_3, .ref q_6, .ref q_10, .ref q_14, .null, .int 0])), (q_1, .inr (4, [.ref a1_2, .int 0, .int 0, .int 0])), (a1_2, .inl (cI, 100, .inl (fun _ => 0))), (q_3, .inr (5, [.ref a1_4, .int 0, .int 0, .ref a2_5, .int 0, .int 0, .int 0, .int 0])), (q_6, .inr (0, [.ref a1_7, .ref a2_8, .ref a3_9, .int 0])), (q_10, .inr (0, [.ref a1_11, .ref a2_12, .ref a3_13, .int 0])), (q_14, .inr (1, [.ref s1_15, .ref s2_16, .ref s3_17, .ref b1_24, .ref b2_25, .ref b3_26, .int 0, .ref b4_27, .ref b5_28, .ref b6_29])), (s1_15, .inr (5, [.ref s4_18, .int 0, .int 0, .ref s5_19, .int 0, .int 0, .int 0, .int 0])), (s2_16, .inr (5, [.ref s6_20, .int 0, .int 0, .ref s7_21, .int 0, .int 0, .int 0, .int 0])), (s3_17, .inr (5, [.ref s8_22, .int 0, .int 0, .ref s9_23, .int 0, .int 0, .int 0, .int 0]))] := hV
  refine lv_aload_n hx hb dX6_init_63 rfl (lv_at hl 0 rfl) ?_
  refine lv_iconst (v := 4) hx hb dX6_init_64 (by decide) ?_
  refine x_newi (N' := 4) hB hV k_101 (by decide) (by decide) (by decide) (Nat.le_of_ble_eq_true rfl) (Nat.le_of_ble_eq_true rfl) dX6_init_65 (fun q_30 H hV => ?_)
  have hV : Vx D A s.heap H locs [(h, .inr (6, [.ref q_1, .ref q_3, .ref q_6, .ref q_10, .ref q_14, .null, .int 0])), (q_1, .inr (4, [.ref a1_2, .int 0, .int 0, .int 0])), (a1_2, .inl (cI, 100, .inl (fun _ => 0))), (q_3, .inr (5, [.ref a1_4, .int 0, .int 0, .ref a2_5, .int 0, .int 0, .int 0, .int 0])), (q_6, .inr (0, [.ref a1_7, .ref a2_8, .ref a3_9, .int 0])), (q_10, .inr (0, [.ref a1_11, .ref a2_12, .ref a3_13, .int 0])), (q_14, .inr (1, [.ref s1_15, .ref s2_16, .ref s3_17, .ref b1_24, .ref b2_25, .ref b3_26, .int 0, .ref b4_27, .ref b5_28, .ref b6_29])), (s1_15, .inr (5, [.ref s4_18, .int 0, .int 0, .ref s5_19, .int 0, .int 0, .int 0, .int 0])), (s2_16, .inr (5, [.ref s6_20, .int 0, .int 0, .ref s7_21, .int 0, .int 0, .int 0, .int 0])), (s3_17, .inr (5, [.ref s8_22, .int 0, .int 0, .ref s9_23, .int 0, .int 0, .int 0, .int 0])), (q_30, .inl (cI, 4, .inl (fun _ => 0)))] := hV
  refine W.widen (k := 343) (n := 13533) (Nat.le_of_ble_eq_true rfl) (Nat.le_of_ble_eq_true rfl) ?_
  refine x_putF (v := .ref q_30) hB hV hin 0 rfl rfl 5 (by decide) k_313 rfl rfl rfl rfl (Nat.le_of_ble_eq_true rfl) dX6_init_67 (fun H locs hV => ?_)
  have hV : Vx D A s.heap H locs [(h, .inr (6, [.ref q_1, .ref q_3, .ref q_6, .ref q_10, .ref q_14, .ref q_30, .int 0])), (q_1, .inr (4, [.ref a1_2, .int 0, .int 0, .int 0])), (a1_2, .inl (cI, 100, .inl (fun _ => 0))), (q_3, .inr (5, [.ref a1_4, .int 0, .int 0, .ref a2_5, .int 0, .int 0, .int 0, .int 0])), (q_6, .inr (0, [.ref a1_7, .ref a2_8, .ref a3_9, .int 0])), (q_10, .inr (0, [.ref a1_11, .ref a2_12, .ref a3_13, .int 0])), (q_14, .inr (1, [.ref s1_15, .ref s2_16, .ref s3_17, .ref b1_24, .ref b2_25, .ref b3_26, .int 0, .ref b4_27, .ref b5_28, .ref b6_29])), (s1_15, .inr (5, [.ref s4_18, .int 0, .int 0, .ref s5_19, .int 0, .int 0, .int 0, .int 0])), (s2_16, .inr (5, [.ref s6_20, .int 0, .int 0, .ref s7_21, .int 0, .int 0, .int 0, .int 0])), (s3_17, .inr (5, [.ref s8_22, .int 0, .int 0, .ref s9_23, .int 0, .int 0, .int 0, .int 0])), (q_30, .inl (cI, 4, .inl (fun _ => 0)))] := hV
  refine lv_aload_n hx hb dX6_init_70 rfl (lv_at hl 0 rfl) ?_
  refine lv_iconst (v := 0) hx hb dX6_init_71 (by decide) ?_
  refine x_put (v := .int 0) hB hV 0 rfl rfl 6 (by decide) k_314 rfl rfl rfl (Nat.le_of_ble_eq_true rfl) dX6_init_72 (fun H locs hV => ?_)
  have hV : Vx D A s.heap H locs [(h, .inr (6, [.ref q_1, .ref q_3, .ref q_6, .ref q_10, .ref q_14, .ref q_30, .int 0])), (q_1, .inr (4, [.ref a1_2, .int 0, .int 0, .int 0])), (a1_2, .inl (cI, 100, .inl (fun _ => 0))), (q_3, .inr (5, [.ref a1_4, .int 0, .int 0, .ref a2_5, .int 0, .int 0, .int 0, .int 0])), (q_6, .inr (0, [.ref a1_7, .ref a2_8, .ref a3_9, .int 0])), (q_10, .inr (0, [.ref a1_11, .ref a2_12, .ref a3_13, .int 0])), (q_14, .inr (1, [.ref s1_15, .ref s2_16, .ref s3_17, .ref b1_24, .ref b2_25, .ref b3_26, .int 0, .ref b4_27, .ref b5_28, .ref b6_29])), (s1_15, .inr (5, [.ref s4_18, .int 0, .int 0, .ref s5_19, .int 0, .int 0, .int 0, .int 0])), (s2_16, .inr (5, [.ref s6_20, .int 0, .int 0, .ref s7_21, .int 0, .int 0, .int 0, .int 0])), (s3_17, .inr (5, [.ref s8_22, .int 0, .int 0, .ref s9_23, .int 0, .int 0, .int 0, .int 0])), (q_30, .inl (cI, 4, .inl (fun _ => 0)))] := hV
  refine lv_iconst (v := 0) hx hb dX6_init_75 (by decide) ?_
  refine lv_istore_n (lv' := [(1, .int 0), (0, .ref h)]) hx hb dX6_init_76 rfl hl (by decide) rfl (fun ls hl => ?_)
  refine lv_iload_n hx hb dX6_init_77 rfl (lv_at hl 0 rfl) ?_
  refine lv_iconst (v := 4) hx hb dX6_init_78 (by decide) ?_
  refine lv_icmp_ge (tgt := 95) hx hb dX6_init_79 (by decide) (fun c_ => absurd c_ (by decide)) (fun c_ => ?_)
  refine lv_aload_n hx hb dX6_init_82 rfl (lv_at hl 1 rfl) ?_
  refine x_get (v := .ref q_30) hB hV 0 rfl rfl 5 (by decide) k_313 rfl dX6_init_83 ?_
  refine lv_iload_n hx hb dX6_init_86 rfl (lv_at hl 0 rfl) ?_
  refine lv_iconst (v := 1) hx hb dX6_init_87 (by decide) ?_
  refine x_iast (g := (upd (fun _ => 0) 0 1)) hB hV 10 rfl (by unfold vp_in; decide) rfl dX6_init_88 (fun H locs hV => ?_)
  have hV : Vx D A s.heap H locs [(h, .inr (6, [.ref q_1, .ref q_3, .ref q_6, .ref q_10, .ref q_14, .ref q_30, .int 0])), (q_1, .inr (4, [.ref a1_2, .int 0, .int 0, .int 0])), (a1_2, .inl (cI, 100, .inl (fun _ => 0))), (q_3, .inr (5, [.ref a1_4, .int 0, .int 0, .ref a2_5, .int 0, .int 0, .int 0, .int 0])), (q_6, .inr (0, [.ref a1_7, .ref a2_8, .ref a3_9, .int 0])), (q_10, .inr (0, [.ref a1_11, .ref a2_12, .ref a3_13, .int 0])), (q_14, .inr (1, [.ref s1_15, .ref s2_16, .ref s3_17, .ref b1_24, .ref b2_25, .ref b3_26, .int 0, .ref b4_27, .ref b5_28, .ref b6_29])), (s1_15, .inr (5, [.ref s4_18, .int 0, .int 0, .ref s5_19, .int 0, .int 0, .int 0, .int 0])), (s2_16, .inr (5, [.ref s6_20, .int 0, .int 0, .ref s7_21, .int 0, .int 0, .int 0, .int 0])), (s3_17, .inr (5, [.ref s8_22, .int 0, .int 0, .ref s9_23, .int 0, .int 0, .int 0, .int 0])), (q_30, .inl (cI, 4, .inl (upd (fun _ => 0) 0 1)))] := hV
  refine lv_iinc (v := 1) (lv' := [(1, .int 1), (0, .ref h)]) hx hb dX6_init_89 hl (k := 0) rfl (by decide) (by decide) rfl (fun ls hl => ?_)
  refine lv_goto (tgt := 77) hx hb dX6_init_92 (by decide) ?_
  refine lv_iload_n hx hb dX6_init_77 rfl (lv_at hl 0 rfl) ?_
  refine lv_iconst (v := 4) hx hb dX6_init_78 (by decide) ?_
  refine lv_icmp_ge (tgt := 95) hx hb dX6_init_79 (by decide) (fun c_ => absurd c_ (by decide)) (fun c_ => ?_)
  refine lv_aload_n hx hb dX6_init_82 rfl (lv_at hl 1 rfl) ?_
  refine x_get (v := .ref q_30) hB hV 0 rfl rfl 5 (by decide) k_313 rfl dX6_init_83 ?_
  refine lv_iload_n hx hb dX6_init_86 rfl (lv_at hl 0 rfl) ?_
  refine lv_iconst (v := 1) hx hb dX6_init_87 (by decide) ?_
  refine x_iast (g := (upd (upd (fun _ => 0) 0 1) 1 1)) hB hV 10 rfl (by unfold vp_in; decide) rfl dX6_init_88 (fun H locs hV => ?_)
  have hV : Vx D A s.heap H locs [(h, .inr (6, [.ref q_1, .ref q_3, .ref q_6, .ref q_10, .ref q_14, .ref q_30, .int 0])), (q_1, .inr (4, [.ref a1_2, .int 0, .int 0, .int 0])), (a1_2, .inl (cI, 100, .inl (fun _ => 0))), (q_3, .inr (5, [.ref a1_4, .int 0, .int 0, .ref a2_5, .int 0, .int 0, .int 0, .int 0])), (q_6, .inr (0, [.ref a1_7, .ref a2_8, .ref a3_9, .int 0])), (q_10, .inr (0, [.ref a1_11, .ref a2_12, .ref a3_13, .int 0])), (q_14, .inr (1, [.ref s1_15, .ref s2_16, .ref s3_17, .ref b1_24, .ref b2_25, .ref b3_26, .int 0, .ref b4_27, .ref b5_28, .ref b6_29])), (s1_15, .inr (5, [.ref s4_18, .int 0, .int 0, .ref s5_19, .int 0, .int 0, .int 0, .int 0])), (s2_16, .inr (5, [.ref s6_20, .int 0, .int 0, .ref s7_21, .int 0, .int 0, .int 0, .int 0])), (s3_17, .inr (5, [.ref s8_22, .int 0, .int 0, .ref s9_23, .int 0, .int 0, .int 0, .int 0])), (q_30, .inl (cI, 4, .inl (upd (upd (fun _ => 0) 0 1) 1 1)))] := hV
  refine lv_iinc (v := 2) (lv' := [(1, .int 2), (0, .ref h)]) hx hb dX6_init_89 hl (k := 0) rfl (by decide) (by decide) rfl (fun ls hl => ?_)
  refine lv_goto (tgt := 77) hx hb dX6_init_92 (by decide) ?_
  refine lv_iload_n hx hb dX6_init_77 rfl (lv_at hl 0 rfl) ?_
  refine lv_iconst (v := 4) hx hb dX6_init_78 (by decide) ?_
  refine lv_icmp_ge (tgt := 95) hx hb dX6_init_79 (by decide) (fun c_ => absurd c_ (by decide)) (fun c_ => ?_)
  refine lv_aload_n hx hb dX6_init_82 rfl (lv_at hl 1 rfl) ?_
  refine x_get (v := .ref q_30) hB hV 0 rfl rfl 5 (by decide) k_313 rfl dX6_init_83 ?_
  refine lv_iload_n hx hb dX6_init_86 rfl (lv_at hl 0 rfl) ?_
  refine lv_iconst (v := 1) hx hb dX6_init_87 (by decide) ?_
  refine x_iast (g := (upd (upd (upd (fun _ => 0) 0 1) 1 1) 2 1)) hB hV 10 rfl (by unfold vp_in; decide) rfl dX6_init_88 (fun H locs hV => ?_)
  have hV : Vx D A s.heap H locs [(h, .inr (6, [.ref q_1, .ref q_3, .ref q_6, .ref q_10, .ref q_14, .ref q_30, .int 0])), (q_1, .inr (4, [.ref a1_2, .int 0, .int 0, .int 0])), (a1_2, .inl (cI, 100, .inl (fun _ => 0))), (q_3, .inr (5, [.ref a1_4, .int 0, .int 0, .ref a2_5, .int 0, .int 0, .int 0, .int 0])), (q_6, .inr (0, [.ref a1_7, .ref a2_8, .ref a3_9, .int 0])), (q_10, .inr (0, [.ref a1_11, .ref a2_12, .ref a3_13, .int 0])), (q_14, .inr (1, [.ref s1_15, .ref s2_16, .ref s3_17, .ref b1_24, .ref b2_25, .ref b3_26, .int 0, .ref b4_27, .ref b5_28, .ref b6_29])), (s1_15, .inr (5, [.ref s4_18, .int 0, .int 0, .ref s5_19, .int 0, .int 0, .int 0, .int 0])), (s2_16, .inr (5, [.ref s6_20, .int 0, .int 0, .ref s7_21, .int 0, .int 0, .int 0, .int 0])), (s3_17, .inr (5, [.ref s8_22, .int 0, .int 0, .ref s9_23, .int 0, .int 0, .int 0, .int 0])), (q_30, .inl (cI, 4, .inl (upd (upd (upd (fun _ => 0) 0 1) 1 1) 2 1)))] := hV
  refine lv_iinc (v := 3) (lv' := [(1, .int 3), (0, .ref h)]) hx hb dX6_init_89 hl (k := 0) rfl (by decide) (by decide) rfl (fun ls hl => ?_)
  refine lv_goto (tgt := 77) hx hb dX6_init_92 (by decide) ?_
  refine lv_iload_n hx hb dX6_init_77 rfl (lv_at hl 0 rfl) ?_
  refine lv_iconst (v := 4) hx hb dX6_init_78 (by decide) ?_
  refine lv_icmp_ge (tgt := 95) hx hb dX6_init_79 (by decide) (fun c_ => absurd c_ (by decide)) (fun c_ => ?_)
  refine lv_aload_n hx hb dX6_init_82 rfl (lv_at hl 1 rfl) ?_
  refine x_get (v := .ref q_30) hB hV 0 rfl rfl 5 (by decide) k_313 rfl dX6_init_83 ?_
  refine lv_iload_n hx hb dX6_init_86 rfl (lv_at hl 0 rfl) ?_
  refine lv_iconst (v := 1) hx hb dX6_init_87 (by decide) ?_
  refine x_iast (g := (upd (upd (upd (upd (fun _ => 0) 0 1) 1 1) 2 1) 3 1)) hB hV 10 rfl (by unfold vp_in; decide) rfl dX6_init_88 (fun H locs hV => ?_)
  have hV : Vx D A s.heap H locs [(h, .inr (6, [.ref q_1, .ref q_3, .ref q_6, .ref q_10, .ref q_14, .ref q_30, .int 0])), (q_1, .inr (4, [.ref a1_2, .int 0, .int 0, .int 0])), (a1_2, .inl (cI, 100, .inl (fun _ => 0))), (q_3, .inr (5, [.ref a1_4, .int 0, .int 0, .ref a2_5, .int 0, .int 0, .int 0, .int 0])), (q_6, .inr (0, [.ref a1_7, .ref a2_8, .ref a3_9, .int 0])), (q_10, .inr (0, [.ref a1_11, .ref a2_12, .ref a3_13, .int 0])), (q_14, .inr (1, [.ref s1_15, .ref s2_16, .ref s3_17, .ref b1_24, .ref b2_25, .ref b3_26, .int 0, .ref b4_27, .ref b5_28, .ref b6_29])), (s1_15, .inr (5, [.ref s4_18, .int 0, .int 0, .ref s5_19, .int 0, .int 0, .int 0, .int 0])), (s2_16, .inr (5, [.ref s6_20, .int 0, .int 0, .ref s7_21, .int 0, .int 0, .int 0, .int 0])), (s3_17, .inr (5, [.ref s8_22, .int 0, .int 0, .ref s9_23, .int 0, .int 0, .int 0, .int 0])), (q_30, .inl (cI, 4, .inl (upd (upd (upd (upd (fun _ => 0) 0 1) 1 1) 2 1) 3 1)))] := hV
  refine lv_iinc (v := 4) (lv' := [(1, .int 4), (0, .ref h)]) hx hb dX6_init_89 hl (k := 0) rfl (by decide) (by decide) rfl (fun ls hl => ?_)
  refine lv_goto (tgt := 77) hx hb dX6_init_92 (by decide) ?_
  refine lv_iload_n hx hb dX6_init_77 rfl (lv_at hl 0 rfl) ?_
  refine lv_iconst (v := 4) hx hb dX6_init_78 (by decide) ?_
  refine lv_icmp_ge (tgt := 95) hx hb dX6_init_79 (by decide) (fun c_ => ?_) (fun c_ => absurd (by decide) c_)
  exact x_vret (w := [(h, .inr (6, [.ref q_1, .ref q_3, .ref q_6, .ref q_10, .ref q_14, .ref q_30, .int 0])), (q_1, .inr (4, [.ref a1_2, .int 0, .int 0, .int 0])), (a1_2, .inl (cI, 100, .inl (fun _ => 0))), (q_3, .inr (5, [.ref a1_4, .int 0, .int 0, .ref a2_5, .int 0, .int 0, .int 0, .int 0])), (q_6, .inr (0, [.ref a1_7, .ref a2_8, .ref a3_9, .int 0])), (q_10, .inr (0, [.ref a1_11, .ref a2_12, .ref a3_13, .int 0])), (q_14, .inr (1, [.ref s1_15, .ref s2_16, .ref s3_17, .ref b1_24, .ref b2_25, .ref b3_26, .int 0, .ref b4_27, .ref b5_28, .ref b6_29])), (s1_15, .inr (5, [.ref s4_18, .int 0, .int 0, .ref s5_19, .int 0, .int 0, .int 0, .int 0])), (s2_16, .inr (5, [.ref s6_20, .int 0, .int 0, .ref s7_21, .int 0, .int 0, .int 0, .int 0])), (s3_17, .inr (5, [.ref s8_22, .int 0, .int 0, .ref s9_23, .int 0, .int 0, .int 0, .int 0])), (q_30, .inl (cI, 4, .inl (upd (upd (upd (upd (fun _ => 0) 0 1) 1 1) 2 1) 3 1)))]) hB hr hV hA (Nat.le_of_ble_eq_true rfl) (Nat.le_of_ble_eq_true rfl) [0, 1, 2, 3, 4, 5, 6, 7, 8, 9, 10] rfl rfl (by decide) dX6_init_95 ⟨q_1, q_3, q_6, q_10, q_14, q_30, a1_2, a1_4, a2_5, a1_7, a2_8, a3_9, a1_11, a2_12, a3_13, s1_15, s2_16, s3_17, s4_18, s5_19, s6_20, s7_21, s8_22, s9_23, b1_24, b2_25, b3_26, b4_27, b5_28, b6_29, rfl, rfl⟩
