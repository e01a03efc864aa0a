theorem k_88 : Cond.fieldLink RX6 50 "TwiceOnce$Tape" "size" "I" ∈ tb := mt 88 (by decide +kernel) rfl
theorem k_90 : Cond.fieldLink RX6 63 "TwiceOnce$Tape" "fault" "I" ∈ tb := mt 90 (by decide +kernel) rfl
theorem k_123 : Cond.fieldLink RX6 109 "TwiceOnce$Program" "words" "[I" ∈ tb := mt 123 (by decide +kernel) rfl
theorem k_127 : Cond.fieldLink RX6 112 "TwiceOnce$Program" "targets" "[I" ∈ tb := mt 127 (by decide +kernel) rfl
theorem k_130 : Cond.fieldLink RX6 115 "TwiceOnce$Program" "values" "[I" ∈ tb := mt 130 (by decide +kernel) rfl
theorem k_132 : Cond.fieldLink RX6 80 "TwiceOnce$Program" "size" "I" ∈ tb := mt 132 (by decide +kernel) rfl
theorem k_144 : Cond.fieldLink RX6 70 "TwiceOnce$Service" "program" "LTwiceOnce$Program;" ∈ tb := mt 144 (by decide +kernel) rfl
theorem k_147 : Cond.fieldLink RX6 93 "TwiceOnce$Service" "cells" "[I" ∈ tb := mt 147 (by decide +kernel) rfl
theorem k_150 : Cond.fieldLink RX6 96 "TwiceOnce$Service" "counter" "I" ∈ tb := mt 150 (by decide +kernel) rfl
theorem k_153 : Cond.fieldLink RX6 87 "TwiceOnce$Service" "mends" "I" ∈ tb := mt 153 (by decide +kernel) rfl
theorem k_157 : Cond.fieldLink RX6 90 "TwiceOnce$Service" "holdTicks" "I" ∈ tb := mt 157 (by decide +kernel) rfl
theorem k_200 : Cond.fieldLink RX6 66 "TwiceOnce$World" "services" "[LTwiceOnce$Service;" ∈ tb := mt 200 (by decide +kernel) rfl
theorem k_203 : Cond.fieldLink RX6 58 "TwiceOnce$World" "size" "I" ∈ tb := mt 203 (by decide +kernel) rfl
theorem k_206 : Cond.fieldLink RX6 99 "TwiceOnce$World" "ticks" "I" ∈ tb := mt 206 (by decide +kernel) rfl
theorem k_208 : Cond.fieldLink RX6 135 "TwiceOnce$World" "done" "[I" ∈ tb := mt 208 (by decide +kernel) rfl
theorem k_211 : Cond.fieldLink RX6 126 "TwiceOnce$World" "doneInAll" "I" ∈ tb := mt 211 (by decide +kernel) rfl
theorem k_256 : Cond.fieldLink RX6 138 "TwiceOnce$CallList" "size" "I" ∈ tb := mt 256 (by decide +kernel) rfl
theorem k_334 : Cond.methodLink RX6 54 yX4_append ∈ tb := mt 334 (by decide +kernel) rfl
theorem k_335 : Cond.instanceMethod yX4_append ∈ tb := mt 335 (by decide +kernel) rfl
theorem k_336 : Cond.selects RX4 yX4_append yX4_append ∈ tb := mt 336 (by decide +kernel) rfl
set_option maxRecDepth 20000 in
theorem k_337 : Cond.code yX4_append cX4_append 5 none ∈ tb := mt 337 rfl rfl
theorem k_343 : Cond.methodLink RX6 59 yX4_takeProgram ∈ tb := mt 343 (by decide +kernel) rfl
theorem k_344 : Cond.instanceMethod yX4_takeProgram ∈ tb := mt 344 (by decide +kernel) rfl
theorem k_345 : Cond.selects RX4 yX4_takeProgram yX4_takeProgram ∈ tb := mt 345 (by decide +kernel) rfl
set_option maxRecDepth 20000 in
theorem k_346 : Cond.code yX4_takeProgram cX4_takeProgram 3 (some (.object "TwiceOnce$Program")) ∈ tb := mt 346 rfl rfl
theorem k_433 : Cond.methodLink RX6 76 yX5_has ∈ tb := mt 433 (by decide +kernel) rfl
theorem k_434 : Cond.instanceMethod yX5_has ∈ tb := mt 434 (by decide +kernel) rfl
theorem k_435 : Cond.selects RX5 yX5_has yX5_has ∈ tb := mt 435 (by decide +kernel) rfl
set_option maxRecDepth 20000 in
theorem k_436 : Cond.code yX5_has cX5_has 2 (some .boolean) ∈ tb := mt 436 rfl rfl
theorem k_441 : Cond.methodLink RX6 83 yX6_within ∈ tb := mt 441 (by decide +kernel) rfl
theorem k_454 : Cond.methodLink RX6 102 yX3_keysNotOver ∈ tb := mt 454 (by decide +kernel) rfl
theorem k_455 : Cond.instanceMethod yX3_keysNotOver ∈ tb := mt 455 (by decide +kernel) rfl
theorem k_456 : Cond.selects RX3 yX3_keysNotOver yX3_keysNotOver ∈ tb := mt 456 (by decide +kernel) rfl
set_option maxRecDepth 20000 in
theorem k_457 : Cond.code yX3_keysNotOver cX3_keysNotOver 4 (some .int) ∈ tb := mt 457 rfl rfl
theorem k_462 : Cond.methodLink RX6 106 yX5_isReader ∈ tb := mt 462 (by decide +kernel) rfl
theorem k_463 : Cond.instanceMethod yX5_isReader ∈ tb := mt 463 (by decide +kernel) rfl
theorem k_464 : Cond.selects RX5 yX5_isReader yX5_isReader ∈ tb := mt 464 (by decide +kernel) rfl
set_option maxRecDepth 20000 in
theorem k_465 : Cond.code yX5_isReader cX5_isReader 4 (some .boolean) ∈ tb := mt 465 rfl rfl
theorem k_486 : Cond.methodLink RX6 118 yX0_appendLatest ∈ tb := mt 486 (by decide +kernel) rfl
theorem k_487 : Cond.instanceMethod yX0_appendLatest ∈ tb := mt 487 (by decide +kernel) rfl
theorem k_488 : Cond.selects RX0 yX0_appendLatest yX0_appendLatest ∈ tb := mt 488 (by decide +kernel) rfl
set_option maxRecDepth 20000 in
theorem k_489 : Cond.code yX0_appendLatest cX0_appendLatest 4 none ∈ tb := mt 489 rfl rfl
theorem k_497 : Cond.methodLink RX6 122 yX5_fromOutside ∈ tb := mt 497 (by decide +kernel) rfl
theorem k_559 : Cond.methodLink RX6 129 Lib.Math.min.name ∈ tb := mt 559 (by decide +kernel) rfl
theorem k_688 : Cond.constant RJ6 265 1431655765 ∈ tb := mt 688 (by decide +kernel) rfl
theorem k_689 : Cond.constant RJ6 266 858993459 ∈ tb := mt 689 (by decide +kernel) rfl
theorem k_690 : Cond.constant RJ6 267 252645135 ∈ tb := mt 690 (by decide +kernel) rfl
theorem k_698 : Cond.constant RJ6 264 65536 ∈ tb := mt 698 (by decide +kernel) rfl
theorem dJ6_bitCount_0f7a4_0 : decode cJ6_bitCount_0f7a4 0 = .ok (.iload_n 0, 1) := by decide +kernel
theorem dJ6_bitCount_0f7a4_1 : decode cJ6_bitCount_0f7a4 1 = .ok (.iload_n 0, 1) := by decide +kernel
theorem dJ6_bitCount_0f7a4_2 : decode cJ6_bitCount_0f7a4 2 = .ok (.iconst 1, 1) := by decide +kernel
theorem dJ6_bitCount_0f7a4_3 : decode cJ6_bitCount_0f7a4 3 = .ok (.iushr, 1) := by decide +kernel
theorem dJ6_bitCount_0f7a4_4 : decode cJ6_bitCount_0f7a4 4 = .ok (.ldc_w 265, 3) := by decide +kernel
theorem dJ6_bitCount_0f7a4_7 : decode cJ6_bitCount_0f7a4 7 = .ok (.iand, 1) := by decide +kernel
theorem dJ6_bitCount_0f7a4_8 : decode cJ6_bitCount_0f7a4 8 = .ok (.isub, 1) := by decide +kernel
theorem dJ6_bitCount_0f7a4_9 : decode cJ6_bitCount_0f7a4 9 = .ok (.istore_n 0, 1) := by decide +kernel
theorem dJ6_bitCount_0f7a4_10 : decode cJ6_bitCount_0f7a4 10 = .ok (.iload_n 0, 1) := by decide +kernel
theorem dJ6_bitCount_0f7a4_11 : decode cJ6_bitCount_0f7a4 11 = .ok (.ldc_w 266, 3) := by decide +kernel
theorem dJ6_bitCount_0f7a4_14 : decode cJ6_bitCount_0f7a4 14 = .ok (.iand, 1) := by decide +kernel
theorem dJ6_bitCount_0f7a4_15 : decode cJ6_bitCount_0f7a4 15 = .ok (.iload_n 0, 1) := by decide +kernel
theorem dJ6_bitCount_0f7a4_16 : decode cJ6_bitCount_0f7a4 16 = .ok (.iconst 2, 1) := by decide +kernel
theorem dJ6_bitCount_0f7a4_17 : decode cJ6_bitCount_0f7a4 17 = .ok (.iushr, 1) := by decide +kernel
theorem dJ6_bitCount_0f7a4_18 : decode cJ6_bitCount_0f7a4 18 = .ok (.ldc_w 266, 3) := by decide +kernel
theorem dJ6_bitCount_0f7a4_21 : decode cJ6_bitCount_0f7a4 21 = .ok (.iand, 1) := by decide +kernel
theorem dJ6_bitCount_0f7a4_22 : decode cJ6_bitCount_0f7a4 22 = .ok (.iadd, 1) := by decide +kernel
theorem dJ6_bitCount_0f7a4_23 : decode cJ6_bitCount_0f7a4 23 = .ok (.istore_n 0, 1) := by decide +kernel
theorem dJ6_bitCount_0f7a4_24 : decode cJ6_bitCount_0f7a4 24 = .ok (.iload_n 0, 1) := by decide +kernel
theorem dJ6_bitCount_0f7a4_25 : decode cJ6_bitCount_0f7a4 25 = .ok (.iload_n 0, 1) := by decide +kernel
theorem dJ6_bitCount_0f7a4_26 : decode cJ6_bitCount_0f7a4 26 = .ok (.iconst 4, 1) := by decide +kernel
theorem dJ6_bitCount_0f7a4_27 : decode cJ6_bitCount_0f7a4 27 = .ok (.iushr, 1) := by decide +kernel
theorem dJ6_bitCount_0f7a4_28 : decode cJ6_bitCount_0f7a4 28 = .ok (.iadd, 1) := by decide +kernel
theorem dJ6_bitCount_0f7a4_29 : decode cJ6_bitCount_0f7a4 29 = .ok (.ldc_w 267, 3) := by decide +kernel
theorem dJ6_bitCount_0f7a4_32 : decode cJ6_bitCount_0f7a4 32 = .ok (.iand, 1) := by decide +kernel
theorem dJ6_bitCount_0f7a4_33 : decode cJ6_bitCount_0f7a4 33 = .ok (.istore_n 0, 1) := by decide +kernel
theorem dJ6_bitCount_0f7a4_34 : decode cJ6_bitCount_0f7a4 34 = .ok (.iload_n 0, 1) := by decide +kernel
theorem dJ6_bitCount_0f7a4_35 : decode cJ6_bitCount_0f7a4 35 = .ok (.iload_n 0, 1) := by decide +kernel
theorem dJ6_bitCount_0f7a4_36 : decode cJ6_bitCount_0f7a4 36 = .ok (.bipush 8, 2) := by decide +kernel
theorem dJ6_bitCount_0f7a4_38 : decode cJ6_bitCount_0f7a4 38 = .ok (.iushr, 1) := by decide +kernel
theorem dJ6_bitCount_0f7a4_39 : decode cJ6_bitCount_0f7a4 39 = .ok (.iadd, 1) := by decide +kernel
theorem dJ6_bitCount_0f7a4_40 : decode cJ6_bitCount_0f7a4 40 = .ok (.istore_n 0, 1) := by decide +kernel
theorem dJ6_bitCount_0f7a4_41 : decode cJ6_bitCount_0f7a4 41 = .ok (.iload_n 0, 1) := by decide +kernel
theorem dJ6_bitCount_0f7a4_42 : decode cJ6_bitCount_0f7a4 42 = .ok (.iload_n 0, 1) := by decide +kernel
theorem dJ6_bitCount_0f7a4_43 : decode cJ6_bitCount_0f7a4 43 = .ok (.bipush 16, 2) := by decide +kernel
theorem dJ6_bitCount_0f7a4_45 : decode cJ6_bitCount_0f7a4 45 = .ok (.iushr, 1) := by decide +kernel
theorem dJ6_bitCount_0f7a4_46 : decode cJ6_bitCount_0f7a4 46 = .ok (.iadd, 1) := by decide +kernel
theorem dJ6_bitCount_0f7a4_47 : decode cJ6_bitCount_0f7a4 47 = .ok (.istore_n 0, 1) := by decide +kernel
theorem dJ6_bitCount_0f7a4_48 : decode cJ6_bitCount_0f7a4 48 = .ok (.iload_n 0, 1) := by decide +kernel
theorem dJ6_bitCount_0f7a4_49 : decode cJ6_bitCount_0f7a4 49 = .ok (.bipush 63, 2) := by decide +kernel
theorem dJ6_bitCount_0f7a4_51 : decode cJ6_bitCount_0f7a4 51 = .ok (.iand, 1) := by decide +kernel
theorem dJ6_bitCount_0f7a4_52 : decode cJ6_bitCount_0f7a4 52 = .ok (.ireturn, 1) := by decide +kernel
theorem dJ6_numberOfTrailingZeros_0f7a4_0 : decode cJ6_numberOfTrailingZeros_0f7a4 0 = .ok (.iload_n 0, 1) := by decide +kernel
theorem dJ6_numberOfTrailingZeros_0f7a4_1 : decode cJ6_numberOfTrailingZeros_0f7a4 1 = .ok (.iconst (-1), 1) := by decide +kernel
theorem dJ6_numberOfTrailingZeros_0f7a4_2 : decode cJ6_numberOfTrailingZeros_0f7a4 2 = .ok (.ixor, 1) := by decide +kernel
theorem dJ6_numberOfTrailingZeros_0f7a4_3 : decode cJ6_numberOfTrailingZeros_0f7a4 3 = .ok (.iload_n 0, 1) := by decide +kernel
theorem dJ6_numberOfTrailingZeros_0f7a4_4 : decode cJ6_numberOfTrailingZeros_0f7a4 4 = .ok (.iconst 1, 1) := by decide +kernel
theorem dJ6_numberOfTrailingZeros_0f7a4_5 : decode cJ6_numberOfTrailingZeros_0f7a4 5 = .ok (.isub, 1) := by decide +kernel
theorem dJ6_numberOfTrailingZeros_0f7a4_6 : decode cJ6_numberOfTrailingZeros_0f7a4 6 = .ok (.iand, 1) := by decide +kernel
theorem dJ6_numberOfTrailingZeros_0f7a4_7 : decode cJ6_numberOfTrailingZeros_0f7a4 7 = .ok (.istore_n 0, 1) := by decide +kernel
theorem dJ6_numberOfTrailingZeros_0f7a4_8 : decode cJ6_numberOfTrailingZeros_0f7a4 8 = .ok (.iload_n 0, 1) := by decide +kernel
theorem dJ6_numberOfTrailingZeros_0f7a4_9 : decode cJ6_numberOfTrailingZeros_0f7a4 9 = .ok (.ifCond .gt 8, 3) := by decide +kernel
theorem dJ6_numberOfTrailingZeros_0f7a4_17 : decode cJ6_numberOfTrailingZeros_0f7a4 17 = .ok (.iconst 1, 1) := by decide +kernel
theorem dJ6_numberOfTrailingZeros_0f7a4_18 : decode cJ6_numberOfTrailingZeros_0f7a4 18 = .ok (.istore_n 1, 1) := by decide +kernel
theorem dJ6_numberOfTrailingZeros_0f7a4_19 : decode cJ6_numberOfTrailingZeros_0f7a4 19 = .ok (.iload_n 0, 1) := by decide +kernel
theorem dJ6_numberOfTrailingZeros_0f7a4_20 : decode cJ6_numberOfTrailingZeros_0f7a4 20 = .ok (.ldc_w 264, 3) := by decide +kernel
theorem dJ6_numberOfTrailingZeros_0f7a4_23 : decode cJ6_numberOfTrailingZeros_0f7a4 23 = .ok (.if_icmp .le 11, 3) := by decide +kernel
theorem dJ6_numberOfTrailingZeros_0f7a4_34 : decode cJ6_numberOfTrailingZeros_0f7a4 34 = .ok (.iload_n 0, 1) := by decide +kernel
theorem dJ6_numberOfTrailingZeros_0f7a4_35 : decode cJ6_numberOfTrailingZeros_0f7a4 35 = .ok (.sipush 256, 3) := by decide +kernel
theorem dJ6_numberOfTrailingZeros_0f7a4_38 : decode cJ6_numberOfTrailingZeros_0f7a4 38 = .ok (.if_icmp .le 11, 3) := by decide +kernel
theorem dJ6_numberOfTrailingZeros_0f7a4_49 : decode cJ6_numberOfTrailingZeros_0f7a4 49 = .ok (.iload_n 0, 1) := by decide +kernel
theorem dJ6_numberOfTrailingZeros_0f7a4_50 : decode cJ6_numberOfTrailingZeros_0f7a4 50 = .ok (.bipush 16, 2) := by decide +kernel
theorem dJ6_numberOfTrailingZeros_0f7a4_52 : decode cJ6_numberOfTrailingZeros_0f7a4 52 = .ok (.if_icmp .le 10, 3) := by decide +kernel
theorem dJ6_numberOfTrailingZeros_0f7a4_62 : decode cJ6_numberOfTrailingZeros_0f7a4 62 = .ok (.iload_n 0, 1) := by decide +kernel
theorem dJ6_numberOfTrailingZeros_0f7a4_63 : decode cJ6_numberOfTrailingZeros_0f7a4 63 = .ok (.iconst 4, 1) := by decide +kernel
theorem dJ6_numberOfTrailingZeros_0f7a4_64 : decode cJ6_numberOfTrailingZeros_0f7a4 64 = .ok (.if_icmp .le 10, 3) := by decide +kernel
theorem dJ6_numberOfTrailingZeros_0f7a4_74 : decode cJ6_numberOfTrailingZeros_0f7a4 74 = .ok (.iload_n 1, 1) := by decide +kernel
theorem dJ6_numberOfTrailingZeros_0f7a4_75 : decode cJ6_numberOfTrailingZeros_0f7a4 75 = .ok (.iload_n 0, 1) := by decide +kernel
theorem dJ6_numberOfTrailingZeros_0f7a4_76 : decode cJ6_numberOfTrailingZeros_0f7a4 76 = .ok (.iconst 1, 1) := by decide +kernel
theorem dJ6_numberOfTrailingZeros_0f7a4_77 : decode cJ6_numberOfTrailingZeros_0f7a4 77 = .ok (.iushr, 1) := by decide +kernel
theorem dJ6_numberOfTrailingZeros_0f7a4_78 : decode cJ6_numberOfTrailingZeros_0f7a4 78 = .ok (.iadd, 1) := by decide +kernel
theorem dJ6_numberOfTrailingZeros_0f7a4_79 : decode cJ6_numberOfTrailingZeros_0f7a4 79 = .ok (.ireturn, 1) := by decide +kernel
theorem dJ6_numberOfTrailingZeros_0f7a4_67 : decode cJ6_numberOfTrailingZeros_0f7a4 67 = .ok (.iinc 1 2, 3) := by decide +kernel
theorem dJ6_numberOfTrailingZeros_0f7a4_70 : decode cJ6_numberOfTrailingZeros_0f7a4 70 = .ok (.iload_n 0, 1) := by decide +kernel
theorem dJ6_numberOfTrailingZeros_0f7a4_71 : decode cJ6_numberOfTrailingZeros_0f7a4 71 = .ok (.iconst 2, 1) := by decide +kernel
theorem dJ6_numberOfTrailingZeros_0f7a4_72 : decode cJ6_numberOfTrailingZeros_0f7a4 72 = .ok (.iushr, 1) := by decide +kernel
theorem dJ6_numberOfTrailingZeros_0f7a4_73 : decode cJ6_numberOfTrailingZeros_0f7a4 73 = .ok (.istore_n 0, 1) := by decide +kernel
theorem dJ6_numberOfTrailingZeros_0f7a4_55 : decode cJ6_numberOfTrailingZeros_0f7a4 55 = .ok (.iinc 1 4, 3) := by decide +kernel
theorem dJ6_numberOfTrailingZeros_0f7a4_58 : decode cJ6_numberOfTrailingZeros_0f7a4 58 = .ok (.iload_n 0, 1) := by decide +kernel
theorem dJ6_numberOfTrailingZeros_0f7a4_59 : decode cJ6_numberOfTrailingZeros_0f7a4 59 = .ok (.iconst 4, 1) := by decide +kernel
theorem dJ6_numberOfTrailingZeros_0f7a4_60 : decode cJ6_numberOfTrailingZeros_0f7a4 60 = .ok (.iushr, 1) := by decide +kernel
theorem dJ6_numberOfTrailingZeros_0f7a4_61 : decode cJ6_numberOfTrailingZeros_0f7a4 61 = .ok (.istore_n 0, 1) := by decide +kernel
theorem dJ6_numberOfTrailingZeros_0f7a4_41 : decode cJ6_numberOfTrailingZeros_0f7a4 41 = .ok (.iinc 1 8, 3) := by decide +kernel
theorem dJ6_numberOfTrailingZeros_0f7a4_44 : decode cJ6_numberOfTrailingZeros_0f7a4 44 = .ok (.iload_n 0, 1) := by decide +kernel
theorem dJ6_numberOfTrailingZeros_0f7a4_45 : decode cJ6_numberOfTrailingZeros_0f7a4 45 = .ok (.bipush 8, 2) := by decide +kernel
theorem dJ6_numberOfTrailingZeros_0f7a4_47 : decode cJ6_numberOfTrailingZeros_0f7a4 47 = .ok (.iushr, 1) := by decide +kernel
theorem dJ6_numberOfTrailingZeros_0f7a4_48 : decode cJ6_numberOfTrailingZeros_0f7a4 48 = .ok (.istore_n 0, 1) := by decide +kernel
theorem dJ6_numberOfTrailingZeros_0f7a4_26 : decode cJ6_numberOfTrailingZeros_0f7a4 26 = .ok (.iinc 1 16, 3) := by decide +kernel
theorem dJ6_numberOfTrailingZeros_0f7a4_29 : decode cJ6_numberOfTrailingZeros_0f7a4 29 = .ok (.iload_n 0, 1) := by decide +kernel
theorem dJ6_numberOfTrailingZeros_0f7a4_30 : decode cJ6_numberOfTrailingZeros_0f7a4 30 = .ok (.bipush 16, 2) := by decide +kernel
theorem dJ6_numberOfTrailingZeros_0f7a4_32 : decode cJ6_numberOfTrailingZeros_0f7a4 32 = .ok (.iushr, 1) := by decide +kernel
theorem dJ6_numberOfTrailingZeros_0f7a4_33 : decode cJ6_numberOfTrailingZeros_0f7a4 33 = .ok (.istore_n 0, 1) := by decide +kernel
theorem dJ6_numberOfTrailingZeros_0f7a4_12 : decode cJ6_numberOfTrailingZeros_0f7a4 12 = .ok (.iload_n 0, 1) := by decide +kernel
theorem dJ6_numberOfTrailingZeros_0f7a4_13 : decode cJ6_numberOfTrailingZeros_0f7a4 13 = .ok (.bipush 32, 2) := by decide +kernel
theorem dJ6_numberOfTrailingZeros_0f7a4_15 : decode cJ6_numberOfTrailingZeros_0f7a4 15 = .ok (.iand, 1) := by decide +kernel
theorem dJ6_numberOfTrailingZeros_0f7a4_16 : decode cJ6_numberOfTrailingZeros_0f7a4 16 = .ok (.ireturn, 1) := by decide +kernel
theorem dJ6_numberOfLeadingZeros_0f7a4_0 : decode cJ6_numberOfLeadingZeros_0f7a4 0 = .ok (.iload_n 0, 1) := by decide +kernel
theorem dJ6_numberOfLeadingZeros_0f7a4_1 : decode cJ6_numberOfLeadingZeros_0f7a4 1 = .ok (.ifCond .gt 14, 3) := by decide +kernel
theorem dJ6_numberOfLeadingZeros_0f7a4_15 : decode cJ6_numberOfLeadingZeros_0f7a4 15 = .ok (.bipush 31, 2) := by decide +kernel
theorem dJ6_numberOfLeadingZeros_0f7a4_17 : decode cJ6_numberOfLeadingZeros_0f7a4 17 = .ok (.istore_n 1, 1) := by decide +kernel
theorem dJ6_numberOfLeadingZeros_0f7a4_18 : decode cJ6_numberOfLeadingZeros_0f7a4 18 = .ok (.iload_n 0, 1) := by decide +kernel
theorem dJ6_numberOfLeadingZeros_0f7a4_19 : decode cJ6_numberOfLeadingZeros_0f7a4 19 = .ok (.ldc_w 264, 3) := by decide +kernel
theorem dJ6_numberOfLeadingZeros_0f7a4_22 : decode cJ6_numberOfLeadingZeros_0f7a4 22 = .ok (.if_icmp .lt 11, 3) := by decide +kernel
theorem dJ6_numberOfLeadingZeros_0f7a4_33 : decode cJ6_numberOfLeadingZeros_0f7a4 33 = .ok (.iload_n 0, 1) := by decide +kernel
theorem dJ6_numberOfLeadingZeros_0f7a4_34 : decode cJ6_numberOfLeadingZeros_0f7a4 34 = .ok (.sipush 256, 3) := by decide +kernel
theorem dJ6_numberOfLeadingZeros_0f7a4_37 : decode cJ6_numberOfLeadingZeros_0f7a4 37 = .ok (.if_icmp .lt 11, 3) := by decide +kernel
theorem dJ6_numberOfLeadingZeros_0f7a4_48 : decode cJ6_numberOfLeadingZeros_0f7a4 48 = .ok (.iload_n 0, 1) := by decide +kernel
theorem dJ6_numberOfLeadingZeros_0f7a4_49 : decode cJ6_numberOfLeadingZeros_0f7a4 49 = .ok (.bipush 16, 2) := by decide +kernel
theorem dJ6_numberOfLeadingZeros_0f7a4_51 : decode cJ6_numberOfLeadingZeros_0f7a4 51 = .ok (.if_icmp .lt 10, 3) := by decide +kernel
theorem dJ6_numberOfLeadingZeros_0f7a4_61 : decode cJ6_numberOfLeadingZeros_0f7a4 61 = .ok (.iload_n 0, 1) := by decide +kernel
theorem dJ6_numberOfLeadingZeros_0f7a4_62 : decode cJ6_numberOfLeadingZeros_0f7a4 62 = .ok (.iconst 4, 1) := by decide +kernel
theorem dJ6_numberOfLeadingZeros_0f7a4_63 : decode cJ6_numberOfLeadingZeros_0f7a4 63 = .ok (.if_icmp .lt 10, 3) := by decide +kernel
theorem dJ6_numberOfLeadingZeros_0f7a4_73 : decode cJ6_numberOfLeadingZeros_0f7a4 73 = .ok (.iload_n 1, 1) := by decide +kernel
theorem dJ6_numberOfLeadingZeros_0f7a4_74 : decode cJ6_numberOfLeadingZeros_0f7a4 74 = .ok (.iload_n 0, 1) := by decide +kernel
theorem dJ6_numberOfLeadingZeros_0f7a4_75 : decode cJ6_numberOfLeadingZeros_0f7a4 75 = .ok (.iconst 1, 1) := by decide +kernel
theorem dJ6_numberOfLeadingZeros_0f7a4_76 : decode cJ6_numberOfLeadingZeros_0f7a4 76 = .ok (.iushr, 1) := by decide +kernel
theorem dJ6_numberOfLeadingZeros_0f7a4_77 : decode cJ6_numberOfLeadingZeros_0f7a4 77 = .ok (.isub, 1) := by decide +kernel
theorem dJ6_numberOfLeadingZeros_0f7a4_78 : decode cJ6_numberOfLeadingZeros_0f7a4 78 = .ok (.ireturn, 1) := by decide +kernel
theorem dJ6_numberOfLeadingZeros_0f7a4_66 : decode cJ6_numberOfLeadingZeros_0f7a4 66 = .ok (.iinc 1 (-2), 3) := by decide +kernel
theorem dJ6_numberOfLeadingZeros_0f7a4_69 : decode cJ6_numberOfLeadingZeros_0f7a4 69 = .ok (.iload_n 0, 1) := by decide +kernel
theorem dJ6_numberOfLeadingZeros_0f7a4_70 : decode cJ6_numberOfLeadingZeros_0f7a4 70 = .ok (.iconst 2, 1) := by decide +kernel
theorem dJ6_numberOfLeadingZeros_0f7a4_71 : decode cJ6_numberOfLeadingZeros_0f7a4 71 = .ok (.iushr, 1) := by decide +kernel
theorem dJ6_numberOfLeadingZeros_0f7a4_72 : decode cJ6_numberOfLeadingZeros_0f7a4 72 = .ok (.istore_n 0, 1) := by decide +kernel
theorem dJ6_numberOfLeadingZeros_0f7a4_54 : decode cJ6_numberOfLeadingZeros_0f7a4 54 = .ok (.iinc 1 (-4), 3) := by decide +kernel
theorem dJ6_numberOfLeadingZeros_0f7a4_57 : decode cJ6_numberOfLeadingZeros_0f7a4 57 = .ok (.iload_n 0, 1) := by decide +kernel
theorem dJ6_numberOfLeadingZeros_0f7a4_58 : decode cJ6_numberOfLeadingZeros_0f7a4 58 = .ok (.iconst 4, 1) := by decide +kernel
theorem dJ6_numberOfLeadingZeros_0f7a4_59 : decode cJ6_numberOfLeadingZeros_0f7a4 59 = .ok (.iushr, 1) := by decide +kernel
theorem dJ6_numberOfLeadingZeros_0f7a4_60 : decode cJ6_numberOfLeadingZeros_0f7a4 60 = .ok (.istore_n 0, 1) := by decide +kernel
theorem dJ6_numberOfLeadingZeros_0f7a4_40 : decode cJ6_numberOfLeadingZeros_0f7a4 40 = .ok (.iinc 1 (-8), 3) := by decide +kernel
theorem dJ6_numberOfLeadingZeros_0f7a4_43 : decode cJ6_numberOfLeadingZeros_0f7a4 43 = .ok (.iload_n 0, 1) := by decide +kernel
theorem dJ6_numberOfLeadingZeros_0f7a4_44 : decode cJ6_numberOfLeadingZeros_0f7a4 44 = .ok (.bipush 8, 2) := by decide +kernel
theorem dJ6_numberOfLeadingZeros_0f7a4_46 : decode cJ6_numberOfLeadingZeros_0f7a4 46 = .ok (.iushr, 1) := by decide +kernel
theorem dJ6_numberOfLeadingZeros_0f7a4_47 : decode cJ6_numberOfLeadingZeros_0f7a4 47 = .ok (.istore_n 0, 1) := by decide +kernel
theorem dJ6_numberOfLeadingZeros_0f7a4_25 : decode cJ6_numberOfLeadingZeros_0f7a4 25 = .ok (.iinc 1 (-16), 3) := by decide +kernel
theorem dJ6_numberOfLeadingZeros_0f7a4_28 : decode cJ6_numberOfLeadingZeros_0f7a4 28 = .ok (.iload_n 0, 1) := by decide +kernel
theorem dJ6_numberOfLeadingZeros_0f7a4_29 : decode cJ6_numberOfLeadingZeros_0f7a4 29 = .ok (.bipush 16, 2) := by decide +kernel
theorem dJ6_numberOfLeadingZeros_0f7a4_31 : decode cJ6_numberOfLeadingZeros_0f7a4 31 = .ok (.iushr, 1) := by decide +kernel
theorem dJ6_numberOfLeadingZeros_0f7a4_32 : decode cJ6_numberOfLeadingZeros_0f7a4 32 = .ok (.istore_n 0, 1) := by decide +kernel
theorem dJ6_numberOfLeadingZeros_0f7a4_4 : decode cJ6_numberOfLeadingZeros_0f7a4 4 = .ok (.iload_n 0, 1) := by decide +kernel
theorem dJ6_numberOfLeadingZeros_0f7a4_5 : decode cJ6_numberOfLeadingZeros_0f7a4 5 = .ok (.ifCond .ne 8, 3) := by decide +kernel
theorem dJ6_numberOfLeadingZeros_0f7a4_13 : decode cJ6_numberOfLeadingZeros_0f7a4 13 = .ok (.iconst 0, 1) := by decide +kernel
theorem dJ6_numberOfLeadingZeros_0f7a4_14 : decode cJ6_numberOfLeadingZeros_0f7a4 14 = .ok (.ireturn, 1) := by decide +kernel
theorem dJ6_numberOfLeadingZeros_0f7a4_8 : decode cJ6_numberOfLeadingZeros_0f7a4 8 = .ok (.bipush 32, 2) := by decide +kernel
theorem dJ6_numberOfLeadingZeros_0f7a4_10 : decode cJ6_numberOfLeadingZeros_0f7a4 10 = .ok (.goto 4, 3) := by decide +kernel
theorem dX6_feed_0 : decode cX6_feed 0 = .ok (.iload_n 3, 1) := by decide +kernel
theorem dX6_feed_1 : decode cX6_feed 1 = .ok (.iconst 1, 1) := by decide +kernel
theorem dX6_feed_2 : decode cX6_feed 2 = .ok (.if_icmp .lt 9, 3) := by decide +kernel
theorem dX6_feed_11 : decode cX6_feed 11 = .ok (.bipush (-2), 2) := by decide +kernel
theorem dX6_feed_13 : decode cX6_feed 13 = .ok (.ireturn, 1) := by decide +kernel
theorem dX6_feed_5 : decode cX6_feed 5 = .ok (.iload_n 3, 1) := by decide +kernel
theorem dX6_feed_6 : decode cX6_feed 6 = .ok (.bipush 8, 2) := by decide +kernel
theorem dX6_feed_8 : decode cX6_feed 8 = .ok (.if_icmp .le 6, 3) := by decide +kernel
theorem dX6_feed_14 : decode cX6_feed 14 = .ok (.aload_n 0, 1) := by decide +kernel
theorem dX6_feed_15 : decode cX6_feed 15 = .ok (.getfield 12, 3) := by decide +kernel
theorem dX6_feed_18 : decode cX6_feed 18 = .ok (.getfield 50, 3) := by decide +kernel
theorem dX6_feed_21 : decode cX6_feed 21 = .ok (.iload_n 3, 1) := by decide +kernel
theorem dX6_feed_22 : decode cX6_feed 22 = .ok (.iadd, 1) := by decide +kernel
theorem dX6_feed_23 : decode cX6_feed 23 = .ok (.bipush 100, 2) := by decide +kernel
theorem dX6_feed_25 : decode cX6_feed 25 = .ok (.if_icmp .le 6, 3) := by decide +kernel
theorem dX6_feed_31 : decode cX6_feed 31 = .ok (.aload_n 0, 1) := by decide +kernel
theorem dX6_feed_32 : decode cX6_feed 32 = .ok (.getfield 12, 3) := by decide +kernel
theorem dX6_feed_35 : decode cX6_feed 35 = .ok (.lload_n 1, 1) := by decide +kernel
theorem dX6_feed_36 : decode cX6_feed 36 = .ok (.iload_n 3, 1) := by decide +kernel
theorem dX6_feed_37 : decode cX6_feed 37 = .ok (.invokevirtual 54, 3) := by decide +kernel
theorem dX6_feed_40 : decode cX6_feed 40 = .ok (.aload_n 0, 1) := by decide +kernel
theorem dX6_feed_41 : decode cX6_feed 41 = .ok (.getfield 12, 3) := by decide +kernel
theorem dX6_feed_44 : decode cX6_feed 44 = .ok (.getfield 50, 3) := by decide +kernel
theorem dX6_feed_47 : decode cX6_feed 47 = .ok (.ireturn, 1) := by decide +kernel
theorem dX6_feed_28 : decode cX6_feed 28 = .ok (.bipush (-4), 2) := by decide +kernel
theorem dX6_feed_30 : decode cX6_feed 30 = .ok (.ireturn, 1) := by decide +kernel
theorem dX6_service_0 : decode cX6_service 0 = .ok (.aload_n 0, 1) := by decide +kernel
theorem dX6_service_1 : decode cX6_service 1 = .ok (.getfield 19, 3) := by decide +kernel
theorem dX6_service_4 : decode cX6_service 4 = .ok (.getfield 58, 3) := by decide +kernel
theorem dX6_service_7 : decode cX6_service 7 = .ok (.bipush 6, 2) := by decide +kernel
theorem dX6_service_9 : decode cX6_service 9 = .ok (.if_icmp .lt 6, 3) := by decide +kernel
theorem dX6_service_15 : decode cX6_service 15 = .ok (.aload_n 0, 1) := by decide +kernel
theorem dX6_service_16 : decode cX6_service 16 = .ok (.getfield 12, 3) := by decide +kernel
theorem dX6_service_19 : decode cX6_service 19 = .ok (.invokevirtual 59, 3) := by decide +kernel
theorem dX6_service_22 : decode cX6_service 22 = .ok (.astore_n 1, 1) := by decide +kernel
theorem dX6_service_23 : decode cX6_service 23 = .ok (.aload_n 1, 1) := by decide +kernel
theorem dX6_service_24 : decode cX6_service 24 = .ok (.ifnonnull 14, 3) := by decide +kernel
theorem dX6_service_27 : decode cX6_service 27 = .ok (.bipush (-10), 2) := by decide +kernel
theorem dX6_service_29 : decode cX6_service 29 = .ok (.aload_n 0, 1) := by decide +kernel
theorem dX6_service_30 : decode cX6_service 30 = .ok (.getfield 12, 3) := by decide +kernel
theorem dX6_service_33 : decode cX6_service 33 = .ok (.getfield 63, 3) := by decide +kernel
theorem dX6_service_36 : decode cX6_service 36 = .ok (.isub, 1) := by decide +kernel
theorem dX6_service_37 : decode cX6_service 37 = .ok (.ireturn, 1) := by decide +kernel
theorem dX6_service_38 : decode cX6_service 38 = .ok (.aload_n 0, 1) := by decide +kernel
theorem dX6_service_39 : decode cX6_service 39 = .ok (.getfield 19, 3) := by decide +kernel
theorem dX6_service_42 : decode cX6_service 42 = .ok (.getfield 66, 3) := by decide +kernel
theorem dX6_service_45 : decode cX6_service 45 = .ok (.aload_n 0, 1) := by decide +kernel
theorem dX6_service_46 : decode cX6_service 46 = .ok (.getfield 19, 3) := by decide +kernel
theorem dX6_service_49 : decode cX6_service 49 = .ok (.getfield 58, 3) := by decide +kernel
theorem dX6_service_52 : decode cX6_service 52 = .ok (.aaload, 1) := by decide +kernel
theorem dX6_service_53 : decode cX6_service 53 = .ok (.aload_n 1, 1) := by decide +kernel
theorem dX6_service_54 : decode cX6_service 54 = .ok (.putfield 70, 3) := by decide +kernel
theorem dX6_service_57 : decode cX6_service 57 = .ok (.aload_n 0, 1) := by decide +kernel
theorem dX6_service_58 : decode cX6_service 58 = .ok (.getfield 19, 3) := by decide +kernel
theorem dX6_service_61 : decode cX6_service 61 = .ok (.dup, 1) := by decide +kernel
theorem dX6_service_62 : decode cX6_service 62 = .ok (.getfield 58, 3) := by decide +kernel
theorem dX6_service_65 : decode cX6_service 65 = .ok (.iconst 1, 1) := by decide +kernel
theorem dX6_service_66 : decode cX6_service 66 = .ok (.iadd, 1) := by decide +kernel
theorem dX6_service_67 : decode cX6_service 67 = .ok (.putfield 58, 3) := by decide +kernel
theorem dX6_service_70 : decode cX6_service 70 = .ok (.aload_n 0, 1) := by decide +kernel
theorem dX6_service_71 : decode cX6_service 71 = .ok (.getfield 19, 3) := by decide +kernel
theorem dX6_service_74 : decode cX6_service 74 = .ok (.getfield 58, 3) := by decide +kernel
theorem dX6_service_77 : decode cX6_service 77 = .ok (.iconst 1, 1) := by decide +kernel
theorem dX6_service_78 : decode cX6_service 78 = .ok (.isub, 1) := by decide +kernel
theorem dX6_service_79 : decode cX6_service 79 = .ok (.ireturn, 1) := by decide +kernel
theorem dX6_service_12 : decode cX6_service 12 = .ok (.bipush (-4), 2) := by decide +kernel
theorem dX6_service_14 : decode cX6_service 14 = .ok (.ireturn, 1) := by decide +kernel
theorem dX6_change_0 : decode cX6_change 0 = .ok (.aload_n 0, 1) := by decide +kernel
theorem dX6_change_1 : decode cX6_change 1 = .ok (.getfield 19, 3) := by decide +kernel
theorem dX6_change_4 : decode cX6_change 4 = .ok (.iload_n 1, 1) := by decide +kernel
theorem dX6_change_5 : decode cX6_change 5 = .ok (.invokevirtual 76, 3) := by decide +kernel
theorem dX6_change_8 : decode cX6_change 8 = .ok (.ifCond .ne 5, 3) := by decide +kernel
theorem dX6_change_13 : decode cX6_change 13 = .ok (.aload_n 0, 1) := by decide +kernel
theorem dX6_change_14 : decode cX6_change 14 = .ok (.getfield 12, 3) := by decide +kernel
theorem dX6_change_17 : decode cX6_change 17 = .ok (.invokevirtual 59, 3) := by decide +kernel
theorem dX6_change_20 : decode cX6_change 20 = .ok (.astore_n 2, 1) := by decide +kernel
theorem dX6_change_21 : decode cX6_change 21 = .ok (.aload_n 2, 1) := by decide +kernel
theorem dX6_change_22 : decode cX6_change 22 = .ok (.ifnonnull 14, 3) := by decide +kernel
theorem dX6_change_25 : decode cX6_change 25 = .ok (.bipush (-10), 2) := by decide +kernel
theorem dX6_change_27 : decode cX6_change 27 = .ok (.aload_n 0, 1) := by decide +kernel
theorem dX6_change_28 : decode cX6_change 28 = .ok (.getfield 12, 3) := by decide +kernel
theorem dX6_change_31 : decode cX6_change 31 = .ok (.getfield 63, 3) := by decide +kernel
theorem dX6_change_34 : decode cX6_change 34 = .ok (.isub, 1) := by decide +kernel
theorem dX6_change_35 : decode cX6_change 35 = .ok (.ireturn, 1) := by decide +kernel
theorem dX6_change_36 : decode cX6_change 36 = .ok (.aload_n 0, 1) := by decide +kernel
theorem dX6_change_37 : decode cX6_change 37 = .ok (.getfield 19, 3) := by decide +kernel
theorem dX6_change_40 : decode cX6_change 40 = .ok (.getfield 66, 3) := by decide +kernel
theorem dX6_change_43 : decode cX6_change 43 = .ok (.iload_n 1, 1) := by decide +kernel
theorem dX6_change_44 : decode cX6_change 44 = .ok (.aaload, 1) := by decide +kernel
theorem dX6_change_45 : decode cX6_change 45 = .ok (.aload_n 2, 1) := by decide +kernel
theorem dX6_change_46 : decode cX6_change 46 = .ok (.putfield 70, 3) := by decide +kernel
theorem dX6_change_49 : decode cX6_change 49 = .ok (.aload_n 2, 1) := by decide +kernel
theorem dX6_change_50 : decode cX6_change 50 = .ok (.getfield 80, 3) := by decide +kernel
theorem dX6_change_53 : decode cX6_change 53 = .ok (.ireturn, 1) := by decide +kernel
theorem dX6_change_11 : decode cX6_change 11 = .ok (.iconst (-1), 1) := by decide +kernel
theorem dX6_change_12 : decode cX6_change 12 = .ok (.ireturn, 1) := by decide +kernel
theorem dX6_row_0 : decode cX6_row 0 = .ok (.aload_n 0, 1) := by decide +kernel
theorem dX6_row_1 : decode cX6_row 1 = .ok (.getfield 19, 3) := by decide +kernel
theorem dX6_row_4 : decode cX6_row 4 = .ok (.iload_n 1, 1) := by decide +kernel
theorem dX6_row_5 : decode cX6_row 5 = .ok (.invokevirtual 76, 3) := by decide +kernel
theorem dX6_row_8 : decode cX6_row 8 = .ok (.ifCond .ne 5, 3) := by decide +kernel
theorem dX6_row_13 : decode cX6_row 13 = .ok (.iload_n 2, 1) := by decide +kernel
theorem dX6_row_14 : decode cX6_row 14 = .ok (.sipush 999, 3) := by decide +kernel
theorem dX6_row_17 : decode cX6_row 17 = .ok (.invokestatic 83, 3) := by decide +kernel
theorem dX6_row_20 : decode cX6_row 20 = .ok (.ifCond .eq 12, 3) := by decide +kernel
theorem dX6_row_23 : decode cX6_row 23 = .ok (.iload_n 3, 1) := by decide +kernel
theorem dX6_row_24 : decode cX6_row 24 = .ok (.bipush 99, 2) := by decide +kernel
theorem dX6_row_26 : decode cX6_row 26 = .ok (.invokestatic 83, 3) := by decide +kernel
theorem dX6_row_29 : decode cX6_row 29 = .ok (.ifCond .ne 6, 3) := by decide +kernel
theorem dX6_row_35 : decode cX6_row 35 = .ok (.aload_n 0, 1) := by decide +kernel
theorem dX6_row_36 : decode cX6_row 36 = .ok (.getfield 28, 3) := by decide +kernel
theorem dX6_row_39 : decode cX6_row 39 = .ok (.getfield 138, 3) := by decide +kernel
theorem dX6_row_42 : decode cX6_row 42 = .ok (.bipush 6, 2) := by decide +kernel
theorem dX6_row_44 : decode cX6_row 44 = .ok (.if_icmp .lt 6, 3) := by decide +kernel
theorem dX6_row_50 : decode cX6_row 50 = .ok (.aload_n 0, 1) := by decide +kernel
theorem dX6_row_51 : decode cX6_row 51 = .ok (.getfield 28, 3) := by decide +kernel
theorem dX6_row_54 : decode cX6_row 54 = .ok (.iload_n 1, 1) := by decide +kernel
theorem dX6_row_55 : decode cX6_row 55 = .ok (.iload_n 2, 1) := by decide +kernel
theorem dX6_row_56 : decode cX6_row 56 = .ok (.iload_n 3, 1) := by decide +kernel
theorem dX6_row_57 : decode cX6_row 57 = .ok (.invokevirtual 118, 3) := by decide +kernel
theorem dX6_row_60 : decode cX6_row 60 = .ok (.aload_n 0, 1) := by decide +kernel
theorem dX6_row_61 : decode cX6_row 61 = .ok (.getfield 28, 3) := by decide +kernel
theorem dX6_row_64 : decode cX6_row 64 = .ok (.getfield 138, 3) := by decide +kernel
theorem dX6_row_67 : decode cX6_row 67 = .ok (.ireturn, 1) := by decide +kernel
theorem dX6_row_47 : decode cX6_row 47 = .ok (.bipush (-4), 2) := by decide +kernel
theorem dX6_row_49 : decode cX6_row 49 = .ok (.ireturn, 1) := by decide +kernel
theorem dX6_row_32 : decode cX6_row 32 = .ok (.bipush (-2), 2) := by decide +kernel
theorem dX6_row_34 : decode cX6_row 34 = .ok (.ireturn, 1) := by decide +kernel
theorem dX6_row_11 : decode cX6_row 11 = .ok (.iconst (-1), 1) := by decide +kernel
theorem dX6_row_12 : decode cX6_row 12 = .ok (.ireturn, 1) := by decide +kernel
theorem dX6_clear_0 : decode cX6_clear 0 = .ok (.aload_n 0, 1) := by decide +kernel
theorem dX6_clear_1 : decode cX6_clear 1 = .ok (.getfield 28, 3) := by decide +kernel
theorem dX6_clear_4 : decode cX6_clear 4 = .ok (.getfield 138, 3) := by decide +kernel
theorem dX6_clear_7 : decode cX6_clear 7 = .ok (.istore_n 1, 1) := by decide +kernel
theorem dX6_clear_8 : decode cX6_clear 8 = .ok (.aload_n 0, 1) := by decide +kernel
theorem dX6_clear_9 : decode cX6_clear 9 = .ok (.getfield 28, 3) := by decide +kernel
theorem dX6_clear_12 : decode cX6_clear 12 = .ok (.iconst 0, 1) := by decide +kernel
theorem dX6_clear_13 : decode cX6_clear 13 = .ok (.putfield 138, 3) := by decide +kernel
theorem dX6_clear_16 : decode cX6_clear 16 = .ok (.iload_n 1, 1) := by decide +kernel
theorem dX6_clear_17 : decode cX6_clear 17 = .ok (.ireturn, 1) := by decide +kernel
theorem dX6_act_0 : decode cX6_act 0 = .ok (.aload_n 0, 1) := by decide +kernel
theorem dX6_act_1 : decode cX6_act 1 = .ok (.getfield 19, 3) := by decide +kernel
theorem dX6_act_4 : decode cX6_act 4 = .ok (.iload_n 1, 1) := by decide +kernel
theorem dX6_act_5 : decode cX6_act 5 = .ok (.invokevirtual 76, 3) := by decide +kernel
theorem dX6_act_8 : decode cX6_act 8 = .ok (.ifCond .ne 5, 3) := by decide +kernel
theorem dX6_act_13 : decode cX6_act 13 = .ok (.aload_n 0, 1) := by decide +kernel
theorem dX6_act_14 : decode cX6_act 14 = .ok (.getfield 19, 3) := by decide +kernel
theorem dX6_act_17 : decode cX6_act 17 = .ok (.getfield 66, 3) := by decide +kernel
theorem dX6_act_20 : decode cX6_act 20 = .ok (.iload_n 1, 1) := by decide +kernel
theorem dX6_act_21 : decode cX6_act 21 = .ok (.aaload, 1) := by decide +kernel
theorem dX6_act_22 : decode cX6_act 22 = .ok (.getfield 70, 3) := by decide +kernel
theorem dX6_act_25 : decode cX6_act 25 = .ok (.astore 4, 2) := by decide +kernel
theorem dX6_act_27 : decode cX6_act 27 = .ok (.iload_n 2, 1) := by decide +kernel
theorem dX6_act_28 : decode cX6_act 28 = .ok (.aload 4, 2) := by decide +kernel
theorem dX6_act_30 : decode cX6_act 30 = .ok (.getfield 80, 3) := by decide +kernel
theorem dX6_act_33 : decode cX6_act 33 = .ok (.iconst 1, 1) := by decide +kernel
theorem dX6_act_34 : decode cX6_act 34 = .ok (.isub, 1) := by decide +kernel
theorem dX6_act_35 : decode cX6_act 35 = .ok (.invokestatic 83, 3) := by decide +kernel
theorem dX6_act_38 : decode cX6_act 38 = .ok (.ifCond .ne 5, 3) := by decide +kernel
theorem dX6_act_43 : decode cX6_act 43 = .ok (.iload_n 3, 1) := by decide +kernel
theorem dX6_act_44 : decode cX6_act 44 = .ok (.tableswitch 52 0 2 #[28, 36, 44], 28) := by decide +kernel
theorem dX6_act_96 : decode cX6_act 96 = .ok (.iconst (-1), 1) := by decide +kernel
theorem dX6_act_97 : decode cX6_act 97 = .ok (.ireturn, 1) := by decide +kernel
theorem dX6_act_72 : decode cX6_act 72 = .ok (.aload 4, 2) := by decide +kernel
theorem dX6_act_74 : decode cX6_act 74 = .ok (.getfield 109, 3) := by decide +kernel
theorem dX6_act_77 : decode cX6_act 77 = .ok (.iload_n 2, 1) := by decide +kernel
theorem dX6_act_78 : decode cX6_act 78 = .ok (.iaload, 1) := by decide +kernel
theorem dX6_act_79 : decode cX6_act 79 = .ok (.ireturn, 1) := by decide +kernel
theorem dX6_act_80 : decode cX6_act 80 = .ok (.aload 4, 2) := by decide +kernel
theorem dX6_act_82 : decode cX6_act 82 = .ok (.getfield 112, 3) := by decide +kernel
theorem dX6_act_85 : decode cX6_act 85 = .ok (.iload_n 2, 1) := by decide +kernel
theorem dX6_act_86 : decode cX6_act 86 = .ok (.iaload, 1) := by decide +kernel
theorem dX6_act_87 : decode cX6_act 87 = .ok (.ireturn, 1) := by decide +kernel
theorem dX6_act_88 : decode cX6_act 88 = .ok (.aload 4, 2) := by decide +kernel
theorem dX6_act_90 : decode cX6_act 90 = .ok (.getfield 115, 3) := by decide +kernel
theorem dX6_act_93 : decode cX6_act 93 = .ok (.iload_n 2, 1) := by decide +kernel
theorem dX6_act_94 : decode cX6_act 94 = .ok (.iaload, 1) := by decide +kernel
theorem dX6_act_95 : decode cX6_act 95 = .ok (.ireturn, 1) := by decide +kernel
theorem dX6_act_41 : decode cX6_act 41 = .ok (.iconst (-1), 1) := by decide +kernel
theorem dX6_act_42 : decode cX6_act 42 = .ok (.ireturn, 1) := by decide +kernel
theorem dX6_act_11 : decode cX6_act 11 = .ok (.iconst (-1), 1) := by decide +kernel
theorem dX6_act_12 : decode cX6_act 12 = .ok (.ireturn, 1) := by decide +kernel
theorem dX6_mend_0 : decode cX6_mend 0 = .ok (.aload_n 0, 1) := by decide +kernel
theorem dX6_mend_1 : decode cX6_mend 1 = .ok (.getfield 19, 3) := by decide +kernel
theorem dX6_mend_4 : decode cX6_mend 4 = .ok (.iload_n 1, 1) := by decide +kernel
theorem dX6_mend_5 : decode cX6_mend 5 = .ok (.invokevirtual 76, 3) := by decide +kernel
theorem dX6_mend_8 : decode cX6_mend 8 = .ok (.ifCond .eq 11, 3) := by decide +kernel
theorem dX6_mend_11 : decode cX6_mend 11 = .ok (.iload_n 2, 1) := by decide +kernel
theorem dX6_mend_12 : decode cX6_mend 12 = .ok (.iconst 3, 1) := by decide +kernel
theorem dX6_mend_13 : decode cX6_mend 13 = .ok (.invokestatic 83, 3) := by decide +kernel
theorem dX6_mend_16 : decode cX6_mend 16 = .ok (.ifCond .ne 5, 3) := by decide +kernel
theorem dX6_mend_21 : decode cX6_mend 21 = .ok (.iload_n 3, 1) := by decide +kernel
theorem dX6_mend_22 : decode cX6_mend 22 = .ok (.iconst 1, 1) := by decide +kernel
theorem dX6_mend_23 : decode cX6_mend 23 = .ok (.invokestatic 83, 3) := by decide +kernel
theorem dX6_mend_26 : decode cX6_mend 26 = .ok (.ifCond .ne 6, 3) := by decide +kernel
theorem dX6_mend_32 : decode cX6_mend 32 = .ok (.aload_n 0, 1) := by decide +kernel
theorem dX6_mend_33 : decode cX6_mend 33 = .ok (.getfield 19, 3) := by decide +kernel
theorem dX6_mend_36 : decode cX6_mend 36 = .ok (.getfield 66, 3) := by decide +kernel
theorem dX6_mend_39 : decode cX6_mend 39 = .ok (.iload_n 1, 1) := by decide +kernel
theorem dX6_mend_40 : decode cX6_mend 40 = .ok (.aaload, 1) := by decide +kernel
theorem dX6_mend_41 : decode cX6_mend 41 = .ok (.astore 4, 2) := by decide +kernel
theorem dX6_mend_43 : decode cX6_mend 43 = .ok (.aload 4, 2) := by decide +kernel
theorem dX6_mend_45 : decode cX6_mend 45 = .ok (.getfield 87, 3) := by decide +kernel
theorem dX6_mend_48 : decode cX6_mend 48 = .ok (.iload_n 2, 1) := by decide +kernel
theorem dX6_mend_49 : decode cX6_mend 49 = .ok (.ishr, 1) := by decide +kernel
theorem dX6_mend_50 : decode cX6_mend 50 = .ok (.iconst 1, 1) := by decide +kernel
theorem dX6_mend_51 : decode cX6_mend 51 = .ok (.iand, 1) := by decide +kernel
theorem dX6_mend_52 : decode cX6_mend 52 = .ok (.istore 5, 2) := by decide +kernel
theorem dX6_mend_54 : decode cX6_mend 54 = .ok (.aload 4, 2) := by decide +kernel
theorem dX6_mend_56 : decode cX6_mend 56 = .ok (.aload 4, 2) := by decide +kernel
theorem dX6_mend_58 : decode cX6_mend 58 = .ok (.getfield 87, 3) := by decide +kernel
theorem dX6_mend_61 : decode cX6_mend 61 = .ok (.iconst 1, 1) := by decide +kernel
theorem dX6_mend_62 : decode cX6_mend 62 = .ok (.iload_n 2, 1) := by decide +kernel
theorem dX6_mend_63 : decode cX6_mend 63 = .ok (.ishl, 1) := by decide +kernel
theorem dX6_mend_64 : decode cX6_mend 64 = .ok (.iconst (-1), 1) := by decide +kernel
theorem dX6_mend_65 : decode cX6_mend 65 = .ok (.ixor, 1) := by decide +kernel
theorem dX6_mend_66 : decode cX6_mend 66 = .ok (.iand, 1) := by decide +kernel
theorem dX6_mend_67 : decode cX6_mend 67 = .ok (.iload_n 3, 1) := by decide +kernel
theorem dX6_mend_68 : decode cX6_mend 68 = .ok (.iload_n 2, 1) := by decide +kernel
theorem dX6_mend_69 : decode cX6_mend 69 = .ok (.ishl, 1) := by decide +kernel
theorem dX6_mend_70 : decode cX6_mend 70 = .ok (.ior, 1) := by decide +kernel
theorem dX6_mend_71 : decode cX6_mend 71 = .ok (.putfield 87, 3) := by decide +kernel
theorem dX6_mend_74 : decode cX6_mend 74 = .ok (.iload 5, 2) := by decide +kernel
theorem dX6_mend_76 : decode cX6_mend 76 = .ok (.ireturn, 1) := by decide +kernel
theorem dX6_mend_29 : decode cX6_mend 29 = .ok (.bipush (-2), 2) := by decide +kernel
theorem dX6_mend_31 : decode cX6_mend 31 = .ok (.ireturn, 1) := by decide +kernel
theorem dX6_mend_19 : decode cX6_mend 19 = .ok (.iconst (-1), 1) := by decide +kernel
theorem dX6_mend_20 : decode cX6_mend 20 = .ok (.ireturn, 1) := by decide +kernel
theorem dX6_hold_0 : decode cX6_hold 0 = .ok (.aload_n 0, 1) := by decide +kernel
theorem dX6_hold_1 : decode cX6_hold 1 = .ok (.getfield 19, 3) := by decide +kernel
theorem dX6_hold_4 : decode cX6_hold 4 = .ok (.iload_n 1, 1) := by decide +kernel
theorem dX6_hold_5 : decode cX6_hold 5 = .ok (.invokevirtual 76, 3) := by decide +kernel
theorem dX6_hold_8 : decode cX6_hold 8 = .ok (.ifCond .ne 5, 3) := by decide +kernel
theorem dX6_hold_13 : decode cX6_hold 13 = .ok (.iload_n 2, 1) := by decide +kernel
theorem dX6_hold_14 : decode cX6_hold 14 = .ok (.bipush 99, 2) := by decide +kernel
theorem dX6_hold_16 : decode cX6_hold 16 = .ok (.invokestatic 83, 3) := by decide +kernel
theorem dX6_hold_19 : decode cX6_hold 19 = .ok (.ifCond .ne 6, 3) := by decide +kernel
theorem dX6_hold_25 : decode cX6_hold 25 = .ok (.aload_n 0, 1) := by decide +kernel
theorem dX6_hold_26 : decode cX6_hold 26 = .ok (.getfield 19, 3) := by decide +kernel
theorem dX6_hold_29 : decode cX6_hold 29 = .ok (.getfield 66, 3) := by decide +kernel
theorem dX6_hold_32 : decode cX6_hold 32 = .ok (.iload_n 1, 1) := by decide +kernel
theorem dX6_hold_33 : decode cX6_hold 33 = .ok (.aaload, 1) := by decide +kernel
theorem dX6_hold_34 : decode cX6_hold 34 = .ok (.getfield 90, 3) := by decide +kernel
theorem dX6_hold_37 : decode cX6_hold 37 = .ok (.istore_n 3, 1) := by decide +kernel
theorem dX6_hold_38 : decode cX6_hold 38 = .ok (.aload_n 0, 1) := by decide +kernel
theorem dX6_hold_39 : decode cX6_hold 39 = .ok (.getfield 19, 3) := by decide +kernel
theorem dX6_hold_42 : decode cX6_hold 42 = .ok (.getfield 66, 3) := by decide +kernel
theorem dX6_hold_45 : decode cX6_hold 45 = .ok (.iload_n 1, 1) := by decide +kernel
theorem dX6_hold_46 : decode cX6_hold 46 = .ok (.aaload, 1) := by decide +kernel
theorem dX6_hold_47 : decode cX6_hold 47 = .ok (.iload_n 2, 1) := by decide +kernel
theorem dX6_hold_48 : decode cX6_hold 48 = .ok (.putfield 90, 3) := by decide +kernel
theorem dX6_hold_51 : decode cX6_hold 51 = .ok (.iload_n 3, 1) := by decide +kernel
theorem dX6_hold_52 : decode cX6_hold 52 = .ok (.ireturn, 1) := by decide +kernel
theorem dX6_hold_22 : decode cX6_hold 22 = .ok (.bipush (-2), 2) := by decide +kernel
theorem dX6_hold_24 : decode cX6_hold 24 = .ok (.ireturn, 1) := by decide +kernel
theorem dX6_hold_11 : decode cX6_hold 11 = .ok (.iconst (-1), 1) := by decide +kernel
theorem dX6_hold_12 : decode cX6_hold 12 = .ok (.ireturn, 1) := by decide +kernel
theorem dX6_set_0 : decode cX6_set 0 = .ok (.aload_n 0, 1) := by decide +kernel
theorem dX6_set_1 : decode cX6_set 1 = .ok (.getfield 19, 3) := by decide +kernel
theorem dX6_set_4 : decode cX6_set 4 = .ok (.iload_n 1, 1) := by decide +kernel
theorem dX6_set_5 : decode cX6_set 5 = .ok (.invokevirtual 76, 3) := by decide +kernel
theorem dX6_set_8 : decode cX6_set 8 = .ok (.ifCond .eq 11, 3) := by decide +kernel
theorem dX6_set_11 : decode cX6_set 11 = .ok (.iload_n 2, 1) := by decide +kernel
theorem dX6_set_12 : decode cX6_set 12 = .ok (.iconst 3, 1) := by decide +kernel
theorem dX6_set_13 : decode cX6_set 13 = .ok (.invokestatic 83, 3) := by decide +kernel
theorem dX6_set_16 : decode cX6_set 16 = .ok (.ifCond .ne 5, 3) := by decide +kernel
theorem dX6_set_21 : decode cX6_set 21 = .ok (.iload_n 3, 1) := by decide +kernel
theorem dX6_set_22 : decode cX6_set 22 = .ok (.sipush 999, 3) := by decide +kernel
theorem dX6_set_25 : decode cX6_set 25 = .ok (.invokestatic 83, 3) := by decide +kernel
theorem dX6_set_28 : decode cX6_set 28 = .ok (.ifCond .ne 6, 3) := by decide +kernel
theorem dX6_set_34 : decode cX6_set 34 = .ok (.aload_n 0, 1) := by decide +kernel
theorem dX6_set_35 : decode cX6_set 35 = .ok (.getfield 19, 3) := by decide +kernel
theorem dX6_set_38 : decode cX6_set 38 = .ok (.getfield 66, 3) := by decide +kernel
theorem dX6_set_41 : decode cX6_set 41 = .ok (.iload_n 1, 1) := by decide +kernel
theorem dX6_set_42 : decode cX6_set 42 = .ok (.aaload, 1) := by decide +kernel
theorem dX6_set_43 : decode cX6_set 43 = .ok (.getfield 93, 3) := by decide +kernel
theorem dX6_set_46 : decode cX6_set 46 = .ok (.iload_n 2, 1) := by decide +kernel
theorem dX6_set_47 : decode cX6_set 47 = .ok (.iaload, 1) := by decide +kernel
theorem dX6_set_48 : decode cX6_set 48 = .ok (.istore 4, 2) := by decide +kernel
theorem dX6_set_50 : decode cX6_set 50 = .ok (.aload_n 0, 1) := by decide +kernel
theorem dX6_set_51 : decode cX6_set 51 = .ok (.getfield 19, 3) := by decide +kernel
theorem dX6_set_54 : decode cX6_set 54 = .ok (.getfield 66, 3) := by decide +kernel
theorem dX6_set_57 : decode cX6_set 57 = .ok (.iload_n 1, 1) := by decide +kernel
theorem dX6_set_58 : decode cX6_set 58 = .ok (.aaload, 1) := by decide +kernel
theorem dX6_set_59 : decode cX6_set 59 = .ok (.getfield 93, 3) := by decide +kernel
theorem dX6_set_62 : decode cX6_set 62 = .ok (.iload_n 2, 1) := by decide +kernel
theorem dX6_set_63 : decode cX6_set 63 = .ok (.iload_n 3, 1) := by decide +kernel
theorem dX6_set_64 : decode cX6_set 64 = .ok (.iastore, 1) := by decide +kernel
theorem dX6_set_65 : decode cX6_set 65 = .ok (.iload 4, 2) := by decide +kernel
theorem dX6_set_67 : decode cX6_set 67 = .ok (.ireturn, 1) := by decide +kernel
theorem dX6_set_31 : decode cX6_set 31 = .ok (.bipush (-2), 2) := by decide +kernel
theorem dX6_set_33 : decode cX6_set 33 = .ok (.ireturn, 1) := by decide +kernel
theorem dX6_set_19 : decode cX6_set 19 = .ok (.iconst (-1), 1) := by decide +kernel
theorem dX6_set_20 : decode cX6_set 20 = .ok (.ireturn, 1) := by decide +kernel
theorem dX6_about_0 : decode cX6_about 0 = .ok (.aload_n 0, 1) := by decide +kernel
theorem dX6_about_1 : decode cX6_about 1 = .ok (.getfield 19, 3) := by decide +kernel
theorem dX6_about_4 : decode cX6_about 4 = .ok (.iload_n 1, 1) := by decide +kernel
theorem dX6_about_5 : decode cX6_about 5 = .ok (.invokevirtual 76, 3) := by decide +kernel
theorem dX6_about_8 : decode cX6_about 8 = .ok (.ifCond .eq 12, 3) := by decide +kernel
theorem dX6_about_11 : decode cX6_about 11 = .ok (.iload_n 2, 1) := by decide +kernel
theorem dX6_about_12 : decode cX6_about 12 = .ok (.bipush 7, 2) := by decide +kernel
theorem dX6_about_14 : decode cX6_about 14 = .ok (.invokestatic 83, 3) := by decide +kernel
theorem dX6_about_17 : decode cX6_about 17 = .ok (.ifCond .ne 5, 3) := by decide +kernel
theorem dX6_about_22 : decode cX6_about 22 = .ok (.aload_n 0, 1) := by decide +kernel
theorem dX6_about_23 : decode cX6_about 23 = .ok (.getfield 19, 3) := by decide +kernel
theorem dX6_about_26 : decode cX6_about 26 = .ok (.getfield 66, 3) := by decide +kernel
theorem dX6_about_29 : decode cX6_about 29 = .ok (.iload_n 1, 1) := by decide +kernel
theorem dX6_about_30 : decode cX6_about 30 = .ok (.aaload, 1) := by decide +kernel
theorem dX6_about_31 : decode cX6_about 31 = .ok (.astore_n 3, 1) := by decide +kernel
theorem dX6_about_32 : decode cX6_about 32 = .ok (.iload_n 2, 1) := by decide +kernel
theorem dX6_about_33 : decode cX6_about 33 = .ok (.iconst 4, 1) := by decide +kernel
theorem dX6_about_34 : decode cX6_about 34 = .ok (.if_icmp .ge 10, 3) := by decide +kernel
theorem dX6_about_44 : decode cX6_about 44 = .ok (.iload_n 2, 1) := by decide +kernel
theorem dX6_about_45 : decode cX6_about 45 = .ok (.iconst 4, 1) := by decide +kernel
theorem dX6_about_46 : decode cX6_about 46 = .ok (.isub, 1) := by decide +kernel
theorem dX6_about_47 : decode cX6_about 47 = .ok (.tableswitch 50 0 2 #[25, 30, 42], 25) := by decide +kernel
theorem dX6_about_97 : decode cX6_about 97 = .ok (.aload_n 0, 1) := by decide +kernel
theorem dX6_about_98 : decode cX6_about 98 = .ok (.getfield 19, 3) := by decide +kernel
theorem dX6_about_101 : decode cX6_about 101 = .ok (.iload_n 1, 1) := by decide +kernel
theorem dX6_about_102 : decode cX6_about 102 = .ok (.invokevirtual 106, 3) := by decide +kernel
theorem dX6_about_105 : decode cX6_about 105 = .ok (.ifCond .eq 7, 3) := by decide +kernel
theorem dX6_about_108 : decode cX6_about 108 = .ok (.iconst 1, 1) := by decide +kernel
theorem dX6_about_109 : decode cX6_about 109 = .ok (.goto 4, 3) := by decide +kernel
theorem dX6_about_113 : decode cX6_about 113 = .ok (.ireturn, 1) := by decide +kernel
theorem dX6_about_112 : decode cX6_about 112 = .ok (.iconst 0, 1) := by decide +kernel
theorem dX6_about_72 : decode cX6_about 72 = .ok (.aload_n 3, 1) := by decide +kernel
theorem dX6_about_73 : decode cX6_about 73 = .ok (.getfield 96, 3) := by decide +kernel
theorem dX6_about_76 : decode cX6_about 76 = .ok (.ireturn, 1) := by decide +kernel
theorem dX6_about_77 : decode cX6_about 77 = .ok (.aload_n 3, 1) := by decide +kernel
theorem dX6_about_78 : decode cX6_about 78 = .ok (.aload_n 0, 1) := by decide +kernel
theorem dX6_about_79 : decode cX6_about 79 = .ok (.getfield 19, 3) := by decide +kernel
theorem dX6_about_82 : decode cX6_about 82 = .ok (.getfield 99, 3) := by decide +kernel
theorem dX6_about_85 : decode cX6_about 85 = .ok (.invokevirtual 102, 3) := by decide +kernel
theorem dX6_about_88 : decode cX6_about 88 = .ok (.ireturn, 1) := by decide +kernel
theorem dX6_about_89 : decode cX6_about 89 = .ok (.aload_n 3, 1) := by decide +kernel
theorem dX6_about_90 : decode cX6_about 90 = .ok (.getfield 70, 3) := by decide +kernel
theorem dX6_about_93 : decode cX6_about 93 = .ok (.getfield 80, 3) := by decide +kernel
theorem dX6_about_96 : decode cX6_about 96 = .ok (.ireturn, 1) := by decide +kernel
theorem dX6_about_37 : decode cX6_about 37 = .ok (.aload_n 3, 1) := by decide +kernel
theorem dX6_about_38 : decode cX6_about 38 = .ok (.getfield 93, 3) := by decide +kernel
theorem dX6_about_41 : decode cX6_about 41 = .ok (.iload_n 2, 1) := by decide +kernel
theorem dX6_about_42 : decode cX6_about 42 = .ok (.iaload, 1) := by decide +kernel
theorem dX6_about_43 : decode cX6_about 43 = .ok (.ireturn, 1) := by decide +kernel
theorem dX6_about_20 : decode cX6_about 20 = .ok (.iconst (-1), 1) := by decide +kernel
theorem dX6_about_21 : decode cX6_about 21 = .ok (.ireturn, 1) := by decide +kernel
theorem dX6_call_0 : decode cX6_call 0 = .ok (.aload_n 0, 1) := by decide +kernel
theorem dX6_call_1 : decode cX6_call 1 = .ok (.getfield 19, 3) := by decide +kernel
theorem dX6_call_4 : decode cX6_call 4 = .ok (.iload_n 1, 1) := by decide +kernel
theorem dX6_call_5 : decode cX6_call 5 = .ok (.invokevirtual 76, 3) := by decide +kernel
theorem dX6_call_8 : decode cX6_call 8 = .ok (.ifCond .ne 6, 3) := by decide +kernel
theorem dX6_call_14 : decode cX6_call 14 = .ok (.iload_n 2, 1) := by decide +kernel
theorem dX6_call_15 : decode cX6_call 15 = .ok (.sipush 999, 3) := by decide +kernel
theorem dX6_call_18 : decode cX6_call 18 = .ok (.invokestatic 83, 3) := by decide +kernel
theorem dX6_call_21 : decode cX6_call 21 = .ok (.ifCond .eq 22, 3) := by decide +kernel
theorem dX6_call_24 : decode cX6_call 24 = .ok (.iload_n 3, 1) := by decide +kernel
theorem dX6_call_25 : decode cX6_call 25 = .ok (.bipush 99, 2) := by decide +kernel
theorem dX6_call_27 : decode cX6_call 27 = .ok (.invokestatic 83, 3) := by decide +kernel
theorem dX6_call_30 : decode cX6_call 30 = .ok (.ifCond .eq 13, 3) := by decide +kernel
theorem dX6_call_33 : decode cX6_call 33 = .ok (.iload 4, 2) := by decide +kernel
theorem dX6_call_35 : decode cX6_call 35 = .ok (.bipush 99, 2) := by decide +kernel
theorem dX6_call_37 : decode cX6_call 37 = .ok (.invokestatic 83, 3) := by decide +kernel
theorem dX6_call_40 : decode cX6_call 40 = .ok (.ifCond .ne 6, 3) := by decide +kernel
theorem dX6_call_46 : decode cX6_call 46 = .ok (.aload_n 0, 1) := by decide +kernel
theorem dX6_call_47 : decode cX6_call 47 = .ok (.getfield 32, 3) := by decide +kernel
theorem dX6_call_50 : decode cX6_call 50 = .ok (.iload_n 1, 1) := by decide +kernel
theorem dX6_call_51 : decode cX6_call 51 = .ok (.iload_n 2, 1) := by decide +kernel
theorem dX6_call_52 : decode cX6_call 52 = .ok (.iload_n 3, 1) := by decide +kernel
theorem dX6_call_53 : decode cX6_call 53 = .ok (.invokevirtual 118, 3) := by decide +kernel
theorem dX6_call_56 : decode cX6_call 56 = .ok (.aload_n 0, 1) := by decide +kernel
theorem dX6_call_57 : decode cX6_call 57 = .ok (.getfield 19, 3) := by decide +kernel
theorem dX6_call_60 : decode cX6_call 60 = .ok (.iload_n 1, 1) := by decide +kernel
theorem dX6_call_61 : decode cX6_call 61 = .ok (.iload_n 2, 1) := by decide +kernel
theorem dX6_call_62 : decode cX6_call 62 = .ok (.iload_n 3, 1) := by decide +kernel
theorem dX6_call_63 : decode cX6_call 63 = .ok (.iload 4, 2) := by decide +kernel
theorem dX6_call_65 : decode cX6_call 65 = .ok (.invokevirtual 122, 3) := by decide +kernel
theorem dX6_call_68 : decode cX6_call 68 = .ok (.ireturn, 1) := by decide +kernel
theorem dX6_call_43 : decode cX6_call 43 = .ok (.bipush (-4), 2) := by decide +kernel
theorem dX6_call_45 : decode cX6_call 45 = .ok (.ireturn, 1) := by decide +kernel
theorem dX6_call_11 : decode cX6_call 11 = .ok (.bipush (-3), 2) := by decide +kernel
theorem dX6_call_13 : decode cX6_call 13 = .ok (.ireturn, 1) := by decide +kernel
theorem dX6_outside_0 : decode cX6_outside 0 = .ok (.iload_n 1, 1) := by decide +kernel
theorem dX6_outside_1 : decode cX6_outside 1 = .ok (.aload_n 0, 1) := by decide +kernel
theorem dX6_outside_2 : decode cX6_outside 2 = .ok (.getfield 19, 3) := by decide +kernel
theorem dX6_outside_5 : decode cX6_outside 5 = .ok (.getfield 126, 3) := by decide +kernel
theorem dX6_outside_8 : decode cX6_outside 8 = .ok (.bipush 40, 2) := by decide +kernel
theorem dX6_outside_10 : decode cX6_outside 10 = .ok (.invokestatic 129, 3) := by decide +kernel
theorem dX6_outside_13 : decode cX6_outside 13 = .ok (.iconst 1, 1) := by decide +kernel
theorem dX6_outside_14 : decode cX6_outside 14 = .ok (.isub, 1) := by decide +kernel
theorem dX6_outside_15 : decode cX6_outside 15 = .ok (.invokestatic 83, 3) := by decide +kernel
theorem dX6_outside_18 : decode cX6_outside 18 = .ok (.ifCond .ne 5, 3) := by decide +kernel
theorem dX6_outside_23 : decode cX6_outside 23 = .ok (.aload_n 0, 1) := by decide +kernel
theorem dX6_outside_24 : decode cX6_outside 24 = .ok (.getfield 19, 3) := by decide +kernel
theorem dX6_outside_27 : decode cX6_outside 27 = .ok (.getfield 135, 3) := by decide +kernel
theorem dX6_outside_30 : decode cX6_outside 30 = .ok (.aload_n 0, 1) := by decide +kernel
theorem dX6_outside_31 : decode cX6_outside 31 = .ok (.getfield 19, 3) := by decide +kernel
theorem dX6_outside_34 : decode cX6_outside 34 = .ok (.getfield 126, 3) := by decide +kernel
theorem dX6_outside_37 : decode cX6_outside 37 = .ok (.iconst 1, 1) := by decide +kernel
theorem dX6_outside_38 : decode cX6_outside 38 = .ok (.isub, 1) := by decide +kernel
theorem dX6_outside_39 : decode cX6_outside 39 = .ok (.iload_n 1, 1) := by decide +kernel
theorem dX6_outside_40 : decode cX6_outside 40 = .ok (.isub, 1) := by decide +kernel
theorem dX6_outside_41 : decode cX6_outside 41 = .ok (.sipush 511, 3) := by decide +kernel
theorem dX6_outside_44 : decode cX6_outside 44 = .ok (.iand, 1) := by decide +kernel
theorem dX6_outside_45 : decode cX6_outside 45 = .ok (.iaload, 1) := by decide +kernel
theorem dX6_outside_46 : decode cX6_outside 46 = .ok (.ireturn, 1) := by decide +kernel
theorem dX6_outside_21 : decode cX6_outside 21 = .ok (.iconst (-1), 1) := by decide +kernel
theorem dX6_outside_22 : decode cX6_outside 22 = .ok (.ireturn, 1) := by decide +kernel
abbrev md_i_bitCount : Nat → Nat → Bool := mdf []
set_option maxHeartbeats 4000000 in
set_option maxRecDepth 100000 in
theorem i_bitCount (l : Launch) (D : va_G) (cI cZ cS cR : ClassId) (N0 : NT) (g : GS) (hI : Inv g) (n : Int32)  : Ty l D cI cZ cS cR N0 yJ6_bitCount_0f7a4 cJ6_bitCount_0f7a4 1 (some .int) 0 0 0 [.int n] g (fun v g' => ∃ (r : Int32), v = some (.int r) ∧ g' = g) := by
  refine t_enter (by decide) (Nat.le_of_ble_eq_true rfl) ?_
  intro p e s m args below meth c ls H locs hB hr hin hl hT
  have hx := hB.1
  have hb := hB.2.1
  have hl : lv_has ls 1 [(0, .int n)] := hl
  have hE : Ex g g := Ex.rf
  have hM : Sm md_i_bitCount g g := Sm.rf
  refine lv_iload_n hx hb dJ6_bitCount_0f7a4_0 rfl (lv_at hl 0 rfl) ?_
  refine lv_iload_n hx hb dJ6_bitCount_0f7a4_1 rfl (lv_at hl 0 rfl) ?_
  refine lv_iconst (v := 1) hx hb dJ6_bitCount_0f7a4_2 (by decide) ?_
  refine lv_iushr hx hb dJ6_bitCount_0f7a4_3 rfl ?_
  refine lv_topi (fun z_1 ez_1 => ?_)
  refine lv_ldcw (v := 1431655765) hx hb hB.2.2.2.1 (hB.2.2.2.2.1 _ k_688) dJ6_bitCount_0f7a4_4 ?_
  refine lv_iand hx hb dJ6_bitCount_0f7a4_7 ?_
  refine lv_topi (fun z_2 ez_2 => ?_)
  refine lv_isub hx hb dJ6_bitCount_0f7a4_8 ?_
  refine lv_topi (fun z_3 ez_3 => ?_)
  refine lv_istore_n (lv' := [(0, .int z_3)]) hx hb dJ6_bitCount_0f7a4_9 rfl hl (by decide) rfl (fun ls hl => ?_)
  refine lv_iload_n hx hb dJ6_bitCount_0f7a4_10 rfl (lv_at hl 0 rfl) ?_
  refine lv_ldcw (v := 858993459) hx hb hB.2.2.2.1 (hB.2.2.2.2.1 _ k_689) dJ6_bitCount_0f7a4_11 ?_
  refine lv_iand hx hb dJ6_bitCount_0f7a4_14 ?_
  refine lv_topi (fun z_4 ez_4 => ?_)
  refine lv_iload_n hx hb dJ6_bitCount_0f7a4_15 rfl (lv_at hl 0 rfl) ?_
  refine lv_iconst (v := 2) hx hb dJ6_bitCount_0f7a4_16 (by decide) ?_
  refine lv_iushr hx hb dJ6_bitCount_0f7a4_17 rfl ?_
  refine lv_topi (fun z_5 ez_5 => ?_)
  refine lv_ldcw (v := 858993459) hx hb hB.2.2.2.1 (hB.2.2.2.2.1 _ k_689) dJ6_bitCount_0f7a4_18 ?_
  refine lv_iand hx hb dJ6_bitCount_0f7a4_21 ?_
  refine lv_topi (fun z_6 ez_6 => ?_)
  refine lv_iadd hx hb dJ6_bitCount_0f7a4_22 ?_
  refine lv_topi (fun z_7 ez_7 => ?_)
  refine lv_istore_n (lv' := [(0, .int z_7)]) hx hb dJ6_bitCount_0f7a4_23 rfl hl (by decide) rfl (fun ls hl => ?_)
  refine lv_iload_n hx hb dJ6_bitCount_0f7a4_24 rfl (lv_at hl 0 rfl) ?_
  refine lv_iload_n hx hb dJ6_bitCount_0f7a4_25 rfl (lv_at hl 0 rfl) ?_
  refine lv_iconst (v := 4) hx hb dJ6_bitCount_0f7a4_26 (by decide) ?_
  refine lv_iushr hx hb dJ6_bitCount_0f7a4_27 rfl ?_
  refine lv_topi (fun z_8 ez_8 => ?_)
  refine lv_iadd hx hb dJ6_bitCount_0f7a4_28 ?_
  refine lv_topi (fun z_9 ez_9 => ?_)
  refine lv_ldcw (v := 252645135) hx hb hB.2.2.2.1 (hB.2.2.2.2.1 _ k_690) dJ6_bitCount_0f7a4_29 ?_
  refine lv_iand hx hb dJ6_bitCount_0f7a4_32 ?_
  refine lv_topi (fun z_10 ez_10 => ?_)
  refine lv_istore_n (lv' := [(0, .int z_10)]) hx hb dJ6_bitCount_0f7a4_33 rfl hl (by decide) rfl (fun ls hl => ?_)
  refine lv_iload_n hx hb dJ6_bitCount_0f7a4_34 rfl (lv_at hl 0 rfl) ?_
  refine lv_iload_n hx hb dJ6_bitCount_0f7a4_35 rfl (lv_at hl 0 rfl) ?_
  refine lv_bipush (v := 8) hx hb dJ6_bitCount_0f7a4_36 (by decide) ?_
  refine lv_iushr hx hb dJ6_bitCount_0f7a4_38 rfl ?_
  refine lv_topi (fun z_11 ez_11 => ?_)
  refine lv_iadd hx hb dJ6_bitCount_0f7a4_39 ?_
  refine lv_topi (fun z_12 ez_12 => ?_)
  refine lv_istore_n (lv' := [(0, .int z_12)]) hx hb dJ6_bitCount_0f7a4_40 rfl hl (by decide) rfl (fun ls hl => ?_)
  refine lv_iload_n hx hb dJ6_bitCount_0f7a4_41 rfl (lv_at hl 0 rfl) ?_
  refine lv_iload_n hx hb dJ6_bitCount_0f7a4_42 rfl (lv_at hl 0 rfl) ?_
  refine lv_bipush (v := 16) hx hb dJ6_bitCount_0f7a4_43 (by decide) ?_
  refine lv_iushr hx hb dJ6_bitCount_0f7a4_45 rfl ?_
  refine lv_topi (fun z_13 ez_13 => ?_)
  refine lv_iadd hx hb dJ6_bitCount_0f7a4_46 ?_
  refine lv_topi (fun z_14 ez_14 => ?_)
  refine lv_istore_n (lv' := [(0, .int z_14)]) hx hb dJ6_bitCount_0f7a4_47 rfl hl (by decide) rfl (fun ls hl => ?_)
  refine lv_iload_n hx hb dJ6_bitCount_0f7a4_48 rfl (lv_at hl 0 rfl) ?_
  refine lv_bipush (v := 63) hx hb dJ6_bitCount_0f7a4_49 (by decide) ?_
  refine lv_iand hx hb dJ6_bitCount_0f7a4_51 ?_
  refine lv_topi (fun z_15 ez_15 => ?_)
  have e_z_15 := i_and 6 (b := 63) ez_15 (by decide) (by decide) (by decide)
  exact t_iret hB hr hT (Nat.le_of_ble_eq_true rfl) (Nat.le_of_ble_eq_true rfl) dJ6_bitCount_0f7a4_52 ⟨z_15, rfl, rfl⟩
abbrev md_i_numberOfTrailingZeros : Nat → Nat → Bool := mdf []
set_option maxHeartbeats 4000000 in
set_option maxRecDepth 100000 in
theorem i_numberOfTrailingZeros (l : Launch) (D : va_G) (cI cZ cS cR : ClassId) (N0 : NT) (g : GS) (hI : Inv g) (n : Int32)  : Ty l D cI cZ cS cR N0 yJ6_numberOfTrailingZeros_0f7a4 cJ6_numberOfTrailingZeros_0f7a4 2 (some .int) 0 0 0 [.int n] g (fun v g' => ∃ (r : Int32), v = some (.int r) ∧ g' = g) := by
  refine t_enter (by decide) (Nat.le_of_ble_eq_true rfl) ?_
  intro p e s m args below meth c ls H locs hB hr hin hl hT
  have hx := hB.1
  have hb := hB.2.1
  have hl : lv_has ls 2 [(0, .int n)] := hl
  have hE : Ex g g := Ex.rf
  have hM : Sm md_i_numberOfTrailingZeros g g := Sm.rf
  refine lv_iload_n hx hb dJ6_numberOfTrailingZeros_0f7a4_0 rfl (lv_at hl 0 rfl) ?_
  refine lv_iconst (v := (-1)) hx hb dJ6_numberOfTrailingZeros_0f7a4_1 (by decide) ?_
  refine lv_ixor hx hb dJ6_numberOfTrailingZeros_0f7a4_2 ?_
  refine lv_topi (fun z_1 ez_1 => ?_)
  refine lv_iload_n hx hb dJ6_numberOfTrailingZeros_0f7a4_3 rfl (lv_at hl 0 rfl) ?_
  refine lv_iconst (v := 1) hx hb dJ6_numberOfTrailingZeros_0f7a4_4 (by decide) ?_
  refine lv_isub hx hb dJ6_numberOfTrailingZeros_0f7a4_5 ?_
  refine lv_topi (fun z_2 ez_2 => ?_)
  refine lv_iand hx hb dJ6_numberOfTrailingZeros_0f7a4_6 ?_
  refine lv_topi (fun z_3 ez_3 => ?_)
  refine lv_istore_n (lv' := [(0, .int z_3)]) hx hb dJ6_numberOfTrailingZeros_0f7a4_7 rfl hl (by decide) rfl (fun ls hl => ?_)
  refine lv_iload_n hx hb dJ6_numberOfTrailingZeros_0f7a4_8 rfl (lv_at hl 0 rfl) ?_
  refine lv_if_gt (tgt := 17) hx hb dJ6_numberOfTrailingZeros_0f7a4_9 (by decide) (fun c_4 => ?_) (fun c_4 => ?_)
  · have c_4' : 0 < z_3.toInt := i_lt c_4 (by decide) rfl
    refine lv_iconst (v := 1) hx hb dJ6_numberOfTrailingZeros_0f7a4_17 (by decide) ?_
    refine lv_istore_n (lv' := [(1, .int 1), (0, .int z_3)]) hx hb dJ6_numberOfTrailingZeros_0f7a4_18 rfl hl (by decide) rfl (fun ls hl => ?_)
    refine lv_iload_n hx hb dJ6_numberOfTrailingZeros_0f7a4_19 rfl (lv_at hl 1 rfl) ?_
    refine lv_ldcw (v := 65536) hx hb hB.2.2.2.1 (hB.2.2.2.2.1 _ k_698) dJ6_numberOfTrailingZeros_0f7a4_20 ?_
    refine lv_icmp_le (tgt := 34) hx hb dJ6_numberOfTrailingZeros_0f7a4_23 (by decide) (fun c_5 => ?_) (fun c_5 => ?_)
    · have c_5' : z_3.toInt ≤ 65536 := i_le c_5 rfl (by decide)
      refine lv_iload_n hx hb dJ6_numberOfTrailingZeros_0f7a4_34 rfl (lv_at hl 1 rfl) ?_
      refine lv_sipush (v := 256) hx hb dJ6_numberOfTrailingZeros_0f7a4_35 (by decide) ?_
      refine lv_icmp_le (tgt := 49) hx hb dJ6_numberOfTrailingZeros_0f7a4_38 (by decide) (fun c_6 => ?_) (fun c_6 => ?_)
      · have c_6' : z_3.toInt ≤ 256 := i_le c_6 rfl (by decide)
        refine lv_iload_n hx hb dJ6_numberOfTrailingZeros_0f7a4_49 rfl (lv_at hl 1 rfl) ?_
        refine lv_bipush (v := 16) hx hb dJ6_numberOfTrailingZeros_0f7a4_50 (by decide) ?_
        refine lv_icmp_le (tgt := 62) hx hb dJ6_numberOfTrailingZeros_0f7a4_52 (by decide) (fun c_7 => ?_) (fun c_7 => ?_)
        · have c_7' : z_3.toInt ≤ 16 := i_le c_7 rfl (by decide)
          refine lv_iload_n hx hb dJ6_numberOfTrailingZeros_0f7a4_62 rfl (lv_at hl 1 rfl) ?_
          refine lv_iconst (v := 4) hx hb dJ6_numberOfTrailingZeros_0f7a4_63 (by decide) ?_
          refine lv_icmp_le (tgt := 74) hx hb dJ6_numberOfTrailingZeros_0f7a4_64 (by decide) (fun c_8 => ?_) (fun c_8 => ?_)
          · have c_8' : z_3.toInt ≤ 4 := i_le c_8 rfl (by decide)
            refine lv_iload_n hx hb dJ6_numberOfTrailingZeros_0f7a4_74 rfl (lv_at hl 0 rfl) ?_
            refine lv_iload_n hx hb dJ6_numberOfTrailingZeros_0f7a4_75 rfl (lv_at hl 1 rfl) ?_
            refine lv_iconst (v := 1) hx hb dJ6_numberOfTrailingZeros_0f7a4_76 (by decide) ?_
            refine lv_iushr hx hb dJ6_numberOfTrailingZeros_0f7a4_77 rfl ?_
            refine lv_topi (fun z_9 ez_9 => ?_)
            refine lv_iadd hx hb dJ6_numberOfTrailingZeros_0f7a4_78 ?_
            refine lv_topi (fun z_10 ez_10 => ?_)
            exact t_iret hB hr hT (Nat.le_of_ble_eq_true rfl) (Nat.le_of_ble_eq_true rfl) dJ6_numberOfTrailingZeros_0f7a4_79 ⟨z_10, rfl, rfl⟩
          · have c_8' : 4 < z_3.toInt := i_nle c_8 rfl (by decide)
            refine lv_iinc (v := 3) (lv' := [(1, .int 3), (0, .int z_3)]) hx hb dJ6_numberOfTrailingZeros_0f7a4_67 hl (k := 0) rfl (by decide) (by decide) rfl (fun ls hl => ?_)
            refine lv_iload_n hx hb dJ6_numberOfTrailingZeros_0f7a4_70 rfl (lv_at hl 1 rfl) ?_
            refine lv_iconst (v := 2) hx hb dJ6_numberOfTrailingZeros_0f7a4_71 (by decide) ?_
            refine lv_iushr hx hb dJ6_numberOfTrailingZeros_0f7a4_72 rfl ?_
            refine lv_topi (fun z_11 ez_11 => ?_)
            refine lv_istore_n (lv' := [(0, .int z_11), (1, .int 3)]) hx hb dJ6_numberOfTrailingZeros_0f7a4_73 rfl hl (by decide) rfl (fun ls hl => ?_)
            refine lv_iload_n hx hb dJ6_numberOfTrailingZeros_0f7a4_74 rfl (lv_at hl 1 rfl) ?_
            refine lv_iload_n hx hb dJ6_numberOfTrailingZeros_0f7a4_75 rfl (lv_at hl 0 rfl) ?_
            refine lv_iconst (v := 1) hx hb dJ6_numberOfTrailingZeros_0f7a4_76 (by decide) ?_
            refine lv_iushr hx hb dJ6_numberOfTrailingZeros_0f7a4_77 rfl ?_
            refine lv_topi (fun z_12 ez_12 => ?_)
            refine lv_iadd hx hb dJ6_numberOfTrailingZeros_0f7a4_78 ?_
            refine lv_topi (fun z_13 ez_13 => ?_)
            exact t_iret hB hr hT (Nat.le_of_ble_eq_true rfl) (Nat.le_of_ble_eq_true rfl) dJ6_numberOfTrailingZeros_0f7a4_79 ⟨z_13, rfl, rfl⟩
        · have c_7' : 16 < z_3.toInt := i_nle c_7 rfl (by decide)
          refine lv_iinc (v := 5) (lv' := [(1, .int 5), (0, .int z_3)]) hx hb dJ6_numberOfTrailingZeros_0f7a4_55 hl (k := 0) rfl (by decide) (by decide) rfl (fun ls hl => ?_)
          refine lv_iload_n hx hb dJ6_numberOfTrailingZeros_0f7a4_58 rfl (lv_at hl 1 rfl) ?_
          refine lv_iconst (v := 4) hx hb dJ6_numberOfTrailingZeros_0f7a4_59 (by decide) ?_
          refine lv_iushr hx hb dJ6_numberOfTrailingZeros_0f7a4_60 rfl ?_
          refine lv_topi (fun z_14 ez_14 => ?_)
          refine lv_istore_n (lv' := [(0, .int z_14), (1, .int 5)]) hx hb dJ6_numberOfTrailingZeros_0f7a4_61 rfl hl (by decide) rfl (fun ls hl => ?_)
          refine lv_iload_n hx hb dJ6_numberOfTrailingZeros_0f7a4_62 rfl (lv_at hl 0 rfl) ?_
          refine lv_iconst (v := 4) hx hb dJ6_numberOfTrailingZeros_0f7a4_63 (by decide) ?_
          refine lv_icmp_le (tgt := 74) hx hb dJ6_numberOfTrailingZeros_0f7a4_64 (by decide) (fun c_15 => ?_) (fun c_15 => ?_)
          · have c_15' : z_14.toInt ≤ 4 := i_le c_15 rfl (by decide)
            refine lv_iload_n hx hb dJ6_numberOfTrailingZeros_0f7a4_74 rfl (lv_at hl 1 rfl) ?_
            refine lv_iload_n hx hb dJ6_numberOfTrailingZeros_0f7a4_75 rfl (lv_at hl 0 rfl) ?_
            refine lv_iconst (v := 1) hx hb dJ6_numberOfTrailingZeros_0f7a4_76 (by decide) ?_
            refine lv_iushr hx hb dJ6_numberOfTrailingZeros_0f7a4_77 rfl ?_
            refine lv_topi (fun z_16 ez_16 => ?_)
            refine lv_iadd hx hb dJ6_numberOfTrailingZeros_0f7a4_78 ?_
            refine lv_topi (fun z_17 ez_17 => ?_)
            exact t_iret hB hr hT (Nat.le_of_ble_eq_true rfl) (Nat.le_of_ble_eq_true rfl) dJ6_numberOfTrailingZeros_0f7a4_79 ⟨z_17, rfl, rfl⟩
          · have c_15' : 4 < z_14.toInt := i_nle c_15 rfl (by decide)
            refine lv_iinc (v := 7) (lv' := [(1, .int 7), (0, .int z_14)]) hx hb dJ6_numberOfTrailingZeros_0f7a4_67 hl (k := 1) rfl (by decide) (by decide) rfl (fun ls hl => ?_)
            refine lv_iload_n hx hb dJ6_numberOfTrailingZeros_0f7a4_70 rfl (lv_at hl 1 rfl) ?_
            refine lv_iconst (v := 2) hx hb dJ6_numberOfTrailingZeros_0f7a4_71 (by decide) ?_
            refine lv_iushr hx hb dJ6_numberOfTrailingZeros_0f7a4_72 rfl ?_
            refine lv_topi (fun z_18 ez_18 => ?_)
            refine lv_istore_n (lv' := [(0, .int z_18), (1, .int 7)]) hx hb dJ6_numberOfTrailingZeros_0f7a4_73 rfl hl (by decide) rfl (fun ls hl => ?_)
            refine lv_iload_n hx hb dJ6_numberOfTrailingZeros_0f7a4_74 rfl (lv_at hl 1 rfl) ?_
            refine lv_iload_n hx hb dJ6_numberOfTrailingZeros_0f7a4_75 rfl (lv_at hl 0 rfl) ?_
            refine lv_iconst (v := 1) hx hb dJ6_numberOfTrailingZeros_0f7a4_76 (by decide) ?_
            refine lv_iushr hx hb dJ6_numberOfTrailingZeros_0f7a4_77 rfl ?_
            refine lv_topi (fun z_19 ez_19 => ?_)
            refine lv_iadd hx hb dJ6_numberOfTrailingZeros_0f7a4_78 ?_
            refine lv_topi (fun z_20 ez_20 => ?_)
            exact t_iret hB hr hT (Nat.le_of_ble_eq_true rfl) (Nat.le_of_ble_eq_true rfl) dJ6_numberOfTrailingZeros_0f7a4_79 ⟨z_20, rfl, rfl⟩
      · have c_6' : 256 < z_3.toInt := i_nle c_6 rfl (by decide)
        refine lv_iinc (v := 9) (lv' := [(1, .int 9), (0, .int z_3)]) hx hb dJ6_numberOfTrailingZeros_0f7a4_41 hl (k := 0) rfl (by decide) (by decide) rfl (fun ls hl => ?_)
        refine lv_iload_n hx hb dJ6_numberOfTrailingZeros_0f7a4_44 rfl (lv_at hl 1 rfl) ?_
        refine lv_bipush (v := 8) hx hb dJ6_numberOfTrailingZeros_0f7a4_45 (by decide) ?_
        refine lv_iushr hx hb dJ6_numberOfTrailingZeros_0f7a4_47 rfl ?_
        refine lv_topi (fun z_21 ez_21 => ?_)
        refine lv_istore_n (lv' := [(0, .int z_21), (1, .int 9)]) hx hb dJ6_numberOfTrailingZeros_0f7a4_48 rfl hl (by decide) rfl (fun ls hl => ?_)
        refine lv_iload_n hx hb dJ6_numberOfTrailingZeros_0f7a4_49 rfl (lv_at hl 0 rfl) ?_
        refine lv_bipush (v := 16) hx hb dJ6_numberOfTrailingZeros_0f7a4_50 (by decide) ?_
        refine lv_icmp_le (tgt := 62) hx hb dJ6_numberOfTrailingZeros_0f7a4_52 (by decide) (fun c_22 => ?_) (fun c_22 => ?_)
        · have c_22' : z_21.toInt ≤ 16 := i_le c_22 rfl (by decide)
          refine lv_iload_n hx hb dJ6_numberOfTrailingZeros_0f7a4_62 rfl (lv_at hl 0 rfl) ?_
          refine lv_iconst (v := 4) hx hb dJ6_numberOfTrailingZeros_0f7a4_63 (by decide) ?_
          refine lv_icmp_le (tgt := 74) hx hb dJ6_numberOfTrailingZeros_0f7a4_64 (by decide) (fun c_23 => ?_) (fun c_23 => ?_)
          · have c_23' : z_21.toInt ≤ 4 := i_le c_23 rfl (by decide)
            refine lv_iload_n hx hb dJ6_numberOfTrailingZeros_0f7a4_74 rfl (lv_at hl 1 rfl) ?_
            refine lv_iload_n hx hb dJ6_numberOfTrailingZeros_0f7a4_75 rfl (lv_at hl 0 rfl) ?_
            refine lv_iconst (v := 1) hx hb dJ6_numberOfTrailingZeros_0f7a4_76 (by decide) ?_
            refine lv_iushr hx hb dJ6_numberOfTrailingZeros_0f7a4_77 rfl ?_
            refine lv_topi (fun z_24 ez_24 => ?_)
            refine lv_iadd hx hb dJ6_numberOfTrailingZeros_0f7a4_78 ?_
            refine lv_topi (fun z_25 ez_25 => ?_)
            exact t_iret hB hr hT (Nat.le_of_ble_eq_true rfl) (Nat.le_of_ble_eq_true rfl) dJ6_numberOfTrailingZeros_0f7a4_79 ⟨z_25, rfl, rfl⟩
          · have c_23' : 4 < z_21.toInt := i_nle c_23 rfl (by decide)
            refine lv_iinc (v := 11) (lv' := [(1, .int 11), (0, .int z_21)]) hx hb dJ6_numberOfTrailingZeros_0f7a4_67 hl (k := 1) rfl (by decide) (by decide) rfl (fun ls hl => ?_)
            refine lv_iload_n hx hb dJ6_numberOfTrailingZeros_0f7a4_70 rfl (lv_at hl 1 rfl) ?_
            refine lv_iconst (v := 2) hx hb dJ6_numberOfTrailingZeros_0f7a4_71 (by decide) ?_
            refine lv_iushr hx hb dJ6_numberOfTrailingZeros_0f7a4_72 rfl ?_
            refine lv_topi (fun z_26 ez_26 => ?_)
            refine lv_istore_n (lv' := [(0, .int z_26), (1, .int 11)]) hx hb dJ6_numberOfTrailingZeros_0f7a4_73 rfl hl (by decide) rfl (fun ls hl => ?_)
            refine lv_iload_n hx hb dJ6_numberOfTrailingZeros_0f7a4_74 rfl (lv_at hl 1 rfl) ?_
            refine lv_iload_n hx hb dJ6_numberOfTrailingZeros_0f7a4_75 rfl (lv_at hl 0 rfl) ?_
            refine lv_iconst (v := 1) hx hb dJ6_numberOfTrailingZeros_0f7a4_76 (by decide) ?_
            refine lv_iushr hx hb dJ6_numberOfTrailingZeros_0f7a4_77 rfl ?_
            refine lv_topi (fun z_27 ez_27 => ?_)
            refine lv_iadd hx hb dJ6_numberOfTrailingZeros_0f7a4_78 ?_
            refine lv_topi (fun z_28 ez_28 => ?_)
            exact t_iret hB hr hT (Nat.le_of_ble_eq_true rfl) (Nat.le_of_ble_eq_true rfl) dJ6_numberOfTrailingZeros_0f7a4_79 ⟨z_28, rfl, rfl⟩
        · have c_22' : 16 < z_21.toInt := i_nle c_22 rfl (by decide)
          refine lv_iinc (v := 13) (lv' := [(1, .int 13), (0, .int z_21)]) hx hb dJ6_numberOfTrailingZeros_0f7a4_55 hl (k := 1) rfl (by decide) (by decide) rfl (fun ls hl => ?_)
          refine lv_iload_n hx hb dJ6_numberOfTrailingZeros_0f7a4_58 rfl (lv_at hl 1 rfl) ?_
          refine lv_iconst (v := 4) hx hb dJ6_numberOfTrailingZeros_0f7a4_59 (by decide) ?_
          refine lv_iushr hx hb dJ6_numberOfTrailingZeros_0f7a4_60 rfl ?_
          refine lv_topi (fun z_29 ez_29 => ?_)
          refine lv_istore_n (lv' := [(0, .int z_29), (1, .int 13)]) hx hb dJ6_numberOfTrailingZeros_0f7a4_61 rfl hl (by decide) rfl (fun ls hl => ?_)
          refine lv_iload_n hx hb dJ6_numberOfTrailingZeros_0f7a4_62 rfl (lv_at hl 0 rfl) ?_
          refine lv_iconst (v := 4) hx hb dJ6_numberOfTrailingZeros_0f7a4_63 (by decide) ?_
          refine lv_icmp_le (tgt := 74) hx hb dJ6_numberOfTrailingZeros_0f7a4_64 (by decide) (fun c_30 => ?_) (fun c_30 => ?_)
          · have c_30' : z_29.toInt ≤ 4 := i_le c_30 rfl (by decide)
            refine lv_iload_n hx hb dJ6_numberOfTrailingZeros_0f7a4_74 rfl (lv_at hl 1 rfl) ?_
            refine lv_iload_n hx hb dJ6_numberOfTrailingZeros_0f7a4_75 rfl (lv_at hl 0 rfl) ?_
            refine lv_iconst (v := 1) hx hb dJ6_numberOfTrailingZeros_0f7a4_76 (by decide) ?_
            refine lv_iushr hx hb dJ6_numberOfTrailingZeros_0f7a4_77 rfl ?_
            refine lv_topi (fun z_31 ez_31 => ?_)
            refine lv_iadd hx hb dJ6_numberOfTrailingZeros_0f7a4_78 ?_
            refine lv_topi (fun z_32 ez_32 => ?_)
            exact t_iret hB hr hT (Nat.le_of_ble_eq_true rfl) (Nat.le_of_ble_eq_true rfl) dJ6_numberOfTrailingZeros_0f7a4_79 ⟨z_32, rfl, rfl⟩
          · have c_30' : 4 < z_29.toInt := i_nle c_30 rfl (by decide)
            refine lv_iinc (v := 15) (lv' := [(1, .int 15), (0, .int z_29)]) hx hb dJ6_numberOfTrailingZeros_0f7a4_67 hl (k := 1) rfl (by decide) (by decide) rfl (fun ls hl => ?_)
            refine lv_iload_n hx hb dJ6_numberOfTrailingZeros_0f7a4_70 rfl (lv_at hl 1 rfl) ?_
            refine lv_iconst (v := 2) hx hb dJ6_numberOfTrailingZeros_0f7a4_71 (by decide) ?_
            refine lv_iushr hx hb dJ6_numberOfTrailingZeros_0f7a4_72 rfl ?_
            refine lv_topi (fun z_33 ez_33 => ?_)
            refine lv_istore_n (lv' := [(0, .int z_33), (1, .int 15)]) hx hb dJ6_numberOfTrailingZeros_0f7a4_73 rfl hl (by decide) rfl (fun ls hl => ?_)
            refine lv_iload_n hx hb dJ6_numberOfTrailingZeros_0f7a4_74 rfl (lv_at hl 1 rfl) ?_
            refine lv_iload_n hx hb dJ6_numberOfTrailingZeros_0f7a4_75 rfl (lv_at hl 0 rfl) ?_
            refine lv_iconst (v := 1) hx hb dJ6_numberOfTrailingZeros_0f7a4_76 (by decide) ?_
            refine lv_iushr hx hb dJ6_numberOfTrailingZeros_0f7a4_77 rfl ?_
            refine lv_topi (fun z_34 ez_34 => ?_)
            refine lv_iadd hx hb dJ6_numberOfTrailingZeros_0f7a4_78 ?_
            refine lv_topi (fun z_35 ez_35 => ?_)
            exact t_iret hB hr hT (Nat.le_of_ble_eq_true rfl) (Nat.le_of_ble_eq_true rfl) dJ6_numberOfTrailingZeros_0f7a4_79 ⟨z_35, rfl, rfl⟩
    · have c_5' : 65536 < z_3.toInt := i_nle c_5 rfl (by decide)
      refine lv_iinc (v := 17) (lv' := [(1, .int 17), (0, .int z_3)]) hx hb dJ6_numberOfTrailingZeros_0f7a4_26 hl (k := 0) rfl (by decide) (by decide) rfl (fun ls hl => ?_)
      refine lv_iload_n hx hb dJ6_numberOfTrailingZeros_0f7a4_29 rfl (lv_at hl 1 rfl) ?_
      refine lv_bipush (v := 16) hx hb dJ6_numberOfTrailingZeros_0f7a4_30 (by decide) ?_
      refine lv_iushr hx hb dJ6_numberOfTrailingZeros_0f7a4_32 rfl ?_
      refine lv_topi (fun z_36 ez_36 => ?_)
      refine lv_istore_n (lv' := [(0, .int z_36), (1, .int 17)]) hx hb dJ6_numberOfTrailingZeros_0f7a4_33 rfl hl (by decide) rfl (fun ls hl => ?_)
      refine lv_iload_n hx hb dJ6_numberOfTrailingZeros_0f7a4_34 rfl (lv_at hl 0 rfl) ?_
      refine lv_sipush (v := 256) hx hb dJ6_numberOfTrailingZeros_0f7a4_35 (by decide) ?_
      refine lv_icmp_le (tgt := 49) hx hb dJ6_numberOfTrailingZeros_0f7a4_38 (by decide) (fun c_37 => ?_) (fun c_37 => ?_)
      · have c_37' : z_36.toInt ≤ 256 := i_le c_37 rfl (by decide)
        refine lv_iload_n hx hb dJ6_numberOfTrailingZeros_0f7a4_49 rfl (lv_at hl 0 rfl) ?_
        refine lv_bipush (v := 16) hx hb dJ6_numberOfTrailingZeros_0f7a4_50 (by decide) ?_
        refine lv_icmp_le (tgt := 62) hx hb dJ6_numberOfTrailingZeros_0f7a4_52 (by decide) (fun c_38 => ?_) (fun c_38 => ?_)
        · have c_38' : z_36.toInt ≤ 16 := i_le c_38 rfl (by decide)
          refine lv_iload_n hx hb dJ6_numberOfTrailingZeros_0f7a4_62 rfl (lv_at hl 0 rfl) ?_
          refine lv_iconst (v := 4) hx hb dJ6_numberOfTrailingZeros_0f7a4_63 (by decide) ?_
          refine lv_icmp_le (tgt := 74) hx hb dJ6_numberOfTrailingZeros_0f7a4_64 (by decide) (fun c_39 => ?_) (fun c_39 => ?_)
          · have c_39' : z_36.toInt ≤ 4 := i_le c_39 rfl (by decide)
            refine lv_iload_n hx hb dJ6_numberOfTrailingZeros_0f7a4_74 rfl (lv_at hl 1 rfl) ?_
            refine lv_iload_n hx hb dJ6_numberOfTrailingZeros_0f7a4_75 rfl (lv_at hl 0 rfl) ?_
            refine lv_iconst (v := 1) hx hb dJ6_numberOfTrailingZeros_0f7a4_76 (by decide) ?_
            refine lv_iushr hx hb dJ6_numberOfTrailingZeros_0f7a4_77 rfl ?_
            refine lv_topi (fun z_40 ez_40 => ?_)
            refine lv_iadd hx hb dJ6_numberOfTrailingZeros_0f7a4_78 ?_
            refine lv_topi (fun z_41 ez_41 => ?_)
            exact t_iret hB hr hT (Nat.le_of_ble_eq_true rfl) (Nat.le_of_ble_eq_true rfl) dJ6_numberOfTrailingZeros_0f7a4_79 ⟨z_41, rfl, rfl⟩
          · have c_39' : 4 < z_36.toInt := i_nle c_39 rfl (by decide)
            refine lv_iinc (v := 19) (lv' := [(1, .int 19), (0, .int z_36)]) hx hb dJ6_numberOfTrailingZeros_0f7a4_67 hl (k := 1) rfl (by decide) (by decide) rfl (fun ls hl => ?_)
            refine lv_iload_n hx hb dJ6_numberOfTrailingZeros_0f7a4_70 rfl (lv_at hl 1 rfl) ?_
            refine lv_iconst (v := 2) hx hb dJ6_numberOfTrailingZeros_0f7a4_71 (by decide) ?_
            refine lv_iushr hx hb dJ6_numberOfTrailingZeros_0f7a4_72 rfl ?_
            refine lv_topi (fun z_42 ez_42 => ?_)
            refine lv_istore_n (lv' := [(0, .int z_42), (1, .int 19)]) hx hb dJ6_numberOfTrailingZeros_0f7a4_73 rfl hl (by decide) rfl (fun ls hl => ?_)
            refine lv_iload_n hx hb dJ6_numberOfTrailingZeros_0f7a4_74 rfl (lv_at hl 1 rfl) ?_
            refine lv_iload_n hx hb dJ6_numberOfTrailingZeros_0f7a4_75 rfl (lv_at hl 0 rfl) ?_
            refine lv_iconst (v := 1) hx hb dJ6_numberOfTrailingZeros_0f7a4_76 (by decide) ?_
            refine lv_iushr hx hb dJ6_numberOfTrailingZeros_0f7a4_77 rfl ?_
            refine lv_topi (fun z_43 ez_43 => ?_)
            refine lv_iadd hx hb dJ6_numberOfTrailingZeros_0f7a4_78 ?_
            refine lv_topi (fun z_44 ez_44 => ?_)
            exact t_iret hB hr hT (Nat.le_of_ble_eq_true rfl) (Nat.le_of_ble_eq_true rfl) dJ6_numberOfTrailingZeros_0f7a4_79 ⟨z_44, rfl, rfl⟩
        · have c_38' : 16 < z_36.toInt := i_nle c_38 rfl (by decide)
          refine lv_iinc (v := 21) (lv' := [(1, .int 21), (0, .int z_36)]) hx hb dJ6_numberOfTrailingZeros_0f7a4_55 hl (k := 1) rfl (by decide) (by decide) rfl (fun ls hl => ?_)
          refine lv_iload_n hx hb dJ6_numberOfTrailingZeros_0f7a4_58 rfl (lv_at hl 1 rfl) ?_
          refine lv_iconst (v := 4) hx hb dJ6_numberOfTrailingZeros_0f7a4_59 (by decide) ?_
          refine lv_iushr hx hb dJ6_numberOfTrailingZeros_0f7a4_60 rfl ?_
          refine lv_topi (fun z_45 ez_45 => ?_)
          refine lv_istore_n (lv' := [(0, .int z_45), (1, .int 21)]) hx hb dJ6_numberOfTrailingZeros_0f7a4_61 rfl hl (by decide) rfl (fun ls hl => ?_)
          refine lv_iload_n hx hb dJ6_numberOfTrailingZeros_0f7a4_62 rfl (lv_at hl 0 rfl) ?_
          refine lv_iconst (v := 4) hx hb dJ6_numberOfTrailingZeros_0f7a4_63 (by decide) ?_
          refine lv_icmp_le (tgt := 74) hx hb dJ6_numberOfTrailingZeros_0f7a4_64 (by decide) (fun c_46 => ?_) (fun c_46 => ?_)
          · have c_46' : z_45.toInt ≤ 4 := i_le c_46 rfl (by decide)
            refine lv_iload_n hx hb dJ6_numberOfTrailingZeros_0f7a4_74 rfl (lv_at hl 1 rfl) ?_
            refine lv_iload_n hx hb dJ6_numberOfTrailingZeros_0f7a4_75 rfl (lv_at hl 0 rfl) ?_
            refine lv_iconst (v := 1) hx hb dJ6_numberOfTrailingZeros_0f7a4_76 (by decide) ?_
            refine lv_iushr hx hb dJ6_numberOfTrailingZeros_0f7a4_77 rfl ?_
            refine lv_topi (fun z_47 ez_47 => ?_)
            refine lv_iadd hx hb dJ6_numberOfTrailingZeros_0f7a4_78 ?_
            refine lv_topi (fun z_48 ez_48 => ?_)
            exact t_iret hB hr hT (Nat.le_of_ble_eq_true rfl) (Nat.le_of_ble_eq_true rfl) dJ6_numberOfTrailingZeros_0f7a4_79 ⟨z_48, rfl, rfl⟩
          · have c_46' : 4 < z_45.toInt := i_nle c_46 rfl (by decide)
            refine lv_iinc (v := 23) (lv' := [(1, .int 23), (0, .int z_45)]) hx hb dJ6_numberOfTrailingZeros_0f7a4_67 hl (k := 1) rfl (by decide) (by decide) rfl (fun ls hl => ?_)
            refine lv_iload_n hx hb dJ6_numberOfTrailingZeros_0f7a4_70 rfl (lv_at hl 1 rfl) ?_
            refine lv_iconst (v := 2) hx hb dJ6_numberOfTrailingZeros_0f7a4_71 (by decide) ?_
            refine lv_iushr hx hb dJ6_numberOfTrailingZeros_0f7a4_72 rfl ?_
            refine lv_topi (fun z_49 ez_49 => ?_)
            refine lv_istore_n (lv' := [(0, .int z_49), (1, .int 23)]) hx hb dJ6_numberOfTrailingZeros_0f7a4_73 rfl hl (by decide) rfl (fun ls hl => ?_)
            refine lv_iload_n hx hb dJ6_numberOfTrailingZeros_0f7a4_74 rfl (lv_at hl 1 rfl) ?_
            refine lv_iload_n hx hb dJ6_numberOfTrailingZeros_0f7a4_75 rfl (lv_at hl 0 rfl) ?_
            refine lv_iconst (v := 1) hx hb dJ6_numberOfTrailingZeros_0f7a4_76 (by decide) ?_
            refine lv_iushr hx hb dJ6_numberOfTrailingZeros_0f7a4_77 rfl ?_
            refine lv_topi (fun z_50 ez_50 => ?_)
            refine lv_iadd hx hb dJ6_numberOfTrailingZeros_0f7a4_78 ?_
            refine lv_topi (fun z_51 ez_51 => ?_)
            exact t_iret hB hr hT (Nat.le_of_ble_eq_true rfl) (Nat.le_of_ble_eq_true rfl) dJ6_numberOfTrailingZeros_0f7a4_79 ⟨z_51, rfl, rfl⟩
      · have c_37' : 256 < z_36.toInt := i_nle c_37 rfl (by decide)
        refine lv_iinc (v := 25) (lv' := [(1, .int 25), (0, .int z_36)]) hx hb dJ6_numberOfTrailingZeros_0f7a4_41 hl (k := 1) rfl (by decide) (by decide) rfl (fun ls hl => ?_)
        refine lv_iload_n hx hb dJ6_numberOfTrailingZeros_0f7a4_44 rfl (lv_at hl 1 rfl) ?_
        refine lv_bipush (v := 8) hx hb dJ6_numberOfTrailingZeros_0f7a4_45 (by decide) ?_
        refine lv_iushr hx hb dJ6_numberOfTrailingZeros_0f7a4_47 rfl ?_
        refine lv_topi (fun z_52 ez_52 => ?_)
        refine lv_istore_n (lv' := [(0, .int z_52), (1, .int 25)]) hx hb dJ6_numberOfTrailingZeros_0f7a4_48 rfl hl (by decide) rfl (fun ls hl => ?_)
        refine lv_iload_n hx hb dJ6_numberOfTrailingZeros_0f7a4_49 rfl (lv_at hl 0 rfl) ?_
        refine lv_bipush (v := 16) hx hb dJ6_numberOfTrailingZeros_0f7a4_50 (by decide) ?_
        refine lv_icmp_le (tgt := 62) hx hb dJ6_numberOfTrailingZeros_0f7a4_52 (by decide) (fun c_53 => ?_) (fun c_53 => ?_)
        · have c_53' : z_52.toInt ≤ 16 := i_le c_53 rfl (by decide)
          refine lv_iload_n hx hb dJ6_numberOfTrailingZeros_0f7a4_62 rfl (lv_at hl 0 rfl) ?_
          refine lv_iconst (v := 4) hx hb dJ6_numberOfTrailingZeros_0f7a4_63 (by decide) ?_
          refine lv_icmp_le (tgt := 74) hx hb dJ6_numberOfTrailingZeros_0f7a4_64 (by decide) (fun c_54 => ?_) (fun c_54 => ?_)
          · have c_54' : z_52.toInt ≤ 4 := i_le c_54 rfl (by decide)
            refine lv_iload_n hx hb dJ6_numberOfTrailingZeros_0f7a4_74 rfl (lv_at hl 1 rfl) ?_
            refine lv_iload_n hx hb dJ6_numberOfTrailingZeros_0f7a4_75 rfl (lv_at hl 0 rfl) ?_
            refine lv_iconst (v := 1) hx hb dJ6_numberOfTrailingZeros_0f7a4_76 (by decide) ?_
            refine lv_iushr hx hb dJ6_numberOfTrailingZeros_0f7a4_77 rfl ?_
            refine lv_topi (fun z_55 ez_55 => ?_)
            refine lv_iadd hx hb dJ6_numberOfTrailingZeros_0f7a4_78 ?_
            refine lv_topi (fun z_56 ez_56 => ?_)
            exact t_iret hB hr hT (Nat.le_of_ble_eq_true rfl) (Nat.le_of_ble_eq_true rfl) dJ6_numberOfTrailingZeros_0f7a4_79 ⟨z_56, rfl, rfl⟩
          · have c_54' : 4 < z_52.toInt := i_nle c_54 rfl (by decide)
            refine lv_iinc (v := 27) (lv' := [(1, .int 27), (0, .int z_52)]) hx hb dJ6_numberOfTrailingZeros_0f7a4_67 hl (k := 1) rfl (by decide) (by decide) rfl (fun ls hl => ?_)
            refine lv_iload_n hx hb dJ6_numberOfTrailingZeros_0f7a4_70 rfl (lv_at hl 1 rfl) ?_
            refine lv_iconst (v := 2) hx hb dJ6_numberOfTrailingZeros_0f7a4_71 (by decide) ?_
            refine lv_iushr hx hb dJ6_numberOfTrailingZeros_0f7a4_72 rfl ?_
            refine lv_topi (fun z_57 ez_57 => ?_)
            refine lv_istore_n (lv' := [(0, .int z_57), (1, .int 27)]) hx hb dJ6_numberOfTrailingZeros_0f7a4_73 rfl hl (by decide) rfl (fun ls hl => ?_)
            refine lv_iload_n hx hb dJ6_numberOfTrailingZeros_0f7a4_74 rfl (lv_at hl 1 rfl) ?_
            refine lv_iload_n hx hb dJ6_numberOfTrailingZeros_0f7a4_75 rfl (lv_at hl 0 rfl) ?_
            refine lv_iconst (v := 1) hx hb dJ6_numberOfTrailingZeros_0f7a4_76 (by decide) ?_
            refine lv_iushr hx hb dJ6_numberOfTrailingZeros_0f7a4_77 rfl ?_
            refine lv_topi (fun z_58 ez_58 => ?_)
            refine lv_iadd hx hb dJ6_numberOfTrailingZeros_0f7a4_78 ?_
            refine lv_topi (fun z_59 ez_59 => ?_)
            exact t_iret hB hr hT (Nat.le_of_ble_eq_true rfl) (Nat.le_of_ble_eq_true rfl) dJ6_numberOfTrailingZeros_0f7a4_79 ⟨z_59, rfl, rfl⟩
        · have c_53' : 16 < z_52.toInt := i_nle c_53 rfl (by decide)
          refine lv_iinc (v := 29) (lv' := [(1, .int 29), (0, .int z_52)]) hx hb dJ6_numberOfTrailingZeros_0f7a4_55 hl (k := 1) rfl (by decide) (by decide) rfl (fun ls hl => ?_)
          refine lv_iload_n hx hb dJ6_numberOfTrailingZeros_0f7a4_58 rfl (lv_at hl 1 rfl) ?_
          refine lv_iconst (v := 4) hx hb dJ6_numberOfTrailingZeros_0f7a4_59 (by decide) ?_
          refine lv_iushr hx hb dJ6_numberOfTrailingZeros_0f7a4_60 rfl ?_
          refine lv_topi (fun z_60 ez_60 => ?_)
          refine lv_istore_n (lv' := [(0, .int z_60), (1, .int 29)]) hx hb dJ6_numberOfTrailingZeros_0f7a4_61 rfl hl (by decide) rfl (fun ls hl => ?_)
          refine lv_iload_n hx hb dJ6_numberOfTrailingZeros_0f7a4_62 rfl (lv_at hl 0 rfl) ?_
          refine lv_iconst (v := 4) hx hb dJ6_numberOfTrailingZeros_0f7a4_63 (by decide) ?_
          refine lv_icmp_le (tgt := 74) hx hb dJ6_numberOfTrailingZeros_0f7a4_64 (by decide) (fun c_61 => ?_) (fun c_61 => ?_)
          · have c_61' : z_60.toInt ≤ 4 := i_le c_61 rfl (by decide)
            refine lv_iload_n hx hb dJ6_numberOfTrailingZeros_0f7a4_74 rfl (lv_at hl 1 rfl) ?_
            refine lv_iload_n hx hb dJ6_numberOfTrailingZeros_0f7a4_75 rfl (lv_at hl 0 rfl) ?_
            refine lv_iconst (v := 1) hx hb dJ6_numberOfTrailingZeros_0f7a4_76 (by decide) ?_
            refine lv_iushr hx hb dJ6_numberOfTrailingZeros_0f7a4_77 rfl ?_
            refine lv_topi (fun z_62 ez_62 => ?_)
            refine lv_iadd hx hb dJ6_numberOfTrailingZeros_0f7a4_78 ?_
            refine lv_topi (fun z_63 ez_63 => ?_)
            exact t_iret hB hr hT (Nat.le_of_ble_eq_true rfl) (Nat.le_of_ble_eq_true rfl) dJ6_numberOfTrailingZeros_0f7a4_79 ⟨z_63, rfl, rfl⟩
          · have c_61' : 4 < z_60.toInt := i_nle c_61 rfl (by decide)
            refine lv_iinc (v := 31) (lv' := [(1, .int 31), (0, .int z_60)]) hx hb dJ6_numberOfTrailingZeros_0f7a4_67 hl (k := 1) rfl (by decide) (by decide) rfl (fun ls hl => ?_)
            refine lv_iload_n hx hb dJ6_numberOfTrailingZeros_0f7a4_70 rfl (lv_at hl 1 rfl) ?_
            refine lv_iconst (v := 2) hx hb dJ6_numberOfTrailingZeros_0f7a4_71 (by decide) ?_
            refine lv_iushr hx hb dJ6_numberOfTrailingZeros_0f7a4_72 rfl ?_
            refine lv_topi (fun z_64 ez_64 => ?_)
            refine lv_istore_n (lv' := [(0, .int z_64), (1, .int 31)]) hx hb dJ6_numberOfTrailingZeros_0f7a4_73 rfl hl (by decide) rfl (fun ls hl => ?_)
            refine lv_iload_n hx hb dJ6_numberOfTrailingZeros_0f7a4_74 rfl (lv_at hl 1 rfl) ?_
            refine lv_iload_n hx hb dJ6_numberOfTrailingZeros_0f7a4_75 rfl (lv_at hl 0 rfl) ?_
            refine lv_iconst (v := 1) hx hb dJ6_numberOfTrailingZeros_0f7a4_76 (by decide) ?_
            refine lv_iushr hx hb dJ6_numberOfTrailingZeros_0f7a4_77 rfl ?_
            refine lv_topi (fun z_65 ez_65 => ?_)
            refine lv_iadd hx hb dJ6_numberOfTrailingZeros_0f7a4_78 ?_
            refine lv_topi (fun z_66 ez_66 => ?_)
            exact t_iret hB hr hT (Nat.le_of_ble_eq_true rfl) (Nat.le_of_ble_eq_true rfl) dJ6_numberOfTrailingZeros_0f7a4_79 ⟨z_66, rfl, rfl⟩
  · have c_4' : z_3.toInt ≤ 0 := i_nlt c_4 (by decide) rfl
    refine lv_iload_n hx hb dJ6_numberOfTrailingZeros_0f7a4_12 rfl (lv_at hl 0 rfl) ?_
    refine lv_bipush (v := 32) hx hb dJ6_numberOfTrailingZeros_0f7a4_13 (by decide) ?_
    refine lv_iand hx hb dJ6_numberOfTrailingZeros_0f7a4_15 ?_
    refine lv_topi (fun z_67 ez_67 => ?_)
    exact t_iret hB hr hT (Nat.le_of_ble_eq_true rfl) (Nat.le_of_ble_eq_true rfl) dJ6_numberOfTrailingZeros_0f7a4_16 ⟨z_67, rfl, rfl⟩
abbrev md_i_numberOfLeadingZeros : Nat → Nat → Bool := mdf []
set_option maxHeartbeats 4000000 in
set_option maxRecDepth 100000 in
theorem i_numberOfLeadingZeros (l : Launch) (D : va_G) (cI cZ cS cR : ClassId) (N0 : NT) (g : GS) (hI : Inv g) (n : Int32)  : Ty l D cI cZ cS cR N0 yJ6_numberOfLeadingZeros_0f7a4 cJ6_numberOfLeadingZeros_0f7a4 2 (some .int) 0 0 0 [.int n] g (fun v g' => ∃ (r : Int32), v = some (.int r) ∧ g' = g) := by
  refine t_enter (by decide) (Nat.le_of_ble_eq_true rfl) ?_
  intro p e s m args below meth c ls H locs hB hr hin hl hT
  have hx := hB.1
  have hb := hB.2.1
  have hl : lv_has ls 2 [(0, .int n)] := hl
  have hE : Ex g g := Ex.rf
  have hM : Sm md_i_numberOfLeadingZeros g g := Sm.rf
  refine lv_iload_n hx hb dJ6_numberOfLeadingZeros_0f7a4_0 rfl (lv_at hl 0 rfl) ?_
  refine lv_if_gt (tgt := 15) hx hb dJ6_numberOfLeadingZeros_0f7a4_1 (by decide) (fun c_1 => ?_) (fun c_1 => ?_)
  · have c_1' : 0 < n.toInt := i_lt c_1 (by decide) rfl
    refine lv_bipush (v := 31) hx hb dJ6_numberOfLeadingZeros_0f7a4_15 (by decide) ?_
    refine lv_istore_n (lv' := [(1, .int 31), (0, .int n)]) hx hb dJ6_numberOfLeadingZeros_0f7a4_17 rfl hl (by decide) rfl (fun ls hl => ?_)
    refine lv_iload_n hx hb dJ6_numberOfLeadingZeros_0f7a4_18 rfl (lv_at hl 1 rfl) ?_
    refine lv_ldcw (v := 65536) hx hb hB.2.2.2.1 (hB.2.2.2.2.1 _ k_698) dJ6_numberOfLeadingZeros_0f7a4_19 ?_
    refine lv_icmp_lt (tgt := 33) hx hb dJ6_numberOfLeadingZeros_0f7a4_22 (by decide) (fun c_2 => ?_) (fun c_2 => ?_)
    · have c_2' : n.toInt < 65536 := i_lt c_2 rfl (by decide)
      refine lv_iload_n hx hb dJ6_numberOfLeadingZeros_0f7a4_33 rfl (lv_at hl 1 rfl) ?_
      refine lv_sipush (v := 256) hx hb dJ6_numberOfLeadingZeros_0f7a4_34 (by decide) ?_
      refine lv_icmp_lt (tgt := 48) hx hb dJ6_numberOfLeadingZeros_0f7a4_37 (by decide) (fun c_3 => ?_) (fun c_3 => ?_)
      · have c_3' : n.toInt < 256 := i_lt c_3 rfl (by decide)
        refine lv_iload_n hx hb dJ6_numberOfLeadingZeros_0f7a4_48 rfl (lv_at hl 1 rfl) ?_
        refine lv_bipush (v := 16) hx hb dJ6_numberOfLeadingZeros_0f7a4_49 (by decide) ?_
        refine lv_icmp_lt (tgt := 61) hx hb dJ6_numberOfLeadingZeros_0f7a4_51 (by decide) (fun c_4 => ?_) (fun c_4 => ?_)
        · have c_4' : n.toInt < 16 := i_lt c_4 rfl (by decide)
          refine lv_iload_n hx hb dJ6_numberOfLeadingZeros_0f7a4_61 rfl (lv_at hl 1 rfl) ?_
          refine lv_iconst (v := 4) hx hb dJ6_numberOfLeadingZeros_0f7a4_62 (by decide) ?_
          refine lv_icmp_lt (tgt := 73) hx hb dJ6_numberOfLeadingZeros_0f7a4_63 (by decide) (fun c_5 => ?_) (fun c_5 => ?_)
          · have c_5' : n.toInt < 4 := i_lt c_5 rfl (by decide)
            refine lv_iload_n hx hb dJ6_numberOfLeadingZeros_0f7a4_73 rfl (lv_at hl 0 rfl) ?_
            refine lv_iload_n hx hb dJ6_numberOfLeadingZeros_0f7a4_74 rfl (lv_at hl 1 rfl) ?_
            refine lv_iconst (v := 1) hx hb dJ6_numberOfLeadingZeros_0f7a4_75 (by decide) ?_
            refine lv_iushr hx hb dJ6_numberOfLeadingZeros_0f7a4_76 rfl ?_
            refine lv_topi (fun z_6 ez_6 => ?_)
            refine lv_isub hx hb dJ6_numberOfLeadingZeros_0f7a4_77 ?_
            refine lv_topi (fun z_7 ez_7 => ?_)
            exact t_iret hB hr hT (Nat.le_of_ble_eq_true rfl) (Nat.le_of_ble_eq_true rfl) dJ6_numberOfLeadingZeros_0f7a4_78 ⟨z_7, rfl, rfl⟩
          · have c_5' : 4 ≤ n.toInt := i_nlt c_5 rfl (by decide)
            refine lv_iinc (v := 29) (lv' := [(1, .int 29), (0, .int n)]) hx hb dJ6_numberOfLeadingZeros_0f7a4_66 hl (k := 0) rfl (by decide) (by decide) rfl (fun ls hl => ?_)
            refine lv_iload_n hx hb dJ6_numberOfLeadingZeros_0f7a4_69 rfl (lv_at hl 1 rfl) ?_
            refine lv_iconst (v := 2) hx hb dJ6_numberOfLeadingZeros_0f7a4_70 (by decide) ?_
            refine lv_iushr hx hb dJ6_numberOfLeadingZeros_0f7a4_71 rfl ?_
            refine lv_topi (fun z_8 ez_8 => ?_)
            refine lv_istore_n (lv' := [(0, .int z_8), (1, .int 29)]) hx hb dJ6_numberOfLeadingZeros_0f7a4_72 rfl hl (by decide) rfl (fun ls hl => ?_)
            refine lv_iload_n hx hb dJ6_numberOfLeadingZeros_0f7a4_73 rfl (lv_at hl 1 rfl) ?_
            refine lv_iload_n hx hb dJ6_numberOfLeadingZeros_0f7a4_74 rfl (lv_at hl 0 rfl) ?_
            refine lv_iconst (v := 1) hx hb dJ6_numberOfLeadingZeros_0f7a4_75 (by decide) ?_
            refine lv_iushr hx hb dJ6_numberOfLeadingZeros_0f7a4_76 rfl ?_
            refine lv_topi (fun z_9 ez_9 => ?_)
            refine lv_isub hx hb dJ6_numberOfLeadingZeros_0f7a4_77 ?_
            refine lv_topi (fun z_10 ez_10 => ?_)
            exact t_iret hB hr hT (Nat.le_of_ble_eq_true rfl) (Nat.le_of_ble_eq_true rfl) dJ6_numberOfLeadingZeros_0f7a4_78 ⟨z_10, rfl, rfl⟩
        · have c_4' : 16 ≤ n.toInt := i_nlt c_4 rfl (by decide)
          refine lv_iinc (v := 27) (lv' := [(1, .int 27), (0, .int n)]) hx hb dJ6_numberOfLeadingZeros_0f7a4_54 hl (k := 0) rfl (by decide) (by decide) rfl (fun ls hl => ?_)
          refine lv_iload_n hx hb dJ6_numberOfLeadingZeros_0f7a4_57 rfl (lv_at hl 1 rfl) ?_
          refine lv_iconst (v := 4) hx hb dJ6_numberOfLeadingZeros_0f7a4_58 (by decide) ?_
          refine lv_iushr hx hb dJ6_numberOfLeadingZeros_0f7a4_59 rfl ?_
          refine lv_topi (fun z_11 ez_11 => ?_)
          refine lv_istore_n (lv' := [(0, .int z_11), (1, .int 27)]) hx hb dJ6_numberOfLeadingZeros_0f7a4_60 rfl hl (by decide) rfl (fun ls hl => ?_)
          refine lv_iload_n hx hb dJ6_numberOfLeadingZeros_0f7a4_61 rfl (lv_at hl 0 rfl) ?_
          refine lv_iconst (v := 4) hx hb dJ6_numberOfLeadingZeros_0f7a4_62 (by decide) ?_
          refine lv_icmp_lt (tgt := 73) hx hb dJ6_numberOfLeadingZeros_0f7a4_63 (by decide) (fun c_12 => ?_) (fun c_12 => ?_)
          · have c_12' : z_11.toInt < 4 := i_lt c_12 rfl (by decide)
            refine lv_iload_n hx hb dJ6_numberOfLeadingZeros_0f7a4_73 rfl (lv_at hl 1 rfl) ?_
            refine lv_iload_n hx hb dJ6_numberOfLeadingZeros_0f7a4_74 rfl (lv_at hl 0 rfl) ?_
            refine lv_iconst (v := 1) hx hb dJ6_numberOfLeadingZeros_0f7a4_75 (by decide) ?_
            refine lv_iushr hx hb dJ6_numberOfLeadingZeros_0f7a4_76 rfl ?_
            refine lv_topi (fun z_13 ez_13 => ?_)
            refine lv_isub hx hb dJ6_numberOfLeadingZeros_0f7a4_77 ?_
            refine lv_topi (fun z_14 ez_14 => ?_)
            exact t_iret hB hr hT (Nat.le_of_ble_eq_true rfl) (Nat.le_of_ble_eq_true rfl) dJ6_numberOfLeadingZeros_0f7a4_78 ⟨z_14, rfl, rfl⟩
          · have c_12' : 4 ≤ z_11.toInt := i_nlt c_12 rfl (by decide)
            refine lv_iinc (v := 25) (lv' := [(1, .int 25), (0, .int z_11)]) hx hb dJ6_numberOfLeadingZeros_0f7a4_66 hl (k := 1) rfl (by decide) (by decide) rfl (fun ls hl => ?_)
            refine lv_iload_n hx hb dJ6_numberOfLeadingZeros_0f7a4_69 rfl (lv_at hl 1 rfl) ?_
            refine lv_iconst (v := 2) hx hb dJ6_numberOfLeadingZeros_0f7a4_70 (by decide) ?_
            refine lv_iushr hx hb dJ6_numberOfLeadingZeros_0f7a4_71 rfl ?_
            refine lv_topi (fun z_15 ez_15 => ?_)
            refine lv_istore_n (lv' := [(0, .int z_15), (1, .int 25)]) hx hb dJ6_numberOfLeadingZeros_0f7a4_72 rfl hl (by decide) rfl (fun ls hl => ?_)
            refine lv_iload_n hx hb dJ6_numberOfLeadingZeros_0f7a4_73 rfl (lv_at hl 1 rfl) ?_
            refine lv_iload_n hx hb dJ6_numberOfLeadingZeros_0f7a4_74 rfl (lv_at hl 0 rfl) ?_
            refine lv_iconst (v := 1) hx hb dJ6_numberOfLeadingZeros_0f7a4_75 (by decide) ?_
            refine lv_iushr hx hb dJ6_numberOfLeadingZeros_0f7a4_76 rfl ?_
            refine lv_topi (fun z_16 ez_16 => ?_)
            refine lv_isub hx hb dJ6_numberOfLeadingZeros_0f7a4_77 ?_
            refine lv_topi (fun z_17 ez_17 => ?_)
            exact t_iret hB hr hT (Nat.le_of_ble_eq_true rfl) (Nat.le_of_ble_eq_true rfl) dJ6_numberOfLeadingZeros_0f7a4_78 ⟨z_17, rfl, rfl⟩
      · have c_3' : 256 ≤ n.toInt := i_nlt c_3 rfl (by decide)
        refine lv_iinc (v := 23) (lv' := [(1, .int 23), (0, .int n)]) hx hb dJ6_numberOfLeadingZeros_0f7a4_40 hl (k := 0) rfl (by decide) (by decide) rfl (fun ls hl => ?_)
        refine lv_iload_n hx hb dJ6_numberOfLeadingZeros_0f7a4_43 rfl (lv_at hl 1 rfl) ?_
        refine lv_bipush (v := 8) hx hb dJ6_numberOfLeadingZeros_0f7a4_44 (by decide) ?_
        refine lv_iushr hx hb dJ6_numberOfLeadingZeros_0f7a4_46 rfl ?_
        refine lv_topi (fun z_18 ez_18 => ?_)
        refine lv_istore_n (lv' := [(0, .int z_18), (1, .int 23)]) hx hb dJ6_numberOfLeadingZeros_0f7a4_47 rfl hl (by decide) rfl (fun ls hl => ?_)
        refine lv_iload_n hx hb dJ6_numberOfLeadingZeros_0f7a4_48 rfl (lv_at hl 0 rfl) ?_
        refine lv_bipush (v := 16) hx hb dJ6_numberOfLeadingZeros_0f7a4_49 (by decide) ?_
        refine lv_icmp_lt (tgt := 61) hx hb dJ6_numberOfLeadingZeros_0f7a4_51 (by decide) (fun c_19 => ?_) (fun c_19 => ?_)
        · have c_19' : z_18.toInt < 16 := i_lt c_19 rfl (by decide)
          refine lv_iload_n hx hb dJ6_numberOfLeadingZeros_0f7a4_61 rfl (lv_at hl 0 rfl) ?_
          refine lv_iconst (v := 4) hx hb dJ6_numberOfLeadingZeros_0f7a4_62 (by decide) ?_
          refine lv_icmp_lt (tgt := 73) hx hb dJ6_numberOfLeadingZeros_0f7a4_63 (by decide) (fun c_20 => ?_) (fun c_20 => ?_)
          · have c_20' : z_18.toInt < 4 := i_lt c_20 rfl (by decide)
            refine lv_iload_n hx hb dJ6_numberOfLeadingZeros_0f7a4_73 rfl (lv_at hl 1 rfl) ?_
            refine lv_iload_n hx hb dJ6_numberOfLeadingZeros_0f7a4_74 rfl (lv_at hl 0 rfl) ?_
            refine lv_iconst (v := 1) hx hb dJ6_numberOfLeadingZeros_0f7a4_75 (by decide) ?_
            refine lv_iushr hx hb dJ6_numberOfLeadingZeros_0f7a4_76 rfl ?_
            refine lv_topi (fun z_21 ez_21 => ?_)
            refine lv_isub hx hb dJ6_numberOfLeadingZeros_0f7a4_77 ?_
            refine lv_topi (fun z_22 ez_22 => ?_)
            exact t_iret hB hr hT (Nat.le_of_ble_eq_true rfl) (Nat.le_of_ble_eq_true rfl) dJ6_numberOfLeadingZeros_0f7a4_78 ⟨z_22, rfl, rfl⟩
          · have c_20' : 4 ≤ z_18.toInt := i_nlt c_20 rfl (by decide)
            refine lv_iinc (v := 21) (lv' := [(1, .int 21), (0, .int z_18)]) hx hb dJ6_numberOfLeadingZeros_0f7a4_66 hl (k := 1) rfl (by decide) (by decide) rfl (fun ls hl => ?_)
            refine lv_iload_n hx hb dJ6_numberOfLeadingZeros_0f7a4_69 rfl (lv_at hl 1 rfl) ?_
            refine lv_iconst (v := 2) hx hb dJ6_numberOfLeadingZeros_0f7a4_70 (by decide) ?_
            refine lv_iushr hx hb dJ6_numberOfLeadingZeros_0f7a4_71 rfl ?_
            refine lv_topi (fun z_23 ez_23 => ?_)
            refine lv_istore_n (lv' := [(0, .int z_23), (1, .int 21)]) hx hb dJ6_numberOfLeadingZeros_0f7a4_72 rfl hl (by decide) rfl (fun ls hl => ?_)
            refine lv_iload_n hx hb dJ6_numberOfLeadingZeros_0f7a4_73 rfl (lv_at hl 1 rfl) ?_
            refine lv_iload_n hx hb dJ6_numberOfLeadingZeros_0f7a4_74 rfl (lv_at hl 0 rfl) ?_
            refine lv_iconst (v := 1) hx hb dJ6_numberOfLeadingZeros_0f7a4_75 (by decide) ?_
            refine lv_iushr hx hb dJ6_numberOfLeadingZeros_0f7a4_76 rfl ?_
            refine lv_topi (fun z_24 ez_24 => ?_)
            refine lv_isub hx hb dJ6_numberOfLeadingZeros_0f7a4_77 ?_
            refine lv_topi (fun z_25 ez_25 => ?_)
            exact t_iret hB hr hT (Nat.le_of_ble_eq_true rfl) (Nat.le_of_ble_eq_true rfl) dJ6_numberOfLeadingZeros_0f7a4_78 ⟨z_25, rfl, rfl⟩
        · have c_19' : 16 ≤ z_18.toInt := i_nlt c_19 rfl (by decide)
          refine lv_iinc (v := 19) (lv' := [(1, .int 19), (0, .int z_18)]) hx hb dJ6_numberOfLeadingZeros_0f7a4_54 hl (k := 1) rfl (by decide) (by decide) rfl (fun ls hl => ?_)
          refine lv_iload_n hx hb dJ6_numberOfLeadingZeros_0f7a4_57 rfl (lv_at hl 1 rfl) ?_
          refine lv_iconst (v := 4) hx hb dJ6_numberOfLeadingZeros_0f7a4_58 (by decide) ?_
          refine lv_iushr hx hb dJ6_numberOfLeadingZeros_0f7a4_59 rfl ?_
          refine lv_topi (fun z_26 ez_26 => ?_)
          refine lv_istore_n (lv' := [(0, .int z_26), (1, .int 19)]) hx hb dJ6_numberOfLeadingZeros_0f7a4_60 rfl hl (by decide) rfl (fun ls hl => ?_)
          refine lv_iload_n hx hb dJ6_numberOfLeadingZeros_0f7a4_61 rfl (lv_at hl 0 rfl) ?_
          refine lv_iconst (v := 4) hx hb dJ6_numberOfLeadingZeros_0f7a4_62 (by decide) ?_
          refine lv_icmp_lt (tgt := 73) hx hb dJ6_numberOfLeadingZeros_0f7a4_63 (by decide) (fun c_27 => ?_) (fun c_27 => ?_)
          · have c_27' : z_26.toInt < 4 := i_lt c_27 rfl (by decide)
            refine lv_iload_n hx hb dJ6_numberOfLeadingZeros_0f7a4_73 rfl (lv_at hl 1 rfl) ?_
            refine lv_iload_n hx hb dJ6_numberOfLeadingZeros_0f7a4_74 rfl (lv_at hl 0 rfl) ?_
            refine lv_iconst (v := 1) hx hb dJ6_numberOfLeadingZeros_0f7a4_75 (by decide) ?_
            refine lv_iushr hx hb dJ6_numberOfLeadingZeros_0f7a4_76 rfl ?_
            refine lv_topi (fun z_28 ez_28 => ?_)
            refine lv_isub hx hb dJ6_numberOfLeadingZeros_0f7a4_77 ?_
            refine lv_topi (fun z_29 ez_29 => ?_)
            exact t_iret hB hr hT (Nat.le_of_ble_eq_true rfl) (Nat.le_of_ble_eq_true rfl) dJ6_numberOfLeadingZeros_0f7a4_78 ⟨z_29, rfl, rfl⟩
          · have c_27' : 4 ≤ z_26.toInt := i_nlt c_27 rfl (by decide)
            refine lv_iinc (v := 17) (lv' := [(1, .int 17), (0, .int z_26)]) hx hb dJ6_numberOfLeadingZeros_0f7a4_66 hl (k := 1) rfl (by decide) (by decide) rfl (fun ls hl => ?_)
            refine lv_iload_n hx hb dJ6_numberOfLeadingZeros_0f7a4_69 rfl (lv_at hl 1 rfl) ?_
            refine lv_iconst (v := 2) hx hb dJ6_numberOfLeadingZeros_0f7a4_70 (by decide) ?_
            refine lv_iushr hx hb dJ6_numberOfLeadingZeros_0f7a4_71 rfl ?_
            refine lv_topi (fun z_30 ez_30 => ?_)
            refine lv_istore_n (lv' := [(0, .int z_30), (1, .int 17)]) hx hb dJ6_numberOfLeadingZeros_0f7a4_72 rfl hl (by decide) rfl (fun ls hl => ?_)
            refine lv_iload_n hx hb dJ6_numberOfLeadingZeros_0f7a4_73 rfl (lv_at hl 1 rfl) ?_
            refine lv_iload_n hx hb dJ6_numberOfLeadingZeros_0f7a4_74 rfl (lv_at hl 0 rfl) ?_
            refine lv_iconst (v := 1) hx hb dJ6_numberOfLeadingZeros_0f7a4_75 (by decide) ?_
            refine lv_iushr hx hb dJ6_numberOfLeadingZeros_0f7a4_76 rfl ?_
            refine lv_topi (fun z_31 ez_31 => ?_)
            refine lv_isub hx hb dJ6_numberOfLeadingZeros_0f7a4_77 ?_
            refine lv_topi (fun z_32 ez_32 => ?_)
            exact t_iret hB hr hT (Nat.le_of_ble_eq_true rfl) (Nat.le_of_ble_eq_true rfl) dJ6_numberOfLeadingZeros_0f7a4_78 ⟨z_32, rfl, rfl⟩
    · have c_2' : 65536 ≤ n.toInt := i_nlt c_2 rfl (by decide)
      refine lv_iinc (v := 15) (lv' := [(1, .int 15), (0, .int n)]) hx hb dJ6_numberOfLeadingZeros_0f7a4_25 hl (k := 0) rfl (by decide) (by decide) rfl (fun ls hl => ?_)
      refine lv_iload_n hx hb dJ6_numberOfLeadingZeros_0f7a4_28 rfl (lv_at hl 1 rfl) ?_
      refine lv_bipush (v := 16) hx hb dJ6_numberOfLeadingZeros_0f7a4_29 (by decide) ?_
      refine lv_iushr hx hb dJ6_numberOfLeadingZeros_0f7a4_31 rfl ?_
      refine lv_topi (fun z_33 ez_33 => ?_)
      refine lv_istore_n (lv' := [(0, .int z_33), (1, .int 15)]) hx hb dJ6_numberOfLeadingZeros_0f7a4_32 rfl hl (by decide) rfl (fun ls hl => ?_)
      refine lv_iload_n hx hb dJ6_numberOfLeadingZeros_0f7a4_33 rfl (lv_at hl 0 rfl) ?_
      refine lv_sipush (v := 256) hx hb dJ6_numberOfLeadingZeros_0f7a4_34 (by decide) ?_
      refine lv_icmp_lt (tgt := 48) hx hb dJ6_numberOfLeadingZeros_0f7a4_37 (by decide) (fun c_34 => ?_) (fun c_34 => ?_)
      · have c_34' : z_33.toInt < 256 := i_lt c_34 rfl (by decide)
        refine lv_iload_n hx hb dJ6_numberOfLeadingZeros_0f7a4_48 rfl (lv_at hl 0 rfl) ?_
        refine lv_bipush (v := 16) hx hb dJ6_numberOfLeadingZeros_0f7a4_49 (by decide) ?_
        refine lv_icmp_lt (tgt := 61) hx hb dJ6_numberOfLeadingZeros_0f7a4_51 (by decide) (fun c_35 => ?_) (fun c_35 => ?_)
        · have c_35' : z_33.toInt < 16 := i_lt c_35 rfl (by decide)
          refine lv_iload_n hx hb dJ6_numberOfLeadingZeros_0f7a4_61 rfl (lv_at hl 0 rfl) ?_
          refine lv_iconst (v := 4) hx hb dJ6_numberOfLeadingZeros_0f7a4_62 (by decide) ?_
          refine lv_icmp_lt (tgt := 73) hx hb dJ6_numberOfLeadingZeros_0f7a4_63 (by decide) (fun c_36 => ?_) (fun c_36 => ?_)
          · have c_36' : z_33.toInt < 4 := i_lt c_36 rfl (by decide)
            refine lv_iload_n hx hb dJ6_numberOfLeadingZeros_0f7a4_73 rfl (lv_at hl 1 rfl) ?_
            refine lv_iload_n hx hb dJ6_numberOfLeadingZeros_0f7a4_74 rfl (lv_at hl 0 rfl) ?_
            refine lv_iconst (v := 1) hx hb dJ6_numberOfLeadingZeros_0f7a4_75 (by decide) ?_
            refine lv_iushr hx hb dJ6_numberOfLeadingZeros_0f7a4_76 rfl ?_
            refine lv_topi (fun z_37 ez_37 => ?_)
            refine lv_isub hx hb dJ6_numberOfLeadingZeros_0f7a4_77 ?_
            refine lv_topi (fun z_38 ez_38 => ?_)
            exact t_iret hB hr hT (Nat.le_of_ble_eq_true rfl) (Nat.le_of_ble_eq_true rfl) dJ6_numberOfLeadingZeros_0f7a4_78 ⟨z_38, rfl, rfl⟩
          · have c_36' : 4 ≤ z_33.toInt := i_nlt c_36 rfl (by decide)
            refine lv_iinc (v := 13) (lv' := [(1, .int 13), (0, .int z_33)]) hx hb dJ6_numberOfLeadingZeros_0f7a4_66 hl (k := 1) rfl (by decide) (by decide) rfl (fun ls hl => ?_)
            refine lv_iload_n hx hb dJ6_numberOfLeadingZeros_0f7a4_69 rfl (lv_at hl 1 rfl) ?_
            refine lv_iconst (v := 2) hx hb dJ6_numberOfLeadingZeros_0f7a4_70 (by decide) ?_
            refine lv_iushr hx hb dJ6_numberOfLeadingZeros_0f7a4_71 rfl ?_
            refine lv_topi (fun z_39 ez_39 => ?_)
            refine lv_istore_n (lv' := [(0, .int z_39), (1, .int 13)]) hx hb dJ6_numberOfLeadingZeros_0f7a4_72 rfl hl (by decide) rfl (fun ls hl => ?_)
            refine lv_iload_n hx hb dJ6_numberOfLeadingZeros_0f7a4_73 rfl (lv_at hl 1 rfl) ?_
            refine lv_iload_n hx hb dJ6_numberOfLeadingZeros_0f7a4_74 rfl (lv_at hl 0 rfl) ?_
            refine lv_iconst (v := 1) hx hb dJ6_numberOfLeadingZeros_0f7a4_75 (by decide) ?_
            refine lv_iushr hx hb dJ6_numberOfLeadingZeros_0f7a4_76 rfl ?_
            refine lv_topi (fun z_40 ez_40 => ?_)
            refine lv_isub hx hb dJ6_numberOfLeadingZeros_0f7a4_77 ?_
            refine lv_topi (fun z_41 ez_41 => ?_)
            exact t_iret hB hr hT (Nat.le_of_ble_eq_true rfl) (Nat.le_of_ble_eq_true rfl) dJ6_numberOfLeadingZeros_0f7a4_78 ⟨z_41, rfl, rfl⟩
        · have c_35' : 16 ≤ z_33.toInt := i_nlt c_35 rfl (by decide)
          refine lv_iinc (v := 11) (lv' := [(1, .int 11), (0, .int z_33)]) hx hb dJ6_numberOfLeadingZeros_0f7a4_54 hl (k := 1) rfl (by decide) (by decide) rfl (fun ls hl => ?_)
          refine lv_iload_n hx hb dJ6_numberOfLeadingZeros_0f7a4_57 rfl (lv_at hl 1 rfl) ?_
          refine lv_iconst (v := 4) hx hb dJ6_numberOfLeadingZeros_0f7a4_58 (by decide) ?_
          refine lv_iushr hx hb dJ6_numberOfLeadingZeros_0f7a4_59 rfl ?_
          refine lv_topi (fun z_42 ez_42 => ?_)
          refine lv_istore_n (lv' := [(0, .int z_42), (1, .int 11)]) hx hb dJ6_numberOfLeadingZeros_0f7a4_60 rfl hl (by decide) rfl (fun ls hl => ?_)
          refine lv_iload_n hx hb dJ6_numberOfLeadingZeros_0f7a4_61 rfl (lv_at hl 0 rfl) ?_
          refine lv_iconst (v := 4) hx hb dJ6_numberOfLeadingZeros_0f7a4_62 (by decide) ?_
          refine lv_icmp_lt (tgt := 73) hx hb dJ6_numberOfLeadingZeros_0f7a4_63 (by decide) (fun c_43 => ?_) (fun c_43 => ?_)
          · have c_43' : z_42.toInt < 4 := i_lt c_43 rfl (by decide)
            refine lv_iload_n hx hb dJ6_numberOfLeadingZeros_0f7a4_73 rfl (lv_at hl 1 rfl) ?_
            refine lv_iload_n hx hb dJ6_numberOfLeadingZeros_0f7a4_74 rfl (lv_at hl 0 rfl) ?_
            refine lv_iconst (v := 1) hx hb dJ6_numberOfLeadingZeros_0f7a4_75 (by decide) ?_
            refine lv_iushr hx hb dJ6_numberOfLeadingZeros_0f7a4_76 rfl ?_
            refine lv_topi (fun z_44 ez_44 => ?_)
            refine lv_isub hx hb dJ6_numberOfLeadingZeros_0f7a4_77 ?_
            refine lv_topi (fun z_45 ez_45 => ?_)
            exact t_iret hB hr hT (Nat.le_of_ble_eq_true rfl) (Nat.le_of_ble_eq_true rfl) dJ6_numberOfLeadingZeros_0f7a4_78 ⟨z_45, rfl, rfl⟩
          · have c_43' : 4 ≤ z_42.toInt := i_nlt c_43 rfl (by decide)
            refine lv_iinc (v := 9) (lv' := [(1, .int 9), (0, .int z_42)]) hx hb dJ6_numberOfLeadingZeros_0f7a4_66 hl (k := 1) rfl (by decide) (by decide) rfl (fun ls hl => ?_)
            refine lv_iload_n hx hb dJ6_numberOfLeadingZeros_0f7a4_69 rfl (lv_at hl 1 rfl) ?_
            refine lv_iconst (v := 2) hx hb dJ6_numberOfLeadingZeros_0f7a4_70 (by decide) ?_
            refine lv_iushr hx hb dJ6_numberOfLeadingZeros_0f7a4_71 rfl ?_
            refine lv_topi (fun z_46 ez_46 => ?_)
            refine lv_istore_n (lv' := [(0, .int z_46), (1, .int 9)]) hx hb dJ6_numberOfLeadingZeros_0f7a4_72 rfl hl (by decide) rfl (fun ls hl => ?_)
            refine lv_iload_n hx hb dJ6_numberOfLeadingZeros_0f7a4_73 rfl (lv_at hl 1 rfl) ?_
            refine lv_iload_n hx hb dJ6_numberOfLeadingZeros_0f7a4_74 rfl (lv_at hl 0 rfl) ?_
            refine lv_iconst (v := 1) hx hb dJ6_numberOfLeadingZeros_0f7a4_75 (by decide) ?_
            refine lv_iushr hx hb dJ6_numberOfLeadingZeros_0f7a4_76 rfl ?_
            refine lv_topi (fun z_47 ez_47 => ?_)
            refine lv_isub hx hb dJ6_numberOfLeadingZeros_0f7a4_77 ?_
            refine lv_topi (fun z_48 ez_48 => ?_)
            exact t_iret hB hr hT (Nat.le_of_ble_eq_true rfl) (Nat.le_of_ble_eq_true rfl) dJ6_numberOfLeadingZeros_0f7a4_78 ⟨z_48, rfl, rfl⟩
      · have c_34' : 256 ≤ z_33.toInt := i_nlt c_34 rfl (by decide)
        refine lv_iinc (v := 7) (lv' := [(1, .int 7), (0, .int z_33)]) hx hb dJ6_numberOfLeadingZeros_0f7a4_40 hl (k := 1) rfl (by decide) (by decide) rfl (fun ls hl => ?_)
        refine lv_iload_n hx hb dJ6_numberOfLeadingZeros_0f7a4_43 rfl (lv_at hl 1 rfl) ?_
        refine lv_bipush (v := 8) hx hb dJ6_numberOfLeadingZeros_0f7a4_44 (by decide) ?_
        refine lv_iushr hx hb dJ6_numberOfLeadingZeros_0f7a4_46 rfl ?_
        refine lv_topi (fun z_49 ez_49 => ?_)
        refine lv_istore_n (lv' := [(0, .int z_49), (1, .int 7)]) hx hb dJ6_numberOfLeadingZeros_0f7a4_47 rfl hl (by decide) rfl (fun ls hl => ?_)
        refine lv_iload_n hx hb dJ6_numberOfLeadingZeros_0f7a4_48 rfl (lv_at hl 0 rfl) ?_
        refine lv_bipush (v := 16) hx hb dJ6_numberOfLeadingZeros_0f7a4_49 (by decide) ?_
        refine lv_icmp_lt (tgt := 61) hx hb dJ6_numberOfLeadingZeros_0f7a4_51 (by decide) (fun c_50 => ?_) (fun c_50 => ?_)
        · have c_50' : z_49.toInt < 16 := i_lt c_50 rfl (by decide)
          refine lv_iload_n hx hb dJ6_numberOfLeadingZeros_0f7a4_61 rfl (lv_at hl 0 rfl) ?_
          refine lv_iconst (v := 4) hx hb dJ6_numberOfLeadingZeros_0f7a4_62 (by decide) ?_
          refine lv_icmp_lt (tgt := 73) hx hb dJ6_numberOfLeadingZeros_0f7a4_63 (by decide) (fun c_51 => ?_) (fun c_51 => ?_)
          · have c_51' : z_49.toInt < 4 := i_lt c_51 rfl (by decide)
            refine lv_iload_n hx hb dJ6_numberOfLeadingZeros_0f7a4_73 rfl (lv_at hl 1 rfl) ?_
            refine lv_iload_n hx hb dJ6_numberOfLeadingZeros_0f7a4_74 rfl (lv_at hl 0 rfl) ?_
            refine lv_iconst (v := 1) hx hb dJ6_numberOfLeadingZeros_0f7a4_75 (by decide) ?_
            refine lv_iushr hx hb dJ6_numberOfLeadingZeros_0f7a4_76 rfl ?_
            refine lv_topi (fun z_52 ez_52 => ?_)
            refine lv_isub hx hb dJ6_numberOfLeadingZeros_0f7a4_77 ?_
            refine lv_topi (fun z_53 ez_53 => ?_)
            exact t_iret hB hr hT (Nat.le_of_ble_eq_true rfl) (Nat.le_of_ble_eq_true rfl) dJ6_numberOfLeadingZeros_0f7a4_78 ⟨z_53, rfl, rfl⟩
          · have c_51' : 4 ≤ z_49.toInt := i_nlt c_51 rfl (by decide)
            refine lv_iinc (v := 5) (lv' := [(1, .int 5), (0, .int z_49)]) hx hb dJ6_numberOfLeadingZeros_0f7a4_66 hl (k := 1) rfl (by decide) (by decide) rfl (fun ls hl => ?_)
            refine lv_iload_n hx hb dJ6_numberOfLeadingZeros_0f7a4_69 rfl (lv_at hl 1 rfl) ?_
            refine lv_iconst (v := 2) hx hb dJ6_numberOfLeadingZeros_0f7a4_70 (by decide) ?_
            refine lv_iushr hx hb dJ6_numberOfLeadingZeros_0f7a4_71 rfl ?_
            refine lv_topi (fun z_54 ez_54 => ?_)
            refine lv_istore_n (lv' := [(0, .int z_54), (1, .int 5)]) hx hb dJ6_numberOfLeadingZeros_0f7a4_72 rfl hl (by decide) rfl (fun ls hl => ?_)
            refine lv_iload_n hx hb dJ6_numberOfLeadingZeros_0f7a4_73 rfl (lv_at hl 1 rfl) ?_
            refine lv_iload_n hx hb dJ6_numberOfLeadingZeros_0f7a4_74 rfl (lv_at hl 0 rfl) ?_
            refine lv_iconst (v := 1) hx hb dJ6_numberOfLeadingZeros_0f7a4_75 (by decide) ?_
            refine lv_iushr hx hb dJ6_numberOfLeadingZeros_0f7a4_76 rfl ?_
            refine lv_topi (fun z_55 ez_55 => ?_)
            refine lv_isub hx hb dJ6_numberOfLeadingZeros_0f7a4_77 ?_
            refine lv_topi (fun z_56 ez_56 => ?_)
            exact t_iret hB hr hT (Nat.le_of_ble_eq_true rfl) (Nat.le_of_ble_eq_true rfl) dJ6_numberOfLeadingZeros_0f7a4_78 ⟨z_56, rfl, rfl⟩
        · have c_50' : 16 ≤ z_49.toInt := i_nlt c_50 rfl (by decide)
          refine lv_iinc (v := 3) (lv' := [(1, .int 3), (0, .int z_49)]) hx hb dJ6_numberOfLeadingZeros_0f7a4_54 hl (k := 1) rfl (by decide) (by decide) rfl (fun ls hl => ?_)
          refine lv_iload_n hx hb dJ6_numberOfLeadingZeros_0f7a4_57 rfl (lv_at hl 1 rfl) ?_
          refine lv_iconst (v := 4) hx hb dJ6_numberOfLeadingZeros_0f7a4_58 (by decide) ?_
          refine lv_iushr hx hb dJ6_numberOfLeadingZeros_0f7a4_59 rfl ?_
          refine lv_topi (fun z_57 ez_57 => ?_)
          refine lv_istore_n (lv' := [(0, .int z_57), (1, .int 3)]) hx hb dJ6_numberOfLeadingZeros_0f7a4_60 rfl hl (by decide) rfl (fun ls hl => ?_)
          refine lv_iload_n hx hb dJ6_numberOfLeadingZeros_0f7a4_61 rfl (lv_at hl 0 rfl) ?_
          refine lv_iconst (v := 4) hx hb dJ6_numberOfLeadingZeros_0f7a4_62 (by decide) ?_
          refine lv_icmp_lt (tgt := 73) hx hb dJ6_numberOfLeadingZeros_0f7a4_63 (by decide) (fun c_58 => ?_) (fun c_58 => ?_)
          · have c_58' : z_57.toInt < 4 := i_lt c_58 rfl (by decide)
            refine lv_iload_n hx hb dJ6_numberOfLeadingZeros_0f7a4_73 rfl (lv_at hl 1 rfl) ?_
            refine lv_iload_n hx hb dJ6_numberOfLeadingZeros_0f7a4_74 rfl (lv_at hl 0 rfl) ?_
            refine lv_iconst (v := 1) hx hb dJ6_numberOfLeadingZeros_0f7a4_75 (by decide) ?_
            refine lv_iushr hx hb dJ6_numberOfLeadingZeros_0f7a4_76 rfl ?_
            refine lv_topi (fun z_59 ez_59 => ?_)
            refine lv_isub hx hb dJ6_numberOfLeadingZeros_0f7a4_77 ?_
            refine lv_topi (fun z_60 ez_60 => ?_)
            exact t_iret hB hr hT (Nat.le_of_ble_eq_true rfl) (Nat.le_of_ble_eq_true rfl) dJ6_numberOfLeadingZeros_0f7a4_78 ⟨z_60, rfl, rfl⟩
          · have c_58' : 4 ≤ z_57.toInt := i_nlt c_58 rfl (by decide)
            refine lv_iinc (v := 1) (lv' := [(1, .int 1), (0, .int z_57)]) hx hb dJ6_numberOfLeadingZeros_0f7a4_66 hl (k := 1) rfl (by decide) (by decide) rfl (fun ls hl => ?_)
            refine lv_iload_n hx hb dJ6_numberOfLeadingZeros_0f7a4_69 rfl (lv_at hl 1 rfl) ?_
            refine lv_iconst (v := 2) hx hb dJ6_numberOfLeadingZeros_0f7a4_70 (by decide) ?_
            refine lv_iushr hx hb dJ6_numberOfLeadingZeros_0f7a4_71 rfl ?_
            refine lv_topi (fun z_61 ez_61 => ?_)
            refine lv_istore_n (lv' := [(0, .int z_61), (1, .int 1)]) hx hb dJ6_numberOfLeadingZeros_0f7a4_72 rfl hl (by decide) rfl (fun ls hl => ?_)
            refine lv_iload_n hx hb dJ6_numberOfLeadingZeros_0f7a4_73 rfl (lv_at hl 1 rfl) ?_
            refine lv_iload_n hx hb dJ6_numberOfLeadingZeros_0f7a4_74 rfl (lv_at hl 0 rfl) ?_
            refine lv_iconst (v := 1) hx hb dJ6_numberOfLeadingZeros_0f7a4_75 (by decide) ?_
            refine lv_iushr hx hb dJ6_numberOfLeadingZeros_0f7a4_76 rfl ?_
            refine lv_topi (fun z_62 ez_62 => ?_)
            refine lv_isub hx hb dJ6_numberOfLeadingZeros_0f7a4_77 ?_
            refine lv_topi (fun z_63 ez_63 => ?_)
            exact t_iret hB hr hT (Nat.le_of_ble_eq_true rfl) (Nat.le_of_ble_eq_true rfl) dJ6_numberOfLeadingZeros_0f7a4_78 ⟨z_63, rfl, rfl⟩
  · have c_1' : n.toInt ≤ 0 := i_nlt c_1 (by decide) rfl
    refine lv_iload_n hx hb dJ6_numberOfLeadingZeros_0f7a4_4 rfl (lv_at hl 0 rfl) ?_
    refine lv_if_ne (tgt := 13) hx hb dJ6_numberOfLeadingZeros_0f7a4_5 (by decide) (fun c_64 => ?_) (fun c_64 => ?_)
    · have c_64' : n.toInt ≠ 0 := i_ne c_64 rfl (by decide)
      refine lv_iconst (v := 0) hx hb dJ6_numberOfLeadingZeros_0f7a4_13 (by decide) ?_
      exact t_iret hB hr hT (Nat.le_of_ble_eq_true rfl) (Nat.le_of_ble_eq_true rfl) dJ6_numberOfLeadingZeros_0f7a4_14 ⟨0, rfl, rfl⟩
    · have c_64' : n.toInt = 0 := i_eq c_64 rfl (by decide)
      refine lv_bipush (v := 32) hx hb dJ6_numberOfLeadingZeros_0f7a4_8 (by decide) ?_
      refine lv_goto (tgt := 14) hx hb dJ6_numberOfLeadingZeros_0f7a4_10 (by decide) ?_
      exact t_iret hB hr hT (Nat.le_of_ble_eq_true rfl) (Nat.le_of_ble_eq_true rfl) dJ6_numberOfLeadingZeros_0f7a4_14 ⟨32, rfl, rfl⟩
abbrev md_P_feed : Nat → Nat → Bool := mdf [(5, 1), (67, 99)]
theorem mdle_P_feed_s_tappend {r k : Nat} (h : md_P_feed r k = false) : md_s_tappend r k = false := mdf_le (by decide +kernel) h
set_option maxHeartbeats 4000000 in
set_option maxRecDepth 100000 in
theorem P_feed (l : Launch) (D : va_G) (cI cZ cS cR : ClassId) (N0 : NT) (g : GS) (hI : Inv g) (h : Nat) (w : Int64) (n : Int32) (tp : Nat) (sz : Int32) (ba : Nat) (ct : Nat → Int32) (r_h : g.1 h = 7) (r_tp : g.1 tp = 5) (r_ba : g.1 ba = 67) (n_ba : g.2.2.1 ba = 100) (ktp : g.2.1 h 0 = .ref tp) (ksz : g.2.1 tp 1 = .int sz) (kba : g.2.1 tp 0 = .ref ba) (l_sz : 0 ≤ sz.toInt) (u_sz : sz.toInt ≤ 100) (hc_0 : g.2.2.2.1 ba = ct) : Ty l D cI cZ cS cR N0 yX6_feed cX6_feed 4 (some .int) 1 0 0 [.ref h, .long w, .int n] g (fun v g' => ∃ (r : Int32) (z2 : Int32), v = some (.int r) ∧ Inv g' ∧ Ex g g' ∧ Sm md_P_feed g g' ∧ (g'.2.1 tp 1 = .int z2) ∧ (r.toInt = fdR n.toInt sz.toInt) ∧ (z2.toInt = sz.toInt + fdK n.toInt sz.toInt) ∧ (FD g' ba ct w sz.toInt n.toInt (fdK n.toInt sz.toInt))) := by
  refine t_enter (by decide) (Nat.le_of_ble_eq_true rfl) ?_
  intro p e s m args below meth c ls H locs hB hr hin hl hT
  have hx := hB.1
  have hb := hB.2.1
  have hl : lv_has ls 4 [(0, .ref h), (1, .long w), (3, .int n)] := hl
  have hE : Ex g g := Ex.rf
  have hM : Sm md_P_feed g g := Sm.rf
  have hc := hc_0
  refine lv_iload_n hx hb dX6_feed_0 rfl (lv_at hl 2 rfl) ?_
  refine lv_iconst (v := 1) hx hb dX6_feed_1 (by decide) ?_
  refine lv_icmp_lt (tgt := 11) hx hb dX6_feed_2 (by decide) (fun c_1 => ?_) (fun c_1 => ?_)
  · have c_1' : n.toInt < 1 := i_lt c_1 rfl (by decide)
    refine lv_bipush (v := (-2)) hx hb dX6_feed_11 (by decide) ?_
    exact t_iret hB hr hT (Nat.le_of_ble_eq_true rfl) (Nat.le_of_ble_eq_true rfl) dX6_feed_13 ⟨(-2), sz, rfl, hI, hE, hM, ksz, (by have q2_ : (-2 : Int32).toInt = -2 := (by decide); have q4_ : (-4 : Int32).toInt = -4 := (by decide); have q1_ : (-1 : Int32).toInt = -1 := (by decide); have q0_ : (0 : Int32).toInt = 0 := (by decide); unfold fdR; omega), (by have q2_ : (-2 : Int32).toInt = -2 := (by decide); have q4_ : (-4 : Int32).toInt = -4 := (by decide); have q1_ : (-1 : Int32).toInt = -1 := (by decide); have q0_ : (0 : Int32).toInt = 0 := (by decide); unfold fdK; omega), (FD.zero hc (by unfold fdK; omega))⟩
  · have c_1' : 1 ≤ n.toInt := i_nlt c_1 rfl (by decide)
    refine lv_iload_n hx hb dX6_feed_5 rfl (lv_at hl 2 rfl) ?_
    refine lv_bipush (v := 8) hx hb dX6_feed_6 (by decide) ?_
    refine lv_icmp_le (tgt := 14) hx hb dX6_feed_8 (by decide) (fun c_2 => ?_) (fun c_2 => ?_)
    · have c_2' : n.toInt ≤ 8 := i_le c_2 rfl (by decide)
      refine lv_aload_n hx hb dX6_feed_14 rfl (lv_at hl 0 rfl) ?_
      refine t_get (ci := 6) (v := .ref tp) hB hT (ro_ci r_h rfl) rfl 0 (by decide) k_308 ktp dX6_feed_15 ?_
      refine t_get (ci := 4) (v := .int sz) hB hT (ro_ci r_tp rfl) rfl 1 (by decide) k_88 ksz dX6_feed_18 ?_
      refine lv_iload_n hx hb dX6_feed_21 rfl (lv_at hl 2 rfl) ?_
      refine lv_iadd hx hb dX6_feed_22 ?_
      refine lv_topi (fun z_3 ez_3 => ?_)
      have e_z_3 : z_3.toInt = sz.toInt + n.toInt := i_add ez_3 rfl rfl (by omega) (by omega)
      refine lv_bipush (v := 100) hx hb dX6_feed_23 (by decide) ?_
      refine lv_icmp_le (tgt := 31) hx hb dX6_feed_25 (by decide) (fun c_4 => ?_) (fun c_4 => ?_)
      · have c_4' : z_3.toInt ≤ 100 := i_le c_4 rfl (by decide)
        refine lv_aload_n hx hb dX6_feed_31 rfl (lv_at hl 0 rfl) ?_
        refine t_get (ci := 6) (v := .ref tp) hB hT (ro_ci r_h rfl) rfl 0 (by decide) k_308 ktp dX6_feed_32 ?_
        refine lv_lload_n hx hb dX6_feed_35 rfl (lv_at hl 1 rfl) ?_
        refine lv_iload_n hx hb dX6_feed_36 rfl (lv_at hl 2 rfl) ?_
        refine t_callV (n := 2) (As := [.long w, .int n]) (rest := []) (ci := 4) hB hT hl.1 (s_tappend l D cI cZ cS cR N0 g hI tp w n sz ba ct r_tp r_ba n_ba ksz kba (by omega) (by omega) (by omega) (by omega) (by omega) hc) (ro_ci r_tp rfl) rfl k_337 k_58 k_334 k_335 k_336 (by decide +kernel) ⟨(Nat.le_of_ble_eq_true rfl), (Nat.le_of_ble_eq_true rfl)⟩ rfl (Nat.le_of_ble_eq_true rfl) ⟨(Nat.le_of_ble_eq_true rfl), (Nat.le_of_ble_eq_true rfl)⟩ dX6_feed_37 (fun v g_5 H locs hp hT => ?_)
        obtain ⟨z2_6, rfl, hI, x_11, m_10, f_7, f_8, f_9⟩ := hp
        have hM : Sm md_P_feed g g_5 := hM.tr hE (m_10.mo (fun r k h => mdle_P_feed_s_tappend h))
        have hE : Ex g g_5 := hE.tr x_11
        have r_12 : g_5.1 h = 7 := (Ex.r x_11 r_h (by decide))
        have r_13 : g_5.1 tp = 5 := (Ex.r x_11 r_tp (by decide))
        have r_14 : g_5.1 ba = 67 := (Ex.r x_11 r_ba (by decide))
        have n_15 : g_5.2.2.1 ba = 100 := (Ex.n x_11 r_ba (by decide) n_ba)
        have kn_16 : g_5.2.1 h 0 = .ref tp := (Sm.v m_10 r_h (by decide) rfl ktp)
        have kn_17 : g_5.2.1 tp 0 = .ref ba := (Sm.v m_10 r_tp (by decide) rfl kba)
        refine W.eq (g2 := F0 m 40 ls []) rfl ?_
        have hF := f_9
        refine lv_aload_n hx hb dX6_feed_40 rfl (lv_at hl 0 rfl) ?_
        refine t_get (ci := 6) (v := .ref tp) hB hT (ro_ci r_12 rfl) rfl 0 (by decide) k_308 kn_16 dX6_feed_41 ?_
        refine t_get (ci := 4) (v := .int z2_6) hB hT (ro_ci r_13 rfl) rfl 1 (by decide) k_88 f_7 dX6_feed_44 ?_
        exact t_iret hB hr hT (Nat.le_of_ble_eq_true rfl) (Nat.le_of_ble_eq_true rfl) dX6_feed_47 ⟨z2_6, z2_6, rfl, hI, hE, hM, f_7, (by have q2_ : (-2 : Int32).toInt = -2 := (by decide); have q4_ : (-4 : Int32).toInt = -4 := (by decide); have q1_ : (-1 : Int32).toInt = -1 := (by decide); have q0_ : (0 : Int32).toInt = 0 := (by decide); unfold fdR; omega), (by have q2_ : (-2 : Int32).toInt = -2 := (by decide); have q4_ : (-4 : Int32).toInt = -4 := (by decide); have q1_ : (-1 : Int32).toInt = -1 := (by decide); have q0_ : (0 : Int32).toInt = 0 := (by decide); unfold fdK; omega), (hF.cast (by unfold fdK; omega))⟩
      · have c_4' : 100 < z_3.toInt := i_nle c_4 rfl (by decide)
        refine lv_bipush (v := (-4)) hx hb dX6_feed_28 (by decide) ?_
        exact t_iret hB hr hT (Nat.le_of_ble_eq_true rfl) (Nat.le_of_ble_eq_true rfl) dX6_feed_30 ⟨(-4), sz, rfl, hI, hE, hM, ksz, (by have q2_ : (-2 : Int32).toInt = -2 := (by decide); have q4_ : (-4 : Int32).toInt = -4 := (by decide); have q1_ : (-1 : Int32).toInt = -1 := (by decide); have q0_ : (0 : Int32).toInt = 0 := (by decide); unfold fdR; omega), (by have q2_ : (-2 : Int32).toInt = -2 := (by decide); have q4_ : (-4 : Int32).toInt = -4 := (by decide); have q1_ : (-1 : Int32).toInt = -1 := (by decide); have q0_ : (0 : Int32).toInt = 0 := (by decide); unfold fdK; omega), (FD.zero hc (by unfold fdK; omega))⟩
    · have c_2' : 8 < n.toInt := i_nle c_2 rfl (by decide)
      refine lv_bipush (v := (-2)) hx hb dX6_feed_11 (by decide) ?_
      exact t_iret hB hr hT (Nat.le_of_ble_eq_true rfl) (Nat.le_of_ble_eq_true rfl) dX6_feed_13 ⟨(-2), sz, rfl, hI, hE, hM, ksz, (by have q2_ : (-2 : Int32).toInt = -2 := (by decide); have q4_ : (-4 : Int32).toInt = -4 := (by decide); have q1_ : (-1 : Int32).toInt = -1 := (by decide); have q0_ : (0 : Int32).toInt = 0 := (by decide); unfold fdR; omega), (by have q2_ : (-2 : Int32).toInt = -2 := (by decide); have q4_ : (-4 : Int32).toInt = -4 := (by decide); have q1_ : (-1 : Int32).toInt = -1 := (by decide); have q0_ : (0 : Int32).toInt = 0 := (by decide); unfold fdK; omega), (FD.zero hc (by unfold fdK; omega))⟩
abbrev md_P_service : Nat → Nat → Bool := mdf [(3, 3), (5, 1), (5, 2), (5, 3), (10, 0), (13, 0), (13, 1), (13, 2), (13, 3), (19, 1), (68, 99), (69, 99), (70, 99)]
theorem mdle_P_service_s_takeProgram {r k : Nat} (h : md_P_service r k = false) : md_s_takeProgram r k = false := mdf_le (by decide +kernel) h
set_option maxHeartbeats 4000000 in
set_option maxRecDepth 100000 in
theorem P_service (l : Launch) (D : va_G) (cI cZ cS cR : ClassId) (N0 : NT) (g : GS) (hI : Inv g) (h : Nat) (tp : Nat) (sz : Int32) (ba : Nat) (ct : Nat → Int32) (nw : Nat) (sv : Int32) (sa : Nat) (r_h : g.1 h = 7) (r_tp : g.1 tp = 5) (r_ba : g.1 ba = 67) (n_ba : g.2.2.1 ba = 100) (r_nw : g.1 nw = 19) (r_sa : g.1 sa = 42) (n_sa : g.2.2.1 sa = 6) (ktp : g.2.1 h 0 = .ref tp) (ksz : g.2.1 tp 1 = .int sz) (kba : g.2.1 tp 0 = .ref ba) (knw : g.2.1 h 1 = .ref nw) (ksv : g.2.1 nw 1 = .int sv) (ksa : g.2.1 nw 0 = .ref sa) (l_sz : 0 ≤ sz.toInt) (u_sz : sz.toInt ≤ 100) (hc_0 : g.2.2.2.1 ba = ct) (l_sv : 0 ≤ sv.toInt) (u_sv : sv.toInt ≤ 6) : Ty l D cI cZ cS cR N0 yX6_service cX6_service 2 (some .int) 8 4 28 [.ref h] g (fun v g' => ∃ (r : Int32) (z2 : Int32) (s2 : Int32), v = some (.int r) ∧ Inv g' ∧ Ex g g' ∧ Sm md_P_service g g' ∧ (g'.2.1 tp 1 = .int z2) ∧ (g'.2.1 nw 1 = .int s2) ∧ (r.toInt = svR (txb ct sz.toInt) sz.toInt sv.toInt) ∧ (s2.toInt = svS (txb ct sz.toInt) sz.toInt sv.toInt) ∧ (z2.toInt = svZ sz.toInt sv.toInt) ∧ (PS g g' sa sv.toNatClampNeg (svb (txb ct sz.toInt) sz.toInt sv.toInt) (txb ct sz.toInt))) := by
  refine t_enter (by decide) (Nat.le_of_ble_eq_true rfl) ?_
  intro p e s m args below meth c ls H locs hB hr hin hl hT
  have hx := hB.1
  have hb := hB.2.1
  have hl : lv_has ls 2 [(0, .ref h)] := hl
  have hE : Ex g g := Ex.rf
  have hM : Sm md_P_service g g := Sm.rf
  have hc := hc_0
  refine lv_aload_n hx hb dX6_service_0 rfl (lv_at hl 0 rfl) ?_
  refine t_get (ci := 6) (v := .ref nw) hB hT (ro_ci r_h rfl) rfl 1 (by decide) k_309 knw dX6_service_1 ?_
  refine t_get (ci := 5) (v := .int sv) hB hT (ro_ci r_nw rfl) rfl 1 (by decide) k_203 ksv dX6_service_4 ?_
  refine lv_bipush (v := 6) hx hb dX6_service_7 (by decide) ?_
  refine lv_icmp_lt (tgt := 15) hx hb dX6_service_9 (by decide) (fun c_1 => ?_) (fun c_1 => ?_)
  · have c_1' : sv.toInt < 6 := i_lt c_1 rfl (by decide)
    refine lv_aload_n hx hb dX6_service_15 rfl (lv_at hl 0 rfl) ?_
    refine t_get (ci := 6) (v := .ref tp) hB hT (ro_ci r_h rfl) rfl 0 (by decide) k_308 ktp dX6_service_16 ?_
    refine t_callV (n := 0) (As := []) (rest := []) (ci := 4) hB hT hl.1 (s_takeProgram l D cI cZ cS cR N0 g hI tp sz ba ct r_tp r_ba n_ba ksz kba (by omega) (by omega) hc) (ro_ci r_tp rfl) rfl k_346 k_58 k_343 k_344 k_345 (by decide +kernel) ⟨(Nat.le_of_ble_eq_true rfl), (Nat.le_of_ble_eq_true rfl)⟩ rfl (Nat.le_of_ble_eq_true rfl) ⟨(Nat.le_of_ble_eq_true rfl), (Nat.le_of_ble_eq_true rfl)⟩ dX6_service_19 (fun v g_2 H locs hp hT => ?_)
    obtain ⟨rv_3, fl_4, rfl, hI, x_13, m_12, f_14, f_5, f_6, f_7, f_8, f_9, f_10, f_11⟩ := hp
    have hc : g_2.2.2.2.1 ba = ct := (Sm.cf m_12 r_ba (by decide) rfl).trans hc
    have hM : Sm md_P_service g g_2 := hM.tr hE (m_12.mo (fun r k h => mdle_P_service_s_takeProgram h))
    have hE : Ex g g_2 := hE.tr x_13
    have r_15 : g_2.1 h = 7 := (Ex.r x_13 r_h (by decide))
    have r_16 : g_2.1 tp = 5 := (Ex.r x_13 r_tp (by decide))
    have r_17 : g_2.1 ba = 67 := (Ex.r x_13 r_ba (by decide))
    have r_18 : g_2.1 nw = 19 := (Ex.r x_13 r_nw (by decide))
    have r_19 : g_2.1 sa = 42 := (Ex.r x_13 r_sa (by decide))
    have n_20 : g_2.2.2.1 ba = 100 := (Ex.n x_13 r_ba (by decide) n_ba)
    have n_21 : g_2.2.2.1 sa = 6 := (Ex.n x_13 r_sa (by decide) n_sa)
    have kn_22 : g_2.2.1 h 0 = .ref tp := (Sm.v m_12 r_h (by decide) rfl ktp)
    have kn_23 : g_2.2.1 tp 0 = .ref ba := (Sm.v m_12 r_tp (by decide) rfl kba)
    have kn_24 : g_2.2.1 h 1 = .ref nw := (Sm.v m_12 r_h (by decide) rfl knw)
    have kn_25 : g_2.2.1 nw 1 = .int sv := (Sm.v m_12 r_nw (by decide) rfl ksv)
    have kn_26 : g_2.2.1 nw 0 = .ref sa := (Sm.v m_12 r_nw (by decide) rfl ksa)
    rcases f_14 with rfl | ⟨q_27, rfl, r_q_27⟩
    · refine W.eq (g2 := F0 m 22 ls [.null]) rfl ?_
      have hOO := f_11
      have hpk_ := f_8.1 rfl
      refine lv_astore_nN (lv' := [(1, .null), (0, .ref h)]) hx hb dX6_service_22 rfl hl (by decide) rfl (fun ls hl => ?_)
      refine lv_aload_nN hx hb dX6_service_23 rfl (lv_at hl 0 rfl) ?_
      refine lv_ifnonnullN hx hb dX6_service_24 ?_
      refine lv_bipush (v := (-10)) hx hb dX6_service_27 (by decide) ?_
      refine lv_aload_n hx hb dX6_service_29 rfl (lv_at hl 1 rfl) ?_
      refine t_get (ci := 6) (v := .ref tp) hB hT (ro_ci r_15 rfl) rfl 0 (by decide) k_308 kn_22 dX6_service_30 ?_
      refine t_get (ci := 4) (v := .int fl_4) hB hT (ro_ci r_16 rfl) rfl 2 (by decide) k_90 f_5 dX6_service_33 ?_
      refine lv_isub hx hb dX6_service_36 ?_
      refine lv_topi (fun z_28 ez_28 => ?_)
      have e_z_28 : z_28.toInt = (-10) - fl_4.toInt := i_sub ez_28 (by decide) rfl (by omega) (by omega)
      exact t_iret hB hr hT (Nat.le_of_ble_eq_true rfl) (Nat.le_of_ble_eq_true rfl) dX6_service_37 ⟨z_28, (0 : Int32), sv, rfl, hI, hE, hM, f_6, kn_25, (by have q2_ : (-2 : Int32).toInt = -2 := (by decide); have q4_ : (-4 : Int32).toInt = -4 := (by decide); have q1_ : (-1 : Int32).toInt = -1 := (by decide); have q0_ : (0 : Int32).toInt = 0 := (by decide); unfold svR; rw [if_pos (show sv.toInt ≤ 5 from by omega), k_false hpk_] <;> omega), (by have q2_ : (-2 : Int32).toInt = -2 := (by decide); have q4_ : (-4 : Int32).toInt = -4 := (by decide); have q1_ : (-1 : Int32).toInt = -1 := (by decide); have q0_ : (0 : Int32).toInt = 0 := (by decide); unfold svS; rw [if_pos (show sv.toInt ≤ 5 from by omega), k_false hpk_] <;> omega), (by have q2_ : (-2 : Int32).toInt = -2 := (by decide); have q4_ : (-4 : Int32).toInt = -4 := (by decide); have q1_ : (-1 : Int32).toInt = -1 := (by decide); have q0_ : (0 : Int32).toInt = 0 := (by decide); unfold svZ; omega), ⟨hOO, Or.inl ⟨svb_k (by omega) hpk_, fun q_ r_ => m_12.1 q_ 0 (by rw [r_]; decide) (by rw [r_]; rfl)⟩⟩⟩
    · refine W.eq (g2 := F0 m 22 ls [.ref q_27]) rfl ?_
      have hOO := f_11
      have hPP := f_10 q_27 rfl
      have hpk_ := f_8.2 (fun h_ => by cases h_)
      obtain ⟨cz_, e_cz_, hcz_⟩ := f_9 q_27 rfl
      refine lv_astore_n (lv' := [(1, .ref q_27), (0, .ref h)]) hx hb dX6_service_22 rfl hl (by decide) rfl (fun ls hl => ?_)
      refine lv_aload_n hx hb dX6_service_23 rfl (lv_at hl 0 rfl) ?_
      refine lv_ifnonnull (tgt := 38) hx hb dX6_service_24 (by decide) ?_
      refine lv_aload_n hx hb dX6_service_38 rfl (lv_at hl 1 rfl) ?_
      refine t_get (ci := 6) (v := .ref nw) hB hT (ro_ci r_15 rfl) rfl 1 (by decide) k_309 kn_24 dX6_service_39 ?_
      refine t_get (ci := 5) (v := .ref sa) hB hT (ro_ci r_18 rfl) rfl 0 (by decide) k_200 kn_26 dX6_service_42 ?_
      refine lv_aload_n hx hb dX6_service_45 rfl (lv_at hl 1 rfl) ?_
      refine t_get (ci := 6) (v := .ref nw) hB hT (ro_ci r_15 rfl) rfl 1 (by decide) k_309 kn_24 dX6_service_46 ?_
      refine t_get (ci := 5) (v := .int sv) hB hT (ro_ci r_18 rfl) rfl 1 (by decide) k_203 kn_25 dX6_service_49 ?_
      have i_q_29 : vp_in sv 6 := (i_in (n := 6) rfl (by omega) (by omega))
      obtain ⟨q_29, e_q_29, r_q_29⟩ := hI.q r_19 n_21 (i_cl i_q_29)
      refine t_aald hB hT (Or.inr <| Or.inl r_19) n_21 i_q_29 e_q_29 dX6_service_52 ?_
      refine lv_aload_n hx hb dX6_service_53 rfl (lv_at hl 0 rfl) ?_
      refine t_put0 (ci := 3) (v := .ref q_27) hB hT (ro_ci r_q_29 rfl) (ro_n0 r_q_29 (by decide)) rfl 0 (by decide) k_144 (Or.inl rfl) rfl rfl dX6_service_54 (fun H locs hT => ?_)
      have hI : Inv (sF g_2 q_29 0 (.ref q_27)) := hI.sF (p_10_0 r_q_29 (⟨_, rfl, r_q_27⟩))
      have hM : Sm md_P_service g (sF g_2 q_29 0 (.ref q_27)) := hM.tr hE (Sm_sF (by rw [r_q_29]; rfl))
      have hE : Ex g (sF g_2 q_29 0 (.ref q_27)) := hE
      have hc : (sF g_2 q_29 0 (.ref q_27)).2.2.2.1 ba = ct := hc
      have hOO : OO g (sF g_2 q_29 0 (.ref q_27)) := OO.tr (g' := g_2) hE hOO (OO.sm (md := mdf [(10, 0)]) (Sm_sF (by rw [r_q_29]; rfl)) rfl rfl rfl rfl)
      have hPP : PP (sF g_2 q_29 0 (.ref q_27)) q_27 (txb ct sz.toInt) (pgn (txb ct sz.toInt)) := hPP.sm (md := mdf [(10, 0)]) (Sm_sF (by rw [r_q_29]; rfl)) Ex.rf r_q_27 rfl rfl rfl rfl rfl rfl rfl
      refine lv_aload_n hx hb dX6_service_57 rfl (lv_at hl 1 rfl) ?_
      refine t_get (ci := 6) (v := .ref nw) hB hT (ro_ci r_15 rfl) rfl 1 (by decide) k_309 (sF_k kn_24 (by decide)) dX6_service_58 ?_
      refine lv_dup hx hb dX6_service_61 rfl ?_
      refine t_get (ci := 5) (v := .int sv) hB hT (ro_ci r_18 rfl) rfl 1 (by decide) k_203 (sF_k kn_25 (by decide)) dX6_service_62 ?_
      refine lv_iconst (v := 1) hx hb dX6_service_65 (by decide) ?_
      refine lv_iadd hx hb dX6_service_66 ?_
      refine lv_topi (fun z_30 ez_30 => ?_)
      have e_z_30 : z_30.toInt = sv.toInt + 1 := i_add ez_30 rfl (by decide) (by omega) (by omega)
      refine t_put0 (ci := 5) (v := .int z_30) hB hT (ro_ci r_18 rfl) (ro_n0 r_18 (by decide)) rfl 1 (by decide) k_203 (Or.inl rfl) rfl rfl dX6_service_67 (fun H locs hT => ?_)
      have hI : Inv (sF (sF g_2 q_29 0 (.ref q_27)) nw 1 (.int z_30)) := hI.sF (p_19_1 r_18 (⟨_, rfl, by omega, by omega⟩))
      have hM : Sm md_P_service g (sF (sF g_2 q_29 0 (.ref q_27)) nw 1 (.int z_30)) := hM.tr hE (Sm_sF (by rw [r_18]; rfl))
      have hE : Ex g (sF (sF g_2 q_29 0 (.ref q_27)) nw 1 (.int z_30)) := hE
      have hc : (sF (sF g_2 q_29 0 (.ref q_27)) nw 1 (.int z_30)).2.2.2.1 ba = ct := hc
      have hOO : OO g (sF (sF g_2 q_29 0 (.ref q_27)) nw 1 (.int z_30)) := OO.tr (g' := (sF g_2 q_29 0 (.ref q_27))) hE hOO (OO.sm (md := mdf [(19, 1)]) (Sm_sF (by rw [r_18]; rfl)) rfl rfl rfl rfl)
      have hPP : PP (sF (sF g_2 q_29 0 (.ref q_27)) nw 1 (.int z_30)) q_27 (txb ct sz.toInt) (pgn (txb ct sz.toInt)) := hPP.sm (md := mdf [(19, 1)]) (Sm_sF (by rw [r_18]; rfl)) Ex.rf r_q_27 rfl rfl rfl rfl rfl rfl rfl
      refine lv_aload_n hx hb dX6_service_70 rfl (lv_at hl 1 rfl) ?_
      refine t_get (ci := 6) (v := .ref nw) hB hT (ro_ci r_15 rfl) rfl 1 (by decide) k_309 (sF_a (sF_k kn_24 (by decide)) (ro_ne r_15 r_18 (by decide))) dX6_service_71 ?_
      refine t_get (ci := 5) (v := .int z_30) hB hT (ro_ci r_18 rfl) rfl 1 (by decide) k_203 sF_eq dX6_service_74 ?_
      refine lv_iconst (v := 1) hx hb dX6_service_77 (by decide) ?_
      refine lv_isub hx hb dX6_service_78 ?_
      refine lv_topi (fun z_31 ez_31 => ?_)
      have e_z_31 : z_31.toInt = z_30.toInt - 1 := i_sub ez_31 rfl (by decide) (by omega) (by omega)
      exact t_iret hB hr hT (Nat.le_of_ble_eq_true rfl) (Nat.le_of_ble_eq_true rfl) dX6_service_79 ⟨z_31, (0 : Int32), z_30, rfl, hI, hE, hM, (sF_a (sF_k f_6 (by decide)) (ro_ne r_16 r_18 (by decide))), sF_eq, (by have q2_ : (-2 : Int32).toInt = -2 := (by decide); have q4_ : (-4 : Int32).toInt = -4 := (by decide); have q1_ : (-1 : Int32).toInt = -1 := (by decide); have q0_ : (0 : Int32).toInt = 0 := (by decide); unfold svR; rw [if_pos (show sv.toInt ≤ 5 from by omega), k_true hpk_] <;> omega), (by have q2_ : (-2 : Int32).toInt = -2 := (by decide); have q4_ : (-4 : Int32).toInt = -4 := (by decide); have q1_ : (-1 : Int32).toInt = -1 := (by decide); have q0_ : (0 : Int32).toInt = 0 := (by decide); unfold svS; rw [if_pos (show sv.toInt ≤ 5 from by omega), k_true hpk_] <;> omega), (by have q2_ : (-2 : Int32).toInt = -2 := (by decide); have q4_ : (-4 : Int32).toInt = -4 := (by decide); have q1_ : (-1 : Int32).toInt = -1 := (by decide); have q0_ : (0 : Int32).toInt = 0 := (by decide); unfold svZ; omega), ⟨hOO, Or.inr ⟨svb_k (by omega) hpk_, q_29, q_27, (congrFun (m_12.2 sa (by rw [r_sa]; decide) (by rw [r_sa]; rfl)).2 _).symm.trans e_q_29, (sF_k sF_eq (by decide)), r_q_27, hPP, fun q_ r_ n_ => sF_k (sF_a (m_12.1 q_ 0 (by rw [r_]; decide) (by rw [r_]; rfl)) n_) (by decide)⟩⟩⟩
  · have c_1' : 6 ≤ sv.toInt := i_nlt c_1 rfl (by decide)
    refine lv_bipush (v := (-4)) hx hb dX6_service_12 (by decide) ?_
    exact t_iret hB hr hT (Nat.le_of_ble_eq_true rfl) (Nat.le_of_ble_eq_true rfl) dX6_service_14 ⟨(-4), sz, sv, rfl, hI, hE, hM, ksz, ksv, (by have q2_ : (-2 : Int32).toInt = -2 := (by decide); have q4_ : (-4 : Int32).toInt = -4 := (by decide); have q1_ : (-1 : Int32).toInt = -1 := (by decide); have q0_ : (0 : Int32).toInt = 0 := (by decide); unfold svR; omega), (by have q2_ : (-2 : Int32).toInt = -2 := (by decide); have q4_ : (-4 : Int32).toInt = -4 := (by decide); have q1_ : (-1 : Int32).toInt = -1 := (by decide); have q0_ : (0 : Int32).toInt = 0 := (by decide); unfold svS; omega), (by have q2_ : (-2 : Int32).toInt = -2 := (by decide); have q4_ : (-4 : Int32).toInt = -4 := (by decide); have q1_ : (-1 : Int32).toInt = -1 := (by decide); have q0_ : (0 : Int32).toInt = 0 := (by decide); unfold svZ; omega), ⟨OO.rf, Or.inl ⟨svb_0 (by have q2_ : (-2 : Int32).toInt = -2 := (by decide); have q4_ : (-4 : Int32).toInt = -4 := (by decide); have q1_ : (-1 : Int32).toInt = -1 := (by decide); have q0_ : (0 : Int32).toInt = 0 := (by decide); omega), fun _ _ => rfl⟩⟩⟩
abbrev md_P_change : Nat → Nat → Bool := mdf [(3, 3), (5, 1), (5, 2), (5, 3), (10, 0), (13, 0), (13, 1), (13, 2), (13, 3), (68, 99), (69, 99), (70, 99)]
theorem mdle_P_change_s_takeProgram {r k : Nat} (h : md_P_change r k = false) : md_s_takeProgram r k = false := mdf_le (by decide +kernel) h
set_option maxHeartbeats 4000000 in
set_option maxRecDepth 100000 in
theorem P_change (l : Launch) (D : va_G) (cI cZ cS cR : ClassId) (N0 : NT) (g : GS) (hI : Inv g) (h : Nat) (n : Int32) (tp : Nat) (sz : Int32) (ba : Nat) (ct : Nat → Int32) (nw : Nat) (sv : Int32) (sa : Nat) (r_h : g.1 h = 7) (r_tp : g.1 tp = 5) (r_ba : g.1 ba = 67) (n_ba : g.2.2.1 ba = 100) (r_nw : g.1 nw = 19) (r_sa : g.1 sa = 42) (n_sa : g.2.2.1 sa = 6) (ktp : g.2.1 h 0 = .ref tp) (ksz : g.2.1 tp 1 = .int sz) (kba : g.2.1 tp 0 = .ref ba) (knw : g.2.1 h 1 = .ref nw) (ksv : g.2.1 nw 1 = .int sv) (ksa : g.2.1 nw 0 = .ref sa) (l_sz : 0 ≤ sz.toInt) (u_sz : sz.toInt ≤ 100) (hc_0 : g.2.2.2.1 ba = ct) (l_sv : 0 ≤ sv.toInt) (u_sv : sv.toInt ≤ 6) : Ty l D cI cZ cS cR N0 yX6_change cX6_change 3 (some .int) 8 4 28 [.ref h, .int n] g (fun v g' => ∃ (r : Int32) (z2 : Int32), v = some (.int r) ∧ Inv g' ∧ Ex g g' ∧ Sm md_P_change g g' ∧ (g'.2.1 tp 1 = .int z2) ∧ (r.toInt = chR (txb ct sz.toInt) sz.toInt sv.toInt n.toInt) ∧ (z2.toInt = chZ sz.toInt sv.toInt n.toInt) ∧ (PS g g' sa n.toNatClampNeg (chb (txb ct sz.toInt) sz.toInt sv.toInt n.toInt) (txb ct sz.toInt))) := by
  refine t_enter (by decide) (Nat.le_of_ble_eq_true rfl) ?_
  intro p e s m args below meth c ls H locs hB hr hin hl hT
  have hx := hB.1
  have hb := hB.2.1
  have hl : lv_has ls 3 [(0, .ref h), (1, .int n)] := hl
  have hE : Ex g g := Ex.rf
  have hM : Sm md_P_change g g := Sm.rf
  have hc := hc_0
  refine lv_aload_n hx hb dX6_change_0 rfl (lv_at hl 0 rfl) ?_
  refine t_get (ci := 6) (v := .ref nw) hB hT (ro_ci r_h rfl) rfl 1 (by decide) k_309 knw dX6_change_1 ?_
  refine lv_iload_n hx hb dX6_change_4 rfl (lv_at hl 1 rfl) ?_
  refine t_callV (n := 1) (As := [.int n]) (rest := []) (ci := 5) hB hT hl.1 (n_has l D cI cZ cS cR N0 g hI nw n sv r_nw ksv (by omega) (by omega)) (ro_ci r_nw rfl) rfl k_436 k_59 k_433 k_434 k_435 (by decide +kernel) ⟨(Nat.le_of_ble_eq_true rfl), (Nat.le_of_ble_eq_true rfl)⟩ rfl (Nat.le_of_ble_eq_true rfl) ⟨(Nat.le_of_ble_eq_true rfl), (Nat.le_of_ble_eq_true rfl)⟩ dX6_change_5 (fun v g_1 H locs hp hT => ?_)
  obtain ⟨r_2, rfl, eg, f_3⟩ := hp
  rw [eg] at hT
  clear eg
  refine W.eq (g2 := F0 m 8 ls [.int r_2]) rfl ?_
  rcases f_3 with ⟨rfl, hw_6, hw_7⟩ | ⟨rfl, hw_8⟩
  · refine W.eq (g2 := F0 m 8 ls [.int 1]) rfl ?_
    refine lv_if_ne (tgt := 13) hx hb dX6_change_8 (by decide) (fun c_ => ?_) (fun c_ => absurd c_ (by decide))
    refine lv_aload_n hx hb dX6_change_13 rfl (lv_at hl 0 rfl) ?_
    refine t_get (ci := 6) (v := .ref tp) hB hT (ro_ci r_h rfl) rfl 0 (by decide) k_308 ktp dX6_change_14 ?_
    refine t_callV (n := 0) (As := []) (rest := []) (ci := 4) hB hT hl.1 (s_takeProgram l D cI cZ cS cR N0 g hI tp sz ba ct r_tp r_ba n_ba ksz kba (by omega) (by omega) hc) (ro_ci r_tp rfl) rfl k_346 k_58 k_343 k_344 k_345 (by decide +kernel) ⟨(Nat.le_of_ble_eq_true rfl), (Nat.le_of_ble_eq_true rfl)⟩ rfl (Nat.le_of_ble_eq_true rfl) ⟨(Nat.le_of_ble_eq_true rfl), (Nat.le_of_ble_eq_true rfl)⟩ dX6_change_17 (fun v g_9 H locs hp hT => ?_)
    obtain ⟨rv_10, fl_11, rfl, hI, x_20, m_19, f_21, f_12, f_13, f_14, f_15, f_16, f_17, f_18⟩ := hp
    have hc : g_9.2.2.2.1 ba = ct := (Sm.cf m_19 r_ba (by decide) rfl).trans hc
    have hM : Sm md_P_change g g_9 := hM.tr hE (m_19.mo (fun r k h => mdle_P_change_s_takeProgram h))
    have hE : Ex g g_9 := hE.tr x_20
    have r_22 : g_9.1 h = 7 := (Ex.r x_20 r_h (by decide))
    have r_23 : g_9.1 tp = 5 := (Ex.r x_20 r_tp (by decide))
    have r_24 : g_9.1 ba = 67 := (Ex.r x_20 r_ba (by decide))
    have r_25 : g_9.1 nw = 19 := (Ex.r x_20 r_nw (by decide))
    have r_26 : g_9.1 sa = 42 := (Ex.r x_20 r_sa (by decide))
    have n_27 : g_9.2.2.1 ba = 100 := (Ex.n x_20 r_ba (by decide) n_ba)
    have n_28 : g_9.2.2.1 sa = 6 := (Ex.n x_20 r_sa (by decide) n_sa)
    have kn_29 : g_9.2.1 h 0 = .ref tp := (Sm.v m_19 r_h (by decide) rfl ktp)
    have kn_30 : g_9.2.1 tp 0 = .ref ba := (Sm.v m_19 r_tp (by decide) rfl kba)
    have kn_31 : g_9.2.1 h 1 = .ref nw := (Sm.v m_19 r_h (by decide) rfl knw)
    have kn_32 : g_9.2.1 nw 1 = .int sv := (Sm.v m_19 r_nw (by decide) rfl ksv)
    have kn_33 : g_9.2.1 nw 0 = .ref sa := (Sm.v m_19 r_nw (by decide) rfl ksa)
    rcases f_21 with rfl | ⟨q_34, rfl, r_q_34⟩
    · refine W.eq (g2 := F0 m 20 ls [.null]) rfl ?_
      have hOO := f_18
      have hpk_ := f_15.1 rfl
      refine lv_astore_nN (lv' := [(2, .null), (0, .ref h), (1, .int n)]) hx hb dX6_change_20 rfl hl (by decide) rfl (fun ls hl => ?_)
      refine lv_aload_nN hx hb dX6_change_21 rfl (lv_at hl 0 rfl) ?_
      refine lv_ifnonnullN hx hb dX6_change_22 ?_
      refine lv_bipush (v := (-10)) hx hb dX6_change_25 (by decide) ?_
      refine lv_aload_n hx hb dX6_change_27 rfl (lv_at hl 1 rfl) ?_
      refine t_get (ci := 6) (v := .ref tp) hB hT (ro_ci r_22 rfl) rfl 0 (by decide) k_308 kn_29 dX6_change_28 ?_
      refine t_get (ci := 4) (v := .int fl_11) hB hT (ro_ci r_23 rfl) rfl 2 (by decide) k_90 f_12 dX6_change_31 ?_
      refine lv_isub hx hb dX6_change_34 ?_
      refine lv_topi (fun z_35 ez_35 => ?_)
      have e_z_35 : z_35.toInt = (-10) - fl_11.toInt := i_sub ez_35 (by decide) rfl (by omega) (by omega)
      exact t_iret hB hr hT (Nat.le_of_ble_eq_true rfl) (Nat.le_of_ble_eq_true rfl) dX6_change_35 ⟨z_35, (0 : Int32), rfl, hI, hE, hM, f_13, (by have q2_ : (-2 : Int32).toInt = -2 := (by decide); have q4_ : (-4 : Int32).toInt = -4 := (by decide); have q1_ : (-1 : Int32).toInt = -1 := (by decide); have q0_ : (0 : Int32).toInt = 0 := (by decide); unfold chR; rw [if_pos (show 0 ≤ n.toInt ∧ n.toInt < sv.toInt from ⟨by omega, by omega⟩), k_false hpk_] <;> omega), (by have q2_ : (-2 : Int32).toInt = -2 := (by decide); have q4_ : (-4 : Int32).toInt = -4 := (by decide); have q1_ : (-1 : Int32).toInt = -1 := (by decide); have q0_ : (0 : Int32).toInt = 0 := (by decide); unfold chZ; omega), ⟨hOO, Or.inl ⟨chb_k ⟨by omega, by omega⟩ hpk_, fun q_ r_ => m_19.1 q_ 0 (by rw [r_]; decide) (by rw [r_]; rfl)⟩⟩⟩
    · refine W.eq (g2 := F0 m 20 ls [.ref q_34]) rfl ?_
      have hOO := f_18
      have hPP := f_17 q_34 rfl
      have hpk_ := f_15.2 (fun h_ => by cases h_)
      obtain ⟨cz_, e_cz_, hcz_⟩ := f_16 q_34 rfl
      refine lv_astore_n (lv' := [(2, .ref q_34), (0, .ref h), (1, .int n)]) hx hb dX6_change_20 rfl hl (by decide) rfl (fun ls hl => ?_)
      refine lv_aload_n hx hb dX6_change_21 rfl (lv_at hl 0 rfl) ?_
      refine lv_ifnonnull (tgt := 36) hx hb dX6_change_22 (by decide) ?_
      refine lv_aload_n hx hb dX6_change_36 rfl (lv_at hl 1 rfl) ?_
      refine t_get (ci := 6) (v := .ref nw) hB hT (ro_ci r_22 rfl) rfl 1 (by decide) k_309 kn_31 dX6_change_37 ?_
      refine t_get (ci := 5) (v := .ref sa) hB hT (ro_ci r_25 rfl) rfl 0 (by decide) k_200 kn_33 dX6_change_40 ?_
      refine lv_iload_n hx hb dX6_change_43 rfl (lv_at hl 2 rfl) ?_
      have i_q_36 : vp_in n 6 := (i_in (n := 6) rfl (by omega) (by omega))
      obtain ⟨q_36, e_q_36, r_q_36⟩ := hI.q r_26 n_28 (i_cl i_q_36)
      refine t_aald hB hT (Or.inr <| Or.inl r_26) n_28 i_q_36 e_q_36 dX6_change_44 ?_
      refine lv_aload_n hx hb dX6_change_45 rfl (lv_at hl 0 rfl) ?_
      refine t_put0 (ci := 3) (v := .ref q_34) hB hT (ro_ci r_q_36 rfl) (ro_n0 r_q_36 (by decide)) rfl 0 (by decide) k_144 (Or.inl rfl) rfl rfl dX6_change_46 (fun H locs hT => ?_)
      have hI : Inv (sF g_9 q_36 0 (.ref q_34)) := hI.sF (p_10_0 r_q_36 (⟨_, rfl, r_q_34⟩))
      have hM : Sm md_P_change g (sF g_9 q_36 0 (.ref q_34)) := hM.tr hE (Sm_sF (by rw [r_q_36]; rfl))
      have hE : Ex g (sF g_9 q_36 0 (.ref q_34)) := hE
      have hc : (sF g_9 q_36 0 (.ref q_34)).2.2.2.1 ba = ct := hc
      have hOO : OO g (sF g_9 q_36 0 (.ref q_34)) := OO.tr (g' := g_9) hE hOO (OO.sm (md := mdf [(10, 0)]) (Sm_sF (by rw [r_q_36]; rfl)) rfl rfl rfl rfl)
      have hPP : PP (sF g_9 q_36 0 (.ref q_34)) q_34 (txb ct sz.toInt) (pgn (txb ct sz.toInt)) := hPP.sm (md := mdf [(10, 0)]) (Sm_sF (by rw [r_q_36]; rfl)) Ex.rf r_q_34 rfl rfl rfl rfl rfl rfl rfl
      refine lv_aload_n hx hb dX6_change_49 rfl (lv_at hl 0 rfl) ?_
      refine t_get (ci := 2) (v := .int cz_) hB hT (ro_ci r_q_34 rfl) rfl 3 (by decide) k_132 (sF_k e_cz_ (by decide)) dX6_change_50 ?_
      exact t_iret hB hr hT (Nat.le_of_ble_eq_true rfl) (Nat.le_of_ble_eq_true rfl) dX6_change_53 ⟨cz_, (0 : Int32), rfl, hI, hE, hM, (sF_k f_13 (by decide)), (by have q2_ : (-2 : Int32).toInt = -2 := (by decide); have q4_ : (-4 : Int32).toInt = -4 := (by decide); have q1_ : (-1 : Int32).toInt = -1 := (by decide); have q0_ : (0 : Int32).toInt = 0 := (by decide); unfold chR; rw [if_pos (show 0 ≤ n.toInt ∧ n.toInt < sv.toInt from ⟨by omega, by omega⟩), k_true hpk_] <;> omega), (by have q2_ : (-2 : Int32).toInt = -2 := (by decide); have q4_ : (-4 : Int32).toInt = -4 := (by decide); have q1_ : (-1 : Int32).toInt = -1 := (by decide); have q0_ : (0 : Int32).toInt = 0 := (by decide); unfold chZ; omega), ⟨hOO, Or.inr ⟨chb_k ⟨by omega, by omega⟩ hpk_, q_36, q_34, (congrFun (m_19.2 sa (by rw [r_sa]; decide) (by rw [r_sa]; rfl)).2 _).symm.trans e_q_36, sF_eq, r_q_34, hPP, fun q_ r_ n_ => sF_a (m_19.1 q_ 0 (by rw [r_]; decide) (by rw [r_]; rfl)) n_⟩⟩⟩
  · refine W.eq (g2 := F0 m 8 ls [.int 0]) rfl ?_
    refine lv_if_ne (tgt := 13) hx hb dX6_change_8 (by decide) (fun c_ => absurd (by decide) c_) (fun c_ => ?_)
    refine lv_iconst (v := (-1)) hx hb dX6_change_11 (by decide) ?_
    exact t_iret hB hr hT (Nat.le_of_ble_eq_true rfl) (Nat.le_of_ble_eq_true rfl) dX6_change_12 ⟨(-1), sz, rfl, hI, hE, hM, ksz, (by have q2_ : (-2 : Int32).toInt = -2 := (by decide); have q4_ : (-4 : Int32).toInt = -4 := (by decide); have q1_ : (-1 : Int32).toInt = -1 := (by decide); have q0_ : (0 : Int32).toInt = 0 := (by decide); unfold chR; omega), (by have q2_ : (-2 : Int32).toInt = -2 := (by decide); have q4_ : (-4 : Int32).toInt = -4 := (by decide); have q1_ : (-1 : Int32).toInt = -1 := (by decide); have q0_ : (0 : Int32).toInt = 0 := (by decide); unfold chZ; omega), ⟨OO.rf, Or.inl ⟨chb_0 (by omega), fun _ _ => rfl⟩⟩⟩
abbrev md_P_row : Nat → Nat → Bool := mdf [(1, 3), (61, 99), (62, 99), (63, 99)]
theorem mdle_P_row_s_appendLatest {r k : Nat} (h : md_P_row r k = false) : md_s_appendLatest r k = false := mdf_le (by decide +kernel) h
set_option maxHeartbeats 4000000 in
set_option maxRecDepth 100000 in
theorem P_row (l : Launch) (D : va_G) (cI cZ cS cR : ClassId) (N0 : NT) (g : GS) (hI : Inv g) (h : Nat) (n : Int32) (k : Int32) (j : Int32) (nw : Nat) (sv : Int32) (rl : Nat) (rz : Int32) (r_h : g.1 h = 7) (r_nw : g.1 nw = 19) (r_rl : g.1 rl = 1) (knw : g.2.1 h 1 = .ref nw) (ksv : g.2.1 nw 1 = .int sv) (krl : g.2.1 h 2 = .ref rl) (krz : g.2.1 rl 3 = .int rz) (l_sv : 0 ≤ sv.toInt) (u_sv : sv.toInt ≤ 6) (l_rz : 0 ≤ rz.toInt) (u_rz : rz.toInt ≤ 6) : Ty l D cI cZ cS cR N0 yX6_row cX6_row 4 (some .int) 2 0 0 [.ref h, .int n, .int k, .int j] g (fun v g' => ∃ (r : Int32) (q2 : Int32), v = some (.int r) ∧ Inv g' ∧ Ex g g' ∧ Sm md_P_row g g' ∧ (g'.2.1 rl 3 = .int q2) ∧ (r.toInt = roR sv.toInt rz.toInt n.toInt k.toInt j.toInt) ∧ (q2.toInt = roQ sv.toInt rz.toInt n.toInt k.toInt j.toInt)) := by
  refine t_enter (by decide) (Nat.le_of_ble_eq_true rfl) ?_
  intro p e s m args below meth c ls H locs hB hr hin hl hT
  have hx := hB.1
  have hb := hB.2.1
  have hl : lv_has ls 4 [(0, .ref h), (1, .int n), (2, .int k), (3, .int j)] := hl
  have hE : Ex g g := Ex.rf
  have hM : Sm md_P_row g g := Sm.rf
  refine lv_aload_n hx hb dX6_row_0 rfl (lv_at hl 0 rfl) ?_
  refine t_get (ci := 6) (v := .ref nw) hB hT (ro_ci r_h rfl) rfl 1 (by decide) k_309 knw dX6_row_1 ?_
  refine lv_iload_n hx hb dX6_row_4 rfl (lv_at hl 1 rfl) ?_
  refine t_callV (n := 1) (As := [.int n]) (rest := []) (ci := 5) hB hT hl.1 (n_has l D cI cZ cS cR N0 g hI nw n sv r_nw ksv (by omega) (by omega)) (ro_ci r_nw rfl) rfl k_436 k_59 k_433 k_434 k_435 (by decide +kernel) ⟨(Nat.le_of_ble_eq_true rfl), (Nat.le_of_ble_eq_true rfl)⟩ rfl (Nat.le_of_ble_eq_true rfl) ⟨(Nat.le_of_ble_eq_true rfl), (Nat.le_of_ble_eq_true rfl)⟩ dX6_row_5 (fun v g_1 H locs hp hT => ?_)
  obtain ⟨r_2, rfl, eg, f_3⟩ := hp
  rw [eg] at hT
  clear eg
  refine W.eq (g2 := F0 m 8 ls [.int r_2]) rfl ?_
  rcases f_3 with ⟨rfl, hw_6, hw_7⟩ | ⟨rfl, hw_8⟩
  · refine W.eq (g2 := F0 m 8 ls [.int 1]) rfl ?_
    refine lv_if_ne (tgt := 13) hx hb dX6_row_8 (by decide) (fun c_ => ?_) (fun c_ => absurd c_ (by decide))
    refine lv_iload_n hx hb dX6_row_13 rfl (lv_at hl 2 rfl) ?_
    refine lv_sipush (v := 999) hx hb dX6_row_14 (by decide) ?_
    refine t_callS (n := 2) (As := [.int k, .int 999]) (rest := []) hB hT hl.1 (s_within l D cI cZ cS cR N0 g hI k 999 ) k_415 k_57 k_441 k_414 (by decide +kernel) ⟨(Nat.le_of_ble_eq_true rfl), (Nat.le_of_ble_eq_true rfl)⟩ rfl (Nat.le_of_ble_eq_true rfl) ⟨(Nat.le_of_ble_eq_true rfl), (Nat.le_of_ble_eq_true rfl)⟩ dX6_row_17 (fun v g_9 H locs hp hT => ?_)
    obtain ⟨r_10, rfl, eg, f_11⟩ := hp
    rw [eg] at hT
    clear eg
    refine W.eq (g2 := F0 m 20 ls [.int r_10]) rfl ?_
    have qc_14 : (999 : Int32).toInt = 999 := (by decide)
    rcases f_11 with ⟨rfl, hw_15, hw_16⟩ | ⟨rfl, hw_17⟩
    · refine W.eq (g2 := F0 m 20 ls [.int 1]) rfl ?_
      refine lv_if_eq (tgt := 32) hx hb dX6_row_20 (by decide) (fun c_ => absurd c_ (by decide)) (fun c_ => ?_)
      refine lv_iload_n hx hb dX6_row_23 rfl (lv_at hl 3 rfl) ?_
      refine lv_bipush (v := 99) hx hb dX6_row_24 (by decide) ?_
      refine t_callS (n := 2) (As := [.int j, .int 99]) (rest := []) hB hT hl.1 (s_within l D cI cZ cS cR N0 g hI j 99 ) k_415 k_57 k_441 k_414 (by decide +kernel) ⟨(Nat.le_of_ble_eq_true rfl), (Nat.le_of_ble_eq_true rfl)⟩ rfl (Nat.le_of_ble_eq_true rfl) ⟨(Nat.le_of_ble_eq_true rfl), (Nat.le_of_ble_eq_true rfl)⟩ dX6_row_26 (fun v g_18 H locs hp hT => ?_)
      obtain ⟨r_19, rfl, eg, f_20⟩ := hp
      rw [eg] at hT
      clear eg
      refine W.eq (g2 := F0 m 29 ls [.int r_19]) rfl ?_
      have qc_23 : (99 : Int32).toInt = 99 := (by decide)
      rcases f_20 with ⟨rfl, hw_24, hw_25⟩ | ⟨rfl, hw_26⟩
      · refine W.eq (g2 := F0 m 29 ls [.int 1]) rfl ?_
        refine lv_if_ne (tgt := 35) hx hb dX6_row_29 (by decide) (fun c_ => ?_) (fun c_ => absurd c_ (by decide))
        refine lv_aload_n hx hb dX6_row_35 rfl (lv_at hl 0 rfl) ?_
        refine t_get (ci := 6) (v := .ref rl) hB hT (ro_ci r_h rfl) rfl 2 (by decide) k_310 krl dX6_row_36 ?_
        refine t_get (ci := 0) (v := .int rz) hB hT (ro_ci r_rl rfl) rfl 3 (by decide) k_256 krz dX6_row_39 ?_
        refine lv_bipush (v := 6) hx hb dX6_row_42 (by decide) ?_
        refine lv_icmp_lt (tgt := 50) hx hb dX6_row_44 (by decide) (fun c_27 => ?_) (fun c_27 => ?_)
        · have c_27' : rz.toInt < 6 := i_lt c_27 rfl (by decide)
          refine lv_aload_n hx hb dX6_row_50 rfl (lv_at hl 0 rfl) ?_
          refine t_get (ci := 6) (v := .ref rl) hB hT (ro_ci r_h rfl) rfl 2 (by decide) k_310 krl dX6_row_51 ?_
          refine lv_iload_n hx hb dX6_row_54 rfl (lv_at hl 1 rfl) ?_
          refine lv_iload_n hx hb dX6_row_55 rfl (lv_at hl 2 rfl) ?_
          refine lv_iload_n hx hb dX6_row_56 rfl (lv_at hl 3 rfl) ?_
          obtain ⟨v_28, e_v_28, r_v_28, n_v_28⟩ := f_1_0 hI r_rl
          obtain ⟨v_29, e_v_29, r_v_29, n_v_29⟩ := f_1_1 hI r_rl
          obtain ⟨v_30, e_v_30, r_v_30, n_v_30⟩ := f_1_2 hI r_rl
          refine t_callV (n := 3) (As := [.int n, .int k, .int j]) (rest := []) (ci := 0) hB hT hl.1 (s_appendLatest l D cI cZ cS cR N0 g hI rl n k j rz v_28 v_29 v_30 r_rl r_v_28 n_v_28 r_v_29 n_v_29 r_v_30 n_v_30 krz e_v_28 e_v_29 e_v_30 (by omega) (by omega) (by omega) (by omega)) (ro_ci r_rl rfl) rfl k_489 k_62 k_486 k_487 k_488 (by decide +kernel) ⟨(Nat.le_of_ble_eq_true rfl), (Nat.le_of_ble_eq_true rfl)⟩ rfl (Nat.le_of_ble_eq_true rfl) ⟨(Nat.le_of_ble_eq_true rfl), (Nat.le_of_ble_eq_true rfl)⟩ dX6_row_57 (fun v g_31 H locs hp hT => ?_)
          obtain ⟨z2_32, rfl, hI, x_36, m_35, f_33, f_34⟩ := hp
          have hM : Sm md_P_row g g_31 := hM.tr hE (m_35.mo (fun r k h => mdle_P_row_s_appendLatest h))
          have hE : Ex g g_31 := hE.tr x_36
          have r_37 : g_31.1 h = 7 := (Ex.r x_36 r_h (by decide))
          have r_38 : g_31.1 nw = 19 := (Ex.r x_36 r_nw (by decide))
          have r_39 : g_31.1 rl = 1 := (Ex.r x_36 r_rl (by decide))
          have r_40 : g_31.1 v_28 = 61 := (Ex.r x_36 r_v_28 (by decide))
          have r_41 : g_31.1 v_29 = 62 := (Ex.r x_36 r_v_29 (by decide))
          have r_42 : g_31.1 v_30 = 63 := (Ex.r x_36 r_v_30 (by decide))
          have n_43 : g_31.2.2.1 v_28 = 6 := (Ex.n x_36 r_v_28 (by decide) n_v_28)
          have n_44 : g_31.2.2.1 v_29 = 6 := (Ex.n x_36 r_v_29 (by decide) n_v_29)
          have n_45 : g_31.2.2.1 v_30 = 6 := (Ex.n x_36 r_v_30 (by decide) n_v_30)
          have kn_46 : g_31.2.1 h 1 = .ref nw := (Sm.v m_35 r_h (by decide) rfl knw)
          have kn_47 : g_31.2.1 nw 1 = .int sv := (Sm.v m_35 r_nw (by decide) rfl ksv)
          have kn_48 : g_31.2.1 h 2 = .ref rl := (Sm.v m_35 r_h (by decide) rfl krl)
          have kn_49 : g_31.2.1 rl 0 = .ref v_28 := (Sm.v m_35 r_rl (by decide) rfl e_v_28)
          have kn_50 : g_31.2.1 rl 1 = .ref v_29 := (Sm.v m_35 r_rl (by decide) rfl e_v_29)
          have kn_51 : g_31.2.1 rl 2 = .ref v_30 := (Sm.v m_35 r_rl (by decide) rfl e_v_30)
          refine W.eq (g2 := F0 m 60 ls []) rfl ?_
          refine lv_aload_n hx hb dX6_row_60 rfl (lv_at hl 0 rfl) ?_
          refine t_get (ci := 6) (v := .ref rl) hB hT (ro_ci r_37 rfl) rfl 2 (by decide) k_310 kn_48 dX6_row_61 ?_
          refine t_get (ci := 0) (v := .int z2_32) hB hT (ro_ci r_39 rfl) rfl 3 (by decide) k_256 f_33 dX6_row_64 ?_
          exact t_iret hB hr hT (Nat.le_of_ble_eq_true rfl) (Nat.le_of_ble_eq_true rfl) dX6_row_67 ⟨z2_32, z2_32, rfl, hI, hE, hM, f_33, (by have q2_ : (-2 : Int32).toInt = -2 := (by decide); have q4_ : (-4 : Int32).toInt = -4 := (by decide); have q1_ : (-1 : Int32).toInt = -1 := (by decide); have q0_ : (0 : Int32).toInt = 0 := (by decide); unfold roR; omega), (by have q2_ : (-2 : Int32).toInt = -2 := (by decide); have q4_ : (-4 : Int32).toInt = -4 := (by decide); have q1_ : (-1 : Int32).toInt = -1 := (by decide); have q0_ : (0 : Int32).toInt = 0 := (by decide); unfold roQ; omega)⟩
        · have c_27' : 6 ≤ rz.toInt := i_nlt c_27 rfl (by decide)
          refine lv_bipush (v := (-4)) hx hb dX6_row_47 (by decide) ?_
          exact t_iret hB hr hT (Nat.le_of_ble_eq_true rfl) (Nat.le_of_ble_eq_true rfl) dX6_row_49 ⟨(-4), rz, rfl, hI, hE, hM, krz, (by have q2_ : (-2 : Int32).toInt = -2 := (by decide); have q4_ : (-4 : Int32).toInt = -4 := (by decide); have q1_ : (-1 : Int32).toInt = -1 := (by decide); have q0_ : (0 : Int32).toInt = 0 := (by decide); unfold roR; omega), (by have q2_ : (-2 : Int32).toInt = -2 := (by decide); have q4_ : (-4 : Int32).toInt = -4 := (by decide); have q1_ : (-1 : Int32).toInt = -1 := (by decide); have q0_ : (0 : Int32).toInt = 0 := (by decide); unfold roQ; omega)⟩
      · refine W.eq (g2 := F0 m 29 ls [.int 0]) rfl ?_
        refine lv_if_ne (tgt := 35) hx hb dX6_row_29 (by decide) (fun c_ => absurd (by decide) c_) (fun c_ => ?_)
        refine lv_bipush (v := (-2)) hx hb dX6_row_32 (by decide) ?_
        exact t_iret hB hr hT (Nat.le_of_ble_eq_true rfl) (Nat.le_of_ble_eq_true rfl) dX6_row_34 ⟨(-2), rz, rfl, hI, hE, hM, krz, (by have q2_ : (-2 : Int32).toInt = -2 := (by decide); have q4_ : (-4 : Int32).toInt = -4 := (by decide); have q1_ : (-1 : Int32).toInt = -1 := (by decide); have q0_ : (0 : Int32).toInt = 0 := (by decide); unfold roR; omega), (by have q2_ : (-2 : Int32).toInt = -2 := (by decide); have q4_ : (-4 : Int32).toInt = -4 := (by decide); have q1_ : (-1 : Int32).toInt = -1 := (by decide); have q0_ : (0 : Int32).toInt = 0 := (by decide); unfold roQ; omega)⟩
    · refine W.eq (g2 := F0 m 20 ls [.int 0]) rfl ?_
      refine lv_if_eq (tgt := 32) hx hb dX6_row_20 (by decide) (fun c_ => ?_) (fun c_ => absurd (by decide) c_)
      refine lv_bipush (v := (-2)) hx hb dX6_row_32 (by decide) ?_
      exact t_iret hB hr hT (Nat.le_of_ble_eq_true rfl) (Nat.le_of_ble_eq_true rfl) dX6_row_34 ⟨(-2), rz, rfl, hI, hE, hM, krz, (by have q2_ : (-2 : Int32).toInt = -2 := (by decide); have q4_ : (-4 : Int32).toInt = -4 := (by decide); have q1_ : (-1 : Int32).toInt = -1 := (by decide); have q0_ : (0 : Int32).toInt = 0 := (by decide); unfold roR; omega), (by have q2_ : (-2 : Int32).toInt = -2 := (by decide); have q4_ : (-4 : Int32).toInt = -4 := (by decide); have q1_ : (-1 : Int32).toInt = -1 := (by decide); have q0_ : (0 : Int32).toInt = 0 := (by decide); unfold roQ; omega)⟩
  · refine W.eq (g2 := F0 m 8 ls [.int 0]) rfl ?_
    refine lv_if_ne (tgt := 13) hx hb dX6_row_8 (by decide) (fun c_ => absurd (by decide) c_) (fun c_ => ?_)
    refine lv_iconst (v := (-1)) hx hb dX6_row_11 (by decide) ?_
    exact t_iret hB hr hT (Nat.le_of_ble_eq_true rfl) (Nat.le_of_ble_eq_true rfl) dX6_row_12 ⟨(-1), rz, rfl, hI, hE, hM, krz, (by have q2_ : (-2 : Int32).toInt = -2 := (by decide); have q4_ : (-4 : Int32).toInt = -4 := (by decide); have q1_ : (-1 : Int32).toInt = -1 := (by decide); have q0_ : (0 : Int32).toInt = 0 := (by decide); unfold roR; omega), (by have q2_ : (-2 : Int32).toInt = -2 := (by decide); have q4_ : (-4 : Int32).toInt = -4 := (by decide); have q1_ : (-1 : Int32).toInt = -1 := (by decide); have q0_ : (0 : Int32).toInt = 0 := (by decide); unfold roQ; omega)⟩
abbrev md_P_clear : Nat → Nat → Bool := mdf [(1, 3)]
set_option maxHeartbeats 4000000 in
set_option maxRecDepth 100000 in
theorem P_clear (l : Launch) (D : va_G) (cI cZ cS cR : ClassId) (N0 : NT) (g : GS) (hI : Inv g) (h : Nat) (rl : Nat) (rz : Int32) (r_h : g.1 h = 7) (r_rl : g.1 rl = 1) (krl : g.2.1 h 2 = .ref rl) (krz : g.2.1 rl 3 = .int rz) (l_rz : 0 ≤ rz.toInt) (u_rz : rz.toInt ≤ 6) : Ty l D cI cZ cS cR N0 yX6_clear cX6_clear 2 (some .int) 0 0 0 [.ref h] g (fun v g' => ∃ (r : Int32), v = some (.int r) ∧ Inv g' ∧ Ex g g' ∧ Sm md_P_clear g g' ∧ (g'.2.1 rl 3 = .int 0) ∧ (r = rz)) := by
  refine t_enter (by decide) (Nat.le_of_ble_eq_true rfl) ?_
  intro p e s m args below meth c ls H locs hB hr hin hl hT
  have hx := hB.1
  have hb := hB.2.1
  have hl : lv_has ls 2 [(0, .ref h)] := hl
  have hE : Ex g g := Ex.rf
  have hM : Sm md_P_clear g g := Sm.rf
  refine lv_aload_n hx hb dX6_clear_0 rfl (lv_at hl 0 rfl) ?_
  refine t_get (ci := 6) (v := .ref rl) hB hT (ro_ci r_h rfl) rfl 2 (by decide) k_310 krl dX6_clear_1 ?_
  refine t_get (ci := 0) (v := .int rz) hB hT (ro_ci r_rl rfl) rfl 3 (by decide) k_256 krz dX6_clear_4 ?_
  refine lv_istore_n (lv' := [(1, .int rz), (0, .ref h)]) hx hb dX6_clear_7 rfl hl (by decide) rfl (fun ls hl => ?_)
  refine lv_aload_n hx hb dX6_clear_8 rfl (lv_at hl 1 rfl) ?_
  refine t_get (ci := 6) (v := .ref rl) hB hT (ro_ci r_h rfl) rfl 2 (by decide) k_310 krl dX6_clear_9 ?_
  refine lv_iconst (v := 0) hx hb dX6_clear_12 (by decide) ?_
  refine t_put0 (ci := 0) (v := .int 0) hB hT (ro_ci r_rl rfl) (ro_n0 r_rl (by decide)) rfl 3 (by decide) k_256 (Or.inl rfl) rfl rfl dX6_clear_13 (fun H locs hT => ?_)
  have hI : Inv (sF g rl 3 (.int 0)) := hI.sF (p_1_3 r_rl (⟨_, rfl, by decide, by decide⟩))
  have hM : Sm md_P_clear g (sF g rl 3 (.int 0)) := hM.tr hE (Sm_sF (by rw [r_rl]; rfl))
  have hE : Ex g (sF g rl 3 (.int 0)) := hE
  refine lv_iload_n hx hb dX6_clear_16 rfl (lv_at hl 0 rfl) ?_
  exact t_iret hB hr hT (Nat.le_of_ble_eq_true rfl) (Nat.le_of_ble_eq_true rfl) dX6_clear_17 ⟨rz, rfl, hI, hE, hM, sF_eq, rfl⟩
abbrev md_P_act : Nat → Nat → Bool := mdf []
set_option maxHeartbeats 4000000 in
set_option maxRecDepth 100000 in
theorem P_act (l : Launch) (D : va_G) (cI cZ cS cR : ClassId) (N0 : NT) (g : GS) (hI : Inv g) (h : Nat) (n : Int32) (k : Int32) (j : Int32) (nw : Nat) (sv : Int32) (sa : Nat) (r_h : g.1 h = 7) (r_nw : g.1 nw = 19) (r_sa : g.1 sa = 42) (n_sa : g.2.2.1 sa = 6) (knw : g.2.1 h 1 = .ref nw) (ksv : g.2.1 nw 1 = .int sv) (ksa : g.2.1 nw 0 = .ref sa) (l_sv : 0 ≤ sv.toInt) (u_sv : sv.toInt ≤ 6) : Ty l D cI cZ cS cR N0 yX6_act cX6_act 5 (some .int) 1 0 0 [.ref h, .int n, .int k, .int j] g (fun v g' => ∃ (r : Int32), v = some (.int r) ∧ Inv g' ∧ Ex g g' ∧ Sm md_P_act g g' ∧ (AF g sa sv.toInt n.toInt k.toInt j.toInt n.toNatClampNeg k.toNatClampNeg r)) := by
  refine t_enter (by decide) (Nat.le_of_ble_eq_true rfl) ?_
  intro p e s m args below meth c ls H locs hB hr hin hl hT
  have hx := hB.1
  have hb := hB.2.1
  have hl : lv_has ls 5 [(0, .ref h), (1, .int n), (2, .int k), (3, .int j)] := hl
  have hE : Ex g g := Ex.rf
  have hM : Sm md_P_act g g := Sm.rf
  refine lv_aload_n hx hb dX6_act_0 rfl (lv_at hl 0 rfl) ?_
  refine t_get (ci := 6) (v := .ref nw) hB hT (ro_ci r_h rfl) rfl 1 (by decide) k_309 knw dX6_act_1 ?_
  refine lv_iload_n hx hb dX6_act_4 rfl (lv_at hl 1 rfl) ?_
  refine t_callV (n := 1) (As := [.int n]) (rest := []) (ci := 5) hB hT hl.1 (n_has l D cI cZ cS cR N0 g hI nw n sv r_nw ksv (by omega) (by omega)) (ro_ci r_nw rfl) rfl k_436 k_59 k_433 k_434 k_435 (by decide +kernel) ⟨(Nat.le_of_ble_eq_true rfl), (Nat.le_of_ble_eq_true rfl)⟩ rfl (Nat.le_of_ble_eq_true rfl) ⟨(Nat.le_of_ble_eq_true rfl), (Nat.le_of_ble_eq_true rfl)⟩ dX6_act_5 (fun v g_1 H locs hp hT => ?_)
  obtain ⟨r_2, rfl, eg, f_3⟩ := hp
  rw [eg] at hT
  clear eg
  refine W.eq (g2 := F0 m 8 ls [.int r_2]) rfl ?_
  rcases f_3 with ⟨rfl, hw_6, hw_7⟩ | ⟨rfl, hw_8⟩
  · refine W.eq (g2 := F0 m 8 ls [.int 1]) rfl ?_
    refine lv_if_ne (tgt := 13) hx hb dX6_act_8 (by decide) (fun c_ => ?_) (fun c_ => absurd c_ (by decide))
    refine lv_aload_n hx hb dX6_act_13 rfl (lv_at hl 0 rfl) ?_
    refine t_get (ci := 6) (v := .ref nw) hB hT (ro_ci r_h rfl) rfl 1 (by decide) k_309 knw dX6_act_14 ?_
    refine t_get (ci := 5) (v := .ref sa) hB hT (ro_ci r_nw rfl) rfl 0 (by decide) k_200 ksa dX6_act_17 ?_
    refine lv_iload_n hx hb dX6_act_20 rfl (lv_at hl 1 rfl) ?_
    have i_q_9 : vp_in n 6 := (i_in (n := 6) rfl (by omega) (by omega))
    obtain ⟨q_9, e_q_9, r_q_9⟩ := hI.q r_sa n_sa (i_cl i_q_9)
    refine t_aald hB hT (Or.inr <| Or.inl r_sa) n_sa i_q_9 e_q_9 dX6_act_21 ?_
    obtain ⟨v_10, e_v_10, r_v_10⟩ := f_10_0 hI r_q_9
    refine t_get (ci := 3) (v := .ref v_10) hB hT (ro_ci r_q_9 rfl) rfl 0 (by decide) k_144 e_v_10 dX6_act_22 ?_
    refine lv_astore (lv' := [(4, .ref v_10), (0, .ref h), (1, .int n), (2, .int k), (3, .int j)]) hx hb dX6_act_25 hl (by decide) rfl (fun ls hl => ?_)
    refine lv_iload_n hx hb dX6_act_27 rfl (lv_at hl 3 rfl) ?_
    refine lv_aload hx hb dX6_act_28 (lv_at hl 0 rfl) ?_
    obtain ⟨v_11, e_v_11, l_v_11, u_v_11⟩ := f_3_3 hI r_v_10
    refine t_get (ci := 2) (v := .int v_11) hB hT (ro_ci r_v_10 rfl) rfl 3 (by decide) k_132 e_v_11 dX6_act_30 ?_
    refine lv_iconst (v := 1) hx hb dX6_act_33 (by decide) ?_
    refine lv_isub hx hb dX6_act_34 ?_
    refine lv_topi (fun z_12 ez_12 => ?_)
    have e_z_12 : z_12.toInt = v_11.toInt - 1 := i_sub ez_12 rfl (by decide) (by omega) (by omega)
    refine t_callS (n := 2) (As := [.int k, .int z_12]) (rest := []) hB hT hl.1 (s_within l D cI cZ cS cR N0 g hI k z_12 ) k_415 k_57 k_441 k_414 (by decide +kernel) ⟨(Nat.le_of_ble_eq_true rfl), (Nat.le_of_ble_eq_true rfl)⟩ rfl (Nat.le_of_ble_eq_true rfl) ⟨(Nat.le_of_ble_eq_true rfl), (Nat.le_of_ble_eq_true rfl)⟩ dX6_act_35 (fun v g_13 H locs hp hT => ?_)
    obtain ⟨r_14, rfl, eg, f_15⟩ := hp
    rw [eg] at hT
    clear eg
    refine W.eq (g2 := F0 m 38 ls [.int r_14]) rfl ?_
    rcases f_15 with ⟨rfl, hw_18, hw_19⟩ | ⟨rfl, hw_20⟩
    · refine W.eq (g2 := F0 m 38 ls [.int 1]) rfl ?_
      refine lv_if_ne (tgt := 43) hx hb dX6_act_38 (by decide) (fun c_ => ?_) (fun c_ => absurd c_ (by decide))
      refine lv_iload_n hx hb dX6_act_43 rfl (lv_at hl 4 rfl) ?_
      by_cases ht_21 : (j < 0 ∨ 2 < j)
      · refine lv_tableOut (tgt := 96) hx hb dX6_act_44 (sw_out ht_21) (by decide) ?_
        refine lv_iconst (v := (-1)) hx hb dX6_act_96 (by decide) ?_
        obtain ⟨v_23, e_v_23, r_v_23, n_v_23⟩ := f_3_0 hI r_v_10
        obtain ⟨v_24, e_v_24, r_v_24, n_v_24⟩ := f_3_1 hI r_v_10
        obtain ⟨v_25, e_v_25, r_v_25, n_v_25⟩ := f_3_2 hI r_v_10
        exact t_iret hB hr hT (Nat.le_of_ble_eq_true rfl) (Nat.le_of_ble_eq_true rfl) dX6_act_97 ⟨(-1), rfl, hI, hE, hM, (Or.inr ⟨⟨by omega, by omega⟩, q_9, v_10, v_23, v_24, v_25, v_11, e_q_9, e_v_10, e_v_11, e_v_23, e_v_24, e_v_25, lgR_3 (sw_out ht_21)⟩)⟩
      · obtain ⟨j_22, hj_22, ej_22⟩ := sw_in (n := 3) rfl ht_21
        rcases (show j_22 = 0 ∨ j_22 = 1 ∨ j_22 = 2 by omega) with rfl | rfl | rfl
        · refine x_ev (y := 0) ej_22 ?_
          refine lv_tableIn (off := 28) (tgt := 72) hx hb dX6_act_44 (by decide) (by decide) rfl (by decide) ?_
          refine lv_aload hx hb dX6_act_72 (lv_at hl 0 rfl) ?_
          obtain ⟨v_26, e_v_26, r_v_26, n_v_26⟩ := f_3_0 hI r_v_10
          refine t_get (ci := 2) (v := .ref v_26) hB hT (ro_ci r_v_10 rfl) rfl 0 (by decide) k_123 e_v_26 dX6_act_74 ?_
          refine lv_iload_n hx hb dX6_act_77 rfl (lv_at hl 3 rfl) ?_
          have i_u_27 : vp_in k 8 := (i_in (n := 8) rfl (by omega) (by omega))
          refine t_iald hB hT (ro_in r_v_26 (by decide)) n_v_26 i_u_27 rfl dX6_act_78 ?_
          refine lv_topi (fun u_27 e_u_27 => ?_)
          obtain ⟨v_28, e_v_28, r_v_28, n_v_28⟩ := f_3_1 hI r_v_10
          obtain ⟨v_29, e_v_29, r_v_29, n_v_29⟩ := f_3_2 hI r_v_10
          exact t_iret hB hr hT (Nat.le_of_ble_eq_true rfl) (Nat.le_of_ble_eq_true rfl) dX6_act_79 ⟨u_27, rfl, hI, hE, hM, (Or.inr ⟨⟨by omega, by omega⟩, q_9, v_10, v_26, v_28, v_29, v_11, e_q_9, e_v_10, e_v_11, e_v_26, e_v_28, e_v_29, lgR_0 ⟨by omega, by omega⟩ ((congrArg Int32.toInt ej_22).trans (by decide)) e_u_27⟩)⟩
        · refine x_ev (y := 1) ej_22 ?_
          refine lv_tableIn (off := 36) (tgt := 80) hx hb dX6_act_44 (by decide) (by decide) rfl (by decide) ?_
          refine lv_aload hx hb dX6_act_80 (lv_at hl 0 rfl) ?_
          obtain ⟨v_30, e_v_30, r_v_30, n_v_30⟩ := f_3_1 hI r_v_10
          refine t_get (ci := 2) (v := .ref v_30) hB hT (ro_ci r_v_10 rfl) rfl 1 (by decide) k_127 e_v_30 dX6_act_82 ?_
          refine lv_iload_n hx hb dX6_act_85 rfl (lv_at hl 3 rfl) ?_
          have i_u_31 : vp_in k 8 := (i_in (n := 8) rfl (by omega) (by omega))
          refine t_iald hB hT (ro_in r_v_30 (by decide)) n_v_30 i_u_31 rfl dX6_act_86 ?_
          have c_u_31 := hI.c r_v_30 n_v_30 (i_cl i_u_31)
          refine lv_topi (fun u_31 e_u_31 => ?_)
          obtain ⟨l_u_31, u_u_31⟩ := c_u_31
          rw [← e_u_31] at l_u_31 u_u_31
          obtain ⟨v_32, e_v_32, r_v_32, n_v_32⟩ := f_3_0 hI r_v_10
          obtain ⟨v_33, e_v_33, r_v_33, n_v_33⟩ := f_3_2 hI r_v_10
          exact t_iret hB hr hT (Nat.le_of_ble_eq_true rfl) (Nat.le_of_ble_eq_true rfl) dX6_act_87 ⟨u_31, rfl, hI, hE, hM, (Or.inr ⟨⟨by omega, by omega⟩, q_9, v_10, v_32, v_30, v_33, v_11, e_q_9, e_v_10, e_v_11, e_v_32, e_v_30, e_v_33, lgR_1 ⟨by omega, by omega⟩ ((congrArg Int32.toInt ej_22).trans (by decide)) e_u_31⟩)⟩
        · refine x_ev (y := 2) ej_22 ?_
          refine lv_tableIn (off := 44) (tgt := 88) hx hb dX6_act_44 (by decide) (by decide) rfl (by decide) ?_
          refine lv_aload hx hb dX6_act_88 (lv_at hl 0 rfl) ?_
          obtain ⟨v_34, e_v_34, r_v_34, n_v_34⟩ := f_3_2 hI r_v_10
          refine t_get (ci := 2) (v := .ref v_34) hB hT (ro_ci r_v_10 rfl) rfl 2 (by decide) k_130 e_v_34 dX6_act_90 ?_
          refine lv_iload_n hx hb dX6_act_93 rfl (lv_at hl 3 rfl) ?_
          have i_u_35 : vp_in k 8 := (i_in (n := 8) rfl (by omega) (by omega))
          refine t_iald hB hT (ro_in r_v_34 (by decide)) n_v_34 i_u_35 rfl dX6_act_94 ?_
          refine lv_topi (fun u_35 e_u_35 => ?_)
          obtain ⟨v_36, e_v_36, r_v_36, n_v_36⟩ := f_3_0 hI r_v_10
          obtain ⟨v_37, e_v_37, r_v_37, n_v_37⟩ := f_3_1 hI r_v_10
          exact t_iret hB hr hT (Nat.le_of_ble_eq_true rfl) (Nat.le_of_ble_eq_true rfl) dX6_act_95 ⟨u_35, rfl, hI, hE, hM, (Or.inr ⟨⟨by omega, by omega⟩, q_9, v_10, v_36, v_37, v_34, v_11, e_q_9, e_v_10, e_v_11, e_v_36, e_v_37, e_v_34, lgR_2 ⟨by omega, by omega⟩ ((congrArg Int32.toInt ej_22).trans (by decide)) e_u_35⟩)⟩
    · refine W.eq (g2 := F0 m 38 ls [.int 0]) rfl ?_
      refine lv_if_ne (tgt := 43) hx hb dX6_act_38 (by decide) (fun c_ => absurd (by decide) c_) (fun c_ => ?_)
      refine lv_iconst (v := (-1)) hx hb dX6_act_41 (by decide) ?_
      obtain ⟨v_38, e_v_38, r_v_38, n_v_38⟩ := f_3_0 hI r_v_10
      obtain ⟨v_39, e_v_39, r_v_39, n_v_39⟩ := f_3_1 hI r_v_10
      obtain ⟨v_40, e_v_40, r_v_40, n_v_40⟩ := f_3_2 hI r_v_10
      exact t_iret hB hr hT (Nat.le_of_ble_eq_true rfl) (Nat.le_of_ble_eq_true rfl) dX6_act_42 ⟨(-1), rfl, hI, hE, hM, (Or.inr ⟨⟨by omega, by omega⟩, q_9, v_10, v_38, v_39, v_40, v_11, e_q_9, e_v_10, e_v_11, e_v_38, e_v_39, e_v_40, lgR_n (by omega)⟩)⟩
  · refine W.eq (g2 := F0 m 8 ls [.int 0]) rfl ?_
    refine lv_if_ne (tgt := 13) hx hb dX6_act_8 (by decide) (fun c_ => absurd (by decide) c_) (fun c_ => ?_)
    refine lv_iconst (v := (-1)) hx hb dX6_act_11 (by decide) ?_
    exact t_iret hB hr hT (Nat.le_of_ble_eq_true rfl) (Nat.le_of_ble_eq_true rfl) dX6_act_12 ⟨(-1), rfl, hI, hE, hM, (Or.inl ⟨by omega, rfl⟩)⟩
abbrev md_P_mend : Nat → Nat → Bool := mdf [(10, 3)]
set_option maxHeartbeats 4000000 in
set_option maxRecDepth 100000 in
theorem P_mend (l : Launch) (D : va_G) (cI cZ cS cR : ClassId) (N0 : NT) (g : GS) (hI : Inv g) (h : Nat) (n : Int32) (k : Int32) (j : Int32) (r_h : g.1 h = 7) : Ty l D cI cZ cS cR N0 yX6_mend cX6_mend 6 (some .int) 1 0 0 [.ref h, .int n, .int k, .int j] g (fun v g' => ∃ (r : Int32), v = some (.int r) ∧ Inv g' ∧ Ex g g' ∧ Sm md_P_mend g g') := by
  refine t_enter (by decide) (Nat.le_of_ble_eq_true rfl) ?_
  intro p e s m args below meth c ls H locs hB hr hin hl hT
  have hx := hB.1
  have hb := hB.2.1
  have hl : lv_has ls 6 [(0, .ref h), (1, .int n), (2, .int k), (3, .int j)] := hl
  have hE : Ex g g := Ex.rf
  have hM : Sm md_P_mend g g := Sm.rf
  refine lv_aload_n hx hb dX6_mend_0 rfl (lv_at hl 0 rfl) ?_
  obtain ⟨v_1, e_v_1, r_v_1⟩ := f_7_1 hI r_h
  refine t_get (ci := 6) (v := .ref v_1) hB hT (ro_ci r_h rfl) rfl 1 (by decide) k_309 e_v_1 dX6_mend_1 ?_
  refine lv_iload_n hx hb dX6_mend_4 rfl (lv_at hl 1 rfl) ?_
  obtain ⟨v_2, e_v_2, l_v_2, u_v_2⟩ := f_19_1 hI r_v_1
  refine t_callV (n := 1) (As := [.int n]) (rest := []) (ci := 5) hB hT hl.1 (n_has l D cI cZ cS cR N0 g hI v_1 n v_2 r_v_1 e_v_2 (by omega) (by omega)) (ro_ci r_v_1 rfl) rfl k_436 k_59 k_433 k_434 k_435 (by decide +kernel) ⟨(Nat.le_of_ble_eq_true rfl), (Nat.le_of_ble_eq_true rfl)⟩ rfl (Nat.le_of_ble_eq_true rfl) ⟨(Nat.le_of_ble_eq_true rfl), (Nat.le_of_ble_eq_true rfl)⟩ dX6_mend_5 (fun v g_3 H locs hp hT => ?_)
  obtain ⟨r_4, rfl, eg, f_5⟩ := hp
  rw [eg] at hT
  clear eg
  refine W.eq (g2 := F0 m 8 ls [.int r_4]) rfl ?_
  rcases f_5 with ⟨rfl, hw_8, hw_9⟩ | ⟨rfl, hw_10⟩
  · refine W.eq (g2 := F0 m 8 ls [.int 1]) rfl ?_
    refine lv_if_eq (tgt := 19) hx hb dX6_mend_8 (by decide) (fun c_ => absurd c_ (by decide)) (fun c_ => ?_)
    refine lv_iload_n hx hb dX6_mend_11 rfl (lv_at hl 2 rfl) ?_
    refine lv_iconst (v := 3) hx hb dX6_mend_12 (by decide) ?_
    refine t_callS (n := 2) (As := [.int k, .int 3]) (rest := []) hB hT hl.1 (s_within l D cI cZ cS cR N0 g hI k 3 ) k_415 k_57 k_441 k_414 (by decide +kernel) ⟨(Nat.le_of_ble_eq_true rfl), (Nat.le_of_ble_eq_true rfl)⟩ rfl (Nat.le_of_ble_eq_true rfl) ⟨(Nat.le_of_ble_eq_true rfl), (Nat.le_of_ble_eq_true rfl)⟩ dX6_mend_13 (fun v g_11 H locs hp hT => ?_)
    obtain ⟨r_12, rfl, eg, f_13⟩ := hp
    rw [eg] at hT
    clear eg
    refine W.eq (g2 := F0 m 16 ls [.int r_12]) rfl ?_
    have qc_16 : (3 : Int32).toInt = 3 := (by decide)
    rcases f_13 with ⟨rfl, hw_17, hw_18⟩ | ⟨rfl, hw_19⟩
    · refine W.eq (g2 := F0 m 16 ls [.int 1]) rfl ?_
      refine lv_if_ne (tgt := 21) hx hb dX6_mend_16 (by decide) (fun c_ => ?_) (fun c_ => absurd c_ (by decide))
      refine lv_iload_n hx hb dX6_mend_21 rfl (lv_at hl 3 rfl) ?_
      refine lv_iconst (v := 1) hx hb dX6_mend_22 (by decide) ?_
      refine t_callS (n := 2) (As := [.int j, .int 1]) (rest := []) hB hT hl.1 (s_within l D cI cZ cS cR N0 g hI j 1 ) k_415 k_57 k_441 k_414 (by decide +kernel) ⟨(Nat.le_of_ble_eq_true rfl), (Nat.le_of_ble_eq_true rfl)⟩ rfl (Nat.le_of_ble_eq_true rfl) ⟨(Nat.le_of_ble_eq_true rfl), (Nat.le_of_ble_eq_true rfl)⟩ dX6_mend_23 (fun v g_20 H locs hp hT => ?_)
      obtain ⟨r_21, rfl, eg, f_22⟩ := hp
      rw [eg] at hT
      clear eg
      refine W.eq (g2 := F0 m 26 ls [.int r_21]) rfl ?_
      have qc_25 : (1 : Int32).toInt = 1 := (by decide)
      rcases f_22 with ⟨rfl, hw_26, hw_27⟩ | ⟨rfl, hw_28⟩
      · refine W.eq (g2 := F0 m 26 ls [.int 1]) rfl ?_
        refine lv_if_ne (tgt := 32) hx hb dX6_mend_26 (by decide) (fun c_ => ?_) (fun c_ => absurd c_ (by decide))
        refine lv_aload_n hx hb dX6_mend_32 rfl (lv_at hl 0 rfl) ?_
        refine t_get (ci := 6) (v := .ref v_1) hB hT (ro_ci r_h rfl) rfl 1 (by decide) k_309 e_v_1 dX6_mend_33 ?_
        obtain ⟨v_29, e_v_29, r_v_29, n_v_29⟩ := f_19_0 hI r_v_1
        refine t_get (ci := 5) (v := .ref v_29) hB hT (ro_ci r_v_1 rfl) rfl 0 (by decide) k_200 e_v_29 dX6_mend_36 ?_
        refine lv_iload_n hx hb dX6_mend_39 rfl (lv_at hl 1 rfl) ?_
        have i_q_30 : vp_in n 6 := (i_in (n := 6) rfl (by omega) (by omega))
        obtain ⟨q_30, e_q_30, r_q_30⟩ := hI.q r_v_29 n_v_29 (i_cl i_q_30)
        refine t_aald hB hT (Or.inr <| Or.inl r_v_29) n_v_29 i_q_30 e_q_30 dX6_mend_40 ?_
        refine lv_astore (lv' := [(4, .ref q_30), (0, .ref h), (1, .int n), (2, .int k), (3, .int j)]) hx hb dX6_mend_41 hl (by decide) rfl (fun ls hl => ?_)
        refine lv_aload hx hb dX6_mend_43 (lv_at hl 0 rfl) ?_
        obtain ⟨v_31, e_v_31⟩ := f_10_3 hI r_q_30
        refine t_get (ci := 3) (v := .int v_31) hB hT (ro_ci r_q_30 rfl) rfl 3 (by decide) k_153 e_v_31 dX6_mend_45 ?_
        refine lv_iload_n hx hb dX6_mend_48 rfl (lv_at hl 3 rfl) ?_
        refine lv_ishr hx hb dX6_mend_49 ?_
        refine lv_topi (fun z_32 ez_32 => ?_)
        refine lv_iconst (v := 1) hx hb dX6_mend_50 (by decide) ?_
        refine lv_iand hx hb dX6_mend_51 ?_
        refine lv_topi (fun z_33 ez_33 => ?_)
        have e_z_33 := i_and 1 (b := 1) ez_33 (by decide) (by decide) (by decide)
        refine lv_istore (lv' := [(5, .int z_33), (4, .ref q_30), (0, .ref h), (1, .int n), (2, .int k), (3, .int j)]) hx hb dX6_mend_52 hl (by decide) rfl (fun ls hl => ?_)
        refine lv_aload hx hb dX6_mend_54 (lv_at hl 1 rfl) ?_
        refine lv_aload hx hb dX6_mend_56 (lv_at hl 1 rfl) ?_
        refine t_get (ci := 3) (v := .int v_31) hB hT (ro_ci r_q_30 rfl) rfl 3 (by decide) k_153 e_v_31 dX6_mend_58 ?_
        refine lv_iconst (v := 1) hx hb dX6_mend_61 (by decide) ?_
        refine lv_iload_n hx hb dX6_mend_62 rfl (lv_at hl 4 rfl) ?_
        refine lv_ishl hx hb dX6_mend_63 ?_
        refine lv_topi (fun z_34 ez_34 => ?_)
        refine lv_iconst (v := (-1)) hx hb dX6_mend_64 (by decide) ?_
        refine lv_ixor hx hb dX6_mend_65 ?_
        refine lv_topi (fun z_35 ez_35 => ?_)
        refine lv_iand hx hb dX6_mend_66 ?_
        refine lv_topi (fun z_36 ez_36 => ?_)
        refine lv_iload_n hx hb dX6_mend_67 rfl (lv_at hl 5 rfl) ?_
        refine lv_iload_n hx hb dX6_mend_68 rfl (lv_at hl 4 rfl) ?_
        refine lv_ishl hx hb dX6_mend_69 ?_
        refine lv_topi (fun z_37 ez_37 => ?_)
        refine lv_ior hx hb dX6_mend_70 ?_
        refine lv_topi (fun z_38 ez_38 => ?_)
        refine t_put0 (ci := 3) (v := .int z_38) hB hT (ro_ci r_q_30 rfl) (ro_n0 r_q_30 (by decide)) rfl 3 (by decide) k_153 (Or.inl rfl) rfl rfl dX6_mend_71 (fun H locs hT => ?_)
        have hI : Inv (sF g q_30 3 (.int z_38)) := hI.sF (p_10_3 r_q_30 (⟨_, rfl⟩))
        have hM : Sm md_P_mend g (sF g q_30 3 (.int z_38)) := hM.tr hE (Sm_sF (by rw [r_q_30]; rfl))
        have hE : Ex g (sF g q_30 3 (.int z_38)) := hE
        refine lv_iload hx hb dX6_mend_74 (lv_at hl 0 rfl) ?_
        exact t_iret hB hr hT (Nat.le_of_ble_eq_true rfl) (Nat.le_of_ble_eq_true rfl) dX6_mend_76 ⟨z_33, rfl, hI, hE, hM⟩
      · refine W.eq (g2 := F0 m 26 ls [.int 0]) rfl ?_
        refine lv_if_ne (tgt := 32) hx hb dX6_mend_26 (by decide) (fun c_ => absurd (by decide) c_) (fun c_ => ?_)
        refine lv_bipush (v := (-2)) hx hb dX6_mend_29 (by decide) ?_
        exact t_iret hB hr hT (Nat.le_of_ble_eq_true rfl) (Nat.le_of_ble_eq_true rfl) dX6_mend_31 ⟨(-2), rfl, hI, hE, hM⟩
    · refine W.eq (g2 := F0 m 16 ls [.int 0]) rfl ?_
      refine lv_if_ne (tgt := 21) hx hb dX6_mend_16 (by decide) (fun c_ => absurd (by decide) c_) (fun c_ => ?_)
      refine lv_iconst (v := (-1)) hx hb dX6_mend_19 (by decide) ?_
      exact t_iret hB hr hT (Nat.le_of_ble_eq_true rfl) (Nat.le_of_ble_eq_true rfl) dX6_mend_20 ⟨(-1), rfl, hI, hE, hM⟩
  · refine W.eq (g2 := F0 m 8 ls [.int 0]) rfl ?_
    refine lv_if_eq (tgt := 19) hx hb dX6_mend_8 (by decide) (fun c_ => ?_) (fun c_ => absurd (by decide) c_)
    refine lv_iconst (v := (-1)) hx hb dX6_mend_19 (by decide) ?_
    exact t_iret hB hr hT (Nat.le_of_ble_eq_true rfl) (Nat.le_of_ble_eq_true rfl) dX6_mend_20 ⟨(-1), rfl, hI, hE, hM⟩
abbrev md_P_hold : Nat → Nat → Bool := mdf [(10, 4)]
set_option maxHeartbeats 4000000 in
set_option maxRecDepth 100000 in
theorem P_hold (l : Launch) (D : va_G) (cI cZ cS cR : ClassId) (N0 : NT) (g : GS) (hI : Inv g) (h : Nat) (n : Int32) (k : Int32) (r_h : g.1 h = 7) : Ty l D cI cZ cS cR N0 yX6_hold cX6_hold 4 (some .int) 1 0 0 [.ref h, .int n, .int k] g (fun v g' => ∃ (r : Int32), v = some (.int r) ∧ Inv g' ∧ Ex g g' ∧ Sm md_P_hold g g') := by
  refine t_enter (by decide) (Nat.le_of_ble_eq_true rfl) ?_
  intro p e s m args below meth c ls H locs hB hr hin hl hT
  have hx := hB.1
  have hb := hB.2.1
  have hl : lv_has ls 4 [(0, .ref h), (1, .int n), (2, .int k)] := hl
  have hE : Ex g g := Ex.rf
  have hM : Sm md_P_hold g g := Sm.rf
  refine lv_aload_n hx hb dX6_hold_0 rfl (lv_at hl 0 rfl) ?_
  obtain ⟨v_1, e_v_1, r_v_1⟩ := f_7_1 hI r_h
  refine t_get (ci := 6) (v := .ref v_1) hB hT (ro_ci r_h rfl) rfl 1 (by decide) k_309 e_v_1 dX6_hold_1 ?_
  refine lv_iload_n hx hb dX6_hold_4 rfl (lv_at hl 1 rfl) ?_
  obtain ⟨v_2, e_v_2, l_v_2, u_v_2⟩ := f_19_1 hI r_v_1
  refine t_callV (n := 1) (As := [.int n]) (rest := []) (ci := 5) hB hT hl.1 (n_has l D cI cZ cS cR N0 g hI v_1 n v_2 r_v_1 e_v_2 (by omega) (by omega)) (ro_ci r_v_1 rfl) rfl k_436 k_59 k_433 k_434 k_435 (by decide +kernel) ⟨(Nat.le_of_ble_eq_true rfl), (Nat.le_of_ble_eq_true rfl)⟩ rfl (Nat.le_of_ble_eq_true rfl) ⟨(Nat.le_of_ble_eq_true rfl), (Nat.le_of_ble_eq_true rfl)⟩ dX6_hold_5 (fun v g_3 H locs hp hT => ?_)
  obtain ⟨r_4, rfl, eg, f_5⟩ := hp
  rw [eg] at hT
  clear eg
  refine W.eq (g2 := F0 m 8 ls [.int r_4]) rfl ?_
  rcases f_5 with ⟨rfl, hw_8, hw_9⟩ | ⟨rfl, hw_10⟩
  · refine W.eq (g2 := F0 m 8 ls [.int 1]) rfl ?_
    refine lv_if_ne (tgt := 13) hx hb dX6_hold_8 (by decide) (fun c_ => ?_) (fun c_ => absurd c_ (by decide))
    refine lv_iload_n hx hb dX6_hold_13 rfl (lv_at hl 2 rfl) ?_
    refine lv_bipush (v := 99) hx hb dX6_hold_14 (by decide) ?_
    refine t_callS (n := 2) (As := [.int k, .int 99]) (rest := []) hB hT hl.1 (s_within l D cI cZ cS cR N0 g hI k 99 ) k_415 k_57 k_441 k_414 (by decide +kernel) ⟨(Nat.le_of_ble_eq_true rfl), (Nat.le_of_ble_eq_true rfl)⟩ rfl (Nat.le_of_ble_eq_true rfl) ⟨(Nat.le_of_ble_eq_true rfl), (Nat.le_of_ble_eq_true rfl)⟩ dX6_hold_16 (fun v g_11 H locs hp hT => ?_)
    obtain ⟨r_12, rfl, eg, f_13⟩ := hp
    rw [eg] at hT
    clear eg
    refine W.eq (g2 := F0 m 19 ls [.int r_12]) rfl ?_
    have qc_16 : (99 : Int32).toInt = 99 := (by decide)
    rcases f_13 with ⟨rfl, hw_17, hw_18⟩ | ⟨rfl, hw_19⟩
    · refine W.eq (g2 := F0 m 19 ls [.int 1]) rfl ?_
      refine lv_if_ne (tgt := 25) hx hb dX6_hold_19 (by decide) (fun c_ => ?_) (fun c_ => absurd c_ (by decide))
      refine lv_aload_n hx hb dX6_hold_25 rfl (lv_at hl 0 rfl) ?_
      refine t_get (ci := 6) (v := .ref v_1) hB hT (ro_ci r_h rfl) rfl 1 (by decide) k_309 e_v_1 dX6_hold_26 ?_
      obtain ⟨v_20, e_v_20, r_v_20, n_v_20⟩ := f_19_0 hI r_v_1
      refine t_get (ci := 5) (v := .ref v_20) hB hT (ro_ci r_v_1 rfl) rfl 0 (by decide) k_200 e_v_20 dX6_hold_29 ?_
      refine lv_iload_n hx hb dX6_hold_32 rfl (lv_at hl 1 rfl) ?_
      have i_q_21 : vp_in n 6 := (i_in (n := 6) rfl (by omega) (by omega))
      obtain ⟨q_21, e_q_21, r_q_21⟩ := hI.q r_v_20 n_v_20 (i_cl i_q_21)
      refine t_aald hB hT (Or.inr <| Or.inl r_v_20) n_v_20 i_q_21 e_q_21 dX6_hold_33 ?_
      obtain ⟨v_22, e_v_22⟩ := f_10_4 hI r_q_21
      refine t_get (ci := 3) (v := .int v_22) hB hT (ro_ci r_q_21 rfl) rfl 4 (by decide) k_157 e_v_22 dX6_hold_34 ?_
      refine lv_istore_n (lv' := [(3, .int v_22), (0, .ref h), (1, .int n), (2, .int k)]) hx hb dX6_hold_37 rfl hl (by decide) rfl (fun ls hl => ?_)
      refine lv_aload_n hx hb dX6_hold_38 rfl (lv_at hl 1 rfl) ?_
      refine t_get (ci := 6) (v := .ref v_1) hB hT (ro_ci r_h rfl) rfl 1 (by decide) k_309 e_v_1 dX6_hold_39 ?_
      refine t_get (ci := 5) (v := .ref v_20) hB hT (ro_ci r_v_1 rfl) rfl 0 (by decide) k_200 e_v_20 dX6_hold_42 ?_
      refine lv_iload_n hx hb dX6_hold_45 rfl (lv_at hl 2 rfl) ?_
      have i_q_23 : vp_in n 6 := (i_in (n := 6) rfl (by omega) (by omega))
      obtain ⟨q_23, e_q_23, r_q_23⟩ := hI.q r_v_20 n_v_20 (i_cl i_q_23)
      refine t_aald hB hT (Or.inr <| Or.inl r_v_20) n_v_20 i_q_23 e_q_23 dX6_hold_46 ?_
      refine lv_iload_n hx hb dX6_hold_47 rfl (lv_at hl 3 rfl) ?_
      refine t_put0 (ci := 3) (v := .int k) hB hT (ro_ci r_q_23 rfl) (ro_n0 r_q_23 (by decide)) rfl 4 (by decide) k_157 (Or.inl rfl) rfl rfl dX6_hold_48 (fun H locs hT => ?_)
      have hI : Inv (sF g q_23 4 (.int k)) := hI.sF (p_10_4 r_q_23 (⟨_, rfl⟩))
      have hM : Sm md_P_hold g (sF g q_23 4 (.int k)) := hM.tr hE (Sm_sF (by rw [r_q_23]; rfl))
      have hE : Ex g (sF g q_23 4 (.int k)) := hE
      refine lv_iload_n hx hb dX6_hold_51 rfl (lv_at hl 0 rfl) ?_
      exact t_iret hB hr hT (Nat.le_of_ble_eq_true rfl) (Nat.le_of_ble_eq_true rfl) dX6_hold_52 ⟨v_22, rfl, hI, hE, hM⟩
    · refine W.eq (g2 := F0 m 19 ls [.int 0]) rfl ?_
      refine lv_if_ne (tgt := 25) hx hb dX6_hold_19 (by decide) (fun c_ => absurd (by decide) c_) (fun c_ => ?_)
      refine lv_bipush (v := (-2)) hx hb dX6_hold_22 (by decide) ?_
      exact t_iret hB hr hT (Nat.le_of_ble_eq_true rfl) (Nat.le_of_ble_eq_true rfl) dX6_hold_24 ⟨(-2), rfl, hI, hE, hM⟩
  · refine W.eq (g2 := F0 m 8 ls [.int 0]) rfl ?_
    refine lv_if_ne (tgt := 13) hx hb dX6_hold_8 (by decide) (fun c_ => absurd (by decide) c_) (fun c_ => ?_)
    refine lv_iconst (v := (-1)) hx hb dX6_hold_11 (by decide) ?_
    exact t_iret hB hr hT (Nat.le_of_ble_eq_true rfl) (Nat.le_of_ble_eq_true rfl) dX6_hold_12 ⟨(-1), rfl, hI, hE, hM⟩
abbrev md_P_set : Nat → Nat → Bool := mdf [(50, 99)]
set_option maxHeartbeats 4000000 in
set_option maxRecDepth 100000 in
theorem P_set (l : Launch) (D : va_G) (cI cZ cS cR : ClassId) (N0 : NT) (g : GS) (hI : Inv g) (h : Nat) (n : Int32) (k : Int32) (j : Int32) (r_h : g.1 h = 7) : Ty l D cI cZ cS cR N0 yX6_set cX6_set 5 (some .int) 1 0 0 [.ref h, .int n, .int k, .int j] g (fun v g' => ∃ (r : Int32), v = some (.int r) ∧ Inv g' ∧ Ex g g' ∧ Sm md_P_set g g') := by
  refine t_enter (by decide) (Nat.le_of_ble_eq_true rfl) ?_
  intro p e s m args below meth c ls H locs hB hr hin hl hT
  have hx := hB.1
  have hb := hB.2.1
  have hl : lv_has ls 5 [(0, .ref h), (1, .int n), (2, .int k), (3, .int j)] := hl
  have hE : Ex g g := Ex.rf
  have hM : Sm md_P_set g g := Sm.rf
  refine lv_aload_n hx hb dX6_set_0 rfl (lv_at hl 0 rfl) ?_
  obtain ⟨v_1, e_v_1, r_v_1⟩ := f_7_1 hI r_h
  refine t_get (ci := 6) (v := .ref v_1) hB hT (ro_ci r_h rfl) rfl 1 (by decide) k_309 e_v_1 dX6_set_1 ?_
  refine lv_iload_n hx hb dX6_set_4 rfl (lv_at hl 1 rfl) ?_
  obtain ⟨v_2, e_v_2, l_v_2, u_v_2⟩ := f_19_1 hI r_v_1
  refine t_callV (n := 1) (As := [.int n]) (rest := []) (ci := 5) hB hT hl.1 (n_has l D cI cZ cS cR N0 g hI v_1 n v_2 r_v_1 e_v_2 (by omega) (by omega)) (ro_ci r_v_1 rfl) rfl k_436 k_59 k_433 k_434 k_435 (by decide +kernel) ⟨(Nat.le_of_ble_eq_true rfl), (Nat.le_of_ble_eq_true rfl)⟩ rfl (Nat.le_of_ble_eq_true rfl) ⟨(Nat.le_of_ble_eq_true rfl), (Nat.le_of_ble_eq_true rfl)⟩ dX6_set_5 (fun v g_3 H locs hp hT => ?_)
  obtain ⟨r_4, rfl, eg, f_5⟩ := hp
  rw [eg] at hT
  clear eg
  refine W.eq (g2 := F0 m 8 ls [.int r_4]) rfl ?_
  rcases f_5 with ⟨rfl, hw_8, hw_9⟩ | ⟨rfl, hw_10⟩
  · refine W.eq (g2 := F0 m 8 ls [.int 1]) rfl ?_
    refine lv_if_eq (tgt := 19) hx hb dX6_set_8 (by decide) (fun c_ => absurd c_ (by decide)) (fun c_ => ?_)
    refine lv_iload_n hx hb dX6_set_11 rfl (lv_at hl 2 rfl) ?_
    refine lv_iconst (v := 3) hx hb dX6_set_12 (by decide) ?_
    refine t_callS (n := 2) (As := [.int k, .int 3]) (rest := []) hB hT hl.1 (s_within l D cI cZ cS cR N0 g hI k 3 ) k_415 k_57 k_441 k_414 (by decide +kernel) ⟨(Nat.le_of_ble_eq_true rfl), (Nat.le_of_ble_eq_true rfl)⟩ rfl (Nat.le_of_ble_eq_true rfl) ⟨(Nat.le_of_ble_eq_true rfl), (Nat.le_of_ble_eq_true rfl)⟩ dX6_set_13 (fun v g_11 H locs hp hT => ?_)
    obtain ⟨r_12, rfl, eg, f_13⟩ := hp
    rw [eg] at hT
    clear eg
    refine W.eq (g2 := F0 m 16 ls [.int r_12]) rfl ?_
    have qc_16 : (3 : Int32).toInt = 3 := (by decide)
    rcases f_13 with ⟨rfl, hw_17, hw_18⟩ | ⟨rfl, hw_19⟩
    · refine W.eq (g2 := F0 m 16 ls [.int 1]) rfl ?_
      refine lv_if_ne (tgt := 21) hx hb dX6_set_16 (by decide) (fun c_ => ?_) (fun c_ => absurd c_ (by decide))
      refine lv_iload_n hx hb dX6_set_21 rfl (lv_at hl 3 rfl) ?_
      refine lv_sipush (v := 999) hx hb dX6_set_22 (by decide) ?_
      refine t_callS (n := 2) (As := [.int j, .int 999]) (rest := []) hB hT hl.1 (s_within l D cI cZ cS cR N0 g hI j 999 ) k_415 k_57 k_441 k_414 (by decide +kernel) ⟨(Nat.le_of_ble_eq_true rfl), (Nat.le_of_ble_eq_true rfl)⟩ rfl (Nat.le_of_ble_eq_true rfl) ⟨(Nat.le_of_ble_eq_true rfl), (Nat.le_of_ble_eq_true rfl)⟩ dX6_set_25 (fun v g_20 H locs hp hT => ?_)
      obtain ⟨r_21, rfl, eg, f_22⟩ := hp
      rw [eg] at hT
      clear eg
      refine W.eq (g2 := F0 m 28 ls [.int r_21]) rfl ?_
      have qc_25 : (999 : Int32).toInt = 999 := (by decide)
      rcases f_22 with ⟨rfl, hw_26, hw_27⟩ | ⟨rfl, hw_28⟩
      · refine W.eq (g2 := F0 m 28 ls [.int 1]) rfl ?_
        refine lv_if_ne (tgt := 34) hx hb dX6_set_28 (by decide) (fun c_ => ?_) (fun c_ => absurd c_ (by decide))
        refine lv_aload_n hx hb dX6_set_34 rfl (lv_at hl 0 rfl) ?_
        refine t_get (ci := 6) (v := .ref v_1) hB hT (ro_ci r_h rfl) rfl 1 (by decide) k_309 e_v_1 dX6_set_35 ?_
        obtain ⟨v_29, e_v_29, r_v_29, n_v_29⟩ := f_19_0 hI r_v_1
        refine t_get (ci := 5) (v := .ref v_29) hB hT (ro_ci r_v_1 rfl) rfl 0 (by decide) k_200 e_v_29 dX6_set_38 ?_
        refine lv_iload_n hx hb dX6_set_41 rfl (lv_at hl 1 rfl) ?_
        have i_q_30 : vp_in n 6 := (i_in (n := 6) rfl (by omega) (by omega))
        obtain ⟨q_30, e_q_30, r_q_30⟩ := hI.q r_v_29 n_v_29 (i_cl i_q_30)
        refine t_aald hB hT (Or.inr <| Or.inl r_v_29) n_v_29 i_q_30 e_q_30 dX6_set_42 ?_
        obtain ⟨v_31, e_v_31, r_v_31, n_v_31⟩ := f_10_1 hI r_q_30
        refine t_get (ci := 3) (v := .ref v_31) hB hT (ro_ci r_q_30 rfl) rfl 1 (by decide) k_147 e_v_31 dX6_set_43 ?_
        refine lv_iload_n hx hb dX6_set_46 rfl (lv_at hl 2 rfl) ?_
        have i_u_32 : vp_in k 4 := (i_in (n := 4) rfl (by omega) (by omega))
        refine t_iald hB hT (ro_in r_v_31 (by decide)) n_v_31 i_u_32 rfl dX6_set_47 ?_
        refine lv_topi (fun u_32 e_u_32 => ?_)
        refine lv_istore (lv' := [(4, .int u_32), (0, .ref h), (1, .int n), (2, .int k), (3, .int j)]) hx hb dX6_set_48 hl (by decide) rfl (fun ls hl => ?_)
        refine lv_aload_n hx hb dX6_set_50 rfl (lv_at hl 1 rfl) ?_
        refine t_get (ci := 6) (v := .ref v_1) hB hT (ro_ci r_h rfl) rfl 1 (by decide) k_309 e_v_1 dX6_set_51 ?_
        refine t_get (ci := 5) (v := .ref v_29) hB hT (ro_ci r_v_1 rfl) rfl 0 (by decide) k_200 e_v_29 dX6_set_54 ?_
        refine lv_iload_n hx hb dX6_set_57 rfl (lv_at hl 2 rfl) ?_
        have i_q_33 : vp_in n 6 := (i_in (n := 6) rfl (by omega) (by omega))
        obtain ⟨q_33, e_q_33, r_q_33⟩ := hI.q r_v_29 n_v_29 (i_cl i_q_33)
        refine t_aald hB hT (Or.inr <| Or.inl r_v_29) n_v_29 i_q_33 e_q_33 dX6_set_58 ?_
        obtain ⟨v_34, e_v_34, r_v_34, n_v_34⟩ := f_10_1 hI r_q_33
        refine t_get (ci := 3) (v := .ref v_34) hB hT (ro_ci r_q_33 rfl) rfl 1 (by decide) k_147 e_v_34 dX6_set_59 ?_
        refine lv_iload_n hx hb dX6_set_62 rfl (lv_at hl 3 rfl) ?_
        refine lv_iload_n hx hb dX6_set_63 rfl (lv_at hl 4 rfl) ?_
        have i_35 : vp_in k 4 := (i_in (n := 4) rfl (by omega) (by omega))
        refine t_iast hB hT (ro_in r_v_34 (by decide)) n_v_34 i_35 dX6_set_64 (fun H locs hT => ?_)
        have hI : Inv (sC g v_34 k.toNatClampNeg j) := hI.sC (ck r_v_34 trivial)
        have hM : Sm md_P_set g (sC g v_34 k.toNatClampNeg j) := hM.tr hE (Sm_sC (by rw [r_v_34]; rfl))
        have hE : Ex g (sC g v_34 k.toNatClampNeg j) := hE
        refine lv_iload hx hb dX6_set_65 (lv_at hl 0 rfl) ?_
        exact t_iret hB hr hT (Nat.le_of_ble_eq_true rfl) (Nat.le_of_ble_eq_true rfl) dX6_set_67 ⟨u_32, rfl, hI, hE, hM⟩
      · refine W.eq (g2 := F0 m 28 ls [.int 0]) rfl ?_
        refine lv_if_ne (tgt := 34) hx hb dX6_set_28 (by decide) (fun c_ => absurd (by decide) c_) (fun c_ => ?_)
        refine lv_bipush (v := (-2)) hx hb dX6_set_31 (by decide) ?_
        exact t_iret hB hr hT (Nat.le_of_ble_eq_true rfl) (Nat.le_of_ble_eq_true rfl) dX6_set_33 ⟨(-2), rfl, hI, hE, hM⟩
    · refine W.eq (g2 := F0 m 16 ls [.int 0]) rfl ?_
      refine lv_if_ne (tgt := 21) hx hb dX6_set_16 (by decide) (fun c_ => absurd (by decide) c_) (fun c_ => ?_)
      refine lv_iconst (v := (-1)) hx hb dX6_set_19 (by decide) ?_
      exact t_iret hB hr hT (Nat.le_of_ble_eq_true rfl) (Nat.le_of_ble_eq_true rfl) dX6_set_20 ⟨(-1), rfl, hI, hE, hM⟩
  · refine W.eq (g2 := F0 m 8 ls [.int 0]) rfl ?_
    refine lv_if_eq (tgt := 19) hx hb dX6_set_8 (by decide) (fun c_ => ?_) (fun c_ => absurd (by decide) c_)
    refine lv_iconst (v := (-1)) hx hb dX6_set_19 (by decide) ?_
    exact t_iret hB hr hT (Nat.le_of_ble_eq_true rfl) (Nat.le_of_ble_eq_true rfl) dX6_set_20 ⟨(-1), rfl, hI, hE, hM⟩
abbrev md_P_about : Nat → Nat → Bool := mdf []
set_option maxHeartbeats 4000000 in
set_option maxRecDepth 100000 in
theorem P_about (l : Launch) (D : va_G) (cI cZ cS cR : ClassId) (N0 : NT) (g : GS) (hI : Inv g) (h : Nat) (n : Int32) (k : Int32) (r_h : g.1 h = 7) : Ty l D cI cZ cS cR N0 yX6_about cX6_about 4 (some .int) 3 0 0 [.ref h, .int n, .int k] g (fun v g' => ∃ (r : Int32), v = some (.int r) ∧ Inv g' ∧ Ex g g' ∧ Sm md_P_about g g') := by
  refine t_enter (by decide) (Nat.le_of_ble_eq_true rfl) ?_
  intro p e s m args below meth c ls H locs hB hr hin hl hT
  have hx := hB.1
  have hb := hB.2.1
  have hl : lv_has ls 4 [(0, .ref h), (1, .int n), (2, .int k)] := hl
  have hE : Ex g g := Ex.rf
  have hM : Sm md_P_about g g := Sm.rf
  refine lv_aload_n hx hb dX6_about_0 rfl (lv_at hl 0 rfl) ?_
  obtain ⟨v_1, e_v_1, r_v_1⟩ := f_7_1 hI r_h
  refine t_get (ci := 6) (v := .ref v_1) hB hT (ro_ci r_h rfl) rfl 1 (by decide) k_309 e_v_1 dX6_about_1 ?_
  refine lv_iload_n hx hb dX6_about_4 rfl (lv_at hl 1 rfl) ?_
  obtain ⟨v_2, e_v_2, l_v_2, u_v_2⟩ := f_19_1 hI r_v_1
  refine t_callV (n := 1) (As := [.int n]) (rest := []) (ci := 5) hB hT hl.1 (n_has l D cI cZ cS cR N0 g hI v_1 n v_2 r_v_1 e_v_2 (by omega) (by omega)) (ro_ci r_v_1 rfl) rfl k_436 k_59 k_433 k_434 k_435 (by decide +kernel) ⟨(Nat.le_of_ble_eq_true rfl), (Nat.le_of_ble_eq_true rfl)⟩ rfl (Nat.le_of_ble_eq_true rfl) ⟨(Nat.le_of_ble_eq_true rfl), (Nat.le_of_ble_eq_true rfl)⟩ dX6_about_5 (fun v g_3 H locs hp hT => ?_)
  obtain ⟨r_4, rfl, eg, f_5⟩ := hp
  rw [eg] at hT
  clear eg
  refine W.eq (g2 := F0 m 8 ls [.int r_4]) rfl ?_
  rcases f_5 with ⟨rfl, hw_8, hw_9⟩ | ⟨rfl, hw_10⟩
  · refine W.eq (g2 := F0 m 8 ls [.int 1]) rfl ?_
    refine lv_if_eq (tgt := 20) hx hb dX6_about_8 (by decide) (fun c_ => absurd c_ (by decide)) (fun c_ => ?_)
    refine lv_iload_n hx hb dX6_about_11 rfl (lv_at hl 2 rfl) ?_
    refine lv_bipush (v := 7) hx hb dX6_about_12 (by decide) ?_
    refine t_callS (n := 2) (As := [.int k, .int 7]) (rest := []) hB hT hl.1 (s_within l D cI cZ cS cR N0 g hI k 7 ) k_415 k_57 k_441 k_414 (by decide +kernel) ⟨(Nat.le_of_ble_eq_true rfl), (Nat.le_of_ble_eq_true rfl)⟩ rfl (Nat.le_of_ble_eq_true rfl) ⟨(Nat.le_of_ble_eq_true rfl), (Nat.le_of_ble_eq_true rfl)⟩ dX6_about_14 (fun v g_11 H locs hp hT => ?_)
    obtain ⟨r_12, rfl, eg, f_13⟩ := hp
    rw [eg] at hT
    clear eg
    refine W.eq (g2 := F0 m 17 ls [.int r_12]) rfl ?_
    have qc_16 : (7 : Int32).toInt = 7 := (by decide)
    rcases f_13 with ⟨rfl, hw_17, hw_18⟩ | ⟨rfl, hw_19⟩
    · refine W.eq (g2 := F0 m 17 ls [.int 1]) rfl ?_
      refine lv_if_ne (tgt := 22) hx hb dX6_about_17 (by decide) (fun c_ => ?_) (fun c_ => absurd c_ (by decide))
      refine lv_aload_n hx hb dX6_about_22 rfl (lv_at hl 0 rfl) ?_
      refine t_get (ci := 6) (v := .ref v_1) hB hT (ro_ci r_h rfl) rfl 1 (by decide) k_309 e_v_1 dX6_about_23 ?_
      obtain ⟨v_20, e_v_20, r_v_20, n_v_20⟩ := f_19_0 hI r_v_1
      refine t_get (ci := 5) (v := .ref v_20) hB hT (ro_ci r_v_1 rfl) rfl 0 (by decide) k_200 e_v_20 dX6_about_26 ?_
      refine lv_iload_n hx hb dX6_about_29 rfl (lv_at hl 1 rfl) ?_
      have i_q_21 : vp_in n 6 := (i_in (n := 6) rfl (by omega) (by omega))
      obtain ⟨q_21, e_q_21, r_q_21⟩ := hI.q r_v_20 n_v_20 (i_cl i_q_21)
      refine t_aald hB hT (Or.inr <| Or.inl r_v_20) n_v_20 i_q_21 e_q_21 dX6_about_30 ?_
      refine lv_astore_n (lv' := [(3, .ref q_21), (0, .ref h), (1, .int n), (2, .int k)]) hx hb dX6_about_31 rfl hl (by decide) rfl (fun ls hl => ?_)
      refine lv_iload_n hx hb dX6_about_32 rfl (lv_at hl 3 rfl) ?_
      refine lv_iconst (v := 4) hx hb dX6_about_33 (by decide) ?_
      refine lv_icmp_ge (tgt := 44) hx hb dX6_about_34 (by decide) (fun c_22 => ?_) (fun c_22 => ?_)
      · have c_22' : 4 ≤ k.toInt := i_le c_22 (by decide) rfl
        refine lv_iload_n hx hb dX6_about_44 rfl (lv_at hl 3 rfl) ?_
        refine lv_iconst (v := 4) hx hb dX6_about_45 (by decide) ?_
        refine lv_isub hx hb dX6_about_46 ?_
        refine lv_topi (fun z_23 ez_23 => ?_)
        have e_z_23 : z_23.toInt = k.toInt - 4 := i_sub ez_23 rfl (by decide) (by omega) (by omega)
        by_cases ht_24 : (z_23 < 0 ∨ 2 < z_23)
        · refine lv_tableOut (tgt := 97) hx hb dX6_about_47 (sw_out ht_24) (by decide) ?_
          refine lv_aload_n hx hb dX6_about_97 rfl (lv_at hl 1 rfl) ?_
          refine t_get (ci := 6) (v := .ref v_1) hB hT (ro_ci r_h rfl) rfl 1 (by decide) k_309 e_v_1 dX6_about_98 ?_
          refine lv_iload_n hx hb dX6_about_101 rfl (lv_at hl 2 rfl) ?_
          refine t_callV (n := 1) (As := [.int n]) (rest := []) (ci := 5) hB hT hl.1 (n_isReader l D cI cZ cS cR N0 g hI v_1 n r_v_1 (by omega) (by omega)) (ro_ci r_v_1 rfl) rfl k_465 k_59 k_462 k_463 k_464 (by decide +kernel) ⟨(Nat.le_of_ble_eq_true rfl), (Nat.le_of_ble_eq_true rfl)⟩ rfl (Nat.le_of_ble_eq_true rfl) ⟨(Nat.le_of_ble_eq_true rfl), (Nat.le_of_ble_eq_true rfl)⟩ dX6_about_102 (fun v g_26 H locs hp hT => ?_)
          obtain ⟨r_27, rfl, eg, f_28⟩ := hp
          rw [eg] at hT
          clear eg
          refine W.eq (g2 := F0 m 105 ls [.int r_27]) rfl ?_
          rcases f_28 with rfl | rfl
          · refine W.eq (g2 := F0 m 105 ls [.int 1]) rfl ?_
            refine lv_if_eq (tgt := 112) hx hb dX6_about_105 (by decide) (fun c_ => absurd c_ (by decide)) (fun c_ => ?_)
            refine lv_iconst (v := 1) hx hb dX6_about_108 (by decide) ?_
            refine lv_goto (tgt := 113) hx hb dX6_about_109 (by decide) ?_
            exact t_iret hB hr hT (Nat.le_of_ble_eq_true rfl) (Nat.le_of_ble_eq_true rfl) dX6_about_113 ⟨1, rfl, hI, hE, hM⟩
          · refine W.eq (g2 := F0 m 105 ls [.int 0]) rfl ?_
            refine lv_if_eq (tgt := 112) hx hb dX6_about_105 (by decide) (fun c_ => ?_) (fun c_ => absurd (by decide) c_)
            refine lv_iconst (v := 0) hx hb dX6_about_112 (by decide) ?_
            exact t_iret hB hr hT (Nat.le_of_ble_eq_true rfl) (Nat.le_of_ble_eq_true rfl) dX6_about_113 ⟨0, rfl, hI, hE, hM⟩
        · obtain ⟨j_25, hj_25, ej_25⟩ := sw_in (n := 3) rfl ht_24
          rcases (show j_25 = 0 ∨ j_25 = 1 ∨ j_25 = 2 by omega) with rfl | rfl | rfl
          · refine x_ev (y := 0) ej_25 ?_
            refine lv_tableIn (off := 25) (tgt := 72) hx hb dX6_about_47 (by decide) (by decide) rfl (by decide) ?_
            refine lv_aload_n hx hb dX6_about_72 rfl (lv_at hl 0 rfl) ?_
            obtain ⟨v_31, e_v_31⟩ := f_10_2 hI r_q_21
            refine t_get (ci := 3) (v := .int v_31) hB hT (ro_ci r_q_21 rfl) rfl 2 (by decide) k_150 e_v_31 dX6_about_73 ?_
            exact t_iret hB hr hT (Nat.le_of_ble_eq_true rfl) (Nat.le_of_ble_eq_true rfl) dX6_about_76 ⟨v_31, rfl, hI, hE, hM⟩
          · refine x_ev (y := 1) ej_25 ?_
            refine lv_tableIn (off := 30) (tgt := 77) hx hb dX6_about_47 (by decide) (by decide) rfl (by decide) ?_
            refine lv_aload_n hx hb dX6_about_77 rfl (lv_at hl 0 rfl) ?_
            refine lv_aload_n hx hb dX6_about_78 rfl (lv_at hl 1 rfl) ?_
            refine t_get (ci := 6) (v := .ref v_1) hB hT (ro_ci r_h rfl) rfl 1 (by decide) k_309 e_v_1 dX6_about_79 ?_
            obtain ⟨v_32, e_v_32⟩ := f_19_2 hI r_v_1
            refine t_get (ci := 5) (v := .int v_32) hB hT (ro_ci r_v_1 rfl) rfl 2 (by decide) k_206 e_v_32 dX6_about_82 ?_
            refine t_callV (n := 1) (As := [.int v_32]) (rest := []) (ci := 3) hB hT hl.1 (n_keysNotOver l D cI cZ cS cR N0 g hI q_21 v_32 r_q_21) (ro_ci r_q_21 rfl) rfl k_457 k_60 k_454 k_455 k_456 (by decide +kernel) ⟨(Nat.le_of_ble_eq_true rfl), (Nat.le_of_ble_eq_true rfl)⟩ rfl (Nat.le_of_ble_eq_true rfl) ⟨(Nat.le_of_ble_eq_true rfl), (Nat.le_of_ble_eq_true rfl)⟩ dX6_about_85 (fun v g_33 H locs hp hT => ?_)
            obtain ⟨r_34, rfl, eg⟩ := hp
            rw [eg] at hT
            clear eg
            refine W.eq (g2 := F0 m 88 ls [.int r_34]) rfl ?_
            exact t_iret hB hr hT (Nat.le_of_ble_eq_true rfl) (Nat.le_of_ble_eq_true rfl) dX6_about_88 ⟨r_34, rfl, hI, hE, hM⟩
          · refine x_ev (y := 2) ej_25 ?_
            refine lv_tableIn (off := 42) (tgt := 89) hx hb dX6_about_47 (by decide) (by decide) rfl (by decide) ?_
            refine lv_aload_n hx hb dX6_about_89 rfl (lv_at hl 0 rfl) ?_
            obtain ⟨v_37, e_v_37, r_v_37⟩ := f_10_0 hI r_q_21
            refine t_get (ci := 3) (v := .ref v_37) hB hT (ro_ci r_q_21 rfl) rfl 0 (by decide) k_144 e_v_37 dX6_about_90 ?_
            obtain ⟨v_38, e_v_38, l_v_38, u_v_38⟩ := f_3_3 hI r_v_37
            refine t_get (ci := 2) (v := .int v_38) hB hT (ro_ci r_v_37 rfl) rfl 3 (by decide) k_132 e_v_38 dX6_about_93 ?_
            exact t_iret hB hr hT (Nat.le_of_ble_eq_true rfl) (Nat.le_of_ble_eq_true rfl) dX6_about_96 ⟨v_38, rfl, hI, hE, hM⟩
      · have c_22' : k.toInt < 4 := i_nle c_22 (by decide) rfl
        refine lv_aload_n hx hb dX6_about_37 rfl (lv_at hl 0 rfl) ?_
        obtain ⟨v_39, e_v_39, r_v_39, n_v_39⟩ := f_10_1 hI r_q_21
        refine t_get (ci := 3) (v := .ref v_39) hB hT (ro_ci r_q_21 rfl) rfl 1 (by decide) k_147 e_v_39 dX6_about_38 ?_
        refine lv_iload_n hx hb dX6_about_41 rfl (lv_at hl 3 rfl) ?_
        have i_u_40 : vp_in k 4 := (i_in (n := 4) rfl (by omega) (by omega))
        refine t_iald hB hT (ro_in r_v_39 (by decide)) n_v_39 i_u_40 rfl dX6_about_42 ?_
        refine lv_topi (fun u_40 e_u_40 => ?_)
        exact t_iret hB hr hT (Nat.le_of_ble_eq_true rfl) (Nat.le_of_ble_eq_true rfl) dX6_about_43 ⟨u_40, rfl, hI, hE, hM⟩
    · refine W.eq (g2 := F0 m 17 ls [.int 0]) rfl ?_
      refine lv_if_ne (tgt := 22) hx hb dX6_about_17 (by decide) (fun c_ => absurd (by decide) c_) (fun c_ => ?_)
      refine lv_iconst (v := (-1)) hx hb dX6_about_20 (by decide) ?_
      exact t_iret hB hr hT (Nat.le_of_ble_eq_true rfl) (Nat.le_of_ble_eq_true rfl) dX6_about_21 ⟨(-1), rfl, hI, hE, hM⟩
  · refine W.eq (g2 := F0 m 8 ls [.int 0]) rfl ?_
    refine lv_if_eq (tgt := 20) hx hb dX6_about_8 (by decide) (fun c_ => ?_) (fun c_ => absurd (by decide) c_)
    refine lv_iconst (v := (-1)) hx hb dX6_about_20 (by decide) ?_
    exact t_iret hB hr hT (Nat.le_of_ble_eq_true rfl) (Nat.le_of_ble_eq_true rfl) dX6_about_21 ⟨(-1), rfl, hI, hE, hM⟩
abbrev md_P_call : Nat → Nat → Bool := mdf [(9, 3), (10, 2), (10, 5), (10, 10), (10, 11), (10, 14), (19, 2), (19, 4), (19, 5), (19, 6), (19, 7), (50, 99), (64, 99), (65, 99), (66, 99)]
theorem mdle_P_call_l_appendLatest {r k : Nat} (h : md_P_call r k = false) : md_l_appendLatest r k = false := mdf_le (by decide +kernel) h
theorem mdle_P_call_n_fromOutside {r k : Nat} (h : md_P_call r k = false) : md_n_fromOutside r k = false := mdf_le (by decide +kernel) h
set_option maxHeartbeats 4000000 in
set_option maxRecDepth 100000 in
theorem P_call (l : Launch) (D : va_G) (cI cZ cS cR : ClassId) (N0 : NT) (g : GS) (hI : Inv g) (h : Nat) (n : Int32) (k : Int32) (j : Int32) (x4 : Int32) (r_h : g.1 h = 7) : Ty l D cI cZ cS cR N0 yX6_call cX6_call 5 (some .int) 14 0 0 [.ref h, .int n, .int k, .int j, .int x4] g (fun v g' => ∃ (r : Int32), v = some (.int r) ∧ Inv g' ∧ Ex g g' ∧ Sm md_P_call g g') := by
  refine t_enter (by decide) (Nat.le_of_ble_eq_true rfl) ?_
  intro p e s m args below meth c ls H locs hB hr hin hl hT
  have hx := hB.1
  have hb := hB.2.1
  have hl : lv_has ls 5 [(0, .ref h), (1, .int n), (2, .int k), (3, .int j), (4, .int x4)] := hl
  have hE : Ex g g := Ex.rf
  have hM : Sm md_P_call g g := Sm.rf
  refine lv_aload_n hx hb dX6_call_0 rfl (lv_at hl 0 rfl) ?_
  obtain ⟨v_1, e_v_1, r_v_1⟩ := f_7_1 hI r_h
  refine t_get (ci := 6) (v := .ref v_1) hB hT (ro_ci r_h rfl) rfl 1 (by decide) k_309 e_v_1 dX6_call_1 ?_
  refine lv_iload_n hx hb dX6_call_4 rfl (lv_at hl 1 rfl) ?_
  obtain ⟨v_2, e_v_2, l_v_2, u_v_2⟩ := f_19_1 hI r_v_1
  refine t_callV (n := 1) (As := [.int n]) (rest := []) (ci := 5) hB hT hl.1 (n_has l D cI cZ cS cR N0 g hI v_1 n v_2 r_v_1 e_v_2 (by omega) (by omega)) (ro_ci r_v_1 rfl) rfl k_436 k_59 k_433 k_434 k_435 (by decide +kernel) ⟨(Nat.le_of_ble_eq_true rfl), (Nat.le_of_ble_eq_true rfl)⟩ rfl (Nat.le_of_ble_eq_true rfl) ⟨(Nat.le_of_ble_eq_true rfl), (Nat.le_of_ble_eq_true rfl)⟩ dX6_call_5 (fun v g_3 H locs hp hT => ?_)
  obtain ⟨r_4, rfl, eg, f_5⟩ := hp
  rw [eg] at hT
  clear eg
  refine W.eq (g2 := F0 m 8 ls [.int r_4]) rfl ?_
  rcases f_5 with ⟨rfl, hw_8, hw_9⟩ | ⟨rfl, hw_10⟩
  · refine W.eq (g2 := F0 m 8 ls [.int 1]) rfl ?_
    refine lv_if_ne (tgt := 14) hx hb dX6_call_8 (by decide) (fun c_ => ?_) (fun c_ => absurd c_ (by decide))
    refine lv_iload_n hx hb dX6_call_14 rfl (lv_at hl 2 rfl) ?_
    refine lv_sipush (v := 999) hx hb dX6_call_15 (by decide) ?_
    refine t_callS (n := 2) (As := [.int k, .int 999]) (rest := []) hB hT hl.1 (s_within l D cI cZ cS cR N0 g hI k 999 ) k_415 k_57 k_441 k_414 (by decide +kernel) ⟨(Nat.le_of_ble_eq_true rfl), (Nat.le_of_ble_eq_true rfl)⟩ rfl (Nat.le_of_ble_eq_true rfl) ⟨(Nat.le_of_ble_eq_true rfl), (Nat.le_of_ble_eq_true rfl)⟩ dX6_call_18 (fun v g_11 H locs hp hT => ?_)
    obtain ⟨r_12, rfl, eg, f_13⟩ := hp
    rw [eg] at hT
    clear eg
    refine W.eq (g2 := F0 m 21 ls [.int r_12]) rfl ?_
    have qc_16 : (999 : Int32).toInt = 999 := (by decide)
    rcases f_13 with ⟨rfl, hw_17, hw_18⟩ | ⟨rfl, hw_19⟩
    · refine W.eq (g2 := F0 m 21 ls [.int 1]) rfl ?_
      refine lv_if_eq (tgt := 43) hx hb dX6_call_21 (by decide) (fun c_ => absurd c_ (by decide)) (fun c_ => ?_)
      refine lv_iload_n hx hb dX6_call_24 rfl (lv_at hl 3 rfl) ?_
      refine lv_bipush (v := 99) hx hb dX6_call_25 (by decide) ?_
      refine t_callS (n := 2) (As := [.int j, .int 99]) (rest := []) hB hT hl.1 (s_within l D cI cZ cS cR N0 g hI j 99 ) k_415 k_57 k_441 k_414 (by decide +kernel) ⟨(Nat.le_of_ble_eq_true rfl), (Nat.le_of_ble_eq_true rfl)⟩ rfl (Nat.le_of_ble_eq_true rfl) ⟨(Nat.le_of_ble_eq_true rfl), (Nat.le_of_ble_eq_true rfl)⟩ dX6_call_27 (fun v g_20 H locs hp hT => ?_)
      obtain ⟨r_21, rfl, eg, f_22⟩ := hp
      rw [eg] at hT
      clear eg
      refine W.eq (g2 := F0 m 30 ls [.int r_21]) rfl ?_
      have qc_25 : (99 : Int32).toInt = 99 := (by decide)
      rcases f_22 with ⟨rfl, hw_26, hw_27⟩ | ⟨rfl, hw_28⟩
      · refine W.eq (g2 := F0 m 30 ls [.int 1]) rfl ?_
        refine lv_if_eq (tgt := 43) hx hb dX6_call_30 (by decide) (fun c_ => absurd c_ (by decide)) (fun c_ => ?_)
        refine lv_iload hx hb dX6_call_33 (lv_at hl 4 rfl) ?_
        refine lv_bipush (v := 99) hx hb dX6_call_35 (by decide) ?_
        refine t_callS (n := 2) (As := [.int x4, .int 99]) (rest := []) hB hT hl.1 (s_within l D cI cZ cS cR N0 g hI x4 99 ) k_415 k_57 k_441 k_414 (by decide +kernel) ⟨(Nat.le_of_ble_eq_true rfl), (Nat.le_of_ble_eq_true rfl)⟩ rfl (Nat.le_of_ble_eq_true rfl) ⟨(Nat.le_of_ble_eq_true rfl), (Nat.le_of_ble_eq_true rfl)⟩ dX6_call_37 (fun v g_29 H locs hp hT => ?_)
        obtain ⟨r_30, rfl, eg, f_31⟩ := hp
        rw [eg] at hT
        clear eg
        refine W.eq (g2 := F0 m 40 ls [.int r_30]) rfl ?_
        have qc_34 : (99 : Int32).toInt = 99 := (by decide)
        rcases f_31 with ⟨rfl, hw_35, hw_36⟩ | ⟨rfl, hw_37⟩
        · refine W.eq (g2 := F0 m 40 ls [.int 1]) rfl ?_
          refine lv_if_ne (tgt := 46) hx hb dX6_call_40 (by decide) (fun c_ => ?_) (fun c_ => absurd c_ (by decide))
          refine lv_aload_n hx hb dX6_call_46 rfl (lv_at hl 0 rfl) ?_
          obtain ⟨v_38, e_v_38, r_v_38⟩ := f_7_3 hI r_h
          refine t_get (ci := 6) (v := .ref v_38) hB hT (ro_ci r_h rfl) rfl 3 (by decide) k_311 e_v_38 dX6_call_47 ?_
          refine lv_iload_n hx hb dX6_call_50 rfl (lv_at hl 1 rfl) ?_
          refine lv_iload_n hx hb dX6_call_51 rfl (lv_at hl 2 rfl) ?_
          refine lv_iload_n hx hb dX6_call_52 rfl (lv_at hl 3 rfl) ?_
          obtain ⟨v_39, e_v_39, l_v_39, u_v_39⟩ := f_9_3 hI r_v_38
          obtain ⟨v_40, e_v_40, r_v_40, n_v_40⟩ := f_9_0 hI r_v_38
          obtain ⟨v_41, e_v_41, r_v_41, n_v_41⟩ := f_9_1 hI r_v_38
          obtain ⟨v_42, e_v_42, r_v_42, n_v_42⟩ := f_9_2 hI r_v_38
          refine t_callV (n := 3) (As := [.int n, .int k, .int j]) (rest := []) (ci := 0) hB hT hl.1 (l_appendLatest l D cI cZ cS cR N0 g hI v_38 n k j v_39 v_40 v_41 v_42 r_v_38 r_v_40 n_v_40 r_v_41 n_v_41 r_v_42 n_v_42 e_v_39 e_v_40 e_v_41 e_v_42 (by omega) (by omega) (by omega) (by omega)) (ro_ci r_v_38 rfl) rfl k_489 k_62 k_486 k_487 k_488 (by decide +kernel) ⟨(Nat.le_of_ble_eq_true rfl), (Nat.le_of_ble_eq_true rfl)⟩ rfl (Nat.le_of_ble_eq_true rfl) ⟨(Nat.le_of_ble_eq_true rfl), (Nat.le_of_ble_eq_true rfl)⟩ dX6_call_53 (fun v g_43 H locs hp hT => ?_)
          obtain ⟨z2_44, rfl, hI, x_48, m_47, f_45, f_46⟩ := hp
          have hM : Sm md_P_call g g_43 := hM.tr hE (m_47.mo (fun r k h => mdle_P_call_l_appendLatest h))
          have hE : Ex g g_43 := hE.tr x_48
          have r_49 : g_43.1 h = 7 := (Ex.r x_48 r_h (by decide))
          have r_50 : g_43.1 v_1 = 19 := (Ex.r x_48 r_v_1 (by decide))
          have r_51 : g_43.1 v_38 = 9 := (Ex.r x_48 r_v_38 (by decide))
          have r_52 : g_43.1 v_40 = 64 := (Ex.r x_48 r_v_40 (by decide))
          have r_53 : g_43.1 v_41 = 65 := (Ex.r x_48 r_v_41 (by decide))
          have r_54 : g_43.1 v_42 = 66 := (Ex.r x_48 r_v_42 (by decide))
          have n_55 : g_43.2.2.1 v_40 = 20 := (Ex.n x_48 r_v_40 (by decide) n_v_40)
          have n_56 : g_43.2.2.1 v_41 = 20 := (Ex.n x_48 r_v_41 (by decide) n_v_41)
          have n_57 : g_43.2.2.1 v_42 = 20 := (Ex.n x_48 r_v_42 (by decide) n_v_42)
          have kn_58 : g_43.2.1 h 1 = .ref v_1 := (Sm.v m_47 r_h (by decide) rfl e_v_1)
          have kn_59 : g_43.2.1 v_1 1 = .int v_2 := (Sm.v m_47 r_v_1 (by decide) rfl e_v_2)
          have kn_60 : g_43.2.1 h 3 = .ref v_38 := (Sm.v m_47 r_h (by decide) rfl e_v_38)
          have kn_61 : g_43.2.1 v_38 0 = .ref v_40 := (Sm.v m_47 r_v_38 (by decide) rfl e_v_40)
          have kn_62 : g_43.2.1 v_38 1 = .ref v_41 := (Sm.v m_47 r_v_38 (by decide) rfl e_v_41)
          have kn_63 : g_43.2.1 v_38 2 = .ref v_42 := (Sm.v m_47 r_v_38 (by decide) rfl e_v_42)
          refine W.eq (g2 := F0 m 56 ls []) rfl ?_
          refine lv_aload_n hx hb dX6_call_56 rfl (lv_at hl 0 rfl) ?_
          refine t_get (ci := 6) (v := .ref v_1) hB hT (ro_ci r_49 rfl) rfl 1 (by decide) k_309 kn_58 dX6_call_57 ?_
          refine lv_iload_n hx hb dX6_call_60 rfl (lv_at hl 1 rfl) ?_
          refine lv_iload_n hx hb dX6_call_61 rfl (lv_at hl 2 rfl) ?_
          refine lv_iload_n hx hb dX6_call_62 rfl (lv_at hl 3 rfl) ?_
          refine lv_iload hx hb dX6_call_63 (lv_at hl 4 rfl) ?_
          refine t_callV (n := 4) (As := [.int n, .int k, .int j, .int x4]) (rest := []) (ci := 5) hB hT hl.1 (n_fromOutside l D cI cZ cS cR N0 g_43 hI v_1 n k j x4 r_50 (by omega) (by omega)) (ro_ci r_50 rfl) rfl k_500 k_59 k_497 k_498 k_499 (by decide +kernel) ⟨(Nat.le_of_ble_eq_true rfl), (Nat.le_of_ble_eq_true rfl)⟩ rfl (Nat.le_of_ble_eq_true rfl) ⟨(Nat.le_of_ble_eq_true rfl), (Nat.le_of_ble_eq_true rfl)⟩ dX6_call_65 (fun v g_64 H locs hp hT => ?_)
          obtain ⟨r_65, rfl, hI, x_67, m_66⟩ := hp
          have hM : Sm md_P_call g g_64 := hM.tr hE (m_66.mo (fun r k h => mdle_P_call_n_fromOutside h))
          have hE : Ex g g_64 := hE.tr x_67
          have r_68 : g_64.1 h = 7 := (Ex.r x_67 r_49 (by decide))
          have r_69 : g_64.1 v_1 = 19 := (Ex.r x_67 r_50 (by decide))
          have r_70 : g_64.1 v_38 = 9 := (Ex.r x_67 r_51 (by decide))
          have r_71 : g_64.1 v_40 = 64 := (Ex.r x_67 r_52 (by decide))
          have r_72 : g_64.1 v_41 = 65 := (Ex.r x_67 r_53 (by decide))
          have r_73 : g_64.1 v_42 = 66 := (Ex.r x_67 r_54 (by decide))
          have n_74 : g_64.2.2.1 v_40 = 20 := (Ex.n x_67 r_52 (by decide) n_55)
          have n_75 : g_64.2.2.1 v_41 = 20 := (Ex.n x_67 r_53 (by decide) n_56)
          have n_76 : g_64.2.2.1 v_42 = 20 := (Ex.n x_67 r_54 (by decide) n_57)
          have kn_77 : g_64.2.1 h 1 = .ref v_1 := (Sm.v m_66 r_49 (by decide) rfl kn_58)
          have kn_78 : g_64.2.1 v_1 1 = .int v_2 := (Sm.v m_66 r_50 (by decide) rfl kn_59)
          have kn_79 : g_64.2.1 h 3 = .ref v_38 := (Sm.v m_66 r_49 (by decide) rfl kn_60)
          have kn_80 : g_64.2.1 v_38 0 = .ref v_40 := (Sm.v m_66 r_51 (by decide) rfl kn_61)
          have kn_81 : g_64.2.1 v_38 1 = .ref v_41 := (Sm.v m_66 r_51 (by decide) rfl kn_62)
          have kn_82 : g_64.2.1 v_38 2 = .ref v_42 := (Sm.v m_66 r_51 (by decide) rfl kn_63)
          have kn_83 : g_64.2.1 v_38 3 = .int z2_44 := (Sm.v m_66 r_51 (by decide) rfl f_45)
          refine W.eq (g2 := F0 m 68 ls [.int r_65]) rfl ?_
          exact t_iret hB hr hT (Nat.le_of_ble_eq_true rfl) (Nat.le_of_ble_eq_true rfl) dX6_call_68 ⟨r_65, rfl, hI, hE, hM⟩
        · refine W.eq (g2 := F0 m 40 ls [.int 0]) rfl ?_
          refine lv_if_ne (tgt := 46) hx hb dX6_call_40 (by decide) (fun c_ => absurd (by decide) c_) (fun c_ => ?_)
          refine lv_bipush (v := (-4)) hx hb dX6_call_43 (by decide) ?_
          exact t_iret hB hr hT (Nat.le_of_ble_eq_true rfl) (Nat.le_of_ble_eq_true rfl) dX6_call_45 ⟨(-4), rfl, hI, hE, hM⟩
      · refine W.eq (g2 := F0 m 30 ls [.int 0]) rfl ?_
        refine lv_if_eq (tgt := 43) hx hb dX6_call_30 (by decide) (fun c_ => ?_) (fun c_ => absurd (by decide) c_)
        refine lv_bipush (v := (-4)) hx hb dX6_call_43 (by decide) ?_
        exact t_iret hB hr hT (Nat.le_of_ble_eq_true rfl) (Nat.le_of_ble_eq_true rfl) dX6_call_45 ⟨(-4), rfl, hI, hE, hM⟩
    · refine W.eq (g2 := F0 m 21 ls [.int 0]) rfl ?_
      refine lv_if_eq (tgt := 43) hx hb dX6_call_21 (by decide) (fun c_ => ?_) (fun c_ => absurd (by decide) c_)
      refine lv_bipush (v := (-4)) hx hb dX6_call_43 (by decide) ?_
      exact t_iret hB hr hT (Nat.le_of_ble_eq_true rfl) (Nat.le_of_ble_eq_true rfl) dX6_call_45 ⟨(-4), rfl, hI, hE, hM⟩
  · refine W.eq (g2 := F0 m 8 ls [.int 0]) rfl ?_
    refine lv_if_ne (tgt := 14) hx hb dX6_call_8 (by decide) (fun c_ => absurd (by decide) c_) (fun c_ => ?_)
    refine lv_bipush (v := (-3)) hx hb dX6_call_11 (by decide) ?_
    exact t_iret hB hr hT (Nat.le_of_ble_eq_true rfl) (Nat.le_of_ble_eq_true rfl) dX6_call_13 ⟨(-3), rfl, hI, hE, hM⟩
abbrev md_P_outside : Nat → Nat → Bool := mdf []
set_option maxHeartbeats 4000000 in
set_option maxRecDepth 100000 in
theorem P_outside (l : Launch) (D : va_G) (cI cZ cS cR : ClassId) (N0 : NT) (g : GS) (hI : Inv g) (h : Nat) (n : Int32) (r_h : g.1 h = 7) : Ty l D cI cZ cS cR N0 yX6_outside cX6_outside 2 (some .int) 1 0 0 [.ref h, .int n] g (fun v g' => ∃ (r : Int32), v = some (.int r) ∧ Inv g' ∧ Ex g g' ∧ Sm md_P_outside g g') := by
  refine t_enter (by decide) (Nat.le_of_ble_eq_true rfl) ?_
  intro p e s m args below meth c ls H locs hB hr hin hl hT
  have hx := hB.1
  have hb := hB.2.1
  have hl : lv_has ls 2 [(0, .ref h), (1, .int n)] := hl
  have hE : Ex g g := Ex.rf
  have hM : Sm md_P_outside g g := Sm.rf
  refine lv_iload_n hx hb dX6_outside_0 rfl (lv_at hl 1 rfl) ?_
  refine lv_aload_n hx hb dX6_outside_1 rfl (lv_at hl 0 rfl) ?_
  obtain ⟨v_1, e_v_1, r_v_1⟩ := f_7_1 hI r_h
  refine t_get (ci := 6) (v := .ref v_1) hB hT (ro_ci r_h rfl) rfl 1 (by decide) k_309 e_v_1 dX6_outside_2 ?_
  obtain ⟨v_2, e_v_2⟩ := f_19_4 hI r_v_1
  refine t_get (ci := 5) (v := .int v_2) hB hT (ro_ci r_v_1 rfl) rfl 4 (by decide) k_211 e_v_2 dX6_outside_5 ?_
  refine lv_bipush (v := 40) hx hb dX6_outside_8 (by decide) ?_
  refine t_min hB k_559 k_560 k_63 k_561 hl.1 (Nat.le_of_ble_eq_true rfl) (Nat.le_of_ble_eq_true rfl) (Nat.le_of_ble_eq_true rfl) (Nat.le_of_ble_eq_true rfl) rfl dX6_outside_10 ?_
  refine lv_topi (fun z_3 ez_3 => ?_)
  have e_z_3 := i_min (a := v_2.toInt) (b := 40) ez_3 rfl (by decide)
  refine lv_iconst (v := 1) hx hb dX6_outside_13 (by decide) ?_
  refine lv_isub hx hb dX6_outside_14 ?_
  refine lv_topi (fun z_4 ez_4 => ?_)
  refine t_callS (n := 2) (As := [.int n, .int z_4]) (rest := []) hB hT hl.1 (s_within l D cI cZ cS cR N0 g hI n z_4 ) k_415 k_57 k_441 k_414 (by decide +kernel) ⟨(Nat.le_of_ble_eq_true rfl), (Nat.le_of_ble_eq_true rfl)⟩ rfl (Nat.le_of_ble_eq_true rfl) ⟨(Nat.le_of_ble_eq_true rfl), (Nat.le_of_ble_eq_true rfl)⟩ dX6_outside_15 (fun v g_5 H locs hp hT => ?_)
  obtain ⟨r_6, rfl, eg, f_7⟩ := hp
  rw [eg] at hT
  clear eg
  refine W.eq (g2 := F0 m 18 ls [.int r_6]) rfl ?_
  rcases f_7 with ⟨rfl, hw_10, hw_11⟩ | ⟨rfl, hw_12⟩
  · refine W.eq (g2 := F0 m 18 ls [.int 1]) rfl ?_
    refine lv_if_ne (tgt := 23) hx hb dX6_outside_18 (by decide) (fun c_ => ?_) (fun c_ => absurd c_ (by decide))
    refine lv_aload_n hx hb dX6_outside_23 rfl (lv_at hl 0 rfl) ?_
    refine t_get (ci := 6) (v := .ref v_1) hB hT (ro_ci r_h rfl) rfl 1 (by decide) k_309 e_v_1 dX6_outside_24 ?_
    obtain ⟨v_13, e_v_13, r_v_13, n_v_13⟩ := f_19_3 hI r_v_1
    refine t_get (ci := 5) (v := .ref v_13) hB hT (ro_ci r_v_1 rfl) rfl 3 (by decide) k_208 e_v_13 dX6_outside_27 ?_
    refine lv_aload_n hx hb dX6_outside_30 rfl (lv_at hl 0 rfl) ?_
    refine t_get (ci := 6) (v := .ref v_1) hB hT (ro_ci r_h rfl) rfl 1 (by decide) k_309 e_v_1 dX6_outside_31 ?_
    refine t_get (ci := 5) (v := .int v_2) hB hT (ro_ci r_v_1 rfl) rfl 4 (by decide) k_211 e_v_2 dX6_outside_34 ?_
    refine lv_iconst (v := 1) hx hb dX6_outside_37 (by decide) ?_
    refine lv_isub hx hb dX6_outside_38 ?_
    refine lv_topi (fun z_14 ez_14 => ?_)
    refine lv_iload_n hx hb dX6_outside_39 rfl (lv_at hl 1 rfl) ?_
    refine lv_isub hx hb dX6_outside_40 ?_
    refine lv_topi (fun z_15 ez_15 => ?_)
    refine lv_sipush (v := 511) hx hb dX6_outside_41 (by decide) ?_
    refine lv_iand hx hb dX6_outside_44 ?_
    refine lv_topi (fun z_16 ez_16 => ?_)
    have e_z_16 := i_and 9 (b := 511) ez_16 (by decide) (by decide) (by decide)
    have i_u_17 : vp_in z_16 512 := (i_in (n := 512) rfl (by omega) (by omega))
    refine t_iald hB hT (ro_in r_v_13 (by decide)) n_v_13 i_u_17 rfl dX6_outside_45 ?_
    refine lv_topi (fun u_17 e_u_17 => ?_)
    exact t_iret hB hr hT (Nat.le_of_ble_eq_true rfl) (Nat.le_of_ble_eq_true rfl) dX6_outside_46 ⟨u_17, rfl, hI, hE, hM⟩
  · refine W.eq (g2 := F0 m 18 ls [.int 0]) rfl ?_
    refine lv_if_ne (tgt := 23) hx hb dX6_outside_18 (by decide) (fun c_ => absurd (by decide) c_) (fun c_ => ?_)
    refine lv_iconst (v := (-1)) hx hb dX6_outside_21 (by decide) ?_
    exact t_iret hB hr hT (Nat.le_of_ble_eq_true rfl) (Nat.le_of_ble_eq_true rfl) dX6_outside_22 ⟨(-1), rfl, hI, hE, hM⟩
