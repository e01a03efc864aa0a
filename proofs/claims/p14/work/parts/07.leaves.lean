theorem k_3 : Cond.selects RX4 yX4_byteAt yX4_byteAt ∈ tb := mt 3 (by decide +kernel) rfl
theorem k_58 : Cond.initialized RX4 ∈ tb := mt 58 (by decide +kernel) rfl
theorem k_86 : Cond.fieldLink RX4 9 "TwiceOnce$Tape" "bytes" "[I" ∈ tb := mt 86 (by decide +kernel) rfl
theorem k_87 : Cond.fieldLink RX4 15 "TwiceOnce$Tape" "size" "I" ∈ tb := mt 87 (by decide +kernel) rfl
theorem k_91 : Cond.fieldLink RX4 22 "TwiceOnce$Tape" "place" "I" ∈ tb := mt 91 (by decide +kernel) rfl
theorem k_121 : Cond.fieldLink RX2 9 "TwiceOnce$Program" "words" "[I" ∈ tb := mt 121 (by decide +kernel) rfl
theorem k_124 : Cond.fieldLink RX3 77 "TwiceOnce$Program" "words" "[I" ∈ tb := mt 124 (by decide +kernel) rfl
theorem k_125 : Cond.fieldLink RX2 15 "TwiceOnce$Program" "targets" "[I" ∈ tb := mt 125 (by decide +kernel) rfl
theorem k_128 : Cond.fieldLink RX3 80 "TwiceOnce$Program" "targets" "[I" ∈ tb := mt 128 (by decide +kernel) rfl
theorem k_129 : Cond.fieldLink RX2 18 "TwiceOnce$Program" "values" "[I" ∈ tb := mt 129 (by decide +kernel) rfl
theorem k_131 : Cond.fieldLink RX2 21 "TwiceOnce$Program" "size" "I" ∈ tb := mt 131 (by decide +kernel) rfl
theorem k_143 : Cond.fieldLink RX3 12 "TwiceOnce$Service" "program" "LTwiceOnce$Program;" ∈ tb := mt 143 (by decide +kernel) rfl
theorem k_146 : Cond.fieldLink RX3 18 "TwiceOnce$Service" "cells" "[I" ∈ tb := mt 146 (by decide +kernel) rfl
theorem k_152 : Cond.fieldLink RX3 26 "TwiceOnce$Service" "mends" "I" ∈ tb := mt 152 (by decide +kernel) rfl
theorem k_155 : Cond.fieldLink RX3 29 "TwiceOnce$Service" "holdTicks" "I" ∈ tb := mt 155 (by decide +kernel) rfl
theorem k_158 : Cond.fieldLink RX3 32 "TwiceOnce$Service" "kept" "I" ∈ tb := mt 158 (by decide +kernel) rfl
theorem k_159 : Cond.fieldLink RX3 35 "TwiceOnce$Service" "keptKeys" "[I" ∈ tb := mt 159 (by decide +kernel) rfl
theorem k_160 : Cond.fieldLink RX3 38 "TwiceOnce$Service" "keptXs" "[I" ∈ tb := mt 160 (by decide +kernel) rfl
theorem k_161 : Cond.fieldLink RX3 41 "TwiceOnce$Service" "keptAnswers" "[I" ∈ tb := mt 161 (by decide +kernel) rfl
theorem k_162 : Cond.fieldLink RX3 44 "TwiceOnce$Service" "keptTicks" "[I" ∈ tb := mt 162 (by decide +kernel) rfl
theorem k_165 : Cond.fieldLink RX3 53 "TwiceOnce$Service" "knownActs" "[I" ∈ tb := mt 165 (by decide +kernel) rfl
theorem k_166 : Cond.fieldLink RX3 56 "TwiceOnce$Service" "earlierActs" "[I" ∈ tb := mt 166 (by decide +kernel) rfl
theorem k_167 : Cond.fieldLink RX3 59 "TwiceOnce$Service" "holdsBack" "Z" ∈ tb := mt 167 (by decide +kernel) rfl
theorem k_202 : Cond.fieldLink RX5 17 "TwiceOnce$World" "size" "I" ∈ tb := mt 202 (by decide +kernel) rfl
theorem k_363 : Cond.methodLink RX4 59 yX4_byteAt ∈ tb := mt 363 (by decide +kernel) rfl
theorem k_365 : Cond.instanceMethod yX4_byteAt ∈ tb := mt 365 (by decide +kernel) rfl
set_option maxRecDepth 20000 in
theorem k_366 : Cond.code yX4_byteAt cX4_byteAt 2 (some .int) ∈ tb := mt 366 rfl rfl
theorem dX6_within_0 : decode cX6_within 0 = .ok (.iload_n 0, 1) := by decide +kernel
theorem dX6_within_1 : decode cX6_within 1 = .ok (.ifCond .lt 12, 3) := by decide +kernel
theorem dX6_within_13 : decode cX6_within 13 = .ok (.iconst 0, 1) := by decide +kernel
theorem dX6_within_14 : decode cX6_within 14 = .ok (.ireturn, 1) := by decide +kernel
theorem dX6_within_4 : decode cX6_within 4 = .ok (.iload_n 0, 1) := by decide +kernel
theorem dX6_within_5 : decode cX6_within 5 = .ok (.iload_n 1, 1) := by decide +kernel
theorem dX6_within_6 : decode cX6_within 6 = .ok (.if_icmp .gt 7, 3) := by decide +kernel
theorem dX6_within_9 : decode cX6_within 9 = .ok (.iconst 1, 1) := by decide +kernel
theorem dX6_within_10 : decode cX6_within 10 = .ok (.goto 4, 3) := by decide +kernel
theorem dX5_has_0 : decode cX5_has 0 = .ok (.iload_n 1, 1) := by decide +kernel
theorem dX5_has_1 : decode cX5_has 1 = .ok (.ifCond .lt 15, 3) := by decide +kernel
theorem dX5_has_16 : decode cX5_has 16 = .ok (.iconst 0, 1) := by decide +kernel
theorem dX5_has_17 : decode cX5_has 17 = .ok (.ireturn, 1) := by decide +kernel
theorem dX5_has_4 : decode cX5_has 4 = .ok (.iload_n 1, 1) := by decide +kernel
theorem dX5_has_5 : decode cX5_has 5 = .ok (.aload_n 0, 1) := by decide +kernel
theorem dX5_has_6 : decode cX5_has 6 = .ok (.getfield 17, 3) := by decide +kernel
theorem dX5_has_9 : decode cX5_has 9 = .ok (.if_icmp .ge 7, 3) := by decide +kernel
theorem dX5_has_12 : decode cX5_has 12 = .ok (.iconst 1, 1) := by decide +kernel
theorem dX5_has_13 : decode cX5_has 13 = .ok (.goto 4, 3) := by decide +kernel
theorem dX5_canAsk_0 : decode cX5_canAsk 0 = .ok (.iload_n 2, 1) := by decide +kernel
theorem dX5_canAsk_1 : decode cX5_canAsk 1 = .ok (.iload_n 1, 1) := by decide +kernel
theorem dX5_canAsk_2 : decode cX5_canAsk 2 = .ok (.if_icmp .le 15, 3) := by decide +kernel
theorem dX5_canAsk_17 : decode cX5_canAsk 17 = .ok (.iconst 0, 1) := by decide +kernel
theorem dX5_canAsk_18 : decode cX5_canAsk 18 = .ok (.ireturn, 1) := by decide +kernel
theorem dX5_canAsk_5 : decode cX5_canAsk 5 = .ok (.iload_n 2, 1) := by decide +kernel
theorem dX5_canAsk_6 : decode cX5_canAsk 6 = .ok (.aload_n 0, 1) := by decide +kernel
theorem dX5_canAsk_7 : decode cX5_canAsk 7 = .ok (.getfield 17, 3) := by decide +kernel
theorem dX5_canAsk_10 : decode cX5_canAsk 10 = .ok (.if_icmp .ge 7, 3) := by decide +kernel
theorem dX5_canAsk_13 : decode cX5_canAsk 13 = .ok (.iconst 1, 1) := by decide +kernel
theorem dX5_canAsk_14 : decode cX5_canAsk 14 = .ok (.goto 4, 3) := by decide +kernel
theorem dX4_byteAt_0 : decode cX4_byteAt 0 = .ok (.iload_n 1, 1) := by decide +kernel
theorem dX4_byteAt_1 : decode cX4_byteAt 1 = .ok (.ifCond .lt 20, 3) := by decide +kernel
theorem dX4_byteAt_21 : decode cX4_byteAt 21 = .ok (.iconst (-1), 1) := by decide +kernel
theorem dX4_byteAt_22 : decode cX4_byteAt 22 = .ok (.ireturn, 1) := by decide +kernel
theorem dX4_byteAt_4 : decode cX4_byteAt 4 = .ok (.iload_n 1, 1) := by decide +kernel
theorem dX4_byteAt_5 : decode cX4_byteAt 5 = .ok (.aload_n 0, 1) := by decide +kernel
theorem dX4_byteAt_6 : decode cX4_byteAt 6 = .ok (.getfield 15, 3) := by decide +kernel
theorem dX4_byteAt_9 : decode cX4_byteAt 9 = .ok (.if_icmp .ge 12, 3) := by decide +kernel
theorem dX4_byteAt_12 : decode cX4_byteAt 12 = .ok (.aload_n 0, 1) := by decide +kernel
theorem dX4_byteAt_13 : decode cX4_byteAt 13 = .ok (.getfield 9, 3) := by decide +kernel
theorem dX4_byteAt_16 : decode cX4_byteAt 16 = .ok (.iload_n 1, 1) := by decide +kernel
theorem dX4_byteAt_17 : decode cX4_byteAt 17 = .ok (.iaload, 1) := by decide +kernel
theorem dX4_byteAt_18 : decode cX4_byteAt 18 = .ok (.goto 4, 3) := by decide +kernel
theorem dX4_pass_0 : decode cX4_pass 0 = .ok (.aload_n 0, 1) := by decide +kernel
theorem dX4_pass_1 : decode cX4_pass 1 = .ok (.aload_n 0, 1) := by decide +kernel
theorem dX4_pass_2 : decode cX4_pass 2 = .ok (.getfield 22, 3) := by decide +kernel
theorem dX4_pass_5 : decode cX4_pass 5 = .ok (.invokevirtual 59, 3) := by decide +kernel
theorem dX4_pass_8 : decode cX4_pass 8 = .ok (.iload_n 1, 1) := by decide +kernel
theorem dX4_pass_9 : decode cX4_pass 9 = .ok (.if_icmp .eq 5, 3) := by decide +kernel
theorem dX4_pass_14 : decode cX4_pass 14 = .ok (.aload_n 0, 1) := by decide +kernel
theorem dX4_pass_15 : decode cX4_pass 15 = .ok (.dup, 1) := by decide +kernel
theorem dX4_pass_16 : decode cX4_pass 16 = .ok (.getfield 22, 3) := by decide +kernel
theorem dX4_pass_19 : decode cX4_pass 19 = .ok (.iconst 1, 1) := by decide +kernel
theorem dX4_pass_20 : decode cX4_pass 20 = .ok (.iadd, 1) := by decide +kernel
theorem dX4_pass_21 : decode cX4_pass 21 = .ok (.putfield 22, 3) := by decide +kernel
theorem dX4_pass_24 : decode cX4_pass 24 = .ok (.iconst 1, 1) := by decide +kernel
theorem dX4_pass_25 : decode cX4_pass 25 = .ok (.ireturn, 1) := by decide +kernel
theorem dX4_pass_12 : decode cX4_pass 12 = .ok (.iconst 0, 1) := by decide +kernel
theorem dX4_pass_13 : decode cX4_pass 13 = .ok (.ireturn, 1) := by decide +kernel
theorem dX3_isMended_0 : decode cX3_isMended 0 = .ok (.aload_n 0, 1) := by decide +kernel
theorem dX3_isMended_1 : decode cX3_isMended 1 = .ok (.getfield 26, 3) := by decide +kernel
theorem dX3_isMended_4 : decode cX3_isMended 4 = .ok (.iload_n 1, 1) := by decide +kernel
theorem dX3_isMended_5 : decode cX3_isMended 5 = .ok (.ishr, 1) := by decide +kernel
theorem dX3_isMended_6 : decode cX3_isMended 6 = .ok (.iconst 1, 1) := by decide +kernel
theorem dX3_isMended_7 : decode cX3_isMended 7 = .ok (.iand, 1) := by decide +kernel
theorem dX3_isMended_8 : decode cX3_isMended 8 = .ok (.iconst 1, 1) := by decide +kernel
theorem dX3_isMended_9 : decode cX3_isMended 9 = .ok (.if_icmp .ne 7, 3) := by decide +kernel
theorem dX3_isMended_16 : decode cX3_isMended 16 = .ok (.iconst 0, 1) := by decide +kernel
theorem dX3_isMended_17 : decode cX3_isMended 17 = .ok (.ireturn, 1) := by decide +kernel
theorem dX3_isMended_12 : decode cX3_isMended 12 = .ok (.iconst 1, 1) := by decide +kernel
theorem dX3_isMended_13 : decode cX3_isMended 13 = .ok (.goto 4, 3) := by decide +kernel
theorem dX3_isOver_0 : decode cX3_isOver 0 = .ok (.iload_n 2, 1) := by decide +kernel
theorem dX3_isOver_1 : decode cX3_isOver 1 = .ok (.aload_n 0, 1) := by decide +kernel
theorem dX3_isOver_2 : decode cX3_isOver 2 = .ok (.getfield 44, 3) := by decide +kernel
theorem dX3_isOver_5 : decode cX3_isOver 5 = .ok (.iload_n 1, 1) := by decide +kernel
theorem dX3_isOver_6 : decode cX3_isOver 6 = .ok (.iaload, 1) := by decide +kernel
theorem dX3_isOver_7 : decode cX3_isOver 7 = .ok (.aload_n 0, 1) := by decide +kernel
theorem dX3_isOver_8 : decode cX3_isOver 8 = .ok (.getfield 29, 3) := by decide +kernel
theorem dX3_isOver_11 : decode cX3_isOver 11 = .ok (.iadd, 1) := by decide +kernel
theorem dX3_isOver_12 : decode cX3_isOver 12 = .ok (.if_icmp .le 7, 3) := by decide +kernel
theorem dX3_isOver_19 : decode cX3_isOver 19 = .ok (.iconst 0, 1) := by decide +kernel
theorem dX3_isOver_20 : decode cX3_isOver 20 = .ok (.ireturn, 1) := by decide +kernel
theorem dX3_isOver_15 : decode cX3_isOver 15 = .ok (.iconst 1, 1) := by decide +kernel
theorem dX3_isOver_16 : decode cX3_isOver 16 = .ok (.goto 4, 3) := by decide +kernel
theorem dX3_keptAnswer_0 : decode cX3_keptAnswer 0 = .ok (.aload_n 0, 1) := by decide +kernel
theorem dX3_keptAnswer_1 : decode cX3_keptAnswer 1 = .ok (.getfield 38, 3) := by decide +kernel
theorem dX3_keptAnswer_4 : decode cX3_keptAnswer 4 = .ok (.iload_n 1, 1) := by decide +kernel
theorem dX3_keptAnswer_5 : decode cX3_keptAnswer 5 = .ok (.iaload, 1) := by decide +kernel
theorem dX3_keptAnswer_6 : decode cX3_keptAnswer 6 = .ok (.iload_n 2, 1) := by decide +kernel
theorem dX3_keptAnswer_7 : decode cX3_keptAnswer 7 = .ok (.if_icmp .ne 12, 3) := by decide +kernel
theorem dX3_keptAnswer_19 : decode cX3_keptAnswer 19 = .ok (.iconst (-1), 1) := by decide +kernel
theorem dX3_keptAnswer_20 : decode cX3_keptAnswer 20 = .ok (.ireturn, 1) := by decide +kernel
theorem dX3_keptAnswer_10 : decode cX3_keptAnswer 10 = .ok (.aload_n 0, 1) := by decide +kernel
theorem dX3_keptAnswer_11 : decode cX3_keptAnswer 11 = .ok (.getfield 41, 3) := by decide +kernel
theorem dX3_keptAnswer_14 : decode cX3_keptAnswer 14 = .ok (.iload_n 1, 1) := by decide +kernel
theorem dX3_keptAnswer_15 : decode cX3_keptAnswer 15 = .ok (.iaload, 1) := by decide +kernel
theorem dX3_keptAnswer_16 : decode cX3_keptAnswer 16 = .ok (.goto 4, 3) := by decide +kernel
theorem dX3_answerNewest_0 : decode cX3_answerNewest 0 = .ok (.aload_n 0, 1) := by decide +kernel
theorem dX3_answerNewest_1 : decode cX3_answerNewest 1 = .ok (.getfield 32, 3) := by decide +kernel
theorem dX3_answerNewest_4 : decode cX3_answerNewest 4 = .ok (.ifCond .le 30, 3) := by decide +kernel
theorem dX3_answerNewest_34 : decode cX3_answerNewest 34 = .ok (.return_, 1) := by decide +kernel
theorem dX3_answerNewest_7 : decode cX3_answerNewest 7 = .ok (.aload_n 0, 1) := by decide +kernel
theorem dX3_answerNewest_8 : decode cX3_answerNewest 8 = .ok (.getfield 35, 3) := by decide +kernel
theorem dX3_answerNewest_11 : decode cX3_answerNewest 11 = .ok (.aload_n 0, 1) := by decide +kernel
theorem dX3_answerNewest_12 : decode cX3_answerNewest 12 = .ok (.getfield 32, 3) := by decide +kernel
theorem dX3_answerNewest_15 : decode cX3_answerNewest 15 = .ok (.iconst 1, 1) := by decide +kernel
theorem dX3_answerNewest_16 : decode cX3_answerNewest 16 = .ok (.isub, 1) := by decide +kernel
theorem dX3_answerNewest_17 : decode cX3_answerNewest 17 = .ok (.iaload, 1) := by decide +kernel
theorem dX3_answerNewest_18 : decode cX3_answerNewest 18 = .ok (.iload_n 1, 1) := by decide +kernel
theorem dX3_answerNewest_19 : decode cX3_answerNewest 19 = .ok (.if_icmp .ne 15, 3) := by decide +kernel
theorem dX3_answerNewest_22 : decode cX3_answerNewest 22 = .ok (.aload_n 0, 1) := by decide +kernel
theorem dX3_answerNewest_23 : decode cX3_answerNewest 23 = .ok (.getfield 41, 3) := by decide +kernel
theorem dX3_answerNewest_26 : decode cX3_answerNewest 26 = .ok (.aload_n 0, 1) := by decide +kernel
theorem dX3_answerNewest_27 : decode cX3_answerNewest 27 = .ok (.getfield 32, 3) := by decide +kernel
theorem dX3_answerNewest_30 : decode cX3_answerNewest 30 = .ok (.iconst 1, 1) := by decide +kernel
theorem dX3_answerNewest_31 : decode cX3_answerNewest 31 = .ok (.isub, 1) := by decide +kernel
theorem dX3_answerNewest_32 : decode cX3_answerNewest 32 = .ok (.iload_n 2, 1) := by decide +kernel
theorem dX3_answerNewest_33 : decode cX3_answerNewest 33 = .ok (.iastore, 1) := by decide +kernel
theorem dX2_valueAt_0 : decode cX2_valueAt 0 = .ok (.aload_n 0, 1) := by decide +kernel
theorem dX2_valueAt_1 : decode cX2_valueAt 1 = .ok (.getfield 18, 3) := by decide +kernel
theorem dX2_valueAt_4 : decode cX2_valueAt 4 = .ok (.iload_n 1, 1) := by decide +kernel
theorem dX2_valueAt_5 : decode cX2_valueAt 5 = .ok (.iaload, 1) := by decide +kernel
theorem dX2_valueAt_6 : decode cX2_valueAt 6 = .ok (.istore 4, 2) := by decide +kernel
theorem dX2_valueAt_8 : decode cX2_valueAt 8 = .ok (.iload 4, 2) := by decide +kernel
theorem dX2_valueAt_10 : decode cX2_valueAt 10 = .ok (.sipush 1000, 3) := by decide +kernel
theorem dX2_valueAt_13 : decode cX2_valueAt 13 = .ok (.if_icmp .ne 5, 3) := by decide +kernel
theorem dX2_valueAt_18 : decode cX2_valueAt 18 = .ok (.iload 4, 2) := by decide +kernel
theorem dX2_valueAt_20 : decode cX2_valueAt 20 = .ok (.sipush 1001, 3) := by decide +kernel
theorem dX2_valueAt_23 : decode cX2_valueAt 23 = .ok (.if_icmp .ne 13, 3) := by decide +kernel
theorem dX2_valueAt_36 : decode cX2_valueAt 36 = .ok (.iload 4, 2) := by decide +kernel
theorem dX2_valueAt_38 : decode cX2_valueAt 38 = .ok (.ireturn, 1) := by decide +kernel
theorem dX2_valueAt_26 : decode cX2_valueAt 26 = .ok (.iload_n 3, 1) := by decide +kernel
theorem dX2_valueAt_27 : decode cX2_valueAt 27 = .ok (.ifCond .le 7, 3) := by decide +kernel
theorem dX2_valueAt_34 : decode cX2_valueAt 34 = .ok (.iconst 0, 1) := by decide +kernel
theorem dX2_valueAt_35 : decode cX2_valueAt 35 = .ok (.ireturn, 1) := by decide +kernel
theorem dX2_valueAt_30 : decode cX2_valueAt 30 = .ok (.iload_n 3, 1) := by decide +kernel
theorem dX2_valueAt_31 : decode cX2_valueAt 31 = .ok (.goto 4, 3) := by decide +kernel
theorem dX2_valueAt_16 : decode cX2_valueAt 16 = .ok (.iload_n 2, 1) := by decide +kernel
theorem dX2_valueAt_17 : decode cX2_valueAt 17 = .ok (.ireturn, 1) := by decide +kernel
theorem dX3_isHeldBack_0 : decode cX3_isHeldBack 0 = .ok (.aload_n 0, 1) := by decide +kernel
theorem dX3_isHeldBack_1 : decode cX3_isHeldBack 1 = .ok (.getfield 12, 3) := by decide +kernel
theorem dX3_isHeldBack_4 : decode cX3_isHeldBack 4 = .ok (.getfield 77, 3) := by decide +kernel
theorem dX3_isHeldBack_7 : decode cX3_isHeldBack 7 = .ok (.iload_n 1, 1) := by decide +kernel
theorem dX3_isHeldBack_8 : decode cX3_isHeldBack 8 = .ok (.iaload, 1) := by decide +kernel
theorem dX3_isHeldBack_9 : decode cX3_isHeldBack 9 = .ok (.istore_n 3, 1) := by decide +kernel
theorem dX3_isHeldBack_10 : decode cX3_isHeldBack 10 = .ok (.iload_n 3, 1) := by decide +kernel
theorem dX3_isHeldBack_11 : decode cX3_isHeldBack 11 = .ok (.bipush 10, 2) := by decide +kernel
theorem dX3_isHeldBack_13 : decode cX3_isHeldBack 13 = .ok (.imul, 1) := by decide +kernel
theorem dX3_isHeldBack_14 : decode cX3_isHeldBack 14 = .ok (.aload_n 0, 1) := by decide +kernel
theorem dX3_isHeldBack_15 : decode cX3_isHeldBack 15 = .ok (.getfield 12, 3) := by decide +kernel
theorem dX3_isHeldBack_18 : decode cX3_isHeldBack 18 = .ok (.getfield 80, 3) := by decide +kernel
theorem dX3_isHeldBack_21 : decode cX3_isHeldBack 21 = .ok (.iload_n 1, 1) := by decide +kernel
theorem dX3_isHeldBack_22 : decode cX3_isHeldBack 22 = .ok (.iaload, 1) := by decide +kernel
theorem dX3_isHeldBack_23 : decode cX3_isHeldBack 23 = .ok (.iadd, 1) := by decide +kernel
theorem dX3_isHeldBack_24 : decode cX3_isHeldBack 24 = .ok (.sipush 1000, 3) := by decide +kernel
theorem dX3_isHeldBack_27 : decode cX3_isHeldBack 27 = .ok (.imul, 1) := by decide +kernel
theorem dX3_isHeldBack_28 : decode cX3_isHeldBack 28 = .ok (.iload_n 2, 1) := by decide +kernel
theorem dX3_isHeldBack_29 : decode cX3_isHeldBack 29 = .ok (.iadd, 1) := by decide +kernel
theorem dX3_isHeldBack_30 : decode cX3_isHeldBack 30 = .ok (.istore 4, 2) := by decide +kernel
theorem dX3_isHeldBack_32 : decode cX3_isHeldBack 32 = .ok (.aload_n 0, 1) := by decide +kernel
theorem dX3_isHeldBack_33 : decode cX3_isHeldBack 33 = .ok (.getfield 53, 3) := by decide +kernel
theorem dX3_isHeldBack_36 : decode cX3_isHeldBack 36 = .ok (.iload_n 1, 1) := by decide +kernel
theorem dX3_isHeldBack_37 : decode cX3_isHeldBack 37 = .ok (.iload 4, 2) := by decide +kernel
theorem dX3_isHeldBack_39 : decode cX3_isHeldBack 39 = .ok (.iastore, 1) := by decide +kernel
theorem dX3_isHeldBack_40 : decode cX3_isHeldBack 40 = .ok (.iload_n 3, 1) := by decide +kernel
theorem dX3_isHeldBack_41 : decode cX3_isHeldBack 41 = .ok (.ifCond .eq 14, 3) := by decide +kernel
theorem dX3_isHeldBack_55 : decode cX3_isHeldBack 55 = .ok (.iconst 1, 1) := by decide +kernel
theorem dX3_isHeldBack_56 : decode cX3_isHeldBack 56 = .ok (.goto 4, 3) := by decide +kernel
theorem dX3_isHeldBack_60 : decode cX3_isHeldBack 60 = .ok (.istore 5, 2) := by decide +kernel
theorem dX3_isHeldBack_62 : decode cX3_isHeldBack 62 = .ok (.iload 5, 2) := by decide +kernel
theorem dX3_isHeldBack_64 : decode cX3_isHeldBack 64 = .ok (.ifCond .eq 25, 3) := by decide +kernel
theorem dX3_isHeldBack_67 : decode cX3_isHeldBack 67 = .ok (.aload_n 0, 1) := by decide +kernel
theorem dX3_isHeldBack_68 : decode cX3_isHeldBack 68 = .ok (.getfield 59, 3) := by decide +kernel
theorem dX3_isHeldBack_71 : decode cX3_isHeldBack 71 = .ok (.ifCond .eq 18, 3) := by decide +kernel
theorem dX3_isHeldBack_89 : decode cX3_isHeldBack 89 = .ok (.iconst 0, 1) := by decide +kernel
theorem dX3_isHeldBack_90 : decode cX3_isHeldBack 90 = .ok (.ireturn, 1) := by decide +kernel
theorem dX3_isHeldBack_74 : decode cX3_isHeldBack 74 = .ok (.aload_n 0, 1) := by decide +kernel
theorem dX3_isHeldBack_75 : decode cX3_isHeldBack 75 = .ok (.getfield 56, 3) := by decide +kernel
theorem dX3_isHeldBack_78 : decode cX3_isHeldBack 78 = .ok (.iload_n 1, 1) := by decide +kernel
theorem dX3_isHeldBack_79 : decode cX3_isHeldBack 79 = .ok (.iaload, 1) := by decide +kernel
theorem dX3_isHeldBack_80 : decode cX3_isHeldBack 80 = .ok (.iload 4, 2) := by decide +kernel
theorem dX3_isHeldBack_82 : decode cX3_isHeldBack 82 = .ok (.if_icmp .ne 7, 3) := by decide +kernel
theorem dX3_isHeldBack_85 : decode cX3_isHeldBack 85 = .ok (.iconst 1, 1) := by decide +kernel
theorem dX3_isHeldBack_86 : decode cX3_isHeldBack 86 = .ok (.goto 4, 3) := by decide +kernel
theorem dX3_isHeldBack_44 : decode cX3_isHeldBack 44 = .ok (.iload_n 3, 1) := by decide +kernel
theorem dX3_isHeldBack_45 : decode cX3_isHeldBack 45 = .ok (.iconst 2, 1) := by decide +kernel
theorem dX3_isHeldBack_46 : decode cX3_isHeldBack 46 = .ok (.if_icmp .eq 9, 3) := by decide +kernel
theorem dX3_isHeldBack_49 : decode cX3_isHeldBack 49 = .ok (.iload_n 3, 1) := by decide +kernel
theorem dX3_isHeldBack_50 : decode cX3_isHeldBack 50 = .ok (.bipush 6, 2) := by decide +kernel
theorem dX3_isHeldBack_52 : decode cX3_isHeldBack 52 = .ok (.if_icmp .ne 7, 3) := by decide +kernel
theorem dX3_isHeldBack_59 : decode cX3_isHeldBack 59 = .ok (.iconst 0, 1) := by decide +kernel
theorem dX3_passesOver_0 : decode cX3_passesOver 0 = .ok (.aload_n 0, 1) := by decide +kernel
theorem dX3_passesOver_1 : decode cX3_passesOver 1 = .ok (.getfield 12, 3) := by decide +kernel
theorem dX3_passesOver_4 : decode cX3_passesOver 4 = .ok (.getfield 80, 3) := by decide +kernel
theorem dX3_passesOver_7 : decode cX3_passesOver 7 = .ok (.iload_n 1, 1) := by decide +kernel
theorem dX3_passesOver_8 : decode cX3_passesOver 8 = .ok (.iaload, 1) := by decide +kernel
theorem dX3_passesOver_9 : decode cX3_passesOver 9 = .ok (.istore_n 3, 1) := by decide +kernel
theorem dX3_passesOver_10 : decode cX3_passesOver 10 = .ok (.aload_n 0, 1) := by decide +kernel
theorem dX3_passesOver_11 : decode cX3_passesOver 11 = .ok (.getfield 12, 3) := by decide +kernel
theorem dX3_passesOver_14 : decode cX3_passesOver 14 = .ok (.getfield 77, 3) := by decide +kernel
theorem dX3_passesOver_17 : decode cX3_passesOver 17 = .ok (.iload_n 1, 1) := by decide +kernel
theorem dX3_passesOver_18 : decode cX3_passesOver 18 = .ok (.iaload, 1) := by decide +kernel
theorem dX3_passesOver_19 : decode cX3_passesOver 19 = .ok (.bipush 7, 2) := by decide +kernel
theorem dX3_passesOver_21 : decode cX3_passesOver 21 = .ok (.if_icmp .ne 22, 3) := by decide +kernel
theorem dX3_passesOver_43 : decode cX3_passesOver 43 = .ok (.iconst 0, 1) := by decide +kernel
theorem dX3_passesOver_44 : decode cX3_passesOver 44 = .ok (.ireturn, 1) := by decide +kernel
theorem dX3_passesOver_24 : decode cX3_passesOver 24 = .ok (.iload_n 3, 1) := by decide +kernel
theorem dX3_passesOver_25 : decode cX3_passesOver 25 = .ok (.iconst 4, 1) := by decide +kernel
theorem dX3_passesOver_26 : decode cX3_passesOver 26 = .ok (.if_icmp .ge 17, 3) := by decide +kernel
theorem dX3_passesOver_29 : decode cX3_passesOver 29 = .ok (.aload_n 0, 1) := by decide +kernel
theorem dX3_passesOver_30 : decode cX3_passesOver 30 = .ok (.getfield 18, 3) := by decide +kernel
theorem dX3_passesOver_33 : decode cX3_passesOver 33 = .ok (.iload_n 3, 1) := by decide +kernel
theorem dX3_passesOver_34 : decode cX3_passesOver 34 = .ok (.iaload, 1) := by decide +kernel
theorem dX3_passesOver_35 : decode cX3_passesOver 35 = .ok (.iload_n 2, 1) := by decide +kernel
theorem dX3_passesOver_36 : decode cX3_passesOver 36 = .ok (.if_icmp .eq 7, 3) := by decide +kernel
theorem dX3_passesOver_39 : decode cX3_passesOver 39 = .ok (.iconst 1, 1) := by decide +kernel
theorem dX3_passesOver_40 : decode cX3_passesOver 40 = .ok (.goto 4, 3) := by decide +kernel
theorem dX2_append_0 : decode cX2_append 0 = .ok (.aload_n 0, 1) := by decide +kernel
theorem dX2_append_1 : decode cX2_append 1 = .ok (.getfield 21, 3) := by decide +kernel
theorem dX2_append_4 : decode cX2_append 4 = .ok (.bipush 8, 2) := by decide +kernel
theorem dX2_append_6 : decode cX2_append 6 = .ok (.if_icmp .ge 43, 3) := by decide +kernel
theorem dX2_append_49 : decode cX2_append 49 = .ok (.return_, 1) := by decide +kernel
theorem dX2_append_9 : decode cX2_append 9 = .ok (.aload_n 0, 1) := by decide +kernel
theorem dX2_append_10 : decode cX2_append 10 = .ok (.getfield 9, 3) := by decide +kernel
theorem dX2_append_13 : decode cX2_append 13 = .ok (.aload_n 0, 1) := by decide +kernel
theorem dX2_append_14 : decode cX2_append 14 = .ok (.getfield 21, 3) := by decide +kernel
theorem dX2_append_17 : decode cX2_append 17 = .ok (.iload_n 1, 1) := by decide +kernel
theorem dX2_append_18 : decode cX2_append 18 = .ok (.iastore, 1) := by decide +kernel
theorem dX2_append_19 : decode cX2_append 19 = .ok (.aload_n 0, 1) := by decide +kernel
theorem dX2_append_20 : decode cX2_append 20 = .ok (.getfield 15, 3) := by decide +kernel
theorem dX2_append_23 : decode cX2_append 23 = .ok (.aload_n 0, 1) := by decide +kernel
theorem dX2_append_24 : decode cX2_append 24 = .ok (.getfield 21, 3) := by decide +kernel
theorem dX2_append_27 : decode cX2_append 27 = .ok (.iload_n 2, 1) := by decide +kernel
theorem dX2_append_28 : decode cX2_append 28 = .ok (.iastore, 1) := by decide +kernel
theorem dX2_append_29 : decode cX2_append 29 = .ok (.aload_n 0, 1) := by decide +kernel
theorem dX2_append_30 : decode cX2_append 30 = .ok (.getfield 18, 3) := by decide +kernel
theorem dX2_append_33 : decode cX2_append 33 = .ok (.aload_n 0, 1) := by decide +kernel
theorem dX2_append_34 : decode cX2_append 34 = .ok (.getfield 21, 3) := by decide +kernel
theorem dX2_append_37 : decode cX2_append 37 = .ok (.iload_n 3, 1) := by decide +kernel
theorem dX2_append_38 : decode cX2_append 38 = .ok (.iastore, 1) := by decide +kernel
theorem dX2_append_39 : decode cX2_append 39 = .ok (.aload_n 0, 1) := by decide +kernel
theorem dX2_append_40 : decode cX2_append 40 = .ok (.dup, 1) := by decide +kernel
theorem dX2_append_41 : decode cX2_append 41 = .ok (.getfield 21, 3) := by decide +kernel
theorem dX2_append_44 : decode cX2_append 44 = .ok (.iconst 1, 1) := by decide +kernel
theorem dX2_append_45 : decode cX2_append 45 = .ok (.iadd, 1) := by decide +kernel
theorem dX2_append_46 : decode cX2_append 46 = .ok (.putfield 21, 3) := by decide +kernel
def md_s_within : Nat → Nat → Bool := fun _ _ => false
set_option maxHeartbeats 4000000 in
set_option maxRecDepth 100000 in
theorem s_within (l : Launch) (D : va_G) (cI cZ cS cR : ClassId) (N0 : NT) (fr : Int32) (g : GS) (hI : Inv fr g) (n : Int32) (b : Int32)  : Ty l D cI cZ cS cR N0 yX6_within cX6_within 2 (some .boolean) 0 0 0 [.int n, .int b] g (fun v g' => ∃ (r : Int32), v = some (.int r) ∧ Inv fr g' ∧ Ex g g' ∧ Sm md_s_within g g' ∧ ((r = 1 ∧ 0 ≤ n.toInt ∧ n.toInt ≤ b.toInt) ∨ (r = 0 ∧ (n.toInt < 0 ∨ b.toInt < n.toInt)))) := by
  refine t_enter (by decide) (Nat.le_of_ble_eq_true rfl) ?_
  intro p e s m args below meth c ls H locs hB hr hin hl hT
  have hx := hB.1
  have hb := hB.2.1
  have hl : lv_has ls 2 [(0, .int n), (1, .int b)] := hl
  have hE : Ex g g := Ex.rf
  have hM : Sm md_s_within g g := Sm.rf
  refine lv_iload_n hx hb dX6_within_0 rfl (lv_at hl 0 rfl) ?_
  refine lv_if_lt (tgt := 13) hx hb dX6_within_1 (by decide) (fun c_1 => ?_) (fun c_1 => ?_)
  · have c_1' : n.toInt < 0 := i_lt c_1 rfl (by decide)
    refine lv_iconst (v := 0) hx hb dX6_within_13 (by decide) ?_
    exact t_zret hB hr rfl hT (Nat.le_of_ble_eq_true rfl) (Nat.le_of_ble_eq_true rfl) dX6_within_14 ⟨0, rfl, hI, hE, hM, (Or.inr ⟨rfl, by omega⟩)⟩
  · have c_1' : 0 ≤ n.toInt := i_nlt c_1 rfl (by decide)
    refine lv_iload_n hx hb dX6_within_4 rfl (lv_at hl 0 rfl) ?_
    refine lv_iload_n hx hb dX6_within_5 rfl (lv_at hl 1 rfl) ?_
    refine lv_icmp_gt (tgt := 13) hx hb dX6_within_6 (by decide) (fun c_2 => ?_) (fun c_2 => ?_)
    · have c_2' : b.toInt < n.toInt := i_lt c_2 rfl rfl
      refine lv_iconst (v := 0) hx hb dX6_within_13 (by decide) ?_
      exact t_zret hB hr rfl hT (Nat.le_of_ble_eq_true rfl) (Nat.le_of_ble_eq_true rfl) dX6_within_14 ⟨0, rfl, hI, hE, hM, (Or.inr ⟨rfl, by omega⟩)⟩
    · have c_2' : n.toInt ≤ b.toInt := i_nlt c_2 rfl rfl
      refine lv_iconst (v := 1) hx hb dX6_within_9 (by decide) ?_
      refine lv_goto (tgt := 14) hx hb dX6_within_10 (by decide) ?_
      exact t_zret hB hr rfl hT (Nat.le_of_ble_eq_true rfl) (Nat.le_of_ble_eq_true rfl) dX6_within_14 ⟨1, rfl, hI, hE, hM, (Or.inl ⟨rfl, by omega, by omega⟩)⟩
def md_s_has : Nat → Nat → Bool := fun _ _ => false
set_option maxHeartbeats 4000000 in
set_option maxRecDepth 100000 in
theorem s_has (l : Launch) (D : va_G) (cI cZ cS cR : ClassId) (N0 : NT) (fr : Int32) (g : GS) (hI : Inv fr g) (h : Nat) (n : Int32) (r_h : g.1 h = 6) : Ty l D cI cZ cS cR N0 yX5_has cX5_has 2 (some .boolean) 0 0 0 [.ref h, .int n] g (fun v g' => ∃ (r : Int32), v = some (.int r) ∧ Inv fr g' ∧ Ex g g' ∧ Sm md_s_has g g' ∧ ((r = 1 ∧ 0 ≤ n.toInt ∧ n.toInt ≤ 5) ∨ r = 0)) := by
  refine t_enter (by decide) (Nat.le_of_ble_eq_true rfl) ?_
  intro p e s m args below meth c ls H locs hB hr hin hl hT
  have hx := hB.1
  have hb := hB.2.1
  have hl : lv_has ls 2 [(0, .ref h), (1, .int n)] := hl
  have hE : Ex g g := Ex.rf
  have hM : Sm md_s_has g g := Sm.rf
  refine lv_iload_n hx hb dX5_has_0 rfl (lv_at hl 1 rfl) ?_
  refine lv_if_lt (tgt := 16) hx hb dX5_has_1 (by decide) (fun c_1 => ?_) (fun c_1 => ?_)
  · have c_1' : n.toInt < 0 := i_lt c_1 rfl (by decide)
    refine lv_iconst (v := 0) hx hb dX5_has_16 (by decide) ?_
    exact t_zret hB hr rfl hT (Nat.le_of_ble_eq_true rfl) (Nat.le_of_ble_eq_true rfl) dX5_has_17 ⟨0, rfl, hI, hE, hM, (Or.inr rfl)⟩
  · have c_1' : 0 ≤ n.toInt := i_nlt c_1 rfl (by decide)
    refine lv_iload_n hx hb dX5_has_4 rfl (lv_at hl 1 rfl) ?_
    refine lv_aload_n hx hb dX5_has_5 rfl (lv_at hl 0 rfl) ?_
    obtain ⟨v_2, e_v_2, l_v_2, u_v_2⟩ := hI.f r_h 1
    refine t_get (ci := 5) (v := .int v_2) hB hT (ro_ci r_h rfl) rfl 1 (by decide) k_202 e_v_2 dX5_has_6 ?_
    refine lv_icmp_ge (tgt := 16) hx hb dX5_has_9 (by decide) (fun c_3 => ?_) (fun c_3 => ?_)
    · have c_3' : v_2.toInt ≤ n.toInt := i_le c_3 rfl rfl
      refine lv_iconst (v := 0) hx hb dX5_has_16 (by decide) ?_
      exact t_zret hB hr rfl hT (Nat.le_of_ble_eq_true rfl) (Nat.le_of_ble_eq_true rfl) dX5_has_17 ⟨0, rfl, hI, hE, hM, (Or.inr rfl)⟩
    · have c_3' : n.toInt < v_2.toInt := i_nle c_3 rfl rfl
      refine lv_iconst (v := 1) hx hb dX5_has_12 (by decide) ?_
      refine lv_goto (tgt := 17) hx hb dX5_has_13 (by decide) ?_
      exact t_zret hB hr rfl hT (Nat.le_of_ble_eq_true rfl) (Nat.le_of_ble_eq_true rfl) dX5_has_17 ⟨1, rfl, hI, hE, hM, (Or.inl ⟨rfl, by omega, by omega⟩)⟩
def md_s_canAsk : Nat → Nat → Bool := fun _ _ => false
set_option maxHeartbeats 4000000 in
set_option maxRecDepth 100000 in
theorem s_canAsk (l : Launch) (D : va_G) (cI cZ cS cR : ClassId) (N0 : NT) (fr : Int32) (g : GS) (hI : Inv fr g) (h : Nat) (n : Int32) (k : Int32) (r_h : g.1 h = 6) : Ty l D cI cZ cS cR N0 yX5_canAsk cX5_canAsk 3 (some .boolean) 0 0 0 [.ref h, .int n, .int k] g (fun v g' => ∃ (r : Int32), v = some (.int r) ∧ Inv fr g' ∧ Ex g g' ∧ Sm md_s_canAsk g g' ∧ ((r = 1 ∧ n.toInt < k.toInt ∧ k.toInt ≤ 5) ∨ r = 0)) := by
  refine t_enter (by decide) (Nat.le_of_ble_eq_true rfl) ?_
  intro p e s m args below meth c ls H locs hB hr hin hl hT
  have hx := hB.1
  have hb := hB.2.1
  have hl : lv_has ls 3 [(0, .ref h), (1, .int n), (2, .int k)] := hl
  have hE : Ex g g := Ex.rf
  have hM : Sm md_s_canAsk g g := Sm.rf
  refine lv_iload_n hx hb dX5_canAsk_0 rfl (lv_at hl 2 rfl) ?_
  refine lv_iload_n hx hb dX5_canAsk_1 rfl (lv_at hl 1 rfl) ?_
  refine lv_icmp_le (tgt := 17) hx hb dX5_canAsk_2 (by decide) (fun c_1 => ?_) (fun c_1 => ?_)
  · have c_1' : k.toInt ≤ n.toInt := i_le c_1 rfl rfl
    refine lv_iconst (v := 0) hx hb dX5_canAsk_17 (by decide) ?_
    exact t_zret hB hr rfl hT (Nat.le_of_ble_eq_true rfl) (Nat.le_of_ble_eq_true rfl) dX5_canAsk_18 ⟨0, rfl, hI, hE, hM, (Or.inr rfl)⟩
  · have c_1' : n.toInt < k.toInt := i_nle c_1 rfl rfl
    refine lv_iload_n hx hb dX5_canAsk_5 rfl (lv_at hl 2 rfl) ?_
    refine lv_aload_n hx hb dX5_canAsk_6 rfl (lv_at hl 0 rfl) ?_
    obtain ⟨v_2, e_v_2, l_v_2, u_v_2⟩ := hI.f r_h 1
    refine t_get (ci := 5) (v := .int v_2) hB hT (ro_ci r_h rfl) rfl 1 (by decide) k_202 e_v_2 dX5_canAsk_7 ?_
    refine lv_icmp_ge (tgt := 17) hx hb dX5_canAsk_10 (by decide) (fun c_3 => ?_) (fun c_3 => ?_)
    · have c_3' : v_2.toInt ≤ k.toInt := i_le c_3 rfl rfl
      refine lv_iconst (v := 0) hx hb dX5_canAsk_17 (by decide) ?_
      exact t_zret hB hr rfl hT (Nat.le_of_ble_eq_true rfl) (Nat.le_of_ble_eq_true rfl) dX5_canAsk_18 ⟨0, rfl, hI, hE, hM, (Or.inr rfl)⟩
    · have c_3' : k.toInt < v_2.toInt := i_nle c_3 rfl rfl
      refine lv_iconst (v := 1) hx hb dX5_canAsk_13 (by decide) ?_
      refine lv_goto (tgt := 18) hx hb dX5_canAsk_14 (by decide) ?_
      exact t_zret hB hr rfl hT (Nat.le_of_ble_eq_true rfl) (Nat.le_of_ble_eq_true rfl) dX5_canAsk_18 ⟨1, rfl, hI, hE, hM, (Or.inl ⟨rfl, by omega, by omega⟩)⟩
def md_s_byteAt : Nat → Nat → Bool := fun _ _ => false
set_option maxHeartbeats 4000000 in
set_option maxRecDepth 100000 in
theorem s_byteAt (l : Launch) (D : va_G) (cI cZ cS cR : ClassId) (N0 : NT) (fr : Int32) (g : GS) (hI : Inv fr g) (h : Nat) (n : Int32) (r_h : g.1 h = 5) : Ty l D cI cZ cS cR N0 yX4_byteAt cX4_byteAt 2 (some .int) 0 0 0 [.ref h, .int n] g (fun v g' => ∃ (r : Int32), v = some (.int r) ∧ Inv fr g' ∧ Ex g g' ∧ Sm md_s_byteAt g g') := by
  refine t_enter (by decide) (Nat.le_of_ble_eq_true rfl) ?_
  intro p e s m args below meth c ls H locs hB hr hin hl hT
  have hx := hB.1
  have hb := hB.2.1
  have hl : lv_has ls 2 [(0, .ref h), (1, .int n)] := hl
  have hE : Ex g g := Ex.rf
  have hM : Sm md_s_byteAt g g := Sm.rf
  refine lv_iload_n hx hb dX4_byteAt_0 rfl (lv_at hl 1 rfl) ?_
  refine lv_if_lt (tgt := 21) hx hb dX4_byteAt_1 (by decide) (fun c_1 => ?_) (fun c_1 => ?_)
  · have c_1' : n.toInt < 0 := i_lt c_1 rfl (by decide)
    refine lv_iconst (v := (-1)) hx hb dX4_byteAt_21 (by decide) ?_
    exact t_iret hB hr hT (Nat.le_of_ble_eq_true rfl) (Nat.le_of_ble_eq_true rfl) dX4_byteAt_22 ⟨(-1), rfl, hI, hE, hM⟩
  · have c_1' : 0 ≤ n.toInt := i_nlt c_1 rfl (by decide)
    refine lv_iload_n hx hb dX4_byteAt_4 rfl (lv_at hl 1 rfl) ?_
    refine lv_aload_n hx hb dX4_byteAt_5 rfl (lv_at hl 0 rfl) ?_
    obtain ⟨v_2, e_v_2, l_v_2, u_v_2⟩ := hI.f r_h 1
    refine t_get (ci := 4) (v := .int v_2) hB hT (ro_ci r_h rfl) rfl 1 (by decide) k_87 e_v_2 dX4_byteAt_6 ?_
    refine lv_icmp_ge (tgt := 21) hx hb dX4_byteAt_9 (by decide) (fun c_3 => ?_) (fun c_3 => ?_)
    · have c_3' : v_2.toInt ≤ n.toInt := i_le c_3 rfl rfl
      refine lv_iconst (v := (-1)) hx hb dX4_byteAt_21 (by decide) ?_
      exact t_iret hB hr hT (Nat.le_of_ble_eq_true rfl) (Nat.le_of_ble_eq_true rfl) dX4_byteAt_22 ⟨(-1), rfl, hI, hE, hM⟩
    · have c_3' : n.toInt < v_2.toInt := i_nle c_3 rfl rfl
      refine lv_aload_n hx hb dX4_byteAt_12 rfl (lv_at hl 0 rfl) ?_
      obtain ⟨v_4, e_v_4, r_v_4, n_v_4⟩ := hI.f r_h 0
      refine t_get (ci := 4) (v := .ref v_4) hB hT (ro_ci r_h rfl) rfl 0 (by decide) k_86 e_v_4 dX4_byteAt_13 ?_
      refine lv_iload_n hx hb dX4_byteAt_16 rfl (lv_at hl 1 rfl) ?_
      have i_u_5 : vp_in n 100 := (i_in (n := 100) rfl (by omega) (by omega))
      refine t_iald hB hT (ro_in r_v_4 (by decide)) n_v_4 i_u_5 rfl dX4_byteAt_17 ?_
      refine lv_topi (fun u_5 e_u_5 => ?_)
      refine lv_goto (tgt := 22) hx hb dX4_byteAt_18 (by decide) ?_
      exact t_iret hB hr hT (Nat.le_of_ble_eq_true rfl) (Nat.le_of_ble_eq_true rfl) dX4_byteAt_22 ⟨u_5, rfl, hI, hE, hM⟩
def md_s_pass : Nat → Nat → Bool := fun r k => (r == 5 && k == 3)
theorem mdle_s_pass_s_byteAt {r k : Nat} (h : md_s_pass r k = false) : md_s_byteAt r k = false := by
  first | rfl | (simp only [md_s_pass, md_s_byteAt, Bool.or_eq_false_iff, Bool.and_eq_false_iff, beq_eq_false_iff_ne] at h ⊢; omega)
set_option maxHeartbeats 4000000 in
set_option maxRecDepth 100000 in
theorem s_pass (l : Launch) (D : va_G) (cI cZ cS cR : ClassId) (N0 : NT) (fr : Int32) (g : GS) (hI : Inv fr g) (h : Nat) (n : Int32) (r_h : g.1 h = 5) : Ty l D cI cZ cS cR N0 yX4_pass cX4_pass 2 (some .boolean) 1 0 0 [.ref h, .int n] g (fun v g' => ∃ (r : Int32), v = some (.int r) ∧ Inv fr g' ∧ Ex g g' ∧ Sm md_s_pass g g' ∧ (r = 1 ∨ r = 0)) := by
  refine t_enter (by decide) (Nat.le_of_ble_eq_true rfl) ?_
  intro p e s m args below meth c ls H locs hB hr hin hl hT
  have hx := hB.1
  have hb := hB.2.1
  have hl : lv_has ls 2 [(0, .ref h), (1, .int n)] := hl
  have hE : Ex g g := Ex.rf
  have hM : Sm md_s_pass g g := Sm.rf
  refine lv_aload_n hx hb dX4_pass_0 rfl (lv_at hl 0 rfl) ?_
  refine lv_aload_n hx hb dX4_pass_1 rfl (lv_at hl 0 rfl) ?_
  obtain ⟨v_1, e_v_1⟩ := hI.f r_h 3
  refine t_get (ci := 4) (v := .int v_1) hB hT (ro_ci r_h rfl) rfl 3 (by decide) k_91 e_v_1 dX4_pass_2 ?_
  refine t_callV (n := 1) (ci := 4) (As := [.int v_1]) (rest := []) hB hT hl.1 (s_byteAt l D cI cZ cS cR N0 fr g hI h v_1 r_h) (ro_ci r_h rfl) rfl k_366 k_58 k_363 k_365 k_3 (by decide +kernel) ⟨(Nat.le_of_ble_eq_true rfl), (Nat.le_of_ble_eq_true rfl)⟩ rfl (Nat.le_of_ble_eq_true rfl) ⟨(Nat.le_of_ble_eq_true rfl), (Nat.le_of_ble_eq_true rfl)⟩ dX4_pass_5 (fun v g_2 H locs hp hT => ?_)
  obtain ⟨r_3, rfl, hI, x_5, m_4⟩ := hp
  have r_6 : g_2.1 h = 5 := (Ex.r x_5 r_h (by decide))
  have e_7 : g_2.2.1 h 3 = .int v_1 := (Sm.v m_4 r_h (by decide) rfl e_v_1)
  have hM : Sm md_s_pass g g_2 := hM.tr hE (m_4.mo (fun r k h => mdle_s_pass_s_byteAt h))
  have hE : Ex g g_2 := hE.tr x_5
  refine W.eq (g2 := F0 m 8 ls [.int r_3]) rfl ?_
  refine lv_iload_n hx hb dX4_pass_8 rfl (lv_at hl 1 rfl) ?_
  refine lv_icmp_eq (tgt := 14) hx hb dX4_pass_9 (by decide) (fun c_8 => ?_) (fun c_8 => ?_)
  · have c_8' : r_3.toInt = n.toInt := i_eq c_8 rfl rfl
    refine lv_aload_n hx hb dX4_pass_14 rfl (lv_at hl 0 rfl) ?_
    refine lv_dup hx hb dX4_pass_15 rfl ?_
    refine t_get (ci := 4) (v := .int v_1) hB hT (ro_ci r_6 rfl) rfl 3 (by decide) k_91 e_7 dX4_pass_16 ?_
    refine lv_iconst (v := 1) hx hb dX4_pass_19 (by decide) ?_
    refine lv_iadd hx hb dX4_pass_20 ?_
    refine lv_topi (fun z_9 ez_9 => ?_)
    refine t_put0 (ci := 4) (v := .int z_9) hB hT (ro_ci r_6 rfl) (ro_n0 r_6 (by decide)) rfl 3 (by decide) k_91 (Or.inl rfl) rfl rfl dX4_pass_21 (fun H locs hT => ?_)
    have hI : Inv fr (sF g_2 h 3 (.int z_9)) := hI.sF (fk r_6 (⟨_, rfl⟩))
    have hM : Sm md_s_pass g (sF g_2 h 3 (.int z_9)) := hM.tr hE (Sm_sF (by rw [r_6]; rfl))
    have hE : Ex g (sF g_2 h 3 (.int z_9)) := hE
    refine lv_iconst (v := 1) hx hb dX4_pass_24 (by decide) ?_
    exact t_zret hB hr rfl hT (Nat.le_of_ble_eq_true rfl) (Nat.le_of_ble_eq_true rfl) dX4_pass_25 ⟨1, rfl, hI, hE, hM, (Or.inl rfl)⟩
  · have c_8' : r_3.toInt ≠ n.toInt := i_ne c_8 rfl rfl
    refine lv_iconst (v := 0) hx hb dX4_pass_12 (by decide) ?_
    exact t_zret hB hr rfl hT (Nat.le_of_ble_eq_true rfl) (Nat.le_of_ble_eq_true rfl) dX4_pass_13 ⟨0, rfl, hI, hE, hM, (Or.inr rfl)⟩
def md_s_isMended : Nat → Nat → Bool := fun _ _ => false
set_option maxHeartbeats 4000000 in
set_option maxRecDepth 100000 in
theorem s_isMended (l : Launch) (D : va_G) (cI cZ cS cR : ClassId) (N0 : NT) (fr : Int32) (g : GS) (hI : Inv fr g) (h : Nat) (n : Int32) (r_h : g.1 h = 4) : Ty l D cI cZ cS cR N0 yX3_isMended cX3_isMended 2 (some .boolean) 0 0 0 [.ref h, .int n] g (fun v g' => ∃ (r : Int32), v = some (.int r) ∧ Inv fr g' ∧ Ex g g' ∧ Sm md_s_isMended g g' ∧ (r = 1 ∨ r = 0)) := by
  refine t_enter (by decide) (Nat.le_of_ble_eq_true rfl) ?_
  intro p e s m args below meth c ls H locs hB hr hin hl hT
  have hx := hB.1
  have hb := hB.2.1
  have hl : lv_has ls 2 [(0, .ref h), (1, .int n)] := hl
  have hE : Ex g g := Ex.rf
  have hM : Sm md_s_isMended g g := Sm.rf
  refine lv_aload_n hx hb dX3_isMended_0 rfl (lv_at hl 0 rfl) ?_
  obtain ⟨v_1, e_v_1⟩ := hI.f r_h 3
  refine t_get (ci := 3) (v := .int v_1) hB hT (ro_ci r_h rfl) rfl 3 (by decide) k_152 e_v_1 dX3_isMended_1 ?_
  refine lv_iload_n hx hb dX3_isMended_4 rfl (lv_at hl 1 rfl) ?_
  refine lv_ishr hx hb dX3_isMended_5 ?_
  refine lv_topi (fun z_2 ez_2 => ?_)
  refine lv_iconst (v := 1) hx hb dX3_isMended_6 (by decide) ?_
  refine lv_iand hx hb dX3_isMended_7 ?_
  refine lv_topi (fun z_3 ez_3 => ?_)
  have e_z_3 := i_and 1 (b := 1) ez_3 (by decide) (by decide) (by decide)
  refine lv_iconst (v := 1) hx hb dX3_isMended_8 (by decide) ?_
  refine lv_icmp_ne (tgt := 16) hx hb dX3_isMended_9 (by decide) (fun c_4 => ?_) (fun c_4 => ?_)
  · have c_4' : z_3.toInt ≠ 1 := i_ne c_4 rfl (by decide)
    refine lv_iconst (v := 0) hx hb dX3_isMended_16 (by decide) ?_
    exact t_zret hB hr rfl hT (Nat.le_of_ble_eq_true rfl) (Nat.le_of_ble_eq_true rfl) dX3_isMended_17 ⟨0, rfl, hI, hE, hM, (Or.inr rfl)⟩
  · have c_4' : z_3.toInt = 1 := i_eq c_4 rfl (by decide)
    refine lv_iconst (v := 1) hx hb dX3_isMended_12 (by decide) ?_
    refine lv_goto (tgt := 17) hx hb dX3_isMended_13 (by decide) ?_
    exact t_zret hB hr rfl hT (Nat.le_of_ble_eq_true rfl) (Nat.le_of_ble_eq_true rfl) dX3_isMended_17 ⟨1, rfl, hI, hE, hM, (Or.inl rfl)⟩
def md_s_isOver : Nat → Nat → Bool := fun _ _ => false
set_option maxHeartbeats 4000000 in
set_option maxRecDepth 100000 in
theorem s_isOver (l : Launch) (D : va_G) (cI cZ cS cR : ClassId) (N0 : NT) (fr : Int32) (g : GS) (hI : Inv fr g) (h : Nat) (n : Int32) (k : Int32) (r_h : g.1 h = 4) (l_n : 0 ≤ n.toInt) (u_n : n.toInt ≤ 15) : Ty l D cI cZ cS cR N0 yX3_isOver cX3_isOver 3 (some .boolean) 0 0 0 [.ref h, .int n, .int k] g (fun v g' => ∃ (r : Int32), v = some (.int r) ∧ Inv fr g' ∧ Ex g g' ∧ Sm md_s_isOver g g' ∧ (r = 1 ∨ r = 0)) := by
  refine t_enter (by decide) (Nat.le_of_ble_eq_true rfl) ?_
  intro p e s m args below meth c ls H locs hB hr hin hl hT
  have hx := hB.1
  have hb := hB.2.1
  have hl : lv_has ls 3 [(0, .ref h), (1, .int n), (2, .int k)] := hl
  have hE : Ex g g := Ex.rf
  have hM : Sm md_s_isOver g g := Sm.rf
  refine lv_iload_n hx hb dX3_isOver_0 rfl (lv_at hl 2 rfl) ?_
  refine lv_aload_n hx hb dX3_isOver_1 rfl (lv_at hl 0 rfl) ?_
  obtain ⟨v_1, e_v_1, r_v_1, n_v_1⟩ := hI.f r_h 9
  refine t_get (ci := 3) (v := .ref v_1) hB hT (ro_ci r_h rfl) rfl 9 (by decide) k_162 e_v_1 dX3_isOver_2 ?_
  refine lv_iload_n hx hb dX3_isOver_5 rfl (lv_at hl 1 rfl) ?_
  have i_u_2 : vp_in n 16 := (i_in (n := 16) rfl (by omega) (by omega))
  refine t_iald hB hT (ro_in r_v_1 (by decide)) n_v_1 i_u_2 rfl dX3_isOver_6 ?_
  refine lv_topi (fun u_2 e_u_2 => ?_)
  refine lv_aload_n hx hb dX3_isOver_7 rfl (lv_at hl 0 rfl) ?_
  obtain ⟨v_3, e_v_3⟩ := hI.f r_h 4
  refine t_get (ci := 3) (v := .int v_3) hB hT (ro_ci r_h rfl) rfl 4 (by decide) k_155 e_v_3 dX3_isOver_8 ?_
  refine lv_iadd hx hb dX3_isOver_11 ?_
  refine lv_topi (fun z_4 ez_4 => ?_)
  refine lv_icmp_le (tgt := 19) hx hb dX3_isOver_12 (by decide) (fun c_5 => ?_) (fun c_5 => ?_)
  · have c_5' : k.toInt ≤ z_4.toInt := i_le c_5 rfl rfl
    refine lv_iconst (v := 0) hx hb dX3_isOver_19 (by decide) ?_
    exact t_zret hB hr rfl hT (Nat.le_of_ble_eq_true rfl) (Nat.le_of_ble_eq_true rfl) dX3_isOver_20 ⟨0, rfl, hI, hE, hM, (Or.inr rfl)⟩
  · have c_5' : z_4.toInt < k.toInt := i_nle c_5 rfl rfl
    refine lv_iconst (v := 1) hx hb dX3_isOver_15 (by decide) ?_
    refine lv_goto (tgt := 20) hx hb dX3_isOver_16 (by decide) ?_
    exact t_zret hB hr rfl hT (Nat.le_of_ble_eq_true rfl) (Nat.le_of_ble_eq_true rfl) dX3_isOver_20 ⟨1, rfl, hI, hE, hM, (Or.inl rfl)⟩
def md_s_keptAnswer : Nat → Nat → Bool := fun _ _ => false
set_option maxHeartbeats 4000000 in
set_option maxRecDepth 100000 in
theorem s_keptAnswer (l : Launch) (D : va_G) (cI cZ cS cR : ClassId) (N0 : NT) (fr : Int32) (g : GS) (hI : Inv fr g) (h : Nat) (n : Int32) (k : Int32) (r_h : g.1 h = 4) (l_n : 0 ≤ n.toInt) (u_n : n.toInt ≤ 15) : Ty l D cI cZ cS cR N0 yX3_keptAnswer cX3_keptAnswer 3 (some .int) 0 0 0 [.ref h, .int n, .int k] g (fun v g' => ∃ (r : Int32), v = some (.int r) ∧ Inv fr g' ∧ Ex g g' ∧ Sm md_s_keptAnswer g g') := by
  refine t_enter (by decide) (Nat.le_of_ble_eq_true rfl) ?_
  intro p e s m args below meth c ls H locs hB hr hin hl hT
  have hx := hB.1
  have hb := hB.2.1
  have hl : lv_has ls 3 [(0, .ref h), (1, .int n), (2, .int k)] := hl
  have hE : Ex g g := Ex.rf
  have hM : Sm md_s_keptAnswer g g := Sm.rf
  refine lv_aload_n hx hb dX3_keptAnswer_0 rfl (lv_at hl 0 rfl) ?_
  obtain ⟨v_1, e_v_1, r_v_1, n_v_1⟩ := hI.f r_h 7
  refine t_get (ci := 3) (v := .ref v_1) hB hT (ro_ci r_h rfl) rfl 7 (by decide) k_160 e_v_1 dX3_keptAnswer_1 ?_
  refine lv_iload_n hx hb dX3_keptAnswer_4 rfl (lv_at hl 1 rfl) ?_
  have i_u_2 : vp_in n 16 := (i_in (n := 16) rfl (by omega) (by omega))
  refine t_iald hB hT (ro_in r_v_1 (by decide)) n_v_1 i_u_2 rfl dX3_keptAnswer_5 ?_
  refine lv_topi (fun u_2 e_u_2 => ?_)
  refine lv_iload_n hx hb dX3_keptAnswer_6 rfl (lv_at hl 2 rfl) ?_
  refine lv_icmp_ne (tgt := 19) hx hb dX3_keptAnswer_7 (by decide) (fun c_3 => ?_) (fun c_3 => ?_)
  · have c_3' : u_2.toInt ≠ k.toInt := i_ne c_3 rfl rfl
    refine lv_iconst (v := (-1)) hx hb dX3_keptAnswer_19 (by decide) ?_
    exact t_iret hB hr hT (Nat.le_of_ble_eq_true rfl) (Nat.le_of_ble_eq_true rfl) dX3_keptAnswer_20 ⟨(-1), rfl, hI, hE, hM⟩
  · have c_3' : u_2.toInt = k.toInt := i_eq c_3 rfl rfl
    refine lv_aload_n hx hb dX3_keptAnswer_10 rfl (lv_at hl 0 rfl) ?_
    obtain ⟨v_4, e_v_4, r_v_4, n_v_4⟩ := hI.f r_h 8
    refine t_get (ci := 3) (v := .ref v_4) hB hT (ro_ci r_h rfl) rfl 8 (by decide) k_161 e_v_4 dX3_keptAnswer_11 ?_
    refine lv_iload_n hx hb dX3_keptAnswer_14 rfl (lv_at hl 1 rfl) ?_
    have i_u_5 : vp_in n 16 := (i_in (n := 16) rfl (by omega) (by omega))
    refine t_iald hB hT (ro_in r_v_4 (by decide)) n_v_4 i_u_5 rfl dX3_keptAnswer_15 ?_
    refine lv_topi (fun u_5 e_u_5 => ?_)
    refine lv_goto (tgt := 20) hx hb dX3_keptAnswer_16 (by decide) ?_
    exact t_iret hB hr hT (Nat.le_of_ble_eq_true rfl) (Nat.le_of_ble_eq_true rfl) dX3_keptAnswer_20 ⟨u_5, rfl, hI, hE, hM⟩
def md_s_answerNewest : Nat → Nat → Bool := fun _ _ => false
set_option maxHeartbeats 4000000 in
set_option maxRecDepth 100000 in
theorem s_answerNewest (l : Launch) (D : va_G) (cI cZ cS cR : ClassId) (N0 : NT) (fr : Int32) (g : GS) (hI : Inv fr g) (h : Nat) (n : Int32) (k : Int32) (r_h : g.1 h = 4) : Ty l D cI cZ cS cR N0 yX3_answerNewest cX3_answerNewest 3 none 0 0 0 [.ref h, .int n, .int k] g (fun v g' => v = none ∧ Inv fr g' ∧ Ex g g' ∧ Sm md_s_answerNewest g g') := by
  refine t_enter (by decide) (Nat.le_of_ble_eq_true rfl) ?_
  intro p e s m args below meth c ls H locs hB hr hin hl hT
  have hx := hB.1
  have hb := hB.2.1
  have hl : lv_has ls 3 [(0, .ref h), (1, .int n), (2, .int k)] := hl
  have hE : Ex g g := Ex.rf
  have hM : Sm md_s_answerNewest g g := Sm.rf
  refine lv_aload_n hx hb dX3_answerNewest_0 rfl (lv_at hl 0 rfl) ?_
  obtain ⟨v_1, e_v_1, l_v_1, u_v_1⟩ := hI.f r_h 5
  refine t_get (ci := 3) (v := .int v_1) hB hT (ro_ci r_h rfl) rfl 5 (by decide) k_158 e_v_1 dX3_answerNewest_1 ?_
  refine lv_if_le (tgt := 34) hx hb dX3_answerNewest_4 (by decide) (fun c_2 => ?_) (fun c_2 => ?_)
  · have c_2' : v_1.toInt ≤ 0 := i_le c_2 rfl (by decide)
    exact t_vret hB hr hT (Nat.le_of_ble_eq_true rfl) (Nat.le_of_ble_eq_true rfl) dX3_answerNewest_34 ⟨rfl, hI, hE, hM⟩
  · have c_2' : 0 < v_1.toInt := i_nle c_2 rfl (by decide)
    refine lv_aload_n hx hb dX3_answerNewest_7 rfl (lv_at hl 0 rfl) ?_
    obtain ⟨v_3, e_v_3, r_v_3, n_v_3⟩ := hI.f r_h 6
    refine t_get (ci := 3) (v := .ref v_3) hB hT (ro_ci r_h rfl) rfl 6 (by decide) k_159 e_v_3 dX3_answerNewest_8 ?_
    refine lv_aload_n hx hb dX3_answerNewest_11 rfl (lv_at hl 0 rfl) ?_
    refine t_get (ci := 3) (v := .int v_1) hB hT (ro_ci r_h rfl) rfl 5 (by decide) k_158 e_v_1 dX3_answerNewest_12 ?_
    refine lv_iconst (v := 1) hx hb dX3_answerNewest_15 (by decide) ?_
    refine lv_isub hx hb dX3_answerNewest_16 ?_
    refine lv_topi (fun z_4 ez_4 => ?_)
    have e_z_4 : z_4.toInt = v_1.toInt - 1 := i_sub ez_4 rfl (by decide) (by omega) (by omega)
    have i_u_5 : vp_in z_4 16 := (i_in (n := 16) rfl (by omega) (by omega))
    refine t_iald hB hT (ro_in r_v_3 (by decide)) n_v_3 i_u_5 rfl dX3_answerNewest_17 ?_
    refine lv_topi (fun u_5 e_u_5 => ?_)
    refine lv_iload_n hx hb dX3_answerNewest_18 rfl (lv_at hl 1 rfl) ?_
    refine lv_icmp_ne (tgt := 34) hx hb dX3_answerNewest_19 (by decide) (fun c_6 => ?_) (fun c_6 => ?_)
    · have c_6' : u_5.toInt ≠ n.toInt := i_ne c_6 rfl rfl
      exact t_vret hB hr hT (Nat.le_of_ble_eq_true rfl) (Nat.le_of_ble_eq_true rfl) dX3_answerNewest_34 ⟨rfl, hI, hE, hM⟩
    · have c_6' : u_5.toInt = n.toInt := i_eq c_6 rfl rfl
      refine lv_aload_n hx hb dX3_answerNewest_22 rfl (lv_at hl 0 rfl) ?_
      obtain ⟨v_7, e_v_7, r_v_7, n_v_7⟩ := hI.f r_h 8
      refine t_get (ci := 3) (v := .ref v_7) hB hT (ro_ci r_h rfl) rfl 8 (by decide) k_161 e_v_7 dX3_answerNewest_23 ?_
      refine lv_aload_n hx hb dX3_answerNewest_26 rfl (lv_at hl 0 rfl) ?_
      refine t_get (ci := 3) (v := .int v_1) hB hT (ro_ci r_h rfl) rfl 5 (by decide) k_158 e_v_1 dX3_answerNewest_27 ?_
      refine lv_iconst (v := 1) hx hb dX3_answerNewest_30 (by decide) ?_
      refine lv_isub hx hb dX3_answerNewest_31 ?_
      refine lv_topi (fun z_8 ez_8 => ?_)
      have e_z_8 : z_8.toInt = v_1.toInt - 1 := i_sub ez_8 rfl (by decide) (by omega) (by omega)
      refine lv_iload_n hx hb dX3_answerNewest_32 rfl (lv_at hl 2 rfl) ?_
      have i_9 : vp_in z_8 16 := (i_in (n := 16) rfl (by omega) (by omega))
      refine t_iast hB hT (ro_in r_v_7 (by decide)) n_v_7 i_9 dX3_answerNewest_33 (fun H locs hT => ?_)
      have hI : Inv fr (sC g v_7 z_8.toNatClampNeg k) := hI.sC (ck r_v_7 trivial)
      have hM : Sm md_s_answerNewest g (sC g v_7 z_8.toNatClampNeg k) := hM
      have hE : Ex g (sC g v_7 z_8.toNatClampNeg k) := hE
      exact t_vret hB hr hT (Nat.le_of_ble_eq_true rfl) (Nat.le_of_ble_eq_true rfl) dX3_answerNewest_34 ⟨rfl, hI, hE, hM⟩
def md_s_valueAt : Nat → Nat → Bool := fun _ _ => false
set_option maxHeartbeats 4000000 in
set_option maxRecDepth 100000 in
theorem s_valueAt (l : Launch) (D : va_G) (cI cZ cS cR : ClassId) (N0 : NT) (fr : Int32) (g : GS) (hI : Inv fr g) (h : Nat) (n : Int32) (k : Int32) (j : Int32) (r_h : g.1 h = 3) (l_n : 0 ≤ n.toInt) (u_n : n.toInt ≤ 7) : Ty l D cI cZ cS cR N0 yX2_valueAt cX2_valueAt 5 (some .int) 0 0 0 [.ref h, .int n, .int k, .int j] g (fun v g' => ∃ (r : Int32), v = some (.int r) ∧ Inv fr g' ∧ Ex g g' ∧ Sm md_s_valueAt g g') := by
  refine t_enter (by decide) (Nat.le_of_ble_eq_true rfl) ?_
  intro p e s m args below meth c ls H locs hB hr hin hl hT
  have hx := hB.1
  have hb := hB.2.1
  have hl : lv_has ls 5 [(0, .ref h), (1, .int n), (2, .int k), (3, .int j)] := hl
  have hE : Ex g g := Ex.rf
  have hM : Sm md_s_valueAt g g := Sm.rf
  refine lv_aload_n hx hb dX2_valueAt_0 rfl (lv_at hl 0 rfl) ?_
  obtain ⟨v_1, e_v_1, r_v_1, n_v_1⟩ := hI.f r_h 2
  refine t_get (ci := 2) (v := .ref v_1) hB hT (ro_ci r_h rfl) rfl 2 (by decide) k_129 e_v_1 dX2_valueAt_1 ?_
  refine lv_iload_n hx hb dX2_valueAt_4 rfl (lv_at hl 1 rfl) ?_
  have i_u_2 : vp_in n 8 := (i_in (n := 8) rfl (by omega) (by omega))
  refine t_iald hB hT (ro_in r_v_1 (by decide)) n_v_1 i_u_2 rfl dX2_valueAt_5 ?_
  refine lv_topi (fun u_2 e_u_2 => ?_)
  refine lv_istore (lv' := [(4, .int u_2), (0, .ref h), (1, .int n), (2, .int k), (3, .int j)]) hx hb dX2_valueAt_6 hl (by decide) rfl (fun ls hl => ?_)
  refine lv_iload hx hb dX2_valueAt_8 (lv_at hl 0 rfl) ?_
  refine lv_sipush (v := 1000) hx hb dX2_valueAt_10 (by decide) ?_
  refine lv_icmp_ne (tgt := 18) hx hb dX2_valueAt_13 (by decide) (fun c_3 => ?_) (fun c_3 => ?_)
  · have c_3' : u_2.toInt ≠ 1000 := i_ne c_3 rfl (by decide)
    refine lv_iload hx hb dX2_valueAt_18 (lv_at hl 0 rfl) ?_
    refine lv_sipush (v := 1001) hx hb dX2_valueAt_20 (by decide) ?_
    refine lv_icmp_ne (tgt := 36) hx hb dX2_valueAt_23 (by decide) (fun c_4 => ?_) (fun c_4 => ?_)
    · have c_4' : u_2.toInt ≠ 1001 := i_ne c_4 rfl (by decide)
      refine lv_iload hx hb dX2_valueAt_36 (lv_at hl 0 rfl) ?_
      exact t_iret hB hr hT (Nat.le_of_ble_eq_true rfl) (Nat.le_of_ble_eq_true rfl) dX2_valueAt_38 ⟨u_2, rfl, hI, hE, hM⟩
    · have c_4' : u_2.toInt = 1001 := i_eq c_4 rfl (by decide)
      refine lv_iload_n hx hb dX2_valueAt_26 rfl (lv_at hl 4 rfl) ?_
      refine lv_if_le (tgt := 34) hx hb dX2_valueAt_27 (by decide) (fun c_5 => ?_) (fun c_5 => ?_)
      · have c_5' : j.toInt ≤ 0 := i_le c_5 rfl (by decide)
        refine lv_iconst (v := 0) hx hb dX2_valueAt_34 (by decide) ?_
        exact t_iret hB hr hT (Nat.le_of_ble_eq_true rfl) (Nat.le_of_ble_eq_true rfl) dX2_valueAt_35 ⟨0, rfl, hI, hE, hM⟩
      · have c_5' : 0 < j.toInt := i_nle c_5 rfl (by decide)
        refine lv_iload_n hx hb dX2_valueAt_30 rfl (lv_at hl 4 rfl) ?_
        refine lv_goto (tgt := 35) hx hb dX2_valueAt_31 (by decide) ?_
        exact t_iret hB hr hT (Nat.le_of_ble_eq_true rfl) (Nat.le_of_ble_eq_true rfl) dX2_valueAt_35 ⟨j, rfl, hI, hE, hM⟩
  · have c_3' : u_2.toInt = 1000 := i_eq c_3 rfl (by decide)
    refine lv_iload_n hx hb dX2_valueAt_16 rfl (lv_at hl 3 rfl) ?_
    exact t_iret hB hr hT (Nat.le_of_ble_eq_true rfl) (Nat.le_of_ble_eq_true rfl) dX2_valueAt_17 ⟨k, rfl, hI, hE, hM⟩
def md_s_isHeldBack : Nat → Nat → Bool := fun _ _ => false
set_option maxHeartbeats 4000000 in
set_option maxRecDepth 100000 in
theorem s_isHeldBack (l : Launch) (D : va_G) (cI cZ cS cR : ClassId) (N0 : NT) (fr : Int32) (g : GS) (hI : Inv fr g) (h : Nat) (n : Int32) (k : Int32) (r_h : g.1 h = 4) (l_n : 0 ≤ n.toInt) (u_n : n.toInt ≤ 7) : Ty l D cI cZ cS cR N0 yX3_isHeldBack cX3_isHeldBack 6 (some .boolean) 0 0 0 [.ref h, .int n, .int k] g (fun v g' => ∃ (r : Int32), v = some (.int r) ∧ Inv fr g' ∧ Ex g g' ∧ Sm md_s_isHeldBack g g' ∧ (r = 1 ∨ r = 0)) := by
  refine t_enter (by decide) (Nat.le_of_ble_eq_true rfl) ?_
  intro p e s m args below meth c ls H locs hB hr hin hl hT
  have hx := hB.1
  have hb := hB.2.1
  have hl : lv_has ls 6 [(0, .ref h), (1, .int n), (2, .int k)] := hl
  have hE : Ex g g := Ex.rf
  have hM : Sm md_s_isHeldBack g g := Sm.rf
  refine lv_aload_n hx hb dX3_isHeldBack_0 rfl (lv_at hl 0 rfl) ?_
  obtain ⟨v_1, e_v_1, r_v_1⟩ := hI.f r_h 0
  refine t_get (ci := 3) (v := .ref v_1) hB hT (ro_ci r_h rfl) rfl 0 (by decide) k_143 e_v_1 dX3_isHeldBack_1 ?_
  obtain ⟨v_2, e_v_2, r_v_2, n_v_2⟩ := hI.f r_v_1 0
  refine t_get (ci := 2) (v := .ref v_2) hB hT (ro_ci r_v_1 rfl) rfl 0 (by decide) k_124 e_v_2 dX3_isHeldBack_4 ?_
  refine lv_iload_n hx hb dX3_isHeldBack_7 rfl (lv_at hl 1 rfl) ?_
  have i_u_3 : vp_in n 8 := (i_in (n := 8) rfl (by omega) (by omega))
  refine t_iald hB hT (ro_in r_v_2 (by decide)) n_v_2 i_u_3 rfl dX3_isHeldBack_8 ?_
  refine lv_topi (fun u_3 e_u_3 => ?_)
  refine lv_istore_n (lv' := [(3, .int u_3), (0, .ref h), (1, .int n), (2, .int k)]) hx hb dX3_isHeldBack_9 rfl hl (by decide) rfl (fun ls hl => ?_)
  refine lv_iload_n hx hb dX3_isHeldBack_10 rfl (lv_at hl 0 rfl) ?_
  refine lv_bipush (v := 10) hx hb dX3_isHeldBack_11 (by decide) ?_
  refine lv_imul hx hb dX3_isHeldBack_13 ?_
  refine lv_topi (fun z_4 ez_4 => ?_)
  refine lv_aload_n hx hb dX3_isHeldBack_14 rfl (lv_at hl 1 rfl) ?_
  refine t_get (ci := 3) (v := .ref v_1) hB hT (ro_ci r_h rfl) rfl 0 (by decide) k_143 e_v_1 dX3_isHeldBack_15 ?_
  obtain ⟨v_5, e_v_5, r_v_5, n_v_5⟩ := hI.f r_v_1 1
  refine t_get (ci := 2) (v := .ref v_5) hB hT (ro_ci r_v_1 rfl) rfl 1 (by decide) k_128 e_v_5 dX3_isHeldBack_18 ?_
  refine lv_iload_n hx hb dX3_isHeldBack_21 rfl (lv_at hl 2 rfl) ?_
  have i_u_6 : vp_in n 8 := (i_in (n := 8) rfl (by omega) (by omega))
  refine t_iald hB hT (ro_in r_v_5 (by decide)) n_v_5 i_u_6 rfl dX3_isHeldBack_22 ?_
  have c_u_6 := hI.c r_v_5 n_v_5 (i_cl i_u_6)
  refine lv_topi (fun u_6 e_u_6 => ?_)
  obtain ⟨l_u_6, u_u_6⟩ := c_u_6
  rw [← e_u_6] at l_u_6 u_u_6
  refine lv_iadd hx hb dX3_isHeldBack_23 ?_
  refine lv_topi (fun z_7 ez_7 => ?_)
  refine lv_sipush (v := 1000) hx hb dX3_isHeldBack_24 (by decide) ?_
  refine lv_imul hx hb dX3_isHeldBack_27 ?_
  refine lv_topi (fun z_8 ez_8 => ?_)
  refine lv_iload_n hx hb dX3_isHeldBack_28 rfl (lv_at hl 3 rfl) ?_
  refine lv_iadd hx hb dX3_isHeldBack_29 ?_
  refine lv_topi (fun z_9 ez_9 => ?_)
  refine lv_istore (lv' := [(4, .int z_9), (3, .int u_3), (0, .ref h), (1, .int n), (2, .int k)]) hx hb dX3_isHeldBack_30 hl (by decide) rfl (fun ls hl => ?_)
  refine lv_aload_n hx hb dX3_isHeldBack_32 rfl (lv_at hl 2 rfl) ?_
  obtain ⟨v_10, e_v_10, r_v_10, n_v_10⟩ := hI.f r_h 12
  refine t_get (ci := 3) (v := .ref v_10) hB hT (ro_ci r_h rfl) rfl 12 (by decide) k_165 e_v_10 dX3_isHeldBack_33 ?_
  refine lv_iload_n hx hb dX3_isHeldBack_36 rfl (lv_at hl 3 rfl) ?_
  refine lv_iload hx hb dX3_isHeldBack_37 (lv_at hl 0 rfl) ?_
  have i_11 : vp_in n 8 := (i_in (n := 8) rfl (by omega) (by omega))
  refine t_iast hB hT (ro_in r_v_10 (by decide)) n_v_10 i_11 dX3_isHeldBack_39 (fun H locs hT => ?_)
  have hI : Inv fr (sC g v_10 n.toNatClampNeg z_9) := hI.sC (ck r_v_10 trivial)
  have hM : Sm md_s_isHeldBack g (sC g v_10 n.toNatClampNeg z_9) := hM
  have hE : Ex g (sC g v_10 n.toNatClampNeg z_9) := hE
  refine lv_iload_n hx hb dX3_isHeldBack_40 rfl (lv_at hl 1 rfl) ?_
  refine lv_if_eq (tgt := 55) hx hb dX3_isHeldBack_41 (by decide) (fun c_12 => ?_) (fun c_12 => ?_)
  · have c_12' : u_3.toInt = 0 := i_eq c_12 rfl (by decide)
    refine lv_iconst (v := 1) hx hb dX3_isHeldBack_55 (by decide) ?_
    refine lv_goto (tgt := 60) hx hb dX3_isHeldBack_56 (by decide) ?_
    refine lv_istore (lv' := [(5, .int 1), (4, .int z_9), (3, .int u_3), (0, .ref h), (1, .int n), (2, .int k)]) hx hb dX3_isHeldBack_60 hl (by decide) rfl (fun ls hl => ?_)
    refine lv_iload hx hb dX3_isHeldBack_62 (lv_at hl 0 rfl) ?_
    refine lv_if_eq (tgt := 89) hx hb dX3_isHeldBack_64 (by decide) (fun c_ => absurd c_ (by decide)) (fun c_ => ?_)
    refine lv_aload_n hx hb dX3_isHeldBack_67 rfl (lv_at hl 3 rfl) ?_
    obtain ⟨v_13, e_v_13, l_v_13, u_v_13⟩ := hI.f r_h 14
    refine t_get (ci := 3) (v := .int v_13) hB hT (ro_ci r_h rfl) rfl 14 (by decide) k_167 e_v_13 dX3_isHeldBack_68 ?_
    refine lv_if_eq (tgt := 89) hx hb dX3_isHeldBack_71 (by decide) (fun c_14 => ?_) (fun c_14 => ?_)
    · have c_14' : v_13.toInt = 0 := i_eq c_14 rfl (by decide)
      refine lv_iconst (v := 0) hx hb dX3_isHeldBack_89 (by decide) ?_
      exact t_zret hB hr rfl hT (Nat.le_of_ble_eq_true rfl) (Nat.le_of_ble_eq_true rfl) dX3_isHeldBack_90 ⟨0, rfl, hI, hE, hM, (Or.inr rfl)⟩
    · have c_14' : v_13.toInt ≠ 0 := i_ne c_14 rfl (by decide)
      refine lv_aload_n hx hb dX3_isHeldBack_74 rfl (lv_at hl 3 rfl) ?_
      obtain ⟨v_15, e_v_15, r_v_15, n_v_15⟩ := hI.f r_h 13
      refine t_get (ci := 3) (v := .ref v_15) hB hT (ro_ci r_h rfl) rfl 13 (by decide) k_166 e_v_15 dX3_isHeldBack_75 ?_
      refine lv_iload_n hx hb dX3_isHeldBack_78 rfl (lv_at hl 4 rfl) ?_
      have i_u_16 : vp_in n 8 := (i_in (n := 8) rfl (by omega) (by omega))
      refine t_iald hB hT (ro_in r_v_15 (by decide)) n_v_15 i_u_16 rfl dX3_isHeldBack_79 ?_
      refine lv_topi (fun u_16 e_u_16 => ?_)
      refine lv_iload hx hb dX3_isHeldBack_80 (lv_at hl 1 rfl) ?_
      refine lv_icmp_ne (tgt := 89) hx hb dX3_isHeldBack_82 (by decide) (fun c_17 => ?_) (fun c_17 => ?_)
      · have c_17' : u_16.toInt ≠ z_9.toInt := i_ne c_17 rfl rfl
        refine lv_iconst (v := 0) hx hb dX3_isHeldBack_89 (by decide) ?_
        exact t_zret hB hr rfl hT (Nat.le_of_ble_eq_true rfl) (Nat.le_of_ble_eq_true rfl) dX3_isHeldBack_90 ⟨0, rfl, hI, hE, hM, (Or.inr rfl)⟩
      · have c_17' : u_16.toInt = z_9.toInt := i_eq c_17 rfl rfl
        refine lv_iconst (v := 1) hx hb dX3_isHeldBack_85 (by decide) ?_
        refine lv_goto (tgt := 90) hx hb dX3_isHeldBack_86 (by decide) ?_
        exact t_zret hB hr rfl hT (Nat.le_of_ble_eq_true rfl) (Nat.le_of_ble_eq_true rfl) dX3_isHeldBack_90 ⟨1, rfl, hI, hE, hM, (Or.inl rfl)⟩
  · have c_12' : u_3.toInt ≠ 0 := i_ne c_12 rfl (by decide)
    refine lv_iload_n hx hb dX3_isHeldBack_44 rfl (lv_at hl 1 rfl) ?_
    refine lv_iconst (v := 2) hx hb dX3_isHeldBack_45 (by decide) ?_
    refine lv_icmp_eq (tgt := 55) hx hb dX3_isHeldBack_46 (by decide) (fun c_18 => ?_) (fun c_18 => ?_)
    · have c_18' : u_3.toInt = 2 := i_eq c_18 rfl (by decide)
      refine lv_iconst (v := 1) hx hb dX3_isHeldBack_55 (by decide) ?_
      refine lv_goto (tgt := 60) hx hb dX3_isHeldBack_56 (by decide) ?_
      refine lv_istore (lv' := [(5, .int 1), (4, .int z_9), (3, .int u_3), (0, .ref h), (1, .int n), (2, .int k)]) hx hb dX3_isHeldBack_60 hl (by decide) rfl (fun ls hl => ?_)
      refine lv_iload hx hb dX3_isHeldBack_62 (lv_at hl 0 rfl) ?_
      refine lv_if_eq (tgt := 89) hx hb dX3_isHeldBack_64 (by decide) (fun c_ => absurd c_ (by decide)) (fun c_ => ?_)
      refine lv_aload_n hx hb dX3_isHeldBack_67 rfl (lv_at hl 3 rfl) ?_
      obtain ⟨v_19, e_v_19, l_v_19, u_v_19⟩ := hI.f r_h 14
      refine t_get (ci := 3) (v := .int v_19) hB hT (ro_ci r_h rfl) rfl 14 (by decide) k_167 e_v_19 dX3_isHeldBack_68 ?_
      refine lv_if_eq (tgt := 89) hx hb dX3_isHeldBack_71 (by decide) (fun c_20 => ?_) (fun c_20 => ?_)
      · have c_20' : v_19.toInt = 0 := i_eq c_20 rfl (by decide)
        refine lv_iconst (v := 0) hx hb dX3_isHeldBack_89 (by decide) ?_
        exact t_zret hB hr rfl hT (Nat.le_of_ble_eq_true rfl) (Nat.le_of_ble_eq_true rfl) dX3_isHeldBack_90 ⟨0, rfl, hI, hE, hM, (Or.inr rfl)⟩
      · have c_20' : v_19.toInt ≠ 0 := i_ne c_20 rfl (by decide)
        refine lv_aload_n hx hb dX3_isHeldBack_74 rfl (lv_at hl 3 rfl) ?_
        obtain ⟨v_21, e_v_21, r_v_21, n_v_21⟩ := hI.f r_h 13
        refine t_get (ci := 3) (v := .ref v_21) hB hT (ro_ci r_h rfl) rfl 13 (by decide) k_166 e_v_21 dX3_isHeldBack_75 ?_
        refine lv_iload_n hx hb dX3_isHeldBack_78 rfl (lv_at hl 4 rfl) ?_
        have i_u_22 : vp_in n 8 := (i_in (n := 8) rfl (by omega) (by omega))
        refine t_iald hB hT (ro_in r_v_21 (by decide)) n_v_21 i_u_22 rfl dX3_isHeldBack_79 ?_
        refine lv_topi (fun u_22 e_u_22 => ?_)
        refine lv_iload hx hb dX3_isHeldBack_80 (lv_at hl 1 rfl) ?_
        refine lv_icmp_ne (tgt := 89) hx hb dX3_isHeldBack_82 (by decide) (fun c_23 => ?_) (fun c_23 => ?_)
        · have c_23' : u_22.toInt ≠ z_9.toInt := i_ne c_23 rfl rfl
          refine lv_iconst (v := 0) hx hb dX3_isHeldBack_89 (by decide) ?_
          exact t_zret hB hr rfl hT (Nat.le_of_ble_eq_true rfl) (Nat.le_of_ble_eq_true rfl) dX3_isHeldBack_90 ⟨0, rfl, hI, hE, hM, (Or.inr rfl)⟩
        · have c_23' : u_22.toInt = z_9.toInt := i_eq c_23 rfl rfl
          refine lv_iconst (v := 1) hx hb dX3_isHeldBack_85 (by decide) ?_
          refine lv_goto (tgt := 90) hx hb dX3_isHeldBack_86 (by decide) ?_
          exact t_zret hB hr rfl hT (Nat.le_of_ble_eq_true rfl) (Nat.le_of_ble_eq_true rfl) dX3_isHeldBack_90 ⟨1, rfl, hI, hE, hM, (Or.inl rfl)⟩
    · have c_18' : u_3.toInt ≠ 2 := i_ne c_18 rfl (by decide)
      refine lv_iload_n hx hb dX3_isHeldBack_49 rfl (lv_at hl 1 rfl) ?_
      refine lv_bipush (v := 6) hx hb dX3_isHeldBack_50 (by decide) ?_
      refine lv_icmp_ne (tgt := 59) hx hb dX3_isHeldBack_52 (by decide) (fun c_24 => ?_) (fun c_24 => ?_)
      · have c_24' : u_3.toInt ≠ 6 := i_ne c_24 rfl (by decide)
        refine lv_iconst (v := 0) hx hb dX3_isHeldBack_59 (by decide) ?_
        refine lv_istore (lv' := [(5, .int 0), (4, .int z_9), (3, .int u_3), (0, .ref h), (1, .int n), (2, .int k)]) hx hb dX3_isHeldBack_60 hl (by decide) rfl (fun ls hl => ?_)
        refine lv_iload hx hb dX3_isHeldBack_62 (lv_at hl 0 rfl) ?_
        refine lv_if_eq (tgt := 89) hx hb dX3_isHeldBack_64 (by decide) (fun c_ => ?_) (fun c_ => absurd (by decide) c_)
        refine lv_iconst (v := 0) hx hb dX3_isHeldBack_89 (by decide) ?_
        exact t_zret hB hr rfl hT (Nat.le_of_ble_eq_true rfl) (Nat.le_of_ble_eq_true rfl) dX3_isHeldBack_90 ⟨0, rfl, hI, hE, hM, (Or.inr rfl)⟩
      · have c_24' : u_3.toInt = 6 := i_eq c_24 rfl (by decide)
        refine lv_iconst (v := 1) hx hb dX3_isHeldBack_55 (by decide) ?_
        refine lv_goto (tgt := 60) hx hb dX3_isHeldBack_56 (by decide) ?_
        refine lv_istore (lv' := [(5, .int 1), (4, .int z_9), (3, .int u_3), (0, .ref h), (1, .int n), (2, .int k)]) hx hb dX3_isHeldBack_60 hl (by decide) rfl (fun ls hl => ?_)
        refine lv_iload hx hb dX3_isHeldBack_62 (lv_at hl 0 rfl) ?_
        refine lv_if_eq (tgt := 89) hx hb dX3_isHeldBack_64 (by decide) (fun c_ => absurd c_ (by decide)) (fun c_ => ?_)
        refine lv_aload_n hx hb dX3_isHeldBack_67 rfl (lv_at hl 3 rfl) ?_
        obtain ⟨v_25, e_v_25, l_v_25, u_v_25⟩ := hI.f r_h 14
        refine t_get (ci := 3) (v := .int v_25) hB hT (ro_ci r_h rfl) rfl 14 (by decide) k_167 e_v_25 dX3_isHeldBack_68 ?_
        refine lv_if_eq (tgt := 89) hx hb dX3_isHeldBack_71 (by decide) (fun c_26 => ?_) (fun c_26 => ?_)
        · have c_26' : v_25.toInt = 0 := i_eq c_26 rfl (by decide)
          refine lv_iconst (v := 0) hx hb dX3_isHeldBack_89 (by decide) ?_
          exact t_zret hB hr rfl hT (Nat.le_of_ble_eq_true rfl) (Nat.le_of_ble_eq_true rfl) dX3_isHeldBack_90 ⟨0, rfl, hI, hE, hM, (Or.inr rfl)⟩
        · have c_26' : v_25.toInt ≠ 0 := i_ne c_26 rfl (by decide)
          refine lv_aload_n hx hb dX3_isHeldBack_74 rfl (lv_at hl 3 rfl) ?_
          obtain ⟨v_27, e_v_27, r_v_27, n_v_27⟩ := hI.f r_h 13
          refine t_get (ci := 3) (v := .ref v_27) hB hT (ro_ci r_h rfl) rfl 13 (by decide) k_166 e_v_27 dX3_isHeldBack_75 ?_
          refine lv_iload_n hx hb dX3_isHeldBack_78 rfl (lv_at hl 4 rfl) ?_
          have i_u_28 : vp_in n 8 := (i_in (n := 8) rfl (by omega) (by omega))
          refine t_iald hB hT (ro_in r_v_27 (by decide)) n_v_27 i_u_28 rfl dX3_isHeldBack_79 ?_
          refine lv_topi (fun u_28 e_u_28 => ?_)
          refine lv_iload hx hb dX3_isHeldBack_80 (lv_at hl 1 rfl) ?_
          refine lv_icmp_ne (tgt := 89) hx hb dX3_isHeldBack_82 (by decide) (fun c_29 => ?_) (fun c_29 => ?_)
          · have c_29' : u_28.toInt ≠ z_9.toInt := i_ne c_29 rfl rfl
            refine lv_iconst (v := 0) hx hb dX3_isHeldBack_89 (by decide) ?_
            exact t_zret hB hr rfl hT (Nat.le_of_ble_eq_true rfl) (Nat.le_of_ble_eq_true rfl) dX3_isHeldBack_90 ⟨0, rfl, hI, hE, hM, (Or.inr rfl)⟩
          · have c_29' : u_28.toInt = z_9.toInt := i_eq c_29 rfl rfl
            refine lv_iconst (v := 1) hx hb dX3_isHeldBack_85 (by decide) ?_
            refine lv_goto (tgt := 90) hx hb dX3_isHeldBack_86 (by decide) ?_
            exact t_zret hB hr rfl hT (Nat.le_of_ble_eq_true rfl) (Nat.le_of_ble_eq_true rfl) dX3_isHeldBack_90 ⟨1, rfl, hI, hE, hM, (Or.inl rfl)⟩
def md_s_passesOver : Nat → Nat → Bool := fun _ _ => false
set_option maxHeartbeats 4000000 in
set_option maxRecDepth 100000 in
theorem s_passesOver (l : Launch) (D : va_G) (cI cZ cS cR : ClassId) (N0 : NT) (fr : Int32) (g : GS) (hI : Inv fr g) (h : Nat) (n : Int32) (k : Int32) (r_h : g.1 h = 4) (l_n : 0 ≤ n.toInt) (u_n : n.toInt ≤ 7) : Ty l D cI cZ cS cR N0 yX3_passesOver cX3_passesOver 4 (some .boolean) 0 0 0 [.ref h, .int n, .int k] g (fun v g' => ∃ (r : Int32), v = some (.int r) ∧ Inv fr g' ∧ Ex g g' ∧ Sm md_s_passesOver g g' ∧ (r = 1 ∨ r = 0)) := by
  refine t_enter (by decide) (Nat.le_of_ble_eq_true rfl) ?_
  intro p e s m args below meth c ls H locs hB hr hin hl hT
  have hx := hB.1
  have hb := hB.2.1
  have hl : lv_has ls 4 [(0, .ref h), (1, .int n), (2, .int k)] := hl
  have hE : Ex g g := Ex.rf
  have hM : Sm md_s_passesOver g g := Sm.rf
  refine lv_aload_n hx hb dX3_passesOver_0 rfl (lv_at hl 0 rfl) ?_
  obtain ⟨v_1, e_v_1, r_v_1⟩ := hI.f r_h 0
  refine t_get (ci := 3) (v := .ref v_1) hB hT (ro_ci r_h rfl) rfl 0 (by decide) k_143 e_v_1 dX3_passesOver_1 ?_
  obtain ⟨v_2, e_v_2, r_v_2, n_v_2⟩ := hI.f r_v_1 1
  refine t_get (ci := 2) (v := .ref v_2) hB hT (ro_ci r_v_1 rfl) rfl 1 (by decide) k_128 e_v_2 dX3_passesOver_4 ?_
  refine lv_iload_n hx hb dX3_passesOver_7 rfl (lv_at hl 1 rfl) ?_
  have i_u_3 : vp_in n 8 := (i_in (n := 8) rfl (by omega) (by omega))
  refine t_iald hB hT (ro_in r_v_2 (by decide)) n_v_2 i_u_3 rfl dX3_passesOver_8 ?_
  have c_u_3 := hI.c r_v_2 n_v_2 (i_cl i_u_3)
  refine lv_topi (fun u_3 e_u_3 => ?_)
  obtain ⟨l_u_3, u_u_3⟩ := c_u_3
  rw [← e_u_3] at l_u_3 u_u_3
  refine lv_istore_n (lv' := [(3, .int u_3), (0, .ref h), (1, .int n), (2, .int k)]) hx hb dX3_passesOver_9 rfl hl (by decide) rfl (fun ls hl => ?_)
  refine lv_aload_n hx hb dX3_passesOver_10 rfl (lv_at hl 1 rfl) ?_
  refine t_get (ci := 3) (v := .ref v_1) hB hT (ro_ci r_h rfl) rfl 0 (by decide) k_143 e_v_1 dX3_passesOver_11 ?_
  obtain ⟨v_4, e_v_4, r_v_4, n_v_4⟩ := hI.f r_v_1 0
  refine t_get (ci := 2) (v := .ref v_4) hB hT (ro_ci r_v_1 rfl) rfl 0 (by decide) k_124 e_v_4 dX3_passesOver_14 ?_
  refine lv_iload_n hx hb dX3_passesOver_17 rfl (lv_at hl 2 rfl) ?_
  have i_u_5 : vp_in n 8 := (i_in (n := 8) rfl (by omega) (by omega))
  refine t_iald hB hT (ro_in r_v_4 (by decide)) n_v_4 i_u_5 rfl dX3_passesOver_18 ?_
  refine lv_topi (fun u_5 e_u_5 => ?_)
  refine lv_bipush (v := 7) hx hb dX3_passesOver_19 (by decide) ?_
  refine lv_icmp_ne (tgt := 43) hx hb dX3_passesOver_21 (by decide) (fun c_6 => ?_) (fun c_6 => ?_)
  · have c_6' : u_5.toInt ≠ 7 := i_ne c_6 rfl (by decide)
    refine lv_iconst (v := 0) hx hb dX3_passesOver_43 (by decide) ?_
    exact t_zret hB hr rfl hT (Nat.le_of_ble_eq_true rfl) (Nat.le_of_ble_eq_true rfl) dX3_passesOver_44 ⟨0, rfl, hI, hE, hM, (Or.inr rfl)⟩
  · have c_6' : u_5.toInt = 7 := i_eq c_6 rfl (by decide)
    refine lv_iload_n hx hb dX3_passesOver_24 rfl (lv_at hl 0 rfl) ?_
    refine lv_iconst (v := 4) hx hb dX3_passesOver_25 (by decide) ?_
    refine lv_icmp_ge (tgt := 43) hx hb dX3_passesOver_26 (by decide) (fun c_7 => ?_) (fun c_7 => ?_)
    · have c_7' : 4 ≤ u_3.toInt := i_le c_7 (by decide) rfl
      refine lv_iconst (v := 0) hx hb dX3_passesOver_43 (by decide) ?_
      exact t_zret hB hr rfl hT (Nat.le_of_ble_eq_true rfl) (Nat.le_of_ble_eq_true rfl) dX3_passesOver_44 ⟨0, rfl, hI, hE, hM, (Or.inr rfl)⟩
    · have c_7' : u_3.toInt < 4 := i_nle c_7 (by decide) rfl
      refine lv_aload_n hx hb dX3_passesOver_29 rfl (lv_at hl 1 rfl) ?_
      obtain ⟨v_8, e_v_8, r_v_8, n_v_8⟩ := hI.f r_h 1
      refine t_get (ci := 3) (v := .ref v_8) hB hT (ro_ci r_h rfl) rfl 1 (by decide) k_146 e_v_8 dX3_passesOver_30 ?_
      refine lv_iload_n hx hb dX3_passesOver_33 rfl (lv_at hl 0 rfl) ?_
      have i_u_9 : vp_in u_3 4 := (i_in (n := 4) rfl (by omega) (by omega))
      refine t_iald hB hT (ro_in r_v_8 (by decide)) n_v_8 i_u_9 rfl dX3_passesOver_34 ?_
      refine lv_topi (fun u_9 e_u_9 => ?_)
      refine lv_iload_n hx hb dX3_passesOver_35 rfl (lv_at hl 3 rfl) ?_
      refine lv_icmp_eq (tgt := 43) hx hb dX3_passesOver_36 (by decide) (fun c_10 => ?_) (fun c_10 => ?_)
      · have c_10' : u_9.toInt = k.toInt := i_eq c_10 rfl rfl
        refine lv_iconst (v := 0) hx hb dX3_passesOver_43 (by decide) ?_
        exact t_zret hB hr rfl hT (Nat.le_of_ble_eq_true rfl) (Nat.le_of_ble_eq_true rfl) dX3_passesOver_44 ⟨0, rfl, hI, hE, hM, (Or.inr rfl)⟩
      · have c_10' : u_9.toInt ≠ k.toInt := i_ne c_10 rfl rfl
        refine lv_iconst (v := 1) hx hb dX3_passesOver_39 (by decide) ?_
        refine lv_goto (tgt := 44) hx hb dX3_passesOver_40 (by decide) ?_
        exact t_zret hB hr rfl hT (Nat.le_of_ble_eq_true rfl) (Nat.le_of_ble_eq_true rfl) dX3_passesOver_44 ⟨1, rfl, hI, hE, hM, (Or.inl rfl)⟩
def md_s_pappend : Nat → Nat → Bool := fun r k => (r == 3 && k == 3)
set_option maxHeartbeats 4000000 in
set_option maxRecDepth 100000 in
theorem s_pappend (l : Launch) (D : va_G) (cI cZ cS cR : ClassId) (N0 : NT) (fr : Int32) (g : GS) (hI : Inv fr g) (h : Nat) (n : Int32) (k : Int32) (j : Int32) (r_h : g.1 h = 3) (l_k : 0 ≤ k.toInt) (u_k : k.toInt ≤ 5) : Ty l D cI cZ cS cR N0 yX2_append cX2_append 4 none 0 0 0 [.ref h, .int n, .int k, .int j] g (fun v g' => v = none ∧ Inv fr g' ∧ Ex g g' ∧ Sm md_s_pappend g g') := by
  refine t_enter (by decide) (Nat.le_of_ble_eq_true rfl) ?_
  intro p e s m args below meth c ls H locs hB hr hin hl hT
  have hx := hB.1
  have hb := hB.2.1
  have hl : lv_has ls 4 [(0, .ref h), (1, .int n), (2, .int k), (3, .int j)] := hl
  have hE : Ex g g := Ex.rf
  have hM : Sm md_s_pappend g g := Sm.rf
  refine lv_aload_n hx hb dX2_append_0 rfl (lv_at hl 0 rfl) ?_
  obtain ⟨v_1, e_v_1, l_v_1, u_v_1⟩ := hI.f r_h 3
  refine t_get (ci := 2) (v := .int v_1) hB hT (ro_ci r_h rfl) rfl 3 (by decide) k_131 e_v_1 dX2_append_1 ?_
  refine lv_bipush (v := 8) hx hb dX2_append_4 (by decide) ?_
  refine lv_icmp_ge (tgt := 49) hx hb dX2_append_6 (by decide) (fun c_2 => ?_) (fun c_2 => ?_)
  · have c_2' : 8 ≤ v_1.toInt := i_le c_2 (by decide) rfl
    exact t_vret hB hr hT (Nat.le_of_ble_eq_true rfl) (Nat.le_of_ble_eq_true rfl) dX2_append_49 ⟨rfl, hI, hE, hM⟩
  · have c_2' : v_1.toInt < 8 := i_nle c_2 (by decide) rfl
    refine lv_aload_n hx hb dX2_append_9 rfl (lv_at hl 0 rfl) ?_
    obtain ⟨v_3, e_v_3, r_v_3, n_v_3⟩ := hI.f r_h 0
    refine t_get (ci := 2) (v := .ref v_3) hB hT (ro_ci r_h rfl) rfl 0 (by decide) k_121 e_v_3 dX2_append_10 ?_
    refine lv_aload_n hx hb dX2_append_13 rfl (lv_at hl 0 rfl) ?_
    refine t_get (ci := 2) (v := .int v_1) hB hT (ro_ci r_h rfl) rfl 3 (by decide) k_131 e_v_1 dX2_append_14 ?_
    refine lv_iload_n hx hb dX2_append_17 rfl (lv_at hl 1 rfl) ?_
    have i_4 : vp_in v_1 8 := (i_in (n := 8) rfl (by omega) (by omega))
    refine t_iast hB hT (ro_in r_v_3 (by decide)) n_v_3 i_4 dX2_append_18 (fun H locs hT => ?_)
    have hI : Inv fr (sC g v_3 v_1.toNatClampNeg n) := hI.sC (ck r_v_3 trivial)
    have hM : Sm md_s_pappend g (sC g v_3 v_1.toNatClampNeg n) := hM
    have hE : Ex g (sC g v_3 v_1.toNatClampNeg n) := hE
    refine lv_aload_n hx hb dX2_append_19 rfl (lv_at hl 0 rfl) ?_
    obtain ⟨v_5, e_v_5, r_v_5, n_v_5⟩ := hI.f r_h 1
    refine t_get (ci := 2) (v := .ref v_5) hB hT (ro_ci r_h rfl) rfl 1 (by decide) k_125 e_v_5 dX2_append_20 ?_
    refine lv_aload_n hx hb dX2_append_23 rfl (lv_at hl 0 rfl) ?_
    refine t_get (ci := 2) (v := .int v_1) hB hT (ro_ci r_h rfl) rfl 3 (by decide) k_131 e_v_1 dX2_append_24 ?_
    refine lv_iload_n hx hb dX2_append_27 rfl (lv_at hl 2 rfl) ?_
    have i_6 : vp_in v_1 8 := (i_in (n := 8) rfl (by omega) (by omega))
    refine t_iast hB hT (ro_in r_v_5 (by decide)) n_v_5 i_6 dX2_append_28 (fun H locs hT => ?_)
    have hI : Inv fr (sC (sC g v_3 v_1.toNatClampNeg n) v_5 v_1.toNatClampNeg k) := hI.sC (ck r_v_5 ⟨by omega, by omega⟩)
    have hM : Sm md_s_pappend g (sC (sC g v_3 v_1.toNatClampNeg n) v_5 v_1.toNatClampNeg k) := hM
    have hE : Ex g (sC (sC g v_3 v_1.toNatClampNeg n) v_5 v_1.toNatClampNeg k) := hE
    refine lv_aload_n hx hb dX2_append_29 rfl (lv_at hl 0 rfl) ?_
    obtain ⟨v_7, e_v_7, r_v_7, n_v_7⟩ := hI.f r_h 2
    refine t_get (ci := 2) (v := .ref v_7) hB hT (ro_ci r_h rfl) rfl 2 (by decide) k_129 e_v_7 dX2_append_30 ?_
    refine lv_aload_n hx hb dX2_append_33 rfl (lv_at hl 0 rfl) ?_
    refine t_get (ci := 2) (v := .int v_1) hB hT (ro_ci r_h rfl) rfl 3 (by decide) k_131 e_v_1 dX2_append_34 ?_
    refine lv_iload_n hx hb dX2_append_37 rfl (lv_at hl 3 rfl) ?_
    have i_8 : vp_in v_1 8 := (i_in (n := 8) rfl (by omega) (by omega))
    refine t_iast hB hT (ro_in r_v_7 (by decide)) n_v_7 i_8 dX2_append_38 (fun H locs hT => ?_)
    have hI : Inv fr (sC (sC (sC g v_3 v_1.toNatClampNeg n) v_5 v_1.toNatClampNeg k) v_7 v_1.toNatClampNeg j) := hI.sC (ck r_v_7 trivial)
    have hM : Sm md_s_pappend g (sC (sC (sC g v_3 v_1.toNatClampNeg n) v_5 v_1.toNatClampNeg k) v_7 v_1.toNatClampNeg j) := hM
    have hE : Ex g (sC (sC (sC g v_3 v_1.toNatClampNeg n) v_5 v_1.toNatClampNeg k) v_7 v_1.toNatClampNeg j) := hE
    refine lv_aload_n hx hb dX2_append_39 rfl (lv_at hl 0 rfl) ?_
    refine lv_dup hx hb dX2_append_40 rfl ?_
    refine t_get (ci := 2) (v := .int v_1) hB hT (ro_ci r_h rfl) rfl 3 (by decide) k_131 e_v_1 dX2_append_41 ?_
    refine lv_iconst (v := 1) hx hb dX2_append_44 (by decide) ?_
    refine lv_iadd hx hb dX2_append_45 ?_
    refine lv_topi (fun z_9 ez_9 => ?_)
    have e_z_9 : z_9.toInt = v_1.toInt + 1 := i_add ez_9 rfl (by decide) (by omega) (by omega)
    refine t_put0 (ci := 2) (v := .int z_9) hB hT (ro_ci r_h rfl) (ro_n0 r_h (by decide)) rfl 3 (by decide) k_131 (Or.inl rfl) rfl rfl dX2_append_46 (fun H locs hT => ?_)
    have hI : Inv fr (sF (sC (sC (sC g v_3 v_1.toNatClampNeg n) v_5 v_1.toNatClampNeg k) v_7 v_1.toNatClampNeg j) h 3 (.int z_9)) := hI.sF (fk r_h (⟨_, rfl, by omega, by omega⟩))
    have hM : Sm md_s_pappend g (sF (sC (sC (sC g v_3 v_1.toNatClampNeg n) v_5 v_1.toNatClampNeg k) v_7 v_1.toNatClampNeg j) h 3 (.int z_9)) := hM.tr hE (Sm_sF (by rw [r_h]; rfl))
    have hE : Ex g (sF (sC (sC (sC g v_3 v_1.toNatClampNeg n) v_5 v_1.toNatClampNeg k) v_7 v_1.toNatClampNeg j) h 3 (.int z_9)) := hE
    exact t_vret hB hr hT (Nat.le_of_ble_eq_true rfl) (Nat.le_of_ble_eq_true rfl) dX2_append_49 ⟨rfl, hI, hE, hM⟩
