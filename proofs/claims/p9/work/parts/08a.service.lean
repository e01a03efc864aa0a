theorem k_7 : Cond.selects RX3 yX3_isOver yX3_isOver ∈ tb := mt 7 (by decide +kernel) rfl
theorem k_60 : Cond.initialized RX3 ∈ tb := mt 60 (by decide +kernel) rfl
theorem k_70 : Cond.initialized RJ10 ∈ tb := mt 70 (by decide +kernel) rfl
theorem k_124 : Cond.fieldLink RX3 77 "TwiceOnce$Program" "words" "[I" ∈ tb := mt 124 (by decide +kernel) rfl
theorem k_128 : Cond.fieldLink RX3 80 "TwiceOnce$Program" "targets" "[I" ∈ tb := mt 128 (by decide +kernel) rfl
theorem k_143 : Cond.fieldLink RX3 12 "TwiceOnce$Service" "program" "LTwiceOnce$Program;" ∈ tb := mt 143 (by decide +kernel) rfl
theorem k_146 : Cond.fieldLink RX3 18 "TwiceOnce$Service" "cells" "[I" ∈ tb := mt 146 (by decide +kernel) rfl
theorem k_149 : Cond.fieldLink RX3 22 "TwiceOnce$Service" "counter" "I" ∈ tb := mt 149 (by decide +kernel) rfl
theorem k_152 : Cond.fieldLink RX3 26 "TwiceOnce$Service" "mends" "I" ∈ tb := mt 152 (by decide +kernel) rfl
theorem k_155 : Cond.fieldLink RX3 29 "TwiceOnce$Service" "holdTicks" "I" ∈ tb := mt 155 (by decide +kernel) rfl
theorem k_158 : Cond.fieldLink RX3 32 "TwiceOnce$Service" "kept" "I" ∈ tb := mt 158 (by decide +kernel) rfl
theorem k_159 : Cond.fieldLink RX3 35 "TwiceOnce$Service" "keptKeys" "[I" ∈ tb := mt 159 (by decide +kernel) rfl
theorem k_160 : Cond.fieldLink RX3 38 "TwiceOnce$Service" "keptXs" "[I" ∈ tb := mt 160 (by decide +kernel) rfl
theorem k_161 : Cond.fieldLink RX3 41 "TwiceOnce$Service" "keptAnswers" "[I" ∈ tb := mt 161 (by decide +kernel) rfl
theorem k_162 : Cond.fieldLink RX3 44 "TwiceOnce$Service" "keptTicks" "[I" ∈ tb := mt 162 (by decide +kernel) rfl
theorem k_163 : Cond.fieldLink RX3 47 "TwiceOnce$Service" "knownX" "I" ∈ tb := mt 163 (by decide +kernel) rfl
theorem k_164 : Cond.fieldLink RX3 50 "TwiceOnce$Service" "knownKey" "I" ∈ tb := mt 164 (by decide +kernel) rfl
theorem k_165 : Cond.fieldLink RX3 53 "TwiceOnce$Service" "knownActs" "[I" ∈ tb := mt 165 (by decide +kernel) rfl
theorem k_166 : Cond.fieldLink RX3 56 "TwiceOnce$Service" "earlierActs" "[I" ∈ tb := mt 166 (by decide +kernel) rfl
theorem k_167 : Cond.fieldLink RX3 59 "TwiceOnce$Service" "holdsBack" "Z" ∈ tb := mt 167 (by decide +kernel) rfl
theorem k_202 : Cond.fieldLink RX5 17 "TwiceOnce$World" "size" "I" ∈ tb := mt 202 (by decide +kernel) rfl
theorem k_458 : Cond.methodLink RX3 69 yX3_isOver ∈ tb := mt 458 (by decide +kernel) rfl
theorem k_460 : Cond.instanceMethod yX3_isOver ∈ tb := mt 460 (by decide +kernel) rfl
set_option maxRecDepth 20000 in
theorem k_461 : Cond.code yX3_isOver cX3_isOver 3 (some .boolean) ∈ tb := mt 461 rfl rfl
theorem k_495 : Cond.static arraycopyName ∈ tb := mt 495 (by decide +kernel) rfl
theorem k_496 : Cond.native arraycopyName ∈ tb := mt 496 (by decide +kernel) rfl
theorem k_510 : Cond.instanceMethod yX3_isMended ∈ tb := mt 510 (by decide +kernel) rfl
theorem k_511 : Cond.selects RX3 yX3_isMended yX3_isMended ∈ tb := mt 511 (by decide +kernel) rfl
set_option maxRecDepth 20000 in
theorem k_512 : Cond.code yX3_isMended cX3_isMended 2 (some .boolean) ∈ tb := mt 512 rfl rfl
theorem k_525 : Cond.methodLink RX3 63 arraycopyName ∈ tb := mt 525 (by decide +kernel) rfl
theorem k_530 : Cond.methodLink RX3 73 yX3_isMended ∈ tb := mt 530 (by decide +kernel) rfl
theorem dX5_has_0 : decode cX5_has 0 = .ok (.iload_n 1, 1) := by decide +kernel
theorem dX5_has_1 : decode cX5_has 1 = .ok (.ifCond .lt 15, 3) := by decide +kernel
theorem dX5_has_16 : decode cX5_has 16 = .ok (.iconst 0, 1) := by decide +kernel
theorem dX5_has_17 : decode cX5_has 17 = .ok (.ireturn, 1) := by decide +kernel
theorem dX5_has_4 : decode cX5_has 4 = .ok (.iload_n 1, 1) := by decide +kernel
theorem dX5_has_5 : decode cX5_has 5 = .ok (.aload_n 0, 1) := by decide +kernel
theorem dX5_has_6 : decode cX5_has 6 = .ok (.getfield 17, 3) := by decide +kernel
theorem dX5_has_9 : decode cX5_has 9 = .ok (.if_icmp .ge 7, 3) := by decide +kernel
theorem dX5_has_12 : decode cX5_has 12 = .ok (.iconst 1, 1) := by decide +kernel
theorem dX5_has_13 : decode cX5_has 13 = .ok (.goto 4, 3) := by decide +kernel
theorem dX5_canAsk_0 : decode cX5_canAsk 0 = .ok (.iload_n 2, 1) := by decide +kernel
theorem dX5_canAsk_1 : decode cX5_canAsk 1 = .ok (.iload_n 1, 1) := by decide +kernel
theorem dX5_canAsk_2 : decode cX5_canAsk 2 = .ok (.if_icmp .le 15, 3) := by decide +kernel
theorem dX5_canAsk_17 : decode cX5_canAsk 17 = .ok (.iconst 0, 1) := by decide +kernel
theorem dX5_canAsk_18 : decode cX5_canAsk 18 = .ok (.ireturn, 1) := by decide +kernel
theorem dX5_canAsk_5 : decode cX5_canAsk 5 = .ok (.iload_n 2, 1) := by decide +kernel
theorem dX5_canAsk_6 : decode cX5_canAsk 6 = .ok (.aload_n 0, 1) := by decide +kernel
theorem dX5_canAsk_7 : decode cX5_canAsk 7 = .ok (.getfield 17, 3) := by decide +kernel
theorem dX5_canAsk_10 : decode cX5_canAsk 10 = .ok (.if_icmp .ge 7, 3) := by decide +kernel
theorem dX5_canAsk_13 : decode cX5_canAsk 13 = .ok (.iconst 1, 1) := by decide +kernel
theorem dX5_canAsk_14 : decode cX5_canAsk 14 = .ok (.goto 4, 3) := by decide +kernel
theorem dX3_isMended_0 : decode cX3_isMended 0 = .ok (.aload_n 0, 1) := by decide +kernel
theorem dX3_isMended_1 : decode cX3_isMended 1 = .ok (.getfield 26, 3) := by decide +kernel
theorem dX3_isMended_4 : decode cX3_isMended 4 = .ok (.iload_n 1, 1) := by decide +kernel
theorem dX3_isMended_5 : decode cX3_isMended 5 = .ok (.ishr, 1) := by decide +kernel
theorem dX3_isMended_6 : decode cX3_isMended 6 = .ok (.iconst 1, 1) := by decide +kernel
theorem dX3_isMended_7 : decode cX3_isMended 7 = .ok (.iand, 1) := by decide +kernel
theorem dX3_isMended_8 : decode cX3_isMended 8 = .ok (.iconst 1, 1) := by decide +kernel
theorem dX3_isMended_9 : decode cX3_isMended 9 = .ok (.if_icmp .ne 7, 3) := by decide +kernel
theorem dX3_isMended_16 : decode cX3_isMended 16 = .ok (.iconst 0, 1) := by decide +kernel
theorem dX3_isMended_17 : decode cX3_isMended 17 = .ok (.ireturn, 1) := by decide +kernel
theorem dX3_isMended_12 : decode cX3_isMended 12 = .ok (.iconst 1, 1) := by decide +kernel
theorem dX3_isMended_13 : decode cX3_isMended 13 = .ok (.goto 4, 3) := by decide +kernel
theorem dX3_isOver_0 : decode cX3_isOver 0 = .ok (.iload_n 2, 1) := by decide +kernel
theorem dX3_isOver_1 : decode cX3_isOver 1 = .ok (.aload_n 0, 1) := by decide +kernel
theorem dX3_isOver_2 : decode cX3_isOver 2 = .ok (.getfield 44, 3) := by decide +kernel
theorem dX3_isOver_5 : decode cX3_isOver 5 = .ok (.iload_n 1, 1) := by decide +kernel
theorem dX3_isOver_6 : decode cX3_isOver 6 = .ok (.iaload, 1) := by decide +kernel
theorem dX3_isOver_7 : decode cX3_isOver 7 = .ok (.aload_n 0, 1) := by decide +kernel
theorem dX3_isOver_8 : decode cX3_isOver 8 = .ok (.getfield 29, 3) := by decide +kernel
theorem dX3_isOver_11 : decode cX3_isOver 11 = .ok (.iadd, 1) := by decide +kernel
theorem dX3_isOver_12 : decode cX3_isOver 12 = .ok (.if_icmp .le 7, 3) := by decide +kernel
theorem dX3_isOver_19 : decode cX3_isOver 19 = .ok (.iconst 0, 1) := by decide +kernel
theorem dX3_isOver_20 : decode cX3_isOver 20 = .ok (.ireturn, 1) := by decide +kernel
theorem dX3_isOver_15 : decode cX3_isOver 15 = .ok (.iconst 1, 1) := by decide +kernel
theorem dX3_isOver_16 : decode cX3_isOver 16 = .ok (.goto 4, 3) := by decide +kernel
theorem dX3_keptAnswer_0 : decode cX3_keptAnswer 0 = .ok (.aload_n 0, 1) := by decide +kernel
theorem dX3_keptAnswer_1 : decode cX3_keptAnswer 1 = .ok (.getfield 38, 3) := by decide +kernel
theorem dX3_keptAnswer_4 : decode cX3_keptAnswer 4 = .ok (.iload_n 1, 1) := by decide +kernel
theorem dX3_keptAnswer_5 : decode cX3_keptAnswer 5 = .ok (.iaload, 1) := by decide +kernel
theorem dX3_keptAnswer_6 : decode cX3_keptAnswer 6 = .ok (.iload_n 2, 1) := by decide +kernel
theorem dX3_keptAnswer_7 : decode cX3_keptAnswer 7 = .ok (.if_icmp .ne 12, 3) := by decide +kernel
theorem dX3_keptAnswer_19 : decode cX3_keptAnswer 19 = .ok (.iconst (-1), 1) := by decide +kernel
theorem dX3_keptAnswer_20 : decode cX3_keptAnswer 20 = .ok (.ireturn, 1) := by decide +kernel
theorem dX3_keptAnswer_10 : decode cX3_keptAnswer 10 = .ok (.aload_n 0, 1) := by decide +kernel
theorem dX3_keptAnswer_11 : decode cX3_keptAnswer 11 = .ok (.getfield 41, 3) := by decide +kernel
theorem dX3_keptAnswer_14 : decode cX3_keptAnswer 14 = .ok (.iload_n 1, 1) := by decide +kernel
theorem dX3_keptAnswer_15 : decode cX3_keptAnswer 15 = .ok (.iaload, 1) := by decide +kernel
theorem dX3_keptAnswer_16 : decode cX3_keptAnswer 16 = .ok (.goto 4, 3) := by decide +kernel
theorem dX3_answerNewest_0 : decode cX3_answerNewest 0 = .ok (.aload_n 0, 1) := by decide +kernel
theorem dX3_answerNewest_1 : decode cX3_answerNewest 1 = .ok (.getfield 32, 3) := by decide +kernel
theorem dX3_answerNewest_4 : decode cX3_answerNewest 4 = .ok (.ifCond .le 30, 3) := by decide +kernel
theorem dX3_answerNewest_34 : decode cX3_answerNewest 34 = .ok (.return_, 1) := by decide +kernel
theorem dX3_answerNewest_7 : decode cX3_answerNewest 7 = .ok (.aload_n 0, 1) := by decide +kernel
theorem dX3_answerNewest_8 : decode cX3_answerNewest 8 = .ok (.getfield 35, 3) := by decide +kernel
theorem dX3_answerNewest_11 : decode cX3_answerNewest 11 = .ok (.aload_n 0, 1) := by decide +kernel
theorem dX3_answerNewest_12 : decode cX3_answerNewest 12 = .ok (.getfield 32, 3) := by decide +kernel
theorem dX3_answerNewest_15 : decode cX3_answerNewest 15 = .ok (.iconst 1, 1) := by decide +kernel
theorem dX3_answerNewest_16 : decode cX3_answerNewest 16 = .ok (.isub, 1) := by decide +kernel
theorem dX3_answerNewest_17 : decode cX3_answerNewest 17 = .ok (.iaload, 1) := by decide +kernel
theorem dX3_answerNewest_18 : decode cX3_answerNewest 18 = .ok (.iload_n 1, 1) := by decide +kernel
theorem dX3_answerNewest_19 : decode cX3_answerNewest 19 = .ok (.if_icmp .ne 15, 3) := by decide +kernel
theorem dX3_answerNewest_22 : decode cX3_answerNewest 22 = .ok (.aload_n 0, 1) := by decide +kernel
theorem dX3_answerNewest_23 : decode cX3_answerNewest 23 = .ok (.getfield 41, 3) := by decide +kernel
theorem dX3_answerNewest_26 : decode cX3_answerNewest 26 = .ok (.aload_n 0, 1) := by decide +kernel
theorem dX3_answerNewest_27 : decode cX3_answerNewest 27 = .ok (.getfield 32, 3) := by decide +kernel
theorem dX3_answerNewest_30 : decode cX3_answerNewest 30 = .ok (.iconst 1, 1) := by decide +kernel
theorem dX3_answerNewest_31 : decode cX3_answerNewest 31 = .ok (.isub, 1) := by decide +kernel
theorem dX3_answerNewest_32 : decode cX3_answerNewest 32 = .ok (.iload_n 2, 1) := by decide +kernel
theorem dX3_answerNewest_33 : decode cX3_answerNewest 33 = .ok (.iastore, 1) := by decide +kernel
theorem dX3_isHeldBack_0 : decode cX3_isHeldBack 0 = .ok (.aload_n 0, 1) := by decide +kernel
theorem dX3_isHeldBack_1 : decode cX3_isHeldBack 1 = .ok (.getfield 12, 3) := by decide +kernel
theorem dX3_isHeldBack_4 : decode cX3_isHeldBack 4 = .ok (.getfield 77, 3) := by decide +kernel
theorem dX3_isHeldBack_7 : decode cX3_isHeldBack 7 = .ok (.iload_n 1, 1) := by decide +kernel
theorem dX3_isHeldBack_8 : decode cX3_isHeldBack 8 = .ok (.iaload, 1) := by decide +kernel
theorem dX3_isHeldBack_9 : decode cX3_isHeldBack 9 = .ok (.istore_n 3, 1) := by decide +kernel
theorem dX3_isHeldBack_10 : decode cX3_isHeldBack 10 = .ok (.iload_n 3, 1) := by decide +kernel
theorem dX3_isHeldBack_11 : decode cX3_isHeldBack 11 = .ok (.bipush 10, 2) := by decide +kernel
theorem dX3_isHeldBack_13 : decode cX3_isHeldBack 13 = .ok (.imul, 1) := by decide +kernel
theorem dX3_isHeldBack_14 : decode cX3_isHeldBack 14 = .ok (.aload_n 0, 1) := by decide +kernel
theorem dX3_isHeldBack_15 : decode cX3_isHeldBack 15 = .ok (.getfield 12, 3) := by decide +kernel
theorem dX3_isHeldBack_18 : decode cX3_isHeldBack 18 = .ok (.getfield 80, 3) := by decide +kernel
theorem dX3_isHeldBack_21 : decode cX3_isHeldBack 21 = .ok (.iload_n 1, 1) := by decide +kernel
theorem dX3_isHeldBack_22 : decode cX3_isHeldBack 22 = .ok (.iaload, 1) := by decide +kernel
theorem dX3_isHeldBack_23 : decode cX3_isHeldBack 23 = .ok (.iadd, 1) := by decide +kernel
theorem dX3_isHeldBack_24 : decode cX3_isHeldBack 24 = .ok (.sipush 1000, 3) := by decide +kernel
theorem dX3_isHeldBack_27 : decode cX3_isHeldBack 27 = .ok (.imul, 1) := by decide +kernel
theorem dX3_isHeldBack_28 : decode cX3_isHeldBack 28 = .ok (.iload_n 2, 1) := by decide +kernel
theorem dX3_isHeldBack_29 : decode cX3_isHeldBack 29 = .ok (.iadd, 1) := by decide +kernel
theorem dX3_isHeldBack_30 : decode cX3_isHeldBack 30 = .ok (.istore 4, 2) := by decide +kernel
theorem dX3_isHeldBack_32 : decode cX3_isHeldBack 32 = .ok (.aload_n 0, 1) := by decide +kernel
theorem dX3_isHeldBack_33 : decode cX3_isHeldBack 33 = .ok (.getfield 53, 3) := by decide +kernel
theorem dX3_isHeldBack_36 : decode cX3_isHeldBack 36 = .ok (.iload_n 1, 1) := by decide +kernel
theorem dX3_isHeldBack_37 : decode cX3_isHeldBack 37 = .ok (.iload 4, 2) := by decide +kernel
theorem dX3_isHeldBack_39 : decode cX3_isHeldBack 39 = .ok (.iastore, 1) := by decide +kernel
theorem dX3_isHeldBack_40 : decode cX3_isHeldBack 40 = .ok (.iload_n 3, 1) := by decide +kernel
theorem dX3_isHeldBack_41 : decode cX3_isHeldBack 41 = .ok (.ifCond .eq 14, 3) := by decide +kernel
theorem dX3_isHeldBack_55 : decode cX3_isHeldBack 55 = .ok (.iconst 1, 1) := by decide +kernel
theorem dX3_isHeldBack_56 : decode cX3_isHeldBack 56 = .ok (.goto 4, 3) := by decide +kernel
theorem dX3_isHeldBack_60 : decode cX3_isHeldBack 60 = .ok (.istore 5, 2) := by decide +kernel
theorem dX3_isHeldBack_62 : decode cX3_isHeldBack 62 = .ok (.iload 5, 2) := by decide +kernel
theorem dX3_isHeldBack_64 : decode cX3_isHeldBack 64 = .ok (.ifCond .eq 25, 3) := by decide +kernel
theorem dX3_isHeldBack_67 : decode cX3_isHeldBack 67 = .ok (.aload_n 0, 1) := by decide +kernel
theorem dX3_isHeldBack_68 : decode cX3_isHeldBack 68 = .ok (.getfield 59, 3) := by decide +kernel
theorem dX3_isHeldBack_71 : decode cX3_isHeldBack 71 = .ok (.ifCond .eq 18, 3) := by decide +kernel
theorem dX3_isHeldBack_89 : decode cX3_isHeldBack 89 = .ok (.iconst 0, 1) := by decide +kernel
theorem dX3_isHeldBack_90 : decode cX3_isHeldBack 90 = .ok (.ireturn, 1) := by decide +kernel
theorem dX3_isHeldBack_74 : decode cX3_isHeldBack 74 = .ok (.aload_n 0, 1) := by decide +kernel
theorem dX3_isHeldBack_75 : decode cX3_isHeldBack 75 = .ok (.getfield 56, 3) := by decide +kernel
theorem dX3_isHeldBack_78 : decode cX3_isHeldBack 78 = .ok (.iload_n 1, 1) := by decide +kernel
theorem dX3_isHeldBack_79 : decode cX3_isHeldBack 79 = .ok (.iaload, 1) := by decide +kernel
theorem dX3_isHeldBack_80 : decode cX3_isHeldBack 80 = .ok (.iload 4, 2) := by decide +kernel
theorem dX3_isHeldBack_82 : decode cX3_isHeldBack 82 = .ok (.if_icmp .ne 7, 3) := by decide +kernel
theorem dX3_isHeldBack_85 : decode cX3_isHeldBack 85 = .ok (.iconst 1, 1) := by decide +kernel
theorem dX3_isHeldBack_86 : decode cX3_isHeldBack 86 = .ok (.goto 4, 3) := by decide +kernel
theorem dX3_isHeldBack_44 : decode cX3_isHeldBack 44 = .ok (.iload_n 3, 1) := by decide +kernel
theorem dX3_isHeldBack_45 : decode cX3_isHeldBack 45 = .ok (.iconst 2, 1) := by decide +kernel
theorem dX3_isHeldBack_46 : decode cX3_isHeldBack 46 = .ok (.if_icmp .eq 9, 3) := by decide +kernel
theorem dX3_isHeldBack_49 : decode cX3_isHeldBack 49 = .ok (.iload_n 3, 1) := by decide +kernel
theorem dX3_isHeldBack_50 : decode cX3_isHeldBack 50 = .ok (.bipush 6, 2) := by decide +kernel
theorem dX3_isHeldBack_52 : decode cX3_isHeldBack 52 = .ok (.if_icmp .ne 7, 3) := by decide +kernel
theorem dX3_isHeldBack_59 : decode cX3_isHeldBack 59 = .ok (.iconst 0, 1) := by decide +kernel
theorem dX3_passesOver_0 : decode cX3_passesOver 0 = .ok (.aload_n 0, 1) := by decide +kernel
theorem dX3_passesOver_1 : decode cX3_passesOver 1 = .ok (.getfield 12, 3) := by decide +kernel
theorem dX3_passesOver_4 : decode cX3_passesOver 4 = .ok (.getfield 80, 3) := by decide +kernel
theorem dX3_passesOver_7 : decode cX3_passesOver 7 = .ok (.iload_n 1, 1) := by decide +kernel
theorem dX3_passesOver_8 : decode cX3_passesOver 8 = .ok (.iaload, 1) := by decide +kernel
theorem dX3_passesOver_9 : decode cX3_passesOver 9 = .ok (.istore_n 3, 1) := by decide +kernel
theorem dX3_passesOver_10 : decode cX3_passesOver 10 = .ok (.aload_n 0, 1) := by decide +kernel
theorem dX3_passesOver_11 : decode cX3_passesOver 11 = .ok (.getfield 12, 3) := by decide +kernel
theorem dX3_passesOver_14 : decode cX3_passesOver 14 = .ok (.getfield 77, 3) := by decide +kernel
theorem dX3_passesOver_17 : decode cX3_passesOver 17 = .ok (.iload_n 1, 1) := by decide +kernel
theorem dX3_passesOver_18 : decode cX3_passesOver 18 = .ok (.iaload, 1) := by decide +kernel
theorem dX3_passesOver_19 : decode cX3_passesOver 19 = .ok (.bipush 7, 2) := by decide +kernel
theorem dX3_passesOver_21 : decode cX3_passesOver 21 = .ok (.if_icmp .ne 22, 3) := by decide +kernel
theorem dX3_passesOver_43 : decode cX3_passesOver 43 = .ok (.iconst 0, 1) := by decide +kernel
theorem dX3_passesOver_44 : decode cX3_passesOver 44 = .ok (.ireturn, 1) := by decide +kernel
theorem dX3_passesOver_24 : decode cX3_passesOver 24 = .ok (.iload_n 3, 1) := by decide +kernel
theorem dX3_passesOver_25 : decode cX3_passesOver 25 = .ok (.iconst 4, 1) := by decide +kernel
theorem dX3_passesOver_26 : decode cX3_passesOver 26 = .ok (.if_icmp .ge 17, 3) := by decide +kernel
theorem dX3_passesOver_29 : decode cX3_passesOver 29 = .ok (.aload_n 0, 1) := by decide +kernel
theorem dX3_passesOver_30 : decode cX3_passesOver 30 = .ok (.getfield 18, 3) := by decide +kernel
theorem dX3_passesOver_33 : decode cX3_passesOver 33 = .ok (.iload_n 3, 1) := by decide +kernel
theorem dX3_passesOver_34 : decode cX3_passesOver 34 = .ok (.iaload, 1) := by decide +kernel
theorem dX3_passesOver_35 : decode cX3_passesOver 35 = .ok (.iload_n 2, 1) := by decide +kernel
theorem dX3_passesOver_36 : decode cX3_passesOver 36 = .ok (.if_icmp .eq 7, 3) := by decide +kernel
theorem dX3_passesOver_39 : decode cX3_passesOver 39 = .ok (.iconst 1, 1) := by decide +kernel
theorem dX3_passesOver_40 : decode cX3_passesOver 40 = .ok (.goto 4, 3) := by decide +kernel
theorem dX3_perform_0 : decode cX3_perform 0 = .ok (.aload_n 0, 1) := by decide +kernel
theorem dX3_perform_1 : decode cX3_perform 1 = .ok (.getfield 12, 3) := by decide +kernel
theorem dX3_perform_4 : decode cX3_perform 4 = .ok (.getfield 80, 3) := by decide +kernel
theorem dX3_perform_7 : decode cX3_perform 7 = .ok (.iload_n 1, 1) := by decide +kernel
theorem dX3_perform_8 : decode cX3_perform 8 = .ok (.iaload, 1) := by decide +kernel
theorem dX3_perform_9 : decode cX3_perform 9 = .ok (.istore 4, 2) := by decide +kernel
theorem dX3_perform_11 : decode cX3_perform 11 = .ok (.iload 4, 2) := by decide +kernel
theorem dX3_perform_13 : decode cX3_perform 13 = .ok (.iconst 4, 1) := by decide +kernel
theorem dX3_perform_14 : decode cX3_perform 14 = .ok (.if_icmp .lt 5, 3) := by decide +kernel
theorem dX3_perform_19 : decode cX3_perform 19 = .ok (.aload_n 0, 1) := by decide +kernel
theorem dX3_perform_20 : decode cX3_perform 20 = .ok (.getfield 12, 3) := by decide +kernel
theorem dX3_perform_23 : decode cX3_perform 23 = .ok (.getfield 77, 3) := by decide +kernel
theorem dX3_perform_26 : decode cX3_perform 26 = .ok (.iload_n 1, 1) := by decide +kernel
theorem dX3_perform_27 : decode cX3_perform 27 = .ok (.iaload, 1) := by decide +kernel
theorem dX3_perform_28 : decode cX3_perform 28 = .ok (.tableswitch 137 0 4 #[36, 46, 68, 99, 129], 36) := by decide +kernel
theorem dX3_perform_165 : decode cX3_perform 165 = .ok (.iload_n 3, 1) := by decide +kernel
theorem dX3_perform_166 : decode cX3_perform 166 = .ok (.ireturn, 1) := by decide +kernel
theorem dX3_perform_64 : decode cX3_perform 64 = .ok (.aload_n 0, 1) := by decide +kernel
theorem dX3_perform_65 : decode cX3_perform 65 = .ok (.getfield 18, 3) := by decide +kernel
theorem dX3_perform_68 : decode cX3_perform 68 = .ok (.iload 4, 2) := by decide +kernel
theorem dX3_perform_70 : decode cX3_perform 70 = .ok (.iload_n 2, 1) := by decide +kernel
theorem dX3_perform_71 : decode cX3_perform 71 = .ok (.iastore, 1) := by decide +kernel
theorem dX3_perform_72 : decode cX3_perform 72 = .ok (.iload_n 3, 1) := by decide +kernel
theorem dX3_perform_73 : decode cX3_perform 73 = .ok (.ireturn, 1) := by decide +kernel
theorem dX3_perform_74 : decode cX3_perform 74 = .ok (.aload_n 0, 1) := by decide +kernel
theorem dX3_perform_75 : decode cX3_perform 75 = .ok (.getfield 18, 3) := by decide +kernel
theorem dX3_perform_78 : decode cX3_perform 78 = .ok (.iload 4, 2) := by decide +kernel
theorem dX3_perform_80 : decode cX3_perform 80 = .ok (.aload_n 0, 1) := by decide +kernel
theorem dX3_perform_81 : decode cX3_perform 81 = .ok (.getfield 18, 3) := by decide +kernel
theorem dX3_perform_84 : decode cX3_perform 84 = .ok (.iload 4, 2) := by decide +kernel
theorem dX3_perform_86 : decode cX3_perform 86 = .ok (.iaload, 1) := by decide +kernel
theorem dX3_perform_87 : decode cX3_perform 87 = .ok (.iload_n 2, 1) := by decide +kernel
theorem dX3_perform_88 : decode cX3_perform 88 = .ok (.iadd, 1) := by decide +kernel
theorem dX3_perform_89 : decode cX3_perform 89 = .ok (.sipush 1000, 3) := by decide +kernel
theorem dX3_perform_92 : decode cX3_perform 92 = .ok (.irem, 1) := by decide +kernel
theorem dX3_perform_93 : decode cX3_perform 93 = .ok (.iastore, 1) := by decide +kernel
theorem dX3_perform_94 : decode cX3_perform 94 = .ok (.iload_n 3, 1) := by decide +kernel
theorem dX3_perform_95 : decode cX3_perform 95 = .ok (.ireturn, 1) := by decide +kernel
theorem dX3_perform_96 : decode cX3_perform 96 = .ok (.aload_n 0, 1) := by decide +kernel
theorem dX3_perform_97 : decode cX3_perform 97 = .ok (.getfield 18, 3) := by decide +kernel
theorem dX3_perform_100 : decode cX3_perform 100 = .ok (.iload 4, 2) := by decide +kernel
theorem dX3_perform_102 : decode cX3_perform 102 = .ok (.iload_n 2, 1) := by decide +kernel
theorem dX3_perform_103 : decode cX3_perform 103 = .ok (.aload_n 0, 1) := by decide +kernel
theorem dX3_perform_104 : decode cX3_perform 104 = .ok (.getfield 18, 3) := by decide +kernel
theorem dX3_perform_107 : decode cX3_perform 107 = .ok (.iload 4, 2) := by decide +kernel
theorem dX3_perform_109 : decode cX3_perform 109 = .ok (.iaload, 1) := by decide +kernel
theorem dX3_perform_110 : decode cX3_perform 110 = .ok (.if_icmp .le 7, 3) := by decide +kernel
theorem dX3_perform_117 : decode cX3_perform 117 = .ok (.aload_n 0, 1) := by decide +kernel
theorem dX3_perform_118 : decode cX3_perform 118 = .ok (.getfield 18, 3) := by decide +kernel
theorem dX3_perform_121 : decode cX3_perform 121 = .ok (.iload 4, 2) := by decide +kernel
theorem dX3_perform_123 : decode cX3_perform 123 = .ok (.iaload, 1) := by decide +kernel
theorem dX3_perform_124 : decode cX3_perform 124 = .ok (.iastore, 1) := by decide +kernel
theorem dX3_perform_125 : decode cX3_perform 125 = .ok (.iload_n 3, 1) := by decide +kernel
theorem dX3_perform_126 : decode cX3_perform 126 = .ok (.ireturn, 1) := by decide +kernel
theorem dX3_perform_113 : decode cX3_perform 113 = .ok (.iload_n 2, 1) := by decide +kernel
theorem dX3_perform_114 : decode cX3_perform 114 = .ok (.goto 10, 3) := by decide +kernel
theorem dX3_perform_127 : decode cX3_perform 127 = .ok (.aload_n 0, 1) := by decide +kernel
theorem dX3_perform_128 : decode cX3_perform 128 = .ok (.aload_n 0, 1) := by decide +kernel
theorem dX3_perform_129 : decode cX3_perform 129 = .ok (.getfield 22, 3) := by decide +kernel
theorem dX3_perform_132 : decode cX3_perform 132 = .ok (.iconst 1, 1) := by decide +kernel
theorem dX3_perform_133 : decode cX3_perform 133 = .ok (.iadd, 1) := by decide +kernel
theorem dX3_perform_134 : decode cX3_perform 134 = .ok (.sipush 1000, 3) := by decide +kernel
theorem dX3_perform_137 : decode cX3_perform 137 = .ok (.irem, 1) := by decide +kernel
theorem dX3_perform_138 : decode cX3_perform 138 = .ok (.putfield 22, 3) := by decide +kernel
theorem dX3_perform_141 : decode cX3_perform 141 = .ok (.aload_n 0, 1) := by decide +kernel
theorem dX3_perform_142 : decode cX3_perform 142 = .ok (.getfield 18, 3) := by decide +kernel
theorem dX3_perform_145 : decode cX3_perform 145 = .ok (.iload 4, 2) := by decide +kernel
theorem dX3_perform_147 : decode cX3_perform 147 = .ok (.aload_n 0, 1) := by decide +kernel
theorem dX3_perform_148 : decode cX3_perform 148 = .ok (.getfield 22, 3) := by decide +kernel
theorem dX3_perform_151 : decode cX3_perform 151 = .ok (.iastore, 1) := by decide +kernel
theorem dX3_perform_152 : decode cX3_perform 152 = .ok (.aload_n 0, 1) := by decide +kernel
theorem dX3_perform_153 : decode cX3_perform 153 = .ok (.getfield 22, 3) := by decide +kernel
theorem dX3_perform_156 : decode cX3_perform 156 = .ok (.ireturn, 1) := by decide +kernel
theorem dX3_perform_157 : decode cX3_perform 157 = .ok (.aload_n 0, 1) := by decide +kernel
theorem dX3_perform_158 : decode cX3_perform 158 = .ok (.getfield 18, 3) := by decide +kernel
theorem dX3_perform_161 : decode cX3_perform 161 = .ok (.iload 4, 2) := by decide +kernel
theorem dX3_perform_163 : decode cX3_perform 163 = .ok (.iaload, 1) := by decide +kernel
theorem dX3_perform_164 : decode cX3_perform 164 = .ok (.ireturn, 1) := by decide +kernel
theorem dX3_perform_17 : decode cX3_perform 17 = .ok (.iload_n 3, 1) := by decide +kernel
theorem dX3_perform_18 : decode cX3_perform 18 = .ok (.ireturn, 1) := by decide +kernel
theorem dX3_makeFresh_2 : decode cX3_makeFresh 2 = .ok (.iload_n 1, 1) := by decide +kernel
theorem dX3_makeFresh_3 : decode cX3_makeFresh 3 = .ok (.iconst 4, 1) := by decide +kernel
theorem dX3_makeFresh_4 : decode cX3_makeFresh 4 = .ok (.if_icmp .ge 16, 3) := by decide +kernel
theorem dX3_makeFresh_20 : decode cX3_makeFresh 20 = .ok (.aload_n 0, 1) := by decide +kernel
theorem dX3_makeFresh_21 : decode cX3_makeFresh 21 = .ok (.iconst 0, 1) := by decide +kernel
theorem dX3_makeFresh_22 : decode cX3_makeFresh 22 = .ok (.putfield 22, 3) := by decide +kernel
theorem dX3_makeFresh_25 : decode cX3_makeFresh 25 = .ok (.aload_n 0, 1) := by decide +kernel
theorem dX3_makeFresh_26 : decode cX3_makeFresh 26 = .ok (.iconst 0, 1) := by decide +kernel
theorem dX3_makeFresh_27 : decode cX3_makeFresh 27 = .ok (.putfield 32, 3) := by decide +kernel
theorem dX3_makeFresh_30 : decode cX3_makeFresh 30 = .ok (.return_, 1) := by decide +kernel
theorem dX3_makeFresh_7 : decode cX3_makeFresh 7 = .ok (.aload_n 0, 1) := by decide +kernel
theorem dX3_makeFresh_8 : decode cX3_makeFresh 8 = .ok (.getfield 18, 3) := by decide +kernel
theorem dX3_makeFresh_11 : decode cX3_makeFresh 11 = .ok (.iload_n 1, 1) := by decide +kernel
theorem dX3_makeFresh_12 : decode cX3_makeFresh 12 = .ok (.iconst 0, 1) := by decide +kernel
theorem dX3_makeFresh_13 : decode cX3_makeFresh 13 = .ok (.iastore, 1) := by decide +kernel
theorem dX3_makeFresh_14 : decode cX3_makeFresh 14 = .ok (.iinc 1 1, 3) := by decide +kernel
theorem dX3_makeFresh_17 : decode cX3_makeFresh 17 = .ok (.goto (-15), 3) := by decide +kernel
theorem dX3_makeFresh_0 : decode cX3_makeFresh 0 = .ok (.iconst 0, 1) := by decide +kernel
theorem dX3_makeFresh_1 : decode cX3_makeFresh 1 = .ok (.istore_n 1, 1) := by decide +kernel
theorem dX3_keysNotOver_4 : decode cX3_keysNotOver 4 = .ok (.iload_n 3, 1) := by decide +kernel
theorem dX3_keysNotOver_5 : decode cX3_keysNotOver 5 = .ok (.aload_n 0, 1) := by decide +kernel
theorem dX3_keysNotOver_6 : decode cX3_keysNotOver 6 = .ok (.getfield 32, 3) := by decide +kernel
theorem dX3_keysNotOver_9 : decode cX3_keysNotOver 9 = .ok (.if_icmp .ge 26, 3) := by decide +kernel
theorem dX3_keysNotOver_35 : decode cX3_keysNotOver 35 = .ok (.iload_n 2, 1) := by decide +kernel
theorem dX3_keysNotOver_36 : decode cX3_keysNotOver 36 = .ok (.ireturn, 1) := by decide +kernel
theorem dX3_keysNotOver_12 : decode cX3_keysNotOver 12 = .ok (.iload_n 2, 1) := by decide +kernel
theorem dX3_keysNotOver_13 : decode cX3_keysNotOver 13 = .ok (.aload_n 0, 1) := by decide +kernel
theorem dX3_keysNotOver_14 : decode cX3_keysNotOver 14 = .ok (.iload_n 3, 1) := by decide +kernel
theorem dX3_keysNotOver_15 : decode cX3_keysNotOver 15 = .ok (.iload_n 1, 1) := by decide +kernel
theorem dX3_keysNotOver_16 : decode cX3_keysNotOver 16 = .ok (.invokevirtual 69, 3) := by decide +kernel
theorem dX3_keysNotOver_19 : decode cX3_keysNotOver 19 = .ok (.ifCond .eq 7, 3) := by decide +kernel
theorem dX3_keysNotOver_22 : decode cX3_keysNotOver 22 = .ok (.iconst 0, 1) := by decide +kernel
theorem dX3_keysNotOver_23 : decode cX3_keysNotOver 23 = .ok (.goto 4, 3) := by decide +kernel
theorem dX3_keysNotOver_27 : decode cX3_keysNotOver 27 = .ok (.iadd, 1) := by decide +kernel
theorem dX3_keysNotOver_28 : decode cX3_keysNotOver 28 = .ok (.istore_n 2, 1) := by decide +kernel
theorem dX3_keysNotOver_29 : decode cX3_keysNotOver 29 = .ok (.iinc 3 1, 3) := by decide +kernel
theorem dX3_keysNotOver_32 : decode cX3_keysNotOver 32 = .ok (.goto (-28), 3) := by decide +kernel
theorem dX3_keysNotOver_26 : decode cX3_keysNotOver 26 = .ok (.iconst 1, 1) := by decide +kernel
theorem dX3_keysNotOver_0 : decode cX3_keysNotOver 0 = .ok (.iconst 0, 1) := by decide +kernel
theorem dX3_keysNotOver_1 : decode cX3_keysNotOver 1 = .ok (.istore_n 2, 1) := by decide +kernel
theorem dX3_keysNotOver_2 : decode cX3_keysNotOver 2 = .ok (.iconst 0, 1) := by decide +kernel
theorem dX3_keysNotOver_3 : decode cX3_keysNotOver 3 = .ok (.istore_n 3, 1) := by decide +kernel
theorem dX3_dropOver_4 : decode cX3_dropOver 4 = .ok (.iload_n 3, 1) := by decide +kernel
theorem dX3_dropOver_5 : decode cX3_dropOver 5 = .ok (.aload_n 0, 1) := by decide +kernel
theorem dX3_dropOver_6 : decode cX3_dropOver 6 = .ok (.getfield 32, 3) := by decide +kernel
theorem dX3_dropOver_9 : decode cX3_dropOver 9 = .ok (.if_icmp .ge 69, 3) := by decide +kernel
theorem dX3_dropOver_78 : decode cX3_dropOver 78 = .ok (.aload_n 0, 1) := by decide +kernel
theorem dX3_dropOver_79 : decode cX3_dropOver 79 = .ok (.iload_n 2, 1) := by decide +kernel
theorem dX3_dropOver_80 : decode cX3_dropOver 80 = .ok (.putfield 32, 3) := by decide +kernel
theorem dX3_dropOver_83 : decode cX3_dropOver 83 = .ok (.return_, 1) := by decide +kernel
theorem dX3_dropOver_12 : decode cX3_dropOver 12 = .ok (.aload_n 0, 1) := by decide +kernel
theorem dX3_dropOver_13 : decode cX3_dropOver 13 = .ok (.iload_n 3, 1) := by decide +kernel
theorem dX3_dropOver_14 : decode cX3_dropOver 14 = .ok (.iload_n 1, 1) := by decide +kernel
theorem dX3_dropOver_15 : decode cX3_dropOver 15 = .ok (.invokevirtual 69, 3) := by decide +kernel
theorem dX3_dropOver_18 : decode cX3_dropOver 18 = .ok (.ifCond .ne 54, 3) := by decide +kernel
theorem dX3_dropOver_72 : decode cX3_dropOver 72 = .ok (.iinc 3 1, 3) := by decide +kernel
theorem dX3_dropOver_75 : decode cX3_dropOver 75 = .ok (.goto (-71), 3) := by decide +kernel
theorem dX3_dropOver_21 : decode cX3_dropOver 21 = .ok (.aload_n 0, 1) := by decide +kernel
theorem dX3_dropOver_22 : decode cX3_dropOver 22 = .ok (.getfield 35, 3) := by decide +kernel
theorem dX3_dropOver_25 : decode cX3_dropOver 25 = .ok (.iload_n 2, 1) := by decide +kernel
theorem dX3_dropOver_26 : decode cX3_dropOver 26 = .ok (.aload_n 0, 1) := by decide +kernel
theorem dX3_dropOver_27 : decode cX3_dropOver 27 = .ok (.getfield 35, 3) := by decide +kernel
theorem dX3_dropOver_30 : decode cX3_dropOver 30 = .ok (.iload_n 3, 1) := by decide +kernel
theorem dX3_dropOver_31 : decode cX3_dropOver 31 = .ok (.iaload, 1) := by decide +kernel
theorem dX3_dropOver_32 : decode cX3_dropOver 32 = .ok (.iastore, 1) := by decide +kernel
theorem dX3_dropOver_33 : decode cX3_dropOver 33 = .ok (.aload_n 0, 1) := by decide +kernel
theorem dX3_dropOver_34 : decode cX3_dropOver 34 = .ok (.getfield 38, 3) := by decide +kernel
theorem dX3_dropOver_37 : decode cX3_dropOver 37 = .ok (.iload_n 2, 1) := by decide +kernel
theorem dX3_dropOver_38 : decode cX3_dropOver 38 = .ok (.aload_n 0, 1) := by decide +kernel
theorem dX3_dropOver_39 : decode cX3_dropOver 39 = .ok (.getfield 38, 3) := by decide +kernel
theorem dX3_dropOver_42 : decode cX3_dropOver 42 = .ok (.iload_n 3, 1) := by decide +kernel
theorem dX3_dropOver_43 : decode cX3_dropOver 43 = .ok (.iaload, 1) := by decide +kernel
theorem dX3_dropOver_44 : decode cX3_dropOver 44 = .ok (.iastore, 1) := by decide +kernel
theorem dX3_dropOver_45 : decode cX3_dropOver 45 = .ok (.aload_n 0, 1) := by decide +kernel
theorem dX3_dropOver_46 : decode cX3_dropOver 46 = .ok (.getfield 41, 3) := by decide +kernel
theorem dX3_dropOver_49 : decode cX3_dropOver 49 = .ok (.iload_n 2, 1) := by decide +kernel
theorem dX3_dropOver_50 : decode cX3_dropOver 50 = .ok (.aload_n 0, 1) := by decide +kernel
theorem dX3_dropOver_51 : decode cX3_dropOver 51 = .ok (.getfield 41, 3) := by decide +kernel
theorem dX3_dropOver_54 : decode cX3_dropOver 54 = .ok (.iload_n 3, 1) := by decide +kernel
theorem dX3_dropOver_55 : decode cX3_dropOver 55 = .ok (.iaload, 1) := by decide +kernel
theorem dX3_dropOver_56 : decode cX3_dropOver 56 = .ok (.iastore, 1) := by decide +kernel
theorem dX3_dropOver_57 : decode cX3_dropOver 57 = .ok (.aload_n 0, 1) := by decide +kernel
theorem dX3_dropOver_58 : decode cX3_dropOver 58 = .ok (.getfield 44, 3) := by decide +kernel
theorem dX3_dropOver_61 : decode cX3_dropOver 61 = .ok (.iload_n 2, 1) := by decide +kernel
theorem dX3_dropOver_62 : decode cX3_dropOver 62 = .ok (.aload_n 0, 1) := by decide +kernel
theorem dX3_dropOver_63 : decode cX3_dropOver 63 = .ok (.getfield 44, 3) := by decide +kernel
theorem dX3_dropOver_66 : decode cX3_dropOver 66 = .ok (.iload_n 3, 1) := by decide +kernel
theorem dX3_dropOver_67 : decode cX3_dropOver 67 = .ok (.iaload, 1) := by decide +kernel
theorem dX3_dropOver_68 : decode cX3_dropOver 68 = .ok (.iastore, 1) := by decide +kernel
theorem dX3_dropOver_69 : decode cX3_dropOver 69 = .ok (.iinc 2 1, 3) := by decide +kernel
theorem dX3_dropOver_0 : decode cX3_dropOver 0 = .ok (.iconst 0, 1) := by decide +kernel
theorem dX3_dropOver_1 : decode cX3_dropOver 1 = .ok (.istore_n 2, 1) := by decide +kernel
theorem dX3_dropOver_2 : decode cX3_dropOver 2 = .ok (.iconst 0, 1) := by decide +kernel
theorem dX3_dropOver_3 : decode cX3_dropOver 3 = .ok (.istore_n 3, 1) := by decide +kernel
theorem dX3_placeOfKey_2 : decode cX3_placeOfKey 2 = .ok (.iload_n 2, 1) := by decide +kernel
theorem dX3_placeOfKey_3 : decode cX3_placeOfKey 3 = .ok (.aload_n 0, 1) := by decide +kernel
theorem dX3_placeOfKey_4 : decode cX3_placeOfKey 4 = .ok (.getfield 32, 3) := by decide +kernel
theorem dX3_placeOfKey_7 : decode cX3_placeOfKey 7 = .ok (.if_icmp .ge 21, 3) := by decide +kernel
theorem dX3_placeOfKey_28 : decode cX3_placeOfKey 28 = .ok (.iconst (-1), 1) := by decide +kernel
theorem dX3_placeOfKey_29 : decode cX3_placeOfKey 29 = .ok (.ireturn, 1) := by decide +kernel
theorem dX3_placeOfKey_10 : decode cX3_placeOfKey 10 = .ok (.aload_n 0, 1) := by decide +kernel
theorem dX3_placeOfKey_11 : decode cX3_placeOfKey 11 = .ok (.getfield 35, 3) := by decide +kernel
theorem dX3_placeOfKey_14 : decode cX3_placeOfKey 14 = .ok (.iload_n 2, 1) := by decide +kernel
theorem dX3_placeOfKey_15 : decode cX3_placeOfKey 15 = .ok (.iaload, 1) := by decide +kernel
theorem dX3_placeOfKey_16 : decode cX3_placeOfKey 16 = .ok (.iload_n 1, 1) := by decide +kernel
theorem dX3_placeOfKey_17 : decode cX3_placeOfKey 17 = .ok (.if_icmp .ne 5, 3) := by decide +kernel
theorem dX3_placeOfKey_22 : decode cX3_placeOfKey 22 = .ok (.iinc 2 1, 3) := by decide +kernel
theorem dX3_placeOfKey_25 : decode cX3_placeOfKey 25 = .ok (.goto (-23), 3) := by decide +kernel
theorem dX3_placeOfKey_20 : decode cX3_placeOfKey 20 = .ok (.iload_n 2, 1) := by decide +kernel
theorem dX3_placeOfKey_21 : decode cX3_placeOfKey 21 = .ok (.ireturn, 1) := by decide +kernel
theorem dX3_placeOfKey_0 : decode cX3_placeOfKey 0 = .ok (.iconst 0, 1) := by decide +kernel
theorem dX3_placeOfKey_1 : decode cX3_placeOfKey 1 = .ok (.istore_n 2, 1) := by decide +kernel
theorem dX3_beginKnown_45 : decode cX3_beginKnown 45 = .ok (.iload_n 3, 1) := by decide +kernel
theorem dX3_beginKnown_46 : decode cX3_beginKnown 46 = .ok (.bipush 8, 2) := by decide +kernel
theorem dX3_beginKnown_48 : decode cX3_beginKnown 48 = .ok (.if_icmp .ge 28, 3) := by decide +kernel
theorem dX3_beginKnown_76 : decode cX3_beginKnown 76 = .ok (.return_, 1) := by decide +kernel
theorem dX3_beginKnown_51 : decode cX3_beginKnown 51 = .ok (.aload_n 0, 1) := by decide +kernel
theorem dX3_beginKnown_52 : decode cX3_beginKnown 52 = .ok (.getfield 56, 3) := by decide +kernel
theorem dX3_beginKnown_55 : decode cX3_beginKnown 55 = .ok (.iload_n 3, 1) := by decide +kernel
theorem dX3_beginKnown_56 : decode cX3_beginKnown 56 = .ok (.aload_n 0, 1) := by decide +kernel
theorem dX3_beginKnown_57 : decode cX3_beginKnown 57 = .ok (.getfield 53, 3) := by decide +kernel
theorem dX3_beginKnown_60 : decode cX3_beginKnown 60 = .ok (.iload_n 3, 1) := by decide +kernel
theorem dX3_beginKnown_61 : decode cX3_beginKnown 61 = .ok (.iaload, 1) := by decide +kernel
theorem dX3_beginKnown_62 : decode cX3_beginKnown 62 = .ok (.iastore, 1) := by decide +kernel
theorem dX3_beginKnown_63 : decode cX3_beginKnown 63 = .ok (.aload_n 0, 1) := by decide +kernel
theorem dX3_beginKnown_64 : decode cX3_beginKnown 64 = .ok (.getfield 53, 3) := by decide +kernel
theorem dX3_beginKnown_67 : decode cX3_beginKnown 67 = .ok (.iload_n 3, 1) := by decide +kernel
theorem dX3_beginKnown_68 : decode cX3_beginKnown 68 = .ok (.iconst (-1), 1) := by decide +kernel
theorem dX3_beginKnown_69 : decode cX3_beginKnown 69 = .ok (.iastore, 1) := by decide +kernel
theorem dX3_beginKnown_70 : decode cX3_beginKnown 70 = .ok (.iinc 3 1, 3) := by decide +kernel
theorem dX3_beginKnown_73 : decode cX3_beginKnown 73 = .ok (.goto (-28), 3) := by decide +kernel
theorem dX3_beginKnown_0 : decode cX3_beginKnown 0 = .ok (.aload_n 0, 1) := by decide +kernel
theorem dX3_beginKnown_1 : decode cX3_beginKnown 1 = .ok (.aload_n 0, 1) := by decide +kernel
theorem dX3_beginKnown_2 : decode cX3_beginKnown 2 = .ok (.iconst 3, 1) := by decide +kernel
theorem dX3_beginKnown_3 : decode cX3_beginKnown 3 = .ok (.invokevirtual 73, 3) := by decide +kernel
theorem dX3_beginKnown_6 : decode cX3_beginKnown 6 = .ok (.ifCond .eq 23, 3) := by decide +kernel
theorem dX3_beginKnown_9 : decode cX3_beginKnown 9 = .ok (.aload_n 0, 1) := by decide +kernel
theorem dX3_beginKnown_10 : decode cX3_beginKnown 10 = .ok (.getfield 47, 3) := by decide +kernel
theorem dX3_beginKnown_13 : decode cX3_beginKnown 13 = .ok (.iload_n 1, 1) := by decide +kernel
theorem dX3_beginKnown_14 : decode cX3_beginKnown 14 = .ok (.if_icmp .ne 15, 3) := by decide +kernel
theorem dX3_beginKnown_29 : decode cX3_beginKnown 29 = .ok (.iconst 0, 1) := by decide +kernel
theorem dX3_beginKnown_30 : decode cX3_beginKnown 30 = .ok (.putfield 59, 3) := by decide +kernel
theorem dX3_beginKnown_33 : decode cX3_beginKnown 33 = .ok (.aload_n 0, 1) := by decide +kernel
theorem dX3_beginKnown_34 : decode cX3_beginKnown 34 = .ok (.iload_n 1, 1) := by decide +kernel
theorem dX3_beginKnown_35 : decode cX3_beginKnown 35 = .ok (.putfield 47, 3) := by decide +kernel
theorem dX3_beginKnown_38 : decode cX3_beginKnown 38 = .ok (.aload_n 0, 1) := by decide +kernel
theorem dX3_beginKnown_39 : decode cX3_beginKnown 39 = .ok (.iload_n 2, 1) := by decide +kernel
theorem dX3_beginKnown_40 : decode cX3_beginKnown 40 = .ok (.putfield 50, 3) := by decide +kernel
theorem dX3_beginKnown_43 : decode cX3_beginKnown 43 = .ok (.iconst 0, 1) := by decide +kernel
theorem dX3_beginKnown_44 : decode cX3_beginKnown 44 = .ok (.istore_n 3, 1) := by decide +kernel
theorem dX3_beginKnown_17 : decode cX3_beginKnown 17 = .ok (.aload_n 0, 1) := by decide +kernel
theorem dX3_beginKnown_18 : decode cX3_beginKnown 18 = .ok (.getfield 50, 3) := by decide +kernel
theorem dX3_beginKnown_21 : decode cX3_beginKnown 21 = .ok (.iload_n 2, 1) := by decide +kernel
theorem dX3_beginKnown_22 : decode cX3_beginKnown 22 = .ok (.if_icmp .ne 7, 3) := by decide +kernel
theorem dX3_beginKnown_25 : decode cX3_beginKnown 25 = .ok (.iconst 1, 1) := by decide +kernel
theorem dX3_beginKnown_26 : decode cX3_beginKnown 26 = .ok (.goto 4, 3) := by decide +kernel
theorem dX3_keep_0 : decode cX3_keep 0 = .ok (.aload_n 0, 1) := by decide +kernel
theorem dX3_keep_1 : decode cX3_keep 1 = .ok (.getfield 32, 3) := by decide +kernel
theorem dX3_keep_4 : decode cX3_keep 4 = .ok (.bipush 16, 2) := by decide +kernel
theorem dX3_keep_6 : decode cX3_keep 6 = .ok (.if_icmp .ne 81, 3) := by decide +kernel
theorem dX3_keep_87 : decode cX3_keep 87 = .ok (.aload_n 0, 1) := by decide +kernel
theorem dX3_keep_88 : decode cX3_keep 88 = .ok (.getfield 35, 3) := by decide +kernel
theorem dX3_keep_91 : decode cX3_keep 91 = .ok (.aload_n 0, 1) := by decide +kernel
theorem dX3_keep_92 : decode cX3_keep 92 = .ok (.getfield 32, 3) := by decide +kernel
theorem dX3_keep_95 : decode cX3_keep 95 = .ok (.iload_n 1, 1) := by decide +kernel
theorem dX3_keep_96 : decode cX3_keep 96 = .ok (.iastore, 1) := by decide +kernel
theorem dX3_keep_97 : decode cX3_keep 97 = .ok (.aload_n 0, 1) := by decide +kernel
theorem dX3_keep_98 : decode cX3_keep 98 = .ok (.getfield 38, 3) := by decide +kernel
theorem dX3_keep_101 : decode cX3_keep 101 = .ok (.aload_n 0, 1) := by decide +kernel
theorem dX3_keep_102 : decode cX3_keep 102 = .ok (.getfield 32, 3) := by decide +kernel
theorem dX3_keep_105 : decode cX3_keep 105 = .ok (.iload_n 2, 1) := by decide +kernel
theorem dX3_keep_106 : decode cX3_keep 106 = .ok (.iastore, 1) := by decide +kernel
theorem dX3_keep_107 : decode cX3_keep 107 = .ok (.aload_n 0, 1) := by decide +kernel
theorem dX3_keep_108 : decode cX3_keep 108 = .ok (.getfield 41, 3) := by decide +kernel
theorem dX3_keep_111 : decode cX3_keep 111 = .ok (.aload_n 0, 1) := by decide +kernel
theorem dX3_keep_112 : decode cX3_keep 112 = .ok (.getfield 32, 3) := by decide +kernel
theorem dX3_keep_115 : decode cX3_keep 115 = .ok (.iload_n 3, 1) := by decide +kernel
theorem dX3_keep_116 : decode cX3_keep 116 = .ok (.iastore, 1) := by decide +kernel
theorem dX3_keep_117 : decode cX3_keep 117 = .ok (.aload_n 0, 1) := by decide +kernel
theorem dX3_keep_118 : decode cX3_keep 118 = .ok (.getfield 44, 3) := by decide +kernel
theorem dX3_keep_121 : decode cX3_keep 121 = .ok (.aload_n 0, 1) := by decide +kernel
theorem dX3_keep_122 : decode cX3_keep 122 = .ok (.getfield 32, 3) := by decide +kernel
theorem dX3_keep_125 : decode cX3_keep 125 = .ok (.iload 4, 2) := by decide +kernel
theorem dX3_keep_127 : decode cX3_keep 127 = .ok (.iastore, 1) := by decide +kernel
theorem dX3_keep_128 : decode cX3_keep 128 = .ok (.aload_n 0, 1) := by decide +kernel
theorem dX3_keep_129 : decode cX3_keep 129 = .ok (.dup, 1) := by decide +kernel
theorem dX3_keep_130 : decode cX3_keep 130 = .ok (.getfield 32, 3) := by decide +kernel
theorem dX3_keep_133 : decode cX3_keep 133 = .ok (.iconst 1, 1) := by decide +kernel
theorem dX3_keep_134 : decode cX3_keep 134 = .ok (.iadd, 1) := by decide +kernel
theorem dX3_keep_135 : decode cX3_keep 135 = .ok (.putfield 32, 3) := by decide +kernel
theorem dX3_keep_138 : decode cX3_keep 138 = .ok (.return_, 1) := by decide +kernel
theorem dX3_keep_9 : decode cX3_keep 9 = .ok (.aload_n 0, 1) := by decide +kernel
theorem dX3_keep_10 : decode cX3_keep 10 = .ok (.dup, 1) := by decide +kernel
theorem dX3_keep_11 : decode cX3_keep 11 = .ok (.getfield 32, 3) := by decide +kernel
theorem dX3_keep_14 : decode cX3_keep 14 = .ok (.iconst 1, 1) := by decide +kernel
theorem dX3_keep_15 : decode cX3_keep 15 = .ok (.isub, 1) := by decide +kernel
theorem dX3_keep_16 : decode cX3_keep 16 = .ok (.putfield 32, 3) := by decide +kernel
theorem dX3_keep_19 : decode cX3_keep 19 = .ok (.aload_n 0, 1) := by decide +kernel
theorem dX3_keep_20 : decode cX3_keep 20 = .ok (.getfield 35, 3) := by decide +kernel
theorem dX3_keep_23 : decode cX3_keep 23 = .ok (.iconst 1, 1) := by decide +kernel
theorem dX3_keep_24 : decode cX3_keep 24 = .ok (.aload_n 0, 1) := by decide +kernel
theorem dX3_keep_25 : decode cX3_keep 25 = .ok (.getfield 35, 3) := by decide +kernel
theorem dX3_keep_28 : decode cX3_keep 28 = .ok (.iconst 0, 1) := by decide +kernel
theorem dX3_keep_29 : decode cX3_keep 29 = .ok (.aload_n 0, 1) := by decide +kernel
theorem dX3_keep_30 : decode cX3_keep 30 = .ok (.getfield 32, 3) := by decide +kernel
theorem dX3_keep_33 : decode cX3_keep 33 = .ok (.invokestatic 63, 3) := by decide +kernel
theorem dX3_keep_36 : decode cX3_keep 36 = .ok (.aload_n 0, 1) := by decide +kernel
theorem dX3_keep_37 : decode cX3_keep 37 = .ok (.getfield 38, 3) := by decide +kernel
theorem dX3_keep_40 : decode cX3_keep 40 = .ok (.iconst 1, 1) := by decide +kernel
theorem dX3_keep_41 : decode cX3_keep 41 = .ok (.aload_n 0, 1) := by decide +kernel
theorem dX3_keep_42 : decode cX3_keep 42 = .ok (.getfield 38, 3) := by decide +kernel
theorem dX3_keep_45 : decode cX3_keep 45 = .ok (.iconst 0, 1) := by decide +kernel
theorem dX3_keep_46 : decode cX3_keep 46 = .ok (.aload_n 0, 1) := by decide +kernel
theorem dX3_keep_47 : decode cX3_keep 47 = .ok (.getfield 32, 3) := by decide +kernel
theorem dX3_keep_50 : decode cX3_keep 50 = .ok (.invokestatic 63, 3) := by decide +kernel
theorem dX3_keep_53 : decode cX3_keep 53 = .ok (.aload_n 0, 1) := by decide +kernel
theorem dX3_keep_54 : decode cX3_keep 54 = .ok (.getfield 41, 3) := by decide +kernel
theorem dX3_keep_57 : decode cX3_keep 57 = .ok (.iconst 1, 1) := by decide +kernel
theorem dX3_keep_58 : decode cX3_keep 58 = .ok (.aload_n 0, 1) := by decide +kernel
theorem dX3_keep_59 : decode cX3_keep 59 = .ok (.getfield 41, 3) := by decide +kernel
theorem dX3_keep_62 : decode cX3_keep 62 = .ok (.iconst 0, 1) := by decide +kernel
theorem dX3_keep_63 : decode cX3_keep 63 = .ok (.aload_n 0, 1) := by decide +kernel
theorem dX3_keep_64 : decode cX3_keep 64 = .ok (.getfield 32, 3) := by decide +kernel
theorem dX3_keep_67 : decode cX3_keep 67 = .ok (.invokestatic 63, 3) := by decide +kernel
theorem dX3_keep_70 : decode cX3_keep 70 = .ok (.aload_n 0, 1) := by decide +kernel
theorem dX3_keep_71 : decode cX3_keep 71 = .ok (.getfield 44, 3) := by decide +kernel
theorem dX3_keep_74 : decode cX3_keep 74 = .ok (.iconst 1, 1) := by decide +kernel
theorem dX3_keep_75 : decode cX3_keep 75 = .ok (.aload_n 0, 1) := by decide +kernel
theorem dX3_keep_76 : decode cX3_keep 76 = .ok (.getfield 44, 3) := by decide +kernel
theorem dX3_keep_79 : decode cX3_keep 79 = .ok (.iconst 0, 1) := by decide +kernel
theorem dX3_keep_80 : decode cX3_keep 80 = .ok (.aload_n 0, 1) := by decide +kernel
theorem dX3_keep_81 : decode cX3_keep 81 = .ok (.getfield 32, 3) := by decide +kernel
theorem dX3_keep_84 : decode cX3_keep 84 = .ok (.invokestatic 63, 3) := by decide +kernel
abbrev md_s_has : Nat → Nat → Bool := mdf []
set_option maxHeartbeats 4000000 in
set_option maxRecDepth 100000 in
theorem s_has (l : Launch) (D : va_G) (cI cZ cS cR : ClassId) (N0 : NT) (g : GS) (hI : Inv g) (h : Nat) (n : Int32) (sv : Int32) (r_h : g.1 h = 6) (ksv : g.2.1 h 1 = .int sv) (l_sv : 0 ≤ sv.toInt) (u_sv : sv.toInt ≤ 6) : Ty l D cI cZ cS cR N0 yX5_has cX5_has 2 (some .boolean) 0 0 0 [.ref h, .int n] g (fun v g' => ∃ (r : Int32), v = some (.int r) ∧ g' = g ∧ ((r = 1 ∧ 0 ≤ n.toInt ∧ n.toInt < sv.toInt) ∨ (r = 0 ∧ (n.toInt < 0 ∨ sv.toInt ≤ n.toInt)))) := by
  refine t_enter (by decide) (Nat.le_of_ble_eq_true rfl) ?_
  intro p e s m args below meth c ls H locs hB hr hin hl hT
  have hx := hB.1
  have hb := hB.2.1
  have hl : lv_has ls 2 [(0, .ref h), (1, .int n)] := hl
  have hE : Ex g g := Ex.rf
  have hM : Sm md_s_has g g := Sm.rf
  refine lv_iload_n hx hb dX5_has_0 rfl (lv_at hl 1 rfl) ?_
  refine lv_if_lt (tgt := 16) hx hb dX5_has_1 (by decide) (fun c_1 => ?_) (fun c_1 => ?_)
  · have c_1' : n.toInt < 0 := i_lt c_1 rfl (by decide)
    refine lv_iconst (v := 0) hx hb dX5_has_16 (by decide) ?_
    exact t_zret hB hr rfl hT (Nat.le_of_ble_eq_true rfl) (Nat.le_of_ble_eq_true rfl) dX5_has_17 ⟨0, rfl, rfl, (Or.inr ⟨rfl, by omega⟩)⟩
  · have c_1' : 0 ≤ n.toInt := i_nlt c_1 rfl (by decide)
    refine lv_iload_n hx hb dX5_has_4 rfl (lv_at hl 1 rfl) ?_
    refine lv_aload_n hx hb dX5_has_5 rfl (lv_at hl 0 rfl) ?_
    refine t_get (ci := 5) (v := .int sv) hB hT (ro_ci r_h rfl) rfl 1 (by decide) k_202 ksv dX5_has_6 ?_
    refine lv_icmp_ge (tgt := 16) hx hb dX5_has_9 (by decide) (fun c_2 => ?_) (fun c_2 => ?_)
    · have c_2' : sv.toInt ≤ n.toInt := i_le c_2 rfl rfl
      refine lv_iconst (v := 0) hx hb dX5_has_16 (by decide) ?_
      exact t_zret hB hr rfl hT (Nat.le_of_ble_eq_true rfl) (Nat.le_of_ble_eq_true rfl) dX5_has_17 ⟨0, rfl, rfl, (Or.inr ⟨rfl, by omega⟩)⟩
    · have c_2' : n.toInt < sv.toInt := i_nle c_2 rfl rfl
      refine lv_iconst (v := 1) hx hb dX5_has_12 (by decide) ?_
      refine lv_goto (tgt := 17) hx hb dX5_has_13 (by decide) ?_
      exact t_zret hB hr rfl hT (Nat.le_of_ble_eq_true rfl) (Nat.le_of_ble_eq_true rfl) dX5_has_17 ⟨1, rfl, rfl, (Or.inl ⟨rfl, by omega, by omega⟩)⟩
abbrev md_s_canAsk : Nat → Nat → Bool := mdf []
set_option maxHeartbeats 4000000 in
set_option maxRecDepth 100000 in
theorem s_canAsk (l : Launch) (D : va_G) (cI cZ cS cR : ClassId) (N0 : NT) (g : GS) (hI : Inv g) (h : Nat) (n : Int32) (k : Int32) (r_h : g.1 h = 6) : Ty l D cI cZ cS cR N0 yX5_canAsk cX5_canAsk 3 (some .boolean) 0 0 0 [.ref h, .int n, .int k] g (fun v g' => ∃ (r : Int32), v = some (.int r) ∧ g' = g ∧ ((r = 1 ∧ n.toInt < k.toInt ∧ k.toInt ≤ 5) ∨ r = 0)) := by
  refine t_enter (by decide) (Nat.le_of_ble_eq_true rfl) ?_
  intro p e s m args below meth c ls H locs hB hr hin hl hT
  have hx := hB.1
  have hb := hB.2.1
  have hl : lv_has ls 3 [(0, .ref h), (1, .int n), (2, .int k)] := hl
  have hE : Ex g g := Ex.rf
  have hM : Sm md_s_canAsk g g := Sm.rf
  refine lv_iload_n hx hb dX5_canAsk_0 rfl (lv_at hl 2 rfl) ?_
  refine lv_iload_n hx hb dX5_canAsk_1 rfl (lv_at hl 1 rfl) ?_
  refine lv_icmp_le (tgt := 17) hx hb dX5_canAsk_2 (by decide) (fun c_1 => ?_) (fun c_1 => ?_)
  · have c_1' : k.toInt ≤ n.toInt := i_le c_1 rfl rfl
    refine lv_iconst (v := 0) hx hb dX5_canAsk_17 (by decide) ?_
    exact t_zret hB hr rfl hT (Nat.le_of_ble_eq_true rfl) (Nat.le_of_ble_eq_true rfl) dX5_canAsk_18 ⟨0, rfl, rfl, (Or.inr rfl)⟩
  · have c_1' : n.toInt < k.toInt := i_nle c_1 rfl rfl
    refine lv_iload_n hx hb dX5_canAsk_5 rfl (lv_at hl 2 rfl) ?_
    refine lv_aload_n hx hb dX5_canAsk_6 rfl (lv_at hl 0 rfl) ?_
    obtain ⟨v_2, e_v_2, l_v_2, u_v_2⟩ := f_6_1 hI r_h
    refine t_get (ci := 5) (v := .int v_2) hB hT (ro_ci r_h rfl) rfl 1 (by decide) k_202 e_v_2 dX5_canAsk_7 ?_
    refine lv_icmp_ge (tgt := 17) hx hb dX5_canAsk_10 (by decide) (fun c_3 => ?_) (fun c_3 => ?_)
    · have c_3' : v_2.toInt ≤ k.toInt := i_le c_3 rfl rfl
      refine lv_iconst (v := 0) hx hb dX5_canAsk_17 (by decide) ?_
      exact t_zret hB hr rfl hT (Nat.le_of_ble_eq_true rfl) (Nat.le_of_ble_eq_true rfl) dX5_canAsk_18 ⟨0, rfl, rfl, (Or.inr rfl)⟩
    · have c_3' : k.toInt < v_2.toInt := i_nle c_3 rfl rfl
      refine lv_iconst (v := 1) hx hb dX5_canAsk_13 (by decide) ?_
      refine lv_goto (tgt := 18) hx hb dX5_canAsk_14 (by decide) ?_
      exact t_zret hB hr rfl hT (Nat.le_of_ble_eq_true rfl) (Nat.le_of_ble_eq_true rfl) dX5_canAsk_18 ⟨1, rfl, rfl, (Or.inl ⟨rfl, by omega, by omega⟩)⟩
abbrev md_s_isMended : Nat → Nat → Bool := mdf []
set_option maxHeartbeats 4000000 in
set_option maxRecDepth 100000 in
theorem s_isMended (l : Launch) (D : va_G) (cI cZ cS cR : ClassId) (N0 : NT) (g : GS) (hI : Inv g) (h : Nat) (n : Int32) (r_h : g.1 h = 4) : Ty l D cI cZ cS cR N0 yX3_isMended cX3_isMended 2 (some .boolean) 0 0 0 [.ref h, .int n] g (fun v g' => ∃ (r : Int32), v = some (.int r) ∧ g' = g ∧ (r = 1 ∨ r = 0)) := by
  refine t_enter (by decide) (Nat.le_of_ble_eq_true rfl) ?_
  intro p e s m args below meth c ls H locs hB hr hin hl hT
  have hx := hB.1
  have hb := hB.2.1
  have hl : lv_has ls 2 [(0, .ref h), (1, .int n)] := hl
  have hE : Ex g g := Ex.rf
  have hM : Sm md_s_isMended g g := Sm.rf
  refine lv_aload_n hx hb dX3_isMended_0 rfl (lv_at hl 0 rfl) ?_
  obtain ⟨v_1, e_v_1⟩ := f_4_3 hI r_h
  refine t_get (ci := 3) (v := .int v_1) hB hT (ro_ci r_h rfl) rfl 3 (by decide) k_152 e_v_1 dX3_isMended_1 ?_
  refine lv_iload_n hx hb dX3_isMended_4 rfl (lv_at hl 1 rfl) ?_
  refine lv_ishr hx hb dX3_isMended_5 ?_
  refine lv_topi (fun z_2 ez_2 => ?_)
  refine lv_iconst (v := 1) hx hb dX3_isMended_6 (by decide) ?_
  refine lv_iand hx hb dX3_isMended_7 ?_
  refine lv_topi (fun z_3 ez_3 => ?_)
  have e_z_3 := i_and 1 (b := 1) ez_3 (by decide) (by decide) (by decide)
  refine lv_iconst (v := 1) hx hb dX3_isMended_8 (by decide) ?_
  refine lv_icmp_ne (tgt := 16) hx hb dX3_isMended_9 (by decide) (fun c_4 => ?_) (fun c_4 => ?_)
  · have c_4' : z_3.toInt ≠ 1 := i_ne c_4 rfl (by decide)
    refine lv_iconst (v := 0) hx hb dX3_isMended_16 (by decide) ?_
    exact t_zret hB hr rfl hT (Nat.le_of_ble_eq_true rfl) (Nat.le_of_ble_eq_true rfl) dX3_isMended_17 ⟨0, rfl, rfl, (Or.inr rfl)⟩
  · have c_4' : z_3.toInt = 1 := i_eq c_4 rfl (by decide)
    refine lv_iconst (v := 1) hx hb dX3_isMended_12 (by decide) ?_
    refine lv_goto (tgt := 17) hx hb dX3_isMended_13 (by decide) ?_
    exact t_zret hB hr rfl hT (Nat.le_of_ble_eq_true rfl) (Nat.le_of_ble_eq_true rfl) dX3_isMended_17 ⟨1, rfl, rfl, (Or.inl rfl)⟩
abbrev md_s_isOver : Nat → Nat → Bool := mdf []
set_option maxHeartbeats 4000000 in
set_option maxRecDepth 100000 in
theorem s_isOver (l : Launch) (D : va_G) (cI cZ cS cR : ClassId) (N0 : NT) (g : GS) (hI : Inv g) (h : Nat) (n : Int32) (k : Int32) (r_h : g.1 h = 4) (l_n : 0 ≤ n.toInt) (u_n : n.toInt ≤ 15) : Ty l D cI cZ cS cR N0 yX3_isOver cX3_isOver 3 (some .boolean) 0 0 0 [.ref h, .int n, .int k] g (fun v g' => ∃ (r : Int32), v = some (.int r) ∧ g' = g ∧ (r = 1 ∨ r = 0)) := by
  refine t_enter (by decide) (Nat.le_of_ble_eq_true rfl) ?_
  intro p e s m args below meth c ls H locs hB hr hin hl hT
  have hx := hB.1
  have hb := hB.2.1
  have hl : lv_has ls 3 [(0, .ref h), (1, .int n), (2, .int k)] := hl
  have hE : Ex g g := Ex.rf
  have hM : Sm md_s_isOver g g := Sm.rf
  refine lv_iload_n hx hb dX3_isOver_0 rfl (lv_at hl 2 rfl) ?_
  refine lv_aload_n hx hb dX3_isOver_1 rfl (lv_at hl 0 rfl) ?_
  obtain ⟨v_1, e_v_1, r_v_1, n_v_1⟩ := f_4_9 hI r_h
  refine t_get (ci := 3) (v := .ref v_1) hB hT (ro_ci r_h rfl) rfl 9 (by decide) k_162 e_v_1 dX3_isOver_2 ?_
  refine lv_iload_n hx hb dX3_isOver_5 rfl (lv_at hl 1 rfl) ?_
  have i_u_2 : vp_in n 16 := (i_in (n := 16) rfl (by omega) (by omega))
  refine t_iald hB hT (ro_in r_v_1 (by decide)) n_v_1 i_u_2 rfl dX3_isOver_6 ?_
  refine lv_topi (fun u_2 e_u_2 => ?_)
  refine lv_aload_n hx hb dX3_isOver_7 rfl (lv_at hl 0 rfl) ?_
  obtain ⟨v_3, e_v_3⟩ := f_4_4 hI r_h
  refine t_get (ci := 3) (v := .int v_3) hB hT (ro_ci r_h rfl) rfl 4 (by decide) k_155 e_v_3 dX3_isOver_8 ?_
  refine lv_iadd hx hb dX3_isOver_11 ?_
  refine lv_topi (fun z_4 ez_4 => ?_)
  refine lv_icmp_le (tgt := 19) hx hb dX3_isOver_12 (by decide) (fun c_5 => ?_) (fun c_5 => ?_)
  · have c_5' : k.toInt ≤ z_4.toInt := i_le c_5 rfl rfl
    refine lv_iconst (v := 0) hx hb dX3_isOver_19 (by decide) ?_
    exact t_zret hB hr rfl hT (Nat.le_of_ble_eq_true rfl) (Nat.le_of_ble_eq_true rfl) dX3_isOver_20 ⟨0, rfl, rfl, (Or.inr rfl)⟩
  · have c_5' : z_4.toInt < k.toInt := i_nle c_5 rfl rfl
    refine lv_iconst (v := 1) hx hb dX3_isOver_15 (by decide) ?_
    refine lv_goto (tgt := 20) hx hb dX3_isOver_16 (by decide) ?_
    exact t_zret hB hr rfl hT (Nat.le_of_ble_eq_true rfl) (Nat.le_of_ble_eq_true rfl) dX3_isOver_20 ⟨1, rfl, rfl, (Or.inl rfl)⟩
abbrev md_s_keptAnswer : Nat → Nat → Bool := mdf []
set_option maxHeartbeats 4000000 in
set_option maxRecDepth 100000 in
theorem s_keptAnswer (l : Launch) (D : va_G) (cI cZ cS cR : ClassId) (N0 : NT) (g : GS) (hI : Inv g) (h : Nat) (n : Int32) (k : Int32) (r_h : g.1 h = 4) (l_n : 0 ≤ n.toInt) (u_n : n.toInt ≤ 15) : Ty l D cI cZ cS cR N0 yX3_keptAnswer cX3_keptAnswer 3 (some .int) 0 0 0 [.ref h, .int n, .int k] g (fun v g' => ∃ (r : Int32), v = some (.int r) ∧ g' = g) := by
  refine t_enter (by decide) (Nat.le_of_ble_eq_true rfl) ?_
  intro p e s m args below meth c ls H locs hB hr hin hl hT
  have hx := hB.1
  have hb := hB.2.1
  have hl : lv_has ls 3 [(0, .ref h), (1, .int n), (2, .int k)] := hl
  have hE : Ex g g := Ex.rf
  have hM : Sm md_s_keptAnswer g g := Sm.rf
  refine lv_aload_n hx hb dX3_keptAnswer_0 rfl (lv_at hl 0 rfl) ?_
  obtain ⟨v_1, e_v_1, r_v_1, n_v_1⟩ := f_4_7 hI r_h
  refine t_get (ci := 3) (v := .ref v_1) hB hT (ro_ci r_h rfl) rfl 7 (by decide) k_160 e_v_1 dX3_keptAnswer_1 ?_
  refine lv_iload_n hx hb dX3_keptAnswer_4 rfl (lv_at hl 1 rfl) ?_
  have i_u_2 : vp_in n 16 := (i_in (n := 16) rfl (by omega) (by omega))
  refine t_iald hB hT (ro_in r_v_1 (by decide)) n_v_1 i_u_2 rfl dX3_keptAnswer_5 ?_
  refine lv_topi (fun u_2 e_u_2 => ?_)
  refine lv_iload_n hx hb dX3_keptAnswer_6 rfl (lv_at hl 2 rfl) ?_
  refine lv_icmp_ne (tgt := 19) hx hb dX3_keptAnswer_7 (by decide) (fun c_3 => ?_) (fun c_3 => ?_)
  · have c_3' : u_2.toInt ≠ k.toInt := i_ne c_3 rfl rfl
    refine lv_iconst (v := (-1)) hx hb dX3_keptAnswer_19 (by decide) ?_
    exact t_iret hB hr hT (Nat.le_of_ble_eq_true rfl) (Nat.le_of_ble_eq_true rfl) dX3_keptAnswer_20 ⟨(-1), rfl, rfl⟩
  · have c_3' : u_2.toInt = k.toInt := i_eq c_3 rfl rfl
    refine lv_aload_n hx hb dX3_keptAnswer_10 rfl (lv_at hl 0 rfl) ?_
    obtain ⟨v_4, e_v_4, r_v_4, n_v_4⟩ := f_4_8 hI r_h
    refine t_get (ci := 3) (v := .ref v_4) hB hT (ro_ci r_h rfl) rfl 8 (by decide) k_161 e_v_4 dX3_keptAnswer_11 ?_
    refine lv_iload_n hx hb dX3_keptAnswer_14 rfl (lv_at hl 1 rfl) ?_
    have i_u_5 : vp_in n 16 := (i_in (n := 16) rfl (by omega) (by omega))
    refine t_iald hB hT (ro_in r_v_4 (by decide)) n_v_4 i_u_5 rfl dX3_keptAnswer_15 ?_
    refine lv_topi (fun u_5 e_u_5 => ?_)
    refine lv_goto (tgt := 20) hx hb dX3_keptAnswer_16 (by decide) ?_
    exact t_iret hB hr hT (Nat.le_of_ble_eq_true rfl) (Nat.le_of_ble_eq_true rfl) dX3_keptAnswer_20 ⟨u_5, rfl, rfl⟩
abbrev md_s_answerNewest : Nat → Nat → Bool := mdf [(50, 99)]
set_option maxHeartbeats 4000000 in
set_option maxRecDepth 100000 in
theorem s_answerNewest (l : Launch) (D : va_G) (cI cZ cS cR : ClassId) (N0 : NT) (g : GS) (hI : Inv g) (h : Nat) (n : Int32) (k : Int32) (r_h : g.1 h = 4) : Ty l D cI cZ cS cR N0 yX3_answerNewest cX3_answerNewest 3 none 0 0 0 [.ref h, .int n, .int k] g (fun v g' => v = none ∧ Inv g' ∧ Ex g g' ∧ Sm md_s_answerNewest g g') := by
  refine t_enter (by decide) (Nat.le_of_ble_eq_true rfl) ?_
  intro p e s m args below meth c ls H locs hB hr hin hl hT
  have hx := hB.1
  have hb := hB.2.1
  have hl : lv_has ls 3 [(0, .ref h), (1, .int n), (2, .int k)] := hl
  have hE : Ex g g := Ex.rf
  have hM : Sm md_s_answerNewest g g := Sm.rf
  refine lv_aload_n hx hb dX3_answerNewest_0 rfl (lv_at hl 0 rfl) ?_
  obtain ⟨v_1, e_v_1, l_v_1, u_v_1⟩ := f_4_5 hI r_h
  refine t_get (ci := 3) (v := .int v_1) hB hT (ro_ci r_h rfl) rfl 5 (by decide) k_158 e_v_1 dX3_answerNewest_1 ?_
  refine lv_if_le (tgt := 34) hx hb dX3_answerNewest_4 (by decide) (fun c_2 => ?_) (fun c_2 => ?_)
  · have c_2' : v_1.toInt ≤ 0 := i_le c_2 rfl (by decide)
    exact t_vret hB hr hT (Nat.le_of_ble_eq_true rfl) (Nat.le_of_ble_eq_true rfl) dX3_answerNewest_34 ⟨rfl, hI, hE, hM⟩
  · have c_2' : 0 < v_1.toInt := i_nle c_2 rfl (by decide)
    refine lv_aload_n hx hb dX3_answerNewest_7 rfl (lv_at hl 0 rfl) ?_
    obtain ⟨v_3, e_v_3, r_v_3, n_v_3⟩ := f_4_6 hI r_h
    refine t_get (ci := 3) (v := .ref v_3) hB hT (ro_ci r_h rfl) rfl 6 (by decide) k_159 e_v_3 dX3_answerNewest_8 ?_
    refine lv_aload_n hx hb dX3_answerNewest_11 rfl (lv_at hl 0 rfl) ?_
    refine t_get (ci := 3) (v := .int v_1) hB hT (ro_ci r_h rfl) rfl 5 (by decide) k_158 e_v_1 dX3_answerNewest_12 ?_
    refine lv_iconst (v := 1) hx hb dX3_answerNewest_15 (by decide) ?_
    refine lv_isub hx hb dX3_answerNewest_16 ?_
    refine lv_topi (fun z_4 ez_4 => ?_)
    have e_z_4 : z_4.toInt = v_1.toInt - 1 := i_sub ez_4 rfl (by decide) (by omega) (by omega)
    have i_u_5 : vp_in z_4 16 := (i_in (n := 16) rfl (by omega) (by omega))
    refine t_iald hB hT (ro_in r_v_3 (by decide)) n_v_3 i_u_5 rfl dX3_answerNewest_17 ?_
    refine lv_topi (fun u_5 e_u_5 => ?_)
    refine lv_iload_n hx hb dX3_answerNewest_18 rfl (lv_at hl 1 rfl) ?_
    refine lv_icmp_ne (tgt := 34) hx hb dX3_answerNewest_19 (by decide) (fun c_6 => ?_) (fun c_6 => ?_)
    · have c_6' : u_5.toInt ≠ n.toInt := i_ne c_6 rfl rfl
      exact t_vret hB hr hT (Nat.le_of_ble_eq_true rfl) (Nat.le_of_ble_eq_true rfl) dX3_answerNewest_34 ⟨rfl, hI, hE, hM⟩
    · have c_6' : u_5.toInt = n.toInt := i_eq c_6 rfl rfl
      refine lv_aload_n hx hb dX3_answerNewest_22 rfl (lv_at hl 0 rfl) ?_
      obtain ⟨v_7, e_v_7, r_v_7, n_v_7⟩ := f_4_8 hI r_h
      refine t_get (ci := 3) (v := .ref v_7) hB hT (ro_ci r_h rfl) rfl 8 (by decide) k_161 e_v_7 dX3_answerNewest_23 ?_
      refine lv_aload_n hx hb dX3_answerNewest_26 rfl (lv_at hl 0 rfl) ?_
      refine t_get (ci := 3) (v := .int v_1) hB hT (ro_ci r_h rfl) rfl 5 (by decide) k_158 e_v_1 dX3_answerNewest_27 ?_
      refine lv_iconst (v := 1) hx hb dX3_answerNewest_30 (by decide) ?_
      refine lv_isub hx hb dX3_answerNewest_31 ?_
      refine lv_topi (fun z_8 ez_8 => ?_)
      have e_z_8 : z_8.toInt = v_1.toInt - 1 := i_sub ez_8 rfl (by decide) (by omega) (by omega)
      refine lv_iload_n hx hb dX3_answerNewest_32 rfl (lv_at hl 2 rfl) ?_
      have i_9 : vp_in z_8 16 := (i_in (n := 16) rfl (by omega) (by omega))
      refine t_iast hB hT (ro_in r_v_7 (by decide)) n_v_7 i_9 dX3_answerNewest_33 (fun H locs hT => ?_)
      have hI : Inv (sC g v_7 z_8.toNatClampNeg k) := hI.sC (ck r_v_7 trivial)
      have hM : Sm md_s_answerNewest g (sC g v_7 z_8.toNatClampNeg k) := hM.tr hE (Sm_sC (by rw [r_v_7]; rfl))
      have hE : Ex g (sC g v_7 z_8.toNatClampNeg k) := hE
      exact t_vret hB hr hT (Nat.le_of_ble_eq_true rfl) (Nat.le_of_ble_eq_true rfl) dX3_answerNewest_34 ⟨rfl, hI, hE, hM⟩
abbrev md_s_isHeldBack : Nat → Nat → Bool := mdf [(50, 99)]
set_option maxHeartbeats 4000000 in
set_option maxRecDepth 100000 in
theorem s_isHeldBack (l : Launch) (D : va_G) (cI cZ cS cR : ClassId) (N0 : NT) (g : GS) (hI : Inv g) (h : Nat) (n : Int32) (k : Int32) (r_h : g.1 h = 4) (l_n : 0 ≤ n.toInt) (u_n : n.toInt ≤ 7) : Ty l D cI cZ cS cR N0 yX3_isHeldBack cX3_isHeldBack 6 (some .boolean) 0 0 0 [.ref h, .int n, .int k] g (fun v g' => ∃ (r : Int32), v = some (.int r) ∧ Inv g' ∧ Ex g g' ∧ Sm md_s_isHeldBack g g' ∧ (r = 1 ∨ r = 0)) := by
  refine t_enter (by decide) (Nat.le_of_ble_eq_true rfl) ?_
  intro p e s m args below meth c ls H locs hB hr hin hl hT
  have hx := hB.1
  have hb := hB.2.1
  have hl : lv_has ls 6 [(0, .ref h), (1, .int n), (2, .int k)] := hl
  have hE : Ex g g := Ex.rf
  have hM : Sm md_s_isHeldBack g g := Sm.rf
  refine lv_aload_n hx hb dX3_isHeldBack_0 rfl (lv_at hl 0 rfl) ?_
  obtain ⟨v_1, e_v_1, r_v_1⟩ := f_4_0 hI r_h
  refine t_get (ci := 3) (v := .ref v_1) hB hT (ro_ci r_h rfl) rfl 0 (by decide) k_143 e_v_1 dX3_isHeldBack_1 ?_
  obtain ⟨v_2, e_v_2, r_v_2, n_v_2⟩ := f_3_0 hI r_v_1
  refine t_get (ci := 2) (v := .ref v_2) hB hT (ro_ci r_v_1 rfl) rfl 0 (by decide) k_124 e_v_2 dX3_isHeldBack_4 ?_
  refine lv_iload_n hx hb dX3_isHeldBack_7 rfl (lv_at hl 1 rfl) ?_
  have i_u_3 : vp_in n 8 := (i_in (n := 8) rfl (by omega) (by omega))
  refine t_iald hB hT (ro_in r_v_2 (by decide)) n_v_2 i_u_3 rfl dX3_isHeldBack_8 ?_
  refine lv_topi (fun u_3 e_u_3 => ?_)
  refine lv_istore_n (lv' := [(3, .int u_3), (0, .ref h), (1, .int n), (2, .int k)]) hx hb dX3_isHeldBack_9 rfl hl (by decide) rfl (fun ls hl => ?_)
  refine lv_iload_n hx hb dX3_isHeldBack_10 rfl (lv_at hl 0 rfl) ?_
  refine lv_bipush (v := 10) hx hb dX3_isHeldBack_11 (by decide) ?_
  refine lv_imul hx hb dX3_isHeldBack_13 ?_
  refine lv_topi (fun z_4 ez_4 => ?_)
  refine lv_aload_n hx hb dX3_isHeldBack_14 rfl (lv_at hl 1 rfl) ?_
  refine t_get (ci := 3) (v := .ref v_1) hB hT (ro_ci r_h rfl) rfl 0 (by decide) k_143 e_v_1 dX3_isHeldBack_15 ?_
  obtain ⟨v_5, e_v_5, r_v_5, n_v_5⟩ := f_3_1 hI r_v_1
  refine t_get (ci := 2) (v := .ref v_5) hB hT (ro_ci r_v_1 rfl) rfl 1 (by decide) k_128 e_v_5 dX3_isHeldBack_18 ?_
  refine lv_iload_n hx hb dX3_isHeldBack_21 rfl (lv_at hl 2 rfl) ?_
  have i_u_6 : vp_in n 8 := (i_in (n := 8) rfl (by omega) (by omega))
  refine t_iald hB hT (ro_in r_v_5 (by decide)) n_v_5 i_u_6 rfl dX3_isHeldBack_22 ?_
  have c_u_6 := hI.c r_v_5 n_v_5 (i_cl i_u_6)
  refine lv_topi (fun u_6 e_u_6 => ?_)
  obtain ⟨l_u_6, u_u_6⟩ := c_u_6
  rw [← e_u_6] at l_u_6 u_u_6
  refine lv_iadd hx hb dX3_isHeldBack_23 ?_
  refine lv_topi (fun z_7 ez_7 => ?_)
  refine lv_sipush (v := 1000) hx hb dX3_isHeldBack_24 (by decide) ?_
  refine lv_imul hx hb dX3_isHeldBack_27 ?_
  refine lv_topi (fun z_8 ez_8 => ?_)
  refine lv_iload_n hx hb dX3_isHeldBack_28 rfl (lv_at hl 3 rfl) ?_
  refine lv_iadd hx hb dX3_isHeldBack_29 ?_
  refine lv_topi (fun z_9 ez_9 => ?_)
  refine lv_istore (lv' := [(4, .int z_9), (3, .int u_3), (0, .ref h), (1, .int n), (2, .int k)]) hx hb dX3_isHeldBack_30 hl (by decide) rfl (fun ls hl => ?_)
  refine lv_aload_n hx hb dX3_isHeldBack_32 rfl (lv_at hl 2 rfl) ?_
  obtain ⟨v_10, e_v_10, r_v_10, n_v_10⟩ := f_4_12 hI r_h
  refine t_get (ci := 3) (v := .ref v_10) hB hT (ro_ci r_h rfl) rfl 12 (by decide) k_165 e_v_10 dX3_isHeldBack_33 ?_
  refine lv_iload_n hx hb dX3_isHeldBack_36 rfl (lv_at hl 3 rfl) ?_
  refine lv_iload hx hb dX3_isHeldBack_37 (lv_at hl 0 rfl) ?_
  have i_11 : vp_in n 8 := (i_in (n := 8) rfl (by omega) (by omega))
  refine t_iast hB hT (ro_in r_v_10 (by decide)) n_v_10 i_11 dX3_isHeldBack_39 (fun H locs hT => ?_)
  have hI : Inv (sC g v_10 n.toNatClampNeg z_9) := hI.sC (ck r_v_10 trivial)
  have hM : Sm md_s_isHeldBack g (sC g v_10 n.toNatClampNeg z_9) := hM.tr hE (Sm_sC (by rw [r_v_10]; rfl))
  have hE : Ex g (sC g v_10 n.toNatClampNeg z_9) := hE
  refine lv_iload_n hx hb dX3_isHeldBack_40 rfl (lv_at hl 1 rfl) ?_
  refine lv_if_eq (tgt := 55) hx hb dX3_isHeldBack_41 (by decide) (fun c_12 => ?_) (fun c_12 => ?_)
  · have c_12' : u_3.toInt = 0 := i_eq c_12 rfl (by decide)
    refine lv_iconst (v := 1) hx hb dX3_isHeldBack_55 (by decide) ?_
    refine lv_goto (tgt := 60) hx hb dX3_isHeldBack_56 (by decide) ?_
    refine lv_istore (lv' := [(5, .int 1), (4, .int z_9), (3, .int u_3), (0, .ref h), (1, .int n), (2, .int k)]) hx hb dX3_isHeldBack_60 hl (by decide) rfl (fun ls hl => ?_)
    refine lv_iload hx hb dX3_isHeldBack_62 (lv_at hl 0 rfl) ?_
    refine lv_if_eq (tgt := 89) hx hb dX3_isHeldBack_64 (by decide) (fun c_ => absurd c_ (by decide)) (fun c_ => ?_)
    refine lv_aload_n hx hb dX3_isHeldBack_67 rfl (lv_at hl 3 rfl) ?_
    obtain ⟨v_13, e_v_13, l_v_13, u_v_13⟩ := f_4_14 hI r_h
    refine t_get (ci := 3) (v := .int v_13) hB hT (ro_ci r_h rfl) rfl 14 (by decide) k_167 e_v_13 dX3_isHeldBack_68 ?_
    refine lv_if_eq (tgt := 89) hx hb dX3_isHeldBack_71 (by decide) (fun c_14 => ?_) (fun c_14 => ?_)
    · have c_14' : v_13.toInt = 0 := i_eq c_14 rfl (by decide)
      refine lv_iconst (v := 0) hx hb dX3_isHeldBack_89 (by decide) ?_
      exact t_zret hB hr rfl hT (Nat.le_of_ble_eq_true rfl) (Nat.le_of_ble_eq_true rfl) dX3_isHeldBack_90 ⟨0, rfl, hI, hE, hM, (Or.inr rfl)⟩
    · have c_14' : v_13.toInt ≠ 0 := i_ne c_14 rfl (by decide)
      refine lv_aload_n hx hb dX3_isHeldBack_74 rfl (lv_at hl 3 rfl) ?_
      obtain ⟨v_15, e_v_15, r_v_15, n_v_15⟩ := f_4_13 hI r_h
      refine t_get (ci := 3) (v := .ref v_15) hB hT (ro_ci r_h rfl) rfl 13 (by decide) k_166 e_v_15 dX3_isHeldBack_75 ?_
      refine lv_iload_n hx hb dX3_isHeldBack_78 rfl (lv_at hl 4 rfl) ?_
      have i_u_16 : vp_in n 8 := (i_in (n := 8) rfl (by omega) (by omega))
      refine t_iald hB hT (ro_in r_v_15 (by decide)) n_v_15 i_u_16 rfl dX3_isHeldBack_79 ?_
      refine lv_topi (fun u_16 e_u_16 => ?_)
      refine lv_iload hx hb dX3_isHeldBack_80 (lv_at hl 1 rfl) ?_
      refine lv_icmp_ne (tgt := 89) hx hb dX3_isHeldBack_82 (by decide) (fun c_17 => ?_) (fun c_17 => ?_)
      · have c_17' : u_16.toInt ≠ z_9.toInt := i_ne c_17 rfl rfl
        refine lv_iconst (v := 0) hx hb dX3_isHeldBack_89 (by decide) ?_
        exact t_zret hB hr rfl hT (Nat.le_of_ble_eq_true rfl) (Nat.le_of_ble_eq_true rfl) dX3_isHeldBack_90 ⟨0, rfl, hI, hE, hM, (Or.inr rfl)⟩
      · have c_17' : u_16.toInt = z_9.toInt := i_eq c_17 rfl rfl
        refine lv_iconst (v := 1) hx hb dX3_isHeldBack_85 (by decide) ?_
        refine lv_goto (tgt := 90) hx hb dX3_isHeldBack_86 (by decide) ?_
        exact t_zret hB hr rfl hT (Nat.le_of_ble_eq_true rfl) (Nat.le_of_ble_eq_true rfl) dX3_isHeldBack_90 ⟨1, rfl, hI, hE, hM, (Or.inl rfl)⟩
  · have c_12' : u_3.toInt ≠ 0 := i_ne c_12 rfl (by decide)
    refine lv_iload_n hx hb dX3_isHeldBack_44 rfl (lv_at hl 1 rfl) ?_
    refine lv_iconst (v := 2) hx hb dX3_isHeldBack_45 (by decide) ?_
    refine lv_icmp_eq (tgt := 55) hx hb dX3_isHeldBack_46 (by decide) (fun c_18 => ?_) (fun c_18 => ?_)
    · have c_18' : u_3.toInt = 2 := i_eq c_18 rfl (by decide)
      refine lv_iconst (v := 1) hx hb dX3_isHeldBack_55 (by decide) ?_
      refine lv_goto (tgt := 60) hx hb dX3_isHeldBack_56 (by decide) ?_
      refine lv_istore (lv' := [(5, .int 1), (4, .int z_9), (3, .int u_3), (0, .ref h), (1, .int n), (2, .int k)]) hx hb dX3_isHeldBack_60 hl (by decide) rfl (fun ls hl => ?_)
      refine lv_iload hx hb dX3_isHeldBack_62 (lv_at hl 0 rfl) ?_
      refine lv_if_eq (tgt := 89) hx hb dX3_isHeldBack_64 (by decide) (fun c_ => absurd c_ (by decide)) (fun c_ => ?_)
      refine lv_aload_n hx hb dX3_isHeldBack_67 rfl (lv_at hl 3 rfl) ?_
      obtain ⟨v_19, e_v_19, l_v_19, u_v_19⟩ := f_4_14 hI r_h
      refine t_get (ci := 3) (v := .int v_19) hB hT (ro_ci r_h rfl) rfl 14 (by decide) k_167 e_v_19 dX3_isHeldBack_68 ?_
      refine lv_if_eq (tgt := 89) hx hb dX3_isHeldBack_71 (by decide) (fun c_20 => ?_) (fun c_20 => ?_)
      · have c_20' : v_19.toInt = 0 := i_eq c_20 rfl (by decide)
        refine lv_iconst (v := 0) hx hb dX3_isHeldBack_89 (by decide) ?_
        exact t_zret hB hr rfl hT (Nat.le_of_ble_eq_true rfl) (Nat.le_of_ble_eq_true rfl) dX3_isHeldBack_90 ⟨0, rfl, hI, hE, hM, (Or.inr rfl)⟩
      · have c_20' : v_19.toInt ≠ 0 := i_ne c_20 rfl (by decide)
        refine lv_aload_n hx hb dX3_isHeldBack_74 rfl (lv_at hl 3 rfl) ?_
        obtain ⟨v_21, e_v_21, r_v_21, n_v_21⟩ := f_4_13 hI r_h
        refine t_get (ci := 3) (v := .ref v_21) hB hT (ro_ci r_h rfl) rfl 13 (by decide) k_166 e_v_21 dX3_isHeldBack_75 ?_
        refine lv_iload_n hx hb dX3_isHeldBack_78 rfl (lv_at hl 4 rfl) ?_
        have i_u_22 : vp_in n 8 := (i_in (n := 8) rfl (by omega) (by omega))
        refine t_iald hB hT (ro_in r_v_21 (by decide)) n_v_21 i_u_22 rfl dX3_isHeldBack_79 ?_
        refine lv_topi (fun u_22 e_u_22 => ?_)
        refine lv_iload hx hb dX3_isHeldBack_80 (lv_at hl 1 rfl) ?_
        refine lv_icmp_ne (tgt := 89) hx hb dX3_isHeldBack_82 (by decide) (fun c_23 => ?_) (fun c_23 => ?_)
        · have c_23' : u_22.toInt ≠ z_9.toInt := i_ne c_23 rfl rfl
          refine lv_iconst (v := 0) hx hb dX3_isHeldBack_89 (by decide) ?_
          exact t_zret hB hr rfl hT (Nat.le_of_ble_eq_true rfl) (Nat.le_of_ble_eq_true rfl) dX3_isHeldBack_90 ⟨0, rfl, hI, hE, hM, (Or.inr rfl)⟩
        · have c_23' : u_22.toInt = z_9.toInt := i_eq c_23 rfl rfl
          refine lv_iconst (v := 1) hx hb dX3_isHeldBack_85 (by decide) ?_
          refine lv_goto (tgt := 90) hx hb dX3_isHeldBack_86 (by decide) ?_
          exact t_zret hB hr rfl hT (Nat.le_of_ble_eq_true rfl) (Nat.le_of_ble_eq_true rfl) dX3_isHeldBack_90 ⟨1, rfl, hI, hE, hM, (Or.inl rfl)⟩
    · have c_18' : u_3.toInt ≠ 2 := i_ne c_18 rfl (by decide)
      refine lv_iload_n hx hb dX3_isHeldBack_49 rfl (lv_at hl 1 rfl) ?_
      refine lv_bipush (v := 6) hx hb dX3_isHeldBack_50 (by decide) ?_
      refine lv_icmp_ne (tgt := 59) hx hb dX3_isHeldBack_52 (by decide) (fun c_24 => ?_) (fun c_24 => ?_)
      · have c_24' : u_3.toInt ≠ 6 := i_ne c_24 rfl (by decide)
        refine lv_iconst (v := 0) hx hb dX3_isHeldBack_59 (by decide) ?_
        refine lv_istore (lv' := [(5, .int 0), (4, .int z_9), (3, .int u_3), (0, .ref h), (1, .int n), (2, .int k)]) hx hb dX3_isHeldBack_60 hl (by decide) rfl (fun ls hl => ?_)
        refine lv_iload hx hb dX3_isHeldBack_62 (lv_at hl 0 rfl) ?_
        refine lv_if_eq (tgt := 89) hx hb dX3_isHeldBack_64 (by decide) (fun c_ => ?_) (fun c_ => absurd (by decide) c_)
        refine lv_iconst (v := 0) hx hb dX3_isHeldBack_89 (by decide) ?_
        exact t_zret hB hr rfl hT (Nat.le_of_ble_eq_true rfl) (Nat.le_of_ble_eq_true rfl) dX3_isHeldBack_90 ⟨0, rfl, hI, hE, hM, (Or.inr rfl)⟩
      · have c_24' : u_3.toInt = 6 := i_eq c_24 rfl (by decide)
        refine lv_iconst (v := 1) hx hb dX3_isHeldBack_55 (by decide) ?_
        refine lv_goto (tgt := 60) hx hb dX3_isHeldBack_56 (by decide) ?_
        refine lv_istore (lv' := [(5, .int 1), (4, .int z_9), (3, .int u_3), (0, .ref h), (1, .int n), (2, .int k)]) hx hb dX3_isHeldBack_60 hl (by decide) rfl (fun ls hl => ?_)
        refine lv_iload hx hb dX3_isHeldBack_62 (lv_at hl 0 rfl) ?_
        refine lv_if_eq (tgt := 89) hx hb dX3_isHeldBack_64 (by decide) (fun c_ => absurd c_ (by decide)) (fun c_ => ?_)
        refine lv_aload_n hx hb dX3_isHeldBack_67 rfl (lv_at hl 3 rfl) ?_
        obtain ⟨v_25, e_v_25, l_v_25, u_v_25⟩ := f_4_14 hI r_h
        refine t_get (ci := 3) (v := .int v_25) hB hT (ro_ci r_h rfl) rfl 14 (by decide) k_167 e_v_25 dX3_isHeldBack_68 ?_
        refine lv_if_eq (tgt := 89) hx hb dX3_isHeldBack_71 (by decide) (fun c_26 => ?_) (fun c_26 => ?_)
        · have c_26' : v_25.toInt = 0 := i_eq c_26 rfl (by decide)
          refine lv_iconst (v := 0) hx hb dX3_isHeldBack_89 (by decide) ?_
          exact t_zret hB hr rfl hT (Nat.le_of_ble_eq_true rfl) (Nat.le_of_ble_eq_true rfl) dX3_isHeldBack_90 ⟨0, rfl, hI, hE, hM, (Or.inr rfl)⟩
        · have c_26' : v_25.toInt ≠ 0 := i_ne c_26 rfl (by decide)
          refine lv_aload_n hx hb dX3_isHeldBack_74 rfl (lv_at hl 3 rfl) ?_
          obtain ⟨v_27, e_v_27, r_v_27, n_v_27⟩ := f_4_13 hI r_h
          refine t_get (ci := 3) (v := .ref v_27) hB hT (ro_ci r_h rfl) rfl 13 (by decide) k_166 e_v_27 dX3_isHeldBack_75 ?_
          refine lv_iload_n hx hb dX3_isHeldBack_78 rfl (lv_at hl 4 rfl) ?_
          have i_u_28 : vp_in n 8 := (i_in (n := 8) rfl (by omega) (by omega))
          refine t_iald hB hT (ro_in r_v_27 (by decide)) n_v_27 i_u_28 rfl dX3_isHeldBack_79 ?_
          refine lv_topi (fun u_28 e_u_28 => ?_)
          refine lv_iload hx hb dX3_isHeldBack_80 (lv_at hl 1 rfl) ?_
          refine lv_icmp_ne (tgt := 89) hx hb dX3_isHeldBack_82 (by decide) (fun c_29 => ?_) (fun c_29 => ?_)
          · have c_29' : u_28.toInt ≠ z_9.toInt := i_ne c_29 rfl rfl
            refine lv_iconst (v := 0) hx hb dX3_isHeldBack_89 (by decide) ?_
            exact t_zret hB hr rfl hT (Nat.le_of_ble_eq_true rfl) (Nat.le_of_ble_eq_true rfl) dX3_isHeldBack_90 ⟨0, rfl, hI, hE, hM, (Or.inr rfl)⟩
          · have c_29' : u_28.toInt = z_9.toInt := i_eq c_29 rfl rfl
            refine lv_iconst (v := 1) hx hb dX3_isHeldBack_85 (by decide) ?_
            refine lv_goto (tgt := 90) hx hb dX3_isHeldBack_86 (by decide) ?_
            exact t_zret hB hr rfl hT (Nat.le_of_ble_eq_true rfl) (Nat.le_of_ble_eq_true rfl) dX3_isHeldBack_90 ⟨1, rfl, hI, hE, hM, (Or.inl rfl)⟩
abbrev md_s_passesOver : Nat → Nat → Bool := mdf []
set_option maxHeartbeats 4000000 in
set_option maxRecDepth 100000 in
theorem s_passesOver (l : Launch) (D : va_G) (cI cZ cS cR : ClassId) (N0 : NT) (g : GS) (hI : Inv g) (h : Nat) (n : Int32) (k : Int32) (r_h : g.1 h = 4) (l_n : 0 ≤ n.toInt) (u_n : n.toInt ≤ 7) : Ty l D cI cZ cS cR N0 yX3_passesOver cX3_passesOver 4 (some .boolean) 0 0 0 [.ref h, .int n, .int k] g (fun v g' => ∃ (r : Int32), v = some (.int r) ∧ g' = g ∧ (r = 1 ∨ r = 0)) := by
  refine t_enter (by decide) (Nat.le_of_ble_eq_true rfl) ?_
  intro p e s m args below meth c ls H locs hB hr hin hl hT
  have hx := hB.1
  have hb := hB.2.1
  have hl : lv_has ls 4 [(0, .ref h), (1, .int n), (2, .int k)] := hl
  have hE : Ex g g := Ex.rf
  have hM : Sm md_s_passesOver g g := Sm.rf
  refine lv_aload_n hx hb dX3_passesOver_0 rfl (lv_at hl 0 rfl) ?_
  obtain ⟨v_1, e_v_1, r_v_1⟩ := f_4_0 hI r_h
  refine t_get (ci := 3) (v := .ref v_1) hB hT (ro_ci r_h rfl) rfl 0 (by decide) k_143 e_v_1 dX3_passesOver_1 ?_
  obtain ⟨v_2, e_v_2, r_v_2, n_v_2⟩ := f_3_1 hI r_v_1
  refine t_get (ci := 2) (v := .ref v_2) hB hT (ro_ci r_v_1 rfl) rfl 1 (by decide) k_128 e_v_2 dX3_passesOver_4 ?_
  refine lv_iload_n hx hb dX3_passesOver_7 rfl (lv_at hl 1 rfl) ?_
  have i_u_3 : vp_in n 8 := (i_in (n := 8) rfl (by omega) (by omega))
  refine t_iald hB hT (ro_in r_v_2 (by decide)) n_v_2 i_u_3 rfl dX3_passesOver_8 ?_
  have c_u_3 := hI.c r_v_2 n_v_2 (i_cl i_u_3)
  refine lv_topi (fun u_3 e_u_3 => ?_)
  obtain ⟨l_u_3, u_u_3⟩ := c_u_3
  rw [← e_u_3] at l_u_3 u_u_3
  refine lv_istore_n (lv' := [(3, .int u_3), (0, .ref h), (1, .int n), (2, .int k)]) hx hb dX3_passesOver_9 rfl hl (by decide) rfl (fun ls hl => ?_)
  refine lv_aload_n hx hb dX3_passesOver_10 rfl (lv_at hl 1 rfl) ?_
  refine t_get (ci := 3) (v := .ref v_1) hB hT (ro_ci r_h rfl) rfl 0 (by decide) k_143 e_v_1 dX3_passesOver_11 ?_
  obtain ⟨v_4, e_v_4, r_v_4, n_v_4⟩ := f_3_0 hI r_v_1
  refine t_get (ci := 2) (v := .ref v_4) hB hT (ro_ci r_v_1 rfl) rfl 0 (by decide) k_124 e_v_4 dX3_passesOver_14 ?_
  refine lv_iload_n hx hb dX3_passesOver_17 rfl (lv_at hl 2 rfl) ?_
  have i_u_5 : vp_in n 8 := (i_in (n := 8) rfl (by omega) (by omega))
  refine t_iald hB hT (ro_in r_v_4 (by decide)) n_v_4 i_u_5 rfl dX3_passesOver_18 ?_
  refine lv_topi (fun u_5 e_u_5 => ?_)
  refine lv_bipush (v := 7) hx hb dX3_passesOver_19 (by decide) ?_
  refine lv_icmp_ne (tgt := 43) hx hb dX3_passesOver_21 (by decide) (fun c_6 => ?_) (fun c_6 => ?_)
  · have c_6' : u_5.toInt ≠ 7 := i_ne c_6 rfl (by decide)
    refine lv_iconst (v := 0) hx hb dX3_passesOver_43 (by decide) ?_
    exact t_zret hB hr rfl hT (Nat.le_of_ble_eq_true rfl) (Nat.le_of_ble_eq_true rfl) dX3_passesOver_44 ⟨0, rfl, rfl, (Or.inr rfl)⟩
  · have c_6' : u_5.toInt = 7 := i_eq c_6 rfl (by decide)
    refine lv_iload_n hx hb dX3_passesOver_24 rfl (lv_at hl 0 rfl) ?_
    refine lv_iconst (v := 4) hx hb dX3_passesOver_25 (by decide) ?_
    refine lv_icmp_ge (tgt := 43) hx hb dX3_passesOver_26 (by decide) (fun c_7 => ?_) (fun c_7 => ?_)
    · have c_7' : 4 ≤ u_3.toInt := i_le c_7 (by decide) rfl
      refine lv_iconst (v := 0) hx hb dX3_passesOver_43 (by decide) ?_
      exact t_zret hB hr rfl hT (Nat.le_of_ble_eq_true rfl) (Nat.le_of_ble_eq_true rfl) dX3_passesOver_44 ⟨0, rfl, rfl, (Or.inr rfl)⟩
    · have c_7' : u_3.toInt < 4 := i_nle c_7 (by decide) rfl
      refine lv_aload_n hx hb dX3_passesOver_29 rfl (lv_at hl 1 rfl) ?_
      obtain ⟨v_8, e_v_8, r_v_8, n_v_8⟩ := f_4_1 hI r_h
      refine t_get (ci := 3) (v := .ref v_8) hB hT (ro_ci r_h rfl) rfl 1 (by decide) k_146 e_v_8 dX3_passesOver_30 ?_
      refine lv_iload_n hx hb dX3_passesOver_33 rfl (lv_at hl 0 rfl) ?_
      have i_u_9 : vp_in u_3 4 := (i_in (n := 4) rfl (by omega) (by omega))
      refine t_iald hB hT (ro_in r_v_8 (by decide)) n_v_8 i_u_9 rfl dX3_passesOver_34 ?_
      refine lv_topi (fun u_9 e_u_9 => ?_)
      refine lv_iload_n hx hb dX3_passesOver_35 rfl (lv_at hl 3 rfl) ?_
      refine lv_icmp_eq (tgt := 43) hx hb dX3_passesOver_36 (by decide) (fun c_10 => ?_) (fun c_10 => ?_)
      · have c_10' : u_9.toInt = k.toInt := i_eq c_10 rfl rfl
        refine lv_iconst (v := 0) hx hb dX3_passesOver_43 (by decide) ?_
        exact t_zret hB hr rfl hT (Nat.le_of_ble_eq_true rfl) (Nat.le_of_ble_eq_true rfl) dX3_passesOver_44 ⟨0, rfl, rfl, (Or.inr rfl)⟩
      · have c_10' : u_9.toInt ≠ k.toInt := i_ne c_10 rfl rfl
        refine lv_iconst (v := 1) hx hb dX3_passesOver_39 (by decide) ?_
        refine lv_goto (tgt := 44) hx hb dX3_passesOver_40 (by decide) ?_
        exact t_zret hB hr rfl hT (Nat.le_of_ble_eq_true rfl) (Nat.le_of_ble_eq_true rfl) dX3_passesOver_44 ⟨1, rfl, rfl, (Or.inl rfl)⟩
abbrev md_s_perform : Nat → Nat → Bool := mdf [(4, 2), (50, 99)]
set_option maxHeartbeats 4000000 in
set_option maxRecDepth 100000 in
theorem s_perform (l : Launch) (D : va_G) (cI cZ cS cR : ClassId) (N0 : NT) (g : GS) (hI : Inv g) (h : Nat) (n : Int32) (k : Int32) (j : Int32) (r_h : g.1 h = 4) (l_n : 0 ≤ n.toInt) (u_n : n.toInt ≤ 7) : Ty l D cI cZ cS cR N0 yX3_perform cX3_perform 5 (some .int) 0 0 0 [.ref h, .int n, .int k, .int j] g (fun v g' => ∃ (r : Int32), v = some (.int r) ∧ Inv g' ∧ Ex g g' ∧ Sm md_s_perform g g') := by
  refine t_enter (by decide) (Nat.le_of_ble_eq_true rfl) ?_
  intro p e s m args below meth c ls H locs hB hr hin hl hT
  have hx := hB.1
  have hb := hB.2.1
  have hl : lv_has ls 5 [(0, .ref h), (1, .int n), (2, .int k), (3, .int j)] := hl
  have hE : Ex g g := Ex.rf
  have hM : Sm md_s_perform g g := Sm.rf
  refine lv_aload_n hx hb dX3_perform_0 rfl (lv_at hl 0 rfl) ?_
  obtain ⟨v_1, e_v_1, r_v_1⟩ := f_4_0 hI r_h
  refine t_get (ci := 3) (v := .ref v_1) hB hT (ro_ci r_h rfl) rfl 0 (by decide) k_143 e_v_1 dX3_perform_1 ?_
  obtain ⟨v_2, e_v_2, r_v_2, n_v_2⟩ := f_3_1 hI r_v_1
  refine t_get (ci := 2) (v := .ref v_2) hB hT (ro_ci r_v_1 rfl) rfl 1 (by decide) k_128 e_v_2 dX3_perform_4 ?_
  refine lv_iload_n hx hb dX3_perform_7 rfl (lv_at hl 1 rfl) ?_
  have i_u_3 : vp_in n 8 := (i_in (n := 8) rfl (by omega) (by omega))
  refine t_iald hB hT (ro_in r_v_2 (by decide)) n_v_2 i_u_3 rfl dX3_perform_8 ?_
  have c_u_3 := hI.c r_v_2 n_v_2 (i_cl i_u_3)
  refine lv_topi (fun u_3 e_u_3 => ?_)
  obtain ⟨l_u_3, u_u_3⟩ := c_u_3
  rw [← e_u_3] at l_u_3 u_u_3
  refine lv_istore (lv' := [(4, .int u_3), (0, .ref h), (1, .int n), (2, .int k), (3, .int j)]) hx hb dX3_perform_9 hl (by decide) rfl (fun ls hl => ?_)
  refine lv_iload hx hb dX3_perform_11 (lv_at hl 0 rfl) ?_
  refine lv_iconst (v := 4) hx hb dX3_perform_13 (by decide) ?_
  refine lv_icmp_lt (tgt := 19) hx hb dX3_perform_14 (by decide) (fun c_4 => ?_) (fun c_4 => ?_)
  · have c_4' : u_3.toInt < 4 := i_lt c_4 rfl (by decide)
    refine lv_aload_n hx hb dX3_perform_19 rfl (lv_at hl 1 rfl) ?_
    refine t_get (ci := 3) (v := .ref v_1) hB hT (ro_ci r_h rfl) rfl 0 (by decide) k_143 e_v_1 dX3_perform_20 ?_
    obtain ⟨v_5, e_v_5, r_v_5, n_v_5⟩ := f_3_0 hI r_v_1
    refine t_get (ci := 2) (v := .ref v_5) hB hT (ro_ci r_v_1 rfl) rfl 0 (by decide) k_124 e_v_5 dX3_perform_23 ?_
    refine lv_iload_n hx hb dX3_perform_26 rfl (lv_at hl 2 rfl) ?_
    have i_u_6 : vp_in n 8 := (i_in (n := 8) rfl (by omega) (by omega))
    refine t_iald hB hT (ro_in r_v_5 (by decide)) n_v_5 i_u_6 rfl dX3_perform_27 ?_
    refine lv_topi (fun u_6 e_u_6 => ?_)
    by_cases ht_7 : (u_6 < 0 ∨ 4 < u_6)
    · refine lv_tableOut (tgt := 165) hx hb dX3_perform_28 (sw_out ht_7) (by decide) ?_
      refine lv_iload_n hx hb dX3_perform_165 rfl (lv_at hl 4 rfl) ?_
      exact t_iret hB hr hT (Nat.le_of_ble_eq_true rfl) (Nat.le_of_ble_eq_true rfl) dX3_perform_166 ⟨j, rfl, hI, hE, hM⟩
    · obtain ⟨j_8, hj_8, ej_8⟩ := sw_in (n := 5) rfl ht_7
      rcases (show j_8 = 0 ∨ j_8 = 1 ∨ j_8 = 2 ∨ j_8 = 3 ∨ j_8 = 4 by omega) with rfl | rfl | rfl | rfl | rfl
      · refine x_ev (y := 0) ej_8 ?_
        refine lv_tableIn (off := 36) (tgt := 64) hx hb dX3_perform_28 (by decide) (by decide) rfl (by decide) ?_
        refine lv_aload_n hx hb dX3_perform_64 rfl (lv_at hl 1 rfl) ?_
        obtain ⟨v_9, e_v_9, r_v_9, n_v_9⟩ := f_4_1 hI r_h
        refine t_get (ci := 3) (v := .ref v_9) hB hT (ro_ci r_h rfl) rfl 1 (by decide) k_146 e_v_9 dX3_perform_65 ?_
        refine lv_iload hx hb dX3_perform_68 (lv_at hl 0 rfl) ?_
        refine lv_iload_n hx hb dX3_perform_70 rfl (lv_at hl 3 rfl) ?_
        have i_10 : vp_in u_3 4 := (i_in (n := 4) rfl (by omega) (by omega))
        refine t_iast hB hT (ro_in r_v_9 (by decide)) n_v_9 i_10 dX3_perform_71 (fun H locs hT => ?_)
        have hI : Inv (sC g v_9 u_3.toNatClampNeg k) := hI.sC (ck r_v_9 trivial)
        have hM : Sm md_s_perform g (sC g v_9 u_3.toNatClampNeg k) := hM.tr hE (Sm_sC (by rw [r_v_9]; rfl))
        have hE : Ex g (sC g v_9 u_3.toNatClampNeg k) := hE
        refine lv_iload_n hx hb dX3_perform_72 rfl (lv_at hl 4 rfl) ?_
        exact t_iret hB hr hT (Nat.le_of_ble_eq_true rfl) (Nat.le_of_ble_eq_true rfl) dX3_perform_73 ⟨j, rfl, hI, hE, hM⟩
      · refine x_ev (y := 1) ej_8 ?_
        refine lv_tableIn (off := 46) (tgt := 74) hx hb dX3_perform_28 (by decide) (by decide) rfl (by decide) ?_
        refine lv_aload_n hx hb dX3_perform_74 rfl (lv_at hl 1 rfl) ?_
        obtain ⟨v_11, e_v_11, r_v_11, n_v_11⟩ := f_4_1 hI r_h
        refine t_get (ci := 3) (v := .ref v_11) hB hT (ro_ci r_h rfl) rfl 1 (by decide) k_146 e_v_11 dX3_perform_75 ?_
        refine lv_iload hx hb dX3_perform_78 (lv_at hl 0 rfl) ?_
        refine lv_aload_n hx hb dX3_perform_80 rfl (lv_at hl 1 rfl) ?_
        refine t_get (ci := 3) (v := .ref v_11) hB hT (ro_ci r_h rfl) rfl 1 (by decide) k_146 e_v_11 dX3_perform_81 ?_
        refine lv_iload hx hb dX3_perform_84 (lv_at hl 0 rfl) ?_
        have i_u_12 : vp_in u_3 4 := (i_in (n := 4) rfl (by omega) (by omega))
        refine t_iald hB hT (ro_in r_v_11 (by decide)) n_v_11 i_u_12 rfl dX3_perform_86 ?_
        refine lv_topi (fun u_12 e_u_12 => ?_)
        refine lv_iload_n hx hb dX3_perform_87 rfl (lv_at hl 3 rfl) ?_
        refine lv_iadd hx hb dX3_perform_88 ?_
        refine lv_topi (fun z_13 ez_13 => ?_)
        refine lv_sipush (v := 1000) hx hb dX3_perform_89 (by decide) ?_
        refine lv_irem hx hb dX3_perform_92 (by decide) ?_
        refine lv_topi (fun z_14 ez_14 => ?_)
        have i_15 : vp_in u_3 4 := (i_in (n := 4) rfl (by omega) (by omega))
        refine t_iast hB hT (ro_in r_v_11 (by decide)) n_v_11 i_15 dX3_perform_93 (fun H locs hT => ?_)
        have hI : Inv (sC g v_11 u_3.toNatClampNeg z_14) := hI.sC (ck r_v_11 trivial)
        have hM : Sm md_s_perform g (sC g v_11 u_3.toNatClampNeg z_14) := hM.tr hE (Sm_sC (by rw [r_v_11]; rfl))
        have hE : Ex g (sC g v_11 u_3.toNatClampNeg z_14) := hE
        refine lv_iload_n hx hb dX3_perform_94 rfl (lv_at hl 4 rfl) ?_
        exact t_iret hB hr hT (Nat.le_of_ble_eq_true rfl) (Nat.le_of_ble_eq_true rfl) dX3_perform_95 ⟨j, rfl, hI, hE, hM⟩
      · refine x_ev (y := 2) ej_8 ?_
        refine lv_tableIn (off := 68) (tgt := 96) hx hb dX3_perform_28 (by decide) (by decide) rfl (by decide) ?_
        refine lv_aload_n hx hb dX3_perform_96 rfl (lv_at hl 1 rfl) ?_
        obtain ⟨v_16, e_v_16, r_v_16, n_v_16⟩ := f_4_1 hI r_h
        refine t_get (ci := 3) (v := .ref v_16) hB hT (ro_ci r_h rfl) rfl 1 (by decide) k_146 e_v_16 dX3_perform_97 ?_
        refine lv_iload hx hb dX3_perform_100 (lv_at hl 0 rfl) ?_
        refine lv_iload_n hx hb dX3_perform_102 rfl (lv_at hl 3 rfl) ?_
        refine lv_aload_n hx hb dX3_perform_103 rfl (lv_at hl 1 rfl) ?_
        refine t_get (ci := 3) (v := .ref v_16) hB hT (ro_ci r_h rfl) rfl 1 (by decide) k_146 e_v_16 dX3_perform_104 ?_
        refine lv_iload hx hb dX3_perform_107 (lv_at hl 0 rfl) ?_
        have i_u_17 : vp_in u_3 4 := (i_in (n := 4) rfl (by omega) (by omega))
        refine t_iald hB hT (ro_in r_v_16 (by decide)) n_v_16 i_u_17 rfl dX3_perform_109 ?_
        refine lv_topi (fun u_17 e_u_17 => ?_)
        refine lv_icmp_le (tgt := 117) hx hb dX3_perform_110 (by decide) (fun c_18 => ?_) (fun c_18 => ?_)
        · have c_18' : k.toInt ≤ u_17.toInt := i_le c_18 rfl rfl
          refine lv_aload_n hx hb dX3_perform_117 rfl (lv_at hl 1 rfl) ?_
          refine t_get (ci := 3) (v := .ref v_16) hB hT (ro_ci r_h rfl) rfl 1 (by decide) k_146 e_v_16 dX3_perform_118 ?_
          refine lv_iload hx hb dX3_perform_121 (lv_at hl 0 rfl) ?_
          have i_u_19 : vp_in u_3 4 := (i_in (n := 4) rfl (by omega) (by omega))
          refine t_iald (v := u_17) hB hT (ro_in r_v_16 (by decide)) n_v_16 i_u_19 e_u_17.symm dX3_perform_123 ?_
          have i_20 : vp_in u_3 4 := (i_in (n := 4) rfl (by omega) (by omega))
          refine t_iast hB hT (ro_in r_v_16 (by decide)) n_v_16 i_20 dX3_perform_124 (fun H locs hT => ?_)
          have hI : Inv (sC g v_16 u_3.toNatClampNeg u_17) := hI.sC (ck r_v_16 trivial)
          have hM : Sm md_s_perform g (sC g v_16 u_3.toNatClampNeg u_17) := hM.tr hE (Sm_sC (by rw [r_v_16]; rfl))
          have hE : Ex g (sC g v_16 u_3.toNatClampNeg u_17) := hE
          refine lv_iload_n hx hb dX3_perform_125 rfl (lv_at hl 4 rfl) ?_
          exact t_iret hB hr hT (Nat.le_of_ble_eq_true rfl) (Nat.le_of_ble_eq_true rfl) dX3_perform_126 ⟨j, rfl, hI, hE, hM⟩
        · have c_18' : u_17.toInt < k.toInt := i_nle c_18 rfl rfl
          refine lv_iload_n hx hb dX3_perform_113 rfl (lv_at hl 3 rfl) ?_
          refine lv_goto (tgt := 124) hx hb dX3_perform_114 (by decide) ?_
          have i_21 : vp_in u_3 4 := (i_in (n := 4) rfl (by omega) (by omega))
          refine t_iast hB hT (ro_in r_v_16 (by decide)) n_v_16 i_21 dX3_perform_124 (fun H locs hT => ?_)
          have hI : Inv (sC g v_16 u_3.toNatClampNeg k) := hI.sC (ck r_v_16 trivial)
          have hM : Sm md_s_perform g (sC g v_16 u_3.toNatClampNeg k) := hM.tr hE (Sm_sC (by rw [r_v_16]; rfl))
          have hE : Ex g (sC g v_16 u_3.toNatClampNeg k) := hE
          refine lv_iload_n hx hb dX3_perform_125 rfl (lv_at hl 4 rfl) ?_
          exact t_iret hB hr hT (Nat.le_of_ble_eq_true rfl) (Nat.le_of_ble_eq_true rfl) dX3_perform_126 ⟨j, rfl, hI, hE, hM⟩
      · refine x_ev (y := 3) ej_8 ?_
        refine lv_tableIn (off := 99) (tgt := 127) hx hb dX3_perform_28 (by decide) (by decide) rfl (by decide) ?_
        refine lv_aload_n hx hb dX3_perform_127 rfl (lv_at hl 1 rfl) ?_
        refine lv_aload_n hx hb dX3_perform_128 rfl (lv_at hl 1 rfl) ?_
        obtain ⟨v_22, e_v_22⟩ := f_4_2 hI r_h
        refine t_get (ci := 3) (v := .int v_22) hB hT (ro_ci r_h rfl) rfl 2 (by decide) k_149 e_v_22 dX3_perform_129 ?_
        refine lv_iconst (v := 1) hx hb dX3_perform_132 (by decide) ?_
        refine lv_iadd hx hb dX3_perform_133 ?_
        refine lv_topi (fun z_23 ez_23 => ?_)
        refine lv_sipush (v := 1000) hx hb dX3_perform_134 (by decide) ?_
        refine lv_irem hx hb dX3_perform_137 (by decide) ?_
        refine lv_topi (fun z_24 ez_24 => ?_)
        refine t_put0 (ci := 3) (v := .int z_24) hB hT (ro_ci r_h rfl) (ro_n0 r_h (by decide)) rfl 2 (by decide) k_149 (Or.inl rfl) rfl rfl dX3_perform_138 (fun H locs hT => ?_)
        have hI : Inv (sF g h 2 (.int z_24)) := hI.sF (p_4_2 r_h (⟨_, rfl⟩))
        have hM : Sm md_s_perform g (sF g h 2 (.int z_24)) := hM.tr hE (Sm_sF (by rw [r_h]; rfl))
        have hE : Ex g (sF g h 2 (.int z_24)) := hE
        refine lv_aload_n hx hb dX3_perform_141 rfl (lv_at hl 1 rfl) ?_
        obtain ⟨v_25, e_v_25, r_v_25, n_v_25⟩ := f_4_1 hI r_h
        refine t_get (ci := 3) (v := .ref v_25) hB hT (ro_ci r_h rfl) rfl 1 (by decide) k_146 e_v_25 dX3_perform_142 ?_
        refine lv_iload hx hb dX3_perform_145 (lv_at hl 0 rfl) ?_
        refine lv_aload_n hx hb dX3_perform_147 rfl (lv_at hl 1 rfl) ?_
        refine t_get (ci := 3) (v := .int z_24) hB hT (ro_ci r_h rfl) rfl 2 (by decide) k_149 sF_eq dX3_perform_148 ?_
        have i_26 : vp_in u_3 4 := (i_in (n := 4) rfl (by omega) (by omega))
        refine t_iast hB hT (ro_in r_v_25 (by decide)) n_v_25 i_26 dX3_perform_151 (fun H locs hT => ?_)
        have hI : Inv (sC (sF g h 2 (.int z_24)) v_25 u_3.toNatClampNeg z_24) := hI.sC (ck r_v_25 trivial)
        have hM : Sm md_s_perform g (sC (sF g h 2 (.int z_24)) v_25 u_3.toNatClampNeg z_24) := hM.tr hE (Sm_sC (by rw [r_v_25]; rfl))
        have hE : Ex g (sC (sF g h 2 (.int z_24)) v_25 u_3.toNatClampNeg z_24) := hE
        refine lv_aload_n hx hb dX3_perform_152 rfl (lv_at hl 1 rfl) ?_
        refine t_get (ci := 3) (v := .int z_24) hB hT (ro_ci r_h rfl) rfl 2 (by decide) k_149 sF_eq dX3_perform_153 ?_
        exact t_iret hB hr hT (Nat.le_of_ble_eq_true rfl) (Nat.le_of_ble_eq_true rfl) dX3_perform_156 ⟨z_24, rfl, hI, hE, hM⟩
      · refine x_ev (y := 4) ej_8 ?_
        refine lv_tableIn (off := 129) (tgt := 157) hx hb dX3_perform_28 (by decide) (by decide) rfl (by decide) ?_
        refine lv_aload_n hx hb dX3_perform_157 rfl (lv_at hl 1 rfl) ?_
        obtain ⟨v_27, e_v_27, r_v_27, n_v_27⟩ := f_4_1 hI r_h
        refine t_get (ci := 3) (v := .ref v_27) hB hT (ro_ci r_h rfl) rfl 1 (by decide) k_146 e_v_27 dX3_perform_158 ?_
        refine lv_iload hx hb dX3_perform_161 (lv_at hl 0 rfl) ?_
        have i_u_28 : vp_in u_3 4 := (i_in (n := 4) rfl (by omega) (by omega))
        refine t_iald hB hT (ro_in r_v_27 (by decide)) n_v_27 i_u_28 rfl dX3_perform_163 ?_
        refine lv_topi (fun u_28 e_u_28 => ?_)
        exact t_iret hB hr hT (Nat.le_of_ble_eq_true rfl) (Nat.le_of_ble_eq_true rfl) dX3_perform_164 ⟨u_28, rfl, hI, hE, hM⟩
  · have c_4' : 4 ≤ u_3.toInt := i_nlt c_4 rfl (by decide)
    refine lv_iload_n hx hb dX3_perform_17 rfl (lv_at hl 4 rfl) ?_
    exact t_iret hB hr hT (Nat.le_of_ble_eq_true rfl) (Nat.le_of_ble_eq_true rfl) dX3_perform_18 ⟨j, rfl, hI, hE, hM⟩
abbrev md_s_mfresh : Nat → Nat → Bool := mdf [(4, 2), (4, 5), (50, 99)]
set_option maxHeartbeats 4000000 in
set_option maxRecDepth 100000 in
theorem lt_s_mfresh_a (l : Launch) (D : va_G) (cI cZ cS cR : ClassId) (N0 : NT) (g : GS) (h : Nat) (r_h : g.1 h = 4) {p : Program} {e : Env} {s : State} {m : MethodId} {args : Array Value} {below : List Frame} {meth : Method} {c : Code} (hB : Tz p s m meth c args cX3_makeFresh 2 RX3 D cI cZ cS cR N0) (hr : meth.sig.returnType = none)    : ∀ (kf : Nat) (g1 : GS) (i : Int32)  (H : Heap) (locs : List Loc) (ls : Array Slot), Tv D cI cZ cS cR N0 s.heap H locs g1 → Inv g1 → Ex g g1 → Sm md_s_mfresh g g1 → 0 ≤ i.toInt → i.toInt ≤ 4 → (4 ≤ i.toInt + kf) → lv_has ls 2 [(1, .int i), (0, .ref h)] → W p l e (rmx 0 0 0) s m args below meth c H locs 0 0 (MQ below (tQ D cI cZ cS cR N0 (fun v g' => v = none ∧ Inv g' ∧ Ex g g' ∧ Sm md_s_mfresh g g')) args s 0 0 (fun q => N0.1 ≤ q)) (F0 m 2 ls []) := by
  have hx := hB.1
  have hb := hB.2.1
  intro kf
  induction kf using Nat.strongRecOn with
  | ind kf ih =>
    intro g1 i H locs ls hT hI hE hM l_i u_i hk hl
    have r_1 : g1.1 h = 4 := Ex.r hE r_h (by decide)
    refine lv_iload_n hx hb dX3_makeFresh_2 rfl (lv_at hl 0 rfl) ?_
    refine lv_iconst (v := 4) hx hb dX3_makeFresh_3 (by decide) ?_
    refine lv_icmp_ge (tgt := 20) hx hb dX3_makeFresh_4 (by decide) (fun c_2 => ?_) (fun c_2 => ?_)
    · have c_2' : 4 ≤ i.toInt := i_le c_2 (by decide) rfl
      refine lv_aload_n hx hb dX3_makeFresh_20 rfl (lv_at hl 1 rfl) ?_
      refine lv_iconst (v := 0) hx hb dX3_makeFresh_21 (by decide) ?_
      refine t_put0 (ci := 3) (v := .int 0) hB hT (ro_ci r_1 rfl) (ro_n0 r_1 (by decide)) rfl 2 (by decide) k_149 (Or.inl rfl) rfl rfl dX3_makeFresh_22 (fun H locs hT => ?_)
      have hI : Inv (sF g1 h 2 (.int 0)) := hI.sF (p_4_2 r_1 (⟨_, rfl⟩))
      have hM : Sm md_s_mfresh g (sF g1 h 2 (.int 0)) := hM.tr hE (Sm_sF (by rw [r_1]; rfl))
      have hE : Ex g (sF g1 h 2 (.int 0)) := hE
      refine lv_aload_n hx hb dX3_makeFresh_25 rfl (lv_at hl 1 rfl) ?_
      refine lv_iconst (v := 0) hx hb dX3_makeFresh_26 (by decide) ?_
      refine t_put0 (ci := 3) (v := .int 0) hB hT (ro_ci r_1 rfl) (ro_n0 r_1 (by decide)) rfl 5 (by decide) k_158 (Or.inl rfl) rfl rfl dX3_makeFresh_27 (fun H locs hT => ?_)
      have hI : Inv (sF (sF g1 h 2 (.int 0)) h 5 (.int 0)) := hI.sF (p_4_5 r_1 (⟨_, rfl, by decide, by decide⟩))
      have hM : Sm md_s_mfresh g (sF (sF g1 h 2 (.int 0)) h 5 (.int 0)) := hM.tr hE (Sm_sF (by rw [r_1]; rfl))
      have hE : Ex g (sF (sF g1 h 2 (.int 0)) h 5 (.int 0)) := hE
      exact t_vret hB hr hT (Nat.le_of_ble_eq_true rfl) (Nat.le_of_ble_eq_true rfl) dX3_makeFresh_30 ⟨rfl, hI, hE, hM⟩
    · have c_2' : i.toInt < 4 := i_nle c_2 (by decide) rfl
      refine lv_aload_n hx hb dX3_makeFresh_7 rfl (lv_at hl 1 rfl) ?_
      obtain ⟨v_3, e_v_3, r_v_3, n_v_3⟩ := f_4_1 hI r_1
      refine t_get (ci := 3) (v := .ref v_3) hB hT (ro_ci r_1 rfl) rfl 1 (by decide) k_146 e_v_3 dX3_makeFresh_8 ?_
      refine lv_iload_n hx hb dX3_makeFresh_11 rfl (lv_at hl 0 rfl) ?_
      refine lv_iconst (v := 0) hx hb dX3_makeFresh_12 (by decide) ?_
      have i_4 : vp_in i 4 := (i_in (n := 4) rfl (by omega) (by omega))
      refine t_iast hB hT (ro_in r_v_3 (by decide)) n_v_3 i_4 dX3_makeFresh_13 (fun H locs hT => ?_)
      have hI : Inv (sC g1 v_3 i.toNatClampNeg (0 : Int32)) := hI.sC (ck r_v_3 trivial)
      have hM : Sm md_s_mfresh g (sC g1 v_3 i.toNatClampNeg (0 : Int32)) := hM.tr hE (Sm_sC (by rw [r_v_3]; rfl))
      have hE : Ex g (sC g1 v_3 i.toNatClampNeg (0 : Int32)) := hE
      obtain ⟨z_5, ez_5⟩ : ∃ z : Int32, z = i + 1 := ⟨_, rfl⟩
      have e_z_5 : z_5.toInt = i.toInt + 1 := i_add ez_5 rfl (by decide) (by omega) (by omega)
      refine lv_iinc (v := z_5) (lv' := [(1, .int z_5), (0, .ref h)]) hx hb dX3_makeFresh_14 hl (k := 0) rfl (by rw [ez_5]; rfl) (by decide) rfl (fun ls hl => ?_)
      refine lv_goto (tgt := 2) hx hb dX3_makeFresh_17 (by decide) ?_
      exact ih (kf - 1) (by omega) (sC g1 v_3 i.toNatClampNeg (0 : Int32)) z_5 H locs ls hT hI hE hM (by omega) (by omega) (by have e0_ : (0 : Int32).toInt = 0 := (by decide); omega) (lv_sub hl [0, 1] rfl)
set_option maxHeartbeats 4000000 in
set_option maxRecDepth 100000 in
theorem s_mfresh (l : Launch) (D : va_G) (cI cZ cS cR : ClassId) (N0 : NT) (g : GS) (hI : Inv g) (h : Nat) (r_h : g.1 h = 4) : Ty l D cI cZ cS cR N0 yX3_makeFresh cX3_makeFresh 2 none 0 0 0 [.ref h] g (fun v g' => v = none ∧ Inv g' ∧ Ex g g' ∧ Sm md_s_mfresh g g') := by
  refine t_enter (by decide) (Nat.le_of_ble_eq_true rfl) ?_
  intro p e s m args below meth c ls H locs hB hr hin hl hT
  have hx := hB.1
  have hb := hB.2.1
  have hl : lv_has ls 2 [(0, .ref h)] := hl
  have hE : Ex g g := Ex.rf
  have hM : Sm md_s_mfresh g g := Sm.rf
  refine lv_iconst (v := 0) hx hb dX3_makeFresh_0 (by decide) ?_
  refine lv_istore_n (lv' := [(1, .int 0), (0, .ref h)]) hx hb dX3_makeFresh_1 rfl hl (by decide) rfl (fun ls hl => ?_)
  exact lt_s_mfresh_a l D cI cZ cS cR N0 g h r_h hB hr   4 g (0 : Int32) H locs ls hT hI hE hM (by decide) (by decide) (by have e0_ : (0 : Int32).toInt = 0 := (by decide); omega) (lv_sub hl [0, 1] rfl)
abbrev md_s_keysNotOver : Nat → Nat → Bool := mdf []
set_option maxHeartbeats 4000000 in
set_option maxRecDepth 100000 in
theorem lt_s_keysNotOver_a (l : Launch) (D : va_G) (cI cZ cS cR : ClassId) (N0 : NT) (g : GS) (h : Nat) (n : Int32) (r_h : g.1 h = 4) {p : Program} {e : Env} {s : State} {m : MethodId} {args : Array Value} {below : List Frame} {meth : Method} {c : Code} (hB : Tz p s m meth c args cX3_keysNotOver 4 RX3 D cI cZ cS cR N0) (hr : meth.sig.returnType = (some .int))    : ∀ (kf : Nat) (i : Int32) (j : Int32)  (H : Heap) (locs : List Loc) (ls : Array Slot), Tv D cI cZ cS cR N0 s.heap H locs g → Inv g → Ex g g → Sm md_s_keysNotOver g g → 0 ≤ i.toInt → i.toInt ≤ 16 → (16 ≤ i.toInt + kf) → lv_has ls 4 [(3, .int i), (2, .int j), (0, .ref h), (1, .int n)] → W p l e (rmx 1 0 0) s m args below meth c H locs 0 0 (MQ below (tQ D cI cZ cS cR N0 (fun v g' => ∃ (r : Int32), v = some (.int r) ∧ g' = g)) args s 0 0 (fun q => N0.1 ≤ q)) (F0 m 4 ls []) := by
  have hx := hB.1
  have hb := hB.2.1
  intro kf
  induction kf using Nat.strongRecOn with
  | ind kf ih =>
    intro i j H locs ls hT hI hE hM l_i u_i hk hl
    have r_1 : g.1 h = 4 := Ex.r hE r_h (by decide)
    refine lv_iload_n hx hb dX3_keysNotOver_4 rfl (lv_at hl 0 rfl) ?_
    refine lv_aload_n hx hb dX3_keysNotOver_5 rfl (lv_at hl 2 rfl) ?_
    obtain ⟨v_2, e_v_2, l_v_2, u_v_2⟩ := f_4_5 hI r_1
    refine t_get (ci := 3) (v := .int v_2) hB hT (ro_ci r_1 rfl) rfl 5 (by decide) k_158 e_v_2 dX3_keysNotOver_6 ?_
    refine lv_icmp_ge (tgt := 35) hx hb dX3_keysNotOver_9 (by decide) (fun c_3 => ?_) (fun c_3 => ?_)
    · have c_3' : v_2.toInt ≤ i.toInt := i_le c_3 rfl rfl
      refine lv_iload_n hx hb dX3_keysNotOver_35 rfl (lv_at hl 1 rfl) ?_
      exact t_iret hB hr hT (Nat.le_of_ble_eq_true rfl) (Nat.le_of_ble_eq_true rfl) dX3_keysNotOver_36 ⟨j, rfl, rfl⟩
    · have c_3' : i.toInt < v_2.toInt := i_nle c_3 rfl rfl
      refine lv_iload_n hx hb dX3_keysNotOver_12 rfl (lv_at hl 1 rfl) ?_
      refine lv_aload_n hx hb dX3_keysNotOver_13 rfl (lv_at hl 2 rfl) ?_
      refine lv_iload_n hx hb dX3_keysNotOver_14 rfl (lv_at hl 0 rfl) ?_
      refine lv_iload_n hx hb dX3_keysNotOver_15 rfl (lv_at hl 3 rfl) ?_
      refine t_callV (n := 2) (As := [.int i, .int n]) (rest := [.int j]) (ci := 3) hB hT hl.1 (s_isOver l D cI cZ cS cR N0 g hI h i n r_1 (by omega) (by omega)) (ro_ci r_1 rfl) rfl k_461 k_60 k_458 k_460 k_7 (by decide +kernel) ⟨(Nat.le_of_ble_eq_true rfl), (Nat.le_of_ble_eq_true rfl)⟩ rfl (Nat.le_of_ble_eq_true rfl) ⟨(Nat.le_of_ble_eq_true rfl), (Nat.le_of_ble_eq_true rfl)⟩ dX3_keysNotOver_16 (fun v g_4 H locs hp hT => ?_)
      obtain ⟨r_5, rfl, eg, f_6⟩ := hp
      rw [eg] at hT
      clear eg
      refine W.eq (g2 := F0 m 19 ls [.int r_5, .int j]) rfl ?_
      rcases f_6 with rfl | rfl
      · refine W.eq (g2 := F0 m 19 ls [.int 1, .int j]) rfl ?_
        refine lv_if_eq (tgt := 26) hx hb dX3_keysNotOver_19 (by decide) (fun c_ => absurd c_ (by decide)) (fun c_ => ?_)
        refine lv_iconst (v := 0) hx hb dX3_keysNotOver_22 (by decide) ?_
        refine lv_goto (tgt := 27) hx hb dX3_keysNotOver_23 (by decide) ?_
        refine lv_iadd hx hb dX3_keysNotOver_27 ?_
        refine lv_topi (fun z_9 ez_9 => ?_)
        refine lv_istore_n (lv' := [(2, .int z_9), (3, .int i), (0, .ref h), (1, .int n)]) hx hb dX3_keysNotOver_28 rfl hl (by decide) rfl (fun ls hl => ?_)
        obtain ⟨z_10, ez_10⟩ : ∃ z : Int32, z = i + 1 := ⟨_, rfl⟩
        have e_z_10 : z_10.toInt = i.toInt + 1 := i_add ez_10 rfl (by decide) (by omega) (by omega)
        refine lv_iinc (v := z_10) (lv' := [(3, .int z_10), (2, .int z_9), (0, .ref h), (1, .int n)]) hx hb dX3_keysNotOver_29 hl (k := 1) rfl (by rw [ez_10]; rfl) (by decide) rfl (fun ls hl => ?_)
        refine lv_goto (tgt := 4) hx hb dX3_keysNotOver_32 (by decide) ?_
        exact ih (kf - 1) (by omega) z_10 z_9 H locs ls hT hI hE hM (by omega) (by omega) (by have e0_ : (0 : Int32).toInt = 0 := (by decide); omega) (lv_sub hl [0, 1, 2, 3] rfl)
      · refine W.eq (g2 := F0 m 19 ls [.int 0, .int j]) rfl ?_
        refine lv_if_eq (tgt := 26) hx hb dX3_keysNotOver_19 (by decide) (fun c_ => ?_) (fun c_ => absurd (by decide) c_)
        refine lv_iconst (v := 1) hx hb dX3_keysNotOver_26 (by decide) ?_
        refine lv_iadd hx hb dX3_keysNotOver_27 ?_
        refine lv_topi (fun z_11 ez_11 => ?_)
        refine lv_istore_n (lv' := [(2, .int z_11), (3, .int i), (0, .ref h), (1, .int n)]) hx hb dX3_keysNotOver_28 rfl hl (by decide) rfl (fun ls hl => ?_)
        obtain ⟨z_12, ez_12⟩ : ∃ z : Int32, z = i + 1 := ⟨_, rfl⟩
        have e_z_12 : z_12.toInt = i.toInt + 1 := i_add ez_12 rfl (by decide) (by omega) (by omega)
        refine lv_iinc (v := z_12) (lv' := [(3, .int z_12), (2, .int z_11), (0, .ref h), (1, .int n)]) hx hb dX3_keysNotOver_29 hl (k := 1) rfl (by rw [ez_12]; rfl) (by decide) rfl (fun ls hl => ?_)
        refine lv_goto (tgt := 4) hx hb dX3_keysNotOver_32 (by decide) ?_
        exact ih (kf - 1) (by omega) z_12 z_11 H locs ls hT hI hE hM (by omega) (by omega) (by have e0_ : (0 : Int32).toInt = 0 := (by decide); omega) (lv_sub hl [0, 1, 2, 3] rfl)
set_option maxHeartbeats 4000000 in
set_option maxRecDepth 100000 in
theorem s_keysNotOver (l : Launch) (D : va_G) (cI cZ cS cR : ClassId) (N0 : NT) (g : GS) (hI : Inv g) (h : Nat) (n : Int32) (r_h : g.1 h = 4) : Ty l D cI cZ cS cR N0 yX3_keysNotOver cX3_keysNotOver 4 (some .int) 1 0 0 [.ref h, .int n] g (fun v g' => ∃ (r : Int32), v = some (.int r) ∧ g' = g) := by
  refine t_enter (by decide) (Nat.le_of_ble_eq_true rfl) ?_
  intro p e s m args below meth c ls H locs hB hr hin hl hT
  have hx := hB.1
  have hb := hB.2.1
  have hl : lv_has ls 4 [(0, .ref h), (1, .int n)] := hl
  have hE : Ex g g := Ex.rf
  have hM : Sm md_s_keysNotOver g g := Sm.rf
  refine lv_iconst (v := 0) hx hb dX3_keysNotOver_0 (by decide) ?_
  refine lv_istore_n (lv' := [(2, .int 0), (0, .ref h), (1, .int n)]) hx hb dX3_keysNotOver_1 rfl hl (by decide) rfl (fun ls hl => ?_)
  refine lv_iconst (v := 0) hx hb dX3_keysNotOver_2 (by decide) ?_
  refine lv_istore_n (lv' := [(3, .int 0), (2, .int 0), (0, .ref h), (1, .int n)]) hx hb dX3_keysNotOver_3 rfl hl (by decide) rfl (fun ls hl => ?_)
  exact lt_s_keysNotOver_a l D cI cZ cS cR N0 g h n r_h hB hr   16 (0 : Int32) (0 : Int32) H locs ls hT hI hE hM (by decide) (by decide) (by have e0_ : (0 : Int32).toInt = 0 := (by decide); omega) (lv_sub hl [0, 1, 2, 3] rfl)
abbrev md_s_dropOver : Nat → Nat → Bool := mdf [(4, 5), (50, 99)]
set_option maxHeartbeats 4000000 in
set_option maxRecDepth 100000 in
theorem lt_s_dropOver_a (l : Launch) (D : va_G) (cI cZ cS cR : ClassId) (N0 : NT) (g : GS) (h : Nat) (n : Int32) (r_h : g.1 h = 4) {p : Program} {e : Env} {s : State} {m : MethodId} {args : Array Value} {below : List Frame} {meth : Method} {c : Code} (hB : Tz p s m meth c args cX3_dropOver 4 RX3 D cI cZ cS cR N0) (hr : meth.sig.returnType = none)    : ∀ (kf : Nat) (g1 : GS) (i : Int32) (j : Int32)  (H : Heap) (locs : List Loc) (ls : Array Slot), Tv D cI cZ cS cR N0 s.heap H locs g1 → Inv g1 → Ex g g1 → Sm md_s_dropOver g g1 → 0 ≤ i.toInt → i.toInt ≤ 16 → 0 ≤ j.toInt → j.toInt ≤ 16 → (16 ≤ i.toInt + kf ∧ j.toInt ≤ i.toInt) → lv_has ls 4 [(3, .int i), (2, .int j), (0, .ref h), (1, .int n)] → W p l e (rmx 1 0 0) s m args below meth c H locs 0 0 (MQ below (tQ D cI cZ cS cR N0 (fun v g' => v = none ∧ Inv g' ∧ Ex g g' ∧ Sm md_s_dropOver g g')) args s 0 0 (fun q => N0.1 ≤ q)) (F0 m 4 ls []) := by
  have hx := hB.1
  have hb := hB.2.1
  intro kf
  induction kf using Nat.strongRecOn with
  | ind kf ih =>
    intro g1 i j H locs ls hT hI hE hM l_i u_i l_j u_j hk hl
    have r_1 : g1.1 h = 4 := Ex.r hE r_h (by decide)
    refine lv_iload_n hx hb dX3_dropOver_4 rfl (lv_at hl 0 rfl) ?_
    refine lv_aload_n hx hb dX3_dropOver_5 rfl (lv_at hl 2 rfl) ?_
    obtain ⟨v_2, e_v_2, l_v_2, u_v_2⟩ := f_4_5 hI r_1
    refine t_get (ci := 3) (v := .int v_2) hB hT (ro_ci r_1 rfl) rfl 5 (by decide) k_158 e_v_2 dX3_dropOver_6 ?_
    refine lv_icmp_ge (tgt := 78) hx hb dX3_dropOver_9 (by decide) (fun c_3 => ?_) (fun c_3 => ?_)
    · have c_3' : v_2.toInt ≤ i.toInt := i_le c_3 rfl rfl
      refine lv_aload_n hx hb dX3_dropOver_78 rfl (lv_at hl 2 rfl) ?_
      refine lv_iload_n hx hb dX3_dropOver_79 rfl (lv_at hl 1 rfl) ?_
      refine t_put0 (ci := 3) (v := .int j) hB hT (ro_ci r_1 rfl) (ro_n0 r_1 (by decide)) rfl 5 (by decide) k_158 (Or.inl rfl) rfl rfl dX3_dropOver_80 (fun H locs hT => ?_)
      have hI : Inv (sF g1 h 5 (.int j)) := hI.sF (p_4_5 r_1 (⟨_, rfl, by omega, by omega⟩))
      have hM : Sm md_s_dropOver g (sF g1 h 5 (.int j)) := hM.tr hE (Sm_sF (by rw [r_1]; rfl))
      have hE : Ex g (sF g1 h 5 (.int j)) := hE
      exact t_vret hB hr hT (Nat.le_of_ble_eq_true rfl) (Nat.le_of_ble_eq_true rfl) dX3_dropOver_83 ⟨rfl, hI, hE, hM⟩
    · have c_3' : i.toInt < v_2.toInt := i_nle c_3 rfl rfl
      refine lv_aload_n hx hb dX3_dropOver_12 rfl (lv_at hl 2 rfl) ?_
      refine lv_iload_n hx hb dX3_dropOver_13 rfl (lv_at hl 0 rfl) ?_
      refine lv_iload_n hx hb dX3_dropOver_14 rfl (lv_at hl 3 rfl) ?_
      refine t_callV (n := 2) (As := [.int i, .int n]) (rest := []) (ci := 3) hB hT hl.1 (s_isOver l D cI cZ cS cR N0 g1 hI h i n r_1 (by omega) (by omega)) (ro_ci r_1 rfl) rfl k_461 k_60 k_458 k_460 k_7 (by decide +kernel) ⟨(Nat.le_of_ble_eq_true rfl), (Nat.le_of_ble_eq_true rfl)⟩ rfl (Nat.le_of_ble_eq_true rfl) ⟨(Nat.le_of_ble_eq_true rfl), (Nat.le_of_ble_eq_true rfl)⟩ dX3_dropOver_15 (fun v g_4 H locs hp hT => ?_)
      obtain ⟨r_5, rfl, eg, f_6⟩ := hp
      rw [eg] at hT
      clear eg
      refine W.eq (g2 := F0 m 18 ls [.int r_5]) rfl ?_
      rcases f_6 with rfl | rfl
      · refine W.eq (g2 := F0 m 18 ls [.int 1]) rfl ?_
        refine lv_if_ne (tgt := 72) hx hb dX3_dropOver_18 (by decide) (fun c_ => ?_) (fun c_ => absurd c_ (by decide))
        obtain ⟨z_9, ez_9⟩ : ∃ z : Int32, z = i + 1 := ⟨_, rfl⟩
        have e_z_9 : z_9.toInt = i.toInt + 1 := i_add ez_9 rfl (by decide) (by omega) (by omega)
        refine lv_iinc (v := z_9) (lv' := [(3, .int z_9), (2, .int j), (0, .ref h), (1, .int n)]) hx hb dX3_dropOver_72 hl (k := 0) rfl (by rw [ez_9]; rfl) (by decide) rfl (fun ls hl => ?_)
        refine lv_goto (tgt := 4) hx hb dX3_dropOver_75 (by decide) ?_
        exact ih (kf - 1) (by omega) g1 z_9 j H locs ls hT hI hE hM (by omega) (by omega) (by omega) (by omega) (by have e0_ : (0 : Int32).toInt = 0 := (by decide); omega) (lv_sub hl [0, 1, 2, 3] rfl)
      · refine W.eq (g2 := F0 m 18 ls [.int 0]) rfl ?_
        refine lv_if_ne (tgt := 72) hx hb dX3_dropOver_18 (by decide) (fun c_ => absurd (by decide) c_) (fun c_ => ?_)
        refine lv_aload_n hx hb dX3_dropOver_21 rfl (lv_at hl 2 rfl) ?_
        obtain ⟨v_10, e_v_10, r_v_10, n_v_10⟩ := f_4_6 hI r_1
        refine t_get (ci := 3) (v := .ref v_10) hB hT (ro_ci r_1 rfl) rfl 6 (by decide) k_159 e_v_10 dX3_dropOver_22 ?_
        refine lv_iload_n hx hb dX3_dropOver_25 rfl (lv_at hl 1 rfl) ?_
        refine lv_aload_n hx hb dX3_dropOver_26 rfl (lv_at hl 2 rfl) ?_
        refine t_get (ci := 3) (v := .ref v_10) hB hT (ro_ci r_1 rfl) rfl 6 (by decide) k_159 e_v_10 dX3_dropOver_27 ?_
        refine lv_iload_n hx hb dX3_dropOver_30 rfl (lv_at hl 0 rfl) ?_
        have i_u_11 : vp_in i 16 := (i_in (n := 16) rfl (by omega) (by omega))
        refine t_iald hB hT (ro_in r_v_10 (by decide)) n_v_10 i_u_11 rfl dX3_dropOver_31 ?_
        refine lv_topi (fun u_11 e_u_11 => ?_)
        have i_12 : vp_in j 16 := (i_in (n := 16) rfl (by omega) (by omega))
        refine t_iast hB hT (ro_in r_v_10 (by decide)) n_v_10 i_12 dX3_dropOver_32 (fun H locs hT => ?_)
        have hI : Inv (sC g1 v_10 j.toNatClampNeg u_11) := hI.sC (ck r_v_10 trivial)
        have hM : Sm md_s_dropOver g (sC g1 v_10 j.toNatClampNeg u_11) := hM.tr hE (Sm_sC (by rw [r_v_10]; rfl))
        have hE : Ex g (sC g1 v_10 j.toNatClampNeg u_11) := hE
        refine lv_aload_n hx hb dX3_dropOver_33 rfl (lv_at hl 2 rfl) ?_
        obtain ⟨v_13, e_v_13, r_v_13, n_v_13⟩ := f_4_7 hI r_1
        refine t_get (ci := 3) (v := .ref v_13) hB hT (ro_ci r_1 rfl) rfl 7 (by decide) k_160 e_v_13 dX3_dropOver_34 ?_
        refine lv_iload_n hx hb dX3_dropOver_37 rfl (lv_at hl 1 rfl) ?_
        refine lv_aload_n hx hb dX3_dropOver_38 rfl (lv_at hl 2 rfl) ?_
        refine t_get (ci := 3) (v := .ref v_13) hB hT (ro_ci r_1 rfl) rfl 7 (by decide) k_160 e_v_13 dX3_dropOver_39 ?_
        refine lv_iload_n hx hb dX3_dropOver_42 rfl (lv_at hl 0 rfl) ?_
        have i_u_14 : vp_in i 16 := (i_in (n := 16) rfl (by omega) (by omega))
        refine t_iald hB hT (ro_in r_v_13 (by decide)) n_v_13 i_u_14 rfl dX3_dropOver_43 ?_
        refine lv_topi (fun u_14 e_u_14 => ?_)
        have i_15 : vp_in j 16 := (i_in (n := 16) rfl (by omega) (by omega))
        refine t_iast hB hT (ro_in r_v_13 (by decide)) n_v_13 i_15 dX3_dropOver_44 (fun H locs hT => ?_)
        have hI : Inv (sC (sC g1 v_10 j.toNatClampNeg u_11) v_13 j.toNatClampNeg u_14) := hI.sC (ck r_v_13 trivial)
        have hM : Sm md_s_dropOver g (sC (sC g1 v_10 j.toNatClampNeg u_11) v_13 j.toNatClampNeg u_14) := hM.tr hE (Sm_sC (by rw [r_v_13]; rfl))
        have hE : Ex g (sC (sC g1 v_10 j.toNatClampNeg u_11) v_13 j.toNatClampNeg u_14) := hE
        refine lv_aload_n hx hb dX3_dropOver_45 rfl (lv_at hl 2 rfl) ?_
        obtain ⟨v_16, e_v_16, r_v_16, n_v_16⟩ := f_4_8 hI r_1
        refine t_get (ci := 3) (v := .ref v_16) hB hT (ro_ci r_1 rfl) rfl 8 (by decide) k_161 e_v_16 dX3_dropOver_46 ?_
        refine lv_iload_n hx hb dX3_dropOver_49 rfl (lv_at hl 1 rfl) ?_
        refine lv_aload_n hx hb dX3_dropOver_50 rfl (lv_at hl 2 rfl) ?_
        refine t_get (ci := 3) (v := .ref v_16) hB hT (ro_ci r_1 rfl) rfl 8 (by decide) k_161 e_v_16 dX3_dropOver_51 ?_
        refine lv_iload_n hx hb dX3_dropOver_54 rfl (lv_at hl 0 rfl) ?_
        have i_u_17 : vp_in i 16 := (i_in (n := 16) rfl (by omega) (by omega))
        refine t_iald hB hT (ro_in r_v_16 (by decide)) n_v_16 i_u_17 rfl dX3_dropOver_55 ?_
        refine lv_topi (fun u_17 e_u_17 => ?_)
        have i_18 : vp_in j 16 := (i_in (n := 16) rfl (by omega) (by omega))
        refine t_iast hB hT (ro_in r_v_16 (by decide)) n_v_16 i_18 dX3_dropOver_56 (fun H locs hT => ?_)
        have hI : Inv (sC (sC (sC g1 v_10 j.toNatClampNeg u_11) v_13 j.toNatClampNeg u_14) v_16 j.toNatClampNeg u_17) := hI.sC (ck r_v_16 trivial)
        have hM : Sm md_s_dropOver g (sC (sC (sC g1 v_10 j.toNatClampNeg u_11) v_13 j.toNatClampNeg u_14) v_16 j.toNatClampNeg u_17) := hM.tr hE (Sm_sC (by rw [r_v_16]; rfl))
        have hE : Ex g (sC (sC (sC g1 v_10 j.toNatClampNeg u_11) v_13 j.toNatClampNeg u_14) v_16 j.toNatClampNeg u_17) := hE
        refine lv_aload_n hx hb dX3_dropOver_57 rfl (lv_at hl 2 rfl) ?_
        obtain ⟨v_19, e_v_19, r_v_19, n_v_19⟩ := f_4_9 hI r_1
        refine t_get (ci := 3) (v := .ref v_19) hB hT (ro_ci r_1 rfl) rfl 9 (by decide) k_162 e_v_19 dX3_dropOver_58 ?_
        refine lv_iload_n hx hb dX3_dropOver_61 rfl (lv_at hl 1 rfl) ?_
        refine lv_aload_n hx hb dX3_dropOver_62 rfl (lv_at hl 2 rfl) ?_
        refine t_get (ci := 3) (v := .ref v_19) hB hT (ro_ci r_1 rfl) rfl 9 (by decide) k_162 e_v_19 dX3_dropOver_63 ?_
        refine lv_iload_n hx hb dX3_dropOver_66 rfl (lv_at hl 0 rfl) ?_
        have i_u_20 : vp_in i 16 := (i_in (n := 16) rfl (by omega) (by omega))
        refine t_iald hB hT (ro_in r_v_19 (by decide)) n_v_19 i_u_20 rfl dX3_dropOver_67 ?_
        refine lv_topi (fun u_20 e_u_20 => ?_)
        have i_21 : vp_in j 16 := (i_in (n := 16) rfl (by omega) (by omega))
        refine t_iast hB hT (ro_in r_v_19 (by decide)) n_v_19 i_21 dX3_dropOver_68 (fun H locs hT => ?_)
        have hI : Inv (sC (sC (sC (sC g1 v_10 j.toNatClampNeg u_11) v_13 j.toNatClampNeg u_14) v_16 j.toNatClampNeg u_17) v_19 j.toNatClampNeg u_20) := hI.sC (ck r_v_19 trivial)
        have hM : Sm md_s_dropOver g (sC (sC (sC (sC g1 v_10 j.toNatClampNeg u_11) v_13 j.toNatClampNeg u_14) v_16 j.toNatClampNeg u_17) v_19 j.toNatClampNeg u_20) := hM.tr hE (Sm_sC (by rw [r_v_19]; rfl))
        have hE : Ex g (sC (sC (sC (sC g1 v_10 j.toNatClampNeg u_11) v_13 j.toNatClampNeg u_14) v_16 j.toNatClampNeg u_17) v_19 j.toNatClampNeg u_20) := hE
        obtain ⟨z_22, ez_22⟩ : ∃ z : Int32, z = j + 1 := ⟨_, rfl⟩
        have e_z_22 : z_22.toInt = j.toInt + 1 := i_add ez_22 rfl (by decide) (by omega) (by omega)
        refine lv_iinc (v := z_22) (lv' := [(2, .int z_22), (3, .int i), (0, .ref h), (1, .int n)]) hx hb dX3_dropOver_69 hl (k := 1) rfl (by rw [ez_22]; rfl) (by decide) rfl (fun ls hl => ?_)
        obtain ⟨z_23, ez_23⟩ : ∃ z : Int32, z = i + 1 := ⟨_, rfl⟩
        have e_z_23 : z_23.toInt = i.toInt + 1 := i_add ez_23 rfl (by decide) (by omega) (by omega)
        refine lv_iinc (v := z_23) (lv' := [(3, .int z_23), (2, .int z_22), (0, .ref h), (1, .int n)]) hx hb dX3_dropOver_72 hl (k := 1) rfl (by rw [ez_23]; rfl) (by decide) rfl (fun ls hl => ?_)
        refine lv_goto (tgt := 4) hx hb dX3_dropOver_75 (by decide) ?_
        exact ih (kf - 1) (by omega) (sC (sC (sC (sC g1 v_10 j.toNatClampNeg u_11) v_13 j.toNatClampNeg u_14) v_16 j.toNatClampNeg u_17) v_19 j.toNatClampNeg u_20) z_23 z_22 H locs ls hT hI hE hM (by omega) (by omega) (by omega) (by omega) (by have e0_ : (0 : Int32).toInt = 0 := (by decide); omega) (lv_sub hl [0, 1, 2, 3] rfl)
set_option maxHeartbeats 4000000 in
set_option maxRecDepth 100000 in
theorem s_dropOver (l : Launch) (D : va_G) (cI cZ cS cR : ClassId) (N0 : NT) (g : GS) (hI : Inv g) (h : Nat) (n : Int32) (r_h : g.1 h = 4) : Ty l D cI cZ cS cR N0 yX3_dropOver cX3_dropOver 4 none 1 0 0 [.ref h, .int n] g (fun v g' => v = none ∧ Inv g' ∧ Ex g g' ∧ Sm md_s_dropOver g g') := by
  refine t_enter (by decide) (Nat.le_of_ble_eq_true rfl) ?_
  intro p e s m args below meth c ls H locs hB hr hin hl hT
  have hx := hB.1
  have hb := hB.2.1
  have hl : lv_has ls 4 [(0, .ref h), (1, .int n)] := hl
  have hE : Ex g g := Ex.rf
  have hM : Sm md_s_dropOver g g := Sm.rf
  refine lv_iconst (v := 0) hx hb dX3_dropOver_0 (by decide) ?_
  refine lv_istore_n (lv' := [(2, .int 0), (0, .ref h), (1, .int n)]) hx hb dX3_dropOver_1 rfl hl (by decide) rfl (fun ls hl => ?_)
  refine lv_iconst (v := 0) hx hb dX3_dropOver_2 (by decide) ?_
  refine lv_istore_n (lv' := [(3, .int 0), (2, .int 0), (0, .ref h), (1, .int n)]) hx hb dX3_dropOver_3 rfl hl (by decide) rfl (fun ls hl => ?_)
  exact lt_s_dropOver_a l D cI cZ cS cR N0 g h n r_h hB hr   16 g (0 : Int32) (0 : Int32) H locs ls hT hI hE hM (by decide) (by decide) (by decide) (by decide) (by have e0_ : (0 : Int32).toInt = 0 := (by decide); omega) (lv_sub hl [0, 1, 2, 3] rfl)
abbrev md_s_placeOfKey : Nat → Nat → Bool := mdf []
set_option maxHeartbeats 4000000 in
set_option maxRecDepth 100000 in
theorem lt_s_placeOfKey_a (l : Launch) (D : va_G) (cI cZ cS cR : ClassId) (N0 : NT) (g : GS) (h : Nat) (n : Int32) (r_h : g.1 h = 4) {p : Program} {e : Env} {s : State} {m : MethodId} {args : Array Value} {below : List Frame} {meth : Method} {c : Code} (hB : Tz p s m meth c args cX3_placeOfKey 3 RX3 D cI cZ cS cR N0) (hr : meth.sig.returnType = (some .int))    : ∀ (kf : Nat) (i : Int32)  (H : Heap) (locs : List Loc) (ls : Array Slot), Tv D cI cZ cS cR N0 s.heap H locs g → Inv g → Ex g g → Sm md_s_placeOfKey g g → 0 ≤ i.toInt → i.toInt ≤ 16 → (16 ≤ i.toInt + kf) → lv_has ls 3 [(2, .int i), (0, .ref h), (1, .int n)] → W p l e (rmx 0 0 0) s m args below meth c H locs 0 0 (MQ below (tQ D cI cZ cS cR N0 (fun v g' => ∃ (r : Int32), v = some (.int r) ∧ g' = g ∧ (r = -1 ∨ (0 ≤ r.toInt ∧ r.toInt ≤ 15)))) args s 0 0 (fun q => N0.1 ≤ q)) (F0 m 2 ls []) := by
  have hx := hB.1
  have hb := hB.2.1
  intro kf
  induction kf using Nat.strongRecOn with
  | ind kf ih =>
    intro i H locs ls hT hI hE hM l_i u_i hk hl
    have r_1 : g.1 h = 4 := Ex.r hE r_h (by decide)
    refine lv_iload_n hx hb dX3_placeOfKey_2 rfl (lv_at hl 0 rfl) ?_
    refine lv_aload_n hx hb dX3_placeOfKey_3 rfl (lv_at hl 1 rfl) ?_
    obtain ⟨v_2, e_v_2, l_v_2, u_v_2⟩ := f_4_5 hI r_1
    refine t_get (ci := 3) (v := .int v_2) hB hT (ro_ci r_1 rfl) rfl 5 (by decide) k_158 e_v_2 dX3_placeOfKey_4 ?_
    refine lv_icmp_ge (tgt := 28) hx hb dX3_placeOfKey_7 (by decide) (fun c_3 => ?_) (fun c_3 => ?_)
    · have c_3' : v_2.toInt ≤ i.toInt := i_le c_3 rfl rfl
      refine lv_iconst (v := (-1)) hx hb dX3_placeOfKey_28 (by decide) ?_
      exact t_iret hB hr hT (Nat.le_of_ble_eq_true rfl) (Nat.le_of_ble_eq_true rfl) dX3_placeOfKey_29 ⟨(-1), rfl, rfl, (Or.inl rfl)⟩
    · have c_3' : i.toInt < v_2.toInt := i_nle c_3 rfl rfl
      refine lv_aload_n hx hb dX3_placeOfKey_10 rfl (lv_at hl 1 rfl) ?_
      obtain ⟨v_4, e_v_4, r_v_4, n_v_4⟩ := f_4_6 hI r_1
      refine t_get (ci := 3) (v := .ref v_4) hB hT (ro_ci r_1 rfl) rfl 6 (by decide) k_159 e_v_4 dX3_placeOfKey_11 ?_
      refine lv_iload_n hx hb dX3_placeOfKey_14 rfl (lv_at hl 0 rfl) ?_
      have i_u_5 : vp_in i 16 := (i_in (n := 16) rfl (by omega) (by omega))
      refine t_iald hB hT (ro_in r_v_4 (by decide)) n_v_4 i_u_5 rfl dX3_placeOfKey_15 ?_
      refine lv_topi (fun u_5 e_u_5 => ?_)
      refine lv_iload_n hx hb dX3_placeOfKey_16 rfl (lv_at hl 2 rfl) ?_
      refine lv_icmp_ne (tgt := 22) hx hb dX3_placeOfKey_17 (by decide) (fun c_6 => ?_) (fun c_6 => ?_)
      · have c_6' : u_5.toInt ≠ n.toInt := i_ne c_6 rfl rfl
        obtain ⟨z_7, ez_7⟩ : ∃ z : Int32, z = i + 1 := ⟨_, rfl⟩
        have e_z_7 : z_7.toInt = i.toInt + 1 := i_add ez_7 rfl (by decide) (by omega) (by omega)
        refine lv_iinc (v := z_7) (lv' := [(2, .int z_7), (0, .ref h), (1, .int n)]) hx hb dX3_placeOfKey_22 hl (k := 0) rfl (by rw [ez_7]; rfl) (by decide) rfl (fun ls hl => ?_)
        refine lv_goto (tgt := 2) hx hb dX3_placeOfKey_25 (by decide) ?_
        exact ih (kf - 1) (by omega) z_7 H locs ls hT hI hE hM (by omega) (by omega) (by have e0_ : (0 : Int32).toInt = 0 := (by decide); omega) (lv_sub hl [0, 1, 2] rfl)
      · have c_6' : u_5.toInt = n.toInt := i_eq c_6 rfl rfl
        refine lv_iload_n hx hb dX3_placeOfKey_20 rfl (lv_at hl 0 rfl) ?_
        exact t_iret hB hr hT (Nat.le_of_ble_eq_true rfl) (Nat.le_of_ble_eq_true rfl) dX3_placeOfKey_21 ⟨i, rfl, rfl, (Or.inr ⟨by omega, by omega⟩)⟩
set_option maxHeartbeats 4000000 in
set_option maxRecDepth 100000 in
theorem s_placeOfKey (l : Launch) (D : va_G) (cI cZ cS cR : ClassId) (N0 : NT) (g : GS) (hI : Inv g) (h : Nat) (n : Int32) (r_h : g.1 h = 4) : Ty l D cI cZ cS cR N0 yX3_placeOfKey cX3_placeOfKey 3 (some .int) 0 0 0 [.ref h, .int n] g (fun v g' => ∃ (r : Int32), v = some (.int r) ∧ g' = g ∧ (r = -1 ∨ (0 ≤ r.toInt ∧ r.toInt ≤ 15))) := by
  refine t_enter (by decide) (Nat.le_of_ble_eq_true rfl) ?_
  intro p e s m args below meth c ls H locs hB hr hin hl hT
  have hx := hB.1
  have hb := hB.2.1
  have hl : lv_has ls 3 [(0, .ref h), (1, .int n)] := hl
  have hE : Ex g g := Ex.rf
  have hM : Sm md_s_placeOfKey g g := Sm.rf
  refine lv_iconst (v := 0) hx hb dX3_placeOfKey_0 (by decide) ?_
  refine lv_istore_n (lv' := [(2, .int 0), (0, .ref h), (1, .int n)]) hx hb dX3_placeOfKey_1 rfl hl (by decide) rfl (fun ls hl => ?_)
  exact lt_s_placeOfKey_a l D cI cZ cS cR N0 g h n r_h hB hr   16 (0 : Int32) H locs ls hT hI hE hM (by decide) (by decide) (by have e0_ : (0 : Int32).toInt = 0 := (by decide); omega) (lv_sub hl [0, 1, 2] rfl)
abbrev md_s_beginKnown : Nat → Nat → Bool := mdf [(4, 10), (4, 11), (4, 14), (50, 99)]
set_option maxHeartbeats 4000000 in
set_option maxRecDepth 100000 in
theorem lt_s_beginKnown_a (l : Launch) (D : va_G) (cI cZ cS cR : ClassId) (N0 : NT) (g : GS) (h : Nat) (n : Int32) (k : Int32) (r_h : g.1 h = 4) {p : Program} {e : Env} {s : State} {m : MethodId} {args : Array Value} {below : List Frame} {meth : Method} {c : Code} (hB : Tz p s m meth c args cX3_beginKnown 4 RX3 D cI cZ cS cR N0) (hr : meth.sig.returnType = none)    : ∀ (kf : Nat) (g1 : GS) (i : Int32)  (H : Heap) (locs : List Loc) (ls : Array Slot), Tv D cI cZ cS cR N0 s.heap H locs g1 → Inv g1 → Ex g g1 → Sm md_s_beginKnown g g1 → 0 ≤ i.toInt → i.toInt ≤ 8 → (8 ≤ i.toInt + kf) → lv_has ls 4 [(3, .int i), (0, .ref h), (1, .int n), (2, .int k)] → W p l e (rmx 1 0 0) s m args below meth c H locs 0 0 (MQ below (tQ D cI cZ cS cR N0 (fun v g' => v = none ∧ Inv g' ∧ Ex g g' ∧ Sm md_s_beginKnown g g')) args s 0 0 (fun q => N0.1 ≤ q)) (F0 m 45 ls []) := by
  have hx := hB.1
  have hb := hB.2.1
  intro kf
  induction kf using Nat.strongRecOn with
  | ind kf ih =>
    intro g1 i H locs ls hT hI hE hM l_i u_i hk hl
    have r_1 : g1.1 h = 4 := Ex.r hE r_h (by decide)
    refine lv_iload_n hx hb dX3_beginKnown_45 rfl (lv_at hl 0 rfl) ?_
    refine lv_bipush (v := 8) hx hb dX3_beginKnown_46 (by decide) ?_
    refine lv_icmp_ge (tgt := 76) hx hb dX3_beginKnown_48 (by decide) (fun c_2 => ?_) (fun c_2 => ?_)
    · have c_2' : 8 ≤ i.toInt := i_le c_2 (by decide) rfl
      exact t_vret hB hr hT (Nat.le_of_ble_eq_true rfl) (Nat.le_of_ble_eq_true rfl) dX3_beginKnown_76 ⟨rfl, hI, hE, hM⟩
    · have c_2' : i.toInt < 8 := i_nle c_2 (by decide) rfl
      refine lv_aload_n hx hb dX3_beginKnown_51 rfl (lv_at hl 1 rfl) ?_
      obtain ⟨v_3, e_v_3, r_v_3, n_v_3⟩ := f_4_13 hI r_1
      refine t_get (ci := 3) (v := .ref v_3) hB hT (ro_ci r_1 rfl) rfl 13 (by decide) k_166 e_v_3 dX3_beginKnown_52 ?_
      refine lv_iload_n hx hb dX3_beginKnown_55 rfl (lv_at hl 0 rfl) ?_
      refine lv_aload_n hx hb dX3_beginKnown_56 rfl (lv_at hl 1 rfl) ?_
      obtain ⟨v_4, e_v_4, r_v_4, n_v_4⟩ := f_4_12 hI r_1
      refine t_get (ci := 3) (v := .ref v_4) hB hT (ro_ci r_1 rfl) rfl 12 (by decide) k_165 e_v_4 dX3_beginKnown_57 ?_
      refine lv_iload_n hx hb dX3_beginKnown_60 rfl (lv_at hl 0 rfl) ?_
      have i_u_5 : vp_in i 8 := (i_in (n := 8) rfl (by omega) (by omega))
      refine t_iald hB hT (ro_in r_v_4 (by decide)) n_v_4 i_u_5 rfl dX3_beginKnown_61 ?_
      refine lv_topi (fun u_5 e_u_5 => ?_)
      have i_6 : vp_in i 8 := (i_in (n := 8) rfl (by omega) (by omega))
      refine t_iast hB hT (ro_in r_v_3 (by decide)) n_v_3 i_6 dX3_beginKnown_62 (fun H locs hT => ?_)
      have hI : Inv (sC g1 v_3 i.toNatClampNeg u_5) := hI.sC (ck r_v_3 trivial)
      have hM : Sm md_s_beginKnown g (sC g1 v_3 i.toNatClampNeg u_5) := hM.tr hE (Sm_sC (by rw [r_v_3]; rfl))
      have hE : Ex g (sC g1 v_3 i.toNatClampNeg u_5) := hE
      refine lv_aload_n hx hb dX3_beginKnown_63 rfl (lv_at hl 1 rfl) ?_
      refine t_get (ci := 3) (v := .ref v_4) hB hT (ro_ci r_1 rfl) rfl 12 (by decide) k_165 e_v_4 dX3_beginKnown_64 ?_
      refine lv_iload_n hx hb dX3_beginKnown_67 rfl (lv_at hl 0 rfl) ?_
      refine lv_iconst (v := (-1)) hx hb dX3_beginKnown_68 (by decide) ?_
      have i_7 : vp_in i 8 := (i_in (n := 8) rfl (by omega) (by omega))
      refine t_iast hB hT (ro_in r_v_4 (by decide)) n_v_4 i_7 dX3_beginKnown_69 (fun H locs hT => ?_)
      have hI : Inv (sC (sC g1 v_3 i.toNatClampNeg u_5) v_4 i.toNatClampNeg ((-1) : Int32)) := hI.sC (ck r_v_4 trivial)
      have hM : Sm md_s_beginKnown g (sC (sC g1 v_3 i.toNatClampNeg u_5) v_4 i.toNatClampNeg ((-1) : Int32)) := hM.tr hE (Sm_sC (by rw [r_v_4]; rfl))
      have hE : Ex g (sC (sC g1 v_3 i.toNatClampNeg u_5) v_4 i.toNatClampNeg ((-1) : Int32)) := hE
      obtain ⟨z_8, ez_8⟩ : ∃ z : Int32, z = i + 1 := ⟨_, rfl⟩
      have e_z_8 : z_8.toInt = i.toInt + 1 := i_add ez_8 rfl (by decide) (by omega) (by omega)
      refine lv_iinc (v := z_8) (lv' := [(3, .int z_8), (0, .ref h), (1, .int n), (2, .int k)]) hx hb dX3_beginKnown_70 hl (k := 0) rfl (by rw [ez_8]; rfl) (by decide) rfl (fun ls hl => ?_)
      refine lv_goto (tgt := 45) hx hb dX3_beginKnown_73 (by decide) ?_
      exact ih (kf - 1) (by omega) (sC (sC g1 v_3 i.toNatClampNeg u_5) v_4 i.toNatClampNeg ((-1) : Int32)) z_8 H locs ls hT hI hE hM (by omega) (by omega) (by have e0_ : (0 : Int32).toInt = 0 := (by decide); omega) (lv_sub hl [0, 1, 2, 3] rfl)
set_option maxHeartbeats 4000000 in
set_option maxRecDepth 100000 in
theorem s_beginKnown (l : Launch) (D : va_G) (cI cZ cS cR : ClassId) (N0 : NT) (g : GS) (hI : Inv g) (h : Nat) (n : Int32) (k : Int32) (r_h : g.1 h = 4) : Ty l D cI cZ cS cR N0 yX3_beginKnown cX3_beginKnown 4 none 1 0 0 [.ref h, .int n, .int k] g (fun v g' => v = none ∧ Inv g' ∧ Ex g g' ∧ Sm md_s_beginKnown g g') := by
  refine t_enter (by decide) (Nat.le_of_ble_eq_true rfl) ?_
  intro p e s m args below meth c ls H locs hB hr hin hl hT
  have hx := hB.1
  have hb := hB.2.1
  have hl : lv_has ls 4 [(0, .ref h), (1, .int n), (2, .int k)] := hl
  have hE : Ex g g := Ex.rf
  have hM : Sm md_s_beginKnown g g := Sm.rf
  refine lv_aload_n hx hb dX3_beginKnown_0 rfl (lv_at hl 0 rfl) ?_
  refine lv_aload_n hx hb dX3_beginKnown_1 rfl (lv_at hl 0 rfl) ?_
  refine lv_iconst (v := 3) hx hb dX3_beginKnown_2 (by decide) ?_
  refine t_callV (n := 1) (As := [.int 3]) (rest := [.ref h]) (ci := 3) hB hT hl.1 (s_isMended l D cI cZ cS cR N0 g hI h 3 r_h) (ro_ci r_h rfl) rfl k_512 k_60 k_530 k_510 k_511 (by decide +kernel) ⟨(Nat.le_of_ble_eq_true rfl), (Nat.le_of_ble_eq_true rfl)⟩ rfl (Nat.le_of_ble_eq_true rfl) ⟨(Nat.le_of_ble_eq_true rfl), (Nat.le_of_ble_eq_true rfl)⟩ dX3_beginKnown_3 (fun v g_1 H locs hp hT => ?_)
  obtain ⟨r_2, rfl, eg, f_3⟩ := hp
  rw [eg] at hT
  clear eg
  refine W.eq (g2 := F0 m 6 ls [.int r_2, .ref h]) rfl ?_
  have qc_6 : (3 : Int32).toInt = 3 := (by decide)
  rcases f_3 with rfl | rfl
  · refine W.eq (g2 := F0 m 6 ls [.int 1, .ref h]) rfl ?_
    refine lv_if_eq (tgt := 29) hx hb dX3_beginKnown_6 (by decide) (fun c_ => absurd c_ (by decide)) (fun c_ => ?_)
    refine lv_aload_n hx hb dX3_beginKnown_9 rfl (lv_at hl 0 rfl) ?_
    obtain ⟨v_7, e_v_7⟩ := f_4_10 hI r_h
    refine t_get (ci := 3) (v := .int v_7) hB hT (ro_ci r_h rfl) rfl 10 (by decide) k_163 e_v_7 dX3_beginKnown_10 ?_
    refine lv_iload_n hx hb dX3_beginKnown_13 rfl (lv_at hl 1 rfl) ?_
    refine lv_icmp_ne (tgt := 29) hx hb dX3_beginKnown_14 (by decide) (fun c_8 => ?_) (fun c_8 => ?_)
    · have c_8' : v_7.toInt ≠ n.toInt := i_ne c_8 rfl rfl
      refine lv_iconst (v := 0) hx hb dX3_beginKnown_29 (by decide) ?_
      refine t_put0 (ci := 3) (v := .int 0) hB hT (ro_ci r_h rfl) (ro_n0 r_h (by decide)) rfl 14 (by decide) k_167 (Or.inl rfl) rfl rfl dX3_beginKnown_30 (fun H locs hT => ?_)
      have hI : Inv (sF g h 14 (.int 0)) := hI.sF (p_4_14 r_h (⟨_, rfl, by decide, by decide⟩))
      have hM : Sm md_s_beginKnown g (sF g h 14 (.int 0)) := hM.tr hE (Sm_sF (by rw [r_h]; rfl))
      have hE : Ex g (sF g h 14 (.int 0)) := hE
      refine lv_aload_n hx hb dX3_beginKnown_33 rfl (lv_at hl 0 rfl) ?_
      refine lv_iload_n hx hb dX3_beginKnown_34 rfl (lv_at hl 1 rfl) ?_
      refine t_put0 (ci := 3) (v := .int n) hB hT (ro_ci r_h rfl) (ro_n0 r_h (by decide)) rfl 10 (by decide) k_163 (Or.inl rfl) rfl rfl dX3_beginKnown_35 (fun H locs hT => ?_)
      have hI : Inv (sF (sF g h 14 (.int 0)) h 10 (.int n)) := hI.sF (p_4_10 r_h (⟨_, rfl⟩))
      have hM : Sm md_s_beginKnown g (sF (sF g h 14 (.int 0)) h 10 (.int n)) := hM.tr hE (Sm_sF (by rw [r_h]; rfl))
      have hE : Ex g (sF (sF g h 14 (.int 0)) h 10 (.int n)) := hE
      refine lv_aload_n hx hb dX3_beginKnown_38 rfl (lv_at hl 0 rfl) ?_
      refine lv_iload_n hx hb dX3_beginKnown_39 rfl (lv_at hl 2 rfl) ?_
      refine t_put0 (ci := 3) (v := .int k) hB hT (ro_ci r_h rfl) (ro_n0 r_h (by decide)) rfl 11 (by decide) k_164 (Or.inl rfl) rfl rfl dX3_beginKnown_40 (fun H locs hT => ?_)
      have hI : Inv (sF (sF (sF g h 14 (.int 0)) h 10 (.int n)) h 11 (.int k)) := hI.sF (p_4_11 r_h (⟨_, rfl⟩))
      have hM : Sm md_s_beginKnown g (sF (sF (sF g h 14 (.int 0)) h 10 (.int n)) h 11 (.int k)) := hM.tr hE (Sm_sF (by rw [r_h]; rfl))
      have hE : Ex g (sF (sF (sF g h 14 (.int 0)) h 10 (.int n)) h 11 (.int k)) := hE
      refine lv_iconst (v := 0) hx hb dX3_beginKnown_43 (by decide) ?_
      refine lv_istore_n (lv' := [(3, .int 0), (0, .ref h), (1, .int n), (2, .int k)]) hx hb dX3_beginKnown_44 rfl hl (by decide) rfl (fun ls hl => ?_)
      exact lt_s_beginKnown_a l D cI cZ cS cR N0 g h n k r_h hB hr   8 (sF (sF (sF g h 14 (.int 0)) h 10 (.int n)) h 11 (.int k)) (0 : Int32) H locs ls hT hI hE hM (by decide) (by decide) (by have e0_ : (0 : Int32).toInt = 0 := (by decide); omega) (lv_sub hl [0, 1, 2, 3] rfl)
    · have c_8' : v_7.toInt = n.toInt := i_eq c_8 rfl rfl
      refine lv_aload_n hx hb dX3_beginKnown_17 rfl (lv_at hl 0 rfl) ?_
      obtain ⟨v_9, e_v_9⟩ := f_4_11 hI r_h
      refine t_get (ci := 3) (v := .int v_9) hB hT (ro_ci r_h rfl) rfl 11 (by decide) k_164 e_v_9 dX3_beginKnown_18 ?_
      refine lv_iload_n hx hb dX3_beginKnown_21 rfl (lv_at hl 2 rfl) ?_
      refine lv_icmp_ne (tgt := 29) hx hb dX3_beginKnown_22 (by decide) (fun c_10 => ?_) (fun c_10 => ?_)
      · have c_10' : v_9.toInt ≠ k.toInt := i_ne c_10 rfl rfl
        refine lv_iconst (v := 0) hx hb dX3_beginKnown_29 (by decide) ?_
        refine t_put0 (ci := 3) (v := .int 0) hB hT (ro_ci r_h rfl) (ro_n0 r_h (by decide)) rfl 14 (by decide) k_167 (Or.inl rfl) rfl rfl dX3_beginKnown_30 (fun H locs hT => ?_)
        have hI : Inv (sF g h 14 (.int 0)) := hI.sF (p_4_14 r_h (⟨_, rfl, by decide, by decide⟩))
        have hM : Sm md_s_beginKnown g (sF g h 14 (.int 0)) := hM.tr hE (Sm_sF (by rw [r_h]; rfl))
        have hE : Ex g (sF g h 14 (.int 0)) := hE
        refine lv_aload_n hx hb dX3_beginKnown_33 rfl (lv_at hl 0 rfl) ?_
        refine lv_iload_n hx hb dX3_beginKnown_34 rfl (lv_at hl 1 rfl) ?_
        refine t_put0 (ci := 3) (v := .int n) hB hT (ro_ci r_h rfl) (ro_n0 r_h (by decide)) rfl 10 (by decide) k_163 (Or.inl rfl) rfl rfl dX3_beginKnown_35 (fun H locs hT => ?_)
        have hI : Inv (sF (sF g h 14 (.int 0)) h 10 (.int n)) := hI.sF (p_4_10 r_h (⟨_, rfl⟩))
        have hM : Sm md_s_beginKnown g (sF (sF g h 14 (.int 0)) h 10 (.int n)) := hM.tr hE (Sm_sF (by rw [r_h]; rfl))
        have hE : Ex g (sF (sF g h 14 (.int 0)) h 10 (.int n)) := hE
        refine lv_aload_n hx hb dX3_beginKnown_38 rfl (lv_at hl 0 rfl) ?_
        refine lv_iload_n hx hb dX3_beginKnown_39 rfl (lv_at hl 2 rfl) ?_
        refine t_put0 (ci := 3) (v := .int k) hB hT (ro_ci r_h rfl) (ro_n0 r_h (by decide)) rfl 11 (by decide) k_164 (Or.inl rfl) rfl rfl dX3_beginKnown_40 (fun H locs hT => ?_)
        have hI : Inv (sF (sF (sF g h 14 (.int 0)) h 10 (.int n)) h 11 (.int k)) := hI.sF (p_4_11 r_h (⟨_, rfl⟩))
        have hM : Sm md_s_beginKnown g (sF (sF (sF g h 14 (.int 0)) h 10 (.int n)) h 11 (.int k)) := hM.tr hE (Sm_sF (by rw [r_h]; rfl))
        have hE : Ex g (sF (sF (sF g h 14 (.int 0)) h 10 (.int n)) h 11 (.int k)) := hE
        refine lv_iconst (v := 0) hx hb dX3_beginKnown_43 (by decide) ?_
        refine lv_istore_n (lv' := [(3, .int 0), (0, .ref h), (1, .int n), (2, .int k)]) hx hb dX3_beginKnown_44 rfl hl (by decide) rfl (fun ls hl => ?_)
        exact lt_s_beginKnown_a l D cI cZ cS cR N0 g h n k r_h hB hr   8 (sF (sF (sF g h 14 (.int 0)) h 10 (.int n)) h 11 (.int k)) (0 : Int32) H locs ls hT hI hE hM (by decide) (by decide) (by have e0_ : (0 : Int32).toInt = 0 := (by decide); omega) (lv_sub hl [0, 1, 2, 3] rfl)
      · have c_10' : v_9.toInt = k.toInt := i_eq c_10 rfl rfl
        refine lv_iconst (v := 1) hx hb dX3_beginKnown_25 (by decide) ?_
        refine lv_goto (tgt := 30) hx hb dX3_beginKnown_26 (by decide) ?_
        refine t_put0 (ci := 3) (v := .int 1) hB hT (ro_ci r_h rfl) (ro_n0 r_h (by decide)) rfl 14 (by decide) k_167 (Or.inl rfl) rfl rfl dX3_beginKnown_30 (fun H locs hT => ?_)
        have hI : Inv (sF g h 14 (.int 1)) := hI.sF (p_4_14 r_h (⟨_, rfl, by decide, by decide⟩))
        have hM : Sm md_s_beginKnown g (sF g h 14 (.int 1)) := hM.tr hE (Sm_sF (by rw [r_h]; rfl))
        have hE : Ex g (sF g h 14 (.int 1)) := hE
        refine lv_aload_n hx hb dX3_beginKnown_33 rfl (lv_at hl 0 rfl) ?_
        refine lv_iload_n hx hb dX3_beginKnown_34 rfl (lv_at hl 1 rfl) ?_
        refine t_put0 (ci := 3) (v := .int n) hB hT (ro_ci r_h rfl) (ro_n0 r_h (by decide)) rfl 10 (by decide) k_163 (Or.inl rfl) rfl rfl dX3_beginKnown_35 (fun H locs hT => ?_)
        have hI : Inv (sF (sF g h 14 (.int 1)) h 10 (.int n)) := hI.sF (p_4_10 r_h (⟨_, rfl⟩))
        have hM : Sm md_s_beginKnown g (sF (sF g h 14 (.int 1)) h 10 (.int n)) := hM.tr hE (Sm_sF (by rw [r_h]; rfl))
        have hE : Ex g (sF (sF g h 14 (.int 1)) h 10 (.int n)) := hE
        refine lv_aload_n hx hb dX3_beginKnown_38 rfl (lv_at hl 0 rfl) ?_
        refine lv_iload_n hx hb dX3_beginKnown_39 rfl (lv_at hl 2 rfl) ?_
        refine t_put0 (ci := 3) (v := .int k) hB hT (ro_ci r_h rfl) (ro_n0 r_h (by decide)) rfl 11 (by decide) k_164 (Or.inl rfl) rfl rfl dX3_beginKnown_40 (fun H locs hT => ?_)
        have hI : Inv (sF (sF (sF g h 14 (.int 1)) h 10 (.int n)) h 11 (.int k)) := hI.sF (p_4_11 r_h (⟨_, rfl⟩))
        have hM : Sm md_s_beginKnown g (sF (sF (sF g h 14 (.int 1)) h 10 (.int n)) h 11 (.int k)) := hM.tr hE (Sm_sF (by rw [r_h]; rfl))
        have hE : Ex g (sF (sF (sF g h 14 (.int 1)) h 10 (.int n)) h 11 (.int k)) := hE
        refine lv_iconst (v := 0) hx hb dX3_beginKnown_43 (by decide) ?_
        refine lv_istore_n (lv' := [(3, .int 0), (0, .ref h), (1, .int n), (2, .int k)]) hx hb dX3_beginKnown_44 rfl hl (by decide) rfl (fun ls hl => ?_)
        exact lt_s_beginKnown_a l D cI cZ cS cR N0 g h n k r_h hB hr   8 (sF (sF (sF g h 14 (.int 1)) h 10 (.int n)) h 11 (.int k)) (0 : Int32) H locs ls hT hI hE hM (by decide) (by decide) (by have e0_ : (0 : Int32).toInt = 0 := (by decide); omega) (lv_sub hl [0, 1, 2, 3] rfl)
  · refine W.eq (g2 := F0 m 6 ls [.int 0, .ref h]) rfl ?_
    refine lv_if_eq (tgt := 29) hx hb dX3_beginKnown_6 (by decide) (fun c_ => ?_) (fun c_ => absurd (by decide) c_)
    refine lv_iconst (v := 0) hx hb dX3_beginKnown_29 (by decide) ?_
    refine t_put0 (ci := 3) (v := .int 0) hB hT (ro_ci r_h rfl) (ro_n0 r_h (by decide)) rfl 14 (by decide) k_167 (Or.inl rfl) rfl rfl dX3_beginKnown_30 (fun H locs hT => ?_)
    have hI : Inv (sF g h 14 (.int 0)) := hI.sF (p_4_14 r_h (⟨_, rfl, by decide, by decide⟩))
    have hM : Sm md_s_beginKnown g (sF g h 14 (.int 0)) := hM.tr hE (Sm_sF (by rw [r_h]; rfl))
    have hE : Ex g (sF g h 14 (.int 0)) := hE
    refine lv_aload_n hx hb dX3_beginKnown_33 rfl (lv_at hl 0 rfl) ?_
    refine lv_iload_n hx hb dX3_beginKnown_34 rfl (lv_at hl 1 rfl) ?_
    refine t_put0 (ci := 3) (v := .int n) hB hT (ro_ci r_h rfl) (ro_n0 r_h (by decide)) rfl 10 (by decide) k_163 (Or.inl rfl) rfl rfl dX3_beginKnown_35 (fun H locs hT => ?_)
    have hI : Inv (sF (sF g h 14 (.int 0)) h 10 (.int n)) := hI.sF (p_4_10 r_h (⟨_, rfl⟩))
    have hM : Sm md_s_beginKnown g (sF (sF g h 14 (.int 0)) h 10 (.int n)) := hM.tr hE (Sm_sF (by rw [r_h]; rfl))
    have hE : Ex g (sF (sF g h 14 (.int 0)) h 10 (.int n)) := hE
    refine lv_aload_n hx hb dX3_beginKnown_38 rfl (lv_at hl 0 rfl) ?_
    refine lv_iload_n hx hb dX3_beginKnown_39 rfl (lv_at hl 2 rfl) ?_
    refine t_put0 (ci := 3) (v := .int k) hB hT (ro_ci r_h rfl) (ro_n0 r_h (by decide)) rfl 11 (by decide) k_164 (Or.inl rfl) rfl rfl dX3_beginKnown_40 (fun H locs hT => ?_)
    have hI : Inv (sF (sF (sF g h 14 (.int 0)) h 10 (.int n)) h 11 (.int k)) := hI.sF (p_4_11 r_h (⟨_, rfl⟩))
    have hM : Sm md_s_beginKnown g (sF (sF (sF g h 14 (.int 0)) h 10 (.int n)) h 11 (.int k)) := hM.tr hE (Sm_sF (by rw [r_h]; rfl))
    have hE : Ex g (sF (sF (sF g h 14 (.int 0)) h 10 (.int n)) h 11 (.int k)) := hE
    refine lv_iconst (v := 0) hx hb dX3_beginKnown_43 (by decide) ?_
    refine lv_istore_n (lv' := [(3, .int 0), (0, .ref h), (1, .int n), (2, .int k)]) hx hb dX3_beginKnown_44 rfl hl (by decide) rfl (fun ls hl => ?_)
    exact lt_s_beginKnown_a l D cI cZ cS cR N0 g h n k r_h hB hr   8 (sF (sF (sF g h 14 (.int 0)) h 10 (.int n)) h 11 (.int k)) (0 : Int32) H locs ls hT hI hE hM (by decide) (by decide) (by have e0_ : (0 : Int32).toInt = 0 := (by decide); omega) (lv_sub hl [0, 1, 2, 3] rfl)
abbrev md_s_keep : Nat → Nat → Bool := mdf [(4, 5), (50, 99)]
set_option maxHeartbeats 4000000 in
set_option maxRecDepth 100000 in
theorem s_keep (l : Launch) (D : va_G) (cI cZ cS cR : ClassId) (N0 : NT) (g : GS) (hI : Inv g) (h : Nat) (x1 : Int32) (x2 : Int32) (x3 : Int32) (x4 : Int32) (r_h : g.1 h = 4) : Ty l D cI cZ cS cR N0 yX3_keep cX3_keep 5 none 0 0 0 [.ref h, .int x1, .int x2, .int x3, .int x4] g (fun v g' => v = none ∧ Inv g' ∧ Ex g g' ∧ Sm md_s_keep g g') := by
  refine t_enter (by decide) (Nat.le_of_ble_eq_true rfl) ?_
  intro p e s m args below meth c ls H locs hB hr hin hl hT
  have hx := hB.1
  have hb := hB.2.1
  have hl : lv_has ls 5 [(0, .ref h), (1, .int x1), (2, .int x2), (3, .int x3), (4, .int x4)] := hl
  have hE : Ex g g := Ex.rf
  have hM : Sm md_s_keep g g := Sm.rf
  refine lv_aload_n hx hb dX3_keep_0 rfl (lv_at hl 0 rfl) ?_
  obtain ⟨v_1, e_v_1, l_v_1, u_v_1⟩ := f_4_5 hI r_h
  refine t_get (ci := 3) (v := .int v_1) hB hT (ro_ci r_h rfl) rfl 5 (by decide) k_158 e_v_1 dX3_keep_1 ?_
  refine lv_bipush (v := 16) hx hb dX3_keep_4 (by decide) ?_
  refine lv_icmp_ne (tgt := 87) hx hb dX3_keep_6 (by decide) (fun c_2 => ?_) (fun c_2 => ?_)
  · have c_2' : v_1.toInt ≠ 16 := i_ne c_2 rfl (by decide)
    refine lv_aload_n hx hb dX3_keep_87 rfl (lv_at hl 0 rfl) ?_
    obtain ⟨v_3, e_v_3, r_v_3, n_v_3⟩ := f_4_6 hI r_h
    refine t_get (ci := 3) (v := .ref v_3) hB hT (ro_ci r_h rfl) rfl 6 (by decide) k_159 e_v_3 dX3_keep_88 ?_
    refine lv_aload_n hx hb dX3_keep_91 rfl (lv_at hl 0 rfl) ?_
    refine t_get (ci := 3) (v := .int v_1) hB hT (ro_ci r_h rfl) rfl 5 (by decide) k_158 e_v_1 dX3_keep_92 ?_
    refine lv_iload_n hx hb dX3_keep_95 rfl (lv_at hl 1 rfl) ?_
    have i_4 : vp_in v_1 16 := (i_in (n := 16) rfl (by omega) (by omega))
    refine t_iast hB hT (ro_in r_v_3 (by decide)) n_v_3 i_4 dX3_keep_96 (fun H locs hT => ?_)
    have hI : Inv (sC g v_3 v_1.toNatClampNeg x1) := hI.sC (ck r_v_3 trivial)
    have hM : Sm md_s_keep g (sC g v_3 v_1.toNatClampNeg x1) := hM.tr hE (Sm_sC (by rw [r_v_3]; rfl))
    have hE : Ex g (sC g v_3 v_1.toNatClampNeg x1) := hE
    refine lv_aload_n hx hb dX3_keep_97 rfl (lv_at hl 0 rfl) ?_
    obtain ⟨v_5, e_v_5, r_v_5, n_v_5⟩ := f_4_7 hI r_h
    refine t_get (ci := 3) (v := .ref v_5) hB hT (ro_ci r_h rfl) rfl 7 (by decide) k_160 e_v_5 dX3_keep_98 ?_
    refine lv_aload_n hx hb dX3_keep_101 rfl (lv_at hl 0 rfl) ?_
    refine t_get (ci := 3) (v := .int v_1) hB hT (ro_ci r_h rfl) rfl 5 (by decide) k_158 e_v_1 dX3_keep_102 ?_
    refine lv_iload_n hx hb dX3_keep_105 rfl (lv_at hl 2 rfl) ?_
    have i_6 : vp_in v_1 16 := (i_in (n := 16) rfl (by omega) (by omega))
    refine t_iast hB hT (ro_in r_v_5 (by decide)) n_v_5 i_6 dX3_keep_106 (fun H locs hT => ?_)
    have hI : Inv (sC (sC g v_3 v_1.toNatClampNeg x1) v_5 v_1.toNatClampNeg x2) := hI.sC (ck r_v_5 trivial)
    have hM : Sm md_s_keep g (sC (sC g v_3 v_1.toNatClampNeg x1) v_5 v_1.toNatClampNeg x2) := hM.tr hE (Sm_sC (by rw [r_v_5]; rfl))
    have hE : Ex g (sC (sC g v_3 v_1.toNatClampNeg x1) v_5 v_1.toNatClampNeg x2) := hE
    refine lv_aload_n hx hb dX3_keep_107 rfl (lv_at hl 0 rfl) ?_
    obtain ⟨v_7, e_v_7, r_v_7, n_v_7⟩ := f_4_8 hI r_h
    refine t_get (ci := 3) (v := .ref v_7) hB hT (ro_ci r_h rfl) rfl 8 (by decide) k_161 e_v_7 dX3_keep_108 ?_
    refine lv_aload_n hx hb dX3_keep_111 rfl (lv_at hl 0 rfl) ?_
    refine t_get (ci := 3) (v := .int v_1) hB hT (ro_ci r_h rfl) rfl 5 (by decide) k_158 e_v_1 dX3_keep_112 ?_
    refine lv_iload_n hx hb dX3_keep_115 rfl (lv_at hl 3 rfl) ?_
    have i_8 : vp_in v_1 16 := (i_in (n := 16) rfl (by omega) (by omega))
    refine t_iast hB hT (ro_in r_v_7 (by decide)) n_v_7 i_8 dX3_keep_116 (fun H locs hT => ?_)
    have hI : Inv (sC (sC (sC g v_3 v_1.toNatClampNeg x1) v_5 v_1.toNatClampNeg x2) v_7 v_1.toNatClampNeg x3) := hI.sC (ck r_v_7 trivial)
    have hM : Sm md_s_keep g (sC (sC (sC g v_3 v_1.toNatClampNeg x1) v_5 v_1.toNatClampNeg x2) v_7 v_1.toNatClampNeg x3) := hM.tr hE (Sm_sC (by rw [r_v_7]; rfl))
    have hE : Ex g (sC (sC (sC g v_3 v_1.toNatClampNeg x1) v_5 v_1.toNatClampNeg x2) v_7 v_1.toNatClampNeg x3) := hE
    refine lv_aload_n hx hb dX3_keep_117 rfl (lv_at hl 0 rfl) ?_
    obtain ⟨v_9, e_v_9, r_v_9, n_v_9⟩ := f_4_9 hI r_h
    refine t_get (ci := 3) (v := .ref v_9) hB hT (ro_ci r_h rfl) rfl 9 (by decide) k_162 e_v_9 dX3_keep_118 ?_
    refine lv_aload_n hx hb dX3_keep_121 rfl (lv_at hl 0 rfl) ?_
    refine t_get (ci := 3) (v := .int v_1) hB hT (ro_ci r_h rfl) rfl 5 (by decide) k_158 e_v_1 dX3_keep_122 ?_
    refine lv_iload hx hb dX3_keep_125 (lv_at hl 4 rfl) ?_
    have i_10 : vp_in v_1 16 := (i_in (n := 16) rfl (by omega) (by omega))
    refine t_iast hB hT (ro_in r_v_9 (by decide)) n_v_9 i_10 dX3_keep_127 (fun H locs hT => ?_)
    have hI : Inv (sC (sC (sC (sC g v_3 v_1.toNatClampNeg x1) v_5 v_1.toNatClampNeg x2) v_7 v_1.toNatClampNeg x3) v_9 v_1.toNatClampNeg x4) := hI.sC (ck r_v_9 trivial)
    have hM : Sm md_s_keep g (sC (sC (sC (sC g v_3 v_1.toNatClampNeg x1) v_5 v_1.toNatClampNeg x2) v_7 v_1.toNatClampNeg x3) v_9 v_1.toNatClampNeg x4) := hM.tr hE (Sm_sC (by rw [r_v_9]; rfl))
    have hE : Ex g (sC (sC (sC (sC g v_3 v_1.toNatClampNeg x1) v_5 v_1.toNatClampNeg x2) v_7 v_1.toNatClampNeg x3) v_9 v_1.toNatClampNeg x4) := hE
    refine lv_aload_n hx hb dX3_keep_128 rfl (lv_at hl 0 rfl) ?_
    refine lv_dup hx hb dX3_keep_129 rfl ?_
    refine t_get (ci := 3) (v := .int v_1) hB hT (ro_ci r_h rfl) rfl 5 (by decide) k_158 e_v_1 dX3_keep_130 ?_
    refine lv_iconst (v := 1) hx hb dX3_keep_133 (by decide) ?_
    refine lv_iadd hx hb dX3_keep_134 ?_
    refine lv_topi (fun z_11 ez_11 => ?_)
    have e_z_11 : z_11.toInt = v_1.toInt + 1 := i_add ez_11 rfl (by decide) (by omega) (by omega)
    refine t_put0 (ci := 3) (v := .int z_11) hB hT (ro_ci r_h rfl) (ro_n0 r_h (by decide)) rfl 5 (by decide) k_158 (Or.inl rfl) rfl rfl dX3_keep_135 (fun H locs hT => ?_)
    have hI : Inv (sF (sC (sC (sC (sC g v_3 v_1.toNatClampNeg x1) v_5 v_1.toNatClampNeg x2) v_7 v_1.toNatClampNeg x3) v_9 v_1.toNatClampNeg x4) h 5 (.int z_11)) := hI.sF (p_4_5 r_h (⟨_, rfl, by omega, by omega⟩))
    have hM : Sm md_s_keep g (sF (sC (sC (sC (sC g v_3 v_1.toNatClampNeg x1) v_5 v_1.toNatClampNeg x2) v_7 v_1.toNatClampNeg x3) v_9 v_1.toNatClampNeg x4) h 5 (.int z_11)) := hM.tr hE (Sm_sF (by rw [r_h]; rfl))
    have hE : Ex g (sF (sC (sC (sC (sC g v_3 v_1.toNatClampNeg x1) v_5 v_1.toNatClampNeg x2) v_7 v_1.toNatClampNeg x3) v_9 v_1.toNatClampNeg x4) h 5 (.int z_11)) := hE
    exact t_vret hB hr hT (Nat.le_of_ble_eq_true rfl) (Nat.le_of_ble_eq_true rfl) dX3_keep_138 ⟨rfl, hI, hE, hM⟩
  · have c_2' : v_1.toInt = 16 := i_eq c_2 rfl (by decide)
    refine lv_aload_n hx hb dX3_keep_9 rfl (lv_at hl 0 rfl) ?_
    refine lv_dup hx hb dX3_keep_10 rfl ?_
    refine t_get (ci := 3) (v := .int v_1) hB hT (ro_ci r_h rfl) rfl 5 (by decide) k_158 e_v_1 dX3_keep_11 ?_
    refine lv_iconst (v := 1) hx hb dX3_keep_14 (by decide) ?_
    refine lv_isub hx hb dX3_keep_15 ?_
    refine lv_topi (fun z_12 ez_12 => ?_)
    have e_z_12 : z_12.toInt = v_1.toInt - 1 := i_sub ez_12 rfl (by decide) (by omega) (by omega)
    refine t_put0 (ci := 3) (v := .int z_12) hB hT (ro_ci r_h rfl) (ro_n0 r_h (by decide)) rfl 5 (by decide) k_158 (Or.inl rfl) rfl rfl dX3_keep_16 (fun H locs hT => ?_)
    have hI : Inv (sF g h 5 (.int z_12)) := hI.sF (p_4_5 r_h (⟨_, rfl, by omega, by omega⟩))
    have hM : Sm md_s_keep g (sF g h 5 (.int z_12)) := hM.tr hE (Sm_sF (by rw [r_h]; rfl))
    have hE : Ex g (sF g h 5 (.int z_12)) := hE
    refine lv_aload_n hx hb dX3_keep_19 rfl (lv_at hl 0 rfl) ?_
    obtain ⟨v_13, e_v_13, r_v_13, n_v_13⟩ := f_4_6 hI r_h
    refine t_get (ci := 3) (v := .ref v_13) hB hT (ro_ci r_h rfl) rfl 6 (by decide) k_159 e_v_13 dX3_keep_20 ?_
    refine lv_iconst (v := 1) hx hb dX3_keep_23 (by decide) ?_
    refine lv_aload_n hx hb dX3_keep_24 rfl (lv_at hl 0 rfl) ?_
    refine t_get (ci := 3) (v := .ref v_13) hB hT (ro_ci r_h rfl) rfl 6 (by decide) k_159 e_v_13 dX3_keep_25 ?_
    refine lv_iconst (v := 0) hx hb dX3_keep_28 (by decide) ?_
    refine lv_aload_n hx hb dX3_keep_29 rfl (lv_at hl 0 rfl) ?_
    refine t_get (ci := 3) (v := .int z_12) hB hT (ro_ci r_h rfl) rfl 5 (by decide) k_158 sF_eq dX3_keep_30 ?_
    refine t_copy (n0 := 16) (n1 := 16) hB hT k_525 k_496 k_495 k_70 hl.1 r_v_13 r_v_13 (by decide) n_v_13 n_v_13 (by have q0 : (0 : Int32).toInt = 0 := (by decide); have q1 : (1 : Int32).toInt = 1 := (by decide); omega) (by have q0 : (0 : Int32).toInt = 0 := (by decide); have q1 : (1 : Int32).toInt = 1 := (by decide); omega) (by have q0 : (0 : Int32).toInt = 0 := (by decide); have q1 : (1 : Int32).toInt = 1 := (by decide); omega) (by have q0 : (0 : Int32).toInt = 0 := (by decide); have q1 : (1 : Int32).toInt = 1 := (by decide); omega) (by have q0 : (0 : Int32).toInt = 0 := (by decide); have q1 : (1 : Int32).toInt = 1 := (by decide); omega) (Nat.le_of_ble_eq_true rfl) (Nat.le_of_ble_eq_true rfl) dX3_keep_33 hI (fun H locs cf_14 ecf_14 hT hI => ?_)
    have hM : Sm md_s_keep g (sV (sF g h 5 (.int z_12)) v_13 cf_14) := hM.tr hE (Sm_sV (by rw [r_v_13]; rfl))
    have hE : Ex g (sV (sF g h 5 (.int z_12)) v_13 cf_14) := hE
    refine lv_aload_n hx hb dX3_keep_36 rfl (lv_at hl 0 rfl) ?_
    obtain ⟨v_15, e_v_15, r_v_15, n_v_15⟩ := f_4_7 hI r_h
    refine t_get (ci := 3) (v := .ref v_15) hB hT (ro_ci r_h rfl) rfl 7 (by decide) k_160 e_v_15 dX3_keep_37 ?_
    refine lv_iconst (v := 1) hx hb dX3_keep_40 (by decide) ?_
    refine lv_aload_n hx hb dX3_keep_41 rfl (lv_at hl 0 rfl) ?_
    refine t_get (ci := 3) (v := .ref v_15) hB hT (ro_ci r_h rfl) rfl 7 (by decide) k_160 e_v_15 dX3_keep_42 ?_
    refine lv_iconst (v := 0) hx hb dX3_keep_45 (by decide) ?_
    refine lv_aload_n hx hb dX3_keep_46 rfl (lv_at hl 0 rfl) ?_
    refine t_get (ci := 3) (v := .int z_12) hB hT (ro_ci r_h rfl) rfl 5 (by decide) k_158 sF_eq dX3_keep_47 ?_
    refine t_copy (n0 := 16) (n1 := 16) hB hT k_525 k_496 k_495 k_70 hl.1 r_v_15 r_v_15 (by decide) n_v_15 n_v_15 (by have q0 : (0 : Int32).toInt = 0 := (by decide); have q1 : (1 : Int32).toInt = 1 := (by decide); omega) (by have q0 : (0 : Int32).toInt = 0 := (by decide); have q1 : (1 : Int32).toInt = 1 := (by decide); omega) (by have q0 : (0 : Int32).toInt = 0 := (by decide); have q1 : (1 : Int32).toInt = 1 := (by decide); omega) (by have q0 : (0 : Int32).toInt = 0 := (by decide); have q1 : (1 : Int32).toInt = 1 := (by decide); omega) (by have q0 : (0 : Int32).toInt = 0 := (by decide); have q1 : (1 : Int32).toInt = 1 := (by decide); omega) (Nat.le_of_ble_eq_true rfl) (Nat.le_of_ble_eq_true rfl) dX3_keep_50 hI (fun H locs cf_16 ecf_16 hT hI => ?_)
    have hM : Sm md_s_keep g (sV (sV (sF g h 5 (.int z_12)) v_13 cf_14) v_15 cf_16) := hM.tr hE (Sm_sV (by rw [r_v_15]; rfl))
    have hE : Ex g (sV (sV (sF g h 5 (.int z_12)) v_13 cf_14) v_15 cf_16) := hE
    refine lv_aload_n hx hb dX3_keep_53 rfl (lv_at hl 0 rfl) ?_
    obtain ⟨v_17, e_v_17, r_v_17, n_v_17⟩ := f_4_8 hI r_h
    refine t_get (ci := 3) (v := .ref v_17) hB hT (ro_ci r_h rfl) rfl 8 (by decide) k_161 e_v_17 dX3_keep_54 ?_
    refine lv_iconst (v := 1) hx hb dX3_keep_57 (by decide) ?_
    refine lv_aload_n hx hb dX3_keep_58 rfl (lv_at hl 0 rfl) ?_
    refine t_get (ci := 3) (v := .ref v_17) hB hT (ro_ci r_h rfl) rfl 8 (by decide) k_161 e_v_17 dX3_keep_59 ?_
    refine lv_iconst (v := 0) hx hb dX3_keep_62 (by decide) ?_
    refine lv_aload_n hx hb dX3_keep_63 rfl (lv_at hl 0 rfl) ?_
    refine t_get (ci := 3) (v := .int z_12) hB hT (ro_ci r_h rfl) rfl 5 (by decide) k_158 sF_eq dX3_keep_64 ?_
    refine t_copy (n0 := 16) (n1 := 16) hB hT k_525 k_496 k_495 k_70 hl.1 r_v_17 r_v_17 (by decide) n_v_17 n_v_17 (by have q0 : (0 : Int32).toInt = 0 := (by decide); have q1 : (1 : Int32).toInt = 1 := (by decide); omega) (by have q0 : (0 : Int32).toInt = 0 := (by decide); have q1 : (1 : Int32).toInt = 1 := (by decide); omega) (by have q0 : (0 : Int32).toInt = 0 := (by decide); have q1 : (1 : Int32).toInt = 1 := (by decide); omega) (by have q0 : (0 : Int32).toInt = 0 := (by decide); have q1 : (1 : Int32).toInt = 1 := (by decide); omega) (by have q0 : (0 : Int32).toInt = 0 := (by decide); have q1 : (1 : Int32).toInt = 1 := (by decide); omega) (Nat.le_of_ble_eq_true rfl) (Nat.le_of_ble_eq_true rfl) dX3_keep_67 hI (fun H locs cf_18 ecf_18 hT hI => ?_)
    have hM : Sm md_s_keep g (sV (sV (sV (sF g h 5 (.int z_12)) v_13 cf_14) v_15 cf_16) v_17 cf_18) := hM.tr hE (Sm_sV (by rw [r_v_17]; rfl))
    have hE : Ex g (sV (sV (sV (sF g h 5 (.int z_12)) v_13 cf_14) v_15 cf_16) v_17 cf_18) := hE
    refine lv_aload_n hx hb dX3_keep_70 rfl (lv_at hl 0 rfl) ?_
    obtain ⟨v_19, e_v_19, r_v_19, n_v_19⟩ := f_4_9 hI r_h
    refine t_get (ci := 3) (v := .ref v_19) hB hT (ro_ci r_h rfl) rfl 9 (by decide) k_162 e_v_19 dX3_keep_71 ?_
    refine lv_iconst (v := 1) hx hb dX3_keep_74 (by decide) ?_
    refine lv_aload_n hx hb dX3_keep_75 rfl (lv_at hl 0 rfl) ?_
    refine t_get (ci := 3) (v := .ref v_19) hB hT (ro_ci r_h rfl) rfl 9 (by decide) k_162 e_v_19 dX3_keep_76 ?_
    refine lv_iconst (v := 0) hx hb dX3_keep_79 (by decide) ?_
    refine lv_aload_n hx hb dX3_keep_80 rfl (lv_at hl 0 rfl) ?_
    refine t_get (ci := 3) (v := .int z_12) hB hT (ro_ci r_h rfl) rfl 5 (by decide) k_158 sF_eq dX3_keep_81 ?_
    refine t_copy (n0 := 16) (n1 := 16) hB hT k_525 k_496 k_495 k_70 hl.1 r_v_19 r_v_19 (by decide) n_v_19 n_v_19 (by have q0 : (0 : Int32).toInt = 0 := (by decide); have q1 : (1 : Int32).toInt = 1 := (by decide); omega) (by have q0 : (0 : Int32).toInt = 0 := (by decide); have q1 : (1 : Int32).toInt = 1 := (by decide); omega) (by have q0 : (0 : Int32).toInt = 0 := (by decide); have q1 : (1 : Int32).toInt = 1 := (by decide); omega) (by have q0 : (0 : Int32).toInt = 0 := (by decide); have q1 : (1 : Int32).toInt = 1 := (by decide); omega) (by have q0 : (0 : Int32).toInt = 0 := (by decide); have q1 : (1 : Int32).toInt = 1 := (by decide); omega) (Nat.le_of_ble_eq_true rfl) (Nat.le_of_ble_eq_true rfl) dX3_keep_84 hI (fun H locs cf_20 ecf_20 hT hI => ?_)
    have hM : Sm md_s_keep g (sV (sV (sV (sV (sF g h 5 (.int z_12)) v_13 cf_14) v_15 cf_16) v_17 cf_18) v_19 cf_20) := hM.tr hE (Sm_sV (by rw [r_v_19]; rfl))
    have hE : Ex g (sV (sV (sV (sV (sF g h 5 (.int z_12)) v_13 cf_14) v_15 cf_16) v_17 cf_18) v_19 cf_20) := hE
    refine lv_aload_n hx hb dX3_keep_87 rfl (lv_at hl 0 rfl) ?_
    refine t_get (ci := 3) (v := .ref v_13) hB hT (ro_ci r_h rfl) rfl 6 (by decide) k_159 e_v_13 dX3_keep_88 ?_
    refine lv_aload_n hx hb dX3_keep_91 rfl (lv_at hl 0 rfl) ?_
    refine t_get (ci := 3) (v := .int z_12) hB hT (ro_ci r_h rfl) rfl 5 (by decide) k_158 sF_eq dX3_keep_92 ?_
    refine lv_iload_n hx hb dX3_keep_95 rfl (lv_at hl 1 rfl) ?_
    have i_21 : vp_in z_12 16 := (i_in (n := 16) rfl (by omega) (by omega))
    refine t_iast hB hT (ro_in r_v_13 (by decide)) n_v_13 i_21 dX3_keep_96 (fun H locs hT => ?_)
    have hI : Inv (sC (sV (sV (sV (sV (sF g h 5 (.int z_12)) v_13 cf_14) v_15 cf_16) v_17 cf_18) v_19 cf_20) v_13 z_12.toNatClampNeg x1) := hI.sC (ck r_v_13 trivial)
    have hM : Sm md_s_keep g (sC (sV (sV (sV (sV (sF g h 5 (.int z_12)) v_13 cf_14) v_15 cf_16) v_17 cf_18) v_19 cf_20) v_13 z_12.toNatClampNeg x1) := hM.tr hE (Sm_sC (by rw [r_v_13]; rfl))
    have hE : Ex g (sC (sV (sV (sV (sV (sF g h 5 (.int z_12)) v_13 cf_14) v_15 cf_16) v_17 cf_18) v_19 cf_20) v_13 z_12.toNatClampNeg x1) := hE
    refine lv_aload_n hx hb dX3_keep_97 rfl (lv_at hl 0 rfl) ?_
    refine t_get (ci := 3) (v := .ref v_15) hB hT (ro_ci r_h rfl) rfl 7 (by decide) k_160 e_v_15 dX3_keep_98 ?_
    refine lv_aload_n hx hb dX3_keep_101 rfl (lv_at hl 0 rfl) ?_
    refine t_get (ci := 3) (v := .int z_12) hB hT (ro_ci r_h rfl) rfl 5 (by decide) k_158 sF_eq dX3_keep_102 ?_
    refine lv_iload_n hx hb dX3_keep_105 rfl (lv_at hl 2 rfl) ?_
    have i_22 : vp_in z_12 16 := (i_in (n := 16) rfl (by omega) (by omega))
    refine t_iast hB hT (ro_in r_v_15 (by decide)) n_v_15 i_22 dX3_keep_106 (fun H locs hT => ?_)
    have hI : Inv (sC (sC (sV (sV (sV (sV (sF g h 5 (.int z_12)) v_13 cf_14) v_15 cf_16) v_17 cf_18) v_19 cf_20) v_13 z_12.toNatClampNeg x1) v_15 z_12.toNatClampNeg x2) := hI.sC (ck r_v_15 trivial)
    have hM : Sm md_s_keep g (sC (sC (sV (sV (sV (sV (sF g h 5 (.int z_12)) v_13 cf_14) v_15 cf_16) v_17 cf_18) v_19 cf_20) v_13 z_12.toNatClampNeg x1) v_15 z_12.toNatClampNeg x2) := hM.tr hE (Sm_sC (by rw [r_v_15]; rfl))
    have hE : Ex g (sC (sC (sV (sV (sV (sV (sF g h 5 (.int z_12)) v_13 cf_14) v_15 cf_16) v_17 cf_18) v_19 cf_20) v_13 z_12.toNatClampNeg x1) v_15 z_12.toNatClampNeg x2) := hE
    refine lv_aload_n hx hb dX3_keep_107 rfl (lv_at hl 0 rfl) ?_
    refine t_get (ci := 3) (v := .ref v_17) hB hT (ro_ci r_h rfl) rfl 8 (by decide) k_161 e_v_17 dX3_keep_108 ?_
    refine lv_aload_n hx hb dX3_keep_111 rfl (lv_at hl 0 rfl) ?_
    refine t_get (ci := 3) (v := .int z_12) hB hT (ro_ci r_h rfl) rfl 5 (by decide) k_158 sF_eq dX3_keep_112 ?_
    refine lv_iload_n hx hb dX3_keep_115 rfl (lv_at hl 3 rfl) ?_
    have i_23 : vp_in z_12 16 := (i_in (n := 16) rfl (by omega) (by omega))
    refine t_iast hB hT (ro_in r_v_17 (by decide)) n_v_17 i_23 dX3_keep_116 (fun H locs hT => ?_)
    have hI : Inv (sC (sC (sC (sV (sV (sV (sV (sF g h 5 (.int z_12)) v_13 cf_14) v_15 cf_16) v_17 cf_18) v_19 cf_20) v_13 z_12.toNatClampNeg x1) v_15 z_12.toNatClampNeg x2) v_17 z_12.toNatClampNeg x3) := hI.sC (ck r_v_17 trivial)
    have hM : Sm md_s_keep g (sC (sC (sC (sV (sV (sV (sV (sF g h 5 (.int z_12)) v_13 cf_14) v_15 cf_16) v_17 cf_18) v_19 cf_20) v_13 z_12.toNatClampNeg x1) v_15 z_12.toNatClampNeg x2) v_17 z_12.toNatClampNeg x3) := hM.tr hE (Sm_sC (by rw [r_v_17]; rfl))
    have hE : Ex g (sC (sC (sC (sV (sV (sV (sV (sF g h 5 (.int z_12)) v_13 cf_14) v_15 cf_16) v_17 cf_18) v_19 cf_20) v_13 z_12.toNatClampNeg x1) v_15 z_12.toNatClampNeg x2) v_17 z_12.toNatClampNeg x3) := hE
    have r_24 : (sC (sC (sC (sV (sV (sV (sV (sF g h 5 (.int z_12)) v_13 cf_14) v_15 cf_16) v_17 cf_18) v_19 cf_20) v_13 z_12.toNatClampNeg x1) v_15 z_12.toNatClampNeg x2) v_17 z_12.toNatClampNeg x3).1 h = 4 := r_h
    have r_25 : (sC (sC (sC (sV (sV (sV (sV (sF g h 5 (.int z_12)) v_13 cf_14) v_15 cf_16) v_17 cf_18) v_19 cf_20) v_13 z_12.toNatClampNeg x1) v_15 z_12.toNatClampNeg x2) v_17 z_12.toNatClampNeg x3).1 v_13 = 50 := r_v_13
    have r_26 : (sC (sC (sC (sV (sV (sV (sV (sF g h 5 (.int z_12)) v_13 cf_14) v_15 cf_16) v_17 cf_18) v_19 cf_20) v_13 z_12.toNatClampNeg x1) v_15 z_12.toNatClampNeg x2) v_17 z_12.toNatClampNeg x3).1 v_15 = 50 := r_v_15
    have r_27 : (sC (sC (sC (sV (sV (sV (sV (sF g h 5 (.int z_12)) v_13 cf_14) v_15 cf_16) v_17 cf_18) v_19 cf_20) v_13 z_12.toNatClampNeg x1) v_15 z_12.toNatClampNeg x2) v_17 z_12.toNatClampNeg x3).1 v_17 = 50 := r_v_17
    have r_28 : (sC (sC (sC (sV (sV (sV (sV (sF g h 5 (.int z_12)) v_13 cf_14) v_15 cf_16) v_17 cf_18) v_19 cf_20) v_13 z_12.toNatClampNeg x1) v_15 z_12.toNatClampNeg x2) v_17 z_12.toNatClampNeg x3).1 v_19 = 50 := r_v_19
    have n_29 : (sC (sC (sC (sV (sV (sV (sV (sF g h 5 (.int z_12)) v_13 cf_14) v_15 cf_16) v_17 cf_18) v_19 cf_20) v_13 z_12.toNatClampNeg x1) v_15 z_12.toNatClampNeg x2) v_17 z_12.toNatClampNeg x3).2.2.1 v_13 = 16 := n_v_13
    have n_30 : (sC (sC (sC (sV (sV (sV (sV (sF g h 5 (.int z_12)) v_13 cf_14) v_15 cf_16) v_17 cf_18) v_19 cf_20) v_13 z_12.toNatClampNeg x1) v_15 z_12.toNatClampNeg x2) v_17 z_12.toNatClampNeg x3).2.2.1 v_15 = 16 := n_v_15
    have n_31 : (sC (sC (sC (sV (sV (sV (sV (sF g h 5 (.int z_12)) v_13 cf_14) v_15 cf_16) v_17 cf_18) v_19 cf_20) v_13 z_12.toNatClampNeg x1) v_15 z_12.toNatClampNeg x2) v_17 z_12.toNatClampNeg x3).2.2.1 v_17 = 16 := n_v_17
    have n_32 : (sC (sC (sC (sV (sV (sV (sV (sF g h 5 (.int z_12)) v_13 cf_14) v_15 cf_16) v_17 cf_18) v_19 cf_20) v_13 z_12.toNatClampNeg x1) v_15 z_12.toNatClampNeg x2) v_17 z_12.toNatClampNeg x3).2.2.1 v_19 = 16 := n_v_19
    have kn_33 : (sC (sC (sC (sV (sV (sV (sV (sF g h 5 (.int z_12)) v_13 cf_14) v_15 cf_16) v_17 cf_18) v_19 cf_20) v_13 z_12.toNatClampNeg x1) v_15 z_12.toNatClampNeg x2) v_17 z_12.toNatClampNeg x3).2.1 h 5 = .int z_12 := sF_eq
    have kn_34 : (sC (sC (sC (sV (sV (sV (sV (sF g h 5 (.int z_12)) v_13 cf_14) v_15 cf_16) v_17 cf_18) v_19 cf_20) v_13 z_12.toNatClampNeg x1) v_15 z_12.toNatClampNeg x2) v_17 z_12.toNatClampNeg x3).2.1 h 6 = .ref v_13 := e_v_13
    have kn_35 : (sC (sC (sC (sV (sV (sV (sV (sF g h 5 (.int z_12)) v_13 cf_14) v_15 cf_16) v_17 cf_18) v_19 cf_20) v_13 z_12.toNatClampNeg x1) v_15 z_12.toNatClampNeg x2) v_17 z_12.toNatClampNeg x3).2.1 h 7 = .ref v_15 := e_v_15
    have kn_36 : (sC (sC (sC (sV (sV (sV (sV (sF g h 5 (.int z_12)) v_13 cf_14) v_15 cf_16) v_17 cf_18) v_19 cf_20) v_13 z_12.toNatClampNeg x1) v_15 z_12.toNatClampNeg x2) v_17 z_12.toNatClampNeg x3).2.1 h 8 = .ref v_17 := e_v_17
    have kn_37 : (sC (sC (sC (sV (sV (sV (sV (sF g h 5 (.int z_12)) v_13 cf_14) v_15 cf_16) v_17 cf_18) v_19 cf_20) v_13 z_12.toNatClampNeg x1) v_15 z_12.toNatClampNeg x2) v_17 z_12.toNatClampNeg x3).2.1 h 9 = .ref v_19 := e_v_19
    have kn_38 : (sC (sC (sC (sV (sV (sV (sV (sF g h 5 (.int z_12)) v_13 cf_14) v_15 cf_16) v_17 cf_18) v_19 cf_20) v_13 z_12.toNatClampNeg x1) v_15 z_12.toNatClampNeg x2) v_17 z_12.toNatClampNeg x3).2.2.2.1 v_17 z_12.toNatClampNeg = x3 := sC_eq
    generalize (sC (sC (sC (sV (sV (sV (sV (sF g h 5 (.int z_12)) v_13 cf_14) v_15 cf_16) v_17 cf_18) v_19 cf_20) v_13 z_12.toNatClampNeg x1) v_15 z_12.toNatClampNeg x2) v_17 z_12.toNatClampNeg x3) = g_39 at hT hI hM hE r_24 r_25 r_26 r_27 r_28 n_29 n_30 n_31 n_32 kn_33 kn_34 kn_35 kn_36 kn_37 kn_38
    refine lv_aload_n hx hb dX3_keep_117 rfl (lv_at hl 0 rfl) ?_
    refine t_get (ci := 3) (v := .ref v_19) hB hT (ro_ci r_24 rfl) rfl 9 (by decide) k_162 kn_37 dX3_keep_118 ?_
    refine lv_aload_n hx hb dX3_keep_121 rfl (lv_at hl 0 rfl) ?_
    refine t_get (ci := 3) (v := .int z_12) hB hT (ro_ci r_24 rfl) rfl 5 (by decide) k_158 kn_33 dX3_keep_122 ?_
    refine lv_iload hx hb dX3_keep_125 (lv_at hl 4 rfl) ?_
    have i_40 : vp_in z_12 16 := (i_in (n := 16) rfl (by omega) (by omega))
    refine t_iast hB hT (ro_in r_28 (by decide)) n_32 i_40 dX3_keep_127 (fun H locs hT => ?_)
    have hI : Inv (sC g_39 v_19 z_12.toNatClampNeg x4) := hI.sC (ck r_28 trivial)
    have hM : Sm md_s_keep g (sC g_39 v_19 z_12.toNatClampNeg x4) := hM.tr hE (Sm_sC (by rw [r_28]; rfl))
    have hE : Ex g (sC g_39 v_19 z_12.toNatClampNeg x4) := hE
    refine lv_aload_n hx hb dX3_keep_128 rfl (lv_at hl 0 rfl) ?_
    refine lv_dup hx hb dX3_keep_129 rfl ?_
    refine t_get (ci := 3) (v := .int z_12) hB hT (ro_ci r_24 rfl) rfl 5 (by decide) k_158 kn_33 dX3_keep_130 ?_
    refine lv_iconst (v := 1) hx hb dX3_keep_133 (by decide) ?_
    refine lv_iadd hx hb dX3_keep_134 ?_
    refine lv_topi (fun z_41 ez_41 => ?_)
    have e_z_41 : z_41.toInt = z_12.toInt + 1 := i_add ez_41 rfl (by decide) (by omega) (by omega)
    refine t_put0 (ci := 3) (v := .int z_41) hB hT (ro_ci r_24 rfl) (ro_n0 r_24 (by decide)) rfl 5 (by decide) k_158 (Or.inl rfl) rfl rfl dX3_keep_135 (fun H locs hT => ?_)
    have hI : Inv (sF (sC g_39 v_19 z_12.toNatClampNeg x4) h 5 (.int z_41)) := hI.sF (p_4_5 r_24 (⟨_, rfl, by omega, by omega⟩))
    have hM : Sm md_s_keep g (sF (sC g_39 v_19 z_12.toNatClampNeg x4) h 5 (.int z_41)) := hM.tr hE (Sm_sF (by rw [r_24]; rfl))
    have hE : Ex g (sF (sC g_39 v_19 z_12.toNatClampNeg x4) h 5 (.int z_41)) := hE
    exact t_vret hB hr hT (Nat.le_of_ble_eq_true rfl) (Nat.le_of_ble_eq_true rfl) dX3_keep_138 ⟨rfl, hI, hE, hM⟩
