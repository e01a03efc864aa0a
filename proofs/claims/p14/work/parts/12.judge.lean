theorem k_212 : Cond.fieldLink RX1 125 "TwiceOnce$World" "doneInAll" "I" ∈ tb := mt 212 (by decide +kernel) rfl
theorem k_214 : Cond.fieldLink RX1 71 "TwiceOnce$World" "came" "I" ∈ tb := mt 214 (by decide +kernel) rfl
theorem k_244 : Cond.fieldLink RX1 58 "TwiceOnce$CallList" "services" "[I" ∈ tb := mt 244 (by decide +kernel) rfl
theorem k_248 : Cond.fieldLink RX1 61 "TwiceOnce$CallList" "xs" "[I" ∈ tb := mt 248 (by decide +kernel) rfl
theorem k_251 : Cond.fieldLink RX1 64 "TwiceOnce$CallList" "keys" "[I" ∈ tb := mt 251 (by decide +kernel) rfl
theorem k_254 : Cond.fieldLink RX1 53 "TwiceOnce$CallList" "size" "I" ∈ tb := mt 254 (by decide +kernel) rfl
theorem k_276 : Cond.fieldLink RX1 12 "TwiceOnce$Judge" "start" "LTwiceOnce$World;" ∈ tb := mt 276 (by decide +kernel) rfl
theorem k_278 : Cond.fieldLink RX1 18 "TwiceOnce$Judge" "once" "LTwiceOnce$World;" ∈ tb := mt 278 (by decide +kernel) rfl
theorem k_279 : Cond.fieldLink RX1 21 "TwiceOnce$Judge" "twice" "LTwiceOnce$World;" ∈ tb := mt 279 (by decide +kernel) rfl
theorem k_280 : Cond.fieldLink RX1 24 "TwiceOnce$Judge" "onceAnswers" "[I" ∈ tb := mt 280 (by decide +kernel) rfl
theorem k_281 : Cond.fieldLink RX1 28 "TwiceOnce$Judge" "onceCame" "[I" ∈ tb := mt 281 (by decide +kernel) rfl
theorem k_282 : Cond.fieldLink RX1 31 "TwiceOnce$Judge" "twiceAnswers" "[I" ∈ tb := mt 282 (by decide +kernel) rfl
theorem k_283 : Cond.fieldLink RX1 34 "TwiceOnce$Judge" "againAnswer" "I" ∈ tb := mt 283 (by decide +kernel) rfl
theorem k_498 : Cond.instanceMethod yX5_fromOutside ∈ tb := mt 498 (by decide +kernel) rfl
theorem k_499 : Cond.selects RX5 yX5_fromOutside yX5_fromOutside ∈ tb := mt 499 (by decide +kernel) rfl
set_option maxRecDepth 20000 in
theorem k_500 : Cond.code yX5_fromOutside cX5_fromOutside 6 (some .int) ∈ tb := mt 500 rfl rfl
theorem k_501 : Cond.methodLink RX5 85 yX3_dropOver ∈ tb := mt 501 (by decide +kernel) rfl
theorem k_502 : Cond.instanceMethod yX3_dropOver ∈ tb := mt 502 (by decide +kernel) rfl
theorem k_503 : Cond.selects RX3 yX3_dropOver yX3_dropOver ∈ tb := mt 503 (by decide +kernel) rfl
set_option maxRecDepth 20000 in
theorem k_504 : Cond.code yX3_dropOver cX3_dropOver 4 none ∈ tb := mt 504 rfl rfl
theorem k_582 : Cond.methodLink RX1 49 yX5_copyFrom ∈ tb := mt 582 (by decide +kernel) rfl
theorem k_583 : Cond.instanceMethod yX5_copyFrom ∈ tb := mt 583 (by decide +kernel) rfl
theorem k_584 : Cond.selects RX5 yX5_copyFrom yX5_copyFrom ∈ tb := mt 584 (by decide +kernel) rfl
set_option maxRecDepth 20000 in
theorem k_585 : Cond.code yX5_copyFrom cX5_copyFrom 3 none ∈ tb := mt 585 rfl rfl
theorem k_594 : Cond.methodLink RX1 67 yX5_fromOutside ∈ tb := mt 594 (by decide +kernel) rfl
theorem k_603 : Cond.methodLink RX1 74 yX5_hasSameStores ∈ tb := mt 603 (by decide +kernel) rfl
theorem k_604 : Cond.instanceMethod yX5_hasSameStores ∈ tb := mt 604 (by decide +kernel) rfl
theorem k_605 : Cond.selects RX5 yX5_hasSameStores yX5_hasSameStores ∈ tb := mt 605 (by decide +kernel) rfl
set_option maxRecDepth 20000 in
theorem k_606 : Cond.code yX5_hasSameStores cX5_hasSameStores 3 (some .boolean) ∈ tb := mt 606 rfl rfl
theorem k_611 : Cond.methodLink RX1 78 yX5_hasSameCounts ∈ tb := mt 611 (by decide +kernel) rfl
theorem k_612 : Cond.instanceMethod yX5_hasSameCounts ∈ tb := mt 612 (by decide +kernel) rfl
theorem k_613 : Cond.selects RX5 yX5_hasSameCounts yX5_hasSameCounts ∈ tb := mt 613 (by decide +kernel) rfl
set_option maxRecDepth 20000 in
theorem k_614 : Cond.code yX5_hasSameCounts cX5_hasSameCounts 3 (some .boolean) ∈ tb := mt 614 rfl rfl
theorem k_615 : Cond.methodLink RX1 81 yX5_didTheSame ∈ tb := mt 615 (by decide +kernel) rfl
theorem k_616 : Cond.instanceMethod yX5_didTheSame ∈ tb := mt 616 (by decide +kernel) rfl
theorem k_617 : Cond.selects RX5 yX5_didTheSame yX5_didTheSame ∈ tb := mt 617 (by decide +kernel) rfl
set_option maxRecDepth 20000 in
theorem k_618 : Cond.code yX5_didTheSame cX5_didTheSame 3 (some .boolean) ∈ tb := mt 618 rfl rfl
theorem dX5_fromOutside_13 : decode cX5_fromOutside 13 = .ok (.iload 5, 2) := by decide +kernel
theorem dX5_fromOutside_15 : decode cX5_fromOutside 15 = .ok (.aload_n 0, 1) := by decide +kernel
theorem dX5_fromOutside_16 : decode cX5_fromOutside 16 = .ok (.getfield 17, 3) := by decide +kernel
theorem dX5_fromOutside_19 : decode cX5_fromOutside 19 = .ok (.if_icmp .ge 23, 3) := by decide +kernel
theorem dX5_fromOutside_42 : decode cX5_fromOutside 42 = .ok (.aload_n 0, 1) := by decide +kernel
theorem dX5_fromOutside_43 : decode cX5_fromOutside 43 = .ok (.iconst 0, 1) := by decide +kernel
theorem dX5_fromOutside_44 : decode cX5_fromOutside 44 = .ok (.putfield 31, 3) := by decide +kernel
theorem dX5_fromOutside_47 : decode cX5_fromOutside 47 = .ok (.aload_n 0, 1) := by decide +kernel
theorem dX5_fromOutside_48 : decode cX5_fromOutside 48 = .ok (.iload 4, 2) := by decide +kernel
theorem dX5_fromOutside_50 : decode cX5_fromOutside 50 = .ok (.iconst 1, 1) := by decide +kernel
theorem dX5_fromOutside_51 : decode cX5_fromOutside 51 = .ok (.if_icmp .lt 15, 3) := by decide +kernel
theorem dX5_fromOutside_66 : decode cX5_fromOutside 66 = .ok (.bipush 61, 2) := by decide +kernel
theorem dX5_fromOutside_68 : decode cX5_fromOutside 68 = .ok (.putfield 34, 3) := by decide +kernel
theorem dX5_fromOutside_71 : decode cX5_fromOutside 71 = .ok (.aload_n 0, 1) := by decide +kernel
theorem dX5_fromOutside_72 : decode cX5_fromOutside 72 = .ok (.iconst 0, 1) := by decide +kernel
theorem dX5_fromOutside_73 : decode cX5_fromOutside 73 = .ok (.putfield 37, 3) := by decide +kernel
theorem dX5_fromOutside_76 : decode cX5_fromOutside 76 = .ok (.aload_n 0, 1) := by decide +kernel
theorem dX5_fromOutside_77 : decode cX5_fromOutside 77 = .ok (.iload_n 1, 1) := by decide +kernel
theorem dX5_fromOutside_78 : decode cX5_fromOutside 78 = .ok (.iload_n 2, 1) := by decide +kernel
theorem dX5_fromOutside_79 : decode cX5_fromOutside 79 = .ok (.iload_n 3, 1) := by decide +kernel
theorem dX5_fromOutside_80 : decode cX5_fromOutside 80 = .ok (.invokevirtual 89, 3) := by decide +kernel
theorem dX5_fromOutside_83 : decode cX5_fromOutside 83 = .ok (.istore 5, 2) := by decide +kernel
theorem dX5_fromOutside_85 : decode cX5_fromOutside 85 = .ok (.aload_n 0, 1) := by decide +kernel
theorem dX5_fromOutside_86 : decode cX5_fromOutside 86 = .ok (.getfield 37, 3) := by decide +kernel
theorem dX5_fromOutside_89 : decode cX5_fromOutside 89 = .ok (.ifCond .eq 8, 3) := by decide +kernel
theorem dX5_fromOutside_97 : decode cX5_fromOutside 97 = .ok (.iload 5, 2) := by decide +kernel
theorem dX5_fromOutside_99 : decode cX5_fromOutside 99 = .ok (.ireturn, 1) := by decide +kernel
theorem dX5_fromOutside_92 : decode cX5_fromOutside 92 = .ok (.bipush (-2), 2) := by decide +kernel
theorem dX5_fromOutside_94 : decode cX5_fromOutside 94 = .ok (.goto 5, 3) := by decide +kernel
theorem dX5_fromOutside_54 : decode cX5_fromOutside 54 = .ok (.iload 4, 2) := by decide +kernel
theorem dX5_fromOutside_56 : decode cX5_fromOutside 56 = .ok (.bipush 60, 2) := by decide +kernel
theorem dX5_fromOutside_58 : decode cX5_fromOutside 58 = .ok (.if_icmp .gt 8, 3) := by decide +kernel
theorem dX5_fromOutside_61 : decode cX5_fromOutside 61 = .ok (.iload 4, 2) := by decide +kernel
theorem dX5_fromOutside_63 : decode cX5_fromOutside 63 = .ok (.goto 5, 3) := by decide +kernel
theorem dX5_fromOutside_22 : decode cX5_fromOutside 22 = .ok (.aload_n 0, 1) := by decide +kernel
theorem dX5_fromOutside_23 : decode cX5_fromOutside 23 = .ok (.getfield 11, 3) := by decide +kernel
theorem dX5_fromOutside_26 : decode cX5_fromOutside 26 = .ok (.iload 5, 2) := by decide +kernel
theorem dX5_fromOutside_28 : decode cX5_fromOutside 28 = .ok (.aaload, 1) := by decide +kernel
theorem dX5_fromOutside_29 : decode cX5_fromOutside 29 = .ok (.aload_n 0, 1) := by decide +kernel
theorem dX5_fromOutside_30 : decode cX5_fromOutside 30 = .ok (.getfield 21, 3) := by decide +kernel
theorem dX5_fromOutside_33 : decode cX5_fromOutside 33 = .ok (.invokevirtual 85, 3) := by decide +kernel
theorem dX5_fromOutside_36 : decode cX5_fromOutside 36 = .ok (.iinc 5 1, 3) := by decide +kernel
theorem dX5_fromOutside_39 : decode cX5_fromOutside 39 = .ok (.goto (-26), 3) := by decide +kernel
theorem dX5_fromOutside_0 : decode cX5_fromOutside 0 = .ok (.aload_n 0, 1) := by decide +kernel
theorem dX5_fromOutside_1 : decode cX5_fromOutside 1 = .ok (.dup, 1) := by decide +kernel
theorem dX5_fromOutside_2 : decode cX5_fromOutside 2 = .ok (.getfield 21, 3) := by decide +kernel
theorem dX5_fromOutside_5 : decode cX5_fromOutside 5 = .ok (.iconst 1, 1) := by decide +kernel
theorem dX5_fromOutside_6 : decode cX5_fromOutside 6 = .ok (.iadd, 1) := by decide +kernel
theorem dX5_fromOutside_7 : decode cX5_fromOutside 7 = .ok (.putfield 21, 3) := by decide +kernel
theorem dX5_fromOutside_10 : decode cX5_fromOutside 10 = .ok (.iconst 0, 1) := by decide +kernel
theorem dX5_fromOutside_11 : decode cX5_fromOutside 11 = .ok (.istore 5, 2) := by decide +kernel
theorem dX1_beginAt_0 : decode cX1_beginAt 0 = .ok (.aload_n 0, 1) := by decide +kernel
theorem dX1_beginAt_1 : decode cX1_beginAt 1 = .ok (.getfield 12, 3) := by decide +kernel
theorem dX1_beginAt_4 : decode cX1_beginAt 4 = .ok (.aload_n 1, 1) := by decide +kernel
theorem dX1_beginAt_5 : decode cX1_beginAt 5 = .ok (.invokevirtual 49, 3) := by decide +kernel
theorem dX1_beginAt_8 : decode cX1_beginAt 8 = .ok (.return_, 1) := by decide +kernel
theorem dX1_runOnce_13 : decode cX1_runOnce 13 = .ok (.iload_n 2, 1) := by decide +kernel
theorem dX1_runOnce_14 : decode cX1_runOnce 14 = .ok (.aload_n 1, 1) := by decide +kernel
theorem dX1_runOnce_15 : decode cX1_runOnce 15 = .ok (.getfield 53, 3) := by decide +kernel
theorem dX1_runOnce_18 : decode cX1_runOnce 18 = .ok (.if_icmp .ge 54, 3) := by decide +kernel
theorem dX1_runOnce_72 : decode cX1_runOnce 72 = .ok (.return_, 1) := by decide +kernel
theorem dX1_runOnce_21 : decode cX1_runOnce 21 = .ok (.aload_n 0, 1) := by decide +kernel
theorem dX1_runOnce_22 : decode cX1_runOnce 22 = .ok (.getfield 24, 3) := by decide +kernel
theorem dX1_runOnce_25 : decode cX1_runOnce 25 = .ok (.iload_n 2, 1) := by decide +kernel
theorem dX1_runOnce_26 : decode cX1_runOnce 26 = .ok (.aload_n 0, 1) := by decide +kernel
theorem dX1_runOnce_27 : decode cX1_runOnce 27 = .ok (.getfield 18, 3) := by decide +kernel
theorem dX1_runOnce_30 : decode cX1_runOnce 30 = .ok (.aload_n 1, 1) := by decide +kernel
theorem dX1_runOnce_31 : decode cX1_runOnce 31 = .ok (.getfield 58, 3) := by decide +kernel
theorem dX1_runOnce_34 : decode cX1_runOnce 34 = .ok (.iload_n 2, 1) := by decide +kernel
theorem dX1_runOnce_35 : decode cX1_runOnce 35 = .ok (.iaload, 1) := by decide +kernel
theorem dX1_runOnce_36 : decode cX1_runOnce 36 = .ok (.aload_n 1, 1) := by decide +kernel
theorem dX1_runOnce_37 : decode cX1_runOnce 37 = .ok (.getfield 61, 3) := by decide +kernel
theorem dX1_runOnce_40 : decode cX1_runOnce 40 = .ok (.iload_n 2, 1) := by decide +kernel
theorem dX1_runOnce_41 : decode cX1_runOnce 41 = .ok (.iaload, 1) := by decide +kernel
theorem dX1_runOnce_42 : decode cX1_runOnce 42 = .ok (.aload_n 1, 1) := by decide +kernel
theorem dX1_runOnce_43 : decode cX1_runOnce 43 = .ok (.getfield 64, 3) := by decide +kernel
theorem dX1_runOnce_46 : decode cX1_runOnce 46 = .ok (.iload_n 2, 1) := by decide +kernel
theorem dX1_runOnce_47 : decode cX1_runOnce 47 = .ok (.iaload, 1) := by decide +kernel
theorem dX1_runOnce_48 : decode cX1_runOnce 48 = .ok (.iconst 0, 1) := by decide +kernel
theorem dX1_runOnce_49 : decode cX1_runOnce 49 = .ok (.invokevirtual 67, 3) := by decide +kernel
theorem dX1_runOnce_52 : decode cX1_runOnce 52 = .ok (.iastore, 1) := by decide +kernel
theorem dX1_runOnce_53 : decode cX1_runOnce 53 = .ok (.aload_n 0, 1) := by decide +kernel
theorem dX1_runOnce_54 : decode cX1_runOnce 54 = .ok (.getfield 28, 3) := by decide +kernel
theorem dX1_runOnce_57 : decode cX1_runOnce 57 = .ok (.iload_n 2, 1) := by decide +kernel
theorem dX1_runOnce_58 : decode cX1_runOnce 58 = .ok (.aload_n 0, 1) := by decide +kernel
theorem dX1_runOnce_59 : decode cX1_runOnce 59 = .ok (.getfield 18, 3) := by decide +kernel
theorem dX1_runOnce_62 : decode cX1_runOnce 62 = .ok (.getfield 71, 3) := by decide +kernel
theorem dX1_runOnce_65 : decode cX1_runOnce 65 = .ok (.iastore, 1) := by decide +kernel
theorem dX1_runOnce_66 : decode cX1_runOnce 66 = .ok (.iinc 2 1, 3) := by decide +kernel
theorem dX1_runOnce_69 : decode cX1_runOnce 69 = .ok (.goto (-56), 3) := by decide +kernel
theorem dX1_runOnce_0 : decode cX1_runOnce 0 = .ok (.aload_n 0, 1) := by decide +kernel
theorem dX1_runOnce_1 : decode cX1_runOnce 1 = .ok (.getfield 18, 3) := by decide +kernel
theorem dX1_runOnce_4 : decode cX1_runOnce 4 = .ok (.aload_n 0, 1) := by decide +kernel
theorem dX1_runOnce_5 : decode cX1_runOnce 5 = .ok (.getfield 12, 3) := by decide +kernel
theorem dX1_runOnce_8 : decode cX1_runOnce 8 = .ok (.invokevirtual 49, 3) := by decide +kernel
theorem dX1_runOnce_11 : decode cX1_runOnce 11 = .ok (.iconst 0, 1) := by decide +kernel
theorem dX1_runOnce_12 : decode cX1_runOnce 12 = .ok (.istore_n 2, 1) := by decide +kernel
theorem dX1_isStill_13 : decode cX1_isStill 13 = .ok (.iload_n 2, 1) := by decide +kernel
theorem dX1_isStill_14 : decode cX1_isStill 14 = .ok (.aload_n 1, 1) := by decide +kernel
theorem dX1_isStill_15 : decode cX1_isStill 15 = .ok (.getfield 53, 3) := by decide +kernel
theorem dX1_isStill_18 : decode cX1_isStill 18 = .ok (.if_icmp .ge 36, 3) := by decide +kernel
theorem dX1_isStill_54 : decode cX1_isStill 54 = .ok (.aload_n 0, 1) := by decide +kernel
theorem dX1_isStill_55 : decode cX1_isStill 55 = .ok (.getfield 21, 3) := by decide +kernel
theorem dX1_isStill_58 : decode cX1_isStill 58 = .ok (.getfield 125, 3) := by decide +kernel
theorem dX1_isStill_61 : decode cX1_isStill 61 = .ok (.ifCond .ne 35, 3) := by decide +kernel
theorem dX1_isStill_96 : decode cX1_isStill 96 = .ok (.iconst 0, 1) := by decide +kernel
theorem dX1_isStill_97 : decode cX1_isStill 97 = .ok (.ireturn, 1) := by decide +kernel
theorem dX1_isStill_64 : decode cX1_isStill 64 = .ok (.aload_n 0, 1) := by decide +kernel
theorem dX1_isStill_65 : decode cX1_isStill 65 = .ok (.getfield 21, 3) := by decide +kernel
theorem dX1_isStill_68 : decode cX1_isStill 68 = .ok (.aload_n 0, 1) := by decide +kernel
theorem dX1_isStill_69 : decode cX1_isStill 69 = .ok (.getfield 12, 3) := by decide +kernel
theorem dX1_isStill_72 : decode cX1_isStill 72 = .ok (.invokevirtual 74, 3) := by decide +kernel
theorem dX1_isStill_75 : decode cX1_isStill 75 = .ok (.ifCond .eq 21, 3) := by decide +kernel
theorem dX1_isStill_78 : decode cX1_isStill 78 = .ok (.aload_n 0, 1) := by decide +kernel
theorem dX1_isStill_79 : decode cX1_isStill 79 = .ok (.getfield 21, 3) := by decide +kernel
theorem dX1_isStill_82 : decode cX1_isStill 82 = .ok (.aload_n 0, 1) := by decide +kernel
theorem dX1_isStill_83 : decode cX1_isStill 83 = .ok (.getfield 12, 3) := by decide +kernel
theorem dX1_isStill_86 : decode cX1_isStill 86 = .ok (.invokevirtual 78, 3) := by decide +kernel
theorem dX1_isStill_89 : decode cX1_isStill 89 = .ok (.ifCond .eq 7, 3) := by decide +kernel
theorem dX1_isStill_92 : decode cX1_isStill 92 = .ok (.iconst 1, 1) := by decide +kernel
theorem dX1_isStill_93 : decode cX1_isStill 93 = .ok (.goto 4, 3) := by decide +kernel
theorem dX1_isStill_21 : decode cX1_isStill 21 = .ok (.aload_n 0, 1) := by decide +kernel
theorem dX1_isStill_22 : decode cX1_isStill 22 = .ok (.getfield 21, 3) := by decide +kernel
theorem dX1_isStill_25 : decode cX1_isStill 25 = .ok (.aload_n 1, 1) := by decide +kernel
theorem dX1_isStill_26 : decode cX1_isStill 26 = .ok (.getfield 58, 3) := by decide +kernel
theorem dX1_isStill_29 : decode cX1_isStill 29 = .ok (.iload_n 2, 1) := by decide +kernel
theorem dX1_isStill_30 : decode cX1_isStill 30 = .ok (.iaload, 1) := by decide +kernel
theorem dX1_isStill_31 : decode cX1_isStill 31 = .ok (.aload_n 1, 1) := by decide +kernel
theorem dX1_isStill_32 : decode cX1_isStill 32 = .ok (.getfield 61, 3) := by decide +kernel
theorem dX1_isStill_35 : decode cX1_isStill 35 = .ok (.iload_n 2, 1) := by decide +kernel
theorem dX1_isStill_36 : decode cX1_isStill 36 = .ok (.iaload, 1) := by decide +kernel
theorem dX1_isStill_37 : decode cX1_isStill 37 = .ok (.aload_n 1, 1) := by decide +kernel
theorem dX1_isStill_38 : decode cX1_isStill 38 = .ok (.getfield 64, 3) := by decide +kernel
theorem dX1_isStill_41 : decode cX1_isStill 41 = .ok (.iload_n 2, 1) := by decide +kernel
theorem dX1_isStill_42 : decode cX1_isStill 42 = .ok (.iaload, 1) := by decide +kernel
theorem dX1_isStill_43 : decode cX1_isStill 43 = .ok (.iconst 0, 1) := by decide +kernel
theorem dX1_isStill_44 : decode cX1_isStill 44 = .ok (.invokevirtual 67, 3) := by decide +kernel
theorem dX1_isStill_47 : decode cX1_isStill 47 = .ok (.pop, 1) := by decide +kernel
theorem dX1_isStill_48 : decode cX1_isStill 48 = .ok (.iinc 2 1, 3) := by decide +kernel
theorem dX1_isStill_51 : decode cX1_isStill 51 = .ok (.goto (-38), 3) := by decide +kernel
theorem dX1_isStill_0 : decode cX1_isStill 0 = .ok (.aload_n 0, 1) := by decide +kernel
theorem dX1_isStill_1 : decode cX1_isStill 1 = .ok (.getfield 21, 3) := by decide +kernel
theorem dX1_isStill_4 : decode cX1_isStill 4 = .ok (.aload_n 0, 1) := by decide +kernel
theorem dX1_isStill_5 : decode cX1_isStill 5 = .ok (.getfield 12, 3) := by decide +kernel
theorem dX1_isStill_8 : decode cX1_isStill 8 = .ok (.invokevirtual 49, 3) := by decide +kernel
theorem dX1_isStill_11 : decode cX1_isStill 11 = .ok (.iconst 0, 1) := by decide +kernel
theorem dX1_isStill_12 : decode cX1_isStill 12 = .ok (.istore_n 2, 1) := by decide +kernel
theorem dX1_runTwice_14 : decode cX1_runTwice 14 = .ok (.iload 5, 2) := by decide +kernel
theorem dX1_runTwice_16 : decode cX1_runTwice 16 = .ok (.aload_n 1, 1) := by decide +kernel
theorem dX1_runTwice_17 : decode cX1_runTwice 17 = .ok (.getfield 53, 3) := by decide +kernel
theorem dX1_runTwice_20 : decode cX1_runTwice 20 = .ok (.if_icmp .ge 98, 3) := by decide +kernel
theorem dX1_runTwice_118 : decode cX1_runTwice 118 = .ok (.return_, 1) := by decide +kernel
theorem dX1_runTwice_23 : decode cX1_runTwice 23 = .ok (.iload 5, 2) := by decide +kernel
theorem dX1_runTwice_25 : decode cX1_runTwice 25 = .ok (.iload_n 2, 1) := by decide +kernel
theorem dX1_runTwice_26 : decode cX1_runTwice 26 = .ok (.if_icmp .ne 8, 3) := by decide +kernel
theorem dX1_runTwice_34 : decode cX1_runTwice 34 = .ok (.iconst 0, 1) := by decide +kernel
theorem dX1_runTwice_35 : decode cX1_runTwice 35 = .ok (.istore 6, 2) := by decide +kernel
theorem dX1_runTwice_37 : decode cX1_runTwice 37 = .ok (.aload_n 0, 1) := by decide +kernel
theorem dX1_runTwice_38 : decode cX1_runTwice 38 = .ok (.getfield 31, 3) := by decide +kernel
theorem dX1_runTwice_41 : decode cX1_runTwice 41 = .ok (.iload 5, 2) := by decide +kernel
theorem dX1_runTwice_43 : decode cX1_runTwice 43 = .ok (.aload_n 0, 1) := by decide +kernel
theorem dX1_runTwice_44 : decode cX1_runTwice 44 = .ok (.getfield 21, 3) := by decide +kernel
theorem dX1_runTwice_47 : decode cX1_runTwice 47 = .ok (.aload_n 1, 1) := by decide +kernel
theorem dX1_runTwice_48 : decode cX1_runTwice 48 = .ok (.getfield 58, 3) := by decide +kernel
theorem dX1_runTwice_51 : decode cX1_runTwice 51 = .ok (.iload 5, 2) := by decide +kernel
theorem dX1_runTwice_53 : decode cX1_runTwice 53 = .ok (.iaload, 1) := by decide +kernel
theorem dX1_runTwice_54 : decode cX1_runTwice 54 = .ok (.aload_n 1, 1) := by decide +kernel
theorem dX1_runTwice_55 : decode cX1_runTwice 55 = .ok (.getfield 61, 3) := by decide +kernel
theorem dX1_runTwice_58 : decode cX1_runTwice 58 = .ok (.iload 5, 2) := by decide +kernel
theorem dX1_runTwice_60 : decode cX1_runTwice 60 = .ok (.iaload, 1) := by decide +kernel
theorem dX1_runTwice_61 : decode cX1_runTwice 61 = .ok (.aload_n 1, 1) := by decide +kernel
theorem dX1_runTwice_62 : decode cX1_runTwice 62 = .ok (.getfield 64, 3) := by decide +kernel
theorem dX1_runTwice_65 : decode cX1_runTwice 65 = .ok (.iload 5, 2) := by decide +kernel
theorem dX1_runTwice_67 : decode cX1_runTwice 67 = .ok (.iaload, 1) := by decide +kernel
theorem dX1_runTwice_68 : decode cX1_runTwice 68 = .ok (.iload 6, 2) := by decide +kernel
theorem dX1_runTwice_70 : decode cX1_runTwice 70 = .ok (.invokevirtual 67, 3) := by decide +kernel
theorem dX1_runTwice_73 : decode cX1_runTwice 73 = .ok (.iastore, 1) := by decide +kernel
theorem dX1_runTwice_74 : decode cX1_runTwice 74 = .ok (.iload 5, 2) := by decide +kernel
theorem dX1_runTwice_76 : decode cX1_runTwice 76 = .ok (.iload_n 2, 1) := by decide +kernel
theorem dX1_runTwice_77 : decode cX1_runTwice 77 = .ok (.iload_n 3, 1) := by decide +kernel
theorem dX1_runTwice_78 : decode cX1_runTwice 78 = .ok (.iadd, 1) := by decide +kernel
theorem dX1_runTwice_79 : decode cX1_runTwice 79 = .ok (.if_icmp .ne 33, 3) := by decide +kernel
theorem dX1_runTwice_112 : decode cX1_runTwice 112 = .ok (.iinc 5 1, 3) := by decide +kernel
theorem dX1_runTwice_115 : decode cX1_runTwice 115 = .ok (.goto (-101), 3) := by decide +kernel
theorem dX1_runTwice_82 : decode cX1_runTwice 82 = .ok (.aload_n 0, 1) := by decide +kernel
theorem dX1_runTwice_83 : decode cX1_runTwice 83 = .ok (.aload_n 0, 1) := by decide +kernel
theorem dX1_runTwice_84 : decode cX1_runTwice 84 = .ok (.getfield 21, 3) := by decide +kernel
theorem dX1_runTwice_87 : decode cX1_runTwice 87 = .ok (.aload_n 1, 1) := by decide +kernel
theorem dX1_runTwice_88 : decode cX1_runTwice 88 = .ok (.getfield 58, 3) := by decide +kernel
theorem dX1_runTwice_91 : decode cX1_runTwice 91 = .ok (.iload_n 2, 1) := by decide +kernel
theorem dX1_runTwice_92 : decode cX1_runTwice 92 = .ok (.iaload, 1) := by decide +kernel
theorem dX1_runTwice_93 : decode cX1_runTwice 93 = .ok (.aload_n 1, 1) := by decide +kernel
theorem dX1_runTwice_94 : decode cX1_runTwice 94 = .ok (.getfield 61, 3) := by decide +kernel
theorem dX1_runTwice_97 : decode cX1_runTwice 97 = .ok (.iload_n 2, 1) := by decide +kernel
theorem dX1_runTwice_98 : decode cX1_runTwice 98 = .ok (.iaload, 1) := by decide +kernel
theorem dX1_runTwice_99 : decode cX1_runTwice 99 = .ok (.aload_n 1, 1) := by decide +kernel
theorem dX1_runTwice_100 : decode cX1_runTwice 100 = .ok (.getfield 64, 3) := by decide +kernel
theorem dX1_runTwice_103 : decode cX1_runTwice 103 = .ok (.iload_n 2, 1) := by decide +kernel
theorem dX1_runTwice_104 : decode cX1_runTwice 104 = .ok (.iaload, 1) := by decide +kernel
theorem dX1_runTwice_105 : decode cX1_runTwice 105 = .ok (.iconst 0, 1) := by decide +kernel
theorem dX1_runTwice_106 : decode cX1_runTwice 106 = .ok (.invokevirtual 67, 3) := by decide +kernel
theorem dX1_runTwice_109 : decode cX1_runTwice 109 = .ok (.putfield 34, 3) := by decide +kernel
theorem dX1_runTwice_29 : decode cX1_runTwice 29 = .ok (.iload 4, 2) := by decide +kernel
theorem dX1_runTwice_31 : decode cX1_runTwice 31 = .ok (.goto 4, 3) := by decide +kernel
theorem dX1_runTwice_0 : decode cX1_runTwice 0 = .ok (.aload_n 0, 1) := by decide +kernel
theorem dX1_runTwice_1 : decode cX1_runTwice 1 = .ok (.getfield 21, 3) := by decide +kernel
theorem dX1_runTwice_4 : decode cX1_runTwice 4 = .ok (.aload_n 0, 1) := by decide +kernel
theorem dX1_runTwice_5 : decode cX1_runTwice 5 = .ok (.getfield 12, 3) := by decide +kernel
theorem dX1_runTwice_8 : decode cX1_runTwice 8 = .ok (.invokevirtual 49, 3) := by decide +kernel
theorem dX1_runTwice_11 : decode cX1_runTwice 11 = .ok (.iconst 0, 1) := by decide +kernel
theorem dX1_runTwice_12 : decode cX1_runTwice 12 = .ok (.istore 5, 2) := by decide +kernel
theorem dX1_isLike_3 : decode cX1_isLike 3 = .ok (.iload 4, 2) := by decide +kernel
theorem dX1_isLike_5 : decode cX1_isLike 5 = .ok (.aload_n 1, 1) := by decide +kernel
theorem dX1_isLike_6 : decode cX1_isLike 6 = .ok (.getfield 53, 3) := by decide +kernel
theorem dX1_isLike_9 : decode cX1_isLike 9 = .ok (.if_icmp .ge 58, 3) := by decide +kernel
theorem dX1_isLike_67 : decode cX1_isLike 67 = .ok (.iload_n 3, 1) := by decide +kernel
theorem dX1_isLike_68 : decode cX1_isLike 68 = .ok (.ifCond .ne 18, 3) := by decide +kernel
theorem dX1_isLike_86 : decode cX1_isLike 86 = .ok (.aload_n 0, 1) := by decide +kernel
theorem dX1_isLike_87 : decode cX1_isLike 87 = .ok (.getfield 21, 3) := by decide +kernel
theorem dX1_isLike_90 : decode cX1_isLike 90 = .ok (.aload_n 0, 1) := by decide +kernel
theorem dX1_isLike_91 : decode cX1_isLike 91 = .ok (.getfield 18, 3) := by decide +kernel
theorem dX1_isLike_94 : decode cX1_isLike 94 = .ok (.invokevirtual 74, 3) := by decide +kernel
theorem dX1_isLike_97 : decode cX1_isLike 97 = .ok (.ifCond .eq 35, 3) := by decide +kernel
theorem dX1_isLike_100 : decode cX1_isLike 100 = .ok (.aload_n 0, 1) := by decide +kernel
theorem dX1_isLike_101 : decode cX1_isLike 101 = .ok (.getfield 21, 3) := by decide +kernel
theorem dX1_isLike_104 : decode cX1_isLike 104 = .ok (.aload_n 0, 1) := by decide +kernel
theorem dX1_isLike_105 : decode cX1_isLike 105 = .ok (.getfield 18, 3) := by decide +kernel
theorem dX1_isLike_108 : decode cX1_isLike 108 = .ok (.invokevirtual 78, 3) := by decide +kernel
theorem dX1_isLike_111 : decode cX1_isLike 111 = .ok (.ifCond .eq 21, 3) := by decide +kernel
theorem dX1_isLike_114 : decode cX1_isLike 114 = .ok (.aload_n 0, 1) := by decide +kernel
theorem dX1_isLike_115 : decode cX1_isLike 115 = .ok (.getfield 21, 3) := by decide +kernel
theorem dX1_isLike_118 : decode cX1_isLike 118 = .ok (.aload_n 0, 1) := by decide +kernel
theorem dX1_isLike_119 : decode cX1_isLike 119 = .ok (.getfield 18, 3) := by decide +kernel
theorem dX1_isLike_122 : decode cX1_isLike 122 = .ok (.invokevirtual 81, 3) := by decide +kernel
theorem dX1_isLike_125 : decode cX1_isLike 125 = .ok (.ifCond .eq 7, 3) := by decide +kernel
theorem dX1_isLike_128 : decode cX1_isLike 128 = .ok (.iconst 1, 1) := by decide +kernel
theorem dX1_isLike_129 : decode cX1_isLike 129 = .ok (.goto 4, 3) := by decide +kernel
theorem dX1_isLike_133 : decode cX1_isLike 133 = .ok (.ireturn, 1) := by decide +kernel
theorem dX1_isLike_132 : decode cX1_isLike 132 = .ok (.iconst 0, 1) := by decide +kernel
theorem dX1_isLike_71 : decode cX1_isLike 71 = .ok (.aload_n 0, 1) := by decide +kernel
theorem dX1_isLike_72 : decode cX1_isLike 72 = .ok (.getfield 34, 3) := by decide +kernel
theorem dX1_isLike_75 : decode cX1_isLike 75 = .ok (.aload_n 0, 1) := by decide +kernel
theorem dX1_isLike_76 : decode cX1_isLike 76 = .ok (.getfield 24, 3) := by decide +kernel
theorem dX1_isLike_79 : decode cX1_isLike 79 = .ok (.iload_n 2, 1) := by decide +kernel
theorem dX1_isLike_80 : decode cX1_isLike 80 = .ok (.iaload, 1) := by decide +kernel
theorem dX1_isLike_81 : decode cX1_isLike 81 = .ok (.if_icmp .eq 5, 3) := by decide +kernel
theorem dX1_isLike_84 : decode cX1_isLike 84 = .ok (.iconst 0, 1) := by decide +kernel
theorem dX1_isLike_85 : decode cX1_isLike 85 = .ok (.ireturn, 1) := by decide +kernel
theorem dX1_isLike_12 : decode cX1_isLike 12 = .ok (.iload 4, 2) := by decide +kernel
theorem dX1_isLike_14 : decode cX1_isLike 14 = .ok (.iload_n 2, 1) := by decide +kernel
theorem dX1_isLike_15 : decode cX1_isLike 15 = .ok (.if_icmp .ne 15, 3) := by decide +kernel
theorem dX1_isLike_30 : decode cX1_isLike 30 = .ok (.iconst 1, 1) := by decide +kernel
theorem dX1_isLike_31 : decode cX1_isLike 31 = .ok (.goto 4, 3) := by decide +kernel
theorem dX1_isLike_35 : decode cX1_isLike 35 = .ok (.istore 5, 2) := by decide +kernel
theorem dX1_isLike_37 : decode cX1_isLike 37 = .ok (.iload 5, 2) := by decide +kernel
theorem dX1_isLike_39 : decode cX1_isLike 39 = .ok (.ifCond .eq 22, 3) := by decide +kernel
theorem dX1_isLike_42 : decode cX1_isLike 42 = .ok (.aload_n 0, 1) := by decide +kernel
theorem dX1_isLike_43 : decode cX1_isLike 43 = .ok (.getfield 31, 3) := by decide +kernel
theorem dX1_isLike_46 : decode cX1_isLike 46 = .ok (.iload 4, 2) := by decide +kernel
theorem dX1_isLike_48 : decode cX1_isLike 48 = .ok (.iaload, 1) := by decide +kernel
theorem dX1_isLike_49 : decode cX1_isLike 49 = .ok (.aload_n 0, 1) := by decide +kernel
theorem dX1_isLike_50 : decode cX1_isLike 50 = .ok (.getfield 24, 3) := by decide +kernel
theorem dX1_isLike_53 : decode cX1_isLike 53 = .ok (.iload 4, 2) := by decide +kernel
theorem dX1_isLike_55 : decode cX1_isLike 55 = .ok (.iaload, 1) := by decide +kernel
theorem dX1_isLike_56 : decode cX1_isLike 56 = .ok (.if_icmp .eq 5, 3) := by decide +kernel
theorem dX1_isLike_61 : decode cX1_isLike 61 = .ok (.iinc 4 1, 3) := by decide +kernel
theorem dX1_isLike_64 : decode cX1_isLike 64 = .ok (.goto (-61), 3) := by decide +kernel
theorem dX1_isLike_59 : decode cX1_isLike 59 = .ok (.iconst 0, 1) := by decide +kernel
theorem dX1_isLike_60 : decode cX1_isLike 60 = .ok (.ireturn, 1) := by decide +kernel
theorem dX1_isLike_18 : decode cX1_isLike 18 = .ok (.aload_n 0, 1) := by decide +kernel
theorem dX1_isLike_19 : decode cX1_isLike 19 = .ok (.getfield 31, 3) := by decide +kernel
theorem dX1_isLike_22 : decode cX1_isLike 22 = .ok (.iload 4, 2) := by decide +kernel
theorem dX1_isLike_24 : decode cX1_isLike 24 = .ok (.iaload, 1) := by decide +kernel
theorem dX1_isLike_25 : decode cX1_isLike 25 = .ok (.bipush (-2), 2) := by decide +kernel
theorem dX1_isLike_27 : decode cX1_isLike 27 = .ok (.if_icmp .eq 7, 3) := by decide +kernel
theorem dX1_isLike_34 : decode cX1_isLike 34 = .ok (.iconst 0, 1) := by decide +kernel
theorem dX1_isLike_0 : decode cX1_isLike 0 = .ok (.iconst 0, 1) := by decide +kernel
theorem dX1_isLike_1 : decode cX1_isLike 1 = .ok (.istore 4, 2) := by decide +kernel
def md_s_fromOutside : Nat → Nat → Bool := fun r k => (r == 4 && k == 0) || (r == 4 && k == 2) || (r == 4 && k == 3) || (r == 4 && k == 4) || (r == 4 && k == 5) || (r == 4 && k == 10) || (r == 4 && k == 11) || (r == 4 && k == 14) || (r == 6 && k == 2) || (r == 6 && k == 4) || (r == 6 && k == 5) || (r == 6 && k == 6) || (r == 6 && k == 7)
theorem mdle_s_fromOutside_s_dropOver {r k : Nat} (h : md_s_fromOutside r k = false) : md_s_dropOver r k = false := by
  first | rfl | (simp only [md_s_fromOutside, md_s_dropOver, Bool.or_eq_false_iff, Bool.and_eq_false_iff, beq_eq_false_iff_ne] at h ⊢; omega)
theorem mdle_s_fromOutside_s_serve5 {r k : Nat} (h : md_s_fromOutside r k = false) : md_s_serve5 r k = false := by
  first | rfl | (simp only [md_s_fromOutside, md_s_serve5, Bool.or_eq_false_iff, Bool.and_eq_false_iff, beq_eq_false_iff_ne] at h ⊢; omega)
set_option maxHeartbeats 4000000 in
set_option maxRecDepth 100000 in
theorem lt_s_fromOutside_a (l : Launch) (D : va_G) (cI cZ cS cR : ClassId) (N0 : NT) (fr : Int32) (g : GS) (h : Nat) (n : Int32) (x1 : Int32) (x2 : Int32) (x3 : Int32) (r_h : g.1 h = 6) (l_n : 0 ≤ n.toInt) (u_n : n.toInt ≤ 5) {p : Program} {e : Env} {s : State} {m : MethodId} {args : Array Value} {below : List Frame} {meth : Method} {c : Code} (hB : Tz p s m meth c args cX5_fromOutside 6 RX5 D cI cZ cS cR N0) (hr : meth.sig.returnType = (some .int))  : ∀ (kf : Nat) (g1 : GS) (i : Int32)  (H : Heap) (locs : List Loc) (ls : Array Slot), Tv D cI cZ cS cR N0 s.heap H locs g1 → Inv fr g1 → Ex g g1 → Sm md_s_fromOutside g g1 → 0 ≤ i.toInt → i.toInt ≤ 6 → 6 ≤ i.toInt + kf → lv_has ls 6 [(5, .int i), (0, .ref h), (1, .int n), (2, .int x1), (3, .int x2), (4, .int x3)] → W p l e (rmx 13 0 0) s m args below meth c H locs 0 0 (MQ below (tQ D cI cZ cS cR N0 (fun v g' => ∃ (r : Int32), v = some (.int r) ∧ Inv fr g' ∧ Ex g g' ∧ Sm md_s_fromOutside g g')) args s 0 0 (fun q => N0.1 ≤ q)) (F0 m 13 ls []) := by
  have hx := hB.1
  have hb := hB.2.1
  intro kf
  induction kf using Nat.strongRecOn with
  | ind kf ih =>
    intro g1 i H locs ls hT hI hE hM l_i u_i hk hl
    have r1_h : g1.1 h = 6 := Ex.r hE r_h (by decide)
    refine lv_iload hx hb dX5_fromOutside_13 (lv_at hl 0 rfl) ?_
    refine lv_aload_n hx hb dX5_fromOutside_15 rfl (lv_at hl 1 rfl) ?_
    obtain ⟨v_1, e_v_1, l_v_1, u_v_1⟩ := hI.f r1_h 1
    refine t_get (ci := 5) (v := .int v_1) hB hT (ro_ci r1_h rfl) rfl 1 (by decide) k_202 e_v_1 dX5_fromOutside_16 ?_
    refine lv_icmp_ge (tgt := 42) hx hb dX5_fromOutside_19 (by decide) (fun c_2 => ?_) (fun c_2 => ?_)
    · have c_2' : v_1.toInt ≤ i.toInt := i_le c_2 rfl rfl
      refine lv_aload_n hx hb dX5_fromOutside_42 rfl (lv_at hl 1 rfl) ?_
      refine lv_iconst (v := 0) hx hb dX5_fromOutside_43 (by decide) ?_
      refine t_put0 (ci := 5) (v := .int 0) hB hT (ro_ci r1_h rfl) (ro_n0 r1_h (by decide)) rfl 5 (by decide) k_213 (Or.inl rfl) rfl rfl dX5_fromOutside_44 (fun H locs hT => ?_)
      have hI : Inv fr (sF g1 h 5 (.int 0)) := hI.sF (fk r1_h (⟨_, rfl⟩))
      have hM : Sm md_s_fromOutside g (sF g1 h 5 (.int 0)) := hM.tr hE (Sm_sF (by rw [r1_h]; rfl))
      have hE : Ex g (sF g1 h 5 (.int 0)) := hE
      refine lv_aload_n hx hb dX5_fromOutside_47 rfl (lv_at hl 1 rfl) ?_
      refine lv_iload hx hb dX5_fromOutside_48 (lv_at hl 5 rfl) ?_
      refine lv_iconst (v := 1) hx hb dX5_fromOutside_50 (by decide) ?_
      refine lv_icmp_lt (tgt := 66) hx hb dX5_fromOutside_51 (by decide) (fun c_3 => ?_) (fun c_3 => ?_)
      · have c_3' : x3.toInt < 1 := i_lt c_3 rfl (by decide)
        refine lv_bipush (v := 61) hx hb dX5_fromOutside_66 (by decide) ?_
        refine t_put0 (ci := 5) (v := .int 61) hB hT (ro_ci r1_h rfl) (ro_n0 r1_h (by decide)) rfl 6 (by decide) k_215 (Or.inl rfl) rfl rfl dX5_fromOutside_68 (fun H locs hT => ?_)
        have hI : Inv fr (sF (sF g1 h 5 (.int 0)) h 6 (.int 61)) := hI.sF (fk r1_h (⟨_, rfl⟩))
        have hM : Sm md_s_fromOutside g (sF (sF g1 h 5 (.int 0)) h 6 (.int 61)) := hM.tr hE (Sm_sF (by rw [r1_h]; rfl))
        have hE : Ex g (sF (sF g1 h 5 (.int 0)) h 6 (.int 61)) := hE
        refine lv_aload_n hx hb dX5_fromOutside_71 rfl (lv_at hl 1 rfl) ?_
        refine lv_iconst (v := 0) hx hb dX5_fromOutside_72 (by decide) ?_
        refine t_put0 (ci := 5) (v := .int 0) hB hT (ro_ci r1_h rfl) (ro_n0 r1_h (by decide)) rfl 7 (by decide) k_216 (Or.inl rfl) rfl rfl dX5_fromOutside_73 (fun H locs hT => ?_)
        have hI : Inv fr (sF (sF (sF g1 h 5 (.int 0)) h 6 (.int 61)) h 7 (.int 0)) := hI.sF (fk r1_h (⟨_, rfl, by decide, by decide⟩))
        have hM : Sm md_s_fromOutside g (sF (sF (sF g1 h 5 (.int 0)) h 6 (.int 61)) h 7 (.int 0)) := hM.tr hE (Sm_sF (by rw [r1_h]; rfl))
        have hE : Ex g (sF (sF (sF g1 h 5 (.int 0)) h 6 (.int 61)) h 7 (.int 0)) := hE
        refine lv_aload_n hx hb dX5_fromOutside_76 rfl (lv_at hl 1 rfl) ?_
        refine lv_iload_n hx hb dX5_fromOutside_77 rfl (lv_at hl 2 rfl) ?_
        refine lv_iload_n hx hb dX5_fromOutside_78 rfl (lv_at hl 3 rfl) ?_
        refine lv_iload_n hx hb dX5_fromOutside_79 rfl (lv_at hl 4 rfl) ?_
        refine t_callV (n := 3) (ci := 5) (As := [.int n, .int x1, .int x2]) (rest := []) hB hT hl.1 (s_serve5 l D cI cZ cS cR N0 fr (sF (sF (sF g1 h 5 (.int 0)) h 6 (.int 61)) h 7 (.int 0)) hI h n x1 x2 r1_h (by omega) (by omega)) (ro_ci r1_h rfl) rfl k_508 k_59 k_505 k_507 k_12 (by decide +kernel) ⟨(Nat.le_of_ble_eq_true rfl), (Nat.le_of_ble_eq_true rfl)⟩ rfl (Nat.le_of_ble_eq_true rfl) ⟨(Nat.le_of_ble_eq_true rfl), (Nat.le_of_ble_eq_true rfl)⟩ dX5_fromOutside_80 (fun v g_4 H locs hp hT => ?_)
        obtain ⟨r_5, rfl, hI, x_7, m_6⟩ := hp
        have r_8 : g_4.1 h = 6 := (Ex.r x_7 r1_h (by decide))
        have e_9 : g_4.2.1 h 1 = .int v_1 := (Sm.v m_6 r1_h (by decide) rfl (sF_k (sF_k (sF_k e_v_1 (by decide)) (by decide)) (by decide)))
        have e_10 : g_4.2.1 h 6 = .int 61 := (Sm.v m_6 r1_h (by decide) rfl (sF_k sF_eq (by decide)))
        have hM : Sm md_s_fromOutside g g_4 := hM.tr hE (m_6.mo (fun r k h => mdle_s_fromOutside_s_serve5 h))
        have hE : Ex g g_4 := hE.tr x_7
        refine W.eq (g2 := F0 m 83 ls [.int r_5]) rfl ?_
        refine lv_istore (lv' := [(5, .int r_5), (0, .ref h), (1, .int n), (2, .int x1), (3, .int x2), (4, .int x3)]) hx hb dX5_fromOutside_83 hl (by decide) rfl (fun ls hl => ?_)
        refine lv_aload_n hx hb dX5_fromOutside_85 rfl (lv_at hl 1 rfl) ?_
        obtain ⟨v_11, e_v_11, l_v_11, u_v_11⟩ := hI.f r_8 7
        refine t_get (ci := 5) (v := .int v_11) hB hT (ro_ci r_8 rfl) rfl 7 (by decide) k_216 e_v_11 dX5_fromOutside_86 ?_
        refine lv_if_eq (tgt := 97) hx hb dX5_fromOutside_89 (by decide) (fun c_12 => ?_) (fun c_12 => ?_)
        · have c_12' : v_11.toInt = 0 := i_eq c_12 rfl (by decide)
          refine lv_iload hx hb dX5_fromOutside_97 (lv_at hl 0 rfl) ?_
          exact t_iret hB hr hT (Nat.le_of_ble_eq_true rfl) (Nat.le_of_ble_eq_true rfl) dX5_fromOutside_99 ⟨r_5, rfl, hI, hE, hM⟩
        · have c_12' : v_11.toInt ≠ 0 := i_ne c_12 rfl (by decide)
          refine lv_bipush (v := (-2)) hx hb dX5_fromOutside_92 (by decide) ?_
          refine lv_goto (tgt := 99) hx hb dX5_fromOutside_94 (by decide) ?_
          exact t_iret hB hr hT (Nat.le_of_ble_eq_true rfl) (Nat.le_of_ble_eq_true rfl) dX5_fromOutside_99 ⟨(-2), rfl, hI, hE, hM⟩
      · have c_3' : 1 ≤ x3.toInt := i_nlt c_3 rfl (by decide)
        refine lv_iload hx hb dX5_fromOutside_54 (lv_at hl 5 rfl) ?_
        refine lv_bipush (v := 60) hx hb dX5_fromOutside_56 (by decide) ?_
        refine lv_icmp_gt (tgt := 66) hx hb dX5_fromOutside_58 (by decide) (fun c_13 => ?_) (fun c_13 => ?_)
        · have c_13' : 60 < x3.toInt := i_lt c_13 (by decide) rfl
          refine lv_bipush (v := 61) hx hb dX5_fromOutside_66 (by decide) ?_
          refine t_put0 (ci := 5) (v := .int 61) hB hT (ro_ci r1_h rfl) (ro_n0 r1_h (by decide)) rfl 6 (by decide) k_215 (Or.inl rfl) rfl rfl dX5_fromOutside_68 (fun H locs hT => ?_)
          have hI : Inv fr (sF (sF g1 h 5 (.int 0)) h 6 (.int 61)) := hI.sF (fk r1_h (⟨_, rfl⟩))
          have hM : Sm md_s_fromOutside g (sF (sF g1 h 5 (.int 0)) h 6 (.int 61)) := hM.tr hE (Sm_sF (by rw [r1_h]; rfl))
          have hE : Ex g (sF (sF g1 h 5 (.int 0)) h 6 (.int 61)) := hE
          refine lv_aload_n hx hb dX5_fromOutside_71 rfl (lv_at hl 1 rfl) ?_
          refine lv_iconst (v := 0) hx hb dX5_fromOutside_72 (by decide) ?_
          refine t_put0 (ci := 5) (v := .int 0) hB hT (ro_ci r1_h rfl) (ro_n0 r1_h (by decide)) rfl 7 (by decide) k_216 (Or.inl rfl) rfl rfl dX5_fromOutside_73 (fun H locs hT => ?_)
          have hI : Inv fr (sF (sF (sF g1 h 5 (.int 0)) h 6 (.int 61)) h 7 (.int 0)) := hI.sF (fk r1_h (⟨_, rfl, by decide, by decide⟩))
          have hM : Sm md_s_fromOutside g (sF (sF (sF g1 h 5 (.int 0)) h 6 (.int 61)) h 7 (.int 0)) := hM.tr hE (Sm_sF (by rw [r1_h]; rfl))
          have hE : Ex g (sF (sF (sF g1 h 5 (.int 0)) h 6 (.int 61)) h 7 (.int 0)) := hE
          refine lv_aload_n hx hb dX5_fromOutside_76 rfl (lv_at hl 1 rfl) ?_
          refine lv_iload_n hx hb dX5_fromOutside_77 rfl (lv_at hl 2 rfl) ?_
          refine lv_iload_n hx hb dX5_fromOutside_78 rfl (lv_at hl 3 rfl) ?_
          refine lv_iload_n hx hb dX5_fromOutside_79 rfl (lv_at hl 4 rfl) ?_
          refine t_callV (n := 3) (ci := 5) (As := [.int n, .int x1, .int x2]) (rest := []) hB hT hl.1 (s_serve5 l D cI cZ cS cR N0 fr (sF (sF (sF g1 h 5 (.int 0)) h 6 (.int 61)) h 7 (.int 0)) hI h n x1 x2 r1_h (by omega) (by omega)) (ro_ci r1_h rfl) rfl k_508 k_59 k_505 k_507 k_12 (by decide +kernel) ⟨(Nat.le_of_ble_eq_true rfl), (Nat.le_of_ble_eq_true rfl)⟩ rfl (Nat.le_of_ble_eq_true rfl) ⟨(Nat.le_of_ble_eq_true rfl), (Nat.le_of_ble_eq_true rfl)⟩ dX5_fromOutside_80 (fun v g_14 H locs hp hT => ?_)
          obtain ⟨r_15, rfl, hI, x_17, m_16⟩ := hp
          have r_18 : g_14.1 h = 6 := (Ex.r x_17 r1_h (by decide))
          have e_19 : g_14.2.1 h 1 = .int v_1 := (Sm.v m_16 r1_h (by decide) rfl (sF_k (sF_k (sF_k e_v_1 (by decide)) (by decide)) (by decide)))
          have e_20 : g_14.2.1 h 6 = .int 61 := (Sm.v m_16 r1_h (by decide) rfl (sF_k sF_eq (by decide)))
          have hM : Sm md_s_fromOutside g g_14 := hM.tr hE (m_16.mo (fun r k h => mdle_s_fromOutside_s_serve5 h))
          have hE : Ex g g_14 := hE.tr x_17
          refine W.eq (g2 := F0 m 83 ls [.int r_15]) rfl ?_
          refine lv_istore (lv' := [(5, .int r_15), (0, .ref h), (1, .int n), (2, .int x1), (3, .int x2), (4, .int x3)]) hx hb dX5_fromOutside_83 hl (by decide) rfl (fun ls hl => ?_)
          refine lv_aload_n hx hb dX5_fromOutside_85 rfl (lv_at hl 1 rfl) ?_
          obtain ⟨v_21, e_v_21, l_v_21, u_v_21⟩ := hI.f r_18 7
          refine t_get (ci := 5) (v := .int v_21) hB hT (ro_ci r_18 rfl) rfl 7 (by decide) k_216 e_v_21 dX5_fromOutside_86 ?_
          refine lv_if_eq (tgt := 97) hx hb dX5_fromOutside_89 (by decide) (fun c_22 => ?_) (fun c_22 => ?_)
          · have c_22' : v_21.toInt = 0 := i_eq c_22 rfl (by decide)
            refine lv_iload hx hb dX5_fromOutside_97 (lv_at hl 0 rfl) ?_
            exact t_iret hB hr hT (Nat.le_of_ble_eq_true rfl) (Nat.le_of_ble_eq_true rfl) dX5_fromOutside_99 ⟨r_15, rfl, hI, hE, hM⟩
          · have c_22' : v_21.toInt ≠ 0 := i_ne c_22 rfl (by decide)
            refine lv_bipush (v := (-2)) hx hb dX5_fromOutside_92 (by decide) ?_
            refine lv_goto (tgt := 99) hx hb dX5_fromOutside_94 (by decide) ?_
            exact t_iret hB hr hT (Nat.le_of_ble_eq_true rfl) (Nat.le_of_ble_eq_true rfl) dX5_fromOutside_99 ⟨(-2), rfl, hI, hE, hM⟩
        · have c_13' : x3.toInt ≤ 60 := i_nlt c_13 (by decide) rfl
          refine lv_iload hx hb dX5_fromOutside_61 (lv_at hl 5 rfl) ?_
          refine lv_goto (tgt := 68) hx hb dX5_fromOutside_63 (by decide) ?_
          refine t_put0 (ci := 5) (v := .int x3) hB hT (ro_ci r1_h rfl) (ro_n0 r1_h (by decide)) rfl 6 (by decide) k_215 (Or.inl rfl) rfl rfl dX5_fromOutside_68 (fun H locs hT => ?_)
          have hI : Inv fr (sF (sF g1 h 5 (.int 0)) h 6 (.int x3)) := hI.sF (fk r1_h (⟨_, rfl⟩))
          have hM : Sm md_s_fromOutside g (sF (sF g1 h 5 (.int 0)) h 6 (.int x3)) := hM.tr hE (Sm_sF (by rw [r1_h]; rfl))
          have hE : Ex g (sF (sF g1 h 5 (.int 0)) h 6 (.int x3)) := hE
          refine lv_aload_n hx hb dX5_fromOutside_71 rfl (lv_at hl 1 rfl) ?_
          refine lv_iconst (v := 0) hx hb dX5_fromOutside_72 (by decide) ?_
          refine t_put0 (ci := 5) (v := .int 0) hB hT (ro_ci r1_h rfl) (ro_n0 r1_h (by decide)) rfl 7 (by decide) k_216 (Or.inl rfl) rfl rfl dX5_fromOutside_73 (fun H locs hT => ?_)
          have hI : Inv fr (sF (sF (sF g1 h 5 (.int 0)) h 6 (.int x3)) h 7 (.int 0)) := hI.sF (fk r1_h (⟨_, rfl, by decide, by decide⟩))
          have hM : Sm md_s_fromOutside g (sF (sF (sF g1 h 5 (.int 0)) h 6 (.int x3)) h 7 (.int 0)) := hM.tr hE (Sm_sF (by rw [r1_h]; rfl))
          have hE : Ex g (sF (sF (sF g1 h 5 (.int 0)) h 6 (.int x3)) h 7 (.int 0)) := hE
          refine lv_aload_n hx hb dX5_fromOutside_76 rfl (lv_at hl 1 rfl) ?_
          refine lv_iload_n hx hb dX5_fromOutside_77 rfl (lv_at hl 2 rfl) ?_
          refine lv_iload_n hx hb dX5_fromOutside_78 rfl (lv_at hl 3 rfl) ?_
          refine lv_iload_n hx hb dX5_fromOutside_79 rfl (lv_at hl 4 rfl) ?_
          refine t_callV (n := 3) (ci := 5) (As := [.int n, .int x1, .int x2]) (rest := []) hB hT hl.1 (s_serve5 l D cI cZ cS cR N0 fr (sF (sF (sF g1 h 5 (.int 0)) h 6 (.int x3)) h 7 (.int 0)) hI h n x1 x2 r1_h (by omega) (by omega)) (ro_ci r1_h rfl) rfl k_508 k_59 k_505 k_507 k_12 (by decide +kernel) ⟨(Nat.le_of_ble_eq_true rfl), (Nat.le_of_ble_eq_true rfl)⟩ rfl (Nat.le_of_ble_eq_true rfl) ⟨(Nat.le_of_ble_eq_true rfl), (Nat.le_of_ble_eq_true rfl)⟩ dX5_fromOutside_80 (fun v g_23 H locs hp hT => ?_)
          obtain ⟨r_24, rfl, hI, x_26, m_25⟩ := hp
          have r_27 : g_23.1 h = 6 := (Ex.r x_26 r1_h (by decide))
          have e_28 : g_23.2.1 h 1 = .int v_1 := (Sm.v m_25 r1_h (by decide) rfl (sF_k (sF_k (sF_k e_v_1 (by decide)) (by decide)) (by decide)))
          have e_29 : g_23.2.1 h 6 = .int x3 := (Sm.v m_25 r1_h (by decide) rfl (sF_k sF_eq (by decide)))
          have hM : Sm md_s_fromOutside g g_23 := hM.tr hE (m_25.mo (fun r k h => mdle_s_fromOutside_s_serve5 h))
          have hE : Ex g g_23 := hE.tr x_26
          refine W.eq (g2 := F0 m 83 ls [.int r_24]) rfl ?_
          refine lv_istore (lv' := [(5, .int r_24), (0, .ref h), (1, .int n), (2, .int x1), (3, .int x2), (4, .int x3)]) hx hb dX5_fromOutside_83 hl (by decide) rfl (fun ls hl => ?_)
          refine lv_aload_n hx hb dX5_fromOutside_85 rfl (lv_at hl 1 rfl) ?_
          obtain ⟨v_30, e_v_30, l_v_30, u_v_30⟩ := hI.f r_27 7
          refine t_get (ci := 5) (v := .int v_30) hB hT (ro_ci r_27 rfl) rfl 7 (by decide) k_216 e_v_30 dX5_fromOutside_86 ?_
          refine lv_if_eq (tgt := 97) hx hb dX5_fromOutside_89 (by decide) (fun c_31 => ?_) (fun c_31 => ?_)
          · have c_31' : v_30.toInt = 0 := i_eq c_31 rfl (by decide)
            refine lv_iload hx hb dX5_fromOutside_97 (lv_at hl 0 rfl) ?_
            exact t_iret hB hr hT (Nat.le_of_ble_eq_true rfl) (Nat.le_of_ble_eq_true rfl) dX5_fromOutside_99 ⟨r_24, rfl, hI, hE, hM⟩
          · have c_31' : v_30.toInt ≠ 0 := i_ne c_31 rfl (by decide)
            refine lv_bipush (v := (-2)) hx hb dX5_fromOutside_92 (by decide) ?_
            refine lv_goto (tgt := 99) hx hb dX5_fromOutside_94 (by decide) ?_
            exact t_iret hB hr hT (Nat.le_of_ble_eq_true rfl) (Nat.le_of_ble_eq_true rfl) dX5_fromOutside_99 ⟨(-2), rfl, hI, hE, hM⟩
    · have c_2' : i.toInt < v_1.toInt := i_nle c_2 rfl rfl
      refine lv_aload_n hx hb dX5_fromOutside_22 rfl (lv_at hl 1 rfl) ?_
      obtain ⟨v_32, e_v_32, r_v_32, n_v_32⟩ := hI.f r1_h 0
      refine t_get (ci := 5) (v := .ref v_32) hB hT (ro_ci r1_h rfl) rfl 0 (by decide) k_199 e_v_32 dX5_fromOutside_23 ?_
      refine lv_iload hx hb dX5_fromOutside_26 (lv_at hl 0 rfl) ?_
      have i_q_33 : vp_in i 6 := (i_in (n := 6) rfl (by omega) (by omega))
      obtain ⟨q_33, e_q_33, r_q_33⟩ := hI.q r_v_32 n_v_32 (i_cl i_q_33)
      refine t_aald hB hT (Or.inl r_v_32) n_v_32 i_q_33 e_q_33 dX5_fromOutside_28 ?_
      refine lv_aload_n hx hb dX5_fromOutside_29 rfl (lv_at hl 1 rfl) ?_
      obtain ⟨v_34, e_v_34⟩ := hI.f r1_h 2
      refine t_get (ci := 5) (v := .int v_34) hB hT (ro_ci r1_h rfl) rfl 2 (by decide) k_205 e_v_34 dX5_fromOutside_30 ?_
      refine t_callV (n := 1) (ci := 3) (As := [.int v_34]) (rest := []) hB hT hl.1 (s_dropOver l D cI cZ cS cR N0 fr g1 hI q_33 v_34 r_q_33) (ro_ci r_q_33 rfl) rfl k_504 k_60 k_501 k_502 k_503 (by decide +kernel) ⟨(Nat.le_of_ble_eq_true rfl), (Nat.le_of_ble_eq_true rfl)⟩ rfl (Nat.le_of_ble_eq_true rfl) ⟨(Nat.le_of_ble_eq_true rfl), (Nat.le_of_ble_eq_true rfl)⟩ dX5_fromOutside_33 (fun v g_35 H locs hp hT => ?_)
      obtain ⟨rfl, hI, x_37, m_36⟩ := hp
      have r_38 : g_35.1 h = 6 := (Ex.r x_37 r1_h (by decide))
      have r_39 : g_35.1 v_32 = 41 := (Ex.r x_37 r_v_32 (by decide))
      have r_40 : g_35.1 q_33 = 4 := (Ex.r x_37 r_q_33 (by decide))
      have n_41 : g_35.2.2.1 v_32 = 6 := (Ex.n x_37 r_v_32 (by decide) n_v_32)
      have e_42 : g_35.2.1 h 1 = .int v_1 := (Sm.v m_36 r1_h (by decide) rfl e_v_1)
      have e_43 : g_35.2.1 h 0 = .ref v_32 := (Sm.v m_36 r1_h (by decide) rfl e_v_32)
      have e_44 : g_35.2.1 h 2 = .int v_34 := (Sm.v m_36 r1_h (by decide) rfl e_v_34)
      have hM : Sm md_s_fromOutside g g_35 := hM.tr hE (m_36.mo (fun r k h => mdle_s_fromOutside_s_dropOver h))
      have hE : Ex g g_35 := hE.tr x_37
      refine W.eq (g2 := F0 m 36 ls []) rfl ?_
      obtain ⟨z_45, ez_45⟩ : ∃ z : Int32, z = i + 1 := ⟨_, rfl⟩
      have e_z_45 : z_45.toInt = i.toInt + 1 := i_add ez_45 rfl (by decide) (by omega) (by omega)
      refine lv_iinc (v := z_45) (lv' := [(5, .int z_45), (0, .ref h), (1, .int n), (2, .int x1), (3, .int x2), (4, .int x3)]) hx hb dX5_fromOutside_36 hl (k := 0) rfl (by rw [ez_45]; rfl) (by decide) rfl (fun ls hl => ?_)
      refine lv_goto (tgt := 13) hx hb dX5_fromOutside_39 (by decide) ?_
      exact ih (kf - 1) (by omega) g_35 z_45 H locs ls hT hI hE hM (by omega) (by omega) (by have e0 := z0; omega) (lv_sub hl [0, 1, 2, 3, 4, 5] rfl)
set_option maxHeartbeats 4000000 in
set_option maxRecDepth 100000 in
theorem s_fromOutside (l : Launch) (D : va_G) (cI cZ cS cR : ClassId) (N0 : NT) (fr : Int32) (g : GS) (hI : Inv fr g) (h : Nat) (n : Int32) (x1 : Int32) (x2 : Int32) (x3 : Int32) (r_h : g.1 h = 6) (l_n : 0 ≤ n.toInt) (u_n : n.toInt ≤ 5) : Ty l D cI cZ cS cR N0 yX5_fromOutside cX5_fromOutside 6 (some .int) 13 0 0 [.ref h, .int n, .int x1, .int x2, .int x3] g (fun v g' => ∃ (r : Int32), v = some (.int r) ∧ Inv fr g' ∧ Ex g g' ∧ Sm md_s_fromOutside g g') := by
  refine t_enter (by decide) (Nat.le_of_ble_eq_true rfl) ?_
  intro p e s m args below meth c ls H locs hB hr hin hl hT
  have hx := hB.1
  have hb := hB.2.1
  have hl : lv_has ls 6 [(0, .ref h), (1, .int n), (2, .int x1), (3, .int x2), (4, .int x3)] := hl
  have hE : Ex g g := Ex.rf
  have hM : Sm md_s_fromOutside g g := Sm.rf
  refine lv_aload_n hx hb dX5_fromOutside_0 rfl (lv_at hl 0 rfl) ?_
  refine lv_dup hx hb dX5_fromOutside_1 rfl ?_
  obtain ⟨v_1, e_v_1⟩ := hI.f r_h 2
  refine t_get (ci := 5) (v := .int v_1) hB hT (ro_ci r_h rfl) rfl 2 (by decide) k_205 e_v_1 dX5_fromOutside_2 ?_
  refine lv_iconst (v := 1) hx hb dX5_fromOutside_5 (by decide) ?_
  refine lv_iadd hx hb dX5_fromOutside_6 ?_
  refine lv_topi (fun z_2 ez_2 => ?_)
  refine t_put0 (ci := 5) (v := .int z_2) hB hT (ro_ci r_h rfl) (ro_n0 r_h (by decide)) rfl 2 (by decide) k_205 (Or.inl rfl) rfl rfl dX5_fromOutside_7 (fun H locs hT => ?_)
  have hI : Inv fr (sF g h 2 (.int z_2)) := hI.sF (fk r_h (⟨_, rfl⟩))
  have hM : Sm md_s_fromOutside g (sF g h 2 (.int z_2)) := hM.tr hE (Sm_sF (by rw [r_h]; rfl))
  have hE : Ex g (sF g h 2 (.int z_2)) := hE
  refine lv_iconst (v := 0) hx hb dX5_fromOutside_10 (by decide) ?_
  refine lv_istore (lv' := [(5, .int 0), (0, .ref h), (1, .int n), (2, .int x1), (3, .int x2), (4, .int x3)]) hx hb dX5_fromOutside_11 hl (by decide) rfl (fun ls hl => ?_)
  exact lt_s_fromOutside_a l D cI cZ cS cR N0 fr g h n x1 x2 x3 r_h l_n u_n hB hr 6 (sF g h 2 (.int z_2)) (0 : Int32) H locs ls hT hI hE hM (by decide) (by decide) (by have e0 := z0; omega) (lv_sub hl [0, 1, 2, 3, 4, 5] rfl)
def md_s_beginAt : Nat → Nat → Bool := fun r k => (r == 4 && k == 0) || (r == 4 && k == 2) || (r == 4 && k == 3) || (r == 4 && k == 4) || (r == 4 && k == 5) || (r == 4 && k == 10) || (r == 4 && k == 11) || (r == 4 && k == 14) || (r == 6 && k == 1) || (r == 6 && k == 2) || (r == 6 && k == 4)
theorem mdle_s_beginAt_s_wcopy {r k : Nat} (h : md_s_beginAt r k = false) : md_s_wcopy r k = false := by
  first | rfl | (simp only [md_s_beginAt, md_s_wcopy, Bool.or_eq_false_iff, Bool.and_eq_false_iff, beq_eq_false_iff_ne] at h ⊢; omega)
set_option maxHeartbeats 4000000 in
set_option maxRecDepth 100000 in
theorem s_beginAt (l : Launch) (D : va_G) (cI cZ cS cR : ClassId) (N0 : NT) (fr : Int32) (g : GS) (hI : Inv fr g) (h : Nat) (o : Nat) (r_h : g.1 h = 2) (r_o : g.1 o = 6) : Ty l D cI cZ cS cR N0 yX1_beginAt cX1_beginAt 2 none 2 0 0 [.ref h, .ref o] g (fun v g' => v = none ∧ Inv fr g' ∧ Ex g g' ∧ Sm md_s_beginAt g g') := by
  refine t_enter (by decide) (Nat.le_of_ble_eq_true rfl) ?_
  intro p e s m args below meth c ls H locs hB hr hin hl hT
  have hx := hB.1
  have hb := hB.2.1
  have hl : lv_has ls 2 [(0, .ref h), (1, .ref o)] := hl
  have hE : Ex g g := Ex.rf
  have hM : Sm md_s_beginAt g g := Sm.rf
  refine lv_aload_n hx hb dX1_beginAt_0 rfl (lv_at hl 0 rfl) ?_
  obtain ⟨v_1, e_v_1, r_v_1⟩ := hI.f r_h 0
  refine t_get (ci := 1) (v := .ref v_1) hB hT (ro_ci r_h rfl) rfl 0 (by decide) k_276 e_v_1 dX1_beginAt_1 ?_
  refine lv_aload_n hx hb dX1_beginAt_4 rfl (lv_at hl 1 rfl) ?_
  refine t_callV (n := 1) (ci := 5) (As := [.ref o]) (rest := []) hB hT hl.1 (s_wcopy l D cI cZ cS cR N0 fr g hI v_1 o r_v_1 r_o) (ro_ci r_v_1 rfl) rfl k_585 k_59 k_582 k_583 k_584 (by decide +kernel) ⟨(Nat.le_of_ble_eq_true rfl), (Nat.le_of_ble_eq_true rfl)⟩ rfl (Nat.le_of_ble_eq_true rfl) ⟨(Nat.le_of_ble_eq_true rfl), (Nat.le_of_ble_eq_true rfl)⟩ dX1_beginAt_5 (fun v g_2 H locs hp hT => ?_)
  obtain ⟨rfl, hI, x_4, m_3⟩ := hp
  have r_5 : g_2.1 h = 2 := (Ex.r x_4 r_h (by decide))
  have r_6 : g_2.1 o = 6 := (Ex.r x_4 r_o (by decide))
  have r_7 : g_2.1 v_1 = 6 := (Ex.r x_4 r_v_1 (by decide))
  have e_8 : g_2.2.1 h 0 = .ref v_1 := (Sm.v m_3 r_h (by decide) rfl e_v_1)
  have hM : Sm md_s_beginAt g g_2 := hM.tr hE (m_3.mo (fun r k h => mdle_s_beginAt_s_wcopy h))
  have hE : Ex g g_2 := hE.tr x_4
  refine W.eq (g2 := F0 m 8 ls []) rfl ?_
  exact t_vret hB hr hT (Nat.le_of_ble_eq_true rfl) (Nat.le_of_ble_eq_true rfl) dX1_beginAt_8 ⟨rfl, hI, hE, hM⟩
def md_s_runOnce : Nat → Nat → Bool := fun r k => (r == 2 && k == 6) || (r == 4 && k == 0) || (r == 4 && k == 2) || (r == 4 && k == 3) || (r == 4 && k == 4) || (r == 4 && k == 5) || (r == 4 && k == 10) || (r == 4 && k == 11) || (r == 4 && k == 14) || (r == 6 && k == 1) || (r == 6 && k == 2) || (r == 6 && k == 4) || (r == 6 && k == 5) || (r == 6 && k == 6) || (r == 6 && k == 7)
theorem mdle_s_runOnce_s_fromOutside {r k : Nat} (h : md_s_runOnce r k = false) : md_s_fromOutside r k = false := by
  first | rfl | (simp only [md_s_runOnce, md_s_fromOutside, Bool.or_eq_false_iff, Bool.and_eq_false_iff, beq_eq_false_iff_ne] at h ⊢; omega)
set_option maxHeartbeats 4000000 in
set_option maxRecDepth 100000 in
theorem lt_s_runOnce_a (l : Launch) (D : va_G) (cI cZ cS cR : ClassId) (N0 : NT) (fr : Int32) (g : GS) (h : Nat) (o : Nat) (r_h : g.1 h = 2) (r_o : g.1 o = 1) {p : Program} {e : Env} {s : State} {m : MethodId} {args : Array Value} {below : List Frame} {meth : Method} {c : Code} (hB : Tz p s m meth c args cX1_runOnce 3 RX1 D cI cZ cS cR N0) (hr : meth.sig.returnType = none)  : ∀ (kf : Nat) (g1 : GS) (i : Int32)  (H : Heap) (locs : List Loc) (ls : Array Slot), Tv D cI cZ cS cR N0 s.heap H locs g1 → Inv fr g1 → Ex g g1 → Sm md_s_runOnce g g1 → 0 ≤ i.toInt → i.toInt ≤ 6 → 6 ≤ i.toInt + kf → lv_has ls 3 [(2, .int i), (0, .ref h), (1, .ref o)] → W p l e (rmx 14 0 0) s m args below meth c H locs 0 0 (MQ below (tQ D cI cZ cS cR N0 (fun v g' => v = none ∧ Inv fr g' ∧ Ex g g' ∧ Sm md_s_runOnce g g')) args s 0 0 (fun q => N0.1 ≤ q)) (F0 m 13 ls []) := by
  have hx := hB.1
  have hb := hB.2.1
  intro kf
  induction kf using Nat.strongRecOn with
  | ind kf ih =>
    intro g1 i H locs ls hT hI hE hM l_i u_i hk hl
    have r1_h : g1.1 h = 2 := Ex.r hE r_h (by decide)
    have r1_o : g1.1 o = 1 := Ex.r hE r_o (by decide)
    refine lv_iload_n hx hb dX1_runOnce_13 rfl (lv_at hl 0 rfl) ?_
    refine lv_aload_n hx hb dX1_runOnce_14 rfl (lv_at hl 2 rfl) ?_
    obtain ⟨v_1, e_v_1, l_v_1, u_v_1⟩ := hI.f r1_o 3
    refine t_get (ci := 0) (v := .int v_1) hB hT (ro_ci r1_o rfl) rfl 3 (by decide) k_254 e_v_1 dX1_runOnce_15 ?_
    refine lv_icmp_ge (tgt := 72) hx hb dX1_runOnce_18 (by decide) (fun c_2 => ?_) (fun c_2 => ?_)
    · have c_2' : v_1.toInt ≤ i.toInt := i_le c_2 rfl rfl
      exact t_vret hB hr hT (Nat.le_of_ble_eq_true rfl) (Nat.le_of_ble_eq_true rfl) dX1_runOnce_72 ⟨rfl, hI, hE, hM⟩
    · have c_2' : i.toInt < v_1.toInt := i_nle c_2 rfl rfl
      refine lv_aload_n hx hb dX1_runOnce_21 rfl (lv_at hl 1 rfl) ?_
      obtain ⟨v_3, e_v_3, r_v_3, n_v_3⟩ := hI.f r1_h 3
      refine t_get (ci := 1) (v := .ref v_3) hB hT (ro_ci r1_h rfl) rfl 3 (by decide) k_280 e_v_3 dX1_runOnce_22 ?_
      refine lv_iload_n hx hb dX1_runOnce_25 rfl (lv_at hl 0 rfl) ?_
      refine lv_aload_n hx hb dX1_runOnce_26 rfl (lv_at hl 1 rfl) ?_
      obtain ⟨v_4, e_v_4, r_v_4⟩ := hI.f r1_h 1
      refine t_get (ci := 1) (v := .ref v_4) hB hT (ro_ci r1_h rfl) rfl 1 (by decide) k_278 e_v_4 dX1_runOnce_27 ?_
      refine lv_aload_n hx hb dX1_runOnce_30 rfl (lv_at hl 2 rfl) ?_
      obtain ⟨v_5, e_v_5, r_v_5, n_v_5⟩ := hI.f r1_o 0
      refine t_get (ci := 0) (v := .ref v_5) hB hT (ro_ci r1_o rfl) rfl 0 (by decide) k_244 e_v_5 dX1_runOnce_31 ?_
      refine lv_iload_n hx hb dX1_runOnce_34 rfl (lv_at hl 0 rfl) ?_
      have i_u_6 : vp_in i 6 := (i_in (n := 6) rfl (by omega) (by omega))
      refine t_iald hB hT (ro_in r_v_5 (by decide)) n_v_5 i_u_6 rfl dX1_runOnce_35 ?_
      have c_u_6 := hI.c r_v_5 n_v_5 (i_cl i_u_6)
      refine lv_topi (fun u_6 e_u_6 => ?_)
      obtain ⟨l_u_6, u_u_6⟩ := c_u_6
      rw [← e_u_6] at l_u_6 u_u_6
      refine lv_aload_n hx hb dX1_runOnce_36 rfl (lv_at hl 2 rfl) ?_
      obtain ⟨v_7, e_v_7, r_v_7, n_v_7⟩ := hI.f r1_o 1
      refine t_get (ci := 0) (v := .ref v_7) hB hT (ro_ci r1_o rfl) rfl 1 (by decide) k_248 e_v_7 dX1_runOnce_37 ?_
      refine lv_iload_n hx hb dX1_runOnce_40 rfl (lv_at hl 0 rfl) ?_
      have i_u_8 : vp_in i 6 := (i_in (n := 6) rfl (by omega) (by omega))
      refine t_iald hB hT (ro_in r_v_7 (by decide)) n_v_7 i_u_8 rfl dX1_runOnce_41 ?_
      refine lv_topi (fun u_8 e_u_8 => ?_)
      refine lv_aload_n hx hb dX1_runOnce_42 rfl (lv_at hl 2 rfl) ?_
      obtain ⟨v_9, e_v_9, r_v_9, n_v_9⟩ := hI.f r1_o 2
      refine t_get (ci := 0) (v := .ref v_9) hB hT (ro_ci r1_o rfl) rfl 2 (by decide) k_251 e_v_9 dX1_runOnce_43 ?_
      refine lv_iload_n hx hb dX1_runOnce_46 rfl (lv_at hl 0 rfl) ?_
      have i_u_10 : vp_in i 6 := (i_in (n := 6) rfl (by omega) (by omega))
      refine t_iald hB hT (ro_in r_v_9 (by decide)) n_v_9 i_u_10 rfl dX1_runOnce_47 ?_
      refine lv_topi (fun u_10 e_u_10 => ?_)
      refine lv_iconst (v := 0) hx hb dX1_runOnce_48 (by decide) ?_
      refine t_callV (n := 4) (ci := 5) (As := [.int u_6, .int u_8, .int u_10, .int 0]) (rest := [.int i, .ref v_3]) hB hT hl.1 (s_fromOutside l D cI cZ cS cR N0 fr g1 hI v_4 u_6 u_8 u_10 0 r_v_4 (by omega) (by omega)) (ro_ci r_v_4 rfl) rfl k_500 k_59 k_594 k_498 k_499 (by decide +kernel) ⟨(Nat.le_of_ble_eq_true rfl), (Nat.le_of_ble_eq_true rfl)⟩ rfl (Nat.le_of_ble_eq_true rfl) ⟨(Nat.le_of_ble_eq_true rfl), (Nat.le_of_ble_eq_true rfl)⟩ dX1_runOnce_49 (fun v g_11 H locs hp hT => ?_)
      obtain ⟨r_12, rfl, hI, x_14, m_13⟩ := hp
      have r_15 : g_11.1 h = 2 := (Ex.r x_14 r1_h (by decide))
      have r_16 : g_11.1 o = 1 := (Ex.r x_14 r1_o (by decide))
      have r_17 : g_11.1 v_3 = 20 := (Ex.r x_14 r_v_3 (by decide))
      have r_18 : g_11.1 v_4 = 6 := (Ex.r x_14 r_v_4 (by decide))
      have r_19 : g_11.1 v_5 = 21 := (Ex.r x_14 r_v_5 (by decide))
      have r_20 : g_11.1 v_7 = 20 := (Ex.r x_14 r_v_7 (by decide))
      have r_21 : g_11.1 v_9 = 20 := (Ex.r x_14 r_v_9 (by decide))
      have n_22 : g_11.2.2.1 v_3 = 6 := (Ex.n x_14 r_v_3 (by decide) n_v_3)
      have n_23 : g_11.2.2.1 v_5 = 6 := (Ex.n x_14 r_v_5 (by decide) n_v_5)
      have n_24 : g_11.2.2.1 v_7 = 6 := (Ex.n x_14 r_v_7 (by decide) n_v_7)
      have n_25 : g_11.2.2.1 v_9 = 6 := (Ex.n x_14 r_v_9 (by decide) n_v_9)
      have e_26 : g_11.2.1 o 3 = .int v_1 := (Sm.v m_13 r1_o (by decide) rfl e_v_1)
      have e_27 : g_11.2.1 h 3 = .ref v_3 := (Sm.v m_13 r1_h (by decide) rfl e_v_3)
      have e_28 : g_11.2.1 h 1 = .ref v_4 := (Sm.v m_13 r1_h (by decide) rfl e_v_4)
      have e_29 : g_11.2.1 o 0 = .ref v_5 := (Sm.v m_13 r1_o (by decide) rfl e_v_5)
      have e_30 : g_11.2.1 o 1 = .ref v_7 := (Sm.v m_13 r1_o (by decide) rfl e_v_7)
      have e_31 : g_11.2.1 o 2 = .ref v_9 := (Sm.v m_13 r1_o (by decide) rfl e_v_9)
      have hM : Sm md_s_runOnce g g_11 := hM.tr hE (m_13.mo (fun r k h => mdle_s_runOnce_s_fromOutside h))
      have hE : Ex g g_11 := hE.tr x_14
      refine W.eq (g2 := F0 m 52 ls [.int r_12, .int i, .ref v_3]) rfl ?_
      have i_32 : vp_in i 6 := (i_in (n := 6) rfl (by omega) (by omega))
      refine t_iast hB hT (ro_in r_17 (by decide)) n_22 i_32 dX1_runOnce_52 (fun H locs hT => ?_)
      have hI : Inv fr (sC g_11 v_3 i.toNatClampNeg r_12) := hI.sC (ck r_17 trivial)
      have hM : Sm md_s_runOnce g (sC g_11 v_3 i.toNatClampNeg r_12) := hM
      have hE : Ex g (sC g_11 v_3 i.toNatClampNeg r_12) := hE
      refine lv_aload_n hx hb dX1_runOnce_53 rfl (lv_at hl 1 rfl) ?_
      obtain ⟨v_33, e_v_33, r_v_33, n_v_33⟩ := hI.f r_15 4
      refine t_get (ci := 1) (v := .ref v_33) hB hT (ro_ci r_15 rfl) rfl 4 (by decide) k_281 e_v_33 dX1_runOnce_54 ?_
      refine lv_iload_n hx hb dX1_runOnce_57 rfl (lv_at hl 0 rfl) ?_
      refine lv_aload_n hx hb dX1_runOnce_58 rfl (lv_at hl 1 rfl) ?_
      refine t_get (ci := 1) (v := .ref v_4) hB hT (ro_ci r_15 rfl) rfl 1 (by decide) k_278 e_28 dX1_runOnce_59 ?_
      obtain ⟨v_34, e_v_34⟩ := hI.f r_18 5
      refine t_get (ci := 5) (v := .int v_34) hB hT (ro_ci r_18 rfl) rfl 5 (by decide) k_214 e_v_34 dX1_runOnce_62 ?_
      have i_35 : vp_in i 6 := (i_in (n := 6) rfl (by omega) (by omega))
      refine t_iast hB hT (ro_in r_v_33 (by decide)) n_v_33 i_35 dX1_runOnce_65 (fun H locs hT => ?_)
      have hI : Inv fr (sC (sC g_11 v_3 i.toNatClampNeg r_12) v_33 i.toNatClampNeg v_34) := hI.sC (ck r_v_33 trivial)
      have hM : Sm md_s_runOnce g (sC (sC g_11 v_3 i.toNatClampNeg r_12) v_33 i.toNatClampNeg v_34) := hM
      have hE : Ex g (sC (sC g_11 v_3 i.toNatClampNeg r_12) v_33 i.toNatClampNeg v_34) := hE
      obtain ⟨z_36, ez_36⟩ : ∃ z : Int32, z = i + 1 := ⟨_, rfl⟩
      have e_z_36 : z_36.toInt = i.toInt + 1 := i_add ez_36 rfl (by decide) (by omega) (by omega)
      refine lv_iinc (v := z_36) (lv' := [(2, .int z_36), (0, .ref h), (1, .ref o)]) hx hb dX1_runOnce_66 hl (k := 0) rfl (by rw [ez_36]; rfl) (by decide) rfl (fun ls hl => ?_)
      refine lv_goto (tgt := 13) hx hb dX1_runOnce_69 (by decide) ?_
      exact ih (kf - 1) (by omega) (sC (sC g_11 v_3 i.toNatClampNeg r_12) v_33 i.toNatClampNeg v_34) z_36 H locs ls hT hI hE hM (by omega) (by omega) (by have e0 := z0; omega) (lv_sub hl [0, 1, 2] rfl)
theorem mdle_s_runOnce_s_wcopy {r k : Nat} (h : md_s_runOnce r k = false) : md_s_wcopy r k = false := by
  first | rfl | (simp only [md_s_runOnce, md_s_wcopy, Bool.or_eq_false_iff, Bool.and_eq_false_iff, beq_eq_false_iff_ne] at h ⊢; omega)
set_option maxHeartbeats 4000000 in
set_option maxRecDepth 100000 in
theorem s_runOnce (l : Launch) (D : va_G) (cI cZ cS cR : ClassId) (N0 : NT) (fr : Int32) (g : GS) (hI : Inv fr g) (h : Nat) (o : Nat) (r_h : g.1 h = 2) (r_o : g.1 o = 1) : Ty l D cI cZ cS cR N0 yX1_runOnce cX1_runOnce 3 none 14 0 0 [.ref h, .ref o] g (fun v g' => v = none ∧ Inv fr g' ∧ Ex g g' ∧ Sm md_s_runOnce g g') := by
  refine t_enter (by decide) (Nat.le_of_ble_eq_true rfl) ?_
  intro p e s m args below meth c ls H locs hB hr hin hl hT
  have hx := hB.1
  have hb := hB.2.1
  have hl : lv_has ls 3 [(0, .ref h), (1, .ref o)] := hl
  have hE : Ex g g := Ex.rf
  have hM : Sm md_s_runOnce g g := Sm.rf
  refine lv_aload_n hx hb dX1_runOnce_0 rfl (lv_at hl 0 rfl) ?_
  obtain ⟨v_1, e_v_1, r_v_1⟩ := hI.f r_h 1
  refine t_get (ci := 1) (v := .ref v_1) hB hT (ro_ci r_h rfl) rfl 1 (by decide) k_278 e_v_1 dX1_runOnce_1 ?_
  refine lv_aload_n hx hb dX1_runOnce_4 rfl (lv_at hl 0 rfl) ?_
  obtain ⟨v_2, e_v_2, r_v_2⟩ := hI.f r_h 0
  refine t_get (ci := 1) (v := .ref v_2) hB hT (ro_ci r_h rfl) rfl 0 (by decide) k_276 e_v_2 dX1_runOnce_5 ?_
  refine t_callV (n := 1) (ci := 5) (As := [.ref v_2]) (rest := []) hB hT hl.1 (s_wcopy l D cI cZ cS cR N0 fr g hI v_1 v_2 r_v_1 r_v_2) (ro_ci r_v_1 rfl) rfl k_585 k_59 k_582 k_583 k_584 (by decide +kernel) ⟨(Nat.le_of_ble_eq_true rfl), (Nat.le_of_ble_eq_true rfl)⟩ rfl (Nat.le_of_ble_eq_true rfl) ⟨(Nat.le_of_ble_eq_true rfl), (Nat.le_of_ble_eq_true rfl)⟩ dX1_runOnce_8 (fun v g_3 H locs hp hT => ?_)
  obtain ⟨rfl, hI, x_5, m_4⟩ := hp
  have r_6 : g_3.1 h = 2 := (Ex.r x_5 r_h (by decide))
  have r_7 : g_3.1 o = 1 := (Ex.r x_5 r_o (by decide))
  have r_8 : g_3.1 v_1 = 6 := (Ex.r x_5 r_v_1 (by decide))
  have r_9 : g_3.1 v_2 = 6 := (Ex.r x_5 r_v_2 (by decide))
  have e_10 : g_3.2.1 h 1 = .ref v_1 := (Sm.v m_4 r_h (by decide) rfl e_v_1)
  have e_11 : g_3.2.1 h 0 = .ref v_2 := (Sm.v m_4 r_h (by decide) rfl e_v_2)
  have hM : Sm md_s_runOnce g g_3 := hM.tr hE (m_4.mo (fun r k h => mdle_s_runOnce_s_wcopy h))
  have hE : Ex g g_3 := hE.tr x_5
  refine W.eq (g2 := F0 m 11 ls []) rfl ?_
  refine lv_iconst (v := 0) hx hb dX1_runOnce_11 (by decide) ?_
  refine lv_istore_n (lv' := [(2, .int 0), (0, .ref h), (1, .ref o)]) hx hb dX1_runOnce_12 rfl hl (by decide) rfl (fun ls hl => ?_)
  exact lt_s_runOnce_a l D cI cZ cS cR N0 fr g h o r_h r_o hB hr 6 g_3 (0 : Int32) H locs ls hT hI hE hM (by decide) (by decide) (by have e0 := z0; omega) (lv_sub hl [0, 1, 2] rfl)
def md_s_isStill : Nat → Nat → Bool := fun r k => (r == 2 && k == 6) || (r == 4 && k == 0) || (r == 4 && k == 2) || (r == 4 && k == 3) || (r == 4 && k == 4) || (r == 4 && k == 5) || (r == 4 && k == 10) || (r == 4 && k == 11) || (r == 4 && k == 14) || (r == 6 && k == 1) || (r == 6 && k == 2) || (r == 6 && k == 4) || (r == 6 && k == 5) || (r == 6 && k == 6) || (r == 6 && k == 7)
theorem mdle_s_isStill_s_fromOutside {r k : Nat} (h : md_s_isStill r k = false) : md_s_fromOutside r k = false := by
  first | rfl | (simp only [md_s_isStill, md_s_fromOutside, Bool.or_eq_false_iff, Bool.and_eq_false_iff, beq_eq_false_iff_ne] at h ⊢; omega)
theorem mdle_s_isStill_s_wcounts {r k : Nat} (h : md_s_isStill r k = false) : md_s_wcounts r k = false := by
  first | rfl | (simp only [md_s_isStill, md_s_wcounts, Bool.or_eq_false_iff, Bool.and_eq_false_iff, beq_eq_false_iff_ne] at h ⊢; omega)
theorem mdle_s_isStill_s_wstores {r k : Nat} (h : md_s_isStill r k = false) : md_s_wstores r k = false := by
  first | rfl | (simp only [md_s_isStill, md_s_wstores, Bool.or_eq_false_iff, Bool.and_eq_false_iff, beq_eq_false_iff_ne] at h ⊢; omega)
set_option maxHeartbeats 4000000 in
set_option maxRecDepth 100000 in
theorem lt_s_isStill_a (l : Launch) (D : va_G) (cI cZ cS cR : ClassId) (N0 : NT) (fr : Int32) (g : GS) (h : Nat) (o : Nat) (r_h : g.1 h = 2) (r_o : g.1 o = 9) {p : Program} {e : Env} {s : State} {m : MethodId} {args : Array Value} {below : List Frame} {meth : Method} {c : Code} (hB : Tz p s m meth c args cX1_isStill 3 RX1 D cI cZ cS cR N0) (hr : meth.sig.returnType = (some .boolean))  : ∀ (kf : Nat) (g1 : GS) (i : Int32)  (H : Heap) (locs : List Loc) (ls : Array Slot), Tv D cI cZ cS cR N0 s.heap H locs g1 → Inv fr g1 → Ex g g1 → Sm md_s_isStill g g1 → 0 ≤ i.toInt → i.toInt ≤ 20 → 20 ≤ i.toInt + kf → lv_has ls 3 [(2, .int i), (0, .ref h), (1, .ref o)] → W p l e (rmx 14 0 0) s m args below meth c H locs 0 0 (MQ below (tQ D cI cZ cS cR N0 (fun v g' => ∃ (r : Int32), v = some (.int r) ∧ Inv fr g' ∧ Ex g g' ∧ Sm md_s_isStill g g' ∧ (r = 1 ∨ r = 0))) args s 0 0 (fun q => N0.1 ≤ q)) (F0 m 13 ls []) := by
  have hx := hB.1
  have hb := hB.2.1
  intro kf
  induction kf using Nat.strongRecOn with
  | ind kf ih =>
    intro g1 i H locs ls hT hI hE hM l_i u_i hk hl
    have r1_h : g1.1 h = 2 := Ex.r hE r_h (by decide)
    have r1_o : g1.1 o = 9 := Ex.r hE r_o (by decide)
    refine lv_iload_n hx hb dX1_isStill_13 rfl (lv_at hl 0 rfl) ?_
    refine lv_aload_n hx hb dX1_isStill_14 rfl (lv_at hl 2 rfl) ?_
    obtain ⟨v_1, e_v_1, l_v_1, u_v_1⟩ := hI.f r1_o 3
    refine t_get (ci := 0) (v := .int v_1) hB hT (ro_ci r1_o rfl) rfl 3 (by decide) k_254 e_v_1 dX1_isStill_15 ?_
    refine lv_icmp_ge (tgt := 54) hx hb dX1_isStill_18 (by decide) (fun c_2 => ?_) (fun c_2 => ?_)
    · have c_2' : v_1.toInt ≤ i.toInt := i_le c_2 rfl rfl
      refine lv_aload_n hx hb dX1_isStill_54 rfl (lv_at hl 1 rfl) ?_
      obtain ⟨v_3, e_v_3, r_v_3⟩ := hI.f r1_h 2
      refine t_get (ci := 1) (v := .ref v_3) hB hT (ro_ci r1_h rfl) rfl 2 (by decide) k_279 e_v_3 dX1_isStill_55 ?_
      obtain ⟨v_4, e_v_4⟩ := hI.f r_v_3 4
      refine t_get (ci := 5) (v := .int v_4) hB hT (ro_ci r_v_3 rfl) rfl 4 (by decide) k_212 e_v_4 dX1_isStill_58 ?_
      refine lv_if_ne (tgt := 96) hx hb dX1_isStill_61 (by decide) (fun c_5 => ?_) (fun c_5 => ?_)
      · have c_5' : v_4.toInt ≠ 0 := i_ne c_5 rfl (by decide)
        refine lv_iconst (v := 0) hx hb dX1_isStill_96 (by decide) ?_
        exact t_zret hB hr rfl hT (Nat.le_of_ble_eq_true rfl) (Nat.le_of_ble_eq_true rfl) dX1_isStill_97 ⟨0, rfl, hI, hE, hM, (Or.inr rfl)⟩
      · have c_5' : v_4.toInt = 0 := i_eq c_5 rfl (by decide)
        refine lv_aload_n hx hb dX1_isStill_64 rfl (lv_at hl 1 rfl) ?_
        refine t_get (ci := 1) (v := .ref v_3) hB hT (ro_ci r1_h rfl) rfl 2 (by decide) k_279 e_v_3 dX1_isStill_65 ?_
        refine lv_aload_n hx hb dX1_isStill_68 rfl (lv_at hl 1 rfl) ?_
        obtain ⟨v_6, e_v_6, r_v_6⟩ := hI.f r1_h 0
        refine t_get (ci := 1) (v := .ref v_6) hB hT (ro_ci r1_h rfl) rfl 0 (by decide) k_276 e_v_6 dX1_isStill_69 ?_
        refine t_callV (n := 1) (ci := 5) (As := [.ref v_6]) (rest := []) hB hT hl.1 (s_wstores l D cI cZ cS cR N0 fr g1 hI v_3 v_6 r_v_3 r_v_6) (ro_ci r_v_3 rfl) rfl k_606 k_59 k_603 k_604 k_605 (by decide +kernel) ⟨(Nat.le_of_ble_eq_true rfl), (Nat.le_of_ble_eq_true rfl)⟩ rfl (Nat.le_of_ble_eq_true rfl) ⟨(Nat.le_of_ble_eq_true rfl), (Nat.le_of_ble_eq_true rfl)⟩ dX1_isStill_72 (fun v g_7 H locs hp hT => ?_)
        obtain ⟨r_8, rfl, hI, x_11, m_10, f_9⟩ := hp
        have r_12 : g_7.1 h = 2 := (Ex.r x_11 r1_h (by decide))
        have r_13 : g_7.1 o = 9 := (Ex.r x_11 r1_o (by decide))
        have r_14 : g_7.1 v_3 = 6 := (Ex.r x_11 r_v_3 (by decide))
        have r_15 : g_7.1 v_6 = 6 := (Ex.r x_11 r_v_6 (by decide))
        have e_16 : g_7.2.1 o 3 = .int v_1 := (Sm.v m_10 r1_o (by decide) rfl e_v_1)
        have e_17 : g_7.2.1 h 2 = .ref v_3 := (Sm.v m_10 r1_h (by decide) rfl e_v_3)
        have e_18 : g_7.2.1 v_3 4 = .int v_4 := (Sm.v m_10 r_v_3 (by decide) rfl e_v_4)
        have e_19 : g_7.2.1 h 0 = .ref v_6 := (Sm.v m_10 r1_h (by decide) rfl e_v_6)
        have hM : Sm md_s_isStill g g_7 := hM.tr hE (m_10.mo (fun r k h => mdle_s_isStill_s_wstores h))
        have hE : Ex g g_7 := hE.tr x_11
        refine W.eq (g2 := F0 m 75 ls [.int r_8]) rfl ?_
        rcases f_9 with rfl | rfl
        · refine W.eq (g2 := F0 m 75 ls [.int 1]) rfl ?_
          refine lv_if_eq (tgt := 96) hx hb dX1_isStill_75 (by decide) (fun c_ => absurd c_ (by decide)) (fun c_ => ?_)
          refine lv_aload_n hx hb dX1_isStill_78 rfl (lv_at hl 1 rfl) ?_
          refine t_get (ci := 1) (v := .ref v_3) hB hT (ro_ci r_12 rfl) rfl 2 (by decide) k_279 e_17 dX1_isStill_79 ?_
          refine lv_aload_n hx hb dX1_isStill_82 rfl (lv_at hl 1 rfl) ?_
          refine t_get (ci := 1) (v := .ref v_6) hB hT (ro_ci r_12 rfl) rfl 0 (by decide) k_276 e_19 dX1_isStill_83 ?_
          refine t_callV (n := 1) (ci := 5) (As := [.ref v_6]) (rest := []) hB hT hl.1 (s_wcounts l D cI cZ cS cR N0 fr g_7 hI v_3 v_6 r_14 r_15) (ro_ci r_14 rfl) rfl k_614 k_59 k_611 k_612 k_613 (by decide +kernel) ⟨(Nat.le_of_ble_eq_true rfl), (Nat.le_of_ble_eq_true rfl)⟩ rfl (Nat.le_of_ble_eq_true rfl) ⟨(Nat.le_of_ble_eq_true rfl), (Nat.le_of_ble_eq_true rfl)⟩ dX1_isStill_86 (fun v g_20 H locs hp hT => ?_)
          obtain ⟨r_21, rfl, hI, x_24, m_23, f_22⟩ := hp
          have r_25 : g_20.1 h = 2 := (Ex.r x_24 r_12 (by decide))
          have r_26 : g_20.1 o = 9 := (Ex.r x_24 r_13 (by decide))
          have r_27 : g_20.1 v_3 = 6 := (Ex.r x_24 r_14 (by decide))
          have r_28 : g_20.1 v_6 = 6 := (Ex.r x_24 r_15 (by decide))
          have e_29 : g_20.2.1 o 3 = .int v_1 := (Sm.v m_23 r_13 (by decide) rfl e_16)
          have e_30 : g_20.2.1 h 2 = .ref v_3 := (Sm.v m_23 r_12 (by decide) rfl e_17)
          have e_31 : g_20.2.1 v_3 4 = .int v_4 := (Sm.v m_23 r_14 (by decide) rfl e_18)
          have e_32 : g_20.2.1 h 0 = .ref v_6 := (Sm.v m_23 r_12 (by decide) rfl e_19)
          have hM : Sm md_s_isStill g g_20 := hM.tr hE (m_23.mo (fun r k h => mdle_s_isStill_s_wcounts h))
          have hE : Ex g g_20 := hE.tr x_24
          refine W.eq (g2 := F0 m 89 ls [.int r_21]) rfl ?_
          rcases f_22 with rfl | rfl
          · refine W.eq (g2 := F0 m 89 ls [.int 1]) rfl ?_
            refine lv_if_eq (tgt := 96) hx hb dX1_isStill_89 (by decide) (fun c_ => absurd c_ (by decide)) (fun c_ => ?_)
            refine lv_iconst (v := 1) hx hb dX1_isStill_92 (by decide) ?_
            refine lv_goto (tgt := 97) hx hb dX1_isStill_93 (by decide) ?_
            exact t_zret hB hr rfl hT (Nat.le_of_ble_eq_true rfl) (Nat.le_of_ble_eq_true rfl) dX1_isStill_97 ⟨1, rfl, hI, hE, hM, (Or.inl rfl)⟩
          · refine W.eq (g2 := F0 m 89 ls [.int 0]) rfl ?_
            refine lv_if_eq (tgt := 96) hx hb dX1_isStill_89 (by decide) (fun c_ => ?_) (fun c_ => absurd (by decide) c_)
            refine lv_iconst (v := 0) hx hb dX1_isStill_96 (by decide) ?_
            exact t_zret hB hr rfl hT (Nat.le_of_ble_eq_true rfl) (Nat.le_of_ble_eq_true rfl) dX1_isStill_97 ⟨0, rfl, hI, hE, hM, (Or.inr rfl)⟩
        · refine W.eq (g2 := F0 m 75 ls [.int 0]) rfl ?_
          refine lv_if_eq (tgt := 96) hx hb dX1_isStill_75 (by decide) (fun c_ => ?_) (fun c_ => absurd (by decide) c_)
          refine lv_iconst (v := 0) hx hb dX1_isStill_96 (by decide) ?_
          exact t_zret hB hr rfl hT (Nat.le_of_ble_eq_true rfl) (Nat.le_of_ble_eq_true rfl) dX1_isStill_97 ⟨0, rfl, hI, hE, hM, (Or.inr rfl)⟩
    · have c_2' : i.toInt < v_1.toInt := i_nle c_2 rfl rfl
      refine lv_aload_n hx hb dX1_isStill_21 rfl (lv_at hl 1 rfl) ?_
      obtain ⟨v_33, e_v_33, r_v_33⟩ := hI.f r1_h 2
      refine t_get (ci := 1) (v := .ref v_33) hB hT (ro_ci r1_h rfl) rfl 2 (by decide) k_279 e_v_33 dX1_isStill_22 ?_
      refine lv_aload_n hx hb dX1_isStill_25 rfl (lv_at hl 2 rfl) ?_
      obtain ⟨v_34, e_v_34, r_v_34, n_v_34⟩ := hI.f r1_o 0
      refine t_get (ci := 0) (v := .ref v_34) hB hT (ro_ci r1_o rfl) rfl 0 (by decide) k_244 e_v_34 dX1_isStill_26 ?_
      refine lv_iload_n hx hb dX1_isStill_29 rfl (lv_at hl 0 rfl) ?_
      have i_u_35 : vp_in i 20 := (i_in (n := 20) rfl (by omega) (by omega))
      refine t_iald hB hT (ro_in r_v_34 (by decide)) n_v_34 i_u_35 rfl dX1_isStill_30 ?_
      have c_u_35 := hI.c r_v_34 n_v_34 (i_cl i_u_35)
      refine lv_topi (fun u_35 e_u_35 => ?_)
      obtain ⟨l_u_35, u_u_35⟩ := c_u_35
      rw [← e_u_35] at l_u_35 u_u_35
      refine lv_aload_n hx hb dX1_isStill_31 rfl (lv_at hl 2 rfl) ?_
      obtain ⟨v_36, e_v_36, r_v_36, n_v_36⟩ := hI.f r1_o 1
      refine t_get (ci := 0) (v := .ref v_36) hB hT (ro_ci r1_o rfl) rfl 1 (by decide) k_248 e_v_36 dX1_isStill_32 ?_
      refine lv_iload_n hx hb dX1_isStill_35 rfl (lv_at hl 0 rfl) ?_
      have i_u_37 : vp_in i 20 := (i_in (n := 20) rfl (by omega) (by omega))
      refine t_iald hB hT (ro_in r_v_36 (by decide)) n_v_36 i_u_37 rfl dX1_isStill_36 ?_
      refine lv_topi (fun u_37 e_u_37 => ?_)
      refine lv_aload_n hx hb dX1_isStill_37 rfl (lv_at hl 2 rfl) ?_
      obtain ⟨v_38, e_v_38, r_v_38, n_v_38⟩ := hI.f r1_o 2
      refine t_get (ci := 0) (v := .ref v_38) hB hT (ro_ci r1_o rfl) rfl 2 (by decide) k_251 e_v_38 dX1_isStill_38 ?_
      refine lv_iload_n hx hb dX1_isStill_41 rfl (lv_at hl 0 rfl) ?_
      have i_u_39 : vp_in i 20 := (i_in (n := 20) rfl (by omega) (by omega))
      refine t_iald hB hT (ro_in r_v_38 (by decide)) n_v_38 i_u_39 rfl dX1_isStill_42 ?_
      refine lv_topi (fun u_39 e_u_39 => ?_)
      refine lv_iconst (v := 0) hx hb dX1_isStill_43 (by decide) ?_
      refine t_callV (n := 4) (ci := 5) (As := [.int u_35, .int u_37, .int u_39, .int 0]) (rest := []) hB hT hl.1 (s_fromOutside l D cI cZ cS cR N0 fr g1 hI v_33 u_35 u_37 u_39 0 r_v_33 (by omega) (by omega)) (ro_ci r_v_33 rfl) rfl k_500 k_59 k_594 k_498 k_499 (by decide +kernel) ⟨(Nat.le_of_ble_eq_true rfl), (Nat.le_of_ble_eq_true rfl)⟩ rfl (Nat.le_of_ble_eq_true rfl) ⟨(Nat.le_of_ble_eq_true rfl), (Nat.le_of_ble_eq_true rfl)⟩ dX1_isStill_44 (fun v g_40 H locs hp hT => ?_)
      obtain ⟨r_41, rfl, hI, x_43, m_42⟩ := hp
      have r_44 : g_40.1 h = 2 := (Ex.r x_43 r1_h (by decide))
      have r_45 : g_40.1 o = 9 := (Ex.r x_43 r1_o (by decide))
      have r_46 : g_40.1 v_33 = 6 := (Ex.r x_43 r_v_33 (by decide))
      have r_47 : g_40.1 v_34 = 21 := (Ex.r x_43 r_v_34 (by decide))
      have r_48 : g_40.1 v_36 = 20 := (Ex.r x_43 r_v_36 (by decide))
      have r_49 : g_40.1 v_38 = 20 := (Ex.r x_43 r_v_38 (by decide))
      have n_50 : g_40.2.2.1 v_34 = 20 := (Ex.n x_43 r_v_34 (by decide) n_v_34)
      have n_51 : g_40.2.2.1 v_36 = 20 := (Ex.n x_43 r_v_36 (by decide) n_v_36)
      have n_52 : g_40.2.2.1 v_38 = 20 := (Ex.n x_43 r_v_38 (by decide) n_v_38)
      have e_53 : g_40.2.1 o 3 = .int v_1 := (Sm.v m_42 r1_o (by decide) rfl e_v_1)
      have e_54 : g_40.2.1 h 2 = .ref v_33 := (Sm.v m_42 r1_h (by decide) rfl e_v_33)
      have e_55 : g_40.2.1 o 0 = .ref v_34 := (Sm.v m_42 r1_o (by decide) rfl e_v_34)
      have e_56 : g_40.2.1 o 1 = .ref v_36 := (Sm.v m_42 r1_o (by decide) rfl e_v_36)
      have e_57 : g_40.2.1 o 2 = .ref v_38 := (Sm.v m_42 r1_o (by decide) rfl e_v_38)
      have hM : Sm md_s_isStill g g_40 := hM.tr hE (m_42.mo (fun r k h => mdle_s_isStill_s_fromOutside h))
      have hE : Ex g g_40 := hE.tr x_43
      refine W.eq (g2 := F0 m 47 ls [.int r_41]) rfl ?_
      refine lv_pop hx hb dX1_isStill_47 rfl ?_
      obtain ⟨z_58, ez_58⟩ : ∃ z : Int32, z = i + 1 := ⟨_, rfl⟩
      have e_z_58 : z_58.toInt = i.toInt + 1 := i_add ez_58 rfl (by decide) (by omega) (by omega)
      refine lv_iinc (v := z_58) (lv' := [(2, .int z_58), (0, .ref h), (1, .ref o)]) hx hb dX1_isStill_48 hl (k := 0) rfl (by rw [ez_58]; rfl) (by decide) rfl (fun ls hl => ?_)
      refine lv_goto (tgt := 13) hx hb dX1_isStill_51 (by decide) ?_
      exact ih (kf - 1) (by omega) g_40 z_58 H locs ls hT hI hE hM (by omega) (by omega) (by have e0 := z0; omega) (lv_sub hl [0, 1, 2] rfl)
theorem mdle_s_isStill_s_wcopy {r k : Nat} (h : md_s_isStill r k = false) : md_s_wcopy r k = false := by
  first | rfl | (simp only [md_s_isStill, md_s_wcopy, Bool.or_eq_false_iff, Bool.and_eq_false_iff, beq_eq_false_iff_ne] at h ⊢; omega)
set_option maxHeartbeats 4000000 in
set_option maxRecDepth 100000 in
theorem s_isStill (l : Launch) (D : va_G) (cI cZ cS cR : ClassId) (N0 : NT) (fr : Int32) (g : GS) (hI : Inv fr g) (h : Nat) (o : Nat) (r_h : g.1 h = 2) (r_o : g.1 o = 9) : Ty l D cI cZ cS cR N0 yX1_isStill cX1_isStill 3 (some .boolean) 14 0 0 [.ref h, .ref o] g (fun v g' => ∃ (r : Int32), v = some (.int r) ∧ Inv fr g' ∧ Ex g g' ∧ Sm md_s_isStill g g' ∧ (r = 1 ∨ r = 0)) := by
  refine t_enter (by decide) (Nat.le_of_ble_eq_true rfl) ?_
  intro p e s m args below meth c ls H locs hB hr hin hl hT
  have hx := hB.1
  have hb := hB.2.1
  have hl : lv_has ls 3 [(0, .ref h), (1, .ref o)] := hl
  have hE : Ex g g := Ex.rf
  have hM : Sm md_s_isStill g g := Sm.rf
  refine lv_aload_n hx hb dX1_isStill_0 rfl (lv_at hl 0 rfl) ?_
  obtain ⟨v_1, e_v_1, r_v_1⟩ := hI.f r_h 2
  refine t_get (ci := 1) (v := .ref v_1) hB hT (ro_ci r_h rfl) rfl 2 (by decide) k_279 e_v_1 dX1_isStill_1 ?_
  refine lv_aload_n hx hb dX1_isStill_4 rfl (lv_at hl 0 rfl) ?_
  obtain ⟨v_2, e_v_2, r_v_2⟩ := hI.f r_h 0
  refine t_get (ci := 1) (v := .ref v_2) hB hT (ro_ci r_h rfl) rfl 0 (by decide) k_276 e_v_2 dX1_isStill_5 ?_
  refine t_callV (n := 1) (ci := 5) (As := [.ref v_2]) (rest := []) hB hT hl.1 (s_wcopy l D cI cZ cS cR N0 fr g hI v_1 v_2 r_v_1 r_v_2) (ro_ci r_v_1 rfl) rfl k_585 k_59 k_582 k_583 k_584 (by decide +kernel) ⟨(Nat.le_of_ble_eq_true rfl), (Nat.le_of_ble_eq_true rfl)⟩ rfl (Nat.le_of_ble_eq_true rfl) ⟨(Nat.le_of_ble_eq_true rfl), (Nat.le_of_ble_eq_true rfl)⟩ dX1_isStill_8 (fun v g_3 H locs hp hT => ?_)
  obtain ⟨rfl, hI, x_5, m_4⟩ := hp
  have r_6 : g_3.1 h = 2 := (Ex.r x_5 r_h (by decide))
  have r_7 : g_3.1 o = 9 := (Ex.r x_5 r_o (by decide))
  have r_8 : g_3.1 v_1 = 6 := (Ex.r x_5 r_v_1 (by decide))
  have r_9 : g_3.1 v_2 = 6 := (Ex.r x_5 r_v_2 (by decide))
  have e_10 : g_3.2.1 h 2 = .ref v_1 := (Sm.v m_4 r_h (by decide) rfl e_v_1)
  have e_11 : g_3.2.1 h 0 = .ref v_2 := (Sm.v m_4 r_h (by decide) rfl e_v_2)
  have hM : Sm md_s_isStill g g_3 := hM.tr hE (m_4.mo (fun r k h => mdle_s_isStill_s_wcopy h))
  have hE : Ex g g_3 := hE.tr x_5
  refine W.eq (g2 := F0 m 11 ls []) rfl ?_
  refine lv_iconst (v := 0) hx hb dX1_isStill_11 (by decide) ?_
  refine lv_istore_n (lv' := [(2, .int 0), (0, .ref h), (1, .ref o)]) hx hb dX1_isStill_12 rfl hl (by decide) rfl (fun ls hl => ?_)
  exact lt_s_isStill_a l D cI cZ cS cR N0 fr g h o r_h r_o hB hr 20 g_3 (0 : Int32) H locs ls hT hI hE hM (by decide) (by decide) (by have e0 := z0; omega) (lv_sub hl [0, 1, 2] rfl)
def md_s_runTwice : Nat → Nat → Bool := fun r k => (r == 2 && k == 6) || (r == 4 && k == 0) || (r == 4 && k == 2) || (r == 4 && k == 3) || (r == 4 && k == 4) || (r == 4 && k == 5) || (r == 4 && k == 10) || (r == 4 && k == 11) || (r == 4 && k == 14) || (r == 6 && k == 1) || (r == 6 && k == 2) || (r == 6 && k == 4) || (r == 6 && k == 5) || (r == 6 && k == 6) || (r == 6 && k == 7)
theorem mdle_s_runTwice_s_fromOutside {r k : Nat} (h : md_s_runTwice r k = false) : md_s_fromOutside r k = false := by
  first | rfl | (simp only [md_s_runTwice, md_s_fromOutside, Bool.or_eq_false_iff, Bool.and_eq_false_iff, beq_eq_false_iff_ne] at h ⊢; omega)
set_option maxHeartbeats 4000000 in
set_option maxRecDepth 100000 in
theorem lt_s_runTwice_a (l : Launch) (D : va_G) (cI cZ cS cR : ClassId) (N0 : NT) (fr : Int32) (g : GS) (h : Nat) (o : Nat) (n : Int32) (x1 : Int32) (x2 : Int32) (r_h : g.1 h = 2) (r_o : g.1 o = 1) (l_n : 0 ≤ n.toInt) (u_n : n.toInt ≤ 5) {p : Program} {e : Env} {s : State} {m : MethodId} {args : Array Value} {below : List Frame} {meth : Method} {c : Code} (hB : Tz p s m meth c args cX1_runTwice 7 RX1 D cI cZ cS cR N0) (hr : meth.sig.returnType = none)  : ∀ (kf : Nat) (g1 : GS) (i : Int32)  (H : Heap) (locs : List Loc) (ls : Array Slot), Tv D cI cZ cS cR N0 s.heap H locs g1 → Inv fr g1 → Ex g g1 → Sm md_s_runTwice g g1 → 0 ≤ i.toInt → i.toInt ≤ 6 → 6 ≤ i.toInt + kf → lv_has ls 7 [(5, .int i), (0, .ref h), (1, .ref o), (2, .int n), (3, .int x1), (4, .int x2)] → W p l e (rmx 14 0 0) s m args below meth c H locs 0 0 (MQ below (tQ D cI cZ cS cR N0 (fun v g' => v = none ∧ Inv fr g' ∧ Ex g g' ∧ Sm md_s_runTwice g g')) args s 0 0 (fun q => N0.1 ≤ q)) (F0 m 14 ls []) := by
  have hx := hB.1
  have hb := hB.2.1
  intro kf
  induction kf using Nat.strongRecOn with
  | ind kf ih =>
    intro g1 i H locs ls hT hI hE hM l_i u_i hk hl
    have r1_h : g1.1 h = 2 := Ex.r hE r_h (by decide)
    have r1_o : g1.1 o = 1 := Ex.r hE r_o (by decide)
    refine lv_iload hx hb dX1_runTwice_14 (lv_at hl 0 rfl) ?_
    refine lv_aload_n hx hb dX1_runTwice_16 rfl (lv_at hl 2 rfl) ?_
    obtain ⟨v_1, e_v_1, l_v_1, u_v_1⟩ := hI.f r1_o 3
    refine t_get (ci := 0) (v := .int v_1) hB hT (ro_ci r1_o rfl) rfl 3 (by decide) k_254 e_v_1 dX1_runTwice_17 ?_
    refine lv_icmp_ge (tgt := 118) hx hb dX1_runTwice_20 (by decide) (fun c_2 => ?_) (fun c_2 => ?_)
    · have c_2' : v_1.toInt ≤ i.toInt := i_le c_2 rfl rfl
      exact t_vret hB hr hT (Nat.le_of_ble_eq_true rfl) (Nat.le_of_ble_eq_true rfl) dX1_runTwice_118 ⟨rfl, hI, hE, hM⟩
    · have c_2' : i.toInt < v_1.toInt := i_nle c_2 rfl rfl
      refine lv_iload hx hb dX1_runTwice_23 (lv_at hl 0 rfl) ?_
      refine lv_iload_n hx hb dX1_runTwice_25 rfl (lv_at hl 3 rfl) ?_
      refine lv_icmp_ne (tgt := 34) hx hb dX1_runTwice_26 (by decide) (fun c_3 => ?_) (fun c_3 => ?_)
      · have c_3' : i.toInt ≠ n.toInt := i_ne c_3 rfl rfl
        refine lv_iconst (v := 0) hx hb dX1_runTwice_34 (by decide) ?_
        refine lv_istore (lv' := [(6, .int 0), (5, .int i), (0, .ref h), (1, .ref o), (2, .int n), (3, .int x1), (4, .int x2)]) hx hb dX1_runTwice_35 hl (by decide) rfl (fun ls hl => ?_)
        refine lv_aload_n hx hb dX1_runTwice_37 rfl (lv_at hl 2 rfl) ?_
        obtain ⟨v_4, e_v_4, r_v_4, n_v_4⟩ := hI.f r1_h 5
        refine t_get (ci := 1) (v := .ref v_4) hB hT (ro_ci r1_h rfl) rfl 5 (by decide) k_282 e_v_4 dX1_runTwice_38 ?_
        refine lv_iload hx hb dX1_runTwice_41 (lv_at hl 1 rfl) ?_
        refine lv_aload_n hx hb dX1_runTwice_43 rfl (lv_at hl 2 rfl) ?_
        obtain ⟨v_5, e_v_5, r_v_5⟩ := hI.f r1_h 2
        refine t_get (ci := 1) (v := .ref v_5) hB hT (ro_ci r1_h rfl) rfl 2 (by decide) k_279 e_v_5 dX1_runTwice_44 ?_
        refine lv_aload_n hx hb dX1_runTwice_47 rfl (lv_at hl 3 rfl) ?_
        obtain ⟨v_6, e_v_6, r_v_6, n_v_6⟩ := hI.f r1_o 0
        refine t_get (ci := 0) (v := .ref v_6) hB hT (ro_ci r1_o rfl) rfl 0 (by decide) k_244 e_v_6 dX1_runTwice_48 ?_
        refine lv_iload hx hb dX1_runTwice_51 (lv_at hl 1 rfl) ?_
        have i_u_7 : vp_in i 6 := (i_in (n := 6) rfl (by omega) (by omega))
        refine t_iald hB hT (ro_in r_v_6 (by decide)) n_v_6 i_u_7 rfl dX1_runTwice_53 ?_
        have c_u_7 := hI.c r_v_6 n_v_6 (i_cl i_u_7)
        refine lv_topi (fun u_7 e_u_7 => ?_)
        obtain ⟨l_u_7, u_u_7⟩ := c_u_7
        rw [← e_u_7] at l_u_7 u_u_7
        refine lv_aload_n hx hb dX1_runTwice_54 rfl (lv_at hl 3 rfl) ?_
        obtain ⟨v_8, e_v_8, r_v_8, n_v_8⟩ := hI.f r1_o 1
        refine t_get (ci := 0) (v := .ref v_8) hB hT (ro_ci r1_o rfl) rfl 1 (by decide) k_248 e_v_8 dX1_runTwice_55 ?_
        refine lv_iload hx hb dX1_runTwice_58 (lv_at hl 1 rfl) ?_
        have i_u_9 : vp_in i 6 := (i_in (n := 6) rfl (by omega) (by omega))
        refine t_iald hB hT (ro_in r_v_8 (by decide)) n_v_8 i_u_9 rfl dX1_runTwice_60 ?_
        refine lv_topi (fun u_9 e_u_9 => ?_)
        refine lv_aload_n hx hb dX1_runTwice_61 rfl (lv_at hl 3 rfl) ?_
        obtain ⟨v_10, e_v_10, r_v_10, n_v_10⟩ := hI.f r1_o 2
        refine t_get (ci := 0) (v := .ref v_10) hB hT (ro_ci r1_o rfl) rfl 2 (by decide) k_251 e_v_10 dX1_runTwice_62 ?_
        refine lv_iload hx hb dX1_runTwice_65 (lv_at hl 1 rfl) ?_
        have i_u_11 : vp_in i 6 := (i_in (n := 6) rfl (by omega) (by omega))
        refine t_iald hB hT (ro_in r_v_10 (by decide)) n_v_10 i_u_11 rfl dX1_runTwice_67 ?_
        refine lv_topi (fun u_11 e_u_11 => ?_)
        refine lv_iload hx hb dX1_runTwice_68 (lv_at hl 0 rfl) ?_
        refine t_callV (n := 4) (ci := 5) (As := [.int u_7, .int u_9, .int u_11, .int 0]) (rest := [.int i, .ref v_4]) hB hT hl.1 (s_fromOutside l D cI cZ cS cR N0 fr g1 hI v_5 u_7 u_9 u_11 0 r_v_5 (by omega) (by omega)) (ro_ci r_v_5 rfl) rfl k_500 k_59 k_594 k_498 k_499 (by decide +kernel) ⟨(Nat.le_of_ble_eq_true rfl), (Nat.le_of_ble_eq_true rfl)⟩ rfl (Nat.le_of_ble_eq_true rfl) ⟨(Nat.le_of_ble_eq_true rfl), (Nat.le_of_ble_eq_true rfl)⟩ dX1_runTwice_70 (fun v g_12 H locs hp hT => ?_)
        obtain ⟨r_13, rfl, hI, x_15, m_14⟩ := hp
        have r_16 : g_12.1 h = 2 := (Ex.r x_15 r1_h (by decide))
        have r_17 : g_12.1 o = 1 := (Ex.r x_15 r1_o (by decide))
        have r_18 : g_12.1 v_4 = 20 := (Ex.r x_15 r_v_4 (by decide))
        have r_19 : g_12.1 v_5 = 6 := (Ex.r x_15 r_v_5 (by decide))
        have r_20 : g_12.1 v_6 = 21 := (Ex.r x_15 r_v_6 (by decide))
        have r_21 : g_12.1 v_8 = 20 := (Ex.r x_15 r_v_8 (by decide))
        have r_22 : g_12.1 v_10 = 20 := (Ex.r x_15 r_v_10 (by decide))
        have n_23 : g_12.2.2.1 v_4 = 6 := (Ex.n x_15 r_v_4 (by decide) n_v_4)
        have n_24 : g_12.2.2.1 v_6 = 6 := (Ex.n x_15 r_v_6 (by decide) n_v_6)
        have n_25 : g_12.2.2.1 v_8 = 6 := (Ex.n x_15 r_v_8 (by decide) n_v_8)
        have n_26 : g_12.2.2.1 v_10 = 6 := (Ex.n x_15 r_v_10 (by decide) n_v_10)
        have e_27 : g_12.2.1 o 3 = .int v_1 := (Sm.v m_14 r1_o (by decide) rfl e_v_1)
        have e_28 : g_12.2.1 h 5 = .ref v_4 := (Sm.v m_14 r1_h (by decide) rfl e_v_4)
        have e_29 : g_12.2.1 h 2 = .ref v_5 := (Sm.v m_14 r1_h (by decide) rfl e_v_5)
        have e_30 : g_12.2.1 o 0 = .ref v_6 := (Sm.v m_14 r1_o (by decide) rfl e_v_6)
        have e_31 : g_12.2.1 o 1 = .ref v_8 := (Sm.v m_14 r1_o (by decide) rfl e_v_8)
        have e_32 : g_12.2.1 o 2 = .ref v_10 := (Sm.v m_14 r1_o (by decide) rfl e_v_10)
        have hM : Sm md_s_runTwice g g_12 := hM.tr hE (m_14.mo (fun r k h => mdle_s_runTwice_s_fromOutside h))
        have hE : Ex g g_12 := hE.tr x_15
        refine W.eq (g2 := F0 m 73 ls [.int r_13, .int i, .ref v_4]) rfl ?_
        have i_33 : vp_in i 6 := (i_in (n := 6) rfl (by omega) (by omega))
        refine t_iast hB hT (ro_in r_18 (by decide)) n_23 i_33 dX1_runTwice_73 (fun H locs hT => ?_)
        have hI : Inv fr (sC g_12 v_4 i.toNatClampNeg r_13) := hI.sC (ck r_18 trivial)
        have hM : Sm md_s_runTwice g (sC g_12 v_4 i.toNatClampNeg r_13) := hM
        have hE : Ex g (sC g_12 v_4 i.toNatClampNeg r_13) := hE
        refine lv_iload hx hb dX1_runTwice_74 (lv_at hl 1 rfl) ?_
        refine lv_iload_n hx hb dX1_runTwice_76 rfl (lv_at hl 4 rfl) ?_
        refine lv_iload_n hx hb dX1_runTwice_77 rfl (lv_at hl 5 rfl) ?_
        refine lv_iadd hx hb dX1_runTwice_78 ?_
        refine lv_topi (fun z_34 ez_34 => ?_)
        refine lv_icmp_ne (tgt := 112) hx hb dX1_runTwice_79 (by decide) (fun c_35 => ?_) (fun c_35 => ?_)
        · have c_35' : i.toInt ≠ z_34.toInt := i_ne c_35 rfl rfl
          obtain ⟨z_36, ez_36⟩ : ∃ z : Int32, z = i + 1 := ⟨_, rfl⟩
          have e_z_36 : z_36.toInt = i.toInt + 1 := i_add ez_36 rfl (by decide) (by omega) (by omega)
          refine lv_iinc (v := z_36) (lv' := [(5, .int z_36), (6, .int 0), (0, .ref h), (1, .ref o), (2, .int n), (3, .int x1), (4, .int x2)]) hx hb dX1_runTwice_112 hl (k := 1) rfl (by rw [ez_36]; rfl) (by decide) rfl (fun ls hl => ?_)
          refine lv_goto (tgt := 14) hx hb dX1_runTwice_115 (by decide) ?_
          exact ih (kf - 1) (by omega) (sC g_12 v_4 i.toNatClampNeg r_13) z_36 H locs ls hT hI hE hM (by omega) (by omega) (by have e0 := z0; omega) (lv_sub hl [0, 2, 3, 4, 5, 6] rfl)
        · have c_35' : i.toInt = z_34.toInt := i_eq c_35 rfl rfl
          refine lv_aload_n hx hb dX1_runTwice_82 rfl (lv_at hl 2 rfl) ?_
          refine lv_aload_n hx hb dX1_runTwice_83 rfl (lv_at hl 2 rfl) ?_
          refine t_get (ci := 1) (v := .ref v_5) hB hT (ro_ci r_16 rfl) rfl 2 (by decide) k_279 e_29 dX1_runTwice_84 ?_
          refine lv_aload_n hx hb dX1_runTwice_87 rfl (lv_at hl 3 rfl) ?_
          refine t_get (ci := 0) (v := .ref v_6) hB hT (ro_ci r_17 rfl) rfl 0 (by decide) k_244 e_30 dX1_runTwice_88 ?_
          refine lv_iload_n hx hb dX1_runTwice_91 rfl (lv_at hl 4 rfl) ?_
          have i_u_37 : vp_in n 6 := (i_in (n := 6) rfl (by omega) (by omega))
          refine t_iald hB hT (ro_in r_20 (by decide)) n_24 i_u_37 rfl dX1_runTwice_92 ?_
          have c_u_37 := hI.c r_20 n_24 (i_cl i_u_37)
          refine lv_topi (fun u_37 e_u_37 => ?_)
          obtain ⟨l_u_37, u_u_37⟩ := c_u_37
          rw [← e_u_37] at l_u_37 u_u_37
          refine lv_aload_n hx hb dX1_runTwice_93 rfl (lv_at hl 3 rfl) ?_
          refine t_get (ci := 0) (v := .ref v_8) hB hT (ro_ci r_17 rfl) rfl 1 (by decide) k_248 e_31 dX1_runTwice_94 ?_
          refine lv_iload_n hx hb dX1_runTwice_97 rfl (lv_at hl 4 rfl) ?_
          have i_u_38 : vp_in n 6 := (i_in (n := 6) rfl (by omega) (by omega))
          refine t_iald hB hT (ro_in r_21 (by decide)) n_25 i_u_38 rfl dX1_runTwice_98 ?_
          refine lv_topi (fun u_38 e_u_38 => ?_)
          refine lv_aload_n hx hb dX1_runTwice_99 rfl (lv_at hl 3 rfl) ?_
          refine t_get (ci := 0) (v := .ref v_10) hB hT (ro_ci r_17 rfl) rfl 2 (by decide) k_251 e_32 dX1_runTwice_100 ?_
          refine lv_iload_n hx hb dX1_runTwice_103 rfl (lv_at hl 4 rfl) ?_
          have i_u_39 : vp_in n 6 := (i_in (n := 6) rfl (by omega) (by omega))
          refine t_iald hB hT (ro_in r_22 (by decide)) n_26 i_u_39 rfl dX1_runTwice_104 ?_
          refine lv_topi (fun u_39 e_u_39 => ?_)
          refine lv_iconst (v := 0) hx hb dX1_runTwice_105 (by decide) ?_
          refine t_callV (n := 4) (ci := 5) (As := [.int u_37, .int u_38, .int u_39, .int 0]) (rest := [.ref h]) hB hT hl.1 (s_fromOutside l D cI cZ cS cR N0 fr (sC g_12 v_4 i.toNatClampNeg r_13) hI v_5 u_37 u_38 u_39 0 r_19 (by omega) (by omega)) (ro_ci r_19 rfl) rfl k_500 k_59 k_594 k_498 k_499 (by decide +kernel) ⟨(Nat.le_of_ble_eq_true rfl), (Nat.le_of_ble_eq_true rfl)⟩ rfl (Nat.le_of_ble_eq_true rfl) ⟨(Nat.le_of_ble_eq_true rfl), (Nat.le_of_ble_eq_true rfl)⟩ dX1_runTwice_106 (fun v g_40 H locs hp hT => ?_)
          obtain ⟨r_41, rfl, hI, x_43, m_42⟩ := hp
          have r_44 : g_40.1 h = 2 := (Ex.r x_43 r_16 (by decide))
          have r_45 : g_40.1 o = 1 := (Ex.r x_43 r_17 (by decide))
          have r_46 : g_40.1 v_4 = 20 := (Ex.r x_43 r_18 (by decide))
          have r_47 : g_40.1 v_5 = 6 := (Ex.r x_43 r_19 (by decide))
          have r_48 : g_40.1 v_6 = 21 := (Ex.r x_43 r_20 (by decide))
          have r_49 : g_40.1 v_8 = 20 := (Ex.r x_43 r_21 (by decide))
          have r_50 : g_40.1 v_10 = 20 := (Ex.r x_43 r_22 (by decide))
          have n_51 : g_40.2.2.1 v_4 = 6 := (Ex.n x_43 r_18 (by decide) n_23)
          have n_52 : g_40.2.2.1 v_6 = 6 := (Ex.n x_43 r_20 (by decide) n_24)
          have n_53 : g_40.2.2.1 v_8 = 6 := (Ex.n x_43 r_21 (by decide) n_25)
          have n_54 : g_40.2.2.1 v_10 = 6 := (Ex.n x_43 r_22 (by decide) n_26)
          have e_55 : g_40.2.1 o 3 = .int v_1 := (Sm.v m_42 r_17 (by decide) rfl e_27)
          have e_56 : g_40.2.1 h 5 = .ref v_4 := (Sm.v m_42 r_16 (by decide) rfl e_28)
          have e_57 : g_40.2.1 h 2 = .ref v_5 := (Sm.v m_42 r_16 (by decide) rfl e_29)
          have e_58 : g_40.2.1 o 0 = .ref v_6 := (Sm.v m_42 r_17 (by decide) rfl e_30)
          have e_59 : g_40.2.1 o 1 = .ref v_8 := (Sm.v m_42 r_17 (by decide) rfl e_31)
          have e_60 : g_40.2.1 o 2 = .ref v_10 := (Sm.v m_42 r_17 (by decide) rfl e_32)
          have hM : Sm md_s_runTwice g g_40 := hM.tr hE (m_42.mo (fun r k h => mdle_s_runTwice_s_fromOutside h))
          have hE : Ex g g_40 := hE.tr x_43
          refine W.eq (g2 := F0 m 109 ls [.int r_41, .ref h]) rfl ?_
          refine t_put0 (ci := 1) (v := .int r_41) hB hT (ro_ci r_44 rfl) (ro_n0 r_44 (by decide)) rfl 6 (by decide) k_283 (Or.inl rfl) rfl rfl dX1_runTwice_109 (fun H locs hT => ?_)
          have hI : Inv fr (sF g_40 h 6 (.int r_41)) := hI.sF (fk r_44 (⟨_, rfl⟩))
          have hM : Sm md_s_runTwice g (sF g_40 h 6 (.int r_41)) := hM.tr hE (Sm_sF (by rw [r_44]; rfl))
          have hE : Ex g (sF g_40 h 6 (.int r_41)) := hE
          obtain ⟨z_61, ez_61⟩ : ∃ z : Int32, z = i + 1 := ⟨_, rfl⟩
          have e_z_61 : z_61.toInt = i.toInt + 1 := i_add ez_61 rfl (by decide) (by omega) (by omega)
          refine lv_iinc (v := z_61) (lv' := [(5, .int z_61), (6, .int 0), (0, .ref h), (1, .ref o), (2, .int n), (3, .int x1), (4, .int x2)]) hx hb dX1_runTwice_112 hl (k := 1) rfl (by rw [ez_61]; rfl) (by decide) rfl (fun ls hl => ?_)
          refine lv_goto (tgt := 14) hx hb dX1_runTwice_115 (by decide) ?_
          exact ih (kf - 1) (by omega) (sF g_40 h 6 (.int r_41)) z_61 H locs ls hT hI hE hM (by omega) (by omega) (by have e0 := z0; omega) (lv_sub hl [0, 2, 3, 4, 5, 6] rfl)
      · have c_3' : i.toInt = n.toInt := i_eq c_3 rfl rfl
        refine lv_iload hx hb dX1_runTwice_29 (lv_at hl 5 rfl) ?_
        refine lv_goto (tgt := 35) hx hb dX1_runTwice_31 (by decide) ?_
        refine lv_istore (lv' := [(6, .int x2), (5, .int i), (0, .ref h), (1, .ref o), (2, .int n), (3, .int x1), (4, .int x2)]) hx hb dX1_runTwice_35 hl (by decide) rfl (fun ls hl => ?_)
        refine lv_aload_n hx hb dX1_runTwice_37 rfl (lv_at hl 2 rfl) ?_
        obtain ⟨v_62, e_v_62, r_v_62, n_v_62⟩ := hI.f r1_h 5
        refine t_get (ci := 1) (v := .ref v_62) hB hT (ro_ci r1_h rfl) rfl 5 (by decide) k_282 e_v_62 dX1_runTwice_38 ?_
        refine lv_iload hx hb dX1_runTwice_41 (lv_at hl 1 rfl) ?_
        refine lv_aload_n hx hb dX1_runTwice_43 rfl (lv_at hl 2 rfl) ?_
        obtain ⟨v_63, e_v_63, r_v_63⟩ := hI.f r1_h 2
        refine t_get (ci := 1) (v := .ref v_63) hB hT (ro_ci r1_h rfl) rfl 2 (by decide) k_279 e_v_63 dX1_runTwice_44 ?_
        refine lv_aload_n hx hb dX1_runTwice_47 rfl (lv_at hl 3 rfl) ?_
        obtain ⟨v_64, e_v_64, r_v_64, n_v_64⟩ := hI.f r1_o 0
        refine t_get (ci := 0) (v := .ref v_64) hB hT (ro_ci r1_o rfl) rfl 0 (by decide) k_244 e_v_64 dX1_runTwice_48 ?_
        refine lv_iload hx hb dX1_runTwice_51 (lv_at hl 1 rfl) ?_
        have i_u_65 : vp_in i 6 := (i_in (n := 6) rfl (by omega) (by omega))
        refine t_iald hB hT (ro_in r_v_64 (by decide)) n_v_64 i_u_65 rfl dX1_runTwice_53 ?_
        have c_u_65 := hI.c r_v_64 n_v_64 (i_cl i_u_65)
        refine lv_topi (fun u_65 e_u_65 => ?_)
        obtain ⟨l_u_65, u_u_65⟩ := c_u_65
        rw [← e_u_65] at l_u_65 u_u_65
        refine lv_aload_n hx hb dX1_runTwice_54 rfl (lv_at hl 3 rfl) ?_
        obtain ⟨v_66, e_v_66, r_v_66, n_v_66⟩ := hI.f r1_o 1
        refine t_get (ci := 0) (v := .ref v_66) hB hT (ro_ci r1_o rfl) rfl 1 (by decide) k_248 e_v_66 dX1_runTwice_55 ?_
        refine lv_iload hx hb dX1_runTwice_58 (lv_at hl 1 rfl) ?_
        have i_u_67 : vp_in i 6 := (i_in (n := 6) rfl (by omega) (by omega))
        refine t_iald hB hT (ro_in r_v_66 (by decide)) n_v_66 i_u_67 rfl dX1_runTwice_60 ?_
        refine lv_topi (fun u_67 e_u_67 => ?_)
        refine lv_aload_n hx hb dX1_runTwice_61 rfl (lv_at hl 3 rfl) ?_
        obtain ⟨v_68, e_v_68, r_v_68, n_v_68⟩ := hI.f r1_o 2
        refine t_get (ci := 0) (v := .ref v_68) hB hT (ro_ci r1_o rfl) rfl 2 (by decide) k_251 e_v_68 dX1_runTwice_62 ?_
        refine lv_iload hx hb dX1_runTwice_65 (lv_at hl 1 rfl) ?_
        have i_u_69 : vp_in i 6 := (i_in (n := 6) rfl (by omega) (by omega))
        refine t_iald hB hT (ro_in r_v_68 (by decide)) n_v_68 i_u_69 rfl dX1_runTwice_67 ?_
        refine lv_topi (fun u_69 e_u_69 => ?_)
        refine lv_iload hx hb dX1_runTwice_68 (lv_at hl 0 rfl) ?_
        refine t_callV (n := 4) (ci := 5) (As := [.int u_65, .int u_67, .int u_69, .int x2]) (rest := [.int i, .ref v_62]) hB hT hl.1 (s_fromOutside l D cI cZ cS cR N0 fr g1 hI v_63 u_65 u_67 u_69 x2 r_v_63 (by omega) (by omega)) (ro_ci r_v_63 rfl) rfl k_500 k_59 k_594 k_498 k_499 (by decide +kernel) ⟨(Nat.le_of_ble_eq_true rfl), (Nat.le_of_ble_eq_true rfl)⟩ rfl (Nat.le_of_ble_eq_true rfl) ⟨(Nat.le_of_ble_eq_true rfl), (Nat.le_of_ble_eq_true rfl)⟩ dX1_runTwice_70 (fun v g_70 H locs hp hT => ?_)
        obtain ⟨r_71, rfl, hI, x_73, m_72⟩ := hp
        have r_74 : g_70.1 h = 2 := (Ex.r x_73 r1_h (by decide))
        have r_75 : g_70.1 o = 1 := (Ex.r x_73 r1_o (by decide))
        have r_76 : g_70.1 v_62 = 20 := (Ex.r x_73 r_v_62 (by decide))
        have r_77 : g_70.1 v_63 = 6 := (Ex.r x_73 r_v_63 (by decide))
        have r_78 : g_70.1 v_64 = 21 := (Ex.r x_73 r_v_64 (by decide))
        have r_79 : g_70.1 v_66 = 20 := (Ex.r x_73 r_v_66 (by decide))
        have r_80 : g_70.1 v_68 = 20 := (Ex.r x_73 r_v_68 (by decide))
        have n_81 : g_70.2.2.1 v_62 = 6 := (Ex.n x_73 r_v_62 (by decide) n_v_62)
        have n_82 : g_70.2.2.1 v_64 = 6 := (Ex.n x_73 r_v_64 (by decide) n_v_64)
        have n_83 : g_70.2.2.1 v_66 = 6 := (Ex.n x_73 r_v_66 (by decide) n_v_66)
        have n_84 : g_70.2.2.1 v_68 = 6 := (Ex.n x_73 r_v_68 (by decide) n_v_68)
        have e_85 : g_70.2.1 o 3 = .int v_1 := (Sm.v m_72 r1_o (by decide) rfl e_v_1)
        have e_86 : g_70.2.1 h 5 = .ref v_62 := (Sm.v m_72 r1_h (by decide) rfl e_v_62)
        have e_87 : g_70.2.1 h 2 = .ref v_63 := (Sm.v m_72 r1_h (by decide) rfl e_v_63)
        have e_88 : g_70.2.1 o 0 = .ref v_64 := (Sm.v m_72 r1_o (by decide) rfl e_v_64)
        have e_89 : g_70.2.1 o 1 = .ref v_66 := (Sm.v m_72 r1_o (by decide) rfl e_v_66)
        have e_90 : g_70.2.1 o 2 = .ref v_68 := (Sm.v m_72 r1_o (by decide) rfl e_v_68)
        have hM : Sm md_s_runTwice g g_70 := hM.tr hE (m_72.mo (fun r k h => mdle_s_runTwice_s_fromOutside h))
        have hE : Ex g g_70 := hE.tr x_73
        refine W.eq (g2 := F0 m 73 ls [.int r_71, .int i, .ref v_62]) rfl ?_
        have i_91 : vp_in i 6 := (i_in (n := 6) rfl (by omega) (by omega))
        refine t_iast hB hT (ro_in r_76 (by decide)) n_81 i_91 dX1_runTwice_73 (fun H locs hT => ?_)
        have hI : Inv fr (sC g_70 v_62 i.toNatClampNeg r_71) := hI.sC (ck r_76 trivial)
        have hM : Sm md_s_runTwice g (sC g_70 v_62 i.toNatClampNeg r_71) := hM
        have hE : Ex g (sC g_70 v_62 i.toNatClampNeg r_71) := hE
        refine lv_iload hx hb dX1_runTwice_74 (lv_at hl 1 rfl) ?_
        refine lv_iload_n hx hb dX1_runTwice_76 rfl (lv_at hl 4 rfl) ?_
        refine lv_iload_n hx hb dX1_runTwice_77 rfl (lv_at hl 5 rfl) ?_
        refine lv_iadd hx hb dX1_runTwice_78 ?_
        refine lv_topi (fun z_92 ez_92 => ?_)
        refine lv_icmp_ne (tgt := 112) hx hb dX1_runTwice_79 (by decide) (fun c_93 => ?_) (fun c_93 => ?_)
        · have c_93' : i.toInt ≠ z_92.toInt := i_ne c_93 rfl rfl
          obtain ⟨z_94, ez_94⟩ : ∃ z : Int32, z = i + 1 := ⟨_, rfl⟩
          have e_z_94 : z_94.toInt = i.toInt + 1 := i_add ez_94 rfl (by decide) (by omega) (by omega)
          refine lv_iinc (v := z_94) (lv' := [(5, .int z_94), (6, .int x2), (0, .ref h), (1, .ref o), (2, .int n), (3, .int x1), (4, .int x2)]) hx hb dX1_runTwice_112 hl (k := 1) rfl (by rw [ez_94]; rfl) (by decide) rfl (fun ls hl => ?_)
          refine lv_goto (tgt := 14) hx hb dX1_runTwice_115 (by decide) ?_
          exact ih (kf - 1) (by omega) (sC g_70 v_62 i.toNatClampNeg r_71) z_94 H locs ls hT hI hE hM (by omega) (by omega) (by have e0 := z0; omega) (lv_sub hl [0, 2, 3, 4, 5, 6] rfl)
        · have c_93' : i.toInt = z_92.toInt := i_eq c_93 rfl rfl
          refine lv_aload_n hx hb dX1_runTwice_82 rfl (lv_at hl 2 rfl) ?_
          refine lv_aload_n hx hb dX1_runTwice_83 rfl (lv_at hl 2 rfl) ?_
          refine t_get (ci := 1) (v := .ref v_63) hB hT (ro_ci r_74 rfl) rfl 2 (by decide) k_279 e_87 dX1_runTwice_84 ?_
          refine lv_aload_n hx hb dX1_runTwice_87 rfl (lv_at hl 3 rfl) ?_
          refine t_get (ci := 0) (v := .ref v_64) hB hT (ro_ci r_75 rfl) rfl 0 (by decide) k_244 e_88 dX1_runTwice_88 ?_
          refine lv_iload_n hx hb dX1_runTwice_91 rfl (lv_at hl 4 rfl) ?_
          have i_u_95 : vp_in n 6 := (i_in (n := 6) rfl (by omega) (by omega))
          refine t_iald hB hT (ro_in r_78 (by decide)) n_82 i_u_95 rfl dX1_runTwice_92 ?_
          have c_u_95 := hI.c r_78 n_82 (i_cl i_u_95)
          refine lv_topi (fun u_95 e_u_95 => ?_)
          obtain ⟨l_u_95, u_u_95⟩ := c_u_95
          rw [← e_u_95] at l_u_95 u_u_95
          refine lv_aload_n hx hb dX1_runTwice_93 rfl (lv_at hl 3 rfl) ?_
          refine t_get (ci := 0) (v := .ref v_66) hB hT (ro_ci r_75 rfl) rfl 1 (by decide) k_248 e_89 dX1_runTwice_94 ?_
          refine lv_iload_n hx hb dX1_runTwice_97 rfl (lv_at hl 4 rfl) ?_
          have i_u_96 : vp_in n 6 := (i_in (n := 6) rfl (by omega) (by omega))
          refine t_iald hB hT (ro_in r_79 (by decide)) n_83 i_u_96 rfl dX1_runTwice_98 ?_
          refine lv_topi (fun u_96 e_u_96 => ?_)
          refine lv_aload_n hx hb dX1_runTwice_99 rfl (lv_at hl 3 rfl) ?_
          refine t_get (ci := 0) (v := .ref v_68) hB hT (ro_ci r_75 rfl) rfl 2 (by decide) k_251 e_90 dX1_runTwice_100 ?_
          refine lv_iload_n hx hb dX1_runTwice_103 rfl (lv_at hl 4 rfl) ?_
          have i_u_97 : vp_in n 6 := (i_in (n := 6) rfl (by omega) (by omega))
          refine t_iald hB hT (ro_in r_80 (by decide)) n_84 i_u_97 rfl dX1_runTwice_104 ?_
          refine lv_topi (fun u_97 e_u_97 => ?_)
          refine lv_iconst (v := 0) hx hb dX1_runTwice_105 (by decide) ?_
          refine t_callV (n := 4) (ci := 5) (As := [.int u_95, .int u_96, .int u_97, .int 0]) (rest := [.ref h]) hB hT hl.1 (s_fromOutside l D cI cZ cS cR N0 fr (sC g_70 v_62 i.toNatClampNeg r_71) hI v_63 u_95 u_96 u_97 0 r_77 (by omega) (by omega)) (ro_ci r_77 rfl) rfl k_500 k_59 k_594 k_498 k_499 (by decide +kernel) ⟨(Nat.le_of_ble_eq_true rfl), (Nat.le_of_ble_eq_true rfl)⟩ rfl (Nat.le_of_ble_eq_true rfl) ⟨(Nat.le_of_ble_eq_true rfl), (Nat.le_of_ble_eq_true rfl)⟩ dX1_runTwice_106 (fun v g_98 H locs hp hT => ?_)
          obtain ⟨r_99, rfl, hI, x_101, m_100⟩ := hp
          have r_102 : g_98.1 h = 2 := (Ex.r x_101 r_74 (by decide))
          have r_103 : g_98.1 o = 1 := (Ex.r x_101 r_75 (by decide))
          have r_104 : g_98.1 v_62 = 20 := (Ex.r x_101 r_76 (by decide))
          have r_105 : g_98.1 v_63 = 6 := (Ex.r x_101 r_77 (by decide))
          have r_106 : g_98.1 v_64 = 21 := (Ex.r x_101 r_78 (by decide))
          have r_107 : g_98.1 v_66 = 20 := (Ex.r x_101 r_79 (by decide))
          have r_108 : g_98.1 v_68 = 20 := (Ex.r x_101 r_80 (by decide))
          have n_109 : g_98.2.2.1 v_62 = 6 := (Ex.n x_101 r_76 (by decide) n_81)
          have n_110 : g_98.2.2.1 v_64 = 6 := (Ex.n x_101 r_78 (by decide) n_82)
          have n_111 : g_98.2.2.1 v_66 = 6 := (Ex.n x_101 r_79 (by decide) n_83)
          have n_112 : g_98.2.2.1 v_68 = 6 := (Ex.n x_101 r_80 (by decide) n_84)
          have e_113 : g_98.2.1 o 3 = .int v_1 := (Sm.v m_100 r_75 (by decide) rfl e_85)
          have e_114 : g_98.2.1 h 5 = .ref v_62 := (Sm.v m_100 r_74 (by decide) rfl e_86)
          have e_115 : g_98.2.1 h 2 = .ref v_63 := (Sm.v m_100 r_74 (by decide) rfl e_87)
          have e_116 : g_98.2.1 o 0 = .ref v_64 := (Sm.v m_100 r_75 (by decide) rfl e_88)
          have e_117 : g_98.2.1 o 1 = .ref v_66 := (Sm.v m_100 r_75 (by decide) rfl e_89)
          have e_118 : g_98.2.1 o 2 = .ref v_68 := (Sm.v m_100 r_75 (by decide) rfl e_90)
          have hM : Sm md_s_runTwice g g_98 := hM.tr hE (m_100.mo (fun r k h => mdle_s_runTwice_s_fromOutside h))
          have hE : Ex g g_98 := hE.tr x_101
          refine W.eq (g2 := F0 m 109 ls [.int r_99, .ref h]) rfl ?_
          refine t_put0 (ci := 1) (v := .int r_99) hB hT (ro_ci r_102 rfl) (ro_n0 r_102 (by decide)) rfl 6 (by decide) k_283 (Or.inl rfl) rfl rfl dX1_runTwice_109 (fun H locs hT => ?_)
          have hI : Inv fr (sF g_98 h 6 (.int r_99)) := hI.sF (fk r_102 (⟨_, rfl⟩))
          have hM : Sm md_s_runTwice g (sF g_98 h 6 (.int r_99)) := hM.tr hE (Sm_sF (by rw [r_102]; rfl))
          have hE : Ex g (sF g_98 h 6 (.int r_99)) := hE
          obtain ⟨z_119, ez_119⟩ : ∃ z : Int32, z = i + 1 := ⟨_, rfl⟩
          have e_z_119 : z_119.toInt = i.toInt + 1 := i_add ez_119 rfl (by decide) (by omega) (by omega)
          refine lv_iinc (v := z_119) (lv' := [(5, .int z_119), (6, .int x2), (0, .ref h), (1, .ref o), (2, .int n), (3, .int x1), (4, .int x2)]) hx hb dX1_runTwice_112 hl (k := 1) rfl (by rw [ez_119]; rfl) (by decide) rfl (fun ls hl => ?_)
          refine lv_goto (tgt := 14) hx hb dX1_runTwice_115 (by decide) ?_
          exact ih (kf - 1) (by omega) (sF g_98 h 6 (.int r_99)) z_119 H locs ls hT hI hE hM (by omega) (by omega) (by have e0 := z0; omega) (lv_sub hl [0, 2, 3, 4, 5, 6] rfl)
theorem mdle_s_runTwice_s_wcopy {r k : Nat} (h : md_s_runTwice r k = false) : md_s_wcopy r k = false := by
  first | rfl | (simp only [md_s_runTwice, md_s_wcopy, Bool.or_eq_false_iff, Bool.and_eq_false_iff, beq_eq_false_iff_ne] at h ⊢; omega)
set_option maxHeartbeats 4000000 in
set_option maxRecDepth 100000 in
theorem s_runTwice (l : Launch) (D : va_G) (cI cZ cS cR : ClassId) (N0 : NT) (fr : Int32) (g : GS) (hI : Inv fr g) (h : Nat) (o : Nat) (n : Int32) (x1 : Int32) (x2 : Int32) (r_h : g.1 h = 2) (r_o : g.1 o = 1) (l_n : 0 ≤ n.toInt) (u_n : n.toInt ≤ 5) : Ty l D cI cZ cS cR N0 yX1_runTwice cX1_runTwice 7 none 14 0 0 [.ref h, .ref o, .int n, .int x1, .int x2] g (fun v g' => v = none ∧ Inv fr g' ∧ Ex g g' ∧ Sm md_s_runTwice g g') := by
  refine t_enter (by decide) (Nat.le_of_ble_eq_true rfl) ?_
  intro p e s m args below meth c ls H locs hB hr hin hl hT
  have hx := hB.1
  have hb := hB.2.1
  have hl : lv_has ls 7 [(0, .ref h), (1, .ref o), (2, .int n), (3, .int x1), (4, .int x2)] := hl
  have hE : Ex g g := Ex.rf
  have hM : Sm md_s_runTwice g g := Sm.rf
  refine lv_aload_n hx hb dX1_runTwice_0 rfl (lv_at hl 0 rfl) ?_
  obtain ⟨v_1, e_v_1, r_v_1⟩ := hI.f r_h 2
  refine t_get (ci := 1) (v := .ref v_1) hB hT (ro_ci r_h rfl) rfl 2 (by decide) k_279 e_v_1 dX1_runTwice_1 ?_
  refine lv_aload_n hx hb dX1_runTwice_4 rfl (lv_at hl 0 rfl) ?_
  obtain ⟨v_2, e_v_2, r_v_2⟩ := hI.f r_h 0
  refine t_get (ci := 1) (v := .ref v_2) hB hT (ro_ci r_h rfl) rfl 0 (by decide) k_276 e_v_2 dX1_runTwice_5 ?_
  refine t_callV (n := 1) (ci := 5) (As := [.ref v_2]) (rest := []) hB hT hl.1 (s_wcopy l D cI cZ cS cR N0 fr g hI v_1 v_2 r_v_1 r_v_2) (ro_ci r_v_1 rfl) rfl k_585 k_59 k_582 k_583 k_584 (by decide +kernel) ⟨(Nat.le_of_ble_eq_true rfl), (Nat.le_of_ble_eq_true rfl)⟩ rfl (Nat.le_of_ble_eq_true rfl) ⟨(Nat.le_of_ble_eq_true rfl), (Nat.le_of_ble_eq_true rfl)⟩ dX1_runTwice_8 (fun v g_3 H locs hp hT => ?_)
  obtain ⟨rfl, hI, x_5, m_4⟩ := hp
  have r_6 : g_3.1 h = 2 := (Ex.r x_5 r_h (by decide))
  have r_7 : g_3.1 o = 1 := (Ex.r x_5 r_o (by decide))
  have r_8 : g_3.1 v_1 = 6 := (Ex.r x_5 r_v_1 (by decide))
  have r_9 : g_3.1 v_2 = 6 := (Ex.r x_5 r_v_2 (by decide))
  have e_10 : g_3.2.1 h 2 = .ref v_1 := (Sm.v m_4 r_h (by decide) rfl e_v_1)
  have e_11 : g_3.2.1 h 0 = .ref v_2 := (Sm.v m_4 r_h (by decide) rfl e_v_2)
  have hM : Sm md_s_runTwice g g_3 := hM.tr hE (m_4.mo (fun r k h => mdle_s_runTwice_s_wcopy h))
  have hE : Ex g g_3 := hE.tr x_5
  refine W.eq (g2 := F0 m 11 ls []) rfl ?_
  refine lv_iconst (v := 0) hx hb dX1_runTwice_11 (by decide) ?_
  refine lv_istore (lv' := [(5, .int 0), (0, .ref h), (1, .ref o), (2, .int n), (3, .int x1), (4, .int x2)]) hx hb dX1_runTwice_12 hl (by decide) rfl (fun ls hl => ?_)
  exact lt_s_runTwice_a l D cI cZ cS cR N0 fr g h o n x1 x2 r_h r_o l_n u_n hB hr 6 g_3 (0 : Int32) H locs ls hT hI hE hM (by decide) (by decide) (by have e0 := z0; omega) (lv_sub hl [0, 1, 2, 3, 4, 5] rfl)
def md_s_isLike : Nat → Nat → Bool := fun _ _ => false
theorem mdle_s_isLike_s_didTheSame {r k : Nat} (h : md_s_isLike r k = false) : md_s_didTheSame r k = false := by
  first | rfl | (simp only [md_s_isLike, md_s_didTheSame, Bool.or_eq_false_iff, Bool.and_eq_false_iff, beq_eq_false_iff_ne] at h ⊢; omega)
theorem mdle_s_isLike_s_wcounts {r k : Nat} (h : md_s_isLike r k = false) : md_s_wcounts r k = false := by
  first | rfl | (simp only [md_s_isLike, md_s_wcounts, Bool.or_eq_false_iff, Bool.and_eq_false_iff, beq_eq_false_iff_ne] at h ⊢; omega)
theorem mdle_s_isLike_s_wstores {r k : Nat} (h : md_s_isLike r k = false) : md_s_wstores r k = false := by
  first | rfl | (simp only [md_s_isLike, md_s_wstores, Bool.or_eq_false_iff, Bool.and_eq_false_iff, beq_eq_false_iff_ne] at h ⊢; omega)
set_option maxHeartbeats 4000000 in
set_option maxRecDepth 100000 in
theorem lt_s_isLike_a (l : Launch) (D : va_G) (cI cZ cS cR : ClassId) (N0 : NT) (fr : Int32) (g : GS) (h : Nat) (o : Nat) (n : Int32) (x1 : Int32) (r_h : g.1 h = 2) (r_o : g.1 o = 1) (l_n : 0 ≤ n.toInt) (u_n : n.toInt ≤ 5) {p : Program} {e : Env} {s : State} {m : MethodId} {args : Array Value} {below : List Frame} {meth : Method} {c : Code} (hB : Tz p s m meth c args cX1_isLike 6 RX1 D cI cZ cS cR N0) (hr : meth.sig.returnType = (some .boolean))  : ∀ (kf : Nat) (g1 : GS) (i : Int32)  (H : Heap) (locs : List Loc) (ls : Array Slot), Tv D cI cZ cS cR N0 s.heap H locs g1 → Inv fr g1 → Ex g g1 → Sm md_s_isLike g g1 → 0 ≤ i.toInt → i.toInt ≤ 6 → 6 ≤ i.toInt + kf → lv_has ls 6 [(4, .int i), (0, .ref h), (1, .ref o), (2, .int n), (3, .int x1)] → W p l e (rmx 2 0 0) s m args below meth c H locs 0 0 (MQ below (tQ D cI cZ cS cR N0 (fun v g' => ∃ (r : Int32), v = some (.int r) ∧ Inv fr g' ∧ Ex g g' ∧ Sm md_s_isLike g g' ∧ (r = 1 ∨ r = 0))) args s 0 0 (fun q => N0.1 ≤ q)) (F0 m 3 ls []) := by
  have hx := hB.1
  have hb := hB.2.1
  intro kf
  induction kf using Nat.strongRecOn with
  | ind kf ih =>
    intro g1 i H locs ls hT hI hE hM l_i u_i hk hl
    have r1_h : g1.1 h = 2 := Ex.r hE r_h (by decide)
    have r1_o : g1.1 o = 1 := Ex.r hE r_o (by decide)
    refine lv_iload hx hb dX1_isLike_3 (lv_at hl 0 rfl) ?_
    refine lv_aload_n hx hb dX1_isLike_5 rfl (lv_at hl 2 rfl) ?_
    obtain ⟨v_1, e_v_1, l_v_1, u_v_1⟩ := hI.f r1_o 3
    refine t_get (ci := 0) (v := .int v_1) hB hT (ro_ci r1_o rfl) rfl 3 (by decide) k_254 e_v_1 dX1_isLike_6 ?_
    refine lv_icmp_ge (tgt := 67) hx hb dX1_isLike_9 (by decide) (fun c_2 => ?_) (fun c_2 => ?_)
    · have c_2' : v_1.toInt ≤ i.toInt := i_le c_2 rfl rfl
      refine lv_iload_n hx hb dX1_isLike_67 rfl (lv_at hl 4 rfl) ?_
      refine lv_if_ne (tgt := 86) hx hb dX1_isLike_68 (by decide) (fun c_3 => ?_) (fun c_3 => ?_)
      · have c_3' : x1.toInt ≠ 0 := i_ne c_3 rfl (by decide)
        refine lv_aload_n hx hb dX1_isLike_86 rfl (lv_at hl 1 rfl) ?_
        obtain ⟨v_4, e_v_4, r_v_4⟩ := hI.f r1_h 2
        refine t_get (ci := 1) (v := .ref v_4) hB hT (ro_ci r1_h rfl) rfl 2 (by decide) k_279 e_v_4 dX1_isLike_87 ?_
        refine lv_aload_n hx hb dX1_isLike_90 rfl (lv_at hl 1 rfl) ?_
        obtain ⟨v_5, e_v_5, r_v_5⟩ := hI.f r1_h 1
        refine t_get (ci := 1) (v := .ref v_5) hB hT (ro_ci r1_h rfl) rfl 1 (by decide) k_278 e_v_5 dX1_isLike_91 ?_
        refine t_callV (n := 1) (ci := 5) (As := [.ref v_5]) (rest := []) hB hT hl.1 (s_wstores l D cI cZ cS cR N0 fr g1 hI v_4 v_5 r_v_4 r_v_5) (ro_ci r_v_4 rfl) rfl k_606 k_59 k_603 k_604 k_605 (by decide +kernel) ⟨(Nat.le_of_ble_eq_true rfl), (Nat.le_of_ble_eq_true rfl)⟩ rfl (Nat.le_of_ble_eq_true rfl) ⟨(Nat.le_of_ble_eq_true rfl), (Nat.le_of_ble_eq_true rfl)⟩ dX1_isLike_94 (fun v g_6 H locs hp hT => ?_)
        obtain ⟨r_7, rfl, hI, x_10, m_9, f_8⟩ := hp
        have r_11 : g_6.1 h = 2 := (Ex.r x_10 r1_h (by decide))
        have r_12 : g_6.1 o = 1 := (Ex.r x_10 r1_o (by decide))
        have r_13 : g_6.1 v_4 = 6 := (Ex.r x_10 r_v_4 (by decide))
        have r_14 : g_6.1 v_5 = 6 := (Ex.r x_10 r_v_5 (by decide))
        have e_15 : g_6.2.1 o 3 = .int v_1 := (Sm.v m_9 r1_o (by decide) rfl e_v_1)
        have e_16 : g_6.2.1 h 2 = .ref v_4 := (Sm.v m_9 r1_h (by decide) rfl e_v_4)
        have e_17 : g_6.2.1 h 1 = .ref v_5 := (Sm.v m_9 r1_h (by decide) rfl e_v_5)
        have hM : Sm md_s_isLike g g_6 := hM.tr hE (m_9.mo (fun r k h => mdle_s_isLike_s_wstores h))
        have hE : Ex g g_6 := hE.tr x_10
        refine W.eq (g2 := F0 m 97 ls [.int r_7]) rfl ?_
        rcases f_8 with rfl | rfl
        · refine W.eq (g2 := F0 m 97 ls [.int 1]) rfl ?_
          refine lv_if_eq (tgt := 132) hx hb dX1_isLike_97 (by decide) (fun c_ => absurd c_ (by decide)) (fun c_ => ?_)
          refine lv_aload_n hx hb dX1_isLike_100 rfl (lv_at hl 1 rfl) ?_
          refine t_get (ci := 1) (v := .ref v_4) hB hT (ro_ci r_11 rfl) rfl 2 (by decide) k_279 e_16 dX1_isLike_101 ?_
          refine lv_aload_n hx hb dX1_isLike_104 rfl (lv_at hl 1 rfl) ?_
          refine t_get (ci := 1) (v := .ref v_5) hB hT (ro_ci r_11 rfl) rfl 1 (by decide) k_278 e_17 dX1_isLike_105 ?_
          refine t_callV (n := 1) (ci := 5) (As := [.ref v_5]) (rest := []) hB hT hl.1 (s_wcounts l D cI cZ cS cR N0 fr g_6 hI v_4 v_5 r_13 r_14) (ro_ci r_13 rfl) rfl k_614 k_59 k_611 k_612 k_613 (by decide +kernel) ⟨(Nat.le_of_ble_eq_true rfl), (Nat.le_of_ble_eq_true rfl)⟩ rfl (Nat.le_of_ble_eq_true rfl) ⟨(Nat.le_of_ble_eq_true rfl), (Nat.le_of_ble_eq_true rfl)⟩ dX1_isLike_108 (fun v g_18 H locs hp hT => ?_)
          obtain ⟨r_19, rfl, hI, x_22, m_21, f_20⟩ := hp
          have r_23 : g_18.1 h = 2 := (Ex.r x_22 r_11 (by decide))
          have r_24 : g_18.1 o = 1 := (Ex.r x_22 r_12 (by decide))
          have r_25 : g_18.1 v_4 = 6 := (Ex.r x_22 r_13 (by decide))
          have r_26 : g_18.1 v_5 = 6 := (Ex.r x_22 r_14 (by decide))
          have e_27 : g_18.2.1 o 3 = .int v_1 := (Sm.v m_21 r_12 (by decide) rfl e_15)
          have e_28 : g_18.2.1 h 2 = .ref v_4 := (Sm.v m_21 r_11 (by decide) rfl e_16)
          have e_29 : g_18.2.1 h 1 = .ref v_5 := (Sm.v m_21 r_11 (by decide) rfl e_17)
          have hM : Sm md_s_isLike g g_18 := hM.tr hE (m_21.mo (fun r k h => mdle_s_isLike_s_wcounts h))
          have hE : Ex g g_18 := hE.tr x_22
          refine W.eq (g2 := F0 m 111 ls [.int r_19]) rfl ?_
          rcases f_20 with rfl | rfl
          · refine W.eq (g2 := F0 m 111 ls [.int 1]) rfl ?_
            refine lv_if_eq (tgt := 132) hx hb dX1_isLike_111 (by decide) (fun c_ => absurd c_ (by decide)) (fun c_ => ?_)
            refine lv_aload_n hx hb dX1_isLike_114 rfl (lv_at hl 1 rfl) ?_
            refine t_get (ci := 1) (v := .ref v_4) hB hT (ro_ci r_23 rfl) rfl 2 (by decide) k_279 e_28 dX1_isLike_115 ?_
            refine lv_aload_n hx hb dX1_isLike_118 rfl (lv_at hl 1 rfl) ?_
            refine t_get (ci := 1) (v := .ref v_5) hB hT (ro_ci r_23 rfl) rfl 1 (by decide) k_278 e_29 dX1_isLike_119 ?_
            refine t_callV (n := 1) (ci := 5) (As := [.ref v_5]) (rest := []) hB hT hl.1 (s_didTheSame l D cI cZ cS cR N0 fr g_18 hI v_4 v_5 r_25 r_26) (ro_ci r_25 rfl) rfl k_618 k_59 k_615 k_616 k_617 (by decide +kernel) ⟨(Nat.le_of_ble_eq_true rfl), (Nat.le_of_ble_eq_true rfl)⟩ rfl (Nat.le_of_ble_eq_true rfl) ⟨(Nat.le_of_ble_eq_true rfl), (Nat.le_of_ble_eq_true rfl)⟩ dX1_isLike_122 (fun v g_30 H locs hp hT => ?_)
            obtain ⟨r_31, rfl, hI, x_34, m_33, f_32⟩ := hp
            have r_35 : g_30.1 h = 2 := (Ex.r x_34 r_23 (by decide))
            have r_36 : g_30.1 o = 1 := (Ex.r x_34 r_24 (by decide))
            have r_37 : g_30.1 v_4 = 6 := (Ex.r x_34 r_25 (by decide))
            have r_38 : g_30.1 v_5 = 6 := (Ex.r x_34 r_26 (by decide))
            have e_39 : g_30.2.1 o 3 = .int v_1 := (Sm.v m_33 r_24 (by decide) rfl e_27)
            have e_40 : g_30.2.1 h 2 = .ref v_4 := (Sm.v m_33 r_23 (by decide) rfl e_28)
            have e_41 : g_30.2.1 h 1 = .ref v_5 := (Sm.v m_33 r_23 (by decide) rfl e_29)
            have hM : Sm md_s_isLike g g_30 := hM.tr hE (m_33.mo (fun r k h => mdle_s_isLike_s_didTheSame h))
            have hE : Ex g g_30 := hE.tr x_34
            refine W.eq (g2 := F0 m 125 ls [.int r_31]) rfl ?_
            rcases f_32 with rfl | rfl
            · refine W.eq (g2 := F0 m 125 ls [.int 1]) rfl ?_
              refine lv_if_eq (tgt := 132) hx hb dX1_isLike_125 (by decide) (fun c_ => absurd c_ (by decide)) (fun c_ => ?_)
              refine lv_iconst (v := 1) hx hb dX1_isLike_128 (by decide) ?_
              refine lv_goto (tgt := 133) hx hb dX1_isLike_129 (by decide) ?_
              exact t_zret hB hr rfl hT (Nat.le_of_ble_eq_true rfl) (Nat.le_of_ble_eq_true rfl) dX1_isLike_133 ⟨1, rfl, hI, hE, hM, (Or.inl rfl)⟩
            · refine W.eq (g2 := F0 m 125 ls [.int 0]) rfl ?_
              refine lv_if_eq (tgt := 132) hx hb dX1_isLike_125 (by decide) (fun c_ => ?_) (fun c_ => absurd (by decide) c_)
              refine lv_iconst (v := 0) hx hb dX1_isLike_132 (by decide) ?_
              exact t_zret hB hr rfl hT (Nat.le_of_ble_eq_true rfl) (Nat.le_of_ble_eq_true rfl) dX1_isLike_133 ⟨0, rfl, hI, hE, hM, (Or.inr rfl)⟩
          · refine W.eq (g2 := F0 m 111 ls [.int 0]) rfl ?_
            refine lv_if_eq (tgt := 132) hx hb dX1_isLike_111 (by decide) (fun c_ => ?_) (fun c_ => absurd (by decide) c_)
            refine lv_iconst (v := 0) hx hb dX1_isLike_132 (by decide) ?_
            exact t_zret hB hr rfl hT (Nat.le_of_ble_eq_true rfl) (Nat.le_of_ble_eq_true rfl) dX1_isLike_133 ⟨0, rfl, hI, hE, hM, (Or.inr rfl)⟩
        · refine W.eq (g2 := F0 m 97 ls [.int 0]) rfl ?_
          refine lv_if_eq (tgt := 132) hx hb dX1_isLike_97 (by decide) (fun c_ => ?_) (fun c_ => absurd (by decide) c_)
          refine lv_iconst (v := 0) hx hb dX1_isLike_132 (by decide) ?_
          exact t_zret hB hr rfl hT (Nat.le_of_ble_eq_true rfl) (Nat.le_of_ble_eq_true rfl) dX1_isLike_133 ⟨0, rfl, hI, hE, hM, (Or.inr rfl)⟩
      · have c_3' : x1.toInt = 0 := i_eq c_3 rfl (by decide)
        refine lv_aload_n hx hb dX1_isLike_71 rfl (lv_at hl 1 rfl) ?_
        obtain ⟨v_42, e_v_42⟩ := hI.f r1_h 6
        refine t_get (ci := 1) (v := .int v_42) hB hT (ro_ci r1_h rfl) rfl 6 (by decide) k_283 e_v_42 dX1_isLike_72 ?_
        refine lv_aload_n hx hb dX1_isLike_75 rfl (lv_at hl 1 rfl) ?_
        obtain ⟨v_43, e_v_43, r_v_43, n_v_43⟩ := hI.f r1_h 3
        refine t_get (ci := 1) (v := .ref v_43) hB hT (ro_ci r1_h rfl) rfl 3 (by decide) k_280 e_v_43 dX1_isLike_76 ?_
        refine lv_iload_n hx hb dX1_isLike_79 rfl (lv_at hl 3 rfl) ?_
        have i_u_44 : vp_in n 6 := (i_in (n := 6) rfl (by omega) (by omega))
        refine t_iald hB hT (ro_in r_v_43 (by decide)) n_v_43 i_u_44 rfl dX1_isLike_80 ?_
        refine lv_topi (fun u_44 e_u_44 => ?_)
        refine lv_icmp_eq (tgt := 86) hx hb dX1_isLike_81 (by decide) (fun c_45 => ?_) (fun c_45 => ?_)
        · have c_45' : v_42.toInt = u_44.toInt := i_eq c_45 rfl rfl
          refine lv_aload_n hx hb dX1_isLike_86 rfl (lv_at hl 1 rfl) ?_
          obtain ⟨v_46, e_v_46, r_v_46⟩ := hI.f r1_h 2
          refine t_get (ci := 1) (v := .ref v_46) hB hT (ro_ci r1_h rfl) rfl 2 (by decide) k_279 e_v_46 dX1_isLike_87 ?_
          refine lv_aload_n hx hb dX1_isLike_90 rfl (lv_at hl 1 rfl) ?_
          obtain ⟨v_47, e_v_47, r_v_47⟩ := hI.f r1_h 1
          refine t_get (ci := 1) (v := .ref v_47) hB hT (ro_ci r1_h rfl) rfl 1 (by decide) k_278 e_v_47 dX1_isLike_91 ?_
          refine t_callV (n := 1) (ci := 5) (As := [.ref v_47]) (rest := []) hB hT hl.1 (s_wstores l D cI cZ cS cR N0 fr g1 hI v_46 v_47 r_v_46 r_v_47) (ro_ci r_v_46 rfl) rfl k_606 k_59 k_603 k_604 k_605 (by decide +kernel) ⟨(Nat.le_of_ble_eq_true rfl), (Nat.le_of_ble_eq_true rfl)⟩ rfl (Nat.le_of_ble_eq_true rfl) ⟨(Nat.le_of_ble_eq_true rfl), (Nat.le_of_ble_eq_true rfl)⟩ dX1_isLike_94 (fun v g_48 H locs hp hT => ?_)
          obtain ⟨r_49, rfl, hI, x_52, m_51, f_50⟩ := hp
          have r_53 : g_48.1 h = 2 := (Ex.r x_52 r1_h (by decide))
          have r_54 : g_48.1 o = 1 := (Ex.r x_52 r1_o (by decide))
          have r_55 : g_48.1 v_43 = 20 := (Ex.r x_52 r_v_43 (by decide))
          have r_56 : g_48.1 v_46 = 6 := (Ex.r x_52 r_v_46 (by decide))
          have r_57 : g_48.1 v_47 = 6 := (Ex.r x_52 r_v_47 (by decide))
          have n_58 : g_48.2.2.1 v_43 = 6 := (Ex.n x_52 r_v_43 (by decide) n_v_43)
          have e_59 : g_48.2.1 o 3 = .int v_1 := (Sm.v m_51 r1_o (by decide) rfl e_v_1)
          have e_60 : g_48.2.1 h 6 = .int v_42 := (Sm.v m_51 r1_h (by decide) rfl e_v_42)
          have e_61 : g_48.2.1 h 3 = .ref v_43 := (Sm.v m_51 r1_h (by decide) rfl e_v_43)
          have e_62 : g_48.2.1 h 2 = .ref v_46 := (Sm.v m_51 r1_h (by decide) rfl e_v_46)
          have e_63 : g_48.2.1 h 1 = .ref v_47 := (Sm.v m_51 r1_h (by decide) rfl e_v_47)
          have hM : Sm md_s_isLike g g_48 := hM.tr hE (m_51.mo (fun r k h => mdle_s_isLike_s_wstores h))
          have hE : Ex g g_48 := hE.tr x_52
          refine W.eq (g2 := F0 m 97 ls [.int r_49]) rfl ?_
          rcases f_50 with rfl | rfl
          · refine W.eq (g2 := F0 m 97 ls [.int 1]) rfl ?_
            refine lv_if_eq (tgt := 132) hx hb dX1_isLike_97 (by decide) (fun c_ => absurd c_ (by decide)) (fun c_ => ?_)
            refine lv_aload_n hx hb dX1_isLike_100 rfl (lv_at hl 1 rfl) ?_
            refine t_get (ci := 1) (v := .ref v_46) hB hT (ro_ci r_53 rfl) rfl 2 (by decide) k_279 e_62 dX1_isLike_101 ?_
            refine lv_aload_n hx hb dX1_isLike_104 rfl (lv_at hl 1 rfl) ?_
            refine t_get (ci := 1) (v := .ref v_47) hB hT (ro_ci r_53 rfl) rfl 1 (by decide) k_278 e_63 dX1_isLike_105 ?_
            refine t_callV (n := 1) (ci := 5) (As := [.ref v_47]) (rest := []) hB hT hl.1 (s_wcounts l D cI cZ cS cR N0 fr g_48 hI v_46 v_47 r_56 r_57) (ro_ci r_56 rfl) rfl k_614 k_59 k_611 k_612 k_613 (by decide +kernel) ⟨(Nat.le_of_ble_eq_true rfl), (Nat.le_of_ble_eq_true rfl)⟩ rfl (Nat.le_of_ble_eq_true rfl) ⟨(Nat.le_of_ble_eq_true rfl), (Nat.le_of_ble_eq_true rfl)⟩ dX1_isLike_108 (fun v g_64 H locs hp hT => ?_)
            obtain ⟨r_65, rfl, hI, x_68, m_67, f_66⟩ := hp
            have r_69 : g_64.1 h = 2 := (Ex.r x_68 r_53 (by decide))
            have r_70 : g_64.1 o = 1 := (Ex.r x_68 r_54 (by decide))
            have r_71 : g_64.1 v_43 = 20 := (Ex.r x_68 r_55 (by decide))
            have r_72 : g_64.1 v_46 = 6 := (Ex.r x_68 r_56 (by decide))
            have r_73 : g_64.1 v_47 = 6 := (Ex.r x_68 r_57 (by decide))
            have n_74 : g_64.2.2.1 v_43 = 6 := (Ex.n x_68 r_55 (by decide) n_58)
            have e_75 : g_64.2.1 o 3 = .int v_1 := (Sm.v m_67 r_54 (by decide) rfl e_59)
            have e_76 : g_64.2.1 h 6 = .int v_42 := (Sm.v m_67 r_53 (by decide) rfl e_60)
            have e_77 : g_64.2.1 h 3 = .ref v_43 := (Sm.v m_67 r_53 (by decide) rfl e_61)
            have e_78 : g_64.2.1 h 2 = .ref v_46 := (Sm.v m_67 r_53 (by decide) rfl e_62)
            have e_79 : g_64.2.1 h 1 = .ref v_47 := (Sm.v m_67 r_53 (by decide) rfl e_63)
            have hM : Sm md_s_isLike g g_64 := hM.tr hE (m_67.mo (fun r k h => mdle_s_isLike_s_wcounts h))
            have hE : Ex g g_64 := hE.tr x_68
            refine W.eq (g2 := F0 m 111 ls [.int r_65]) rfl ?_
            rcases f_66 with rfl | rfl
            · refine W.eq (g2 := F0 m 111 ls [.int 1]) rfl ?_
              refine lv_if_eq (tgt := 132) hx hb dX1_isLike_111 (by decide) (fun c_ => absurd c_ (by decide)) (fun c_ => ?_)
              refine lv_aload_n hx hb dX1_isLike_114 rfl (lv_at hl 1 rfl) ?_
              refine t_get (ci := 1) (v := .ref v_46) hB hT (ro_ci r_69 rfl) rfl 2 (by decide) k_279 e_78 dX1_isLike_115 ?_
              refine lv_aload_n hx hb dX1_isLike_118 rfl (lv_at hl 1 rfl) ?_
              refine t_get (ci := 1) (v := .ref v_47) hB hT (ro_ci r_69 rfl) rfl 1 (by decide) k_278 e_79 dX1_isLike_119 ?_
              refine t_callV (n := 1) (ci := 5) (As := [.ref v_47]) (rest := []) hB hT hl.1 (s_didTheSame l D cI cZ cS cR N0 fr g_64 hI v_46 v_47 r_72 r_73) (ro_ci r_72 rfl) rfl k_618 k_59 k_615 k_616 k_617 (by decide +kernel) ⟨(Nat.le_of_ble_eq_true rfl), (Nat.le_of_ble_eq_true rfl)⟩ rfl (Nat.le_of_ble_eq_true rfl) ⟨(Nat.le_of_ble_eq_true rfl), (Nat.le_of_ble_eq_true rfl)⟩ dX1_isLike_122 (fun v g_80 H locs hp hT => ?_)
              obtain ⟨r_81, rfl, hI, x_84, m_83, f_82⟩ := hp
              have r_85 : g_80.1 h = 2 := (Ex.r x_84 r_69 (by decide))
              have r_86 : g_80.1 o = 1 := (Ex.r x_84 r_70 (by decide))
              have r_87 : g_80.1 v_43 = 20 := (Ex.r x_84 r_71 (by decide))
              have r_88 : g_80.1 v_46 = 6 := (Ex.r x_84 r_72 (by decide))
              have r_89 : g_80.1 v_47 = 6 := (Ex.r x_84 r_73 (by decide))
              have n_90 : g_80.2.2.1 v_43 = 6 := (Ex.n x_84 r_71 (by decide) n_74)
              have e_91 : g_80.2.1 o 3 = .int v_1 := (Sm.v m_83 r_70 (by decide) rfl e_75)
              have e_92 : g_80.2.1 h 6 = .int v_42 := (Sm.v m_83 r_69 (by decide) rfl e_76)
              have e_93 : g_80.2.1 h 3 = .ref v_43 := (Sm.v m_83 r_69 (by decide) rfl e_77)
              have e_94 : g_80.2.1 h 2 = .ref v_46 := (Sm.v m_83 r_69 (by decide) rfl e_78)
              have e_95 : g_80.2.1 h 1 = .ref v_47 := (Sm.v m_83 r_69 (by decide) rfl e_79)
              have hM : Sm md_s_isLike g g_80 := hM.tr hE (m_83.mo (fun r k h => mdle_s_isLike_s_didTheSame h))
              have hE : Ex g g_80 := hE.tr x_84
              refine W.eq (g2 := F0 m 125 ls [.int r_81]) rfl ?_
              rcases f_82 with rfl | rfl
              · refine W.eq (g2 := F0 m 125 ls [.int 1]) rfl ?_
                refine lv_if_eq (tgt := 132) hx hb dX1_isLike_125 (by decide) (fun c_ => absurd c_ (by decide)) (fun c_ => ?_)
                refine lv_iconst (v := 1) hx hb dX1_isLike_128 (by decide) ?_
                refine lv_goto (tgt := 133) hx hb dX1_isLike_129 (by decide) ?_
                exact t_zret hB hr rfl hT (Nat.le_of_ble_eq_true rfl) (Nat.le_of_ble_eq_true rfl) dX1_isLike_133 ⟨1, rfl, hI, hE, hM, (Or.inl rfl)⟩
              · refine W.eq (g2 := F0 m 125 ls [.int 0]) rfl ?_
                refine lv_if_eq (tgt := 132) hx hb dX1_isLike_125 (by decide) (fun c_ => ?_) (fun c_ => absurd (by decide) c_)
                refine lv_iconst (v := 0) hx hb dX1_isLike_132 (by decide) ?_
                exact t_zret hB hr rfl hT (Nat.le_of_ble_eq_true rfl) (Nat.le_of_ble_eq_true rfl) dX1_isLike_133 ⟨0, rfl, hI, hE, hM, (Or.inr rfl)⟩
            · refine W.eq (g2 := F0 m 111 ls [.int 0]) rfl ?_
              refine lv_if_eq (tgt := 132) hx hb dX1_isLike_111 (by decide) (fun c_ => ?_) (fun c_ => absurd (by decide) c_)
              refine lv_iconst (v := 0) hx hb dX1_isLike_132 (by decide) ?_
              exact t_zret hB hr rfl hT (Nat.le_of_ble_eq_true rfl) (Nat.le_of_ble_eq_true rfl) dX1_isLike_133 ⟨0, rfl, hI, hE, hM, (Or.inr rfl)⟩
          · refine W.eq (g2 := F0 m 97 ls [.int 0]) rfl ?_
            refine lv_if_eq (tgt := 132) hx hb dX1_isLike_97 (by decide) (fun c_ => ?_) (fun c_ => absurd (by decide) c_)
            refine lv_iconst (v := 0) hx hb dX1_isLike_132 (by decide) ?_
            exact t_zret hB hr rfl hT (Nat.le_of_ble_eq_true rfl) (Nat.le_of_ble_eq_true rfl) dX1_isLike_133 ⟨0, rfl, hI, hE, hM, (Or.inr rfl)⟩
        · have c_45' : v_42.toInt ≠ u_44.toInt := i_ne c_45 rfl rfl
          refine lv_iconst (v := 0) hx hb dX1_isLike_84 (by decide) ?_
          exact t_zret hB hr rfl hT (Nat.le_of_ble_eq_true rfl) (Nat.le_of_ble_eq_true rfl) dX1_isLike_85 ⟨0, rfl, hI, hE, hM, (Or.inr rfl)⟩
    · have c_2' : i.toInt < v_1.toInt := i_nle c_2 rfl rfl
      refine lv_iload hx hb dX1_isLike_12 (lv_at hl 0 rfl) ?_
      refine lv_iload_n hx hb dX1_isLike_14 rfl (lv_at hl 3 rfl) ?_
      refine lv_icmp_ne (tgt := 30) hx hb dX1_isLike_15 (by decide) (fun c_96 => ?_) (fun c_96 => ?_)
      · have c_96' : i.toInt ≠ n.toInt := i_ne c_96 rfl rfl
        refine lv_iconst (v := 1) hx hb dX1_isLike_30 (by decide) ?_
        refine lv_goto (tgt := 35) hx hb dX1_isLike_31 (by decide) ?_
        refine lv_istore (lv' := [(5, .int 1), (4, .int i), (0, .ref h), (1, .ref o), (2, .int n), (3, .int x1)]) hx hb dX1_isLike_35 hl (by decide) rfl (fun ls hl => ?_)
        refine lv_iload hx hb dX1_isLike_37 (lv_at hl 0 rfl) ?_
        refine lv_if_eq (tgt := 61) hx hb dX1_isLike_39 (by decide) (fun c_ => absurd c_ (by decide)) (fun c_ => ?_)
        refine lv_aload_n hx hb dX1_isLike_42 rfl (lv_at hl 2 rfl) ?_
        obtain ⟨v_97, e_v_97, r_v_97, n_v_97⟩ := hI.f r1_h 5
        refine t_get (ci := 1) (v := .ref v_97) hB hT (ro_ci r1_h rfl) rfl 5 (by decide) k_282 e_v_97 dX1_isLike_43 ?_
        refine lv_iload hx hb dX1_isLike_46 (lv_at hl 1 rfl) ?_
        have i_u_98 : vp_in i 6 := (i_in (n := 6) rfl (by omega) (by omega))
        refine t_iald hB hT (ro_in r_v_97 (by decide)) n_v_97 i_u_98 rfl dX1_isLike_48 ?_
        refine lv_topi (fun u_98 e_u_98 => ?_)
        refine lv_aload_n hx hb dX1_isLike_49 rfl (lv_at hl 2 rfl) ?_
        obtain ⟨v_99, e_v_99, r_v_99, n_v_99⟩ := hI.f r1_h 3
        refine t_get (ci := 1) (v := .ref v_99) hB hT (ro_ci r1_h rfl) rfl 3 (by decide) k_280 e_v_99 dX1_isLike_50 ?_
        refine lv_iload hx hb dX1_isLike_53 (lv_at hl 1 rfl) ?_
        have i_u_100 : vp_in i 6 := (i_in (n := 6) rfl (by omega) (by omega))
        refine t_iald hB hT (ro_in r_v_99 (by decide)) n_v_99 i_u_100 rfl dX1_isLike_55 ?_
        refine lv_topi (fun u_100 e_u_100 => ?_)
        refine lv_icmp_eq (tgt := 61) hx hb dX1_isLike_56 (by decide) (fun c_101 => ?_) (fun c_101 => ?_)
        · have c_101' : u_98.toInt = u_100.toInt := i_eq c_101 rfl rfl
          obtain ⟨z_102, ez_102⟩ : ∃ z : Int32, z = i + 1 := ⟨_, rfl⟩
          have e_z_102 : z_102.toInt = i.toInt + 1 := i_add ez_102 rfl (by decide) (by omega) (by omega)
          refine lv_iinc (v := z_102) (lv' := [(4, .int z_102), (5, .int 1), (0, .ref h), (1, .ref o), (2, .int n), (3, .int x1)]) hx hb dX1_isLike_61 hl (k := 1) rfl (by rw [ez_102]; rfl) (by decide) rfl (fun ls hl => ?_)
          refine lv_goto (tgt := 3) hx hb dX1_isLike_64 (by decide) ?_
          exact ih (kf - 1) (by omega) g1 z_102 H locs ls hT hI hE hM (by omega) (by omega) (by have e0 := z0; omega) (lv_sub hl [0, 2, 3, 4, 5] rfl)
        · have c_101' : u_98.toInt ≠ u_100.toInt := i_ne c_101 rfl rfl
          refine lv_iconst (v := 0) hx hb dX1_isLike_59 (by decide) ?_
          exact t_zret hB hr rfl hT (Nat.le_of_ble_eq_true rfl) (Nat.le_of_ble_eq_true rfl) dX1_isLike_60 ⟨0, rfl, hI, hE, hM, (Or.inr rfl)⟩
      · have c_96' : i.toInt = n.toInt := i_eq c_96 rfl rfl
        refine lv_aload_n hx hb dX1_isLike_18 rfl (lv_at hl 1 rfl) ?_
        obtain ⟨v_103, e_v_103, r_v_103, n_v_103⟩ := hI.f r1_h 5
        refine t_get (ci := 1) (v := .ref v_103) hB hT (ro_ci r1_h rfl) rfl 5 (by decide) k_282 e_v_103 dX1_isLike_19 ?_
        refine lv_iload hx hb dX1_isLike_22 (lv_at hl 0 rfl) ?_
        have i_u_104 : vp_in i 6 := (i_in (n := 6) rfl (by omega) (by omega))
        refine t_iald hB hT (ro_in r_v_103 (by decide)) n_v_103 i_u_104 rfl dX1_isLike_24 ?_
        refine lv_topi (fun u_104 e_u_104 => ?_)
        refine lv_bipush (v := (-2)) hx hb dX1_isLike_25 (by decide) ?_
        refine lv_icmp_eq (tgt := 34) hx hb dX1_isLike_27 (by decide) (fun c_105 => ?_) (fun c_105 => ?_)
        · have c_105' : u_104.toInt = (-2) := i_eq c_105 rfl (by decide)
          refine lv_iconst (v := 0) hx hb dX1_isLike_34 (by decide) ?_
          refine lv_istore (lv' := [(5, .int 0), (4, .int i), (0, .ref h), (1, .ref o), (2, .int n), (3, .int x1)]) hx hb dX1_isLike_35 hl (by decide) rfl (fun ls hl => ?_)
          refine lv_iload hx hb dX1_isLike_37 (lv_at hl 0 rfl) ?_
          refine lv_if_eq (tgt := 61) hx hb dX1_isLike_39 (by decide) (fun c_ => ?_) (fun c_ => absurd (by decide) c_)
          obtain ⟨z_106, ez_106⟩ : ∃ z : Int32, z = i + 1 := ⟨_, rfl⟩
          have e_z_106 : z_106.toInt = i.toInt + 1 := i_add ez_106 rfl (by decide) (by omega) (by omega)
          refine lv_iinc (v := z_106) (lv' := [(4, .int z_106), (5, .int 0), (0, .ref h), (1, .ref o), (2, .int n), (3, .int x1)]) hx hb dX1_isLike_61 hl (k := 1) rfl (by rw [ez_106]; rfl) (by decide) rfl (fun ls hl => ?_)
          refine lv_goto (tgt := 3) hx hb dX1_isLike_64 (by decide) ?_
          exact ih (kf - 1) (by omega) g1 z_106 H locs ls hT hI hE hM (by omega) (by omega) (by have e0 := z0; omega) (lv_sub hl [0, 2, 3, 4, 5] rfl)
        · have c_105' : u_104.toInt ≠ (-2) := i_ne c_105 rfl (by decide)
          refine lv_iconst (v := 1) hx hb dX1_isLike_30 (by decide) ?_
          refine lv_goto (tgt := 35) hx hb dX1_isLike_31 (by decide) ?_
          refine lv_istore (lv' := [(5, .int 1), (4, .int i), (0, .ref h), (1, .ref o), (2, .int n), (3, .int x1)]) hx hb dX1_isLike_35 hl (by decide) rfl (fun ls hl => ?_)
          refine lv_iload hx hb dX1_isLike_37 (lv_at hl 0 rfl) ?_
          refine lv_if_eq (tgt := 61) hx hb dX1_isLike_39 (by decide) (fun c_ => absurd c_ (by decide)) (fun c_ => ?_)
          refine lv_aload_n hx hb dX1_isLike_42 rfl (lv_at hl 2 rfl) ?_
          refine t_get (ci := 1) (v := .ref v_103) hB hT (ro_ci r1_h rfl) rfl 5 (by decide) k_282 e_v_103 dX1_isLike_43 ?_
          refine lv_iload hx hb dX1_isLike_46 (lv_at hl 1 rfl) ?_
          have i_u_107 : vp_in i 6 := (i_in (n := 6) rfl (by omega) (by omega))
          refine t_iald hB hT (ro_in r_v_103 (by decide)) n_v_103 i_u_107 rfl dX1_isLike_48 ?_
          refine lv_topi (fun u_107 e_u_107 => ?_)
          refine lv_aload_n hx hb dX1_isLike_49 rfl (lv_at hl 2 rfl) ?_
          obtain ⟨v_108, e_v_108, r_v_108, n_v_108⟩ := hI.f r1_h 3
          refine t_get (ci := 1) (v := .ref v_108) hB hT (ro_ci r1_h rfl) rfl 3 (by decide) k_280 e_v_108 dX1_isLike_50 ?_
          refine lv_iload hx hb dX1_isLike_53 (lv_at hl 1 rfl) ?_
          have i_u_109 : vp_in i 6 := (i_in (n := 6) rfl (by omega) (by omega))
          refine t_iald hB hT (ro_in r_v_108 (by decide)) n_v_108 i_u_109 rfl dX1_isLike_55 ?_
          refine lv_topi (fun u_109 e_u_109 => ?_)
          refine lv_icmp_eq (tgt := 61) hx hb dX1_isLike_56 (by decide) (fun c_110 => ?_) (fun c_110 => ?_)
          · have c_110' : u_107.toInt = u_109.toInt := i_eq c_110 rfl rfl
            obtain ⟨z_111, ez_111⟩ : ∃ z : Int32, z = i + 1 := ⟨_, rfl⟩
            have e_z_111 : z_111.toInt = i.toInt + 1 := i_add ez_111 rfl (by decide) (by omega) (by omega)
            refine lv_iinc (v := z_111) (lv' := [(4, .int z_111), (5, .int 1), (0, .ref h), (1, .ref o), (2, .int n), (3, .int x1)]) hx hb dX1_isLike_61 hl (k := 1) rfl (by rw [ez_111]; rfl) (by decide) rfl (fun ls hl => ?_)
            refine lv_goto (tgt := 3) hx hb dX1_isLike_64 (by decide) ?_
            exact ih (kf - 1) (by omega) g1 z_111 H locs ls hT hI hE hM (by omega) (by omega) (by have e0 := z0; omega) (lv_sub hl [0, 2, 3, 4, 5] rfl)
          · have c_110' : u_107.toInt ≠ u_109.toInt := i_ne c_110 rfl rfl
            refine lv_iconst (v := 0) hx hb dX1_isLike_59 (by decide) ?_
            exact t_zret hB hr rfl hT (Nat.le_of_ble_eq_true rfl) (Nat.le_of_ble_eq_true rfl) dX1_isLike_60 ⟨0, rfl, hI, hE, hM, (Or.inr rfl)⟩
set_option maxHeartbeats 4000000 in
set_option maxRecDepth 100000 in
theorem s_isLike (l : Launch) (D : va_G) (cI cZ cS cR : ClassId) (N0 : NT) (fr : Int32) (g : GS) (hI : Inv fr g) (h : Nat) (o : Nat) (n : Int32) (x1 : Int32) (r_h : g.1 h = 2) (r_o : g.1 o = 1) (l_n : 0 ≤ n.toInt) (u_n : n.toInt ≤ 5) : Ty l D cI cZ cS cR N0 yX1_isLike cX1_isLike 6 (some .boolean) 2 0 0 [.ref h, .ref o, .int n, .int x1] g (fun v g' => ∃ (r : Int32), v = some (.int r) ∧ Inv fr g' ∧ Ex g g' ∧ Sm md_s_isLike g g' ∧ (r = 1 ∨ r = 0)) := by
  refine t_enter (by decide) (Nat.le_of_ble_eq_true rfl) ?_
  intro p e s m args below meth c ls H locs hB hr hin hl hT
  have hx := hB.1
  have hb := hB.2.1
  have hl : lv_has ls 6 [(0, .ref h), (1, .ref o), (2, .int n), (3, .int x1)] := hl
  have hE : Ex g g := Ex.rf
  have hM : Sm md_s_isLike g g := Sm.rf
  refine lv_iconst (v := 0) hx hb dX1_isLike_0 (by decide) ?_
  refine lv_istore (lv' := [(4, .int 0), (0, .ref h), (1, .ref o), (2, .int n), (3, .int x1)]) hx hb dX1_isLike_1 hl (by decide) rfl (fun ls hl => ?_)
  exact lt_s_isLike_a l D cI cZ cS cR N0 fr g h o n x1 r_h r_o l_n u_n hB hr 6 g (0 : Int32) H locs ls hT hI hE hM (by decide) (by decide) (by have e0 := z0; omega) (lv_sub hl [0, 1, 2, 3, 4] rfl)
