theorem k_212 : Cond.fieldLink RX1 125 "TwiceOnce$World" "doneInAll" "I" ∈ tb := mt 212 (by decide +kernel) rfl
theorem k_214 : Cond.fieldLink RX1 71 "TwiceOnce$World" "came" "I" ∈ tb := mt 214 (by decide +kernel) rfl
theorem k_244 : Cond.fieldLink RX1 58 "TwiceOnce$CallList" "services" "[I" ∈ tb := mt 244 (by decide +kernel) rfl
theorem k_248 : Cond.fieldLink RX1 61 "TwiceOnce$CallList" "xs" "[I" ∈ tb := mt 248 (by decide +kernel) rfl
theorem k_251 : Cond.fieldLink RX1 64 "TwiceOnce$CallList" "keys" "[I" ∈ tb := mt 251 (by decide +kernel) rfl
theorem k_254 : Cond.fieldLink RX1 53 "TwiceOnce$CallList" "size" "I" ∈ tb := mt 254 (by decide +kernel) rfl
theorem k_276 : Cond.fieldLink RX1 12 "TwiceOnce$Judge" "start" "LTwiceOnce$World;" ∈ tb := mt 276 (by decide +kernel) rfl
theorem k_278 : Cond.fieldLink RX1 18 "TwiceOnce$Judge" "once" "LTwiceOnce$World;" ∈ tb := mt 278 (by decide +kernel) rfl
theorem k_279 : Cond.fieldLink RX1 21 "TwiceOnce$Judge" "twice" "LTwiceOnce$World;" ∈ tb := mt 279 (by decide +kernel) rfl
theorem k_280 : Cond.fieldLink RX1 24 "TwiceOnce$Judge" "onceAnswers" "[I" ∈ tb := mt 280 (by decide +kernel) rfl
theorem k_281 : Cond.fieldLink RX1 28 "TwiceOnce$Judge" "onceCame" "[I" ∈ tb := mt 281 (by decide +kernel) rfl
theorem k_282 : Cond.fieldLink RX1 31 "TwiceOnce$Judge" "twiceAnswers" "[I" ∈ tb := mt 282 (by decide +kernel) rfl
theorem k_283 : Cond.fieldLink RX1 34 "TwiceOnce$Judge" "againAnswer" "I" ∈ tb := mt 283 (by decide +kernel) rfl
theorem k_498 : Cond.instanceMethod yX5_fromOutside ∈ tb := mt 498 (by decide +kernel) rfl
theorem k_499 : Cond.selects RX5 yX5_fromOutside yX5_fromOutside ∈ tb := mt 499 (by decide +kernel) rfl
set_option maxRecDepth 20000 in
theorem k_500 : Cond.code yX5_fromOutside cX5_fromOutside 6 (some .int) ∈ tb := mt 500 rfl rfl
theorem k_582 : Cond.methodLink RX1 49 yX5_copyFrom ∈ tb := mt 582 (by decide +kernel) rfl
theorem k_583 : Cond.instanceMethod yX5_copyFrom ∈ tb := mt 583 (by decide +kernel) rfl
theorem k_584 : Cond.selects RX5 yX5_copyFrom yX5_copyFrom ∈ tb := mt 584 (by decide +kernel) rfl
set_option maxRecDepth 20000 in
theorem k_585 : Cond.code yX5_copyFrom cX5_copyFrom 3 none ∈ tb := mt 585 rfl rfl
theorem k_594 : Cond.methodLink RX1 67 yX5_fromOutside ∈ tb := mt 594 (by decide +kernel) rfl
theorem k_603 : Cond.methodLink RX1 74 yX5_hasSameStores ∈ tb := mt 603 (by decide +kernel) rfl
theorem k_604 : Cond.instanceMethod yX5_hasSameStores ∈ tb := mt 604 (by decide +kernel) rfl
theorem k_605 : Cond.selects RX5 yX5_hasSameStores yX5_hasSameStores ∈ tb := mt 605 (by decide +kernel) rfl
set_option maxRecDepth 20000 in
theorem k_606 : Cond.code yX5_hasSameStores cX5_hasSameStores 3 (some .boolean) ∈ tb := mt 606 rfl rfl
theorem k_611 : Cond.methodLink RX1 78 yX5_hasSameCounts ∈ tb := mt 611 (by decide +kernel) rfl
theorem k_612 : Cond.instanceMethod yX5_hasSameCounts ∈ tb := mt 612 (by decide +kernel) rfl
theorem k_613 : Cond.selects RX5 yX5_hasSameCounts yX5_hasSameCounts ∈ tb := mt 613 (by decide +kernel) rfl
set_option maxRecDepth 20000 in
theorem k_614 : Cond.code yX5_hasSameCounts cX5_hasSameCounts 3 (some .boolean) ∈ tb := mt 614 rfl rfl
theorem k_615 : Cond.methodLink RX1 81 yX5_didTheSame ∈ tb := mt 615 (by decide +kernel) rfl
theorem k_616 : Cond.instanceMethod yX5_didTheSame ∈ tb := mt 616 (by decide +kernel) rfl
theorem k_617 : Cond.selects RX5 yX5_didTheSame yX5_didTheSame ∈ tb := mt 617 (by decide +kernel) rfl
set_option maxRecDepth 20000 in
theorem k_618 : Cond.code yX5_didTheSame cX5_didTheSame 3 (some .boolean) ∈ tb := mt 618 rfl rfl
theorem dX1_beginAt_0 : decode cX1_beginAt 0 = .ok (.aload_n 0, 1) := by decide +kernel
theorem dX1_beginAt_1 : decode cX1_beginAt 1 = .ok (.getfield 12, 3) := by decide +kernel
theorem dX1_beginAt_4 : decode cX1_beginAt 4 = .ok (.aload_n 1, 1) := by decide +kernel
theorem dX1_beginAt_5 : decode cX1_beginAt 5 = .ok (.invokevirtual 49, 3) := by decide +kernel
theorem dX1_beginAt_8 : decode cX1_beginAt 8 = .ok (.return_, 1) := by decide +kernel
theorem dX1_runOnce_13 : decode cX1_runOnce 13 = .ok (.iload_n 2, 1) := by decide +kernel
theorem dX1_runOnce_14 : decode cX1_runOnce 14 = .ok (.aload_n 1, 1) := by decide +kernel
theorem dX1_runOnce_15 : decode cX1_runOnce 15 = .ok (.getfield 53, 3) := by decide +kernel
theorem dX1_runOnce_18 : decode cX1_runOnce 18 = .ok (.if_icmp .ge 54, 3) := by decide +kernel
theorem dX1_runOnce_72 : decode cX1_runOnce 72 = .ok (.return_, 1) := by decide +kernel
theorem dX1_runOnce_21 : decode cX1_runOnce 21 = .ok (.aload_n 0, 1) := by decide +kernel
theorem dX1_runOnce_22 : decode cX1_runOnce 22 = .ok (.getfield 24, 3) := by decide +kernel
theorem dX1_runOnce_25 : decode cX1_runOnce 25 = .ok (.iload_n 2, 1) := by decide +kernel
theorem dX1_runOnce_26 : decode cX1_runOnce 26 = .ok (.aload_n 0, 1) := by decide +kernel
theorem dX1_runOnce_27 : decode cX1_runOnce 27 = .ok (.getfield 18, 3) := by decide +kernel
theorem dX1_runOnce_30 : decode cX1_runOnce 30 = .ok (.aload_n 1, 1) := by decide +kernel
theorem dX1_runOnce_31 : decode cX1_runOnce 31 = .ok (.getfield 58, 3) := by decide +kernel
theorem dX1_runOnce_34 : decode cX1_runOnce 34 = .ok (.iload_n 2, 1) := by decide +kernel
theorem dX1_runOnce_35 : decode cX1_runOnce 35 = .ok (.iaload, 1) := by decide +kernel
theorem dX1_runOnce_36 : decode cX1_runOnce 36 = .ok (.aload_n 1, 1) := by decide +kernel
theorem dX1_runOnce_37 : decode cX1_runOnce 37 = .ok (.getfield 61, 3) := by decide +kernel
theorem dX1_runOnce_40 : decode cX1_runOnce 40 = .ok (.iload_n 2, 1) := by decide +kernel
theorem dX1_runOnce_41 : decode cX1_runOnce 41 = .ok (.iaload, 1) := by decide +kernel
theorem dX1_runOnce_42 : decode cX1_runOnce 42 = .ok (.aload_n 1, 1) := by decide +kernel
theorem dX1_runOnce_43 : decode cX1_runOnce 43 = .ok (.getfield 64, 3) := by decide +kernel
theorem dX1_runOnce_46 : decode cX1_runOnce 46 = .ok (.iload_n 2, 1) := by decide +kernel
theorem dX1_runOnce_47 : decode cX1_runOnce 47 = .ok (.iaload, 1) := by decide +kernel
theorem dX1_runOnce_48 : decode cX1_runOnce 48 = .ok (.iconst 0, 1) := by decide +kernel
theorem dX1_runOnce_49 : decode cX1_runOnce 49 = .ok (.invokevirtual 67, 3) := by decide +kernel
theorem dX1_runOnce_52 : decode cX1_runOnce 52 = .ok (.iastore, 1) := by decide +kernel
theorem dX1_runOnce_53 : decode cX1_runOnce 53 = .ok (.aload_n 0, 1) := by decide +kernel
theorem dX1_runOnce_54 : decode cX1_runOnce 54 = .ok (.getfield 28, 3) := by decide +kernel
theorem dX1_runOnce_57 : decode cX1_runOnce 57 = .ok (.iload_n 2, 1) := by decide +kernel
theorem dX1_runOnce_58 : decode cX1_runOnce 58 = .ok (.aload_n 0, 1) := by decide +kernel
theorem dX1_runOnce_59 : decode cX1_runOnce 59 = .ok (.getfield 18, 3) := by decide +kernel
theorem dX1_runOnce_62 : decode cX1_runOnce 62 = .ok (.getfield 71, 3) := by decide +kernel
theorem dX1_runOnce_65 : decode cX1_runOnce 65 = .ok (.iastore, 1) := by decide +kernel
theorem dX1_runOnce_66 : decode cX1_runOnce 66 = .ok (.iinc 2 1, 3) := by decide +kernel
theorem dX1_runOnce_69 : decode cX1_runOnce 69 = .ok (.goto (-56), 3) := by decide +kernel
theorem dX1_runOnce_0 : decode cX1_runOnce 0 = .ok (.aload_n 0, 1) := by decide +kernel
theorem dX1_runOnce_1 : decode cX1_runOnce 1 = .ok (.getfield 18, 3) := by decide +kernel
theorem dX1_runOnce_4 : decode cX1_runOnce 4 = .ok (.aload_n 0, 1) := by decide +kernel
theorem dX1_runOnce_5 : decode cX1_runOnce 5 = .ok (.getfield 12, 3) := by decide +kernel
theorem dX1_runOnce_8 : decode cX1_runOnce 8 = .ok (.invokevirtual 49, 3) := by decide +kernel
theorem dX1_runOnce_11 : decode cX1_runOnce 11 = .ok (.iconst 0, 1) := by decide +kernel
theorem dX1_runOnce_12 : decode cX1_runOnce 12 = .ok (.istore_n 2, 1) := by decide +kernel
theorem dX1_isStill_13 : decode cX1_isStill 13 = .ok (.iload_n 2, 1) := by decide +kernel
theorem dX1_isStill_14 : decode cX1_isStill 14 = .ok (.aload_n 1, 1) := by decide +kernel
theorem dX1_isStill_15 : decode cX1_isStill 15 = .ok (.getfield 53, 3) := by decide +kernel
theorem dX1_isStill_18 : decode cX1_isStill 18 = .ok (.if_icmp .ge 36, 3) := by decide +kernel
theorem dX1_isStill_54 : decode cX1_isStill 54 = .ok (.aload_n 0, 1) := by decide +kernel
theorem dX1_isStill_55 : decode cX1_isStill 55 = .ok (.getfield 21, 3) := by decide +kernel
theorem dX1_isStill_58 : decode cX1_isStill 58 = .ok (.getfield 125, 3) := by decide +kernel
theorem dX1_isStill_61 : decode cX1_isStill 61 = .ok (.ifCond .ne 35, 3) := by decide +kernel
theorem dX1_isStill_96 : decode cX1_isStill 96 = .ok (.iconst 0, 1) := by decide +kernel
theorem dX1_isStill_97 : decode cX1_isStill 97 = .ok (.ireturn, 1) := by decide +kernel
theorem dX1_isStill_64 : decode cX1_isStill 64 = .ok (.aload_n 0, 1) := by decide +kernel
theorem dX1_isStill_65 : decode cX1_isStill 65 = .ok (.getfield 21, 3) := by decide +kernel
theorem dX1_isStill_68 : decode cX1_isStill 68 = .ok (.aload_n 0, 1) := by decide +kernel
theorem dX1_isStill_69 : decode cX1_isStill 69 = .ok (.getfield 12, 3) := by decide +kernel
theorem dX1_isStill_72 : decode cX1_isStill 72 = .ok (.invokevirtual 74, 3) := by decide +kernel
theorem dX1_isStill_75 : decode cX1_isStill 75 = .ok (.ifCond .eq 21, 3) := by decide +kernel
theorem dX1_isStill_78 : decode cX1_isStill 78 = .ok (.aload_n 0, 1) := by decide +kernel
theorem dX1_isStill_79 : decode cX1_isStill 79 = .ok (.getfield 21, 3) := by decide +kernel
theorem dX1_isStill_82 : decode cX1_isStill 82 = .ok (.aload_n 0, 1) := by decide +kernel
theorem dX1_isStill_83 : decode cX1_isStill 83 = .ok (.getfield 12, 3) := by decide +kernel
theorem dX1_isStill_86 : decode cX1_isStill 86 = .ok (.invokevirtual 78, 3) := by decide +kernel
theorem dX1_isStill_89 : decode cX1_isStill 89 = .ok (.ifCond .eq 7, 3) := by decide +kernel
theorem dX1_isStill_92 : decode cX1_isStill 92 = .ok (.iconst 1, 1) := by decide +kernel
theorem dX1_isStill_93 : decode cX1_isStill 93 = .ok (.goto 4, 3) := by decide +kernel
theorem dX1_isStill_21 : decode cX1_isStill 21 = .ok (.aload_n 0, 1) := by decide +kernel
theorem dX1_isStill_22 : decode cX1_isStill 22 = .ok (.getfield 21, 3) := by decide +kernel
theorem dX1_isStill_25 : decode cX1_isStill 25 = .ok (.aload_n 1, 1) := by decide +kernel
theorem dX1_isStill_26 : decode cX1_isStill 26 = .ok (.getfield 58, 3) := by decide +kernel
theorem dX1_isStill_29 : decode cX1_isStill 29 = .ok (.iload_n 2, 1) := by decide +kernel
theorem dX1_isStill_30 : decode cX1_isStill 30 = .ok (.iaload, 1) := by decide +kernel
theorem dX1_isStill_31 : decode cX1_isStill 31 = .ok (.aload_n 1, 1) := by decide +kernel
theorem dX1_isStill_32 : decode cX1_isStill 32 = .ok (.getfield 61, 3) := by decide +kernel
theorem dX1_isStill_35 : decode cX1_isStill 35 = .ok (.iload_n 2, 1) := by decide +kernel
theorem dX1_isStill_36 : decode cX1_isStill 36 = .ok (.iaload, 1) := by decide +kernel
theorem dX1_isStill_37 : decode cX1_isStill 37 = .ok (.aload_n 1, 1) := by decide +kernel
theorem dX1_isStill_38 : decode cX1_isStill 38 = .ok (.getfield 64, 3) := by decide +kernel
theorem dX1_isStill_41 : decode cX1_isStill 41 = .ok (.iload_n 2, 1) := by decide +kernel
theorem dX1_isStill_42 : decode cX1_isStill 42 = .ok (.iaload, 1) := by decide +kernel
theorem dX1_isStill_43 : decode cX1_isStill 43 = .ok (.iconst 0, 1) := by decide +kernel
theorem dX1_isStill_44 : decode cX1_isStill 44 = .ok (.invokevirtual 67, 3) := by decide +kernel
theorem dX1_isStill_47 : decode cX1_isStill 47 = .ok (.pop, 1) := by decide +kernel
theorem dX1_isStill_48 : decode cX1_isStill 48 = .ok (.iinc 2 1, 3) := by decide +kernel
theorem dX1_isStill_51 : decode cX1_isStill 51 = .ok (.goto (-38), 3) := by decide +kernel
theorem dX1_isStill_0 : decode cX1_isStill 0 = .ok (.aload_n 0, 1) := by decide +kernel
theorem dX1_isStill_1 : decode cX1_isStill 1 = .ok (.getfield 21, 3) := by decide +kernel
theorem dX1_isStill_4 : decode cX1_isStill 4 = .ok (.aload_n 0, 1) := by decide +kernel
theorem dX1_isStill_5 : decode cX1_isStill 5 = .ok (.getfield 12, 3) := by decide +kernel
theorem dX1_isStill_8 : decode cX1_isStill 8 = .ok (.invokevirtual 49, 3) := by decide +kernel
theorem dX1_isStill_11 : decode cX1_isStill 11 = .ok (.iconst 0, 1) := by decide +kernel
theorem dX1_isStill_12 : decode cX1_isStill 12 = .ok (.istore_n 2, 1) := by decide +kernel
theorem dX1_runTwice_14 : decode cX1_runTwice 14 = .ok (.iload 5, 2) := by decide +kernel
theorem dX1_runTwice_16 : decode cX1_runTwice 16 = .ok (.aload_n 1, 1) := by decide +kernel
theorem dX1_runTwice_17 : decode cX1_runTwice 17 = .ok (.getfield 53, 3) := by decide +kernel
theorem dX1_runTwice_20 : decode cX1_runTwice 20 = .ok (.if_icmp .ge 98, 3) := by decide +kernel
theorem dX1_runTwice_118 : decode cX1_runTwice 118 = .ok (.return_, 1) := by decide +kernel
theorem dX1_runTwice_23 : decode cX1_runTwice 23 = .ok (.iload 5, 2) := by decide +kernel
theorem dX1_runTwice_25 : decode cX1_runTwice 25 = .ok (.iload_n 2, 1) := by decide +kernel
theorem dX1_runTwice_26 : decode cX1_runTwice 26 = .ok (.if_icmp .ne 8, 3) := by decide +kernel
theorem dX1_runTwice_34 : decode cX1_runTwice 34 = .ok (.iconst 0, 1) := by decide +kernel
theorem dX1_runTwice_35 : decode cX1_runTwice 35 = .ok (.istore 6, 2) := by decide +kernel
theorem dX1_runTwice_37 : decode cX1_runTwice 37 = .ok (.aload_n 0, 1) := by decide +kernel
theorem dX1_runTwice_38 : decode cX1_runTwice 38 = .ok (.getfield 31, 3) := by decide +kernel
theorem dX1_runTwice_41 : decode cX1_runTwice 41 = .ok (.iload 5, 2) := by decide +kernel
theorem dX1_runTwice_43 : decode cX1_runTwice 43 = .ok (.aload_n 0, 1) := by decide +kernel
theorem dX1_runTwice_44 : decode cX1_runTwice 44 = .ok (.getfield 21, 3) := by decide +kernel
theorem dX1_runTwice_47 : decode cX1_runTwice 47 = .ok (.aload_n 1, 1) := by decide +kernel
theorem dX1_runTwice_48 : decode cX1_runTwice 48 = .ok (.getfield 58, 3) := by decide +kernel
theorem dX1_runTwice_51 : decode cX1_runTwice 51 = .ok (.iload 5, 2) := by decide +kernel
theorem dX1_runTwice_53 : decode cX1_runTwice 53 = .ok (.iaload, 1) := by decide +kernel
theorem dX1_runTwice_54 : decode cX1_runTwice 54 = .ok (.aload_n 1, 1) := by decide +kernel
theorem dX1_runTwice_55 : decode cX1_runTwice 55 = .ok (.getfield 61, 3) := by decide +kernel
theorem dX1_runTwice_58 : decode cX1_runTwice 58 = .ok (.iload 5, 2) := by decide +kernel
theorem dX1_runTwice_60 : decode cX1_runTwice 60 = .ok (.iaload, 1) := by decide +kernel
theorem dX1_runTwice_61 : decode cX1_runTwice 61 = .ok (.aload_n 1, 1) := by decide +kernel
theorem dX1_runTwice_62 : decode cX1_runTwice 62 = .ok (.getfield 64, 3) := by decide +kernel
theorem dX1_runTwice_65 : decode cX1_runTwice 65 = .ok (.iload 5, 2) := by decide +kernel
theorem dX1_runTwice_67 : decode cX1_runTwice 67 = .ok (.iaload, 1) := by decide +kernel
theorem dX1_runTwice_68 : decode cX1_runTwice 68 = .ok (.iload 6, 2) := by decide +kernel
theorem dX1_runTwice_70 : decode cX1_runTwice 70 = .ok (.invokevirtual 67, 3) := by decide +kernel
theorem dX1_runTwice_73 : decode cX1_runTwice 73 = .ok (.iastore, 1) := by decide +kernel
theorem dX1_runTwice_74 : decode cX1_runTwice 74 = .ok (.iload 5, 2) := by decide +kernel
theorem dX1_runTwice_76 : decode cX1_runTwice 76 = .ok (.iload_n 2, 1) := by decide +kernel
theorem dX1_runTwice_77 : decode cX1_runTwice 77 = .ok (.iload_n 3, 1) := by decide +kernel
theorem dX1_runTwice_78 : decode cX1_runTwice 78 = .ok (.iadd, 1) := by decide +kernel
theorem dX1_runTwice_79 : decode cX1_runTwice 79 = .ok (.if_icmp .ne 33, 3) := by decide +kernel
theorem dX1_runTwice_112 : decode cX1_runTwice 112 = .ok (.iinc 5 1, 3) := by decide +kernel
theorem dX1_runTwice_115 : decode cX1_runTwice 115 = .ok (.goto (-101), 3) := by decide +kernel
theorem dX1_runTwice_82 : decode cX1_runTwice 82 = .ok (.aload_n 0, 1) := by decide +kernel
theorem dX1_runTwice_83 : decode cX1_runTwice 83 = .ok (.aload_n 0, 1) := by decide +kernel
theorem dX1_runTwice_84 : decode cX1_runTwice 84 = .ok (.getfield 21, 3) := by decide +kernel
theorem dX1_runTwice_87 : decode cX1_runTwice 87 = .ok (.aload_n 1, 1) := by decide +kernel
theorem dX1_runTwice_88 : decode cX1_runTwice 88 = .ok (.getfield 58, 3) := by decide +kernel
theorem dX1_runTwice_91 : decode cX1_runTwice 91 = .ok (.iload_n 2, 1) := by decide +kernel
theorem dX1_runTwice_92 : decode cX1_runTwice 92 = .ok (.iaload, 1) := by decide +kernel
theorem dX1_runTwice_93 : decode cX1_runTwice 93 = .ok (.aload_n 1, 1) := by decide +kernel
theorem dX1_runTwice_94 : decode cX1_runTwice 94 = .ok (.getfield 61, 3) := by decide +kernel
theorem dX1_runTwice_97 : decode cX1_runTwice 97 = .ok (.iload_n 2, 1) := by decide +kernel
theorem dX1_runTwice_98 : decode cX1_runTwice 98 = .ok (.iaload, 1) := by decide +kernel
theorem dX1_runTwice_99 : decode cX1_runTwice 99 = .ok (.aload_n 1, 1) := by decide +kernel
theorem dX1_runTwice_100 : decode cX1_runTwice 100 = .ok (.getfield 64, 3) := by decide +kernel
theorem dX1_runTwice_103 : decode cX1_runTwice 103 = .ok (.iload_n 2, 1) := by decide +kernel
theorem dX1_runTwice_104 : decode cX1_runTwice 104 = .ok (.iaload, 1) := by decide +kernel
theorem dX1_runTwice_105 : decode cX1_runTwice 105 = .ok (.iconst 0, 1) := by decide +kernel
theorem dX1_runTwice_106 : decode cX1_runTwice 106 = .ok (.invokevirtual 67, 3) := by decide +kernel
theorem dX1_runTwice_109 : decode cX1_runTwice 109 = .ok (.putfield 34, 3) := by decide +kernel
theorem dX1_runTwice_29 : decode cX1_runTwice 29 = .ok (.iload 4, 2) := by decide +kernel
theorem dX1_runTwice_31 : decode cX1_runTwice 31 = .ok (.goto 4, 3) := by decide +kernel
theorem dX1_runTwice_0 : decode cX1_runTwice 0 = .ok (.aload_n 0, 1) := by decide +kernel
theorem dX1_runTwice_1 : decode cX1_runTwice 1 = .ok (.getfield 21, 3) := by decide +kernel
theorem dX1_runTwice_4 : decode cX1_runTwice 4 = .ok (.aload_n 0, 1) := by decide +kernel
theorem dX1_runTwice_5 : decode cX1_runTwice 5 = .ok (.getfield 12, 3) := by decide +kernel
theorem dX1_runTwice_8 : decode cX1_runTwice 8 = .ok (.invokevirtual 49, 3) := by decide +kernel
theorem dX1_runTwice_11 : decode cX1_runTwice 11 = .ok (.iconst 0, 1) := by decide +kernel
theorem dX1_runTwice_12 : decode cX1_runTwice 12 = .ok (.istore 5, 2) := by decide +kernel
theorem dX1_isLike_3 : decode cX1_isLike 3 = .ok (.iload 4, 2) := by decide +kernel
theorem dX1_isLike_5 : decode cX1_isLike 5 = .ok (.aload_n 1, 1) := by decide +kernel
theorem dX1_isLike_6 : decode cX1_isLike 6 = .ok (.getfield 53, 3) := by decide +kernel
theorem dX1_isLike_9 : decode cX1_isLike 9 = .ok (.if_icmp .ge 58, 3) := by decide +kernel
theorem dX1_isLike_67 : decode cX1_isLike 67 = .ok (.iload_n 3, 1) := by decide +kernel
theorem dX1_isLike_68 : decode cX1_isLike 68 = .ok (.ifCond .ne 18, 3) := by decide +kernel
theorem dX1_isLike_86 : decode cX1_isLike 86 = .ok (.aload_n 0, 1) := by decide +kernel
theorem dX1_isLike_87 : decode cX1_isLike 87 = .ok (.getfield 21, 3) := by decide +kernel
theorem dX1_isLike_90 : decode cX1_isLike 90 = .ok (.aload_n 0, 1) := by decide +kernel
theorem dX1_isLike_91 : decode cX1_isLike 91 = .ok (.getfield 18, 3) := by decide +kernel
theorem dX1_isLike_94 : decode cX1_isLike 94 = .ok (.invokevirtual 74, 3) := by decide +kernel
theorem dX1_isLike_97 : decode cX1_isLike 97 = .ok (.ifCond .eq 35, 3) := by decide +kernel
theorem dX1_isLike_100 : decode cX1_isLike 100 = .ok (.aload_n 0, 1) := by decide +kernel
theorem dX1_isLike_101 : decode cX1_isLike 101 = .ok (.getfield 21, 3) := by decide +kernel
theorem dX1_isLike_104 : decode cX1_isLike 104 = .ok (.aload_n 0, 1) := by decide +kernel
theorem dX1_isLike_105 : decode cX1_isLike 105 = .ok (.getfield 18, 3) := by decide +kernel
theorem dX1_isLike_108 : decode cX1_isLike 108 = .ok (.invokevirtual 78, 3) := by decide +kernel
theorem dX1_isLike_111 : decode cX1_isLike 111 = .ok (.ifCond .eq 21, 3) := by decide +kernel
theorem dX1_isLike_114 : decode cX1_isLike 114 = .ok (.aload_n 0, 1) := by decide +kernel
theorem dX1_isLike_115 : decode cX1_isLike 115 = .ok (.getfield 21, 3) := by decide +kernel
theorem dX1_isLike_118 : decode cX1_isLike 118 = .ok (.aload_n 0, 1) := by decide +kernel
theorem dX1_isLike_119 : decode cX1_isLike 119 = .ok (.getfield 18, 3) := by decide +kernel
theorem dX1_isLike_122 : decode cX1_isLike 122 = .ok (.invokevirtual 81, 3) := by decide +kernel
theorem dX1_isLike_125 : decode cX1_isLike 125 = .ok (.ifCond .eq 7, 3) := by decide +kernel
theorem dX1_isLike_128 : decode cX1_isLike 128 = .ok (.iconst 1, 1) := by decide +kernel
theorem dX1_isLike_129 : decode cX1_isLike 129 = .ok (.goto 4, 3) := by decide +kernel
theorem dX1_isLike_133 : decode cX1_isLike 133 = .ok (.ireturn, 1) := by decide +kernel
theorem dX1_isLike_132 : decode cX1_isLike 132 = .ok (.iconst 0, 1) := by decide +kernel
theorem dX1_isLike_71 : decode cX1_isLike 71 = .ok (.aload_n 0, 1) := by decide +kernel
theorem dX1_isLike_72 : decode cX1_isLike 72 = .ok (.getfield 34, 3) := by decide +kernel
theorem dX1_isLike_75 : decode cX1_isLike 75 = .ok (.aload_n 0, 1) := by decide +kernel
theorem dX1_isLike_76 : decode cX1_isLike 76 = .ok (.getfield 24, 3) := by decide +kernel
theorem dX1_isLike_79 : decode cX1_isLike 79 = .ok (.iload_n 2, 1) := by decide +kernel
theorem dX1_isLike_80 : decode cX1_isLike 80 = .ok (.iaload, 1) := by decide +kernel
theorem dX1_isLike_81 : decode cX1_isLike 81 = .ok (.if_icmp .eq 5, 3) := by decide +kernel
theorem dX1_isLike_84 : decode cX1_isLike 84 = .ok (.iconst 0, 1) := by decide +kernel
theorem dX1_isLike_85 : decode cX1_isLike 85 = .ok (.ireturn, 1) := by decide +kernel
theorem dX1_isLike_12 : decode cX1_isLike 12 = .ok (.iload 4, 2) := by decide +kernel
theorem dX1_isLike_14 : decode cX1_isLike 14 = .ok (.iload_n 2, 1) := by decide +kernel
theorem dX1_isLike_15 : decode cX1_isLike 15 = .ok (.if_icmp .ne 15, 3) := by decide +kernel
theorem dX1_isLike_30 : decode cX1_isLike 30 = .ok (.iconst 1, 1) := by decide +kernel
theorem dX1_isLike_31 : decode cX1_isLike 31 = .ok (.goto 4, 3) := by decide +kernel
theorem dX1_isLike_35 : decode cX1_isLike 35 = .ok (.istore 5, 2) := by decide +kernel
theorem dX1_isLike_37 : decode cX1_isLike 37 = .ok (.iload 5, 2) := by decide +kernel
theorem dX1_isLike_39 : decode cX1_isLike 39 = .ok (.ifCond .eq 22, 3) := by decide +kernel
theorem dX1_isLike_42 : decode cX1_isLike 42 = .ok (.aload_n 0, 1) := by decide +kernel
theorem dX1_isLike_43 : decode cX1_isLike 43 = .ok (.getfield 31, 3) := by decide +kernel
theorem dX1_isLike_46 : decode cX1_isLike 46 = .ok (.iload 4, 2) := by decide +kernel
theorem dX1_isLike_48 : decode cX1_isLike 48 = .ok (.iaload, 1) := by decide +kernel
theorem dX1_isLike_49 : decode cX1_isLike 49 = .ok (.aload_n 0, 1) := by decide +kernel
theorem dX1_isLike_50 : decode cX1_isLike 50 = .ok (.getfield 24, 3) := by decide +kernel
theorem dX1_isLike_53 : decode cX1_isLike 53 = .ok (.iload 4, 2) := by decide +kernel
theorem dX1_isLike_55 : decode cX1_isLike 55 = .ok (.iaload, 1) := by decide +kernel
theorem dX1_isLike_56 : decode cX1_isLike 56 = .ok (.if_icmp .eq 5, 3) := by decide +kernel
theorem dX1_isLike_61 : decode cX1_isLike 61 = .ok (.iinc 4 1, 3) := by decide +kernel
theorem dX1_isLike_64 : decode cX1_isLike 64 = .ok (.goto (-61), 3) := by decide +kernel
theorem dX1_isLike_59 : decode cX1_isLike 59 = .ok (.iconst 0, 1) := by decide +kernel
theorem dX1_isLike_60 : decode cX1_isLike 60 = .ok (.ireturn, 1) := by decide +kernel
theorem dX1_isLike_18 : decode cX1_isLike 18 = .ok (.aload_n 0, 1) := by decide +kernel
theorem dX1_isLike_19 : decode cX1_isLike 19 = .ok (.getfield 31, 3) := by decide +kernel
theorem dX1_isLike_22 : decode cX1_isLike 22 = .ok (.iload 4, 2) := by decide +kernel
theorem dX1_isLike_24 : decode cX1_isLike 24 = .ok (.iaload, 1) := by decide +kernel
theorem dX1_isLike_25 : decode cX1_isLike 25 = .ok (.bipush (-2), 2) := by decide +kernel
theorem dX1_isLike_27 : decode cX1_isLike 27 = .ok (.if_icmp .eq 7, 3) := by decide +kernel
theorem dX1_isLike_34 : decode cX1_isLike 34 = .ok (.iconst 0, 1) := by decide +kernel
theorem dX1_isLike_0 : decode cX1_isLike 0 = .ok (.iconst 0, 1) := by decide +kernel
theorem dX1_isLike_1 : decode cX1_isLike 1 = .ok (.istore 4, 2) := by decide +kernel
abbrev md_s_beginAt : Nat → Nat → Bool := mdf [(4, 0), (4, 2), (4, 3), (4, 4), (4, 5), (4, 10), (4, 11), (6, 1), (6, 2), (6, 4), (50, 99)]
theorem mdle_s_beginAt_n_wcopy {r k : Nat} (h : md_s_beginAt r k = false) : md_n_wcopy r k = false := mdf_le (by decide +kernel) h
set_option maxHeartbeats 4000000 in
set_option maxRecDepth 100000 in
theorem s_beginAt (l : Launch) (D : va_G) (cI cZ cS cR : ClassId) (N0 : NT) (g : GS) (hI : Inv g) (h : Nat) (o : Nat) (r_h : g.1 h = 2) (r_o : g.1 o = 19) : Ty l D cI cZ cS cR N0 yX1_beginAt cX1_beginAt 2 none 2 0 0 [.ref h, .ref o] g (fun v g' => v = none ∧ Inv g' ∧ Ex g g' ∧ Sm md_s_beginAt g g') := by
  refine t_enter (by decide) (Nat.le_of_ble_eq_true rfl) ?_
  intro p e s m args below meth c ls H locs hB hr hin hl hT
  have hx := hB.1
  have hb := hB.2.1
  have hl : lv_has ls 2 [(0, .ref h), (1, .ref o)] := hl
  have hE : Ex g g := Ex.rf
  have hM : Sm md_s_beginAt g g := Sm.rf
  refine lv_aload_n hx hb dX1_beginAt_0 rfl (lv_at hl 0 rfl) ?_
  obtain ⟨v_1, e_v_1, r_v_1⟩ := f_2_0 hI r_h
  refine t_get (ci := 1) (v := .ref v_1) hB hT (ro_ci r_h rfl) rfl 0 (by decide) k_276 e_v_1 dX1_beginAt_1 ?_
  refine lv_aload_n hx hb dX1_beginAt_4 rfl (lv_at hl 1 rfl) ?_
  refine t_callV (n := 1) (As := [.ref o]) (rest := []) (ci := 5) hB hT hl.1 (n_wcopy l D cI cZ cS cR N0 g hI v_1 o r_v_1 r_o) (ro_ci r_v_1 rfl) rfl k_585 k_59 k_582 k_583 k_584 (by decide +kernel) ⟨(Nat.le_of_ble_eq_true rfl), (Nat.le_of_ble_eq_true rfl)⟩ rfl (Nat.le_of_ble_eq_true rfl) ⟨(Nat.le_of_ble_eq_true rfl), (Nat.le_of_ble_eq_true rfl)⟩ dX1_beginAt_5 (fun v g_2 H locs hp hT => ?_)
  obtain ⟨rfl, hI, x_4, m_3⟩ := hp
  have hM : Sm md_s_beginAt g g_2 := hM.tr hE (m_3.mo (fun r k h => mdle_s_beginAt_n_wcopy h))
  have hE : Ex g g_2 := hE.tr x_4
  have r_5 : g_2.1 h = 2 := (Ex.r x_4 r_h (by decide))
  have r_6 : g_2.1 o = 19 := (Ex.r x_4 r_o (by decide))
  have r_7 : g_2.1 v_1 = 6 := (Ex.r x_4 r_v_1 (by decide))
  have kn_8 : g_2.2.1 h 0 = .ref v_1 := (Sm.v m_3 r_h (by decide) rfl e_v_1)
  refine W.eq (g2 := F0 m 8 ls []) rfl ?_
  exact t_vret hB hr hT (Nat.le_of_ble_eq_true rfl) (Nat.le_of_ble_eq_true rfl) dX1_beginAt_8 ⟨rfl, hI, hE, hM⟩
abbrev md_s_runOnce : Nat → Nat → Bool := mdf [(4, 0), (4, 2), (4, 3), (4, 4), (4, 5), (4, 10), (4, 11), (4, 14), (6, 1), (6, 2), (6, 4), (6, 5), (6, 6), (6, 7), (50, 99)]
theorem mdle_s_runOnce_s_fromOutside {r k : Nat} (h : md_s_runOnce r k = false) : md_s_fromOutside r k = false := mdf_le (by decide +kernel) h
theorem mdle_s_runOnce_s_wcopy {r k : Nat} (h : md_s_runOnce r k = false) : md_s_wcopy r k = false := mdf_le (by decide +kernel) h
set_option maxHeartbeats 4000000 in
set_option maxRecDepth 100000 in
theorem lt_s_runOnce_a (l : Launch) (D : va_G) (cI cZ cS cR : ClassId) (N0 : NT) (g : GS) (h : Nat) (o : Nat) (r_h : g.1 h = 2) (r_o : g.1 o = 1) {p : Program} {e : Env} {s : State} {m : MethodId} {args : Array Value} {below : List Frame} {meth : Method} {c : Code} (hB : Tz p s m meth c args cX1_runOnce 3 RX1 D cI cZ cS cR N0) (hr : meth.sig.returnType = none)    : ∀ (kf : Nat) (g1 : GS) (i : Int32)  (H : Heap) (locs : List Loc) (ls : Array Slot), Tv D cI cZ cS cR N0 s.heap H locs g1 → Inv g1 → Ex g g1 → Sm md_s_runOnce g g1 → 0 ≤ i.toInt → i.toInt ≤ 6 → (6 ≤ i.toInt + kf) → lv_has ls 3 [(2, .int i), (0, .ref h), (1, .ref o)] → W p l e (rmx 14 0 0) s m args below meth c H locs 0 0 (MQ below (tQ D cI cZ cS cR N0 (fun v g' => v = none ∧ Inv g' ∧ Ex g g' ∧ Sm md_s_runOnce g g')) args s 0 0 (fun q => N0.1 ≤ q)) (F0 m 13 ls []) := by
  have hx := hB.1
  have hb := hB.2.1
  intro kf
  induction kf using Nat.strongRecOn with
  | ind kf ih =>
    intro g1 i H locs ls hT hI hE hM l_i u_i hk hl
    have r_1 : g1.1 h = 2 := Ex.r hE r_h (by decide)
    have r_2 : g1.1 o = 1 := Ex.r hE r_o (by decide)
    refine lv_iload_n hx hb dX1_runOnce_13 rfl (lv_at hl 0 rfl) ?_
    refine lv_aload_n hx hb dX1_runOnce_14 rfl (lv_at hl 2 rfl) ?_
    obtain ⟨v_3, e_v_3, l_v_3, u_v_3⟩ := f_1_3 hI r_2
    refine t_get (ci := 0) (v := .int v_3) hB hT (ro_ci r_2 rfl) rfl 3 (by decide) k_254 e_v_3 dX1_runOnce_15 ?_
    refine lv_icmp_ge (tgt := 72) hx hb dX1_runOnce_18 (by decide) (fun c_4 => ?_) (fun c_4 => ?_)
    · have c_4' : v_3.toInt ≤ i.toInt := i_le c_4 rfl rfl
      exact t_vret hB hr hT (Nat.le_of_ble_eq_true rfl) (Nat.le_of_ble_eq_true rfl) dX1_runOnce_72 ⟨rfl, hI, hE, hM⟩
    · have c_4' : i.toInt < v_3.toInt := i_nle c_4 rfl rfl
      refine lv_aload_n hx hb dX1_runOnce_21 rfl (lv_at hl 1 rfl) ?_
      obtain ⟨v_5, e_v_5, r_v_5, n_v_5⟩ := f_2_3 hI r_1
      refine t_get (ci := 1) (v := .ref v_5) hB hT (ro_ci r_1 rfl) rfl 3 (by decide) k_280 e_v_5 dX1_runOnce_22 ?_
      refine lv_iload_n hx hb dX1_runOnce_25 rfl (lv_at hl 0 rfl) ?_
      refine lv_aload_n hx hb dX1_runOnce_26 rfl (lv_at hl 1 rfl) ?_
      obtain ⟨v_6, e_v_6, r_v_6⟩ := f_2_1 hI r_1
      refine t_get (ci := 1) (v := .ref v_6) hB hT (ro_ci r_1 rfl) rfl 1 (by decide) k_278 e_v_6 dX1_runOnce_27 ?_
      refine lv_aload_n hx hb dX1_runOnce_30 rfl (lv_at hl 2 rfl) ?_
      obtain ⟨v_7, e_v_7, r_v_7, n_v_7⟩ := f_1_0 hI r_2
      refine t_get (ci := 0) (v := .ref v_7) hB hT (ro_ci r_2 rfl) rfl 0 (by decide) k_244 e_v_7 dX1_runOnce_31 ?_
      refine lv_iload_n hx hb dX1_runOnce_34 rfl (lv_at hl 0 rfl) ?_
      have i_u_8 : vp_in i 6 := (i_in (n := 6) rfl (by omega) (by omega))
      refine t_iald hB hT (ro_in r_v_7 (by decide)) n_v_7 i_u_8 rfl dX1_runOnce_35 ?_
      have c_u_8 := hI.c r_v_7 n_v_7 (i_cl i_u_8)
      refine lv_topi (fun u_8 e_u_8 => ?_)
      obtain ⟨l_u_8, u_u_8⟩ := c_u_8
      rw [← e_u_8] at l_u_8 u_u_8
      refine lv_aload_n hx hb dX1_runOnce_36 rfl (lv_at hl 2 rfl) ?_
      obtain ⟨v_9, e_v_9, r_v_9, n_v_9⟩ := f_1_1 hI r_2
      refine t_get (ci := 0) (v := .ref v_9) hB hT (ro_ci r_2 rfl) rfl 1 (by decide) k_248 e_v_9 dX1_runOnce_37 ?_
      refine lv_iload_n hx hb dX1_runOnce_40 rfl (lv_at hl 0 rfl) ?_
      have i_u_10 : vp_in i 6 := (i_in (n := 6) rfl (by omega) (by omega))
      refine t_iald hB hT (ro_in r_v_9 (by decide)) n_v_9 i_u_10 rfl dX1_runOnce_41 ?_
      refine lv_topi (fun u_10 e_u_10 => ?_)
      refine lv_aload_n hx hb dX1_runOnce_42 rfl (lv_at hl 2 rfl) ?_
      obtain ⟨v_11, e_v_11, r_v_11, n_v_11⟩ := f_1_2 hI r_2
      refine t_get (ci := 0) (v := .ref v_11) hB hT (ro_ci r_2 rfl) rfl 2 (by decide) k_251 e_v_11 dX1_runOnce_43 ?_
      refine lv_iload_n hx hb dX1_runOnce_46 rfl (lv_at hl 0 rfl) ?_
      have i_u_12 : vp_in i 6 := (i_in (n := 6) rfl (by omega) (by omega))
      refine t_iald hB hT (ro_in r_v_11 (by decide)) n_v_11 i_u_12 rfl dX1_runOnce_47 ?_
      refine lv_topi (fun u_12 e_u_12 => ?_)
      refine lv_iconst (v := 0) hx hb dX1_runOnce_48 (by decide) ?_
      refine t_callV (n := 4) (As := [.int u_8, .int u_10, .int u_12, .int 0]) (rest := [.int i, .ref v_5]) (ci := 5) hB hT hl.1 (s_fromOutside l D cI cZ cS cR N0 g1 hI v_6 u_8 u_10 u_12 0 r_v_6 (by have q0 : (0 : Int32).toInt = 0 := (by decide); omega) (by have q0 : (0 : Int32).toInt = 0 := (by decide); omega)) (ro_ci r_v_6 rfl) rfl k_500 k_59 k_594 k_498 k_499 (by decide +kernel) ⟨(Nat.le_of_ble_eq_true rfl), (Nat.le_of_ble_eq_true rfl)⟩ rfl (Nat.le_of_ble_eq_true rfl) ⟨(Nat.le_of_ble_eq_true rfl), (Nat.le_of_ble_eq_true rfl)⟩ dX1_runOnce_49 (fun v g_13 H locs hp hT => ?_)
      obtain ⟨r_14, rfl, hI, x_16, m_15⟩ := hp
      have hM : Sm md_s_runOnce g g_13 := hM.tr hE (m_15.mo (fun r k h => mdle_s_runOnce_s_fromOutside h))
      have hE : Ex g g_13 := hE.tr x_16
      have r_17 : g_13.1 h = 2 := (Ex.r x_16 r_1 (by decide))
      have r_18 : g_13.1 o = 1 := (Ex.r x_16 r_2 (by decide))
      have r_19 : g_13.1 v_5 = 50 := (Ex.r x_16 r_v_5 (by decide))
      have r_20 : g_13.1 v_6 = 6 := (Ex.r x_16 r_v_6 (by decide))
      have r_21 : g_13.1 v_7 = 61 := (Ex.r x_16 r_v_7 (by decide))
      have r_22 : g_13.1 v_9 = 62 := (Ex.r x_16 r_v_9 (by decide))
      have r_23 : g_13.1 v_11 = 63 := (Ex.r x_16 r_v_11 (by decide))
      have n_24 : g_13.2.2.1 v_5 = 6 := (Ex.n x_16 r_v_5 (by decide) n_v_5)
      have n_25 : g_13.2.2.1 v_7 = 6 := (Ex.n x_16 r_v_7 (by decide) n_v_7)
      have n_26 : g_13.2.2.1 v_9 = 6 := (Ex.n x_16 r_v_9 (by decide) n_v_9)
      have n_27 : g_13.2.2.1 v_11 = 6 := (Ex.n x_16 r_v_11 (by decide) n_v_11)
      have kn_28 : g_13.2.1 o 3 = .int v_3 := (Sm.v m_15 r_2 (by decide) rfl e_v_3)
      have kn_29 : g_13.2.1 h 3 = .ref v_5 := (Sm.v m_15 r_1 (by decide) rfl e_v_5)
      have kn_30 : g_13.2.1 h 1 = .ref v_6 := (Sm.v m_15 r_1 (by decide) rfl e_v_6)
      have kn_31 : g_13.2.1 o 0 = .ref v_7 := (Sm.v m_15 r_2 (by decide) rfl e_v_7)
      have kn_32 : g_13.2.1 o 1 = .ref v_9 := (Sm.v m_15 r_2 (by decide) rfl e_v_9)
      have kn_33 : g_13.2.1 o 2 = .ref v_11 := (Sm.v m_15 r_2 (by decide) rfl e_v_11)
      have kn_34 : g_13.2.2.2.1 v_7 i.toNatClampNeg = u_8 := (Sm.c m_15 r_v_7 (by decide) rfl e_u_8.symm)
      have kn_35 : g_13.2.2.2.1 v_9 i.toNatClampNeg = u_10 := (Sm.c m_15 r_v_9 (by decide) rfl e_u_10.symm)
      have kn_36 : g_13.2.2.2.1 v_11 i.toNatClampNeg = u_12 := (Sm.c m_15 r_v_11 (by decide) rfl e_u_12.symm)
      refine W.eq (g2 := F0 m 52 ls [.int r_14, .int i, .ref v_5]) rfl ?_
      have i_37 : vp_in i 6 := (i_in (n := 6) rfl (by omega) (by omega))
      refine t_iast hB hT (ro_in r_19 (by decide)) n_24 i_37 dX1_runOnce_52 (fun H locs hT => ?_)
      have hI : Inv (sC g_13 v_5 i.toNatClampNeg r_14) := hI.sC (ck r_19 trivial)
      have hM : Sm md_s_runOnce g (sC g_13 v_5 i.toNatClampNeg r_14) := hM.tr hE (Sm_sC (by rw [r_19]; rfl))
      have hE : Ex g (sC g_13 v_5 i.toNatClampNeg r_14) := hE
      refine lv_aload_n hx hb dX1_runOnce_53 rfl (lv_at hl 1 rfl) ?_
      obtain ⟨v_38, e_v_38, r_v_38, n_v_38⟩ := f_2_4 hI r_17
      refine t_get (ci := 1) (v := .ref v_38) hB hT (ro_ci r_17 rfl) rfl 4 (by decide) k_281 e_v_38 dX1_runOnce_54 ?_
      refine lv_iload_n hx hb dX1_runOnce_57 rfl (lv_at hl 0 rfl) ?_
      refine lv_aload_n hx hb dX1_runOnce_58 rfl (lv_at hl 1 rfl) ?_
      refine t_get (ci := 1) (v := .ref v_6) hB hT (ro_ci r_17 rfl) rfl 1 (by decide) k_278 kn_30 dX1_runOnce_59 ?_
      obtain ⟨v_39, e_v_39⟩ := f_6_5 hI r_20
      refine t_get (ci := 5) (v := .int v_39) hB hT (ro_ci r_20 rfl) rfl 5 (by decide) k_214 e_v_39 dX1_runOnce_62 ?_
      have i_40 : vp_in i 6 := (i_in (n := 6) rfl (by omega) (by omega))
      refine t_iast hB hT (ro_in r_v_38 (by decide)) n_v_38 i_40 dX1_runOnce_65 (fun H locs hT => ?_)
      have hI : Inv (sC (sC g_13 v_5 i.toNatClampNeg r_14) v_38 i.toNatClampNeg v_39) := hI.sC (ck r_v_38 trivial)
      have hM : Sm md_s_runOnce g (sC (sC g_13 v_5 i.toNatClampNeg r_14) v_38 i.toNatClampNeg v_39) := hM.tr hE (Sm_sC (by rw [r_v_38]; rfl))
      have hE : Ex g (sC (sC g_13 v_5 i.toNatClampNeg r_14) v_38 i.toNatClampNeg v_39) := hE
      obtain ⟨z_41, ez_41⟩ : ∃ z : Int32, z = i + 1 := ⟨_, rfl⟩
      have e_z_41 : z_41.toInt = i.toInt + 1 := i_add ez_41 rfl (by decide) (by omega) (by omega)
      refine lv_iinc (v := z_41) (lv' := [(2, .int z_41), (0, .ref h), (1, .ref o)]) hx hb dX1_runOnce_66 hl (k := 0) rfl (by rw [ez_41]; rfl) (by decide) rfl (fun ls hl => ?_)
      refine lv_goto (tgt := 13) hx hb dX1_runOnce_69 (by decide) ?_
      exact ih (kf - 1) (by omega) (sC (sC g_13 v_5 i.toNatClampNeg r_14) v_38 i.toNatClampNeg v_39) z_41 H locs ls hT hI hE hM (by omega) (by omega) (by have e0_ : (0 : Int32).toInt = 0 := (by decide); omega) (lv_sub hl [0, 1, 2] rfl)
set_option maxHeartbeats 4000000 in
set_option maxRecDepth 100000 in
theorem s_runOnce (l : Launch) (D : va_G) (cI cZ cS cR : ClassId) (N0 : NT) (g : GS) (hI : Inv g) (h : Nat) (o : Nat) (r_h : g.1 h = 2) (r_o : g.1 o = 1) : Ty l D cI cZ cS cR N0 yX1_runOnce cX1_runOnce 3 none 14 0 0 [.ref h, .ref o] g (fun v g' => v = none ∧ Inv g' ∧ Ex g g' ∧ Sm md_s_runOnce g g') := by
  refine t_enter (by decide) (Nat.le_of_ble_eq_true rfl) ?_
  intro p e s m args below meth c ls H locs hB hr hin hl hT
  have hx := hB.1
  have hb := hB.2.1
  have hl : lv_has ls 3 [(0, .ref h), (1, .ref o)] := hl
  have hE : Ex g g := Ex.rf
  have hM : Sm md_s_runOnce g g := Sm.rf
  refine lv_aload_n hx hb dX1_runOnce_0 rfl (lv_at hl 0 rfl) ?_
  obtain ⟨v_1, e_v_1, r_v_1⟩ := f_2_1 hI r_h
  refine t_get (ci := 1) (v := .ref v_1) hB hT (ro_ci r_h rfl) rfl 1 (by decide) k_278 e_v_1 dX1_runOnce_1 ?_
  refine lv_aload_n hx hb dX1_runOnce_4 rfl (lv_at hl 0 rfl) ?_
  obtain ⟨v_2, e_v_2, r_v_2⟩ := f_2_0 hI r_h
  refine t_get (ci := 1) (v := .ref v_2) hB hT (ro_ci r_h rfl) rfl 0 (by decide) k_276 e_v_2 dX1_runOnce_5 ?_
  refine t_callV (n := 1) (As := [.ref v_2]) (rest := []) (ci := 5) hB hT hl.1 (s_wcopy l D cI cZ cS cR N0 g hI v_1 v_2 r_v_1 r_v_2) (ro_ci r_v_1 rfl) rfl k_585 k_59 k_582 k_583 k_584 (by decide +kernel) ⟨(Nat.le_of_ble_eq_true rfl), (Nat.le_of_ble_eq_true rfl)⟩ rfl (Nat.le_of_ble_eq_true rfl) ⟨(Nat.le_of_ble_eq_true rfl), (Nat.le_of_ble_eq_true rfl)⟩ dX1_runOnce_8 (fun v g_3 H locs hp hT => ?_)
  obtain ⟨rfl, hI, x_5, m_4⟩ := hp
  have hM : Sm md_s_runOnce g g_3 := hM.tr hE (m_4.mo (fun r k h => mdle_s_runOnce_s_wcopy h))
  have hE : Ex g g_3 := hE.tr x_5
  have r_6 : g_3.1 h = 2 := (Ex.r x_5 r_h (by decide))
  have r_7 : g_3.1 o = 1 := (Ex.r x_5 r_o (by decide))
  have r_8 : g_3.1 v_1 = 6 := (Ex.r x_5 r_v_1 (by decide))
  have r_9 : g_3.1 v_2 = 6 := (Ex.r x_5 r_v_2 (by decide))
  have kn_10 : g_3.2.1 h 1 = .ref v_1 := (Sm.v m_4 r_h (by decide) rfl e_v_1)
  have kn_11 : g_3.2.1 h 0 = .ref v_2 := (Sm.v m_4 r_h (by decide) rfl e_v_2)
  refine W.eq (g2 := F0 m 11 ls []) rfl ?_
  refine lv_iconst (v := 0) hx hb dX1_runOnce_11 (by decide) ?_
  refine lv_istore_n (lv' := [(2, .int 0), (0, .ref h), (1, .ref o)]) hx hb dX1_runOnce_12 rfl hl (by decide) rfl (fun ls hl => ?_)
  exact lt_s_runOnce_a l D cI cZ cS cR N0 g h o r_h r_o hB hr   6 g_3 (0 : Int32) H locs ls hT hI hE hM (by decide) (by decide) (by have e0_ : (0 : Int32).toInt = 0 := (by decide); omega) (lv_sub hl [0, 1, 2] rfl)
abbrev md_s_isStill : Nat → Nat → Bool := mdf [(4, 0), (4, 2), (4, 3), (4, 4), (4, 5), (4, 10), (4, 11), (4, 14), (6, 1), (6, 2), (6, 4), (6, 5), (6, 6), (6, 7), (50, 99)]
theorem mdle_s_isStill_s_fromOutside {r k : Nat} (h : md_s_isStill r k = false) : md_s_fromOutside r k = false := mdf_le (by decide +kernel) h
theorem mdle_s_isStill_s_wcopy {r k : Nat} (h : md_s_isStill r k = false) : md_s_wcopy r k = false := mdf_le (by decide +kernel) h
set_option maxHeartbeats 4000000 in
set_option maxRecDepth 100000 in
theorem lt_s_isStill_a (l : Launch) (D : va_G) (cI cZ cS cR : ClassId) (N0 : NT) (g : GS) (h : Nat) (o : Nat) (r_h : g.1 h = 2) (r_o : g.1 o = 9) {p : Program} {e : Env} {s : State} {m : MethodId} {args : Array Value} {below : List Frame} {meth : Method} {c : Code} (hB : Tz p s m meth c args cX1_isStill 3 RX1 D cI cZ cS cR N0) (hr : meth.sig.returnType = (some .boolean))    : ∀ (kf : Nat) (g1 : GS) (i : Int32)  (H : Heap) (locs : List Loc) (ls : Array Slot), Tv D cI cZ cS cR N0 s.heap H locs g1 → Inv g1 → Ex g g1 → Sm md_s_isStill g g1 → 0 ≤ i.toInt → i.toInt ≤ 20 → (20 ≤ i.toInt + kf) → lv_has ls 3 [(2, .int i), (0, .ref h), (1, .ref o)] → W p l e (rmx 14 0 0) s m args below meth c H locs 0 0 (MQ below (tQ D cI cZ cS cR N0 (fun v g' => ∃ (r : Int32), v = some (.int r) ∧ Inv g' ∧ Ex g g' ∧ Sm md_s_isStill g g' ∧ (r = 1 ∨ r = 0))) args s 0 0 (fun q => N0.1 ≤ q)) (F0 m 13 ls []) := by
  have hx := hB.1
  have hb := hB.2.1
  intro kf
  induction kf using Nat.strongRecOn with
  | ind kf ih =>
    intro g1 i H locs ls hT hI hE hM l_i u_i hk hl
    have r_1 : g1.1 h = 2 := Ex.r hE r_h (by decide)
    have r_2 : g1.1 o = 9 := Ex.r hE r_o (by decide)
    refine lv_iload_n hx hb dX1_isStill_13 rfl (lv_at hl 0 rfl) ?_
    refine lv_aload_n hx hb dX1_isStill_14 rfl (lv_at hl 2 rfl) ?_
    obtain ⟨v_3, e_v_3, l_v_3, u_v_3⟩ := f_9_3 hI r_2
    refine t_get (ci := 0) (v := .int v_3) hB hT (ro_ci r_2 rfl) rfl 3 (by decide) k_254 e_v_3 dX1_isStill_15 ?_
    refine lv_icmp_ge (tgt := 54) hx hb dX1_isStill_18 (by decide) (fun c_4 => ?_) (fun c_4 => ?_)
    · have c_4' : v_3.toInt ≤ i.toInt := i_le c_4 rfl rfl
      refine lv_aload_n hx hb dX1_isStill_54 rfl (lv_at hl 1 rfl) ?_
      obtain ⟨v_5, e_v_5, r_v_5⟩ := f_2_2 hI r_1
      refine t_get (ci := 1) (v := .ref v_5) hB hT (ro_ci r_1 rfl) rfl 2 (by decide) k_279 e_v_5 dX1_isStill_55 ?_
      obtain ⟨v_6, e_v_6⟩ := f_6_4 hI r_v_5
      refine t_get (ci := 5) (v := .int v_6) hB hT (ro_ci r_v_5 rfl) rfl 4 (by decide) k_212 e_v_6 dX1_isStill_58 ?_
      refine lv_if_ne (tgt := 96) hx hb dX1_isStill_61 (by decide) (fun c_7 => ?_) (fun c_7 => ?_)
      · have c_7' : v_6.toInt ≠ 0 := i_ne c_7 rfl (by decide)
        refine lv_iconst (v := 0) hx hb dX1_isStill_96 (by decide) ?_
        exact t_zret hB hr rfl hT (Nat.le_of_ble_eq_true rfl) (Nat.le_of_ble_eq_true rfl) dX1_isStill_97 ⟨0, rfl, hI, hE, hM, (Or.inr rfl)⟩
      · have c_7' : v_6.toInt = 0 := i_eq c_7 rfl (by decide)
        refine lv_aload_n hx hb dX1_isStill_64 rfl (lv_at hl 1 rfl) ?_
        refine t_get (ci := 1) (v := .ref v_5) hB hT (ro_ci r_1 rfl) rfl 2 (by decide) k_279 e_v_5 dX1_isStill_65 ?_
        refine lv_aload_n hx hb dX1_isStill_68 rfl (lv_at hl 1 rfl) ?_
        obtain ⟨v_8, e_v_8, r_v_8⟩ := f_2_0 hI r_1
        refine t_get (ci := 1) (v := .ref v_8) hB hT (ro_ci r_1 rfl) rfl 0 (by decide) k_276 e_v_8 dX1_isStill_69 ?_
        refine t_callV (n := 1) (As := [.ref v_8]) (rest := []) (ci := 5) hB hT hl.1 (s_wstores l D cI cZ cS cR N0 g1 hI v_5 v_8 r_v_5 r_v_8) (ro_ci r_v_5 rfl) rfl k_606 k_59 k_603 k_604 k_605 (by decide +kernel) ⟨(Nat.le_of_ble_eq_true rfl), (Nat.le_of_ble_eq_true rfl)⟩ rfl (Nat.le_of_ble_eq_true rfl) ⟨(Nat.le_of_ble_eq_true rfl), (Nat.le_of_ble_eq_true rfl)⟩ dX1_isStill_72 (fun v g_9 H locs hp hT => ?_)
        obtain ⟨r_10, rfl, eg, f_11⟩ := hp
        rw [eg] at hT
        clear eg
        refine W.eq (g2 := F0 m 75 ls [.int r_10]) rfl ?_
        rcases f_11 with rfl | rfl
        · refine W.eq (g2 := F0 m 75 ls [.int 1]) rfl ?_
          refine lv_if_eq (tgt := 96) hx hb dX1_isStill_75 (by decide) (fun c_ => absurd c_ (by decide)) (fun c_ => ?_)
          refine lv_aload_n hx hb dX1_isStill_78 rfl (lv_at hl 1 rfl) ?_
          refine t_get (ci := 1) (v := .ref v_5) hB hT (ro_ci r_1 rfl) rfl 2 (by decide) k_279 e_v_5 dX1_isStill_79 ?_
          refine lv_aload_n hx hb dX1_isStill_82 rfl (lv_at hl 1 rfl) ?_
          refine t_get (ci := 1) (v := .ref v_8) hB hT (ro_ci r_1 rfl) rfl 0 (by decide) k_276 e_v_8 dX1_isStill_83 ?_
          refine t_callV (n := 1) (As := [.ref v_8]) (rest := []) (ci := 5) hB hT hl.1 (s_wcounts l D cI cZ cS cR N0 g1 hI v_5 v_8 r_v_5 r_v_8) (ro_ci r_v_5 rfl) rfl k_614 k_59 k_611 k_612 k_613 (by decide +kernel) ⟨(Nat.le_of_ble_eq_true rfl), (Nat.le_of_ble_eq_true rfl)⟩ rfl (Nat.le_of_ble_eq_true rfl) ⟨(Nat.le_of_ble_eq_true rfl), (Nat.le_of_ble_eq_true rfl)⟩ dX1_isStill_86 (fun v g_14 H locs hp hT => ?_)
          obtain ⟨r_15, rfl, eg, f_16⟩ := hp
          rw [eg] at hT
          clear eg
          refine W.eq (g2 := F0 m 89 ls [.int r_15]) rfl ?_
          rcases f_16 with rfl | rfl
          · refine W.eq (g2 := F0 m 89 ls [.int 1]) rfl ?_
            refine lv_if_eq (tgt := 96) hx hb dX1_isStill_89 (by decide) (fun c_ => absurd c_ (by decide)) (fun c_ => ?_)
            refine lv_iconst (v := 1) hx hb dX1_isStill_92 (by decide) ?_
            refine lv_goto (tgt := 97) hx hb dX1_isStill_93 (by decide) ?_
            exact t_zret hB hr rfl hT (Nat.le_of_ble_eq_true rfl) (Nat.le_of_ble_eq_true rfl) dX1_isStill_97 ⟨1, rfl, hI, hE, hM, (Or.inl rfl)⟩
          · refine W.eq (g2 := F0 m 89 ls [.int 0]) rfl ?_
            refine lv_if_eq (tgt := 96) hx hb dX1_isStill_89 (by decide) (fun c_ => ?_) (fun c_ => absurd (by decide) c_)
            refine lv_iconst (v := 0) hx hb dX1_isStill_96 (by decide) ?_
            exact t_zret hB hr rfl hT (Nat.le_of_ble_eq_true rfl) (Nat.le_of_ble_eq_true rfl) dX1_isStill_97 ⟨0, rfl, hI, hE, hM, (Or.inr rfl)⟩
        · refine W.eq (g2 := F0 m 75 ls [.int 0]) rfl ?_
          refine lv_if_eq (tgt := 96) hx hb dX1_isStill_75 (by decide) (fun c_ => ?_) (fun c_ => absurd (by decide) c_)
          refine lv_iconst (v := 0) hx hb dX1_isStill_96 (by decide) ?_
          exact t_zret hB hr rfl hT (Nat.le_of_ble_eq_true rfl) (Nat.le_of_ble_eq_true rfl) dX1_isStill_97 ⟨0, rfl, hI, hE, hM, (Or.inr rfl)⟩
    · have c_4' : i.toInt < v_3.toInt := i_nle c_4 rfl rfl
      refine lv_aload_n hx hb dX1_isStill_21 rfl (lv_at hl 1 rfl) ?_
      obtain ⟨v_19, e_v_19, r_v_19⟩ := f_2_2 hI r_1
      refine t_get (ci := 1) (v := .ref v_19) hB hT (ro_ci r_1 rfl) rfl 2 (by decide) k_279 e_v_19 dX1_isStill_22 ?_
      refine lv_aload_n hx hb dX1_isStill_25 rfl (lv_at hl 2 rfl) ?_
      obtain ⟨v_20, e_v_20, r_v_20, n_v_20⟩ := f_9_0 hI r_2
      refine t_get (ci := 0) (v := .ref v_20) hB hT (ro_ci r_2 rfl) rfl 0 (by decide) k_244 e_v_20 dX1_isStill_26 ?_
      refine lv_iload_n hx hb dX1_isStill_29 rfl (lv_at hl 0 rfl) ?_
      have i_u_21 : vp_in i 20 := (i_in (n := 20) rfl (by omega) (by omega))
      refine t_iald hB hT (ro_in r_v_20 (by decide)) n_v_20 i_u_21 rfl dX1_isStill_30 ?_
      have c_u_21 := hI.c r_v_20 n_v_20 (i_cl i_u_21)
      refine lv_topi (fun u_21 e_u_21 => ?_)
      obtain ⟨l_u_21, u_u_21⟩ := c_u_21
      rw [← e_u_21] at l_u_21 u_u_21
      refine lv_aload_n hx hb dX1_isStill_31 rfl (lv_at hl 2 rfl) ?_
      obtain ⟨v_22, e_v_22, r_v_22, n_v_22⟩ := f_9_1 hI r_2
      refine t_get (ci := 0) (v := .ref v_22) hB hT (ro_ci r_2 rfl) rfl 1 (by decide) k_248 e_v_22 dX1_isStill_32 ?_
      refine lv_iload_n hx hb dX1_isStill_35 rfl (lv_at hl 0 rfl) ?_
      have i_u_23 : vp_in i 20 := (i_in (n := 20) rfl (by omega) (by omega))
      refine t_iald hB hT (ro_in r_v_22 (by decide)) n_v_22 i_u_23 rfl dX1_isStill_36 ?_
      refine lv_topi (fun u_23 e_u_23 => ?_)
      refine lv_aload_n hx hb dX1_isStill_37 rfl (lv_at hl 2 rfl) ?_
      obtain ⟨v_24, e_v_24, r_v_24, n_v_24⟩ := f_9_2 hI r_2
      refine t_get (ci := 0) (v := .ref v_24) hB hT (ro_ci r_2 rfl) rfl 2 (by decide) k_251 e_v_24 dX1_isStill_38 ?_
      refine lv_iload_n hx hb dX1_isStill_41 rfl (lv_at hl 0 rfl) ?_
      have i_u_25 : vp_in i 20 := (i_in (n := 20) rfl (by omega) (by omega))
      refine t_iald hB hT (ro_in r_v_24 (by decide)) n_v_24 i_u_25 rfl dX1_isStill_42 ?_
      refine lv_topi (fun u_25 e_u_25 => ?_)
      refine lv_iconst (v := 0) hx hb dX1_isStill_43 (by decide) ?_
      refine t_callV (n := 4) (As := [.int u_21, .int u_23, .int u_25, .int 0]) (rest := []) (ci := 5) hB hT hl.1 (s_fromOutside l D cI cZ cS cR N0 g1 hI v_19 u_21 u_23 u_25 0 r_v_19 (by have q0 : (0 : Int32).toInt = 0 := (by decide); omega) (by have q0 : (0 : Int32).toInt = 0 := (by decide); omega)) (ro_ci r_v_19 rfl) rfl k_500 k_59 k_594 k_498 k_499 (by decide +kernel) ⟨(Nat.le_of_ble_eq_true rfl), (Nat.le_of_ble_eq_true rfl)⟩ rfl (Nat.le_of_ble_eq_true rfl) ⟨(Nat.le_of_ble_eq_true rfl), (Nat.le_of_ble_eq_true rfl)⟩ dX1_isStill_44 (fun v g_26 H locs hp hT => ?_)
      obtain ⟨r_27, rfl, hI, x_29, m_28⟩ := hp
      have hM : Sm md_s_isStill g g_26 := hM.tr hE (m_28.mo (fun r k h => mdle_s_isStill_s_fromOutside h))
      have hE : Ex g g_26 := hE.tr x_29
      have r_30 : g_26.1 h = 2 := (Ex.r x_29 r_1 (by decide))
      have r_31 : g_26.1 o = 9 := (Ex.r x_29 r_2 (by decide))
      have r_32 : g_26.1 v_19 = 6 := (Ex.r x_29 r_v_19 (by decide))
      have r_33 : g_26.1 v_20 = 64 := (Ex.r x_29 r_v_20 (by decide))
      have r_34 : g_26.1 v_22 = 65 := (Ex.r x_29 r_v_22 (by decide))
      have r_35 : g_26.1 v_24 = 66 := (Ex.r x_29 r_v_24 (by decide))
      have n_36 : g_26.2.2.1 v_20 = 20 := (Ex.n x_29 r_v_20 (by decide) n_v_20)
      have n_37 : g_26.2.2.1 v_22 = 20 := (Ex.n x_29 r_v_22 (by decide) n_v_22)
      have n_38 : g_26.2.2.1 v_24 = 20 := (Ex.n x_29 r_v_24 (by decide) n_v_24)
      have kn_39 : g_26.2.1 o 3 = .int v_3 := (Sm.v m_28 r_2 (by decide) rfl e_v_3)
      have kn_40 : g_26.2.1 h 2 = .ref v_19 := (Sm.v m_28 r_1 (by decide) rfl e_v_19)
      have kn_41 : g_26.2.1 o 0 = .ref v_20 := (Sm.v m_28 r_2 (by decide) rfl e_v_20)
      have kn_42 : g_26.2.1 o 1 = .ref v_22 := (Sm.v m_28 r_2 (by decide) rfl e_v_22)
      have kn_43 : g_26.2.1 o 2 = .ref v_24 := (Sm.v m_28 r_2 (by decide) rfl e_v_24)
      have kn_44 : g_26.2.2.2.1 v_20 i.toNatClampNeg = u_21 := (Sm.c m_28 r_v_20 (by decide) rfl e_u_21.symm)
      have kn_45 : g_26.2.2.2.1 v_22 i.toNatClampNeg = u_23 := (Sm.c m_28 r_v_22 (by decide) rfl e_u_23.symm)
      have kn_46 : g_26.2.2.2.1 v_24 i.toNatClampNeg = u_25 := (Sm.c m_28 r_v_24 (by decide) rfl e_u_25.symm)
      refine W.eq (g2 := F0 m 47 ls [.int r_27]) rfl ?_
      refine lv_pop hx hb dX1_isStill_47 rfl ?_
      obtain ⟨z_47, ez_47⟩ : ∃ z : Int32, z = i + 1 := ⟨_, rfl⟩
      have e_z_47 : z_47.toInt = i.toInt + 1 := i_add ez_47 rfl (by decide) (by omega) (by omega)
      refine lv_iinc (v := z_47) (lv' := [(2, .int z_47), (0, .ref h), (1, .ref o)]) hx hb dX1_isStill_48 hl (k := 0) rfl (by rw [ez_47]; rfl) (by decide) rfl (fun ls hl => ?_)
      refine lv_goto (tgt := 13) hx hb dX1_isStill_51 (by decide) ?_
      exact ih (kf - 1) (by omega) g_26 z_47 H locs ls hT hI hE hM (by omega) (by omega) (by have e0_ : (0 : Int32).toInt = 0 := (by decide); omega) (lv_sub hl [0, 1, 2] rfl)
set_option maxHeartbeats 4000000 in
set_option maxRecDepth 100000 in
theorem s_isStill (l : Launch) (D : va_G) (cI cZ cS cR : ClassId) (N0 : NT) (g : GS) (hI : Inv g) (h : Nat) (o : Nat) (r_h : g.1 h = 2) (r_o : g.1 o = 9) : Ty l D cI cZ cS cR N0 yX1_isStill cX1_isStill 3 (some .boolean) 14 0 0 [.ref h, .ref o] g (fun v g' => ∃ (r : Int32), v = some (.int r) ∧ Inv g' ∧ Ex g g' ∧ Sm md_s_isStill g g' ∧ (r = 1 ∨ r = 0)) := by
  refine t_enter (by decide) (Nat.le_of_ble_eq_true rfl) ?_
  intro p e s m args below meth c ls H locs hB hr hin hl hT
  have hx := hB.1
  have hb := hB.2.1
  have hl : lv_has ls 3 [(0, .ref h), (1, .ref o)] := hl
  have hE : Ex g g := Ex.rf
  have hM : Sm md_s_isStill g g := Sm.rf
  refine lv_aload_n hx hb dX1_isStill_0 rfl (lv_at hl 0 rfl) ?_
  obtain ⟨v_1, e_v_1, r_v_1⟩ := f_2_2 hI r_h
  refine t_get (ci := 1) (v := .ref v_1) hB hT (ro_ci r_h rfl) rfl 2 (by decide) k_279 e_v_1 dX1_isStill_1 ?_
  refine lv_aload_n hx hb dX1_isStill_4 rfl (lv_at hl 0 rfl) ?_
  obtain ⟨v_2, e_v_2, r_v_2⟩ := f_2_0 hI r_h
  refine t_get (ci := 1) (v := .ref v_2) hB hT (ro_ci r_h rfl) rfl 0 (by decide) k_276 e_v_2 dX1_isStill_5 ?_
  refine t_callV (n := 1) (As := [.ref v_2]) (rest := []) (ci := 5) hB hT hl.1 (s_wcopy l D cI cZ cS cR N0 g hI v_1 v_2 r_v_1 r_v_2) (ro_ci r_v_1 rfl) rfl k_585 k_59 k_582 k_583 k_584 (by decide +kernel) ⟨(Nat.le_of_ble_eq_true rfl), (Nat.le_of_ble_eq_true rfl)⟩ rfl (Nat.le_of_ble_eq_true rfl) ⟨(Nat.le_of_ble_eq_true rfl), (Nat.le_of_ble_eq_true rfl)⟩ dX1_isStill_8 (fun v g_3 H locs hp hT => ?_)
  obtain ⟨rfl, hI, x_5, m_4⟩ := hp
  have hM : Sm md_s_isStill g g_3 := hM.tr hE (m_4.mo (fun r k h => mdle_s_isStill_s_wcopy h))
  have hE : Ex g g_3 := hE.tr x_5
  have r_6 : g_3.1 h = 2 := (Ex.r x_5 r_h (by decide))
  have r_7 : g_3.1 o = 9 := (Ex.r x_5 r_o (by decide))
  have r_8 : g_3.1 v_1 = 6 := (Ex.r x_5 r_v_1 (by decide))
  have r_9 : g_3.1 v_2 = 6 := (Ex.r x_5 r_v_2 (by decide))
  have kn_10 : g_3.2.1 h 2 = .ref v_1 := (Sm.v m_4 r_h (by decide) rfl e_v_1)
  have kn_11 : g_3.2.1 h 0 = .ref v_2 := (Sm.v m_4 r_h (by decide) rfl e_v_2)
  refine W.eq (g2 := F0 m 11 ls []) rfl ?_
  refine lv_iconst (v := 0) hx hb dX1_isStill_11 (by decide) ?_
  refine lv_istore_n (lv' := [(2, .int 0), (0, .ref h), (1, .ref o)]) hx hb dX1_isStill_12 rfl hl (by decide) rfl (fun ls hl => ?_)
  exact lt_s_isStill_a l D cI cZ cS cR N0 g h o r_h r_o hB hr   20 g_3 (0 : Int32) H locs ls hT hI hE hM (by decide) (by decide) (by have e0_ : (0 : Int32).toInt = 0 := (by decide); omega) (lv_sub hl [0, 1, 2] rfl)
abbrev md_s_runTwice : Nat → Nat → Bool := mdf [(2, 6), (4, 0), (4, 2), (4, 3), (4, 4), (4, 5), (4, 10), (4, 11), (4, 14), (6, 1), (6, 2), (6, 4), (6, 5), (6, 6), (6, 7), (50, 99)]
theorem mdle_s_runTwice_s_fromOutside {r k : Nat} (h : md_s_runTwice r k = false) : md_s_fromOutside r k = false := mdf_le (by decide +kernel) h
theorem mdle_s_runTwice_s_wcopy {r k : Nat} (h : md_s_runTwice r k = false) : md_s_wcopy r k = false := mdf_le (by decide +kernel) h
set_option maxHeartbeats 4000000 in
set_option maxRecDepth 100000 in
theorem lt_s_runTwice_a (l : Launch) (D : va_G) (cI cZ cS cR : ClassId) (N0 : NT) (g : GS) (h : Nat) (o : Nat) (n : Int32) (x1 : Int32) (x2 : Int32) (r_h : g.1 h = 2) (r_o : g.1 o = 1) (l_n : 0 ≤ n.toInt) (u_n : n.toInt ≤ 5) {p : Program} {e : Env} {s : State} {m : MethodId} {args : Array Value} {below : List Frame} {meth : Method} {c : Code} (hB : Tz p s m meth c args cX1_runTwice 7 RX1 D cI cZ cS cR N0) (hr : meth.sig.returnType = none)    : ∀ (kf : Nat) (g1 : GS) (i : Int32)  (H : Heap) (locs : List Loc) (ls : Array Slot), Tv D cI cZ cS cR N0 s.heap H locs g1 → Inv g1 → Ex g g1 → Sm md_s_runTwice g g1 → 0 ≤ i.toInt → i.toInt ≤ 6 → (6 ≤ i.toInt + kf) → lv_has ls 7 [(5, .int i), (0, .ref h), (1, .ref o), (2, .int n), (3, .int x1), (4, .int x2)] → W p l e (rmx 14 0 0) s m args below meth c H locs 0 0 (MQ below (tQ D cI cZ cS cR N0 (fun v g' => v = none ∧ Inv g' ∧ Ex g g' ∧ Sm md_s_runTwice g g')) args s 0 0 (fun q => N0.1 ≤ q)) (F0 m 14 ls []) := by
  have hx := hB.1
  have hb := hB.2.1
  intro kf
  induction kf using Nat.strongRecOn with
  | ind kf ih =>
    intro g1 i H locs ls hT hI hE hM l_i u_i hk hl
    have r_1 : g1.1 h = 2 := Ex.r hE r_h (by decide)
    have r_2 : g1.1 o = 1 := Ex.r hE r_o (by decide)
    refine lv_iload hx hb dX1_runTwice_14 (lv_at hl 0 rfl) ?_
    refine lv_aload_n hx hb dX1_runTwice_16 rfl (lv_at hl 2 rfl) ?_
    obtain ⟨v_3, e_v_3, l_v_3, u_v_3⟩ := f_1_3 hI r_2
    refine t_get (ci := 0) (v := .int v_3) hB hT (ro_ci r_2 rfl) rfl 3 (by decide) k_254 e_v_3 dX1_runTwice_17 ?_
    refine lv_icmp_ge (tgt := 118) hx hb dX1_runTwice_20 (by decide) (fun c_4 => ?_) (fun c_4 => ?_)
    · have c_4' : v_3.toInt ≤ i.toInt := i_le c_4 rfl rfl
      exact t_vret hB hr hT (Nat.le_of_ble_eq_true rfl) (Nat.le_of_ble_eq_true rfl) dX1_runTwice_118 ⟨rfl, hI, hE, hM⟩
    · have c_4' : i.toInt < v_3.toInt := i_nle c_4 rfl rfl
      refine lv_iload hx hb dX1_runTwice_23 (lv_at hl 0 rfl) ?_
      refine lv_iload_n hx hb dX1_runTwice_25 rfl (lv_at hl 3 rfl) ?_
      refine lv_icmp_ne (tgt := 34) hx hb dX1_runTwice_26 (by decide) (fun c_5 => ?_) (fun c_5 => ?_)
      · have c_5' : i.toInt ≠ n.toInt := i_ne c_5 rfl rfl
        refine lv_iconst (v := 0) hx hb dX1_runTwice_34 (by decide) ?_
        refine lv_istore (lv' := [(6, .int 0), (5, .int i), (0, .ref h), (1, .ref o), (2, .int n), (3, .int x1), (4, .int x2)]) hx hb dX1_runTwice_35 hl (by decide) rfl (fun ls hl => ?_)
        refine lv_aload_n hx hb dX1_runTwice_37 rfl (lv_at hl 2 rfl) ?_
        obtain ⟨v_6, e_v_6, r_v_6, n_v_6⟩ := f_2_5 hI r_1
        refine t_get (ci := 1) (v := .ref v_6) hB hT (ro_ci r_1 rfl) rfl 5 (by decide) k_282 e_v_6 dX1_runTwice_38 ?_
        refine lv_iload hx hb dX1_runTwice_41 (lv_at hl 1 rfl) ?_
        refine lv_aload_n hx hb dX1_runTwice_43 rfl (lv_at hl 2 rfl) ?_
        obtain ⟨v_7, e_v_7, r_v_7⟩ := f_2_2 hI r_1
        refine t_get (ci := 1) (v := .ref v_7) hB hT (ro_ci r_1 rfl) rfl 2 (by decide) k_279 e_v_7 dX1_runTwice_44 ?_
        refine lv_aload_n hx hb dX1_runTwice_47 rfl (lv_at hl 3 rfl) ?_
        obtain ⟨v_8, e_v_8, r_v_8, n_v_8⟩ := f_1_0 hI r_2
        refine t_get (ci := 0) (v := .ref v_8) hB hT (ro_ci r_2 rfl) rfl 0 (by decide) k_244 e_v_8 dX1_runTwice_48 ?_
        refine lv_iload hx hb dX1_runTwice_51 (lv_at hl 1 rfl) ?_
        have i_u_9 : vp_in i 6 := (i_in (n := 6) rfl (by omega) (by omega))
        refine t_iald hB hT (ro_in r_v_8 (by decide)) n_v_8 i_u_9 rfl dX1_runTwice_53 ?_
        have c_u_9 := hI.c r_v_8 n_v_8 (i_cl i_u_9)
        refine lv_topi (fun u_9 e_u_9 => ?_)
        obtain ⟨l_u_9, u_u_9⟩ := c_u_9
        rw [← e_u_9] at l_u_9 u_u_9
        refine lv_aload_n hx hb dX1_runTwice_54 rfl (lv_at hl 3 rfl) ?_
        obtain ⟨v_10, e_v_10, r_v_10, n_v_10⟩ := f_1_1 hI r_2
        refine t_get (ci := 0) (v := .ref v_10) hB hT (ro_ci r_2 rfl) rfl 1 (by decide) k_248 e_v_10 dX1_runTwice_55 ?_
        refine lv_iload hx hb dX1_runTwice_58 (lv_at hl 1 rfl) ?_
        have i_u_11 : vp_in i 6 := (i_in (n := 6) rfl (by omega) (by omega))
        refine t_iald hB hT (ro_in r_v_10 (by decide)) n_v_10 i_u_11 rfl dX1_runTwice_60 ?_
        refine lv_topi (fun u_11 e_u_11 => ?_)
        refine lv_aload_n hx hb dX1_runTwice_61 rfl (lv_at hl 3 rfl) ?_
        obtain ⟨v_12, e_v_12, r_v_12, n_v_12⟩ := f_1_2 hI r_2
        refine t_get (ci := 0) (v := .ref v_12) hB hT (ro_ci r_2 rfl) rfl 2 (by decide) k_251 e_v_12 dX1_runTwice_62 ?_
        refine lv_iload hx hb dX1_runTwice_65 (lv_at hl 1 rfl) ?_
        have i_u_13 : vp_in i 6 := (i_in (n := 6) rfl (by omega) (by omega))
        refine t_iald hB hT (ro_in r_v_12 (by decide)) n_v_12 i_u_13 rfl dX1_runTwice_67 ?_
        refine lv_topi (fun u_13 e_u_13 => ?_)
        refine lv_iload hx hb dX1_runTwice_68 (lv_at hl 0 rfl) ?_
        refine t_callV (n := 4) (As := [.int u_9, .int u_11, .int u_13, .int 0]) (rest := [.int i, .ref v_6]) (ci := 5) hB hT hl.1 (s_fromOutside l D cI cZ cS cR N0 g1 hI v_7 u_9 u_11 u_13 0 r_v_7 (by have q0 : (0 : Int32).toInt = 0 := (by decide); omega) (by have q0 : (0 : Int32).toInt = 0 := (by decide); omega)) (ro_ci r_v_7 rfl) rfl k_500 k_59 k_594 k_498 k_499 (by decide +kernel) ⟨(Nat.le_of_ble_eq_true rfl), (Nat.le_of_ble_eq_true rfl)⟩ rfl (Nat.le_of_ble_eq_true rfl) ⟨(Nat.le_of_ble_eq_true rfl), (Nat.le_of_ble_eq_true rfl)⟩ dX1_runTwice_70 (fun v g_14 H locs hp hT => ?_)
        obtain ⟨r_15, rfl, hI, x_17, m_16⟩ := hp
        have hM : Sm md_s_runTwice g g_14 := hM.tr hE (m_16.mo (fun r k h => mdle_s_runTwice_s_fromOutside h))
        have hE : Ex g g_14 := hE.tr x_17
        have r_18 : g_14.1 h = 2 := (Ex.r x_17 r_1 (by decide))
        have r_19 : g_14.1 o = 1 := (Ex.r x_17 r_2 (by decide))
        have r_20 : g_14.1 v_6 = 50 := (Ex.r x_17 r_v_6 (by decide))
        have r_21 : g_14.1 v_7 = 6 := (Ex.r x_17 r_v_7 (by decide))
        have r_22 : g_14.1 v_8 = 61 := (Ex.r x_17 r_v_8 (by decide))
        have r_23 : g_14.1 v_10 = 62 := (Ex.r x_17 r_v_10 (by decide))
        have r_24 : g_14.1 v_12 = 63 := (Ex.r x_17 r_v_12 (by decide))
        have n_25 : g_14.2.2.1 v_6 = 6 := (Ex.n x_17 r_v_6 (by decide) n_v_6)
        have n_26 : g_14.2.2.1 v_8 = 6 := (Ex.n x_17 r_v_8 (by decide) n_v_8)
        have n_27 : g_14.2.2.1 v_10 = 6 := (Ex.n x_17 r_v_10 (by decide) n_v_10)
        have n_28 : g_14.2.2.1 v_12 = 6 := (Ex.n x_17 r_v_12 (by decide) n_v_12)
        have kn_29 : g_14.2.1 o 3 = .int v_3 := (Sm.v m_16 r_2 (by decide) rfl e_v_3)
        have kn_30 : g_14.2.1 h 5 = .ref v_6 := (Sm.v m_16 r_1 (by decide) rfl e_v_6)
        have kn_31 : g_14.2.1 h 2 = .ref v_7 := (Sm.v m_16 r_1 (by decide) rfl e_v_7)
        have kn_32 : g_14.2.1 o 0 = .ref v_8 := (Sm.v m_16 r_2 (by decide) rfl e_v_8)
        have kn_33 : g_14.2.1 o 1 = .ref v_10 := (Sm.v m_16 r_2 (by decide) rfl e_v_10)
        have kn_34 : g_14.2.1 o 2 = .ref v_12 := (Sm.v m_16 r_2 (by decide) rfl e_v_12)
        have kn_35 : g_14.2.2.2.1 v_8 i.toNatClampNeg = u_9 := (Sm.c m_16 r_v_8 (by decide) rfl e_u_9.symm)
        have kn_36 : g_14.2.2.2.1 v_10 i.toNatClampNeg = u_11 := (Sm.c m_16 r_v_10 (by decide) rfl e_u_11.symm)
        have kn_37 : g_14.2.2.2.1 v_12 i.toNatClampNeg = u_13 := (Sm.c m_16 r_v_12 (by decide) rfl e_u_13.symm)
        refine W.eq (g2 := F0 m 73 ls [.int r_15, .int i, .ref v_6]) rfl ?_
        have i_38 : vp_in i 6 := (i_in (n := 6) rfl (by omega) (by omega))
        refine t_iast hB hT (ro_in r_20 (by decide)) n_25 i_38 dX1_runTwice_73 (fun H locs hT => ?_)
        have hI : Inv (sC g_14 v_6 i.toNatClampNeg r_15) := hI.sC (ck r_20 trivial)
        have hM : Sm md_s_runTwice g (sC g_14 v_6 i.toNatClampNeg r_15) := hM.tr hE (Sm_sC (by rw [r_20]; rfl))
        have hE : Ex g (sC g_14 v_6 i.toNatClampNeg r_15) := hE
        refine lv_iload hx hb dX1_runTwice_74 (lv_at hl 1 rfl) ?_
        refine lv_iload_n hx hb dX1_runTwice_76 rfl (lv_at hl 4 rfl) ?_
        refine lv_iload_n hx hb dX1_runTwice_77 rfl (lv_at hl 5 rfl) ?_
        refine lv_iadd hx hb dX1_runTwice_78 ?_
        refine lv_topi (fun z_39 ez_39 => ?_)
        refine lv_icmp_ne (tgt := 112) hx hb dX1_runTwice_79 (by decide) (fun c_40 => ?_) (fun c_40 => ?_)
        · have c_40' : i.toInt ≠ z_39.toInt := i_ne c_40 rfl rfl
          obtain ⟨z_41, ez_41⟩ : ∃ z : Int32, z = i + 1 := ⟨_, rfl⟩
          have e_z_41 : z_41.toInt = i.toInt + 1 := i_add ez_41 rfl (by decide) (by omega) (by omega)
          refine lv_iinc (v := z_41) (lv' := [(5, .int z_41), (6, .int 0), (0, .ref h), (1, .ref o), (2, .int n), (3, .int x1), (4, .int x2)]) hx hb dX1_runTwice_112 hl (k := 1) rfl (by rw [ez_41]; rfl) (by decide) rfl (fun ls hl => ?_)
          refine lv_goto (tgt := 14) hx hb dX1_runTwice_115 (by decide) ?_
          exact ih (kf - 1) (by omega) (sC g_14 v_6 i.toNatClampNeg r_15) z_41 H locs ls hT hI hE hM (by omega) (by omega) (by have e0_ : (0 : Int32).toInt = 0 := (by decide); omega) (lv_sub hl [0, 2, 3, 4, 5, 6] rfl)
        · have c_40' : i.toInt = z_39.toInt := i_eq c_40 rfl rfl
          refine lv_aload_n hx hb dX1_runTwice_82 rfl (lv_at hl 2 rfl) ?_
          refine lv_aload_n hx hb dX1_runTwice_83 rfl (lv_at hl 2 rfl) ?_
          refine t_get (ci := 1) (v := .ref v_7) hB hT (ro_ci r_18 rfl) rfl 2 (by decide) k_279 kn_31 dX1_runTwice_84 ?_
          refine lv_aload_n hx hb dX1_runTwice_87 rfl (lv_at hl 3 rfl) ?_
          refine t_get (ci := 0) (v := .ref v_8) hB hT (ro_ci r_19 rfl) rfl 0 (by decide) k_244 kn_32 dX1_runTwice_88 ?_
          refine lv_iload_n hx hb dX1_runTwice_91 rfl (lv_at hl 4 rfl) ?_
          have i_u_42 : vp_in n 6 := (i_in (n := 6) rfl (by omega) (by omega))
          refine t_iald hB hT (ro_in r_22 (by decide)) n_26 i_u_42 rfl dX1_runTwice_92 ?_
          have c_u_42 := hI.c r_22 n_26 (i_cl i_u_42)
          refine lv_topi (fun u_42 e_u_42 => ?_)
          obtain ⟨l_u_42, u_u_42⟩ := c_u_42
          rw [← e_u_42] at l_u_42 u_u_42
          refine lv_aload_n hx hb dX1_runTwice_93 rfl (lv_at hl 3 rfl) ?_
          refine t_get (ci := 0) (v := .ref v_10) hB hT (ro_ci r_19 rfl) rfl 1 (by decide) k_248 kn_33 dX1_runTwice_94 ?_
          refine lv_iload_n hx hb dX1_runTwice_97 rfl (lv_at hl 4 rfl) ?_
          have i_u_43 : vp_in n 6 := (i_in (n := 6) rfl (by omega) (by omega))
          refine t_iald hB hT (ro_in r_23 (by decide)) n_27 i_u_43 rfl dX1_runTwice_98 ?_
          refine lv_topi (fun u_43 e_u_43 => ?_)
          refine lv_aload_n hx hb dX1_runTwice_99 rfl (lv_at hl 3 rfl) ?_
          refine t_get (ci := 0) (v := .ref v_12) hB hT (ro_ci r_19 rfl) rfl 2 (by decide) k_251 kn_34 dX1_runTwice_100 ?_
          refine lv_iload_n hx hb dX1_runTwice_103 rfl (lv_at hl 4 rfl) ?_
          have i_u_44 : vp_in n 6 := (i_in (n := 6) rfl (by omega) (by omega))
          refine t_iald hB hT (ro_in r_24 (by decide)) n_28 i_u_44 rfl dX1_runTwice_104 ?_
          refine lv_topi (fun u_44 e_u_44 => ?_)
          refine lv_iconst (v := 0) hx hb dX1_runTwice_105 (by decide) ?_
          refine t_callV (n := 4) (As := [.int u_42, .int u_43, .int u_44, .int 0]) (rest := [.ref h]) (ci := 5) hB hT hl.1 (s_fromOutside l D cI cZ cS cR N0 (sC g_14 v_6 i.toNatClampNeg r_15) hI v_7 u_42 u_43 u_44 0 r_21 (by have q0 : (0 : Int32).toInt = 0 := (by decide); omega) (by have q0 : (0 : Int32).toInt = 0 := (by decide); omega)) (ro_ci r_21 rfl) rfl k_500 k_59 k_594 k_498 k_499 (by decide +kernel) ⟨(Nat.le_of_ble_eq_true rfl), (Nat.le_of_ble_eq_true rfl)⟩ rfl (Nat.le_of_ble_eq_true rfl) ⟨(Nat.le_of_ble_eq_true rfl), (Nat.le_of_ble_eq_true rfl)⟩ dX1_runTwice_106 (fun v g_45 H locs hp hT => ?_)
          obtain ⟨r_46, rfl, hI, x_48, m_47⟩ := hp
          have hM : Sm md_s_runTwice g g_45 := hM.tr hE (m_47.mo (fun r k h => mdle_s_runTwice_s_fromOutside h))
          have hE : Ex g g_45 := hE.tr x_48
          have r_49 : g_45.1 h = 2 := (Ex.r x_48 r_18 (by decide))
          have r_50 : g_45.1 o = 1 := (Ex.r x_48 r_19 (by decide))
          have r_51 : g_45.1 v_6 = 50 := (Ex.r x_48 r_20 (by decide))
          have r_52 : g_45.1 v_7 = 6 := (Ex.r x_48 r_21 (by decide))
          have r_53 : g_45.1 v_8 = 61 := (Ex.r x_48 r_22 (by decide))
          have r_54 : g_45.1 v_10 = 62 := (Ex.r x_48 r_23 (by decide))
          have r_55 : g_45.1 v_12 = 63 := (Ex.r x_48 r_24 (by decide))
          have n_56 : g_45.2.2.1 v_6 = 6 := (Ex.n x_48 r_20 (by decide) n_25)
          have n_57 : g_45.2.2.1 v_8 = 6 := (Ex.n x_48 r_22 (by decide) n_26)
          have n_58 : g_45.2.2.1 v_10 = 6 := (Ex.n x_48 r_23 (by decide) n_27)
          have n_59 : g_45.2.2.1 v_12 = 6 := (Ex.n x_48 r_24 (by decide) n_28)
          have kn_60 : g_45.2.1 o 3 = .int v_3 := (Sm.v m_47 r_19 (by decide) rfl kn_29)
          have kn_61 : g_45.2.1 h 5 = .ref v_6 := (Sm.v m_47 r_18 (by decide) rfl kn_30)
          have kn_62 : g_45.2.1 h 2 = .ref v_7 := (Sm.v m_47 r_18 (by decide) rfl kn_31)
          have kn_63 : g_45.2.1 o 0 = .ref v_8 := (Sm.v m_47 r_19 (by decide) rfl kn_32)
          have kn_64 : g_45.2.1 o 1 = .ref v_10 := (Sm.v m_47 r_19 (by decide) rfl kn_33)
          have kn_65 : g_45.2.1 o 2 = .ref v_12 := (Sm.v m_47 r_19 (by decide) rfl kn_34)
          have kn_66 : g_45.2.2.2.1 v_8 i.toNatClampNeg = u_9 := (Sm.c m_47 r_22 (by decide) rfl (sC_a kn_35 (ro_ne r_22 r_20 (by decide))))
          have kn_67 : g_45.2.2.2.1 v_10 i.toNatClampNeg = u_11 := (Sm.c m_47 r_23 (by decide) rfl (sC_a kn_36 (ro_ne r_23 r_20 (by decide))))
          have kn_68 : g_45.2.2.2.1 v_12 i.toNatClampNeg = u_13 := (Sm.c m_47 r_24 (by decide) rfl (sC_a kn_37 (ro_ne r_24 r_20 (by decide))))
          have kn_69 : g_45.2.2.2.1 v_8 n.toNatClampNeg = u_42 := (Sm.c m_47 r_22 (by decide) rfl e_u_42.symm)
          have kn_70 : g_45.2.2.2.1 v_10 n.toNatClampNeg = u_43 := (Sm.c m_47 r_23 (by decide) rfl e_u_43.symm)
          have kn_71 : g_45.2.2.2.1 v_12 n.toNatClampNeg = u_44 := (Sm.c m_47 r_24 (by decide) rfl e_u_44.symm)
          refine W.eq (g2 := F0 m 109 ls [.int r_46, .ref h]) rfl ?_
          refine t_put0 (ci := 1) (v := .int r_46) hB hT (ro_ci r_49 rfl) (ro_n0 r_49 (by decide)) rfl 6 (by decide) k_283 (Or.inl rfl) rfl rfl dX1_runTwice_109 (fun H locs hT => ?_)
          have hI : Inv (sF g_45 h 6 (.int r_46)) := hI.sF (p_2_6 r_49 (⟨_, rfl⟩))
          have hM : Sm md_s_runTwice g (sF g_45 h 6 (.int r_46)) := hM.tr hE (Sm_sF (by rw [r_49]; rfl))
          have hE : Ex g (sF g_45 h 6 (.int r_46)) := hE
          obtain ⟨z_72, ez_72⟩ : ∃ z : Int32, z = i + 1 := ⟨_, rfl⟩
          have e_z_72 : z_72.toInt = i.toInt + 1 := i_add ez_72 rfl (by decide) (by omega) (by omega)
          refine lv_iinc (v := z_72) (lv' := [(5, .int z_72), (6, .int 0), (0, .ref h), (1, .ref o), (2, .int n), (3, .int x1), (4, .int x2)]) hx hb dX1_runTwice_112 hl (k := 1) rfl (by rw [ez_72]; rfl) (by decide) rfl (fun ls hl => ?_)
          refine lv_goto (tgt := 14) hx hb dX1_runTwice_115 (by decide) ?_
          exact ih (kf - 1) (by omega) (sF g_45 h 6 (.int r_46)) z_72 H locs ls hT hI hE hM (by omega) (by omega) (by have e0_ : (0 : Int32).toInt = 0 := (by decide); omega) (lv_sub hl [0, 2, 3, 4, 5, 6] rfl)
      · have c_5' : i.toInt = n.toInt := i_eq c_5 rfl rfl
        refine lv_iload hx hb dX1_runTwice_29 (lv_at hl 5 rfl) ?_
        refine lv_goto (tgt := 35) hx hb dX1_runTwice_31 (by decide) ?_
        refine lv_istore (lv' := [(6, .int x2), (5, .int i), (0, .ref h), (1, .ref o), (2, .int n), (3, .int x1), (4, .int x2)]) hx hb dX1_runTwice_35 hl (by decide) rfl (fun ls hl => ?_)
        refine lv_aload_n hx hb dX1_runTwice_37 rfl (lv_at hl 2 rfl) ?_
        obtain ⟨v_73, e_v_73, r_v_73, n_v_73⟩ := f_2_5 hI r_1
        refine t_get (ci := 1) (v := .ref v_73) hB hT (ro_ci r_1 rfl) rfl 5 (by decide) k_282 e_v_73 dX1_runTwice_38 ?_
        refine lv_iload hx hb dX1_runTwice_41 (lv_at hl 1 rfl) ?_
        refine lv_aload_n hx hb dX1_runTwice_43 rfl (lv_at hl 2 rfl) ?_
        obtain ⟨v_74, e_v_74, r_v_74⟩ := f_2_2 hI r_1
        refine t_get (ci := 1) (v := .ref v_74) hB hT (ro_ci r_1 rfl) rfl 2 (by decide) k_279 e_v_74 dX1_runTwice_44 ?_
        refine lv_aload_n hx hb dX1_runTwice_47 rfl (lv_at hl 3 rfl) ?_
        obtain ⟨v_75, e_v_75, r_v_75, n_v_75⟩ := f_1_0 hI r_2
        refine t_get (ci := 0) (v := .ref v_75) hB hT (ro_ci r_2 rfl) rfl 0 (by decide) k_244 e_v_75 dX1_runTwice_48 ?_
        refine lv_iload hx hb dX1_runTwice_51 (lv_at hl 1 rfl) ?_
        have i_u_76 : vp_in i 6 := (i_in (n := 6) rfl (by omega) (by omega))
        refine t_iald hB hT (ro_in r_v_75 (by decide)) n_v_75 i_u_76 rfl dX1_runTwice_53 ?_
        have c_u_76 := hI.c r_v_75 n_v_75 (i_cl i_u_76)
        refine lv_topi (fun u_76 e_u_76 => ?_)
        obtain ⟨l_u_76, u_u_76⟩ := c_u_76
        rw [← e_u_76] at l_u_76 u_u_76
        refine lv_aload_n hx hb dX1_runTwice_54 rfl (lv_at hl 3 rfl) ?_
        obtain ⟨v_77, e_v_77, r_v_77, n_v_77⟩ := f_1_1 hI r_2
        refine t_get (ci := 0) (v := .ref v_77) hB hT (ro_ci r_2 rfl) rfl 1 (by decide) k_248 e_v_77 dX1_runTwice_55 ?_
        refine lv_iload hx hb dX1_runTwice_58 (lv_at hl 1 rfl) ?_
        have i_u_78 : vp_in i 6 := (i_in (n := 6) rfl (by omega) (by omega))
        refine t_iald hB hT (ro_in r_v_77 (by decide)) n_v_77 i_u_78 rfl dX1_runTwice_60 ?_
        refine lv_topi (fun u_78 e_u_78 => ?_)
        refine lv_aload_n hx hb dX1_runTwice_61 rfl (lv_at hl 3 rfl) ?_
        obtain ⟨v_79, e_v_79, r_v_79, n_v_79⟩ := f_1_2 hI r_2
        refine t_get (ci := 0) (v := .ref v_79) hB hT (ro_ci r_2 rfl) rfl 2 (by decide) k_251 e_v_79 dX1_runTwice_62 ?_
        refine lv_iload hx hb dX1_runTwice_65 (lv_at hl 1 rfl) ?_
        have i_u_80 : vp_in i 6 := (i_in (n := 6) rfl (by omega) (by omega))
        refine t_iald hB hT (ro_in r_v_79 (by decide)) n_v_79 i_u_80 rfl dX1_runTwice_67 ?_
        refine lv_topi (fun u_80 e_u_80 => ?_)
        refine lv_iload hx hb dX1_runTwice_68 (lv_at hl 0 rfl) ?_
        refine t_callV (n := 4) (As := [.int u_76, .int u_78, .int u_80, .int x2]) (rest := [.int i, .ref v_73]) (ci := 5) hB hT hl.1 (s_fromOutside l D cI cZ cS cR N0 g1 hI v_74 u_76 u_78 u_80 x2 r_v_74 (by omega) (by omega)) (ro_ci r_v_74 rfl) rfl k_500 k_59 k_594 k_498 k_499 (by decide +kernel) ⟨(Nat.le_of_ble_eq_true rfl), (Nat.le_of_ble_eq_true rfl)⟩ rfl (Nat.le_of_ble_eq_true rfl) ⟨(Nat.le_of_ble_eq_true rfl), (Nat.le_of_ble_eq_true rfl)⟩ dX1_runTwice_70 (fun v g_81 H locs hp hT => ?_)
        obtain ⟨r_82, rfl, hI, x_84, m_83⟩ := hp
        have hM : Sm md_s_runTwice g g_81 := hM.tr hE (m_83.mo (fun r k h => mdle_s_runTwice_s_fromOutside h))
        have hE : Ex g g_81 := hE.tr x_84
        have r_85 : g_81.1 h = 2 := (Ex.r x_84 r_1 (by decide))
        have r_86 : g_81.1 o = 1 := (Ex.r x_84 r_2 (by decide))
        have r_87 : g_81.1 v_73 = 50 := (Ex.r x_84 r_v_73 (by decide))
        have r_88 : g_81.1 v_74 = 6 := (Ex.r x_84 r_v_74 (by decide))
        have r_89 : g_81.1 v_75 = 61 := (Ex.r x_84 r_v_75 (by decide))
        have r_90 : g_81.1 v_77 = 62 := (Ex.r x_84 r_v_77 (by decide))
        have r_91 : g_81.1 v_79 = 63 := (Ex.r x_84 r_v_79 (by decide))
        have n_92 : g_81.2.2.1 v_73 = 6 := (Ex.n x_84 r_v_73 (by decide) n_v_73)
        have n_93 : g_81.2.2.1 v_75 = 6 := (Ex.n x_84 r_v_75 (by decide) n_v_75)
        have n_94 : g_81.2.2.1 v_77 = 6 := (Ex.n x_84 r_v_77 (by decide) n_v_77)
        have n_95 : g_81.2.2.1 v_79 = 6 := (Ex.n x_84 r_v_79 (by decide) n_v_79)
        have kn_96 : g_81.2.1 o 3 = .int v_3 := (Sm.v m_83 r_2 (by decide) rfl e_v_3)
        have kn_97 : g_81.2.1 h 5 = .ref v_73 := (Sm.v m_83 r_1 (by decide) rfl e_v_73)
        have kn_98 : g_81.2.1 h 2 = .ref v_74 := (Sm.v m_83 r_1 (by decide) rfl e_v_74)
        have kn_99 : g_81.2.1 o 0 = .ref v_75 := (Sm.v m_83 r_2 (by decide) rfl e_v_75)
        have kn_100 : g_81.2.1 o 1 = .ref v_77 := (Sm.v m_83 r_2 (by decide) rfl e_v_77)
        have kn_101 : g_81.2.1 o 2 = .ref v_79 := (Sm.v m_83 r_2 (by decide) rfl e_v_79)
        have kn_102 : g_81.2.2.2.1 v_75 i.toNatClampNeg = u_76 := (Sm.c m_83 r_v_75 (by decide) rfl e_u_76.symm)
        have kn_103 : g_81.2.2.2.1 v_77 i.toNatClampNeg = u_78 := (Sm.c m_83 r_v_77 (by decide) rfl e_u_78.symm)
        have kn_104 : g_81.2.2.2.1 v_79 i.toNatClampNeg = u_80 := (Sm.c m_83 r_v_79 (by decide) rfl e_u_80.symm)
        refine W.eq (g2 := F0 m 73 ls [.int r_82, .int i, .ref v_73]) rfl ?_
        have i_105 : vp_in i 6 := (i_in (n := 6) rfl (by omega) (by omega))
        refine t_iast hB hT (ro_in r_87 (by decide)) n_92 i_105 dX1_runTwice_73 (fun H locs hT => ?_)
        have hI : Inv (sC g_81 v_73 i.toNatClampNeg r_82) := hI.sC (ck r_87 trivial)
        have hM : Sm md_s_runTwice g (sC g_81 v_73 i.toNatClampNeg r_82) := hM.tr hE (Sm_sC (by rw [r_87]; rfl))
        have hE : Ex g (sC g_81 v_73 i.toNatClampNeg r_82) := hE
        refine lv_iload hx hb dX1_runTwice_74 (lv_at hl 1 rfl) ?_
        refine lv_iload_n hx hb dX1_runTwice_76 rfl (lv_at hl 4 rfl) ?_
        refine lv_iload_n hx hb dX1_runTwice_77 rfl (lv_at hl 5 rfl) ?_
        refine lv_iadd hx hb dX1_runTwice_78 ?_
        refine lv_topi (fun z_106 ez_106 => ?_)
        refine lv_icmp_ne (tgt := 112) hx hb dX1_runTwice_79 (by decide) (fun c_107 => ?_) (fun c_107 => ?_)
        · have c_107' : i.toInt ≠ z_106.toInt := i_ne c_107 rfl rfl
          obtain ⟨z_108, ez_108⟩ : ∃ z : Int32, z = i + 1 := ⟨_, rfl⟩
          have e_z_108 : z_108.toInt = i.toInt + 1 := i_add ez_108 rfl (by decide) (by omega) (by omega)
          refine lv_iinc (v := z_108) (lv' := [(5, .int z_108), (6, .int x2), (0, .ref h), (1, .ref o), (2, .int n), (3, .int x1), (4, .int x2)]) hx hb dX1_runTwice_112 hl (k := 1) rfl (by rw [ez_108]; rfl) (by decide) rfl (fun ls hl => ?_)
          refine lv_goto (tgt := 14) hx hb dX1_runTwice_115 (by decide) ?_
          exact ih (kf - 1) (by omega) (sC g_81 v_73 i.toNatClampNeg r_82) z_108 H locs ls hT hI hE hM (by omega) (by omega) (by have e0_ : (0 : Int32).toInt = 0 := (by decide); omega) (lv_sub hl [0, 2, 3, 4, 5, 6] rfl)
        · have c_107' : i.toInt = z_106.toInt := i_eq c_107 rfl rfl
          refine lv_aload_n hx hb dX1_runTwice_82 rfl (lv_at hl 2 rfl) ?_
          refine lv_aload_n hx hb dX1_runTwice_83 rfl (lv_at hl 2 rfl) ?_
          refine t_get (ci := 1) (v := .ref v_74) hB hT (ro_ci r_85 rfl) rfl 2 (by decide) k_279 kn_98 dX1_runTwice_84 ?_
          refine lv_aload_n hx hb dX1_runTwice_87 rfl (lv_at hl 3 rfl) ?_
          refine t_get (ci := 0) (v := .ref v_75) hB hT (ro_ci r_86 rfl) rfl 0 (by decide) k_244 kn_99 dX1_runTwice_88 ?_
          refine lv_iload_n hx hb dX1_runTwice_91 rfl (lv_at hl 4 rfl) ?_
          have i_u_109 : vp_in n 6 := (i_in (n := 6) rfl (by omega) (by omega))
          refine t_iald hB hT (ro_in r_89 (by decide)) n_93 i_u_109 rfl dX1_runTwice_92 ?_
          have c_u_109 := hI.c r_89 n_93 (i_cl i_u_109)
          refine lv_topi (fun u_109 e_u_109 => ?_)
          obtain ⟨l_u_109, u_u_109⟩ := c_u_109
          rw [← e_u_109] at l_u_109 u_u_109
          refine lv_aload_n hx hb dX1_runTwice_93 rfl (lv_at hl 3 rfl) ?_
          refine t_get (ci := 0) (v := .ref v_77) hB hT (ro_ci r_86 rfl) rfl 1 (by decide) k_248 kn_100 dX1_runTwice_94 ?_
          refine lv_iload_n hx hb dX1_runTwice_97 rfl (lv_at hl 4 rfl) ?_
          have i_u_110 : vp_in n 6 := (i_in (n := 6) rfl (by omega) (by omega))
          refine t_iald hB hT (ro_in r_90 (by decide)) n_94 i_u_110 rfl dX1_runTwice_98 ?_
          refine lv_topi (fun u_110 e_u_110 => ?_)
          refine lv_aload_n hx hb dX1_runTwice_99 rfl (lv_at hl 3 rfl) ?_
          refine t_get (ci := 0) (v := .ref v_79) hB hT (ro_ci r_86 rfl) rfl 2 (by decide) k_251 kn_101 dX1_runTwice_100 ?_
          refine lv_iload_n hx hb dX1_runTwice_103 rfl (lv_at hl 4 rfl) ?_
          have i_u_111 : vp_in n 6 := (i_in (n := 6) rfl (by omega) (by omega))
          refine t_iald hB hT (ro_in r_91 (by decide)) n_95 i_u_111 rfl dX1_runTwice_104 ?_
          refine lv_topi (fun u_111 e_u_111 => ?_)
          refine lv_iconst (v := 0) hx hb dX1_runTwice_105 (by decide) ?_
          refine t_callV (n := 4) (As := [.int u_109, .int u_110, .int u_111, .int 0]) (rest := [.ref h]) (ci := 5) hB hT hl.1 (s_fromOutside l D cI cZ cS cR N0 (sC g_81 v_73 i.toNatClampNeg r_82) hI v_74 u_109 u_110 u_111 0 r_88 (by have q0 : (0 : Int32).toInt = 0 := (by decide); omega) (by have q0 : (0 : Int32).toInt = 0 := (by decide); omega)) (ro_ci r_88 rfl) rfl k_500 k_59 k_594 k_498 k_499 (by decide +kernel) ⟨(Nat.le_of_ble_eq_true rfl), (Nat.le_of_ble_eq_true rfl)⟩ rfl (Nat.le_of_ble_eq_true rfl) ⟨(Nat.le_of_ble_eq_true rfl), (Nat.le_of_ble_eq_true rfl)⟩ dX1_runTwice_106 (fun v g_112 H locs hp hT => ?_)
          obtain ⟨r_113, rfl, hI, x_115, m_114⟩ := hp
          have hM : Sm md_s_runTwice g g_112 := hM.tr hE (m_114.mo (fun r k h => mdle_s_runTwice_s_fromOutside h))
          have hE : Ex g g_112 := hE.tr x_115
          have r_116 : g_112.1 h = 2 := (Ex.r x_115 r_85 (by decide))
          have r_117 : g_112.1 o = 1 := (Ex.r x_115 r_86 (by decide))
          have r_118 : g_112.1 v_73 = 50 := (Ex.r x_115 r_87 (by decide))
          have r_119 : g_112.1 v_74 = 6 := (Ex.r x_115 r_88 (by decide))
          have r_120 : g_112.1 v_75 = 61 := (Ex.r x_115 r_89 (by decide))
          have r_121 : g_112.1 v_77 = 62 := (Ex.r x_115 r_90 (by decide))
          have r_122 : g_112.1 v_79 = 63 := (Ex.r x_115 r_91 (by decide))
          have n_123 : g_112.2.2.1 v_73 = 6 := (Ex.n x_115 r_87 (by decide) n_92)
          have n_124 : g_112.2.2.1 v_75 = 6 := (Ex.n x_115 r_89 (by decide) n_93)
          have n_125 : g_112.2.2.1 v_77 = 6 := (Ex.n x_115 r_90 (by decide) n_94)
          have n_126 : g_112.2.2.1 v_79 = 6 := (Ex.n x_115 r_91 (by decide) n_95)
          have kn_127 : g_112.2.1 o 3 = .int v_3 := (Sm.v m_114 r_86 (by decide) rfl kn_96)
          have kn_128 : g_112.2.1 h 5 = .ref v_73 := (Sm.v m_114 r_85 (by decide) rfl kn_97)
          have kn_129 : g_112.2.1 h 2 = .ref v_74 := (Sm.v m_114 r_85 (by decide) rfl kn_98)
          have kn_130 : g_112.2.1 o 0 = .ref v_75 := (Sm.v m_114 r_86 (by decide) rfl kn_99)
          have kn_131 : g_112.2.1 o 1 = .ref v_77 := (Sm.v m_114 r_86 (by decide) rfl kn_100)
          have kn_132 : g_112.2.1 o 2 = .ref v_79 := (Sm.v m_114 r_86 (by decide) rfl kn_101)
          have kn_133 : g_112.2.2.2.1 v_75 i.toNatClampNeg = u_76 := (Sm.c m_114 r_89 (by decide) rfl (sC_a kn_102 (ro_ne r_89 r_87 (by decide))))
          have kn_134 : g_112.2.2.2.1 v_77 i.toNatClampNeg = u_78 := (Sm.c m_114 r_90 (by decide) rfl (sC_a kn_103 (ro_ne r_90 r_87 (by decide))))
          have kn_135 : g_112.2.2.2.1 v_79 i.toNatClampNeg = u_80 := (Sm.c m_114 r_91 (by decide) rfl (sC_a kn_104 (ro_ne r_91 r_87 (by decide))))
          have kn_136 : g_112.2.2.2.1 v_75 n.toNatClampNeg = u_109 := (Sm.c m_114 r_89 (by decide) rfl e_u_109.symm)
          have kn_137 : g_112.2.2.2.1 v_77 n.toNatClampNeg = u_110 := (Sm.c m_114 r_90 (by decide) rfl e_u_110.symm)
          have kn_138 : g_112.2.2.2.1 v_79 n.toNatClampNeg = u_111 := (Sm.c m_114 r_91 (by decide) rfl e_u_111.symm)
          refine W.eq (g2 := F0 m 109 ls [.int r_113, .ref h]) rfl ?_
          refine t_put0 (ci := 1) (v := .int r_113) hB hT (ro_ci r_116 rfl) (ro_n0 r_116 (by decide)) rfl 6 (by decide) k_283 (Or.inl rfl) rfl rfl dX1_runTwice_109 (fun H locs hT => ?_)
          have hI : Inv (sF g_112 h 6 (.int r_113)) := hI.sF (p_2_6 r_116 (⟨_, rfl⟩))
          have hM : Sm md_s_runTwice g (sF g_112 h 6 (.int r_113)) := hM.tr hE (Sm_sF (by rw [r_116]; rfl))
          have hE : Ex g (sF g_112 h 6 (.int r_113)) := hE
          obtain ⟨z_139, ez_139⟩ : ∃ z : Int32, z = i + 1 := ⟨_, rfl⟩
          have e_z_139 : z_139.toInt = i.toInt + 1 := i_add ez_139 rfl (by decide) (by omega) (by omega)
          refine lv_iinc (v := z_139) (lv' := [(5, .int z_139), (6, .int x2), (0, .ref h), (1, .ref o), (2, .int n), (3, .int x1), (4, .int x2)]) hx hb dX1_runTwice_112 hl (k := 1) rfl (by rw [ez_139]; rfl) (by decide) rfl (fun ls hl => ?_)
          refine lv_goto (tgt := 14) hx hb dX1_runTwice_115 (by decide) ?_
          exact ih (kf - 1) (by omega) (sF g_112 h 6 (.int r_113)) z_139 H locs ls hT hI hE hM (by omega) (by omega) (by have e0_ : (0 : Int32).toInt = 0 := (by decide); omega) (lv_sub hl [0, 2, 3, 4, 5, 6] rfl)
set_option maxHeartbeats 4000000 in
set_option maxRecDepth 100000 in
theorem s_runTwice (l : Launch) (D : va_G) (cI cZ cS cR : ClassId) (N0 : NT) (g : GS) (hI : Inv g) (h : Nat) (o : Nat) (n : Int32) (x1 : Int32) (x2 : Int32) (r_h : g.1 h = 2) (r_o : g.1 o = 1) (l_n : 0 ≤ n.toInt) (u_n : n.toInt ≤ 5) : Ty l D cI cZ cS cR N0 yX1_runTwice cX1_runTwice 7 none 14 0 0 [.ref h, .ref o, .int n, .int x1, .int x2] g (fun v g' => v = none ∧ Inv g' ∧ Ex g g' ∧ Sm md_s_runTwice g g') := by
  refine t_enter (by decide) (Nat.le_of_ble_eq_true rfl) ?_
  intro p e s m args below meth c ls H locs hB hr hin hl hT
  have hx := hB.1
  have hb := hB.2.1
  have hl : lv_has ls 7 [(0, .ref h), (1, .ref o), (2, .int n), (3, .int x1), (4, .int x2)] := hl
  have hE : Ex g g := Ex.rf
  have hM : Sm md_s_runTwice g g := Sm.rf
  refine lv_aload_n hx hb dX1_runTwice_0 rfl (lv_at hl 0 rfl) ?_
  obtain ⟨v_1, e_v_1, r_v_1⟩ := f_2_2 hI r_h
  refine t_get (ci := 1) (v := .ref v_1) hB hT (ro_ci r_h rfl) rfl 2 (by decide) k_279 e_v_1 dX1_runTwice_1 ?_
  refine lv_aload_n hx hb dX1_runTwice_4 rfl (lv_at hl 0 rfl) ?_
  obtain ⟨v_2, e_v_2, r_v_2⟩ := f_2_0 hI r_h
  refine t_get (ci := 1) (v := .ref v_2) hB hT (ro_ci r_h rfl) rfl 0 (by decide) k_276 e_v_2 dX1_runTwice_5 ?_
  refine t_callV (n := 1) (As := [.ref v_2]) (rest := []) (ci := 5) hB hT hl.1 (s_wcopy l D cI cZ cS cR N0 g hI v_1 v_2 r_v_1 r_v_2) (ro_ci r_v_1 rfl) rfl k_585 k_59 k_582 k_583 k_584 (by decide +kernel) ⟨(Nat.le_of_ble_eq_true rfl), (Nat.le_of_ble_eq_true rfl)⟩ rfl (Nat.le_of_ble_eq_true rfl) ⟨(Nat.le_of_ble_eq_true rfl), (Nat.le_of_ble_eq_true rfl)⟩ dX1_runTwice_8 (fun v g_3 H locs hp hT => ?_)
  obtain ⟨rfl, hI, x_5, m_4⟩ := hp
  have hM : Sm md_s_runTwice g g_3 := hM.tr hE (m_4.mo (fun r k h => mdle_s_runTwice_s_wcopy h))
  have hE : Ex g g_3 := hE.tr x_5
  have r_6 : g_3.1 h = 2 := (Ex.r x_5 r_h (by decide))
  have r_7 : g_3.1 o = 1 := (Ex.r x_5 r_o (by decide))
  have r_8 : g_3.1 v_1 = 6 := (Ex.r x_5 r_v_1 (by decide))
  have r_9 : g_3.1 v_2 = 6 := (Ex.r x_5 r_v_2 (by decide))
  have kn_10 : g_3.2.1 h 2 = .ref v_1 := (Sm.v m_4 r_h (by decide) rfl e_v_1)
  have kn_11 : g_3.2.1 h 0 = .ref v_2 := (Sm.v m_4 r_h (by decide) rfl e_v_2)
  refine W.eq (g2 := F0 m 11 ls []) rfl ?_
  refine lv_iconst (v := 0) hx hb dX1_runTwice_11 (by decide) ?_
  refine lv_istore (lv' := [(5, .int 0), (0, .ref h), (1, .ref o), (2, .int n), (3, .int x1), (4, .int x2)]) hx hb dX1_runTwice_12 hl (by decide) rfl (fun ls hl => ?_)
  exact lt_s_runTwice_a l D cI cZ cS cR N0 g h o n x1 x2 r_h r_o l_n u_n hB hr   6 g_3 (0 : Int32) H locs ls hT hI hE hM (by decide) (by decide) (by have e0_ : (0 : Int32).toInt = 0 := (by decide); omega) (lv_sub hl [0, 1, 2, 3, 4, 5] rfl)
abbrev md_s_isLike : Nat → Nat → Bool := mdf []
set_option maxHeartbeats 4000000 in
set_option maxRecDepth 100000 in
theorem lt_s_isLike_a (l : Launch) (D : va_G) (cI cZ cS cR : ClassId) (N0 : NT) (g : GS) (h : Nat) (o : Nat) (n : Int32) (x1 : Int32) (r_h : g.1 h = 2) (r_o : g.1 o = 1) (l_n : 0 ≤ n.toInt) (u_n : n.toInt ≤ 5) {p : Program} {e : Env} {s : State} {m : MethodId} {args : Array Value} {below : List Frame} {meth : Method} {c : Code} (hB : Tz p s m meth c args cX1_isLike 6 RX1 D cI cZ cS cR N0) (hr : meth.sig.returnType = (some .boolean))    : ∀ (kf : Nat) (i : Int32)  (H : Heap) (locs : List Loc) (ls : Array Slot), Tv D cI cZ cS cR N0 s.heap H locs g → Inv g → Ex g g → Sm md_s_isLike g g → 0 ≤ i.toInt → i.toInt ≤ 6 → (6 ≤ i.toInt + kf) → lv_has ls 6 [(4, .int i), (0, .ref h), (1, .ref o), (2, .int n), (3, .int x1)] → W p l e (rmx 2 0 0) s m args below meth c H locs 0 0 (MQ below (tQ D cI cZ cS cR N0 (fun v g' => ∃ (r : Int32), v = some (.int r) ∧ g' = g ∧ (r = 1 ∨ r = 0))) args s 0 0 (fun q => N0.1 ≤ q)) (F0 m 3 ls []) := by
  have hx := hB.1
  have hb := hB.2.1
  intro kf
  induction kf using Nat.strongRecOn with
  | ind kf ih =>
    intro i H locs ls hT hI hE hM l_i u_i hk hl
    have r_1 : g.1 h = 2 := Ex.r hE r_h (by decide)
    have r_2 : g.1 o = 1 := Ex.r hE r_o (by decide)
    refine lv_iload hx hb dX1_isLike_3 (lv_at hl 0 rfl) ?_
    refine lv_aload_n hx hb dX1_isLike_5 rfl (lv_at hl 2 rfl) ?_
    obtain ⟨v_3, e_v_3, l_v_3, u_v_3⟩ := f_1_3 hI r_2
    refine t_get (ci := 0) (v := .int v_3) hB hT (ro_ci r_2 rfl) rfl 3 (by decide) k_254 e_v_3 dX1_isLike_6 ?_
    refine lv_icmp_ge (tgt := 67) hx hb dX1_isLike_9 (by decide) (fun c_4 => ?_) (fun c_4 => ?_)
    · have c_4' : v_3.toInt ≤ i.toInt := i_le c_4 rfl rfl
      refine lv_iload_n hx hb dX1_isLike_67 rfl (lv_at hl 4 rfl) ?_
      refine lv_if_ne (tgt := 86) hx hb dX1_isLike_68 (by decide) (fun c_5 => ?_) (fun c_5 => ?_)
      · have c_5' : x1.toInt ≠ 0 := i_ne c_5 rfl (by decide)
        refine lv_aload_n hx hb dX1_isLike_86 rfl (lv_at hl 1 rfl) ?_
        obtain ⟨v_6, e_v_6, r_v_6⟩ := f_2_2 hI r_1
        refine t_get (ci := 1) (v := .ref v_6) hB hT (ro_ci r_1 rfl) rfl 2 (by decide) k_279 e_v_6 dX1_isLike_87 ?_
        refine lv_aload_n hx hb dX1_isLike_90 rfl (lv_at hl 1 rfl) ?_
        obtain ⟨v_7, e_v_7, r_v_7⟩ := f_2_1 hI r_1
        refine t_get (ci := 1) (v := .ref v_7) hB hT (ro_ci r_1 rfl) rfl 1 (by decide) k_278 e_v_7 dX1_isLike_91 ?_
        refine t_callV (n := 1) (As := [.ref v_7]) (rest := []) (ci := 5) hB hT hl.1 (s_wstores l D cI cZ cS cR N0 g hI v_6 v_7 r_v_6 r_v_7) (ro_ci r_v_6 rfl) rfl k_606 k_59 k_603 k_604 k_605 (by decide +kernel) ⟨(Nat.le_of_ble_eq_true rfl), (Nat.le_of_ble_eq_true rfl)⟩ rfl (Nat.le_of_ble_eq_true rfl) ⟨(Nat.le_of_ble_eq_true rfl), (Nat.le_of_ble_eq_true rfl)⟩ dX1_isLike_94 (fun v g_8 H locs hp hT => ?_)
        obtain ⟨r_9, rfl, eg, f_10⟩ := hp
        rw [eg] at hT
        clear eg
        refine W.eq (g2 := F0 m 97 ls [.int r_9]) rfl ?_
        rcases f_10 with rfl | rfl
        · refine W.eq (g2 := F0 m 97 ls [.int 1]) rfl ?_
          refine lv_if_eq (tgt := 132) hx hb dX1_isLike_97 (by decide) (fun c_ => absurd c_ (by decide)) (fun c_ => ?_)
          refine lv_aload_n hx hb dX1_isLike_100 rfl (lv_at hl 1 rfl) ?_
          refine t_get (ci := 1) (v := .ref v_6) hB hT (ro_ci r_1 rfl) rfl 2 (by decide) k_279 e_v_6 dX1_isLike_101 ?_
          refine lv_aload_n hx hb dX1_isLike_104 rfl (lv_at hl 1 rfl) ?_
          refine t_get (ci := 1) (v := .ref v_7) hB hT (ro_ci r_1 rfl) rfl 1 (by decide) k_278 e_v_7 dX1_isLike_105 ?_
          refine t_callV (n := 1) (As := [.ref v_7]) (rest := []) (ci := 5) hB hT hl.1 (s_wcounts l D cI cZ cS cR N0 g hI v_6 v_7 r_v_6 r_v_7) (ro_ci r_v_6 rfl) rfl k_614 k_59 k_611 k_612 k_613 (by decide +kernel) ⟨(Nat.le_of_ble_eq_true rfl), (Nat.le_of_ble_eq_true rfl)⟩ rfl (Nat.le_of_ble_eq_true rfl) ⟨(Nat.le_of_ble_eq_true rfl), (Nat.le_of_ble_eq_true rfl)⟩ dX1_isLike_108 (fun v g_13 H locs hp hT => ?_)
          obtain ⟨r_14, rfl, eg, f_15⟩ := hp
          rw [eg] at hT
          clear eg
          refine W.eq (g2 := F0 m 111 ls [.int r_14]) rfl ?_
          rcases f_15 with rfl | rfl
          · refine W.eq (g2 := F0 m 111 ls [.int 1]) rfl ?_
            refine lv_if_eq (tgt := 132) hx hb dX1_isLike_111 (by decide) (fun c_ => absurd c_ (by decide)) (fun c_ => ?_)
            refine lv_aload_n hx hb dX1_isLike_114 rfl (lv_at hl 1 rfl) ?_
            refine t_get (ci := 1) (v := .ref v_6) hB hT (ro_ci r_1 rfl) rfl 2 (by decide) k_279 e_v_6 dX1_isLike_115 ?_
            refine lv_aload_n hx hb dX1_isLike_118 rfl (lv_at hl 1 rfl) ?_
            refine t_get (ci := 1) (v := .ref v_7) hB hT (ro_ci r_1 rfl) rfl 1 (by decide) k_278 e_v_7 dX1_isLike_119 ?_
            refine t_callV (n := 1) (As := [.ref v_7]) (rest := []) (ci := 5) hB hT hl.1 (s_didTheSame l D cI cZ cS cR N0 g hI v_6 v_7 r_v_6 r_v_7) (ro_ci r_v_6 rfl) rfl k_618 k_59 k_615 k_616 k_617 (by decide +kernel) ⟨(Nat.le_of_ble_eq_true rfl), (Nat.le_of_ble_eq_true rfl)⟩ rfl (Nat.le_of_ble_eq_true rfl) ⟨(Nat.le_of_ble_eq_true rfl), (Nat.le_of_ble_eq_true rfl)⟩ dX1_isLike_122 (fun v g_18 H locs hp hT => ?_)
            obtain ⟨r_19, rfl, eg, f_20⟩ := hp
            rw [eg] at hT
            clear eg
            refine W.eq (g2 := F0 m 125 ls [.int r_19]) rfl ?_
            rcases f_20 with rfl | rfl
            · refine W.eq (g2 := F0 m 125 ls [.int 1]) rfl ?_
              refine lv_if_eq (tgt := 132) hx hb dX1_isLike_125 (by decide) (fun c_ => absurd c_ (by decide)) (fun c_ => ?_)
              refine lv_iconst (v := 1) hx hb dX1_isLike_128 (by decide) ?_
              refine lv_goto (tgt := 133) hx hb dX1_isLike_129 (by decide) ?_
              exact t_zret hB hr rfl hT (Nat.le_of_ble_eq_true rfl) (Nat.le_of_ble_eq_true rfl) dX1_isLike_133 ⟨1, rfl, rfl, (Or.inl rfl)⟩
            · refine W.eq (g2 := F0 m 125 ls [.int 0]) rfl ?_
              refine lv_if_eq (tgt := 132) hx hb dX1_isLike_125 (by decide) (fun c_ => ?_) (fun c_ => absurd (by decide) c_)
              refine lv_iconst (v := 0) hx hb dX1_isLike_132 (by decide) ?_
              exact t_zret hB hr rfl hT (Nat.le_of_ble_eq_true rfl) (Nat.le_of_ble_eq_true rfl) dX1_isLike_133 ⟨0, rfl, rfl, (Or.inr rfl)⟩
          · refine W.eq (g2 := F0 m 111 ls [.int 0]) rfl ?_
            refine lv_if_eq (tgt := 132) hx hb dX1_isLike_111 (by decide) (fun c_ => ?_) (fun c_ => absurd (by decide) c_)
            refine lv_iconst (v := 0) hx hb dX1_isLike_132 (by decide) ?_
            exact t_zret hB hr rfl hT (Nat.le_of_ble_eq_true rfl) (Nat.le_of_ble_eq_true rfl) dX1_isLike_133 ⟨0, rfl, rfl, (Or.inr rfl)⟩
        · refine W.eq (g2 := F0 m 97 ls [.int 0]) rfl ?_
          refine lv_if_eq (tgt := 132) hx hb dX1_isLike_97 (by decide) (fun c_ => ?_) (fun c_ => absurd (by decide) c_)
          refine lv_iconst (v := 0) hx hb dX1_isLike_132 (by decide) ?_
          exact t_zret hB hr rfl hT (Nat.le_of_ble_eq_true rfl) (Nat.le_of_ble_eq_true rfl) dX1_isLike_133 ⟨0, rfl, rfl, (Or.inr rfl)⟩
      · have c_5' : x1.toInt = 0 := i_eq c_5 rfl (by decide)
        refine lv_aload_n hx hb dX1_isLike_71 rfl (lv_at hl 1 rfl) ?_
        obtain ⟨v_23, e_v_23⟩ := f_2_6 hI r_1
        refine t_get (ci := 1) (v := .int v_23) hB hT (ro_ci r_1 rfl) rfl 6 (by decide) k_283 e_v_23 dX1_isLike_72 ?_
        refine lv_aload_n hx hb dX1_isLike_75 rfl (lv_at hl 1 rfl) ?_
        obtain ⟨v_24, e_v_24, r_v_24, n_v_24⟩ := f_2_3 hI r_1
        refine t_get (ci := 1) (v := .ref v_24) hB hT (ro_ci r_1 rfl) rfl 3 (by decide) k_280 e_v_24 dX1_isLike_76 ?_
        refine lv_iload_n hx hb dX1_isLike_79 rfl (lv_at hl 3 rfl) ?_
        have i_u_25 : vp_in n 6 := (i_in (n := 6) rfl (by omega) (by omega))
        refine t_iald hB hT (ro_in r_v_24 (by decide)) n_v_24 i_u_25 rfl dX1_isLike_80 ?_
        refine lv_topi (fun u_25 e_u_25 => ?_)
        refine lv_icmp_eq (tgt := 86) hx hb dX1_isLike_81 (by decide) (fun c_26 => ?_) (fun c_26 => ?_)
        · have c_26' : v_23.toInt = u_25.toInt := i_eq c_26 rfl rfl
          refine lv_aload_n hx hb dX1_isLike_86 rfl (lv_at hl 1 rfl) ?_
          obtain ⟨v_27, e_v_27, r_v_27⟩ := f_2_2 hI r_1
          refine t_get (ci := 1) (v := .ref v_27) hB hT (ro_ci r_1 rfl) rfl 2 (by decide) k_279 e_v_27 dX1_isLike_87 ?_
          refine lv_aload_n hx hb dX1_isLike_90 rfl (lv_at hl 1 rfl) ?_
          obtain ⟨v_28, e_v_28, r_v_28⟩ := f_2_1 hI r_1
          refine t_get (ci := 1) (v := .ref v_28) hB hT (ro_ci r_1 rfl) rfl 1 (by decide) k_278 e_v_28 dX1_isLike_91 ?_
          refine t_callV (n := 1) (As := [.ref v_28]) (rest := []) (ci := 5) hB hT hl.1 (s_wstores l D cI cZ cS cR N0 g hI v_27 v_28 r_v_27 r_v_28) (ro_ci r_v_27 rfl) rfl k_606 k_59 k_603 k_604 k_605 (by decide +kernel) ⟨(Nat.le_of_ble_eq_true rfl), (Nat.le_of_ble_eq_true rfl)⟩ rfl (Nat.le_of_ble_eq_true rfl) ⟨(Nat.le_of_ble_eq_true rfl), (Nat.le_of_ble_eq_true rfl)⟩ dX1_isLike_94 (fun v g_29 H locs hp hT => ?_)
          obtain ⟨r_30, rfl, eg, f_31⟩ := hp
          rw [eg] at hT
          clear eg
          refine W.eq (g2 := F0 m 97 ls [.int r_30]) rfl ?_
          rcases f_31 with rfl | rfl
          · refine W.eq (g2 := F0 m 97 ls [.int 1]) rfl ?_
            refine lv_if_eq (tgt := 132) hx hb dX1_isLike_97 (by decide) (fun c_ => absurd c_ (by decide)) (fun c_ => ?_)
            refine lv_aload_n hx hb dX1_isLike_100 rfl (lv_at hl 1 rfl) ?_
            refine t_get (ci := 1) (v := .ref v_27) hB hT (ro_ci r_1 rfl) rfl 2 (by decide) k_279 e_v_27 dX1_isLike_101 ?_
            refine lv_aload_n hx hb dX1_isLike_104 rfl (lv_at hl 1 rfl) ?_
            refine t_get (ci := 1) (v := .ref v_28) hB hT (ro_ci r_1 rfl) rfl 1 (by decide) k_278 e_v_28 dX1_isLike_105 ?_
            refine t_callV (n := 1) (As := [.ref v_28]) (rest := []) (ci := 5) hB hT hl.1 (s_wcounts l D cI cZ cS cR N0 g hI v_27 v_28 r_v_27 r_v_28) (ro_ci r_v_27 rfl) rfl k_614 k_59 k_611 k_612 k_613 (by decide +kernel) ⟨(Nat.le_of_ble_eq_true rfl), (Nat.le_of_ble_eq_true rfl)⟩ rfl (Nat.le_of_ble_eq_true rfl) ⟨(Nat.le_of_ble_eq_true rfl), (Nat.le_of_ble_eq_true rfl)⟩ dX1_isLike_108 (fun v g_34 H locs hp hT => ?_)
            obtain ⟨r_35, rfl, eg, f_36⟩ := hp
            rw [eg] at hT
            clear eg
            refine W.eq (g2 := F0 m 111 ls [.int r_35]) rfl ?_
            rcases f_36 with rfl | rfl
            · refine W.eq (g2 := F0 m 111 ls [.int 1]) rfl ?_
              refine lv_if_eq (tgt := 132) hx hb dX1_isLike_111 (by decide) (fun c_ => absurd c_ (by decide)) (fun c_ => ?_)
              refine lv_aload_n hx hb dX1_isLike_114 rfl (lv_at hl 1 rfl) ?_
              refine t_get (ci := 1) (v := .ref v_27) hB hT (ro_ci r_1 rfl) rfl 2 (by decide) k_279 e_v_27 dX1_isLike_115 ?_
              refine lv_aload_n hx hb dX1_isLike_118 rfl (lv_at hl 1 rfl) ?_
              refine t_get (ci := 1) (v := .ref v_28) hB hT (ro_ci r_1 rfl) rfl 1 (by decide) k_278 e_v_28 dX1_isLike_119 ?_
              refine t_callV (n := 1) (As := [.ref v_28]) (rest := []) (ci := 5) hB hT hl.1 (s_didTheSame l D cI cZ cS cR N0 g hI v_27 v_28 r_v_27 r_v_28) (ro_ci r_v_27 rfl) rfl k_618 k_59 k_615 k_616 k_617 (by decide +kernel) ⟨(Nat.le_of_ble_eq_true rfl), (Nat.le_of_ble_eq_true rfl)⟩ rfl (Nat.le_of_ble_eq_true rfl) ⟨(Nat.le_of_ble_eq_true rfl), (Nat.le_of_ble_eq_true rfl)⟩ dX1_isLike_122 (fun v g_39 H locs hp hT => ?_)
              obtain ⟨r_40, rfl, eg, f_41⟩ := hp
              rw [eg] at hT
              clear eg
              refine W.eq (g2 := F0 m 125 ls [.int r_40]) rfl ?_
              rcases f_41 with rfl | rfl
              · refine W.eq (g2 := F0 m 125 ls [.int 1]) rfl ?_
                refine lv_if_eq (tgt := 132) hx hb dX1_isLike_125 (by decide) (fun c_ => absurd c_ (by decide)) (fun c_ => ?_)
                refine lv_iconst (v := 1) hx hb dX1_isLike_128 (by decide) ?_
                refine lv_goto (tgt := 133) hx hb dX1_isLike_129 (by decide) ?_
                exact t_zret hB hr rfl hT (Nat.le_of_ble_eq_true rfl) (Nat.le_of_ble_eq_true rfl) dX1_isLike_133 ⟨1, rfl, rfl, (Or.inl rfl)⟩
              · refine W.eq (g2 := F0 m 125 ls [.int 0]) rfl ?_
                refine lv_if_eq (tgt := 132) hx hb dX1_isLike_125 (by decide) (fun c_ => ?_) (fun c_ => absurd (by decide) c_)
                refine lv_iconst (v := 0) hx hb dX1_isLike_132 (by decide) ?_
                exact t_zret hB hr rfl hT (Nat.le_of_ble_eq_true rfl) (Nat.le_of_ble_eq_true rfl) dX1_isLike_133 ⟨0, rfl, rfl, (Or.inr rfl)⟩
            · refine W.eq (g2 := F0 m 111 ls [.int 0]) rfl ?_
              refine lv_if_eq (tgt := 132) hx hb dX1_isLike_111 (by decide) (fun c_ => ?_) (fun c_ => absurd (by decide) c_)
              refine lv_iconst (v := 0) hx hb dX1_isLike_132 (by decide) ?_
              exact t_zret hB hr rfl hT (Nat.le_of_ble_eq_true rfl) (Nat.le_of_ble_eq_true rfl) dX1_isLike_133 ⟨0, rfl, rfl, (Or.inr rfl)⟩
          · refine W.eq (g2 := F0 m 97 ls [.int 0]) rfl ?_
            refine lv_if_eq (tgt := 132) hx hb dX1_isLike_97 (by decide) (fun c_ => ?_) (fun c_ => absurd (by decide) c_)
            refine lv_iconst (v := 0) hx hb dX1_isLike_132 (by decide) ?_
            exact t_zret hB hr rfl hT (Nat.le_of_ble_eq_true rfl) (Nat.le_of_ble_eq_true rfl) dX1_isLike_133 ⟨0, rfl, rfl, (Or.inr rfl)⟩
        · have c_26' : v_23.toInt ≠ u_25.toInt := i_ne c_26 rfl rfl
          refine lv_iconst (v := 0) hx hb dX1_isLike_84 (by decide) ?_
          exact t_zret hB hr rfl hT (Nat.le_of_ble_eq_true rfl) (Nat.le_of_ble_eq_true rfl) dX1_isLike_85 ⟨0, rfl, rfl, (Or.inr rfl)⟩
    · have c_4' : i.toInt < v_3.toInt := i_nle c_4 rfl rfl
      refine lv_iload hx hb dX1_isLike_12 (lv_at hl 0 rfl) ?_
      refine lv_iload_n hx hb dX1_isLike_14 rfl (lv_at hl 3 rfl) ?_
      refine lv_icmp_ne (tgt := 30) hx hb dX1_isLike_15 (by decide) (fun c_44 => ?_) (fun c_44 => ?_)
      · have c_44' : i.toInt ≠ n.toInt := i_ne c_44 rfl rfl
        refine lv_iconst (v := 1) hx hb dX1_isLike_30 (by decide) ?_
        refine lv_goto (tgt := 35) hx hb dX1_isLike_31 (by decide) ?_
        refine lv_istore (lv' := [(5, .int 1), (4, .int i), (0, .ref h), (1, .ref o), (2, .int n), (3, .int x1)]) hx hb dX1_isLike_35 hl (by decide) rfl (fun ls hl => ?_)
        refine lv_iload hx hb dX1_isLike_37 (lv_at hl 0 rfl) ?_
        refine lv_if_eq (tgt := 61) hx hb dX1_isLike_39 (by decide) (fun c_ => absurd c_ (by decide)) (fun c_ => ?_)
        refine lv_aload_n hx hb dX1_isLike_42 rfl (lv_at hl 2 rfl) ?_
        obtain ⟨v_45, e_v_45, r_v_45, n_v_45⟩ := f_2_5 hI r_1
        refine t_get (ci := 1) (v := .ref v_45) hB hT (ro_ci r_1 rfl) rfl 5 (by decide) k_282 e_v_45 dX1_isLike_43 ?_
        refine lv_iload hx hb dX1_isLike_46 (lv_at hl 1 rfl) ?_
        have i_u_46 : vp_in i 6 := (i_in (n := 6) rfl (by omega) (by omega))
        refine t_iald hB hT (ro_in r_v_45 (by decide)) n_v_45 i_u_46 rfl dX1_isLike_48 ?_
        refine lv_topi (fun u_46 e_u_46 => ?_)
        refine lv_aload_n hx hb dX1_isLike_49 rfl (lv_at hl 2 rfl) ?_
        obtain ⟨v_47, e_v_47, r_v_47, n_v_47⟩ := f_2_3 hI r_1
        refine t_get (ci := 1) (v := .ref v_47) hB hT (ro_ci r_1 rfl) rfl 3 (by decide) k_280 e_v_47 dX1_isLike_50 ?_
        refine lv_iload hx hb dX1_isLike_53 (lv_at hl 1 rfl) ?_
        have i_u_48 : vp_in i 6 := (i_in (n := 6) rfl (by omega) (by omega))
        refine t_iald hB hT (ro_in r_v_47 (by decide)) n_v_47 i_u_48 rfl dX1_isLike_55 ?_
        refine lv_topi (fun u_48 e_u_48 => ?_)
        refine lv_icmp_eq (tgt := 61) hx hb dX1_isLike_56 (by decide) (fun c_49 => ?_) (fun c_49 => ?_)
        · have c_49' : u_46.toInt = u_48.toInt := i_eq c_49 rfl rfl
          obtain ⟨z_50, ez_50⟩ : ∃ z : Int32, z = i + 1 := ⟨_, rfl⟩
          have e_z_50 : z_50.toInt = i.toInt + 1 := i_add ez_50 rfl (by decide) (by omega) (by omega)
          refine lv_iinc (v := z_50) (lv' := [(4, .int z_50), (5, .int 1), (0, .ref h), (1, .ref o), (2, .int n), (3, .int x1)]) hx hb dX1_isLike_61 hl (k := 1) rfl (by rw [ez_50]; rfl) (by decide) rfl (fun ls hl => ?_)
          refine lv_goto (tgt := 3) hx hb dX1_isLike_64 (by decide) ?_
          exact ih (kf - 1) (by omega) z_50 H locs ls hT hI hE hM (by omega) (by omega) (by have e0_ : (0 : Int32).toInt = 0 := (by decide); omega) (lv_sub hl [0, 2, 3, 4, 5] rfl)
        · have c_49' : u_46.toInt ≠ u_48.toInt := i_ne c_49 rfl rfl
          refine lv_iconst (v := 0) hx hb dX1_isLike_59 (by decide) ?_
          exact t_zret hB hr rfl hT (Nat.le_of_ble_eq_true rfl) (Nat.le_of_ble_eq_true rfl) dX1_isLike_60 ⟨0, rfl, rfl, (Or.inr rfl)⟩
      · have c_44' : i.toInt = n.toInt := i_eq c_44 rfl rfl
        refine lv_aload_n hx hb dX1_isLike_18 rfl (lv_at hl 1 rfl) ?_
        obtain ⟨v_51, e_v_51, r_v_51, n_v_51⟩ := f_2_5 hI r_1
        refine t_get (ci := 1) (v := .ref v_51) hB hT (ro_ci r_1 rfl) rfl 5 (by decide) k_282 e_v_51 dX1_isLike_19 ?_
        refine lv_iload hx hb dX1_isLike_22 (lv_at hl 0 rfl) ?_
        have i_u_52 : vp_in i 6 := (i_in (n := 6) rfl (by omega) (by omega))
        refine t_iald hB hT (ro_in r_v_51 (by decide)) n_v_51 i_u_52 rfl dX1_isLike_24 ?_
        refine lv_topi (fun u_52 e_u_52 => ?_)
        refine lv_bipush (v := (-2)) hx hb dX1_isLike_25 (by decide) ?_
        refine lv_icmp_eq (tgt := 34) hx hb dX1_isLike_27 (by decide) (fun c_53 => ?_) (fun c_53 => ?_)
        · have c_53' : u_52.toInt = (-2) := i_eq c_53 rfl (by decide)
          refine lv_iconst (v := 0) hx hb dX1_isLike_34 (by decide) ?_
          refine lv_istore (lv' := [(5, .int 0), (4, .int i), (0, .ref h), (1, .ref o), (2, .int n), (3, .int x1)]) hx hb dX1_isLike_35 hl (by decide) rfl (fun ls hl => ?_)
          refine lv_iload hx hb dX1_isLike_37 (lv_at hl 0 rfl) ?_
          refine lv_if_eq (tgt := 61) hx hb dX1_isLike_39 (by decide) (fun c_ => ?_) (fun c_ => absurd (by decide) c_)
          obtain ⟨z_54, ez_54⟩ : ∃ z : Int32, z = i + 1 := ⟨_, rfl⟩
          have e_z_54 : z_54.toInt = i.toInt + 1 := i_add ez_54 rfl (by decide) (by omega) (by omega)
          refine lv_iinc (v := z_54) (lv' := [(4, .int z_54), (5, .int 0), (0, .ref h), (1, .ref o), (2, .int n), (3, .int x1)]) hx hb dX1_isLike_61 hl (k := 1) rfl (by rw [ez_54]; rfl) (by decide) rfl (fun ls hl => ?_)
          refine lv_goto (tgt := 3) hx hb dX1_isLike_64 (by decide) ?_
          exact ih (kf - 1) (by omega) z_54 H locs ls hT hI hE hM (by omega) (by omega) (by have e0_ : (0 : Int32).toInt = 0 := (by decide); omega) (lv_sub hl [0, 2, 3, 4, 5] rfl)
        · have c_53' : u_52.toInt ≠ (-2) := i_ne c_53 rfl (by decide)
          refine lv_iconst (v := 1) hx hb dX1_isLike_30 (by decide) ?_
          refine lv_goto (tgt := 35) hx hb dX1_isLike_31 (by decide) ?_
          refine lv_istore (lv' := [(5, .int 1), (4, .int i), (0, .ref h), (1, .ref o), (2, .int n), (3, .int x1)]) hx hb dX1_isLike_35 hl (by decide) rfl (fun ls hl => ?_)
          refine lv_iload hx hb dX1_isLike_37 (lv_at hl 0 rfl) ?_
          refine lv_if_eq (tgt := 61) hx hb dX1_isLike_39 (by decide) (fun c_ => absurd c_ (by decide)) (fun c_ => ?_)
          refine lv_aload_n hx hb dX1_isLike_42 rfl (lv_at hl 2 rfl) ?_
          refine t_get (ci := 1) (v := .ref v_51) hB hT (ro_ci r_1 rfl) rfl 5 (by decide) k_282 e_v_51 dX1_isLike_43 ?_
          refine lv_iload hx hb dX1_isLike_46 (lv_at hl 1 rfl) ?_
          have i_u_55 : vp_in i 6 := (i_in (n := 6) rfl (by omega) (by omega))
          refine t_iald (v := u_52) hB hT (ro_in r_v_51 (by decide)) n_v_51 i_u_55 e_u_52.symm dX1_isLike_48 ?_
          refine lv_aload_n hx hb dX1_isLike_49 rfl (lv_at hl 2 rfl) ?_
          obtain ⟨v_56, e_v_56, r_v_56, n_v_56⟩ := f_2_3 hI r_1
          refine t_get (ci := 1) (v := .ref v_56) hB hT (ro_ci r_1 rfl) rfl 3 (by decide) k_280 e_v_56 dX1_isLike_50 ?_
          refine lv_iload hx hb dX1_isLike_53 (lv_at hl 1 rfl) ?_
          have i_u_57 : vp_in i 6 := (i_in (n := 6) rfl (by omega) (by omega))
          refine t_iald hB hT (ro_in r_v_56 (by decide)) n_v_56 i_u_57 rfl dX1_isLike_55 ?_
          refine lv_topi (fun u_57 e_u_57 => ?_)
          refine lv_icmp_eq (tgt := 61) hx hb dX1_isLike_56 (by decide) (fun c_58 => ?_) (fun c_58 => ?_)
          · have c_58' : u_52.toInt = u_57.toInt := i_eq c_58 rfl rfl
            obtain ⟨z_59, ez_59⟩ : ∃ z : Int32, z = i + 1 := ⟨_, rfl⟩
            have e_z_59 : z_59.toInt = i.toInt + 1 := i_add ez_59 rfl (by decide) (by omega) (by omega)
            refine lv_iinc (v := z_59) (lv' := [(4, .int z_59), (5, .int 1), (0, .ref h), (1, .ref o), (2, .int n), (3, .int x1)]) hx hb dX1_isLike_61 hl (k := 1) rfl (by rw [ez_59]; rfl) (by decide) rfl (fun ls hl => ?_)
            refine lv_goto (tgt := 3) hx hb dX1_isLike_64 (by decide) ?_
            exact ih (kf - 1) (by omega) z_59 H locs ls hT hI hE hM (by omega) (by omega) (by have e0_ : (0 : Int32).toInt = 0 := (by decide); omega) (lv_sub hl [0, 2, 3, 4, 5] rfl)
          · have c_58' : u_52.toInt ≠ u_57.toInt := i_ne c_58 rfl rfl
            refine lv_iconst (v := 0) hx hb dX1_isLike_59 (by decide) ?_
            exact t_zret hB hr rfl hT (Nat.le_of_ble_eq_true rfl) (Nat.le_of_ble_eq_true rfl) dX1_isLike_60 ⟨0, rfl, rfl, (Or.inr rfl)⟩
set_option maxHeartbeats 4000000 in
set_option maxRecDepth 100000 in
theorem s_isLike (l : Launch) (D : va_G) (cI cZ cS cR : ClassId) (N0 : NT) (g : GS) (hI : Inv g) (h : Nat) (o : Nat) (n : Int32) (x1 : Int32) (r_h : g.1 h = 2) (r_o : g.1 o = 1) (l_n : 0 ≤ n.toInt) (u_n : n.toInt ≤ 5) : Ty l D cI cZ cS cR N0 yX1_isLike cX1_isLike 6 (some .boolean) 2 0 0 [.ref h, .ref o, .int n, .int x1] g (fun v g' => ∃ (r : Int32), v = some (.int r) ∧ g' = g ∧ (r = 1 ∨ r = 0)) := by
  refine t_enter (by decide) (Nat.le_of_ble_eq_true rfl) ?_
  intro p e s m args below meth c ls H locs hB hr hin hl hT
  have hx := hB.1
  have hb := hB.2.1
  have hl : lv_has ls 6 [(0, .ref h), (1, .ref o), (2, .int n), (3, .int x1)] := hl
  have hE : Ex g g := Ex.rf
  have hM : Sm md_s_isLike g g := Sm.rf
  refine lv_iconst (v := 0) hx hb dX1_isLike_0 (by decide) ?_
  refine lv_istore (lv' := [(4, .int 0), (0, .ref h), (1, .ref o), (2, .int n), (3, .int x1)]) hx hb dX1_isLike_1 hl (by decide) rfl (fun ls hl => ?_)
  exact lt_s_isLike_a l D cI cZ cS cR N0 g h o n x1 r_h r_o l_n u_n hB hr   6 (0 : Int32) H locs ls hT hI hE hM (by decide) (by decide) (by have e0_ : (0 : Int32).toInt = 0 := (by decide); omega) (lv_sub hl [0, 1, 2, 3, 4] rfl)
