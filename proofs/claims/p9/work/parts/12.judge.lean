theorem k_11 : Cond.selects RX0 yX0_dropOldest yX0_dropOldest ∈ tb := mt 11 (by decide +kernel) rfl
theorem k_14 : Cond.selects RX1 yX1_writeOnceEnds yX1_writeOnceEnds ∈ tb := mt 14 (by decide +kernel) rfl
theorem k_15 : Cond.selects RX1 yX1_isOrder yX1_isOrder ∈ tb := mt 15 (by decide +kernel) rfl
theorem k_16 : Cond.selects RX1 yX1_runOrder yX1_runOrder ∈ tb := mt 16 (by decide +kernel) rfl
theorem k_17 : Cond.selects RX1 yX1_writeEnd yX1_writeEnd ∈ tb := mt 17 (by decide +kernel) rfl
theorem k_18 : Cond.selects RX1 yX1_isAmongEnds yX1_isAmongEnds ∈ tb := mt 18 (by decide +kernel) rfl
theorem k_62 : Cond.initialized RX0 ∈ tb := mt 62 (by decide +kernel) rfl
theorem k_63 : Cond.initialized RJ9 ∈ tb := mt 63 (by decide +kernel) rfl
theorem k_64 : Cond.initialized RX1 ∈ tb := mt 64 (by decide +kernel) rfl
theorem k_148 : Cond.fieldLink RX1 132 "TwiceOnce$Service" "cells" "[I" ∈ tb := mt 148 (by decide +kernel) rfl
theorem k_201 : Cond.fieldLink RX1 129 "TwiceOnce$World" "services" "[LTwiceOnce$Service;" ∈ tb := mt 201 (by decide +kernel) rfl
theorem k_204 : Cond.fieldLink RX1 128 "TwiceOnce$World" "size" "I" ∈ tb := mt 204 (by decide +kernel) rfl
theorem k_209 : Cond.fieldLink RX1 137 "TwiceOnce$World" "done" "[I" ∈ tb := mt 209 (by decide +kernel) rfl
theorem k_243 : Cond.fieldLink RX0 19 "TwiceOnce$CallList" "services" "[I" ∈ tb := mt 243 (by decide +kernel) rfl
theorem k_247 : Cond.fieldLink RX0 23 "TwiceOnce$CallList" "xs" "[I" ∈ tb := mt 247 (by decide +kernel) rfl
theorem k_250 : Cond.fieldLink RX0 26 "TwiceOnce$CallList" "keys" "[I" ∈ tb := mt 250 (by decide +kernel) rfl
theorem k_253 : Cond.fieldLink RX0 7 "TwiceOnce$CallList" "size" "I" ∈ tb := mt 253 (by decide +kernel) rfl
theorem k_284 : Cond.fieldLink RX1 40 "TwiceOnce$Judge" "ends" "[[I" ∈ tb := mt 284 (by decide +kernel) rfl
theorem k_285 : Cond.fieldLink RX1 43 "TwiceOnce$Judge" "order" "[I" ∈ tb := mt 285 (by decide +kernel) rfl
theorem k_286 : Cond.fieldLink RX1 46 "TwiceOnce$Judge" "comings" "[I" ∈ tb := mt 286 (by decide +kernel) rfl
theorem k_490 : Cond.methodLink RX0 29 yX0_dropOldest ∈ tb := mt 490 (by decide +kernel) rfl
theorem k_492 : Cond.instanceMethod yX0_dropOldest ∈ tb := mt 492 (by decide +kernel) rfl
set_option maxRecDepth 20000 in
theorem k_493 : Cond.code yX0_dropOldest cX0_dropOldest 1 none ∈ tb := mt 493 rfl rfl
theorem k_494 : Cond.methodLink RX0 32 arraycopyName ∈ tb := mt 494 (by decide +kernel) rfl
theorem k_560 : Cond.static Lib.Math.min.name ∈ tb := mt 560 (by decide +kernel) rfl
set_option maxRecDepth 20000 in
theorem k_561 : Cond.code Lib.Math.min.name Lib.Math.min.code 2 (some .int) ∈ tb := mt 561 rfl rfl
theorem k_591 : Cond.instanceMethod yX1_runOnce ∈ tb := mt 591 (by decide +kernel) rfl
theorem k_592 : Cond.selects RX1 yX1_runOnce yX1_runOnce ∈ tb := mt 592 (by decide +kernel) rfl
set_option maxRecDepth 20000 in
theorem k_593 : Cond.code yX1_runOnce cX1_runOnce 3 none ∈ tb := mt 593 rfl rfl
theorem k_596 : Cond.instanceMethod yX1_runTwice ∈ tb := mt 596 (by decide +kernel) rfl
theorem k_597 : Cond.selects RX1 yX1_runTwice yX1_runTwice ∈ tb := mt 597 (by decide +kernel) rfl
set_option maxRecDepth 20000 in
theorem k_598 : Cond.code yX1_runTwice cX1_runTwice 7 none ∈ tb := mt 598 rfl rfl
theorem k_600 : Cond.instanceMethod yX1_isLike ∈ tb := mt 600 (by decide +kernel) rfl
theorem k_601 : Cond.selects RX1 yX1_isLike yX1_isLike ∈ tb := mt 601 (by decide +kernel) rfl
set_option maxRecDepth 20000 in
theorem k_602 : Cond.code yX1_isLike cX1_isLike 6 (some .boolean) ∈ tb := mt 602 rfl rfl
theorem k_627 : Cond.methodLink RX1 84 yX1_runOnce ∈ tb := mt 627 (by decide +kernel) rfl
theorem k_628 : Cond.methodLink RX1 88 Lib.Math.min.name ∈ tb := mt 628 (by decide +kernel) rfl
theorem k_629 : Cond.methodLink RX1 94 yX1_runTwice ∈ tb := mt 629 (by decide +kernel) rfl
theorem k_630 : Cond.methodLink RX1 98 yX1_isLike ∈ tb := mt 630 (by decide +kernel) rfl
theorem k_639 : Cond.methodLink RX1 102 yX1_writeOnceEnds ∈ tb := mt 639 (by decide +kernel) rfl
theorem k_641 : Cond.instanceMethod yX1_writeOnceEnds ∈ tb := mt 641 (by decide +kernel) rfl
set_option maxRecDepth 20000 in
theorem k_642 : Cond.code yX1_writeOnceEnds cX1_writeOnceEnds 5 (some .int) ∈ tb := mt 642 rfl rfl
theorem k_643 : Cond.methodLink RX1 106 yX1_power ∈ tb := mt 643 (by decide +kernel) rfl
theorem k_644 : Cond.static yX1_power ∈ tb := mt 644 (by decide +kernel) rfl
set_option maxRecDepth 20000 in
theorem k_645 : Cond.code yX1_power cX1_power 4 (some .int) ∈ tb := mt 645 rfl rfl
theorem k_646 : Cond.methodLink RX1 109 yX1_isOrder ∈ tb := mt 646 (by decide +kernel) rfl
theorem k_648 : Cond.instanceMethod yX1_isOrder ∈ tb := mt 648 (by decide +kernel) rfl
set_option maxRecDepth 20000 in
theorem k_649 : Cond.code yX1_isOrder cX1_isOrder 7 (some .boolean) ∈ tb := mt 649 rfl rfl
theorem k_650 : Cond.methodLink RX1 113 yX1_runOrder ∈ tb := mt 650 (by decide +kernel) rfl
theorem k_652 : Cond.instanceMethod yX1_runOrder ∈ tb := mt 652 (by decide +kernel) rfl
set_option maxRecDepth 20000 in
theorem k_653 : Cond.code yX1_runOrder cX1_runOrder 5 none ∈ tb := mt 653 rfl rfl
theorem k_654 : Cond.methodLink RX1 117 yX1_writeEnd ∈ tb := mt 654 (by decide +kernel) rfl
theorem k_656 : Cond.instanceMethod yX1_writeEnd ∈ tb := mt 656 (by decide +kernel) rfl
set_option maxRecDepth 20000 in
theorem k_657 : Cond.code yX1_writeEnd cX1_writeEnd 6 none ∈ tb := mt 657 rfl rfl
theorem k_658 : Cond.methodLink RX1 121 yX1_isAmongEnds ∈ tb := mt 658 (by decide +kernel) rfl
theorem k_660 : Cond.instanceMethod yX1_isAmongEnds ∈ tb := mt 660 (by decide +kernel) rfl
set_option maxRecDepth 20000 in
theorem k_661 : Cond.code yX1_isAmongEnds cX1_isAmongEnds 3 (some .boolean) ∈ tb := mt 661 rfl rfl
theorem k_662 : Cond.methodLink RX1 140 yX1_isSameEnd ∈ tb := mt 662 (by decide +kernel) rfl
theorem k_663 : Cond.static yX1_isSameEnd ∈ tb := mt 663 (by decide +kernel) rfl
set_option maxRecDepth 20000 in
theorem k_664 : Cond.code yX1_isSameEnd cX1_isSameEnd 4 (some .boolean) ∈ tb := mt 664 rfl rfl
theorem dX0_dropOldest_0 : decode cX0_dropOldest 0 = .ok (.aload_n 0, 1) := by decide +kernel
theorem dX0_dropOldest_1 : decode cX0_dropOldest 1 = .ok (.dup, 1) := by decide +kernel
theorem dX0_dropOldest_2 : decode cX0_dropOldest 2 = .ok (.getfield 7, 3) := by decide +kernel
theorem dX0_dropOldest_5 : decode cX0_dropOldest 5 = .ok (.iconst 1, 1) := by decide +kernel
theorem dX0_dropOldest_6 : decode cX0_dropOldest 6 = .ok (.isub, 1) := by decide +kernel
theorem dX0_dropOldest_7 : decode cX0_dropOldest 7 = .ok (.putfield 7, 3) := by decide +kernel
theorem dX0_dropOldest_10 : decode cX0_dropOldest 10 = .ok (.aload_n 0, 1) := by decide +kernel
theorem dX0_dropOldest_11 : decode cX0_dropOldest 11 = .ok (.getfield 19, 3) := by decide +kernel
theorem dX0_dropOldest_14 : decode cX0_dropOldest 14 = .ok (.iconst 1, 1) := by decide +kernel
theorem dX0_dropOldest_15 : decode cX0_dropOldest 15 = .ok (.aload_n 0, 1) := by decide +kernel
theorem dX0_dropOldest_16 : decode cX0_dropOldest 16 = .ok (.getfield 19, 3) := by decide +kernel
theorem dX0_dropOldest_19 : decode cX0_dropOldest 19 = .ok (.iconst 0, 1) := by decide +kernel
theorem dX0_dropOldest_20 : decode cX0_dropOldest 20 = .ok (.aload_n 0, 1) := by decide +kernel
theorem dX0_dropOldest_21 : decode cX0_dropOldest 21 = .ok (.getfield 7, 3) := by decide +kernel
theorem dX0_dropOldest_24 : decode cX0_dropOldest 24 = .ok (.invokestatic 32, 3) := by decide +kernel
theorem dX0_dropOldest_27 : decode cX0_dropOldest 27 = .ok (.aload_n 0, 1) := by decide +kernel
theorem dX0_dropOldest_28 : decode cX0_dropOldest 28 = .ok (.getfield 23, 3) := by decide +kernel
theorem dX0_dropOldest_31 : decode cX0_dropOldest 31 = .ok (.iconst 1, 1) := by decide +kernel
theorem dX0_dropOldest_32 : decode cX0_dropOldest 32 = .ok (.aload_n 0, 1) := by decide +kernel
theorem dX0_dropOldest_33 : decode cX0_dropOldest 33 = .ok (.getfield 23, 3) := by decide +kernel
theorem dX0_dropOldest_36 : decode cX0_dropOldest 36 = .ok (.iconst 0, 1) := by decide +kernel
theorem dX0_dropOldest_37 : decode cX0_dropOldest 37 = .ok (.aload_n 0, 1) := by decide +kernel
theorem dX0_dropOldest_38 : decode cX0_dropOldest 38 = .ok (.getfield 7, 3) := by decide +kernel
theorem dX0_dropOldest_41 : decode cX0_dropOldest 41 = .ok (.invokestatic 32, 3) := by decide +kernel
theorem dX0_dropOldest_44 : decode cX0_dropOldest 44 = .ok (.aload_n 0, 1) := by decide +kernel
theorem dX0_dropOldest_45 : decode cX0_dropOldest 45 = .ok (.getfield 26, 3) := by decide +kernel
theorem dX0_dropOldest_48 : decode cX0_dropOldest 48 = .ok (.iconst 1, 1) := by decide +kernel
theorem dX0_dropOldest_49 : decode cX0_dropOldest 49 = .ok (.aload_n 0, 1) := by decide +kernel
theorem dX0_dropOldest_50 : decode cX0_dropOldest 50 = .ok (.getfield 26, 3) := by decide +kernel
theorem dX0_dropOldest_53 : decode cX0_dropOldest 53 = .ok (.iconst 0, 1) := by decide +kernel
theorem dX0_dropOldest_54 : decode cX0_dropOldest 54 = .ok (.aload_n 0, 1) := by decide +kernel
theorem dX0_dropOldest_55 : decode cX0_dropOldest 55 = .ok (.getfield 7, 3) := by decide +kernel
theorem dX0_dropOldest_58 : decode cX0_dropOldest 58 = .ok (.invokestatic 32, 3) := by decide +kernel
theorem dX0_dropOldest_61 : decode cX0_dropOldest 61 = .ok (.return_, 1) := by decide +kernel
theorem dX0_appendLatest_0 : decode cX0_appendLatest 0 = .ok (.aload_n 0, 1) := by decide +kernel
theorem dX0_appendLatest_1 : decode cX0_appendLatest 1 = .ok (.getfield 7, 3) := by decide +kernel
theorem dX0_appendLatest_4 : decode cX0_appendLatest 4 = .ok (.aload_n 0, 1) := by decide +kernel
theorem dX0_appendLatest_5 : decode cX0_appendLatest 5 = .ok (.getfield 19, 3) := by decide +kernel
theorem dX0_appendLatest_8 : decode cX0_appendLatest 8 = .ok (.arraylength, 1) := by decide +kernel
theorem dX0_appendLatest_9 : decode cX0_appendLatest 9 = .ok (.if_icmp .ne 7, 3) := by decide +kernel
theorem dX0_appendLatest_16 : decode cX0_appendLatest 16 = .ok (.aload_n 0, 1) := by decide +kernel
theorem dX0_appendLatest_17 : decode cX0_appendLatest 17 = .ok (.getfield 19, 3) := by decide +kernel
theorem dX0_appendLatest_20 : decode cX0_appendLatest 20 = .ok (.aload_n 0, 1) := by decide +kernel
theorem dX0_appendLatest_21 : decode cX0_appendLatest 21 = .ok (.getfield 7, 3) := by decide +kernel
theorem dX0_appendLatest_24 : decode cX0_appendLatest 24 = .ok (.iload_n 1, 1) := by decide +kernel
theorem dX0_appendLatest_25 : decode cX0_appendLatest 25 = .ok (.iastore, 1) := by decide +kernel
theorem dX0_appendLatest_26 : decode cX0_appendLatest 26 = .ok (.aload_n 0, 1) := by decide +kernel
theorem dX0_appendLatest_27 : decode cX0_appendLatest 27 = .ok (.getfield 23, 3) := by decide +kernel
theorem dX0_appendLatest_30 : decode cX0_appendLatest 30 = .ok (.aload_n 0, 1) := by decide +kernel
theorem dX0_appendLatest_31 : decode cX0_appendLatest 31 = .ok (.getfield 7, 3) := by decide +kernel
theorem dX0_appendLatest_34 : decode cX0_appendLatest 34 = .ok (.iload_n 2, 1) := by decide +kernel
theorem dX0_appendLatest_35 : decode cX0_appendLatest 35 = .ok (.iastore, 1) := by decide +kernel
theorem dX0_appendLatest_36 : decode cX0_appendLatest 36 = .ok (.aload_n 0, 1) := by decide +kernel
theorem dX0_appendLatest_37 : decode cX0_appendLatest 37 = .ok (.getfield 26, 3) := by decide +kernel
theorem dX0_appendLatest_40 : decode cX0_appendLatest 40 = .ok (.aload_n 0, 1) := by decide +kernel
theorem dX0_appendLatest_41 : decode cX0_appendLatest 41 = .ok (.getfield 7, 3) := by decide +kernel
theorem dX0_appendLatest_44 : decode cX0_appendLatest 44 = .ok (.iload_n 3, 1) := by decide +kernel
theorem dX0_appendLatest_45 : decode cX0_appendLatest 45 = .ok (.iastore, 1) := by decide +kernel
theorem dX0_appendLatest_46 : decode cX0_appendLatest 46 = .ok (.aload_n 0, 1) := by decide +kernel
theorem dX0_appendLatest_47 : decode cX0_appendLatest 47 = .ok (.dup, 1) := by decide +kernel
theorem dX0_appendLatest_48 : decode cX0_appendLatest 48 = .ok (.getfield 7, 3) := by decide +kernel
theorem dX0_appendLatest_51 : decode cX0_appendLatest 51 = .ok (.iconst 1, 1) := by decide +kernel
theorem dX0_appendLatest_52 : decode cX0_appendLatest 52 = .ok (.iadd, 1) := by decide +kernel
theorem dX0_appendLatest_53 : decode cX0_appendLatest 53 = .ok (.putfield 7, 3) := by decide +kernel
theorem dX0_appendLatest_56 : decode cX0_appendLatest 56 = .ok (.return_, 1) := by decide +kernel
theorem dX0_appendLatest_12 : decode cX0_appendLatest 12 = .ok (.aload_n 0, 1) := by decide +kernel
theorem dX0_appendLatest_13 : decode cX0_appendLatest 13 = .ok (.invokevirtual 29, 3) := by decide +kernel
theorem dX1_firstUnsafe_44 : decode cX1_firstUnsafe 44 = .ok (.iload 6, 2) := by decide +kernel
theorem dX1_firstUnsafe_46 : decode cX1_firstUnsafe 46 = .ok (.iload 4, 2) := by decide +kernel
theorem dX1_firstUnsafe_48 : decode cX1_firstUnsafe 48 = .ok (.if_icmp .gt 44, 3) := by decide +kernel
theorem dX1_firstUnsafe_51 : decode cX1_firstUnsafe 51 = .ok (.aload_n 0, 1) := by decide +kernel
theorem dX1_firstUnsafe_52 : decode cX1_firstUnsafe 52 = .ok (.aload_n 1, 1) := by decide +kernel
theorem dX1_firstUnsafe_53 : decode cX1_firstUnsafe 53 = .ok (.iload_n 3, 1) := by decide +kernel
theorem dX1_firstUnsafe_54 : decode cX1_firstUnsafe 54 = .ok (.iload 5, 2) := by decide +kernel
theorem dX1_firstUnsafe_56 : decode cX1_firstUnsafe 56 = .ok (.iload 6, 2) := by decide +kernel
theorem dX1_firstUnsafe_58 : decode cX1_firstUnsafe 58 = .ok (.invokevirtual 94, 3) := by decide +kernel
theorem dX1_firstUnsafe_61 : decode cX1_firstUnsafe 61 = .ok (.aload_n 0, 1) := by decide +kernel
theorem dX1_firstUnsafe_62 : decode cX1_firstUnsafe 62 = .ok (.aload_n 1, 1) := by decide +kernel
theorem dX1_firstUnsafe_63 : decode cX1_firstUnsafe 63 = .ok (.iload_n 3, 1) := by decide +kernel
theorem dX1_firstUnsafe_64 : decode cX1_firstUnsafe 64 = .ok (.iload_n 2, 1) := by decide +kernel
theorem dX1_firstUnsafe_65 : decode cX1_firstUnsafe 65 = .ok (.invokevirtual 98, 3) := by decide +kernel
theorem dX1_firstUnsafe_68 : decode cX1_firstUnsafe 68 = .ok (.ifCond .ne 18, 3) := by decide +kernel
theorem dX1_firstUnsafe_86 : decode cX1_firstUnsafe 86 = .ok (.iinc 6 1, 3) := by decide +kernel
theorem dX1_firstUnsafe_89 : decode cX1_firstUnsafe 89 = .ok (.goto (-45), 3) := by decide +kernel
theorem dX1_firstUnsafe_71 : decode cX1_firstUnsafe 71 = .ok (.sipush 1000, 3) := by decide +kernel
theorem dX1_firstUnsafe_74 : decode cX1_firstUnsafe 74 = .ok (.iload_n 3, 1) := by decide +kernel
theorem dX1_firstUnsafe_75 : decode cX1_firstUnsafe 75 = .ok (.imul, 1) := by decide +kernel
theorem dX1_firstUnsafe_76 : decode cX1_firstUnsafe 76 = .ok (.bipush 100, 2) := by decide +kernel
theorem dX1_firstUnsafe_78 : decode cX1_firstUnsafe 78 = .ok (.iload 5, 2) := by decide +kernel
theorem dX1_firstUnsafe_80 : decode cX1_firstUnsafe 80 = .ok (.imul, 1) := by decide +kernel
theorem dX1_firstUnsafe_81 : decode cX1_firstUnsafe 81 = .ok (.iadd, 1) := by decide +kernel
theorem dX1_firstUnsafe_82 : decode cX1_firstUnsafe 82 = .ok (.iload 6, 2) := by decide +kernel
theorem dX1_firstUnsafe_84 : decode cX1_firstUnsafe 84 = .ok (.iadd, 1) := by decide +kernel
theorem dX1_firstUnsafe_85 : decode cX1_firstUnsafe 85 = .ok (.ireturn, 1) := by decide +kernel
theorem dX1_firstUnsafe_30 : decode cX1_firstUnsafe 30 = .ok (.iload 5, 2) := by decide +kernel
theorem dX1_firstUnsafe_32 : decode cX1_firstUnsafe 32 = .ok (.aload_n 1, 1) := by decide +kernel
theorem dX1_firstUnsafe_33 : decode cX1_firstUnsafe 33 = .ok (.getfield 53, 3) := by decide +kernel
theorem dX1_firstUnsafe_36 : decode cX1_firstUnsafe 36 = .ok (.iload_n 3, 1) := by decide +kernel
theorem dX1_firstUnsafe_37 : decode cX1_firstUnsafe 37 = .ok (.isub, 1) := by decide +kernel
theorem dX1_firstUnsafe_38 : decode cX1_firstUnsafe 38 = .ok (.if_icmp .ge 60, 3) := by decide +kernel
theorem dX1_firstUnsafe_41 : decode cX1_firstUnsafe 41 = .ok (.iconst 0, 1) := by decide +kernel
theorem dX1_firstUnsafe_42 : decode cX1_firstUnsafe 42 = .ok (.istore 6, 2) := by decide +kernel
theorem dX1_firstUnsafe_92 : decode cX1_firstUnsafe 92 = .ok (.iinc 5 1, 3) := by decide +kernel
theorem dX1_firstUnsafe_95 : decode cX1_firstUnsafe 95 = .ok (.goto (-65), 3) := by decide +kernel
theorem dX1_firstUnsafe_7 : decode cX1_firstUnsafe 7 = .ok (.iload_n 3, 1) := by decide +kernel
theorem dX1_firstUnsafe_8 : decode cX1_firstUnsafe 8 = .ok (.aload_n 1, 1) := by decide +kernel
theorem dX1_firstUnsafe_9 : decode cX1_firstUnsafe 9 = .ok (.getfield 53, 3) := by decide +kernel
theorem dX1_firstUnsafe_12 : decode cX1_firstUnsafe 12 = .ok (.if_icmp .ge 92, 3) := by decide +kernel
theorem dX1_firstUnsafe_104 : decode cX1_firstUnsafe 104 = .ok (.iconst (-1), 1) := by decide +kernel
theorem dX1_firstUnsafe_105 : decode cX1_firstUnsafe 105 = .ok (.ireturn, 1) := by decide +kernel
theorem dX1_firstUnsafe_15 : decode cX1_firstUnsafe 15 = .ok (.iconst 5, 1) := by decide +kernel
theorem dX1_firstUnsafe_16 : decode cX1_firstUnsafe 16 = .ok (.aload_n 0, 1) := by decide +kernel
theorem dX1_firstUnsafe_17 : decode cX1_firstUnsafe 17 = .ok (.getfield 28, 3) := by decide +kernel
theorem dX1_firstUnsafe_20 : decode cX1_firstUnsafe 20 = .ok (.iload_n 3, 1) := by decide +kernel
theorem dX1_firstUnsafe_21 : decode cX1_firstUnsafe 21 = .ok (.iaload, 1) := by decide +kernel
theorem dX1_firstUnsafe_22 : decode cX1_firstUnsafe 22 = .ok (.invokestatic 88, 3) := by decide +kernel
theorem dX1_firstUnsafe_25 : decode cX1_firstUnsafe 25 = .ok (.istore 4, 2) := by decide +kernel
theorem dX1_firstUnsafe_27 : decode cX1_firstUnsafe 27 = .ok (.iconst 0, 1) := by decide +kernel
theorem dX1_firstUnsafe_28 : decode cX1_firstUnsafe 28 = .ok (.istore 5, 2) := by decide +kernel
theorem dX1_firstUnsafe_98 : decode cX1_firstUnsafe 98 = .ok (.iinc 3 1, 3) := by decide +kernel
theorem dX1_firstUnsafe_101 : decode cX1_firstUnsafe 101 = .ok (.goto (-94), 3) := by decide +kernel
theorem dX1_firstUnsafe_0 : decode cX1_firstUnsafe 0 = .ok (.aload_n 0, 1) := by decide +kernel
theorem dX1_firstUnsafe_1 : decode cX1_firstUnsafe 1 = .ok (.aload_n 1, 1) := by decide +kernel
theorem dX1_firstUnsafe_2 : decode cX1_firstUnsafe 2 = .ok (.invokevirtual 84, 3) := by decide +kernel
theorem dX1_firstUnsafe_5 : decode cX1_firstUnsafe 5 = .ok (.iconst 0, 1) := by decide +kernel
theorem dX1_firstUnsafe_6 : decode cX1_firstUnsafe 6 = .ok (.istore_n 3, 1) := by decide +kernel
theorem dX1_power_4 : decode cX1_power 4 = .ok (.iload_n 3, 1) := by decide +kernel
theorem dX1_power_5 : decode cX1_power 5 = .ok (.iload_n 1, 1) := by decide +kernel
theorem dX1_power_6 : decode cX1_power 6 = .ok (.if_icmp .ge 13, 3) := by decide +kernel
theorem dX1_power_19 : decode cX1_power 19 = .ok (.iload_n 2, 1) := by decide +kernel
theorem dX1_power_20 : decode cX1_power 20 = .ok (.ireturn, 1) := by decide +kernel
theorem dX1_power_9 : decode cX1_power 9 = .ok (.iload_n 2, 1) := by decide +kernel
theorem dX1_power_10 : decode cX1_power 10 = .ok (.iload_n 0, 1) := by decide +kernel
theorem dX1_power_11 : decode cX1_power 11 = .ok (.imul, 1) := by decide +kernel
theorem dX1_power_12 : decode cX1_power 12 = .ok (.istore_n 2, 1) := by decide +kernel
theorem dX1_power_13 : decode cX1_power 13 = .ok (.iinc 3 1, 3) := by decide +kernel
theorem dX1_power_16 : decode cX1_power 16 = .ok (.goto (-12), 3) := by decide +kernel
theorem dX1_power_0 : decode cX1_power 0 = .ok (.iconst 1, 1) := by decide +kernel
theorem dX1_power_1 : decode cX1_power 1 = .ok (.istore_n 2, 1) := by decide +kernel
theorem dX1_power_2 : decode cX1_power 2 = .ok (.iconst 0, 1) := by decide +kernel
theorem dX1_power_3 : decode cX1_power 3 = .ok (.istore_n 3, 1) := by decide +kernel
theorem dX1_isOrder_65 : decode cX1_isOrder 65 = .ok (.iload 6, 2) := by decide +kernel
theorem dX1_isOrder_67 : decode cX1_isOrder 67 = .ok (.iload 4, 2) := by decide +kernel
theorem dX1_isOrder_69 : decode cX1_isOrder 69 = .ok (.if_icmp .ge 59, 3) := by decide +kernel
theorem dX1_isOrder_128 : decode cX1_isOrder 128 = .ok (.iconst 1, 1) := by decide +kernel
theorem dX1_isOrder_129 : decode cX1_isOrder 129 = .ok (.ireturn, 1) := by decide +kernel
theorem dX1_isOrder_72 : decode cX1_isOrder 72 = .ok (.aload_n 0, 1) := by decide +kernel
theorem dX1_isOrder_73 : decode cX1_isOrder 73 = .ok (.getfield 43, 3) := by decide +kernel
theorem dX1_isOrder_76 : decode cX1_isOrder 76 = .ok (.iload 6, 2) := by decide +kernel
theorem dX1_isOrder_78 : decode cX1_isOrder 78 = .ok (.iload 5, 2) := by decide +kernel
theorem dX1_isOrder_80 : decode cX1_isOrder 80 = .ok (.iload_n 2, 1) := by decide +kernel
theorem dX1_isOrder_81 : decode cX1_isOrder 81 = .ok (.irem, 1) := by decide +kernel
theorem dX1_isOrder_82 : decode cX1_isOrder 82 = .ok (.iastore, 1) := by decide +kernel
theorem dX1_isOrder_83 : decode cX1_isOrder 83 = .ok (.iload 5, 2) := by decide +kernel
theorem dX1_isOrder_85 : decode cX1_isOrder 85 = .ok (.iload_n 2, 1) := by decide +kernel
theorem dX1_isOrder_86 : decode cX1_isOrder 86 = .ok (.idiv, 1) := by decide +kernel
theorem dX1_isOrder_87 : decode cX1_isOrder 87 = .ok (.istore 5, 2) := by decide +kernel
theorem dX1_isOrder_89 : decode cX1_isOrder 89 = .ok (.aload_n 0, 1) := by decide +kernel
theorem dX1_isOrder_90 : decode cX1_isOrder 90 = .ok (.getfield 46, 3) := by decide +kernel
theorem dX1_isOrder_93 : decode cX1_isOrder 93 = .ok (.aload_n 0, 1) := by decide +kernel
theorem dX1_isOrder_94 : decode cX1_isOrder 94 = .ok (.getfield 43, 3) := by decide +kernel
theorem dX1_isOrder_97 : decode cX1_isOrder 97 = .ok (.iload 6, 2) := by decide +kernel
theorem dX1_isOrder_99 : decode cX1_isOrder 99 = .ok (.iaload, 1) := by decide +kernel
theorem dX1_isOrder_100 : decode cX1_isOrder 100 = .ok (.dup2, 1) := by decide +kernel
theorem dX1_isOrder_101 : decode cX1_isOrder 101 = .ok (.iaload, 1) := by decide +kernel
theorem dX1_isOrder_102 : decode cX1_isOrder 102 = .ok (.iconst 1, 1) := by decide +kernel
theorem dX1_isOrder_103 : decode cX1_isOrder 103 = .ok (.isub, 1) := by decide +kernel
theorem dX1_isOrder_104 : decode cX1_isOrder 104 = .ok (.iastore, 1) := by decide +kernel
theorem dX1_isOrder_105 : decode cX1_isOrder 105 = .ok (.aload_n 0, 1) := by decide +kernel
theorem dX1_isOrder_106 : decode cX1_isOrder 106 = .ok (.getfield 46, 3) := by decide +kernel
theorem dX1_isOrder_109 : decode cX1_isOrder 109 = .ok (.aload_n 0, 1) := by decide +kernel
theorem dX1_isOrder_110 : decode cX1_isOrder 110 = .ok (.getfield 43, 3) := by decide +kernel
theorem dX1_isOrder_113 : decode cX1_isOrder 113 = .ok (.iload 6, 2) := by decide +kernel
theorem dX1_isOrder_115 : decode cX1_isOrder 115 = .ok (.iaload, 1) := by decide +kernel
theorem dX1_isOrder_116 : decode cX1_isOrder 116 = .ok (.iaload, 1) := by decide +kernel
theorem dX1_isOrder_117 : decode cX1_isOrder 117 = .ok (.ifCond .ge 5, 3) := by decide +kernel
theorem dX1_isOrder_122 : decode cX1_isOrder 122 = .ok (.iinc 6 1, 3) := by decide +kernel
theorem dX1_isOrder_125 : decode cX1_isOrder 125 = .ok (.goto (-60), 3) := by decide +kernel
theorem dX1_isOrder_120 : decode cX1_isOrder 120 = .ok (.iconst 0, 1) := by decide +kernel
theorem dX1_isOrder_121 : decode cX1_isOrder 121 = .ok (.ireturn, 1) := by decide +kernel
theorem dX1_isOrder_15 : decode cX1_isOrder 15 = .ok (.iload 4, 2) := by decide +kernel
theorem dX1_isOrder_17 : decode cX1_isOrder 17 = .ok (.iload_n 2, 1) := by decide +kernel
theorem dX1_isOrder_18 : decode cX1_isOrder 18 = .ok (.if_icmp .ge 27, 3) := by decide +kernel
theorem dX1_isOrder_45 : decode cX1_isOrder 45 = .ok (.iload_n 3, 1) := by decide +kernel
theorem dX1_isOrder_46 : decode cX1_isOrder 46 = .ok (.iconst (-1), 1) := by decide +kernel
theorem dX1_isOrder_47 : decode cX1_isOrder 47 = .ok (.if_icmp .ne 7, 3) := by decide +kernel
theorem dX1_isOrder_54 : decode cX1_isOrder 54 = .ok (.iload_n 2, 1) := by decide +kernel
theorem dX1_isOrder_55 : decode cX1_isOrder 55 = .ok (.iconst 1, 1) := by decide +kernel
theorem dX1_isOrder_56 : decode cX1_isOrder 56 = .ok (.iadd, 1) := by decide +kernel
theorem dX1_isOrder_57 : decode cX1_isOrder 57 = .ok (.istore 4, 2) := by decide +kernel
theorem dX1_isOrder_59 : decode cX1_isOrder 59 = .ok (.iload_n 1, 1) := by decide +kernel
theorem dX1_isOrder_60 : decode cX1_isOrder 60 = .ok (.istore 5, 2) := by decide +kernel
theorem dX1_isOrder_62 : decode cX1_isOrder 62 = .ok (.iconst 0, 1) := by decide +kernel
theorem dX1_isOrder_63 : decode cX1_isOrder 63 = .ok (.istore 6, 2) := by decide +kernel
theorem dX1_isOrder_50 : decode cX1_isOrder 50 = .ok (.iload_n 2, 1) := by decide +kernel
theorem dX1_isOrder_51 : decode cX1_isOrder 51 = .ok (.goto 6, 3) := by decide +kernel
theorem dX1_isOrder_21 : decode cX1_isOrder 21 = .ok (.aload_n 0, 1) := by decide +kernel
theorem dX1_isOrder_22 : decode cX1_isOrder 22 = .ok (.getfield 46, 3) := by decide +kernel
theorem dX1_isOrder_25 : decode cX1_isOrder 25 = .ok (.iload 4, 2) := by decide +kernel
theorem dX1_isOrder_27 : decode cX1_isOrder 27 = .ok (.iload 4, 2) := by decide +kernel
theorem dX1_isOrder_29 : decode cX1_isOrder 29 = .ok (.iload_n 3, 1) := by decide +kernel
theorem dX1_isOrder_30 : decode cX1_isOrder 30 = .ok (.if_icmp .ne 7, 3) := by decide +kernel
theorem dX1_isOrder_37 : decode cX1_isOrder 37 = .ok (.iconst 1, 1) := by decide +kernel
theorem dX1_isOrder_38 : decode cX1_isOrder 38 = .ok (.iastore, 1) := by decide +kernel
theorem dX1_isOrder_39 : decode cX1_isOrder 39 = .ok (.iinc 4 1, 3) := by decide +kernel
theorem dX1_isOrder_42 : decode cX1_isOrder 42 = .ok (.goto (-27), 3) := by decide +kernel
theorem dX1_isOrder_33 : decode cX1_isOrder 33 = .ok (.iconst 2, 1) := by decide +kernel
theorem dX1_isOrder_34 : decode cX1_isOrder 34 = .ok (.goto 4, 3) := by decide +kernel
theorem dX1_isOrder_0 : decode cX1_isOrder 0 = .ok (.iload_n 2, 1) := by decide +kernel
theorem dX1_isOrder_1 : decode cX1_isOrder 1 = .ok (.iconst 1, 1) := by decide +kernel
theorem dX1_isOrder_2 : decode cX1_isOrder 2 = .ok (.if_icmp .lt 8, 3) := by decide +kernel
theorem dX1_isOrder_10 : decode cX1_isOrder 10 = .ok (.iconst 0, 1) := by decide +kernel
theorem dX1_isOrder_11 : decode cX1_isOrder 11 = .ok (.ireturn, 1) := by decide +kernel
theorem dX1_isOrder_5 : decode cX1_isOrder 5 = .ok (.iload_n 2, 1) := by decide +kernel
theorem dX1_isOrder_6 : decode cX1_isOrder 6 = .ok (.iconst 4, 1) := by decide +kernel
theorem dX1_isOrder_7 : decode cX1_isOrder 7 = .ok (.if_icmp .le 5, 3) := by decide +kernel
theorem dX1_isOrder_12 : decode cX1_isOrder 12 = .ok (.iconst 0, 1) := by decide +kernel
theorem dX1_isOrder_13 : decode cX1_isOrder 13 = .ok (.istore 4, 2) := by decide +kernel
theorem dX1_runOrder_13 : decode cX1_runOrder 13 = .ok (.iload_n 3, 1) := by decide +kernel
theorem dX1_runOrder_14 : decode cX1_runOrder 14 = .ok (.iload_n 2, 1) := by decide +kernel
theorem dX1_runOrder_15 : decode cX1_runOrder 15 = .ok (.if_icmp .ge 47, 3) := by decide +kernel
theorem dX1_runOrder_62 : decode cX1_runOrder 62 = .ok (.return_, 1) := by decide +kernel
theorem dX1_runOrder_18 : decode cX1_runOrder 18 = .ok (.aload_n 0, 1) := by decide +kernel
theorem dX1_runOrder_19 : decode cX1_runOrder 19 = .ok (.getfield 43, 3) := by decide +kernel
theorem dX1_runOrder_22 : decode cX1_runOrder 22 = .ok (.iload_n 3, 1) := by decide +kernel
theorem dX1_runOrder_23 : decode cX1_runOrder 23 = .ok (.iaload, 1) := by decide +kernel
theorem dX1_runOrder_24 : decode cX1_runOrder 24 = .ok (.istore 4, 2) := by decide +kernel
theorem dX1_runOrder_26 : decode cX1_runOrder 26 = .ok (.aload_n 0, 1) := by decide +kernel
theorem dX1_runOrder_27 : decode cX1_runOrder 27 = .ok (.getfield 21, 3) := by decide +kernel
theorem dX1_runOrder_30 : decode cX1_runOrder 30 = .ok (.aload_n 1, 1) := by decide +kernel
theorem dX1_runOrder_31 : decode cX1_runOrder 31 = .ok (.getfield 58, 3) := by decide +kernel
theorem dX1_runOrder_34 : decode cX1_runOrder 34 = .ok (.iload 4, 2) := by decide +kernel
theorem dX1_runOrder_36 : decode cX1_runOrder 36 = .ok (.iaload, 1) := by decide +kernel
theorem dX1_runOrder_37 : decode cX1_runOrder 37 = .ok (.aload_n 1, 1) := by decide +kernel
theorem dX1_runOrder_38 : decode cX1_runOrder 38 = .ok (.getfield 61, 3) := by decide +kernel
theorem dX1_runOrder_41 : decode cX1_runOrder 41 = .ok (.iload 4, 2) := by decide +kernel
theorem dX1_runOrder_43 : decode cX1_runOrder 43 = .ok (.iaload, 1) := by decide +kernel
theorem dX1_runOrder_44 : decode cX1_runOrder 44 = .ok (.aload_n 1, 1) := by decide +kernel
theorem dX1_runOrder_45 : decode cX1_runOrder 45 = .ok (.getfield 64, 3) := by decide +kernel
theorem dX1_runOrder_48 : decode cX1_runOrder 48 = .ok (.iload 4, 2) := by decide +kernel
theorem dX1_runOrder_50 : decode cX1_runOrder 50 = .ok (.iaload, 1) := by decide +kernel
theorem dX1_runOrder_51 : decode cX1_runOrder 51 = .ok (.iconst 0, 1) := by decide +kernel
theorem dX1_runOrder_52 : decode cX1_runOrder 52 = .ok (.invokevirtual 67, 3) := by decide +kernel
theorem dX1_runOrder_55 : decode cX1_runOrder 55 = .ok (.pop, 1) := by decide +kernel
theorem dX1_runOrder_56 : decode cX1_runOrder 56 = .ok (.iinc 3 1, 3) := by decide +kernel
theorem dX1_runOrder_59 : decode cX1_runOrder 59 = .ok (.goto (-46), 3) := by decide +kernel
theorem dX1_runOrder_0 : decode cX1_runOrder 0 = .ok (.aload_n 0, 1) := by decide +kernel
theorem dX1_runOrder_1 : decode cX1_runOrder 1 = .ok (.getfield 21, 3) := by decide +kernel
theorem dX1_runOrder_4 : decode cX1_runOrder 4 = .ok (.aload_n 0, 1) := by decide +kernel
theorem dX1_runOrder_5 : decode cX1_runOrder 5 = .ok (.getfield 12, 3) := by decide +kernel
theorem dX1_runOrder_8 : decode cX1_runOrder 8 = .ok (.invokevirtual 49, 3) := by decide +kernel
theorem dX1_runOrder_11 : decode cX1_runOrder 11 = .ok (.iconst 0, 1) := by decide +kernel
theorem dX1_runOrder_12 : decode cX1_runOrder 12 = .ok (.istore_n 3, 1) := by decide +kernel
theorem dX1_writeEnd_113 : decode cX1_writeEnd 113 = .ok (.iload 5, 2) := by decide +kernel
theorem dX1_writeEnd_115 : decode cX1_writeEnd 115 = .ok (.iload_n 2, 1) := by decide +kernel
theorem dX1_writeEnd_116 : decode cX1_writeEnd 116 = .ok (.if_icmp .le 30, 3) := by decide +kernel
theorem dX1_writeEnd_146 : decode cX1_writeEnd 146 = .ok (.aload_n 1, 1) := by decide +kernel
theorem dX1_writeEnd_147 : decode cX1_writeEnd 147 = .ok (.iload 5, 2) := by decide +kernel
theorem dX1_writeEnd_149 : decode cX1_writeEnd 149 = .ok (.iload 4, 2) := by decide +kernel
theorem dX1_writeEnd_151 : decode cX1_writeEnd 151 = .ok (.iastore, 1) := by decide +kernel
theorem dX1_writeEnd_119 : decode cX1_writeEnd 119 = .ok (.aload_n 1, 1) := by decide +kernel
theorem dX1_writeEnd_120 : decode cX1_writeEnd 120 = .ok (.iload 5, 2) := by decide +kernel
theorem dX1_writeEnd_122 : decode cX1_writeEnd 122 = .ok (.iconst 1, 1) := by decide +kernel
theorem dX1_writeEnd_123 : decode cX1_writeEnd 123 = .ok (.isub, 1) := by decide +kernel
theorem dX1_writeEnd_124 : decode cX1_writeEnd 124 = .ok (.iaload, 1) := by decide +kernel
theorem dX1_writeEnd_125 : decode cX1_writeEnd 125 = .ok (.iload 4, 2) := by decide +kernel
theorem dX1_writeEnd_127 : decode cX1_writeEnd 127 = .ok (.if_icmp .le 19, 3) := by decide +kernel
theorem dX1_writeEnd_130 : decode cX1_writeEnd 130 = .ok (.aload_n 1, 1) := by decide +kernel
theorem dX1_writeEnd_131 : decode cX1_writeEnd 131 = .ok (.iload 5, 2) := by decide +kernel
theorem dX1_writeEnd_133 : decode cX1_writeEnd 133 = .ok (.aload_n 1, 1) := by decide +kernel
theorem dX1_writeEnd_134 : decode cX1_writeEnd 134 = .ok (.iload 5, 2) := by decide +kernel
theorem dX1_writeEnd_136 : decode cX1_writeEnd 136 = .ok (.iconst 1, 1) := by decide +kernel
theorem dX1_writeEnd_137 : decode cX1_writeEnd 137 = .ok (.isub, 1) := by decide +kernel
theorem dX1_writeEnd_138 : decode cX1_writeEnd 138 = .ok (.iaload, 1) := by decide +kernel
theorem dX1_writeEnd_139 : decode cX1_writeEnd 139 = .ok (.iastore, 1) := by decide +kernel
theorem dX1_writeEnd_140 : decode cX1_writeEnd 140 = .ok (.iinc 5 (-1), 3) := by decide +kernel
theorem dX1_writeEnd_143 : decode cX1_writeEnd 143 = .ok (.goto (-30), 3) := by decide +kernel
theorem dX1_writeEnd_90 : decode cX1_writeEnd 90 = .ok (.iload_n 3, 1) := by decide +kernel
theorem dX1_writeEnd_91 : decode cX1_writeEnd 91 = .ok (.aload_n 1, 1) := by decide +kernel
theorem dX1_writeEnd_92 : decode cX1_writeEnd 92 = .ok (.iconst 0, 1) := by decide +kernel
theorem dX1_writeEnd_93 : decode cX1_writeEnd 93 = .ok (.iaload, 1) := by decide +kernel
theorem dX1_writeEnd_94 : decode cX1_writeEnd 94 = .ok (.if_icmp .ge 64, 3) := by decide +kernel
theorem dX1_writeEnd_158 : decode cX1_writeEnd 158 = .ok (.return_, 1) := by decide +kernel
theorem dX1_writeEnd_97 : decode cX1_writeEnd 97 = .ok (.aload_n 0, 1) := by decide +kernel
theorem dX1_writeEnd_98 : decode cX1_writeEnd 98 = .ok (.getfield 21, 3) := by decide +kernel
theorem dX1_writeEnd_101 : decode cX1_writeEnd 101 = .ok (.getfield 137, 3) := by decide +kernel
theorem dX1_writeEnd_104 : decode cX1_writeEnd 104 = .ok (.iload_n 3, 1) := by decide +kernel
theorem dX1_writeEnd_105 : decode cX1_writeEnd 105 = .ok (.iaload, 1) := by decide +kernel
theorem dX1_writeEnd_106 : decode cX1_writeEnd 106 = .ok (.istore 4, 2) := by decide +kernel
theorem dX1_writeEnd_108 : decode cX1_writeEnd 108 = .ok (.iload_n 2, 1) := by decide +kernel
theorem dX1_writeEnd_109 : decode cX1_writeEnd 109 = .ok (.iload_n 3, 1) := by decide +kernel
theorem dX1_writeEnd_110 : decode cX1_writeEnd 110 = .ok (.iadd, 1) := by decide +kernel
theorem dX1_writeEnd_111 : decode cX1_writeEnd 111 = .ok (.istore 5, 2) := by decide +kernel
theorem dX1_writeEnd_152 : decode cX1_writeEnd 152 = .ok (.iinc 3 1, 3) := by decide +kernel
theorem dX1_writeEnd_155 : decode cX1_writeEnd 155 = .ok (.goto (-65), 3) := by decide +kernel
theorem dX1_writeEnd_30 : decode cX1_writeEnd 30 = .ok (.iload_n 3, 1) := by decide +kernel
theorem dX1_writeEnd_31 : decode cX1_writeEnd 31 = .ok (.iconst 4, 1) := by decide +kernel
theorem dX1_writeEnd_32 : decode cX1_writeEnd 32 = .ok (.if_icmp .ge 47, 3) := by decide +kernel
theorem dX1_writeEnd_35 : decode cX1_writeEnd 35 = .ok (.aload_n 1, 1) := by decide +kernel
theorem dX1_writeEnd_36 : decode cX1_writeEnd 36 = .ok (.iconst 1, 1) := by decide +kernel
theorem dX1_writeEnd_37 : decode cX1_writeEnd 37 = .ok (.iconst 4, 1) := by decide +kernel
theorem dX1_writeEnd_38 : decode cX1_writeEnd 38 = .ok (.iload_n 2, 1) := by decide +kernel
theorem dX1_writeEnd_39 : decode cX1_writeEnd 39 = .ok (.imul, 1) := by decide +kernel
theorem dX1_writeEnd_40 : decode cX1_writeEnd 40 = .ok (.iadd, 1) := by decide +kernel
theorem dX1_writeEnd_41 : decode cX1_writeEnd 41 = .ok (.iload_n 3, 1) := by decide +kernel
theorem dX1_writeEnd_42 : decode cX1_writeEnd 42 = .ok (.iadd, 1) := by decide +kernel
theorem dX1_writeEnd_43 : decode cX1_writeEnd 43 = .ok (.iload_n 2, 1) := by decide +kernel
theorem dX1_writeEnd_44 : decode cX1_writeEnd 44 = .ok (.aload_n 0, 1) := by decide +kernel
theorem dX1_writeEnd_45 : decode cX1_writeEnd 45 = .ok (.getfield 21, 3) := by decide +kernel
theorem dX1_writeEnd_48 : decode cX1_writeEnd 48 = .ok (.getfield 128, 3) := by decide +kernel
theorem dX1_writeEnd_51 : decode cX1_writeEnd 51 = .ok (.if_icmp .ge 20, 3) := by decide +kernel
theorem dX1_writeEnd_71 : decode cX1_writeEnd 71 = .ok (.iconst 0, 1) := by decide +kernel
theorem dX1_writeEnd_72 : decode cX1_writeEnd 72 = .ok (.iastore, 1) := by decide +kernel
theorem dX1_writeEnd_73 : decode cX1_writeEnd 73 = .ok (.iinc 3 1, 3) := by decide +kernel
theorem dX1_writeEnd_76 : decode cX1_writeEnd 76 = .ok (.goto (-46), 3) := by decide +kernel
theorem dX1_writeEnd_54 : decode cX1_writeEnd 54 = .ok (.aload_n 0, 1) := by decide +kernel
theorem dX1_writeEnd_55 : decode cX1_writeEnd 55 = .ok (.getfield 21, 3) := by decide +kernel
theorem dX1_writeEnd_58 : decode cX1_writeEnd 58 = .ok (.getfield 129, 3) := by decide +kernel
theorem dX1_writeEnd_61 : decode cX1_writeEnd 61 = .ok (.iload_n 2, 1) := by decide +kernel
theorem dX1_writeEnd_62 : decode cX1_writeEnd 62 = .ok (.aaload, 1) := by decide +kernel
theorem dX1_writeEnd_63 : decode cX1_writeEnd 63 = .ok (.getfield 132, 3) := by decide +kernel
theorem dX1_writeEnd_66 : decode cX1_writeEnd 66 = .ok (.iload_n 3, 1) := by decide +kernel
theorem dX1_writeEnd_67 : decode cX1_writeEnd 67 = .ok (.iaload, 1) := by decide +kernel
theorem dX1_writeEnd_68 : decode cX1_writeEnd 68 = .ok (.goto 4, 3) := by decide +kernel
theorem dX1_writeEnd_22 : decode cX1_writeEnd 22 = .ok (.iload_n 2, 1) := by decide +kernel
theorem dX1_writeEnd_23 : decode cX1_writeEnd 23 = .ok (.bipush 6, 2) := by decide +kernel
theorem dX1_writeEnd_25 : decode cX1_writeEnd 25 = .ok (.if_icmp .ge 60, 3) := by decide +kernel
theorem dX1_writeEnd_85 : decode cX1_writeEnd 85 = .ok (.bipush 25, 2) := by decide +kernel
theorem dX1_writeEnd_87 : decode cX1_writeEnd 87 = .ok (.istore_n 2, 1) := by decide +kernel
theorem dX1_writeEnd_88 : decode cX1_writeEnd 88 = .ok (.iconst 0, 1) := by decide +kernel
theorem dX1_writeEnd_89 : decode cX1_writeEnd 89 = .ok (.istore_n 3, 1) := by decide +kernel
theorem dX1_writeEnd_28 : decode cX1_writeEnd 28 = .ok (.iconst 0, 1) := by decide +kernel
theorem dX1_writeEnd_29 : decode cX1_writeEnd 29 = .ok (.istore_n 3, 1) := by decide +kernel
theorem dX1_writeEnd_79 : decode cX1_writeEnd 79 = .ok (.iinc 2 1, 3) := by decide +kernel
theorem dX1_writeEnd_82 : decode cX1_writeEnd 82 = .ok (.goto (-60), 3) := by decide +kernel
theorem dX1_writeEnd_0 : decode cX1_writeEnd 0 = .ok (.aload_n 1, 1) := by decide +kernel
theorem dX1_writeEnd_1 : decode cX1_writeEnd 1 = .ok (.iconst 0, 1) := by decide +kernel
theorem dX1_writeEnd_2 : decode cX1_writeEnd 2 = .ok (.aload_n 0, 1) := by decide +kernel
theorem dX1_writeEnd_3 : decode cX1_writeEnd 3 = .ok (.getfield 21, 3) := by decide +kernel
theorem dX1_writeEnd_6 : decode cX1_writeEnd 6 = .ok (.getfield 125, 3) := by decide +kernel
theorem dX1_writeEnd_9 : decode cX1_writeEnd 9 = .ok (.aload_n 1, 1) := by decide +kernel
theorem dX1_writeEnd_10 : decode cX1_writeEnd 10 = .ok (.arraylength, 1) := by decide +kernel
theorem dX1_writeEnd_11 : decode cX1_writeEnd 11 = .ok (.iconst 1, 1) := by decide +kernel
theorem dX1_writeEnd_12 : decode cX1_writeEnd 12 = .ok (.isub, 1) := by decide +kernel
theorem dX1_writeEnd_13 : decode cX1_writeEnd 13 = .ok (.bipush 24, 2) := by decide +kernel
theorem dX1_writeEnd_15 : decode cX1_writeEnd 15 = .ok (.isub, 1) := by decide +kernel
theorem dX1_writeEnd_16 : decode cX1_writeEnd 16 = .ok (.invokestatic 88, 3) := by decide +kernel
theorem dX1_writeEnd_19 : decode cX1_writeEnd 19 = .ok (.iastore, 1) := by decide +kernel
theorem dX1_writeEnd_20 : decode cX1_writeEnd 20 = .ok (.iconst 0, 1) := by decide +kernel
theorem dX1_writeEnd_21 : decode cX1_writeEnd 21 = .ok (.istore_n 2, 1) := by decide +kernel
theorem dX1_writeOnceEnds_17 : decode cX1_writeOnceEnds 17 = .ok (.iload 4, 2) := by decide +kernel
theorem dX1_writeOnceEnds_19 : decode cX1_writeOnceEnds 19 = .ok (.iload_n 3, 1) := by decide +kernel
theorem dX1_writeOnceEnds_20 : decode cX1_writeOnceEnds 20 = .ok (.if_icmp .ge 51, 3) := by decide +kernel
theorem dX1_writeOnceEnds_71 : decode cX1_writeOnceEnds 71 = .ok (.iload_n 2, 1) := by decide +kernel
theorem dX1_writeOnceEnds_72 : decode cX1_writeOnceEnds 72 = .ok (.ireturn, 1) := by decide +kernel
theorem dX1_writeOnceEnds_23 : decode cX1_writeOnceEnds 23 = .ok (.iload_n 2, 1) := by decide +kernel
theorem dX1_writeOnceEnds_24 : decode cX1_writeOnceEnds 24 = .ok (.bipush 24, 2) := by decide +kernel
theorem dX1_writeOnceEnds_26 : decode cX1_writeOnceEnds 26 = .ok (.if_icmp .ge 45, 3) := by decide +kernel
theorem dX1_writeOnceEnds_29 : decode cX1_writeOnceEnds 29 = .ok (.aload_n 0, 1) := by decide +kernel
theorem dX1_writeOnceEnds_30 : decode cX1_writeOnceEnds 30 = .ok (.iload 4, 2) := by decide +kernel
theorem dX1_writeOnceEnds_32 : decode cX1_writeOnceEnds 32 = .ok (.aload_n 1, 1) := by decide +kernel
theorem dX1_writeOnceEnds_33 : decode cX1_writeOnceEnds 33 = .ok (.getfield 53, 3) := by decide +kernel
theorem dX1_writeOnceEnds_36 : decode cX1_writeOnceEnds 36 = .ok (.iconst (-1), 1) := by decide +kernel
theorem dX1_writeOnceEnds_37 : decode cX1_writeOnceEnds 37 = .ok (.invokevirtual 109, 3) := by decide +kernel
theorem dX1_writeOnceEnds_40 : decode cX1_writeOnceEnds 40 = .ok (.ifCond .eq 25, 3) := by decide +kernel
theorem dX1_writeOnceEnds_43 : decode cX1_writeOnceEnds 43 = .ok (.aload_n 0, 1) := by decide +kernel
theorem dX1_writeOnceEnds_44 : decode cX1_writeOnceEnds 44 = .ok (.aload_n 1, 1) := by decide +kernel
theorem dX1_writeOnceEnds_45 : decode cX1_writeOnceEnds 45 = .ok (.aload_n 1, 1) := by decide +kernel
theorem dX1_writeOnceEnds_46 : decode cX1_writeOnceEnds 46 = .ok (.getfield 53, 3) := by decide +kernel
theorem dX1_writeOnceEnds_49 : decode cX1_writeOnceEnds 49 = .ok (.invokevirtual 113, 3) := by decide +kernel
theorem dX1_writeOnceEnds_52 : decode cX1_writeOnceEnds 52 = .ok (.aload_n 0, 1) := by decide +kernel
theorem dX1_writeOnceEnds_53 : decode cX1_writeOnceEnds 53 = .ok (.aload_n 0, 1) := by decide +kernel
theorem dX1_writeOnceEnds_54 : decode cX1_writeOnceEnds 54 = .ok (.getfield 40, 3) := by decide +kernel
theorem dX1_writeOnceEnds_57 : decode cX1_writeOnceEnds 57 = .ok (.iload_n 2, 1) := by decide +kernel
theorem dX1_writeOnceEnds_58 : decode cX1_writeOnceEnds 58 = .ok (.aaload, 1) := by decide +kernel
theorem dX1_writeOnceEnds_59 : decode cX1_writeOnceEnds 59 = .ok (.invokevirtual 117, 3) := by decide +kernel
theorem dX1_writeOnceEnds_62 : decode cX1_writeOnceEnds 62 = .ok (.iinc 2 1, 3) := by decide +kernel
theorem dX1_writeOnceEnds_65 : decode cX1_writeOnceEnds 65 = .ok (.iinc 4 1, 3) := by decide +kernel
theorem dX1_writeOnceEnds_68 : decode cX1_writeOnceEnds 68 = .ok (.goto (-51), 3) := by decide +kernel
theorem dX1_writeOnceEnds_0 : decode cX1_writeOnceEnds 0 = .ok (.iconst 0, 1) := by decide +kernel
theorem dX1_writeOnceEnds_1 : decode cX1_writeOnceEnds 1 = .ok (.istore_n 2, 1) := by decide +kernel
theorem dX1_writeOnceEnds_2 : decode cX1_writeOnceEnds 2 = .ok (.aload_n 1, 1) := by decide +kernel
theorem dX1_writeOnceEnds_3 : decode cX1_writeOnceEnds 3 = .ok (.getfield 53, 3) := by decide +kernel
theorem dX1_writeOnceEnds_6 : decode cX1_writeOnceEnds 6 = .ok (.aload_n 1, 1) := by decide +kernel
theorem dX1_writeOnceEnds_7 : decode cX1_writeOnceEnds 7 = .ok (.getfield 53, 3) := by decide +kernel
theorem dX1_writeOnceEnds_10 : decode cX1_writeOnceEnds 10 = .ok (.invokestatic 106, 3) := by decide +kernel
theorem dX1_writeOnceEnds_13 : decode cX1_writeOnceEnds 13 = .ok (.istore_n 3, 1) := by decide +kernel
theorem dX1_writeOnceEnds_14 : decode cX1_writeOnceEnds 14 = .ok (.iconst 0, 1) := by decide +kernel
theorem dX1_writeOnceEnds_15 : decode cX1_writeOnceEnds 15 = .ok (.istore 4, 2) := by decide +kernel
theorem dX1_isSameEnd_14 : decode cX1_isSameEnd 14 = .ok (.iload_n 3, 1) := by decide +kernel
theorem dX1_isSameEnd_15 : decode cX1_isSameEnd 15 = .ok (.iload_n 2, 1) := by decide +kernel
theorem dX1_isSameEnd_16 : decode cX1_isSameEnd 16 = .ok (.if_icmp .ge 20, 3) := by decide +kernel
theorem dX1_isSameEnd_36 : decode cX1_isSameEnd 36 = .ok (.iconst 1, 1) := by decide +kernel
theorem dX1_isSameEnd_37 : decode cX1_isSameEnd 37 = .ok (.ireturn, 1) := by decide +kernel
theorem dX1_isSameEnd_19 : decode cX1_isSameEnd 19 = .ok (.aload_n 0, 1) := by decide +kernel
theorem dX1_isSameEnd_20 : decode cX1_isSameEnd 20 = .ok (.iload_n 3, 1) := by decide +kernel
theorem dX1_isSameEnd_21 : decode cX1_isSameEnd 21 = .ok (.iaload, 1) := by decide +kernel
theorem dX1_isSameEnd_22 : decode cX1_isSameEnd 22 = .ok (.aload_n 1, 1) := by decide +kernel
theorem dX1_isSameEnd_23 : decode cX1_isSameEnd 23 = .ok (.iload_n 3, 1) := by decide +kernel
theorem dX1_isSameEnd_24 : decode cX1_isSameEnd 24 = .ok (.iaload, 1) := by decide +kernel
theorem dX1_isSameEnd_25 : decode cX1_isSameEnd 25 = .ok (.if_icmp .eq 5, 3) := by decide +kernel
theorem dX1_isSameEnd_30 : decode cX1_isSameEnd 30 = .ok (.iinc 3 1, 3) := by decide +kernel
theorem dX1_isSameEnd_33 : decode cX1_isSameEnd 33 = .ok (.goto (-19), 3) := by decide +kernel
theorem dX1_isSameEnd_28 : decode cX1_isSameEnd 28 = .ok (.iconst 0, 1) := by decide +kernel
theorem dX1_isSameEnd_29 : decode cX1_isSameEnd 29 = .ok (.ireturn, 1) := by decide +kernel
theorem dX1_isSameEnd_0 : decode cX1_isSameEnd 0 = .ok (.bipush 25, 2) := by decide +kernel
theorem dX1_isSameEnd_2 : decode cX1_isSameEnd 2 = .ok (.aload_n 0, 1) := by decide +kernel
theorem dX1_isSameEnd_3 : decode cX1_isSameEnd 3 = .ok (.iconst 0, 1) := by decide +kernel
theorem dX1_isSameEnd_4 : decode cX1_isSameEnd 4 = .ok (.iaload, 1) := by decide +kernel
theorem dX1_isSameEnd_5 : decode cX1_isSameEnd 5 = .ok (.iadd, 1) := by decide +kernel
theorem dX1_isSameEnd_6 : decode cX1_isSameEnd 6 = .ok (.aload_n 0, 1) := by decide +kernel
theorem dX1_isSameEnd_7 : decode cX1_isSameEnd 7 = .ok (.arraylength, 1) := by decide +kernel
theorem dX1_isSameEnd_8 : decode cX1_isSameEnd 8 = .ok (.invokestatic 88, 3) := by decide +kernel
theorem dX1_isSameEnd_11 : decode cX1_isSameEnd 11 = .ok (.istore_n 2, 1) := by decide +kernel
theorem dX1_isSameEnd_12 : decode cX1_isSameEnd 12 = .ok (.iconst 0, 1) := by decide +kernel
theorem dX1_isSameEnd_13 : decode cX1_isSameEnd 13 = .ok (.istore_n 3, 1) := by decide +kernel
theorem dX1_isAmongEnds_2 : decode cX1_isAmongEnds 2 = .ok (.iload_n 2, 1) := by decide +kernel
theorem dX1_isAmongEnds_3 : decode cX1_isAmongEnds 3 = .ok (.iload_n 1, 1) := by decide +kernel
theorem dX1_isAmongEnds_4 : decode cX1_isAmongEnds 4 = .ok (.if_icmp .ge 30, 3) := by decide +kernel
theorem dX1_isAmongEnds_34 : decode cX1_isAmongEnds 34 = .ok (.iconst 0, 1) := by decide +kernel
theorem dX1_isAmongEnds_35 : decode cX1_isAmongEnds 35 = .ok (.ireturn, 1) := by decide +kernel
theorem dX1_isAmongEnds_7 : decode cX1_isAmongEnds 7 = .ok (.aload_n 0, 1) := by decide +kernel
theorem dX1_isAmongEnds_8 : decode cX1_isAmongEnds 8 = .ok (.getfield 40, 3) := by decide +kernel
theorem dX1_isAmongEnds_11 : decode cX1_isAmongEnds 11 = .ok (.iload_n 2, 1) := by decide +kernel
theorem dX1_isAmongEnds_12 : decode cX1_isAmongEnds 12 = .ok (.aaload, 1) := by decide +kernel
theorem dX1_isAmongEnds_13 : decode cX1_isAmongEnds 13 = .ok (.aload_n 0, 1) := by decide +kernel
theorem dX1_isAmongEnds_14 : decode cX1_isAmongEnds 14 = .ok (.getfield 40, 3) := by decide +kernel
theorem dX1_isAmongEnds_17 : decode cX1_isAmongEnds 17 = .ok (.bipush 24, 2) := by decide +kernel
theorem dX1_isAmongEnds_19 : decode cX1_isAmongEnds 19 = .ok (.aaload, 1) := by decide +kernel
theorem dX1_isAmongEnds_20 : decode cX1_isAmongEnds 20 = .ok (.invokestatic 140, 3) := by decide +kernel
theorem dX1_isAmongEnds_23 : decode cX1_isAmongEnds 23 = .ok (.ifCond .eq 5, 3) := by decide +kernel
theorem dX1_isAmongEnds_26 : decode cX1_isAmongEnds 26 = .ok (.iconst 1, 1) := by decide +kernel
theorem dX1_isAmongEnds_27 : decode cX1_isAmongEnds 27 = .ok (.ireturn, 1) := by decide +kernel
theorem dX1_isAmongEnds_28 : decode cX1_isAmongEnds 28 = .ok (.iinc 2 1, 3) := by decide +kernel
theorem dX1_isAmongEnds_31 : decode cX1_isAmongEnds 31 = .ok (.goto (-29), 3) := by decide +kernel
theorem dX1_isAmongEnds_0 : decode cX1_isAmongEnds 0 = .ok (.iconst 0, 1) := by decide +kernel
theorem dX1_isAmongEnds_1 : decode cX1_isAmongEnds 1 = .ok (.istore_n 2, 1) := by decide +kernel
theorem dX1_ordersOf_36 : decode cX1_ordersOf 36 = .ok (.iload 7, 2) := by decide +kernel
theorem dX1_ordersOf_38 : decode cX1_ordersOf 38 = .ok (.iload 6, 2) := by decide +kernel
theorem dX1_ordersOf_40 : decode cX1_ordersOf 40 = .ok (.if_icmp .ge 75, 3) := by decide +kernel
theorem dX1_ordersOf_115 : decode cX1_ordersOf 115 = .ok (.iload 5, 2) := by decide +kernel
theorem dX1_ordersOf_117 : decode cX1_ordersOf 117 = .ok (.ireturn, 1) := by decide +kernel
theorem dX1_ordersOf_43 : decode cX1_ordersOf 43 = .ok (.aload_n 0, 1) := by decide +kernel
theorem dX1_ordersOf_44 : decode cX1_ordersOf 44 = .ok (.iload 7, 2) := by decide +kernel
theorem dX1_ordersOf_46 : decode cX1_ordersOf 46 = .ok (.aload_n 1, 1) := by decide +kernel
theorem dX1_ordersOf_47 : decode cX1_ordersOf 47 = .ok (.getfield 53, 3) := by decide +kernel
theorem dX1_ordersOf_50 : decode cX1_ordersOf 50 = .ok (.iload_n 2, 1) := by decide +kernel
theorem dX1_ordersOf_51 : decode cX1_ordersOf 51 = .ok (.invokevirtual 109, 3) := by decide +kernel
theorem dX1_ordersOf_54 : decode cX1_ordersOf 54 = .ok (.ifCond .ne 6, 3) := by decide +kernel
theorem dX1_ordersOf_60 : decode cX1_ordersOf 60 = .ok (.iload_n 3, 1) := by decide +kernel
theorem dX1_ordersOf_61 : decode cX1_ordersOf 61 = .ok (.ifCond .eq 25, 3) := by decide +kernel
theorem dX1_ordersOf_86 : decode cX1_ordersOf 86 = .ok (.iload 5, 2) := by decide +kernel
theorem dX1_ordersOf_88 : decode cX1_ordersOf 88 = .ok (.iload_n 3, 1) := by decide +kernel
theorem dX1_ordersOf_89 : decode cX1_ordersOf 89 = .ok (.ifCond .eq 12, 3) := by decide +kernel
theorem dX1_ordersOf_101 : decode cX1_ordersOf 101 = .ok (.iconst 1, 1) := by decide +kernel
theorem dX1_ordersOf_102 : decode cX1_ordersOf 102 = .ok (.goto 4, 3) := by decide +kernel
theorem dX1_ordersOf_106 : decode cX1_ordersOf 106 = .ok (.iadd, 1) := by decide +kernel
theorem dX1_ordersOf_107 : decode cX1_ordersOf 107 = .ok (.istore 5, 2) := by decide +kernel
theorem dX1_ordersOf_109 : decode cX1_ordersOf 109 = .ok (.iinc 7 1, 3) := by decide +kernel
theorem dX1_ordersOf_112 : decode cX1_ordersOf 112 = .ok (.goto (-76), 3) := by decide +kernel
theorem dX1_ordersOf_64 : decode cX1_ordersOf 64 = .ok (.aload_n 0, 1) := by decide +kernel
theorem dX1_ordersOf_65 : decode cX1_ordersOf 65 = .ok (.aload_n 1, 1) := by decide +kernel
theorem dX1_ordersOf_66 : decode cX1_ordersOf 66 = .ok (.aload_n 1, 1) := by decide +kernel
theorem dX1_ordersOf_67 : decode cX1_ordersOf 67 = .ok (.getfield 53, 3) := by decide +kernel
theorem dX1_ordersOf_70 : decode cX1_ordersOf 70 = .ok (.iconst 1, 1) := by decide +kernel
theorem dX1_ordersOf_71 : decode cX1_ordersOf 71 = .ok (.iadd, 1) := by decide +kernel
theorem dX1_ordersOf_72 : decode cX1_ordersOf 72 = .ok (.invokevirtual 113, 3) := by decide +kernel
theorem dX1_ordersOf_75 : decode cX1_ordersOf 75 = .ok (.aload_n 0, 1) := by decide +kernel
theorem dX1_ordersOf_76 : decode cX1_ordersOf 76 = .ok (.aload_n 0, 1) := by decide +kernel
theorem dX1_ordersOf_77 : decode cX1_ordersOf 77 = .ok (.getfield 40, 3) := by decide +kernel
theorem dX1_ordersOf_80 : decode cX1_ordersOf 80 = .ok (.bipush 24, 2) := by decide +kernel
theorem dX1_ordersOf_82 : decode cX1_ordersOf 82 = .ok (.aaload, 1) := by decide +kernel
theorem dX1_ordersOf_83 : decode cX1_ordersOf 83 = .ok (.invokevirtual 117, 3) := by decide +kernel
theorem dX1_ordersOf_92 : decode cX1_ordersOf 92 = .ok (.aload_n 0, 1) := by decide +kernel
theorem dX1_ordersOf_93 : decode cX1_ordersOf 93 = .ok (.iload 4, 2) := by decide +kernel
theorem dX1_ordersOf_95 : decode cX1_ordersOf 95 = .ok (.invokevirtual 121, 3) := by decide +kernel
theorem dX1_ordersOf_98 : decode cX1_ordersOf 98 = .ok (.ifCond .eq 7, 3) := by decide +kernel
theorem dX1_ordersOf_105 : decode cX1_ordersOf 105 = .ok (.iconst 0, 1) := by decide +kernel
theorem dX1_ordersOf_57 : decode cX1_ordersOf 57 = .ok (.goto 52, 3) := by decide +kernel
theorem dX1_ordersOf_0 : decode cX1_ordersOf 0 = .ok (.iload_n 3, 1) := by decide +kernel
theorem dX1_ordersOf_1 : decode cX1_ordersOf 1 = .ok (.ifCond .eq 11, 3) := by decide +kernel
theorem dX1_ordersOf_12 : decode cX1_ordersOf 12 = .ok (.iconst 0, 1) := by decide +kernel
theorem dX1_ordersOf_13 : decode cX1_ordersOf 13 = .ok (.istore 4, 2) := by decide +kernel
theorem dX1_ordersOf_15 : decode cX1_ordersOf 15 = .ok (.iconst 0, 1) := by decide +kernel
theorem dX1_ordersOf_16 : decode cX1_ordersOf 16 = .ok (.istore 5, 2) := by decide +kernel
theorem dX1_ordersOf_18 : decode cX1_ordersOf 18 = .ok (.aload_n 1, 1) := by decide +kernel
theorem dX1_ordersOf_19 : decode cX1_ordersOf 19 = .ok (.getfield 53, 3) := by decide +kernel
theorem dX1_ordersOf_22 : decode cX1_ordersOf 22 = .ok (.aload_n 1, 1) := by decide +kernel
theorem dX1_ordersOf_23 : decode cX1_ordersOf 23 = .ok (.getfield 53, 3) := by decide +kernel
theorem dX1_ordersOf_26 : decode cX1_ordersOf 26 = .ok (.iconst 1, 1) := by decide +kernel
theorem dX1_ordersOf_27 : decode cX1_ordersOf 27 = .ok (.iadd, 1) := by decide +kernel
theorem dX1_ordersOf_28 : decode cX1_ordersOf 28 = .ok (.invokestatic 106, 3) := by decide +kernel
theorem dX1_ordersOf_31 : decode cX1_ordersOf 31 = .ok (.istore 6, 2) := by decide +kernel
theorem dX1_ordersOf_33 : decode cX1_ordersOf 33 = .ok (.iconst 0, 1) := by decide +kernel
theorem dX1_ordersOf_34 : decode cX1_ordersOf 34 = .ok (.istore 7, 2) := by decide +kernel
theorem dX1_ordersOf_4 : decode cX1_ordersOf 4 = .ok (.aload_n 0, 1) := by decide +kernel
theorem dX1_ordersOf_5 : decode cX1_ordersOf 5 = .ok (.aload_n 1, 1) := by decide +kernel
theorem dX1_ordersOf_6 : decode cX1_ordersOf 6 = .ok (.invokevirtual 102, 3) := by decide +kernel
theorem dX1_ordersOf_9 : decode cX1_ordersOf 9 = .ok (.goto 4, 3) := by decide +kernel
abbrev md_s_dropOldest : Nat → Nat → Bool := mdf [(1, 3), (61, 99), (62, 99), (63, 99)]
set_option maxHeartbeats 4000000 in
set_option maxRecDepth 100000 in
theorem s_dropOldest (l : Launch) (D : va_G) (cI cZ cS cR : ClassId) (N0 : NT) (g : GS) (hI : Inv g) (h : Nat) (z : Int32) (r_h : g.1 h = 1) (kz : g.2.1 h 3 = .int z) (l_z : 1 ≤ z.toInt) (u_z : z.toInt ≤ 6) : Ty l D cI cZ cS cR N0 yX0_dropOldest cX0_dropOldest 1 none 0 0 0 [.ref h] g (fun v g' => ∃ (z2 : Int32), v = none ∧ Inv g' ∧ Ex g g' ∧ Sm md_s_dropOldest g g' ∧ (g'.2.1 h 3 = .int z2) ∧ (z2.toInt = z.toInt - 1)) := by
  refine t_enter (by decide) (Nat.le_of_ble_eq_true rfl) ?_
  intro p e s m args below meth c ls H locs hB hr hin hl hT
  have hx := hB.1
  have hb := hB.2.1
  have hl : lv_has ls 1 [(0, .ref h)] := hl
  have hE : Ex g g := Ex.rf
  have hM : Sm md_s_dropOldest g g := Sm.rf
  refine lv_aload_n hx hb dX0_dropOldest_0 rfl (lv_at hl 0 rfl) ?_
  refine lv_dup hx hb dX0_dropOldest_1 rfl ?_
  refine t_get (ci := 0) (v := .int z) hB hT (ro_ci r_h rfl) rfl 3 (by decide) k_253 kz dX0_dropOldest_2 ?_
  refine lv_iconst (v := 1) hx hb dX0_dropOldest_5 (by decide) ?_
  refine lv_isub hx hb dX0_dropOldest_6 ?_
  refine lv_topi (fun z_1 ez_1 => ?_)
  have e_z_1 : z_1.toInt = z.toInt - 1 := i_sub ez_1 rfl (by decide) (by omega) (by omega)
  refine t_put0 (ci := 0) (v := .int z_1) hB hT (ro_ci r_h rfl) (ro_n0 r_h (by decide)) rfl 3 (by decide) k_253 (Or.inl rfl) rfl rfl dX0_dropOldest_7 (fun H locs hT => ?_)
  have hI : Inv (sF g h 3 (.int z_1)) := hI.sF (p_1_3 r_h (⟨_, rfl, by omega, by omega⟩))
  have hM : Sm md_s_dropOldest g (sF g h 3 (.int z_1)) := hM.tr hE (Sm_sF (by rw [r_h]; rfl))
  have hE : Ex g (sF g h 3 (.int z_1)) := hE
  refine lv_aload_n hx hb dX0_dropOldest_10 rfl (lv_at hl 0 rfl) ?_
  obtain ⟨v_2, e_v_2, r_v_2, n_v_2⟩ := f_1_0 hI r_h
  refine t_get (ci := 0) (v := .ref v_2) hB hT (ro_ci r_h rfl) rfl 0 (by decide) k_243 e_v_2 dX0_dropOldest_11 ?_
  refine lv_iconst (v := 1) hx hb dX0_dropOldest_14 (by decide) ?_
  refine lv_aload_n hx hb dX0_dropOldest_15 rfl (lv_at hl 0 rfl) ?_
  refine t_get (ci := 0) (v := .ref v_2) hB hT (ro_ci r_h rfl) rfl 0 (by decide) k_243 e_v_2 dX0_dropOldest_16 ?_
  refine lv_iconst (v := 0) hx hb dX0_dropOldest_19 (by decide) ?_
  refine lv_aload_n hx hb dX0_dropOldest_20 rfl (lv_at hl 0 rfl) ?_
  refine t_get (ci := 0) (v := .int z_1) hB hT (ro_ci r_h rfl) rfl 3 (by decide) k_253 sF_eq dX0_dropOldest_21 ?_
  refine t_copy (n0 := 6) (n1 := 6) hB hT k_494 k_496 k_495 k_70 hl.1 r_v_2 r_v_2 (by decide) n_v_2 n_v_2 (by have q0 : (0 : Int32).toInt = 0 := (by decide); have q1 : (1 : Int32).toInt = 1 := (by decide); omega) (by have q0 : (0 : Int32).toInt = 0 := (by decide); have q1 : (1 : Int32).toInt = 1 := (by decide); omega) (by have q0 : (0 : Int32).toInt = 0 := (by decide); have q1 : (1 : Int32).toInt = 1 := (by decide); omega) (by have q0 : (0 : Int32).toInt = 0 := (by decide); have q1 : (1 : Int32).toInt = 1 := (by decide); omega) (by have q0 : (0 : Int32).toInt = 0 := (by decide); have q1 : (1 : Int32).toInt = 1 := (by decide); omega) (Nat.le_of_ble_eq_true rfl) (Nat.le_of_ble_eq_true rfl) dX0_dropOldest_24 hI (fun H locs cf_3 ecf_3 hT hI => ?_)
  have hM : Sm md_s_dropOldest g (sV (sF g h 3 (.int z_1)) v_2 cf_3) := hM.tr hE (Sm_sV (by rw [r_v_2]; rfl))
  have hE : Ex g (sV (sF g h 3 (.int z_1)) v_2 cf_3) := hE
  refine lv_aload_n hx hb dX0_dropOldest_27 rfl (lv_at hl 0 rfl) ?_
  obtain ⟨v_4, e_v_4, r_v_4, n_v_4⟩ := f_1_1 hI r_h
  refine t_get (ci := 0) (v := .ref v_4) hB hT (ro_ci r_h rfl) rfl 1 (by decide) k_247 e_v_4 dX0_dropOldest_28 ?_
  refine lv_iconst (v := 1) hx hb dX0_dropOldest_31 (by decide) ?_
  refine lv_aload_n hx hb dX0_dropOldest_32 rfl (lv_at hl 0 rfl) ?_
  refine t_get (ci := 0) (v := .ref v_4) hB hT (ro_ci r_h rfl) rfl 1 (by decide) k_247 e_v_4 dX0_dropOldest_33 ?_
  refine lv_iconst (v := 0) hx hb dX0_dropOldest_36 (by decide) ?_
  refine lv_aload_n hx hb dX0_dropOldest_37 rfl (lv_at hl 0 rfl) ?_
  refine t_get (ci := 0) (v := .int z_1) hB hT (ro_ci r_h rfl) rfl 3 (by decide) k_253 sF_eq dX0_dropOldest_38 ?_
  refine t_copy (n0 := 6) (n1 := 6) hB hT k_494 k_496 k_495 k_70 hl.1 r_v_4 r_v_4 (by decide) n_v_4 n_v_4 (by have q0 : (0 : Int32).toInt = 0 := (by decide); have q1 : (1 : Int32).toInt = 1 := (by decide); omega) (by have q0 : (0 : Int32).toInt = 0 := (by decide); have q1 : (1 : Int32).toInt = 1 := (by decide); omega) (by have q0 : (0 : Int32).toInt = 0 := (by decide); have q1 : (1 : Int32).toInt = 1 := (by decide); omega) (by have q0 : (0 : Int32).toInt = 0 := (by decide); have q1 : (1 : Int32).toInt = 1 := (by decide); omega) (by have q0 : (0 : Int32).toInt = 0 := (by decide); have q1 : (1 : Int32).toInt = 1 := (by decide); omega) (Nat.le_of_ble_eq_true rfl) (Nat.le_of_ble_eq_true rfl) dX0_dropOldest_41 hI (fun H locs cf_5 ecf_5 hT hI => ?_)
  have hM : Sm md_s_dropOldest g (sV (sV (sF g h 3 (.int z_1)) v_2 cf_3) v_4 cf_5) := hM.tr hE (Sm_sV (by rw [r_v_4]; rfl))
  have hE : Ex g (sV (sV (sF g h 3 (.int z_1)) v_2 cf_3) v_4 cf_5) := hE
  refine lv_aload_n hx hb dX0_dropOldest_44 rfl (lv_at hl 0 rfl) ?_
  obtain ⟨v_6, e_v_6, r_v_6, n_v_6⟩ := f_1_2 hI r_h
  refine t_get (ci := 0) (v := .ref v_6) hB hT (ro_ci r_h rfl) rfl 2 (by decide) k_250 e_v_6 dX0_dropOldest_45 ?_
  refine lv_iconst (v := 1) hx hb dX0_dropOldest_48 (by decide) ?_
  refine lv_aload_n hx hb dX0_dropOldest_49 rfl (lv_at hl 0 rfl) ?_
  refine t_get (ci := 0) (v := .ref v_6) hB hT (ro_ci r_h rfl) rfl 2 (by decide) k_250 e_v_6 dX0_dropOldest_50 ?_
  refine lv_iconst (v := 0) hx hb dX0_dropOldest_53 (by decide) ?_
  refine lv_aload_n hx hb dX0_dropOldest_54 rfl (lv_at hl 0 rfl) ?_
  refine t_get (ci := 0) (v := .int z_1) hB hT (ro_ci r_h rfl) rfl 3 (by decide) k_253 sF_eq dX0_dropOldest_55 ?_
  refine t_copy (n0 := 6) (n1 := 6) hB hT k_494 k_496 k_495 k_70 hl.1 r_v_6 r_v_6 (by decide) n_v_6 n_v_6 (by have q0 : (0 : Int32).toInt = 0 := (by decide); have q1 : (1 : Int32).toInt = 1 := (by decide); omega) (by have q0 : (0 : Int32).toInt = 0 := (by decide); have q1 : (1 : Int32).toInt = 1 := (by decide); omega) (by have q0 : (0 : Int32).toInt = 0 := (by decide); have q1 : (1 : Int32).toInt = 1 := (by decide); omega) (by have q0 : (0 : Int32).toInt = 0 := (by decide); have q1 : (1 : Int32).toInt = 1 := (by decide); omega) (by have q0 : (0 : Int32).toInt = 0 := (by decide); have q1 : (1 : Int32).toInt = 1 := (by decide); omega) (Nat.le_of_ble_eq_true rfl) (Nat.le_of_ble_eq_true rfl) dX0_dropOldest_58 hI (fun H locs cf_7 ecf_7 hT hI => ?_)
  have hM : Sm md_s_dropOldest g (sV (sV (sV (sF g h 3 (.int z_1)) v_2 cf_3) v_4 cf_5) v_6 cf_7) := hM.tr hE (Sm_sV (by rw [r_v_6]; rfl))
  have hE : Ex g (sV (sV (sV (sF g h 3 (.int z_1)) v_2 cf_3) v_4 cf_5) v_6 cf_7) := hE
  exact t_vret hB hr hT (Nat.le_of_ble_eq_true rfl) (Nat.le_of_ble_eq_true rfl) dX0_dropOldest_61 ⟨z_1, rfl, hI, hE, hM, sF_eq, (by omega)⟩
abbrev md_s_appendLatest : Nat → Nat → Bool := mdf [(1, 3), (61, 99), (62, 99), (63, 99)]
theorem mdle_s_appendLatest_s_dropOldest {r k : Nat} (h : md_s_appendLatest r k = false) : md_s_dropOldest r k = false := mdf_le (by decide +kernel) h
set_option maxHeartbeats 4000000 in
set_option maxRecDepth 100000 in
theorem s_appendLatest (l : Launch) (D : va_G) (cI cZ cS cR : ClassId) (N0 : NT) (g : GS) (hI : Inv g) (h : Nat) (n : Int32) (x1 : Int32) (x2 : Int32) (z : Int32) (y0 : Nat) (y1 : Nat) (y2 : Nat) (r_h : g.1 h = 1) (r_y0 : g.1 y0 = 61) (n_y0 : g.2.2.1 y0 = 6) (r_y1 : g.1 y1 = 62) (n_y1 : g.2.2.1 y1 = 6) (r_y2 : g.1 y2 = 63) (n_y2 : g.2.2.1 y2 = 6) (kz : g.2.1 h 3 = .int z) (ky0 : g.2.1 h 0 = .ref y0) (ky1 : g.2.1 h 1 = .ref y1) (ky2 : g.2.1 h 2 = .ref y2) (l_n : 0 ≤ n.toInt) (u_n : n.toInt ≤ 5) (l_z : 0 ≤ z.toInt) (u_z : z.toInt ≤ 6) : Ty l D cI cZ cS cR N0 yX0_appendLatest cX0_appendLatest 4 none 1 0 0 [.ref h, .int n, .int x1, .int x2] g (fun v g' => ∃ (z2 : Int32), v = none ∧ Inv g' ∧ Ex g g' ∧ Sm md_s_appendLatest g g' ∧ (g'.2.1 h 3 = .int z2) ∧ (z2.toInt = if z.toInt ≤ 5 then z.toInt + 1 else z.toInt)) := by
  refine t_enter (by decide) (Nat.le_of_ble_eq_true rfl) ?_
  intro p e s m args below meth c ls H locs hB hr hin hl hT
  have hx := hB.1
  have hb := hB.2.1
  have hl : lv_has ls 4 [(0, .ref h), (1, .int n), (2, .int x1), (3, .int x2)] := hl
  have hE : Ex g g := Ex.rf
  have hM : Sm md_s_appendLatest g g := Sm.rf
  refine lv_aload_n hx hb dX0_appendLatest_0 rfl (lv_at hl 0 rfl) ?_
  refine t_get (ci := 0) (v := .int z) hB hT (ro_ci r_h rfl) rfl 3 (by decide) k_253 kz dX0_appendLatest_1 ?_
  refine lv_aload_n hx hb dX0_appendLatest_4 rfl (lv_at hl 0 rfl) ?_
  refine t_get (ci := 0) (v := .ref y0) hB hT (ro_ci r_h rfl) rfl 0 (by decide) k_243 ky0 dX0_appendLatest_5 ?_
  refine t_alen (v := 6) hB hT (ro_in r_y0 (by decide)) n_y0 rfl dX0_appendLatest_8 ?_
  refine lv_icmp_ne (tgt := 16) hx hb dX0_appendLatest_9 (by decide) (fun c_1 => ?_) (fun c_1 => ?_)
  · have c_1' : z.toInt ≠ 6 := i_ne c_1 rfl (by decide)
    refine lv_aload_n hx hb dX0_appendLatest_16 rfl (lv_at hl 0 rfl) ?_
    refine t_get (ci := 0) (v := .ref y0) hB hT (ro_ci r_h rfl) rfl 0 (by decide) k_243 ky0 dX0_appendLatest_17 ?_
    refine lv_aload_n hx hb dX0_appendLatest_20 rfl (lv_at hl 0 rfl) ?_
    refine t_get (ci := 0) (v := .int z) hB hT (ro_ci r_h rfl) rfl 3 (by decide) k_253 kz dX0_appendLatest_21 ?_
    refine lv_iload_n hx hb dX0_appendLatest_24 rfl (lv_at hl 1 rfl) ?_
    have i_2 : vp_in z 6 := (i_in (n := 6) rfl (by omega) (by omega))
    refine t_iast hB hT (ro_in r_y0 (by decide)) n_y0 i_2 dX0_appendLatest_25 (fun H locs hT => ?_)
    have hI : Inv (sC g y0 z.toNatClampNeg n) := hI.sC (ck r_y0 ⟨by omega, by omega⟩)
    have hM : Sm md_s_appendLatest g (sC g y0 z.toNatClampNeg n) := hM.tr hE (Sm_sC (by rw [r_y0]; rfl))
    have hE : Ex g (sC g y0 z.toNatClampNeg n) := hE
    refine lv_aload_n hx hb dX0_appendLatest_26 rfl (lv_at hl 0 rfl) ?_
    refine t_get (ci := 0) (v := .ref y1) hB hT (ro_ci r_h rfl) rfl 1 (by decide) k_247 ky1 dX0_appendLatest_27 ?_
    refine lv_aload_n hx hb dX0_appendLatest_30 rfl (lv_at hl 0 rfl) ?_
    refine t_get (ci := 0) (v := .int z) hB hT (ro_ci r_h rfl) rfl 3 (by decide) k_253 kz dX0_appendLatest_31 ?_
    refine lv_iload_n hx hb dX0_appendLatest_34 rfl (lv_at hl 2 rfl) ?_
    have i_3 : vp_in z 6 := (i_in (n := 6) rfl (by omega) (by omega))
    refine t_iast hB hT (ro_in r_y1 (by decide)) n_y1 i_3 dX0_appendLatest_35 (fun H locs hT => ?_)
    have hI : Inv (sC (sC g y0 z.toNatClampNeg n) y1 z.toNatClampNeg x1) := hI.sC (ck r_y1 trivial)
    have hM : Sm md_s_appendLatest g (sC (sC g y0 z.toNatClampNeg n) y1 z.toNatClampNeg x1) := hM.tr hE (Sm_sC (by rw [r_y1]; rfl))
    have hE : Ex g (sC (sC g y0 z.toNatClampNeg n) y1 z.toNatClampNeg x1) := hE
    refine lv_aload_n hx hb dX0_appendLatest_36 rfl (lv_at hl 0 rfl) ?_
    refine t_get (ci := 0) (v := .ref y2) hB hT (ro_ci r_h rfl) rfl 2 (by decide) k_250 ky2 dX0_appendLatest_37 ?_
    refine lv_aload_n hx hb dX0_appendLatest_40 rfl (lv_at hl 0 rfl) ?_
    refine t_get (ci := 0) (v := .int z) hB hT (ro_ci r_h rfl) rfl 3 (by decide) k_253 kz dX0_appendLatest_41 ?_
    refine lv_iload_n hx hb dX0_appendLatest_44 rfl (lv_at hl 3 rfl) ?_
    have i_4 : vp_in z 6 := (i_in (n := 6) rfl (by omega) (by omega))
    refine t_iast hB hT (ro_in r_y2 (by decide)) n_y2 i_4 dX0_appendLatest_45 (fun H locs hT => ?_)
    have hI : Inv (sC (sC (sC g y0 z.toNatClampNeg n) y1 z.toNatClampNeg x1) y2 z.toNatClampNeg x2) := hI.sC (ck r_y2 trivial)
    have hM : Sm md_s_appendLatest g (sC (sC (sC g y0 z.toNatClampNeg n) y1 z.toNatClampNeg x1) y2 z.toNatClampNeg x2) := hM.tr hE (Sm_sC (by rw [r_y2]; rfl))
    have hE : Ex g (sC (sC (sC g y0 z.toNatClampNeg n) y1 z.toNatClampNeg x1) y2 z.toNatClampNeg x2) := hE
    refine lv_aload_n hx hb dX0_appendLatest_46 rfl (lv_at hl 0 rfl) ?_
    refine lv_dup hx hb dX0_appendLatest_47 rfl ?_
    refine t_get (ci := 0) (v := .int z) hB hT (ro_ci r_h rfl) rfl 3 (by decide) k_253 kz dX0_appendLatest_48 ?_
    refine lv_iconst (v := 1) hx hb dX0_appendLatest_51 (by decide) ?_
    refine lv_iadd hx hb dX0_appendLatest_52 ?_
    refine lv_topi (fun z_5 ez_5 => ?_)
    have e_z_5 : z_5.toInt = z.toInt + 1 := i_add ez_5 rfl (by decide) (by omega) (by omega)
    refine t_put0 (ci := 0) (v := .int z_5) hB hT (ro_ci r_h rfl) (ro_n0 r_h (by decide)) rfl 3 (by decide) k_253 (Or.inl rfl) rfl rfl dX0_appendLatest_53 (fun H locs hT => ?_)
    have hI : Inv (sF (sC (sC (sC g y0 z.toNatClampNeg n) y1 z.toNatClampNeg x1) y2 z.toNatClampNeg x2) h 3 (.int z_5)) := hI.sF (p_1_3 r_h (⟨_, rfl, by omega, by omega⟩))
    have hM : Sm md_s_appendLatest g (sF (sC (sC (sC g y0 z.toNatClampNeg n) y1 z.toNatClampNeg x1) y2 z.toNatClampNeg x2) h 3 (.int z_5)) := hM.tr hE (Sm_sF (by rw [r_h]; rfl))
    have hE : Ex g (sF (sC (sC (sC g y0 z.toNatClampNeg n) y1 z.toNatClampNeg x1) y2 z.toNatClampNeg x2) h 3 (.int z_5)) := hE
    exact t_vret hB hr hT (Nat.le_of_ble_eq_true rfl) (Nat.le_of_ble_eq_true rfl) dX0_appendLatest_56 ⟨z_5, rfl, hI, hE, hM, sF_eq, (by omega)⟩
  · have c_1' : z.toInt = 6 := i_eq c_1 rfl (by decide)
    refine lv_aload_n hx hb dX0_appendLatest_12 rfl (lv_at hl 0 rfl) ?_
    refine t_callV (n := 0) (As := []) (rest := []) (ci := 0) hB hT hl.1 (s_dropOldest l D cI cZ cS cR N0 g hI h z r_h kz (by omega) (by omega)) (ro_ci r_h rfl) rfl k_493 k_62 k_490 k_492 k_11 (by decide +kernel) ⟨(Nat.le_of_ble_eq_true rfl), (Nat.le_of_ble_eq_true rfl)⟩ rfl (Nat.le_of_ble_eq_true rfl) ⟨(Nat.le_of_ble_eq_true rfl), (Nat.le_of_ble_eq_true rfl)⟩ dX0_appendLatest_13 (fun v g_6 H locs hp hT => ?_)
    obtain ⟨z2_7, rfl, hI, x_11, m_10, f_8, f_9⟩ := hp
    have hM : Sm md_s_appendLatest g g_6 := hM.tr hE (m_10.mo (fun r k h => mdle_s_appendLatest_s_dropOldest h))
    have hE : Ex g g_6 := hE.tr x_11
    have r_12 : g_6.1 h = 1 := (Ex.r x_11 r_h (by decide))
    have r_13 : g_6.1 y0 = 61 := (Ex.r x_11 r_y0 (by decide))
    have r_14 : g_6.1 y1 = 62 := (Ex.r x_11 r_y1 (by decide))
    have r_15 : g_6.1 y2 = 63 := (Ex.r x_11 r_y2 (by decide))
    have n_16 : g_6.2.2.1 y0 = 6 := (Ex.n x_11 r_y0 (by decide) n_y0)
    have n_17 : g_6.2.2.1 y1 = 6 := (Ex.n x_11 r_y1 (by decide) n_y1)
    have n_18 : g_6.2.2.1 y2 = 6 := (Ex.n x_11 r_y2 (by decide) n_y2)
    have kn_19 : g_6.2.1 h 0 = .ref y0 := (Sm.v m_10 r_h (by decide) rfl ky0)
    have kn_20 : g_6.2.1 h 1 = .ref y1 := (Sm.v m_10 r_h (by decide) rfl ky1)
    have kn_21 : g_6.2.1 h 2 = .ref y2 := (Sm.v m_10 r_h (by decide) rfl ky2)
    refine W.eq (g2 := F0 m 16 ls []) rfl ?_
    refine lv_aload_n hx hb dX0_appendLatest_16 rfl (lv_at hl 0 rfl) ?_
    refine t_get (ci := 0) (v := .ref y0) hB hT (ro_ci r_12 rfl) rfl 0 (by decide) k_243 kn_19 dX0_appendLatest_17 ?_
    refine lv_aload_n hx hb dX0_appendLatest_20 rfl (lv_at hl 0 rfl) ?_
    refine t_get (ci := 0) (v := .int z2_7) hB hT (ro_ci r_12 rfl) rfl 3 (by decide) k_253 f_8 dX0_appendLatest_21 ?_
    refine lv_iload_n hx hb dX0_appendLatest_24 rfl (lv_at hl 1 rfl) ?_
    have i_22 : vp_in z2_7 6 := (i_in (n := 6) rfl (by omega) (by omega))
    refine t_iast hB hT (ro_in r_13 (by decide)) n_16 i_22 dX0_appendLatest_25 (fun H locs hT => ?_)
    have hI : Inv (sC g_6 y0 z2_7.toNatClampNeg n) := hI.sC (ck r_13 ⟨by omega, by omega⟩)
    have hM : Sm md_s_appendLatest g (sC g_6 y0 z2_7.toNatClampNeg n) := hM.tr hE (Sm_sC (by rw [r_13]; rfl))
    have hE : Ex g (sC g_6 y0 z2_7.toNatClampNeg n) := hE
    refine lv_aload_n hx hb dX0_appendLatest_26 rfl (lv_at hl 0 rfl) ?_
    refine t_get (ci := 0) (v := .ref y1) hB hT (ro_ci r_12 rfl) rfl 1 (by decide) k_247 kn_20 dX0_appendLatest_27 ?_
    refine lv_aload_n hx hb dX0_appendLatest_30 rfl (lv_at hl 0 rfl) ?_
    refine t_get (ci := 0) (v := .int z2_7) hB hT (ro_ci r_12 rfl) rfl 3 (by decide) k_253 f_8 dX0_appendLatest_31 ?_
    refine lv_iload_n hx hb dX0_appendLatest_34 rfl (lv_at hl 2 rfl) ?_
    have i_23 : vp_in z2_7 6 := (i_in (n := 6) rfl (by omega) (by omega))
    refine t_iast hB hT (ro_in r_14 (by decide)) n_17 i_23 dX0_appendLatest_35 (fun H locs hT => ?_)
    have hI : Inv (sC (sC g_6 y0 z2_7.toNatClampNeg n) y1 z2_7.toNatClampNeg x1) := hI.sC (ck r_14 trivial)
    have hM : Sm md_s_appendLatest g (sC (sC g_6 y0 z2_7.toNatClampNeg n) y1 z2_7.toNatClampNeg x1) := hM.tr hE (Sm_sC (by rw [r_14]; rfl))
    have hE : Ex g (sC (sC g_6 y0 z2_7.toNatClampNeg n) y1 z2_7.toNatClampNeg x1) := hE
    refine lv_aload_n hx hb dX0_appendLatest_36 rfl (lv_at hl 0 rfl) ?_
    refine t_get (ci := 0) (v := .ref y2) hB hT (ro_ci r_12 rfl) rfl 2 (by decide) k_250 kn_21 dX0_appendLatest_37 ?_
    refine lv_aload_n hx hb dX0_appendLatest_40 rfl (lv_at hl 0 rfl) ?_
    refine t_get (ci := 0) (v := .int z2_7) hB hT (ro_ci r_12 rfl) rfl 3 (by decide) k_253 f_8 dX0_appendLatest_41 ?_
    refine lv_iload_n hx hb dX0_appendLatest_44 rfl (lv_at hl 3 rfl) ?_
    have i_24 : vp_in z2_7 6 := (i_in (n := 6) rfl (by omega) (by omega))
    refine t_iast hB hT (ro_in r_15 (by decide)) n_18 i_24 dX0_appendLatest_45 (fun H locs hT => ?_)
    have hI : Inv (sC (sC (sC g_6 y0 z2_7.toNatClampNeg n) y1 z2_7.toNatClampNeg x1) y2 z2_7.toNatClampNeg x2) := hI.sC (ck r_15 trivial)
    have hM : Sm md_s_appendLatest g (sC (sC (sC g_6 y0 z2_7.toNatClampNeg n) y1 z2_7.toNatClampNeg x1) y2 z2_7.toNatClampNeg x2) := hM.tr hE (Sm_sC (by rw [r_15]; rfl))
    have hE : Ex g (sC (sC (sC g_6 y0 z2_7.toNatClampNeg n) y1 z2_7.toNatClampNeg x1) y2 z2_7.toNatClampNeg x2) := hE
    refine lv_aload_n hx hb dX0_appendLatest_46 rfl (lv_at hl 0 rfl) ?_
    refine lv_dup hx hb dX0_appendLatest_47 rfl ?_
    refine t_get (ci := 0) (v := .int z2_7) hB hT (ro_ci r_12 rfl) rfl 3 (by decide) k_253 f_8 dX0_appendLatest_48 ?_
    refine lv_iconst (v := 1) hx hb dX0_appendLatest_51 (by decide) ?_
    refine lv_iadd hx hb dX0_appendLatest_52 ?_
    refine lv_topi (fun z_25 ez_25 => ?_)
    have e_z_25 : z_25.toInt = z2_7.toInt + 1 := i_add ez_25 rfl (by decide) (by omega) (by omega)
    refine t_put0 (ci := 0) (v := .int z_25) hB hT (ro_ci r_12 rfl) (ro_n0 r_12 (by decide)) rfl 3 (by decide) k_253 (Or.inl rfl) rfl rfl dX0_appendLatest_53 (fun H locs hT => ?_)
    have hI : Inv (sF (sC (sC (sC g_6 y0 z2_7.toNatClampNeg n) y1 z2_7.toNatClampNeg x1) y2 z2_7.toNatClampNeg x2) h 3 (.int z_25)) := hI.sF (p_1_3 r_12 (⟨_, rfl, by omega, by omega⟩))
    have hM : Sm md_s_appendLatest g (sF (sC (sC (sC g_6 y0 z2_7.toNatClampNeg n) y1 z2_7.toNatClampNeg x1) y2 z2_7.toNatClampNeg x2) h 3 (.int z_25)) := hM.tr hE (Sm_sF (by rw [r_12]; rfl))
    have hE : Ex g (sF (sC (sC (sC g_6 y0 z2_7.toNatClampNeg n) y1 z2_7.toNatClampNeg x1) y2 z2_7.toNatClampNeg x2) h 3 (.int z_25)) := hE
    exact t_vret hB hr hT (Nat.le_of_ble_eq_true rfl) (Nat.le_of_ble_eq_true rfl) dX0_appendLatest_56 ⟨z_25, rfl, hI, hE, hM, sF_eq, (by omega)⟩
abbrev md_l_dropOldest : Nat → Nat → Bool := mdf [(9, 3), (64, 99), (65, 99), (66, 99)]
set_option maxHeartbeats 4000000 in
set_option maxRecDepth 100000 in
theorem l_dropOldest (l : Launch) (D : va_G) (cI cZ cS cR : ClassId) (N0 : NT) (g : GS) (hI : Inv g) (h : Nat) (z : Int32) (r_h : g.1 h = 9) (kz : g.2.1 h 3 = .int z) (l_z : 1 ≤ z.toInt) (u_z : z.toInt ≤ 20) : Ty l D cI cZ cS cR N0 yX0_dropOldest cX0_dropOldest 1 none 0 0 0 [.ref h] g (fun v g' => ∃ (z2 : Int32), v = none ∧ Inv g' ∧ Ex g g' ∧ Sm md_l_dropOldest g g' ∧ (g'.2.1 h 3 = .int z2) ∧ (z2.toInt = z.toInt - 1)) := by
  refine t_enter (by decide) (Nat.le_of_ble_eq_true rfl) ?_
  intro p e s m args below meth c ls H locs hB hr hin hl hT
  have hx := hB.1
  have hb := hB.2.1
  have hl : lv_has ls 1 [(0, .ref h)] := hl
  have hE : Ex g g := Ex.rf
  have hM : Sm md_l_dropOldest g g := Sm.rf
  refine lv_aload_n hx hb dX0_dropOldest_0 rfl (lv_at hl 0 rfl) ?_
  refine lv_dup hx hb dX0_dropOldest_1 rfl ?_
  refine t_get (ci := 0) (v := .int z) hB hT (ro_ci r_h rfl) rfl 3 (by decide) k_253 kz dX0_dropOldest_2 ?_
  refine lv_iconst (v := 1) hx hb dX0_dropOldest_5 (by decide) ?_
  refine lv_isub hx hb dX0_dropOldest_6 ?_
  refine lv_topi (fun z_1 ez_1 => ?_)
  have e_z_1 : z_1.toInt = z.toInt - 1 := i_sub ez_1 rfl (by decide) (by omega) (by omega)
  refine t_put0 (ci := 0) (v := .int z_1) hB hT (ro_ci r_h rfl) (ro_n0 r_h (by decide)) rfl 3 (by decide) k_253 (Or.inl rfl) rfl rfl dX0_dropOldest_7 (fun H locs hT => ?_)
  have hI : Inv (sF g h 3 (.int z_1)) := hI.sF (p_9_3 r_h (⟨_, rfl, by omega, by omega⟩))
  have hM : Sm md_l_dropOldest g (sF g h 3 (.int z_1)) := hM.tr hE (Sm_sF (by rw [r_h]; rfl))
  have hE : Ex g (sF g h 3 (.int z_1)) := hE
  refine lv_aload_n hx hb dX0_dropOldest_10 rfl (lv_at hl 0 rfl) ?_
  obtain ⟨v_2, e_v_2, r_v_2, n_v_2⟩ := f_9_0 hI r_h
  refine t_get (ci := 0) (v := .ref v_2) hB hT (ro_ci r_h rfl) rfl 0 (by decide) k_243 e_v_2 dX0_dropOldest_11 ?_
  refine lv_iconst (v := 1) hx hb dX0_dropOldest_14 (by decide) ?_
  refine lv_aload_n hx hb dX0_dropOldest_15 rfl (lv_at hl 0 rfl) ?_
  refine t_get (ci := 0) (v := .ref v_2) hB hT (ro_ci r_h rfl) rfl 0 (by decide) k_243 e_v_2 dX0_dropOldest_16 ?_
  refine lv_iconst (v := 0) hx hb dX0_dropOldest_19 (by decide) ?_
  refine lv_aload_n hx hb dX0_dropOldest_20 rfl (lv_at hl 0 rfl) ?_
  refine t_get (ci := 0) (v := .int z_1) hB hT (ro_ci r_h rfl) rfl 3 (by decide) k_253 sF_eq dX0_dropOldest_21 ?_
  refine t_copy (n0 := 20) (n1 := 20) hB hT k_494 k_496 k_495 k_70 hl.1 r_v_2 r_v_2 (by decide) n_v_2 n_v_2 (by have q0 : (0 : Int32).toInt = 0 := (by decide); have q1 : (1 : Int32).toInt = 1 := (by decide); omega) (by have q0 : (0 : Int32).toInt = 0 := (by decide); have q1 : (1 : Int32).toInt = 1 := (by decide); omega) (by have q0 : (0 : Int32).toInt = 0 := (by decide); have q1 : (1 : Int32).toInt = 1 := (by decide); omega) (by have q0 : (0 : Int32).toInt = 0 := (by decide); have q1 : (1 : Int32).toInt = 1 := (by decide); omega) (by have q0 : (0 : Int32).toInt = 0 := (by decide); have q1 : (1 : Int32).toInt = 1 := (by decide); omega) (Nat.le_of_ble_eq_true rfl) (Nat.le_of_ble_eq_true rfl) dX0_dropOldest_24 hI (fun H locs cf_3 ecf_3 hT hI => ?_)
  have hM : Sm md_l_dropOldest g (sV (sF g h 3 (.int z_1)) v_2 cf_3) := hM.tr hE (Sm_sV (by rw [r_v_2]; rfl))
  have hE : Ex g (sV (sF g h 3 (.int z_1)) v_2 cf_3) := hE
  refine lv_aload_n hx hb dX0_dropOldest_27 rfl (lv_at hl 0 rfl) ?_
  obtain ⟨v_4, e_v_4, r_v_4, n_v_4⟩ := f_9_1 hI r_h
  refine t_get (ci := 0) (v := .ref v_4) hB hT (ro_ci r_h rfl) rfl 1 (by decide) k_247 e_v_4 dX0_dropOldest_28 ?_
  refine lv_iconst (v := 1) hx hb dX0_dropOldest_31 (by decide) ?_
  refine lv_aload_n hx hb dX0_dropOldest_32 rfl (lv_at hl 0 rfl) ?_
  refine t_get (ci := 0) (v := .ref v_4) hB hT (ro_ci r_h rfl) rfl 1 (by decide) k_247 e_v_4 dX0_dropOldest_33 ?_
  refine lv_iconst (v := 0) hx hb dX0_dropOldest_36 (by decide) ?_
  refine lv_aload_n hx hb dX0_dropOldest_37 rfl (lv_at hl 0 rfl) ?_
  refine t_get (ci := 0) (v := .int z_1) hB hT (ro_ci r_h rfl) rfl 3 (by decide) k_253 sF_eq dX0_dropOldest_38 ?_
  refine t_copy (n0 := 20) (n1 := 20) hB hT k_494 k_496 k_495 k_70 hl.1 r_v_4 r_v_4 (by decide) n_v_4 n_v_4 (by have q0 : (0 : Int32).toInt = 0 := (by decide); have q1 : (1 : Int32).toInt = 1 := (by decide); omega) (by have q0 : (0 : Int32).toInt = 0 := (by decide); have q1 : (1 : Int32).toInt = 1 := (by decide); omega) (by have q0 : (0 : Int32).toInt = 0 := (by decide); have q1 : (1 : Int32).toInt = 1 := (by decide); omega) (by have q0 : (0 : Int32).toInt = 0 := (by decide); have q1 : (1 : Int32).toInt = 1 := (by decide); omega) (by have q0 : (0 : Int32).toInt = 0 := (by decide); have q1 : (1 : Int32).toInt = 1 := (by decide); omega) (Nat.le_of_ble_eq_true rfl) (Nat.le_of_ble_eq_true rfl) dX0_dropOldest_41 hI (fun H locs cf_5 ecf_5 hT hI => ?_)
  have hM : Sm md_l_dropOldest g (sV (sV (sF g h 3 (.int z_1)) v_2 cf_3) v_4 cf_5) := hM.tr hE (Sm_sV (by rw [r_v_4]; rfl))
  have hE : Ex g (sV (sV (sF g h 3 (.int z_1)) v_2 cf_3) v_4 cf_5) := hE
  refine lv_aload_n hx hb dX0_dropOldest_44 rfl (lv_at hl 0 rfl) ?_
  obtain ⟨v_6, e_v_6, r_v_6, n_v_6⟩ := f_9_2 hI r_h
  refine t_get (ci := 0) (v := .ref v_6) hB hT (ro_ci r_h rfl) rfl 2 (by decide) k_250 e_v_6 dX0_dropOldest_45 ?_
  refine lv_iconst (v := 1) hx hb dX0_dropOldest_48 (by decide) ?_
  refine lv_aload_n hx hb dX0_dropOldest_49 rfl (lv_at hl 0 rfl) ?_
  refine t_get (ci := 0) (v := .ref v_6) hB hT (ro_ci r_h rfl) rfl 2 (by decide) k_250 e_v_6 dX0_dropOldest_50 ?_
  refine lv_iconst (v := 0) hx hb dX0_dropOldest_53 (by decide) ?_
  refine lv_aload_n hx hb dX0_dropOldest_54 rfl (lv_at hl 0 rfl) ?_
  refine t_get (ci := 0) (v := .int z_1) hB hT (ro_ci r_h rfl) rfl 3 (by decide) k_253 sF_eq dX0_dropOldest_55 ?_
  refine t_copy (n0 := 20) (n1 := 20) hB hT k_494 k_496 k_495 k_70 hl.1 r_v_6 r_v_6 (by decide) n_v_6 n_v_6 (by have q0 : (0 : Int32).toInt = 0 := (by decide); have q1 : (1 : Int32).toInt = 1 := (by decide); omega) (by have q0 : (0 : Int32).toInt = 0 := (by decide); have q1 : (1 : Int32).toInt = 1 := (by decide); omega) (by have q0 : (0 : Int32).toInt = 0 := (by decide); have q1 : (1 : Int32).toInt = 1 := (by decide); omega) (by have q0 : (0 : Int32).toInt = 0 := (by decide); have q1 : (1 : Int32).toInt = 1 := (by decide); omega) (by have q0 : (0 : Int32).toInt = 0 := (by decide); have q1 : (1 : Int32).toInt = 1 := (by decide); omega) (Nat.le_of_ble_eq_true rfl) (Nat.le_of_ble_eq_true rfl) dX0_dropOldest_58 hI (fun H locs cf_7 ecf_7 hT hI => ?_)
  have hM : Sm md_l_dropOldest g (sV (sV (sV (sF g h 3 (.int z_1)) v_2 cf_3) v_4 cf_5) v_6 cf_7) := hM.tr hE (Sm_sV (by rw [r_v_6]; rfl))
  have hE : Ex g (sV (sV (sV (sF g h 3 (.int z_1)) v_2 cf_3) v_4 cf_5) v_6 cf_7) := hE
  exact t_vret hB hr hT (Nat.le_of_ble_eq_true rfl) (Nat.le_of_ble_eq_true rfl) dX0_dropOldest_61 ⟨z_1, rfl, hI, hE, hM, sF_eq, (by omega)⟩
abbrev md_l_appendLatest : Nat → Nat → Bool := mdf [(9, 3), (64, 99), (65, 99), (66, 99)]
theorem mdle_l_appendLatest_l_dropOldest {r k : Nat} (h : md_l_appendLatest r k = false) : md_l_dropOldest r k = false := mdf_le (by decide +kernel) h
set_option maxHeartbeats 4000000 in
set_option maxRecDepth 100000 in
theorem l_appendLatest (l : Launch) (D : va_G) (cI cZ cS cR : ClassId) (N0 : NT) (g : GS) (hI : Inv g) (h : Nat) (n : Int32) (x1 : Int32) (x2 : Int32) (z : Int32) (y0 : Nat) (y1 : Nat) (y2 : Nat) (r_h : g.1 h = 9) (r_y0 : g.1 y0 = 64) (n_y0 : g.2.2.1 y0 = 20) (r_y1 : g.1 y1 = 65) (n_y1 : g.2.2.1 y1 = 20) (r_y2 : g.1 y2 = 66) (n_y2 : g.2.2.1 y2 = 20) (kz : g.2.1 h 3 = .int z) (ky0 : g.2.1 h 0 = .ref y0) (ky1 : g.2.1 h 1 = .ref y1) (ky2 : g.2.1 h 2 = .ref y2) (l_n : 0 ≤ n.toInt) (u_n : n.toInt ≤ 5) (l_z : 0 ≤ z.toInt) (u_z : z.toInt ≤ 20) : Ty l D cI cZ cS cR N0 yX0_appendLatest cX0_appendLatest 4 none 1 0 0 [.ref h, .int n, .int x1, .int x2] g (fun v g' => ∃ (z2 : Int32), v = none ∧ Inv g' ∧ Ex g g' ∧ Sm md_l_appendLatest g g' ∧ (g'.2.1 h 3 = .int z2) ∧ (z2.toInt = if z.toInt ≤ 19 then z.toInt + 1 else z.toInt)) := by
  refine t_enter (by decide) (Nat.le_of_ble_eq_true rfl) ?_
  intro p e s m args below meth c ls H locs hB hr hin hl hT
  have hx := hB.1
  have hb := hB.2.1
  have hl : lv_has ls 4 [(0, .ref h), (1, .int n), (2, .int x1), (3, .int x2)] := hl
  have hE : Ex g g := Ex.rf
  have hM : Sm md_l_appendLatest g g := Sm.rf
  refine lv_aload_n hx hb dX0_appendLatest_0 rfl (lv_at hl 0 rfl) ?_
  refine t_get (ci := 0) (v := .int z) hB hT (ro_ci r_h rfl) rfl 3 (by decide) k_253 kz dX0_appendLatest_1 ?_
  refine lv_aload_n hx hb dX0_appendLatest_4 rfl (lv_at hl 0 rfl) ?_
  refine t_get (ci := 0) (v := .ref y0) hB hT (ro_ci r_h rfl) rfl 0 (by decide) k_243 ky0 dX0_appendLatest_5 ?_
  refine t_alen (v := 20) hB hT (ro_in r_y0 (by decide)) n_y0 rfl dX0_appendLatest_8 ?_
  refine lv_icmp_ne (tgt := 16) hx hb dX0_appendLatest_9 (by decide) (fun c_1 => ?_) (fun c_1 => ?_)
  · have c_1' : z.toInt ≠ 20 := i_ne c_1 rfl (by decide)
    refine lv_aload_n hx hb dX0_appendLatest_16 rfl (lv_at hl 0 rfl) ?_
    refine t_get (ci := 0) (v := .ref y0) hB hT (ro_ci r_h rfl) rfl 0 (by decide) k_243 ky0 dX0_appendLatest_17 ?_
    refine lv_aload_n hx hb dX0_appendLatest_20 rfl (lv_at hl 0 rfl) ?_
    refine t_get (ci := 0) (v := .int z) hB hT (ro_ci r_h rfl) rfl 3 (by decide) k_253 kz dX0_appendLatest_21 ?_
    refine lv_iload_n hx hb dX0_appendLatest_24 rfl (lv_at hl 1 rfl) ?_
    have i_2 : vp_in z 20 := (i_in (n := 20) rfl (by omega) (by omega))
    refine t_iast hB hT (ro_in r_y0 (by decide)) n_y0 i_2 dX0_appendLatest_25 (fun H locs hT => ?_)
    have hI : Inv (sC g y0 z.toNatClampNeg n) := hI.sC (ck r_y0 ⟨by omega, by omega⟩)
    have hM : Sm md_l_appendLatest g (sC g y0 z.toNatClampNeg n) := hM.tr hE (Sm_sC (by rw [r_y0]; rfl))
    have hE : Ex g (sC g y0 z.toNatClampNeg n) := hE
    refine lv_aload_n hx hb dX0_appendLatest_26 rfl (lv_at hl 0 rfl) ?_
    refine t_get (ci := 0) (v := .ref y1) hB hT (ro_ci r_h rfl) rfl 1 (by decide) k_247 ky1 dX0_appendLatest_27 ?_
    refine lv_aload_n hx hb dX0_appendLatest_30 rfl (lv_at hl 0 rfl) ?_
    refine t_get (ci := 0) (v := .int z) hB hT (ro_ci r_h rfl) rfl 3 (by decide) k_253 kz dX0_appendLatest_31 ?_
    refine lv_iload_n hx hb dX0_appendLatest_34 rfl (lv_at hl 2 rfl) ?_
    have i_3 : vp_in z 20 := (i_in (n := 20) rfl (by omega) (by omega))
    refine t_iast hB hT (ro_in r_y1 (by decide)) n_y1 i_3 dX0_appendLatest_35 (fun H locs hT => ?_)
    have hI : Inv (sC (sC g y0 z.toNatClampNeg n) y1 z.toNatClampNeg x1) := hI.sC (ck r_y1 trivial)
    have hM : Sm md_l_appendLatest g (sC (sC g y0 z.toNatClampNeg n) y1 z.toNatClampNeg x1) := hM.tr hE (Sm_sC (by rw [r_y1]; rfl))
    have hE : Ex g (sC (sC g y0 z.toNatClampNeg n) y1 z.toNatClampNeg x1) := hE
    refine lv_aload_n hx hb dX0_appendLatest_36 rfl (lv_at hl 0 rfl) ?_
    refine t_get (ci := 0) (v := .ref y2) hB hT (ro_ci r_h rfl) rfl 2 (by decide) k_250 ky2 dX0_appendLatest_37 ?_
    refine lv_aload_n hx hb dX0_appendLatest_40 rfl (lv_at hl 0 rfl) ?_
    refine t_get (ci := 0) (v := .int z) hB hT (ro_ci r_h rfl) rfl 3 (by decide) k_253 kz dX0_appendLatest_41 ?_
    refine lv_iload_n hx hb dX0_appendLatest_44 rfl (lv_at hl 3 rfl) ?_
    have i_4 : vp_in z 20 := (i_in (n := 20) rfl (by omega) (by omega))
    refine t_iast hB hT (ro_in r_y2 (by decide)) n_y2 i_4 dX0_appendLatest_45 (fun H locs hT => ?_)
    have hI : Inv (sC (sC (sC g y0 z.toNatClampNeg n) y1 z.toNatClampNeg x1) y2 z.toNatClampNeg x2) := hI.sC (ck r_y2 trivial)
    have hM : Sm md_l_appendLatest g (sC (sC (sC g y0 z.toNatClampNeg n) y1 z.toNatClampNeg x1) y2 z.toNatClampNeg x2) := hM.tr hE (Sm_sC (by rw [r_y2]; rfl))
    have hE : Ex g (sC (sC (sC g y0 z.toNatClampNeg n) y1 z.toNatClampNeg x1) y2 z.toNatClampNeg x2) := hE
    refine lv_aload_n hx hb dX0_appendLatest_46 rfl (lv_at hl 0 rfl) ?_
    refine lv_dup hx hb dX0_appendLatest_47 rfl ?_
    refine t_get (ci := 0) (v := .int z) hB hT (ro_ci r_h rfl) rfl 3 (by decide) k_253 kz dX0_appendLatest_48 ?_
    refine lv_iconst (v := 1) hx hb dX0_appendLatest_51 (by decide) ?_
    refine lv_iadd hx hb dX0_appendLatest_52 ?_
    refine lv_topi (fun z_5 ez_5 => ?_)
    have e_z_5 : z_5.toInt = z.toInt + 1 := i_add ez_5 rfl (by decide) (by omega) (by omega)
    refine t_put0 (ci := 0) (v := .int z_5) hB hT (ro_ci r_h rfl) (ro_n0 r_h (by decide)) rfl 3 (by decide) k_253 (Or.inl rfl) rfl rfl dX0_appendLatest_53 (fun H locs hT => ?_)
    have hI : Inv (sF (sC (sC (sC g y0 z.toNatClampNeg n) y1 z.toNatClampNeg x1) y2 z.toNatClampNeg x2) h 3 (.int z_5)) := hI.sF (p_9_3 r_h (⟨_, rfl, by omega, by omega⟩))
    have hM : Sm md_l_appendLatest g (sF (sC (sC (sC g y0 z.toNatClampNeg n) y1 z.toNatClampNeg x1) y2 z.toNatClampNeg x2) h 3 (.int z_5)) := hM.tr hE (Sm_sF (by rw [r_h]; rfl))
    have hE : Ex g (sF (sC (sC (sC g y0 z.toNatClampNeg n) y1 z.toNatClampNeg x1) y2 z.toNatClampNeg x2) h 3 (.int z_5)) := hE
    exact t_vret hB hr hT (Nat.le_of_ble_eq_true rfl) (Nat.le_of_ble_eq_true rfl) dX0_appendLatest_56 ⟨z_5, rfl, hI, hE, hM, sF_eq, (by omega)⟩
  · have c_1' : z.toInt = 20 := i_eq c_1 rfl (by decide)
    refine lv_aload_n hx hb dX0_appendLatest_12 rfl (lv_at hl 0 rfl) ?_
    refine t_callV (n := 0) (As := []) (rest := []) (ci := 0) hB hT hl.1 (l_dropOldest l D cI cZ cS cR N0 g hI h z r_h kz (by omega) (by omega)) (ro_ci r_h rfl) rfl k_493 k_62 k_490 k_492 k_11 (by decide +kernel) ⟨(Nat.le_of_ble_eq_true rfl), (Nat.le_of_ble_eq_true rfl)⟩ rfl (Nat.le_of_ble_eq_true rfl) ⟨(Nat.le_of_ble_eq_true rfl), (Nat.le_of_ble_eq_true rfl)⟩ dX0_appendLatest_13 (fun v g_6 H locs hp hT => ?_)
    obtain ⟨z2_7, rfl, hI, x_11, m_10, f_8, f_9⟩ := hp
    have hM : Sm md_l_appendLatest g g_6 := hM.tr hE (m_10.mo (fun r k h => mdle_l_appendLatest_l_dropOldest h))
    have hE : Ex g g_6 := hE.tr x_11
    have r_12 : g_6.1 h = 9 := (Ex.r x_11 r_h (by decide))
    have r_13 : g_6.1 y0 = 64 := (Ex.r x_11 r_y0 (by decide))
    have r_14 : g_6.1 y1 = 65 := (Ex.r x_11 r_y1 (by decide))
    have r_15 : g_6.1 y2 = 66 := (Ex.r x_11 r_y2 (by decide))
    have n_16 : g_6.2.2.1 y0 = 20 := (Ex.n x_11 r_y0 (by decide) n_y0)
    have n_17 : g_6.2.2.1 y1 = 20 := (Ex.n x_11 r_y1 (by decide) n_y1)
    have n_18 : g_6.2.2.1 y2 = 20 := (Ex.n x_11 r_y2 (by decide) n_y2)
    have kn_19 : g_6.2.1 h 0 = .ref y0 := (Sm.v m_10 r_h (by decide) rfl ky0)
    have kn_20 : g_6.2.1 h 1 = .ref y1 := (Sm.v m_10 r_h (by decide) rfl ky1)
    have kn_21 : g_6.2.1 h 2 = .ref y2 := (Sm.v m_10 r_h (by decide) rfl ky2)
    refine W.eq (g2 := F0 m 16 ls []) rfl ?_
    refine lv_aload_n hx hb dX0_appendLatest_16 rfl (lv_at hl 0 rfl) ?_
    refine t_get (ci := 0) (v := .ref y0) hB hT (ro_ci r_12 rfl) rfl 0 (by decide) k_243 kn_19 dX0_appendLatest_17 ?_
    refine lv_aload_n hx hb dX0_appendLatest_20 rfl (lv_at hl 0 rfl) ?_
    refine t_get (ci := 0) (v := .int z2_7) hB hT (ro_ci r_12 rfl) rfl 3 (by decide) k_253 f_8 dX0_appendLatest_21 ?_
    refine lv_iload_n hx hb dX0_appendLatest_24 rfl (lv_at hl 1 rfl) ?_
    have i_22 : vp_in z2_7 20 := (i_in (n := 20) rfl (by omega) (by omega))
    refine t_iast hB hT (ro_in r_13 (by decide)) n_16 i_22 dX0_appendLatest_25 (fun H locs hT => ?_)
    have hI : Inv (sC g_6 y0 z2_7.toNatClampNeg n) := hI.sC (ck r_13 ⟨by omega, by omega⟩)
    have hM : Sm md_l_appendLatest g (sC g_6 y0 z2_7.toNatClampNeg n) := hM.tr hE (Sm_sC (by rw [r_13]; rfl))
    have hE : Ex g (sC g_6 y0 z2_7.toNatClampNeg n) := hE
    refine lv_aload_n hx hb dX0_appendLatest_26 rfl (lv_at hl 0 rfl) ?_
    refine t_get (ci := 0) (v := .ref y1) hB hT (ro_ci r_12 rfl) rfl 1 (by decide) k_247 kn_20 dX0_appendLatest_27 ?_
    refine lv_aload_n hx hb dX0_appendLatest_30 rfl (lv_at hl 0 rfl) ?_
    refine t_get (ci := 0) (v := .int z2_7) hB hT (ro_ci r_12 rfl) rfl 3 (by decide) k_253 f_8 dX0_appendLatest_31 ?_
    refine lv_iload_n hx hb dX0_appendLatest_34 rfl (lv_at hl 2 rfl) ?_
    have i_23 : vp_in z2_7 20 := (i_in (n := 20) rfl (by omega) (by omega))
    refine t_iast hB hT (ro_in r_14 (by decide)) n_17 i_23 dX0_appendLatest_35 (fun H locs hT => ?_)
    have hI : Inv (sC (sC g_6 y0 z2_7.toNatClampNeg n) y1 z2_7.toNatClampNeg x1) := hI.sC (ck r_14 trivial)
    have hM : Sm md_l_appendLatest g (sC (sC g_6 y0 z2_7.toNatClampNeg n) y1 z2_7.toNatClampNeg x1) := hM.tr hE (Sm_sC (by rw [r_14]; rfl))
    have hE : Ex g (sC (sC g_6 y0 z2_7.toNatClampNeg n) y1 z2_7.toNatClampNeg x1) := hE
    refine lv_aload_n hx hb dX0_appendLatest_36 rfl (lv_at hl 0 rfl) ?_
    refine t_get (ci := 0) (v := .ref y2) hB hT (ro_ci r_12 rfl) rfl 2 (by decide) k_250 kn_21 dX0_appendLatest_37 ?_
    refine lv_aload_n hx hb dX0_appendLatest_40 rfl (lv_at hl 0 rfl) ?_
    refine t_get (ci := 0) (v := .int z2_7) hB hT (ro_ci r_12 rfl) rfl 3 (by decide) k_253 f_8 dX0_appendLatest_41 ?_
    refine lv_iload_n hx hb dX0_appendLatest_44 rfl (lv_at hl 3 rfl) ?_
    have i_24 : vp_in z2_7 20 := (i_in (n := 20) rfl (by omega) (by omega))
    refine t_iast hB hT (ro_in r_15 (by decide)) n_18 i_24 dX0_appendLatest_45 (fun H locs hT => ?_)
    have hI : Inv (sC (sC (sC g_6 y0 z2_7.toNatClampNeg n) y1 z2_7.toNatClampNeg x1) y2 z2_7.toNatClampNeg x2) := hI.sC (ck r_15 trivial)
    have hM : Sm md_l_appendLatest g (sC (sC (sC g_6 y0 z2_7.toNatClampNeg n) y1 z2_7.toNatClampNeg x1) y2 z2_7.toNatClampNeg x2) := hM.tr hE (Sm_sC (by rw [r_15]; rfl))
    have hE : Ex g (sC (sC (sC g_6 y0 z2_7.toNatClampNeg n) y1 z2_7.toNatClampNeg x1) y2 z2_7.toNatClampNeg x2) := hE
    refine lv_aload_n hx hb dX0_appendLatest_46 rfl (lv_at hl 0 rfl) ?_
    refine lv_dup hx hb dX0_appendLatest_47 rfl ?_
    refine t_get (ci := 0) (v := .int z2_7) hB hT (ro_ci r_12 rfl) rfl 3 (by decide) k_253 f_8 dX0_appendLatest_48 ?_
    refine lv_iconst (v := 1) hx hb dX0_appendLatest_51 (by decide) ?_
    refine lv_iadd hx hb dX0_appendLatest_52 ?_
    refine lv_topi (fun z_25 ez_25 => ?_)
    have e_z_25 : z_25.toInt = z2_7.toInt + 1 := i_add ez_25 rfl (by decide) (by omega) (by omega)
    refine t_put0 (ci := 0) (v := .int z_25) hB hT (ro_ci r_12 rfl) (ro_n0 r_12 (by decide)) rfl 3 (by decide) k_253 (Or.inl rfl) rfl rfl dX0_appendLatest_53 (fun H locs hT => ?_)
    have hI : Inv (sF (sC (sC (sC g_6 y0 z2_7.toNatClampNeg n) y1 z2_7.toNatClampNeg x1) y2 z2_7.toNatClampNeg x2) h 3 (.int z_25)) := hI.sF (p_9_3 r_12 (⟨_, rfl, by omega, by omega⟩))
    have hM : Sm md_l_appendLatest g (sF (sC (sC (sC g_6 y0 z2_7.toNatClampNeg n) y1 z2_7.toNatClampNeg x1) y2 z2_7.toNatClampNeg x2) h 3 (.int z_25)) := hM.tr hE (Sm_sF (by rw [r_12]; rfl))
    have hE : Ex g (sF (sC (sC (sC g_6 y0 z2_7.toNatClampNeg n) y1 z2_7.toNatClampNeg x1) y2 z2_7.toNatClampNeg x2) h 3 (.int z_25)) := hE
    exact t_vret hB hr hT (Nat.le_of_ble_eq_true rfl) (Nat.le_of_ble_eq_true rfl) dX0_appendLatest_56 ⟨z_25, rfl, hI, hE, hM, sF_eq, (by omega)⟩
abbrev md_s_firstUnsafe : Nat → Nat → Bool := mdf [(2, 6), (4, 0), (4, 2), (4, 3), (4, 4), (4, 5), (4, 10), (4, 11), (4, 14), (6, 1), (6, 2), (6, 4), (6, 5), (6, 6), (6, 7), (50, 99)]
theorem mdle_s_firstUnsafe_s_runOnce {r k : Nat} (h : md_s_firstUnsafe r k = false) : md_s_runOnce r k = false := mdf_le (by decide +kernel) h
theorem mdle_s_firstUnsafe_s_runTwice {r k : Nat} (h : md_s_firstUnsafe r k = false) : md_s_runTwice r k = false := mdf_le (by decide +kernel) h
set_option maxHeartbeats 4000000 in
set_option maxRecDepth 100000 in
theorem lt_s_firstUnsafe_c (l : Launch) (D : va_G) (cI cZ cS cR : ClassId) (N0 : NT) (g : GS) (h : Nat) (o : Nat) (x1 : Int32) (r_h : g.1 h = 2) (r_o : g.1 o = 1) {p : Program} {e : Env} {s : State} {m : MethodId} {args : Array Value} {below : List Frame} {meth : Method} {c : Code} (hB : Tz p s m meth c args cX1_firstUnsafe 7 RX1 D cI cZ cS cR N0) (hr : meth.sig.returnType = (some .int)) (gp : Int32) (mf : Int32) (pl : Int32) (l_gp : 0 ≤ gp.toInt) (u_gp : gp.toInt ≤ 5) (u_mf : mf.toInt ≤ 5) (l_pl : 0 ≤ pl.toInt) (u_pl : pl.toInt ≤ 5) (K : ∀ (g1 : GS)   (H : Heap) (locs : List Loc) (ls : Array Slot), Tv D cI cZ cS cR N0 s.heap H locs g1 → Inv g1 → Ex g g1 → Sm md_s_firstUnsafe g g1 → lv_has ls 7 [(5, .int gp), (4, .int mf), (3, .int pl), (0, .ref h), (1, .ref o), (2, .int x1)] → W p l e (rmx 15 0 0) s m args below meth c H locs 0 0 (MQ below (tQ D cI cZ cS cR N0 (fun v g' => ∃ (r : Int32), v = some (.int r) ∧ Inv g' ∧ Ex g g' ∧ Sm md_s_firstUnsafe g g')) args s 0 0 (fun q => N0.1 ≤ q)) (F0 m 92 ls [])) : ∀ (kf : Nat) (g1 : GS) (f : Int32)  (H : Heap) (locs : List Loc) (ls : Array Slot), Tv D cI cZ cS cR N0 s.heap H locs g1 → Inv g1 → Ex g g1 → Sm md_s_firstUnsafe g g1 → 0 ≤ f.toInt → f.toInt ≤ 6 → (6 ≤ f.toInt + kf) → lv_has ls 7 [(6, .int f), (5, .int gp), (4, .int mf), (3, .int pl), (0, .ref h), (1, .ref o), (2, .int x1)] → W p l e (rmx 15 0 0) s m args below meth c H locs 0 0 (MQ below (tQ D cI cZ cS cR N0 (fun v g' => ∃ (r : Int32), v = some (.int r) ∧ Inv g' ∧ Ex g g' ∧ Sm md_s_firstUnsafe g g')) args s 0 0 (fun q => N0.1 ≤ q)) (F0 m 44 ls []) := by
  have hx := hB.1
  have hb := hB.2.1
  intro kf
  induction kf using Nat.strongRecOn with
  | ind kf ih =>
    intro g1 f H locs ls hT hI hE hM l_f u_f hk hl
    have r_1 : g1.1 h = 2 := Ex.r hE r_h (by decide)
    have r_2 : g1.1 o = 1 := Ex.r hE r_o (by decide)
    refine lv_iload hx hb dX1_firstUnsafe_44 (lv_at hl 0 rfl) ?_
    refine lv_iload hx hb dX1_firstUnsafe_46 (lv_at hl 2 rfl) ?_
    refine lv_icmp_gt (tgt := 92) hx hb dX1_firstUnsafe_48 (by decide) (fun c_3 => ?_) (fun c_3 => ?_)
    · have c_3' : mf.toInt < f.toInt := i_lt c_3 rfl rfl
      exact K g1 H locs ls hT hI hE hM (lv_sub hl [1, 2, 3, 4, 5, 6] rfl)
    · have c_3' : f.toInt ≤ mf.toInt := i_nlt c_3 rfl rfl
      refine lv_aload_n hx hb dX1_firstUnsafe_51 rfl (lv_at hl 4 rfl) ?_
      refine lv_aload_n hx hb dX1_firstUnsafe_52 rfl (lv_at hl 5 rfl) ?_
      refine lv_iload_n hx hb dX1_firstUnsafe_53 rfl (lv_at hl 3 rfl) ?_
      refine lv_iload hx hb dX1_firstUnsafe_54 (lv_at hl 1 rfl) ?_
      refine lv_iload hx hb dX1_firstUnsafe_56 (lv_at hl 0 rfl) ?_
      refine t_callV (n := 4) (As := [.ref o, .int pl, .int gp, .int f]) (rest := []) (ci := 1) hB hT hl.1 (s_runTwice l D cI cZ cS cR N0 g1 hI h o pl gp f r_1 r_2 (by omega) (by omega)) (ro_ci r_1 rfl) rfl k_598 k_64 k_629 k_596 k_597 (by decide +kernel) ⟨(Nat.le_of_ble_eq_true rfl), (Nat.le_of_ble_eq_true rfl)⟩ rfl (Nat.le_of_ble_eq_true rfl) ⟨(Nat.le_of_ble_eq_true rfl), (Nat.le_of_ble_eq_true rfl)⟩ dX1_firstUnsafe_58 (fun v g_4 H locs hp hT => ?_)
      obtain ⟨rfl, hI, x_6, m_5⟩ := hp
      have hM : Sm md_s_firstUnsafe g g_4 := hM.tr hE (m_5.mo (fun r k h => mdle_s_firstUnsafe_s_runTwice h))
      have hE : Ex g g_4 := hE.tr x_6
      have r_7 : g_4.1 h = 2 := (Ex.r x_6 r_1 (by decide))
      have r_8 : g_4.1 o = 1 := (Ex.r x_6 r_2 (by decide))
      refine W.eq (g2 := F0 m 61 ls []) rfl ?_
      refine lv_aload_n hx hb dX1_firstUnsafe_61 rfl (lv_at hl 4 rfl) ?_
      refine lv_aload_n hx hb dX1_firstUnsafe_62 rfl (lv_at hl 5 rfl) ?_
      refine lv_iload_n hx hb dX1_firstUnsafe_63 rfl (lv_at hl 3 rfl) ?_
      refine lv_iload_n hx hb dX1_firstUnsafe_64 rfl (lv_at hl 6 rfl) ?_
      refine t_callV (n := 3) (As := [.ref o, .int pl, .int x1]) (rest := []) (ci := 1) hB hT hl.1 (s_isLike l D cI cZ cS cR N0 g_4 hI h o pl x1 r_7 r_8 (by omega) (by omega)) (ro_ci r_7 rfl) rfl k_602 k_64 k_630 k_600 k_601 (by decide +kernel) ⟨(Nat.le_of_ble_eq_true rfl), (Nat.le_of_ble_eq_true rfl)⟩ rfl (Nat.le_of_ble_eq_true rfl) ⟨(Nat.le_of_ble_eq_true rfl), (Nat.le_of_ble_eq_true rfl)⟩ dX1_firstUnsafe_65 (fun v g_9 H locs hp hT => ?_)
      obtain ⟨r_10, rfl, eg, f_11⟩ := hp
      rw [eg] at hT
      clear eg
      refine W.eq (g2 := F0 m 68 ls [.int r_10]) rfl ?_
      rcases f_11 with rfl | rfl
      · refine W.eq (g2 := F0 m 68 ls [.int 1]) rfl ?_
        refine lv_if_ne (tgt := 86) hx hb dX1_firstUnsafe_68 (by decide) (fun c_ => ?_) (fun c_ => absurd c_ (by decide))
        obtain ⟨z_14, ez_14⟩ : ∃ z : Int32, z = f + 1 := ⟨_, rfl⟩
        have e_z_14 : z_14.toInt = f.toInt + 1 := i_add ez_14 rfl (by decide) (by omega) (by omega)
        refine lv_iinc (v := z_14) (lv' := [(6, .int z_14), (5, .int gp), (4, .int mf), (3, .int pl), (0, .ref h), (1, .ref o), (2, .int x1)]) hx hb dX1_firstUnsafe_86 hl (k := 0) rfl (by rw [ez_14]; rfl) (by decide) rfl (fun ls hl => ?_)
        refine lv_goto (tgt := 44) hx hb dX1_firstUnsafe_89 (by decide) ?_
        exact ih (kf - 1) (by omega) g_4 z_14 H locs ls hT hI hE hM (by omega) (by omega) (by have e0_ : (0 : Int32).toInt = 0 := (by decide); omega) (lv_sub hl [0, 1, 2, 3, 4, 5, 6] rfl)
      · refine W.eq (g2 := F0 m 68 ls [.int 0]) rfl ?_
        refine lv_if_ne (tgt := 86) hx hb dX1_firstUnsafe_68 (by decide) (fun c_ => absurd (by decide) c_) (fun c_ => ?_)
        refine lv_sipush (v := 1000) hx hb dX1_firstUnsafe_71 (by decide) ?_
        refine lv_iload_n hx hb dX1_firstUnsafe_74 rfl (lv_at hl 3 rfl) ?_
        refine lv_imul hx hb dX1_firstUnsafe_75 ?_
        refine lv_topi (fun z_15 ez_15 => ?_)
        have e_z_15 : z_15.toInt = 1000 * pl.toInt := i_mul ez_15 (by decide) rfl (by omega) (by omega)
        refine lv_bipush (v := 100) hx hb dX1_firstUnsafe_76 (by decide) ?_
        refine lv_iload hx hb dX1_firstUnsafe_78 (lv_at hl 1 rfl) ?_
        refine lv_imul hx hb dX1_firstUnsafe_80 ?_
        refine lv_topi (fun z_16 ez_16 => ?_)
        have e_z_16 : z_16.toInt = 100 * gp.toInt := i_mul ez_16 (by decide) rfl (by omega) (by omega)
        refine lv_iadd hx hb dX1_firstUnsafe_81 ?_
        refine lv_topi (fun z_17 ez_17 => ?_)
        have e_z_17 : z_17.toInt = z_15.toInt + z_16.toInt := i_add ez_17 rfl rfl (by omega) (by omega)
        refine lv_iload hx hb dX1_firstUnsafe_82 (lv_at hl 0 rfl) ?_
        refine lv_iadd hx hb dX1_firstUnsafe_84 ?_
        refine lv_topi (fun z_18 ez_18 => ?_)
        have e_z_18 : z_18.toInt = z_17.toInt + f.toInt := i_add ez_18 rfl rfl (by omega) (by omega)
        exact t_iret hB hr hT (Nat.le_of_ble_eq_true rfl) (Nat.le_of_ble_eq_true rfl) dX1_firstUnsafe_85 ⟨z_18, rfl, hI, hE, hM⟩
set_option maxHeartbeats 4000000 in
set_option maxRecDepth 100000 in
theorem lt_s_firstUnsafe_b (l : Launch) (D : va_G) (cI cZ cS cR : ClassId) (N0 : NT) (g : GS) (h : Nat) (o : Nat) (x1 : Int32) (r_h : g.1 h = 2) (r_o : g.1 o = 1) {p : Program} {e : Env} {s : State} {m : MethodId} {args : Array Value} {below : List Frame} {meth : Method} {c : Code} (hB : Tz p s m meth c args cX1_firstUnsafe 7 RX1 D cI cZ cS cR N0) (hr : meth.sig.returnType = (some .int)) (mf : Int32) (pl : Int32) (u_mf : mf.toInt ≤ 5) (l_pl : 0 ≤ pl.toInt) (u_pl : pl.toInt ≤ 5) (K : ∀ (g1 : GS)   (H : Heap) (locs : List Loc) (ls : Array Slot), Tv D cI cZ cS cR N0 s.heap H locs g1 → Inv g1 → Ex g g1 → Sm md_s_firstUnsafe g g1 → lv_has ls 7 [(3, .int pl), (0, .ref h), (1, .ref o), (2, .int x1)] → W p l e (rmx 15 0 0) s m args below meth c H locs 0 0 (MQ below (tQ D cI cZ cS cR N0 (fun v g' => ∃ (r : Int32), v = some (.int r) ∧ Inv g' ∧ Ex g g' ∧ Sm md_s_firstUnsafe g g')) args s 0 0 (fun q => N0.1 ≤ q)) (F0 m 98 ls [])) : ∀ (kf : Nat) (g1 : GS) (gp : Int32)  (H : Heap) (locs : List Loc) (ls : Array Slot), Tv D cI cZ cS cR N0 s.heap H locs g1 → Inv g1 → Ex g g1 → Sm md_s_firstUnsafe g g1 → 0 ≤ gp.toInt → gp.toInt ≤ 6 → (6 ≤ gp.toInt + kf) → lv_has ls 7 [(5, .int gp), (4, .int mf), (3, .int pl), (0, .ref h), (1, .ref o), (2, .int x1)] → W p l e (rmx 15 0 0) s m args below meth c H locs 0 0 (MQ below (tQ D cI cZ cS cR N0 (fun v g' => ∃ (r : Int32), v = some (.int r) ∧ Inv g' ∧ Ex g g' ∧ Sm md_s_firstUnsafe g g')) args s 0 0 (fun q => N0.1 ≤ q)) (F0 m 30 ls []) := by
  have hx := hB.1
  have hb := hB.2.1
  intro kf
  induction kf using Nat.strongRecOn with
  | ind kf ih =>
    intro g1 gp H locs ls hT hI hE hM l_gp u_gp hk hl
    have r_1 : g1.1 h = 2 := Ex.r hE r_h (by decide)
    have r_2 : g1.1 o = 1 := Ex.r hE r_o (by decide)
    refine lv_iload hx hb dX1_firstUnsafe_30 (lv_at hl 0 rfl) ?_
    refine lv_aload_n hx hb dX1_firstUnsafe_32 rfl (lv_at hl 4 rfl) ?_
    obtain ⟨v_3, e_v_3, l_v_3, u_v_3⟩ := f_1_3 hI r_2
    refine t_get (ci := 0) (v := .int v_3) hB hT (ro_ci r_2 rfl) rfl 3 (by decide) k_254 e_v_3 dX1_firstUnsafe_33 ?_
    refine lv_iload_n hx hb dX1_firstUnsafe_36 rfl (lv_at hl 2 rfl) ?_
    refine lv_isub hx hb dX1_firstUnsafe_37 ?_
    refine lv_topi (fun z_4 ez_4 => ?_)
    have e_z_4 : z_4.toInt = v_3.toInt - pl.toInt := i_sub ez_4 rfl rfl (by omega) (by omega)
    refine lv_icmp_ge (tgt := 98) hx hb dX1_firstUnsafe_38 (by decide) (fun c_5 => ?_) (fun c_5 => ?_)
    · have c_5' : z_4.toInt ≤ gp.toInt := i_le c_5 rfl rfl
      exact K g1 H locs ls hT hI hE hM (lv_sub hl [2, 3, 4, 5] rfl)
    · have c_5' : gp.toInt < z_4.toInt := i_nle c_5 rfl rfl
      refine lv_iconst (v := 0) hx hb dX1_firstUnsafe_41 (by decide) ?_
      refine lv_istore (lv' := [(6, .int 0), (5, .int gp), (4, .int mf), (3, .int pl), (0, .ref h), (1, .ref o), (2, .int x1)]) hx hb dX1_firstUnsafe_42 hl (by decide) rfl (fun ls hl => ?_)
      refine lt_s_firstUnsafe_c l D cI cZ cS cR N0 g h o x1 r_h r_o hB hr gp mf pl (by omega) (by omega) (by omega) (by omega) (by omega) (fun g1_b_6 H locs ls hT hI hE hM hl => ?_) 6 g1 (0 : Int32) H locs ls hT hI hE hM (by decide) (by decide) (by have e0_ : (0 : Int32).toInt = 0 := (by decide); omega) (lv_sub hl [0, 1, 2, 3, 4, 5, 6] rfl)
      have r_7 : g1_b_6.1 h = 2 := Ex.r hE r_h (by decide)
      have r_8 : g1_b_6.1 o = 1 := Ex.r hE r_o (by decide)
      obtain ⟨z_9, ez_9⟩ : ∃ z : Int32, z = gp + 1 := ⟨_, rfl⟩
      have e_z_9 : z_9.toInt = gp.toInt + 1 := i_add ez_9 rfl (by decide) (by omega) (by omega)
      refine lv_iinc (v := z_9) (lv' := [(5, .int z_9), (4, .int mf), (3, .int pl), (0, .ref h), (1, .ref o), (2, .int x1)]) hx hb dX1_firstUnsafe_92 hl (k := 0) rfl (by rw [ez_9]; rfl) (by decide) rfl (fun ls hl => ?_)
      refine lv_goto (tgt := 30) hx hb dX1_firstUnsafe_95 (by decide) ?_
      exact ih (kf - 1) (by omega) g1_b_6 z_9 H locs ls hT hI hE hM (by omega) (by omega) (by have e0_ : (0 : Int32).toInt = 0 := (by decide); omega) (lv_sub hl [0, 1, 2, 3, 4, 5] rfl)
set_option maxHeartbeats 4000000 in
set_option maxRecDepth 100000 in
theorem lt_s_firstUnsafe_a (l : Launch) (D : va_G) (cI cZ cS cR : ClassId) (N0 : NT) (g : GS) (h : Nat) (o : Nat) (x1 : Int32) (r_h : g.1 h = 2) (r_o : g.1 o = 1) {p : Program} {e : Env} {s : State} {m : MethodId} {args : Array Value} {below : List Frame} {meth : Method} {c : Code} (hB : Tz p s m meth c args cX1_firstUnsafe 7 RX1 D cI cZ cS cR N0) (hr : meth.sig.returnType = (some .int))    : ∀ (kf : Nat) (g1 : GS) (pl : Int32)  (H : Heap) (locs : List Loc) (ls : Array Slot), Tv D cI cZ cS cR N0 s.heap H locs g1 → Inv g1 → Ex g g1 → Sm md_s_firstUnsafe g g1 → 0 ≤ pl.toInt → pl.toInt ≤ 6 → (6 ≤ pl.toInt + kf) → lv_has ls 7 [(3, .int pl), (0, .ref h), (1, .ref o), (2, .int x1)] → W p l e (rmx 15 0 0) s m args below meth c H locs 0 0 (MQ below (tQ D cI cZ cS cR N0 (fun v g' => ∃ (r : Int32), v = some (.int r) ∧ Inv g' ∧ Ex g g' ∧ Sm md_s_firstUnsafe g g')) args s 0 0 (fun q => N0.1 ≤ q)) (F0 m 7 ls []) := by
  have hx := hB.1
  have hb := hB.2.1
  intro kf
  induction kf using Nat.strongRecOn with
  | ind kf ih =>
    intro g1 pl H locs ls hT hI hE hM l_pl u_pl hk hl
    have r_1 : g1.1 h = 2 := Ex.r hE r_h (by decide)
    have r_2 : g1.1 o = 1 := Ex.r hE r_o (by decide)
    refine lv_iload_n hx hb dX1_firstUnsafe_7 rfl (lv_at hl 0 rfl) ?_
    refine lv_aload_n hx hb dX1_firstUnsafe_8 rfl (lv_at hl 2 rfl) ?_
    obtain ⟨v_3, e_v_3, l_v_3, u_v_3⟩ := f_1_3 hI r_2
    refine t_get (ci := 0) (v := .int v_3) hB hT (ro_ci r_2 rfl) rfl 3 (by decide) k_254 e_v_3 dX1_firstUnsafe_9 ?_
    refine lv_icmp_ge (tgt := 104) hx hb dX1_firstUnsafe_12 (by decide) (fun c_4 => ?_) (fun c_4 => ?_)
    · have c_4' : v_3.toInt ≤ pl.toInt := i_le c_4 rfl rfl
      refine lv_iconst (v := (-1)) hx hb dX1_firstUnsafe_104 (by decide) ?_
      exact t_iret hB hr hT (Nat.le_of_ble_eq_true rfl) (Nat.le_of_ble_eq_true rfl) dX1_firstUnsafe_105 ⟨(-1), rfl, hI, hE, hM⟩
    · have c_4' : pl.toInt < v_3.toInt := i_nle c_4 rfl rfl
      refine lv_iconst (v := 5) hx hb dX1_firstUnsafe_15 (by decide) ?_
      refine lv_aload_n hx hb dX1_firstUnsafe_16 rfl (lv_at hl 1 rfl) ?_
      obtain ⟨v_5, e_v_5, r_v_5, n_v_5⟩ := f_2_4 hI r_1
      refine t_get (ci := 1) (v := .ref v_5) hB hT (ro_ci r_1 rfl) rfl 4 (by decide) k_281 e_v_5 dX1_firstUnsafe_17 ?_
      refine lv_iload_n hx hb dX1_firstUnsafe_20 rfl (lv_at hl 0 rfl) ?_
      have i_u_6 : vp_in pl 6 := (i_in (n := 6) rfl (by omega) (by omega))
      refine t_iald hB hT (ro_in r_v_5 (by decide)) n_v_5 i_u_6 rfl dX1_firstUnsafe_21 ?_
      refine lv_topi (fun u_6 e_u_6 => ?_)
      refine t_min hB k_628 k_560 k_63 k_561 hl.1 (Nat.le_of_ble_eq_true rfl) (Nat.le_of_ble_eq_true rfl) (Nat.le_of_ble_eq_true rfl) (Nat.le_of_ble_eq_true rfl) rfl dX1_firstUnsafe_22 ?_
      refine lv_topi (fun z_7 ez_7 => ?_)
      have e_z_7 := i_min (a := 5) (b := u_6.toInt) ez_7 (by decide) rfl
      refine lv_istore (lv' := [(4, .int z_7), (3, .int pl), (0, .ref h), (1, .ref o), (2, .int x1)]) hx hb dX1_firstUnsafe_25 hl (by decide) rfl (fun ls hl => ?_)
      refine lv_iconst (v := 0) hx hb dX1_firstUnsafe_27 (by decide) ?_
      refine lv_istore (lv' := [(5, .int 0), (4, .int z_7), (3, .int pl), (0, .ref h), (1, .ref o), (2, .int x1)]) hx hb dX1_firstUnsafe_28 hl (by decide) rfl (fun ls hl => ?_)
      refine lt_s_firstUnsafe_b l D cI cZ cS cR N0 g h o x1 r_h r_o hB hr z_7 pl (by omega) (by omega) (by omega) (fun g1_b_8 H locs ls hT hI hE hM hl => ?_) 6 g1 (0 : Int32) H locs ls hT hI hE hM (by decide) (by decide) (by have e0_ : (0 : Int32).toInt = 0 := (by decide); omega) (lv_sub hl [0, 1, 2, 3, 4, 5] rfl)
      have r_9 : g1_b_8.1 h = 2 := Ex.r hE r_h (by decide)
      have r_10 : g1_b_8.1 o = 1 := Ex.r hE r_o (by decide)
      obtain ⟨z_11, ez_11⟩ : ∃ z : Int32, z = pl + 1 := ⟨_, rfl⟩
      have e_z_11 : z_11.toInt = pl.toInt + 1 := i_add ez_11 rfl (by decide) (by omega) (by omega)
      refine lv_iinc (v := z_11) (lv' := [(3, .int z_11), (0, .ref h), (1, .ref o), (2, .int x1)]) hx hb dX1_firstUnsafe_98 hl (k := 0) rfl (by rw [ez_11]; rfl) (by decide) rfl (fun ls hl => ?_)
      refine lv_goto (tgt := 7) hx hb dX1_firstUnsafe_101 (by decide) ?_
      exact ih (kf - 1) (by omega) g1_b_8 z_11 H locs ls hT hI hE hM (by omega) (by omega) (by have e0_ : (0 : Int32).toInt = 0 := (by decide); omega) (lv_sub hl [0, 1, 2, 3] rfl)
set_option maxHeartbeats 4000000 in
set_option maxRecDepth 100000 in
theorem s_firstUnsafe (l : Launch) (D : va_G) (cI cZ cS cR : ClassId) (N0 : NT) (g : GS) (hI : Inv g) (h : Nat) (o : Nat) (x1 : Int32) (r_h : g.1 h = 2) (r_o : g.1 o = 1) : Ty l D cI cZ cS cR N0 yX1_firstUnsafe cX1_firstUnsafe 7 (some .int) 15 0 0 [.ref h, .ref o, .int x1] g (fun v g' => ∃ (r : Int32), v = some (.int r) ∧ Inv g' ∧ Ex g g' ∧ Sm md_s_firstUnsafe g g') := by
  refine t_enter (by decide) (Nat.le_of_ble_eq_true rfl) ?_
  intro p e s m args below meth c ls H locs hB hr hin hl hT
  have hx := hB.1
  have hb := hB.2.1
  have hl : lv_has ls 7 [(0, .ref h), (1, .ref o), (2, .int x1)] := hl
  have hE : Ex g g := Ex.rf
  have hM : Sm md_s_firstUnsafe g g := Sm.rf
  refine lv_aload_n hx hb dX1_firstUnsafe_0 rfl (lv_at hl 0 rfl) ?_
  refine lv_aload_n hx hb dX1_firstUnsafe_1 rfl (lv_at hl 1 rfl) ?_
  refine t_callV (n := 1) (As := [.ref o]) (rest := []) (ci := 1) hB hT hl.1 (s_runOnce l D cI cZ cS cR N0 g hI h o r_h r_o) (ro_ci r_h rfl) rfl k_593 k_64 k_627 k_591 k_592 (by decide +kernel) ⟨(Nat.le_of_ble_eq_true rfl), (Nat.le_of_ble_eq_true rfl)⟩ rfl (Nat.le_of_ble_eq_true rfl) ⟨(Nat.le_of_ble_eq_true rfl), (Nat.le_of_ble_eq_true rfl)⟩ dX1_firstUnsafe_2 (fun v g_1 H locs hp hT => ?_)
  obtain ⟨rfl, hI, x_3, m_2⟩ := hp
  have hM : Sm md_s_firstUnsafe g g_1 := hM.tr hE (m_2.mo (fun r k h => mdle_s_firstUnsafe_s_runOnce h))
  have hE : Ex g g_1 := hE.tr x_3
  have r_4 : g_1.1 h = 2 := (Ex.r x_3 r_h (by decide))
  have r_5 : g_1.1 o = 1 := (Ex.r x_3 r_o (by decide))
  refine W.eq (g2 := F0 m 5 ls []) rfl ?_
  refine lv_iconst (v := 0) hx hb dX1_firstUnsafe_5 (by decide) ?_
  refine lv_istore_n (lv' := [(3, .int 0), (0, .ref h), (1, .ref o), (2, .int x1)]) hx hb dX1_firstUnsafe_6 rfl hl (by decide) rfl (fun ls hl => ?_)
  exact lt_s_firstUnsafe_a l D cI cZ cS cR N0 g h o x1 r_h r_o hB hr   6 g_1 (0 : Int32) H locs ls hT hI hE hM (by decide) (by decide) (by have e0_ : (0 : Int32).toInt = 0 := (by decide); omega) (lv_sub hl [0, 1, 2, 3] rfl)
abbrev md_s_power : Nat → Nat → Bool := mdf []
set_option maxHeartbeats 4000000 in
set_option maxRecDepth 100000 in
theorem lt_s_power_a (l : Launch) (D : va_G) (cI cZ cS cR : ClassId) (N0 : NT) (g : GS) (n : Int32) (k : Int32)  {p : Program} {e : Env} {s : State} {m : MethodId} {args : Array Value} {below : List Frame} {meth : Method} {c : Code} (hB : Tz p s m meth c args cX1_power 4 RX1 D cI cZ cS cR N0) (hr : meth.sig.returnType = (some .int))    : ∀ (kf : Nat) (i : Int32) (v : Int32)  (H : Heap) (locs : List Loc) (ls : Array Slot), Tv D cI cZ cS cR N0 s.heap H locs g → Inv g → Ex g g → Sm md_s_power g g → 0 ≤ i.toInt → i.toInt ≤ 2147483647 → (2147483648 ≤ i.toInt + kf) → lv_has ls 4 [(3, .int i), (2, .int v), (0, .int n), (1, .int k)] → W p l e (rmx 0 0 0) s m args below meth c H locs 0 0 (MQ below (tQ D cI cZ cS cR N0 (fun v g' => ∃ (r : Int32), v = some (.int r) ∧ g' = g)) args s 0 0 (fun q => N0.1 ≤ q)) (F0 m 4 ls []) := by
  have hx := hB.1
  have hb := hB.2.1
  intro kf
  induction kf using Nat.strongRecOn with
  | ind kf ih =>
    intro i v H locs ls hT hI hE hM l_i u_i hk hl
    have rg := i_rng k
    refine lv_iload_n hx hb dX1_power_4 rfl (lv_at hl 0 rfl) ?_
    refine lv_iload_n hx hb dX1_power_5 rfl (lv_at hl 3 rfl) ?_
    refine lv_icmp_ge (tgt := 19) hx hb dX1_power_6 (by decide) (fun c_1 => ?_) (fun c_1 => ?_)
    · have c_1' : k.toInt ≤ i.toInt := i_le c_1 rfl rfl
      refine lv_iload_n hx hb dX1_power_19 rfl (lv_at hl 1 rfl) ?_
      exact t_iret hB hr hT (Nat.le_of_ble_eq_true rfl) (Nat.le_of_ble_eq_true rfl) dX1_power_20 ⟨v, rfl, rfl⟩
    · have c_1' : i.toInt < k.toInt := i_nle c_1 rfl rfl
      refine lv_iload_n hx hb dX1_power_9 rfl (lv_at hl 1 rfl) ?_
      refine lv_iload_n hx hb dX1_power_10 rfl (lv_at hl 2 rfl) ?_
      refine lv_imul hx hb dX1_power_11 ?_
      refine lv_topi (fun z_2 ez_2 => ?_)
      refine lv_istore_n (lv' := [(2, .int z_2), (3, .int i), (0, .int n), (1, .int k)]) hx hb dX1_power_12 rfl hl (by decide) rfl (fun ls hl => ?_)
      obtain ⟨z_3, ez_3⟩ : ∃ z : Int32, z = i + 1 := ⟨_, rfl⟩
      have e_z_3 : z_3.toInt = i.toInt + 1 := i_add ez_3 rfl (by decide) (by omega) (by omega)
      refine lv_iinc (v := z_3) (lv' := [(3, .int z_3), (2, .int z_2), (0, .int n), (1, .int k)]) hx hb dX1_power_13 hl (k := 1) rfl (by rw [ez_3]; rfl) (by decide) rfl (fun ls hl => ?_)
      refine lv_goto (tgt := 4) hx hb dX1_power_16 (by decide) ?_
      exact ih (kf - 1) (by omega) z_3 z_2 H locs ls hT hI hE hM (by omega) (by omega) (by have e0_ : (0 : Int32).toInt = 0 := (by decide); omega) (lv_sub hl [0, 1, 2, 3] rfl)
set_option maxHeartbeats 4000000 in
set_option maxRecDepth 100000 in
theorem s_power (l : Launch) (D : va_G) (cI cZ cS cR : ClassId) (N0 : NT) (g : GS) (hI : Inv g) (n : Int32) (k : Int32)  : Ty l D cI cZ cS cR N0 yX1_power cX1_power 4 (some .int) 0 0 0 [.int n, .int k] g (fun v g' => ∃ (r : Int32), v = some (.int r) ∧ g' = g) := by
  refine t_enter (by decide) (Nat.le_of_ble_eq_true rfl) ?_
  intro p e s m args below meth c ls H locs hB hr hin hl hT
  have hx := hB.1
  have hb := hB.2.1
  have hl : lv_has ls 4 [(0, .int n), (1, .int k)] := hl
  have hE : Ex g g := Ex.rf
  have hM : Sm md_s_power g g := Sm.rf
  refine lv_iconst (v := 1) hx hb dX1_power_0 (by decide) ?_
  refine lv_istore_n (lv' := [(2, .int 1), (0, .int n), (1, .int k)]) hx hb dX1_power_1 rfl hl (by decide) rfl (fun ls hl => ?_)
  refine lv_iconst (v := 0) hx hb dX1_power_2 (by decide) ?_
  refine lv_istore_n (lv' := [(3, .int 0), (2, .int 1), (0, .int n), (1, .int k)]) hx hb dX1_power_3 rfl hl (by decide) rfl (fun ls hl => ?_)
  exact lt_s_power_a l D cI cZ cS cR N0 g n k  hB hr   2147483648 (0 : Int32) (1 : Int32) H locs ls hT hI hE hM (by decide) (by decide) (by have e0_ : (0 : Int32).toInt = 0 := (by decide); have e1_ : (1 : Int32).toInt = 1 := (by decide); omega) (lv_sub hl [0, 1, 2, 3] rfl)
abbrev md_s_isOrder : Nat → Nat → Bool := mdf [(50, 99), (52, 99)]
set_option maxHeartbeats 4000000 in
set_option maxRecDepth 100000 in
theorem lt_s_isOrder_b (l : Launch) (D : va_G) (cI cZ cS cR : ClassId) (N0 : NT) (g : GS) (h : Nat) (n : Int32) (k : Int32) (j : Int32) (r_h : g.1 h = 2) (l_n : 0 ≤ n.toInt) {p : Program} {e : Env} {s : State} {m : MethodId} {args : Array Value} {below : List Frame} {meth : Method} {c : Code} (hB : Tz p s m meth c args cX1_isOrder 7 RX1 D cI cZ cS cR N0) (hr : meth.sig.returnType = (some .boolean))    : ∀ (kf : Nat) (g1 : GS) (i : Int32) (rs : Int32) (le : Int32)  (H : Heap) (locs : List Loc) (ls : Array Slot), Tv D cI cZ cS cR N0 s.heap H locs g1 → Inv g1 → Ex g g1 → Sm md_s_isOrder g g1 → 0 ≤ i.toInt → i.toInt ≤ 5 → 0 ≤ rs.toInt → rs.toInt ≤ 2147483647 → 1 ≤ le.toInt → le.toInt ≤ 5 → (1 ≤ k.toInt ∧ k.toInt ≤ 4) → (5 ≤ i.toInt + kf) → lv_has ls 7 [(6, .int i), (5, .int rs), (4, .int le), (0, .ref h), (1, .int n), (2, .int k), (3, .int j)] → W p l e (rmx 0 0 0) s m args below meth c H locs 0 0 (MQ below (tQ D cI cZ cS cR N0 (fun v g' => ∃ (r : Int32), v = some (.int r) ∧ Inv g' ∧ Ex g g' ∧ Sm md_s_isOrder g g' ∧ ((r = 1 ∧ 1 ≤ k.toInt ∧ k.toInt ≤ 4) ∨ r = 0))) args s 0 0 (fun q => N0.1 ≤ q)) (F0 m 65 ls []) := by
  have hx := hB.1
  have hb := hB.2.1
  intro kf
  induction kf using Nat.strongRecOn with
  | ind kf ih =>
    intro g1 i rs le H locs ls hT hI hE hM l_i u_i l_rs u_rs l_le u_le en hk hl
    have r_1 : g1.1 h = 2 := Ex.r hE r_h (by decide)
    have rgn := i_rng n
    refine lv_iload hx hb dX1_isOrder_65 (lv_at hl 0 rfl) ?_
    refine lv_iload hx hb dX1_isOrder_67 (lv_at hl 2 rfl) ?_
    refine lv_icmp_ge (tgt := 128) hx hb dX1_isOrder_69 (by decide) (fun c_2 => ?_) (fun c_2 => ?_)
    · have c_2' : le.toInt ≤ i.toInt := i_le c_2 rfl rfl
      refine lv_iconst (v := 1) hx hb dX1_isOrder_128 (by decide) ?_
      exact t_zret hB hr rfl hT (Nat.le_of_ble_eq_true rfl) (Nat.le_of_ble_eq_true rfl) dX1_isOrder_129 ⟨1, rfl, hI, hE, hM, (Or.inl ⟨rfl, by omega, by omega⟩)⟩
    · have c_2' : i.toInt < le.toInt := i_nle c_2 rfl rfl
      refine lv_aload_n hx hb dX1_isOrder_72 rfl (lv_at hl 3 rfl) ?_
      obtain ⟨v_3, e_v_3, r_v_3, n_v_3⟩ := f_2_8 hI r_1
      refine t_get (ci := 1) (v := .ref v_3) hB hT (ro_ci r_1 rfl) rfl 8 (by decide) k_285 e_v_3 dX1_isOrder_73 ?_
      refine lv_iload hx hb dX1_isOrder_76 (lv_at hl 0 rfl) ?_
      refine lv_iload hx hb dX1_isOrder_78 (lv_at hl 1 rfl) ?_
      refine lv_iload_n hx hb dX1_isOrder_80 rfl (lv_at hl 5 rfl) ?_
      refine lv_irem hx hb dX1_isOrder_81 (fun q => by have := i_eq q rfl z0; omega) ?_
      refine lv_topi (fun z_4 ez_4 => ?_)
      have e_z_4 := i_rem (a := rs.toInt) (b := k.toInt) ez_4 rfl rfl (by omega) (by omega)
      have i_5 : vp_in i 5 := (i_in (n := 5) rfl (by omega) (by omega))
      refine t_iast hB hT (ro_in r_v_3 (by decide)) n_v_3 i_5 dX1_isOrder_82 (fun H locs hT => ?_)
      have hI : Inv (sC g1 v_3 i.toNatClampNeg z_4) := hI.sC (ck r_v_3 ⟨by omega, by omega⟩)
      have hM : Sm md_s_isOrder g (sC g1 v_3 i.toNatClampNeg z_4) := hM.tr hE (Sm_sC (by rw [r_v_3]; rfl))
      have hE : Ex g (sC g1 v_3 i.toNatClampNeg z_4) := hE
      refine lv_iload hx hb dX1_isOrder_83 (lv_at hl 1 rfl) ?_
      refine lv_iload_n hx hb dX1_isOrder_85 rfl (lv_at hl 5 rfl) ?_
      refine lv_idiv hx hb dX1_isOrder_86 (fun q => by have := i_eq q rfl z0; omega) ?_
      refine lv_topi (fun z_6 ez_6 => ?_)
      have e_z_6 := i_div (a := rs.toInt) (b := k.toInt) ez_6 rfl rfl (by omega) (by omega)
      refine lv_istore (lv' := [(5, .int z_6), (6, .int i), (4, .int le), (0, .ref h), (1, .int n), (2, .int k), (3, .int j)]) hx hb dX1_isOrder_87 hl (by decide) rfl (fun ls hl => ?_)
      refine lv_aload_n hx hb dX1_isOrder_89 rfl (lv_at hl 3 rfl) ?_
      obtain ⟨v_7, e_v_7, r_v_7, n_v_7⟩ := f_2_9 hI r_1
      refine t_get (ci := 1) (v := .ref v_7) hB hT (ro_ci r_1 rfl) rfl 9 (by decide) k_286 e_v_7 dX1_isOrder_90 ?_
      refine lv_aload_n hx hb dX1_isOrder_93 rfl (lv_at hl 3 rfl) ?_
      refine t_get (ci := 1) (v := .ref v_3) hB hT (ro_ci r_1 rfl) rfl 8 (by decide) k_285 e_v_3 dX1_isOrder_94 ?_
      refine lv_iload hx hb dX1_isOrder_97 (lv_at hl 1 rfl) ?_
      have i_u_8 : vp_in i 5 := (i_in (n := 5) rfl (by omega) (by omega))
      refine t_iald (v := z_4) hB hT (ro_in r_v_3 (by decide)) n_v_3 i_u_8 sC_eq dX1_isOrder_99 ?_
      refine lv_dup2_11 hx hb dX1_isOrder_100 rfl rfl ?_
      have i_u_9 : vp_in z_4 4 := (i_in (n := 4) rfl (by omega) (by omega))
      refine t_iald hB hT (ro_in r_v_7 (by decide)) n_v_7 i_u_9 rfl dX1_isOrder_101 ?_
      refine lv_topi (fun u_9 e_u_9 => ?_)
      refine lv_iconst (v := 1) hx hb dX1_isOrder_102 (by decide) ?_
      refine lv_isub hx hb dX1_isOrder_103 ?_
      refine lv_topi (fun z_10 ez_10 => ?_)
      have i_11 : vp_in z_4 4 := (i_in (n := 4) rfl (by omega) (by omega))
      refine t_iast hB hT (ro_in r_v_7 (by decide)) n_v_7 i_11 dX1_isOrder_104 (fun H locs hT => ?_)
      have hI : Inv (sC (sC g1 v_3 i.toNatClampNeg z_4) v_7 z_4.toNatClampNeg z_10) := hI.sC (ck r_v_7 trivial)
      have hM : Sm md_s_isOrder g (sC (sC g1 v_3 i.toNatClampNeg z_4) v_7 z_4.toNatClampNeg z_10) := hM.tr hE (Sm_sC (by rw [r_v_7]; rfl))
      have hE : Ex g (sC (sC g1 v_3 i.toNatClampNeg z_4) v_7 z_4.toNatClampNeg z_10) := hE
      refine lv_aload_n hx hb dX1_isOrder_105 rfl (lv_at hl 3 rfl) ?_
      refine t_get (ci := 1) (v := .ref v_7) hB hT (ro_ci r_1 rfl) rfl 9 (by decide) k_286 e_v_7 dX1_isOrder_106 ?_
      refine lv_aload_n hx hb dX1_isOrder_109 rfl (lv_at hl 3 rfl) ?_
      refine t_get (ci := 1) (v := .ref v_3) hB hT (ro_ci r_1 rfl) rfl 8 (by decide) k_285 e_v_3 dX1_isOrder_110 ?_
      refine lv_iload hx hb dX1_isOrder_113 (lv_at hl 1 rfl) ?_
      have i_u_12 : vp_in i 5 := (i_in (n := 5) rfl (by omega) (by omega))
      refine t_iald (v := z_4) hB hT (ro_in r_v_3 (by decide)) n_v_3 i_u_12 (sC_a sC_eq (ro_ne r_v_3 r_v_7 (by decide))) dX1_isOrder_115 ?_
      have i_u_13 : vp_in z_4 4 := (i_in (n := 4) rfl (by omega) (by omega))
      refine t_iald (v := z_10) hB hT (ro_in r_v_7 (by decide)) n_v_7 i_u_13 sC_eq dX1_isOrder_116 ?_
      refine lv_if_ge (tgt := 122) hx hb dX1_isOrder_117 (by decide) (fun c_14 => ?_) (fun c_14 => ?_)
      · have c_14' : 0 ≤ z_10.toInt := i_le c_14 (by decide) rfl
        obtain ⟨z_15, ez_15⟩ : ∃ z : Int32, z = i + 1 := ⟨_, rfl⟩
        have e_z_15 : z_15.toInt = i.toInt + 1 := i_add ez_15 rfl (by decide) (by omega) (by omega)
        refine lv_iinc (v := z_15) (lv' := [(6, .int z_15), (5, .int z_6), (4, .int le), (0, .ref h), (1, .int n), (2, .int k), (3, .int j)]) hx hb dX1_isOrder_122 hl (k := 1) rfl (by rw [ez_15]; rfl) (by decide) rfl (fun ls hl => ?_)
        refine lv_goto (tgt := 65) hx hb dX1_isOrder_125 (by decide) ?_
        exact ih (kf - 1) (by omega) (sC (sC g1 v_3 i.toNatClampNeg z_4) v_7 z_4.toNatClampNeg z_10) z_15 z_6 le H locs ls hT hI hE hM (by omega) (by omega) (by omega) (by omega) (by omega) (by omega) ⟨by omega, by omega⟩ (by have e0_ : (0 : Int32).toInt = 0 := (by decide); omega) (lv_sub hl [0, 1, 2, 3, 4, 5, 6] rfl)
      · have c_14' : z_10.toInt < 0 := i_nle c_14 (by decide) rfl
        refine lv_iconst (v := 0) hx hb dX1_isOrder_120 (by decide) ?_
        exact t_zret hB hr rfl hT (Nat.le_of_ble_eq_true rfl) (Nat.le_of_ble_eq_true rfl) dX1_isOrder_121 ⟨0, rfl, hI, hE, hM, (Or.inr rfl)⟩
set_option maxHeartbeats 4000000 in
set_option maxRecDepth 100000 in
theorem lt_s_isOrder_a (l : Launch) (D : va_G) (cI cZ cS cR : ClassId) (N0 : NT) (g : GS) (h : Nat) (n : Int32) (k : Int32) (j : Int32) (r_h : g.1 h = 2) (l_n : 0 ≤ n.toInt) {p : Program} {e : Env} {s : State} {m : MethodId} {args : Array Value} {below : List Frame} {meth : Method} {c : Code} (hB : Tz p s m meth c args cX1_isOrder 7 RX1 D cI cZ cS cR N0) (hr : meth.sig.returnType = (some .boolean))    : ∀ (kf : Nat) (g1 : GS) (i : Int32)  (H : Heap) (locs : List Loc) (ls : Array Slot), Tv D cI cZ cS cR N0 s.heap H locs g1 → Inv g1 → Ex g g1 → Sm md_s_isOrder g g1 → 0 ≤ i.toInt → i.toInt ≤ 4 → (1 ≤ k.toInt ∧ k.toInt ≤ 4) → (4 ≤ i.toInt + kf) → lv_has ls 7 [(4, .int i), (0, .ref h), (1, .int n), (2, .int k), (3, .int j)] → W p l e (rmx 0 0 0) s m args below meth c H locs 0 0 (MQ below (tQ D cI cZ cS cR N0 (fun v g' => ∃ (r : Int32), v = some (.int r) ∧ Inv g' ∧ Ex g g' ∧ Sm md_s_isOrder g g' ∧ ((r = 1 ∧ 1 ≤ k.toInt ∧ k.toInt ≤ 4) ∨ r = 0))) args s 0 0 (fun q => N0.1 ≤ q)) (F0 m 15 ls []) := by
  have hx := hB.1
  have hb := hB.2.1
  intro kf
  induction kf using Nat.strongRecOn with
  | ind kf ih =>
    intro g1 i H locs ls hT hI hE hM l_i u_i en hk hl
    have r_1 : g1.1 h = 2 := Ex.r hE r_h (by decide)
    have rgn := i_rng n
    refine lv_iload hx hb dX1_isOrder_15 (lv_at hl 0 rfl) ?_
    refine lv_iload_n hx hb dX1_isOrder_17 rfl (lv_at hl 3 rfl) ?_
    refine lv_icmp_ge (tgt := 45) hx hb dX1_isOrder_18 (by decide) (fun c_2 => ?_) (fun c_2 => ?_)
    · have c_2' : k.toInt ≤ i.toInt := i_le c_2 rfl rfl
      refine lv_iload_n hx hb dX1_isOrder_45 rfl (lv_at hl 4 rfl) ?_
      refine lv_iconst (v := (-1)) hx hb dX1_isOrder_46 (by decide) ?_
      refine lv_icmp_ne (tgt := 54) hx hb dX1_isOrder_47 (by decide) (fun c_3 => ?_) (fun c_3 => ?_)
      · have c_3' : j.toInt ≠ (-1) := i_ne c_3 rfl (by decide)
        refine lv_iload_n hx hb dX1_isOrder_54 rfl (lv_at hl 3 rfl) ?_
        refine lv_iconst (v := 1) hx hb dX1_isOrder_55 (by decide) ?_
        refine lv_iadd hx hb dX1_isOrder_56 ?_
        refine lv_topi (fun z_4 ez_4 => ?_)
        have e_z_4 : z_4.toInt = k.toInt + 1 := i_add ez_4 rfl (by decide) (by omega) (by omega)
        refine lv_istore (lv' := [(4, .int z_4), (0, .ref h), (1, .int n), (2, .int k), (3, .int j)]) hx hb dX1_isOrder_57 hl (by decide) rfl (fun ls hl => ?_)
        refine lv_iload_n hx hb dX1_isOrder_59 rfl (lv_at hl 2 rfl) ?_
        refine lv_istore (lv' := [(5, .int n), (4, .int z_4), (0, .ref h), (1, .int n), (2, .int k), (3, .int j)]) hx hb dX1_isOrder_60 hl (by decide) rfl (fun ls hl => ?_)
        refine lv_iconst (v := 0) hx hb dX1_isOrder_62 (by decide) ?_
        refine lv_istore (lv' := [(6, .int 0), (5, .int n), (4, .int z_4), (0, .ref h), (1, .int n), (2, .int k), (3, .int j)]) hx hb dX1_isOrder_63 hl (by decide) rfl (fun ls hl => ?_)
        exact lt_s_isOrder_b l D cI cZ cS cR N0 g h n k j r_h l_n hB hr   5 g1 (0 : Int32) n z_4 H locs ls hT hI hE hM (by decide) (by decide) (by omega) (by omega) (by omega) (by omega) ⟨by omega, by omega⟩ (by have e0_ : (0 : Int32).toInt = 0 := (by decide); omega) (lv_sub hl [0, 1, 2, 3, 4, 5, 6] rfl)
      · have c_3' : j.toInt = (-1) := i_eq c_3 rfl (by decide)
        refine lv_iload_n hx hb dX1_isOrder_50 rfl (lv_at hl 3 rfl) ?_
        refine lv_goto (tgt := 57) hx hb dX1_isOrder_51 (by decide) ?_
        refine lv_istore (lv' := [(4, .int k), (0, .ref h), (1, .int n), (2, .int k), (3, .int j)]) hx hb dX1_isOrder_57 hl (by decide) rfl (fun ls hl => ?_)
        refine lv_iload_n hx hb dX1_isOrder_59 rfl (lv_at hl 2 rfl) ?_
        refine lv_istore (lv' := [(5, .int n), (4, .int k), (0, .ref h), (1, .int n), (2, .int k), (3, .int j)]) hx hb dX1_isOrder_60 hl (by decide) rfl (fun ls hl => ?_)
        refine lv_iconst (v := 0) hx hb dX1_isOrder_62 (by decide) ?_
        refine lv_istore (lv' := [(6, .int 0), (5, .int n), (4, .int k), (0, .ref h), (1, .int n), (2, .int k), (3, .int j)]) hx hb dX1_isOrder_63 hl (by decide) rfl (fun ls hl => ?_)
        exact lt_s_isOrder_b l D cI cZ cS cR N0 g h n k j r_h l_n hB hr   5 g1 (0 : Int32) n k H locs ls hT hI hE hM (by decide) (by decide) (by omega) (by omega) (by omega) (by omega) ⟨by omega, by omega⟩ (by have e0_ : (0 : Int32).toInt = 0 := (by decide); omega) (lv_sub hl [0, 1, 2, 3, 4, 5, 6] rfl)
    · have c_2' : i.toInt < k.toInt := i_nle c_2 rfl rfl
      refine lv_aload_n hx hb dX1_isOrder_21 rfl (lv_at hl 1 rfl) ?_
      obtain ⟨v_5, e_v_5, r_v_5, n_v_5⟩ := f_2_9 hI r_1
      refine t_get (ci := 1) (v := .ref v_5) hB hT (ro_ci r_1 rfl) rfl 9 (by decide) k_286 e_v_5 dX1_isOrder_22 ?_
      refine lv_iload hx hb dX1_isOrder_25 (lv_at hl 0 rfl) ?_
      refine lv_iload hx hb dX1_isOrder_27 (lv_at hl 0 rfl) ?_
      refine lv_iload_n hx hb dX1_isOrder_29 rfl (lv_at hl 4 rfl) ?_
      refine lv_icmp_ne (tgt := 37) hx hb dX1_isOrder_30 (by decide) (fun c_6 => ?_) (fun c_6 => ?_)
      · have c_6' : i.toInt ≠ j.toInt := i_ne c_6 rfl rfl
        refine lv_iconst (v := 1) hx hb dX1_isOrder_37 (by decide) ?_
        have i_7 : vp_in i 4 := (i_in (n := 4) rfl (by omega) (by omega))
        refine t_iast hB hT (ro_in r_v_5 (by decide)) n_v_5 i_7 dX1_isOrder_38 (fun H locs hT => ?_)
        have hI : Inv (sC g1 v_5 i.toNatClampNeg (1 : Int32)) := hI.sC (ck r_v_5 trivial)
        have hM : Sm md_s_isOrder g (sC g1 v_5 i.toNatClampNeg (1 : Int32)) := hM.tr hE (Sm_sC (by rw [r_v_5]; rfl))
        have hE : Ex g (sC g1 v_5 i.toNatClampNeg (1 : Int32)) := hE
        obtain ⟨z_8, ez_8⟩ : ∃ z : Int32, z = i + 1 := ⟨_, rfl⟩
        have e_z_8 : z_8.toInt = i.toInt + 1 := i_add ez_8 rfl (by decide) (by omega) (by omega)
        refine lv_iinc (v := z_8) (lv' := [(4, .int z_8), (0, .ref h), (1, .int n), (2, .int k), (3, .int j)]) hx hb dX1_isOrder_39 hl (k := 0) rfl (by rw [ez_8]; rfl) (by decide) rfl (fun ls hl => ?_)
        refine lv_goto (tgt := 15) hx hb dX1_isOrder_42 (by decide) ?_
        exact ih (kf - 1) (by omega) (sC g1 v_5 i.toNatClampNeg (1 : Int32)) z_8 H locs ls hT hI hE hM (by omega) (by omega) ⟨by omega, by omega⟩ (by have e0_ : (0 : Int32).toInt = 0 := (by decide); omega) (lv_sub hl [0, 1, 2, 3, 4] rfl)
      · have c_6' : i.toInt = j.toInt := i_eq c_6 rfl rfl
        refine lv_iconst (v := 2) hx hb dX1_isOrder_33 (by decide) ?_
        refine lv_goto (tgt := 38) hx hb dX1_isOrder_34 (by decide) ?_
        have i_9 : vp_in i 4 := (i_in (n := 4) rfl (by omega) (by omega))
        refine t_iast hB hT (ro_in r_v_5 (by decide)) n_v_5 i_9 dX1_isOrder_38 (fun H locs hT => ?_)
        have hI : Inv (sC g1 v_5 i.toNatClampNeg (2 : Int32)) := hI.sC (ck r_v_5 trivial)
        have hM : Sm md_s_isOrder g (sC g1 v_5 i.toNatClampNeg (2 : Int32)) := hM.tr hE (Sm_sC (by rw [r_v_5]; rfl))
        have hE : Ex g (sC g1 v_5 i.toNatClampNeg (2 : Int32)) := hE
        obtain ⟨z_10, ez_10⟩ : ∃ z : Int32, z = i + 1 := ⟨_, rfl⟩
        have e_z_10 : z_10.toInt = i.toInt + 1 := i_add ez_10 rfl (by decide) (by omega) (by omega)
        refine lv_iinc (v := z_10) (lv' := [(4, .int z_10), (0, .ref h), (1, .int n), (2, .int k), (3, .int j)]) hx hb dX1_isOrder_39 hl (k := 0) rfl (by rw [ez_10]; rfl) (by decide) rfl (fun ls hl => ?_)
        refine lv_goto (tgt := 15) hx hb dX1_isOrder_42 (by decide) ?_
        exact ih (kf - 1) (by omega) (sC g1 v_5 i.toNatClampNeg (2 : Int32)) z_10 H locs ls hT hI hE hM (by omega) (by omega) ⟨by omega, by omega⟩ (by have e0_ : (0 : Int32).toInt = 0 := (by decide); omega) (lv_sub hl [0, 1, 2, 3, 4] rfl)
set_option maxHeartbeats 4000000 in
set_option maxRecDepth 100000 in
theorem s_isOrder (l : Launch) (D : va_G) (cI cZ cS cR : ClassId) (N0 : NT) (g : GS) (hI : Inv g) (h : Nat) (n : Int32) (k : Int32) (j : Int32) (r_h : g.1 h = 2) (l_n : 0 ≤ n.toInt) : Ty l D cI cZ cS cR N0 yX1_isOrder cX1_isOrder 7 (some .boolean) 0 0 0 [.ref h, .int n, .int k, .int j] g (fun v g' => ∃ (r : Int32), v = some (.int r) ∧ Inv g' ∧ Ex g g' ∧ Sm md_s_isOrder g g' ∧ ((r = 1 ∧ 1 ≤ k.toInt ∧ k.toInt ≤ 4) ∨ r = 0)) := by
  refine t_enter (by decide) (Nat.le_of_ble_eq_true rfl) ?_
  intro p e s m args below meth c ls H locs hB hr hin hl hT
  have hx := hB.1
  have hb := hB.2.1
  have hl : lv_has ls 7 [(0, .ref h), (1, .int n), (2, .int k), (3, .int j)] := hl
  have hE : Ex g g := Ex.rf
  have hM : Sm md_s_isOrder g g := Sm.rf
  refine lv_iload_n hx hb dX1_isOrder_0 rfl (lv_at hl 2 rfl) ?_
  refine lv_iconst (v := 1) hx hb dX1_isOrder_1 (by decide) ?_
  refine lv_icmp_lt (tgt := 10) hx hb dX1_isOrder_2 (by decide) (fun c_1 => ?_) (fun c_1 => ?_)
  · have c_1' : k.toInt < 1 := i_lt c_1 rfl (by decide)
    refine lv_iconst (v := 0) hx hb dX1_isOrder_10 (by decide) ?_
    exact t_zret hB hr rfl hT (Nat.le_of_ble_eq_true rfl) (Nat.le_of_ble_eq_true rfl) dX1_isOrder_11 ⟨0, rfl, hI, hE, hM, (Or.inr rfl)⟩
  · have c_1' : 1 ≤ k.toInt := i_nlt c_1 rfl (by decide)
    refine lv_iload_n hx hb dX1_isOrder_5 rfl (lv_at hl 2 rfl) ?_
    refine lv_iconst (v := 4) hx hb dX1_isOrder_6 (by decide) ?_
    refine lv_icmp_le (tgt := 12) hx hb dX1_isOrder_7 (by decide) (fun c_2 => ?_) (fun c_2 => ?_)
    · have c_2' : k.toInt ≤ 4 := i_le c_2 rfl (by decide)
      refine lv_iconst (v := 0) hx hb dX1_isOrder_12 (by decide) ?_
      refine lv_istore (lv' := [(4, .int 0), (0, .ref h), (1, .int n), (2, .int k), (3, .int j)]) hx hb dX1_isOrder_13 hl (by decide) rfl (fun ls hl => ?_)
      exact lt_s_isOrder_a l D cI cZ cS cR N0 g h n k j r_h l_n hB hr   4 g (0 : Int32) H locs ls hT hI hE hM (by decide) (by decide) ⟨by omega, by omega⟩ (by have e0_ : (0 : Int32).toInt = 0 := (by decide); omega) (lv_sub hl [0, 1, 2, 3, 4] rfl)
    · have c_2' : 4 < k.toInt := i_nle c_2 rfl (by decide)
      refine lv_iconst (v := 0) hx hb dX1_isOrder_10 (by decide) ?_
      exact t_zret hB hr rfl hT (Nat.le_of_ble_eq_true rfl) (Nat.le_of_ble_eq_true rfl) dX1_isOrder_11 ⟨0, rfl, hI, hE, hM, (Or.inr rfl)⟩
abbrev md_s_runOrder : Nat → Nat → Bool := mdf [(4, 0), (4, 2), (4, 3), (4, 4), (4, 5), (4, 10), (4, 11), (4, 14), (6, 1), (6, 2), (6, 4), (6, 5), (6, 6), (6, 7), (50, 99)]
theorem mdle_s_runOrder_s_fromOutside {r k : Nat} (h : md_s_runOrder r k = false) : md_s_fromOutside r k = false := mdf_le (by decide +kernel) h
theorem mdle_s_runOrder_s_wcopy {r k : Nat} (h : md_s_runOrder r k = false) : md_s_wcopy r k = false := mdf_le (by decide +kernel) h
set_option maxHeartbeats 4000000 in
set_option maxRecDepth 100000 in
theorem lt_s_runOrder_a (l : Launch) (D : va_G) (cI cZ cS cR : ClassId) (N0 : NT) (g : GS) (h : Nat) (o : Nat) (n : Int32) (r_h : g.1 h = 2) (r_o : g.1 o = 1) (l_n : 0 ≤ n.toInt) (u_n : n.toInt ≤ 5) {p : Program} {e : Env} {s : State} {m : MethodId} {args : Array Value} {below : List Frame} {meth : Method} {c : Code} (hB : Tz p s m meth c args cX1_runOrder 5 RX1 D cI cZ cS cR N0) (hr : meth.sig.returnType = none)    : ∀ (kf : Nat) (g1 : GS) (i : Int32)  (H : Heap) (locs : List Loc) (ls : Array Slot), Tv D cI cZ cS cR N0 s.heap H locs g1 → Inv g1 → Ex g g1 → Sm md_s_runOrder g g1 → 0 ≤ i.toInt → i.toInt ≤ 5 → (5 ≤ i.toInt + kf) → lv_has ls 5 [(3, .int i), (0, .ref h), (1, .ref o), (2, .int n)] → W p l e (rmx 14 0 0) s m args below meth c H locs 0 0 (MQ below (tQ D cI cZ cS cR N0 (fun v g' => v = none ∧ Inv g' ∧ Ex g g' ∧ Sm md_s_runOrder g g')) args s 0 0 (fun q => N0.1 ≤ q)) (F0 m 13 ls []) := by
  have hx := hB.1
  have hb := hB.2.1
  intro kf
  induction kf using Nat.strongRecOn with
  | ind kf ih =>
    intro g1 i H locs ls hT hI hE hM l_i u_i hk hl
    have r_1 : g1.1 h = 2 := Ex.r hE r_h (by decide)
    have r_2 : g1.1 o = 1 := Ex.r hE r_o (by decide)
    refine lv_iload_n hx hb dX1_runOrder_13 rfl (lv_at hl 0 rfl) ?_
    refine lv_iload_n hx hb dX1_runOrder_14 rfl (lv_at hl 3 rfl) ?_
    refine lv_icmp_ge (tgt := 62) hx hb dX1_runOrder_15 (by decide) (fun c_3 => ?_) (fun c_3 => ?_)
    · have c_3' : n.toInt ≤ i.toInt := i_le c_3 rfl rfl
      exact t_vret hB hr hT (Nat.le_of_ble_eq_true rfl) (Nat.le_of_ble_eq_true rfl) dX1_runOrder_62 ⟨rfl, hI, hE, hM⟩
    · have c_3' : i.toInt < n.toInt := i_nle c_3 rfl rfl
      refine lv_aload_n hx hb dX1_runOrder_18 rfl (lv_at hl 1 rfl) ?_
      obtain ⟨v_4, e_v_4, r_v_4, n_v_4⟩ := f_2_8 hI r_1
      refine t_get (ci := 1) (v := .ref v_4) hB hT (ro_ci r_1 rfl) rfl 8 (by decide) k_285 e_v_4 dX1_runOrder_19 ?_
      refine lv_iload_n hx hb dX1_runOrder_22 rfl (lv_at hl 0 rfl) ?_
      have i_u_5 : vp_in i 5 := (i_in (n := 5) rfl (by omega) (by omega))
      refine t_iald hB hT (ro_in r_v_4 (by decide)) n_v_4 i_u_5 rfl dX1_runOrder_23 ?_
      have c_u_5 := hI.c r_v_4 n_v_4 (i_cl i_u_5)
      refine lv_topi (fun u_5 e_u_5 => ?_)
      obtain ⟨l_u_5, u_u_5⟩ := c_u_5
      rw [← e_u_5] at l_u_5 u_u_5
      refine lv_istore (lv' := [(4, .int u_5), (3, .int i), (0, .ref h), (1, .ref o), (2, .int n)]) hx hb dX1_runOrder_24 hl (by decide) rfl (fun ls hl => ?_)
      refine lv_aload_n hx hb dX1_runOrder_26 rfl (lv_at hl 2 rfl) ?_
      obtain ⟨v_6, e_v_6, r_v_6⟩ := f_2_2 hI r_1
      refine t_get (ci := 1) (v := .ref v_6) hB hT (ro_ci r_1 rfl) rfl 2 (by decide) k_279 e_v_6 dX1_runOrder_27 ?_
      refine lv_aload_n hx hb dX1_runOrder_30 rfl (lv_at hl 3 rfl) ?_
      obtain ⟨v_7, e_v_7, r_v_7, n_v_7⟩ := f_1_0 hI r_2
      refine t_get (ci := 0) (v := .ref v_7) hB hT (ro_ci r_2 rfl) rfl 0 (by decide) k_244 e_v_7 dX1_runOrder_31 ?_
      refine lv_iload hx hb dX1_runOrder_34 (lv_at hl 0 rfl) ?_
      have i_u_8 : vp_in u_5 6 := (i_in (n := 6) rfl (by omega) (by omega))
      refine t_iald hB hT (ro_in r_v_7 (by decide)) n_v_7 i_u_8 rfl dX1_runOrder_36 ?_
      have c_u_8 := hI.c r_v_7 n_v_7 (i_cl i_u_8)
      refine lv_topi (fun u_8 e_u_8 => ?_)
      obtain ⟨l_u_8, u_u_8⟩ := c_u_8
      rw [← e_u_8] at l_u_8 u_u_8
      refine lv_aload_n hx hb dX1_runOrder_37 rfl (lv_at hl 3 rfl) ?_
      obtain ⟨v_9, e_v_9, r_v_9, n_v_9⟩ := f_1_1 hI r_2
      refine t_get (ci := 0) (v := .ref v_9) hB hT (ro_ci r_2 rfl) rfl 1 (by decide) k_248 e_v_9 dX1_runOrder_38 ?_
      refine lv_iload hx hb dX1_runOrder_41 (lv_at hl 0 rfl) ?_
      have i_u_10 : vp_in u_5 6 := (i_in (n := 6) rfl (by omega) (by omega))
      refine t_iald hB hT (ro_in r_v_9 (by decide)) n_v_9 i_u_10 rfl dX1_runOrder_43 ?_
      refine lv_topi (fun u_10 e_u_10 => ?_)
      refine lv_aload_n hx hb dX1_runOrder_44 rfl (lv_at hl 3 rfl) ?_
      obtain ⟨v_11, e_v_11, r_v_11, n_v_11⟩ := f_1_2 hI r_2
      refine t_get (ci := 0) (v := .ref v_11) hB hT (ro_ci r_2 rfl) rfl 2 (by decide) k_251 e_v_11 dX1_runOrder_45 ?_
      refine lv_iload hx hb dX1_runOrder_48 (lv_at hl 0 rfl) ?_
      have i_u_12 : vp_in u_5 6 := (i_in (n := 6) rfl (by omega) (by omega))
      refine t_iald hB hT (ro_in r_v_11 (by decide)) n_v_11 i_u_12 rfl dX1_runOrder_50 ?_
      refine lv_topi (fun u_12 e_u_12 => ?_)
      refine lv_iconst (v := 0) hx hb dX1_runOrder_51 (by decide) ?_
      refine t_callV (n := 4) (As := [.int u_8, .int u_10, .int u_12, .int 0]) (rest := []) (ci := 5) hB hT hl.1 (s_fromOutside l D cI cZ cS cR N0 g1 hI v_6 u_8 u_10 u_12 0 r_v_6 (by have q0 : (0 : Int32).toInt = 0 := (by decide); omega) (by have q0 : (0 : Int32).toInt = 0 := (by decide); omega)) (ro_ci r_v_6 rfl) rfl k_500 k_59 k_594 k_498 k_499 (by decide +kernel) ⟨(Nat.le_of_ble_eq_true rfl), (Nat.le_of_ble_eq_true rfl)⟩ rfl (Nat.le_of_ble_eq_true rfl) ⟨(Nat.le_of_ble_eq_true rfl), (Nat.le_of_ble_eq_true rfl)⟩ dX1_runOrder_52 (fun v g_13 H locs hp hT => ?_)
      obtain ⟨r_14, rfl, hI, x_16, m_15⟩ := hp
      have hM : Sm md_s_runOrder g g_13 := hM.tr hE (m_15.mo (fun r k h => mdle_s_runOrder_s_fromOutside h))
      have hE : Ex g g_13 := hE.tr x_16
      have r_17 : g_13.1 h = 2 := (Ex.r x_16 r_1 (by decide))
      have r_18 : g_13.1 o = 1 := (Ex.r x_16 r_2 (by decide))
      have r_19 : g_13.1 v_4 = 52 := (Ex.r x_16 r_v_4 (by decide))
      have r_20 : g_13.1 v_6 = 6 := (Ex.r x_16 r_v_6 (by decide))
      have r_21 : g_13.1 v_7 = 61 := (Ex.r x_16 r_v_7 (by decide))
      have r_22 : g_13.1 v_9 = 62 := (Ex.r x_16 r_v_9 (by decide))
      have r_23 : g_13.1 v_11 = 63 := (Ex.r x_16 r_v_11 (by decide))
      have n_24 : g_13.2.2.1 v_4 = 5 := (Ex.n x_16 r_v_4 (by decide) n_v_4)
      have n_25 : g_13.2.2.1 v_7 = 6 := (Ex.n x_16 r_v_7 (by decide) n_v_7)
      have n_26 : g_13.2.2.1 v_9 = 6 := (Ex.n x_16 r_v_9 (by decide) n_v_9)
      have n_27 : g_13.2.2.1 v_11 = 6 := (Ex.n x_16 r_v_11 (by decide) n_v_11)
      have kn_28 : g_13.2.1 h 8 = .ref v_4 := (Sm.v m_15 r_1 (by decide) rfl e_v_4)
      have kn_29 : g_13.2.1 h 2 = .ref v_6 := (Sm.v m_15 r_1 (by decide) rfl e_v_6)
      have kn_30 : g_13.2.1 o 0 = .ref v_7 := (Sm.v m_15 r_2 (by decide) rfl e_v_7)
      have kn_31 : g_13.2.1 o 1 = .ref v_9 := (Sm.v m_15 r_2 (by decide) rfl e_v_9)
      have kn_32 : g_13.2.1 o 2 = .ref v_11 := (Sm.v m_15 r_2 (by decide) rfl e_v_11)
      have kn_33 : g_13.2.2.2.1 v_4 i.toNatClampNeg = u_5 := (Sm.c m_15 r_v_4 (by decide) rfl e_u_5.symm)
      have kn_34 : g_13.2.2.2.1 v_7 u_5.toNatClampNeg = u_8 := (Sm.c m_15 r_v_7 (by decide) rfl e_u_8.symm)
      have kn_35 : g_13.2.2.2.1 v_9 u_5.toNatClampNeg = u_10 := (Sm.c m_15 r_v_9 (by decide) rfl e_u_10.symm)
      have kn_36 : g_13.2.2.2.1 v_11 u_5.toNatClampNeg = u_12 := (Sm.c m_15 r_v_11 (by decide) rfl e_u_12.symm)
      refine W.eq (g2 := F0 m 55 ls [.int r_14]) rfl ?_
      refine lv_pop hx hb dX1_runOrder_55 rfl ?_
      obtain ⟨z_37, ez_37⟩ : ∃ z : Int32, z = i + 1 := ⟨_, rfl⟩
      have e_z_37 : z_37.toInt = i.toInt + 1 := i_add ez_37 rfl (by decide) (by omega) (by omega)
      refine lv_iinc (v := z_37) (lv' := [(3, .int z_37), (4, .int u_5), (0, .ref h), (1, .ref o), (2, .int n)]) hx hb dX1_runOrder_56 hl (k := 1) rfl (by rw [ez_37]; rfl) (by decide) rfl (fun ls hl => ?_)
      refine lv_goto (tgt := 13) hx hb dX1_runOrder_59 (by decide) ?_
      exact ih (kf - 1) (by omega) g_13 z_37 H locs ls hT hI hE hM (by omega) (by omega) (by have e0_ : (0 : Int32).toInt = 0 := (by decide); omega) (lv_sub hl [0, 2, 3, 4] rfl)
set_option maxHeartbeats 4000000 in
set_option maxRecDepth 100000 in
theorem s_runOrder (l : Launch) (D : va_G) (cI cZ cS cR : ClassId) (N0 : NT) (g : GS) (hI : Inv g) (h : Nat) (o : Nat) (n : Int32) (r_h : g.1 h = 2) (r_o : g.1 o = 1) (l_n : 0 ≤ n.toInt) (u_n : n.toInt ≤ 5) : Ty l D cI cZ cS cR N0 yX1_runOrder cX1_runOrder 5 none 14 0 0 [.ref h, .ref o, .int n] g (fun v g' => v = none ∧ Inv g' ∧ Ex g g' ∧ Sm md_s_runOrder g g') := by
  refine t_enter (by decide) (Nat.le_of_ble_eq_true rfl) ?_
  intro p e s m args below meth c ls H locs hB hr hin hl hT
  have hx := hB.1
  have hb := hB.2.1
  have hl : lv_has ls 5 [(0, .ref h), (1, .ref o), (2, .int n)] := hl
  have hE : Ex g g := Ex.rf
  have hM : Sm md_s_runOrder g g := Sm.rf
  refine lv_aload_n hx hb dX1_runOrder_0 rfl (lv_at hl 0 rfl) ?_
  obtain ⟨v_1, e_v_1, r_v_1⟩ := f_2_2 hI r_h
  refine t_get (ci := 1) (v := .ref v_1) hB hT (ro_ci r_h rfl) rfl 2 (by decide) k_279 e_v_1 dX1_runOrder_1 ?_
  refine lv_aload_n hx hb dX1_runOrder_4 rfl (lv_at hl 0 rfl) ?_
  obtain ⟨v_2, e_v_2, r_v_2⟩ := f_2_0 hI r_h
  refine t_get (ci := 1) (v := .ref v_2) hB hT (ro_ci r_h rfl) rfl 0 (by decide) k_276 e_v_2 dX1_runOrder_5 ?_
  refine t_callV (n := 1) (As := [.ref v_2]) (rest := []) (ci := 5) hB hT hl.1 (s_wcopy l D cI cZ cS cR N0 g hI v_1 v_2 r_v_1 r_v_2) (ro_ci r_v_1 rfl) rfl k_585 k_59 k_582 k_583 k_584 (by decide +kernel) ⟨(Nat.le_of_ble_eq_true rfl), (Nat.le_of_ble_eq_true rfl)⟩ rfl (Nat.le_of_ble_eq_true rfl) ⟨(Nat.le_of_ble_eq_true rfl), (Nat.le_of_ble_eq_true rfl)⟩ dX1_runOrder_8 (fun v g_3 H locs hp hT => ?_)
  obtain ⟨rfl, hI, x_5, m_4⟩ := hp
  have hM : Sm md_s_runOrder g g_3 := hM.tr hE (m_4.mo (fun r k h => mdle_s_runOrder_s_wcopy h))
  have hE : Ex g g_3 := hE.tr x_5
  have r_6 : g_3.1 h = 2 := (Ex.r x_5 r_h (by decide))
  have r_7 : g_3.1 o = 1 := (Ex.r x_5 r_o (by decide))
  have r_8 : g_3.1 v_1 = 6 := (Ex.r x_5 r_v_1 (by decide))
  have r_9 : g_3.1 v_2 = 6 := (Ex.r x_5 r_v_2 (by decide))
  have kn_10 : g_3.2.1 h 2 = .ref v_1 := (Sm.v m_4 r_h (by decide) rfl e_v_1)
  have kn_11 : g_3.2.1 h 0 = .ref v_2 := (Sm.v m_4 r_h (by decide) rfl e_v_2)
  refine W.eq (g2 := F0 m 11 ls []) rfl ?_
  refine lv_iconst (v := 0) hx hb dX1_runOrder_11 (by decide) ?_
  refine lv_istore_n (lv' := [(3, .int 0), (0, .ref h), (1, .ref o), (2, .int n)]) hx hb dX1_runOrder_12 rfl hl (by decide) rfl (fun ls hl => ?_)
  exact lt_s_runOrder_a l D cI cZ cS cR N0 g h o n r_h r_o l_n u_n hB hr   5 g_3 (0 : Int32) H locs ls hT hI hE hM (by decide) (by decide) (by have e0_ : (0 : Int32).toInt = 0 := (by decide); omega) (lv_sub hl [0, 1, 2, 3] rfl)
abbrev md_s_writeEnd : Nat → Nat → Bool := mdf [(50, 99)]
set_option maxHeartbeats 4000000 in
set_option maxRecDepth 100000 in
theorem lt_s_writeEnd_d (l : Launch) (D : va_G) (cI cZ cS cR : ClassId) (N0 : NT) (g : GS) (h : Nat) (o : Nat) (r_h : g.1 h = 2) (r_o : g.1 o = 50) (n_o : g.2.2.1 o = 325) {p : Program} {e : Env} {s : State} {m : MethodId} {args : Array Value} {below : List Frame} {meth : Method} {c : Code} (hB : Tz p s m meth c args cX1_writeEnd 6 RX1 D cI cZ cS cR N0) (hr : meth.sig.returnType = none) (i : Int32) (l_i : 0 ≤ i.toInt) (u_i : i.toInt ≤ 299) (K : ∀ (g1 : GS) (w0 : Int32)  (H : Heap) (locs : List Loc) (ls : Array Slot), Tv D cI cZ cS cR N0 s.heap H locs g1 → Inv g1 → Ex g g1 → Sm md_s_writeEnd g g1 → w0.toInt ≤ 300 → g1.2.2.2.1 o (0 : Int32).toNatClampNeg = w0 → lv_has ls 6 [(3, .int i), (2, .int 25), (0, .ref h), (1, .ref o)] → W p l e (rmx 0 0 0) s m args below meth c H locs 0 0 (MQ below (tQ D cI cZ cS cR N0 (fun v g' => v = none ∧ Inv g' ∧ Ex g g' ∧ Sm md_s_writeEnd g g')) args s 0 0 (fun q => N0.1 ≤ q)) (F0 m 152 ls [])) : ∀ (kf : Nat) (g1 : GS) (t : Int32) (nu : Int32) (w0 : Int32)  (H : Heap) (locs : List Loc) (ls : Array Slot), Tv D cI cZ cS cR N0 s.heap H locs g1 → Inv g1 → Ex g g1 → Sm md_s_writeEnd g g1 → 25 ≤ t.toInt → t.toInt ≤ 324 → w0.toInt ≤ 300 → g1.2.2.2.1 o (0 : Int32).toNatClampNeg = w0 → (t.toInt ≤ 25 + kf) → lv_has ls 6 [(5, .int t), (4, .int nu), (3, .int i), (2, .int 25), (0, .ref h), (1, .ref o)] → W p l e (rmx 0 0 0) s m args below meth c H locs 0 0 (MQ below (tQ D cI cZ cS cR N0 (fun v g' => v = none ∧ Inv g' ∧ Ex g g' ∧ Sm md_s_writeEnd g g')) args s 0 0 (fun q => N0.1 ≤ q)) (F0 m 113 ls []) := by
  have hx := hB.1
  have hb := hB.2.1
  intro kf
  induction kf using Nat.strongRecOn with
  | ind kf ih =>
    intro g1 t nu w0 H locs ls hT hI hE hM l_t u_t u_w0 kc0 hk hl
    have r_1 : g1.1 h = 2 := Ex.r hE r_h (by decide)
    have r_2 : g1.1 o = 50 := Ex.r hE r_o (by decide)
    have n_3 : g1.2.2.1 o = 325 := Ex.n hE r_o (by decide) n_o
    refine lv_iload hx hb dX1_writeEnd_113 (lv_at hl 0 rfl) ?_
    refine lv_iload_n hx hb dX1_writeEnd_115 rfl (lv_at hl 3 rfl) ?_
    refine lv_icmp_le (tgt := 146) hx hb dX1_writeEnd_116 (by decide) (fun c_4 => ?_) (fun c_4 => ?_)
    · have c_4' : t.toInt ≤ 25 := i_le c_4 rfl (by decide)
      refine lv_aload_n hx hb dX1_writeEnd_146 rfl (lv_at hl 5 rfl) ?_
      refine lv_iload hx hb dX1_writeEnd_147 (lv_at hl 0 rfl) ?_
      refine lv_iload hx hb dX1_writeEnd_149 (lv_at hl 1 rfl) ?_
      have i_5 : vp_in t 325 := (i_in (n := 325) rfl (by omega) (by omega))
      refine t_iast hB hT (ro_in r_2 (by decide)) n_3 i_5 dX1_writeEnd_151 (fun H locs hT => ?_)
      have hI : Inv (sC g1 o t.toNatClampNeg nu) := hI.sC (ck r_2 trivial)
      have hM : Sm md_s_writeEnd g (sC g1 o t.toNatClampNeg nu) := hM.tr hE (Sm_sC (by rw [r_2]; rfl))
      have hE : Ex g (sC g1 o t.toNatClampNeg nu) := hE
      exact K (sC g1 o t.toNatClampNeg nu) w0 H locs ls hT hI hE hM (by omega) (sC_i kc0 (i_nc (x := (0 : Int32)) (by have e_0 : (0 : Int32).toInt = 0 := (by decide); omega) (by decide) (by omega))) (lv_sub hl [2, 3, 4, 5] rfl)
    · have c_4' : 25 < t.toInt := i_nle c_4 rfl (by decide)
      refine lv_aload_n hx hb dX1_writeEnd_119 rfl (lv_at hl 5 rfl) ?_
      refine lv_iload hx hb dX1_writeEnd_120 (lv_at hl 0 rfl) ?_
      refine lv_iconst (v := 1) hx hb dX1_writeEnd_122 (by decide) ?_
      refine lv_isub hx hb dX1_writeEnd_123 ?_
      refine lv_topi (fun z_6 ez_6 => ?_)
      have e_z_6 : z_6.toInt = t.toInt - 1 := i_sub ez_6 rfl (by decide) (by omega) (by omega)
      have i_u_7 : vp_in z_6 325 := (i_in (n := 325) rfl (by omega) (by omega))
      refine t_iald hB hT (ro_in r_2 (by decide)) n_3 i_u_7 rfl dX1_writeEnd_124 ?_
      refine lv_topi (fun u_7 e_u_7 => ?_)
      refine lv_iload hx hb dX1_writeEnd_125 (lv_at hl 1 rfl) ?_
      refine lv_icmp_le (tgt := 146) hx hb dX1_writeEnd_127 (by decide) (fun c_8 => ?_) (fun c_8 => ?_)
      · have c_8' : u_7.toInt ≤ nu.toInt := i_le c_8 rfl rfl
        refine lv_aload_n hx hb dX1_writeEnd_146 rfl (lv_at hl 5 rfl) ?_
        refine lv_iload hx hb dX1_writeEnd_147 (lv_at hl 0 rfl) ?_
        refine lv_iload hx hb dX1_writeEnd_149 (lv_at hl 1 rfl) ?_
        have i_9 : vp_in t 325 := (i_in (n := 325) rfl (by omega) (by omega))
        refine t_iast hB hT (ro_in r_2 (by decide)) n_3 i_9 dX1_writeEnd_151 (fun H locs hT => ?_)
        have hI : Inv (sC g1 o t.toNatClampNeg nu) := hI.sC (ck r_2 trivial)
        have hM : Sm md_s_writeEnd g (sC g1 o t.toNatClampNeg nu) := hM.tr hE (Sm_sC (by rw [r_2]; rfl))
        have hE : Ex g (sC g1 o t.toNatClampNeg nu) := hE
        exact K (sC g1 o t.toNatClampNeg nu) w0 H locs ls hT hI hE hM (by omega) (sC_i kc0 (i_nc (x := (0 : Int32)) (by have e_0 : (0 : Int32).toInt = 0 := (by decide); omega) (by decide) (by omega))) (lv_sub hl [2, 3, 4, 5] rfl)
      · have c_8' : nu.toInt < u_7.toInt := i_nle c_8 rfl rfl
        refine lv_aload_n hx hb dX1_writeEnd_130 rfl (lv_at hl 5 rfl) ?_
        refine lv_iload hx hb dX1_writeEnd_131 (lv_at hl 0 rfl) ?_
        refine lv_aload_n hx hb dX1_writeEnd_133 rfl (lv_at hl 5 rfl) ?_
        refine lv_iload hx hb dX1_writeEnd_134 (lv_at hl 0 rfl) ?_
        refine lv_iconst (v := 1) hx hb dX1_writeEnd_136 (by decide) ?_
        refine lv_isub hx hb dX1_writeEnd_137 ?_
        refine lv_topi (fun z_10 ez_10 => ?_)
        have e_z_10 : z_10.toInt = t.toInt - 1 := i_sub ez_10 rfl (by decide) (by omega) (by omega)
        have i_u_11 : vp_in z_10 325 := (i_in (n := 325) rfl (by omega) (by omega))
        refine t_iald hB hT (ro_in r_2 (by decide)) n_3 i_u_11 rfl dX1_writeEnd_138 ?_
        refine lv_topi (fun u_11 e_u_11 => ?_)
        have i_12 : vp_in t 325 := (i_in (n := 325) rfl (by omega) (by omega))
        refine t_iast hB hT (ro_in r_2 (by decide)) n_3 i_12 dX1_writeEnd_139 (fun H locs hT => ?_)
        have hI : Inv (sC g1 o t.toNatClampNeg u_11) := hI.sC (ck r_2 trivial)
        have hM : Sm md_s_writeEnd g (sC g1 o t.toNatClampNeg u_11) := hM.tr hE (Sm_sC (by rw [r_2]; rfl))
        have hE : Ex g (sC g1 o t.toNatClampNeg u_11) := hE
        obtain ⟨z_13, ez_13⟩ : ∃ z : Int32, z = t + (-1) := ⟨_, rfl⟩
        have e_z_13 : z_13.toInt = t.toInt + (-1) := i_add ez_13 rfl (by decide) (by omega) (by omega)
        refine lv_iinc (v := z_13) (lv' := [(5, .int z_13), (4, .int nu), (3, .int i), (2, .int 25), (0, .ref h), (1, .ref o)]) hx hb dX1_writeEnd_140 hl (k := 0) rfl (by rw [ez_13]; rfl) (by decide) rfl (fun ls hl => ?_)
        refine lv_goto (tgt := 113) hx hb dX1_writeEnd_143 (by decide) ?_
        exact ih (kf - 1) (by omega) (sC g1 o t.toNatClampNeg u_11) z_13 nu w0 H locs ls hT hI hE hM (by omega) (by omega) (by omega) (sC_i kc0 (i_nc (x := (0 : Int32)) (by have e_0 : (0 : Int32).toInt = 0 := (by decide); omega) (by decide) (by omega))) (by have e0_ : (0 : Int32).toInt = 0 := (by decide); omega) (lv_sub hl [0, 1, 2, 3, 4, 5] rfl)
set_option maxHeartbeats 4000000 in
set_option maxRecDepth 100000 in
theorem lt_s_writeEnd_c (l : Launch) (D : va_G) (cI cZ cS cR : ClassId) (N0 : NT) (g : GS) (h : Nat) (o : Nat) (r_h : g.1 h = 2) (r_o : g.1 o = 50) (n_o : g.2.2.1 o = 325) {p : Program} {e : Env} {s : State} {m : MethodId} {args : Array Value} {below : List Frame} {meth : Method} {c : Code} (hB : Tz p s m meth c args cX1_writeEnd 6 RX1 D cI cZ cS cR N0) (hr : meth.sig.returnType = none)    : ∀ (kf : Nat) (g1 : GS) (i : Int32) (w0 : Int32)  (H : Heap) (locs : List Loc) (ls : Array Slot), Tv D cI cZ cS cR N0 s.heap H locs g1 → Inv g1 → Ex g g1 → Sm md_s_writeEnd g g1 → 0 ≤ i.toInt → i.toInt ≤ 300 → w0.toInt ≤ 300 → g1.2.2.2.1 o (0 : Int32).toNatClampNeg = w0 → (300 ≤ i.toInt + kf) → lv_has ls 6 [(3, .int i), (2, .int 25), (0, .ref h), (1, .ref o)] → W p l e (rmx 0 0 0) s m args below meth c H locs 0 0 (MQ below (tQ D cI cZ cS cR N0 (fun v g' => v = none ∧ Inv g' ∧ Ex g g' ∧ Sm md_s_writeEnd g g')) args s 0 0 (fun q => N0.1 ≤ q)) (F0 m 90 ls []) := by
  have hx := hB.1
  have hb := hB.2.1
  intro kf
  induction kf using Nat.strongRecOn with
  | ind kf ih =>
    intro g1 i w0 H locs ls hT hI hE hM l_i u_i u_w0 kc0 hk hl
    have r_1 : g1.1 h = 2 := Ex.r hE r_h (by decide)
    have r_2 : g1.1 o = 50 := Ex.r hE r_o (by decide)
    have n_3 : g1.2.2.1 o = 325 := Ex.n hE r_o (by decide) n_o
    refine lv_iload_n hx hb dX1_writeEnd_90 rfl (lv_at hl 0 rfl) ?_
    refine lv_aload_n hx hb dX1_writeEnd_91 rfl (lv_at hl 3 rfl) ?_
    refine lv_iconst (v := 0) hx hb dX1_writeEnd_92 (by decide) ?_
    have i_u_4 : vp_in (0 : Int32) 325 := (by unfold vp_in; decide)
    refine t_iald (v := w0) hB hT (ro_in r_2 (by decide)) n_3 i_u_4 kc0 dX1_writeEnd_93 ?_
    refine lv_icmp_ge (tgt := 158) hx hb dX1_writeEnd_94 (by decide) (fun c_5 => ?_) (fun c_5 => ?_)
    · have c_5' : w0.toInt ≤ i.toInt := i_le c_5 rfl rfl
      exact t_vret hB hr hT (Nat.le_of_ble_eq_true rfl) (Nat.le_of_ble_eq_true rfl) dX1_writeEnd_158 ⟨rfl, hI, hE, hM⟩
    · have c_5' : i.toInt < w0.toInt := i_nle c_5 rfl rfl
      refine lv_aload_n hx hb dX1_writeEnd_97 rfl (lv_at hl 2 rfl) ?_
      obtain ⟨v_6, e_v_6, r_v_6⟩ := f_2_2 hI r_1
      refine t_get (ci := 1) (v := .ref v_6) hB hT (ro_ci r_1 rfl) rfl 2 (by decide) k_279 e_v_6 dX1_writeEnd_98 ?_
      obtain ⟨v_7, e_v_7, r_v_7, n_v_7⟩ := f_6_3 hI r_v_6
      refine t_get (ci := 5) (v := .ref v_7) hB hT (ro_ci r_v_6 rfl) rfl 3 (by decide) k_209 e_v_7 dX1_writeEnd_101 ?_
      refine lv_iload_n hx hb dX1_writeEnd_104 rfl (lv_at hl 0 rfl) ?_
      have i_u_8 : vp_in i 512 := (i_in (n := 512) rfl (by omega) (by omega))
      refine t_iald hB hT (ro_in r_v_7 (by decide)) n_v_7 i_u_8 rfl dX1_writeEnd_105 ?_
      refine lv_topi (fun u_8 e_u_8 => ?_)
      refine lv_istore (lv' := [(4, .int u_8), (3, .int i), (2, .int 25), (0, .ref h), (1, .ref o)]) hx hb dX1_writeEnd_106 hl (by decide) rfl (fun ls hl => ?_)
      refine lv_iload_n hx hb dX1_writeEnd_108 rfl (lv_at hl 2 rfl) ?_
      refine lv_iload_n hx hb dX1_writeEnd_109 rfl (lv_at hl 1 rfl) ?_
      refine lv_iadd hx hb dX1_writeEnd_110 ?_
      refine lv_topi (fun z_9 ez_9 => ?_)
      have e_z_9 : z_9.toInt = 25 + i.toInt := i_add ez_9 (by decide) rfl (by omega) (by omega)
      refine lv_istore (lv' := [(5, .int z_9), (4, .int u_8), (3, .int i), (2, .int 25), (0, .ref h), (1, .ref o)]) hx hb dX1_writeEnd_111 hl (by decide) rfl (fun ls hl => ?_)
      refine lt_s_writeEnd_d l D cI cZ cS cR N0 g h o r_h r_o n_o hB hr i (by omega) (by omega) (fun g1_b_10 w0_b_10 H locs ls hT hI hE hM u_w0_b_10 kc0_b_10 hl => ?_) 300 g1 z_9 u_8 w0 H locs ls hT hI hE hM (by omega) (by omega) (by omega) kc0 (by have e0_ : (0 : Int32).toInt = 0 := (by decide); omega) (lv_sub hl [0, 1, 2, 3, 4, 5] rfl)
      have r_11 : g1_b_10.1 h = 2 := Ex.r hE r_h (by decide)
      have r_12 : g1_b_10.1 o = 50 := Ex.r hE r_o (by decide)
      have n_13 : g1_b_10.2.2.1 o = 325 := Ex.n hE r_o (by decide) n_o
      obtain ⟨z_14, ez_14⟩ : ∃ z : Int32, z = i + 1 := ⟨_, rfl⟩
      have e_z_14 : z_14.toInt = i.toInt + 1 := i_add ez_14 rfl (by decide) (by omega) (by omega)
      refine lv_iinc (v := z_14) (lv' := [(3, .int z_14), (2, .int 25), (0, .ref h), (1, .ref o)]) hx hb dX1_writeEnd_152 hl (k := 0) rfl (by rw [ez_14]; rfl) (by decide) rfl (fun ls hl => ?_)
      refine lv_goto (tgt := 90) hx hb dX1_writeEnd_155 (by decide) ?_
      exact ih (kf - 1) (by omega) g1_b_10 z_14 w0_b_10 H locs ls hT hI hE hM (by omega) (by omega) (by omega) kc0_b_10 (by have e0_ : (0 : Int32).toInt = 0 := (by decide); omega) (lv_sub hl [0, 1, 2, 3] rfl)
set_option maxHeartbeats 4000000 in
set_option maxRecDepth 100000 in
theorem lt_s_writeEnd_b (l : Launch) (D : va_G) (cI cZ cS cR : ClassId) (N0 : NT) (g : GS) (h : Nat) (o : Nat) (r_h : g.1 h = 2) (r_o : g.1 o = 50) (n_o : g.2.2.1 o = 325) {p : Program} {e : Env} {s : State} {m : MethodId} {args : Array Value} {below : List Frame} {meth : Method} {c : Code} (hB : Tz p s m meth c args cX1_writeEnd 6 RX1 D cI cZ cS cR N0) (hr : meth.sig.returnType = none) (s1 : Int32) (l_s1 : 0 ≤ s1.toInt) (u_s1 : s1.toInt ≤ 5) (K : ∀ (g1 : GS) (w0 : Int32)  (H : Heap) (locs : List Loc) (ls : Array Slot), Tv D cI cZ cS cR N0 s.heap H locs g1 → Inv g1 → Ex g g1 → Sm md_s_writeEnd g g1 → w0.toInt ≤ 300 → g1.2.2.2.1 o (0 : Int32).toNatClampNeg = w0 → lv_has ls 6 [(2, .int s1), (0, .ref h), (1, .ref o)] → W p l e (rmx 0 0 0) s m args below meth c H locs 0 0 (MQ below (tQ D cI cZ cS cR N0 (fun v g' => v = none ∧ Inv g' ∧ Ex g g' ∧ Sm md_s_writeEnd g g')) args s 0 0 (fun q => N0.1 ≤ q)) (F0 m 79 ls [])) : ∀ (kf : Nat) (g1 : GS) (q : Int32) (w0 : Int32)  (H : Heap) (locs : List Loc) (ls : Array Slot), Tv D cI cZ cS cR N0 s.heap H locs g1 → Inv g1 → Ex g g1 → Sm md_s_writeEnd g g1 → 0 ≤ q.toInt → q.toInt ≤ 4 → w0.toInt ≤ 300 → g1.2.2.2.1 o (0 : Int32).toNatClampNeg = w0 → (4 ≤ q.toInt + kf) → lv_has ls 6 [(3, .int q), (2, .int s1), (0, .ref h), (1, .ref o)] → W p l e (rmx 0 0 0) s m args below meth c H locs 0 0 (MQ below (tQ D cI cZ cS cR N0 (fun v g' => v = none ∧ Inv g' ∧ Ex g g' ∧ Sm md_s_writeEnd g g')) args s 0 0 (fun q => N0.1 ≤ q)) (F0 m 30 ls []) := by
  have hx := hB.1
  have hb := hB.2.1
  intro kf
  induction kf using Nat.strongRecOn with
  | ind kf ih =>
    intro g1 q w0 H locs ls hT hI hE hM l_q u_q u_w0 kc0 hk hl
    have r_1 : g1.1 h = 2 := Ex.r hE r_h (by decide)
    have r_2 : g1.1 o = 50 := Ex.r hE r_o (by decide)
    have n_3 : g1.2.2.1 o = 325 := Ex.n hE r_o (by decide) n_o
    refine lv_iload_n hx hb dX1_writeEnd_30 rfl (lv_at hl 0 rfl) ?_
    refine lv_iconst (v := 4) hx hb dX1_writeEnd_31 (by decide) ?_
    refine lv_icmp_ge (tgt := 79) hx hb dX1_writeEnd_32 (by decide) (fun c_4 => ?_) (fun c_4 => ?_)
    · have c_4' : 4 ≤ q.toInt := i_le c_4 (by decide) rfl
      exact K g1 w0 H locs ls hT hI hE hM (by omega) kc0 (lv_sub hl [1, 2, 3] rfl)
    · have c_4' : q.toInt < 4 := i_nle c_4 (by decide) rfl
      refine lv_aload_n hx hb dX1_writeEnd_35 rfl (lv_at hl 3 rfl) ?_
      refine lv_iconst (v := 1) hx hb dX1_writeEnd_36 (by decide) ?_
      refine lv_iconst (v := 4) hx hb dX1_writeEnd_37 (by decide) ?_
      refine lv_iload_n hx hb dX1_writeEnd_38 rfl (lv_at hl 1 rfl) ?_
      refine lv_imul hx hb dX1_writeEnd_39 ?_
      refine lv_topi (fun z_5 ez_5 => ?_)
      have e_z_5 : z_5.toInt = 4 * s1.toInt := i_mul ez_5 (by decide) rfl (by omega) (by omega)
      refine lv_iadd hx hb dX1_writeEnd_40 ?_
      refine lv_topi (fun z_6 ez_6 => ?_)
      have e_z_6 : z_6.toInt = 1 + z_5.toInt := i_add ez_6 (by decide) rfl (by omega) (by omega)
      refine lv_iload_n hx hb dX1_writeEnd_41 rfl (lv_at hl 0 rfl) ?_
      refine lv_iadd hx hb dX1_writeEnd_42 ?_
      refine lv_topi (fun z_7 ez_7 => ?_)
      have e_z_7 : z_7.toInt = z_6.toInt + q.toInt := i_add ez_7 rfl rfl (by omega) (by omega)
      refine lv_iload_n hx hb dX1_writeEnd_43 rfl (lv_at hl 1 rfl) ?_
      refine lv_aload_n hx hb dX1_writeEnd_44 rfl (lv_at hl 2 rfl) ?_
      obtain ⟨v_8, e_v_8, r_v_8⟩ := f_2_2 hI r_1
      refine t_get (ci := 1) (v := .ref v_8) hB hT (ro_ci r_1 rfl) rfl 2 (by decide) k_279 e_v_8 dX1_writeEnd_45 ?_
      obtain ⟨v_9, e_v_9, l_v_9, u_v_9⟩ := f_6_1 hI r_v_8
      refine t_get (ci := 5) (v := .int v_9) hB hT (ro_ci r_v_8 rfl) rfl 1 (by decide) k_204 e_v_9 dX1_writeEnd_48 ?_
      refine lv_icmp_ge (tgt := 71) hx hb dX1_writeEnd_51 (by decide) (fun c_10 => ?_) (fun c_10 => ?_)
      · have c_10' : v_9.toInt ≤ s1.toInt := i_le c_10 rfl rfl
        refine lv_iconst (v := 0) hx hb dX1_writeEnd_71 (by decide) ?_
        have i_11 : vp_in z_7 325 := (i_in (n := 325) rfl (by omega) (by omega))
        refine t_iast hB hT (ro_in r_2 (by decide)) n_3 i_11 dX1_writeEnd_72 (fun H locs hT => ?_)
        have hI : Inv (sC g1 o z_7.toNatClampNeg (0 : Int32)) := hI.sC (ck r_2 trivial)
        have hM : Sm md_s_writeEnd g (sC g1 o z_7.toNatClampNeg (0 : Int32)) := hM.tr hE (Sm_sC (by rw [r_2]; rfl))
        have hE : Ex g (sC g1 o z_7.toNatClampNeg (0 : Int32)) := hE
        obtain ⟨z_12, ez_12⟩ : ∃ z : Int32, z = q + 1 := ⟨_, rfl⟩
        have e_z_12 : z_12.toInt = q.toInt + 1 := i_add ez_12 rfl (by decide) (by omega) (by omega)
        refine lv_iinc (v := z_12) (lv' := [(3, .int z_12), (2, .int s1), (0, .ref h), (1, .ref o)]) hx hb dX1_writeEnd_73 hl (k := 0) rfl (by rw [ez_12]; rfl) (by decide) rfl (fun ls hl => ?_)
        refine lv_goto (tgt := 30) hx hb dX1_writeEnd_76 (by decide) ?_
        exact ih (kf - 1) (by omega) (sC g1 o z_7.toNatClampNeg (0 : Int32)) z_12 w0 H locs ls hT hI hE hM (by omega) (by omega) (by omega) (sC_i kc0 (i_nc (x := (0 : Int32)) (by have e_0 : (0 : Int32).toInt = 0 := (by decide); omega) (by decide) (by omega))) (by have e0_ : (0 : Int32).toInt = 0 := (by decide); omega) (lv_sub hl [0, 1, 2, 3] rfl)
      · have c_10' : s1.toInt < v_9.toInt := i_nle c_10 rfl rfl
        refine lv_aload_n hx hb dX1_writeEnd_54 rfl (lv_at hl 2 rfl) ?_
        refine t_get (ci := 1) (v := .ref v_8) hB hT (ro_ci r_1 rfl) rfl 2 (by decide) k_279 e_v_8 dX1_writeEnd_55 ?_
        obtain ⟨v_13, e_v_13, r_v_13, n_v_13⟩ := f_6_0 hI r_v_8
        refine t_get (ci := 5) (v := .ref v_13) hB hT (ro_ci r_v_8 rfl) rfl 0 (by decide) k_201 e_v_13 dX1_writeEnd_58 ?_
        refine lv_iload_n hx hb dX1_writeEnd_61 rfl (lv_at hl 1 rfl) ?_
        have i_q_14 : vp_in s1 6 := (i_in (n := 6) rfl (by omega) (by omega))
        obtain ⟨q_14, e_q_14, r_q_14⟩ := hI.q r_v_13 n_v_13 (i_cl i_q_14)
        refine t_aald hB hT (Or.inl r_v_13) n_v_13 i_q_14 e_q_14 dX1_writeEnd_62 ?_
        obtain ⟨v_15, e_v_15, r_v_15, n_v_15⟩ := f_4_1 hI r_q_14
        refine t_get (ci := 3) (v := .ref v_15) hB hT (ro_ci r_q_14 rfl) rfl 1 (by decide) k_148 e_v_15 dX1_writeEnd_63 ?_
        refine lv_iload_n hx hb dX1_writeEnd_66 rfl (lv_at hl 0 rfl) ?_
        have i_u_16 : vp_in q 4 := (i_in (n := 4) rfl (by omega) (by omega))
        refine t_iald hB hT (ro_in r_v_15 (by decide)) n_v_15 i_u_16 rfl dX1_writeEnd_67 ?_
        refine lv_topi (fun u_16 e_u_16 => ?_)
        refine lv_goto (tgt := 72) hx hb dX1_writeEnd_68 (by decide) ?_
        have i_17 : vp_in z_7 325 := (i_in (n := 325) rfl (by omega) (by omega))
        refine t_iast hB hT (ro_in r_2 (by decide)) n_3 i_17 dX1_writeEnd_72 (fun H locs hT => ?_)
        have hI : Inv (sC g1 o z_7.toNatClampNeg u_16) := hI.sC (ck r_2 trivial)
        have hM : Sm md_s_writeEnd g (sC g1 o z_7.toNatClampNeg u_16) := hM.tr hE (Sm_sC (by rw [r_2]; rfl))
        have hE : Ex g (sC g1 o z_7.toNatClampNeg u_16) := hE
        obtain ⟨z_18, ez_18⟩ : ∃ z : Int32, z = q + 1 := ⟨_, rfl⟩
        have e_z_18 : z_18.toInt = q.toInt + 1 := i_add ez_18 rfl (by decide) (by omega) (by omega)
        refine lv_iinc (v := z_18) (lv' := [(3, .int z_18), (2, .int s1), (0, .ref h), (1, .ref o)]) hx hb dX1_writeEnd_73 hl (k := 0) rfl (by rw [ez_18]; rfl) (by decide) rfl (fun ls hl => ?_)
        refine lv_goto (tgt := 30) hx hb dX1_writeEnd_76 (by decide) ?_
        exact ih (kf - 1) (by omega) (sC g1 o z_7.toNatClampNeg u_16) z_18 w0 H locs ls hT hI hE hM (by omega) (by omega) (by omega) (sC_i kc0 (i_nc (x := (0 : Int32)) (by have e_0 : (0 : Int32).toInt = 0 := (by decide); omega) (by decide) (by omega))) (by have e0_ : (0 : Int32).toInt = 0 := (by decide); omega) (lv_sub hl [0, 1, 2, 3] rfl)
set_option maxHeartbeats 4000000 in
set_option maxRecDepth 100000 in
theorem lt_s_writeEnd_a (l : Launch) (D : va_G) (cI cZ cS cR : ClassId) (N0 : NT) (g : GS) (h : Nat) (o : Nat) (r_h : g.1 h = 2) (r_o : g.1 o = 50) (n_o : g.2.2.1 o = 325) {p : Program} {e : Env} {s : State} {m : MethodId} {args : Array Value} {below : List Frame} {meth : Method} {c : Code} (hB : Tz p s m meth c args cX1_writeEnd 6 RX1 D cI cZ cS cR N0) (hr : meth.sig.returnType = none)    : ∀ (kf : Nat) (g1 : GS) (s1 : Int32) (w0 : Int32)  (H : Heap) (locs : List Loc) (ls : Array Slot), Tv D cI cZ cS cR N0 s.heap H locs g1 → Inv g1 → Ex g g1 → Sm md_s_writeEnd g g1 → 0 ≤ s1.toInt → s1.toInt ≤ 6 → w0.toInt ≤ 300 → g1.2.2.2.1 o (0 : Int32).toNatClampNeg = w0 → (6 ≤ s1.toInt + kf) → lv_has ls 6 [(2, .int s1), (0, .ref h), (1, .ref o)] → W p l e (rmx 0 0 0) s m args below meth c H locs 0 0 (MQ below (tQ D cI cZ cS cR N0 (fun v g' => v = none ∧ Inv g' ∧ Ex g g' ∧ Sm md_s_writeEnd g g')) args s 0 0 (fun q => N0.1 ≤ q)) (F0 m 22 ls []) := by
  have hx := hB.1
  have hb := hB.2.1
  intro kf
  induction kf using Nat.strongRecOn with
  | ind kf ih =>
    intro g1 s1 w0 H locs ls hT hI hE hM l_s1 u_s1 u_w0 kc0 hk hl
    have r_1 : g1.1 h = 2 := Ex.r hE r_h (by decide)
    have r_2 : g1.1 o = 50 := Ex.r hE r_o (by decide)
    have n_3 : g1.2.2.1 o = 325 := Ex.n hE r_o (by decide) n_o
    refine lv_iload_n hx hb dX1_writeEnd_22 rfl (lv_at hl 0 rfl) ?_
    refine lv_bipush (v := 6) hx hb dX1_writeEnd_23 (by decide) ?_
    refine lv_icmp_ge (tgt := 85) hx hb dX1_writeEnd_25 (by decide) (fun c_4 => ?_) (fun c_4 => ?_)
    · have c_4' : 6 ≤ s1.toInt := i_le c_4 (by decide) rfl
      refine lv_bipush (v := 25) hx hb dX1_writeEnd_85 (by decide) ?_
      refine lv_istore_n (lv' := [(2, .int 25), (0, .ref h), (1, .ref o)]) hx hb dX1_writeEnd_87 rfl hl (by decide) rfl (fun ls hl => ?_)
      refine lv_iconst (v := 0) hx hb dX1_writeEnd_88 (by decide) ?_
      refine lv_istore_n (lv' := [(3, .int 0), (2, .int 25), (0, .ref h), (1, .ref o)]) hx hb dX1_writeEnd_89 rfl hl (by decide) rfl (fun ls hl => ?_)
      exact lt_s_writeEnd_c l D cI cZ cS cR N0 g h o r_h r_o n_o hB hr   300 g1 (0 : Int32) w0 H locs ls hT hI hE hM (by decide) (by decide) (by omega) kc0 (by have e0_ : (0 : Int32).toInt = 0 := (by decide); omega) (lv_sub hl [0, 1, 2, 3] rfl)
    · have c_4' : s1.toInt < 6 := i_nle c_4 (by decide) rfl
      refine lv_iconst (v := 0) hx hb dX1_writeEnd_28 (by decide) ?_
      refine lv_istore_n (lv' := [(3, .int 0), (2, .int s1), (0, .ref h), (1, .ref o)]) hx hb dX1_writeEnd_29 rfl hl (by decide) rfl (fun ls hl => ?_)
      refine lt_s_writeEnd_b l D cI cZ cS cR N0 g h o r_h r_o n_o hB hr s1 (by omega) (by omega) (fun g1_b_5 w0_b_5 H locs ls hT hI hE hM u_w0_b_5 kc0_b_5 hl => ?_) 4 g1 (0 : Int32) w0 H locs ls hT hI hE hM (by decide) (by decide) (by omega) kc0 (by have e0_ : (0 : Int32).toInt = 0 := (by decide); omega) (lv_sub hl [0, 1, 2, 3] rfl)
      have r_6 : g1_b_5.1 h = 2 := Ex.r hE r_h (by decide)
      have r_7 : g1_b_5.1 o = 50 := Ex.r hE r_o (by decide)
      have n_8 : g1_b_5.2.2.1 o = 325 := Ex.n hE r_o (by decide) n_o
      obtain ⟨z_9, ez_9⟩ : ∃ z : Int32, z = s1 + 1 := ⟨_, rfl⟩
      have e_z_9 : z_9.toInt = s1.toInt + 1 := i_add ez_9 rfl (by decide) (by omega) (by omega)
      refine lv_iinc (v := z_9) (lv' := [(2, .int z_9), (0, .ref h), (1, .ref o)]) hx hb dX1_writeEnd_79 hl (k := 0) rfl (by rw [ez_9]; rfl) (by decide) rfl (fun ls hl => ?_)
      refine lv_goto (tgt := 22) hx hb dX1_writeEnd_82 (by decide) ?_
      exact ih (kf - 1) (by omega) g1_b_5 z_9 w0_b_5 H locs ls hT hI hE hM (by omega) (by omega) (by omega) kc0_b_5 (by have e0_ : (0 : Int32).toInt = 0 := (by decide); omega) (lv_sub hl [0, 1, 2] rfl)
set_option maxHeartbeats 4000000 in
set_option maxRecDepth 100000 in
theorem s_writeEnd (l : Launch) (D : va_G) (cI cZ cS cR : ClassId) (N0 : NT) (g : GS) (hI : Inv g) (h : Nat) (o : Nat) (r_h : g.1 h = 2) (r_o : g.1 o = 50) (n_o : g.2.2.1 o = 325) : Ty l D cI cZ cS cR N0 yX1_writeEnd cX1_writeEnd 6 none 0 0 0 [.ref h, .ref o] g (fun v g' => v = none ∧ Inv g' ∧ Ex g g' ∧ Sm md_s_writeEnd g g') := by
  refine t_enter (by decide) (Nat.le_of_ble_eq_true rfl) ?_
  intro p e s m args below meth c ls H locs hB hr hin hl hT
  have hx := hB.1
  have hb := hB.2.1
  have hl : lv_has ls 6 [(0, .ref h), (1, .ref o)] := hl
  have hE : Ex g g := Ex.rf
  have hM : Sm md_s_writeEnd g g := Sm.rf
  refine lv_aload_n hx hb dX1_writeEnd_0 rfl (lv_at hl 1 rfl) ?_
  refine lv_iconst (v := 0) hx hb dX1_writeEnd_1 (by decide) ?_
  refine lv_aload_n hx hb dX1_writeEnd_2 rfl (lv_at hl 0 rfl) ?_
  obtain ⟨v_1, e_v_1, r_v_1⟩ := f_2_2 hI r_h
  refine t_get (ci := 1) (v := .ref v_1) hB hT (ro_ci r_h rfl) rfl 2 (by decide) k_279 e_v_1 dX1_writeEnd_3 ?_
  obtain ⟨v_2, e_v_2⟩ := f_6_4 hI r_v_1
  refine t_get (ci := 5) (v := .int v_2) hB hT (ro_ci r_v_1 rfl) rfl 4 (by decide) k_212 e_v_2 dX1_writeEnd_6 ?_
  refine lv_aload_n hx hb dX1_writeEnd_9 rfl (lv_at hl 1 rfl) ?_
  refine t_alen (v := 325) hB hT (ro_in r_o (by decide)) n_o rfl dX1_writeEnd_10 ?_
  refine lv_iconst (v := 1) hx hb dX1_writeEnd_11 (by decide) ?_
  refine lv_isub hx hb dX1_writeEnd_12 ?_
  refine x_ev (y := 324) (by decide) ?_
  refine lv_bipush (v := 24) hx hb dX1_writeEnd_13 (by decide) ?_
  refine lv_isub hx hb dX1_writeEnd_15 ?_
  refine x_ev (y := 300) (by decide) ?_
  refine t_min hB k_628 k_560 k_63 k_561 hl.1 (Nat.le_of_ble_eq_true rfl) (Nat.le_of_ble_eq_true rfl) (Nat.le_of_ble_eq_true rfl) (Nat.le_of_ble_eq_true rfl) rfl dX1_writeEnd_16 ?_
  refine lv_topi (fun z_3 ez_3 => ?_)
  have e_z_3 := i_min (a := v_2.toInt) (b := 300) ez_3 rfl (by decide)
  have i_4 : vp_in (0 : Int32) 325 := (by unfold vp_in; decide)
  refine t_iast hB hT (ro_in r_o (by decide)) n_o i_4 dX1_writeEnd_19 (fun H locs hT => ?_)
  have hI : Inv (sC g o (0 : Int32).toNatClampNeg z_3) := hI.sC (ck r_o trivial)
  have hM : Sm md_s_writeEnd g (sC g o (0 : Int32).toNatClampNeg z_3) := hM.tr hE (Sm_sC (by rw [r_o]; rfl))
  have hE : Ex g (sC g o (0 : Int32).toNatClampNeg z_3) := hE
  refine lv_iconst (v := 0) hx hb dX1_writeEnd_20 (by decide) ?_
  refine lv_istore_n (lv' := [(2, .int 0), (0, .ref h), (1, .ref o)]) hx hb dX1_writeEnd_21 rfl hl (by decide) rfl (fun ls hl => ?_)
  exact lt_s_writeEnd_a l D cI cZ cS cR N0 g h o r_h r_o n_o hB hr   6 (sC g o (0 : Int32).toNatClampNeg z_3) (0 : Int32) z_3 H locs ls hT hI hE hM (by decide) (by decide) (by omega) sC_eq (by have e0_ : (0 : Int32).toInt = 0 := (by decide); omega) (lv_sub hl [0, 1, 2] rfl)
abbrev md_s_writeOnceEnds : Nat → Nat → Bool := mdf [(4, 0), (4, 2), (4, 3), (4, 4), (4, 5), (4, 10), (4, 11), (4, 14), (6, 1), (6, 2), (6, 4), (6, 5), (6, 6), (6, 7), (50, 99), (52, 99)]
theorem mdle_s_writeOnceEnds_s_isOrder {r k : Nat} (h : md_s_writeOnceEnds r k = false) : md_s_isOrder r k = false := mdf_le (by decide +kernel) h
theorem mdle_s_writeOnceEnds_s_runOrder {r k : Nat} (h : md_s_writeOnceEnds r k = false) : md_s_runOrder r k = false := mdf_le (by decide +kernel) h
theorem mdle_s_writeOnceEnds_s_writeEnd {r k : Nat} (h : md_s_writeOnceEnds r k = false) : md_s_writeEnd r k = false := mdf_le (by decide +kernel) h
set_option maxHeartbeats 4000000 in
set_option maxRecDepth 100000 in
theorem lt_s_writeOnceEnds_a (l : Launch) (D : va_G) (cI cZ cS cR : ClassId) (N0 : NT) (g : GS) (h : Nat) (o : Nat) (r_h : g.1 h = 2) (r_o : g.1 o = 1) {p : Program} {e : Env} {s : State} {m : MethodId} {args : Array Value} {below : List Frame} {meth : Method} {c : Code} (hB : Tz p s m meth c args cX1_writeOnceEnds 5 RX1 D cI cZ cS cR N0) (hr : meth.sig.returnType = (some .int))    : ∀ (kf : Nat) (g1 : GS) (cd : Int32) (w : Int32) (cs : Int32)  (H : Heap) (locs : List Loc) (ls : Array Slot), Tv D cI cZ cS cR N0 s.heap H locs g1 → Inv g1 → Ex g g1 → Sm md_s_writeOnceEnds g g1 → 0 ≤ cd.toInt → cd.toInt ≤ 2147483647 → 0 ≤ w.toInt → w.toInt ≤ 24 → (2147483648 ≤ cd.toInt + kf) → lv_has ls 5 [(4, .int cd), (3, .int cs), (2, .int w), (0, .ref h), (1, .ref o)] → W p l e (rmx 15 0 0) s m args below meth c H locs 0 0 (MQ below (tQ D cI cZ cS cR N0 (fun v g' => ∃ (r : Int32), v = some (.int r) ∧ Inv g' ∧ Ex g g' ∧ Sm md_s_writeOnceEnds g g' ∧ (0 ≤ r.toInt ∧ r.toInt ≤ 24))) args s 0 0 (fun q => N0.1 ≤ q)) (F0 m 17 ls []) := by
  have hx := hB.1
  have hb := hB.2.1
  intro kf
  induction kf using Nat.strongRecOn with
  | ind kf ih =>
    intro g1 cd w cs H locs ls hT hI hE hM l_cd u_cd l_w u_w hk hl
    have r_1 : g1.1 h = 2 := Ex.r hE r_h (by decide)
    have r_2 : g1.1 o = 1 := Ex.r hE r_o (by decide)
    have rg := i_rng cs
    refine lv_iload hx hb dX1_writeOnceEnds_17 (lv_at hl 0 rfl) ?_
    refine lv_iload_n hx hb dX1_writeOnceEnds_19 rfl (lv_at hl 1 rfl) ?_
    refine lv_icmp_ge (tgt := 71) hx hb dX1_writeOnceEnds_20 (by decide) (fun c_3 => ?_) (fun c_3 => ?_)
    · have c_3' : cs.toInt ≤ cd.toInt := i_le c_3 rfl rfl
      refine lv_iload_n hx hb dX1_writeOnceEnds_71 rfl (lv_at hl 2 rfl) ?_
      exact t_iret hB hr hT (Nat.le_of_ble_eq_true rfl) (Nat.le_of_ble_eq_true rfl) dX1_writeOnceEnds_72 ⟨w, rfl, hI, hE, hM, ⟨by omega, by omega⟩⟩
    · have c_3' : cd.toInt < cs.toInt := i_nle c_3 rfl rfl
      refine lv_iload_n hx hb dX1_writeOnceEnds_23 rfl (lv_at hl 2 rfl) ?_
      refine lv_bipush (v := 24) hx hb dX1_writeOnceEnds_24 (by decide) ?_
      refine lv_icmp_ge (tgt := 71) hx hb dX1_writeOnceEnds_26 (by decide) (fun c_4 => ?_) (fun c_4 => ?_)
      · have c_4' : 24 ≤ w.toInt := i_le c_4 (by decide) rfl
        refine lv_iload_n hx hb dX1_writeOnceEnds_71 rfl (lv_at hl 2 rfl) ?_
        exact t_iret hB hr hT (Nat.le_of_ble_eq_true rfl) (Nat.le_of_ble_eq_true rfl) dX1_writeOnceEnds_72 ⟨w, rfl, hI, hE, hM, ⟨by omega, by omega⟩⟩
      · have c_4' : w.toInt < 24 := i_nle c_4 (by decide) rfl
        refine lv_aload_n hx hb dX1_writeOnceEnds_29 rfl (lv_at hl 3 rfl) ?_
        refine lv_iload hx hb dX1_writeOnceEnds_30 (lv_at hl 0 rfl) ?_
        refine lv_aload_n hx hb dX1_writeOnceEnds_32 rfl (lv_at hl 4 rfl) ?_
        obtain ⟨v_5, e_v_5, l_v_5, u_v_5⟩ := f_1_3 hI r_2
        refine t_get (ci := 0) (v := .int v_5) hB hT (ro_ci r_2 rfl) rfl 3 (by decide) k_254 e_v_5 dX1_writeOnceEnds_33 ?_
        refine lv_iconst (v := (-1)) hx hb dX1_writeOnceEnds_36 (by decide) ?_
        refine t_callV (n := 3) (As := [.int cd, .int v_5, .int (-1)]) (rest := []) (ci := 1) hB hT hl.1 (s_isOrder l D cI cZ cS cR N0 g1 hI h cd v_5 (-1) r_1 (by have q0 : ((-1) : Int32).toInt = (-1) := (by decide); omega)) (ro_ci r_1 rfl) rfl k_649 k_64 k_646 k_648 k_15 (by decide +kernel) ⟨(Nat.le_of_ble_eq_true rfl), (Nat.le_of_ble_eq_true rfl)⟩ rfl (Nat.le_of_ble_eq_true rfl) ⟨(Nat.le_of_ble_eq_true rfl), (Nat.le_of_ble_eq_true rfl)⟩ dX1_writeOnceEnds_37 (fun v g_6 H locs hp hT => ?_)
        obtain ⟨r_7, rfl, hI, x_10, m_9, f_8⟩ := hp
        have hM : Sm md_s_writeOnceEnds g g_6 := hM.tr hE (m_9.mo (fun r k h => mdle_s_writeOnceEnds_s_isOrder h))
        have hE : Ex g g_6 := hE.tr x_10
        have r_11 : g_6.1 h = 2 := (Ex.r x_10 r_1 (by decide))
        have r_12 : g_6.1 o = 1 := (Ex.r x_10 r_2 (by decide))
        have kn_13 : g_6.2.1 o 3 = .int v_5 := (Sm.v m_9 r_2 (by decide) rfl e_v_5)
        refine W.eq (g2 := F0 m 40 ls [.int r_7]) rfl ?_
        have qc_14 : ((-1) : Int32).toInt = (-1) := (by decide)
        rcases f_8 with ⟨rfl, hw_15, hw_16⟩ | rfl
        · refine W.eq (g2 := F0 m 40 ls [.int 1]) rfl ?_
          refine lv_if_eq (tgt := 65) hx hb dX1_writeOnceEnds_40 (by decide) (fun c_ => absurd c_ (by decide)) (fun c_ => ?_)
          refine lv_aload_n hx hb dX1_writeOnceEnds_43 rfl (lv_at hl 3 rfl) ?_
          refine lv_aload_n hx hb dX1_writeOnceEnds_44 rfl (lv_at hl 4 rfl) ?_
          refine lv_aload_n hx hb dX1_writeOnceEnds_45 rfl (lv_at hl 4 rfl) ?_
          refine t_get (ci := 0) (v := .int v_5) hB hT (ro_ci r_12 rfl) rfl 3 (by decide) k_254 kn_13 dX1_writeOnceEnds_46 ?_
          refine t_callV (n := 2) (As := [.ref o, .int v_5]) (rest := []) (ci := 1) hB hT hl.1 (s_runOrder l D cI cZ cS cR N0 g_6 hI h o v_5 r_11 r_12 (by omega) (by omega)) (ro_ci r_11 rfl) rfl k_653 k_64 k_650 k_652 k_16 (by decide +kernel) ⟨(Nat.le_of_ble_eq_true rfl), (Nat.le_of_ble_eq_true rfl)⟩ rfl (Nat.le_of_ble_eq_true rfl) ⟨(Nat.le_of_ble_eq_true rfl), (Nat.le_of_ble_eq_true rfl)⟩ dX1_writeOnceEnds_49 (fun v g_17 H locs hp hT => ?_)
          obtain ⟨rfl, hI, x_19, m_18⟩ := hp
          have hM : Sm md_s_writeOnceEnds g g_17 := hM.tr hE (m_18.mo (fun r k h => mdle_s_writeOnceEnds_s_runOrder h))
          have hE : Ex g g_17 := hE.tr x_19
          have r_20 : g_17.1 h = 2 := (Ex.r x_19 r_11 (by decide))
          have r_21 : g_17.1 o = 1 := (Ex.r x_19 r_12 (by decide))
          have kn_22 : g_17.2.1 o 3 = .int v_5 := (Sm.v m_18 r_12 (by decide) rfl kn_13)
          refine W.eq (g2 := F0 m 52 ls []) rfl ?_
          refine lv_aload_n hx hb dX1_writeOnceEnds_52 rfl (lv_at hl 3 rfl) ?_
          refine lv_aload_n hx hb dX1_writeOnceEnds_53 rfl (lv_at hl 3 rfl) ?_
          obtain ⟨v_23, e_v_23, r_v_23, n_v_23⟩ := f_2_7 hI r_20
          refine t_get (ci := 1) (v := .ref v_23) hB hT (ro_ci r_20 rfl) rfl 7 (by decide) k_284 e_v_23 dX1_writeOnceEnds_54 ?_
          refine lv_iload_n hx hb dX1_writeOnceEnds_57 rfl (lv_at hl 2 rfl) ?_
          have i_q_24 : vp_in w 25 := (i_in (n := 25) rfl (by omega) (by omega))
          obtain ⟨q_24, e_q_24, r_q_24, n_q_24⟩ := hI.q r_v_23 n_v_23 (i_cl i_q_24)
          refine t_aaldR hB hT r_v_23 n_v_23 i_q_24 e_q_24 dX1_writeOnceEnds_58 ?_
          refine t_callV (n := 1) (As := [.ref q_24]) (rest := []) (ci := 1) hB hT hl.1 (s_writeEnd l D cI cZ cS cR N0 g_17 hI h q_24 r_20 r_q_24 n_q_24) (ro_ci r_20 rfl) rfl k_657 k_64 k_654 k_656 k_17 (by decide +kernel) ⟨(Nat.le_of_ble_eq_true rfl), (Nat.le_of_ble_eq_true rfl)⟩ rfl (Nat.le_of_ble_eq_true rfl) ⟨(Nat.le_of_ble_eq_true rfl), (Nat.le_of_ble_eq_true rfl)⟩ dX1_writeOnceEnds_59 (fun v g_25 H locs hp hT => ?_)
          obtain ⟨rfl, hI, x_27, m_26⟩ := hp
          have hM : Sm md_s_writeOnceEnds g g_25 := hM.tr hE (m_26.mo (fun r k h => mdle_s_writeOnceEnds_s_writeEnd h))
          have hE : Ex g g_25 := hE.tr x_27
          have r_28 : g_25.1 h = 2 := (Ex.r x_27 r_20 (by decide))
          have r_29 : g_25.1 o = 1 := (Ex.r x_27 r_21 (by decide))
          have r_30 : g_25.1 v_23 = 43 := (Ex.r x_27 r_v_23 (by decide))
          have r_31 : g_25.1 q_24 = 50 := (Ex.r x_27 r_q_24 (by decide))
          have n_32 : g_25.2.2.1 v_23 = 25 := (Ex.n x_27 r_v_23 (by decide) n_v_23)
          have n_33 : g_25.2.2.1 q_24 = 325 := (Ex.n x_27 r_q_24 (by decide) n_q_24)
          have kn_34 : g_25.2.1 o 3 = .int v_5 := (Sm.v m_26 r_21 (by decide) rfl kn_22)
          have kn_35 : g_25.2.1 h 7 = .ref v_23 := (Sm.v m_26 r_20 (by decide) rfl e_v_23)
          refine W.eq (g2 := F0 m 62 ls []) rfl ?_
          obtain ⟨z_36, ez_36⟩ : ∃ z : Int32, z = w + 1 := ⟨_, rfl⟩
          have e_z_36 : z_36.toInt = w.toInt + 1 := i_add ez_36 rfl (by decide) (by omega) (by omega)
          refine lv_iinc (v := z_36) (lv' := [(2, .int z_36), (4, .int cd), (3, .int cs), (0, .ref h), (1, .ref o)]) hx hb dX1_writeOnceEnds_62 hl (k := 2) rfl (by rw [ez_36]; rfl) (by decide) rfl (fun ls hl => ?_)
          obtain ⟨z_37, ez_37⟩ : ∃ z : Int32, z = cd + 1 := ⟨_, rfl⟩
          have e_z_37 : z_37.toInt = cd.toInt + 1 := i_add ez_37 rfl (by decide) (by omega) (by omega)
          refine lv_iinc (v := z_37) (lv' := [(4, .int z_37), (2, .int z_36), (3, .int cs), (0, .ref h), (1, .ref o)]) hx hb dX1_writeOnceEnds_65 hl (k := 1) rfl (by rw [ez_37]; rfl) (by decide) rfl (fun ls hl => ?_)
          refine lv_goto (tgt := 17) hx hb dX1_writeOnceEnds_68 (by decide) ?_
          exact ih (kf - 1) (by omega) g_25 z_37 z_36 cs H locs ls hT hI hE hM (by omega) (by omega) (by omega) (by omega) (by have e0_ : (0 : Int32).toInt = 0 := (by decide); omega) (lv_sub hl [0, 2, 1, 3, 4] rfl)
        · refine W.eq (g2 := F0 m 40 ls [.int 0]) rfl ?_
          refine lv_if_eq (tgt := 65) hx hb dX1_writeOnceEnds_40 (by decide) (fun c_ => ?_) (fun c_ => absurd (by decide) c_)
          obtain ⟨z_38, ez_38⟩ : ∃ z : Int32, z = cd + 1 := ⟨_, rfl⟩
          have e_z_38 : z_38.toInt = cd.toInt + 1 := i_add ez_38 rfl (by decide) (by omega) (by omega)
          refine lv_iinc (v := z_38) (lv' := [(4, .int z_38), (3, .int cs), (2, .int w), (0, .ref h), (1, .ref o)]) hx hb dX1_writeOnceEnds_65 hl (k := 0) rfl (by rw [ez_38]; rfl) (by decide) rfl (fun ls hl => ?_)
          refine lv_goto (tgt := 17) hx hb dX1_writeOnceEnds_68 (by decide) ?_
          exact ih (kf - 1) (by omega) g_6 z_38 w cs H locs ls hT hI hE hM (by omega) (by omega) (by omega) (by omega) (by have e0_ : (0 : Int32).toInt = 0 := (by decide); omega) (lv_sub hl [0, 1, 2, 3, 4] rfl)
set_option maxHeartbeats 4000000 in
set_option maxRecDepth 100000 in
theorem s_writeOnceEnds (l : Launch) (D : va_G) (cI cZ cS cR : ClassId) (N0 : NT) (g : GS) (hI : Inv g) (h : Nat) (o : Nat) (r_h : g.1 h = 2) (r_o : g.1 o = 1) : Ty l D cI cZ cS cR N0 yX1_writeOnceEnds cX1_writeOnceEnds 5 (some .int) 15 0 0 [.ref h, .ref o] g (fun v g' => ∃ (r : Int32), v = some (.int r) ∧ Inv g' ∧ Ex g g' ∧ Sm md_s_writeOnceEnds g g' ∧ (0 ≤ r.toInt ∧ r.toInt ≤ 24)) := by
  refine t_enter (by decide) (Nat.le_of_ble_eq_true rfl) ?_
  intro p e s m args below meth c ls H locs hB hr hin hl hT
  have hx := hB.1
  have hb := hB.2.1
  have hl : lv_has ls 5 [(0, .ref h), (1, .ref o)] := hl
  have hE : Ex g g := Ex.rf
  have hM : Sm md_s_writeOnceEnds g g := Sm.rf
  refine lv_iconst (v := 0) hx hb dX1_writeOnceEnds_0 (by decide) ?_
  refine lv_istore_n (lv' := [(2, .int 0), (0, .ref h), (1, .ref o)]) hx hb dX1_writeOnceEnds_1 rfl hl (by decide) rfl (fun ls hl => ?_)
  refine lv_aload_n hx hb dX1_writeOnceEnds_2 rfl (lv_at hl 2 rfl) ?_
  obtain ⟨v_1, e_v_1, l_v_1, u_v_1⟩ := f_1_3 hI r_o
  refine t_get (ci := 0) (v := .int v_1) hB hT (ro_ci r_o rfl) rfl 3 (by decide) k_254 e_v_1 dX1_writeOnceEnds_3 ?_
  refine lv_aload_n hx hb dX1_writeOnceEnds_6 rfl (lv_at hl 2 rfl) ?_
  refine t_get (ci := 0) (v := .int v_1) hB hT (ro_ci r_o rfl) rfl 3 (by decide) k_254 e_v_1 dX1_writeOnceEnds_7 ?_
  refine t_callS (n := 2) (As := [.int v_1, .int v_1]) (rest := []) hB hT hl.1 (s_power l D cI cZ cS cR N0 g hI v_1 v_1 ) k_645 k_64 k_643 k_644 (by decide +kernel) ⟨(Nat.le_of_ble_eq_true rfl), (Nat.le_of_ble_eq_true rfl)⟩ rfl (Nat.le_of_ble_eq_true rfl) ⟨(Nat.le_of_ble_eq_true rfl), (Nat.le_of_ble_eq_true rfl)⟩ dX1_writeOnceEnds_10 (fun v g_2 H locs hp hT => ?_)
  obtain ⟨r_3, rfl, eg⟩ := hp
  rw [eg] at hT
  clear eg
  refine W.eq (g2 := F0 m 13 ls [.int r_3]) rfl ?_
  refine lv_istore_n (lv' := [(3, .int r_3), (2, .int 0), (0, .ref h), (1, .ref o)]) hx hb dX1_writeOnceEnds_13 rfl hl (by decide) rfl (fun ls hl => ?_)
  refine lv_iconst (v := 0) hx hb dX1_writeOnceEnds_14 (by decide) ?_
  refine lv_istore (lv' := [(4, .int 0), (3, .int r_3), (2, .int 0), (0, .ref h), (1, .ref o)]) hx hb dX1_writeOnceEnds_15 hl (by decide) rfl (fun ls hl => ?_)
  exact lt_s_writeOnceEnds_a l D cI cZ cS cR N0 g h o r_h r_o hB hr   2147483648 g (0 : Int32) (0 : Int32) r_3 H locs ls hT hI hE hM (by decide) (by decide) (by decide) (by decide) (by have e0_ : (0 : Int32).toInt = 0 := (by decide); omega) (lv_sub hl [0, 1, 2, 3, 4] rfl)
abbrev md_s_isSameEnd : Nat → Nat → Bool := mdf []
set_option maxHeartbeats 4000000 in
set_option maxRecDepth 100000 in
theorem lt_s_isSameEnd_a (l : Launch) (D : va_G) (cI cZ cS cR : ClassId) (N0 : NT) (g : GS) (h : Nat) (o : Nat) (r_h : g.1 h = 50) (n_h : g.2.2.1 h = 325) (r_o : g.1 o = 50) (n_o : g.2.2.1 o = 325) {p : Program} {e : Env} {s : State} {m : MethodId} {args : Array Value} {below : List Frame} {meth : Method} {c : Code} (hB : Tz p s m meth c args cX1_isSameEnd 4 RX1 D cI cZ cS cR N0) (hr : meth.sig.returnType = (some .boolean))    : ∀ (kf : Nat) (i : Int32) (le : Int32)  (H : Heap) (locs : List Loc) (ls : Array Slot), Tv D cI cZ cS cR N0 s.heap H locs g → Inv g → Ex g g → Sm md_s_isSameEnd g g → 0 ≤ i.toInt → i.toInt ≤ 325 → le.toInt ≤ 325 → (325 ≤ i.toInt + kf) → lv_has ls 4 [(3, .int i), (2, .int le), (0, .ref h), (1, .ref o)] → W p l e (rmx 0 0 0) s m args below meth c H locs 0 0 (MQ below (tQ D cI cZ cS cR N0 (fun v g' => ∃ (r : Int32), v = some (.int r) ∧ g' = g ∧ (r = 1 ∨ r = 0))) args s 0 0 (fun q => N0.1 ≤ q)) (F0 m 14 ls []) := by
  have hx := hB.1
  have hb := hB.2.1
  intro kf
  induction kf using Nat.strongRecOn with
  | ind kf ih =>
    intro i le H locs ls hT hI hE hM l_i u_i u_le hk hl
    have r_1 : g.1 h = 50 := Ex.r hE r_h (by decide)
    have n_2 : g.2.2.1 h = 325 := Ex.n hE r_h (by decide) n_h
    have r_3 : g.1 o = 50 := Ex.r hE r_o (by decide)
    have n_4 : g.2.2.1 o = 325 := Ex.n hE r_o (by decide) n_o
    refine lv_iload_n hx hb dX1_isSameEnd_14 rfl (lv_at hl 0 rfl) ?_
    refine lv_iload_n hx hb dX1_isSameEnd_15 rfl (lv_at hl 1 rfl) ?_
    refine lv_icmp_ge (tgt := 36) hx hb dX1_isSameEnd_16 (by decide) (fun c_5 => ?_) (fun c_5 => ?_)
    · have c_5' : le.toInt ≤ i.toInt := i_le c_5 rfl rfl
      refine lv_iconst (v := 1) hx hb dX1_isSameEnd_36 (by decide) ?_
      exact t_zret hB hr rfl hT (Nat.le_of_ble_eq_true rfl) (Nat.le_of_ble_eq_true rfl) dX1_isSameEnd_37 ⟨1, rfl, rfl, (Or.inl rfl)⟩
    · have c_5' : i.toInt < le.toInt := i_nle c_5 rfl rfl
      refine lv_aload_n hx hb dX1_isSameEnd_19 rfl (lv_at hl 2 rfl) ?_
      refine lv_iload_n hx hb dX1_isSameEnd_20 rfl (lv_at hl 0 rfl) ?_
      have i_u_6 : vp_in i 325 := (i_in (n := 325) rfl (by omega) (by omega))
      refine t_iald hB hT (ro_in r_1 (by decide)) n_2 i_u_6 rfl dX1_isSameEnd_21 ?_
      refine lv_topi (fun u_6 e_u_6 => ?_)
      refine lv_aload_n hx hb dX1_isSameEnd_22 rfl (lv_at hl 3 rfl) ?_
      refine lv_iload_n hx hb dX1_isSameEnd_23 rfl (lv_at hl 0 rfl) ?_
      have i_u_7 : vp_in i 325 := (i_in (n := 325) rfl (by omega) (by omega))
      refine t_iald hB hT (ro_in r_3 (by decide)) n_4 i_u_7 rfl dX1_isSameEnd_24 ?_
      refine lv_topi (fun u_7 e_u_7 => ?_)
      refine lv_icmp_eq (tgt := 30) hx hb dX1_isSameEnd_25 (by decide) (fun c_8 => ?_) (fun c_8 => ?_)
      · have c_8' : u_6.toInt = u_7.toInt := i_eq c_8 rfl rfl
        obtain ⟨z_9, ez_9⟩ : ∃ z : Int32, z = i + 1 := ⟨_, rfl⟩
        have e_z_9 : z_9.toInt = i.toInt + 1 := i_add ez_9 rfl (by decide) (by omega) (by omega)
        refine lv_iinc (v := z_9) (lv' := [(3, .int z_9), (2, .int le), (0, .ref h), (1, .ref o)]) hx hb dX1_isSameEnd_30 hl (k := 0) rfl (by rw [ez_9]; rfl) (by decide) rfl (fun ls hl => ?_)
        refine lv_goto (tgt := 14) hx hb dX1_isSameEnd_33 (by decide) ?_
        exact ih (kf - 1) (by omega) z_9 le H locs ls hT hI hE hM (by omega) (by omega) (by omega) (by have e0_ : (0 : Int32).toInt = 0 := (by decide); omega) (lv_sub hl [0, 1, 2, 3] rfl)
      · have c_8' : u_6.toInt ≠ u_7.toInt := i_ne c_8 rfl rfl
        refine lv_iconst (v := 0) hx hb dX1_isSameEnd_28 (by decide) ?_
        exact t_zret hB hr rfl hT (Nat.le_of_ble_eq_true rfl) (Nat.le_of_ble_eq_true rfl) dX1_isSameEnd_29 ⟨0, rfl, rfl, (Or.inr rfl)⟩
set_option maxHeartbeats 4000000 in
set_option maxRecDepth 100000 in
theorem s_isSameEnd (l : Launch) (D : va_G) (cI cZ cS cR : ClassId) (N0 : NT) (g : GS) (hI : Inv g) (h : Nat) (o : Nat) (r_h : g.1 h = 50) (n_h : g.2.2.1 h = 325) (r_o : g.1 o = 50) (n_o : g.2.2.1 o = 325) : Ty l D cI cZ cS cR N0 yX1_isSameEnd cX1_isSameEnd 4 (some .boolean) 0 0 0 [.ref h, .ref o] g (fun v g' => ∃ (r : Int32), v = some (.int r) ∧ g' = g ∧ (r = 1 ∨ r = 0)) := by
  refine t_enter (by decide) (Nat.le_of_ble_eq_true rfl) ?_
  intro p e s m args below meth c ls H locs hB hr hin hl hT
  have hx := hB.1
  have hb := hB.2.1
  have hl : lv_has ls 4 [(0, .ref h), (1, .ref o)] := hl
  have hE : Ex g g := Ex.rf
  have hM : Sm md_s_isSameEnd g g := Sm.rf
  refine lv_bipush (v := 25) hx hb dX1_isSameEnd_0 (by decide) ?_
  refine lv_aload_n hx hb dX1_isSameEnd_2 rfl (lv_at hl 0 rfl) ?_
  refine lv_iconst (v := 0) hx hb dX1_isSameEnd_3 (by decide) ?_
  have i_u_1 : vp_in (0 : Int32) 325 := (by unfold vp_in; decide)
  refine t_iald hB hT (ro_in r_h (by decide)) n_h i_u_1 rfl dX1_isSameEnd_4 ?_
  refine lv_topi (fun u_1 e_u_1 => ?_)
  refine lv_iadd hx hb dX1_isSameEnd_5 ?_
  refine lv_topi (fun z_2 ez_2 => ?_)
  refine lv_aload_n hx hb dX1_isSameEnd_6 rfl (lv_at hl 0 rfl) ?_
  refine t_alen (v := 325) hB hT (ro_in r_h (by decide)) n_h rfl dX1_isSameEnd_7 ?_
  refine t_min hB k_628 k_560 k_63 k_561 hl.1 (Nat.le_of_ble_eq_true rfl) (Nat.le_of_ble_eq_true rfl) (Nat.le_of_ble_eq_true rfl) (Nat.le_of_ble_eq_true rfl) rfl dX1_isSameEnd_8 ?_
  refine lv_topi (fun z_3 ez_3 => ?_)
  have e_z_3 := i_min (a := z_2.toInt) (b := 325) ez_3 rfl (by decide)
  refine lv_istore_n (lv' := [(2, .int z_3), (0, .ref h), (1, .ref o)]) hx hb dX1_isSameEnd_11 rfl hl (by decide) rfl (fun ls hl => ?_)
  refine lv_iconst (v := 0) hx hb dX1_isSameEnd_12 (by decide) ?_
  refine lv_istore_n (lv' := [(3, .int 0), (2, .int z_3), (0, .ref h), (1, .ref o)]) hx hb dX1_isSameEnd_13 rfl hl (by decide) rfl (fun ls hl => ?_)
  exact lt_s_isSameEnd_a l D cI cZ cS cR N0 g h o r_h n_h r_o n_o hB hr   325 (0 : Int32) z_3 H locs ls hT hI hE hM (by decide) (by decide) (by omega) (by have e0_ : (0 : Int32).toInt = 0 := (by decide); omega) (lv_sub hl [0, 1, 2, 3] rfl)
abbrev md_s_isAmongEnds : Nat → Nat → Bool := mdf []
set_option maxHeartbeats 4000000 in
set_option maxRecDepth 100000 in
theorem lt_s_isAmongEnds_a (l : Launch) (D : va_G) (cI cZ cS cR : ClassId) (N0 : NT) (g : GS) (h : Nat) (n : Int32) (r_h : g.1 h = 2) (l_n : 0 ≤ n.toInt) (u_n : n.toInt ≤ 24) {p : Program} {e : Env} {s : State} {m : MethodId} {args : Array Value} {below : List Frame} {meth : Method} {c : Code} (hB : Tz p s m meth c args cX1_isAmongEnds 3 RX1 D cI cZ cS cR N0) (hr : meth.sig.returnType = (some .boolean))    : ∀ (kf : Nat) (i : Int32)  (H : Heap) (locs : List Loc) (ls : Array Slot), Tv D cI cZ cS cR N0 s.heap H locs g → Inv g → Ex g g → Sm md_s_isAmongEnds g g → 0 ≤ i.toInt → i.toInt ≤ 24 → (24 ≤ i.toInt + kf) → lv_has ls 3 [(2, .int i), (0, .ref h), (1, .int n)] → W p l e (rmx 1 0 0) s m args below meth c H locs 0 0 (MQ below (tQ D cI cZ cS cR N0 (fun v g' => ∃ (r : Int32), v = some (.int r) ∧ g' = g ∧ (r = 1 ∨ r = 0))) args s 0 0 (fun q => N0.1 ≤ q)) (F0 m 2 ls []) := by
  have hx := hB.1
  have hb := hB.2.1
  intro kf
  induction kf using Nat.strongRecOn with
  | ind kf ih =>
    intro i H locs ls hT hI hE hM l_i u_i hk hl
    have r_1 : g.1 h = 2 := Ex.r hE r_h (by decide)
    refine lv_iload_n hx hb dX1_isAmongEnds_2 rfl (lv_at hl 0 rfl) ?_
    refine lv_iload_n hx hb dX1_isAmongEnds_3 rfl (lv_at hl 2 rfl) ?_
    refine lv_icmp_ge (tgt := 34) hx hb dX1_isAmongEnds_4 (by decide) (fun c_2 => ?_) (fun c_2 => ?_)
    · have c_2' : n.toInt ≤ i.toInt := i_le c_2 rfl rfl
      refine lv_iconst (v := 0) hx hb dX1_isAmongEnds_34 (by decide) ?_
      exact t_zret hB hr rfl hT (Nat.le_of_ble_eq_true rfl) (Nat.le_of_ble_eq_true rfl) dX1_isAmongEnds_35 ⟨0, rfl, rfl, (Or.inr rfl)⟩
    · have c_2' : i.toInt < n.toInt := i_nle c_2 rfl rfl
      refine lv_aload_n hx hb dX1_isAmongEnds_7 rfl (lv_at hl 1 rfl) ?_
      obtain ⟨v_3, e_v_3, r_v_3, n_v_3⟩ := f_2_7 hI r_1
      refine t_get (ci := 1) (v := .ref v_3) hB hT (ro_ci r_1 rfl) rfl 7 (by decide) k_284 e_v_3 dX1_isAmongEnds_8 ?_
      refine lv_iload_n hx hb dX1_isAmongEnds_11 rfl (lv_at hl 0 rfl) ?_
      have i_q_4 : vp_in i 25 := (i_in (n := 25) rfl (by omega) (by omega))
      obtain ⟨q_4, e_q_4, r_q_4, n_q_4⟩ := hI.q r_v_3 n_v_3 (i_cl i_q_4)
      refine t_aaldR hB hT r_v_3 n_v_3 i_q_4 e_q_4 dX1_isAmongEnds_12 ?_
      refine lv_aload_n hx hb dX1_isAmongEnds_13 rfl (lv_at hl 1 rfl) ?_
      refine t_get (ci := 1) (v := .ref v_3) hB hT (ro_ci r_1 rfl) rfl 7 (by decide) k_284 e_v_3 dX1_isAmongEnds_14 ?_
      refine lv_bipush (v := 24) hx hb dX1_isAmongEnds_17 (by decide) ?_
      have i_q_5 : vp_in (24 : Int32) 25 := (by unfold vp_in; decide)
      obtain ⟨q_5, e_q_5, r_q_5, n_q_5⟩ := hI.q r_v_3 n_v_3 (i_cl i_q_5)
      refine t_aaldR hB hT r_v_3 n_v_3 i_q_5 e_q_5 dX1_isAmongEnds_19 ?_
      refine t_callS (n := 2) (As := [.ref q_4, .ref q_5]) (rest := []) hB hT hl.1 (s_isSameEnd l D cI cZ cS cR N0 g hI q_4 q_5 r_q_4 n_q_4 r_q_5 n_q_5) k_664 k_64 k_662 k_663 (by decide +kernel) ⟨(Nat.le_of_ble_eq_true rfl), (Nat.le_of_ble_eq_true rfl)⟩ rfl (Nat.le_of_ble_eq_true rfl) ⟨(Nat.le_of_ble_eq_true rfl), (Nat.le_of_ble_eq_true rfl)⟩ dX1_isAmongEnds_20 (fun v g_6 H locs hp hT => ?_)
      obtain ⟨r_7, rfl, eg, f_8⟩ := hp
      rw [eg] at hT
      clear eg
      refine W.eq (g2 := F0 m 23 ls [.int r_7]) rfl ?_
      rcases f_8 with rfl | rfl
      · refine W.eq (g2 := F0 m 23 ls [.int 1]) rfl ?_
        refine lv_if_eq (tgt := 28) hx hb dX1_isAmongEnds_23 (by decide) (fun c_ => absurd c_ (by decide)) (fun c_ => ?_)
        refine lv_iconst (v := 1) hx hb dX1_isAmongEnds_26 (by decide) ?_
        exact t_zret hB hr rfl hT (Nat.le_of_ble_eq_true rfl) (Nat.le_of_ble_eq_true rfl) dX1_isAmongEnds_27 ⟨1, rfl, rfl, (Or.inl rfl)⟩
      · refine W.eq (g2 := F0 m 23 ls [.int 0]) rfl ?_
        refine lv_if_eq (tgt := 28) hx hb dX1_isAmongEnds_23 (by decide) (fun c_ => ?_) (fun c_ => absurd (by decide) c_)
        obtain ⟨z_11, ez_11⟩ : ∃ z : Int32, z = i + 1 := ⟨_, rfl⟩
        have e_z_11 : z_11.toInt = i.toInt + 1 := i_add ez_11 rfl (by decide) (by omega) (by omega)
        refine lv_iinc (v := z_11) (lv' := [(2, .int z_11), (0, .ref h), (1, .int n)]) hx hb dX1_isAmongEnds_28 hl (k := 0) rfl (by rw [ez_11]; rfl) (by decide) rfl (fun ls hl => ?_)
        refine lv_goto (tgt := 2) hx hb dX1_isAmongEnds_31 (by decide) ?_
        exact ih (kf - 1) (by omega) z_11 H locs ls hT hI hE hM (by omega) (by omega) (by have e0_ : (0 : Int32).toInt = 0 := (by decide); omega) (lv_sub hl [0, 1, 2] rfl)
set_option maxHeartbeats 4000000 in
set_option maxRecDepth 100000 in
theorem s_isAmongEnds (l : Launch) (D : va_G) (cI cZ cS cR : ClassId) (N0 : NT) (g : GS) (hI : Inv g) (h : Nat) (n : Int32) (r_h : g.1 h = 2) (l_n : 0 ≤ n.toInt) (u_n : n.toInt ≤ 24) : Ty l D cI cZ cS cR N0 yX1_isAmongEnds cX1_isAmongEnds 3 (some .boolean) 1 0 0 [.ref h, .int n] g (fun v g' => ∃ (r : Int32), v = some (.int r) ∧ g' = g ∧ (r = 1 ∨ r = 0)) := by
  refine t_enter (by decide) (Nat.le_of_ble_eq_true rfl) ?_
  intro p e s m args below meth c ls H locs hB hr hin hl hT
  have hx := hB.1
  have hb := hB.2.1
  have hl : lv_has ls 3 [(0, .ref h), (1, .int n)] := hl
  have hE : Ex g g := Ex.rf
  have hM : Sm md_s_isAmongEnds g g := Sm.rf
  refine lv_iconst (v := 0) hx hb dX1_isAmongEnds_0 (by decide) ?_
  refine lv_istore_n (lv' := [(2, .int 0), (0, .ref h), (1, .int n)]) hx hb dX1_isAmongEnds_1 rfl hl (by decide) rfl (fun ls hl => ?_)
  exact lt_s_isAmongEnds_a l D cI cZ cS cR N0 g h n r_h l_n u_n hB hr   24 (0 : Int32) H locs ls hT hI hE hM (by decide) (by decide) (by have e0_ : (0 : Int32).toInt = 0 := (by decide); omega) (lv_sub hl [0, 1, 2] rfl)
abbrev md_s_ordersOf : Nat → Nat → Bool := mdf [(4, 0), (4, 2), (4, 3), (4, 4), (4, 5), (4, 10), (4, 11), (4, 14), (6, 1), (6, 2), (6, 4), (6, 5), (6, 6), (6, 7), (50, 99), (52, 99)]
theorem mdle_s_ordersOf_s_isOrder {r k : Nat} (h : md_s_ordersOf r k = false) : md_s_isOrder r k = false := mdf_le (by decide +kernel) h
theorem mdle_s_ordersOf_s_runOrder {r k : Nat} (h : md_s_ordersOf r k = false) : md_s_runOrder r k = false := mdf_le (by decide +kernel) h
theorem mdle_s_ordersOf_s_writeEnd {r k : Nat} (h : md_s_ordersOf r k = false) : md_s_writeEnd r k = false := mdf_le (by decide +kernel) h
theorem mdle_s_ordersOf_s_writeOnceEnds {r k : Nat} (h : md_s_ordersOf r k = false) : md_s_writeOnceEnds r k = false := mdf_le (by decide +kernel) h
set_option maxHeartbeats 4000000 in
set_option maxRecDepth 100000 in
theorem lt_s_ordersOf_a (l : Launch) (D : va_G) (cI cZ cS cR : ClassId) (N0 : NT) (g : GS) (h : Nat) (o : Nat) (n : Int32) (x1 : Int32) (r_h : g.1 h = 2) (r_o : g.1 o = 1) {p : Program} {e : Env} {s : State} {m : MethodId} {args : Array Value} {below : List Frame} {meth : Method} {c : Code} (hB : Tz p s m meth c args cX1_ordersOf 8 RX1 D cI cZ cS cR N0) (hr : meth.sig.returnType = (some .int))    : ∀ (kf : Nat) (g1 : GS) (cd : Int32) (cs : Int32) (sm : Int32) (oe : Int32)  (H : Heap) (locs : List Loc) (ls : Array Slot), Tv D cI cZ cS cR N0 s.heap H locs g1 → Inv g1 → Ex g g1 → Sm md_s_ordersOf g g1 → 0 ≤ cd.toInt → cd.toInt ≤ 2147483647 → 0 ≤ oe.toInt → oe.toInt ≤ 24 → (2147483648 ≤ cd.toInt + kf) → lv_has ls 8 [(7, .int cd), (6, .int cs), (5, .int sm), (4, .int oe), (0, .ref h), (1, .ref o), (2, .int n), (3, .int x1)] → W p l e (rmx 16 0 0) s m args below meth c H locs 0 0 (MQ below (tQ D cI cZ cS cR N0 (fun v g' => ∃ (r : Int32), v = some (.int r) ∧ Inv g' ∧ Ex g g' ∧ Sm md_s_ordersOf g g')) args s 0 0 (fun q => N0.1 ≤ q)) (F0 m 36 ls []) := by
  have hx := hB.1
  have hb := hB.2.1
  intro kf
  induction kf using Nat.strongRecOn with
  | ind kf ih =>
    intro g1 cd cs sm oe H locs ls hT hI hE hM l_cd u_cd l_oe u_oe hk hl
    have r_1 : g1.1 h = 2 := Ex.r hE r_h (by decide)
    have r_2 : g1.1 o = 1 := Ex.r hE r_o (by decide)
    have rg := i_rng cs
    refine lv_iload hx hb dX1_ordersOf_36 (lv_at hl 0 rfl) ?_
    refine lv_iload hx hb dX1_ordersOf_38 (lv_at hl 1 rfl) ?_
    refine lv_icmp_ge (tgt := 115) hx hb dX1_ordersOf_40 (by decide) (fun c_3 => ?_) (fun c_3 => ?_)
    · have c_3' : cs.toInt ≤ cd.toInt := i_le c_3 rfl rfl
      refine lv_iload hx hb dX1_ordersOf_115 (lv_at hl 2 rfl) ?_
      exact t_iret hB hr hT (Nat.le_of_ble_eq_true rfl) (Nat.le_of_ble_eq_true rfl) dX1_ordersOf_117 ⟨sm, rfl, hI, hE, hM⟩
    · have c_3' : cd.toInt < cs.toInt := i_nle c_3 rfl rfl
      refine lv_aload_n hx hb dX1_ordersOf_43 rfl (lv_at hl 4 rfl) ?_
      refine lv_iload hx hb dX1_ordersOf_44 (lv_at hl 0 rfl) ?_
      refine lv_aload_n hx hb dX1_ordersOf_46 rfl (lv_at hl 5 rfl) ?_
      obtain ⟨v_4, e_v_4, l_v_4, u_v_4⟩ := f_1_3 hI r_2
      refine t_get (ci := 0) (v := .int v_4) hB hT (ro_ci r_2 rfl) rfl 3 (by decide) k_254 e_v_4 dX1_ordersOf_47 ?_
      refine lv_iload_n hx hb dX1_ordersOf_50 rfl (lv_at hl 6 rfl) ?_
      refine t_callV (n := 3) (As := [.int cd, .int v_4, .int n]) (rest := []) (ci := 1) hB hT hl.1 (s_isOrder l D cI cZ cS cR N0 g1 hI h cd v_4 n r_1 (by omega)) (ro_ci r_1 rfl) rfl k_649 k_64 k_646 k_648 k_15 (by decide +kernel) ⟨(Nat.le_of_ble_eq_true rfl), (Nat.le_of_ble_eq_true rfl)⟩ rfl (Nat.le_of_ble_eq_true rfl) ⟨(Nat.le_of_ble_eq_true rfl), (Nat.le_of_ble_eq_true rfl)⟩ dX1_ordersOf_51 (fun v g_5 H locs hp hT => ?_)
      obtain ⟨r_6, rfl, hI, x_9, m_8, f_7⟩ := hp
      have hM : Sm md_s_ordersOf g g_5 := hM.tr hE (m_8.mo (fun r k h => mdle_s_ordersOf_s_isOrder h))
      have hE : Ex g g_5 := hE.tr x_9
      have r_10 : g_5.1 h = 2 := (Ex.r x_9 r_1 (by decide))
      have r_11 : g_5.1 o = 1 := (Ex.r x_9 r_2 (by decide))
      have kn_12 : g_5.2.1 o 3 = .int v_4 := (Sm.v m_8 r_2 (by decide) rfl e_v_4)
      refine W.eq (g2 := F0 m 54 ls [.int r_6]) rfl ?_
      rcases f_7 with ⟨rfl, hw_13, hw_14⟩ | rfl
      · refine W.eq (g2 := F0 m 54 ls [.int 1]) rfl ?_
        refine lv_if_ne (tgt := 60) hx hb dX1_ordersOf_54 (by decide) (fun c_ => ?_) (fun c_ => absurd c_ (by decide))
        refine lv_iload_n hx hb dX1_ordersOf_60 rfl (lv_at hl 7 rfl) ?_
        refine lv_if_eq (tgt := 86) hx hb dX1_ordersOf_61 (by decide) (fun c_15 => ?_) (fun c_15 => ?_)
        · have c_15' : x1.toInt = 0 := i_eq c_15 rfl (by decide)
          refine lv_iload hx hb dX1_ordersOf_86 (lv_at hl 2 rfl) ?_
          refine lv_iload_n hx hb dX1_ordersOf_88 rfl (lv_at hl 7 rfl) ?_
          refine lv_if_eq (tgt := 101) hx hb dX1_ordersOf_89 (by decide) (fun c_16 => ?_) (fun c_16 => ?_)
          · have c_16' : x1.toInt = 0 := i_eq c_16 rfl (by decide)
            refine lv_iconst (v := 1) hx hb dX1_ordersOf_101 (by decide) ?_
            refine lv_goto (tgt := 106) hx hb dX1_ordersOf_102 (by decide) ?_
            refine lv_iadd hx hb dX1_ordersOf_106 ?_
            refine lv_topi (fun z_17 ez_17 => ?_)
            refine lv_istore (lv' := [(5, .int z_17), (7, .int cd), (6, .int cs), (4, .int oe), (0, .ref h), (1, .ref o), (2, .int n), (3, .int x1)]) hx hb dX1_ordersOf_107 hl (by decide) rfl (fun ls hl => ?_)
            obtain ⟨z_18, ez_18⟩ : ∃ z : Int32, z = cd + 1 := ⟨_, rfl⟩
            have e_z_18 : z_18.toInt = cd.toInt + 1 := i_add ez_18 rfl (by decide) (by omega) (by omega)
            refine lv_iinc (v := z_18) (lv' := [(7, .int z_18), (5, .int z_17), (6, .int cs), (4, .int oe), (0, .ref h), (1, .ref o), (2, .int n), (3, .int x1)]) hx hb dX1_ordersOf_109 hl (k := 1) rfl (by rw [ez_18]; rfl) (by decide) rfl (fun ls hl => ?_)
            refine lv_goto (tgt := 36) hx hb dX1_ordersOf_112 (by decide) ?_
            exact ih (kf - 1) (by omega) g_5 z_18 cs z_17 oe H locs ls hT hI hE hM (by omega) (by omega) (by omega) (by omega) (by have e0_ : (0 : Int32).toInt = 0 := (by decide); omega) (lv_sub hl [0, 2, 1, 3, 4, 5, 6, 7] rfl)
          · have c_16' : x1.toInt ≠ 0 := i_ne c_16 rfl (by decide)
            exact absurd c_16' (by omega)
        · have c_15' : x1.toInt ≠ 0 := i_ne c_15 rfl (by decide)
          refine lv_aload_n hx hb dX1_ordersOf_64 rfl (lv_at hl 4 rfl) ?_
          refine lv_aload_n hx hb dX1_ordersOf_65 rfl (lv_at hl 5 rfl) ?_
          refine lv_aload_n hx hb dX1_ordersOf_66 rfl (lv_at hl 5 rfl) ?_
          refine t_get (ci := 0) (v := .int v_4) hB hT (ro_ci r_11 rfl) rfl 3 (by decide) k_254 kn_12 dX1_ordersOf_67 ?_
          refine lv_iconst (v := 1) hx hb dX1_ordersOf_70 (by decide) ?_
          refine lv_iadd hx hb dX1_ordersOf_71 ?_
          refine lv_topi (fun z_19 ez_19 => ?_)
          have e_z_19 : z_19.toInt = v_4.toInt + 1 := i_add ez_19 rfl (by decide) (by omega) (by omega)
          refine t_callV (n := 2) (As := [.ref o, .int z_19]) (rest := []) (ci := 1) hB hT hl.1 (s_runOrder l D cI cZ cS cR N0 g_5 hI h o z_19 r_10 r_11 (by omega) (by omega)) (ro_ci r_10 rfl) rfl k_653 k_64 k_650 k_652 k_16 (by decide +kernel) ⟨(Nat.le_of_ble_eq_true rfl), (Nat.le_of_ble_eq_true rfl)⟩ rfl (Nat.le_of_ble_eq_true rfl) ⟨(Nat.le_of_ble_eq_true rfl), (Nat.le_of_ble_eq_true rfl)⟩ dX1_ordersOf_72 (fun v g_20 H locs hp hT => ?_)
          obtain ⟨rfl, hI, x_22, m_21⟩ := hp
          have hM : Sm md_s_ordersOf g g_20 := hM.tr hE (m_21.mo (fun r k h => mdle_s_ordersOf_s_runOrder h))
          have hE : Ex g g_20 := hE.tr x_22
          have r_23 : g_20.1 h = 2 := (Ex.r x_22 r_10 (by decide))
          have r_24 : g_20.1 o = 1 := (Ex.r x_22 r_11 (by decide))
          have kn_25 : g_20.2.1 o 3 = .int v_4 := (Sm.v m_21 r_11 (by decide) rfl kn_12)
          refine W.eq (g2 := F0 m 75 ls []) rfl ?_
          refine lv_aload_n hx hb dX1_ordersOf_75 rfl (lv_at hl 4 rfl) ?_
          refine lv_aload_n hx hb dX1_ordersOf_76 rfl (lv_at hl 4 rfl) ?_
          obtain ⟨v_26, e_v_26, r_v_26, n_v_26⟩ := f_2_7 hI r_23
          refine t_get (ci := 1) (v := .ref v_26) hB hT (ro_ci r_23 rfl) rfl 7 (by decide) k_284 e_v_26 dX1_ordersOf_77 ?_
          refine lv_bipush (v := 24) hx hb dX1_ordersOf_80 (by decide) ?_
          have i_q_27 : vp_in (24 : Int32) 25 := (by unfold vp_in; decide)
          obtain ⟨q_27, e_q_27, r_q_27, n_q_27⟩ := hI.q r_v_26 n_v_26 (i_cl i_q_27)
          refine t_aaldR hB hT r_v_26 n_v_26 i_q_27 e_q_27 dX1_ordersOf_82 ?_
          refine t_callV (n := 1) (As := [.ref q_27]) (rest := []) (ci := 1) hB hT hl.1 (s_writeEnd l D cI cZ cS cR N0 g_20 hI h q_27 r_23 r_q_27 n_q_27) (ro_ci r_23 rfl) rfl k_657 k_64 k_654 k_656 k_17 (by decide +kernel) ⟨(Nat.le_of_ble_eq_true rfl), (Nat.le_of_ble_eq_true rfl)⟩ rfl (Nat.le_of_ble_eq_true rfl) ⟨(Nat.le_of_ble_eq_true rfl), (Nat.le_of_ble_eq_true rfl)⟩ dX1_ordersOf_83 (fun v g_28 H locs hp hT => ?_)
          obtain ⟨rfl, hI, x_30, m_29⟩ := hp
          have hM : Sm md_s_ordersOf g g_28 := hM.tr hE (m_29.mo (fun r k h => mdle_s_ordersOf_s_writeEnd h))
          have hE : Ex g g_28 := hE.tr x_30
          have r_31 : g_28.1 h = 2 := (Ex.r x_30 r_23 (by decide))
          have r_32 : g_28.1 o = 1 := (Ex.r x_30 r_24 (by decide))
          have r_33 : g_28.1 v_26 = 43 := (Ex.r x_30 r_v_26 (by decide))
          have r_34 : g_28.1 q_27 = 50 := (Ex.r x_30 r_q_27 (by decide))
          have n_35 : g_28.2.2.1 v_26 = 25 := (Ex.n x_30 r_v_26 (by decide) n_v_26)
          have n_36 : g_28.2.2.1 q_27 = 325 := (Ex.n x_30 r_q_27 (by decide) n_q_27)
          have kn_37 : g_28.2.1 o 3 = .int v_4 := (Sm.v m_29 r_24 (by decide) rfl kn_25)
          have kn_38 : g_28.2.1 h 7 = .ref v_26 := (Sm.v m_29 r_23 (by decide) rfl e_v_26)
          refine W.eq (g2 := F0 m 86 ls []) rfl ?_
          refine lv_iload hx hb dX1_ordersOf_86 (lv_at hl 2 rfl) ?_
          refine lv_iload_n hx hb dX1_ordersOf_88 rfl (lv_at hl 7 rfl) ?_
          refine lv_if_eq (tgt := 101) hx hb dX1_ordersOf_89 (by decide) (fun c_39 => ?_) (fun c_39 => ?_)
          · have c_39' : x1.toInt = 0 := i_eq c_39 rfl (by decide)
            refine lv_iconst (v := 1) hx hb dX1_ordersOf_101 (by decide) ?_
            refine lv_goto (tgt := 106) hx hb dX1_ordersOf_102 (by decide) ?_
            refine lv_iadd hx hb dX1_ordersOf_106 ?_
            refine lv_topi (fun z_40 ez_40 => ?_)
            refine lv_istore (lv' := [(5, .int z_40), (7, .int cd), (6, .int cs), (4, .int oe), (0, .ref h), (1, .ref o), (2, .int n), (3, .int x1)]) hx hb dX1_ordersOf_107 hl (by decide) rfl (fun ls hl => ?_)
            obtain ⟨z_41, ez_41⟩ : ∃ z : Int32, z = cd + 1 := ⟨_, rfl⟩
            have e_z_41 : z_41.toInt = cd.toInt + 1 := i_add ez_41 rfl (by decide) (by omega) (by omega)
            refine lv_iinc (v := z_41) (lv' := [(7, .int z_41), (5, .int z_40), (6, .int cs), (4, .int oe), (0, .ref h), (1, .ref o), (2, .int n), (3, .int x1)]) hx hb dX1_ordersOf_109 hl (k := 1) rfl (by rw [ez_41]; rfl) (by decide) rfl (fun ls hl => ?_)
            refine lv_goto (tgt := 36) hx hb dX1_ordersOf_112 (by decide) ?_
            exact ih (kf - 1) (by omega) g_28 z_41 cs z_40 oe H locs ls hT hI hE hM (by omega) (by omega) (by omega) (by omega) (by have e0_ : (0 : Int32).toInt = 0 := (by decide); omega) (lv_sub hl [0, 2, 1, 3, 4, 5, 6, 7] rfl)
          · have c_39' : x1.toInt ≠ 0 := i_ne c_39 rfl (by decide)
            refine lv_aload_n hx hb dX1_ordersOf_92 rfl (lv_at hl 4 rfl) ?_
            refine lv_iload hx hb dX1_ordersOf_93 (lv_at hl 3 rfl) ?_
            refine t_callV (n := 1) (As := [.int oe]) (rest := [.int sm]) (ci := 1) hB hT hl.1 (s_isAmongEnds l D cI cZ cS cR N0 g_28 hI h oe r_31 (by omega) (by omega)) (ro_ci r_31 rfl) rfl k_661 k_64 k_658 k_660 k_18 (by decide +kernel) ⟨(Nat.le_of_ble_eq_true rfl), (Nat.le_of_ble_eq_true rfl)⟩ rfl (Nat.le_of_ble_eq_true rfl) ⟨(Nat.le_of_ble_eq_true rfl), (Nat.le_of_ble_eq_true rfl)⟩ dX1_ordersOf_95 (fun v g_42 H locs hp hT => ?_)
            obtain ⟨r_43, rfl, eg, f_44⟩ := hp
            rw [eg] at hT
            clear eg
            refine W.eq (g2 := F0 m 98 ls [.int r_43, .int sm]) rfl ?_
            rcases f_44 with rfl | rfl
            · refine W.eq (g2 := F0 m 98 ls [.int 1, .int sm]) rfl ?_
              refine lv_if_eq (tgt := 105) hx hb dX1_ordersOf_98 (by decide) (fun c_ => absurd c_ (by decide)) (fun c_ => ?_)
              refine lv_iconst (v := 1) hx hb dX1_ordersOf_101 (by decide) ?_
              refine lv_goto (tgt := 106) hx hb dX1_ordersOf_102 (by decide) ?_
              refine lv_iadd hx hb dX1_ordersOf_106 ?_
              refine lv_topi (fun z_47 ez_47 => ?_)
              refine lv_istore (lv' := [(5, .int z_47), (7, .int cd), (6, .int cs), (4, .int oe), (0, .ref h), (1, .ref o), (2, .int n), (3, .int x1)]) hx hb dX1_ordersOf_107 hl (by decide) rfl (fun ls hl => ?_)
              obtain ⟨z_48, ez_48⟩ : ∃ z : Int32, z = cd + 1 := ⟨_, rfl⟩
              have e_z_48 : z_48.toInt = cd.toInt + 1 := i_add ez_48 rfl (by decide) (by omega) (by omega)
              refine lv_iinc (v := z_48) (lv' := [(7, .int z_48), (5, .int z_47), (6, .int cs), (4, .int oe), (0, .ref h), (1, .ref o), (2, .int n), (3, .int x1)]) hx hb dX1_ordersOf_109 hl (k := 1) rfl (by rw [ez_48]; rfl) (by decide) rfl (fun ls hl => ?_)
              refine lv_goto (tgt := 36) hx hb dX1_ordersOf_112 (by decide) ?_
              exact ih (kf - 1) (by omega) g_28 z_48 cs z_47 oe H locs ls hT hI hE hM (by omega) (by omega) (by omega) (by omega) (by have e0_ : (0 : Int32).toInt = 0 := (by decide); omega) (lv_sub hl [0, 2, 1, 3, 4, 5, 6, 7] rfl)
            · refine W.eq (g2 := F0 m 98 ls [.int 0, .int sm]) rfl ?_
              refine lv_if_eq (tgt := 105) hx hb dX1_ordersOf_98 (by decide) (fun c_ => ?_) (fun c_ => absurd (by decide) c_)
              refine lv_iconst (v := 0) hx hb dX1_ordersOf_105 (by decide) ?_
              refine lv_iadd hx hb dX1_ordersOf_106 ?_
              refine lv_topi (fun z_49 ez_49 => ?_)
              refine lv_istore (lv' := [(5, .int z_49), (7, .int cd), (6, .int cs), (4, .int oe), (0, .ref h), (1, .ref o), (2, .int n), (3, .int x1)]) hx hb dX1_ordersOf_107 hl (by decide) rfl (fun ls hl => ?_)
              obtain ⟨z_50, ez_50⟩ : ∃ z : Int32, z = cd + 1 := ⟨_, rfl⟩
              have e_z_50 : z_50.toInt = cd.toInt + 1 := i_add ez_50 rfl (by decide) (by omega) (by omega)
              refine lv_iinc (v := z_50) (lv' := [(7, .int z_50), (5, .int z_49), (6, .int cs), (4, .int oe), (0, .ref h), (1, .ref o), (2, .int n), (3, .int x1)]) hx hb dX1_ordersOf_109 hl (k := 1) rfl (by rw [ez_50]; rfl) (by decide) rfl (fun ls hl => ?_)
              refine lv_goto (tgt := 36) hx hb dX1_ordersOf_112 (by decide) ?_
              exact ih (kf - 1) (by omega) g_28 z_50 cs z_49 oe H locs ls hT hI hE hM (by omega) (by omega) (by omega) (by omega) (by have e0_ : (0 : Int32).toInt = 0 := (by decide); omega) (lv_sub hl [0, 2, 1, 3, 4, 5, 6, 7] rfl)
      · refine W.eq (g2 := F0 m 54 ls [.int 0]) rfl ?_
        refine lv_if_ne (tgt := 60) hx hb dX1_ordersOf_54 (by decide) (fun c_ => absurd (by decide) c_) (fun c_ => ?_)
        refine lv_goto (tgt := 109) hx hb dX1_ordersOf_57 (by decide) ?_
        obtain ⟨z_51, ez_51⟩ : ∃ z : Int32, z = cd + 1 := ⟨_, rfl⟩
        have e_z_51 : z_51.toInt = cd.toInt + 1 := i_add ez_51 rfl (by decide) (by omega) (by omega)
        refine lv_iinc (v := z_51) (lv' := [(7, .int z_51), (6, .int cs), (5, .int sm), (4, .int oe), (0, .ref h), (1, .ref o), (2, .int n), (3, .int x1)]) hx hb dX1_ordersOf_109 hl (k := 0) rfl (by rw [ez_51]; rfl) (by decide) rfl (fun ls hl => ?_)
        refine lv_goto (tgt := 36) hx hb dX1_ordersOf_112 (by decide) ?_
        exact ih (kf - 1) (by omega) g_5 z_51 cs sm oe H locs ls hT hI hE hM (by omega) (by omega) (by omega) (by omega) (by have e0_ : (0 : Int32).toInt = 0 := (by decide); omega) (lv_sub hl [0, 1, 2, 3, 4, 5, 6, 7] rfl)
set_option maxHeartbeats 4000000 in
set_option maxRecDepth 100000 in
theorem s_ordersOf (l : Launch) (D : va_G) (cI cZ cS cR : ClassId) (N0 : NT) (g : GS) (hI : Inv g) (h : Nat) (o : Nat) (n : Int32) (x1 : Int32) (r_h : g.1 h = 2) (r_o : g.1 o = 1) : Ty l D cI cZ cS cR N0 yX1_ordersOf cX1_ordersOf 8 (some .int) 16 0 0 [.ref h, .ref o, .int n, .int x1] g (fun v g' => ∃ (r : Int32), v = some (.int r) ∧ Inv g' ∧ Ex g g' ∧ Sm md_s_ordersOf g g') := by
  refine t_enter (by decide) (Nat.le_of_ble_eq_true rfl) ?_
  intro p e s m args below meth c ls H locs hB hr hin hl hT
  have hx := hB.1
  have hb := hB.2.1
  have hl : lv_has ls 8 [(0, .ref h), (1, .ref o), (2, .int n), (3, .int x1)] := hl
  have hE : Ex g g := Ex.rf
  have hM : Sm md_s_ordersOf g g := Sm.rf
  refine lv_iload_n hx hb dX1_ordersOf_0 rfl (lv_at hl 3 rfl) ?_
  refine lv_if_eq (tgt := 12) hx hb dX1_ordersOf_1 (by decide) (fun c_1 => ?_) (fun c_1 => ?_)
  · have c_1' : x1.toInt = 0 := i_eq c_1 rfl (by decide)
    refine lv_iconst (v := 0) hx hb dX1_ordersOf_12 (by decide) ?_
    refine lv_istore (lv' := [(4, .int 0), (0, .ref h), (1, .ref o), (2, .int n), (3, .int x1)]) hx hb dX1_ordersOf_13 hl (by decide) rfl (fun ls hl => ?_)
    refine lv_iconst (v := 0) hx hb dX1_ordersOf_15 (by decide) ?_
    refine lv_istore (lv' := [(5, .int 0), (4, .int 0), (0, .ref h), (1, .ref o), (2, .int n), (3, .int x1)]) hx hb dX1_ordersOf_16 hl (by decide) rfl (fun ls hl => ?_)
    refine lv_aload_n hx hb dX1_ordersOf_18 rfl (lv_at hl 3 rfl) ?_
    obtain ⟨v_2, e_v_2, l_v_2, u_v_2⟩ := f_1_3 hI r_o
    refine t_get (ci := 0) (v := .int v_2) hB hT (ro_ci r_o rfl) rfl 3 (by decide) k_254 e_v_2 dX1_ordersOf_19 ?_
    refine lv_aload_n hx hb dX1_ordersOf_22 rfl (lv_at hl 3 rfl) ?_
    refine t_get (ci := 0) (v := .int v_2) hB hT (ro_ci r_o rfl) rfl 3 (by decide) k_254 e_v_2 dX1_ordersOf_23 ?_
    refine lv_iconst (v := 1) hx hb dX1_ordersOf_26 (by decide) ?_
    refine lv_iadd hx hb dX1_ordersOf_27 ?_
    refine lv_topi (fun z_3 ez_3 => ?_)
    have e_z_3 : z_3.toInt = v_2.toInt + 1 := i_add ez_3 rfl (by decide) (by omega) (by omega)
    refine t_callS (n := 2) (As := [.int v_2, .int z_3]) (rest := []) hB hT hl.1 (s_power l D cI cZ cS cR N0 g hI v_2 z_3 ) k_645 k_64 k_643 k_644 (by decide +kernel) ⟨(Nat.le_of_ble_eq_true rfl), (Nat.le_of_ble_eq_true rfl)⟩ rfl (Nat.le_of_ble_eq_true rfl) ⟨(Nat.le_of_ble_eq_true rfl), (Nat.le_of_ble_eq_true rfl)⟩ dX1_ordersOf_28 (fun v g_4 H locs hp hT => ?_)
    obtain ⟨r_5, rfl, eg⟩ := hp
    rw [eg] at hT
    clear eg
    refine W.eq (g2 := F0 m 31 ls [.int r_5]) rfl ?_
    refine lv_istore (lv' := [(6, .int r_5), (5, .int 0), (4, .int 0), (0, .ref h), (1, .ref o), (2, .int n), (3, .int x1)]) hx hb dX1_ordersOf_31 hl (by decide) rfl (fun ls hl => ?_)
    refine lv_iconst (v := 0) hx hb dX1_ordersOf_33 (by decide) ?_
    refine lv_istore (lv' := [(7, .int 0), (6, .int r_5), (5, .int 0), (4, .int 0), (0, .ref h), (1, .ref o), (2, .int n), (3, .int x1)]) hx hb dX1_ordersOf_34 hl (by decide) rfl (fun ls hl => ?_)
    exact lt_s_ordersOf_a l D cI cZ cS cR N0 g h o n x1 r_h r_o hB hr   2147483648 g (0 : Int32) r_5 (0 : Int32) (0 : Int32) H locs ls hT hI hE hM (by decide) (by decide) (by decide) (by decide) (by have e0_ : (0 : Int32).toInt = 0 := (by decide); omega) (lv_sub hl [0, 1, 2, 3, 4, 5, 6, 7] rfl)
  · have c_1' : x1.toInt ≠ 0 := i_ne c_1 rfl (by decide)
    refine lv_aload_n hx hb dX1_ordersOf_4 rfl (lv_at hl 0 rfl) ?_
    refine lv_aload_n hx hb dX1_ordersOf_5 rfl (lv_at hl 1 rfl) ?_
    refine t_callV (n := 1) (As := [.ref o]) (rest := []) (ci := 1) hB hT hl.1 (s_writeOnceEnds l D cI cZ cS cR N0 g hI h o r_h r_o) (ro_ci r_h rfl) rfl k_642 k_64 k_639 k_641 k_14 (by decide +kernel) ⟨(Nat.le_of_ble_eq_true rfl), (Nat.le_of_ble_eq_true rfl)⟩ rfl (Nat.le_of_ble_eq_true rfl) ⟨(Nat.le_of_ble_eq_true rfl), (Nat.le_of_ble_eq_true rfl)⟩ dX1_ordersOf_6 (fun v g_8 H locs hp hT => ?_)
    obtain ⟨r_9, rfl, hI, x_12, m_11, f_10⟩ := hp
    have hM : Sm md_s_ordersOf g g_8 := hM.tr hE (m_11.mo (fun r k h => mdle_s_ordersOf_s_writeOnceEnds h))
    have hE : Ex g g_8 := hE.tr x_12
    have r_13 : g_8.1 h = 2 := (Ex.r x_12 r_h (by decide))
    have r_14 : g_8.1 o = 1 := (Ex.r x_12 r_o (by decide))
    refine W.eq (g2 := F0 m 9 ls [.int r_9]) rfl ?_
    refine lv_goto (tgt := 13) hx hb dX1_ordersOf_9 (by decide) ?_
    refine lv_istore (lv' := [(4, .int r_9), (0, .ref h), (1, .ref o), (2, .int n), (3, .int x1)]) hx hb dX1_ordersOf_13 hl (by decide) rfl (fun ls hl => ?_)
    refine lv_iconst (v := 0) hx hb dX1_ordersOf_15 (by decide) ?_
    refine lv_istore (lv' := [(5, .int 0), (4, .int r_9), (0, .ref h), (1, .ref o), (2, .int n), (3, .int x1)]) hx hb dX1_ordersOf_16 hl (by decide) rfl (fun ls hl => ?_)
    refine lv_aload_n hx hb dX1_ordersOf_18 rfl (lv_at hl 3 rfl) ?_
    obtain ⟨v_15, e_v_15, l_v_15, u_v_15⟩ := f_1_3 hI r_14
    refine t_get (ci := 0) (v := .int v_15) hB hT (ro_ci r_14 rfl) rfl 3 (by decide) k_254 e_v_15 dX1_ordersOf_19 ?_
    refine lv_aload_n hx hb dX1_ordersOf_22 rfl (lv_at hl 3 rfl) ?_
    refine t_get (ci := 0) (v := .int v_15) hB hT (ro_ci r_14 rfl) rfl 3 (by decide) k_254 e_v_15 dX1_ordersOf_23 ?_
    refine lv_iconst (v := 1) hx hb dX1_ordersOf_26 (by decide) ?_
    refine lv_iadd hx hb dX1_ordersOf_27 ?_
    refine lv_topi (fun z_16 ez_16 => ?_)
    have e_z_16 : z_16.toInt = v_15.toInt + 1 := i_add ez_16 rfl (by decide) (by omega) (by omega)
    refine t_callS (n := 2) (As := [.int v_15, .int z_16]) (rest := []) hB hT hl.1 (s_power l D cI cZ cS cR N0 g_8 hI v_15 z_16 ) k_645 k_64 k_643 k_644 (by decide +kernel) ⟨(Nat.le_of_ble_eq_true rfl), (Nat.le_of_ble_eq_true rfl)⟩ rfl (Nat.le_of_ble_eq_true rfl) ⟨(Nat.le_of_ble_eq_true rfl), (Nat.le_of_ble_eq_true rfl)⟩ dX1_ordersOf_28 (fun v g_17 H locs hp hT => ?_)
    obtain ⟨r_18, rfl, eg⟩ := hp
    rw [eg] at hT
    clear eg
    refine W.eq (g2 := F0 m 31 ls [.int r_18]) rfl ?_
    refine lv_istore (lv' := [(6, .int r_18), (5, .int 0), (4, .int r_9), (0, .ref h), (1, .ref o), (2, .int n), (3, .int x1)]) hx hb dX1_ordersOf_31 hl (by decide) rfl (fun ls hl => ?_)
    refine lv_iconst (v := 0) hx hb dX1_ordersOf_33 (by decide) ?_
    refine lv_istore (lv' := [(7, .int 0), (6, .int r_18), (5, .int 0), (4, .int r_9), (0, .ref h), (1, .ref o), (2, .int n), (3, .int x1)]) hx hb dX1_ordersOf_34 hl (by decide) rfl (fun ls hl => ?_)
    exact lt_s_ordersOf_a l D cI cZ cS cR N0 g h o n x1 r_h r_o hB hr   2147483648 g_8 (0 : Int32) r_18 (0 : Int32) r_9 H locs ls hT hI hE hM (by decide) (by decide) (by omega) (by omega) (by have e0_ : (0 : Int32).toInt = 0 := (by decide); omega) (lv_sub hl [0, 1, 2, 3, 4, 5, 6, 7] rfl)
